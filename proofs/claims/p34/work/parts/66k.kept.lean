/-- the other lines are kept -/
def owKp (c0 : Nat) (s t : oS) : Prop := ∀ c : Nat, okd c = 4 → c ≠ c0 → (∀ k, t.1 c k = s.1 c k) ∧ ∀ j : Nat, 1 ≤ j → j ≤ 4 → t.1 (c + j) = s.1 (c + j)
theorem okd_c4 {c : Nat} (h : okd c = 4) : c = 3 ∨ c = 8 ∨ c = 13 := by
  have hlt : c < 118 := okd_lt h (by omega)
  have key : ∀ c : Nat, c < 118 → okd c = 4 → c = 3 ∨ c = 8 ∨ c = 13 := by decide +kernel
  exact key c hlt h
theorem owKp_rfl {c0 : Nat} {s : oS} : owKp c0 s s := fun _ _ _ => ⟨fun _ => rfl, fun _ _ _ => rfl⟩
theorem owKp_tr {c0 : Nat} {s t u : oS} (h : owKp c0 s t) (h' : owKp c0 t u) : owKp c0 s u := fun c hc hn =>
  ⟨fun k => ((h' c hc hn).1 k).trans ((h c hc hn).1 k), fun j h1 h2 => ((h' c hc hn).2 j h1 h2).trans ((h c hc hn).2 j h1 h2)⟩
theorem owKp_pI {c0 x i : Nat} {v : Int32} {s t : oS} (h : owKp c0 s t) (hk : okd c0 = 4) (hx : c0 ≤ x ∧ x ≤ c0 + 4) : owKp c0 s (pI t x i v) := by
  intro c hc hn
  have h1 := okd_c4 hk
  have h2 := okd_c4 hc
  obtain ⟨h3, h4⟩ := h c hc hn
  refine ⟨fun k => ?_, fun j a b => ?_⟩
  · rw [pI_ne _ _ (Or.inl (by omega))]; exact h3 k
  · rw [oqRow_ne (by omega)]; exact h4 j a b
theorem owMA_kp {c c0 : Nat} {n : Int} {s t : oS} (h : owMA c n s) (hk : owKp c0 s t) (hn : c ≠ c0) : owMA c n t := by
  obtain ⟨h1, h2, h3, h4, h5⟩ := h
  obtain ⟨k1, k2⟩ := hk c h1 hn
  refine ⟨h1, by rw [k1]; exact h2, by rw [k1]; exact h3, by rw [k1]; exact h4, fun j hj => ?_⟩
  rw [k2 4 (by decide) (by decide)]
  exact h5 j hj
theorem owMS_kp {c c0 : Nat} {n : Int} {st : Nat → Int} {s t : oS} (h : owMS c n st s) (hk : owKp c0 s t) (hn : c ≠ c0) : owMS c n st t := by
  obtain ⟨h1, h2, h3, h4⟩ := h
  obtain ⟨k1, k2⟩ := hk c h1 hn
  refine ⟨h1, by rw [k1]; exact h2, fun j hj => ?_, h4⟩
  rw [k2 1 (by decide) (by decide)]
  exact h3 j hj
/-- where the chosen line lies -/
def owCZ (t : oS) : Prop := t.2.2 0 3 = 14 ∧ t.2.2 0 1 ≠ 14 ∧ t.2.2 0 2 ≠ 14
theorem owCZ_fr {M : List (Nat × Nat)} {s u : oS} (hf : oFr M s u) (hm : (oin M 11 1 || (oin M 11 2 || oin M 11 3)) = false) (h : owCZ s) : owCZ u := by
  simp only [Bool.or_eq_false_iff] at hm
  unfold owCZ
  rw [(hf 0 3 hm.2.2).2.2, (hf 0 1 hm.1).2.2, (hf 0 2 hm.2.1).2.2]
  exact h
theorem owCZ_sw {s : oS} {b1 b2 : Nat} (h : owCZ s) (e1 : s.2.2 0 1 = b1) (e2 : s.2.2 0 2 = b2) : owCZ (pR (pR s 0 1 b2) 0 2 b1) := by
  subst e1 e2
  exact ⟨h.1, h.2.2, h.2.1⟩
/-- how many ways a made line has -/
def owCn (R : Int) (W : Nat → List Int) (me D S K n : Int) (st : Nat → Int) (v : Int) : Prop := owCt (owWe R W me D S K n st 0) 4500 v
/-- the most of the lines from st on, w ahead of them -/
def owRy (n r : Int) (C : (Nat → Int) → Int → Prop) : Nat → (Nat → Int) → Int → Int → Prop
  | 0, _, _, _ => False
  | f + 1, st, w, v => ∃ k, C st k ∧ ((owLs n r st ∧ ((w < k ∧ v = k) ∨ (k ≤ w ∧ v = w))) ∨ ∃ st' w', owNx n r st st' ∧ ((w < k ∧ w' = k) ∨ (k ≤ w ∧ w' = w)) ∧ owRy n r C f st' w' v)
def owRx (n r : Int) (C : (Nat → Int) → Int → Prop) (st : Nat → Int) (w v : Int) : Prop := ∃ f, owRy n r C f st w v
theorem owRx_last {n r : Int} {C : (Nat → Int) → Int → Prop} {st : Nat → Int} {w k v : Int} (c : C st k) (l : owLs n r st) (e : (w < k ∧ v = k) ∨ (k ≤ w ∧ v = w)) : owRx n r C st w v :=
  ⟨0 + 1, k, c, Or.inl ⟨l, e⟩⟩
theorem owRx_next {n r : Int} {C : (Nat → Int) → Int → Prop} {st st' : Nat → Int} {w k w' v : Int} (c : C st k) (x : owNx n r st st') (e : (w < k ∧ w' = k) ∨ (k ≤ w ∧ w' = w)) (g : owRx n r C st' w' v) : owRx n r C st w v := by
  obtain ⟨f, hf⟩ := g
  exact ⟨f + 1, k, c, Or.inr ⟨st', w', x, e, hf⟩⟩
theorem owRy_det {n r : Int} {C : (Nat → Int) → Int → Prop} (hC : ∀ st k k', C st k → C st k' → k = k') (f : Nat) : ∀ (f' : Nat) (st : Nat → Int) (w v v' : Int), owRy n r C f st w v → owRy n r C f' st w v' → v = v' := by
  induction f with
  | zero => intro f' st w v v' h h'; exact h.elim
  | succ f ih =>
    intro f' st w v v' h h'
    cases f' with
    | zero => exact h'.elim
    | succ f' =>
      obtain ⟨k, c, h⟩ := h
      obtain ⟨k', c', h'⟩ := h'
      have hk := hC _ _ _ c c'
      subst hk
      rcases h with ⟨l, e⟩ | ⟨st1, w1, x, e, g⟩
      · rcases h' with ⟨l', e'⟩ | ⟨st1', w1', x', e', g'⟩
        · omega
        · exact (owNx_ls x' l).elim
      · rcases h' with ⟨l', e'⟩ | ⟨st1', w1', x', e', g'⟩
        · exact (owNx_ls x l').elim
        · have hs := owNx_det x x'
          subst hs
          have hw : w1 = w1' := by omega
          subst hw
          exact ih f' st1 w1 v v' g g'
theorem owRx_det {n r : Int} {C : (Nat → Int) → Int → Prop} (hC : ∀ st k k', C st k → C st k' → k = k') {st : Nat → Int} {w v v' : Int} (h : owRx n r C st w v) (h' : owRx n r C st w v') : v = v' := by
  obtain ⟨f, hf⟩ := h
  obtain ⟨f', hf'⟩ := h'
  exact owRy_det hC f f' st w v v' hf hf'
def owMx (n r : Int) (C : (Nat → Int) → Int → Prop) (v : Int) : Prop := if 2 ≤ n ∧ r < 1 then v = -1 else owRx n r C (owF0 n) (-1) v
theorem owMx_det {n r v v' : Int} {C : (Nat → Int) → Int → Prop} (hC : ∀ st k k', C st k → C st k' → k = k') (h : owMx n r C v) (h' : owMx n r C v') : v = v' := by
  unfold owMx at h h'
  by_cases q : 2 ≤ n ∧ r < 1
  · rw [if_pos q] at h h'; omega
  · rw [if_neg q] at h h'; exact owRx_det hC h h'
theorem owMx_0 {n r v : Int} {C : (Nat → Int) → Int → Prop} (h : 2 ≤ n ∧ r < 1) (hv : v = -1) : owMx n r C v := by
  unfold owMx
  rw [if_pos h]
  exact hv
/-- what richest answers -/
def owRr (C : (Nat → Int) → Int → Prop) (n r x v : Int) : Prop := if (1 ≤ n ∧ n ≤ 4) ∧ (0 ≤ r ∧ r ≤ 2) ∧ (0 ≤ x ∧ x ≤ 1) then ∃ k, owMx n r C k ∧ (((k = -1 ∨ x = 0) ∧ v = k) ∨ ((k ≠ -1 ∧ x ≠ 0) ∧ v = n)) else v = -1
theorem owRr_n {C : (Nat → Int) → Int → Prop} {n r x v : Int} (h : ¬ ((1 ≤ n ∧ n ≤ 4) ∧ (0 ≤ r ∧ r ≤ 2) ∧ (0 ≤ x ∧ x ≤ 1))) (hv : v = -1) : owRr C n r x v := by
  unfold owRr
  rw [if_neg h]
  exact hv
theorem owRr_y {C : (Nat → Int) → Int → Prop} {n r x v k : Int} (h : (1 ≤ n ∧ n ≤ 4) ∧ (0 ≤ r ∧ r ≤ 2) ∧ (0 ≤ x ∧ x ≤ 1)) (hk : owMx n r C k) (hv : ((k = -1 ∨ x = 0) ∧ v = k) ∨ ((k ≠ -1 ∧ x ≠ 0) ∧ v = n)) : owRr C n r x v := by
  unfold owRr
  rw [if_pos h]
  exact ⟨k, hk, hv⟩
theorem owCn_det {R : Int} {W : Nat → List Int} {me D S K n : Int} (st : Nat → Int) (k k' : Int) (h : owCn R W me D S K n st k) (h' : owCn R W me D S K n st k') : k = k' := owCt_det h h'
theorem owRr_det {R : Int} {W : Nat → List Int} {me D S K n r x v v' : Int} (h : owRr (owCn R W me D S K n) n r x v) (h' : owRr (owCn R W me D S K n) n r x v') : v = v' := by
  unfold owRr at h h'
  by_cases q : (1 ≤ n ∧ n ≤ 4) ∧ (0 ≤ r ∧ r ≤ 2) ∧ (0 ≤ x ∧ x ≤ 1)
  · rw [if_pos q] at h h'
    obtain ⟨k, h1, h2⟩ := h
    obtain ⟨k', h3, h4⟩ := h'
    have := owMx_det owCn_det h1 h3
    omega
  · rw [if_neg q] at h h'
    omega
/-- on the way, the class -/
def owLq (sp : Nat) (n r : Int) (C : (Nat → Int) → Int → Prop) (w x : Int) (t : oS) : Prop := ∃ st, owMS sp n st t ∧ owDg n st ∧ x ≤ owVa st ∧ ∀ v, owRx n r C st w v → owMx n r C v
theorem owLq_0 {c sp : Nat} {n r w x : Int} {C : (Nat → Int) → Int → Prop} {t : oS} (h : owMS c n (owF0 n) t) (hc : c = sp) (hn : ¬ (2 ≤ n ∧ r < 1)) (hw : w = -1) (hx : x = 0) : owLq sp n r C w x t := by
  subst hc hw
  refine ⟨_, h, owF0_dg, ?_, fun v hv => ?_⟩
  · have := (owVa_b (n := n) (owF0_dg (n := n))).1
    omega
  · unfold owMx
    rw [if_neg hn]
    exact hv
theorem owLq_nx {c sp : Nat} {n r w w' k x y : Int} {C : (Nat → Int) → Int → Prop} {st : Nat → Int} {t : oS} (hq : owNq c n r st t) (hc : c = sp) (hC : C st k) (hw : (w < k ∧ w' = k) ∨ (k ≤ w ∧ w' = w)) (hd : owDg n st) (hx : x ≤ owVa st) (hr : ∀ v, owRx n r C st w v → owMx n r C v) (hy : y = x + 1) (hn : n ≤ 6) (hr4 : r ≤ 4) : owLq sp n r C w' y t := by
  subst hc
  obtain ⟨st', h1, h2⟩ := hq
  obtain ⟨h3, h4⟩ := owNx_dg hn hr4 hd h2
  exact ⟨st', h1, h3, by omega, fun v hv => hr v (owRx_next hC h2 hw hv)⟩
theorem owMx_l {n r w w' k : Int} {C : (Nat → Int) → Int → Prop} {st : Nat → Int} (hC : C st k) (hl : owLs n r st) (hw : (w < k ∧ w' = k) ∨ (k ≤ w ∧ w' = w)) (hr : ∀ v, owRx n r C st w v → owMx n r C v) : owMx n r C w' := hr _ (owRx_last hC hl hw)
/-- on the way, the reference -/
def owLt (n r : Int) (C : (Nat → Int) → Int → Prop) (w : Int) (t : oS) : Prop := ∃ st, owRL n st t ∧ owDg n st ∧ ∀ v, owRx n r C st w v → owMx n r C v
def owLu (n r : Int) (C : (Nat → Int) → Int → Prop) (w : Int) (t : oS) : Prop := ∃ st, owRL n st t ∧ owDg n st ∧ (∀ st' v, owNx n r st st' → owRx n r C st' w v → owMx n r C v) ∧ (owLs n r st → owMx n r C w)
theorem owLu_fr {M : List (Nat × Nat)} {s u : oS} {n r w : Int} {C : (Nat → Int) → Int → Prop} (hf : oFr M s u) (hm : ((oin M 12 42 || oin M 12 43) || (oinK M 75 || oinK M 77)) = false) (h : owLu n r C w s) : owLu n r C w u := by
  obtain ⟨st, h1, h2⟩ := h
  exact ⟨st, owRL_fr hf hm h1, h2⟩
theorem owLt_0 {n r w : Int} {C : (Nat → Int) → Int → Prop} {t : oS} (h : owRL n (owF0 n) t) (hn : ¬ (2 ≤ n ∧ r < 1)) (hw : w = -1) : owLt n r C w t := by
  subst hw
  refine ⟨_, h, owF0_dg, fun v hv => ?_⟩
  unfold owMx
  rw [if_neg hn]
  exact hv
theorem owLu_of {n r w w' k : Int} {C : (Nat → Int) → Int → Prop} {st : Nat → Int} {t : oS} (h : owRL n st t) (hd : owDg n st) (hC : C st k) (hw : (w < k ∧ w' = k) ∨ (k ≤ w ∧ w' = w)) (hr : ∀ v, owRx n r C st w v → owMx n r C v) : owLu n r C w' t :=
  ⟨st, h, hd, fun _ v hx hv => hr v (owRx_next hC hx hw hv), fun hl => hr _ (owRx_last hC hl hw)⟩
theorem owLt_nx {n r w : Int} {C : (Nat → Int) → Int → Prop} {st : Nat → Int} {t : oS} (hq : owRz n r st t) (hd : owDg n st) (hu : ∀ st' v, owNx n r st st' → owRx n r C st' w v → owMx n r C v) (hn : n ≤ 6) (hr4 : r ≤ 4) : owLt n r C w t := by
  obtain ⟨st', h1, h2⟩ := hq
  exact ⟨st', h1, (owNx_dg hn hr4 hd h2).1, fun v hv => hu st' v h2 hv⟩
theorem owWe_i {R : Int} {W : Nat → List Int} {me D S K n c : Int} {st : Nat → Int} {i : Nat} (h : (i : Int) = c) : owWe R W me D S K n st 0 i ↔ (oBd D S K c = 1 ∧ owAg R W me c n st) := by
  unfold owWe
  rw [show 180 * (0 : Int) + (i : Int) = c by omega]
def owBb (old new d h k : Int) : Int := if 0 ≤ d ∧ d ≤ 24 ∧ 0 ≤ h ∧ h ≤ 7 ∧ 0 ≤ k ∧ k ≤ 15 then new else old
