/-- a row with one place changed -/
def oU (f : Nat → Int32) (k : Nat) (v : Int32) : Nat → Int32 := fun j => if j = k then v else f j
theorem oU_self {f : Nat → Int32} {k : Nat} {v : Int32} : oU f k v k = v := if_pos rfl
theorem oU_ne {f : Nat → Int32} {k j : Nat} {v : Int32} (h : j ≠ k) : oU f k v j = f j := if_neg h
/-- the depth of the pile behind one code -/
def oOne (v : Int) (d : Nat) : Option Nat :=
  if 1000 ≤ v ∨ (40 ≤ v ∧ v ≤ 47) ∨ v = 17 then some (d + 1) else if v = 16 then (if 1 ≤ d then some d else none) else if 40 ≤ v then none else if 2 ≤ d then some (d - 1) else none
theorem oOne_op {v : Int} {d : Nat} (h : 1000 ≤ v ∨ (40 ≤ v ∧ v ≤ 47) ∨ v = 17) : oOne v d = some (d + 1) := if_pos h
theorem oOne_jn {v : Int} {d : Nat} (h : v < 40 ∧ v ≠ 16 ∧ v ≠ 17) (hd : 2 ≤ d) : oOne v d = some (d - 1) := by
  unfold oOne
  rw [if_neg (by omega), if_neg (by omega), if_neg (by omega), if_pos hd]
theorem oOne_nt {v : Int} {d : Nat} (hv : v = 16) (hd : 1 ≤ d) : oOne v d = some d := by
  unfold oOne
  rw [if_neg (by omega), if_pos hv, if_pos hd]
def oRun (f : Nat → Int32) (a : Nat) : Nat → Option Nat
  | 0 => some 0
  | n + 1 => (oRun f a n).bind (oOne (f (a + n)).toInt)
theorem oRun_congr {f g : Nat → Int32} {a : Nat} : ∀ {n : Nat}, (∀ j, j < a + n → f j = g j) → oRun f a n = oRun g a n
  | 0, _ => rfl
  | n + 1, h => by
    show (oRun f a n).bind _ = (oRun g a n).bind _
    rw [oRun_congr (n := n) (fun j hj => h j (by omega)), h (a + n) (by omega)]
theorem oRun_lay {f : Nat → Int32} {F c d : Nat} {v : Int32} (hF : F ≤ c) (h : oRun f F (c - F) = some d) : oRun (oU f c v) F (c + 1 - F) = oOne v.toInt d := by
  have e : c + 1 - F = (c - F) + 1 := by omega
  rw [e]
  show (oRun (oU f c v) F (c - F)).bind _ = _
  rw [oRun_congr (g := f) (fun j hj => oU_ne (by omega)), h, show F + (c - F) = c by omega, oU_self]
  rfl
theorem oRun_pre {f : Nat → Int32} {a m : Nat} : ∀ {n d : Nat}, oRun f a n = some d → m ≤ n → ∃ d', oRun f a m = some d'
  | 0, d, h, hm => ⟨d, by rw [show m = 0 by omega]; exact h⟩
  | n + 1, d, h, hm => by
    by_cases e : m = n + 1
    · exact ⟨d, by rw [e]; exact h⟩
    · have h' : (oRun f a n).bind (oOne (f (a + n)).toInt) = some d := h
      cases hn : oRun f a n with
      | none => rw [hn] at h'; exact absurd h' (by simp)
      | some d1 => exact oRun_pre hn (by omega)
theorem oOne_le {v : Int} {d d' : Nat} (h : oOne v d = some d') : d' ≤ d + 1 := by
  unfold oOne at h
  split at h
  · injection h with h; omega
  · split at h
    · split at h
      · injection h with h; omega
      · cases h
    · split at h
      · cases h
      · split at h
        · injection h with h; omega
        · cases h
theorem oRun_le {f : Nat → Int32} {a : Nat} : ∀ {n d : Nat}, oRun f a n = some d → d ≤ n
  | 0, d, h => by
    have h' : some 0 = some d := h
    injection h' with h'
    omega
  | n + 1, d, h => by
    have h' : (oRun f a n).bind (oOne (f (a + n)).toInt) = some d := h
    cases hn : oRun f a n with
    | none => rw [hn] at h'; exact absurd h' (by simp)
    | some d1 =>
      rw [hn] at h'
      have := oRun_le hn
      have := oOne_le (show oOne (f (a + n)).toInt d1 = some d from h')
      omega
def oOk (f : Nat → Int32) (a b : Nat) : Prop := a ≤ b ∧ ∃ d, oRun f a (b - a) = some d
theorem oOk_congr {f g : Nat → Int32} {a b : Nat} (h : ∀ j, j < b → f j = g j) (hk : oOk f a b) : oOk g a b :=
  ⟨hk.1, hk.2.imp fun d hd => by
    have := hk.1
    rw [← hd]
    exact (oRun_congr (fun j hj => h j (by omega))).symm⟩
/-- every test of the book runs; every told one does -/
def oBId (cd mn fr tq : Nat → Int32) : Prop := ∀ m, m < 2 → ∀ j, j < (mn m).toNatClampNeg → oOk cd (fr (12 * m + j)).toNatClampNeg (tq (12 * m + j)).toNatClampNeg ∧ (tq (12 * m + j)).toNatClampNeg ≤ 1600
def oBDd (cd mn fr tq : Nat → Int32) (c : Nat) : Prop := ∀ m, m < 2 → ∀ j, j < (mn (2 + m)).toNatClampNeg → oOk (fun i => cd (1600 + i)) (fr (24 + 12 * m + j)).toNatClampNeg (tq (24 + 12 * m + j)).toNatClampNeg ∧ (tq (24 + 12 * m + j)).toNatClampNeg ≤ c
theorem oBId_lay {cd mn fr tq : Nat → Int32} {c : Nat} {v : Int32} (h : oBId cd mn fr tq) : oBId (oU cd (1600 + c) v) mn fr tq := fun m hm j hj => by
  obtain ⟨h1, h2⟩ := h m hm j hj
  exact ⟨oOk_congr (fun i hi => (oU_ne (by omega)).symm) h1, h2⟩
theorem oBDd_lay {cd mn fr tq : Nat → Int32} {c : Nat} {v : Int32} (h : oBDd cd mn fr tq c) : oBDd (oU cd (1600 + c) v) mn fr tq (c + 1) := fun m hm j hj => by
  obtain ⟨h1, h2⟩ := h m hm j hj
  exact ⟨oOk_congr (fun i hi => show cd (1600 + i) = oU cd (1600 + c) v (1600 + i) from (oU_ne (by omega)).symm) h1, by omega⟩
def oBi (v : Int) : Nat := if (1 ≤ v ∧ v ≤ 4) ∨ v = 14 ∨ v = 15 ∨ v = 23 ∨ v = 24 then 1 else 0
def oOi (v : Int) : Nat := if v = 16 ∨ (20 ≤ v ∧ v ≤ 25) then 1 else 0
theorem oBi_1 {v : Int} (h : (1 ≤ v ∧ v ≤ 4) ∨ v = 14 ∨ v = 15 ∨ v = 23 ∨ v = 24) : oBi v = 1 := if_pos h
theorem oBi_0 {v : Int} (h : ¬ ((1 ≤ v ∧ v ≤ 4) ∨ v = 14 ∨ v = 15 ∨ v = 23 ∨ v = 24)) : oBi v = 0 := if_neg h
theorem oOi_1 {v : Int} (h : v = 16 ∨ (20 ≤ v ∧ v ≤ 25)) : oOi v = 1 := if_pos h
theorem oOi_0 {v : Int} (h : ¬ (v = 16 ∨ (20 ≤ v ∧ v ≤ 25))) : oOi v = 0 := if_neg h
def oCn (g : Int → Nat) (w : Nat → Int32) : Nat → Nat
  | 0 => 0
  | n + 1 => oCn g w n + g (w n).toInt
theorem oCn_succ {g : Int → Nat} {w : Nat → Int32} {n : Nat} : oCn g w (n + 1) = oCn g w n + g (w n).toInt := rfl
theorem oCn_congr {g : Int → Nat} {w w' : Nat → Int32} : ∀ {n : Nat}, (∀ j, j < n → w j = w' j) → oCn g w n = oCn g w' n
  | 0, _ => rfl
  | n + 1, h => by
    rw [oCn_succ, oCn_succ, oCn_congr (n := n) (fun j hj => h j (by omega)), h n (by omega)]
theorem oCn_put {g : Int → Nat} {w : Nat → Int32} {n : Nat} {v : Int32} : oCn g (oU w n v) (n + 1) = oCn g w n + g v.toInt := by
  rw [oCn_succ, oCn_congr (w' := w) (fun j hj => oU_ne (by omega)), oU_self]
def oItm (v : Int) (j b : Nat) : Prop := (j < b → v = 14 ∨ v = 15 ∨ v = 16 ∨ v = 25) ∧ (b ≤ j → (1 ≤ v ∧ v ≤ 4) ∨ (20 ≤ v ∧ v ≤ 24))
/-- the codes laid from F on run; their depth is that of the waiting signs and x -/
def oGd (cd w : Nat → Int32) (c F W b x : Nat) (o : Int) : Prop :=
  F ≤ c ∧ oRun (fun i => cd (1600 + i)) F (c - F) = some (oCn oBi w W + x) ∧ (∀ j, j < W → oItm (w j).toInt j b) ∧ (b = 9999 ∨ b ≤ W) ∧ ((oCn oOi w W : Nat) : Int) ≤ o ∧ o ≤ 6 ∧ W < 9999
theorem oGd_lay {cd w : Nat → Int32} {c F W b x x' : Nat} {o : Int} {v : Int32} (h : oGd cd w c F W b x o) (hv : ∀ n, oOne v.toInt (n + x) = some (n + x')) : oGd (oU cd (1600 + c) v) w (c + 1) F W b x' o := by
  obtain ⟨h1, h2, h3⟩ := h
  refine ⟨by omega, ?_, h3⟩
  have e : (fun i => oU cd (1600 + c) v (1600 + i)) = oU (fun i => cd (1600 + i)) c v := by
    funext i
    by_cases hi : i = c
    · rw [hi, oU_self, oU_self]
    · rw [oU_ne hi, oU_ne (by omega)]
  rw [e, oRun_lay h1 h2]
  exact hv _
theorem oGd_drop {cd w : Nat → Int32} {c F W b x : Nat} {o o' : Int} (h : oGd cd w c F (W + 1) b x o) (hx : 1 ≤ x) (ht : (1 ≤ (w W).toInt ∧ (w W).toInt ≤ 4) ∨ (b = 9999 ∧ (w W).toInt ≠ 25)) (ho : o' = o ∨ (o' = o - 1 ∧ (w W).toInt = 16)) : oGd (oU cd (1600 + c) (w W)) w (c + 1) F W b x o' := by
  obtain ⟨h1, h2, h3, h4, h5, h6, h7⟩ := h
  have hi := h3 W (by omega)
  have hq : (oCn oOi w W : Int) ≤ o' := by
    rw [oCn_succ] at h5
    rcases ho with ho | ⟨ho, h16⟩
    · omega
    · rw [oOi_1 (Or.inl h16)] at h5
      omega
  have h8 : (1 ≤ (w W).toInt ∧ (w W).toInt ≤ 4 ∧ b ≤ W) ∨ (b = 9999 ∧ ((w W).toInt = 14 ∨ (w W).toInt = 15)) ∨ (b = 9999 ∧ (w W).toInt = 16) := by
    unfold oItm at hi
    rcases Nat.lt_or_ge W b with hb | hb
    · have := hi.1 hb
      omega
    · have := hi.2 hb
      omega
  have hb : b = 9999 ∨ b ≤ W := by omega
  rw [oCn_succ] at h2
  rcases h8 with h8 | h8 | h8
  · rw [oBi_1 (by omega)] at h2
    have h0 : oGd cd w c F W b (x + 1) o' := ⟨h1, by rw [h2]; congr 1; omega, fun j hj => h3 j (by omega), hb, hq, by omega, by omega⟩
    exact oGd_lay h0 (fun n => by rw [oOne_jn (by omega) (by omega)]; congr 1)
  · rw [oBi_1 (by omega)] at h2
    have h0 : oGd cd w c F W b (x + 1) o' := ⟨h1, by rw [h2]; congr 1; omega, fun j hj => h3 j (by omega), hb, hq, by omega, by omega⟩
    exact oGd_lay h0 (fun n => by rw [oOne_jn (by omega) (by omega)]; congr 1)
  · rw [oBi_0 (by omega)] at h2
    have h0 : oGd cd w c F W b x o' := ⟨h1, by rw [h2]; congr 1, fun j hj => h3 j (by omega), hb, hq, by omega, by omega⟩
    exact oGd_lay h0 (fun n => by rw [oOne_nt (by omega) (by omega)])
theorem oGd_open {cd w : Nat → Int32} {c F W b x : Nat} {o : Int} {v : Int32} (h : oGd cd w c F W b x o) (hv : (20 ≤ v.toInt ∧ v.toInt ≤ 22 ∧ b ≠ 9999) ∨ ((v.toInt = 16 ∨ v.toInt = 25) ∧ b = 9999)) (ho : o + 1 ≤ 6) (hW : W + 1 < 9999) : oGd cd (oU w W v) c F (W + 1) b x (o + 1) := by
  obtain ⟨h1, h2, h3, h4, h5, h6, h7⟩ := h
  refine ⟨h1, ?_, fun j hj => ?_, by omega, ?_, ho, hW⟩
  · rw [oCn_put, oBi_0 (by omega)]
    exact h2
  · by_cases e : j = W
    · rw [e, oU_self]
      unfold oItm
      omega
    · rw [oU_ne e]
      exact h3 j (by omega)
  · rw [oCn_put, oOi_1 (by omega)]
    omega
theorem oGd_push {cd w : Nat → Int32} {c F W b x : Nat} {o : Int} {v : Int32} (h : oGd cd w c F W b (x + 1) o) (hv : (1 ≤ v.toInt ∧ v.toInt ≤ 4 ∧ b ≠ 9999) ∨ ((v.toInt = 14 ∨ v.toInt = 15) ∧ b = 9999)) (hW : W + 1 < 9999) : oGd cd (oU w W v) c F (W + 1) b x o := by
  obtain ⟨h1, h2, h3, h4, h5, h6, h7⟩ := h
  refine ⟨h1, ?_, fun j hj => ?_, by omega, ?_, h6, hW⟩
  · rw [oCn_put, oBi_1 (by omega), h2]
    congr 1
    omega
  · by_cases e : j = W
    · rw [e, oU_self]
      unfold oItm
      omega
    · rw [oU_ne e]
      exact h3 j (by omega)
  · rw [oCn_put, oOi_0 (by omega)]
    omega
theorem oGd_pop {cd w : Nat → Int32} {c F W b x : Nat} {o : Int} (h : oGd cd w c F (W + 1) b x o) (ht : (w W).toInt = 20 ∨ ((w W).toInt = 25 ∧ b = 9999)) : oGd cd w c F W b x (o - 1) := by
  obtain ⟨h1, h2, h3, h4, h5, h6, h7⟩ := h
  have hi := h3 W (by omega)
  rw [oCn_succ, oBi_0 (by omega)] at h2
  rw [oCn_succ, oOi_1 (by omega)] at h5
  refine ⟨h1, h2, fun j hj => h3 j (by omega), ?_, by omega, by omega, by omega⟩
  unfold oItm at hi
  rcases Nat.lt_or_ge W b with hb | hb
  · have := hi.1 hb
    omega
  · omega
theorem oGd_popN {cd w : Nat → Int32} {c F W b x : Nat} {o : Int} (h : oGd cd w c F (W + 1) b x o) (ht : (w W).toInt = 23 ∨ (w W).toInt = 24) : oGd cd w c F W b (x + 1) (o - 1) := by
  obtain ⟨h1, h2, h3, h4, h5, h6, h7⟩ := h
  have hi := h3 W (by omega)
  rw [oCn_succ, oBi_1 (by omega)] at h2
  rw [oCn_succ, oOi_1 (by omega)] at h5
  refine ⟨h1, by rw [h2]; congr 1; omega, fun j hj => h3 j (by omega), ?_, by omega, by omega, by omega⟩
  unfold oItm at hi
  rcases Nat.lt_or_ge W b with hb | hb
  · have := hi.1 hb
    omega
  · omega
theorem oGd_comma {cd w : Nat → Int32} {c F W b x : Nat} {o : Int} {v : Int32} (h : oGd cd w c F (W + 1) b (x + 1) o) (ht : ((w W).toInt = 21 ∨ (w W).toInt = 22) ∧ v.toInt = (w W).toInt + 2) : oGd cd (oU w W v) c F (W + 1) b x o := by
  obtain ⟨h1, h2, h3, h4, h5, h6, h7⟩ := h
  have hi := h3 W (by omega)
  rw [oCn_succ, oBi_0 (by omega)] at h2
  rw [oCn_succ, oOi_1 (by omega)] at h5
  refine ⟨h1, ?_, fun j hj => ?_, h4, ?_, h6, h7⟩
  · rw [oCn_put, oBi_1 (by omega), h2]
    congr 1
    omega
  · by_cases e : j = W
    · rw [e, oU_self]
      unfold oItm at hi ⊢
      rcases Nat.lt_or_ge W b with hb | hb
      · have := hi.1 hb
        omega
      · omega
    · rw [oU_ne e]
      exact h3 j hj
  · rw [oCn_put, oOi_1 (by omega)]
    omega
theorem oGd_TS {cd w : Nat → Int32} {c F W x : Nat} {o : Int} (h : oGd cd w c F W 9999 x o) : oGd cd w c F W W x o := by
  obtain ⟨h1, h2, h3, h4, h5, h6, h7⟩ := h
  refine ⟨h1, h2, fun j hj => ?_, Or.inr (Nat.le_refl _), h5, h6, h7⟩
  have := h3 j hj
  unfold oItm at this ⊢
  exact ⟨fun _ => this.1 (by omega), fun hb => by omega⟩
theorem oGd_ST {cd w : Nat → Int32} {c F W b x : Nat} {o : Int} (h : oGd cd w c F W b x o) (hW : W ≤ b) : oGd cd w c F W 9999 x o := by
  obtain ⟨h1, h2, h3, h4, h5, h6, h7⟩ := h
  refine ⟨h1, h2, fun j hj => ?_, Or.inl rfl, h5, h6, h7⟩
  have := h3 j hj
  unfold oItm at this ⊢
  exact ⟨fun _ => this.1 (by omega), fun hb => by omega⟩
def oFd (mn fr : Nat → Int32) (m : Nat) : Nat := (fr (24 + 12 * m + (mn (2 + m)).toNatClampNeg)).toNatClampNeg
/-- the book and the draft run -/
def oBB (s : oS) : Prop := oBId (s.1 102) (s.1 104) (s.1 105) (s.1 106) ∧ ((s.1 71 5).toInt = 0 → oBDd (s.1 102) (s.1 104) (s.1 105) (s.1 106) (s.1 71 45).toNatClampNeg)
def oBI (s : oS) : Prop := oBId (s.1 102) (s.1 104) (s.1 105) (s.1 106)
/-- .. and what is laid of the test at hand -/
def oQ (b x : Nat) (s : oS) : Prop := oBId (s.1 102) (s.1 104) (s.1 105) (s.1 106) ∧ ((s.1 71 5).toInt = 0 → oBDd (s.1 102) (s.1 104) (s.1 105) (s.1 106) (s.1 71 45).toNatClampNeg ∧ oGd (s.1 102) (s.1 103) (s.1 71 45).toNatClampNeg (oFd (s.1 104) (s.1 105) (s.1 71 56).toNatClampNeg) (s.1 71 47).toNatClampNeg b x (s.1 71 48).toInt)
theorem oFr_row {M : List (Nat × Nat)} {s u : oS} {c q : Nat} (hf : oFr M s u) (hq : okd c = q) (hm : oinK M q = false) : u.1 c = s.1 c := by
  funext k
  exact (hf c k (by rw [hq]; exact oinK_in hm k)).1
theorem oBI_fr {M : List (Nat × Nat)} {s u : oS} (hf : oFr M s u) (hm : (oinK M 78 || (oinK M 80 || (oinK M 81 || oinK M 82))) = false) (h : oBI s) : oBI u := by
  simp only [Bool.or_eq_false_iff] at hm
  unfold oBI
  rw [oFr_row hf (c := 102) rfl hm.1, oFr_row hf (c := 104) rfl hm.2.1, oFr_row hf (c := 105) rfl hm.2.2.1, oFr_row hf (c := 106) rfl hm.2.2.2]
  exact h
theorem oBB_frb {M : List (Nat × Nat)} {s u : oS} (hf : oFr M s u) (hm : (oin M 12 45 || (oinK M 78 || (oinK M 80 || (oinK M 81 || oinK M 82)))) = false) (hb : (u.1 71 5).toInt = 0 → (s.1 71 5).toInt = 0) (h : oBB s) : oBB u := by
  simp only [Bool.or_eq_false_iff] at hm
  unfold oBB
  rw [oFr_row hf (c := 102) rfl hm.2.1, oFr_row hf (c := 104) rfl hm.2.2.1, oFr_row hf (c := 105) rfl hm.2.2.2.1, oFr_row hf (c := 106) rfl hm.2.2.2.2, (hf 71 45 hm.1).1]
  exact ⟨h.1, fun h0 => h.2 (hb h0)⟩
theorem oBB_fr {M : List (Nat × Nat)} {s u : oS} (hf : oFr M s u) (hm : (oin M 12 5 || (oin M 12 45 || (oinK M 78 || (oinK M 80 || (oinK M 81 || oinK M 82))))) = false) (h : oBB s) : oBB u := by
  rw [Bool.or_eq_false_iff] at hm
  have e1 : u.1 71 5 = s.1 71 5 := (hf 71 5 hm.1).1
  exact oBB_frb hf hm.2 (by rw [e1]; exact id) h
theorem oQ_frb {M : List (Nat × Nat)} {b x : Nat} {s u : oS} (hf : oFr M s u) (hm : ((oin M 12 47 || (oin M 12 48 || (oin M 12 56 || oinK M 79))) || (oin M 12 45 || (oinK M 78 || (oinK M 80 || (oinK M 81 || oinK M 82))))) = false) (hb : (u.1 71 5).toInt = 0 → (s.1 71 5).toInt = 0) (h : oQ b x s) : oQ b x u := by
  simp only [Bool.or_eq_false_iff] at hm
  unfold oQ
  rw [oFr_row hf (c := 102) rfl hm.2.2.1, oFr_row hf (c := 104) rfl hm.2.2.2.1, oFr_row hf (c := 105) rfl hm.2.2.2.2.1, oFr_row hf (c := 106) rfl hm.2.2.2.2.2, (hf 71 45 hm.2.1).1, (hf 71 47 hm.1.1).1, (hf 71 48 hm.1.2.1).1, (hf 71 56 hm.1.2.2.1).1, oFr_row hf (c := 103) rfl hm.1.2.2.2]
  exact ⟨h.1, fun h0 => h.2 (hb h0)⟩
theorem oQ_fr {M : List (Nat × Nat)} {b x : Nat} {s u : oS} (hf : oFr M s u) (hm : (oin M 12 5 || ((oin M 12 47 || (oin M 12 48 || (oin M 12 56 || oinK M 79))) || (oin M 12 45 || (oinK M 78 || (oinK M 80 || (oinK M 81 || oinK M 82)))))) = false) (h : oQ b x s) : oQ b x u := by
  rw [Bool.or_eq_false_iff] at hm
  have e1 : u.1 71 5 = s.1 71 5 := (hf 71 5 hm.1).1
  exact oQ_frb hf hm.2 (by rw [e1]; exact id) h
theorem oQ_bad {b x b' x' : Nat} {s : oS} (h : oQ b x s) (hb : (s.1 71 5).toInt ≠ 0) : oQ b' x' s := ⟨h.1, fun h0 => absurd h0 hb⟩
theorem oBB_BI {s : oS} (h : oBB s) : oBI s := h.1
def oLay (s : oS) (v : Int32) (u : oS) : Prop := ∃ z : Int32, z.toInt = (s.1 71 45).toInt + 1 ∧ u = pI (pI s 102 (1600 + (s.1 71 45).toNatClampNeg) v) 71 45 z
theorem oLay_of {s : oS} {v c i z : Int32} (hc : s.1 71 45 = c) (h0 : 0 ≤ c.toInt) (hi : i.toInt = 1600 + c.toInt) (hz : z.toInt = c.toInt + 1) : oLay s v (pI (pI s 102 i.toNatClampNeg v) 71 45 z) := by
  subst hc
  refine ⟨z, hz, ?_⟩
  have e1 := n_nat i
  have e2 := n_nat (s.1 71 45)
  rw [show i.toNatClampNeg = 1600 + (s.1 71 45).toNatClampNeg by omega]
theorem oQ_lay {b x x' : Nat} {s u : oS} {v : Int32} (h : oQ b x s) (hl : oLay s v u) (h0 : 0 ≤ (s.1 71 45).toInt) (hv : (s.1 71 5).toInt = 0 → ∀ n, oOne v.toInt (n + x) = some (n + x')) : oQ b x' u := by
  obtain ⟨z, hz, rfl⟩ := hl
  have ez : z.toNatClampNeg = (s.1 71 45).toNatClampNeg + 1 := by
    have e1 := n_nat z
    have e2 := n_nat (s.1 71 45)
    omega
  refine ⟨oBId_lay h.1, fun hb => ?_⟩
  obtain ⟨h1, h2⟩ := h.2 hb
  refine ⟨?_, ?_⟩
  · show oBDd (oU (s.1 102) (1600 + (s.1 71 45).toNatClampNeg) v) (s.1 104) (s.1 105) (s.1 106) z.toNatClampNeg
    rw [ez]
    exact oBDd_lay h1
  · show oGd (oU (s.1 102) (1600 + (s.1 71 45).toNatClampNeg) v) (s.1 103) z.toNatClampNeg (oFd (s.1 104) (s.1 105) (s.1 71 56).toNatClampNeg) (s.1 71 47).toNatClampNeg b x' (s.1 71 48).toInt
    rw [ez]
    exact oGd_lay h2 (hv hb)
theorem oQ_opnd {b x : Nat} {s u : oS} {v : Int32} (h : oQ b x s) (hl : oLay s v u) (h0 : 0 ≤ (s.1 71 45).toInt) (hv : (s.1 71 5).toInt = 0 → (1000 ≤ v.toInt ∨ (40 ≤ v.toInt ∧ v.toInt ≤ 47) ∨ v.toInt = 17)) : oQ b (x + 1) u :=
  oQ_lay h hl h0 (fun hb n => oOne_op (hv hb))
theorem oQ_jn {b x : Nat} {s u : oS} {v : Int32} (h : oQ b (x + 1) s) (hl : oLay s v u) (h0 : 0 ≤ (s.1 71 45).toInt) (hx : 1 ≤ x) (hv : v.toInt < 40 ∧ v.toInt ≠ 16 ∧ v.toInt ≠ 17) : oQ b x u :=
  oQ_lay h hl h0 (fun hb n => by rw [oOne_jn hv (by omega)]; congr 1)
def oTop (s : oS) : Int := (s.1 103 ((s.1 71 47).toInt - 1).toNat).toInt
theorem oTop_of {s : oS} {i v : Int32} (h : s.1 103 i.toNatClampNeg = v) (hi : i.toInt = (s.1 71 47).toInt - 1) : oTop s = v.toInt := by
  unfold oTop
  rw [← hi, n_nat i, h]
def oDrop (s u : oS) : Prop := ∃ z z' : Int32, z.toInt = (s.1 71 47).toInt - 1 ∧ z'.toInt = (s.1 71 45).toInt + 1 ∧ u = pI (pI (pI s 71 47 z) 102 (1600 + (s.1 71 45).toNatClampNeg) (s.1 103 z.toNatClampNeg)) 71 45 z'
theorem oDrop_of {s u : oS} {z v : Int32} (hz : z.toInt = (s.1 71 47).toInt - 1) (ev : (pI s 71 47 z).1 103 z.toNatClampNeg = v) (hl : oLay (pI s 71 47 z) v u) : oDrop s u := by
  obtain ⟨z', hz', rfl⟩ := hl
  subst ev
  exact ⟨z, z', hz, hz', rfl⟩
theorem oQ_drop' {b x : Nat} {s : oS} {o' : Int} (h : oQ b x s) {z z' : Int32} (hz : z.toInt = (s.1 71 47).toInt - 1) (hz' : z'.toInt = (s.1 71 45).toInt + 1) (h1 : 1 ≤ (s.1 71 47).toInt) (hc : 0 ≤ (s.1 71 45).toInt) (hx : 1 ≤ x) (ht : (s.1 71 5).toInt = 0 → (1 ≤ oTop s ∧ oTop s ≤ 4) ∨ (b = 9999 ∧ oTop s ≠ 25)) (ho : o' = (s.1 71 48).toInt ∨ (o' = (s.1 71 48).toInt - 1 ∧ oTop s = 16)) (hb : (s.1 71 5).toInt = 0) : oBDd (oU (s.1 102) (1600 + (s.1 71 45).toNatClampNeg) (s.1 103 z.toNatClampNeg)) (s.1 104) (s.1 105) (s.1 106) z'.toNatClampNeg ∧ oGd (oU (s.1 102) (1600 + (s.1 71 45).toNatClampNeg) (s.1 103 z.toNatClampNeg)) (s.1 103) z'.toNatClampNeg (oFd (s.1 104) (s.1 105) (s.1 71 56).toNatClampNeg) z.toNatClampNeg b x o' := by
  have e1 := n_nat z
  have e2 := n_nat z'
  have e3 := n_nat (s.1 71 45)
  have e4 := n_nat (s.1 71 47)
  have ez : z'.toNatClampNeg = (s.1 71 45).toNatClampNeg + 1 := by omega
  have ew : (s.1 71 47).toNatClampNeg = z.toNatClampNeg + 1 := by omega
  have et : oTop s = (s.1 103 z.toNatClampNeg).toInt := by unfold oTop; rw [← hz, e1]
  obtain ⟨h2, h3⟩ := h.2 hb
  rw [ew] at h3
  rw [ez]
  rw [et] at ht ho
  exact ⟨oBDd_lay h2, oGd_drop h3 hx (ht hb) ho⟩
theorem oQ_drop {b x : Nat} {s u : oS} (h : oQ b x s) (hd : oDrop s u) (h1 : 1 ≤ (s.1 71 47).toInt) (hc : 0 ≤ (s.1 71 45).toInt) (hx : 1 ≤ x) (ht : (s.1 71 5).toInt = 0 → (1 ≤ oTop s ∧ oTop s ≤ 4) ∨ (b = 9999 ∧ oTop s ≠ 25)) : oQ b x u := by
  obtain ⟨z, z', hz, hz', rfl⟩ := hd
  refine ⟨oBId_lay h.1, fun hb => ?_⟩
  exact oQ_drop' h hz hz' h1 hc hx ht (Or.inl rfl) hb
theorem oQ_dropN {x : Nat} {s u : oS} {z0 : Int32} (h : oQ 9999 x s) (hz0 : z0.toInt = (s.1 71 48).toInt - 1) (hd : oDrop (pI s 71 48 z0) u) (h1 : 1 ≤ (s.1 71 47).toInt) (hc : 0 ≤ (s.1 71 45).toInt) (hx : 1 ≤ x) (ht : oTop s = 16) : oQ 9999 x u := by
  obtain ⟨z, z', hz, hz', rfl⟩ := hd
  refine ⟨oBId_lay h.1, fun hb => ?_⟩
  exact oQ_drop' h hz hz' h1 hc hx (fun _ => Or.inr ⟨rfl, by omega⟩) (Or.inr ⟨hz0, ht⟩) hb
def oOpn (s : oS) (v : Int32) (u : oS) : Prop := ∃ z z' : Int32, z.toInt = (s.1 71 48).toInt + 1 ∧ z'.toInt = (s.1 71 47).toInt + 1 ∧ u = pI (pI (pI s 71 48 z) 103 (s.1 71 47).toNatClampNeg v) 71 47 z'
theorem oOpn_of {s : oS} {v w z z' : Int32} (e : (pI s 71 48 z).1 71 47 = w) (hz : z.toInt = (s.1 71 48).toInt + 1) (hz' : z'.toInt = w.toInt + 1) : oOpn s v (pI (pI (pI s 71 48 z) 103 w.toNatClampNeg v) 71 47 z') := by
  subst e
  exact ⟨z, z', hz, hz', rfl⟩
theorem oQ_open {b x : Nat} {s u : oS} {v : Int32} (h : oQ b x s) (hl : oOpn s v u) (h0 : 0 ≤ (s.1 71 47).toInt ∧ (s.1 71 47).toInt ≤ 1700) (ho : (s.1 71 48).toInt ≤ 5) (hv : (20 ≤ v.toInt ∧ v.toInt ≤ 22 ∧ b ≠ 9999) ∨ ((v.toInt = 16 ∨ v.toInt = 25) ∧ b = 9999)) : oQ b x u := by
  obtain ⟨z, z', hz, hz', rfl⟩ := hl
  have e2 := n_nat z'
  have e3 := n_nat (s.1 71 47)
  have ez : z'.toNatClampNeg = (s.1 71 47).toNatClampNeg + 1 := by omega
  refine ⟨h.1, fun hb => ?_⟩
  obtain ⟨h1, h2⟩ := h.2 hb
  refine ⟨h1, ?_⟩
  show oGd (s.1 102) (oU (s.1 103) (s.1 71 47).toNatClampNeg v) (s.1 71 45).toNatClampNeg (oFd (s.1 104) (s.1 105) (s.1 71 56).toNatClampNeg) z'.toNatClampNeg b x z.toInt
  rw [ez, hz]
  exact oGd_open h2 hv (by omega) (by omega)
theorem oQ_push {b x : Nat} {s : oS} {v w z : Int32} (h : oQ b (x + 1) s) (e : s.1 71 47 = w) (h0 : 0 ≤ w.toInt ∧ w.toInt ≤ 1699) (hz : z.toInt = w.toInt + 1) (hv : (1 ≤ v.toInt ∧ v.toInt ≤ 4 ∧ b ≠ 9999) ∨ ((v.toInt = 14 ∨ v.toInt = 15) ∧ b = 9999)) : oQ b x (pI (pI s 103 w.toNatClampNeg v) 71 47 z) := by
  subst e
  have e2 := n_nat z
  have e3 := n_nat (s.1 71 47)
  have ez : z.toNatClampNeg = (s.1 71 47).toNatClampNeg + 1 := by omega
  refine ⟨h.1, fun hb => ?_⟩
  obtain ⟨h1, h2⟩ := h.2 hb
  refine ⟨h1, ?_⟩
  show oGd (s.1 102) (oU (s.1 103) (s.1 71 47).toNatClampNeg v) (s.1 71 45).toNatClampNeg (oFd (s.1 104) (s.1 105) (s.1 71 56).toNatClampNeg) z.toNatClampNeg b x (s.1 71 48).toInt
  rw [ez]
  exact oGd_push h2 hv (by omega)
theorem oQ_pop {b x : Nat} {s : oS} {z z2 : Int32} (h : oQ b x s) (h1 : 1 ≤ (s.1 71 47).toInt) (hz : z.toInt = (s.1 71 47).toInt - 1) (hz2 : z2.toInt = (s.1 71 48).toInt - 1) (ht : oTop s = 20 ∨ (oTop s = 25 ∧ b = 9999)) : oQ b x (pI (pI s 71 47 z) 71 48 z2) := by
  have e2 := n_nat z
  have e3 := n_nat (s.1 71 47)
  have ez : (s.1 71 47).toNatClampNeg = z.toNatClampNeg + 1 := by omega
  have et : oTop s = (s.1 103 z.toNatClampNeg).toInt := by unfold oTop; rw [← hz, e2]
  refine ⟨h.1, fun hb => ?_⟩
  obtain ⟨h2, h3⟩ := h.2 hb
  refine ⟨h2, ?_⟩
  show oGd (s.1 102) (s.1 103) (s.1 71 45).toNatClampNeg (oFd (s.1 104) (s.1 105) (s.1 71 56).toNatClampNeg) z.toNatClampNeg b x z2.toInt
  rw [ez] at h3
  rw [hz2]
  exact oGd_pop h3 (by rw [← et]; exact ht)
theorem oQ_popN {b x : Nat} {s : oS} {z z2 : Int32} (h : oQ b x s) (h1 : 1 ≤ (s.1 71 47).toInt) (hz : z.toInt = (s.1 71 47).toInt - 1) (hz2 : z2.toInt = (s.1 71 48).toInt - 1) (ht : oTop s = 23 ∨ oTop s = 24) : oQ b (x + 1) (pI (pI s 71 47 z) 71 48 z2) := by
  have e2 := n_nat z
  have e3 := n_nat (s.1 71 47)
  have ez : (s.1 71 47).toNatClampNeg = z.toNatClampNeg + 1 := by omega
  have et : oTop s = (s.1 103 z.toNatClampNeg).toInt := by unfold oTop; rw [← hz, e2]
  refine ⟨h.1, fun hb => ?_⟩
  obtain ⟨h2, h3⟩ := h.2 hb
  refine ⟨h2, ?_⟩
  show oGd (s.1 102) (s.1 103) (s.1 71 45).toNatClampNeg (oFd (s.1 104) (s.1 105) (s.1 71 56).toNatClampNeg) z.toNatClampNeg b (x + 1) z2.toInt
  rw [ez] at h3
  rw [hz2]
  exact oGd_popN h3 (by rw [← et]; exact ht)
theorem oQ_comma {b x : Nat} {s : oS} {i w z : Int32} (h : oQ b (x + 1) s) (h1 : 1 ≤ (s.1 71 47).toInt) (hi : i.toInt = (s.1 71 47).toInt - 1) (e : s.1 103 i.toNatClampNeg = w) (ht : (oTop s = 21 ∨ oTop s = 22) ∧ z.toInt = oTop s + 2) : oQ b x (pI s 103 i.toNatClampNeg z) := by
  have e2 := n_nat i
  have e3 := n_nat (s.1 71 47)
  have ez : (s.1 71 47).toNatClampNeg = i.toNatClampNeg + 1 := by omega
  have et : oTop s = (s.1 103 i.toNatClampNeg).toInt := by unfold oTop; rw [← hi, e2]
  refine ⟨h.1, fun hb => ?_⟩
  obtain ⟨h2, h3⟩ := h.2 hb
  refine ⟨h2, ?_⟩
  show oGd (s.1 102) (oU (s.1 103) i.toNatClampNeg z) (s.1 71 45).toNatClampNeg (oFd (s.1 104) (s.1 105) (s.1 71 56).toNatClampNeg) (s.1 71 47).toNatClampNeg b x (s.1 71 48).toInt
  rw [ez] at h3 ⊢
  rw [et] at ht
  exact oGd_comma h3 ht
theorem oQ_TS {x B : Nat} {s : oS} (h : oQ 9999 x s) (hB : B = (s.1 71 47).toNatClampNeg) : oQ B x s := by
  subst hB
  exact ⟨h.1, fun hb => ⟨(h.2 hb).1, oGd_TS (h.2 hb).2⟩⟩
theorem oQ_ST {b x : Nat} {s : oS} (h : oQ b x s) (hW : (s.1 71 5).toInt = 0 → (s.1 71 47).toInt ≤ (b : Int)) : oQ 9999 x s :=
  ⟨h.1, fun hb => ⟨(h.2 hb).1, oGd_ST (h.2 hb).2 (by have := n_nat (s.1 71 47); have := hW hb; omega)⟩⟩
theorem oQ_topS {b x : Nat} {s : oS} (h : oQ b x s) (hb : (s.1 71 5).toInt = 0) (hW : (b : Int) < (s.1 71 47).toInt) (ht : ¬ (20 ≤ oTop s ∧ oTop s ≤ 24)) : 1 ≤ oTop s ∧ oTop s ≤ 4 := by
  have e3 := n_nat (s.1 71 47)
  obtain ⟨h1, h2, h3, h4, h5, h6, h7⟩ := (h.2 hb).2
  have := (h3 ((s.1 71 47).toInt - 1).toNat (by omega)).2 (by omega)
  unfold oTop at ht ⊢
  omega
theorem oQ_opn1 {b x : Nat} {s : oS} (h : oQ b x s) (hb : (s.1 71 5).toInt = 0) (hW : 1 ≤ (s.1 71 47).toInt) (ht : oTop s = 16 ∨ (20 ≤ oTop s ∧ oTop s ≤ 25)) : 1 ≤ (s.1 71 48).toInt := by
  have e3 := n_nat (s.1 71 47)
  obtain ⟨h1, h2, h3, h4, h5, h6, h7⟩ := (h.2 hb).2
  have e : (s.1 71 47).toNatClampNeg = ((s.1 71 47).toInt - 1).toNat + 1 := by omega
  rw [e, oCn_succ, oOi_1 (show (s.1 103 ((s.1 71 47).toInt - 1).toNat).toInt = 16 ∨ _ from ht)] at h5
  omega
/-- what is open last in the sum at hand -/
def oNo (x : Int32) (s : oS) : Prop := ∀ j : Nat, x.toInt < (j : Int) → (j : Int) < (s.1 71 47).toInt → ¬ (20 ≤ (s.1 103 j).toInt ∧ (s.1 103 j).toInt ≤ 24)
theorem oNo_0 {x : Int32} {s : oS} (h : x.toInt = (s.1 71 47).toInt - 1) : oNo x s := fun j h1 h2 => by omega
theorem oNo_step {x y : Int32} {s : oS} (h : oNo x s) (h0 : 0 ≤ x.toInt) (hy : y.toInt = x.toInt - 1) (hm : (s.1 103 x.toNatClampNeg).toInt < 20 ∨ 24 < (s.1 103 x.toNatClampNeg).toInt) : oNo y s := fun j h1 h2 => by
  have e := n_nat x
  by_cases hj : j = x.toNatClampNeg
  · subst hj; omega
  · exact h j (by omega) h2
def oMk (m : Int) (s : oS) : Prop := (m = -1 ∧ ∀ j : Nat, (s.1 71 55).toInt ≤ (j : Int) → (j : Int) < (s.1 71 47).toInt → ¬ (20 ≤ (s.1 103 j).toInt ∧ (s.1 103 j).toInt ≤ 24)) ∨ (20 ≤ m ∧ m ≤ 24 ∧ ∃ k : Nat, (s.1 71 55).toInt ≤ (k : Int) ∧ (k : Int) < (s.1 71 47).toInt ∧ (s.1 103 k).toInt = m ∧ ∀ j : Nat, k < j → (j : Int) < (s.1 71 47).toInt → ¬ (20 ≤ (s.1 103 j).toInt ∧ (s.1 103 j).toInt ≤ 24))
theorem oMk_none {x : Int32} {m : Int} {s : oS} (h : oNo x s) (hm : m = -1) (hx : x.toInt < (s.1 71 55).toInt) : oMk m s := Or.inl ⟨hm, fun j h1 h2 => h j (by omega) h2⟩
theorem oMk_some {x v : Int32} {s : oS} (e : s.1 103 x.toNatClampNeg = v) (h : oNo x s) (h0 : 0 ≤ x.toInt) (hx : (s.1 71 55).toInt ≤ x.toInt) (hW : x.toInt < (s.1 71 47).toInt) (hv : 20 ≤ v.toInt ∧ v.toInt ≤ 24) : oMk v.toInt s := by
  have ex := n_nat x
  subst e
  exact Or.inr ⟨hv.1, hv.2, x.toNatClampNeg, by omega, by omega, rfl, fun j h1 h2 => h j (by omega) h2⟩
theorem oMk_fr {M : List (Nat × Nat)} {m : Int} {s u : oS} (hf : oFr M s u) (hm : (oin M 12 47 || (oin M 12 55 || oinK M 79)) = false) (h : oMk m s) : oMk m u := by
  simp only [Bool.or_eq_false_iff] at hm
  unfold oMk
  rw [(hf 71 47 hm.1).1, (hf 71 55 hm.2.1).1, oFr_row hf (c := 103) rfl hm.2.2]
  exact h
theorem oMk_drop {m : Int} {s u : oS} (h : oMk m s) (hd : oDrop s u) (h1 : 1 ≤ (s.1 71 47).toInt) (ht : ¬ (20 ≤ oTop s ∧ oTop s ≤ 24)) : oMk m u := by
  obtain ⟨z, z', hz, hz', rfl⟩ := hd
  have e2 := n_nat z
  have et : oTop s = (s.1 103 z.toNatClampNeg).toInt := by unfold oTop; rw [← hz, e2]
  rcases h with ⟨hm, h⟩ | ⟨hm, hm', k, h2, h3, h4, h5⟩
  · exact Or.inl ⟨hm, fun j h6 h7 => h j h6 (show (j : Int) < _ by have : (j : Int) < z.toInt := h7; omega)⟩
  · refine Or.inr ⟨hm, hm', k, h2, ?_, h4, fun j h6 h7 => h5 j h6 (by have : (j : Int) < z.toInt := h7; omega)⟩
    show (k : Int) < z.toInt
    by_cases hk : k = z.toNatClampNeg
    · subst hk; omega
    · omega
theorem oMk_top {m : Int} {s : oS} (h : oMk m s) (hm : m ≠ -1) (ht : (s.1 71 47).toInt ≤ (s.1 71 55).toInt ∨ (20 ≤ oTop s ∧ oTop s ≤ 24)) (h0 : 0 ≤ (s.1 71 47).toInt) : (s.1 71 55).toInt < (s.1 71 47).toInt ∧ oTop s = m := by
  rcases h with ⟨h1, _⟩ | ⟨_, _, k, h2, h3, h4, h5⟩
  · exact absurd h1 hm
  · rcases ht with ht | ht
    · omega
    · refine ⟨by omega, ?_⟩
      by_cases hk : k = ((s.1 71 47).toInt - 1).toNat
      · unfold oTop; rw [← hk]; exact h4
      · exact absurd ht (h5 _ (by omega) (by omega))
theorem oMk_nt {s : oS} (h : oMk (-1) s) (hW : (s.1 71 55).toInt < (s.1 71 47).toInt) (h0 : 0 ≤ (s.1 71 55).toInt) : ¬ (20 ≤ oTop s ∧ oTop s ≤ 24) := by
  rcases h with ⟨_, h⟩ | ⟨h, _⟩
  · exact h _ (by omega) (by omega)
  · omega
/-- nothing is open in the sum, where nothing is bad -/
def oMn (s : oS) : Prop := (s.1 71 5).toInt = 0 → oMk (-1) s
theorem oMn_drop {s u : oS} (h : oMn s) (hd : oDrop s u) (h1 : 1 ≤ (s.1 71 47).toInt) (ht : ¬ (20 ≤ oTop s ∧ oTop s ≤ 24)) : oMn u := fun hb => by
  refine oMk_drop (h ?_) hd h1 ht
  obtain ⟨z, z', hz, hz', rfl⟩ := hd
  exact hb
def oHS (s : oS) : Prop := ∃ j : Nat, (j : Int) < (s.1 71 47).toInt ∧ (s.1 103 j).toInt = 25
def oNS (s : oS) : Prop := ∀ j : Nat, (j : Int) < (s.1 71 47).toInt → (s.1 103 j).toInt ≠ 25
def oNQ (s : oS) : Prop := (s.1 71 5).toInt = 0 → oNS s
theorem oHS_fr {M : List (Nat × Nat)} {s u : oS} (hf : oFr M s u) (hm : (oin M 12 47 || oinK M 79) = false) (h : oHS s) : oHS u := by
  simp only [Bool.or_eq_false_iff] at hm
  unfold oHS
  rw [(hf 71 47 hm.1).1, oFr_row hf (c := 103) rfl hm.2]
  exact h
theorem oHS_1 {s : oS} (h : oHS s) : 1 ≤ (s.1 71 47).toInt := by
  obtain ⟨j, h1, _⟩ := h
  omega
theorem oHS_drop {s u : oS} (h : oHS s) (hd : oDrop s u) (ht : oTop s ≠ 25) : oHS u := by
  obtain ⟨z, z', hz, hz', rfl⟩ := hd
  have e2 := n_nat z
  have et : oTop s = (s.1 103 z.toNatClampNeg).toInt := by unfold oTop; rw [← hz, e2]
  obtain ⟨j, h1, h2⟩ := h
  refine ⟨j, ?_, h2⟩
  show (j : Int) < z.toInt
  by_cases hk : j = z.toNatClampNeg
  · subst hk; omega
  · omega
theorem oNQ_drop {s u : oS} (h : oNQ s) (hd : oDrop s u) : oNQ u := by
  obtain ⟨z, z', hz, hz', rfl⟩ := hd
  exact fun hb j hj => h hb j (by have : (j : Int) < z.toInt := hj; omega)
theorem oNS_top {s : oS} (h : oNS s) (h1 : 1 ≤ (s.1 71 47).toInt) : oTop s ≠ 25 := h _ (by omega)
theorem oHS_of {x v : Int32} {s : oS} (e : s.1 103 x.toNatClampNeg = v) (h0 : 0 ≤ x.toInt) (hx : x.toInt < (s.1 71 47).toInt) (hv : v.toInt = 25) : oHS s := by
  have ex := n_nat x
  exact ⟨x.toNatClampNeg, by omega, by rw [e]; exact hv⟩
def oNx (x : Int32) (s : oS) : Prop := ∀ j : Nat, (j : Int) < x.toInt → (s.1 103 j).toInt ≠ 25
theorem oNx_0 {x : Int32} {s : oS} (h : x.toInt = 0) : oNx x s := fun j hj => by omega
theorem oNx_step {x y : Int32} {s : oS} (h : oNx x s) (h0 : 0 ≤ x.toInt) (hy : y.toInt = x.toInt + 1) (hv : (s.1 103 x.toNatClampNeg).toInt ≠ 25) : oNx y s := fun j hj => by
  have ex := n_nat x
  by_cases hk : j = x.toNatClampNeg
  · subst hk; exact hv
  · exact h j (by omega)
theorem oNS_of {x : Int32} {s : oS} (h : oNx x s) (hx : (s.1 71 47).toInt ≤ x.toInt) : oNS s := fun j hj => h j (by omega)
theorem oMk_c {m m' : Int} {s : oS} (h : oMk m s) (e : m = m') : oMk m' s := e ▸ h
theorem oQ_opens {M : List (Nat × Nat)} {b x : Nat} {s u : oS} {v : Int32} (hf : oFr M s u) (hm : (oinK M 78 || (oinK M 80 || (oinK M 81 || oinK M 82))) = false) (h : oQ b x s) (hl : (u.1 71 5).toInt = 0 → oOpn s v u) (h0 : 0 ≤ (s.1 71 47).toInt ∧ (s.1 71 47).toInt ≤ 1700) (ho : (u.1 71 5).toInt = 0 → (s.1 71 48).toInt ≤ 5) (hv : (20 ≤ v.toInt ∧ v.toInt ≤ 22 ∧ b ≠ 9999) ∨ ((v.toInt = 16 ∨ v.toInt = 25) ∧ b = 9999)) : oQ b x u := by
  by_cases hb : (u.1 71 5).toInt = 0
  · exact oQ_open h (hl hb) h0 (ho hb) hv
  · exact ⟨oBI_fr hf hm h.1, fun h0 => absurd h0 hb⟩
theorem oB1_0 {x : Int32} (h : x.toInt = 0) : oB1 x = 1 := if_pos h
theorem oB1_nn (x : Int32) : 0 ≤ oB1 x := by
  rcases oB1_f x with h | h <;> omega
