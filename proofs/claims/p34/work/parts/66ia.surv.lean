section SV
variable {R : Int} {W : Nat → List Int} {me D S K n : Int} {st : Nat → Int}
theorem owWc_c {G : Nat → Prop} {m m' : Nat} {t : oS} (h : owWc G m t) (e : m = m') : owWc G m' t := e ▸ h
theorem oC1_le {f : Nat → Int} : ∀ {m : Nat}, (∀ i, i < m → f i ≤ 1) → oC1 f m ≤ (m : Int)
  | 0, _ => Int.le_refl 0
  | m + 1, h => by
    show oC1 f m + f m ≤ _
    have h1 := oC1_le (m := m) (fun i hi => h i (by omega))
    have h2 := h m (by omega)
    omega
theorem oC1_ge {f : Nat → Int} : ∀ {m : Nat}, (∀ i, i < m → 0 ≤ f i) → 0 ≤ oC1 f m
  | 0, _ => Int.le_refl 0
  | m + 1, h => by
    show 0 ≤ oC1 f m + f m
    have h1 := oC1_ge (m := m) (fun i hi => h i (by omega))
    have h2 := h m (by omega)
    omega
theorem owFf_01 (s : oS) (i : Nat) : 0 ≤ owFf s i ∧ owFf s i ≤ 1 := by
  unfold owFf
  split <;> decide
theorem owFf_le (s : oS) : 0 ≤ oC1 (owFf s) 180 ∧ oC1 (owFf s) 180 ≤ 180 := ⟨oC1_ge (fun i _ => (owFf_01 s i).1), oC1_le (fun i _ => (owFf_01 s i).2)⟩
theorem owWc_g {m : Nat} {d h k : Int} {s u : oS} (hw : owWc (owWe R W me D S K n st 0) (180 * m) s) (hf : owFe k h (owWe R W me D S K n st d) s) (hk : k = 12) (hd : d = m) (hu : (u.1 43 4).toInt = (s.1 43 4).toInt + oC1 (owFf s) 180) : owWc (owWe R W me D S K n st 0) (180 * (m + 1)) u := by
  subst hk
  refine owCt_b (B := 180) (f := owFf s) hw (fun i hi => ?_) (by omega) hu
  have := owFe_g hf i hi
  rw [← owWe_d (j := 180 * m + i) (by omega)] at this
  exact this
theorem owWc_end {m : Nat} {t : oS} {v : Int} (hw : owWc (owWe R W me D S K n st 0) (180 * m) t) (hd : D < (m : Int)) (hm : m ≤ 25) (hv : v = (t.1 43 4).toInt) : owCt (owWe R W me D S K n st 0) 4500 v := by
  subst hv
  refine owCt_e hw (by omega) (fun c h1 h2 h3 => ?_)
  have := (oBd_y h3.1).2.1
  omega
theorem owFe_na {k k' h d : Int} {t : oS} (hf : owFe k h (owWe R W me D S K n st d) t) (ha : oAl K k ≠ 1) (hh : h = -7) (hk : k' = k + 1) : owFe k' (-7) (owWe R W me D S K n st d) t := by
  refine owFe_e hf rfl (fun i hi hg => ?_)
  have h1 := (oBd_y hg.1).2.2.2.2
  have h2 : (i : Int) % 12 ≠ k := fun q => ha (by rw [← q, show (i : Int) % 12 = (180 * d + (i : Int)) % 12 by omega]; exact h1)
  omega
theorem owFe_hi {k k' h d : Int} {t : oS} (hf : owFe k h (owWe R W me D S K n st d) t) (hd : 0 ≤ d) (hh : S < h) (hk : k' = k + 1) : owFe k' (-7) (owWe R W me D S K n st d) t := by
  refine owFe_e hf rfl (fun i hi hg => ?_)
  have h1 := (oBd_y hg.1).2.2.2.1
  have h2 : (180 * d + (i : Int)) / 12 % 15 = (i : Int) / 12 := by omega
  rw [h2] at h1
  omega
theorem owFe_lo {k h h' d : Int} {t : oS} (hf : owFe k h (owWe R W me D S K n st d) t) (hd : 0 ≤ d) (hh : h = -7) (hh' : h' = -S) : owFe k h' (owWe R W me D S K n st d) t := by
  refine owFe_e hf rfl (fun i hi hg => ?_)
  have h1 := (oBd_y hg.1).2.2.1
  have h2 : (180 * d + (i : Int)) / 12 % 15 = (i : Int) / 12 := by omega
  rw [h2] at h1
  omega
theorem owWe_g {l c d h k : Int} {s : oS} {i : Nat} (hq : owHq me l n st s) (hl : l = 180 * d + 84 + k) (hd : 0 ≤ d ∧ d ≤ 24) (hD : d ≤ D) (hk : 0 ≤ k ∧ k ≤ 11) (hh : -S ≤ h ∧ h ≤ S) (hS : S ≤ 7) (hc : c = l + 12 * h) (ha : oAl K k = 1) (hg : owDg n st) (hi : (i : Int) = (h + 7) * 12 + k) : owWe R W me D S K n st d i ↔ (c ≠ 84 ∧ owGd R W h s) := by
  have e : 180 * d + (i : Int) = c := by omega
  unfold owWe
  rw [e, ← owAg_lv (R := R) (W := W) hq (c := c) (h := h) (by omega) (by omega) hc (by omega) hg]
  constructor
  · exact fun q => ⟨(oBd_y q.1).1, q.2⟩
  · refine fun q => ⟨oBd_i ⟨q.1, by omega, by omega, by omega, ?_⟩, q.2⟩
    rw [show c % 12 = k by omega]
    exact ha
end SV
