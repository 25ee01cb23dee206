/-! bytes of numbers; the text on the tape; images -/
def oqB (x : Int32) (k : Nat) : Int := x.toInt / (if k = 0 then 16777216 else if k = 1 then 65536 else if k = 2 then 256 else 1) % 256
theorem oq_tn (x : Int32) : (x.toInt = (x.toBitVec.toNat : Int) ∨ x.toInt = (x.toBitVec.toNat : Int) - 4294967296) ∧ x.toBitVec.toNat < 4294967296 := by
  have h : x.toInt = if 2 * x.toBitVec.toNat < 2 ^ 32 then (x.toBitVec.toNat : Int) else (x.toBitVec.toNat : Int) - ((2 ^ 32 : Nat) : Int) := BitVec.toInt_eq_toNat_cond x.toBitVec
  have h2 : x.toBitVec.toNat < 2 ^ 32 := x.toBitVec.isLt
  refine ⟨?_, by omega⟩
  rw [h]
  split
  · left; rfl
  · right; omega
theorem oq_and {z k w : Int32} (h : w = z &&& k) (hk : k = 255) : w.toInt = ((z.toBitVec.toNat % 256 : Nat) : Int) := by
  have e : w = Int32.ofNat (z.toBitVec.toNat % 256) := by rw [h, hk]; exact pk_and z (m := 255) 8 (by decide)
  exact n_ofNat e.symm (by omega)
theorem n_byU {x y z k w : Int32} (j : Nat) (h1 : (x.toUInt32 >>> (y.toUInt32 &&& Int32.toUInt32 31)).toInt32 = z) (h2 : w = z &&& k) (hk : k = 255) (hy : y.toInt = 24 - 8 * (j : Int)) (hj : j ≤ 3) : w.toInt = oqB x j := by
  have hw := oq_and h2 hk
  have hx := oq_tn x
  have key : ∀ s : Nat, ((y.toUInt32 &&& Int32.toUInt32 31).toBitVec % 32).toNat = s → z.toBitVec.toNat = x.toBitVec.toNat / 2 ^ s := fun s hs => by
    have e := pk_ushr x y s hs
    rw [h1] at e
    exact e
  have hj4 : j = 0 ∨ j = 1 ∨ j = 2 ∨ j = 3 := by omega
  rcases hj4 with rfl | rfl | rfl | rfl
  · have hy2 : y = 24 := n_eq (by rw [hy]; rfl)
    have e := key 24 (by rw [hy2]; decide)
    have e2 : oqB x 0 = x.toInt / 16777216 % 256 := rfl
    rw [hw, e, e2]
    have e3 : (2 : Nat) ^ 24 = 16777216 := by decide
    rw [e3]
    omega
  · have hy2 : y = 16 := n_eq (by rw [hy]; rfl)
    have e := key 16 (by rw [hy2]; decide)
    have e2 : oqB x 1 = x.toInt / 65536 % 256 := rfl
    rw [hw, e, e2]
    have e3 : (2 : Nat) ^ 16 = 65536 := by decide
    rw [e3]
    omega
  · have hy2 : y = 8 := n_eq (by rw [hy]; rfl)
    have e := key 8 (by rw [hy2]; decide)
    have e2 : oqB x 2 = x.toInt / 256 % 256 := rfl
    rw [hw, e, e2]
    have e3 : (2 : Nat) ^ 8 = 256 := by decide
    rw [e3]
    omega
  · have hy2 : y = 0 := n_eq (by rw [hy]; rfl)
    have e := key 0 (by rw [hy2]; decide)
    have e2 : oqB x 3 = x.toInt / 1 % 256 := rfl
    rw [hw, e, e2]
    have e3 : (2 : Nat) ^ 0 = 1 := by decide
    rw [e3]
    omega
theorem n_byS {x y z k w : Int32} (j : Nat) (h1 : z = x >>> (y &&& 31)) (h2 : w = z &&& k) (hk : k = 255) (hy : y.toInt = 24 - 8 * (j : Int)) (hj : j ≤ 3) : w.toInt = oqB x j := by
  have hw := oq_and h2 hk
  have hz := oq_tn z
  have key : ∀ s : Nat, ((y &&& 31).toBitVec.smod 32).toNat = s → z.toInt = x.toInt / ((2 ^ s : Nat) : Int) := fun s hs => by
    have e := pk_shr x (y &&& 31) s hs
    rw [← h1, Int.shiftRight_eq_div_pow] at e
    exact e
  have hj4 : j = 0 ∨ j = 1 ∨ j = 2 ∨ j = 3 := by omega
  rcases hj4 with rfl | rfl | rfl | rfl
  · have hy2 : y = 24 := n_eq (by rw [hy]; rfl)
    have e := key 24 (by rw [hy2]; decide)
    have e2 : oqB x 0 = x.toInt / 16777216 % 256 := rfl
    have e3 : ((2 ^ 24 : Nat) : Int) = 16777216 := by decide
    rw [e3] at e
    rw [hw, e2]
    omega
  · have hy2 : y = 16 := n_eq (by rw [hy]; rfl)
    have e := key 16 (by rw [hy2]; decide)
    have e2 : oqB x 1 = x.toInt / 65536 % 256 := rfl
    have e3 : ((2 ^ 16 : Nat) : Int) = 65536 := by decide
    rw [e3] at e
    rw [hw, e2]
    omega
  · have hy2 : y = 8 := n_eq (by rw [hy]; rfl)
    have e := key 8 (by rw [hy2]; decide)
    have e2 : oqB x 2 = x.toInt / 256 % 256 := rfl
    have e3 : ((2 ^ 8 : Nat) : Int) = 256 := by decide
    rw [e3] at e
    rw [hw, e2]
    omega
  · have hy2 : y = 0 := n_eq (by rw [hy]; rfl)
    have e := key 0 (by rw [hy2]; decide)
    have e2 : oqB x 3 = x.toInt / 1 % 256 := rfl
    have e3 : ((2 ^ 0 : Nat) : Int) = 1 := by decide
    rw [e3] at e
    rw [hw, e2]
    omega
def oqF (a b c d e : Int32) (k : Nat) : Int := oqB (if k < 4 then a else if k < 8 then b else if k < 12 then c else if k < 16 then d else e) (k % 4)
/-- g is f up to o, and behind that m numbers more -/
def oqFz (f g : Nat → Int32) (o m : Nat) (h : Nat → Int) : Prop := (∀ j, j < o → g j = f j) ∧ ∀ i, i < m → (g (o + i)).toInt = h i
theorem oqFz_0 {f : Nat → Int32} {o : Nat} {h : Nat → Int} {x : Int32} (hx : x.toInt = 0) : oqFz f f o x.toNatClampNeg h := ⟨fun _ _ => rfl, fun i hi => by
  have := n_nat x
  omega⟩
theorem oqFz_nx {f : Nat → Int32} {t : oS} {c d k' : Nat} {h : Nat → Int} {o x y v w z : Int32} (H : oqFz f (t.1 c) o.toNatClampNeg x.toNatClampNeg h) (ho : 0 ≤ o.toInt) (h0 : 0 ≤ x.toInt) (hy : y.toInt = x.toInt + 1) (hv : v.toInt = o.toInt + x.toInt) (hw : w.toInt = h x.toNatClampNeg) (hc : c ≠ d) : oqFz f ((pI (pI t c v.toNatClampNeg w) d k' z).1 c) o.toNatClampNeg y.toNatClampNeg h := by
  have e1 := n_nat x
  have e2 := n_nat y
  have e3 := n_nat v
  have e4 := n_nat o
  refine ⟨fun j hj => ?_, fun i hi => ?_⟩
  · rw [pI_ne _ z (Or.inl hc), pI_ne t w (Or.inr (by omega))]
    exact H.1 j hj
  · rw [pI_ne _ z (Or.inl hc)]
    by_cases hix : i = x.toNatClampNeg
    · rw [hix, show o.toNatClampNeg + x.toNatClampNeg = v.toNatClampNeg by omega, pI_self]
      exact hw
    · rw [pI_ne t w (Or.inr (by omega))]
      exact H.2 i (by omega)
theorem oqFz_5 {f0 f1 f2 f3 f4 f5 : Nat → Int32} {o0 o1 o2 o3 o4 a b c d e : Int32} (h1 : oqFz f0 f1 o0.toNatClampNeg 4 (oqB a)) (h2 : oqFz f1 f2 o1.toNatClampNeg 4 (oqB b)) (h3 : oqFz f2 f3 o2.toNatClampNeg 4 (oqB c)) (h4 : oqFz f3 f4 o3.toNatClampNeg 4 (oqB d)) (h5 : oqFz f4 f5 o4.toNatClampNeg 4 (oqB e)) (g0 : 0 ≤ o0.toInt) (g1 : o1.toInt = o0.toInt + 4) (g2 : o2.toInt = o0.toInt + 8) (g3 : o3.toInt = o0.toInt + 12) (g4 : o4.toInt = o0.toInt + 16) : oqFz f0 f5 o0.toNatClampNeg 20 (oqF a b c d e) := by
  have e0 := n_nat o0
  have e1 := n_nat o1
  have e2 := n_nat o2
  have e3 := n_nat o3
  have e4 := n_nat o4
  refine ⟨fun j hj => ?_, fun i hi => ?_⟩
  · rw [h5.1 j (by omega), h4.1 j (by omega), h3.1 j (by omega), h2.1 j (by omega), h1.1 j hj]
  · unfold oqF
    by_cases q1 : i < 4
    · rw [if_pos q1, show i % 4 = i by omega, h5.1 _ (by omega), h4.1 _ (by omega), h3.1 _ (by omega), h2.1 _ (by omega)]
      exact h1.2 i q1
    · rw [if_neg q1]
      by_cases q2 : i < 8
      · rw [if_pos q2, h5.1 _ (by omega), h4.1 _ (by omega), h3.1 _ (by omega), show o0.toNatClampNeg + i = o1.toNatClampNeg + i % 4 by omega]
        exact h2.2 _ (by omega)
      · rw [if_neg q2]
        by_cases q3 : i < 12
        · rw [if_pos q3, h5.1 _ (by omega), h4.1 _ (by omega), show o0.toNatClampNeg + i = o2.toNatClampNeg + i % 4 by omega]
          exact h3.2 _ (by omega)
        · rw [if_neg q3]
          by_cases q4 : i < 16
          · rw [if_pos q4, h5.1 _ (by omega), show o0.toNatClampNeg + i = o3.toNatClampNeg + i % 4 by omega]
            exact h4.2 _ (by omega)
          · rw [if_neg q4, show o0.toNatClampNeg + i = o4.toNatClampNeg + i % 4 by omega]
            exact h5.2 _ (by omega)
/-- what a feed does -/
def oqFe (f g : Nat → Int32) (o : Int32) (h : Nat → Int) : Prop := (1600 < o.toInt + 20 ∧ g = f) ∨ (o.toInt + 20 ≤ 1600 ∧ oqFz f g o.toNatClampNeg 20 h)
/-- both tapes have the same bytes -/
def oqE (t : oS) : Prop := (t.1 1 1).toInt = (t.1 71 1).toInt ∧ ∀ j : Nat, (j : Int) < (t.1 1 1).toInt → (t.1 2 j).toInt = (t.1 72 j).toInt
theorem oqE_fr {M : List (Nat × Nat)} {s u : oS} (hf : oFr M s u) (hm : (oin M 8 1 || (oinK M 15 || (oin M 12 1 || oinK M 48))) = false) (h : oqE s) : oqE u := by
  simp only [Bool.or_eq_false_iff] at hm
  have e1 : u.1 1 1 = s.1 1 1 := (hf 1 1 hm.1).1
  have e2 : u.1 71 1 = s.1 71 1 := (hf 71 1 hm.2.2.1).1
  unfold oqE
  rw [e1, e2, oFr_row hf (c := 2) rfl hm.2.1, oFr_row hf (c := 72) rfl hm.2.2.2]
  exact h
theorem oqE_0 {t : oS} (h1 : (t.1 1 1).toInt = 0) (h2 : (t.1 71 1).toInt = 0) : oqE t := ⟨by omega, fun j hj => by omega⟩
theorem oqE_feed {M1 M2 : List (Nat × Nat)} {t u v : oS} {h : Nat → Int} (H : oqE t) (f1 : oFr M1 t u) (m1 : (oin M1 12 1 || oinK M1 48) = false) (f2 : oFr M2 u v) (m2 : (oin M2 8 1 || oinK M2 15) = false) (p1 : oqFe (t.1 2) (u.1 2) (t.1 1 1) h) (p2 : oqFe (u.1 72) (v.1 72) (u.1 71 1) h) (h0 : 0 ≤ (t.1 1 1).toInt) (l1 : ((t.1 1 1).toInt + 20 ≤ 1600 → (u.1 1 1).toInt = (t.1 1 1).toInt + 20) ∧ (1600 < (t.1 1 1).toInt + 20 → (u.1 1 1).toInt = (t.1 1 1).toInt)) (l2 : ((u.1 71 1).toInt + 20 ≤ 1600 → (v.1 71 1).toInt = (u.1 71 1).toInt + 20) ∧ (1600 < (u.1 71 1).toInt + 20 → (v.1 71 1).toInt = (u.1 71 1).toInt)) : oqE v := by
  simp only [Bool.or_eq_false_iff] at m1 m2
  have e1 : u.1 71 1 = t.1 71 1 := (f1 71 1 m1.1).1
  have e2 : u.1 72 = t.1 72 := oFr_row f1 (c := 72) rfl m1.2
  have e3 : v.1 1 1 = u.1 1 1 := (f2 1 1 m2.1).1
  have e4 : v.1 2 = u.1 2 := oFr_row f2 (c := 2) rfl m2.2
  obtain ⟨H1, H2⟩ := H
  rw [e1] at l2
  rw [e1, e2] at p2
  have n1 := n_nat (t.1 1 1)
  have n2 := n_nat (t.1 71 1)
  unfold oqE
  rw [e3, e4]
  rcases p1 with ⟨q1, g1⟩ | ⟨q1, g1⟩
  · rcases p2 with ⟨q2, g2⟩ | ⟨q2, g2⟩
    · rw [g1, g2]
      refine ⟨by omega, fun j hj => H2 j (by omega)⟩
    · omega
  · rcases p2 with ⟨q2, g2⟩ | ⟨q2, g2⟩
    · omega
    · refine ⟨by omega, fun j hj => ?_⟩
      by_cases hjo : j < (t.1 1 1).toNatClampNeg
      · rw [g1.1 j hjo, g2.1 j (by omega)]
        exact H2 j (by omega)
      · obtain ⟨i, hi⟩ : ∃ i : Nat, j = (t.1 1 1).toNatClampNeg + i := ⟨j - (t.1 1 1).toNatClampNeg, by omega⟩
        have hi20 : i < 20 := by omega
        have r1 := g1.2 i hi20
        have r2 := g2.2 i hi20
        rw [show (t.1 71 1).toNatClampNeg = (t.1 1 1).toNatClampNeg by omega] at r2
        rw [hi, r1, r2]
theorem oqE_end {M1 M2 : List (Nat × Nat)} {t u v : oS} (H : oqE t) (f1 : oFr M1 t u) (m1 : (oinK M1 15 || oinK M1 48) = false) (f2 : oFr M2 u v) (m2 : (oinK M2 15 || oinK M2 48) = false) (l1 : (v.1 1 1).toInt = (v.1 71 1).toInt) (l2 : (v.1 1 1).toInt ≤ (t.1 1 1).toInt) : oqE v := by
  simp only [Bool.or_eq_false_iff] at m1 m2
  unfold oqE
  rw [oFr_row f2 (c := 2) rfl m2.1, oFr_row f2 (c := 72) rfl m2.2, oFr_row f1 (c := 2) rfl m1.1, oFr_row f1 (c := 72) rfl m1.2]
  exact ⟨l1, fun j hj => H.2 j (by omega)⟩
/-- the text: a byte, -1 where there is none -/
def oqT (f : Nat → Int32) (n a : Int) : Int := if 0 ≤ a ∧ a < n then (f a.toNat).toInt else -1
def oqX (g : Int → Int) (t : oS) : Prop := ∀ a, oqT (t.1 2) (t.1 1 1).toInt a = g a
def oqY (g : Int → Int) (n : Int) (t : oS) : Prop := ∀ a, oqT (t.1 72) n a = g a
theorem oqX_fr {M : List (Nat × Nat)} {s u : oS} {g : Int → Int} (hf : oFr M s u) (hm : (oin M 8 1 || oinK M 15) = false) (h : oqX g s) : oqX g u := by
  simp only [Bool.or_eq_false_iff] at hm
  have e1 : u.1 1 1 = s.1 1 1 := (hf 1 1 hm.1).1
  unfold oqX
  rw [e1, oFr_row hf (c := 2) rfl hm.2]
  exact h
theorem oqY_fr {M : List (Nat × Nat)} {s u : oS} {g : Int → Int} {n : Int} (hf : oFr M s u) (hm : oinK M 48 = false) (h : oqY g n s) : oqY g n u := by
  unfold oqY
  rw [oFr_row hf (c := 72) rfl hm]
  exact h
theorem oqE_gn {t : oS} (h : oqE t) : ∃ (g : Int → Int) (n : Int), oqX g t ∧ oqY g n t ∧ (t.1 1 1).toInt = n ∧ (t.1 71 1).toInt = n := by
  refine ⟨fun a => oqT (t.1 2) (t.1 1 1).toInt a, (t.1 1 1).toInt, fun _ => rfl, fun a => ?_, rfl, h.1.symm⟩
  show oqT (t.1 72) (t.1 1 1).toInt a = oqT (t.1 2) (t.1 1 1).toInt a
  unfold oqT
  split
  · exact (h.2 a.toNat (by omega)).symm
  · rfl
theorem oqY_at {g : Int → Int} {n : Int} {t : oS} {i v : Int32} (h : oqY g n t) (e : t.1 72 i.toNatClampNeg = v) (a : Int) (ha : i.toInt = a) (h0 : 0 ≤ a) (h1 : a < n) : g a = v.toInt := by
  rw [← h a]
  unfold oqT
  rw [if_pos ⟨h0, h1⟩, ← ha, n_nat, e]
theorem oqX_at {g : Int → Int} {t : oS} {i v : Int32} (h : oqX g t) (e : t.1 2 i.toNatClampNeg = v) (a : Int) (ha : i.toInt = a) (h0 : 0 ≤ a) (h1 : a < (t.1 1 1).toInt) : g a = v.toInt := by
  rw [← h a]
  unfold oqT
  rw [if_pos ⟨h0, h1⟩, ← ha, n_nat, e]
theorem oqX_no {g : Int → Int} {t : oS} (h : oqX g t) {a : Int} (h1 : a < 0 ∨ (t.1 1 1).toInt ≤ a) : g a = -1 := by
  rw [← h a]
  unfold oqT
  rw [if_neg (by omega)]
/-- the check byte of so many -/
def oqC (g : Int → Int) : Nat → Int
  | 0 => 23
  | k + 1 => (7 * oqC g k + g k) % 251
def oqS (g : Int → Int) : Nat → Int
  | 0 => 0
  | k + 1 => oqS g k + g (2 + 2 * k)
def oqO (g : Int → Int) (k : Nat) : Prop := (g (1 + 2 * k) ≤ 28 ∨ g (1 + 2 * k) = 255) ∧ 1 ≤ g (2 + 2 * k) ∧ g (2 + 2 * k) ≤ 16
def oqFt (g : Int → Int) (m : Nat) : Prop := ∀ k, k < m → oqO g k
def oqI (g : Int → Int) (n : Int) : Prop := (0 ≤ g 0 ∧ g 0 ≤ 24 ∧ n = 2 * g 0 + 2) ∧ g (n - 1) = oqC g (n - 1).toNat ∧ oqFt g (g 0).toNat ∧ oqS g (g 0).toNat ≤ 96
theorem oqC_at0 {g : Int → Int} {x : Int32} (h : x.toInt = 0) : oqC g x.toNatClampNeg = 23 := by
  rw [show x.toNatClampNeg = 0 by have := n_nat x; omega]
  rfl
theorem oqC_nx {g : Int → Int} {x y : Int32} {c v z : Int} (hc : c = oqC g x.toNatClampNeg) (hv : v = g (x.toNatClampNeg : Int)) (hz : z = (7 * c + v) % 251) (h0 : 0 ≤ x.toInt) (hy : y.toInt = x.toInt + 1) : z = oqC g y.toNatClampNeg := by
  rw [show y.toNatClampNeg = x.toNatClampNeg + 1 by have := n_nat x; have := n_nat y; omega, hz, hc, hv]
  rfl
theorem oqS_at0 {g : Int → Int} {x : Int32} (h : x.toInt = 0) : oqS g x.toNatClampNeg = 0 := by
  rw [show x.toNatClampNeg = 0 by have := n_nat x; omega]
  rfl
theorem oqS_nx {g : Int → Int} {x y : Int32} (h0 : 0 ≤ x.toInt) (hy : y.toInt = x.toInt + 1) : oqS g y.toNatClampNeg = oqS g x.toNatClampNeg + g (2 + 2 * (x.toNatClampNeg : Int)) := by
  rw [show y.toNatClampNeg = x.toNatClampNeg + 1 by have := n_nat x; have := n_nat y; omega]
  rfl
theorem oqFt_at0 {g : Int → Int} {x : Int32} (h : x.toInt = 0) : oqFt g x.toNatClampNeg := fun k hk => by
  have := n_nat x
  omega
theorem oqFt_nx {g : Int → Int} {x y : Int32} (H : oqFt g x.toNatClampNeg) (h0 : 0 ≤ x.toInt) (hy : y.toInt = x.toInt + 1) (h1 : g (1 + 2 * (x.toNatClampNeg : Int)) ≤ 28 ∨ g (1 + 2 * (x.toNatClampNeg : Int)) = 255) (h2 : 1 ≤ g (2 + 2 * (x.toNatClampNeg : Int))) (h3 : g (2 + 2 * (x.toNatClampNeg : Int)) ≤ 16) : oqFt g y.toNatClampNeg := fun k hk => by
  by_cases hkx : k = x.toNatClampNeg
  · rw [hkx]
    exact ⟨h1, h2, h3⟩
  · exact H k (by have := n_nat x; have := n_nat y; omega)
theorem oqS_mono {g : Int → Int} {m : Nat} (H : oqFt g m) : ∀ j d : Nat, j + d ≤ m → oqS g j ≤ oqS g (j + d)
  | _, 0, _ => Int.le_refl _
  | j, d + 1, h => by
    have h1 := oqS_mono H j d (by omega)
    have h2 := (H (j + d) (by omega)).2.1
    show oqS g j ≤ oqS g (j + d) + g (2 + 2 * ((j + d : Nat) : Int))
    omega
theorem oqI_no {g : Int → Int} {n : Int} {x : Int32} (h0 : 0 ≤ x.toInt) (hx : x.toInt < g 0) (h : ¬ ((g (1 + 2 * (x.toNatClampNeg : Int)) ≤ 28 ∨ g (1 + 2 * (x.toNatClampNeg : Int)) = 255) ∧ 1 ≤ g (2 + 2 * (x.toNatClampNeg : Int)) ∧ g (2 + 2 * (x.toNatClampNeg : Int)) ≤ 16 ∧ oqS g x.toNatClampNeg + g (2 + 2 * (x.toNatClampNeg : Int)) ≤ 96)) : ¬ oqI g n := fun ⟨_, _, q3, q4⟩ => by
  have hn := n_nat x
  obtain ⟨p1, p2, p3⟩ := q3 x.toNatClampNeg (by omega)
  have hm := oqS_mono q3 (x.toNatClampNeg + 1) ((g 0).toNat - (x.toNatClampNeg + 1)) (by omega)
  rw [show x.toNatClampNeg + 1 + ((g 0).toNat - (x.toNatClampNeg + 1)) = (g 0).toNat by omega] at hm
  have hs : oqS g (x.toNatClampNeg + 1) = oqS g x.toNatClampNeg + g (2 + 2 * (x.toNatClampNeg : Int)) := rfl
  exact h ⟨p1, p2, p3, by omega⟩
theorem oqI_yes {g : Int → Int} {n : Int} {x : Int32} (h : 0 ≤ g 0 ∧ g 0 ≤ 24 ∧ n = 2 * g 0 + 2) (hc : g (n - 1) = oqC g (n - 1).toNat) (hx : x.toInt = g 0) (hf : oqFt g x.toNatClampNeg) (hs : oqS g x.toNatClampNeg ≤ 96) : oqI g n := by
  have e : (g 0).toNat = x.toNatClampNeg := by rw [← hx]; exact n_nat x
  refine ⟨h, hc, ?_, ?_⟩
  · rw [e]; exact hf
  · rw [e]; exact hs
theorem oqI_not {g : Int → Int} {n : Int} {x : Int32} (hx : x.toInt = g 0) (hs : 96 < oqS g x.toNatClampNeg) : ¬ oqI g n := fun ⟨_, _, _, q4⟩ => by
  have e : (g 0).toNat = x.toNatClampNeg := by rw [← hx]; exact n_nat x
  rw [e] at q4
  omega
/-- the spare line has so many notes and ticks -/
def oqP (k m : Int) (t : oS) : Prop := ∃ c, t.2.2 0 2 = c + 1 ∧ okd c = 4 ∧ (t.1 c 4).toInt = k ∧ (t.1 c 5).toInt = m
theorem oqP_at {k m : Int} {t : oS} (h : oqP k m t) {b : Nat} (hb : t.2.2 0 2 = b + 1) : (t.1 b 4).toInt = k ∧ (t.1 b 5).toInt = m := by
  obtain ⟨c, h1, h2, h3, h4⟩ := h
  have e : c = b := by omega
  rw [← e]
  exact ⟨h3, h4⟩
theorem oqY_all {g : Int → Int} {n : Int} {t : oS} (h : oqY g n t) (ht : ∀ j : Nat, (0 : Int) ≤ (t.1 72 j).toInt ∧ (t.1 72 j).toInt ≤ 255) : ∀ j : Nat, (j : Int) < n - 1 → g j = (t.1 72 j).toInt ∧ 0 ≤ g j ∧ g j ≤ 255 := fun j hj => by
  have e : g (j : Int) = (t.1 72 j).toInt := by
    rw [← h (j : Int)]
    unfold oqT
    rw [if_pos ⟨by omega, by omega⟩, Int.toNat_natCast]
  have h2 := ht j
  exact ⟨e, by omega, by omega⟩
