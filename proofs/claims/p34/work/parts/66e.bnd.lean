/-! DRAFT for p10, not compiled yet: how many followers lie within the bounds, counted and multiplied. -/
def oC1 (f : Nat → Int) : Nat → Int
  | 0 => 0
  | n + 1 => oC1 f n + f n
theorem oC1_congr {f g : Nat → Int} : ∀ {n : Nat}, (∀ j, j < n → f j = g j) → oC1 f n = oC1 g n
  | 0, _ => rfl
  | n + 1, h => by
    show oC1 f n + f n = oC1 g n + g n
    rw [oC1_congr (n := n) (fun j hj => h j (by omega)), h n (by omega)]
theorem oC1_add (f : Nat → Int) (a : Nat) : ∀ b : Nat, oC1 f (a + b) = oC1 f a + oC1 (fun s => f (a + s)) b
  | 0 => by simp [oC1]
  | b + 1 => by
    show oC1 f (a + b) + f (a + b) = oC1 f a + (oC1 (fun s => f (a + s)) b + f (a + b))
    rw [oC1_add f a b]
    omega
theorem oC1_mul (k : Int) (f : Nat → Int) : ∀ n : Nat, oC1 (fun s => k * f s) n = k * oC1 f n
  | 0 => by simp [oC1]
  | n + 1 => by
    show oC1 (fun s => k * f s) n + k * f n = k * (oC1 f n + f n)
    rw [oC1_mul k f n, Int.mul_add]
theorem oC1_blk {B : Nat} {f w g : Nat → Int} (h : ∀ m s, s < B → f (B * m + s) = w m * g s) : ∀ n : Nat, oC1 f (B * n) = oC1 w n * oC1 g B
  | 0 => by simp [oC1]
  | n + 1 => by
    rw [show B * (n + 1) = B * n + B from Nat.mul_succ B n, oC1_add, oC1_blk h n, oC1_congr (g := fun s => w n * g s) (fun s hs => h n s hs), oC1_mul]
    show oC1 w n * oC1 g B + w n * oC1 g B = (oC1 w n + w n) * oC1 g B
    rw [Int.add_mul]
/-- a shape is among the kinds -/
def oAl (K s : Int) : Int := if s / 6 % 2 ≤ K % 2 ∧ s / 3 % 2 ≤ K / 2 % 2 ∧ (s % 3 = 1 → K / 4 % 2 = 1) ∧ (s % 3 = 2 → K / 8 % 2 = 1) then 1 else 0
/-- a code lies within the bounds -/
def oBd (D S K c : Int) : Int := if c ≠ 84 ∧ c / 180 ≤ D ∧ -S ≤ c / 12 % 15 - 7 ∧ c / 12 % 15 - 7 ≤ S ∧ oAl K (c % 12) = 1 then 1 else 0
def oV1 (D : Int) (d : Nat) : Int := if (d : Int) ≤ D then 1 else 0
def oV2 (S : Int) (h : Nat) : Int := if -S ≤ (h : Int) - 7 ∧ (h : Int) - 7 ≤ S then 1 else 0
theorem oAl_01 (K s : Int) : oAl K s = 0 ∨ oAl K s = 1 := by
  unfold oAl
  split
  · right; rfl
  · left; rfl
theorem oV1_sum {D : Int} (h0 : 0 ≤ D) : ∀ n : Nat, oC1 (oV1 D) n = if (n : Int) ≤ D + 1 then (n : Int) else D + 1
  | 0 => by simp [oC1]; omega
  | n + 1 => by
    show oC1 (oV1 D) n + oV1 D n = _
    rw [oV1_sum h0 n]
    unfold oV1
    repeat' split
    all_goals omega
theorem oV2_sum {S : Int} (h0 : 0 ≤ S) (h7 : S ≤ 7) : ∀ n : Nat, n ≤ 15 → oC1 (oV2 S) n = if (n : Int) ≤ 7 - S then 0 else if (n : Int) ≤ 8 + S then (n : Int) - (7 - S) else 2 * S + 1
  | 0, _ => by simp [oC1]; omega
  | n + 1, hn => by
    show oC1 (oV2 S) n + oV2 S n = _
    rw [oV2_sum h0 h7 n (by omega)]
    unfold oV2
    repeat' split
    all_goals omega
def oG1 (D S K : Int) (c : Nat) : Int := oV1 D (c / 12 / 15) * oV2 S (c / 12 % 15) * oAl K ((c % 12 : Nat) : Int)
theorem oG1_sum {D S K : Int} (hD : 0 ≤ D ∧ D ≤ 24) (hS : 0 ≤ S ∧ S ≤ 7) : oC1 (oG1 D S K) 4500 = (D + 1) * (2 * S + 1) * oC1 (fun s => oAl K (s : Int)) 12 := by
  have h1 : oC1 (oG1 D S K) (12 * 375) = oC1 (fun m => oV1 D (m / 15) * oV2 S (m % 15)) 375 * oC1 (fun s => oAl K (s : Int)) 12 := oC1_blk (fun m s hs => by
    unfold oG1
    rw [show (12 * m + s) / 12 = m by omega, show (12 * m + s) % 12 = s by omega]) 375
  have h2 : oC1 (fun m => oV1 D (m / 15) * oV2 S (m % 15)) (15 * 25) = oC1 (oV1 D) 25 * oC1 (oV2 S) 15 := oC1_blk (fun m s hs => by
    show oV1 D ((15 * m + s) / 15) * oV2 S ((15 * m + s) % 15) = _
    rw [show (15 * m + s) / 15 = m by omega, show (15 * m + s) % 15 = s by omega]) 25
  have e1 : oC1 (oV1 D) 25 = D + 1 := by
    rw [oV1_sum hD.1]
    split <;> omega
  have e2 : oC1 (oV2 S) 15 = 2 * S + 1 := by
    rw [oV2_sum hS.1 hS.2 15 (by omega)]
    repeat' split
    all_goals omega
  rw [show (375 : Nat) = 15 * 25 from rfl, h2, e1, e2] at h1
  exact h1
theorem oBd_G {D S K : Int} (hD : 0 ≤ D ∧ D ≤ 24) (hS : 0 ≤ S ∧ S ≤ 7) (c : Nat) : oBd D S K (c : Int) = oG1 D S K c - (if c = 84 then 1 else 0) := by
  have e1 : ((c : Int) % 12) = ((c % 12 : Nat) : Int) := by omega
  have h84 : oAl K 0 = 1 := by
    unfold oAl
    rw [if_pos (by omega)]
  unfold oBd oG1 oV1 oV2
  rw [e1]
  by_cases hc : c = 84
  · subst hc
    rw [if_neg (by omega)]
    show _ = _ * oAl K 0 - _
    rw [h84, if_pos (by omega), if_pos (by omega)]
    simp
  · rcases oAl_01 K ((c % 12 : Nat) : Int) with h | h
    · rw [h, if_neg (by omega)]
      simp [hc]
    · rw [h]
      repeat' split
      all_goals (first | omega | (simp; omega) | simp_all)
theorem oBd_cnt {D S K : Int} (hD : 0 ≤ D ∧ D ≤ 24) (hS : 0 ≤ S ∧ S ≤ 7) : ∀ n : Nat, oC1 (fun c => oBd D S K (c : Int)) n = oC1 (oG1 D S K) n - (if 84 < n then 1 else 0)
  | 0 => by simp [oC1]
  | n + 1 => by
    show oC1 (fun c => oBd D S K (c : Int)) n + oBd D S K (n : Int) = oC1 (oG1 D S K) n + oG1 D S K n - _
    rw [oBd_cnt hD hS n, oBd_G hD hS n]
    repeat' split
    all_goals omega
theorem oBd_all {D S K : Int} (hD : 0 ≤ D ∧ D ≤ 24) (hS : 0 ≤ S ∧ S ≤ 7) : oC1 (fun c => oBd D S K (c : Int)) 4500 = (D + 1) * (2 * S + 1) * oC1 (fun s => oAl K (s : Int)) 12 - 1 := by
  rw [oBd_cnt hD hS 4500, oG1_sum hD hS]
  rfl
theorem oC1_nx {f : Nat → Int} {x y : Int32} (h0 : 0 ≤ x.toInt) (h : y.toInt = x.toInt + 1) : oC1 f y.toNatClampNeg = oC1 f x.toNatClampNeg + f x.toNatClampNeg := by
  have e1 := n_nat x
  have e2 := n_nat y
  rw [show y.toNatClampNeg = x.toNatClampNeg + 1 by omega]
  rfl
theorem oC1_x0 {f : Nat → Int} {x : Int32} (h : x.toInt = 0) : oC1 f x.toNatClampNeg = 0 := by
  have e1 := n_nat x
  rw [show x.toNatClampNeg = 0 by omega]
  rfl
/-- the bits that are not among the kinds -/
theorem n_nand {x y m w z : Int32} (hw : w = y ^^^ m) (hm : m.toInt = -1) (hz : z = x &&& w) (hx : 0 ≤ x.toInt ∧ x.toInt ≤ 15) (hy : 0 ≤ y.toInt ∧ y.toInt ≤ 15) : (z.toInt = 0 ↔ (x.toInt % 2 ≤ y.toInt % 2 ∧ x.toInt / 2 % 2 ≤ y.toInt / 2 % 2 ∧ x.toInt / 4 % 2 ≤ y.toInt / 4 % 2 ∧ x.toInt / 8 % 2 ≤ y.toInt / 8 % 2)) := by
  have key : ∀ a : Nat, a < 16 → ∀ b : Nat, b < 16 → (((Int32.ofNat a) &&& ((Int32.ofNat b) ^^^ (-1))).toInt = 0 ↔ ((a : Int) % 2 ≤ (b : Int) % 2 ∧ (a : Int) / 2 % 2 ≤ (b : Int) / 2 % 2 ∧ (a : Int) / 4 % 2 ≤ (b : Int) / 4 % 2 ∧ (a : Int) / 8 % 2 ≤ (b : Int) / 8 % 2)) := by decide +kernel
  have em : m = -1 := Int32.toInt_inj.mp (by rw [hm]; rfl)
  have ex : x = Int32.ofNat x.toInt.toNat := by
    apply Int32.toInt_inj.mp
    rw [n_ofNat (z := Int32.ofNat x.toInt.toNat) rfl (by omega)]
    omega
  have ey : y = Int32.ofNat y.toInt.toNat := by
    apply Int32.toInt_inj.mp
    rw [n_ofNat (z := Int32.ofNat y.toInt.toNat) rfl (by omega)]
    omega
  have h := key x.toInt.toNat (by omega) y.toInt.toNat (by omega)
  rw [show ((x.toInt.toNat : Nat) : Int) = x.toInt by omega, show ((y.toInt.toNat : Nat) : Int) = y.toInt by omega] at h
  rw [hz, hw, em, ex, ey]
  rw [← ex, ← ey] at h ⊢
  exact h
theorem n_mulB {x y z : Int32} {a b : Int} (h : z = x * y) (hx : 0 ≤ x.toInt ∧ x.toInt ≤ a) (hy : 0 ≤ y.toInt ∧ y.toInt ≤ b) (hab : a * b ≤ 2147483647) : z.toInt = x.toInt * y.toInt ∧ 0 ≤ z.toInt ∧ z.toInt ≤ a * b := by
  have h0 : 0 ≤ x.toInt * y.toInt := Int.mul_nonneg hx.1 hy.1
  have h1 : x.toInt * y.toInt ≤ a * b := Int.mul_le_mul hx.2 hy.2 hy.1 (by omega)
  have e := n_mul h (by omega) (by omega)
  rw [e]
  exact ⟨rfl, h0, h1⟩
def oBF (D S K : Int) : Int := (D + 1) * (2 * S + 1) * oC1 (fun s => oAl K (s : Int)) 12 - 1
theorem oBF_of {D S K x y p a q r : Int} (hx : x = D + 1) (hy : y = 2 * S + 1) (hp : p = x * y) (ha : a = oC1 (fun s => oAl K (s : Int)) 12) (hq : q = p * a) (hr : r = q - 1) : r = oBF D S K := by
  unfold oBF
  rw [hr, hq, hp, hx, hy, ha]
theorem o_12 {s : Int} (h : 0 ≤ s ∧ s ≤ 11) : s = 0 ∨ s = 1 ∨ s = 2 ∨ s = 3 ∨ s = 4 ∨ s = 5 ∨ s = 6 ∨ s = 7 ∨ s = 8 ∨ s = 9 ∨ s = 10 ∨ s = 11 := by omega
theorem oAl_rk1 {K s n : Int} (hs : 0 ≤ s ∧ s ≤ 11) (hn : (s % 3 = 0 ∧ n = s / 6 % 2 + s / 3 % 2 * 2) ∨ (s % 3 = 1 ∧ n = s / 6 % 2 + s / 3 % 2 * 2 + 4) ∨ (s % 3 = 2 ∧ n = s / 6 % 2 + s / 3 % 2 * 2 + 8)) (h : n % 2 ≤ K % 2 ∧ n / 2 % 2 ≤ K / 2 % 2 ∧ n / 4 % 2 ≤ K / 4 % 2 ∧ n / 8 % 2 ≤ K / 8 % 2) : oAl K s = 1 := by
  unfold oAl
  rw [if_pos]
  rcases o_12 hs with e | e | e | e | e | e | e | e | e | e | e | e <;> subst e <;> refine ⟨?_, ?_, ?_, ?_⟩ <;> omega
theorem oAl_rk0 {K s n : Int} (hs : 0 ≤ s ∧ s ≤ 11) (hn : (s % 3 = 0 ∧ n = s / 6 % 2 + s / 3 % 2 * 2) ∨ (s % 3 = 1 ∧ n = s / 6 % 2 + s / 3 % 2 * 2 + 4) ∨ (s % 3 = 2 ∧ n = s / 6 % 2 + s / 3 % 2 * 2 + 8)) (h : ¬ (n % 2 ≤ K % 2 ∧ n / 2 % 2 ≤ K / 2 % 2 ∧ n / 4 % 2 ≤ K / 4 % 2 ∧ n / 8 % 2 ≤ K / 8 % 2)) : oAl K s = 0 := by
  unfold oAl
  rw [if_neg]
  intro h2
  apply h
  rcases o_12 hs with e | e | e | e | e | e | e | e | e | e | e | e <;> subst e <;> refine ⟨?_, ?_, ?_, ?_⟩ <;> omega
theorem oBd_n1 {D S K c : Int} (h : c = 84 ∨ D < c / 180 ∨ c / 12 % 15 - 7 < -S ∨ S < c / 12 % 15 - 7) : oBd D S K c = 0 := by
  unfold oBd
  rw [if_neg]
  intro h2
  obtain ⟨a, b, c, d, -⟩ := h2
  omega
theorem oBd_n2 {D S K c : Int} (h : (c / 6 % 2 = 1 ∧ K % 2 = 0) ∨ (c / 3 % 2 = 1 ∧ K / 2 % 2 = 0)) : oBd D S K c = 0 := by
  unfold oBd
  rw [if_neg]
  intro h2
  have h3 := h2.2.2.2.2
  unfold oAl at h3
  rw [if_neg] at h3
  · exact absurd h3 (by decide)
  · intro h4
    obtain ⟨a, b, -⟩ := h4
    omega
theorem oBd_rk0 {D S K c : Int} (_ : c ≠ 84) (_ : c / 180 ≤ D) (_ : -S ≤ c / 12 % 15 - 7) (_ : c / 12 % 15 - 7 ≤ S) (_ : c / 6 % 2 ≠ 1 ∨ K % 2 ≠ 0) (_ : c / 3 % 2 ≠ 1 ∨ K / 2 % 2 ≠ 0) (_ : c % 3 ≠ 0) (h : (c % 3 = 1 ∧ K / 4 % 2 ≠ 1) ∨ (c % 3 = 2 ∧ K / 8 % 2 ≠ 1)) : oBd D S K c = 0 := by
  unfold oBd
  rw [if_neg]
  intro h2
  have h3 := h2.2.2.2.2
  unfold oAl at h3
  rw [if_neg] at h3
  · exact absurd h3 (by decide)
  · intro h4
    obtain ⟨-, -, a, b⟩ := h4
    omega
theorem oBd_rk1 {D S K c : Int} (h1 : c ≠ 84) (h2 : c / 180 ≤ D) (h3 : -S ≤ c / 12 % 15 - 7) (h4 : c / 12 % 15 - 7 ≤ S) (h5 : c / 6 % 2 ≠ 1 ∨ K % 2 ≠ 0) (h6 : c / 3 % 2 ≠ 1 ∨ K / 2 % 2 ≠ 0) (_ : 0 ≤ c) (h : c % 3 = 0 ∨ (c % 3 = 1 ∧ K / 4 % 2 = 1) ∨ (c % 3 = 2 ∧ K / 8 % 2 = 1)) : oBd D S K c = 1 := by
  have e1 : c % 12 / 6 % 2 = c / 6 % 2 := by omega
  have e2 : c % 12 / 3 % 2 = c / 3 % 2 := by omega
  have e3 : c % 12 % 3 = c % 3 := by omega
  have ha : oAl K (c % 12) = 1 := by
    unfold oAl
    rw [if_pos]
    rw [e1, e2, e3]
    refine ⟨by omega, by omega, by omega, by omega⟩
  unfold oBd
  rw [if_pos ⟨h1, h2, h3, h4, ha⟩]
