theorem n_toN {x : Int32} (h : 0 ≤ x.toInt) : (x.toBitVec.toNat : Int) = x.toInt := by
  have q : x.toInt = if 2 * x.toBitVec.toNat < 2 ^ 32 then (x.toBitVec.toNat : Int) else (x.toBitVec.toNat : Int) - ((2 ^ 32 : Nat) : Int) := BitVec.toInt_eq_toNat_cond x.toBitVec
  have h2 : x.toBitVec.toNat < 2 ^ 32 := x.toBitVec.isLt
  rw [q] at h ⊢
  split at h
  · rename_i h3
    rw [if_pos h3]
  · omega
theorem n_ofN {x : Int32} {n : Nat} (h : x.toBitVec.toNat = n) (hn : n < 2147483648) : x.toInt = (n : Int) := by
  have q : x.toInt = if 2 * x.toBitVec.toNat < 2 ^ 32 then (x.toBitVec.toNat : Int) else (x.toBitVec.toNat : Int) - ((2 ^ 32 : Nat) : Int) := BitVec.toInt_eq_toNat_cond x.toBitVec
  rw [q, h, if_pos (by omega)]
/-- key: the higher bits -/
theorem n_shl17 {x y z : Int32} (h : z = x <<< (y &&& 31)) (hy : y = 17) (h1 : 0 ≤ x.toInt) (h2 : x.toInt < 2048) : z.toInt = x.toInt * 131072 := by
  have hx := n_toN h1
  have e : z.toBitVec.toNat = x.toBitVec.toNat * 2 ^ 17 % 2 ^ 32 := by rw [h, hy]; exact pk_shl x (17 &&& 31) 17 (by decide)
  have e2 : z.toBitVec.toNat = x.toBitVec.toNat * 131072 := by rw [e]; omega
  rw [n_ofN e2 (by omega)]
  omega
theorem n_or17 {x y z : Int32} {q : Int} (h : z = x ||| y) (hx : x.toInt = q * 131072) (h1 : 0 ≤ q) (h2 : q < 2048) (h3 : 0 ≤ y.toInt) (h4 : y.toInt < 131072) : z.toInt = q * 131072 + y.toInt := by
  have ex := n_toN (x := x) (by omega)
  have ey := n_toN h3
  have e : z.toBitVec.toNat = x.toBitVec.toNat ||| y.toBitVec.toNat := by
    rw [h]
    show (x.toBitVec ||| y.toBitVec).toNat = _
    exact BitVec.toNat_or ..
  have ex2 : x.toBitVec.toNat = q.toNat <<< 17 := by rw [Nat.shiftLeft_eq]; omega
  have e2 : z.toBitVec.toNat = q.toNat <<< 17 + y.toBitVec.toNat := by
    rw [e, ex2, Nat.shiftLeft_add_eq_or_of_lt (by omega)]
  rw [Nat.shiftLeft_eq] at e2
  rw [n_ofN e2 (by omega)]
  omega
theorem n_shrK {x y z : Int32} (k : Nat) (d : Int) (h : z = x >>> (y &&& 31)) (hy : y = Int32.ofNat k) (hk : ((Int32.ofNat k &&& 31).toBitVec.smod 32).toNat = k) (hd : ((2 ^ k : Nat) : Int) = d) : z.toInt = x.toInt / d := by
  have e := pk_shr x (Int32.ofNat k &&& 31) k hk
  rw [h, hy, e, Int.shiftRight_eq_div_pow, hd]
theorem n_andK {x y z : Int32} (k : Nat) (d : Int) (h : z = x &&& y) (hy : y.toBitVec.toNat = 2 ^ k - 1) (hk : 2 ^ k ≤ 64) (h1 : 0 ≤ x.toInt) (hd : ((2 ^ k : Nat) : Int) = d) : z.toInt = x.toInt % d := by
  have e : z = Int32.ofNat (x.toBitVec.toNat % 2 ^ k) := by rw [h]; exact pk_and x k hy
  have h3 := Nat.mod_lt x.toBitVec.toNat (Nat.two_pow_pos k)
  rw [n_ofNat e.symm (by omega), ← n_toN h1, ← hd]
  rfl
theorem n_or0 {x y z : Int32} (h : z = x ||| y) : z.toInt = 0 ↔ x.toInt = 0 ∧ y.toInt = 0 := by
  have e0 : ∀ w : Int32, w.toInt = 0 ↔ w.toBitVec.toNat = 0 := fun w => by
    have q : w.toInt = if 2 * w.toBitVec.toNat < 2 ^ 32 then (w.toBitVec.toNat : Int) else (w.toBitVec.toNat : Int) - ((2 ^ 32 : Nat) : Int) := BitVec.toInt_eq_toNat_cond w.toBitVec
    have h2 : w.toBitVec.toNat < 2 ^ 32 := w.toBitVec.isLt
    rw [q]
    split <;> omega
  rw [e0, e0, e0, h]
  show (x.toBitVec ||| y.toBitVec).toNat = 0 ↔ _
  rw [BitVec.toNat_or, Nat.or_eq_zero_iff]
theorem n_remE {x y z : Int32} (h : z = x - x / y * y) (h0 : 0 ≤ x.toInt) (hy : 1 ≤ y.toInt) : z.toInt = x.toInt % y.toInt := by
  have rx := n_rng x
  have ry := n_rng y
  have hq : (x / y).toInt = x.toInt / y.toInt := by
    rw [Int32.toInt_div, Int.tdiv_eq_ediv_of_nonneg h0, Int.bmod_def]
    have a1 : 0 ≤ x.toInt / y.toInt := Int.ediv_nonneg h0 (by omega)
    have a2 : x.toInt / y.toInt ≤ x.toInt := Int.ediv_le_self _ h0
    split <;> omega
  have hm : (x / y * y).toInt = x.toInt / y.toInt * y.toInt := by
    have a1 : 0 ≤ x.toInt / y.toInt * y.toInt := Int.mul_nonneg (Int.ediv_nonneg h0 (by omega)) (by omega)
    have a2 : x.toInt / y.toInt * y.toInt ≤ x.toInt := Int.ediv_mul_le _ (by omega)
    rw [Int32.toInt_mul, hq]
    generalize x.toInt / y.toInt * y.toInt = k at a1 a2
    rw [Int.bmod_def]
    split <;> omega
  have a1 : 0 ≤ x.toInt / y.toInt * y.toInt := Int.mul_nonneg (Int.ediv_nonneg h0 (by omega)) (by omega)
  have a2 : x.toInt / y.toInt * y.toInt ≤ x.toInt := Int.ediv_mul_le _ (by omega)
  rw [n_sub h (by omega) (by omega), hm, Int.emod_def, Int.mul_comm y.toInt]
