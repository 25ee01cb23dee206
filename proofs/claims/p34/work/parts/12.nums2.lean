theorem n_ushr {x y z : Int32} (k : Nat) (h : (x.toUInt32 >>> (y.toUInt32 &&& Int32.toUInt32 31)).toInt32 = z) (hs : ((y.toUInt32 &&& Int32.toUInt32 31).toBitVec % 32).toNat = k) (h1 : 1 ≤ k) (b : Nat) (hb : 2 ^ 32 / 2 ^ k = b) : 0 ≤ z.toInt ∧ z.toInt < (b : Int) := by
  have e := pk_ushr x y k hs
  rw [h] at e
  have hx : x.toBitVec.toNat < 2 ^ 32 := x.toBitVec.isLt
  have hk : 2 ≤ 2 ^ k := Nat.le_trans (by decide : 2 ≤ 2 ^ 1) (Nat.pow_le_pow_right (by decide) h1)
  have hz31 : z.toBitVec.toNat < 2 ^ 31 := by
    rw [e]
    refine (Nat.div_lt_iff_lt_mul (by omega)).mpr ?_
    have : 2 ^ 31 * 2 ≤ 2 ^ 31 * 2 ^ k := Nat.mul_le_mul_left _ hk
    omega
  have hzb : z.toBitVec.toNat < b := by
    rw [e, ← hb]
    by_cases hk32 : k ≤ 32
    · have e2 : 2 ^ 32 = 2 ^ (32 - k) * 2 ^ k := by rw [← Nat.pow_add]; congr 1; omega
      rw [e2, Nat.mul_div_cancel _ (by omega)]
      refine (Nat.div_lt_iff_lt_mul (by omega)).mpr ?_
      rw [← e2]
      exact hx
    · exfalso
      have := Nat.mod_lt ((y.toUInt32 &&& Int32.toUInt32 31).toBitVec.toNat) (by decide : 32 > 0)
      rw [BitVec.toNat_umod] at hs
      simp at hs
      omega
  have hi : z.toInt = (z.toBitVec.toNat : Int) := by
    show z.toBitVec.toInt = _
    rw [BitVec.toInt_eq_toNat_of_lt]
    omega
  omega
theorem n_xor {x y z : Int32} (h : z = x ^^^ y) : z.toInt < 0 ↔ ¬ (x.toInt < 0 ↔ y.toInt < 0) := by
  have key : ∀ a : Int32, a.toInt < 0 ↔ a.toBitVec.msb = true := fun a => by
    rw [BitVec.msb_eq_toInt]
    simp
  rw [key z, key x, key y, h, Int32.toBitVec_xor, BitVec.msb_xor]
  cases x.toBitVec.msb <;> cases y.toBitVec.msb <;> simp
theorem n_remV {x y z : Int32} (h : z = x - x / y * y) (hy : 1 ≤ y.toInt) : (0 ≤ x.toInt → 0 ≤ z.toInt ∧ z.toInt < y.toInt) ∧ (x.toInt < 0 → -y.toInt < z.toInt ∧ z.toInt ≤ 0) := by
  obtain ⟨h1, h2⟩ := n_rem h rfl hy
  refine ⟨fun h0 => ?_, fun h0 => ?_⟩
  · rw [h1 h0]
    exact ⟨Int.emod_nonneg _ (by omega), Int.emod_lt_of_pos _ (by omega)⟩
  · rw [h2 h0]
    have a := Int.emod_nonneg (-x.toInt) (show y.toInt ≠ 0 by omega)
    have b := Int.emod_lt_of_pos (-x.toInt) (show 0 < y.toInt by omega)
    omega
theorem kin0 {c : Nat} (h : okd c = 4) : c ∈ ost 0 := (by decide +kernel : ∀ c : Nat, c < oN → okd c = 4 → c ∈ ost 0) c (okd_lt h (by decide)) h
theorem kin1 {c : Nat} (h : okd c = 0) : c ∈ ost 1 := (by decide +kernel : ∀ c : Nat, c < oN → okd c = 0 → c ∈ ost 1) c (okd_lt h (by decide)) h
theorem r_pc {l : Launch} {d : Nat} {cc : ByteArray} {own : String} {nL : Nat} {ret : Option FieldType} {M : List (Nat × Nat)} {E : oE} {σ0 σ : oS} {Post : Option Value → oS → Prop} {J : oS → Nat → List (Nat × Value) → List Value → Prop} {pc : Nat} {lv : List (Nat × Value)} {st : List Value} (_ : oC l d cc own nL ret M E σ0 Post J) (pc' : Nat) (h : pc = pc') (kk : J σ pc' lv st) : J σ pc lv st := h ▸ kk
theorem n_fitz {x : Int32} (h : x.toInt = 0 ∨ x.toInt = 1) : fits .boolean (.int x) = true := by
  rcases h with h | h
  · have : x = 0 := Int32.toInt_inj.mp (by rw [h]; rfl)
    subst this; decide
  · have : x = 1 := Int32.toInt_inj.mp (by rw [h]; rfl)
    subst this; decide
theorem pR_ne (σ : oS) {c k a b : Nat} (v : Nat) (h : a ≠ c ∨ b ≠ k) : (pR σ c k v).2.2 a b = σ.2.2 a b := by
  unfold pR
  by_cases h1 : a = c
  · have h2 : b ≠ k := h.resolve_left (fun z => z h1)
    simp [h1, h2]
  · simp [h1]
theorem r_getK {l : Launch} {d : Nat} {cc : ByteArray} {own : String} {nL : Nat} {ret : Option FieldType} {M : List (Nat × Nat)} {E : oE} {σ0 σ : oS} {Post : Option Value → oS → Prop} {J : oS → Nat → List (Nat × Value) → List Value → Prop} {pc : Nat} {lv : List (Nat × Value)} {st : List Value} (C : oC l d cc own nL ret M E σ0 Post J) {a k q index b : Nat} {Cn ref : String} {T : u_T} {ty : Nat → FieldType} (K : oCl q Cn T ty) (hq : okd a = q) (hk : k < onf q) (hlink : Cond.fieldLink own index ref (T k).2.1 (T k).2.2.1 ∈ oTB) (hsame : (T k).1 = ref) (h0 : oft q k = 2) (hv : σ.2.2 a k = b + 1) (hd : decode cc pc = .ok (.getfield index, 3)) (kk : J σ (pc + 3) lv (.ref (oad E b) :: st)) : J σ pc lv (.ref (oad E a) :: st) := by
  obtain ⟨p, e, s, m, args, below, meth, c, A, hx, hb, hml, hr, hlk, hown, hts, hNs, hXs, hK, hA, rfl⟩ := C
  intro hT hF ls H locs hl hW
  obtain ⟨hP, hD, hS⟩ := id hW
  obtain ⟨hc, h13, hin, hty, hnm⟩ := K
  have haN : a < oN := okd_lt hq (by omega)
  have he : (owl E σ)[a]? = some (oad E a, .inr (q, ofs E σ a)) := by rw [owl_at haN, oel_obj hq h13]
  exact va_get hx hb hts hin hown hK hP a he hc k hk (hts _ hlink) (fun x h => by rw [← hsame]; exact h) (v := .ref (oad E b)) (by rw [ofs_at hq hk, h0]; show some (ovr E (σ.2.2 a k)) = _; rw [hv]; rfl) hd (kk hT hF ls H locs hl hW)
