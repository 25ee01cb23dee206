def okdL : List Nat := [11, 8, 15, 4, 16, 17, 18, 19, 4, 16, 17, 18, 19, 4, 16, 17, 18, 19, 0, 20, 21, 22, 23, 24, 0, 20, 21, 22, 23, 24, 5, 2, 25, 26, 27, 1, 28, 29, 30, 31, 9, 9, 9, 10, 32, 33, 34, 35, 36, 37, 38, 9, 7, 39, 40, 41, 3, 42, 43, 44, 45, 6, 46, 47, 9, 6, 46, 47, 9, 13, 14, 12, 48, 49, 50, 51, 52, 53, 54, 55, 56, 57, 58, 59, 60, 61, 62, 63, 64, 65, 66, 67, 68, 69, 70, 71, 72, 73, 74, 75, 76, 77, 78, 79, 80, 81, 82, 83, 84, 85, 86, 87, 88, 89, 90, 91, 92, 93]
def okd (c : Nat) : Nat := okdL.getD c 999
def oN : Nat := 118
def onf (q : Nat) : Nat := ([9, 9, 4, 9, 8, 10, 4, 6, 2, 5, 13, 18, 82] : List Nat).getD q 0
def oft (q k : Nat) : Nat := (([[2, 0, 2, 2, 2, 2, 0, 0, 0], [2, 2, 2, 2, 2, 2, 0, 0, 0], [2, 2, 2, 2], [0, 0, 0, 2, 2, 2, 2, 2, 2], [2, 2, 2, 2, 0, 0, 0, 0], [2, 2, 0, 0, 0, 0, 0, 0, 0, 0], [2, 2, 0, 2], [0, 2, 2, 2, 0, 0], [2, 0], [0, 0, 0, 0, 0], [0, 0, 0, 0, 0, 2, 2, 2, 2, 2, 2, 2, 2], [2, 2, 2, 2, 2, 2, 2, 2, 2, 2, 2, 2, 2, 2, 0, 2, 0, 0], [2, 0, 0, 0, 0, 0, 0, 0, 0, 0, 2, 2, 2, 2, 2, 2, 2, 2, 2, 2, 2, 2, 2, 2, 2, 2, 2, 2, 2, 2, 2, 2, 2, 2, 2, 2, 0, 0, 0, 2, 2, 2, 0, 0, 2, 0, 2, 0, 0, 2, 2, 2, 2, 0, 0, 0, 0, 2, 0, 2, 0, 0, 0, 0, 0, 0, 0, 0, 0, 0, 2, 0, 2, 2, 2, 2, 2, 0, 2, 1, 2, 0]] : List (List Nat)).getD q []).getD k 0
def oat (q : Nat) : Nat := ([0, 0, 0, 0, 0, 0, 0, 0, 0, 0, 0, 0, 0, 0, 0, 0, 0, 0, 0, 0, 0, 0, 0, 0, 0, 0, 3, 0, 0, 0, 0, 0, 0, 0, 0, 0, 1, 1, 1, 1, 1, 1, 1, 1, 1, 1, 1, 1, 1, 1, 1, 1, 1, 1, 1, 1, 1, 1, 1, 1, 1, 1, 0, 0, 0, 0, 0, 0, 0, 0, 3, 3, 0, 0, 2, 0, 0, 0, 0, 0, 0] : List Nat).getD (q - 13) 0
def oln (q : Nat) : Nat := ([50, 672, 1600, 24, 24, 24, 96, 1600, 18, 18, 36, 64, 4096, 4096, 8, 48, 48, 48, 48, 4500, 4500, 12, 12, 180, 64, 5, 40, 780, 9880, 4500, 4500, 1024, 4500, 25, 25, 1600, 4, 3, 4, 7, 3, 5, 4, 2, 3, 3, 3, 3, 4, 5, 4, 4, 5, 3, 4, 5, 4, 6, 4, 4, 3, 3, 48, 48, 96, 3200, 1700, 4, 48, 48, 12, 1700, 8, 4500, 1600, 3, 30, 24, 24, 4, 60] : List Nat).getD (q - 13) 0
def olo (q k : Nat) : Int := if q < 13 then (([[-2147483648, 0, -2147483648, -2147483648, -2147483648, -2147483648, 2, 0, 0], [-2147483648, -2147483648, -2147483648, -2147483648, -2147483648, -2147483648, 0, -2147483648, -2147483648], [-2147483648, -2147483648, -2147483648, -2147483648], [0, -2147483648, 0, -2147483648, -2147483648, -2147483648, -2147483648, -2147483648, -2147483648], [-2147483648, -2147483648, -2147483648, -2147483648, 0, 0, -2147483648, 0], [-2147483648, -2147483648, 0, -1, 0, 0, -2147483648, -2147483648, -2147483648, -2147483648], [-2147483648, -2147483648, 0, -2147483648], [0, -2147483648, -2147483648, -2147483648, 0, 0], [-2147483648, 0], [-2147483648, -2147483648, -2147483648, -2147483648, -2147483648], [0, 0, 0, 0, 0, -2147483648, -2147483648, -2147483648, -2147483648, -2147483648, -2147483648, -2147483648, -2147483648], [-2147483648, -2147483648, -2147483648, -2147483648, -2147483648, -2147483648, -2147483648, -2147483648, -2147483648, -2147483648, -2147483648, -2147483648, -2147483648, -2147483648, 0, -2147483648, 0, -2147483648], [-2147483648, 0, 0, 0, -1, -2147483648, -2147483648, -2147483648, -2147483648, -2147483648, -2147483648, -2147483648, -2147483648, -2147483648, -2147483648, -2147483648, -2147483648, -2147483648, -2147483648, -2147483648, -2147483648, -2147483648, -2147483648, -2147483648, -2147483648, -2147483648, -2147483648, -2147483648, -2147483648, -2147483648, -2147483648, -2147483648, -2147483648, -2147483648, -2147483648, -2147483648, -2147483648, 0, 0, -2147483648, -2147483648, -2147483648, 0, -2147483648, -2147483648, 0, -2147483648, 0, -1, -2147483648, -2147483648, -2147483648, -2147483648, 2, -2147483648, 0, 0, -2147483648, 0, -2147483648, -2147483648, -2147483648, -2147483648, -2147483648, -2147483648, -2147483648, 0, 0, 0, 0, -2147483648, 0, -2147483648, -2147483648, -2147483648, -2147483648, -2147483648, 0, -2147483648, -2147483648, -2147483648, 0]] : List (List Int)).getD q []).getD k (-2147483648) else ([-2147483648, -2147483648, 0, -2147483648, -2147483648, -2147483648, -2147483648, -2147483648, 0, -2147483648, -2147483648, -2147483648, -2147483648, -2147483648, -2147483648, -2147483648, -2147483648, -2147483648, -2147483648, 0, -2147483648, -2147483648, -2147483648, -2147483648, -2147483648, -2147483648, -2147483648, -2147483648, -2147483648, -2147483648, -2147483648, -2147483648, -2147483648, -2147483648, -2147483648, 0, 0, 0, 0, 0, 0, 0, 0, 0, 0, 0, 0, 0, 0, 0, 0, 0, 0, 0, 0, 0, 0, 0, 0, 0, 0, 0, -2147483648, 0, 0, -2147483648, -2147483648, 0, 0, 0, -2147483648, -2147483648, -2147483648, 0, 0, -2147483648, -2147483648, -2147483648, 0, -2147483648, -2147483648] : List Int).getD (q - 13) (-2147483648)
def ohi (q k : Nat) : Int := if q < 13 then (([[2147483647, 1600, 2147483647, 2147483647, 2147483647, 2147483647, 12, 12, 6], [2147483647, 2147483647, 2147483647, 2147483647, 2147483647, 2147483647, 48, 2147483647, 2147483647], [2147483647, 2147483647, 2147483647, 2147483647], [1, 2147483647, 4500, 2147483647, 2147483647, 2147483647, 2147483647, 2147483647, 2147483647], [2147483647, 2147483647, 2147483647, 2147483647, 24, 96, 2147483647, 1], [2147483647, 2147483647, 1600, 1600, 1600, 6, 2147483647, 2147483647, 2147483647, 2147483647], [2147483647, 2147483647, 25, 2147483647], [1, 2147483647, 2147483647, 2147483647, 780, 9880], [2147483647, 1600], [2147483647, 2147483647, 2147483647, 2147483647, 2147483647], [24, 7, 15, 1, 4500, 2147483647, 2147483647, 2147483647, 2147483647, 2147483647, 2147483647, 2147483647, 2147483647], [2147483647, 2147483647, 2147483647, 2147483647, 2147483647, 2147483647, 2147483647, 2147483647, 2147483647, 2147483647, 2147483647, 2147483647, 2147483647, 2147483647, 50, 2147483647, 672, 2147483647], [2147483647, 1600, 1600, 1600, 1600, 2147483647, 2147483647, 2147483647, 2147483647, 2147483647, 2147483647, 2147483647, 2147483647, 2147483647, 2147483647, 2147483647, 2147483647, 2147483647, 2147483647, 2147483647, 2147483647, 2147483647, 2147483647, 2147483647, 2147483647, 2147483647, 2147483647, 2147483647, 2147483647, 2147483647, 2147483647, 2147483647, 2147483647, 2147483647, 2147483647, 2147483647, 2147483647, 60, 24, 2147483647, 2147483647, 2147483647, 96, 2147483647, 2147483647, 1600, 2147483647, 1700, 7, 2147483647, 2147483647, 2147483647, 2147483647, 12, 2147483647, 1700, 1, 2147483647, 1700, 2147483647, 2147483647, 2147483647, 2147483647, 2147483647, 2147483647, 2147483647, 24, 7, 15, 1, 2147483647, 4500, 2147483647, 2147483647, 2147483647, 2147483647, 2147483647, 24, 2147483647, 2147483647, 2147483647, 60]] : List (List Int)).getD q []).getD k 2147483647 else ([2147483647, 2147483647, 255, 2147483647, 2147483647, 2147483647, 2147483647, 2147483647, 1600, 2147483647, 2147483647, 2147483647, 2147483647, 2147483647, 2147483647, 2147483647, 2147483647, 2147483647, 2147483647, 4499, 2147483647, 2147483647, 2147483647, 2147483647, 2147483647, 2147483647, 2147483647, 2147483647, 2147483647, 2147483647, 2147483647, 2147483647, 2147483647, 2147483647, 2147483647, 255, 65535, 65535, 65535, 65535, 65535, 65535, 65535, 65535, 65535, 65535, 65535, 65535, 65535, 65535, 65535, 65535, 65535, 65535, 65535, 65535, 65535, 65535, 65535, 65535, 65535, 65535, 2147483647, 9999, 23, 2147483647, 2147483647, 12, 1600, 1600, 2147483647, 2147483647, 2147483647, 4499, 1, 2147483647, 2147483647, 2147483647, 9999, 2147483647, 2147483647] : List Int).getD (q - 13) 2147483647
def ort (q k : Nat) : Nat × Nat := (([[(1, 1), (9, 0), (1, 2), (1, 3), (1, 4), (1, 5), (9, 0), (9, 0), (9, 0)], [(0, 36), (0, 37), (0, 38), (0, 39), (0, 40), (0, 41), (9, 0), (9, 0), (9, 0)], [(0, 32), (0, 33), (0, 34), (2, 1)], [(9, 0), (9, 0), (9, 0), (0, 57), (0, 58), (0, 59), (0, 60), (0, 61), (0, 65)], [(1, 1), (1, 2), (1, 3), (1, 4), (9, 0), (9, 0), (9, 0), (9, 0)], [(0, 1), (2, 1), (9, 0), (9, 0), (9, 0), (9, 0), (9, 0), (9, 0), (9, 0), (9, 0)], [(1, 1), (1, 2), (9, 0), (1, 3)], [(9, 0), (0, 53), (0, 54), (0, 55), (9, 0), (9, 0)], [(0, 2), (9, 0)], [(9, 0), (9, 0), (9, 0), (9, 0), (9, 0)], [(9, 0), (9, 0), (9, 0), (9, 0), (9, 0), (0, 44), (0, 45), (0, 46), (0, 47), (0, 48), (0, 49), (0, 50), (0, 51)], [(0, 1), (2, 0), (2, 0), (2, 0), (2, 1), (2, 1), (0, 30), (0, 31), (0, 35), (0, 42), (0, 43), (0, 52), (0, 56), (0, 69), (9, 0), (0, 70), (9, 0), (9, 0)], [(0, 72), (9, 0), (9, 0), (9, 0), (9, 0), (9, 0), (9, 0), (9, 0), (9, 0), (9, 0), (0, 73), (0, 74), (0, 75), (0, 76), (0, 77), (0, 78), (0, 79), (0, 80), (0, 81), (0, 82), (0, 83), (0, 84), (0, 85), (0, 86), (0, 87), (0, 88), (0, 89), (0, 90), (0, 91), (0, 92), (0, 93), (0, 94), (0, 95), (0, 96), (0, 97), (0, 98), (9, 0), (9, 0), (9, 0), (0, 99), (0, 100), (0, 101), (9, 0), (9, 0), (0, 102), (9, 0), (0, 103), (9, 0), (9, 0), (0, 104), (0, 105), (0, 106), (0, 107), (9, 0), (9, 0), (9, 0), (9, 0), (0, 108), (9, 0), (0, 109), (9, 0), (9, 0), (9, 0), (9, 0), (9, 0), (9, 0), (9, 0), (9, 0), (9, 0), (9, 0), (0, 110), (9, 0), (0, 111), (0, 112), (0, 113), (0, 114), (0, 115), (9, 0), (0, 116), (9, 0), (0, 117), (9, 0)]] : List (List (Nat × Nat))).getD q []).getD k (9, 0)
def ost (j : Nat) : List Nat := ([[3, 8, 13], [18, 24]] : List (List Nat)).getD j []

abbrev oS : Type := (Nat → Nat → Int32) × (Nat → Nat → Int64) × (Nat → Nat → Nat)
abbrev oE : Type := (Nat → ClassId) × (Nat → ClassId) × (Nat → Nat → Nat) × (Nat → Nat) × (Nat × Nat)
abbrev oad (E : oE) : Nat → Nat := E.2.2.2.1
abbrev oks (E : oE) : Nat := E.2.2.2.2.1
abbrev okv (E : oE) : Nat := E.2.2.2.2.2
abbrev oD (E : oE) : va_G := (E.2.1, E.2.2.1)
def otys (E : oE) : List (ClassId × FieldType) := [(E.1 0, .int), (E.1 1, .char), (E.1 2, .boolean), (E.1 3, .long)]
/-- a reference by the number of its cell and one; 0 is null -/
def ovr (E : oE) (r : Nat) : Value := match r with
  | 0 => .null
  | c + 1 => .ref (oad E c)
def oval (E : oE) (σ : oS) (c t k : Nat) : Value := if t = 0 then .int (σ.1 c k) else if t = 1 then .long (σ.2.1 c k) else ovr E (σ.2.2 c k)
def ofs (E : oE) (σ : oS) (c : Nat) : List Value := (List.range (onf (okd c))).map fun k => oval E σ c (oft (okd c) k) k
def oel (E : oE) (σ : oS) (c : Nat) : va_E := if okd c < 13 then .inr (okd c, ofs E σ c) else if oat (okd c) = 3 then .inl (E.1 3, oln (okd c), .inr (.inl (σ.2.1 c))) else .inl (E.1 (oat (okd c)), oln (okd c), .inl (σ.1 c))
def owl (E : oE) (σ : oS) : va_W := (List.range oN).map fun c => (oad E c, oel E σ c)
theorem okd_lt {c q : Nat} (h : okd c = q) (hq : q < 999) : c < oN := by
  by_cases hc : c < oN
  · exact hc
  · have h1 : okdL[c]? = none := List.getElem?_eq_none (by have : okdL.length = oN := rfl; omega)
    have h2 : okd c = 999 := by unfold okd; rw [List.getD_eq_getElem?_getD, h1]; rfl
    omega
theorem owl_at {E : oE} {σ : oS} {c : Nat} (hc : c < oN) : (owl E σ)[c]? = some (oad E c, oel E σ c) := by
  unfold owl
  rw [List.getElem?_map, List.getElem?_range hc]
  rfl
theorem owl_of {E : oE} {σ : oS} {k : Nat} {q : Nat × va_E} (h : (owl E σ)[k]? = some q) : k < oN ∧ q = (oad E k, oel E σ k) := by
  have hk : k < oN := by
    have := (List.getElem?_eq_some_iff.mp h).1
    simpa [owl] using this
  rw [owl_at hk] at h
  exact ⟨hk, (Option.some.inj h).symm⟩
theorem owl_set {E : oE} {σ τ : oS} {c : Nat} {x : va_E} (hc : c < oN) (hx : oel E τ c = x) (ho : ∀ a, a ≠ c → oel E τ a = oel E σ a) : (owl E σ).set c (oad E c, x) = owl E τ := by
  apply List.ext_getElem?
  intro i
  by_cases hi : i = c
  · subst hi
    rw [List.getElem?_set_self (by simpa [owl] using hc), owl_at hc, hx]
  · rw [List.getElem?_set_ne (Ne.symm hi)]
    by_cases hN : i < oN
    · rw [owl_at hN, owl_at hN, ho i hi]
    · rw [List.getElem?_eq_none (by simpa [owl] using Nat.le_of_not_lt hN), List.getElem?_eq_none (by simpa [owl] using Nat.le_of_not_lt hN)]
/-- the state with another int, long, reference in a slot -/
def pI (σ : oS) (c k : Nat) (v : Int32) : oS := (fun a b => if a = c then (if b = k then v else σ.1 a b) else σ.1 a b, σ.2)
def pL (σ : oS) (c k : Nat) (v : Int64) : oS := (σ.1, fun a b => if a = c then (if b = k then v else σ.2.1 a b) else σ.2.1 a b, σ.2.2)
def pR (σ : oS) (c k : Nat) (v : Nat) : oS := (σ.1, σ.2.1, fun a b => if a = c then (if b = k then v else σ.2.2 a b) else σ.2.2 a b)
theorem pI_self (σ : oS) (c k : Nat) (v : Int32) : (pI σ c k v).1 c k = v := by simp [pI]
theorem pL_self (σ : oS) (c k : Nat) (v : Int64) : (pL σ c k v).2.1 c k = v := by simp [pL]
theorem pR_self (σ : oS) (c k : Nat) (v : Nat) : (pR σ c k v).2.2 c k = v := by simp [pR]
theorem pI_ne (σ : oS) {c k a b : Nat} (v : Int32) (h : a ≠ c ∨ b ≠ k) : (pI σ c k v).1 a b = σ.1 a b := by
  unfold pI
  by_cases h1 : a = c
  · have h2 : b ≠ k := h.resolve_left (fun z => z h1)
    simp [h1, h2]
  · simp [h1]
theorem ofs_at {E : oE} {σ : oS} {c k q : Nat} (hq : okd c = q) (hk : k < onf q) : (ofs E σ c)[k]? = some (oval E σ c (oft q k) k) := by
  subst hq
  unfold ofs
  rw [List.getElem?_map, List.getElem?_range hk]
  rfl
theorem ofs_len {E : oE} {σ : oS} {c q : Nat} (hq : okd c = q) : (ofs E σ c).length = onf q := by
  subst hq
  simp [ofs]
theorem ofs_set {E : oE} {σ τ : oS} {c k q : Nat} {v : Value} (hq : okd c = q) (hk : k < onf q) (hv : oval E τ c (oft q k) k = v) (ho : ∀ j, j ≠ k → oval E τ c (oft q j) j = oval E σ c (oft q j) j) : ofs E τ c = (ofs E σ c).set k v := by
  apply List.ext_getElem?
  intro i
  by_cases hi : i = k
  · subst hi
    rw [List.getElem?_set_self (by rw [ofs_len hq]; exact hk), ofs_at hq hk, hv]
  · rw [List.getElem?_set_ne (Ne.symm hi)]
    by_cases hN : i < onf q
    · rw [ofs_at hq hN, ofs_at hq hN, ho i hi]
    · rw [List.getElem?_eq_none (by rw [ofs_len hq]; omega), List.getElem?_eq_none (by rw [ofs_len hq]; omega)]
theorem oel_obj {E : oE} {σ : oS} {c q : Nat} (hq : okd c = q) (h : q < 13) : oel E σ c = .inr (q, ofs E σ c) := by
  subst hq
  simp [oel, h]
theorem oel_int {E : oE} {σ : oS} {c q t n : Nat} (hq : okd c = q) (h : 13 ≤ q) (ht : oat q = t) (hn : oln q = n) (h3 : t ≠ 3) : oel E σ c = .inl (E.1 t, n, .inl (σ.1 c)) := by
  subst hq ht hn
  simp [oel, Nat.not_lt.mpr h, h3]
theorem oel_long {E : oE} {σ : oS} {c q n : Nat} (hq : okd c = q) (h : 13 ≤ q) (ht : oat q = 3) (hn : oln q = n) : oel E σ c = .inl (E.1 3, n, .inr (.inl (σ.2.1 c))) := by
  subst hq hn
  simp [oel, Nat.not_lt.mpr h, ht]
/-- a cell's content is what the state says of that cell alone -/
theorem oel_congr {E : oE} {σ τ : oS} {c : Nat} (h1 : τ.1 c = σ.1 c) (h2 : τ.2.1 c = σ.2.1 c) (h3 : τ.2.2 c = σ.2.2 c) : oel E τ c = oel E σ c := by
  unfold oel ofs oval
  rw [h1, h2, h3]
/-- which cells a field may name -/
def oRok (c k r : Nat) : Prop := if (ort (okd c) k).1 = 0 then r = (ort (okd c) k).2 + 1 else if (ort (okd c) k).1 = 1 then r = c + (ort (okd c) k).2 + 1 else ∃ x, x ∈ ost (ort (okd c) k).2 ∧ r = x + 1
/-- every int lies in its slot's interval, every reference names a cell that it may name -/
def oTy (σ : oS) : Prop := (∀ c k, olo (okd c) k ≤ (σ.1 c k).toInt ∧ (σ.1 c k).toInt ≤ ohi (okd c) k) ∧ ∀ c k, okd c < 13 → k < onf (okd c) → oft (okd c) k = 2 → oRok c k (σ.2.2 c k)
theorem oTy_pI {σ : oS} {c k q : Nat} {v : Int32} (h : oTy σ) (hq : okd c = q) (h1 : olo q k ≤ v.toInt) (h2 : v.toInt ≤ ohi q k) : oTy (pI σ c k v) := by
  refine ⟨fun a b => ?_, h.2⟩
  by_cases hab : a = c ∧ b = k
  · obtain ⟨rfl, rfl⟩ := hab
    rw [pI_self, hq]
    exact ⟨h1, h2⟩
  · rw [pI_ne σ v (by by_cases ha : a = c <;> by_cases hb : b = k <;> simp_all)]
    exact h.1 a b
theorem oTy_pL {σ : oS} {c k : Nat} {v : Int64} (h : oTy σ) : oTy (pL σ c k v) := h
theorem oTy_pR {σ : oS} {c k : Nat} {r : Nat} (h : oTy σ) (hr : oRok c k r) : oTy (pR σ c k r) := by
  refine ⟨h.1, fun a b h1 h2 h3 => ?_⟩
  by_cases hab : a = c ∧ b = k
  · obtain ⟨rfl, rfl⟩ := hab
    rw [pR_self]
    exact hr
  · have e : (pR σ c k r).2.2 a b = σ.2.2 a b := by
      unfold pR
      by_cases ha : a = c <;> by_cases hb : b = k <;> simp_all
    rw [e]
    exact h.2 a b h1 h2 h3
/-- what a method may change, by kinds of cells and slots (9999: all of them) -/
def oin (M : List (Nat × Nat)) (q k : Nat) : Bool := M.any fun x => x.1 == q && (x.2 == 9999 || x.2 == k)
def oFr (M : List (Nat × Nat)) (σ τ : oS) : Prop := ∀ c k, oin M (okd c) k = false → τ.1 c k = σ.1 c k ∧ τ.2.1 c k = σ.2.1 c k ∧ τ.2.2 c k = σ.2.2 c k
def osub (M' M : List (Nat × Nat)) : Bool := M'.all fun x => M.any fun y => y.1 == x.1 && (y.2 == 9999 || y.2 == x.2)
theorem oin_sub {M' M : List (Nat × Nat)} (h : osub M' M = true) {q k : Nat} (hk : oin M q k = false) : oin M' q k = false := by
  rw [Bool.eq_false_iff] at hk ⊢
  intro h1
  apply hk
  obtain ⟨x, hx, hxq⟩ := List.any_eq_true.mp h1
  obtain ⟨y, hy, hyx⟩ := List.any_eq_true.mp (List.all_eq_true.mp h x hx)
  refine List.any_eq_true.mpr ⟨y, hy, ?_⟩
  simp only [Bool.and_eq_true, Bool.or_eq_true, beq_iff_eq] at *
  omega
theorem oFr.rf {M : List (Nat × Nat)} {σ : oS} : oFr M σ σ := fun _ _ _ => ⟨rfl, rfl, rfl⟩
theorem oFr.then {M' M : List (Nat × Nat)} {σ τ υ : oS} (h : oFr M σ τ) (h' : oFr M' τ υ) (hs : osub M' M = true) : oFr M σ υ := fun c k hk => by
  obtain ⟨a1, a2, a3⟩ := h c k hk
  obtain ⟨b1, b2, b3⟩ := h' c k (oin_sub hs hk)
  exact ⟨b1.trans a1, b2.trans a2, b3.trans a3⟩
theorem oFr_pI {M : List (Nat × Nat)} {σ τ : oS} {c k q : Nat} {v : Int32} (h : oFr M σ τ) (hq : okd c = q) (hm : oin M q k = true) : oFr M σ (pI τ c k v) := fun a b hab => by
  have hne : a ≠ c ∨ b ≠ k := by
    by_cases ha : a = c
    · subst ha
      right
      intro hb
      subst hb
      rw [hq, hm] at hab
      cases hab
    · exact Or.inl ha
  rw [pI_ne τ v hne]
  exact h a b hab
theorem oFr_pL {M : List (Nat × Nat)} {σ τ : oS} {c k q : Nat} {v : Int64} (h : oFr M σ τ) (hq : okd c = q) (hm : oin M q k = true) : oFr M σ (pL τ c k v) := fun a b hab => by
  have e : (pL τ c k v).2.1 a b = τ.2.1 a b := by
    unfold pL
    by_cases ha : a = c
    · subst ha
      have hb : b ≠ k := by
        intro hb
        subst hb
        rw [hq, hm] at hab
        cases hab
      simp [hb]
    · simp [ha]
  obtain ⟨h1, h2, h3⟩ := h a b hab
  exact ⟨h1, by rw [e]; exact h2, h3⟩
theorem oFr_pR {M : List (Nat × Nat)} {σ τ : oS} {c k q : Nat} {v : Nat} (h : oFr M σ τ) (hq : okd c = q) (hm : oin M q k = true) : oFr M σ (pR τ c k v) := fun a b hab => by
  have e : (pR τ c k v).2.2 a b = τ.2.2 a b := by
    unfold pR
    by_cases ha : a = c
    · subst ha
      have hb : b ≠ k := by
        intro hb
        subst hb
        rw [hq, hm] at hab
        cases hab
      simp [hb]
    · simp [ha]
  obtain ⟨h1, h2, h3⟩ := h a b hab
  exact ⟨h1, h2, by rw [e]; exact h3⟩
theorem oel_pI {E : oE} {σ : oS} {c k a : Nat} {v : Int32} (h : a ≠ c) : oel E (pI σ c k v) a = oel E σ a := oel_congr (by funext b; exact pI_ne σ v (Or.inl h)) rfl rfl
theorem oel_pL {E : oE} {σ : oS} {c k a : Nat} {v : Int64} (h : a ≠ c) : oel E (pL σ c k v) a = oel E σ a := oel_congr rfl (by funext b; simp [pL, h]) rfl
theorem oel_pR {E : oE} {σ : oS} {c k a : Nat} {v : Nat} (h : a ≠ c) : oel E (pR σ c k v) a = oel E σ a := oel_congr rfl rfl (by funext b; simp [pR, h])
/-- the world, the heap being H now and H0 at the method's start -/
def oWd (E : oE) (A : Nat → Prop) (H0 : Heap) (σ : oS) (H : Heap) (locs : List Loc) : Prop := va_P (oD E) vwCl (owl E σ) H ∧ va_D A (owl E σ) ∧ va_S A H0 H locs
/-- the words that a method may lean on; those of nest mates stand apart -/
def oTB : List Cond := lw_tbl.filter goodWord
def oNk : Cond → Bool
  | .fieldLinkNest .. => true
  | .methodLinkNest .. => true
  | _ => false
def oNs (U : State) : Prop := ∀ w ∈ lw_tbl, oNk w = true → va_Nw w U
theorem oNs.warm {s U : State} (h : oNs s) (hW : s.WarmedH U.vm) : oNs U := fun w hw hk => by
  have h1 := h w hw hk
  cases w <;> first | exact va_Nw.warmF hW h1 | exact va_Nw.warmM hW h1 | (simp [oNk] at hk; done)
theorem oNs.same {u U : State} (h : oNs u) (hv : u.vm = U.vm) : oNs U := fun w hw hk => by
  have h1 := h w hw hk
  cases w <;> first | exact va_Nw.same rfl hv h1 | (simp [oNk] at hk; done)
theorem oNs.f {U : State} {A : Array Value} (h : oNs U) {a : String} {i : Nat} {b n d h2 : String} (hm : Cond.fieldLinkNest a i b n d h2 ∈ lw_tbl) : (Cond.fieldLinkNest a i b n d h2).before A U = true := va_Nw.use rfl (h _ hm rfl)
/-- the text of the own words, its bytes; what stands outside the world: the text, two statics -/
def oXb : List Int32 := [115, 116, 101, 112, 32, 32, 32, 102, 111, 114, 32, 32, 32, 32, 114, 101, 115, 116, 32, 32, 32, 109, 101, 97, 115, 117, 114, 101, 98, 97, 100, 32, 32, 32, 32, 109, 111, 116, 116, 111, 32, 32, 119, 104, 101, 110, 32, 32, 32, 111, 114, 32, 32, 32, 32, 32, 97, 110, 100, 32, 32, 32, 32, 110, 111, 116, 32, 32, 32, 32, 97, 108, 108, 32, 32, 32, 32, 103, 97, 112, 32, 32, 32, 32, 115, 111, 114, 116, 32, 32, 32, 117, 110, 100, 101, 114, 32, 32, 98, 101, 97, 116, 32, 32, 32, 114, 105, 115, 101, 32, 32, 32, 99, 108, 105, 109, 98, 32, 32, 119, 97, 115, 32, 32, 32, 32, 108, 97, 115, 116, 32, 32, 32, 100, 101, 108, 97, 121, 32, 32, 104, 105, 103, 104, 32, 32, 32, 109, 105, 114, 114, 111, 114, 32, 98, 97, 99, 107, 32, 32, 32, 112, 97, 99, 101, 32, 32, 32, 109, 105, 110, 32, 32, 32, 32, 109, 97, 120, 32, 32, 32, 32]
def oXt : String := "step   for    rest   measurebad    motto  when   or     and    not    all    gap    sort   under  beat   rise   climb  was    last   delay  high   mirror back   pace   min    max    "
def oX (E : oE) (A : Nat → Prop) (U : State) (H : Heap) : Prop := vk_S 1 [182] [oXb] (fun _ => oks E) (fun _ => okv E) A U H ∧ va_Z "java/lang/String" "COMPACT_STRINGS" "Z" (.int 1) A U H ∧ va_Zq "jdk/internal/util/Preconditions" "SIOOBE_FORMATTER" "Ljava/util/function/BiFunction;" A U H ∧ vk_R "OneLine$Reader" 176 oXt (oks E) U
theorem oX.warm {E : oE} {A : Nat → Prop} {s U : State} {H : Heap} (h : oX E A s H) (hW : s.WarmedH U.vm) : oX E A U H := ⟨h.1.moved hW.alike, h.2.1.moved hW.alike, h.2.2.1.moved hW.alike, vk_R.warm hW h.2.2.2⟩
theorem oX.same {E : oE} {A : Nat → Prop} {u U : State} {H : Heap} (h : oX E A u H) (hv : u.vm = U.vm) : oX E A U H := by
  have ha : u.vm.Alike U.vm := by rw [← hv]; exact Vm.Alike.refl u.vm
  exact ⟨h.1.moved ha, h.2.1.moved ha, h.2.2.1.moved ha, vk_R.same hv.symm h.2.2.2⟩
theorem oX.kept {E : oE} {A : Nat → Prop} {U : State} {H H1 : Heap} (h : oX E A U H) (hq : ∀ a : Nat, a < H.size → ¬ A a → H1[a]? = H[a]?) : oX E A U H1 := ⟨h.1.kept hq, h.2.1.kept hq, h.2.2.1.kept hq, h.2.2.2⟩
theorem oX.narrow {E : oE} {A B : Nat → Prop} {U : State} {H : Heap} (h : oX E A U H) (hAB : ∀ q, B q → A q) : oX E B U H := ⟨h.1.narrow hAB, h.2.1.narrow hAB, h.2.2.1.narrow hAB, h.2.2.2⟩
theorem otb {w : Cond} (i : Nat) (h : lw_tbl[i]? = some w) (g : goodWord w = true) : w ∈ oTB := List.mem_filter.mpr ⟨List.mem_of_getElem? h, g⟩
theorem onb {w : Cond} (i : Nat) (h : lw_tbl[i]? = some w) : w ∈ lw_tbl := List.mem_of_getElem? h
abbrev oRm (d : Nat) : Room := { frames := d, cells := 0, slots := 0, locals := 100 * d }
/-- a method's end -/
def oQc (E : oE) (A : Nat → Prop) (M : List (Nat × Nat)) (σ0 : oS) (Post : Option Value → oS → Prop) : Array Value → State → Outcome → State → Prop := fun _ st oc t => (∃ (v : Option Value) (u : oS), oc = .returned v ∧ (Post v u ∧ oTy u ∧ oFr M σ0 u) ∧ va_P (oD E) vwCl (owl E u) t.heap ∧ va_K (oD E) vwCl (otys E) t ∧ va_D A (owl E u)) ∧ va_F A st t
abbrev oWs (y : MethodName) (cc : ByteArray) (nL : Nat) (ret : Option FieldType) : List Cond := .code y cc nL ret :: oTB
/-- a method's contract at a state: its room d, what it may change M, its arguments vs, what it answers and makes of the state -/
def oMet (l : Launch) (d : Nat) (y : MethodName) (cc : ByteArray) (nL : Nat) (ret : Option FieldType) (M : List (Nat × Nat)) (E : oE) (σ : oS) (vs : List Value) (Post : Option Value → oS → Prop) : Prop := oTy σ → ∀ sz : Nat, Met l y (oWs y cc nL ret) (oRm d) (va_Pc vs (fun U => U.heap.size = sz ∧ va_P (oD E) vwCl (owl E σ) U.heap ∧ va_K (oD E) vwCl (otys E) U ∧ va_D (fun _ => True) (owl E σ) ∧ oNs U ∧ oX E (va_A (owl E σ) sz) U U.heap)) (oQc E (va_A (owl E σ) sz) M σ Post) 0 0 (va_A (owl E σ) sz)
/-- J is the walk of a method: at pc, with the locals lv and the stack st, the state being σ, it comes to its end -/
def oC (l : Launch) (d : Nat) (cc : ByteArray) (own : String) (nL : Nat) (ret : Option FieldType) (M : List (Nat × Nat)) (E : oE) (σ0 : oS) (Post : Option Value → oS → Prop) (J : oS → Nat → List (Nat × Value) → List Value → Prop) : Prop :=
  ∃ (p : Program) (e : Env) (s : State) (m : MethodId) (args : Array Value) (below : List Frame) (meth : Method) (c : Code) (A : Nat → Prop), p.tables.exec = Jvm.exec ∧ c.code = cc ∧ c.maxLocals = nL ∧ meth.sig.returnType = ret ∧ meth.locks = false ∧ s.vm.findClass own = some m.cls ∧ (∀ w ∈ oTB, w.before args s = true) ∧ oNs s ∧ oX E A s s.heap ∧ va_K (oD E) vwCl (otys E) s ∧ (∀ q, s.heap.size ≤ q → A q) ∧ 
    J = fun σ pc lv st => oTy σ → oFr M σ0 σ → ∀ (ls : Array Slot) (H : Heap) (locs : List Loc), lv_has ls nL lv → oWd E A s.heap σ H locs → W p l e (oRm d) s m args below meth c H locs 0 0 (MQ below (oQc E A M σ0 Post) args s 0 0 A) (F0 m pc ls st)
theorem oMet.of {l : Launch} {d : Nat} {y : MethodName} {cc : ByteArray} {nL : Nat} {ret : Option FieldType} {M : List (Nat × Nat)} {E : oE} {σ : oS} {vs : List Value} {lv : List (Nat × Value)} {Post : Option Value → oS → Prop} (hy : plainName y.cls = true) (hlen : (lg_sl vs).length ≤ nL) (hlv : lv_args 0 vs = lv)
    (body : ∀ J, oC l d cc y.cls nL ret M E σ Post J → oTy σ → J σ 0 lv []) : oMet l d y cc nL ret M E σ vs Post := by
  intro hT sz
  refine Met.ofW (cc := cc) (maxL := nL) (ret := ret) hy rfl ?_
  intro p e s m args below meth c s₁ B hml hv
  obtain ⟨rfl, hsz, hP, hK, hD0, hNs, hXs⟩ := hv
  have hts := atoms_spec (ws := oWs y cc nL ret) B.pre
  have hown : s.vm.findClass y.cls = some m.cls := findClass_of_methodNamed B.named
  subst hsz
  have hl := lv_entry vs (n := nL) hlen
  rw [hlv] at hl
  rw [lg_entry_eq]
  exact body _ ⟨p, e, s, m, vs.toArray, below, meth, c, va_A (owl E σ) s.heap.size, B.exec, B.bytes, hml, B.returns, B.notSynchronized, hown, fun w hw => hts w (List.mem_cons_of_mem _ hw), hNs, hXs, hK, fun q h => Or.inr h, rfl⟩ hT hT oFr.rf _ _ _ hl ⟨hP, hD0.self, va_S.rf⟩

section ROWS
variable {l : Launch} {d : Nat} {cc : ByteArray} {own : String} {nL : Nat} {ret : Option FieldType} {M : List (Nat × Nat)} {E : oE} {σ0 σ : oS} {Post : Option Value → oS → Prop} {J : oS → Nat → List (Nat × Value) → List Value → Prop} {pc : Nat} {lv : List (Nat × Value)} {st : List Value}
theorem r_iload_n (C : oC l d cc own nL ret M E σ0 Post J) {k : Fin 4} {i j : Nat} {x : Int32} (hd : decode cc pc = .ok (.iload_n k, 1)) (hi : (k : Nat) = i) (hk : lv[j]? = some (i, .int x)) (kk : J σ (pc + 1) lv (.int x :: st)) : J σ pc lv st := by
  obtain ⟨p, e, s, m, args, below, meth, c, A, hx, hb, hml, hr, hlk, hown, hts, hNs, hXs, hK, hA, rfl⟩ := C
  intro hT hF ls H locs hl hW
  exact lv_iload_n hx hb hd hi (lv_at hl j hk) (kk hT hF ls H locs hl hW)
theorem r_iload (C : oC l d cc own nL ret M E σ0 Post J) {i j : Nat} {x : Int32} (hd : decode cc pc = .ok (.iload i, 2)) (hk : lv[j]? = some (i, .int x)) (kk : J σ (pc + 2) lv (.int x :: st)) : J σ pc lv st := by
  obtain ⟨p, e, s, m, args, below, meth, c, A, hx, hb, hml, hr, hlk, hown, hts, hNs, hXs, hK, hA, rfl⟩ := C
  intro hT hF ls H locs hl hW
  exact lv_iload hx hb hd (lv_at hl j hk) (kk hT hF ls H locs hl hW)
theorem r_istore_n (C : oC l d cc own nL ret M E σ0 Post J) {k : Fin 4} {i : Nat} {x : Int32} {lv' : List (Nat × Value)} (ks : List Nat) (hd : decode cc pc = .ok (.istore_n k, 1)) (hi : (k : Nat) = i) (hn : i < nL) (hl' : lv_pick ((i, .int x) :: lv.filter (fun q => !(q.1 == i) && !(q.1 + 1 == i && q.2.category == 2))) ks = lv') (kk : J σ (pc + 1) lv' st) : J σ pc lv (.int x :: st) := by
  obtain ⟨p, e, s, m, args, below, meth, c, A, hx, hb, hml, hr, hlk, hown, hts, hNs, hXs, hK, hA, rfl⟩ := C
  intro hT hF ls H locs hl hW
  exact lv_istore_n hx hb hd hi hl hn rfl (fun ls' hl2 => kk hT hF ls' H locs (lv_sub hl2 ks hl') hW)
theorem r_istore (C : oC l d cc own nL ret M E σ0 Post J) {i : Nat} {x : Int32} {lv' : List (Nat × Value)} (ks : List Nat) (hd : decode cc pc = .ok (.istore i, 2)) (hn : i < nL) (hl' : lv_pick ((i, .int x) :: lv.filter (fun q => !(q.1 == i) && !(q.1 + 1 == i && q.2.category == 2))) ks = lv') (kk : J σ (pc + 2) lv' st) : J σ pc lv (.int x :: st) := by
  obtain ⟨p, e, s, m, args, below, meth, c, A, hx, hb, hml, hr, hlk, hown, hts, hNs, hXs, hK, hA, rfl⟩ := C
  intro hT hF ls H locs hl hW
  exact lv_istore hx hb hd hl hn rfl (fun ls' hl2 => kk hT hF ls' H locs (lv_sub hl2 ks hl') hW)
theorem r_lload_n (C : oC l d cc own nL ret M E σ0 Post J) {k : Fin 4} {i j : Nat} {x : Int64} (hd : decode cc pc = .ok (.lload_n k, 1)) (hi : (k : Nat) = i) (hk : lv[j]? = some (i, .long x)) (kk : J σ (pc + 1) lv (.long x :: st)) : J σ pc lv st := by
  obtain ⟨p, e, s, m, args, below, meth, c, A, hx, hb, hml, hr, hlk, hown, hts, hNs, hXs, hK, hA, rfl⟩ := C
  intro hT hF ls H locs hl hW
  exact lv_lload_n hx hb hd hi (lv_at hl j hk) (kk hT hF ls H locs hl hW)
theorem r_lload (C : oC l d cc own nL ret M E σ0 Post J) {i j : Nat} {x : Int64} (hd : decode cc pc = .ok (.lload i, 2)) (hk : lv[j]? = some (i, .long x)) (kk : J σ (pc + 2) lv (.long x :: st)) : J σ pc lv st := by
  obtain ⟨p, e, s, m, args, below, meth, c, A, hx, hb, hml, hr, hlk, hown, hts, hNs, hXs, hK, hA, rfl⟩ := C
  intro hT hF ls H locs hl hW
  exact lv_lload hx hb hd (lv_at hl j hk) (kk hT hF ls H locs hl hW)
theorem r_lstore_n (C : oC l d cc own nL ret M E σ0 Post J) {k : Fin 4} {i : Nat} {x : Int64} {lv' : List (Nat × Value)} (ks : List Nat) (hd : decode cc pc = .ok (.lstore_n k, 1)) (hi : (k : Nat) = i) (hn : i + 1 < nL) (hl' : lv_pick ((i, .long x) :: lv.filter (fun q => !(q.1 == i) && (!(q.1 == i + 1) && !(q.1 + 1 == i && q.2.category == 2)))) ks = lv') (kk : J σ (pc + 1) lv' st) : J σ pc lv (.long x :: st) := by
  obtain ⟨p, e, s, m, args, below, meth, c, A, hx, hb, hml, hr, hlk, hown, hts, hNs, hXs, hK, hA, rfl⟩ := C
  intro hT hF ls H locs hl hW
  exact lv_lstore_n hx hb hd hi hl hn rfl (fun ls' hl2 => kk hT hF ls' H locs (lv_sub hl2 ks hl') hW)
theorem r_lstore (C : oC l d cc own nL ret M E σ0 Post J) {i : Nat} {x : Int64} {lv' : List (Nat × Value)} (ks : List Nat) (hd : decode cc pc = .ok (.lstore i, 2)) (hn : i + 1 < nL) (hl' : lv_pick ((i, .long x) :: lv.filter (fun q => !(q.1 == i) && (!(q.1 == i + 1) && !(q.1 + 1 == i && q.2.category == 2)))) ks = lv') (kk : J σ (pc + 2) lv' st) : J σ pc lv (.long x :: st) := by
  obtain ⟨p, e, s, m, args, below, meth, c, A, hx, hb, hml, hr, hlk, hown, hts, hNs, hXs, hK, hA, rfl⟩ := C
  intro hT hF ls H locs hl hW
  exact lv_lstore hx hb hd hl hn rfl (fun ls' hl2 => kk hT hF ls' H locs (lv_sub hl2 ks hl') hW)
theorem r_aload_n (C : oC l d cc own nL ret M E σ0 Post J) {k : Fin 4} {i j : Nat} {x : Nat} (hd : decode cc pc = .ok (.aload_n k, 1)) (hi : (k : Nat) = i) (hk : lv[j]? = some (i, .ref x)) (kk : J σ (pc + 1) lv (.ref x :: st)) : J σ pc lv st := by
  obtain ⟨p, e, s, m, args, below, meth, c, A, hx, hb, hml, hr, hlk, hown, hts, hNs, hXs, hK, hA, rfl⟩ := C
  intro hT hF ls H locs hl hW
  exact lv_aload_n hx hb hd hi (lv_at hl j hk) (kk hT hF ls H locs hl hW)
theorem r_aload (C : oC l d cc own nL ret M E σ0 Post J) {i j : Nat} {x : Nat} (hd : decode cc pc = .ok (.aload i, 2)) (hk : lv[j]? = some (i, .ref x)) (kk : J σ (pc + 2) lv (.ref x :: st)) : J σ pc lv st := by
  obtain ⟨p, e, s, m, args, below, meth, c, A, hx, hb, hml, hr, hlk, hown, hts, hNs, hXs, hK, hA, rfl⟩ := C
  intro hT hF ls H locs hl hW
  exact lv_aload hx hb hd (lv_at hl j hk) (kk hT hF ls H locs hl hW)
theorem r_astore_n (C : oC l d cc own nL ret M E σ0 Post J) {k : Fin 4} {i : Nat} {x : Nat} {lv' : List (Nat × Value)} (ks : List Nat) (hd : decode cc pc = .ok (.astore_n k, 1)) (hi : (k : Nat) = i) (hn : i < nL) (hl' : lv_pick ((i, .ref x) :: lv.filter (fun q => !(q.1 == i) && !(q.1 + 1 == i && q.2.category == 2))) ks = lv') (kk : J σ (pc + 1) lv' st) : J σ pc lv (.ref x :: st) := by
  obtain ⟨p, e, s, m, args, below, meth, c, A, hx, hb, hml, hr, hlk, hown, hts, hNs, hXs, hK, hA, rfl⟩ := C
  intro hT hF ls H locs hl hW
  exact lv_astore_n hx hb hd hi hl hn rfl (fun ls' hl2 => kk hT hF ls' H locs (lv_sub hl2 ks hl') hW)
theorem r_astore (C : oC l d cc own nL ret M E σ0 Post J) {i : Nat} {x : Nat} {lv' : List (Nat × Value)} (ks : List Nat) (hd : decode cc pc = .ok (.astore i, 2)) (hn : i < nL) (hl' : lv_pick ((i, .ref x) :: lv.filter (fun q => !(q.1 == i) && !(q.1 + 1 == i && q.2.category == 2))) ks = lv') (kk : J σ (pc + 2) lv' st) : J σ pc lv (.ref x :: st) := by
  obtain ⟨p, e, s, m, args, below, meth, c, A, hx, hb, hml, hr, hlk, hown, hts, hNs, hXs, hK, hA, rfl⟩ := C
  intro hT hF ls H locs hl hW
  exact lv_astore hx hb hd hl hn rfl (fun ls' hl2 => kk hT hF ls' H locs (lv_sub hl2 ks hl') hW)
theorem r_iinc (C : oC l d cc own nL ret M E σ0 Post J) {i j : Nat} {n : Int} {x : Int32} {lv' : List (Nat × Value)} (v : Int32) (ks : List Nat) (hd : decode cc pc = .ok (.iinc i n, 3)) (hk : lv[j]? = some (i, .int x)) (hv : x + Int32.ofInt n = v) (hn : i < nL) (hl' : lv_pick ((i, .int v) :: lv.filter (fun q => !(q.1 == i) && !(q.1 + 1 == i && q.2.category == 2))) ks = lv') (kk : J σ (pc + 3) lv' st) : J σ pc lv st := by
  obtain ⟨p, e, s, m, args, below, meth, c, A, hx, hb, hml, hr, hlk, hown, hts, hNs, hXs, hK, hA, rfl⟩ := C
  intro hT hF ls H locs hl hW
  exact lv_iinc hx hb hd hl hk hv hn rfl (fun ls' hl2 => kk hT hF ls' H locs (lv_sub hl2 ks hl') hW)
theorem r_iconst (C : oC l d cc own nL ret M E σ0 Post J) {n : Int} {v : Int32} (hd : decode cc pc = .ok (.iconst n, 1)) (hv : Int32.ofInt n = v) (kk : J σ (pc + 1) lv (.int v :: st)) : J σ pc lv st := by
  obtain ⟨p, e, s, m, args, below, meth, c, A, hx, hb, hml, hr, hlk, hown, hts, hNs, hXs, hK, hA, rfl⟩ := C
  intro hT hF ls H locs hl hW
  exact lv_iconst hx hb hd hv (kk hT hF ls H locs hl hW)
theorem r_bipush (C : oC l d cc own nL ret M E σ0 Post J) {n : Int} {v : Int32} (hd : decode cc pc = .ok (.bipush n, 2)) (hv : (Int8.ofInt n).toInt32 = v) (kk : J σ (pc + 2) lv (.int v :: st)) : J σ pc lv st := by
  obtain ⟨p, e, s, m, args, below, meth, c, A, hx, hb, hml, hr, hlk, hown, hts, hNs, hXs, hK, hA, rfl⟩ := C
  intro hT hF ls H locs hl hW
  exact lv_bipush hx hb hd hv (kk hT hF ls H locs hl hW)
theorem r_sipush (C : oC l d cc own nL ret M E σ0 Post J) {n : Int} {v : Int32} (hd : decode cc pc = .ok (.sipush n, 3)) (hv : (Int16.ofInt n).toInt32 = v) (kk : J σ (pc + 3) lv (.int v :: st)) : J σ pc lv st := by
  obtain ⟨p, e, s, m, args, below, meth, c, A, hx, hb, hml, hr, hlk, hown, hts, hNs, hXs, hK, hA, rfl⟩ := C
  intro hT hF ls H locs hl hW
  exact lv_sipush hx hb hd hv (kk hT hF ls H locs hl hW)
theorem r_lconst (C : oC l d cc own nL ret M E σ0 Post J) {n : Fin 2} {v : Int64} (hd : decode cc pc = .ok (.lconst n, 1)) (hv : Int64.ofNat (n : Nat) = v) (kk : J σ (pc + 1) lv (.long v :: st)) : J σ pc lv st := by
  obtain ⟨p, e, s, m, args, below, meth, c, A, hx, hb, hml, hr, hlk, hown, hts, hNs, hXs, hK, hA, rfl⟩ := C
  intro hT hF ls H locs hl hW
  exact lv_lconst hx hb hd hv (kk hT hF ls H locs hl hW)
theorem r_ldc (C : oC l d cc own nL ret M E σ0 Post J) {index : Nat} {v : Int32} (hc : Cond.constant own index v ∈ oTB) (hd : decode cc pc = .ok (.ldc index, 2)) (kk : J σ (pc + 2) lv (.int v :: st)) : J σ pc lv st := by
  obtain ⟨p, e, s, m, args, below, meth, c, A, hx, hb, hml, hr, hlk, hown, hts, hNs, hXs, hK, hA, rfl⟩ := C
  intro hT hF ls H locs hl hW
  exact lv_ldc hx hb hown (hts _ hc) hd (kk hT hF ls H locs hl hW)
theorem r_ldcw (C : oC l d cc own nL ret M E σ0 Post J) {index : Nat} {v : Int32} (hc : Cond.constant own index v ∈ oTB) (hd : decode cc pc = .ok (.ldc_w index, 3)) (kk : J σ (pc + 3) lv (.int v :: st)) : J σ pc lv st := by
  obtain ⟨p, e, s, m, args, below, meth, c, A, hx, hb, hml, hr, hlk, hown, hts, hNs, hXs, hK, hA, rfl⟩ := C
  intro hT hF ls H locs hl hW
  exact lv_ldcw hx hb hown (hts _ hc) hd (kk hT hF ls H locs hl hW)
theorem r_ldc2 (C : oC l d cc own nL ret M E σ0 Post J) {index : Nat} {v : Int64} (hc : Cond.constantLong own index v ∈ oTB) (hd : decode cc pc = .ok (.ldc2_w index, 3)) (kk : J σ (pc + 3) lv (.long v :: st)) : J σ pc lv st := by
  obtain ⟨p, e, s, m, args, below, meth, c, A, hx, hb, hml, hr, hlk, hown, hts, hNs, hXs, hK, hA, rfl⟩ := C
  intro hT hF ls H locs hl hW
  exact lv_ldc2 hx hb hown (hts _ hc) hd (kk hT hF ls H locs hl hW)
theorem r_iadd (C : oC l d cc own nL ret M E σ0 Post J) {x y : Int32} (v : Int32) (hd : decode cc pc = .ok (.iadd, 1)) (hv : v = x + y) (kk : J σ (pc + 1) lv (.int v :: st)) : J σ pc lv (.int y :: .int x :: st) := by
  obtain ⟨p, e, s, m, args, below, meth, c, A, hx, hb, hml, hr, hlk, hown, hts, hNs, hXs, hK, hA, rfl⟩ := C
  intro hT hF ls H locs hl hW
  subst hv
  exact lv_iadd hx hb hd (kk hT hF ls H locs hl hW)
theorem r_isub (C : oC l d cc own nL ret M E σ0 Post J) {x y : Int32} (v : Int32) (hd : decode cc pc = .ok (.isub, 1)) (hv : v = x - y) (kk : J σ (pc + 1) lv (.int v :: st)) : J σ pc lv (.int y :: .int x :: st) := by
  obtain ⟨p, e, s, m, args, below, meth, c, A, hx, hb, hml, hr, hlk, hown, hts, hNs, hXs, hK, hA, rfl⟩ := C
  intro hT hF ls H locs hl hW
  subst hv
  exact lv_isub hx hb hd (kk hT hF ls H locs hl hW)
theorem r_imul (C : oC l d cc own nL ret M E σ0 Post J) {x y : Int32} (v : Int32) (hd : decode cc pc = .ok (.imul, 1)) (hv : v = x * y) (kk : J σ (pc + 1) lv (.int v :: st)) : J σ pc lv (.int y :: .int x :: st) := by
  obtain ⟨p, e, s, m, args, below, meth, c, A, hx, hb, hml, hr, hlk, hown, hts, hNs, hXs, hK, hA, rfl⟩ := C
  intro hT hF ls H locs hl hW
  subst hv
  exact lv_imul hx hb hd (kk hT hF ls H locs hl hW)
theorem r_iand (C : oC l d cc own nL ret M E σ0 Post J) {x y : Int32} (v : Int32) (hd : decode cc pc = .ok (.iand, 1)) (hv : v = x &&& y) (kk : J σ (pc + 1) lv (.int v :: st)) : J σ pc lv (.int y :: .int x :: st) := by
  obtain ⟨p, e, s, m, args, below, meth, c, A, hx, hb, hml, hr, hlk, hown, hts, hNs, hXs, hK, hA, rfl⟩ := C
  intro hT hF ls H locs hl hW
  subst hv
  exact lv_iand hx hb hd (kk hT hF ls H locs hl hW)
theorem r_ior (C : oC l d cc own nL ret M E σ0 Post J) {x y : Int32} (v : Int32) (hd : decode cc pc = .ok (.ior, 1)) (hv : v = x ||| y) (kk : J σ (pc + 1) lv (.int v :: st)) : J σ pc lv (.int y :: .int x :: st) := by
  obtain ⟨p, e, s, m, args, below, meth, c, A, hx, hb, hml, hr, hlk, hown, hts, hNs, hXs, hK, hA, rfl⟩ := C
  intro hT hF ls H locs hl hW
  subst hv
  exact lv_ior hx hb hd (kk hT hF ls H locs hl hW)
theorem r_ixor (C : oC l d cc own nL ret M E σ0 Post J) {x y : Int32} (v : Int32) (hd : decode cc pc = .ok (.ixor, 1)) (hv : v = x ^^^ y) (kk : J σ (pc + 1) lv (.int v :: st)) : J σ pc lv (.int y :: .int x :: st) := by
  obtain ⟨p, e, s, m, args, below, meth, c, A, hx, hb, hml, hr, hlk, hown, hts, hNs, hXs, hK, hA, rfl⟩ := C
  intro hT hF ls H locs hl hW
  subst hv
  exact lv_ixor hx hb hd (kk hT hF ls H locs hl hW)
theorem r_ishl (C : oC l d cc own nL ret M E σ0 Post J) {x y : Int32} (v : Int32) (hd : decode cc pc = .ok (.ishl, 1)) (hv : v = x <<< (y &&& 31)) (kk : J σ (pc + 1) lv (.int v :: st)) : J σ pc lv (.int y :: .int x :: st) := by
  obtain ⟨p, e, s, m, args, below, meth, c, A, hx, hb, hml, hr, hlk, hown, hts, hNs, hXs, hK, hA, rfl⟩ := C
  intro hT hF ls H locs hl hW
  subst hv
  exact lv_ishl hx hb hd (kk hT hF ls H locs hl hW)
theorem r_ishr (C : oC l d cc own nL ret M E σ0 Post J) {x y : Int32} (v : Int32) (hd : decode cc pc = .ok (.ishr, 1)) (hv : v = x >>> (y &&& 31)) (kk : J σ (pc + 1) lv (.int v :: st)) : J σ pc lv (.int y :: .int x :: st) := by
  obtain ⟨p, e, s, m, args, below, meth, c, A, hx, hb, hml, hr, hlk, hown, hts, hNs, hXs, hK, hA, rfl⟩ := C
  intro hT hF ls H locs hl hW
  subst hv
  exact lv_ishr hx hb hd (kk hT hF ls H locs hl hW)
theorem r_idiv (C : oC l d cc own nL ret M E σ0 Post J) {x y : Int32} (v : Int32) (hd : decode cc pc = .ok (.idiv, 1)) (hne : ¬ y = 0) (hv : v = x / y) (kk : J σ (pc + 1) lv (.int v :: st)) : J σ pc lv (.int y :: .int x :: st) := by
  obtain ⟨p, e, s, m, args, below, meth, c, A, hx, hb, hml, hr, hlk, hown, hts, hNs, hXs, hK, hA, rfl⟩ := C
  intro hT hF ls H locs hl hW
  subst hv
  exact lv_idiv hx hb hd hne (kk hT hF ls H locs hl hW)
theorem r_irem (C : oC l d cc own nL ret M E σ0 Post J) {x y : Int32} (v : Int32) (hd : decode cc pc = .ok (.irem, 1)) (hne : ¬ y = 0) (hv : v = x - x / y * y) (kk : J σ (pc + 1) lv (.int v :: st)) : J σ pc lv (.int y :: .int x :: st) := by
  obtain ⟨p, e, s, m, args, below, meth, c, A, hx, hb, hml, hr, hlk, hown, hts, hNs, hXs, hK, hA, rfl⟩ := C
  intro hT hF ls H locs hl hW
  subst hv
  exact lv_irem hx hb hd hne (kk hT hF ls H locs hl hW)
theorem r_iushr (C : oC l d cc own nL ret M E σ0 Post J) {x y : Int32} (v : Int32) (hd : decode cc pc = .ok (.iushr, 1)) (hv : (x.toUInt32 >>> (y.toUInt32 &&& Int32.toUInt32 31)).toInt32 = v) (kk : J σ (pc + 1) lv (.int v :: st)) : J σ pc lv (.int y :: .int x :: st) := by
  obtain ⟨p, e, s, m, args, below, meth, c, A, hx, hb, hml, hr, hlk, hown, hts, hNs, hXs, hK, hA, rfl⟩ := C
  intro hT hF ls H locs hl hW
  exact lv_iushr hx hb hd hv (kk hT hF ls H locs hl hW)
theorem r_ineg (C : oC l d cc own nL ret M E σ0 Post J) {x : Int32} (v : Int32) (hd : decode cc pc = .ok (.ineg, 1)) (hv : v = -x) (kk : J σ (pc + 1) lv (.int v :: st)) : J σ pc lv (.int x :: st) := by
  obtain ⟨p, e, s, m, args, below, meth, c, A, hx, hb, hml, hr, hlk, hown, hts, hNs, hXs, hK, hA, rfl⟩ := C
  intro hT hF ls H locs hl hW
  subst hv
  exact lv_ineg hx hb hd (kk hT hF ls H locs hl hW)
theorem r_ladd (C : oC l d cc own nL ret M E σ0 Post J) {x y : Int64} (v : Int64) (hd : decode cc pc = .ok (.ladd, 1)) (hv : v = x + y) (kk : J σ (pc + 1) lv (.long v :: st)) : J σ pc lv (.long y :: .long x :: st) := by
  obtain ⟨p, e, s, m, args, below, meth, c, A, hx, hb, hml, hr, hlk, hown, hts, hNs, hXs, hK, hA, rfl⟩ := C
  intro hT hF ls H locs hl hW
  subst hv
  exact lv_ladd hx hb hd (kk hT hF ls H locs hl hW)
theorem r_lsub (C : oC l d cc own nL ret M E σ0 Post J) {x y : Int64} (v : Int64) (hd : decode cc pc = .ok (.lsub, 1)) (hv : v = x - y) (kk : J σ (pc + 1) lv (.long v :: st)) : J σ pc lv (.long y :: .long x :: st) := by
  obtain ⟨p, e, s, m, args, below, meth, c, A, hx, hb, hml, hr, hlk, hown, hts, hNs, hXs, hK, hA, rfl⟩ := C
  intro hT hF ls H locs hl hW
  subst hv
  exact lv_lsub hx hb hd (kk hT hF ls H locs hl hW)
theorem r_lmul (C : oC l d cc own nL ret M E σ0 Post J) {x y : Int64} (v : Int64) (hd : decode cc pc = .ok (.lmul, 1)) (hv : v = x * y) (kk : J σ (pc + 1) lv (.long v :: st)) : J σ pc lv (.long y :: .long x :: st) := by
  obtain ⟨p, e, s, m, args, below, meth, c, A, hx, hb, hml, hr, hlk, hown, hts, hNs, hXs, hK, hA, rfl⟩ := C
  intro hT hF ls H locs hl hW
  subst hv
  exact lv_lmul hx hb hd (kk hT hF ls H locs hl hW)
theorem r_land (C : oC l d cc own nL ret M E σ0 Post J) {x y : Int64} (v : Int64) (hd : decode cc pc = .ok (.land, 1)) (hv : v = x &&& y) (kk : J σ (pc + 1) lv (.long v :: st)) : J σ pc lv (.long y :: .long x :: st) := by
  obtain ⟨p, e, s, m, args, below, meth, c, A, hx, hb, hml, hr, hlk, hown, hts, hNs, hXs, hK, hA, rfl⟩ := C
  intro hT hF ls H locs hl hW
  subst hv
  exact lv_land hx hb hd (kk hT hF ls H locs hl hW)
theorem r_lor (C : oC l d cc own nL ret M E σ0 Post J) {x y : Int64} (v : Int64) (hd : decode cc pc = .ok (.lor, 1)) (hv : v = x ||| y) (kk : J σ (pc + 1) lv (.long v :: st)) : J σ pc lv (.long y :: .long x :: st) := by
  obtain ⟨p, e, s, m, args, below, meth, c, A, hx, hb, hml, hr, hlk, hown, hts, hNs, hXs, hK, hA, rfl⟩ := C
  intro hT hF ls H locs hl hW
  subst hv
  exact lv_lor hx hb hd (kk hT hF ls H locs hl hW)
theorem r_ldiv (C : oC l d cc own nL ret M E σ0 Post J) {x y : Int64} (v : Int64) (hd : decode cc pc = .ok (.ldiv, 1)) (hne : ¬ y = 0) (hv : v = x / y) (kk : J σ (pc + 1) lv (.long v :: st)) : J σ pc lv (.long y :: .long x :: st) := by
  obtain ⟨p, e, s, m, args, below, meth, c, A, hx, hb, hml, hr, hlk, hown, hts, hNs, hXs, hK, hA, rfl⟩ := C
  intro hT hF ls H locs hl hW
  subst hv
  exact lv_ldiv hx hb hd hne (kk hT hF ls H locs hl hW)
theorem r_lrem (C : oC l d cc own nL ret M E σ0 Post J) {x y : Int64} (v : Int64) (hd : decode cc pc = .ok (.lrem, 1)) (hne : ¬ y = 0) (hv : v = x - x / y * y) (kk : J σ (pc + 1) lv (.long v :: st)) : J σ pc lv (.long y :: .long x :: st) := by
  obtain ⟨p, e, s, m, args, below, meth, c, A, hx, hb, hml, hr, hlk, hown, hts, hNs, hXs, hK, hA, rfl⟩ := C
  intro hT hF ls H locs hl hW
  subst hv
  exact lv_lrem hx hb hd hne (kk hT hF ls H locs hl hW)
theorem r_i2l (C : oC l d cc own nL ret M E σ0 Post J) {x : Int32} (v : Int64) (hd : decode cc pc = .ok (.i2l, 1)) (hv : x.toInt64 = v) (kk : J σ (pc + 1) lv (.long v :: st)) : J σ pc lv (.int x :: st) := by
  obtain ⟨p, e, s, m, args, below, meth, c, A, hx, hb, hml, hr, hlk, hown, hts, hNs, hXs, hK, hA, rfl⟩ := C
  intro hT hF ls H locs hl hW
  exact lv_i2l hx hb hd hv (kk hT hF ls H locs hl hW)
theorem r_l2i (C : oC l d cc own nL ret M E σ0 Post J) {x : Int64} (v : Int32) (hd : decode cc pc = .ok (.l2i, 1)) (hv : x.toInt32 = v) (kk : J σ (pc + 1) lv (.int v :: st)) : J σ pc lv (.long x :: st) := by
  obtain ⟨p, e, s, m, args, below, meth, c, A, hx, hb, hml, hr, hlk, hown, hts, hNs, hXs, hK, hA, rfl⟩ := C
  intro hT hF ls H locs hl hW
  exact lv_l2i hx hb hd hv (kk hT hF ls H locs hl hW)
theorem r_lcmp (C : oC l d cc own nL ret M E σ0 Post J) {x y : Int64} (v : Int32) (hd : decode cc pc = .ok (.lcmp, 1)) (hv : v = lg_cmp x y) (kk : J σ (pc + 1) lv (.int v :: st)) : J σ pc lv (.long y :: .long x :: st) := by
  obtain ⟨p, e, s, m, args, below, meth, c, A, hx, hb, hml, hr, hlk, hown, hts, hNs, hXs, hK, hA, rfl⟩ := C
  intro hT hF ls H locs hl hW
  subst hv
  exact W.lcmp hx hb hd (kk hT hF ls H locs hl hW)
theorem r_lshl (C : oC l d cc own nL ret M E σ0 Post J) {x : Int64} {y : Int32} (v : Int64) (hd : decode cc pc = .ok (.lshl, 1)) (hv : x <<< (y.toInt64 &&& 63) = v) (kk : J σ (pc + 1) lv (.long v :: st)) : J σ pc lv (.int y :: .long x :: st) := by
  obtain ⟨p, e, s, m, args, below, meth, c, A, hx, hb, hml, hr, hlk, hown, hts, hNs, hXs, hK, hA, rfl⟩ := C
  intro hT hF ls H locs hl hW
  exact lv_lshl hx hb hd hv (kk hT hF ls H locs hl hW)
theorem r_lshr (C : oC l d cc own nL ret M E σ0 Post J) {x : Int64} {y : Int32} (v : Int64) (hd : decode cc pc = .ok (.lshr, 1)) (hv : x >>> (y.toInt64 &&& 63) = v) (kk : J σ (pc + 1) lv (.long v :: st)) : J σ pc lv (.int y :: .long x :: st) := by
  obtain ⟨p, e, s, m, args, below, meth, c, A, hx, hb, hml, hr, hlk, hown, hts, hNs, hXs, hK, hA, rfl⟩ := C
  intro hT hF ls H locs hl hW
  exact lv_lshr hx hb hd hv (kk hT hF ls H locs hl hW)
theorem r_dup (C : oC l d cc own nL ret M E σ0 Post J) {v : Value} (hd : decode cc pc = .ok (.dup, 1)) (hc : v.category = 1) (kk : J σ (pc + 1) lv (v :: v :: st)) : J σ pc lv (v :: st) := by
  obtain ⟨p, e, s, m, args, below, meth, c, A, hx, hb, hml, hr, hlk, hown, hts, hNs, hXs, hK, hA, rfl⟩ := C
  intro hT hF ls H locs hl hW
  exact lv_dup hx hb hd hc (kk hT hF ls H locs hl hW)
theorem r_pop (C : oC l d cc own nL ret M E σ0 Post J) {v : Value} (hd : decode cc pc = .ok (.pop, 1)) (hc : v.category = 1) (kk : J σ (pc + 1) lv st) : J σ pc lv (v :: st) := by
  obtain ⟨p, e, s, m, args, below, meth, c, A, hx, hb, hml, hr, hlk, hown, hts, hNs, hXs, hK, hA, rfl⟩ := C
  intro hT hF ls H locs hl hW
  exact lv_pop hx hb hd hc (kk hT hF ls H locs hl hW)
theorem r_dup2 (C : oC l d cc own nL ret M E σ0 Post J) {v w : Value} (hd : decode cc pc = .ok (.dup2, 1)) (hc : v.category = 1) (hc2 : w.category = 1) (kk : J σ (pc + 1) lv (v :: w :: v :: w :: st)) : J σ pc lv (v :: w :: st) := by
  obtain ⟨p, e, s, m, args, below, meth, c, A, hx, hb, hml, hr, hlk, hown, hts, hNs, hXs, hK, hA, rfl⟩ := C
  intro hT hF ls H locs hl hW
  exact lv_dup2_11 hx hb hd hc hc2 (kk hT hF ls H locs hl hW)
theorem r_goto (C : oC l d cc own nL ret M E σ0 Post J) {off : Int} {tgt : Nat} (hd : decode cc pc = .ok (.goto off, 3)) (ht : (pc : Int) + off = (tgt : Int)) (kk : J σ tgt lv st) : J σ pc lv st := by
  obtain ⟨p, e, s, m, args, below, meth, c, A, hx, hb, hml, hr, hlk, hown, hts, hNs, hXs, hK, hA, rfl⟩ := C
  intro hT hF ls H locs hl hW
  exact lv_goto hx hb hd ht (kk hT hF ls H locs hl hW)
theorem r_icmp_eq (C : oC l d cc own nL ret M E σ0 Post J) {x y : Int32} {off : Int} (tgt : Nat) (hd : decode cc pc = .ok (.if_icmp .eq off, 3)) (ht : (pc : Int) + off = (tgt : Int)) (kt : x.toInt = y.toInt → J σ tgt lv st) (kf : ¬ x.toInt = y.toInt → J σ (pc + 3) lv st) : J σ pc lv (.int y :: .int x :: st) := by
  obtain ⟨p, e, s, m, args, below, meth, c, A, hx, hb, hml, hr, hlk, hown, hts, hNs, hXs, hK, hA, rfl⟩ := C
  intro hT hF ls H locs hl hW
  exact lv_icmp_eq hx hb hd ht (fun h => kt (congrArg Int32.toInt h) hT hF ls H locs hl hW) (fun h => kf (fun z => h (Int32.toInt_inj.mp z)) hT hF ls H locs hl hW)
theorem r_if_eq (C : oC l d cc own nL ret M E σ0 Post J) {x : Int32} {off : Int} (tgt : Nat) (hd : decode cc pc = .ok (.ifCond .eq off, 3)) (ht : (pc : Int) + off = (tgt : Int)) (kt : x.toInt = 0 → J σ tgt lv st) (kf : ¬ x.toInt = 0 → J σ (pc + 3) lv st) : J σ pc lv (.int x :: st) := by
  obtain ⟨p, e, s, m, args, below, meth, c, A, hx, hb, hml, hr, hlk, hown, hts, hNs, hXs, hK, hA, rfl⟩ := C
  intro hT hF ls H locs hl hW
  exact lv_if_eq hx hb hd ht (fun h => kt (congrArg Int32.toInt h) hT hF ls H locs hl hW) (fun h => kf (fun z => h (Int32.toInt_inj.mp z)) hT hF ls H locs hl hW)
theorem r_icmp_ne (C : oC l d cc own nL ret M E σ0 Post J) {x y : Int32} {off : Int} (tgt : Nat) (hd : decode cc pc = .ok (.if_icmp .ne off, 3)) (ht : (pc : Int) + off = (tgt : Int)) (kt : ¬ x.toInt = y.toInt → J σ tgt lv st) (kf : x.toInt = y.toInt → J σ (pc + 3) lv st) : J σ pc lv (.int y :: .int x :: st) := by
  obtain ⟨p, e, s, m, args, below, meth, c, A, hx, hb, hml, hr, hlk, hown, hts, hNs, hXs, hK, hA, rfl⟩ := C
  intro hT hF ls H locs hl hW
  exact lv_icmp_ne hx hb hd ht (fun h => kt (fun z => h (Int32.toInt_inj.mp z)) hT hF ls H locs hl hW) (fun h => kf (congrArg Int32.toInt h) hT hF ls H locs hl hW)
theorem r_if_ne (C : oC l d cc own nL ret M E σ0 Post J) {x : Int32} {off : Int} (tgt : Nat) (hd : decode cc pc = .ok (.ifCond .ne off, 3)) (ht : (pc : Int) + off = (tgt : Int)) (kt : ¬ x.toInt = 0 → J σ tgt lv st) (kf : x.toInt = 0 → J σ (pc + 3) lv st) : J σ pc lv (.int x :: st) := by
  obtain ⟨p, e, s, m, args, below, meth, c, A, hx, hb, hml, hr, hlk, hown, hts, hNs, hXs, hK, hA, rfl⟩ := C
  intro hT hF ls H locs hl hW
  exact lv_if_ne hx hb hd ht (fun h => kt (fun z => h (Int32.toInt_inj.mp z)) hT hF ls H locs hl hW) (fun h => kf (congrArg Int32.toInt h) hT hF ls H locs hl hW)
theorem r_icmp_lt (C : oC l d cc own nL ret M E σ0 Post J) {x y : Int32} {off : Int} (tgt : Nat) (hd : decode cc pc = .ok (.if_icmp .lt off, 3)) (ht : (pc : Int) + off = (tgt : Int)) (kt : x.toInt < y.toInt → J σ tgt lv st) (kf : y.toInt ≤ x.toInt → J σ (pc + 3) lv st) : J σ pc lv (.int y :: .int x :: st) := by
  obtain ⟨p, e, s, m, args, below, meth, c, A, hx, hb, hml, hr, hlk, hown, hts, hNs, hXs, hK, hA, rfl⟩ := C
  intro hT hF ls H locs hl hW
  exact lv_icmp_lt hx hb hd ht (fun h => kt (Int32.lt_iff_toInt_lt.mp h) hT hF ls H locs hl hW) (fun h => kf (Int.not_lt.mp (fun z => h (Int32.lt_iff_toInt_lt.mpr z))) hT hF ls H locs hl hW)
theorem r_if_lt (C : oC l d cc own nL ret M E σ0 Post J) {x : Int32} {off : Int} (tgt : Nat) (hd : decode cc pc = .ok (.ifCond .lt off, 3)) (ht : (pc : Int) + off = (tgt : Int)) (kt : x.toInt < 0 → J σ tgt lv st) (kf : 0 ≤ x.toInt → J σ (pc + 3) lv st) : J σ pc lv (.int x :: st) := by
  obtain ⟨p, e, s, m, args, below, meth, c, A, hx, hb, hml, hr, hlk, hown, hts, hNs, hXs, hK, hA, rfl⟩ := C
  intro hT hF ls H locs hl hW
  exact lv_if_lt hx hb hd ht (fun h => kt (Int32.lt_iff_toInt_lt.mp h) hT hF ls H locs hl hW) (fun h => kf (Int.not_lt.mp (fun z => h (Int32.lt_iff_toInt_lt.mpr z))) hT hF ls H locs hl hW)
theorem r_icmp_ge (C : oC l d cc own nL ret M E σ0 Post J) {x y : Int32} {off : Int} (tgt : Nat) (hd : decode cc pc = .ok (.if_icmp .ge off, 3)) (ht : (pc : Int) + off = (tgt : Int)) (kt : y.toInt ≤ x.toInt → J σ tgt lv st) (kf : x.toInt < y.toInt → J σ (pc + 3) lv st) : J σ pc lv (.int y :: .int x :: st) := by
  obtain ⟨p, e, s, m, args, below, meth, c, A, hx, hb, hml, hr, hlk, hown, hts, hNs, hXs, hK, hA, rfl⟩ := C
  intro hT hF ls H locs hl hW
  exact lv_icmp_ge hx hb hd ht (fun h => kt (Int32.le_iff_toInt_le.mp h) hT hF ls H locs hl hW) (fun h => kf (Int.not_le.mp (fun z => h (Int32.le_iff_toInt_le.mpr z))) hT hF ls H locs hl hW)
theorem r_if_ge (C : oC l d cc own nL ret M E σ0 Post J) {x : Int32} {off : Int} (tgt : Nat) (hd : decode cc pc = .ok (.ifCond .ge off, 3)) (ht : (pc : Int) + off = (tgt : Int)) (kt : 0 ≤ x.toInt → J σ tgt lv st) (kf : x.toInt < 0 → J σ (pc + 3) lv st) : J σ pc lv (.int x :: st) := by
  obtain ⟨p, e, s, m, args, below, meth, c, A, hx, hb, hml, hr, hlk, hown, hts, hNs, hXs, hK, hA, rfl⟩ := C
  intro hT hF ls H locs hl hW
  exact lv_if_ge hx hb hd ht (fun h => kt (Int32.le_iff_toInt_le.mp h) hT hF ls H locs hl hW) (fun h => kf (Int.not_le.mp (fun z => h (Int32.le_iff_toInt_le.mpr z))) hT hF ls H locs hl hW)
theorem r_icmp_gt (C : oC l d cc own nL ret M E σ0 Post J) {x y : Int32} {off : Int} (tgt : Nat) (hd : decode cc pc = .ok (.if_icmp .gt off, 3)) (ht : (pc : Int) + off = (tgt : Int)) (kt : y.toInt < x.toInt → J σ tgt lv st) (kf : x.toInt ≤ y.toInt → J σ (pc + 3) lv st) : J σ pc lv (.int y :: .int x :: st) := by
  obtain ⟨p, e, s, m, args, below, meth, c, A, hx, hb, hml, hr, hlk, hown, hts, hNs, hXs, hK, hA, rfl⟩ := C
  intro hT hF ls H locs hl hW
  exact lv_icmp_gt hx hb hd ht (fun h => kt (Int32.lt_iff_toInt_lt.mp h) hT hF ls H locs hl hW) (fun h => kf (Int.not_lt.mp (fun z => h (Int32.lt_iff_toInt_lt.mpr z))) hT hF ls H locs hl hW)
theorem r_if_gt (C : oC l d cc own nL ret M E σ0 Post J) {x : Int32} {off : Int} (tgt : Nat) (hd : decode cc pc = .ok (.ifCond .gt off, 3)) (ht : (pc : Int) + off = (tgt : Int)) (kt : 0 < x.toInt → J σ tgt lv st) (kf : x.toInt ≤ 0 → J σ (pc + 3) lv st) : J σ pc lv (.int x :: st) := by
  obtain ⟨p, e, s, m, args, below, meth, c, A, hx, hb, hml, hr, hlk, hown, hts, hNs, hXs, hK, hA, rfl⟩ := C
  intro hT hF ls H locs hl hW
  exact lv_if_gt hx hb hd ht (fun h => kt (Int32.lt_iff_toInt_lt.mp h) hT hF ls H locs hl hW) (fun h => kf (Int.not_lt.mp (fun z => h (Int32.lt_iff_toInt_lt.mpr z))) hT hF ls H locs hl hW)
theorem r_icmp_le (C : oC l d cc own nL ret M E σ0 Post J) {x y : Int32} {off : Int} (tgt : Nat) (hd : decode cc pc = .ok (.if_icmp .le off, 3)) (ht : (pc : Int) + off = (tgt : Int)) (kt : x.toInt ≤ y.toInt → J σ tgt lv st) (kf : y.toInt < x.toInt → J σ (pc + 3) lv st) : J σ pc lv (.int y :: .int x :: st) := by
  obtain ⟨p, e, s, m, args, below, meth, c, A, hx, hb, hml, hr, hlk, hown, hts, hNs, hXs, hK, hA, rfl⟩ := C
  intro hT hF ls H locs hl hW
  exact lv_icmp_le hx hb hd ht (fun h => kt (Int32.le_iff_toInt_le.mp h) hT hF ls H locs hl hW) (fun h => kf (Int.not_le.mp (fun z => h (Int32.le_iff_toInt_le.mpr z))) hT hF ls H locs hl hW)
theorem r_if_le (C : oC l d cc own nL ret M E σ0 Post J) {x : Int32} {off : Int} (tgt : Nat) (hd : decode cc pc = .ok (.ifCond .le off, 3)) (ht : (pc : Int) + off = (tgt : Int)) (kt : x.toInt ≤ 0 → J σ tgt lv st) (kf : 0 < x.toInt → J σ (pc + 3) lv st) : J σ pc lv (.int x :: st) := by
  obtain ⟨p, e, s, m, args, below, meth, c, A, hx, hb, hml, hr, hlk, hown, hts, hNs, hXs, hK, hA, rfl⟩ := C
  intro hT hF ls H locs hl hW
  exact lv_if_le hx hb hd ht (fun h => kt (Int32.le_iff_toInt_le.mp h) hT hF ls H locs hl hW) (fun h => kf (Int.not_le.mp (fun z => h (Int32.le_iff_toInt_le.mpr z))) hT hF ls H locs hl hW)
theorem r_tableIn (C : oC l d cc own nL ret M E σ0 Post J) {dflt lo hi : Int} {offs : Array Int} {len : Nat} {x : Int32} {off : Int} (tgt : Nat) (hd : decode cc pc = .ok (.tableswitch dflt lo hi offs, len)) (h1 : lo ≤ x.toInt) (h2 : x.toInt ≤ hi) (ho : offs[(x.toInt - lo).toNat]? = some off) (ht : (pc : Int) + off = (tgt : Int)) (kk : J σ tgt lv st) : J σ pc lv (.int x :: st) := by
  obtain ⟨p, e, s, m, args, below, meth, c, A, hx, hb, hml, hr, hlk, hown, hts, hNs, hXs, hK, hA, rfl⟩ := C
  intro hT hF ls H locs hl hW
  exact lv_tableIn hx hb hd (Int.not_lt.mpr h1) (Int.not_lt.mpr h2) ho ht (kk hT hF ls H locs hl hW)
theorem r_tableOut (C : oC l d cc own nL ret M E σ0 Post J) {dflt lo hi : Int} {offs : Array Int} {len : Nat} {x : Int32} (tgt : Nat) (hd : decode cc pc = .ok (.tableswitch dflt lo hi offs, len)) (h : x.toInt < lo ∨ hi < x.toInt) (ht : (pc : Int) + dflt = (tgt : Int)) (kk : J σ tgt lv st) : J σ pc lv (.int x :: st) := by
  obtain ⟨p, e, s, m, args, below, meth, c, A, hx, hb, hml, hr, hlk, hown, hts, hNs, hXs, hK, hA, rfl⟩ := C
  intro hT hF ls H locs hl hW
  exact lv_tableOut hx hb hd h ht (kk hT hF ls H locs hl hW)
theorem r_pick (C : oC l d cc own nL ret M E σ0 Post J) {lv' : List (Nat × Value)} (ks : List Nat) (h : lv_pick lv ks = lv') (kk : J σ pc lv' st) : J σ pc lv st := by
  obtain ⟨p, e, s, m, args, below, meth, c, A, hx, hb, hml, hr, hlk, hown, hts, hNs, hXs, hK, hA, rfl⟩ := C
  intro hT hF ls H locs hl hW
  exact kk hT hF ls H locs (lv_sub hl ks h) hW
theorem r_ty (C : oC l d cc own nL ret M E σ0 Post J) (kk : oTy σ → J σ pc lv st) : J σ pc lv st := by
  obtain ⟨p, e, s, m, args, below, meth, c, A, hx, hb, hml, hr, hlk, hown, hts, hNs, hXs, hK, hA, rfl⟩ := C
  intro hT hF ls H locs hl hW
  exact kk hT hT hF ls H locs hl hW
end ROWS
