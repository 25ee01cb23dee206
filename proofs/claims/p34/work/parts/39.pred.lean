theorem oFr_oneI {σ : oS} {a k q m : Nat} {v : Int32} (hq : okd a = q) (hm : oin [(q, m)] q k = true) : oFr [(q, m)] σ (pI σ a k v) := oFr_pI oFr.rf hq hm
theorem oFr_oneL {σ : oS} {a k q m : Nat} {v : Int64} (hq : okd a = q) (hm : oin [(q, m)] q k = true) : oFr [(q, m)] σ (pL σ a k v) := oFr_pL oFr.rf hq hm
theorem oFr_oneR {σ : oS} {a k q m : Nat} {v : Nat} (hq : okd a = q) (hm : oin [(q, m)] q k = true) : oFr [(q, m)] σ (pR σ a k v) := oFr_pR oFr.rf hq hm
/-- no slot of a kind is among those that may change -/
def oinK (M : List (Nat × Nat)) (q : Nat) : Bool := M.any fun x => x.1 == q
theorem oinK_in {M : List (Nat × Nat)} {q : Nat} (h : oinK M q = false) (k : Nat) : oin M q k = false := by
  rw [Bool.eq_false_iff] at h ⊢
  intro h1
  apply h
  obtain ⟨x, hx, hxq⟩ := List.any_eq_true.mp h1
  refine List.any_eq_true.mpr ⟨x, hx, ?_⟩
  simp only [Bool.and_eq_true] at hxq
  exact hxq.1
/-- a row's sum -/
def oSm (f : Nat → Int32) : Nat → Int
  | 0 => 0
  | n + 1 => oSm f n + (f n).toInt
theorem oSm_congr {f g : Nat → Int32} : ∀ {n : Nat}, (∀ k, k < n → f k = g k) → oSm f n = oSm g n
  | 0, _ => rfl
  | n + 1, h => by
    show oSm f n + (f n).toInt = oSm g n + (g n).toInt
    rw [oSm_congr (fun k hk => h k (by omega)), h n (by omega)]
theorem oSm_mono {f : Nat → Int32} {n : Nat} : ∀ {m : Nat}, n ≤ m → (∀ k, k < m → 1 ≤ (f k).toInt) → oSm f n + ((m - n : Nat) : Int) ≤ oSm f m
  | 0, hn, _ => by
    have : n = 0 := by omega
    subst this
    simp
  | m + 1, hn, h => by
    by_cases e : n = m + 1
    · subst e
      simp
    · have := oSm_mono (f := f) (n := n) (m := m) (by omega) (fun k hk => h k (by omega))
      have h1 := h m (by omega)
      show _ ≤ oSm f m + (f m).toInt
      omega
theorem oSm_at0 {f : Nat → Int32} {x : Int32} (h : x.toInt = 0) : oSm f x.toNatClampNeg = 0 := by
  have : x.toNatClampNeg = 0 := by
    have e : x.toInt.toNat = x.toNatClampNeg := rfl
    omega
  rw [this]
  rfl
theorem oSm_succ {f : Nat → Int32} {x y : Int32} (h0 : 0 ≤ x.toInt) (h : y.toInt = x.toInt + 1) : oSm f y.toNatClampNeg = oSm f x.toNatClampNeg + (f x.toNatClampNeg).toInt := by
  have e1 : x.toInt.toNat = x.toNatClampNeg := rfl
  have e2 : y.toInt.toNat = y.toNatClampNeg := rfl
  have : y.toNatClampNeg = x.toNatClampNeg + 1 := by omega
  rw [this]
  rfl
/-- the line's ticks: each note has one at least, all have 96 at most -/
def oLT (s : oS) : Prop := oSm (s.1 100) (s.1 71 38).toNatClampNeg ≤ 96 ∧ ∀ k, k < (s.1 71 38).toNatClampNeg → 1 ≤ (s.1 100 k).toInt
theorem oLT_fr {M : List (Nat × Nat)} {s u : oS} (hf : oFr M s u) (hm : (oin M 12 38 || oinK M 76) = false) (h : oLT s) : oLT u := by
  simp only [Bool.or_eq_false_iff] at hm
  have e1 : u.1 71 38 = s.1 71 38 := (hf 71 38 hm.1).1
  have e2 : u.1 100 = s.1 100 := by funext k; exact (hf 100 k (oinK_in hm.2 k)).1
  unfold oLT
  rw [e1, e2]
  exact h
theorem oLT_le {s : oS} (h : oLT s) {x : Int32} (h0 : 0 ≤ x.toInt) (hk : x.toInt < (s.1 71 38).toInt) : oSm (s.1 100) x.toNatClampNeg + (s.1 100 x.toNatClampNeg).toInt ≤ 96 ∧ 1 ≤ (s.1 100 x.toNatClampNeg).toInt := by
  have e1 : x.toInt.toNat = x.toNatClampNeg := rfl
  have e2 : (s.1 71 38).toInt.toNat = (s.1 71 38).toNatClampNeg := rfl
  have hlt : x.toNatClampNeg < (s.1 71 38).toNatClampNeg := by omega
  have := oSm_mono (f := s.1 100) (n := x.toNatClampNeg + 1) (m := (s.1 71 38).toNatClampNeg) hlt h.2
  have h3 : oSm (s.1 100) (x.toNatClampNeg + 1) = oSm (s.1 100) x.toNatClampNeg + (s.1 100 x.toNatClampNeg).toInt := rfl
  have h4 := h.1
  have h5 := h.2 _ hlt
  omega
theorem oLT_ge {s : oS} (h : oLT s) {x : Int32} (hx : x.toInt = (s.1 71 38).toInt) : x.toInt ≤ oSm (s.1 100) x.toNatClampNeg := by
  have e1 : x.toInt.toNat = x.toNatClampNeg := rfl
  have e2 : (s.1 71 38).toInt.toNat = (s.1 71 38).toNatClampNeg := rfl
  have e3 : x.toNatClampNeg = (s.1 71 38).toNatClampNeg := by omega
  have := oSm_mono (f := s.1 100) (n := 0) (m := (s.1 71 38).toNatClampNeg) (Nat.zero_le _) h.2
  have h0 : oSm (s.1 100) 0 = 0 := rfl
  rw [e3]
  omega
theorem oFr_nil {σ u : oS} (h : oFr [] σ u) : σ = u := by
  obtain ⟨a, b, c⟩ := u
  obtain ⟨a', b', c'⟩ := σ
  have h1 : a = a' := by funext x y; exact (h x y rfl).1
  have h2 : b = b' := by funext x y; exact (h x y rfl).2.1
  have h3 : c = c' := by funext x y; exact (h x y rfl).2.2
  rw [h1, h2, h3]
theorem n_ofInt {r : Int32} {k : Int} (h : r.toInt = k) : r = Int32.ofInt k := by
  rw [← h]
  exact (Int32.ofInt_toInt r).symm
