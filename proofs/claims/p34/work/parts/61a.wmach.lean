/-! the machine of tests that writes: mode (0 a fact is asked, 1 a part, 2 behind a fact, 3 behind a part, 8 the end), place, glue, how many are open, what waits (as the reference has it; 30 a sum ahead of a sign, 31 .. 33 one behind it), what is written (the newest first) -/
abbrev oqCw : Type := Nat × Int × Int × Int × List Int × List Int
def oqOc (g : Int → Int) (a : Int) : Int := if g a = 43 then 1 else if g a = 45 then 2 else if g a = 42 then 3 else 4
def oqSc (g : Int → Int) (a : Int) : Int := if g a = 60 then 31 else if g a = 62 then 32 else 33
noncomputable def oqW0 (g : Int → Int) (a b o : Int) (K R : List Int) : oqCw := if g a = 91 then (if 6 ≤ o then (9, a, b, o, [], []) else (0, oqSk g (a + 1), b, o + 1, 25 :: K, R)) else if oqWi g a b = 9 then (if 6 ≤ o then (9, a, b, o, [], []) else (0, oqSk g (oqHa g a 9), oqHa g a 9, o + 1, 16 :: K, R)) else if oqWi g a b = 10 then (2, oqSk g (oqHa g a 10), oqHa g a 10, o, K, 17 :: R) else (1, a, b, o, 30 :: K, R)
noncomputable def oqW1 (g : Int → Int) (p q a b o : Int) (K R : List Int) : oqCw := if g a = 40 then (if 6 ≤ o then (9, a, b, o, [], []) else (1, oqSk g (a + 1), b, o + 1, 20 :: K, R)) else if oqWi g a b = 24 ∨ oqWi g a b = 25 then (if 6 ≤ o then (9, a, b, o, [], []) else (1, oqSk g (oqSk g (oqHa g a (oqWi g a b).toNat) + 1), oqHa g a (oqWi g a b).toNat, o + 1, (oqWi g a b - 3) :: K, R)) else if p ≤ oqWi g a b ∧ oqWi g a b < q then (3, oqSk g (oqHa g a (oqWi g a b).toNat), oqHa g a (oqWi g a b).toNat, o, K, (40 + oqWi g a b - p) :: R) else if oqNk g a b 0 9999 ≠ 0 then (9, a, b, o, [], []) else (3, oqSk g (oqNa g a), oqNa g a, o, K, (1000 + oqNv g a) :: R)
noncomputable def oqW2 (g : Int → Int) (a b o : Int) (R : List Int) : List Int → oqCw
  | [] => if oqWi g a b = 8 then (0, oqSk g (oqHa g a 8), oqHa g a 8, o, [14], R) else if oqWi g a b = 7 then (0, oqSk g (oqHa g a 7), oqHa g a 7, o, [15], R) else (8, a, b, o, [], R)
  | k :: K => if k = 16 then (2, a, b, o - 1, K, 16 :: R) else if k = 14 then (2, a, b, o, K, 14 :: R) else if oqWi g a b = 8 then (0, oqSk g (oqHa g a 8), oqHa g a 8, o, 14 :: k :: K, R) else if k = 15 then (2, a, b, o, K, 15 :: R) else if oqWi g a b = 7 then (0, oqSk g (oqHa g a 7), oqHa g a 7, o, 15 :: k :: K, R) else (2, oqSk g (a + 1), b, o - 1, K, R)
def oqMu (g : Int → Int) (a : Int) : Prop := g a = 42 ∨ g a = 47
noncomputable def oqW3 (g : Int → Int) (a b o : Int) (R : List Int) : List Int → oqCw
  | [] => (9, a, b, o, [], R)
  | k :: K => if k = 3 ∨ k = 4 then (3, a, b, o, K, k :: R) else @ite oqCw ((k = 1 ∨ k = 2) ∧ ¬ oqMu g a) (Classical.propDecidable _) (3, a, b, o, K, k :: R) (@ite oqCw (oqOp g a) (Classical.propDecidable _) (1, oqSk g (a + 1), b, o, oqOc g a :: k :: K, R) (if k = 20 then (3, oqSk g (a + 1), b, o - 1, K, R) else if k = 21 ∨ k = 22 then (1, oqSk g (a + 1), b, o, (k + 2) :: K, R) else if k = 23 ∨ k = 24 then (3, oqSk g (a + 1), b, o - 1, K, (k - 18) :: R) else if k = 30 then (1, oqSk g (a + 1), b, o, oqSc g a :: K, R) else (2, a, b, o, K, (k - 20) :: R)))
noncomputable def oqWs (g : Int → Int) (p q : Int) (c : oqCw) : oqCw :=
  if c.1 = 0 then oqW0 g c.2.1 c.2.2.1 c.2.2.2.1 c.2.2.2.2.1 c.2.2.2.2.2 else if c.1 = 1 then oqW1 g p q c.2.1 c.2.2.1 c.2.2.2.1 c.2.2.2.2.1 c.2.2.2.2.2 else if c.1 = 2 then oqW2 g c.2.1 c.2.2.1 c.2.2.2.1 c.2.2.2.2.2 c.2.2.2.2.1 else if c.1 = 3 then oqW3 g c.2.1 c.2.2.1 c.2.2.2.1 c.2.2.2.2.2 c.2.2.2.2.1 else c
noncomputable def oqWit (g : Int → Int) (p q : Int) : Nat → oqCw → oqCw
  | 0, c => c
  | n + 1, c => oqWit g p q n (oqWs g p q c)
def oqTw (g : Int → Int) (p q : Int) (c d : oqCw) : Prop := ∃ n : Nat, oqWit g p q n c = d
theorem oqWit_add {g : Int → Int} {p q : Int} : ∀ (n m : Nat) (c : oqCw), oqWit g p q (n + m) c = oqWit g p q m (oqWit g p q n c)
  | 0, m, c => by rw [Nat.zero_add]; rfl
  | n + 1, m, c => by
    rw [show n + 1 + m = (n + m) + 1 by omega]
    exact oqWit_add n m (oqWs g p q c)
theorem oqTw.rf {g : Int → Int} {p q : Int} {c : oqCw} : oqTw g p q c c := ⟨0, rfl⟩
theorem oqTw.tr {g : Int → Int} {p q : Int} {c d e : oqCw} (h1 : oqTw g p q c d) (h2 : oqTw g p q d e) : oqTw g p q c e := by
  obtain ⟨n, h1⟩ := h1
  obtain ⟨m, h2⟩ := h2
  exact ⟨n + m, by rw [oqWit_add, h1, h2]⟩
theorem oqTw.one {g : Int → Int} {p q : Int} {c d : oqCw} (h : oqWs g p q c = d) : oqTw g p q c d := ⟨1, h⟩
theorem oqWit_fix {g : Int → Int} {p q : Int} {c : oqCw} (h : 4 ≤ c.1) : ∀ n : Nat, oqWit g p q n c = c
  | 0 => rfl
  | n + 1 => by
    have e : oqWs g p q c = c := by
      unfold oqWs
      rw [if_neg (by omega), if_neg (by omega), if_neg (by omega), if_neg (by omega)]
    show oqWit g p q n (oqWs g p q c) = c
    rw [e]
    exact oqWit_fix h n
theorem oqTw.det {g : Int → Int} {p q : Int} {c d e : oqCw} (h1 : oqTw g p q c d) (h2 : oqTw g p q c e) (hd : 4 ≤ d.1) (he : 4 ≤ e.1) : d = e := by
  obtain ⟨n, h1⟩ := h1
  obtain ⟨m, h2⟩ := h2
  by_cases hnm : n ≤ m
  · have h3 : oqWit g p q m c = oqWit g p q (m - n) (oqWit g p q n c) := by rw [← oqWit_add]; congr 1; omega
    rw [h1, oqWit_fix hd, h2] at h3
    exact h3.symm
  · have h3 : oqWit g p q n c = oqWit g p q (n - m) (oqWit g p q m c) := by rw [← oqWit_add]; congr 1; omega
    rw [h2, oqWit_fix he, h1] at h3
    exact h3
/-! what may wait below: nothing of times, of plus, of and, of or -/
def oqT0 (_ : List Int) : Prop := True
def oqT3 (K : List Int) : Prop := ∃ k L, K = k :: L ∧ k ≠ 3 ∧ k ≠ 4
def oqT1 (K : List Int) : Prop := ∃ k L, K = k :: L ∧ k ≠ 3 ∧ k ≠ 4 ∧ k ≠ 1 ∧ k ≠ 2
def oqT4 (K : List Int) : Prop := ∀ k L, K = k :: L → k ≠ 14 ∧ k ≠ 16
def oqT5 (K : List Int) : Prop := ∀ k L, K = k :: L → k ≠ 14 ∧ k ≠ 16 ∧ k ≠ 15
theorem oqT1_3 {K : List Int} (h : oqT1 K) : oqT3 K := by
  obtain ⟨k, L, h1, h2, h3, h4, h5⟩ := h
  exact ⟨k, L, h1, h2, h3⟩
theorem oqT5_4 {K : List Int} (h : oqT5 K) : oqT4 K := fun k L e => ⟨(h k L e).1, (h k L e).2.1⟩
theorem oqT1_k {k : Int} {L : List Int} (h : k ≠ 3 ∧ k ≠ 4 ∧ k ≠ 1 ∧ k ≠ 2) : oqT1 (k :: L) := ⟨k, L, rfl, h⟩
theorem oqT5_0 : oqT5 [] := fun k L e => by cases e
theorem oqT5_25 {L : List Int} : oqT5 (25 :: L) := fun k M e => by
  injection e with e1 e2
  omega
theorem oqT4_15 {L : List Int} : oqT4 (15 :: L) := fun k M e => by
  injection e with e1 e2
  omega
theorem oqT3_1 {k : Int} {L : List Int} (h : k = 1 ∨ k = 2) : oqT3 (k :: L) := ⟨k, L, rfl, by omega, by omega⟩
/-- from here to there, over whatever waits, w is written -/
def oqGww (C : List Int → Prop) (g : Int → Int) (p q : Int) (m : Nat) (a b o : Int) (m' : Nat) (a' b' o' : Int) (w : List Int) : Prop := ∀ K R, C K → oqTw g p q (m, a, b, o, K, R) (m', a', b', o', K, w ++ R)
section WM
variable {g : Int → Int} {p q a b o : Int} {K R w w2 : List Int} {x y x2 y2 : Int}
theorem oqWs_0 : oqWs g p q (0, a, b, o, K, R) = oqW0 g a b o K R := rfl
theorem oqWs_1 : oqWs g p q (1, a, b, o, K, R) = oqW1 g p q a b o K R := rfl
theorem oqWs_2 : oqWs g p q (2, a, b, o, K, R) = oqW2 g a b o R K := rfl
theorem oqWs_3 : oqWs g p q (3, a, b, o, K, R) = oqW3 g a b o R K := rfl
theorem oqW2_c {k : Int} : oqW2 g a b o R (k :: K) = if k = 16 then (2, a, b, o - 1, K, 16 :: R) else if k = 14 then (2, a, b, o, K, 14 :: R) else if oqWi g a b = 8 then (0, oqSk g (oqHa g a 8), oqHa g a 8, o, 14 :: k :: K, R) else if k = 15 then (2, a, b, o, K, 15 :: R) else if oqWi g a b = 7 then (0, oqSk g (oqHa g a 7), oqHa g a 7, o, 15 :: k :: K, R) else (2, oqSk g (a + 1), b, o - 1, K, R) := rfl
theorem oqGww.up {C D : List Int → Prop} {m m' : Nat} {o' : Int} (h : oqGww C g p q m a b o m' x y o' w) (hC : ∀ K, D K → C K) : oqGww D g p q m a b o m' x y o' w := fun K R hK => h K R (hC K hK)
theorem oqGww.cast {C : List Int → Prop} {m m' : Nat} {o' x' y' : Int} (h : oqGww C g p q m a b o m' x y o' w) (hx : x' = x) (hy : y' = y) : oqGww C g p q m a b o m' x' y' o' w := by
  rw [hx, hy]; exact h
/-! steps behind a part -/
theorem oqW3_mul (hk : x = 3 ∨ x = 4) : oqTw g p q (3, a, b, o, x :: K, R) (3, a, b, o, K, x :: R) := oqTw.one (by
  rw [oqWs_3]
  exact if_pos hk)
theorem oqW3_add (hk : x = 1 ∨ x = 2) (h : ¬ oqMu g a) : oqTw g p q (3, a, b, o, x :: K, R) (3, a, b, o, K, x :: R) := oqTw.one (by
  rw [oqWs_3]
  exact (if_neg (by omega)).trans (if_pos ⟨hk, h⟩))
theorem oqW3_op (hK : oqT1 K) (h : oqOp g a) : oqTw g p q (3, a, b, o, K, R) (1, oqSk g (a + 1), b, o, oqOc g a :: K, R) := oqTw.one (by
  obtain ⟨k, L, rfl, h1, h2, h3, h4⟩ := hK
  rw [oqWs_3]
  exact (if_neg (by omega)).trans ((if_neg (fun h9 => by omega)).trans (if_pos h)))
theorem oqW3_mu (hK : oqT3 K) (h : oqMu g a) : oqTw g p q (3, a, b, o, K, R) (1, oqSk g (a + 1), b, o, oqOc g a :: K, R) := oqTw.one (by
  obtain ⟨k, L, rfl, h1, h2⟩ := hK
  have hop : oqOp g a := by
    unfold oqMu at h
    unfold oqOp
    omega
  rw [oqWs_3]
  exact (if_neg (by omega)).trans ((if_neg (fun h9 => h9.2 h)).trans (if_pos hop)))
theorem oqW3_n {k : Int} {L : List Int} (h : ¬ oqOp g a) (hk : k ≠ 3 ∧ k ≠ 4 ∧ k ≠ 1 ∧ k ≠ 2) : oqWs g p q (3, a, b, o, k :: L, R) = if k = 20 then (3, oqSk g (a + 1), b, o - 1, L, R) else if k = 21 ∨ k = 22 then (1, oqSk g (a + 1), b, o, (k + 2) :: L, R) else if k = 23 ∨ k = 24 then (3, oqSk g (a + 1), b, o - 1, L, (k - 18) :: R) else if k = 30 then (1, oqSk g (a + 1), b, o, oqSc g a :: L, R) else (2, a, b, o, L, (k - 20) :: R) := by
  rw [oqWs_3]
  exact (if_neg (by omega)).trans ((if_neg (fun h9 => by omega)).trans (if_neg h))
theorem oqMu_no (h : g a ≠ 42 ∧ g a ≠ 47) : ¬ oqMu g a := fun h9 => by
  unfold oqMu at h9
  omega
theorem oqOc_m (h : oqMu g a) : oqOc g a = 3 ∨ oqOc g a = 4 := by
  unfold oqMu at h
  unfold oqOc
  rw [if_neg (by omega), if_neg (by omega)]
  split <;> omega
theorem oqOc_a (h : oqOp g a) (hm : ¬ oqMu g a) : oqOc g a = 1 ∨ oqOc g a = 2 := by
  unfold oqMu at hm
  unfold oqOp at h
  unfold oqOc
  by_cases h1 : g a = 43
  · left; exact if_pos h1
  · right; exact (if_neg h1).trans (if_pos (by omega))
/-! parts -/
theorem oqw_par (h : g a = 40) (ho : o < 6) (hs : oqGww oqT1 g p q 1 (oqSk g (a + 1)) b (o + 1) 3 x y (o + 1) w) (hx : ¬ oqOp g x) : oqGww oqT0 g p q 1 a b o 3 (oqSk g (x + 1)) y o w := fun K R _ => by
  refine oqTw.tr (oqTw.one (d := (1, oqSk g (a + 1), b, o + 1, 20 :: K, R)) ?_) (oqTw.tr (hs _ R (oqT1_k (by decide))) (oqTw.one ?_))
  · rw [oqWs_1]
    exact (if_pos h).trans (if_neg (by omega))
  · rw [oqW3_n hx (by decide), if_pos rfl, show o + 1 - 1 = o by omega]
theorem oqw_num (h : g a ≠ 40) (hj : ¬ (oqWi g a b = 24 ∨ oqWi g a b = 25)) (hr : ¬ (p ≤ oqWi g a b ∧ oqWi g a b < q)) (hk : oqNk g a b 0 9999 = 0) : oqGww oqT0 g p q 1 a b o 3 (oqSk g (oqNa g a)) (oqNa g a) o [1000 + oqNv g a] := fun K R _ => oqTw.one (by
  rw [oqWs_1]
  exact (if_neg h).trans ((if_neg hj).trans ((if_neg hr).trans (if_neg (by omega)))))
theorem oqw_wd {j : Nat} (h : g a ≠ 40) (hj : oqWi g a b = (j : Int)) (h24 : j < 24) (hr : p ≤ (j : Int) ∧ (j : Int) < q) : oqGww oqT0 g p q 1 a b o 3 (oqSk g (oqHa g a j)) (oqHa g a j) o [40 + (j : Int) - p] := fun K R _ => oqTw.one (by
  rw [oqWs_1]
  unfold oqW1
  rw [if_neg h, if_neg (by omega), if_pos (by omega), hj, Int.toNat_natCast]
  rfl)
/-- min, max: j 24, 25 -/
theorem oqw_min {j : Nat} (h : g a ≠ 40) (hj : oqWi g a b = (j : Int)) (hm : j = 24 ∨ j = 25) (ho : o < 6) (hs : oqGww oqT1 g p q 1 (oqSk g (oqSk g (oqHa g a j) + 1)) (oqHa g a j) (o + 1) 3 x y (o + 1) w) (hx : ¬ oqOp g x) (h2 : oqGww oqT1 g p q 1 (oqSk g (x + 1)) y (o + 1) 3 x2 y2 (o + 1) w2) (hx2 : ¬ oqOp g x2) : oqGww oqT0 g p q 1 a b o 3 (oqSk g (x2 + 1)) y2 o (((j : Int) - 19) :: (w2 ++ w)) := fun K R _ => by
  refine oqTw.tr (oqTw.one (d := (1, oqSk g (oqSk g (oqHa g a j) + 1), oqHa g a j, o + 1, ((j : Int) - 3) :: K, R)) ?_) (oqTw.tr (hs _ R (oqT1_k (by omega))) (oqTw.tr (oqTw.one (d := (1, oqSk g (x + 1), y, o + 1, ((j : Int) - 3 + 2) :: K, w ++ R)) ?_) (oqTw.tr (h2 _ _ (oqT1_k (by omega))) (oqTw.one ?_))))
  · rw [oqWs_1]
    unfold oqW1
    rw [if_neg h, if_pos (by omega), hj, Int.toNat_natCast, if_neg (by omega)]
  · rw [oqW3_n hx (by omega), if_neg (by omega), if_pos (by omega)]
  · rw [oqW3_n hx2 (by omega), if_neg (by omega), if_neg (by omega), if_pos (by omega), show o + 1 - 1 = o by omega, show (j : Int) - 3 + 2 - 18 = (j : Int) - 19 by omega, List.cons_append, List.append_assoc]
/-- a part is a product -/
theorem oqw_1 {C : List Int → Prop} {m m' : Nat} (h : oqGww oqT0 g p q m a b o m' x y o w) : oqGww C g p q m a b o m' x y o w := fun K R _ => h K R trivial
theorem oqw_mu (H : oqGww oqT3 g p q 1 a b o 3 x y o w) (h : oqMu g x) (h2 : oqGww oqT0 g p q 1 (oqSk g (x + 1)) y o 3 x2 y2 o w2) : oqGww oqT3 g p q 1 a b o 3 x2 y2 o (oqOc g x :: (w2 ++ w)) := fun K R hK => by
  refine (H K R hK).tr ((oqW3_mu hK h).tr ((h2 _ _ trivial).tr ?_))
  have := oqW3_mul (g := g) (p := p) (q := q) (a := x2) (b := y2) (o := o) (x := oqOc g x) (K := K) (R := w2 ++ (w ++ R)) (oqOc_m h)
  rw [List.cons_append, List.append_assoc]
  exact this
/-- a product is a sum -/
theorem oqw_p (H : oqGww oqT3 g p q 1 a b o 3 x y o w) : oqGww oqT1 g p q 1 a b o 3 x y o w := H.up (fun _ => oqT1_3)
theorem oqw_ad (H : oqGww oqT1 g p q 1 a b o 3 x y o w) (h : oqOp g x) (hm : ¬ oqMu g x) (h2 : oqGww oqT3 g p q 1 (oqSk g (x + 1)) y o 3 x2 y2 o w2) (hx2 : ¬ oqMu g x2) : oqGww oqT1 g p q 1 a b o 3 x2 y2 o (oqOc g x :: (w2 ++ w)) := fun K R hK => by
  have hc := oqOc_a h hm
  refine (H K R hK).tr ((oqW3_op hK h).tr ((h2 _ _ (oqT3_1 hc)).tr ?_))
  have := oqW3_add (g := g) (p := p) (q := q) (a := x2) (b := y2) (o := o) (x := oqOc g x) (K := K) (R := w2 ++ (w ++ R)) hc hx2
  rw [List.cons_append, List.append_assoc]
  exact this
/-! facts -/
theorem oqw_all (h : g a ≠ 91) (hj : oqWi g a b = 10) : oqGww oqT0 g p q 0 a b o 2 (oqSk g (oqHa g a 10)) (oqHa g a 10) o [17] := fun K R _ => oqTw.one (by
  rw [oqWs_0]
  exact (if_neg h).trans ((if_neg (by omega)).trans (if_pos hj)))
theorem oqw_not (h : g a ≠ 91) (hj : oqWi g a b = 9) (ho : o < 6) (hs : oqGww oqT0 g p q 0 (oqSk g (oqHa g a 9)) (oqHa g a 9) (o + 1) 2 x y (o + 1) w) : oqGww oqT0 g p q 0 a b o 2 x y o (16 :: w) := fun K R _ => by
  refine oqTw.tr (oqTw.one (d := (0, oqSk g (oqHa g a 9), oqHa g a 9, o + 1, 16 :: K, R)) ?_) ((hs _ _ trivial).tr (oqTw.one ?_))
  · rw [oqWs_0]
    exact (if_neg h).trans ((if_pos hj).trans (if_neg (by omega)))
  · rw [oqWs_2, oqW2_c, if_pos rfl, show o + 1 - 1 = o by omega]
    rfl
theorem oqw_sq (h : g a = 91) (ho : o < 6) (hs : oqGww oqT5 g p q 0 (oqSk g (a + 1)) b (o + 1) 2 x y (o + 1) w) (hw : oqWi g x y ≠ 7 ∧ oqWi g x y ≠ 8) : oqGww oqT0 g p q 0 a b o 2 (oqSk g (x + 1)) y o w := fun K R _ => by
  refine oqTw.tr (oqTw.one (d := (0, oqSk g (a + 1), b, o + 1, 25 :: K, R)) ?_) ((hs _ _ oqT5_25).tr (oqTw.one ?_))
  · rw [oqWs_0]
    exact (if_pos h).trans (if_neg (by omega))
  · rw [oqWs_2, oqW2_c, if_neg (by decide), if_neg (by decide), if_neg hw.2, if_neg (by decide), if_neg hw.1, show o + 1 - 1 = o by omega]
theorem oqw_sgn (h : g a ≠ 91) (h9 : oqWi g a b ≠ 9) (h10 : oqWi g a b ≠ 10) (hs : oqGww oqT1 g p q 1 a b o 3 x y o w) (hx : ¬ oqOp g x) (h2 : oqGww oqT1 g p q 1 (oqSk g (x + 1)) y o 3 x2 y2 o w2) (hx2 : ¬ oqOp g x2) : oqGww oqT0 g p q 0 a b o 2 x2 y2 o ((oqSc g x - 20) :: (w2 ++ w)) := fun K R _ => by
  have hc : oqSc g x = 31 ∨ oqSc g x = 32 ∨ oqSc g x = 33 := by
    unfold oqSc
    repeat' split
    all_goals omega
  refine oqTw.tr (oqTw.one (d := (1, a, b, o, 30 :: K, R)) ?_) ((hs _ _ (oqT1_k (by decide))).tr (oqTw.tr (oqTw.one (d := (1, oqSk g (x + 1), y, o, oqSc g x :: K, w ++ R)) ?_) ((h2 _ _ (oqT1_k (by omega))).tr (oqTw.one ?_))))
  · rw [oqWs_0]
    exact (if_neg h).trans ((if_neg h9).trans (if_neg h10))
  · rw [oqW3_n hx (by decide), if_neg (by decide), if_neg (by decide), if_neg (by decide), if_pos rfl]
  · rw [oqW3_n hx2 (by omega), if_neg (by omega), if_neg (by omega), if_neg (by omega), if_neg (by omega), List.cons_append, List.append_assoc]
/-! and, or -/
theorem oqW2_and (hK : oqT4 K) (h : oqWi g x y = 8) : oqTw g p q (2, x, y, o, K, R) (0, oqSk g (oqHa g x 8), oqHa g x 8, o, 14 :: K, R) := oqTw.one (by
  rw [oqWs_2]
  cases K with
  | nil => exact if_pos h
  | cons k L =>
    obtain ⟨h1, h2⟩ := hK k L rfl
    exact (if_neg h2).trans ((if_neg h1).trans (if_pos h)))
theorem oqW2_or (hK : oqT5 K) (h : oqWi g x y = 7) : oqTw g p q (2, x, y, o, K, R) (0, oqSk g (oqHa g x 7), oqHa g x 7, o, 15 :: K, R) := oqTw.one (by
  rw [oqWs_2]
  cases K with
  | nil => exact (if_neg (by omega)).trans (if_pos h)
  | cons k L =>
    obtain ⟨h1, h2, h3⟩ := hK k L rfl
    exact (if_neg h2).trans ((if_neg h1).trans ((if_neg (by omega)).trans ((if_neg h3).trans (if_pos h)))))
theorem oqW2_14 : oqTw g p q (2, x, y, o, 14 :: K, R) (2, x, y, o, K, 14 :: R) := oqTw.one (by
  rw [oqWs_2, oqW2_c, if_neg (by decide), if_pos rfl])
theorem oqW2_16 : oqTw g p q (2, x, y, o, 16 :: K, R) (2, x, y, o - 1, K, 16 :: R) := oqTw.one (by
  rw [oqWs_2, oqW2_c, if_pos rfl])
theorem oqW2_15 (h : oqWi g x y ≠ 8) : oqTw g p q (2, x, y, o, 15 :: K, R) (2, x, y, o, K, 15 :: R) := oqTw.one (by
  rw [oqWs_2, oqW2_c, if_neg (by decide), if_neg (by decide), if_neg h, if_pos rfl])
theorem oqw_and (H : oqGww oqT4 g p q 0 a b o 2 x y o w) (h : oqWi g x y = 8) (h2 : oqGww oqT0 g p q 0 (oqSk g (oqHa g x 8)) (oqHa g x 8) o 2 x2 y2 o w2) : oqGww oqT4 g p q 0 a b o 2 x2 y2 o (14 :: (w2 ++ w)) := fun K R hK => by
  refine (H K R hK).tr ((oqW2_and hK h).tr ((h2 _ _ trivial).tr ?_))
  rw [List.cons_append, List.append_assoc]
  exact oqW2_14
theorem oqw_b (H : oqGww oqT4 g p q 0 a b o 2 x y o w) : oqGww oqT5 g p q 0 a b o 2 x y o w := H.up (fun _ => oqT5_4)
theorem oqw_or (H : oqGww oqT5 g p q 0 a b o 2 x y o w) (h : oqWi g x y = 7) (h2 : oqGww oqT4 g p q 0 (oqSk g (oqHa g x 7)) (oqHa g x 7) o 2 x2 y2 o w2) (hx2 : oqWi g x2 y2 ≠ 8) : oqGww oqT5 g p q 0 a b o 2 x2 y2 o (15 :: (w2 ++ w)) := fun K R hK => by
  refine (H K R hK).tr ((oqW2_or hK h).tr ((h2 _ _ oqT4_15).tr ?_))
  rw [List.cons_append, List.append_assoc]
  exact oqW2_15 hx2
end WM
