/-! steps of the machine, for every stack -/
def oqGo (g : Int → Int) (p q : Int) (m : Nat) (a b o : Int) (m' : Nat) (a' b' o' : Int) : Prop := ∀ K, oqTo g p q (m, a, b, o, K) (m', a', b', o', K)
def oqFa (g : Int → Int) (p q : Int) (m : Nat) (a b o k pl : Int) : Prop := ∀ K, oqTo g p q (m, a, b, o, K) (9, pl, k, 0, [])
section PDA
variable {g : Int → Int} {p q a b o : Int} {K : List Nat}
theorem oqp_deep (h : g a = 40) (ho : 6 ≤ o) : oqFa g p q 1 a b o 4 a := fun K => oqTo.one (by rw [oqPs_1]; unfold oqP1; rw [if_pos h, if_pos ho])
theorem oqp_par (h : g a = 40) (ho : o < 6) : oqTo g p q (1, a, b, o, K) (1, oqSk g (a + 1), b, o + 1, 0 :: K) := oqTo.one (by rw [oqPs_1]; unfold oqP1; rw [if_pos h, if_neg (by omega)])
theorem oqp_parF {k pl : Int} (h : g a = 40) (ho : o < 6) (hs : oqFa g p q 1 (oqSk g (a + 1)) b (o + 1) k pl) : oqFa g p q 1 a b o k pl := fun K => (oqp_par h ho).tr (hs _)
theorem oqp_parN {x y : Int} (h : g a = 40) (ho : o < 6) (hs : oqGo g p q 1 (oqSk g (a + 1)) b (o + 1) 3 x y (o + 1)) (hx : ¬ oqOp g x) (hc : g x ≠ 41) : oqFa g p q 1 a b o 1 x := fun K => (oqp_par h ho).tr ((hs _).tr (oqTo.one (by rw [oqPs_3n hx]; exact if_neg hc)))
theorem oqp_parY {x y : Int} (h : g a = 40) (ho : o < 6) (hs : oqGo g p q 1 (oqSk g (a + 1)) b (o + 1) 3 x y (o + 1)) (hx : ¬ oqOp g x) (hc : g x = 41) : oqGo g p q 1 a b o 3 (oqSk g (x + 1)) y o := fun K => (oqp_par h ho).tr ((hs _).tr (oqTo.one (by
  rw [oqPs_3n hx]
  show (if g x = 41 then ((3, oqSk g (x + 1), y, o + 1 - 1, K) : oqCf) else (9, x, 1, 0, [])) = _
  rw [if_pos hc, show o + 1 - 1 = o by omega])))
theorem oqp_num (h : g a ≠ 40) (hj : ¬ (oqWi g a b = 24 ∨ oqWi g a b = 25)) (hr : ¬ (p ≤ oqWi g a b ∧ oqWi g a b < q)) (hk : oqNk g a b 0 9999 = 0) : oqGo g p q 1 a b o 3 (oqSk g (oqNa g a)) (oqNa g a) o := fun K => oqTo.one (by rw [oqPs_1]; unfold oqP1; rw [if_neg h, if_neg hj, if_neg hr, if_neg (by omega)])
theorem oqp_numF (h : g a ≠ 40) (hj : ¬ (oqWi g a b = 24 ∨ oqWi g a b = 25)) (hr : ¬ (p ≤ oqWi g a b ∧ oqWi g a b < q)) (hk : oqNk g a b 0 9999 ≠ 0) : oqFa g p q 1 a b o (oqNk g a b 0 9999) (oqNp g a b) := fun K => oqTo.one (by rw [oqPs_1]; unfold oqP1; rw [if_neg h, if_neg hj, if_neg hr, if_pos hk])
theorem oqp_wd {j : Nat} (h : g a ≠ 40) (hj : oqWi g a b = (j : Int)) (h24 : j < 24) (hr : p ≤ (j : Int) ∧ (j : Int) < q) : oqGo g p q 1 a b o 3 (oqSk g (oqHa g a j)) (oqHa g a j) o := fun K => oqTo.one (by
  rw [oqPs_1]
  unfold oqP1
  rw [if_neg h, if_neg (by omega), if_pos (by omega), hj, Int.toNat_natCast])
/-- behind min or max -/
def oqCy (g : Int → Int) (p q a b o a' b' : Int) : Prop := g (oqSk g a) = 40 ∧ o < 6 ∧ ∀ K, oqTo g p q (1, oqSk g (oqSk g a + 1), b, o + 1, 1 :: K) (3, a', b', o, K)
def oqCn (g : Int → Int) (p q a b o k pl : Int) : Prop := (g (oqSk g a) ≠ 40 ∧ k = 1 ∧ pl = oqSk g a) ∨ (g (oqSk g a) = 40 ∧ 6 ≤ o ∧ k = 4 ∧ pl = oqSk g a) ∨ (g (oqSk g a) = 40 ∧ o < 6 ∧ ∀ K, oqTo g p q (1, oqSk g (oqSk g a + 1), b, o + 1, 1 :: K) (9, pl, k, 0, []))
theorem oqc_F {k pl : Int} (h : g (oqSk g a) = 40) (ho : o < 6) (hs : oqFa g p q 1 (oqSk g (oqSk g a + 1)) b (o + 1) k pl) : oqCn g p q a b o k pl := Or.inr (Or.inr ⟨h, ho, fun K => hs _⟩)
theorem oqc_N1 {x y : Int} (h : g (oqSk g a) = 40) (ho : o < 6) (hs : oqGo g p q 1 (oqSk g (oqSk g a + 1)) b (o + 1) 3 x y (o + 1)) (hx : ¬ oqOp g x) (hc : g x ≠ 44) : oqCn g p q a b o 1 x := Or.inr (Or.inr ⟨h, ho, fun K => (hs _).tr (oqTo.one (by rw [oqPs_3n hx]; exact if_neg hc))⟩)
theorem oqc_C {x y : Int} (hs : oqGo g p q 1 (oqSk g (oqSk g a + 1)) b (o + 1) 3 x y (o + 1)) (hx : ¬ oqOp g x) (hc : g x = 44) (K : List Nat) : oqTo g p q (1, oqSk g (oqSk g a + 1), b, o + 1, 1 :: K) (1, oqSk g (x + 1), y, o + 1, 2 :: K) := (hs _).tr (oqTo.one (by rw [oqPs_3n hx]; exact if_pos hc))
theorem oqc_F2 {x y k pl : Int} (h : g (oqSk g a) = 40) (ho : o < 6) (hs : oqGo g p q 1 (oqSk g (oqSk g a + 1)) b (o + 1) 3 x y (o + 1)) (hx : ¬ oqOp g x) (hc : g x = 44) (h2 : oqFa g p q 1 (oqSk g (x + 1)) y (o + 1) k pl) : oqCn g p q a b o k pl := Or.inr (Or.inr ⟨h, ho, fun K => (oqc_C hs hx hc K).tr (h2 _)⟩)
theorem oqc_N2 {x y x2 y2 : Int} (h : g (oqSk g a) = 40) (ho : o < 6) (hs : oqGo g p q 1 (oqSk g (oqSk g a + 1)) b (o + 1) 3 x y (o + 1)) (hx : ¬ oqOp g x) (hc : g x = 44) (h2 : oqGo g p q 1 (oqSk g (x + 1)) y (o + 1) 3 x2 y2 (o + 1)) (hx2 : ¬ oqOp g x2) (hc2 : g x2 ≠ 41) : oqCn g p q a b o 1 x2 := Or.inr (Or.inr ⟨h, ho, fun K => (oqc_C hs hx hc K).tr ((h2 _).tr (oqTo.one (by rw [oqPs_3n hx2]; exact if_neg hc2)))⟩)
theorem oqc_Y {x y x2 y2 : Int} (h : g (oqSk g a) = 40) (ho : o < 6) (hs : oqGo g p q 1 (oqSk g (oqSk g a + 1)) b (o + 1) 3 x y (o + 1)) (hx : ¬ oqOp g x) (hc : g x = 44) (h2 : oqGo g p q 1 (oqSk g (x + 1)) y (o + 1) 3 x2 y2 (o + 1)) (hx2 : ¬ oqOp g x2) (hc2 : g x2 = 41) : oqCy g p q a b o (oqSk g (x2 + 1)) y2 := ⟨h, ho, fun K => (oqc_C hs hx hc K).tr ((h2 _).tr (oqTo.one (by
  rw [oqPs_3n hx2]
  show (if g x2 = 41 then ((3, oqSk g (x2 + 1), y2, o + 1 - 1, K) : oqCf) else (9, x2, 1, 0, [])) = _
  rw [if_pos hc2, show o + 1 - 1 = o by omega])))⟩
theorem oqp_minY {j : Nat} {x y : Int} (h : g a ≠ 40) (hj : oqWi g a b = (j : Int)) (hm : j = 24 ∨ j = 25) (hc : oqCy g p q (oqHa g a j) (oqHa g a j) o x y) : oqGo g p q 1 a b o 3 x y o := fun K => by
  obtain ⟨h1, h2, h3⟩ := hc
  refine oqTo.tr (oqTo.one (d := (1, oqSk g (oqSk g (oqHa g a j) + 1), oqHa g a j, o + 1, 1 :: K)) ?_) (h3 K)
  rw [oqPs_1]
  unfold oqP1
  rw [if_neg h, if_pos (by omega), hj, Int.toNat_natCast, if_neg (by omega), if_neg (by omega)]
theorem oqp_minN {j : Nat} {k pl : Int} (h : g a ≠ 40) (hj : oqWi g a b = (j : Int)) (hm : j = 24 ∨ j = 25) (hc : oqCn g p q (oqHa g a j) (oqHa g a j) o k pl) : oqFa g p q 1 a b o k pl := fun K => by
  rcases hc with ⟨h1, rfl, rfl⟩ | ⟨h1, h2, rfl, rfl⟩ | ⟨h1, h2, h3⟩
  · refine oqTo.one ?_
    rw [oqPs_1]
    unfold oqP1
    rw [if_neg h, if_pos (by omega), hj, Int.toNat_natCast, if_pos h1]
  · refine oqTo.one ?_
    rw [oqPs_1]
    unfold oqP1
    rw [if_neg h, if_pos (by omega), hj, Int.toNat_natCast, if_neg (by omega), if_pos h2]
  · refine oqTo.tr (oqTo.one (d := (1, oqSk g (oqSk g (oqHa g a j) + 1), oqHa g a j, o + 1, 1 :: K)) ?_) (h3 K)
    rw [oqPs_1]
    unfold oqP1
    rw [if_neg h, if_pos (by omega), hj, Int.toNat_natCast, if_neg (by omega), if_neg (by omega)]
/-- a sign between two parts -/
theorem oqp_op {m : Nat} {x y x2 y2 o2 : Int} (H : oqGo g p q m a b o 3 x y o2) (h : oqOp g x) (H2 : oqGo g p q 1 (oqSk g (x + 1)) y o2 3 x2 y2 o2) : oqGo g p q m a b o 3 x2 y2 o2 := fun K => (H K).tr ((oqTo.one (oqPs_3y h)).tr (H2 K))
theorem oqp_opF {m : Nat} {x y o2 k pl : Int} (H : oqGo g p q m a b o 3 x y o2) (h : oqOp g x) (H2 : oqFa g p q 1 (oqSk g (x + 1)) y o2 k pl) : oqFa g p q m a b o k pl := fun K => (H K).tr ((oqTo.one (oqPs_3y h)).tr (H2 K))
/-- no sign not stands open on top -/
def oqNN (K : List Nat) : Prop := ∀ L, K ≠ 4 :: L
def oqGn (g : Int → Int) (p q : Int) (a b o a' b' : Int) : Prop := ∀ K, oqNN K → oqTo g p q (0, a, b, o, K) (2, a', b', o, K)
def oqFn (g : Int → Int) (p q : Int) (a b o k pl : Int) : Prop := ∀ K, oqNN K → oqTo g p q (0, a, b, o, K) (9, pl, k, 0, [])
theorem oqNN_0 : oqNN [] := fun L h => by cases h
theorem oqNN_3 {L : List Nat} : oqNN (3 :: L) := fun M h => by
  injection h with h1 h2
  omega
theorem oqP2_nn (h : oqNN K) : oqP2 g a b o K = oqP2m g a b o K := by
  unfold oqP2
  split
  · exact absurd rfl (h _)
  · rfl
  · rfl
/-- facts -/
theorem oqf_deepS (h : g a = 91) (ho : 6 ≤ o) : oqFa g p q 0 a b o 4 a := fun K => oqTo.one (by rw [oqPs_0]; unfold oqP0; rw [if_pos h, if_pos ho])
theorem oqf_sq (h : g a = 91) (ho : o < 6) : oqTo g p q (0, a, b, o, K) (0, oqSk g (a + 1), b, o + 1, 3 :: K) := oqTo.one (by rw [oqPs_0]; unfold oqP0; rw [if_pos h, if_neg (by omega)])
theorem oqf_sqF {k pl : Int} (h : g a = 91) (ho : o < 6) (hs : oqFn g p q (oqSk g (a + 1)) b (o + 1) k pl) : oqFa g p q 0 a b o k pl := fun K => (oqf_sq h ho).tr (hs _ oqNN_3)
theorem oqf_end {x y : Int} {L : List Nat} (hw : oqWi g x y ≠ 7 ∧ oqWi g x y ≠ 8) : oqPs g p q (2, x, y, o, 3 :: L) = if g x = 93 then (2, oqSk g (x + 1), y, o - 1, L) else (9, x, 1, 0, []) := by
  rw [oqPs_2, oqP2_nn oqNN_3]
  unfold oqP2m
  rw [if_neg (by omega), if_neg (by omega)]
  rfl
theorem oqf_sqN {x y : Int} (h : g a = 91) (ho : o < 6) (hs : oqGn g p q (oqSk g (a + 1)) b (o + 1) x y) (hw : oqWi g x y ≠ 7 ∧ oqWi g x y ≠ 8) (hc : g x ≠ 93) : oqFa g p q 0 a b o 1 x := fun K => (oqf_sq h ho).tr ((hs _ oqNN_3).tr (oqTo.one (by rw [oqf_end hw, if_neg hc])))
theorem oqf_sqY {x y : Int} (h : g a = 91) (ho : o < 6) (hs : oqGn g p q (oqSk g (a + 1)) b (o + 1) x y) (hw : oqWi g x y ≠ 7 ∧ oqWi g x y ≠ 8) (hc : g x = 93) : oqGo g p q 0 a b o 2 (oqSk g (x + 1)) y o := fun K => (oqf_sq h ho).tr ((hs _ oqNN_3).tr (oqTo.one (by rw [oqf_end hw, if_pos hc, show o + 1 - 1 = o by omega])))
theorem oqf_deepN (h : g a ≠ 91) (hj : oqWi g a b = 9) (ho : 6 ≤ o) : oqFa g p q 0 a b o 4 a := fun K => oqTo.one (by rw [oqPs_0]; unfold oqP0; rw [if_neg h, if_pos hj, if_pos ho])
theorem oqf_not (h : g a ≠ 91) (hj : oqWi g a b = 9) (ho : o < 6) : oqTo g p q (0, a, b, o, K) (0, oqSk g (oqHa g a 9), oqHa g a 9, o + 1, 4 :: K) := oqTo.one (by rw [oqPs_0]; unfold oqP0; rw [if_neg h, if_pos hj, if_neg (by omega)])
theorem oqf_notF {k pl : Int} (h : g a ≠ 91) (hj : oqWi g a b = 9) (ho : o < 6) (hs : oqFa g p q 0 (oqSk g (oqHa g a 9)) (oqHa g a 9) (o + 1) k pl) : oqFa g p q 0 a b o k pl := fun K => (oqf_not h hj ho).tr (hs _)
theorem oqf_notY {x y : Int} (h : g a ≠ 91) (hj : oqWi g a b = 9) (ho : o < 6) (hs : oqGo g p q 0 (oqSk g (oqHa g a 9)) (oqHa g a 9) (o + 1) 2 x y (o + 1)) : oqGo g p q 0 a b o 2 x y o := fun K => (oqf_not h hj ho).tr ((hs _).tr (oqTo.one (by
  rw [oqPs_2]
  show ((2, x, y, o + 1 - 1, K) : oqCf) = _
  rw [show o + 1 - 1 = o by omega])))
theorem oqf_all (h : g a ≠ 91) (hj : oqWi g a b = 10) : oqGo g p q 0 a b o 2 (oqSk g (oqHa g a 10)) (oqHa g a 10) o := fun K => oqTo.one (by rw [oqPs_0]; unfold oqP0; rw [if_neg h, if_neg (by omega), if_pos hj])
theorem oqf_sum (h : g a ≠ 91) (h9 : oqWi g a b ≠ 9) (h10 : oqWi g a b ≠ 10) : oqTo g p q (0, a, b, o, K) (1, a, b, o, 5 :: K) := oqTo.one (by rw [oqPs_0]; unfold oqP0; rw [if_neg h, if_neg h9, if_neg h10])
theorem oqf_sumF {k pl : Int} (h : g a ≠ 91) (h9 : oqWi g a b ≠ 9) (h10 : oqWi g a b ≠ 10) (hs : oqFa g p q 1 a b o k pl) : oqFa g p q 0 a b o k pl := fun K => (oqf_sum h h9 h10).tr (hs _)
theorem oqf_sgnN {x y : Int} (h : g a ≠ 91) (h9 : oqWi g a b ≠ 9) (h10 : oqWi g a b ≠ 10) (hs : oqGo g p q 1 a b o 3 x y o) (hx : ¬ oqOp g x) (hc : ¬ (g x = 60 ∨ g x = 62 ∨ g x = 61)) : oqFa g p q 0 a b o 1 x := fun K => (oqf_sum h h9 h10).tr ((hs _).tr (oqTo.one (by rw [oqPs_3n hx]; exact if_neg hc)))
theorem oqf_sgn {x y : Int} (h : g a ≠ 91) (h9 : oqWi g a b ≠ 9) (h10 : oqWi g a b ≠ 10) (hs : oqGo g p q 1 a b o 3 x y o) (hx : ¬ oqOp g x) (hc : g x = 60 ∨ g x = 62 ∨ g x = 61) : oqTo g p q (0, a, b, o, K) (1, oqSk g (x + 1), y, o, 6 :: K) := (oqf_sum h h9 h10).tr ((hs _).tr (oqTo.one (by rw [oqPs_3n hx]; exact if_pos hc)))
theorem oqf_sgnF {x y k pl : Int} (h : g a ≠ 91) (h9 : oqWi g a b ≠ 9) (h10 : oqWi g a b ≠ 10) (hs : oqGo g p q 1 a b o 3 x y o) (hx : ¬ oqOp g x) (hc : g x = 60 ∨ g x = 62 ∨ g x = 61) (h2 : oqFa g p q 1 (oqSk g (x + 1)) y o k pl) : oqFa g p q 0 a b o k pl := fun K => (oqf_sgn h h9 h10 hs hx hc).tr (h2 _)
theorem oqf_sgnY {x y x2 y2 : Int} (h : g a ≠ 91) (h9 : oqWi g a b ≠ 9) (h10 : oqWi g a b ≠ 10) (hs : oqGo g p q 1 a b o 3 x y o) (hx : ¬ oqOp g x) (hc : g x = 60 ∨ g x = 62 ∨ g x = 61) (h2 : oqGo g p q 1 (oqSk g (x + 1)) y o 3 x2 y2 o) (hx2 : ¬ oqOp g x2) : oqGo g p q 0 a b o 2 x2 y2 o := fun K => (oqf_sgn h h9 h10 hs hx hc).tr ((h2 _).tr (oqTo.one (by rw [oqPs_3n hx2]; rfl)))
/-- and, or -/
theorem oqb_1 {x y : Int} (h : oqGo g p q 0 a b o 2 x y o) : oqGn g p q a b o x y := fun K _ => h K
theorem oqb_1F {k pl : Int} (h : oqFa g p q 0 a b o k pl) : oqFn g p q a b o k pl := fun K _ => h K
theorem oqb_and {x y x2 y2 : Int} (H : oqGn g p q a b o x y) (hw : oqWi g x y = 8) (h2 : oqGn g p q (oqSk g (oqHa g x 8)) (oqHa g x 8) o x2 y2) : oqGn g p q a b o x2 y2 := fun K hK => (H K hK).tr ((oqTo.one (by rw [oqPs_2, oqP2_nn hK]; unfold oqP2m; rw [if_pos hw])).tr (h2 K hK))
theorem oqb_andF {x y k pl : Int} (H : oqGn g p q a b o x y) (hw : oqWi g x y = 8) (h2 : oqFn g p q (oqSk g (oqHa g x 8)) (oqHa g x 8) o k pl) : oqFn g p q a b o k pl := fun K hK => (H K hK).tr ((oqTo.one (by rw [oqPs_2, oqP2_nn hK]; unfold oqP2m; rw [if_pos hw])).tr (h2 K hK))
theorem oqb_or {x y x2 y2 : Int} (H : oqGn g p q a b o x y) (hw : oqWi g x y = 7) (h2 : oqGn g p q (oqSk g (oqHa g x 7)) (oqHa g x 7) o x2 y2) : oqGn g p q a b o x2 y2 := fun K hK => (H K hK).tr ((oqTo.one (by rw [oqPs_2, oqP2_nn hK]; unfold oqP2m; rw [if_neg (by omega), if_pos hw])).tr (h2 K hK))
theorem oqb_orF {x y k pl : Int} (H : oqGn g p q a b o x y) (hw : oqWi g x y = 7) (h2 : oqFn g p q (oqSk g (oqHa g x 7)) (oqHa g x 7) o k pl) : oqFn g p q a b o k pl := fun K hK => (H K hK).tr ((oqTo.one (by rw [oqPs_2, oqP2_nn hK]; unfold oqP2m; rw [if_neg (by omega), if_pos hw])).tr (h2 K hK))
/-- the whole test -/
theorem oqt_Y {x y : Int} (H : oqGn g p q a b o x y) (hw : oqWi g x y ≠ 7 ∧ oqWi g x y ≠ 8) : oqTo g p q (0, a, b, o, []) (8, x, y, o, []) := (H [] oqNN_0).tr (oqTo.one (by
  rw [oqPs_2, oqP2_nn oqNN_0]
  unfold oqP2m
  rw [if_neg (by omega), if_neg (by omega)]
  rfl))
end PDA
/-! the same with other names for what is equal -/
theorem oqGo.cast {g : Int → Int} {p q a b o o' : Int} {m m' : Nat} {x y x' y' : Int} (h : oqGo g p q m a b o m' x y o') (hx : x' = x) (hy : y' = y) : oqGo g p q m a b o m' x' y' o' := by
  rw [hx, hy]; exact h
theorem oqGo.castS {g : Int → Int} {p q a b o o' : Int} {m m' : Nat} {x y x' y' : Int} (h : oqGo g p q m a b o m' (oqSk g x) y o') (hx : x' = x) (hy : y' = y) : oqGo g p q m a b o m' (oqSk g x') y' o' := by
  rw [hx, hy]; exact h
theorem oqFa.cast {g : Int → Int} {p q a b o : Int} {m : Nat} {k pl k' pl' : Int} (h : oqFa g p q m a b o k pl) (hk : k' = k) (hp : pl' = pl) : oqFa g p q m a b o k' pl' := by
  rw [hk, hp]; exact h
theorem oqGn.cast {g : Int → Int} {p q a b o : Int} {x y x' y' : Int} (h : oqGn g p q a b o x y) (hx : x' = x) (hy : y' = y) : oqGn g p q a b o x' y' := by
  rw [hx, hy]; exact h
theorem oqGn.castS {g : Int → Int} {p q a b o : Int} {x y x' y' : Int} (h : oqGn g p q a b o (oqSk g x) y) (hx : x' = x) (hy : y' = y) : oqGn g p q a b o (oqSk g x') y' := by
  rw [hx, hy]; exact h
theorem oqFn.cast {g : Int → Int} {p q a b o : Int} {k pl k' pl' : Int} (h : oqFn g p q a b o k pl) (hk : k' = k) (hp : pl' = pl) : oqFn g p q a b o k' pl' := by
  rw [hk, hp]; exact h
theorem oqCn.cast {g : Int → Int} {p q a b o : Int} {k pl k' pl' : Int} (h : oqCn g p q a b o k pl) (hk : k' = k) (hp : pl' = pl) : oqCn g p q a b o k' pl' := by
  rw [hk, hp]; exact h
theorem oqCy.castS {g : Int → Int} {p q a b o : Int} {x y x' y' : Int} (h : oqCy g p q a b o (oqSk g x) y) (hx : x' = x) (hy : y' = y) : oqCy g p q a b o (oqSk g x') y' := by
  rw [hx, hy]; exact h
/-- no number and no word -/
theorem oqp_none {g : Int → Int} {p q a b o : Int} (h : g a ≠ 40) (hs : oqSk g a = a) (hd : ¬ (48 ≤ g a ∧ g a ≤ 57)) (hj : ¬ (oqWi g a b = 24 ∨ oqWi g a b = 25)) (hr : ¬ (p ≤ oqWi g a b ∧ oqWi g a b < q)) : oqFa g p q 1 a b o 1 a := by
  have h0 : oqDn g (oqSk g a) = 0 := by
    rw [hs]
    exact (oqDn_rg g a).2.2.mpr hd
  have h1 := oqN_1 (lo := 0) (hi := 9999) (b := b) (Or.inl h0)
  have h2 := oqp_numF (o := o) h hj hr (by omega)
  rw [h1.1, h1.2, hs] at h2
  exact h2
theorem oqOp_no {g : Int → Int} {a : Int} (h : g a ≠ 42 ∧ g a ≠ 47 ∧ g a ≠ 43 ∧ g a ≠ 45) : ¬ oqOp g a := fun h1 => by
  unfold oqOp at h1
  omega
theorem oqWi_sk {g : Int → Int} {a b : Int} (h : oqSk g (oqSk g a) = oqSk g a) : oqWi g (oqSk g a) b = oqWi g a b := oqWi_eq (fun i hi => by
  rw [oqH_sk h]
  exact oqWi_is hi) (oqWi_rg g a b)
theorem oqSF_ge {g : Int → Int} : ∀ (k : Nat) (a : Int), a ≤ oqSF g k a
  | 0, a => Int.le_refl _
  | k + 1, a => by
    show a ≤ (if g a = 32 ∨ g a = 10 then oqSF g k (a + 1) else a)
    split
    · have := oqSF_ge (g := g) k (a + 1)
      omega
    · omega
theorem oqSk_ge (g : Int → Int) (a : Int) : a ≤ oqSk g a := oqSF_ge 1601 a
