def oD4 (x : Int32) (s : oS) : Prop := ∀ j : Nat, j < x.toNatClampNeg → 0 ≤ (s.1 99 j).toInt ∧ (s.1 99 j).toInt ≤ 4
theorem oD4_0 {x : Int32} {s : oS} (h : x.toInt = 0) : oD4 x s := fun j hj => by
  have e := n_nat x
  omega
theorem oD4_step {x y w : Int32} {s : oS} {v : Int32} (h : oD4 x s) (h0 : 0 ≤ x.toInt) (hy : y.toInt = x.toInt + 1) (hw : 0 ≤ w.toInt ∧ w.toInt ≤ 4) : oD4 y (pI (pI s 99 x.toNatClampNeg w) 100 x.toNatClampNeg v) := fun j hj => by
  have e1 := n_nat x
  have e2 := n_nat y
  show 0 ≤ (oU (s.1 99) x.toNatClampNeg w j).toInt ∧ (oU (s.1 99) x.toNatClampNeg w j).toInt ≤ 4
  by_cases hjx : j = x.toNatClampNeg
  · rw [hjx, oU_self]
    exact hw
  · rw [oU_ne hjx]
    exact h j (by omega)
theorem oD4_dg {x : Int32} {s : oS} (h : oD4 x s) (hx : (s.1 71 38).toInt ≤ x.toInt) : oDg s := fun j hj => by
  have e1 := n_nat x
  have e2 := n_nat (s.1 71 38)
  exact h j (by omega)
theorem oLT_nn {s : oS} {v : Int32} (h : oLT s) (e : v.toInt = (s.1 71 38).toInt) : oLT (pI s 71 38 v) := by
  have ev : v = s.1 71 38 := Int32.toInt_inj.mp e
  subst ev
  unfold oLT
  rw [pI_self]
  exact h
theorem oMM_v {x : Int32} {s : oS} (h : x.toInt = 1) : oMM x s = 729000001 - oVl (s.1 99) (s.1 71 38).toNatClampNeg := if_pos h
