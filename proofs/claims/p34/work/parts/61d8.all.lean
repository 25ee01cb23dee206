theorem gr9_X5 (l : Launch) (E : oE) : ∀ N : Nat, ogr9_X5 l E N := by
  intro N
  induction N using Nat.strongRecOn with
  | _ N ih =>
    have h_X5_choice := gr9_X5_X5_choice l E N ih 
    have h_X5_part := gr9_X5_X5_part l E N ih h_X5_choice
    have h_X5_product := gr9_X5_X5_product l E N ih h_X5_part
    have h_X5_sum := gr9_X5_X5_sum l E N ih h_X5_product
    have h_X5_fact := gr9_X5_X5_fact l E N ih h_X5_sum
    have h_X5_both := gr9_X5_X5_both l E N ih h_X5_fact
    have h_X5_test := gr9_X5_X5_test l E N ih h_X5_both
    exact ⟨h_X5_choice, h_X5_part, h_X5_product, h_X5_sum, h_X5_fact, h_X5_both, h_X5_test⟩
theorem ct9_X5_test (l : Launch) (E : oE) : ∀ (s : oS)  (g : Int → Int) (fp : Int) (fq : Int) (a : Int) (b : Int) (op : Int) (bc : Nat) (L : Int) (F : Nat → Int32) (d : Nat) (G : Nat → Nat → Int32) (hp0 : (s.1 30 2).toInt = a) (hp1 : (s.1 30 3).toInt = b) (hp2 : oqX g s) (hp3 : (s.1 30 5).toInt = op) (hp4 : (s.1 30 6).toInt = fp ∧ (s.1 30 7).toInt = fq) (hp5 : fq ≤ 24 ∧ 0 ≤ fp) (hp6 : 6 - (s.1 30 5).toInt ≤ 6) (hp7 : oqRw bc s) (hp8 : oqAn bc L F s) (hp9 : 0 ≤ L ∧ L ≤ a) (hp10 : oqKx d G s), oMet l 74 yX5_test cX5_test 2 (some .boolean) [(0, 1), (5, 2), (5, 3), (5, 4), (5, 5), (5, 8), (5, 9), (20, 9999)] E s [.ref (oad E 30)] (oPi (fun r u => (0 ≤ r.toInt ∧ r.toInt ≤ 1) ∧ (r.toInt = 1 → oqGn g fp fq (oqSk g a) b op (u.1 30 2).toInt (u.1 30 3).toInt) ∧ (r.toInt = 1 → (oqWi g (u.1 30 2).toInt (u.1 30 3).toInt ≠ 7 ∧ oqWi g (u.1 30 2).toInt (u.1 30 3).toInt ≠ 8)) ∧ (r.toInt = 1 → (oqSk g (u.1 30 2).toInt = (u.1 30 2).toInt ∧ (u.1 30 5).toInt = op ∧ a + 1 ≤ (u.1 30 2).toInt ∧ (u.1 30 8).toInt = (s.1 30 8).toInt ∧ (u.1 30 9).toInt = (s.1 30 9).toInt)) ∧ (r.toInt = 0 → oqFn g fp fq (oqSk g a) b op (u.1 30 8).toInt (u.1 30 9).toInt) ∧ (r.toInt = 1 → oqEc oqT5 g fp fq 0 (oqSk g a) b op 2 (u.1 30 2).toInt (u.1 30 3).toInt op L F (u.1 bc 1).toInt (u.1 (bc + 1))) ∧ (r.toInt = 1 → (u.1 bc 1).toInt - L ≤ (u.1 30 2).toInt - a) ∧ (oqKx d G u))) := fun s => (gr9_X5 l E 6).2.2.2.2.2.2 s
