/-! what a statement leaves of rules, mottos and names -/
noncomputable def oqBR (g : Int → Int) (a b R : Int) : Int := if oqWi g a b = 4 then R + 1 else R
noncomputable def oqBM (g : Int → Int) (a b M : Int) : Int := if oqWi g a b = 5 then M + 1 else M
noncomputable def oqBN (g : Int → Int) (a b : Int) (N : Nat → Nat → Int) (M : Int) : Nat → Nat → Int := if oqWi g a b = 5 then oqNx N M (oqN6 g (oqSk g (oqBh g a b))) else N
section BKS
variable {g : Int → Int} {a b R M : Int} {N : Nat → Nat → Int}
theorem oqBs_3 (h : oqWi g a b = 3) : oqBR g a b R = R ∧ oqBM g a b M = M ∧ oqBN g a b N M = N := ⟨if_neg (by omega), if_neg (by omega), if_neg (by omega)⟩
theorem oqBs_4 (h : oqWi g a b = 4) : oqBR g a b R = R + 1 ∧ oqBM g a b M = M ∧ oqBN g a b N M = N := ⟨if_pos h, if_neg (by omega), if_neg (by omega)⟩
theorem oqBs_5 (h : oqWi g a b = 5) : oqBR g a b R = R ∧ oqBM g a b M = M + 1 ∧ oqBN g a b N M = oqNx N M (oqN6 g (oqSk g (oqBh g a b))) := ⟨if_neg (by omega), if_pos h, if_pos h⟩
end BKS
theorem oqBh_w {g : Int → Int} {a b : Int} {i : Nat} (h : oqWi g a b = (i : Int)) : oqBh g a b = oqSk g a + (oqWl i : Int) := by
  unfold oqBh oqHa
  rw [h, Int.toNat_natCast]
theorem oqBh_nl {g : Int → Int} {a b : Int} {i : Nat} (hi : i < 26) (h : oqWi g a b = (i : Int)) : ¬ (97 ≤ g (oqBh g a b) ∧ g (oqBh g a b) ≤ 122) := by
  rw [oqBh_w h]
  exact (oqH_is ((oqWi_is hi).mp h)).1.2
/-- with other counts -/
theorem oqNl_cl {s u : oS} {N N' : Nat → Nat → Int} {R M L R' M' L' : Int} {b : Nat} {MM : List (Nat × Nat)} (h : oqNl N R M L s) (hb : u.2.2 30 1 = b + 1) (hf : oFr MM s u) (hm : (oin MM 5 1 || oinK MM 23) = false) (hR : (u.1 b 7).toInt = R') (hM : (u.1 b 8).toInt = M') (hL : L' ≤ L) (hN : N' = N) : oqNl N' R' M' L' u := by
  simp only [Bool.or_eq_false_iff] at hm
  obtain ⟨c, h1, h2, h3, h4, h5⟩ := h
  have e0 := (hf 30 1 hm.1).2.2
  have e : c = b := by omega
  subst e
  subst hN
  refine ⟨c, hb, h2, hR, hM, fun m hm2 k hk => ?_⟩
  rw [oFr_row hf (c := c + 4) (kr0_4 h2) hm.2]
  exact h5 m (by omega) k hk
