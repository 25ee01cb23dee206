theorem oqNk_d {g : Int → Int} {a b lo hi : Int} (h : oqNk g a b lo hi = 0) : oqSk g a + 1 ≤ oqNa g a := by
  have h1 := oqDn_rg g (oqSk g a)
  have h2 : oqDn g (oqSk g a) ≠ 0 := fun h3 => by
    have h4 := oqN_1 (g := g) (a := a) (b := b) (lo := lo) (hi := hi) (Or.inl h3)
    omega
  unfold oqNa
  omega
