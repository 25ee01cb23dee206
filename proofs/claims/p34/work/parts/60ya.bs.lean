/-! the whole book: how many statements (-1 with a fault), the fault, its place; rules, mottos, their names -/
noncomputable def oqBs (g : Int → Int) : Nat → Int → Int → Int → Int → (Nat → Nat → Int) → Int → Int × Int × Int × Int × Int × (Nat → Nat → Int)
  | 0, _, _, _, _, N, _ => (0, 0, 0, 0, 0, N)
  | k + 1, a, b, R, M, N, n => if g (oqSk g a) = -1 then (n, 0, -1, R, M, N) else if n = 60 then (-1, 5, oqSk g a, R, M, N) else if oqBk g (oqSk g a) b R M N ≠ 0 then (-1, oqBk g (oqSk g a) b R M N, oqBp g (oqSk g a) b R M N, R, M, N) else oqBs g k (oqBa g (oqSk g a) b) (oqBb g (oqSk g a) b) (oqBR g (oqSk g a) b R) (oqBM g (oqSk g a) b M) (oqBN g (oqSk g a) b N M) (n + 1)
noncomputable def oqBz (g : Int → Int) : Int × Int × Int × Int × Int × (Nat → Nat → Int) := oqBs g 61 0 (-1) 0 0 (fun _ _ => 0) 0
noncomputable def oqB1 (g : Int → Int) : Int := (oqBz g).1
noncomputable def oqB2 (g : Int → Int) : Int := (oqBz g).2.1
noncomputable def oqB3 (g : Int → Int) : Int := (oqBz g).2.2.1
noncomputable def oqB4 (g : Int → Int) : Int := (oqBz g).2.2.2.1
noncomputable def oqB5 (g : Int → Int) : Int := (oqBz g).2.2.2.2.1
noncomputable def oqB6 (g : Int → Int) : Nat → Nat → Int := (oqBz g).2.2.2.2.2
/-- so far it goes on -/
def oqBu (g : Int → Int) (a b R M : Int) (N : Nat → Nat → Int) (n : Int) : Prop := 0 ≤ n ∧ n ≤ 60 ∧ oqBz g = oqBs g (61 - n).toNat a b R M N n
section BOOK
variable {g : Int → Int} {a b R M n : Int} {N : Nat → Nat → Int}
theorem oqBu_0 (ha : a = 0) (hb : b = -1) (hn : n = 0) : oqBu g a b 0 0 (fun _ _ => 0) n := by
  subst ha hb hn
  exact ⟨by omega, by omega, rfl⟩
theorem oqBu_u (H : oqBu g a b R M N n) : oqBz g = if g (oqSk g a) = -1 then (n, 0, -1, R, M, N) else if n = 60 then (-1, 5, oqSk g a, R, M, N) else if oqBk g (oqSk g a) b R M N ≠ 0 then (-1, oqBk g (oqSk g a) b R M N, oqBp g (oqSk g a) b R M N, R, M, N) else oqBs g (60 - n).toNat (oqBa g (oqSk g a) b) (oqBb g (oqSk g a) b) (oqBR g (oqSk g a) b R) (oqBM g (oqSk g a) b M) (oqBN g (oqSk g a) b N M) (n + 1) := by
  obtain ⟨h0, h1, h⟩ := H
  rw [h, show (61 - n).toNat = (60 - n).toNat + 1 by omega]
  rfl
theorem oqBu_nx {a' b' n' : Int} (H : oqBu g a b R M N n) (h1 : g (oqSk g a) ≠ -1) (h2 : n < 60) (hk : oqBk g (oqSk g a) b R M N = 0) (ha : a' = oqBa g (oqSk g a) b) (hb : b' = oqBb g (oqSk g a) b) (hn : n' = n + 1) : oqBu g a' b' (oqBR g (oqSk g a) b R) (oqBM g (oqSk g a) b M) (oqBN g (oqSk g a) b N M) n' := by
  have h0 := H.1
  have h := oqBu_u H
  rw [if_neg h1, if_neg (by omega), if_neg (by omega)] at h
  subst ha hb hn
  exact ⟨by omega, by omega, by rw [h, show (61 - (n + 1)).toNat = (60 - n).toNat by omega]⟩
theorem oqBu_end (H : oqBu g a b R M N n) (h1 : g (oqSk g a) = -1) : oqB1 g = n ∧ oqB2 g = 0 ∧ oqB3 g = -1 ∧ oqB4 g = R ∧ oqB5 g = M ∧ oqB6 g = N := by
  have h := oqBu_u H
  rw [if_pos h1] at h
  unfold oqB1 oqB2 oqB3 oqB4 oqB5 oqB6
  rw [h]
  exact ⟨rfl, rfl, rfl, rfl, rfl, rfl⟩
theorem oqBu_5 (H : oqBu g a b R M N n) (h1 : g (oqSk g a) ≠ -1) (hn : n = 60) : oqB1 g = -1 ∧ oqB2 g = 5 ∧ oqB3 g = oqSk g a := by
  have h := oqBu_u H
  rw [if_neg h1, if_pos hn] at h
  unfold oqB1 oqB2 oqB3
  rw [h]
  exact ⟨rfl, rfl, rfl⟩
theorem oqBu_bad (H : oqBu g a b R M N n) (h1 : g (oqSk g a) ≠ -1) (hn : n < 60) (hk : oqBk g (oqSk g a) b R M N ≠ 0) : oqB1 g = -1 ∧ oqB2 g = oqBk g (oqSk g a) b R M N ∧ oqB3 g = oqBp g (oqSk g a) b R M N := by
  have h := oqBu_u H
  rw [if_neg h1, if_neg (by omega), if_pos hk] at h
  unfold oqB1 oqB2 oqB3
  rw [h]
  exact ⟨rfl, rfl, rfl⟩
theorem oqBk_rg (hk : oqBk g a b R M N = 0) (h0 : 0 ≤ R ∧ R ≤ 12 ∧ 0 ≤ M ∧ M ≤ 6) : 0 ≤ oqBR g a b R ∧ oqBR g a b R ≤ 12 ∧ 0 ≤ oqBM g a b M ∧ oqBM g a b M ≤ 6 := by
  by_cases h4 : oqWi g a b = 4
  · have e := oqBs_4 (R := R) (M := M) (N := N) h4
    by_cases hR : 12 ≤ R
    · have e2 := oqB_r5 (R := R) (M := M) (N := N) h4 hR
      omega
    · omega
  · by_cases h5 : oqWi g a b = 5
    · have e := oqBs_5 (R := R) (M := M) (N := N) h5
      by_cases hM : 6 ≤ M
      · have e2 := oqB_o5 (R := R) (M := M) (N := N) h5 hM
        omega
      · omega
    · have e1 : oqBR g a b R = R := if_neg h4
      have e2 : oqBM g a b M = M := if_neg h5
      omega
end BOOK
/-- the class on its way along the book -/
def oqCS (g : Int → Int) (n : Int) (t : oS) : Prop := ∃ R M N, oqNl N R M M t ∧ oqBu g (t.1 30 2).toInt (t.1 30 3).toInt R M N n ∧ (0 ≤ R ∧ R ≤ 12 ∧ 0 ≤ M ∧ M ≤ 6)
theorem oqCS_0 {g : Int → Int} {t : oS} {c : Nat} {n : Int} (hb : t.2.2 30 1 = c + 1) (hk : okd c = 0) (h7 : (t.1 c 7).toInt = 0) (h8 : (t.1 c 8).toInt = 0) (ha : (t.1 30 2).toInt = 0) (hg : (t.1 30 3).toInt = -1) (hn : n = 0) : oqCS g n t := ⟨0, 0, fun _ _ => 0, oqNl_mk hb hk h7 h8 (fun m hm => by omega), oqBu_0 ha hg hn, by omega, by omega, by omega, by omega⟩
theorem oqCS_nx {g : Int → Int} {u : oS} {a b R M n n' : Int} {N : Nat → Nat → Int} (H : oqBu g a b R M N n) (h1 : g (oqSk g a) ≠ -1) (h2 : n < 60) (hk : oqBk g (oqSk g a) b R M N = 0) (hr : 0 ≤ R ∧ R ≤ 12 ∧ 0 ≤ M ∧ M ≤ 6) (hN : oqNl (oqBN g (oqSk g a) b N M) (oqBR g (oqSk g a) b R) (oqBM g (oqSk g a) b M) (oqBM g (oqSk g a) b M) u) (ha : (u.1 30 2).toInt = oqBa g (oqSk g a) b) (hb : (u.1 30 3).toInt = oqBb g (oqSk g a) b) (hn : n' = n + 1) : oqCS g n' u := ⟨_, _, _, hN, oqBu_nx H h1 h2 hk ha hb hn, oqBk_rg hk hr⟩
theorem oqCS_fin {g : Int → Int} {u : oS} {R M : Int} {N : Nat → Nat → Int} (hN : oqNl N R M M u) (h4 : oqB4 g = R) (h5 : oqB5 g = M) (h6 : oqB6 g = N) : oqNl (oqB6 g) (oqB4 g) (oqB5 g) (oqB5 g) u := by
  rw [h4, h5, h6]
  exact hN
