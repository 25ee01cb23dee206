/-! the reference ahead of a statement's ; -/
def oqB85 (g : Int → Int) (a b R M : Int) (N : Nat → Nat → Int) (t : oS) : Prop := ∀ u : oS, ((t.1 71 5).toInt = 0 → g (oqSk g (t.1 71 2).toInt) ≠ 32 ∧ g (oqSk g (t.1 71 2).toInt) ≠ 10) → ((u.1 71 5).toInt = 0 → (t.1 71 5).toInt = 0 ∧ g (oqSk g (t.1 71 2).toInt) = 59 ∧ (u.1 71 2).toInt = oqSk g (t.1 71 2).toInt + 1 ∧ (u.1 71 4).toInt = (t.1 71 4).toInt) → ((u.1 71 5).toInt ≠ 0 → ((t.1 71 5).toInt = 0 ∧ g (oqSk g (t.1 71 2).toInt) ≠ 59 ∧ (u.1 71 5).toInt = 1 ∧ (u.1 71 6).toInt = oqSk g (t.1 71 2).toInt) ∨ ((t.1 71 5).toInt ≠ 0 ∧ (u.1 71 5).toInt = (t.1 71 5).toInt ∧ (u.1 71 6).toInt = (t.1 71 6).toInt)) → ((u.1 71 5).toInt = 0 → oqBk g a b R M N = 0 ∧ (u.1 71 2).toInt = oqBa g a b ∧ (u.1 71 4).toInt = oqBb g a b) ∧ ((u.1 71 5).toInt ≠ 0 → oqBk g a b R M N ≠ 0 ∧ (u.1 71 5).toInt = oqBk g a b R M N ∧ (u.1 71 6).toInt = oqBp g a b R M N)
def oqC85 (g : Int → Int) (a b R M : Int) (t : oS) : Prop := (t.1 71 5).toInt = 0 → (t.1 71 45).toInt ≤ (t.1 71 2).toInt ∧ 2 ≤ (t.1 71 54).toInt ∧ (t.1 71 54).toInt ≤ 12 ∧ (t.1 104 2).toInt = oqBR g a b R ∧ (t.1 104 3).toInt = oqBM g a b M
def oqD85 (g : Int → Int) (a b M : Int) (N : Nat → Nat → Int) (t : oS) : Prop := (t.1 71 5).toInt = 0 → oqNR (oqBN g a b N M) (oqBM g a b M) t
section B85
variable {g : Int → Int} {a b R M : Int} {N : Nat → Nat → Int} {s u : oS}
theorem oqB85_m {v : Int32} {w : oS} (hw : w = pI s 71 54 v) (hW : oqWi g a b = 3) (U1 : (s.1 71 5).toInt = 0 → oqNk g (oqHa g a 3) (oqHa g a 3) 2 12 = 0 ∧ (s.1 71 2).toInt = oqNa g (oqHa g a 3) ∧ (s.1 71 4).toInt = oqNa g (oqHa g a 3)) (U0 : (s.1 71 5).toInt ≠ 0 → oqNk g (oqHa g a 3) (oqHa g a 3) 2 12 ≠ 0 ∧ (s.1 71 5).toInt = oqNk g (oqHa g a 3) (oqHa g a 3) 2 12 ∧ (s.1 71 6).toInt = oqNp g (oqHa g a 3) (oqHa g a 3)) : oqB85 g a b R M N w := by
  subst hw
  intro u _ h1 h0
  exact oqBt_m (bs := (s.1 71 5).toInt) (ps := (s.1 71 6).toInt) (as := (s.1 71 2).toInt) (es := (s.1 71 4).toInt) hW U1 U0 h1 h0
theorem oqB85_r (hW : oqWi g a b = 4) (h1 : R < 12 → oqVs g 11 19 (oqHa g a 4) s) (h5 : 12 ≤ R → (s.1 71 5).toInt = 5 ∧ (s.1 71 6).toInt = a) (hk : oqSk g a = a) : oqB85 g a b R M N s := by
  intro u hnb q1 q0
  by_cases hR : R < 12
  · exact oqBt_r hW hR (oqVs_59 (h1 hR) (fun _ => rfl) hnb q1 q0)
  · obtain ⟨r1, r2⟩ := h5 (by omega)
    have e := oqB_r5 (R := R) (M := M) (N := N) hW (by omega)
    have hb : (u.1 71 5).toInt ≠ 0 := fun h9 => by
      have := (q1 h9).1
      omega
    rcases q0 hb with ⟨z1, z2⟩ | ⟨z1, z2, z3⟩
    · exfalso
      omega
    · exact oqBt_x e.1 e.2 (by omega) (by omega) (by omega)
theorem oqB85_o (hW : oqWi g a b = 5) (h5 : 6 ≤ M → (s.1 71 5).toInt = 5 ∧ (s.1 71 6).toInt = a) (hK : M < 6 → oqMk g (oqHa g a 5) N M ≠ 0 → (s.1 71 5).toInt = oqMk g (oqHa g a 5) N M ∧ (s.1 71 6).toInt = oqMp g (oqHa g a 5)) (hV : M < 6 → oqMk g (oqHa g a 5) N M = 0 → oqVs g 19 24 (oqWe g (oqSk g (oqHa g a 5))) s) (hk : oqSk g a = a) : oqB85 g a b R M N s := by
  intro u hnb q1 q0
  by_cases hM : M < 6
  · by_cases hm : oqMk g (oqHa g a 5) N M = 0
    · exact oqBt_o hW hM hm (oqVs_59 (hV hM hm) (fun _ => rfl) hnb q1 q0)
    · obtain ⟨r1, r2⟩ := hK hM hm
      have e := oqB_on (R := R) (N := N) hW hM (by rw [oqBh_i (i := 5) hW]; exact hm)
      rw [oqBh_i (i := 5) hW] at e
      have hb : (u.1 71 5).toInt ≠ 0 := fun h9 => by
        have := (q1 h9).1
        omega
      rcases q0 hb with ⟨z1, z2⟩ | ⟨z1, z2, z3⟩
      · exfalso
        omega
      · exact oqBt_x e.1 e.2 hm (by omega) (by omega)
  · obtain ⟨r1, r2⟩ := h5 (by omega)
    have e := oqB_o5 (R := R) (M := M) (N := N) hW (by omega)
    have hb : (u.1 71 5).toInt ≠ 0 := fun h9 => by
      have := (q1 h9).1
      omega
    rcases q0 hb with ⟨z1, z2⟩ | ⟨z1, z2, z3⟩
    · exfalso
      omega
    · exact oqBt_x e.1 e.2 (by omega) (by omega) (by omega)
theorem oqB85_w (h3 : oqWi g a b ≠ 3) (h4 : oqWi g a b ≠ 4) (h5 : oqWi g a b ≠ 5) (hb1 : (s.1 71 5).toInt = 1) (hp1 : (s.1 71 6).toInt = oqSk g a) : oqB85 g a b R M N s := by
  intro u hnb q1 q0
  have e := oqB_w (R := R) (M := M) (N := N) ⟨h3, h4, h5⟩
  have hb : (u.1 71 5).toInt ≠ 0 := fun h9 => by
    have := (q1 h9).1
    omega
  rcases q0 hb with ⟨z1, z2⟩ | ⟨z1, z2, z3⟩
  · exfalso
    omega
  · exact oqBt_x e.1 e.2 (by decide) (by omega) (by omega)
end B85
