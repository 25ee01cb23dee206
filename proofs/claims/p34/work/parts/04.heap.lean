section ROWS2
variable {l : Launch} {d : Nat} {cc : ByteArray} {own : String} {nL : Nat} {ret : Option FieldType} {M : List (Nat × Nat)} {E : oE} {σ0 σ : oS} {Post : Option Value → oS → Prop} {J : oS → Nat → List (Nat × Value) → List Value → Prop} {pc : Nat} {lv : List (Nat × Value)} {st : List Value}
/-- what the rows ask of class q: its words, its types, its names -/
def oCl (q : Nat) (Cn : String) (T : u_T) (ty : Nat → FieldType) : Prop := vwCl[q]? = some (Cn, T, onf q) ∧ q < 13 ∧ (∀ w ∈ u_ws Cn T (onf q), w ∈ oTB) ∧ (∀ k, k < onf q → parseFieldDescriptor (T k).2.2.1 = some (ty k)) ∧ (∀ a, a < onf q → ∀ b, b < onf q → a ≠ b → (T a).2.1 ≠ (T b).2.1)
theorem r_geti (C : oC l d cc own nL ret M E σ0 Post J) {a k q index : Nat} {Cn ref : String} {T : u_T} {ty : Nat → FieldType} (v : Int32) {lo hi : Int} (K : oCl q Cn T ty) (hq : okd a = q) (hk : k < onf q) (hlink : Cond.fieldLink own index ref (T k).2.1 (T k).2.2.1 ∈ oTB) (hsame : (T k).1 = ref) (h0 : oft q k = 0) (hv : σ.1 a k = v) (hlo : olo q k = lo) (hhi : ohi q k = hi) (hd : decode cc pc = .ok (.getfield index, 3)) (kk : lo ≤ v.toInt → v.toInt ≤ hi → J σ (pc + 3) lv (.int v :: st)) : J σ pc lv (.ref (oad E a) :: st) := by
  obtain ⟨p, e, s, m, args, below, meth, c, A, hx, hb, hml, hr, hlk, hown, hts, hNs, hXs, hK, hA, rfl⟩ := C
  intro hT hF ls H locs hl hW
  have ht := hT.1 a k
  rw [hq, hlo, hhi, hv] at ht
  obtain ⟨hP, hD, hS⟩ := id hW
  obtain ⟨hc, h13, hin, hty, hnm⟩ := K
  have haN : a < oN := okd_lt hq (by omega)
  have he : (owl E σ)[a]? = some (oad E a, .inr (q, ofs E σ a)) := by rw [owl_at haN, oel_obj hq h13]
  exact va_get hx hb hts hin hown hK hP a he hc k hk (hts _ hlink) (fun x h => by rw [← hsame]; exact h) (by rw [ofs_at hq hk, h0]; show some (Value.int (σ.1 a k)) = _; rw [hv]) hd (kk ht.1 ht.2 hT hF ls H locs hl hW)
theorem r_getl (C : oC l d cc own nL ret M E σ0 Post J) {a k q index : Nat} {Cn ref : String} {T : u_T} {ty : Nat → FieldType} (v : Int64) (K : oCl q Cn T ty) (hq : okd a = q) (hk : k < onf q) (hlink : Cond.fieldLink own index ref (T k).2.1 (T k).2.2.1 ∈ oTB) (hsame : (T k).1 = ref) (h0 : oft q k = 1) (hv : σ.2.1 a k = v) (hd : decode cc pc = .ok (.getfield index, 3)) (kk : J σ (pc + 3) lv (.long v :: st)) : J σ pc lv (.ref (oad E a) :: st) := by
  obtain ⟨p, e, s, m, args, below, meth, c, A, hx, hb, hml, hr, hlk, hown, hts, hNs, hXs, hK, hA, rfl⟩ := C
  intro hT hF ls H locs hl hW
  obtain ⟨hP, hD, hS⟩ := id hW
  obtain ⟨hc, h13, hin, hty, hnm⟩ := K
  have haN : a < oN := okd_lt hq (by omega)
  have he : (owl E σ)[a]? = some (oad E a, .inr (q, ofs E σ a)) := by rw [owl_at haN, oel_obj hq h13]
  exact va_get hx hb hts hin hown hK hP a he hc k hk (hts _ hlink) (fun x h => by rw [← hsame]; exact h) (by rw [ofs_at hq hk, h0]; show some (Value.long (σ.2.1 a k)) = _; rw [hv]) hd (kk hT hF ls H locs hl hW)
theorem r_getF (C : oC l d cc own nL ret M E σ0 Post J) {a k q index : Nat} {Cn ref : String} {T : u_T} {ty : Nat → FieldType} {b : Nat} (K : oCl q Cn T ty) (hq : okd a = q) (hk : k < onf q) (hlink : Cond.fieldLink own index ref (T k).2.1 (T k).2.2.1 ∈ oTB) (hsame : (T k).1 = ref) (h0 : oft q k = 2) (hm : ort q k = (0, b)) (hd : decode cc pc = .ok (.getfield index, 3)) (kk : J σ (pc + 3) lv (.ref (oad E b) :: st)) : J σ pc lv (.ref (oad E a) :: st) := by
  obtain ⟨p, e, s, m, args, below, meth, c, A, hx, hb, hml, hr, hlk, hown, hts, hNs, hXs, hK, hA, rfl⟩ := C
  intro hT hF ls H locs hl hW
  obtain ⟨hP, hD, hS⟩ := id hW
  obtain ⟨hc, h13, hin, hty, hnm⟩ := K
  have haN : a < oN := okd_lt hq (by omega)
  have he : (owl E σ)[a]? = some (oad E a, .inr (q, ofs E σ a)) := by rw [owl_at haN, oel_obj hq h13]
  have hro := hT.2 a k (by rw [hq]; exact h13) (by rw [hq]; exact hk) (by rw [hq]; exact h0)
  unfold oRok at hro
  rw [hq, hm] at hro
  have hr2 : σ.2.2 a k = b + 1 := hro
  exact va_get hx hb hts hin hown hK hP a he hc k hk (hts _ hlink) (fun x h => by rw [← hsame]; exact h) (v := .ref (oad E b)) (by rw [ofs_at hq hk, h0]; show some (ovr E (σ.2.2 a k)) = _; rw [hr2]; rfl) hd (kk hT hF ls H locs hl hW)
theorem r_getR (C : oC l d cc own nL ret M E σ0 Post J) {a k q index : Nat} {Cn ref : String} {T : u_T} {ty : Nat → FieldType} {b : Nat} (K : oCl q Cn T ty) (hq : okd a = q) (hk : k < onf q) (hlink : Cond.fieldLink own index ref (T k).2.1 (T k).2.2.1 ∈ oTB) (hsame : (T k).1 = ref) (h0 : oft q k = 2) (hm : ort q k = (1, b)) (hd : decode cc pc = .ok (.getfield index, 3)) (kk : J σ (pc + 3) lv (.ref (oad E (a + b)) :: st)) : J σ pc lv (.ref (oad E a) :: st) := by
  obtain ⟨p, e, s, m, args, below, meth, c, A, hx, hb, hml, hr, hlk, hown, hts, hNs, hXs, hK, hA, rfl⟩ := C
  intro hT hF ls H locs hl hW
  obtain ⟨hP, hD, hS⟩ := id hW
  obtain ⟨hc, h13, hin, hty, hnm⟩ := K
  have haN : a < oN := okd_lt hq (by omega)
  have he : (owl E σ)[a]? = some (oad E a, .inr (q, ofs E σ a)) := by rw [owl_at haN, oel_obj hq h13]
  have hro := hT.2 a k (by rw [hq]; exact h13) (by rw [hq]; exact hk) (by rw [hq]; exact h0)
  unfold oRok at hro
  rw [hq, hm] at hro
  have hr2 : σ.2.2 a k = a + b + 1 := hro
  exact va_get hx hb hts hin hown hK hP a he hc k hk (hts _ hlink) (fun x h => by rw [← hsame]; exact h) (v := .ref (oad E (a + b))) (by rw [ofs_at hq hk, h0]; show some (ovr E (σ.2.2 a k)) = _; rw [hr2]; rfl) hd (kk hT hF ls H locs hl hW)
theorem r_getS (C : oC l d cc own nL ret M E σ0 Post J) {a k q index : Nat} {Cn ref : String} {T : u_T} {ty : Nat → FieldType} {j q2 : Nat} (K : oCl q Cn T ty) (hq : okd a = q) (hk : k < onf q) (hlink : Cond.fieldLink own index ref (T k).2.1 (T k).2.2.1 ∈ oTB) (hsame : (T k).1 = ref) (h0 : oft q k = 2) (hm : ort q k = (2, j)) (hj : ∀ x, x ∈ ost j → okd x = q2) (hd : decode cc pc = .ok (.getfield index, 3)) (kk : ∀ b, σ.2.2 a k = b + 1 → b ∈ ost j → okd b = q2 → J σ (pc + 3) lv (.ref (oad E b) :: st)) : J σ pc lv (.ref (oad E a) :: st) := by
  obtain ⟨p, e, s, m, args, below, meth, c, A, hx, hb, hml, hr, hlk, hown, hts, hNs, hXs, hK, hA, rfl⟩ := C
  intro hT hF ls H locs hl hW
  obtain ⟨hP, hD, hS⟩ := id hW
  obtain ⟨hc, h13, hin, hty, hnm⟩ := K
  have haN : a < oN := okd_lt hq (by omega)
  have he : (owl E σ)[a]? = some (oad E a, .inr (q, ofs E σ a)) := by rw [owl_at haN, oel_obj hq h13]
  have hro := hT.2 a k (by rw [hq]; exact h13) (by rw [hq]; exact hk) (by rw [hq]; exact h0)
  unfold oRok at hro
  rw [hq, hm] at hro
  obtain ⟨b, hbj, hr2⟩ : ∃ x, x ∈ ost j ∧ σ.2.2 a k = x + 1 := hro
  exact va_get hx hb hts hin hown hK hP a he hc k hk (hts _ hlink) (fun x h => by rw [← hsame]; exact h) (v := .ref (oad E b)) (by rw [ofs_at hq hk, h0]; show some (ovr E (σ.2.2 a k)) = _; rw [hr2]; rfl) hd (kk b hr2 hbj (hj b hbj) hT hF ls H locs hl hW)
theorem r_puti (C : oC l d cc own nL ret M E σ0 Post J) {a k q index : Nat} {Cn ref : String} {T : u_T} {ty : Nat → FieldType} {x : Int32} {lo hi : Int} (K : oCl q Cn T ty) (hq : okd a = q) (hk : k < onf q) (hlink : Cond.fieldLink own index ref (T k).2.1 (T k).2.2.1 ∈ oTB) (hsame : (T k).1 = ref) (h0 : oft q k = 0) (hlo : olo q k = lo) (hhi : ohi q k = hi) (hfin : (T k).2.2.2 = false) (hn : narrow (ty k) (.int x) = .int x) (hfit : fits (ty k) (.int x) = true) (hmod : oin M q k = true) (hrg : lo ≤ x.toInt ∧ x.toInt ≤ hi) (hd : decode cc pc = .ok (.putfield index, 3)) (kk : J (pI σ a k x) (pc + 3) lv st) : J σ pc lv (.int x :: .ref (oad E a) :: st) := by
  obtain ⟨p, e, s, m, args, below, meth, c, A, hx, hb, hml, hr, hlk, hown, hts, hNs, hXs, hK, hA, rfl⟩ := C
  intro hT hF ls H locs hl hW
  obtain ⟨hP, hD, hS⟩ := hW
  obtain ⟨hc, h13, hin, hty, hnm⟩ := K
  have haN : a < oN := okd_lt hq (by omega)
  have he : (owl E σ)[a]? = some (oad E a, .inr (q, ofs E σ a)) := by rw [owl_at haN, oel_obj hq h13]
  refine va_put hx hb hts hin ty hty hnm hown hK hP hD hS a he hc k hk (hts _ hlink) (fun x h => by rw [← hsame]; exact h) hfin (hty k hk) hn hfit (by rw [ofs_len hq]; exact hk) hd (fun H1 locs1 hP1 hD1 hS1 => ?_)
  have e1 : (owl E σ).set a (oad E a, .inr (q, (ofs E σ a).set k (.int x))) = owl E (pI σ a k x) := owl_set haN (by rw [oel_obj hq h13]; rw [ofs_set hq hk (σ := σ) (v := .int x) (by rw [h0]; show Value.int _ = _; rw [pI_self]) (fun j hj => by unfold oval; rw [pI_ne σ x (Or.inr hj)]; rfl)]) (fun b hb2 => oel_pI hb2)
  rw [e1] at hP1 hD1
  exact kk (oTy_pI hT hq (by rw [hlo]; exact hrg.1) (by rw [hhi]; exact hrg.2)) (oFr_pI hF hq hmod) ls H1 locs1 hl ⟨hP1, hD1, hS1⟩
theorem r_putl (C : oC l d cc own nL ret M E σ0 Post J) {a k q index : Nat} {Cn ref : String} {T : u_T} {ty : Nat → FieldType} {x : Int64} (K : oCl q Cn T ty) (hq : okd a = q) (hk : k < onf q) (hlink : Cond.fieldLink own index ref (T k).2.1 (T k).2.2.1 ∈ oTB) (hsame : (T k).1 = ref) (h0 : oft q k = 1) (hfin : (T k).2.2.2 = false) (hn : narrow (ty k) (.long x) = .long x) (hfit : fits (ty k) (.long x) = true) (hmod : oin M q k = true) (hd : decode cc pc = .ok (.putfield index, 3)) (kk : J (pL σ a k x) (pc + 3) lv st) : J σ pc lv (.long x :: .ref (oad E a) :: st) := by
  obtain ⟨p, e, s, m, args, below, meth, c, A, hx, hb, hml, hr, hlk, hown, hts, hNs, hXs, hK, hA, rfl⟩ := C
  intro hT hF ls H locs hl hW
  obtain ⟨hP, hD, hS⟩ := hW
  obtain ⟨hc, h13, hin, hty, hnm⟩ := K
  have haN : a < oN := okd_lt hq (by omega)
  have he : (owl E σ)[a]? = some (oad E a, .inr (q, ofs E σ a)) := by rw [owl_at haN, oel_obj hq h13]
  refine va_put hx hb hts hin ty hty hnm hown hK hP hD hS a he hc k hk (hts _ hlink) (fun x h => by rw [← hsame]; exact h) hfin (hty k hk) hn hfit (by rw [ofs_len hq]; exact hk) hd (fun H1 locs1 hP1 hD1 hS1 => ?_)
  have e1 : (owl E σ).set a (oad E a, .inr (q, (ofs E σ a).set k (.long x))) = owl E (pL σ a k x) := owl_set haN (by rw [oel_obj hq h13]; rw [ofs_set hq hk (σ := σ) (v := .long x) (by rw [h0]; show Value.long _ = _; rw [pL_self]) (fun j hj => by unfold oval pL; simp [hj])]) (fun b hb2 => oel_pL hb2)
  rw [e1] at hP1 hD1
  exact kk (oTy_pL hT) (oFr_pL hF hq hmod) ls H1 locs1 hl ⟨hP1, hD1, hS1⟩
theorem r_putr (C : oC l d cc own nL ret M E σ0 Post J) {a k q index : Nat} {Cn ref : String} {T : u_T} {ty : Nat → FieldType} {b : Nat} (K : oCl q Cn T ty) (hq : okd a = q) (hk : k < onf q) (hlink : Cond.fieldLink own index ref (T k).2.1 (T k).2.2.1 ∈ oTB) (hsame : (T k).1 = ref) (h0 : oft q k = 2) (hfin : (T k).2.2.2 = false) (hn : narrow (ty k) (.ref (oad E b)) = .ref (oad E b)) (hfit : fits (ty k) (.ref (oad E b)) = true) (hmod : oin M q k = true) (hok : oRok a k (b + 1)) (hd : decode cc pc = .ok (.putfield index, 3)) (kk : J (pR σ a k (b + 1)) (pc + 3) lv st) : J σ pc lv (.ref (oad E b) :: .ref (oad E a) :: st) := by
  obtain ⟨p, e, s, m, args, below, meth, c, A, hx, hb, hml, hr, hlk, hown, hts, hNs, hXs, hK, hA, rfl⟩ := C
  intro hT hF ls H locs hl hW
  obtain ⟨hP, hD, hS⟩ := hW
  obtain ⟨hc, h13, hin, hty, hnm⟩ := K
  have haN : a < oN := okd_lt hq (by omega)
  have he : (owl E σ)[a]? = some (oad E a, .inr (q, ofs E σ a)) := by rw [owl_at haN, oel_obj hq h13]
  refine va_put hx hb hts hin ty hty hnm hown hK hP hD hS a he hc k hk (hts _ hlink) (fun x h => by rw [← hsame]; exact h) hfin (hty k hk) hn hfit (by rw [ofs_len hq]; exact hk) hd (fun H1 locs1 hP1 hD1 hS1 => ?_)
  have e1 : (owl E σ).set a (oad E a, .inr (q, (ofs E σ a).set k (.ref (oad E b)))) = owl E (pR σ a k (b + 1)) := owl_set haN (by rw [oel_obj hq h13]; rw [ofs_set hq hk (σ := σ) (v := .ref (oad E b)) (by rw [h0]; show ovr E _ = _; rw [pR_self]; rfl) (fun j hj => by unfold oval pR; simp [hj])]) (fun b hb2 => oel_pR hb2)
  rw [e1] at hP1 hD1
  exact kk (oTy_pR hT hok) (oFr_pR hF hq hmod) ls H1 locs1 hl ⟨hP1, hD1, hS1⟩
theorem r_getiN (C : oC l d cc own nL ret M E σ0 Post J) {a k q index : Nat} {Cn ref : String} {T : u_T} {ty : Nat → FieldType} (v : Int32) {lo hi : Int} {host : String} (K : oCl q Cn T ty) (hq : okd a = q) (hk : k < onf q) (hlink : Cond.fieldLinkNest own index ref (T k).2.1 (T k).2.2.1 host ∈ lw_tbl) (hsame : (T k).1 = ref) (h0 : oft q k = 0) (hv : σ.1 a k = v) (hlo : olo q k = lo) (hhi : ohi q k = hi) (hd : decode cc pc = .ok (.getfield index, 3)) (kk : lo ≤ v.toInt → v.toInt ≤ hi → J σ (pc + 3) lv (.int v :: st)) : J σ pc lv (.ref (oad E a) :: st) := by
  obtain ⟨p, e, s, m, args, below, meth, c, A, hx, hb, hml, hr, hlk, hown, hts, hNs, hXs, hK, hA, rfl⟩ := C
  intro hT hF ls H locs hl hW
  have ht := hT.1 a k
  rw [hq, hlo, hhi, hv] at ht
  obtain ⟨hP, hD, hS⟩ := id hW
  obtain ⟨hc, h13, hin, hty, hnm⟩ := K
  have haN : a < oN := okd_lt hq (by omega)
  have he : (owl E σ)[a]? = some (oad E a, .inr (q, ofs E σ a)) := by rw [owl_at haN, oel_obj hq h13]
  exact va_getN hx hb hts hin hown hK hP a he hc k hk (hNs.f hlink) (fun x h => by rw [← hsame]; exact h) (by rw [ofs_at hq hk, h0]; show some (Value.int (σ.1 a k)) = _; rw [hv]) hd (kk ht.1 ht.2 hT hF ls H locs hl hW)
theorem r_getlN (C : oC l d cc own nL ret M E σ0 Post J) {a k q index : Nat} {Cn ref : String} {T : u_T} {ty : Nat → FieldType} (v : Int64) {host : String} (K : oCl q Cn T ty) (hq : okd a = q) (hk : k < onf q) (hlink : Cond.fieldLinkNest own index ref (T k).2.1 (T k).2.2.1 host ∈ lw_tbl) (hsame : (T k).1 = ref) (h0 : oft q k = 1) (hv : σ.2.1 a k = v) (hd : decode cc pc = .ok (.getfield index, 3)) (kk : J σ (pc + 3) lv (.long v :: st)) : J σ pc lv (.ref (oad E a) :: st) := by
  obtain ⟨p, e, s, m, args, below, meth, c, A, hx, hb, hml, hr, hlk, hown, hts, hNs, hXs, hK, hA, rfl⟩ := C
  intro hT hF ls H locs hl hW
  obtain ⟨hP, hD, hS⟩ := id hW
  obtain ⟨hc, h13, hin, hty, hnm⟩ := K
  have haN : a < oN := okd_lt hq (by omega)
  have he : (owl E σ)[a]? = some (oad E a, .inr (q, ofs E σ a)) := by rw [owl_at haN, oel_obj hq h13]
  exact va_getN hx hb hts hin hown hK hP a he hc k hk (hNs.f hlink) (fun x h => by rw [← hsame]; exact h) (by rw [ofs_at hq hk, h0]; show some (Value.long (σ.2.1 a k)) = _; rw [hv]) hd (kk hT hF ls H locs hl hW)
theorem r_getFN (C : oC l d cc own nL ret M E σ0 Post J) {a k q index : Nat} {Cn ref : String} {T : u_T} {ty : Nat → FieldType} {b : Nat} {host : String} (K : oCl q Cn T ty) (hq : okd a = q) (hk : k < onf q) (hlink : Cond.fieldLinkNest own index ref (T k).2.1 (T k).2.2.1 host ∈ lw_tbl) (hsame : (T k).1 = ref) (h0 : oft q k = 2) (hm : ort q k = (0, b)) (hd : decode cc pc = .ok (.getfield index, 3)) (kk : J σ (pc + 3) lv (.ref (oad E b) :: st)) : J σ pc lv (.ref (oad E a) :: st) := by
  obtain ⟨p, e, s, m, args, below, meth, c, A, hx, hb, hml, hr, hlk, hown, hts, hNs, hXs, hK, hA, rfl⟩ := C
  intro hT hF ls H locs hl hW
  obtain ⟨hP, hD, hS⟩ := id hW
  obtain ⟨hc, h13, hin, hty, hnm⟩ := K
  have haN : a < oN := okd_lt hq (by omega)
  have he : (owl E σ)[a]? = some (oad E a, .inr (q, ofs E σ a)) := by rw [owl_at haN, oel_obj hq h13]
  have hro := hT.2 a k (by rw [hq]; exact h13) (by rw [hq]; exact hk) (by rw [hq]; exact h0)
  unfold oRok at hro
  rw [hq, hm] at hro
  have hr2 : σ.2.2 a k = b + 1 := hro
  exact va_getN hx hb hts hin hown hK hP a he hc k hk (hNs.f hlink) (fun x h => by rw [← hsame]; exact h) (v := .ref (oad E b)) (by rw [ofs_at hq hk, h0]; show some (ovr E (σ.2.2 a k)) = _; rw [hr2]; rfl) hd (kk hT hF ls H locs hl hW)
theorem r_getRN (C : oC l d cc own nL ret M E σ0 Post J) {a k q index : Nat} {Cn ref : String} {T : u_T} {ty : Nat → FieldType} {b : Nat} {host : String} (K : oCl q Cn T ty) (hq : okd a = q) (hk : k < onf q) (hlink : Cond.fieldLinkNest own index ref (T k).2.1 (T k).2.2.1 host ∈ lw_tbl) (hsame : (T k).1 = ref) (h0 : oft q k = 2) (hm : ort q k = (1, b)) (hd : decode cc pc = .ok (.getfield index, 3)) (kk : J σ (pc + 3) lv (.ref (oad E (a + b)) :: st)) : J σ pc lv (.ref (oad E a) :: st) := by
  obtain ⟨p, e, s, m, args, below, meth, c, A, hx, hb, hml, hr, hlk, hown, hts, hNs, hXs, hK, hA, rfl⟩ := C
  intro hT hF ls H locs hl hW
  obtain ⟨hP, hD, hS⟩ := id hW
  obtain ⟨hc, h13, hin, hty, hnm⟩ := K
  have haN : a < oN := okd_lt hq (by omega)
  have he : (owl E σ)[a]? = some (oad E a, .inr (q, ofs E σ a)) := by rw [owl_at haN, oel_obj hq h13]
  have hro := hT.2 a k (by rw [hq]; exact h13) (by rw [hq]; exact hk) (by rw [hq]; exact h0)
  unfold oRok at hro
  rw [hq, hm] at hro
  have hr2 : σ.2.2 a k = a + b + 1 := hro
  exact va_getN hx hb hts hin hown hK hP a he hc k hk (hNs.f hlink) (fun x h => by rw [← hsame]; exact h) (v := .ref (oad E (a + b))) (by rw [ofs_at hq hk, h0]; show some (ovr E (σ.2.2 a k)) = _; rw [hr2]; rfl) hd (kk hT hF ls H locs hl hW)
theorem r_getSN (C : oC l d cc own nL ret M E σ0 Post J) {a k q index : Nat} {Cn ref : String} {T : u_T} {ty : Nat → FieldType} {j q2 : Nat} {host : String} (K : oCl q Cn T ty) (hq : okd a = q) (hk : k < onf q) (hlink : Cond.fieldLinkNest own index ref (T k).2.1 (T k).2.2.1 host ∈ lw_tbl) (hsame : (T k).1 = ref) (h0 : oft q k = 2) (hm : ort q k = (2, j)) (hj : ∀ x, x ∈ ost j → okd x = q2) (hd : decode cc pc = .ok (.getfield index, 3)) (kk : ∀ b, σ.2.2 a k = b + 1 → b ∈ ost j → okd b = q2 → J σ (pc + 3) lv (.ref (oad E b) :: st)) : J σ pc lv (.ref (oad E a) :: st) := by
  obtain ⟨p, e, s, m, args, below, meth, c, A, hx, hb, hml, hr, hlk, hown, hts, hNs, hXs, hK, hA, rfl⟩ := C
  intro hT hF ls H locs hl hW
  obtain ⟨hP, hD, hS⟩ := id hW
  obtain ⟨hc, h13, hin, hty, hnm⟩ := K
  have haN : a < oN := okd_lt hq (by omega)
  have he : (owl E σ)[a]? = some (oad E a, .inr (q, ofs E σ a)) := by rw [owl_at haN, oel_obj hq h13]
  have hro := hT.2 a k (by rw [hq]; exact h13) (by rw [hq]; exact hk) (by rw [hq]; exact h0)
  unfold oRok at hro
  rw [hq, hm] at hro
  obtain ⟨b, hbj, hr2⟩ : ∃ x, x ∈ ost j ∧ σ.2.2 a k = x + 1 := hro
  exact va_getN hx hb hts hin hown hK hP a he hc k hk (hNs.f hlink) (fun x h => by rw [← hsame]; exact h) (v := .ref (oad E b)) (by rw [ofs_at hq hk, h0]; show some (ovr E (σ.2.2 a k)) = _; rw [hr2]; rfl) hd (kk b hr2 hbj (hj b hbj) hT hF ls H locs hl hW)
theorem r_putiN (C : oC l d cc own nL ret M E σ0 Post J) {a k q index : Nat} {Cn ref : String} {T : u_T} {ty : Nat → FieldType} {x : Int32} {lo hi : Int} {host : String} (K : oCl q Cn T ty) (hq : okd a = q) (hk : k < onf q) (hlink : Cond.fieldLinkNest own index ref (T k).2.1 (T k).2.2.1 host ∈ lw_tbl) (hsame : (T k).1 = ref) (h0 : oft q k = 0) (hlo : olo q k = lo) (hhi : ohi q k = hi) (hfin : (T k).2.2.2 = false) (hn : narrow (ty k) (.int x) = .int x) (hfit : fits (ty k) (.int x) = true) (hmod : oin M q k = true) (hrg : lo ≤ x.toInt ∧ x.toInt ≤ hi) (hd : decode cc pc = .ok (.putfield index, 3)) (kk : J (pI σ a k x) (pc + 3) lv st) : J σ pc lv (.int x :: .ref (oad E a) :: st) := by
  obtain ⟨p, e, s, m, args, below, meth, c, A, hx, hb, hml, hr, hlk, hown, hts, hNs, hXs, hK, hA, rfl⟩ := C
  intro hT hF ls H locs hl hW
  obtain ⟨hP, hD, hS⟩ := hW
  obtain ⟨hc, h13, hin, hty, hnm⟩ := K
  have haN : a < oN := okd_lt hq (by omega)
  have he : (owl E σ)[a]? = some (oad E a, .inr (q, ofs E σ a)) := by rw [owl_at haN, oel_obj hq h13]
  refine va_putN hx hb hts hin ty hty hnm hown hK hP hD hS a he hc k hk (hNs.f hlink) (fun x h => by rw [← hsame]; exact h) hfin (hty k hk) hn hfit (by rw [ofs_len hq]; exact hk) hd (fun H1 locs1 hP1 hD1 hS1 => ?_)
  have e1 : (owl E σ).set a (oad E a, .inr (q, (ofs E σ a).set k (.int x))) = owl E (pI σ a k x) := owl_set haN (by rw [oel_obj hq h13]; rw [ofs_set hq hk (σ := σ) (v := .int x) (by rw [h0]; show Value.int _ = _; rw [pI_self]) (fun j hj => by unfold oval; rw [pI_ne σ x (Or.inr hj)]; rfl)]) (fun b hb2 => oel_pI hb2)
  rw [e1] at hP1 hD1
  exact kk (oTy_pI hT hq (by rw [hlo]; exact hrg.1) (by rw [hhi]; exact hrg.2)) (oFr_pI hF hq hmod) ls H1 locs1 hl ⟨hP1, hD1, hS1⟩
theorem r_putlN (C : oC l d cc own nL ret M E σ0 Post J) {a k q index : Nat} {Cn ref : String} {T : u_T} {ty : Nat → FieldType} {x : Int64} {host : String} (K : oCl q Cn T ty) (hq : okd a = q) (hk : k < onf q) (hlink : Cond.fieldLinkNest own index ref (T k).2.1 (T k).2.2.1 host ∈ lw_tbl) (hsame : (T k).1 = ref) (h0 : oft q k = 1) (hfin : (T k).2.2.2 = false) (hn : narrow (ty k) (.long x) = .long x) (hfit : fits (ty k) (.long x) = true) (hmod : oin M q k = true) (hd : decode cc pc = .ok (.putfield index, 3)) (kk : J (pL σ a k x) (pc + 3) lv st) : J σ pc lv (.long x :: .ref (oad E a) :: st) := by
  obtain ⟨p, e, s, m, args, below, meth, c, A, hx, hb, hml, hr, hlk, hown, hts, hNs, hXs, hK, hA, rfl⟩ := C
  intro hT hF ls H locs hl hW
  obtain ⟨hP, hD, hS⟩ := hW
  obtain ⟨hc, h13, hin, hty, hnm⟩ := K
  have haN : a < oN := okd_lt hq (by omega)
  have he : (owl E σ)[a]? = some (oad E a, .inr (q, ofs E σ a)) := by rw [owl_at haN, oel_obj hq h13]
  refine va_putN hx hb hts hin ty hty hnm hown hK hP hD hS a he hc k hk (hNs.f hlink) (fun x h => by rw [← hsame]; exact h) hfin (hty k hk) hn hfit (by rw [ofs_len hq]; exact hk) hd (fun H1 locs1 hP1 hD1 hS1 => ?_)
  have e1 : (owl E σ).set a (oad E a, .inr (q, (ofs E σ a).set k (.long x))) = owl E (pL σ a k x) := owl_set haN (by rw [oel_obj hq h13]; rw [ofs_set hq hk (σ := σ) (v := .long x) (by rw [h0]; show Value.long _ = _; rw [pL_self]) (fun j hj => by unfold oval pL; simp [hj])]) (fun b hb2 => oel_pL hb2)
  rw [e1] at hP1 hD1
  exact kk (oTy_pL hT) (oFr_pL hF hq hmod) ls H1 locs1 hl ⟨hP1, hD1, hS1⟩
theorem r_putrN (C : oC l d cc own nL ret M E σ0 Post J) {a k q index : Nat} {Cn ref : String} {T : u_T} {ty : Nat → FieldType} {b : Nat} {host : String} (K : oCl q Cn T ty) (hq : okd a = q) (hk : k < onf q) (hlink : Cond.fieldLinkNest own index ref (T k).2.1 (T k).2.2.1 host ∈ lw_tbl) (hsame : (T k).1 = ref) (h0 : oft q k = 2) (hfin : (T k).2.2.2 = false) (hn : narrow (ty k) (.ref (oad E b)) = .ref (oad E b)) (hfit : fits (ty k) (.ref (oad E b)) = true) (hmod : oin M q k = true) (hok : oRok a k (b + 1)) (hd : decode cc pc = .ok (.putfield index, 3)) (kk : J (pR σ a k (b + 1)) (pc + 3) lv st) : J σ pc lv (.ref (oad E b) :: .ref (oad E a) :: st) := by
  obtain ⟨p, e, s, m, args, below, meth, c, A, hx, hb, hml, hr, hlk, hown, hts, hNs, hXs, hK, hA, rfl⟩ := C
  intro hT hF ls H locs hl hW
  obtain ⟨hP, hD, hS⟩ := hW
  obtain ⟨hc, h13, hin, hty, hnm⟩ := K
  have haN : a < oN := okd_lt hq (by omega)
  have he : (owl E σ)[a]? = some (oad E a, .inr (q, ofs E σ a)) := by rw [owl_at haN, oel_obj hq h13]
  refine va_putN hx hb hts hin ty hty hnm hown hK hP hD hS a he hc k hk (hNs.f hlink) (fun x h => by rw [← hsame]; exact h) hfin (hty k hk) hn hfit (by rw [ofs_len hq]; exact hk) hd (fun H1 locs1 hP1 hD1 hS1 => ?_)
  have e1 : (owl E σ).set a (oad E a, .inr (q, (ofs E σ a).set k (.ref (oad E b)))) = owl E (pR σ a k (b + 1)) := owl_set haN (by rw [oel_obj hq h13]; rw [ofs_set hq hk (σ := σ) (v := .ref (oad E b)) (by rw [h0]; show ovr E _ = _; rw [pR_self]; rfl) (fun j hj => by unfold oval pR; simp [hj])]) (fun b hb2 => oel_pR hb2)
  rw [e1] at hP1 hD1
  exact kk (oTy_pR hT hok) (oFr_pR hF hq hmod) ls H1 locs1 hl ⟨hP1, hD1, hS1⟩
theorem oix {i : Int32} {n : Nat} (h0 : 0 ≤ i.toInt) (h1 : i.toInt < (n : Int)) : vp_in i n := by
  have e : i.toInt.toNat = i.toNatClampNeg := rfl
  intro h
  rcases h with h | h
  · have := Int32.lt_iff_toInt_lt.mp h
    have z : (0 : Int32).toInt = 0 := rfl
    omega
  · omega
theorem r_iald (C : oC l d cc own nL ret M E σ0 Post J) {a q n : Nat} {i : Int32} (v : Int32) {lo hi : Int} (hq : okd a = q) (h13 : 13 ≤ q) (ht : oat q = 0) (hn : oln q = n) (hix : 0 ≤ i.toInt ∧ i.toInt < (n : Int)) (hq9 : q < 999) (hv : σ.1 a i.toNatClampNeg = v) (hlo : olo q i.toNatClampNeg = lo) (hhi : ohi q i.toNatClampNeg = hi) (hd : decode cc pc = .ok (.iaload, 1)) (kk : lo ≤ v.toInt → v.toInt ≤ hi → J σ (pc + 1) lv (.int v :: st)) : J σ pc lv (.int i :: .ref (oad E a) :: st) := by
  obtain ⟨p, e, s, m, args, below, meth, c, A, hx, hb, hml, hr, hlk, hown, hts, hNs, hXs, hK, hA, rfl⟩ := C
  intro hT hF ls H locs hl hW
  have htt := hT.1 a i.toNatClampNeg
  rw [hq, hlo, hhi, hv] at htt
  have haN : a < oN := okd_lt hq hq9
  have he : (owl E σ)[a]? = some (oad E a, .inl (E.1 0, n, .inl (σ.1 a))) := by rw [owl_at haN, oel_int hq h13 ht hn (by decide)]
  refine va_iald hx hb hK hW.1 a 0 he rfl (oix hix.1 hix.2) hd ?_
  rw [hv]
  exact kk htt.1 htt.2 hT hF ls H locs hl hW
theorem r_cald (C : oC l d cc own nL ret M E σ0 Post J) {a q n : Nat} {i : Int32} (v : Int32) {lo hi : Int} (hq : okd a = q) (h13 : 13 ≤ q) (ht : oat q = 1) (hn : oln q = n) (hix : 0 ≤ i.toInt ∧ i.toInt < (n : Int)) (hq9 : q < 999) (hv : σ.1 a i.toNatClampNeg = v) (hlo : olo q i.toNatClampNeg = lo) (hhi : ohi q i.toNatClampNeg = hi) (hd : decode cc pc = .ok (.caload, 1)) (kk : lo ≤ v.toInt → v.toInt ≤ hi → J σ (pc + 1) lv (.int v :: st)) : J σ pc lv (.int i :: .ref (oad E a) :: st) := by
  obtain ⟨p, e, s, m, args, below, meth, c, A, hx, hb, hml, hr, hlk, hown, hts, hNs, hXs, hK, hA, rfl⟩ := C
  intro hT hF ls H locs hl hW
  have htt := hT.1 a i.toNatClampNeg
  rw [hq, hlo, hhi, hv] at htt
  have haN : a < oN := okd_lt hq hq9
  have he : (owl E σ)[a]? = some (oad E a, .inl (E.1 1, n, .inl (σ.1 a))) := by rw [owl_at haN, oel_int hq h13 ht hn (by decide)]
  refine va_cald hx hb hK hW.1 a 1 he rfl (oix hix.1 hix.2) hd ?_
  rw [hv]
  exact kk htt.1 htt.2 hT hF ls H locs hl hW
theorem r_zald (C : oC l d cc own nL ret M E σ0 Post J) {a q n : Nat} {i : Int32} (v : Int32) {lo hi : Int} (hq : okd a = q) (h13 : 13 ≤ q) (ht : oat q = 2) (hn : oln q = n) (hix : 0 ≤ i.toInt ∧ i.toInt < (n : Int)) (hq9 : q < 999) (hv : σ.1 a i.toNatClampNeg = v) (hlo : olo q i.toNatClampNeg = lo) (hhi : ohi q i.toNatClampNeg = hi) (hd : decode cc pc = .ok (.baload, 1)) (kk : lo ≤ v.toInt → v.toInt ≤ hi → J σ (pc + 1) lv (.int v :: st)) : J σ pc lv (.int i :: .ref (oad E a) :: st) := by
  obtain ⟨p, e, s, m, args, below, meth, c, A, hx, hb, hml, hr, hlk, hown, hts, hNs, hXs, hK, hA, rfl⟩ := C
  intro hT hF ls H locs hl hW
  have htt := hT.1 a i.toNatClampNeg
  rw [hq, hlo, hhi, hv] at htt
  have haN : a < oN := okd_lt hq hq9
  have he : (owl E σ)[a]? = some (oad E a, .inl (E.1 2, n, .inl (σ.1 a))) := by rw [owl_at haN, oel_int hq h13 ht hn (by decide)]
  refine va_zald hx hb hK hW.1 a 2 he rfl (oix hix.1 hix.2) hd ?_
  rw [hv]
  exact kk htt.1 htt.2 hT hF ls H locs hl hW
theorem r_lald (C : oC l d cc own nL ret M E σ0 Post J) {a q n : Nat} {i : Int32} (v : Int64) (hq : okd a = q) (h13 : 13 ≤ q) (ht : oat q = 3) (hn : oln q = n) (hix : 0 ≤ i.toInt ∧ i.toInt < (n : Int)) (hq9 : q < 999) (hv : σ.2.1 a i.toNatClampNeg = v) (hd : decode cc pc = .ok (.laload, 1)) (kk : J σ (pc + 1) lv (.long v :: st)) : J σ pc lv (.int i :: .ref (oad E a) :: st) := by
  obtain ⟨p, e, s, m, args, below, meth, c, A, hx, hb, hml, hr, hlk, hown, hts, hNs, hXs, hK, hA, rfl⟩ := C
  intro hT hF ls H locs hl hW
  have haN : a < oN := okd_lt hq hq9
  have he : (owl E σ)[a]? = some (oad E a, .inl (E.1 3, n, .inr (.inl (σ.2.1 a)))) := by rw [owl_at haN, oel_long hq h13 ht hn]
  refine va_lald hx hb hK hW.1 a 3 he rfl (oix hix.1 hix.2) hd ?_
  rw [hv]
  exact kk hT hF ls H locs hl hW
theorem r_iast (C : oC l d cc own nL ret M E σ0 Post J) {a q n : Nat} {i : Int32} {x : Int32} {lo hi : Int} (hq : okd a = q) (h13 : 13 ≤ q) (ht : oat q = 0) (hn : oln q = n) (hix : 0 ≤ i.toInt ∧ i.toInt < (n : Int)) (hq9 : q < 999) (hlo : olo q i.toNatClampNeg = lo) (hhi : ohi q i.toNatClampNeg = hi) (hmod : oin M q 9998 = true) (hmod2 : oin M q i.toNatClampNeg = true) (hrg : lo ≤ x.toInt ∧ x.toInt ≤ hi) (hd : decode cc pc = .ok (.iastore, 1)) (kk : J (pI σ a i.toNatClampNeg x) (pc + 1) lv st) : J σ pc lv (.int x :: .int i :: .ref (oad E a) :: st) := by
  obtain ⟨p, e, s, m, args, below, meth, c, A, hx, hb, hml, hr, hlk, hown, hts, hNs, hXs, hK, hA, rfl⟩ := C
  intro hT hF ls H locs hl hW
  obtain ⟨hP, hD, hS⟩ := hW
  have haN : a < oN := okd_lt hq hq9
  have he : (owl E σ)[a]? = some (oad E a, .inl (E.1 0, n, .inl (σ.1 a))) := by rw [owl_at haN, oel_int hq h13 ht hn (by decide)]
  refine va_iast hx hb hK hP hD hS a 0 he rfl (oix hix.1 hix.2) hd (fun H1 locs1 hP1 hD1 hS1 => ?_)
  have e1 : (owl E σ).set a (oad E a, .inl (E.1 0, n, .inl (upd (σ.1 a) i.toNatClampNeg x))) = owl E (pI σ a i.toNatClampNeg x) := owl_set haN (by rw [oel_int hq h13 ht hn (by decide)]; congr 4; funext b; simp [pI, upd]) (fun b hb2 => oel_pI hb2)
  rw [e1] at hP1 hD1
  exact kk (oTy_pI hT hq (by rw [hlo]; exact hrg.1) (by rw [hhi]; exact hrg.2)) (oFr_pI hF hq hmod2) ls H1 locs1 hl ⟨hP1, hD1, hS1⟩
theorem r_zast (C : oC l d cc own nL ret M E σ0 Post J) {a q n : Nat} {i : Int32} {x : Int32} {lo hi : Int} (hq : okd a = q) (h13 : 13 ≤ q) (ht : oat q = 2) (hn : oln q = n) (hix : 0 ≤ i.toInt ∧ i.toInt < (n : Int)) (hq9 : q < 999) (hlo : olo q i.toNatClampNeg = lo) (hhi : ohi q i.toNatClampNeg = hi) (hmod : oin M q 9998 = true) (hmod2 : oin M q i.toNatClampNeg = true) (hnar : vp_nar .boolean x = x) (hrg : lo ≤ x.toInt ∧ x.toInt ≤ hi) (hd : decode cc pc = .ok (.bastore, 1)) (kk : J (pI σ a i.toNatClampNeg x) (pc + 1) lv st) : J σ pc lv (.int x :: .int i :: .ref (oad E a) :: st) := by
  obtain ⟨p, e, s, m, args, below, meth, c, A, hx, hb, hml, hr, hlk, hown, hts, hNs, hXs, hK, hA, rfl⟩ := C
  intro hT hF ls H locs hl hW
  obtain ⟨hP, hD, hS⟩ := hW
  have haN : a < oN := okd_lt hq hq9
  have he : (owl E σ)[a]? = some (oad E a, .inl (E.1 2, n, .inl (σ.1 a))) := by rw [owl_at haN, oel_int hq h13 ht hn (by decide)]
  refine va_zast hx hb hK hP hD hS a 2 he rfl (oix hix.1 hix.2) hd (fun H1 locs1 hP1 hD1 hS1 => ?_)
  rw [hnar] at hP1 hD1
  have e1 : (owl E σ).set a (oad E a, .inl (E.1 2, n, .inl (upd (σ.1 a) i.toNatClampNeg x))) = owl E (pI σ a i.toNatClampNeg x) := owl_set haN (by rw [oel_int hq h13 ht hn (by decide)]; congr 4; funext b; simp [pI, upd]) (fun b hb2 => oel_pI hb2)
  rw [e1] at hP1 hD1
  exact kk (oTy_pI hT hq (by rw [hlo]; exact hrg.1) (by rw [hhi]; exact hrg.2)) (oFr_pI hF hq hmod2) ls H1 locs1 hl ⟨hP1, hD1, hS1⟩
theorem r_last (C : oC l d cc own nL ret M E σ0 Post J) {a q n : Nat} {i : Int32} {x : Int64} (hq : okd a = q) (h13 : 13 ≤ q) (ht : oat q = 3) (hn : oln q = n) (hix : 0 ≤ i.toInt ∧ i.toInt < (n : Int)) (hq9 : q < 999) (hmod2 : oin M q i.toNatClampNeg = true) (hd : decode cc pc = .ok (.lastore, 1)) (kk : J (pL σ a i.toNatClampNeg x) (pc + 1) lv st) : J σ pc lv (.long x :: .int i :: .ref (oad E a) :: st) := by
  obtain ⟨p, e, s, m, args, below, meth, c, A, hx, hb, hml, hr, hlk, hown, hts, hNs, hXs, hK, hA, rfl⟩ := C
  intro hT hF ls H locs hl hW
  obtain ⟨hP, hD, hS⟩ := hW
  have haN : a < oN := okd_lt hq hq9
  have he : (owl E σ)[a]? = some (oad E a, .inl (E.1 3, n, .inr (.inl (σ.2.1 a)))) := by rw [owl_at haN, oel_long hq h13 ht hn]
  refine va_last hx hb hK hP hD hS a 3 he rfl (oix hix.1 hix.2) hd (fun H1 locs1 hP1 hD1 hS1 => ?_)
  have e1 : (owl E σ).set a (oad E a, .inl (E.1 3, n, .inr (.inl (vp_updL (σ.2.1 a) i.toNatClampNeg x)))) = owl E (pL σ a i.toNatClampNeg x) := owl_set haN (by rw [oel_long hq h13 ht hn]; congr 5; funext b; simp [pL, vp_updL]) (fun b hb2 => oel_pL hb2)
  rw [e1] at hP1 hD1
  exact kk (oTy_pL hT) (oFr_pL hF hq hmod2) ls H1 locs1 hl ⟨hP1, hD1, hS1⟩
theorem r_alen0 (C : oC l d cc own nL ret M E σ0 Post J) {a q n : Nat} (v : Int32) (hq : okd a = q) (h13 : 13 ≤ q) (ht : oat q = 0) (hn : oln q = n) (hq9 : q < 999) (hv : Int32.ofNat n = v) (hd : decode cc pc = .ok (.arraylength, 1)) (kk : J σ (pc + 1) lv (.int v :: st)) : J σ pc lv (.ref (oad E a) :: st) := by
  obtain ⟨p, e, s, m, args, below, meth, c, A, hx, hb, hml, hr, hlk, hown, hts, hNs, hXs, hK, hA, rfl⟩ := C
  intro hT hF ls H locs hl hW
  have haN : a < oN := okd_lt hq hq9
  have he : (owl E σ)[a]? = some (oad E a, .inl (E.1 0, n, .inl (σ.1 a))) := by rw [owl_at haN, oel_int hq h13 ht hn (by decide)]
  exact va_alen hx hb hK hW.1 a 0 he rfl hv hd (kk hT hF ls H locs hl hW)
theorem r_alen1 (C : oC l d cc own nL ret M E σ0 Post J) {a q n : Nat} (v : Int32) (hq : okd a = q) (h13 : 13 ≤ q) (ht : oat q = 1) (hn : oln q = n) (hq9 : q < 999) (hv : Int32.ofNat n = v) (hd : decode cc pc = .ok (.arraylength, 1)) (kk : J σ (pc + 1) lv (.int v :: st)) : J σ pc lv (.ref (oad E a) :: st) := by
  obtain ⟨p, e, s, m, args, below, meth, c, A, hx, hb, hml, hr, hlk, hown, hts, hNs, hXs, hK, hA, rfl⟩ := C
  intro hT hF ls H locs hl hW
  have haN : a < oN := okd_lt hq hq9
  have he : (owl E σ)[a]? = some (oad E a, .inl (E.1 1, n, .inl (σ.1 a))) := by rw [owl_at haN, oel_int hq h13 ht hn (by decide)]
  exact va_alen hx hb hK hW.1 a 1 he rfl hv hd (kk hT hF ls H locs hl hW)
theorem r_alen2 (C : oC l d cc own nL ret M E σ0 Post J) {a q n : Nat} (v : Int32) (hq : okd a = q) (h13 : 13 ≤ q) (ht : oat q = 2) (hn : oln q = n) (hq9 : q < 999) (hv : Int32.ofNat n = v) (hd : decode cc pc = .ok (.arraylength, 1)) (kk : J σ (pc + 1) lv (.int v :: st)) : J σ pc lv (.ref (oad E a) :: st) := by
  obtain ⟨p, e, s, m, args, below, meth, c, A, hx, hb, hml, hr, hlk, hown, hts, hNs, hXs, hK, hA, rfl⟩ := C
  intro hT hF ls H locs hl hW
  have haN : a < oN := okd_lt hq hq9
  have he : (owl E σ)[a]? = some (oad E a, .inl (E.1 2, n, .inl (σ.1 a))) := by rw [owl_at haN, oel_int hq h13 ht hn (by decide)]
  exact va_alen hx hb hK hW.1 a 2 he rfl hv hd (kk hT hF ls H locs hl hW)
theorem r_iret (C : oC l d cc own nL (some .int) M E σ0 Post J) {v : Int32} (hd : decode cc pc = .ok (.ireturn, 1)) (hp : Post (some (.int v)) σ) : J σ pc lv [.int v] := by
  obtain ⟨p, e, s, m, args, below, meth, c, A, hx, hb, hml, hr, hlk, hown, hts, hNs, hXs, hK, hA, rfl⟩ := C
  intro hT hF ls H locs hl hW
  have hq9 : ∀ t : State, t.heap = H → s.WarmedH t.vm → oQc E A M σ0 Post args s (.returned (some (.int v))) t := fun t ht hw => ⟨⟨_, σ, rfl, ⟨hp, hT, hF⟩, by rw [ht]; exact hW.1, va_K.moved hw.alike hK, hW.2.1⟩, hW.2.2.F ht⟩
  exact W.iret hx hb hr hq9 hW.2.2.2.2 hd hlk
theorem r_zret {ty : FieldType} (C : oC l d cc own nL (some ty) M E σ0 Post J) {v : Int32} (hn : narrow ty (.int v) = .int v) (hd : decode cc pc = .ok (.ireturn, 1)) (hp : Post (some (.int v)) σ) : J σ pc lv [.int v] := by
  obtain ⟨p, e, s, m, args, below, meth, c, A, hx, hb, hml, hr, hlk, hown, hts, hNs, hXs, hK, hA, rfl⟩ := C
  intro hT hF ls H locs hl hW
  have hq9 : ∀ t : State, t.heap = H → s.WarmedH t.vm → oQc E A M σ0 Post args s (.returned (some (.int v))) t := fun t ht hw => ⟨⟨_, σ, rfl, ⟨hp, hT, hF⟩, by rw [ht]; exact hW.1, va_K.moved hw.alike hK, hW.2.1⟩, hW.2.2.F ht⟩
  exact W.zret hx hb hr hn hq9 hW.2.2.2.2 hd hlk
theorem r_vret (C : oC l d cc own nL none M E σ0 Post J) (hd : decode cc pc = .ok (.return_, 1)) (hp : Post none σ) : J σ pc lv [] := by
  obtain ⟨p, e, s, m, args, below, meth, c, A, hx, hb, hml, hr, hlk, hown, hts, hNs, hXs, hK, hA, rfl⟩ := C
  intro hT hF ls H locs hl hW
  have hq9 : ∀ t : State, t.heap = H → s.WarmedH t.vm → oQc E A M σ0 Post args s (.returned (none)) t := fun t ht hw => ⟨⟨_, σ, rfl, ⟨hp, hT, hF⟩, by rw [ht]; exact hW.1, va_K.moved hw.alike hK, hW.2.1⟩, hW.2.2.F ht⟩
  exact W.vret hx hb hr hq9 hW.2.2.2.2 hd hlk
theorem r_lret (C : oC l d cc own nL (some .long) M E σ0 Post J) {v : Int64} (hd : decode cc pc = .ok (.lreturn, 1)) (hp : Post (some (.long v)) σ) : J σ pc lv [.long v] := by
  obtain ⟨p, e, s, m, args, below, meth, c, A, hx, hb, hml, hr, hlk, hown, hts, hNs, hXs, hK, hA, rfl⟩ := C
  intro hT hF ls H locs hl hW
  have hq9 : ∀ t : State, t.heap = H → s.WarmedH t.vm → oQc E A M σ0 Post args s (.returned (some (.long v))) t := fun t ht hw => ⟨⟨_, σ, rfl, ⟨hp, hT, hF⟩, by rw [ht]; exact hW.1, va_K.moved hw.alike hK, hW.2.1⟩, hW.2.2.F ht⟩
  exact W.lret hx hb hr hq9 hW.2.2.2.2 hd hlk
end ROWS2
theorem oCl_in {ws : List Cond} (h : ∀ w ∈ ws, w ∈ lw_tbl) (g : ws.all goodWord = true) : ∀ w ∈ ws, w ∈ oTB := fun w hw => List.mem_filter.mpr ⟨h w hw, List.all_eq_true.mp g w hw⟩
theorem oCl0 : oCl 0 RX0 TX0 tyX0 := ⟨rfl, by decide, oCl_in (by decide +kernel) (by decide +kernel), tyX0_ok, nmX0⟩
theorem oCl1 : oCl 1 RX1 TX1 tyX1 := ⟨rfl, by decide, oCl_in (by decide +kernel) (by decide +kernel), tyX1_ok, nmX1⟩
theorem oCl2 : oCl 2 RX2 TX2 tyX2 := ⟨rfl, by decide, oCl_in (by decide +kernel) (by decide +kernel), tyX2_ok, nmX2⟩
theorem oCl3 : oCl 3 RX3 TX3 tyX3 := ⟨rfl, by decide, oCl_in (by decide +kernel) (by decide +kernel), tyX3_ok, nmX3⟩
theorem oCl4 : oCl 4 RX4 TX4 tyX4 := ⟨rfl, by decide, oCl_in (by decide +kernel) (by decide +kernel), tyX4_ok, nmX4⟩
theorem oCl5 : oCl 5 RX5 TX5 tyX5 := ⟨rfl, by decide, oCl_in (by decide +kernel) (by decide +kernel), tyX5_ok, nmX5⟩
theorem oCl6 : oCl 6 RX6 TX6 tyX6 := ⟨rfl, by decide, oCl_in (by decide +kernel) (by decide +kernel), tyX6_ok, nmX6⟩
theorem oCl7 : oCl 7 RX7 TX7 tyX7 := ⟨rfl, by decide, oCl_in (by decide +kernel) (by decide +kernel), tyX7_ok, nmX7⟩
theorem oCl8 : oCl 8 RX8 TX8 tyX8 := ⟨rfl, by decide, oCl_in (by decide +kernel) (by decide +kernel), tyX8_ok, nmX8⟩
theorem oCl9 : oCl 9 RX9 TX9 tyX9 := ⟨rfl, by decide, oCl_in (by decide +kernel) (by decide +kernel), tyX9_ok, nmX9⟩
theorem oCl10 : oCl 10 RX10 TX10 tyX10 := ⟨rfl, by decide, oCl_in (by decide +kernel) (by decide +kernel), tyX10_ok, nmX10⟩
theorem oCl11 : oCl 11 RX11 TX11 tyX11 := ⟨rfl, by decide, oCl_in (by decide +kernel) (by decide +kernel), tyX11_ok, nmX11⟩
theorem oCl12 : oCl 12 RX12 TX12 tyX12 := ⟨rfl, by decide, oCl_in (by decide +kernel) (by decide +kernel), tyX12_ok, nmX12⟩
