/-! Worlds that grow: the first n cells are there, those from n on are nothing yet. -/
abbrev oEa (E : oE) (ad : Nat → Nat) : oE := (E.1, E.2.1, E.2.2.1, ad, E.2.2.2.2)
def oWn (E : oE) (n : Nat) (σ : oS) : va_W := (List.range n).map fun c => (oad E c, oel E σ c)
theorem oWn_at {E : oE} {σ : oS} {n c : Nat} (hc : c < n) : (oWn E n σ)[c]? = some (oad E c, oel E σ c) := by
  unfold oWn
  rw [List.getElem?_map, List.getElem?_range hc]
  rfl
theorem oWn_set {E : oE} {σ τ : oS} {n c : Nat} {x : va_E} (hc : c < n) (hx : oel E τ c = x) (ho : ∀ a, a ≠ c → oel E τ a = oel E σ a) : (oWn E n σ).set c (oad E c, x) = oWn E n τ := by
  apply List.ext_getElem?
  intro i
  by_cases hi : i = c
  · subst hi
    rw [List.getElem?_set_self (by simpa [oWn] using hc), oWn_at hc, hx]
  · rw [List.getElem?_set_ne (Ne.symm hi)]
    by_cases hN : i < n
    · rw [oWn_at hN, oWn_at hN, ho i hi]
    · rw [List.getElem?_eq_none (by simpa [oWn] using Nat.le_of_not_lt hN), List.getElem?_eq_none (by simpa [oWn] using Nat.le_of_not_lt hN)]
def oZ (n : Nat) (σ : oS) : Prop := (∀ c k, n ≤ c → σ.1 c k = 0 ∧ σ.2.1 c k = 0 ∧ σ.2.2 c k = 0) ∧ ∀ c k, σ.2.2 c k ≤ n
theorem oZ.more {n : Nat} {σ : oS} (h : oZ n σ) : oZ (n + 1) σ := ⟨fun c k hc => h.1 c k (by omega), fun c k => Nat.le_succ_of_le (h.2 c k)⟩
theorem oZ_pI {n a k : Nat} {v : Int32} {σ : oS} (h : oZ n σ) (ha : a < n) : oZ n (pI σ a k v) := ⟨fun c j hc => ⟨by rw [pI_ne σ v (Or.inl (by omega))]; exact (h.1 c j hc).1, (h.1 c j hc).2⟩, h.2⟩
theorem oZ_pR {n a k r : Nat} {σ : oS} (h : oZ n σ) (ha : a < n) (hr : r ≤ n) : oZ n (pR σ a k r) := by
  refine ⟨fun c j hc => ⟨(h.1 c j hc).1, (h.1 c j hc).2.1, ?_⟩, fun c j => ?_⟩
  · rw [pR_ne σ r (Or.inl (by omega))]
    exact (h.1 c j hc).2.2
  · by_cases hcj : c = a ∧ j = k
    · obtain ⟨rfl, rfl⟩ := hcj
      rw [pR_self]
      exact hr
    · rw [pR_ne σ r (by by_cases hc : c = a <;> by_cases hj : j = k <;> simp_all)]
      exact h.2 c j
theorem oel_ad {E : oE} {ad : Nat → Nat} {n : Nat} {σ : oS} (hz : oZ n σ) (ha : ∀ c, c < n → ad c = oad E c) (c : Nat) : oel (oEa E ad) σ c = oel E σ c := by
  have h1 : ∀ k, ovr (oEa E ad) (σ.2.2 c k) = ovr E (σ.2.2 c k) := fun k => by
    have h3 := hz.2 c k
    cases hr : σ.2.2 c k with
    | zero => rfl
    | succ j =>
      show Value.ref (ad j) = Value.ref (oad E j)
      rw [ha j (by omega)]
  have h2 : ofs (oEa E ad) σ c = ofs E σ c := by
    unfold ofs
    apply List.map_congr_left
    intro k _
    unfold oval
    rw [h1]
  unfold oel
  rw [h2]
theorem oWn_push {E : oE} {ad : Nat → Nat} {n : Nat} {σ : oS} (hz : oZ n σ) (ha : ∀ c, c < n → ad c = oad E c) : oWn (oEa E ad) (n + 1) σ = oWn E n σ ++ [(ad n, oel E σ n)] := by
  unfold oWn
  rw [List.range_succ, List.map_append]
  congr 1
  · apply List.map_congr_left
    intro c hc
    have hc' := List.mem_range.mp hc
    show (ad c, oel (oEa E ad) σ c) = (oad E c, oel E σ c)
    rw [ha c hc', oel_ad hz ha c]
  · show [(ad n, oel (oEa E ad) σ n)] = _
    rw [oel_ad hz ha n]
def oAp (ad : Nat → Nat) (n q : Nat) : Nat → Nat := fun c => if c = n then q else ad c
theorem oAp_self {ad : Nat → Nat} {n q : Nat} : oAp ad n q n = q := if_pos rfl
theorem oAp_lt {ad : Nat → Nat} {n q : Nat} : ∀ c, c < n → oAp ad n q c = ad c := fun c hc => if_neg (by omega)
def oWdn (E : oE) (A : Nat → Prop) (H0 : Heap) (n : Nat) (σ : oS) (H : Heap) (locs : List Loc) : Prop := va_P (oD E) vwCl (oWn E n σ) H ∧ va_D A (oWn E n σ) ∧ va_S A H0 H locs
abbrev oRi (d mc ms : Nat) : Room := { frames := d, cells := mc, slots := ms, locals := 100 * d }
/-- a constructor's end: the cells up to n' are there -/
def oQi (E : oE) (A : Nat → Prop) (n n' : Nat) (τ : oS) : Array Value → State → Outcome → State → Prop := fun _ st oc t => (∃ ad : Nat → Nat, oc = .returned none ∧ oZ n' τ ∧ (∀ c, c < n → ad c = oad E c) ∧ va_P (oD E) vwCl (oWn (oEa E ad) n' τ) t.heap ∧ va_K (oD E) vwCl (otys E) t ∧ va_D A (oWn (oEa E ad) n' τ)) ∧ va_F A st t
def oPr (E : oE) (n : Nat) (σ : oS) (sz : Nat) : State → Prop := fun U => U.heap.size = sz ∧ va_P (oD E) vwCl (oWn E n σ) U.heap ∧ va_K (oD E) vwCl (otys E) U ∧ va_D (fun _ => True) (oWn E n σ) ∧ oNs U
/-- a constructor's contract: from n cells to n', the state τ then -/
def oMi (l : Launch) (d : Nat) (y : MethodName) (cc : ByteArray) (nL mc ms n n' : Nat) (vs : oE → List Value) (τ : oS → oS) : Prop := ∀ (E : oE) (σ : oS), oZ n σ → ∀ sz : Nat, Met l y (oWs y cc nL none) (oRi d mc ms) (va_Pc (vs E) (oPr E n σ sz)) (oQi E (va_A (oWn E n σ) sz) n n' (τ σ)) mc ms (va_A (oWn E n σ) sz)
def oCi (l : Launch) (d mc ms : Nat) (cc : ByteArray) (own nm : String) (nL : Nat) (E : oE) (n0 n' : Nat) (τ : oS) (J : (Nat → Nat) → Nat → oS → Nat → Nat → Nat → List (Nat × Value) → List Value → Prop) : Prop :=
  ∃ (p : Program) (e : Env) (s : State) (m : MethodId) (args : Array Value) (below : List Frame) (meth : Method) (c : Code) (A : Nat → Prop), p.tables.exec = Jvm.exec ∧ c.code = cc ∧ c.maxLocals = nL ∧ meth.sig.returnType = none ∧ meth.locks = false ∧ meth.name = nm ∧ s.vm.findClass own = some m.cls ∧ (∀ w ∈ oTB, w.before args s = true) ∧ oNs s ∧ va_K (oD E) vwCl (otys E) s ∧ (∀ q, s.heap.size ≤ q → A q) ∧
    J = fun ad n σ k sl pc lv st => oZ n σ → n0 ≤ n → (∀ c, c < n0 → ad c = oad E c) → ∀ (ls : Array Slot) (H : Heap) (locs : List Loc), lv_has ls nL lv → oWdn (oEa E ad) A s.heap n σ H locs → W p l e (oRi d mc ms) s m args below meth c H locs k sl (MQ below (oQi E A n0 n' τ) args s mc ms A) (F0 m pc ls st)
theorem oMi.of {l : Launch} {d : Nat} {y : MethodName} {cc : ByteArray} {nL mc ms n n' : Nat} {vs : oE → List Value} {lv : oE → List (Nat × Value)} {τ : oS → oS} (hy : plainName y.cls = true) (hlen : ∀ E, (lg_sl (vs E)).length ≤ nL) (hlv : ∀ E, lv_args 0 (vs E) = lv E)
    (body : ∀ (E : oE) (σ : oS) J, oCi l d mc ms cc y.cls y.name nL E n n' (τ σ) J → J (oad E) n σ 0 0 0 (lv E) []) : oMi l d y cc nL mc ms n n' vs τ := by
  intro E σ hz sz
  refine Met.ofW (cc := cc) (maxL := nL) (ret := none) hy rfl ?_
  intro p e s m args below meth c s₁ B hml hv
  obtain ⟨rfl, hsz, hP, hK, hD0, hNs⟩ := hv
  have hts := atoms_spec (ws := oWs y cc nL none) B.pre
  have hown : s.vm.findClass y.cls = some m.cls := findClass_of_methodNamed B.named
  have hin : meth.name = y.name := (name_of_methodNamed B.named B.method).1
  subst hsz
  have hl := lv_entry (vs E) (n := nL) (hlen E)
  rw [hlv E] at hl
  rw [lg_entry_eq]
  exact body E σ _ ⟨p, e, s, m, (vs E).toArray, below, meth, c, va_A (oWn E n σ) s.heap.size, B.exec, B.bytes, hml, B.returns, B.notSynchronized, hin, hown, fun w hw => hts w (List.mem_cons_of_mem _ hw), hNs, hK, fun q h => Or.inr h, rfl⟩ hz (Nat.le_refl _) (fun _ _ => rfl) _ _ _ hl ⟨hP, hD0.self, va_S.rf⟩
def oDf (t : Nat) : Value := if t = 0 then .int 0 else if t = 1 then .long 0 else .null
theorem oval_z {E : oE} {n : Nat} {σ : oS} {t k : Nat} (hz : oZ n σ) : oval E σ n t k = oDf t := by
  obtain ⟨h1, h2, h3⟩ := hz.1 n k (Nat.le_refl _)
  unfold oval oDf
  rw [h1, h2, h3]
  rfl
section BORN
variable {l : Launch} {d mc ms : Nat} {cc : ByteArray} {own nm : String} {nL : Nat} {E : oE} {n0 n' n k sl pc : Nat} {τ σ : oS} {J : (Nat → Nat) → Nat → oS → Nat → Nat → Nat → List (Nat × Value) → List Value → Prop} {ad : Nat → Nat} {lv : List (Nat × Value)} {st : List Value}
theorem i_aload_n (C : oCi l d mc ms cc own nm nL E n0 n' τ J) {kf : Fin 4} {i j : Nat} {a : Nat} (hd : decode cc pc = .ok (.aload_n kf, 1)) (hi : (kf : Nat) = i) (hk : lv[j]? = some (i, .ref a)) (kk : J ad n σ k sl (pc + 1) lv (.ref a :: st)) : J ad n σ k sl pc lv st := by
  obtain ⟨p, e, s, m, args, below, meth, c, A, hx, hb, hml, hr, hlk, hnm, hown, hts, hNs, hK, hA, rfl⟩ := C
  intro hz h0 ha ls H locs hl hW
  exact lv_aload_n hx hb hd hi (lv_at hl j hk) (kk hz h0 ha ls H locs hl hW)
theorem i_iconst (C : oCi l d mc ms cc own nm nL E n0 n' τ J) {x : Int32} {v : Int} (hd : decode cc pc = .ok (.iconst v, 1)) (hv : Int32.ofInt v = x) (kk : J ad n σ k sl (pc + 1) lv (.int x :: st)) : J ad n σ k sl pc lv st := by
  obtain ⟨p, e, s, m, args, below, meth, c, A, hx, hb, hml, hr, hlk, hnm, hown, hts, hNs, hK, hA, rfl⟩ := C
  intro hz h0 ha ls H locs hl hW
  exact lv_iconst hx hb hd hv (kk hz h0 ha ls H locs hl hW)
theorem i_bipush (C : oCi l d mc ms cc own nm nL E n0 n' τ J) {x : Int32} {v : Int} (hd : decode cc pc = .ok (.bipush v, 2)) (hv : (Int8.ofInt v).toInt32 = x) (kk : J ad n σ k sl (pc + 2) lv (.int x :: st)) : J ad n σ k sl pc lv st := by
  obtain ⟨p, e, s, m, args, below, meth, c, A, hx, hb, hml, hr, hlk, hnm, hown, hts, hNs, hK, hA, rfl⟩ := C
  intro hz h0 ha ls H locs hl hW
  exact lv_bipush hx hb hd hv (kk hz h0 ha ls H locs hl hW)
theorem i_sipush (C : oCi l d mc ms cc own nm nL E n0 n' τ J) {x : Int32} {v : Int} (hd : decode cc pc = .ok (.sipush v, 3)) (hv : (Int16.ofInt v).toInt32 = x) (kk : J ad n σ k sl (pc + 3) lv (.int x :: st)) : J ad n σ k sl pc lv st := by
  obtain ⟨p, e, s, m, args, below, meth, c, A, hx, hb, hml, hr, hlk, hnm, hown, hts, hNs, hK, hA, rfl⟩ := C
  intro hz h0 ha ls H locs hl hW
  exact lv_sipush hx hb hd hv (kk hz h0 ha ls H locs hl hW)
theorem i_dup (C : oCi l d mc ms cc own nm nL E n0 n' τ J) {a : Nat} (hd : decode cc pc = .ok (.dup, 1)) (kk : J ad n σ k sl (pc + 1) lv (.ref a :: .ref a :: st)) : J ad n σ k sl pc lv (.ref a :: st) := by
  obtain ⟨p, e, s, m, args, below, meth, c, A, hx, hb, hml, hr, hlk, hnm, hown, hts, hNs, hK, hA, rfl⟩ := C
  intro hz h0 ha ls H locs hl hW
  exact lv_dup hx hb hd rfl (kk hz h0 ha ls H locs hl hW)
theorem i_obj (C : oCi l d mc ms cc own nm nL E n0 n' τ J) {idx a : Nat} (hlink : Cond.methodLink own idx Lib.objectInit ∈ oTB) (hinst : Cond.instanceMethod Lib.objectInit ∈ oTB) (hcode : Cond.code Lib.objectInit ⟨#[0xb1]⟩ 1 none ∈ oTB) (hcat : (st.map fun v => v.category).sum ≤ 8) (hd1 : 1 ≤ d) (hd : decode cc pc = .ok (.invokespecial idx, 3)) (kk : J ad n σ k sl (pc + 3) lv st) : J ad n σ k sl pc lv (.ref a :: st) := by
  obtain ⟨p, e, s, m, args, below, meth, c, A, hx, hb, hml, hr, hlk, hnm, hown, hts, hNs, hK, hA, rfl⟩ := C
  intro hz h0 ha ls H locs hl hW
  exact W.objInit hx hb hown (hts _ hlink) (hts _ hinst) (hts _ hcode) rfl (by rw [hml]; exact hl.1) rfl hd hd1 (by show 2 * 0 + _ + 12 ≤ 100 * d; omega) (kk hz h0 ha ls H locs hl hW)
theorem i_new (C : oCi l d mc ms cc own nm nL E n0 n' τ J) {index q : Nat} {Cn : String} {T : u_T} {ty : Nat → FieldType} (K : oCl q Cn T ty) (hq : okd n = q) (hcl : Cond.classLink own index Cn ∈ oTB) (hins : Cond.instantiable Cn (onf q) ∈ oTB) (hini : Cond.initialized Cn ∈ oTB) (hdef : ∀ j, j < onf q → defaultValue (ty j) = oDf (oft q j)) (hk : k + 1 ≤ mc) (hs : sl + onf q ≤ ms) (hd : decode cc pc = .ok (.new index, 3)) (kk : ∀ ad', (∀ c, c < n → ad' c = ad c) → J ad' (n + 1) σ (k + 1) (sl + onf q) (pc + 3) lv (.ref (ad' n) :: st)) : J ad n σ k sl pc lv st := by
  obtain ⟨p, e, s, m, args, below, meth, c, A, hx, hb, hml, hr, hlk, hnm, hown, hts, hNs, hK, hA, rfl⟩ := C
  intro hz h0 ha ls H locs hl hW
  obtain ⟨hP, hD, hS⟩ := hW
  obtain ⟨hc, h13, hin, hty, hnm2⟩ := K
  refine va_new hx hb hts hin ty hty hown (hts _ hcl) (hts _ hins) (hts _ hini) hK hP hD hS hA hc (fs := ofs (oEa E ad) σ n) (fun j hj => ?_) hk hs hd (fun q1 H1 hP1 hD1 hS1 => ?_)
  · rw [hdef j hj]
    unfold vp_V
    rw [List.getD_eq_getElem?_getD, ofs_at hq hj]
    exact (oval_z hz).symm
  · have e1 : oWn (oEa E ad) n σ ++ [(q1, .inr (q, ofs (oEa E ad) σ n))] = oWn (oEa E (oAp ad n q1)) (n + 1) σ := by
      have h := oWn_push (E := oEa E ad) (ad := oAp ad n q1) hz oAp_lt
      rw [oAp_self, oel_obj hq h13] at h
      exact h.symm
    rw [e1] at hP1 hD1
    have h2 := kk (oAp ad n q1) oAp_lt hz.more (by omega) (fun c hc => (oAp_lt c (by omega)).trans (ha c hc)) ls H1 locs hl ⟨hP1, hD1, hS1⟩
    rw [oAp_self] at h2
    exact h2
theorem i_newa (C : oCi l d mc ms cc own nm nL E n0 n' τ J) {at' : ArrayType} {q t N : Nat} {ty : FieldType} {x : Int32} (harr : Cond.arrayClass (newarray.typeOf at') ∈ oTB) (hty : newarray.typeOf at' = ty) (htt : (otys E)[t]? = some (E.1 t, ty)) (hra : ∀ (U : State) (cA : ClassId), va_RA U cA ty = (U.vm.findClass ("[" ++ ty.toString) = some cA)) (hq : okd n = q) (h13 : 13 ≤ q) (ht : oat q = t) (hN : oln q = N) (hdv : (t ≠ 3 ∧ defaultValue ty = .int 0) ∨ (t = 3 ∧ defaultValue ty = .long 0)) (hx0 : 0 ≤ x.toInt) (hxN : x.toNatClampNeg = N) (hby : N * componentBytes ty ≤ 536870912) (hk : k + 1 ≤ mc) (hs : sl + N ≤ ms) (hd : decode cc pc = .ok (.newarray at', 2)) (kk : ∀ ad', (∀ c, c < n → ad' c = ad c) → J ad' (n + 1) σ (k + 1) (sl + N) (pc + 2) lv (.ref (ad' n) :: st)) : J ad n σ k sl pc lv (.int x :: st) := by
  obtain ⟨p, e, s, m, args, below, meth, c, A, hx, hb, hml, hr, hlk, hnm, hown, hts, hNs, hK, hA, rfl⟩ := C
  intro hz h0 ha ls H locs hl hW
  obtain ⟨hP, hD, hS⟩ := hW
  obtain ⟨a0, hel, ha0⟩ : ∃ a0 : vp_A, oel (oEa E ad) σ n = .inl (E.1 t, a0) ∧ ∀ cA : ClassId, vp_cell cA a0 = arrV cA N (fun _ => defaultValue ty) := by
    rcases hdv with ⟨h3, hv⟩ | ⟨h3, hv⟩
    · refine ⟨(N, .inl (fun _ => 0)), ?_, fun cA => ?_⟩
      · rw [oel_int hq h13 ht hN h3, show σ.1 n = fun _ => 0 from by funext j; exact (hz.1 n j (Nat.le_refl _)).1]
      · rw [hv]
        rfl
    · subst h3
      refine ⟨(N, .inr (.inl (fun _ => 0))), ?_, fun cA => ?_⟩
      · rw [oel_long hq h13 ht hN, show σ.2.1 n = fun _ => 0 from by funext j; exact (hz.1 n j (Nat.le_refl _)).2.1]
      · rw [hv]
        rfl
  refine va_newa hx hb (hts _ harr) hty hK hP hD hS hA (a0 := a0) ha0 (fun h => by have := Int32.lt_iff_toInt_lt.mp h; have h9 : (0 : Int32).toInt = 0 := rfl; omega) hxN hby hk hs hd (fun q1 cA H1 hK1 hP1 hD1 hS1 => ?_)
  have hcA : cA = E.1 t := by
    have g1 := (hK.2 t _ htt).2
    have g2 := (hK1.2 (otys E).length (cA, ty) (by rw [List.getElem?_append_right (Nat.le_refl _), Nat.sub_self]; rfl)).2
    rw [hra] at g1 g2
    exact Option.some.inj (g2.symm.trans g1)
  subst hcA
  have e1 : oWn (oEa E ad) n σ ++ [(q1, .inl (E.1 t, a0))] = oWn (oEa E (oAp ad n q1)) (n + 1) σ := by
    have h := oWn_push (E := oEa E ad) (ad := oAp ad n q1) hz oAp_lt
    rw [oAp_self, hel] at h
    exact h.symm
  rw [e1] at hP1 hD1
  have h2 := kk (oAp ad n q1) oAp_lt hz.more (by omega) (fun c hc => (oAp_lt c (by omega)).trans (ha c hc)) ls H1 locs hl ⟨hP1, hD1, hS1⟩
  rw [oAp_self] at h2
  exact h2
theorem i_getr (C : oCi l d mc ms cc own nm nL E n0 n' τ J) {a k1 q index b : Nat} {Cn ref : String} {T : u_T} {ty : Nat → FieldType} (K : oCl q Cn T ty) (hq : okd a = q) (han : a < n) (hk : k1 < onf q) (hlink : Cond.fieldLink own index ref (T k1).2.1 (T k1).2.2.1 ∈ oTB) (hsame : (T k1).1 = ref) (h2 : oft q k1 = 2) (hv : σ.2.2 a k1 = b + 1) (hd : decode cc pc = .ok (.getfield index, 3)) (kk : J ad n σ k sl (pc + 3) lv (.ref (ad b) :: st)) : J ad n σ k sl pc lv (.ref (ad a) :: st) := by
  obtain ⟨p, e, s, m, args, below, meth, c, A, hx, hb, hml, hr, hlk, hnm, hown, hts, hNs, hK, hA, rfl⟩ := C
  intro hz h0 ha ls H locs hl hW
  obtain ⟨hP, hD, hS⟩ := id hW
  obtain ⟨hc, h13, hin, hty, hnm2⟩ := K
  have he : (oWn (oEa E ad) n σ)[a]? = some (ad a, .inr (q, ofs (oEa E ad) σ a)) := by rw [oWn_at han, oel_obj hq h13]
  exact va_get hx hb hts hin hown hK hP a he hc k1 hk (hts _ hlink) (fun x h => by rw [← hsame]; exact h) (v := .ref (ad b)) (by rw [ofs_at hq hk, h2]; show some (ovr (oEa E ad) (σ.2.2 a k1)) = _; rw [hv]; rfl) hd (kk hz h0 ha ls H locs hl hW)
theorem i_puti (C : oCi l d mc ms cc own nm nL E n0 n' τ J) {a k1 q index : Nat} {Cn ref : String} {T : u_T} {ty : Nat → FieldType} {x : Int32} (K : oCl q Cn T ty) (hq : okd a = q) (han : a < n) (hk : k1 < onf q) (hlink : Cond.fieldLink own index ref (T k1).2.1 (T k1).2.2.1 ∈ oTB) (hsame : (T k1).1 = ref) (ht0 : oft q k1 = 0) (hfin : (T k1).2.2.2 = false) (hn : narrow (ty k1) (.int x) = .int x) (hfit : fits (ty k1) (.int x) = true) (hd : decode cc pc = .ok (.putfield index, 3)) (kk : J ad n (pI σ a k1 x) k sl (pc + 3) lv st) : J ad n σ k sl pc lv (.int x :: .ref (ad a) :: st) := by
  obtain ⟨p, e, s, m, args, below, meth, c, A, hx, hb, hml, hr, hlk, hnm, hown, hts, hNs, hK, hA, rfl⟩ := C
  intro hz h0 ha ls H locs hl hW
  obtain ⟨hP, hD, hS⟩ := hW
  obtain ⟨hc, h13, hin, hty, hnm2⟩ := K
  have he : (oWn (oEa E ad) n σ)[a]? = some (ad a, .inr (q, ofs (oEa E ad) σ a)) := by rw [oWn_at han, oel_obj hq h13]
  refine va_put hx hb hts hin ty hty hnm2 hown hK hP hD hS a he hc k1 hk (hts _ hlink) (fun x h => by rw [← hsame]; exact h) hfin (hty k1 hk) hn hfit (by rw [ofs_len hq]; exact hk) hd (fun H1 locs1 hP1 hD1 hS1 => ?_)
  have e1 : (oWn (oEa E ad) n σ).set a (ad a, .inr (q, (ofs (oEa E ad) σ a).set k1 (.int x))) = oWn (oEa E ad) n (pI σ a k1 x) := oWn_set (E := oEa E ad) han (by rw [oel_obj hq h13]; rw [ofs_set hq hk (σ := σ) (v := .int x) (by rw [ht0]; show Value.int _ = _; rw [pI_self]) (fun j hj => by unfold oval; rw [pI_ne σ x (Or.inr hj)]; rfl)]) (fun b hb2 => oel_pI hb2)
  rw [e1] at hP1 hD1
  exact kk (oZ_pI hz han) h0 ha ls H1 locs1 hl ⟨hP1, hD1, hS1⟩
theorem i_putr (C : oCi l d mc ms cc own nm nL E n0 n' τ J) {a k1 q index b : Nat} {Cn ref : String} {T : u_T} {ty : Nat → FieldType} (K : oCl q Cn T ty) (hq : okd a = q) (han : a < n) (hbn : b < n) (hk : k1 < onf q) (hlink : Cond.fieldLink own index ref (T k1).2.1 (T k1).2.2.1 ∈ oTB) (hsame : (T k1).1 = ref) (ht2 : oft q k1 = 2) (hfin : (T k1).2.2.2 = false) (hn : ∀ r : Nat, narrow (ty k1) (.ref r) = .ref r) (hfit : ∀ r : Nat, fits (ty k1) (.ref r) = true) (hd : decode cc pc = .ok (.putfield index, 3)) (kk : J ad n (pR σ a k1 (b + 1)) k sl (pc + 3) lv st) : J ad n σ k sl pc lv (.ref (ad b) :: .ref (ad a) :: st) := by
  obtain ⟨p, e, s, m, args, below, meth, c, A, hx, hb, hml, hr, hlk, hnm, hown, hts, hNs, hK, hA, rfl⟩ := C
  intro hz h0 ha ls H locs hl hW
  obtain ⟨hP, hD, hS⟩ := hW
  obtain ⟨hc, h13, hin, hty, hnm2⟩ := K
  have he : (oWn (oEa E ad) n σ)[a]? = some (ad a, .inr (q, ofs (oEa E ad) σ a)) := by rw [oWn_at han, oel_obj hq h13]
  refine va_put hx hb hts hin ty hty hnm2 hown hK hP hD hS a he hc k1 hk (hts _ hlink) (fun x h => by rw [← hsame]; exact h) hfin (hty k1 hk) (hn _) (hfit _) (by rw [ofs_len hq]; exact hk) hd (fun H1 locs1 hP1 hD1 hS1 => ?_)
  have e1 : (oWn (oEa E ad) n σ).set a (ad a, .inr (q, (ofs (oEa E ad) σ a).set k1 (.ref (ad b)))) = oWn (oEa E ad) n (pR σ a k1 (b + 1)) := oWn_set (E := oEa E ad) han (by rw [oel_obj hq h13]; rw [ofs_set hq hk (σ := σ) (v := .ref (ad b)) (by rw [ht2]; show ovr (oEa E ad) _ = _; rw [pR_self]; rfl) (fun j hj => by unfold oval pR; simp [hj])]) (fun b hb2 => oel_pR hb2)
  rw [e1] at hP1 hD1
  exact kk (oZ_pR hz han (by omega)) h0 ha ls H1 locs1 hl ⟨hP1, hD1, hS1⟩
theorem i_putrF (C : oCi l d mc ms cc own "<init>" nL E n0 n' τ J) {a k1 q index b : Nat} {Cn ref : String} {T : u_T} {ty : Nat → FieldType} (K : oCl q Cn T ty) (hq : okd a = q) (han : a < n) (hbn : b < n) (hk : k1 < onf q) (hlink : Cond.fieldLink own index ref (T k1).2.1 (T k1).2.2.1 ∈ oTB) (hsame : (T k1).1 = ref) (ht2 : oft q k1 = 2) (hfin : (T k1).2.2.2 = true) (hdecl : (T k1).1 = own) (hn : ∀ r : Nat, narrow (ty k1) (.ref r) = .ref r) (hfit : ∀ r : Nat, fits (ty k1) (.ref r) = true) (hd : decode cc pc = .ok (.putfield index, 3)) (kk : J ad n (pR σ a k1 (b + 1)) k sl (pc + 3) lv st) : J ad n σ k sl pc lv (.ref (ad b) :: .ref (ad a) :: st) := by
  obtain ⟨p, e, s, m, args, below, meth, c, A, hx, hb, hml, hr, hlk, hnm, hown, hts, hNs, hK, hA, rfl⟩ := C
  intro hz h0 ha ls H locs hl hW
  obtain ⟨hP, hD, hS⟩ := hW
  obtain ⟨hc, h13, hin, hty, hnm2⟩ := K
  have he : (oWn (oEa E ad) n σ)[a]? = some (ad a, .inr (q, ofs (oEa E ad) σ a)) := by rw [oWn_at han, oel_obj hq h13]
  refine va_putF hx hb hts hin ty hty hnm2 hown hK hP hD hS a he hc k1 hk (hts _ hlink) (fun x h => by rw [← hsame]; exact h) hfin hnm hdecl (hty k1 hk) (hn _) (hfit _) (by rw [ofs_len hq]; exact hk) hd (fun H1 locs1 hP1 hD1 hS1 => ?_)
  have e1 : (oWn (oEa E ad) n σ).set a (ad a, .inr (q, (ofs (oEa E ad) σ a).set k1 (.ref (ad b)))) = oWn (oEa E ad) n (pR σ a k1 (b + 1)) := oWn_set (E := oEa E ad) han (by rw [oel_obj hq h13]; rw [ofs_set hq hk (σ := σ) (v := .ref (ad b)) (by rw [ht2]; show ovr (oEa E ad) _ = _; rw [pR_self]; rfl) (fun j hj => by unfold oval pR; simp [hj])]) (fun b hb2 => oel_pR hb2)
  rw [e1] at hP1 hD1
  exact kk (oZ_pR hz han (by omega)) h0 ha ls H1 locs1 hl ⟨hP1, hD1, hS1⟩
theorem i_cast (C : oCi l d mc ms cc own nm nL E n0 n' τ J) {a q N : Nat} {i x : Int32} (hq : okd a = q) (han : a < n) (h13 : 13 ≤ q) (ht : oat q = 1) (hN : oln q = N) (hix : 0 ≤ i.toInt ∧ i.toInt < (N : Int)) (hnar : vp_nar .char x = x) (hd : decode cc pc = .ok (.castore, 1)) (kk : J ad n (pI σ a i.toNatClampNeg x) k sl (pc + 1) lv st) : J ad n σ k sl pc lv (.int x :: .int i :: .ref (ad a) :: st) := by
  obtain ⟨p, e, s, m, args, below, meth, c, A, hx, hb, hml, hr, hlk, hnm, hown, hts, hNs, hK, hA, rfl⟩ := C
  intro hz h0 ha ls H locs hl hW
  obtain ⟨hP, hD, hS⟩ := hW
  have he : (oWn (oEa E ad) n σ)[a]? = some (ad a, .inl (E.1 1, N, .inl (σ.1 a))) := by rw [oWn_at han, oel_int hq h13 ht hN (by decide)]
  refine va_cast hx hb hK hP hD hS a 1 he rfl (oix hix.1 hix.2) hd (fun H1 locs1 hP1 hD1 hS1 => ?_)
  rw [hnar] at hP1 hD1
  have e1 : (oWn (oEa E ad) n σ).set a (ad a, .inl (E.1 1, N, .inl (upd (σ.1 a) i.toNatClampNeg x))) = oWn (oEa E ad) n (pI σ a i.toNatClampNeg x) := oWn_set (E := oEa E ad) han (by rw [oel_int hq h13 ht hN (by decide)]; congr 4; funext b; simp [pI, upd]) (fun b hb2 => oel_pI hb2)
  rw [e1] at hP1 hD1
  exact kk (oZ_pI hz han) h0 ha ls H1 locs1 hl ⟨hP1, hD1, hS1⟩
theorem i_ret (C : oCi l d mc ms cc own nm nL E n0 n τ J) (hd : decode cc pc = .ok (.return_, 1)) : J ad n τ mc ms pc lv [] := by
  obtain ⟨p, e, s, m, args, below, meth, c, A, hx, hb, hml, hr, hlk, hnm, hown, hts, hNs, hK, hA, rfl⟩ := C
  intro hz h0 ha ls H locs hl hW
  exact W.vret hx hb hr (fun t ht hw => ⟨⟨ad, rfl, hz, ha, by rw [ht]; exact hW.1, va_K.moved hw.alike hK, hW.2.1⟩, hW.2.2.F ht⟩) hW.2.2.2.2 hd hlk
end BORN
