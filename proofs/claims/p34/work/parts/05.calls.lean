
theorem lw_goodIn {y : MethodName} {cc : ByteArray} {nL : Nat} {ret : Option FieldType} (h : Cond.code y cc nL ret ∈ oTB) : GoodIn oTB (oWs y cc nL ret) := fun w hw => by
  have hm : w ∈ oTB := by
    rcases List.mem_cons.mp hw with e | h2
    · rw [e]; exact h
    · exact h2
  exact ⟨hm, good_of_word ((List.mem_filter.mp hm).2)⟩
/-- what a call asks of a method: of an object, of a class -/
def oMv (y : MethodName) (cc : ByteArray) (nL : Nat) (ret : Option FieldType) (n : Nat) (Cn : String) : Prop := Cond.code y cc nL ret ∈ oTB ∧ Cond.instanceMethod y ∈ oTB ∧ Cond.selects Cn y y ∈ oTB ∧ Cond.initialized y.cls ∈ oTB ∧ nL ≤ 60 ∧ y.cls ≠ "java/lang/invoke/MethodHandle" ∧ y.cls ≠ "java/lang/invoke/VarHandle" ∧ (parseMethodDescriptor y.desc).map (fun d => d.parameters.length) = some n
def oMs (y : MethodName) (cc : ByteArray) (nL : Nat) (ret : Option FieldType) (n : Nat) : Prop := Cond.code y cc nL ret ∈ oTB ∧ Cond.static y ∈ oTB ∧ Cond.initialized y.cls ∈ oTB ∧ nL ≤ 60 ∧ y.cls ≠ "java/lang/invoke/MethodHandle" ∧ y.cls ≠ "java/lang/invoke/VarHandle" ∧ (parseMethodDescriptor y.desc).map (fun d => d.parameters.length) = some n
def oPi (Q : Int32 → oS → Prop) : Option Value → oS → Prop := fun v u => ∃ r, v = some (.int r) ∧ Q r u
def oPl (Q : Int64 → oS → Prop) : Option Value → oS → Prop := fun v u => ∃ r, v = some (.long r) ∧ Q r u
def oPv (Q : oS → Prop) : Option Value → oS → Prop := fun v u => v = none ∧ Q u
theorem o_AA {A : Nat → Prop} {E : oE} {σ : oS} {H0 H : Heap} {locs : List Loc} (hS : va_S A H0 H locs) (hD : va_D A (owl E σ)) (hA : ∀ q, H0.size ≤ q → A q) : ∀ q, va_A (owl E σ) H.size q → A q := fun q h => by
  rcases h with ⟨k, x, h⟩ | h
  · exact hD.2 k (q, x) h
  · exact hA q (Nat.le_trans hS.1 h)
theorem o_go {p : Program} {l : Launch} {e : Env} {R : Room} {s : State} {m : MethodId} {args : Array Value} {below : List Frame} {meth : Method} {c : Code} {H : Heap} {locs : List Loc} {Q : State → Prop} {pc : Nat} {ls : Array Slot} {rest st0 : List Value} {a : Array Value} {A : Nat → Prop} {E : oE} {σ : oS} {M' : List (Nat × Nat)} {Post' : Option Value → oS → Prop}
    (hr : va_Run p l e R s m args below meth c H locs 0 0 0 0 (F0 m pc ls st0) rest (oQc E (va_A (owl E σ) H.size) M' σ Post' a) (va_A (owl E σ) H.size)) (hS : va_S A s.heap H locs) (hD : va_D A (owl E σ)) (hA : ∀ q, s.heap.size ≤ q → A q)
    (kk : ∀ v u H1 locs1, Post' v u → oTy u → oFr M' σ u → oWd E A s.heap u H1 locs1 → W p l e R s m args below meth c H1 locs1 0 0 Q (F0 m (pc + 3) ls (v.toList ++ rest))) : W p l e R s m args below meth c H locs 0 0 Q (F0 m pc ls st0) := by
  have hAA : ∀ q, va_A (owl E σ) H.size q → A q := fun q h => by
    rcases h with ⟨k, x, h⟩ | h
    · exact hD.2 k (q, x) h
    · exact hA q (Nat.le_trans hS.1 h)
  intro T hT X
  obtain ⟨v, st₀, t, T', L, h0, X', hL, e1, e2, ⟨⟨v', u, hv, ⟨hp, hTy, hFr⟩, hP1, hK1, hD1⟩, hz, hk⟩, st⟩ := hr T hT X
  cases hv
  rw [h0] at hz hk
  obtain ⟨t2, a1, b1⟩ := kk v u T'.heap (locs ++ L) hp hTy hFr ⟨by rw [e1]; exact hP1, hD1.weaken (fun k q _ h => hAA q.1 h), Nat.le_trans hS.1 (by rw [e1]; exact hz), fun q h1 h2 => by rw [e1, hk q (Nat.lt_of_lt_of_le h1 hS.1) (fun z => h2 (hAA q z))]; exact hS.2.1 q h1 h2, fun q hq => by
      rcases List.mem_append.mp hq with h | h
      · exact hS.2.2 q h
      · exact hAA _ (hL q h)⟩ T' rfl X'
  exact ⟨t2, st t2 a1, b1⟩
theorem o_blind {E : oE} {σ : oS} {sz : Nat} {vs : List Value} : FrameBlind (va_Pc vs (fun U => U.heap.size = sz ∧ va_P (oD E) vwCl (owl E σ) U.heap ∧ va_K (oD E) vwCl (otys E) U ∧ va_D (fun _ => True) (owl E σ) ∧ oNs U ∧ oX E (va_A (owl E σ) sz) U U.heap)) := fun a U g mk q => by
  obtain ⟨q0, q1, qP, qK, qD, qN, qX⟩ := q
  exact ⟨q0, q1, qP, va_K.moved (u := U) (U := U.calling g mk a) (Vm.Alike.refl U.vm) qK, qD, qN.same rfl, qX.same rfl⟩
section ROWS3
variable {l : Launch} {d : Nat} {cc : ByteArray} {own : String} {nL : Nat} {ret : Option FieldType} {M : List (Nat × Nat)} {E : oE} {σ0 σ : oS} {Post : Option Value → oS → Prop} {J : oS → Nat → List (Nat × Value) → List Value → Prop} {pc : Nat} {lv : List (Nat × Value)} {st : List Value}
theorem r_callVi (C : oC l d cc own nL ret M E σ0 Post J) {d' nL' n index : Nat} {y : MethodName} {cc' : ByteArray} {ret' : Option FieldType} {M' : List (Nat × Nat)} {As : List Value} {st0 : List Value} {a q : Nat} {Cn : String} {T : u_T} {ty : Nat → FieldType} {Q9 : Int32 → oS → Prop} (K : oCl q Cn T ty) (hq : okd a = q) (I : oMv y cc' nL' ret' n Cn) (hlink : Cond.methodLink own index y ∈ oTB) (hM : oMet l d' y cc' nL' ret' M' E σ (.ref (oad E a) :: As) (oPi Q9)) (hdd : d' + 1 ≤ d) (hsub : osub M' M = true) (hn : As.length = n) (hst : st0 = As.reverse ++ .ref (oad E a) :: st) (hcat : (st.map fun v => v.category).sum ≤ 8) (hd : decode cc pc = .ok (.invokevirtual index, 3)) (kk : ∀ r u, Q9 r u → oFr M' σ u → J u (pc + 3) lv (.int r :: st)) : J σ pc lv st0 := by
  obtain ⟨p, e, s, m, args, below, meth, c, A, hx, hb, hml, hr, hlk, hown, hts, hNs, hXs, hK, hA, rfl⟩ := C
  intro hT hF ls H locs hl hW
  obtain ⟨I1, I2, I3, I4, I5, I6, I7, I8⟩ := I
  obtain ⟨hcl, h13, -⟩ := K
  obtain ⟨hP, hD, hS⟩ := hW
  have haN : a < oN := okd_lt hq (by omega)
  have he : (owl E σ)[a]? = some (oad E a, .inr (q, ofs E σ a)) := by rw [owl_at haN, oel_obj hq h13]
  refine o_go (va_runV (nL := nL) ⟨hx, hb, hml, hown, hts⟩ (hM hT H.size) ⟨callB_of n hts (lw_goodIn I1) rfl rfl rfl (hts _ I4) (hts _ hlink) ⟨I6, I7, I8⟩ ⟨hdd, by show 8 + (nL' + 11) + 100 * d' ≤ 100 * d; omega⟩, hts _ I2, hts _ I3⟩ ⟨o_blind, va_recv hK hP hcl he, fun U hU hW => ⟨rfl, by rw [hU], by rw [hU]; exact hP, va_K.moved hW.alike hK, hD.weaken (fun _ _ _ _ => trivial), hNs.warm hW, by rw [hU]; exact ((hXs.kept hS.2.1).narrow (o_AA hS hD hA)).warm hW⟩⟩ rfl hn hl.1 hst (lv_room hcat) hd ⟨Nat.zero_le _, Nat.zero_le _⟩) hS hD hA (fun v u H1 locs1 hp hu hf hw => ?_)
  obtain ⟨r, rfl, h9⟩ := hp
  exact kk r u h9 hf hu (hF.then hf hsub) ls H1 locs1 hl hw
theorem r_callSi (C : oC l d cc own nL ret M E σ0 Post J) {d' nL' n index : Nat} {y : MethodName} {cc' : ByteArray} {ret' : Option FieldType} {M' : List (Nat × Nat)} {As : List Value} {st0 : List Value} {Q9 : Int32 → oS → Prop} (I : oMs y cc' nL' ret' n) (hlink : Cond.methodLink own index y ∈ oTB) (hM : oMet l d' y cc' nL' ret' M' E σ As (oPi Q9)) (hdd : d' + 1 ≤ d) (hsub : osub M' M = true) (hn : As.length = n) (hst : st0 = As.reverse ++ st) (hcat : (st.map fun v => v.category).sum ≤ 8) (hd : decode cc pc = .ok (.invokestatic index, 3)) (kk : ∀ r u, Q9 r u → oFr M' σ u → J u (pc + 3) lv (.int r :: st)) : J σ pc lv st0 := by
  obtain ⟨p, e, s, m, args, below, meth, c, A, hx, hb, hml, hr, hlk, hown, hts, hNs, hXs, hK, hA, rfl⟩ := C
  intro hT hF ls H locs hl hW
  obtain ⟨I1, I2, I4, I5, I6, I7, I8⟩ := I
  obtain ⟨hP, hD, hS⟩ := hW
  refine o_go (va_runS (nL := nL) ⟨hx, hb, hml, hown, hts⟩ (hM hT H.size) ⟨callB_of n hts (lw_goodIn I1) rfl rfl rfl (hts _ I4) (hts _ hlink) ⟨I6, I7, I8⟩ ⟨hdd, by show 8 + (nL' + 11) + 100 * d' ≤ 100 * d; omega⟩, hts _ I2⟩ ⟨o_blind, fun U hU hW => ⟨rfl, by rw [hU], by rw [hU]; exact hP, va_K.moved hW.alike hK, hD.weaken (fun _ _ _ _ => trivial), hNs.warm hW, by rw [hU]; exact ((hXs.kept hS.2.1).narrow (o_AA hS hD hA)).warm hW⟩⟩ rfl hn hl.1 hst (lv_room hcat) hd ⟨Nat.zero_le _, Nat.zero_le _⟩) hS hD hA (fun v u H1 locs1 hp hu hf hw => ?_)
  obtain ⟨r, rfl, h9⟩ := hp
  exact kk r u h9 hf hu (hF.then hf hsub) ls H1 locs1 hl hw
theorem r_callVNi (C : oC l d cc own nL ret M E σ0 Post J) {d' nL' n index : Nat} {y : MethodName} {cc' : ByteArray} {ret' : Option FieldType} {M' : List (Nat × Nat)} {As : List Value} {st0 : List Value} {a q : Nat} {Cn : String} {T : u_T} {ty : Nat → FieldType} {Q9 : Int32 → oS → Prop} (K : oCl q Cn T ty) (hq : okd a = q) (I : oMv y cc' nL' ret' n Cn) {host : String} (hlink : Cond.methodLinkNest own index y host ∈ lw_tbl) (hM : oMet l d' y cc' nL' ret' M' E σ (.ref (oad E a) :: As) (oPi Q9)) (hdd : d' + 1 ≤ d) (hsub : osub M' M = true) (hn : As.length = n) (hst : st0 = As.reverse ++ .ref (oad E a) :: st) (hcat : (st.map fun v => v.category).sum ≤ 8) (hd : decode cc pc = .ok (.invokevirtual index, 3)) (kk : ∀ r u, Q9 r u → oFr M' σ u → J u (pc + 3) lv (.int r :: st)) : J σ pc lv st0 := by
  obtain ⟨p, e, s, m, args, below, meth, c, A, hx, hb, hml, hr, hlk, hown, hts, hNs, hXs, hK, hA, rfl⟩ := C
  intro hT hF ls H locs hl hW
  obtain ⟨I1, I2, I3, I4, I5, I6, I7, I8⟩ := I
  obtain ⟨hcl, h13, -⟩ := K
  obtain ⟨hP, hD, hS⟩ := hW
  have haN : a < oN := okd_lt hq (by omega)
  have he : (owl E σ)[a]? = some (oad E a, .inr (q, ofs E σ a)) := by rw [owl_at haN, oel_obj hq h13]
  refine o_go (va_runVN (nL := nL) ⟨hx, hb, hml, hown, hts⟩ (hM hT H.size) ⟨va_cnB n hts (lw_goodIn I1) rfl rfl rfl (hNs _ hlink rfl) (hts _ I4) ⟨I6, I7, I8⟩ ⟨hdd, by show 8 + (nL' + 11) + 100 * d' ≤ 100 * d; omega⟩, hts _ I2, hts _ I3⟩ ⟨o_blind, va_recv hK hP hcl he, fun U hU hW => ⟨rfl, by rw [hU], by rw [hU]; exact hP, va_K.moved hW.alike hK, hD.weaken (fun _ _ _ _ => trivial), hNs.warm hW, by rw [hU]; exact ((hXs.kept hS.2.1).narrow (o_AA hS hD hA)).warm hW⟩⟩ rfl hn hl.1 hst (lv_room hcat) hd ⟨Nat.zero_le _, Nat.zero_le _⟩) hS hD hA (fun v u H1 locs1 hp hu hf hw => ?_)
  obtain ⟨r, rfl, h9⟩ := hp
  exact kk r u h9 hf hu (hF.then hf hsub) ls H1 locs1 hl hw
theorem r_callSNi (C : oC l d cc own nL ret M E σ0 Post J) {d' nL' n index : Nat} {y : MethodName} {cc' : ByteArray} {ret' : Option FieldType} {M' : List (Nat × Nat)} {As : List Value} {st0 : List Value} {Q9 : Int32 → oS → Prop} (I : oMs y cc' nL' ret' n) {host : String} (hlink : Cond.methodLinkNest own index y host ∈ lw_tbl) (hM : oMet l d' y cc' nL' ret' M' E σ As (oPi Q9)) (hdd : d' + 1 ≤ d) (hsub : osub M' M = true) (hn : As.length = n) (hst : st0 = As.reverse ++ st) (hcat : (st.map fun v => v.category).sum ≤ 8) (hd : decode cc pc = .ok (.invokestatic index, 3)) (kk : ∀ r u, Q9 r u → oFr M' σ u → J u (pc + 3) lv (.int r :: st)) : J σ pc lv st0 := by
  obtain ⟨p, e, s, m, args, below, meth, c, A, hx, hb, hml, hr, hlk, hown, hts, hNs, hXs, hK, hA, rfl⟩ := C
  intro hT hF ls H locs hl hW
  obtain ⟨I1, I2, I4, I5, I6, I7, I8⟩ := I
  obtain ⟨hP, hD, hS⟩ := hW
  refine o_go (va_runSN (nL := nL) ⟨hx, hb, hml, hown, hts⟩ (hM hT H.size) ⟨va_cnB n hts (lw_goodIn I1) rfl rfl rfl (hNs _ hlink rfl) (hts _ I4) ⟨I6, I7, I8⟩ ⟨hdd, by show 8 + (nL' + 11) + 100 * d' ≤ 100 * d; omega⟩, hts _ I2, trivial⟩ ⟨o_blind, fun U hU hW => ⟨rfl, by rw [hU], by rw [hU]; exact hP, va_K.moved hW.alike hK, hD.weaken (fun _ _ _ _ => trivial), hNs.warm hW, by rw [hU]; exact ((hXs.kept hS.2.1).narrow (o_AA hS hD hA)).warm hW⟩⟩ rfl hn hl.1 hst (lv_room hcat) hd ⟨Nat.zero_le _, Nat.zero_le _⟩) hS hD hA (fun v u H1 locs1 hp hu hf hw => ?_)
  obtain ⟨r, rfl, h9⟩ := hp
  exact kk r u h9 hf hu (hF.then hf hsub) ls H1 locs1 hl hw
theorem r_callVl (C : oC l d cc own nL ret M E σ0 Post J) {d' nL' n index : Nat} {y : MethodName} {cc' : ByteArray} {ret' : Option FieldType} {M' : List (Nat × Nat)} {As : List Value} {st0 : List Value} {a q : Nat} {Cn : String} {T : u_T} {ty : Nat → FieldType} {Q9 : Int64 → oS → Prop} (K : oCl q Cn T ty) (hq : okd a = q) (I : oMv y cc' nL' ret' n Cn) (hlink : Cond.methodLink own index y ∈ oTB) (hM : oMet l d' y cc' nL' ret' M' E σ (.ref (oad E a) :: As) (oPl Q9)) (hdd : d' + 1 ≤ d) (hsub : osub M' M = true) (hn : As.length = n) (hst : st0 = As.reverse ++ .ref (oad E a) :: st) (hcat : (st.map fun v => v.category).sum ≤ 8) (hd : decode cc pc = .ok (.invokevirtual index, 3)) (kk : ∀ r u, Q9 r u → oFr M' σ u → J u (pc + 3) lv (.long r :: st)) : J σ pc lv st0 := by
  obtain ⟨p, e, s, m, args, below, meth, c, A, hx, hb, hml, hr, hlk, hown, hts, hNs, hXs, hK, hA, rfl⟩ := C
  intro hT hF ls H locs hl hW
  obtain ⟨I1, I2, I3, I4, I5, I6, I7, I8⟩ := I
  obtain ⟨hcl, h13, -⟩ := K
  obtain ⟨hP, hD, hS⟩ := hW
  have haN : a < oN := okd_lt hq (by omega)
  have he : (owl E σ)[a]? = some (oad E a, .inr (q, ofs E σ a)) := by rw [owl_at haN, oel_obj hq h13]
  refine o_go (va_runV (nL := nL) ⟨hx, hb, hml, hown, hts⟩ (hM hT H.size) ⟨callB_of n hts (lw_goodIn I1) rfl rfl rfl (hts _ I4) (hts _ hlink) ⟨I6, I7, I8⟩ ⟨hdd, by show 8 + (nL' + 11) + 100 * d' ≤ 100 * d; omega⟩, hts _ I2, hts _ I3⟩ ⟨o_blind, va_recv hK hP hcl he, fun U hU hW => ⟨rfl, by rw [hU], by rw [hU]; exact hP, va_K.moved hW.alike hK, hD.weaken (fun _ _ _ _ => trivial), hNs.warm hW, by rw [hU]; exact ((hXs.kept hS.2.1).narrow (o_AA hS hD hA)).warm hW⟩⟩ rfl hn hl.1 hst (lv_room hcat) hd ⟨Nat.zero_le _, Nat.zero_le _⟩) hS hD hA (fun v u H1 locs1 hp hu hf hw => ?_)
  obtain ⟨r, rfl, h9⟩ := hp
  exact kk r u h9 hf hu (hF.then hf hsub) ls H1 locs1 hl hw
theorem r_callSl (C : oC l d cc own nL ret M E σ0 Post J) {d' nL' n index : Nat} {y : MethodName} {cc' : ByteArray} {ret' : Option FieldType} {M' : List (Nat × Nat)} {As : List Value} {st0 : List Value} {Q9 : Int64 → oS → Prop} (I : oMs y cc' nL' ret' n) (hlink : Cond.methodLink own index y ∈ oTB) (hM : oMet l d' y cc' nL' ret' M' E σ As (oPl Q9)) (hdd : d' + 1 ≤ d) (hsub : osub M' M = true) (hn : As.length = n) (hst : st0 = As.reverse ++ st) (hcat : (st.map fun v => v.category).sum ≤ 8) (hd : decode cc pc = .ok (.invokestatic index, 3)) (kk : ∀ r u, Q9 r u → oFr M' σ u → J u (pc + 3) lv (.long r :: st)) : J σ pc lv st0 := by
  obtain ⟨p, e, s, m, args, below, meth, c, A, hx, hb, hml, hr, hlk, hown, hts, hNs, hXs, hK, hA, rfl⟩ := C
  intro hT hF ls H locs hl hW
  obtain ⟨I1, I2, I4, I5, I6, I7, I8⟩ := I
  obtain ⟨hP, hD, hS⟩ := hW
  refine o_go (va_runS (nL := nL) ⟨hx, hb, hml, hown, hts⟩ (hM hT H.size) ⟨callB_of n hts (lw_goodIn I1) rfl rfl rfl (hts _ I4) (hts _ hlink) ⟨I6, I7, I8⟩ ⟨hdd, by show 8 + (nL' + 11) + 100 * d' ≤ 100 * d; omega⟩, hts _ I2⟩ ⟨o_blind, fun U hU hW => ⟨rfl, by rw [hU], by rw [hU]; exact hP, va_K.moved hW.alike hK, hD.weaken (fun _ _ _ _ => trivial), hNs.warm hW, by rw [hU]; exact ((hXs.kept hS.2.1).narrow (o_AA hS hD hA)).warm hW⟩⟩ rfl hn hl.1 hst (lv_room hcat) hd ⟨Nat.zero_le _, Nat.zero_le _⟩) hS hD hA (fun v u H1 locs1 hp hu hf hw => ?_)
  obtain ⟨r, rfl, h9⟩ := hp
  exact kk r u h9 hf hu (hF.then hf hsub) ls H1 locs1 hl hw
theorem r_callVNl (C : oC l d cc own nL ret M E σ0 Post J) {d' nL' n index : Nat} {y : MethodName} {cc' : ByteArray} {ret' : Option FieldType} {M' : List (Nat × Nat)} {As : List Value} {st0 : List Value} {a q : Nat} {Cn : String} {T : u_T} {ty : Nat → FieldType} {Q9 : Int64 → oS → Prop} (K : oCl q Cn T ty) (hq : okd a = q) (I : oMv y cc' nL' ret' n Cn) {host : String} (hlink : Cond.methodLinkNest own index y host ∈ lw_tbl) (hM : oMet l d' y cc' nL' ret' M' E σ (.ref (oad E a) :: As) (oPl Q9)) (hdd : d' + 1 ≤ d) (hsub : osub M' M = true) (hn : As.length = n) (hst : st0 = As.reverse ++ .ref (oad E a) :: st) (hcat : (st.map fun v => v.category).sum ≤ 8) (hd : decode cc pc = .ok (.invokevirtual index, 3)) (kk : ∀ r u, Q9 r u → oFr M' σ u → J u (pc + 3) lv (.long r :: st)) : J σ pc lv st0 := by
  obtain ⟨p, e, s, m, args, below, meth, c, A, hx, hb, hml, hr, hlk, hown, hts, hNs, hXs, hK, hA, rfl⟩ := C
  intro hT hF ls H locs hl hW
  obtain ⟨I1, I2, I3, I4, I5, I6, I7, I8⟩ := I
  obtain ⟨hcl, h13, -⟩ := K
  obtain ⟨hP, hD, hS⟩ := hW
  have haN : a < oN := okd_lt hq (by omega)
  have he : (owl E σ)[a]? = some (oad E a, .inr (q, ofs E σ a)) := by rw [owl_at haN, oel_obj hq h13]
  refine o_go (va_runVN (nL := nL) ⟨hx, hb, hml, hown, hts⟩ (hM hT H.size) ⟨va_cnB n hts (lw_goodIn I1) rfl rfl rfl (hNs _ hlink rfl) (hts _ I4) ⟨I6, I7, I8⟩ ⟨hdd, by show 8 + (nL' + 11) + 100 * d' ≤ 100 * d; omega⟩, hts _ I2, hts _ I3⟩ ⟨o_blind, va_recv hK hP hcl he, fun U hU hW => ⟨rfl, by rw [hU], by rw [hU]; exact hP, va_K.moved hW.alike hK, hD.weaken (fun _ _ _ _ => trivial), hNs.warm hW, by rw [hU]; exact ((hXs.kept hS.2.1).narrow (o_AA hS hD hA)).warm hW⟩⟩ rfl hn hl.1 hst (lv_room hcat) hd ⟨Nat.zero_le _, Nat.zero_le _⟩) hS hD hA (fun v u H1 locs1 hp hu hf hw => ?_)
  obtain ⟨r, rfl, h9⟩ := hp
  exact kk r u h9 hf hu (hF.then hf hsub) ls H1 locs1 hl hw
theorem r_callSNl (C : oC l d cc own nL ret M E σ0 Post J) {d' nL' n index : Nat} {y : MethodName} {cc' : ByteArray} {ret' : Option FieldType} {M' : List (Nat × Nat)} {As : List Value} {st0 : List Value} {Q9 : Int64 → oS → Prop} (I : oMs y cc' nL' ret' n) {host : String} (hlink : Cond.methodLinkNest own index y host ∈ lw_tbl) (hM : oMet l d' y cc' nL' ret' M' E σ As (oPl Q9)) (hdd : d' + 1 ≤ d) (hsub : osub M' M = true) (hn : As.length = n) (hst : st0 = As.reverse ++ st) (hcat : (st.map fun v => v.category).sum ≤ 8) (hd : decode cc pc = .ok (.invokestatic index, 3)) (kk : ∀ r u, Q9 r u → oFr M' σ u → J u (pc + 3) lv (.long r :: st)) : J σ pc lv st0 := by
  obtain ⟨p, e, s, m, args, below, meth, c, A, hx, hb, hml, hr, hlk, hown, hts, hNs, hXs, hK, hA, rfl⟩ := C
  intro hT hF ls H locs hl hW
  obtain ⟨I1, I2, I4, I5, I6, I7, I8⟩ := I
  obtain ⟨hP, hD, hS⟩ := hW
  refine o_go (va_runSN (nL := nL) ⟨hx, hb, hml, hown, hts⟩ (hM hT H.size) ⟨va_cnB n hts (lw_goodIn I1) rfl rfl rfl (hNs _ hlink rfl) (hts _ I4) ⟨I6, I7, I8⟩ ⟨hdd, by show 8 + (nL' + 11) + 100 * d' ≤ 100 * d; omega⟩, hts _ I2, trivial⟩ ⟨o_blind, fun U hU hW => ⟨rfl, by rw [hU], by rw [hU]; exact hP, va_K.moved hW.alike hK, hD.weaken (fun _ _ _ _ => trivial), hNs.warm hW, by rw [hU]; exact ((hXs.kept hS.2.1).narrow (o_AA hS hD hA)).warm hW⟩⟩ rfl hn hl.1 hst (lv_room hcat) hd ⟨Nat.zero_le _, Nat.zero_le _⟩) hS hD hA (fun v u H1 locs1 hp hu hf hw => ?_)
  obtain ⟨r, rfl, h9⟩ := hp
  exact kk r u h9 hf hu (hF.then hf hsub) ls H1 locs1 hl hw
theorem r_callVv (C : oC l d cc own nL ret M E σ0 Post J) {d' nL' n index : Nat} {y : MethodName} {cc' : ByteArray} {ret' : Option FieldType} {M' : List (Nat × Nat)} {As : List Value} {st0 : List Value} {a q : Nat} {Cn : String} {T : u_T} {ty : Nat → FieldType} {Q9 : oS → Prop} (K : oCl q Cn T ty) (hq : okd a = q) (I : oMv y cc' nL' ret' n Cn) (hlink : Cond.methodLink own index y ∈ oTB) (hM : oMet l d' y cc' nL' ret' M' E σ (.ref (oad E a) :: As) (oPv Q9)) (hdd : d' + 1 ≤ d) (hsub : osub M' M = true) (hn : As.length = n) (hst : st0 = As.reverse ++ .ref (oad E a) :: st) (hcat : (st.map fun v => v.category).sum ≤ 8) (hd : decode cc pc = .ok (.invokevirtual index, 3)) (kk : ∀ u, Q9 u → oFr M' σ u → J u (pc + 3) lv st) : J σ pc lv st0 := by
  obtain ⟨p, e, s, m, args, below, meth, c, A, hx, hb, hml, hr, hlk, hown, hts, hNs, hXs, hK, hA, rfl⟩ := C
  intro hT hF ls H locs hl hW
  obtain ⟨I1, I2, I3, I4, I5, I6, I7, I8⟩ := I
  obtain ⟨hcl, h13, -⟩ := K
  obtain ⟨hP, hD, hS⟩ := hW
  have haN : a < oN := okd_lt hq (by omega)
  have he : (owl E σ)[a]? = some (oad E a, .inr (q, ofs E σ a)) := by rw [owl_at haN, oel_obj hq h13]
  refine o_go (va_runV (nL := nL) ⟨hx, hb, hml, hown, hts⟩ (hM hT H.size) ⟨callB_of n hts (lw_goodIn I1) rfl rfl rfl (hts _ I4) (hts _ hlink) ⟨I6, I7, I8⟩ ⟨hdd, by show 8 + (nL' + 11) + 100 * d' ≤ 100 * d; omega⟩, hts _ I2, hts _ I3⟩ ⟨o_blind, va_recv hK hP hcl he, fun U hU hW => ⟨rfl, by rw [hU], by rw [hU]; exact hP, va_K.moved hW.alike hK, hD.weaken (fun _ _ _ _ => trivial), hNs.warm hW, by rw [hU]; exact ((hXs.kept hS.2.1).narrow (o_AA hS hD hA)).warm hW⟩⟩ rfl hn hl.1 hst (lv_room hcat) hd ⟨Nat.zero_le _, Nat.zero_le _⟩) hS hD hA (fun v u H1 locs1 hp hu hf hw => ?_)
  obtain ⟨rfl, h9⟩ := hp
  exact kk u h9 hf hu (hF.then hf hsub) ls H1 locs1 hl hw
theorem r_callSv (C : oC l d cc own nL ret M E σ0 Post J) {d' nL' n index : Nat} {y : MethodName} {cc' : ByteArray} {ret' : Option FieldType} {M' : List (Nat × Nat)} {As : List Value} {st0 : List Value} {Q9 : oS → Prop} (I : oMs y cc' nL' ret' n) (hlink : Cond.methodLink own index y ∈ oTB) (hM : oMet l d' y cc' nL' ret' M' E σ As (oPv Q9)) (hdd : d' + 1 ≤ d) (hsub : osub M' M = true) (hn : As.length = n) (hst : st0 = As.reverse ++ st) (hcat : (st.map fun v => v.category).sum ≤ 8) (hd : decode cc pc = .ok (.invokestatic index, 3)) (kk : ∀ u, Q9 u → oFr M' σ u → J u (pc + 3) lv st) : J σ pc lv st0 := by
  obtain ⟨p, e, s, m, args, below, meth, c, A, hx, hb, hml, hr, hlk, hown, hts, hNs, hXs, hK, hA, rfl⟩ := C
  intro hT hF ls H locs hl hW
  obtain ⟨I1, I2, I4, I5, I6, I7, I8⟩ := I
  obtain ⟨hP, hD, hS⟩ := hW
  refine o_go (va_runS (nL := nL) ⟨hx, hb, hml, hown, hts⟩ (hM hT H.size) ⟨callB_of n hts (lw_goodIn I1) rfl rfl rfl (hts _ I4) (hts _ hlink) ⟨I6, I7, I8⟩ ⟨hdd, by show 8 + (nL' + 11) + 100 * d' ≤ 100 * d; omega⟩, hts _ I2⟩ ⟨o_blind, fun U hU hW => ⟨rfl, by rw [hU], by rw [hU]; exact hP, va_K.moved hW.alike hK, hD.weaken (fun _ _ _ _ => trivial), hNs.warm hW, by rw [hU]; exact ((hXs.kept hS.2.1).narrow (o_AA hS hD hA)).warm hW⟩⟩ rfl hn hl.1 hst (lv_room hcat) hd ⟨Nat.zero_le _, Nat.zero_le _⟩) hS hD hA (fun v u H1 locs1 hp hu hf hw => ?_)
  obtain ⟨rfl, h9⟩ := hp
  exact kk u h9 hf hu (hF.then hf hsub) ls H1 locs1 hl hw
theorem r_callVNv (C : oC l d cc own nL ret M E σ0 Post J) {d' nL' n index : Nat} {y : MethodName} {cc' : ByteArray} {ret' : Option FieldType} {M' : List (Nat × Nat)} {As : List Value} {st0 : List Value} {a q : Nat} {Cn : String} {T : u_T} {ty : Nat → FieldType} {Q9 : oS → Prop} (K : oCl q Cn T ty) (hq : okd a = q) (I : oMv y cc' nL' ret' n Cn) {host : String} (hlink : Cond.methodLinkNest own index y host ∈ lw_tbl) (hM : oMet l d' y cc' nL' ret' M' E σ (.ref (oad E a) :: As) (oPv Q9)) (hdd : d' + 1 ≤ d) (hsub : osub M' M = true) (hn : As.length = n) (hst : st0 = As.reverse ++ .ref (oad E a) :: st) (hcat : (st.map fun v => v.category).sum ≤ 8) (hd : decode cc pc = .ok (.invokevirtual index, 3)) (kk : ∀ u, Q9 u → oFr M' σ u → J u (pc + 3) lv st) : J σ pc lv st0 := by
  obtain ⟨p, e, s, m, args, below, meth, c, A, hx, hb, hml, hr, hlk, hown, hts, hNs, hXs, hK, hA, rfl⟩ := C
  intro hT hF ls H locs hl hW
  obtain ⟨I1, I2, I3, I4, I5, I6, I7, I8⟩ := I
  obtain ⟨hcl, h13, -⟩ := K
  obtain ⟨hP, hD, hS⟩ := hW
  have haN : a < oN := okd_lt hq (by omega)
  have he : (owl E σ)[a]? = some (oad E a, .inr (q, ofs E σ a)) := by rw [owl_at haN, oel_obj hq h13]
  refine o_go (va_runVN (nL := nL) ⟨hx, hb, hml, hown, hts⟩ (hM hT H.size) ⟨va_cnB n hts (lw_goodIn I1) rfl rfl rfl (hNs _ hlink rfl) (hts _ I4) ⟨I6, I7, I8⟩ ⟨hdd, by show 8 + (nL' + 11) + 100 * d' ≤ 100 * d; omega⟩, hts _ I2, hts _ I3⟩ ⟨o_blind, va_recv hK hP hcl he, fun U hU hW => ⟨rfl, by rw [hU], by rw [hU]; exact hP, va_K.moved hW.alike hK, hD.weaken (fun _ _ _ _ => trivial), hNs.warm hW, by rw [hU]; exact ((hXs.kept hS.2.1).narrow (o_AA hS hD hA)).warm hW⟩⟩ rfl hn hl.1 hst (lv_room hcat) hd ⟨Nat.zero_le _, Nat.zero_le _⟩) hS hD hA (fun v u H1 locs1 hp hu hf hw => ?_)
  obtain ⟨rfl, h9⟩ := hp
  exact kk u h9 hf hu (hF.then hf hsub) ls H1 locs1 hl hw
theorem r_callSNv (C : oC l d cc own nL ret M E σ0 Post J) {d' nL' n index : Nat} {y : MethodName} {cc' : ByteArray} {ret' : Option FieldType} {M' : List (Nat × Nat)} {As : List Value} {st0 : List Value} {Q9 : oS → Prop} (I : oMs y cc' nL' ret' n) {host : String} (hlink : Cond.methodLinkNest own index y host ∈ lw_tbl) (hM : oMet l d' y cc' nL' ret' M' E σ As (oPv Q9)) (hdd : d' + 1 ≤ d) (hsub : osub M' M = true) (hn : As.length = n) (hst : st0 = As.reverse ++ st) (hcat : (st.map fun v => v.category).sum ≤ 8) (hd : decode cc pc = .ok (.invokestatic index, 3)) (kk : ∀ u, Q9 u → oFr M' σ u → J u (pc + 3) lv st) : J σ pc lv st0 := by
  obtain ⟨p, e, s, m, args, below, meth, c, A, hx, hb, hml, hr, hlk, hown, hts, hNs, hXs, hK, hA, rfl⟩ := C
  intro hT hF ls H locs hl hW
  obtain ⟨I1, I2, I4, I5, I6, I7, I8⟩ := I
  obtain ⟨hP, hD, hS⟩ := hW
  refine o_go (va_runSN (nL := nL) ⟨hx, hb, hml, hown, hts⟩ (hM hT H.size) ⟨va_cnB n hts (lw_goodIn I1) rfl rfl rfl (hNs _ hlink rfl) (hts _ I4) ⟨I6, I7, I8⟩ ⟨hdd, by show 8 + (nL' + 11) + 100 * d' ≤ 100 * d; omega⟩, hts _ I2, trivial⟩ ⟨o_blind, fun U hU hW => ⟨rfl, by rw [hU], by rw [hU]; exact hP, va_K.moved hW.alike hK, hD.weaken (fun _ _ _ _ => trivial), hNs.warm hW, by rw [hU]; exact ((hXs.kept hS.2.1).narrow (o_AA hS hD hA)).warm hW⟩⟩ rfl hn hl.1 hst (lv_room hcat) hd ⟨Nat.zero_le _, Nat.zero_le _⟩) hS hD hA (fun v u H1 locs1 hp hu hf hw => ?_)
  obtain ⟨rfl, h9⟩ := hp
  exact kk u h9 hf hu (hF.then hf hsub) ls H1 locs1 hl hw
end ROWS3
