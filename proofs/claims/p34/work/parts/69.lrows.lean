def oLC (l : Launch) (b L : Nat) (xs : Nat → Int32) (E : oE) (k0 sl : Nat) (J : oS → Nat → List (Nat × Value) → List Value → Prop) : Prop :=
  ∃ (p : Program) (e : Env) (s : State) (m : MethodId) (below : List Frame) (meth : Method) (c : Code), p.tables.exec = Jvm.exec ∧ c.code = code ∧ c.maxLocals = 4 ∧ meth.sig.returnType = ret ∧ meth.locks = false ∧ s.vm.findClass RL = some m.cls ∧ (∀ w ∈ oTB, w.before #[Value.ref b] s = true) ∧ oNs s ∧ oX E (fun q => s.heap.size ≤ q) s s.heap ∧ va_K (oD E) vwCl (otys E) s ∧ va_X b L xs s s.heap ∧ b < s.heap.size ∧ (k0 ≤ 600000 ∧ sl ≤ 7302250) ∧
    J = fun σ pc lv st => oTy σ → ∀ (ls : Array Slot) (H : Heap) (locs : List Loc), lv_has ls 4 lv → oWd E (fun q => s.heap.size ≤ q) s.heap σ H locs → W p l e room_1 s m #[Value.ref b] below meth c H locs k0 sl (lw_Z below #[Value.ref b] s) (F0 m pc ls st)
theorem o_goL {p : Program} {l : Launch} {e : Env} {R : Room} {s : State} {m : MethodId} {args : Array Value} {below : List Frame} {meth : Method} {c : Code} {H : Heap} {locs : List Loc} {Q : State → Prop} {pc k0 sl : Nat} {ls : Array Slot} {rest st0 : List Value} {a : Array Value} {A : Nat → Prop} {E : oE} {σ : oS} {M' : List (Nat × Nat)} {Post' : Option Value → oS → Prop}
    (hr : va_Run p l e R s m args below meth c H locs k0 sl 0 0 (F0 m pc ls st0) rest (oQc E (va_A (owl E σ) H.size) M' σ Post' a) (va_A (owl E σ) H.size)) (hS : va_S A s.heap H locs) (hD : va_D A (owl E σ)) (hA : ∀ q, s.heap.size ≤ q → A q)
    (kk : ∀ v u H1 locs1, Post' v u → oTy u → oFr M' σ u → oWd E A s.heap u H1 locs1 → W p l e R s m args below meth c H1 locs1 k0 sl Q (F0 m (pc + 3) ls (v.toList ++ rest))) : W p l e R s m args below meth c H locs k0 sl Q (F0 m pc ls st0) := by
  have hAA : ∀ q, va_A (owl E σ) H.size q → A q := fun q h => by
    rcases h with ⟨k, x, h⟩ | h
    · exact hD.2 k (q, x) h
    · exact hA q (Nat.le_trans hS.1 h)
  intro T hT X
  obtain ⟨v, st₀, t, T', L, h0, X', hL, e1, e2, ⟨⟨v', u, hv, ⟨hp, hTy, hFr⟩, hP1, hK1, hD1⟩, hz, hk⟩, st⟩ := hr T hT X
  cases hv
  rw [h0] at hz hk
  obtain ⟨t2, a1, b1⟩ := kk v u T'.heap (locs ++ L) hp hTy hFr ⟨by rw [e1]; exact hP1, hD1.weaken (fun k q _ h => hAA q.1 h), Nat.le_trans hS.1 (by rw [e1]; exact hz), fun q h1 h2 => by rw [e1, hk q (Nat.lt_of_lt_of_le h1 hS.1) (fun z => h2 (hAA q z))]; exact hS.2.1 q h1 h2, fun q hq => by
      rcases List.mem_append.mp hq with h | h
      · exact hS.2.2 q h
      · exact hAA _ (hL q h)⟩ T' rfl X'
  exact ⟨t2, st t2 a1, b1⟩
section LROWS
variable {l : Launch} {b L k0 sl : Nat} {xs : Nat → Int32} {E : oE} {σ : oS} {J : oS → Nat → List (Nat × Value) → List Value → Prop} {pc : Nat} {lv : List (Nat × Value)} {st : List Value}
theorem L_iload_n (C : oLC l b L xs E k0 sl J) {k : Fin 4} {i j : Nat} {x : Int32} (hd : decode code pc = .ok (.iload_n k, 1)) (hi : (k : Nat) = i) (hk : lv[j]? = some (i, .int x)) (kk : J σ (pc + 1) lv (.int x :: st)) : J σ pc lv st := by
  obtain ⟨p, e, s, m, below, meth, c, hx, hb, hml, hr, hlk, hown, hts, hNs, hXs, hK, hX, hbl, hk0, rfl⟩ := C
  intro hT ls H locs hl hW
  exact lv_iload_n hx hb hd hi (lv_at hl j hk) (kk hT ls H locs hl hW)
theorem L_aload_n (C : oLC l b L xs E k0 sl J) {k : Fin 4} {i j : Nat} {x : Nat} (hd : decode code pc = .ok (.aload_n k, 1)) (hi : (k : Nat) = i) (hk : lv[j]? = some (i, .ref x)) (kk : J σ (pc + 1) lv (.ref x :: st)) : J σ pc lv st := by
  obtain ⟨p, e, s, m, below, meth, c, hx, hb, hml, hr, hlk, hown, hts, hNs, hXs, hK, hX, hbl, hk0, rfl⟩ := C
  intro hT ls H locs hl hW
  exact lv_aload_n hx hb hd hi (lv_at hl j hk) (kk hT ls H locs hl hW)
theorem L_iconst (C : oLC l b L xs E k0 sl J) {n : Int} {v : Int32} (hd : decode code pc = .ok (.iconst n, 1)) (hv : Int32.ofInt n = v) (kk : J σ (pc + 1) lv (.int v :: st)) : J σ pc lv st := by
  obtain ⟨p, e, s, m, below, meth, c, hx, hb, hml, hr, hlk, hown, hts, hNs, hXs, hK, hX, hbl, hk0, rfl⟩ := C
  intro hT ls H locs hl hW
  exact lv_iconst hx hb hd hv (kk hT ls H locs hl hW)
theorem L_bipush (C : oLC l b L xs E k0 sl J) {n : Int} {v : Int32} (hd : decode code pc = .ok (.bipush n, 2)) (hv : (Int8.ofInt n).toInt32 = v) (kk : J σ (pc + 2) lv (.int v :: st)) : J σ pc lv st := by
  obtain ⟨p, e, s, m, below, meth, c, hx, hb, hml, hr, hlk, hown, hts, hNs, hXs, hK, hX, hbl, hk0, rfl⟩ := C
  intro hT ls H locs hl hW
  exact lv_bipush hx hb hd hv (kk hT ls H locs hl hW)
theorem L_iadd (C : oLC l b L xs E k0 sl J) {x y : Int32} (v : Int32) (hd : decode code pc = .ok (.iadd, 1)) (hv : v = x + y) (kk : J σ (pc + 1) lv (.int v :: st)) : J σ pc lv (.int y :: .int x :: st) := by
  obtain ⟨p, e, s, m, below, meth, c, hx, hb, hml, hr, hlk, hown, hts, hNs, hXs, hK, hX, hbl, hk0, rfl⟩ := C
  intro hT ls H locs hl hW
  subst hv
  exact lv_iadd hx hb hd (kk hT ls H locs hl hW)
theorem L_isub (C : oLC l b L xs E k0 sl J) {x y : Int32} (v : Int32) (hd : decode code pc = .ok (.isub, 1)) (hv : v = x - y) (kk : J σ (pc + 1) lv (.int v :: st)) : J σ pc lv (.int y :: .int x :: st) := by
  obtain ⟨p, e, s, m, below, meth, c, hx, hb, hml, hr, hlk, hown, hts, hNs, hXs, hK, hX, hbl, hk0, rfl⟩ := C
  intro hT ls H locs hl hW
  subst hv
  exact lv_isub hx hb hd (kk hT ls H locs hl hW)
theorem L_iand (C : oLC l b L xs E k0 sl J) {x y : Int32} (v : Int32) (hd : decode code pc = .ok (.iand, 1)) (hv : v = x &&& y) (kk : J σ (pc + 1) lv (.int v :: st)) : J σ pc lv (.int y :: .int x :: st) := by
  obtain ⟨p, e, s, m, below, meth, c, hx, hb, hml, hr, hlk, hown, hts, hNs, hXs, hK, hX, hbl, hk0, rfl⟩ := C
  intro hT ls H locs hl hW
  subst hv
  exact lv_iand hx hb hd (kk hT ls H locs hl hW)
theorem L_iinc (C : oLC l b L xs E k0 sl J) {i j : Nat} {n : Int} {x : Int32} {lv' : List (Nat × Value)} (v : Int32) (ks : List Nat) (hd : decode code pc = .ok (.iinc i n, 3)) (hk : lv[j]? = some (i, .int x)) (hv : x + Int32.ofInt n = v) (hn : i < 4) (hl' : lv_pick ((i, .int v) :: lv.filter (fun q => !(q.1 == i) && !(q.1 + 1 == i && q.2.category == 2))) ks = lv') (kk : J σ (pc + 3) lv' st) : J σ pc lv st := by
  obtain ⟨p, e, s, m, below, meth, c, hx, hb, hml, hr, hlk, hown, hts, hNs, hXs, hK, hX, hbl, hk0, rfl⟩ := C
  intro hT ls H locs hl hW
  exact lv_iinc hx hb hd hl hk hv hn rfl (fun ls' hl2 => kk hT ls' H locs (lv_sub hl2 ks hl') hW)
theorem L_goto (C : oLC l b L xs E k0 sl J) {off : Int} {tgt : Nat} (hd : decode code pc = .ok (.goto off, 3)) (ht : (pc : Int) + off = (tgt : Int)) (kk : J σ tgt lv st) : J σ pc lv st := by
  obtain ⟨p, e, s, m, below, meth, c, hx, hb, hml, hr, hlk, hown, hts, hNs, hXs, hK, hX, hbl, hk0, rfl⟩ := C
  intro hT ls H locs hl hW
  exact lv_goto hx hb hd ht (kk hT ls H locs hl hW)
theorem L_icmp_eq (C : oLC l b L xs E k0 sl J) {x y : Int32} {off : Int} (tgt : Nat) (hd : decode code pc = .ok (.if_icmp .eq off, 3)) (ht : (pc : Int) + off = (tgt : Int)) (kt : x.toInt = y.toInt → J σ tgt lv st) (kf : ¬ x.toInt = y.toInt → J σ (pc + 3) lv st) : J σ pc lv (.int y :: .int x :: st) := by
  obtain ⟨p, e, s, m, below, meth, c, hx, hb, hml, hr, hlk, hown, hts, hNs, hXs, hK, hX, hbl, hk0, rfl⟩ := C
  intro hT ls H locs hl hW
  exact lv_icmp_eq hx hb hd ht (fun h => kt (congrArg Int32.toInt h) hT ls H locs hl hW) (fun h => kf (fun z => h (Int32.toInt_inj.mp z)) hT ls H locs hl hW)
theorem L_icmp_gt (C : oLC l b L xs E k0 sl J) {x y : Int32} {off : Int} (tgt : Nat) (hd : decode code pc = .ok (.if_icmp .gt off, 3)) (ht : (pc : Int) + off = (tgt : Int)) (kt : y.toInt < x.toInt → J σ tgt lv st) (kf : x.toInt ≤ y.toInt → J σ (pc + 3) lv st) : J σ pc lv (.int y :: .int x :: st) := by
  obtain ⟨p, e, s, m, below, meth, c, hx, hb, hml, hr, hlk, hown, hts, hNs, hXs, hK, hX, hbl, hk0, rfl⟩ := C
  intro hT ls H locs hl hW
  exact lv_icmp_gt hx hb hd ht (fun h => kt (Int32.lt_iff_toInt_lt.mp h) hT ls H locs hl hW) (fun h => kf (Int.not_lt.mp (fun z => h (Int32.lt_iff_toInt_lt.mpr z))) hT ls H locs hl hW)
theorem L_if_eq (C : oLC l b L xs E k0 sl J) {x : Int32} {off : Int} (tgt : Nat) (hd : decode code pc = .ok (.ifCond .eq off, 3)) (ht : (pc : Int) + off = (tgt : Int)) (kt : x.toInt = 0 → J σ tgt lv st) (kf : ¬ x.toInt = 0 → J σ (pc + 3) lv st) : J σ pc lv (.int x :: st) := by
  obtain ⟨p, e, s, m, below, meth, c, hx, hb, hml, hr, hlk, hown, hts, hNs, hXs, hK, hX, hbl, hk0, rfl⟩ := C
  intro hT ls H locs hl hW
  exact lv_if_eq hx hb hd ht (fun h => kt (congrArg Int32.toInt h) hT ls H locs hl hW) (fun h => kf (fun z => h (Int32.toInt_inj.mp z)) hT ls H locs hl hW)
theorem L_tableIn (C : oLC l b L xs E k0 sl J) {dflt lo hi : Int} {offs : Array Int} {len : Nat} {x : Int32} {off : Int} (tgt : Nat) (hd : decode code pc = .ok (.tableswitch dflt lo hi offs, len)) (h1 : lo ≤ x.toInt) (h2 : x.toInt ≤ hi) (ho : offs[(x.toInt - lo).toNat]? = some off) (ht : (pc : Int) + off = (tgt : Int)) (kk : J σ tgt lv st) : J σ pc lv (.int x :: st) := by
  obtain ⟨p, e, s, m, below, meth, c, hx, hb, hml, hr, hlk, hown, hts, hNs, hXs, hK, hX, hbl, hk0, rfl⟩ := C
  intro hT ls H locs hl hW
  exact lv_tableIn hx hb hd (Int.not_lt.mpr h1) (Int.not_lt.mpr h2) ho ht (kk hT ls H locs hl hW)
theorem L_tableOut (C : oLC l b L xs E k0 sl J) {dflt lo hi : Int} {offs : Array Int} {len : Nat} {x : Int32} (tgt : Nat) (hd : decode code pc = .ok (.tableswitch dflt lo hi offs, len)) (h : x.toInt < lo ∨ hi < x.toInt) (ht : (pc : Int) + dflt = (tgt : Int)) (kk : J σ tgt lv st) : J σ pc lv (.int x :: st) := by
  obtain ⟨p, e, s, m, below, meth, c, hx, hb, hml, hr, hlk, hown, hts, hNs, hXs, hK, hX, hbl, hk0, rfl⟩ := C
  intro hT ls H locs hl hW
  exact lv_tableOut hx hb hd h ht (kk hT ls H locs hl hW)
theorem L_pop (C : oLC l b L xs E k0 sl J) {v : Value} (hd : decode code pc = .ok (.pop, 1)) (hc : v.category = 1) (kk : J σ (pc + 1) lv st) : J σ pc lv (v :: st) := by
  obtain ⟨p, e, s, m, below, meth, c, hx, hb, hml, hr, hlk, hown, hts, hNs, hXs, hK, hX, hbl, hk0, rfl⟩ := C
  intro hT ls H locs hl hW
  exact lv_pop hx hb hd hc (kk hT ls H locs hl hW)
theorem L_ty (C : oLC l b L xs E k0 sl J) (kk : oTy σ → J σ pc lv st) : J σ pc lv st := by
  obtain ⟨p, e, s, m, below, meth, c, hx, hb, hml, hr, hlk, hown, hts, hNs, hXs, hK, hX, hbl, hk0, rfl⟩ := C
  intro hT ls H locs hl hW
  exact kk hT hT ls H locs hl hW
theorem L_pc (_ : oLC l b L xs E k0 sl J) (pc' : Nat) (h : pc = pc') (kk : J σ pc' lv st) : J σ pc lv st := h ▸ kk
theorem L_sld (C : oLC l b L xs E k0 sl J) {i : Int32} (hix : 0 ≤ i.toInt ∧ i.toInt < (L : Int)) (hd : decode code pc = .ok (.iaload, 1)) (kk : J σ (pc + 1) lv (.int (xs i.toNatClampNeg) :: st)) : J σ pc lv (.int i :: .ref b :: st) := by
  obtain ⟨p, e, s, m, below, meth, c, hx, hb, hml, hr, hlk, hown, hts, hNs, hXs, hK, hX, hbl, hk0, rfl⟩ := C
  intro hT ls H locs hl hW
  exact va_sld hx hb hX hbl (Nat.not_le.mpr hbl) hW.2.2 (oix hix.1 hix.2) hd (kk hT ls H locs hl hW)
theorem L_slen (C : oLC l b L xs E k0 sl J) (hd : decode code pc = .ok (.arraylength, 1)) (kk : J σ (pc + 1) lv (.int (Int32.ofNat L) :: st)) : J σ pc lv (.ref b :: st) := by
  obtain ⟨p, e, s, m, below, meth, c, hx, hb, hml, hr, hlk, hown, hts, hNs, hXs, hK, hX, hbl, hk0, rfl⟩ := C
  intro hT ls H locs hl hW
  exact va_slen hx hb hX hbl (Nat.not_le.mpr hbl) hW.2.2 hd (kk hT ls H locs hl hW)
theorem L_ret1 (C : oLC l b L xs E k0 sl J) {v : Int32} (hv : v = 1) (hd : decode code pc = .ok (.ireturn, 1)) : J σ pc lv [.int v] := by
  obtain ⟨p, e, s, m, below, meth, c, hx, hb, hml, hr, hlk, hown, hts, hNs, hXs, hK, hX, hbl, hk0, rfl⟩ := C
  intro hT ls H locs hl hW
  subst hv
  exact va_forget hW.2.2.2.2 (W.widen hk0.1 hk0.2 (lw_ret hx hb hr hlk hd))
theorem L_callVi (C : oLC l b L xs E k0 sl J) {d' nL' n index : Nat} {y : MethodName} {cc' : ByteArray} {ret' : Option FieldType} {M' : List (Nat × Nat)} {As : List Value} {st0 : List Value} {a q : Nat} {Cn : String} {T : u_T} {ty : Nat → FieldType} {Q9 : Int32 → oS → Prop} (K : oCl q Cn T ty) (hq : okd a = q) (I : oMv y cc' nL' ret' n Cn) (hlink : Cond.methodLink RL index y ∈ oTB) (hM : oMet l d' y cc' nL' ret' M' E σ (.ref (oad E a) :: As) (oPi Q9)) (hdd : d' + 1 ≤ 800) (_ : (0 : Nat) = 0) (hn : As.length = n) (hst : st0 = As.reverse ++ .ref (oad E a) :: st) (hcat : (st.map fun v => v.category).sum ≤ 8) (hd : decode code pc = .ok (.invokevirtual index, 3)) (kk : ∀ r u, Q9 r u → oFr M' σ u → J u (pc + 3) lv (.int r :: st)) : J σ pc lv st0 := by
  obtain ⟨p, e, s, m, below, meth, c, hx, hb, hml, hr, hlk, hown, hts, hNs, hXs, hK, hX, hbl, hk0, rfl⟩ := C
  intro hT ls H locs hl hW
  obtain ⟨I1, I2, I3, I4, I5, I6, I7, I8⟩ := I
  obtain ⟨hcl, h13, -⟩ := K
  obtain ⟨hP, hD, hS⟩ := hW
  have haN : a < oN := okd_lt hq (by omega)
  have he : (owl E σ)[a]? = some (oad E a, .inr (q, ofs E σ a)) := by rw [owl_at haN, oel_obj hq h13]
  have hA : ∀ q, s.heap.size ≤ q → (fun q => s.heap.size ≤ q) q := fun _ h => h
  refine o_goL (va_runV (nL := 4) ⟨hx, hb, hml, hown, hts⟩ (hM hT H.size) ⟨callB_of n hts (lw_goodIn I1) rfl rfl rfl (hts _ I4) (hts _ hlink) ⟨I6, I7, I8⟩ ⟨by show d' + 1 ≤ 2048; omega, by show 8 + (nL' + 11) + 100 * d' ≤ 84000; omega⟩, hts _ I2, hts _ I3⟩ ⟨o_blind, va_recv hK hP hcl he, fun U hU hW => ⟨rfl, by rw [hU], by rw [hU]; exact hP, va_K.moved hW.alike hK, hD.weaken (fun _ _ _ _ => trivial), hNs.warm hW, by rw [hU]; exact ((hXs.kept hS.2.1).narrow (o_AA hS hD hA)).warm hW⟩⟩ rfl hn hl.1 hst (lv_room hcat) hd ⟨hk0.1, hk0.2⟩) hS hD hA (fun v u H1 locs1 hp hu hf hw => ?_)
  obtain ⟨r, rfl, h9⟩ := hp
  exact kk r u h9 hf hu ls H1 locs1 hl hw
end LROWS
