def oLI (l : Launch) (b : Nat) (E : oE) (J : (Nat → Nat) → Nat → oS → Nat → Nat → Nat → List (Nat × Value) → List Value → Prop) : Prop :=
  ∃ (p : Program) (e : Env) (s : State) (m : MethodId) (below : List Frame) (meth : Method) (c : Code), p.tables.exec = Jvm.exec ∧ c.code = code ∧ c.maxLocals = 4 ∧ s.vm.findClass RL = some m.cls ∧ (∀ w ∈ oTB, w.before #[Value.ref b] s = true) ∧ oNs s ∧ va_K (oD E) vwCl (otys E) s ∧
    J = fun ad n σ k sl pc lv st => oZ n σ → ∀ (ls : Array Slot) (H : Heap) (locs : List Loc), lv_has ls 4 lv → oWdn (oEa E ad) (fun q => s.heap.size ≤ q) s.heap n σ H locs → W p l e room_1 s m #[Value.ref b] below meth c H locs k sl (lw_Z below #[Value.ref b] s) (F0 m pc ls st)
section LBORN
variable {l : Launch} {b : Nat} {E : oE} {n k sl pc : Nat} {σ : oS} {J : (Nat → Nat) → Nat → oS → Nat → Nat → Nat → List (Nat × Value) → List Value → Prop} {ad : Nat → Nat} {lv : List (Nat × Value)} {st : List Value}
theorem j_iconst (C : oLI l b E J) {x : Int32} {v : Int} (hd : decode code pc = .ok (.iconst v, 1)) (hv : Int32.ofInt v = x) (kk : J ad n σ k sl (pc + 1) lv (.int x :: st)) : J ad n σ k sl pc lv st := by
  obtain ⟨p, e, s, m, below, meth, c, hx, hb, hml, hown, hts, hNs, hK, rfl⟩ := C
  have hA : ∀ q, s.heap.size ≤ q → (fun q => s.heap.size ≤ q) q := fun _ h => h
  intro hz ls H locs hl hW
  exact lv_iconst hx hb hd hv (kk hz ls H locs hl hW)
theorem j_dup (C : oLI l b E J) {a : Nat} (hd : decode code pc = .ok (.dup, 1)) (kk : J ad n σ k sl (pc + 1) lv (.ref a :: .ref a :: st)) : J ad n σ k sl pc lv (.ref a :: st) := by
  obtain ⟨p, e, s, m, below, meth, c, hx, hb, hml, hown, hts, hNs, hK, rfl⟩ := C
  have hA : ∀ q, s.heap.size ≤ q → (fun q => s.heap.size ≤ q) q := fun _ h => h
  intro hz ls H locs hl hW
  exact lv_dup hx hb hd rfl (kk hz ls H locs hl hW)
theorem j_new (C : oLI l b E J) {index q : Nat} {Cn : String} {T : u_T} {ty : Nat → FieldType} (K : oCl q Cn T ty) (hq : okd n = q) (hcl : Cond.classLink RL index Cn ∈ oTB) (hins : Cond.instantiable Cn (onf q) ∈ oTB) (hini : Cond.initialized Cn ∈ oTB) (hdef : ∀ j, j < onf q → defaultValue (ty j) = oDf (oft q j)) (hk : k + 1 ≤ 600000) (hs : sl + onf q ≤ 7302250) (hd : decode code pc = .ok (.new index, 3)) (kk : ∀ ad', (∀ c, c < n → ad' c = ad c) → J ad' (n + 1) σ (k + 1) (sl + onf q) (pc + 3) lv (.ref (ad' n) :: st)) : J ad n σ k sl pc lv st := by
  obtain ⟨p, e, s, m, below, meth, c, hx, hb, hml, hown, hts, hNs, hK, rfl⟩ := C
  have hA : ∀ q, s.heap.size ≤ q → (fun q => s.heap.size ≤ q) q := fun _ h => h
  intro hz ls H locs hl hW
  obtain ⟨hP, hD, hS⟩ := hW
  obtain ⟨hc, h13, hin, hty, hnm2⟩ := K
  refine va_new hx hb hts hin ty hty hown (hts _ hcl) (hts _ hins) (hts _ hini) hK hP hD hS hA hc (fs := ofs (oEa E ad) σ n) (fun j hj => ?_) hk hs hd (fun q1 H1 hP1 hD1 hS1 => ?_)
  · rw [hdef j hj]
    unfold vp_V
    rw [List.getD_eq_getElem?_getD, ofs_at hq hj]
    exact (oval_z hz).symm
  · have e1 : oWn (oEa E ad) n σ ++ [(q1, .inr (q, ofs (oEa E ad) σ n))] = oWn (oEa E (oAp ad n q1)) (n + 1) σ := by
      have h := oWn_push (E := oEa E ad) (ad := oAp ad n q1) hz oAp_lt
      rw [oAp_self, oel_obj hq h13] at h
      exact h.symm
    rw [e1] at hP1 hD1
    have h2 := kk (oAp ad n q1) oAp_lt hz.more ls H1 locs hl ⟨hP1, hD1, hS1⟩
    rw [oAp_self] at h2
    exact h2
theorem j_call (C : oLI l b E J) {d' nL' mc' ms' n2 na index b : Nat} {y : MethodName} {cc' : ByteArray} {vs : oE → List Value} {τ' : oS → oS} {As st0 : List Value} (I : oMk0 y cc' nL' na) (hni : y.name = "<init>") (hlink : Cond.methodLink RL index y ∈ oTB) (hM : oMi l d' y cc' nL' mc' ms' n n2 vs τ') (hvs : vs (oEa E ad) = .ref b :: As) (hn2 : n ≤ n2) (hdd : d' + 1 ≤ 800) (hna : As.length = na) (hst : st0 = As.reverse ++ .ref b :: st) (hcat : (st.map fun v => v.category).sum ≤ 8) (hk : k + mc' ≤ 600000) (hs : sl + ms' ≤ 7302250) (hd : decode code pc = .ok (.invokespecial index, 3)) (kk : ∀ ad', (∀ c, c < n → ad' c = ad c) → J ad' n2 (τ' σ) (k + mc') (sl + ms') (pc + 3) lv st) : J ad n σ k sl pc lv st0 := by
  obtain ⟨p, e, s, m, below, meth, c, hx, hb, hml, hown, hts, hNs, hK, rfl⟩ := C
  have hA : ∀ q, s.heap.size ≤ q → (fun q => s.heap.size ≤ q) q := fun _ h => h
  intro hz ls H locs hl hW
  obtain ⟨I1, I2, I4, I5, I6, I7, I8⟩ := I
  obtain ⟨hP, hD, hS⟩ := hW
  have hM1 := hM (oEa E ad) σ hz H.size
  rw [hvs] at hM1
  exact o_goI (va_runI (nL := 4) ⟨hx, hb, hml, hown, hts⟩ hM1 (cwI na hts (lw_goodIn I1) rfl rfl rfl (hts _ I4) (hts _ hlink) (hts _ I2) hni ⟨I6, I7, I8⟩ ⟨by show d' + 1 ≤ 2048; omega, by show 8 + (nL' + 11) + 100 * d' ≤ 84000; omega⟩) ⟨o_blindI, fun U hU hW => ⟨rfl, by rw [hU], by rw [hU]; exact hP, va_K.moved hW.alike hK, hD.weaken (fun _ _ _ _ => trivial), hNs.warm hW⟩⟩ rfl hna hl.1 hst (lv_room hcat) hd ⟨hk, hs⟩) hS hD hA (fun ad' H1 locs1 hz2 had hw => kk ad' had hz2 ls H1 locs1 hl hw)
theorem j_istore_n (C : oLI l b E J) {kf : Fin 4} {i : Nat} {x : Int32} {lv' : List (Nat × Value)} (ks : List Nat) (hd : decode code pc = .ok (.istore_n kf, 1)) (hi : (kf : Nat) = i) (hn : i < 4) (hl' : lv_pick ((i, .int x) :: lv.filter (fun q => !(q.1 == i) && !(q.1 + 1 == i && q.2.category == 2))) ks = lv') (kk : J ad n σ k sl (pc + 1) lv' st) : J ad n σ k sl pc lv (.int x :: st) := by
  obtain ⟨p, e, s, m, below, meth, c, hx, hb, hml, hown, hts, hNs, hK, rfl⟩ := C
  have hA : ∀ q, s.heap.size ≤ q → (fun q => s.heap.size ≤ q) q := fun _ h => h
  intro hz ls H locs hl hW
  exact lv_istore_n hx hb hd hi hl hn rfl (fun ls' hl2 => kk hz ls' H locs (lv_sub hl2 ks hl') hW)
theorem j_astore_n (C : oLI l b E J) {kf : Fin 4} {i : Nat} {x : Nat} {lv' : List (Nat × Value)} (ks : List Nat) (hd : decode code pc = .ok (.astore_n kf, 1)) (hi : (kf : Nat) = i) (hn : i < 4) (hl' : lv_pick ((i, .ref x) :: lv.filter (fun q => !(q.1 == i) && !(q.1 + 1 == i && q.2.category == 2))) ks = lv') (kk : J ad n σ k sl (pc + 1) lv' st) : J ad n σ k sl pc lv (.ref x :: st) := by
  obtain ⟨p, e, s, m, below, meth, c, hx, hb, hml, hown, hts, hNs, hK, rfl⟩ := C
  intro hz ls H locs hl hW
  exact lv_astore_n hx hb hd hi hl hn rfl (fun ls' hl2 => kk hz ls' H locs (lv_sub hl2 ks hl') hW)
end LBORN
