theorem oMi.ofF {l : Launch} {d : Nat} {y : MethodName} {cc : ByteArray} {nL mc ms n n' : Nat} {vs : oE → List Value} {lv : oE → List (Nat × Value)} {τ : oS → oS} (hy : plainFor y = true) (hlen : ∀ E, (lg_sl (vs E)).length ≤ nL) (hlv : ∀ E, lv_args 0 (vs E) = lv E)
    (body : ∀ (E : oE) (σ : oS) (nm : String) J, oCi l d mc ms cc y.cls nm nL E n n' (τ σ) J → J (oad E) n σ 0 0 0 (lv E) []) : oMi l d y cc nL mc ms n n' vs τ := by
  intro E σ hz sz
  refine o_ofWF (cc := cc) (maxL := nL) (ret := none) hy rfl ?_
  intro p e s m args below meth c s₁ B hml hv
  obtain ⟨rfl, hsz, hP, hK, hD0, hNs⟩ := hv
  have hts := atoms_spec (ws := oWs y cc nL none) B.pre
  have hown : s.vm.findClass y.cls = some m.cls := findClass_of_methodNamed B.named
  subst hsz
  have hl := lv_entry (vs E) (n := nL) (hlen E)
  rw [hlv E] at hl
  rw [lg_entry_eq]
  exact body E σ meth.name _ ⟨p, e, s, m, (vs E).toArray, below, meth, c, va_A (oWn E n σ) s.heap.size, B.exec, B.bytes, hml, B.returns, B.notSynchronized, rfl, hown, fun w hw => hts w (List.mem_cons_of_mem _ hw), hNs, hK, fun q h => Or.inr h, rfl⟩ hz (Nat.le_refl _) (fun _ _ => rfl) _ _ _ hl ⟨hP, hD0.self, va_S.rf⟩
def pF (σ : oS) (c N : Nat) (v : Int32) : oS := (fun a b => if a = c then (if b < N then v else σ.1 a b) else σ.1 a b, σ.2)
theorem pF_0 {σ : oS} {c : Nat} {v : Int32} : pF σ c 0 v = σ := Prod.ext (by funext a b; simp [pF]) rfl
theorem pF_succ {σ : oS} {c i : Nat} {v : Int32} : pI (pF σ c i v) c i v = pF σ c (i + 1) v := Prod.ext (by
  funext a b
  unfold pI pF
  by_cases ha : a = c
  · by_cases hb : b = i
    · simp [ha, hb]
    · by_cases h2 : b < i
      · simp [ha, hb, h2, show b < i + 1 by omega]
      · simp [ha, hb, h2, show ¬ b < i + 1 by omega]
  · simp [ha]) rfl
section BFILL
variable {l : Launch} {d mc ms : Nat} {cc : ByteArray} {own nm : String} {nL : Nat} {E : oE} {n0 n' n k sl pc : Nat} {τ σ : oS} {J : (Nat → Nat) → Nat → oS → Nat → Nat → Nat → List (Nat × Value) → List Value → Prop} {ad : Nat → Nat} {lv : List (Nat × Value)} {st : List Value}
theorem i_iload_n (C : oCi l d mc ms cc own nm nL E n0 n' τ J) {kf : Fin 4} {i j : Nat} {x : Int32} (hd : decode cc pc = .ok (.iload_n kf, 1)) (hi : (kf : Nat) = i) (hk : lv[j]? = some (i, .int x)) (kk : J ad n σ k sl (pc + 1) lv (.int x :: st)) : J ad n σ k sl pc lv st := by
  obtain ⟨p, e, s, m, args, below, meth, c, A, hx, hb, hml, hr, hlk, hnm, hown, hts, hNs, hK, hA, rfl⟩ := C
  intro hz h0 ha ls H locs hl hW
  exact lv_iload_n hx hb hd hi (lv_at hl j hk) (kk hz h0 ha ls H locs hl hW)
theorem i_istore_n (C : oCi l d mc ms cc own nm nL E n0 n' τ J) {kf : Fin 4} {i : Nat} {x : Int32} {lv' : List (Nat × Value)} (ks : List Nat) (hd : decode cc pc = .ok (.istore_n kf, 1)) (hi : (kf : Nat) = i) (hn : i < nL) (hl' : lv_pick ((i, .int x) :: lv.filter (fun q => !(q.1 == i) && !(q.1 + 1 == i && q.2.category == 2))) ks = lv') (kk : J ad n σ k sl (pc + 1) lv' st) : J ad n σ k sl pc lv (.int x :: st) := by
  obtain ⟨p, e, s, m, args, below, meth, c, A, hx, hb, hml, hr, hlk, hnm, hown, hts, hNs, hK, hA, rfl⟩ := C
  intro hz h0 ha ls H locs hl hW
  exact lv_istore_n hx hb hd hi hl hn rfl (fun ls' hl2 => kk hz h0 ha ls' H locs (lv_sub hl2 ks hl') hW)
theorem i_iinc (C : oCi l d mc ms cc own nm nL E n0 n' τ J) {i j : Nat} {n1 : Int} {x : Int32} {lv' : List (Nat × Value)} (v : Int32) (ks : List Nat) (hd : decode cc pc = .ok (.iinc i n1, 3)) (hk : lv[j]? = some (i, .int x)) (hv : x + Int32.ofInt n1 = v) (hn : i < nL) (hl' : lv_pick ((i, .int v) :: lv.filter (fun q => !(q.1 == i) && !(q.1 + 1 == i && q.2.category == 2))) ks = lv') (kk : J ad n σ k sl (pc + 3) lv' st) : J ad n σ k sl pc lv st := by
  obtain ⟨p, e, s, m, args, below, meth, c, A, hx, hb, hml, hr, hlk, hnm, hown, hts, hNs, hK, hA, rfl⟩ := C
  intro hz h0 ha ls H locs hl hW
  exact lv_iinc hx hb hd hl hk hv hn rfl (fun ls' hl2 => kk hz h0 ha ls' H locs (lv_sub hl2 ks hl') hW)
theorem i_goto (C : oCi l d mc ms cc own nm nL E n0 n' τ J) {off : Int} {tgt : Nat} (hd : decode cc pc = .ok (.goto off, 3)) (ht : (pc : Int) + off = (tgt : Int)) (kk : J ad n σ k sl tgt lv st) : J ad n σ k sl pc lv st := by
  obtain ⟨p, e, s, m, args, below, meth, c, A, hx, hb, hml, hr, hlk, hnm, hown, hts, hNs, hK, hA, rfl⟩ := C
  intro hz h0 ha ls H locs hl hW
  exact lv_goto hx hb hd ht (kk hz h0 ha ls H locs hl hW)
theorem i_icmp_ge (C : oCi l d mc ms cc own nm nL E n0 n' τ J) {x y : Int32} {off : Int} (tgt : Nat) (hd : decode cc pc = .ok (.if_icmp .ge off, 3)) (ht : (pc : Int) + off = (tgt : Int)) (kt : y.toInt ≤ x.toInt → J ad n σ k sl tgt lv st) (kf : x.toInt < y.toInt → J ad n σ k sl (pc + 3) lv st) : J ad n σ k sl pc lv (.int y :: .int x :: st) := by
  obtain ⟨p, e, s, m, args, below, meth, c, A, hx, hb, hml, hr, hlk, hnm, hown, hts, hNs, hK, hA, rfl⟩ := C
  intro hz h0 ha ls H locs hl hW
  exact lv_icmp_ge hx hb hd ht (fun h => kt (Int32.le_iff_toInt_le.mp h) hz h0 ha ls H locs hl hW) (fun h => kf (Int.not_le.mp (fun z => h (Int32.le_iff_toInt_le.mpr z))) hz h0 ha ls H locs hl hW)
theorem i_alen (C : oCi l d mc ms cc own nm nL E n0 n' τ J) {a q N : Nat} (v : Int32) (hq : okd a = q) (han : a < n) (h13 : 13 ≤ q) (ht : oat q = 0) (hN : oln q = N) (hv : Int32.ofNat N = v) (hd : decode cc pc = .ok (.arraylength, 1)) (kk : J ad n σ k sl (pc + 1) lv (.int v :: st)) : J ad n σ k sl pc lv (.ref (ad a) :: st) := by
  obtain ⟨p, e, s, m, args, below, meth, c, A, hx, hb, hml, hr, hlk, hnm, hown, hts, hNs, hK, hA, rfl⟩ := C
  intro hz h0 ha ls H locs hl hW
  have he : (oWn (oEa E ad) n σ)[a]? = some (ad a, .inl (E.1 0, N, .inl (σ.1 a))) := by rw [oWn_at han, oel_int hq h13 ht hN (by decide)]
  exact va_alen hx hb hK hW.1 a 0 he rfl hv hd (kk hz h0 ha ls H locs hl hW)
theorem i_iast (C : oCi l d mc ms cc own nm nL E n0 n' τ J) {a q N : Nat} {i x : Int32} (hq : okd a = q) (han : a < n) (h13 : 13 ≤ q) (ht : oat q = 0) (hN : oln q = N) (hix : 0 ≤ i.toInt ∧ i.toInt < (N : Int)) (hd : decode cc pc = .ok (.iastore, 1)) (kk : J ad n (pI σ a i.toNatClampNeg x) k sl (pc + 1) lv st) : J ad n σ k sl pc lv (.int x :: .int i :: .ref (ad a) :: st) := by
  obtain ⟨p, e, s, m, args, below, meth, c, A, hx, hb, hml, hr, hlk, hnm, hown, hts, hNs, hK, hA, rfl⟩ := C
  intro hz h0 ha ls H locs hl hW
  obtain ⟨hP, hD, hS⟩ := hW
  have he : (oWn (oEa E ad) n σ)[a]? = some (ad a, .inl (E.1 0, N, .inl (σ.1 a))) := by rw [oWn_at han, oel_int hq h13 ht hN (by decide)]
  refine va_iast hx hb hK hP hD hS a 0 he rfl (oix hix.1 hix.2) hd (fun H1 locs1 hP1 hD1 hS1 => ?_)
  have e1 : (oWn (oEa E ad) n σ).set a (ad a, .inl (E.1 0, N, .inl (upd (σ.1 a) i.toNatClampNeg x))) = oWn (oEa E ad) n (pI σ a i.toNatClampNeg x) := oWn_set (E := oEa E ad) han (by rw [oel_int hq h13 ht hN (by decide)]; congr 4; funext b; simp [pI, upd]) (fun b hb2 => oel_pI hb2)
  rw [e1] at hP1 hD1
  exact kk (oZ_pI hz han) h0 ha ls H1 locs1 hl ⟨hP1, hD1, hS1⟩
theorem i_callS (C : oCi l d mc ms cc own nm nL E n0 n' τ J) {d' nL' mc' ms' n2 na index : Nat} {y : MethodName} {cc' : ByteArray} {vs : oE → List Value} {τ' : oS → oS} {As st0 : List Value} (I : oMs y cc' nL' none na) (hlink : Cond.methodLink own index y ∈ oTB) (hM : oMi l d' y cc' nL' mc' ms' n n2 vs τ') (hvs : vs (oEa E ad) = As) (hn2 : n ≤ n2) (hdd : d' + 1 ≤ d) (hna : As.length = na) (hst : st0 = As.reverse ++ st) (hcat : (st.map fun v => v.category).sum ≤ 8) (hk : k + mc' ≤ mc) (hs : sl + ms' ≤ ms) (hd : decode cc pc = .ok (.invokestatic index, 3)) (kk : ∀ ad', (∀ c, c < n → ad' c = ad c) → J ad' n2 (τ' σ) (k + mc') (sl + ms') (pc + 3) lv st) : J ad n σ k sl pc lv st0 := by
  obtain ⟨p, e, s, m, args, below, meth, c, A, hx, hb, hml, hr, hlk, hnm, hown, hts, hNs, hK, hA, rfl⟩ := C
  intro hz h0 ha ls H locs hl hW
  obtain ⟨I1, I2, I4, I5, I6, I7, I8⟩ := I
  obtain ⟨hP, hD, hS⟩ := hW
  have hM1 := hM (oEa E ad) σ hz H.size
  rw [hvs] at hM1
  exact o_goI (va_runS (nL := nL) ⟨hx, hb, hml, hown, hts⟩ hM1 ⟨callB_of na hts (lw_goodIn I1) rfl rfl rfl (hts _ I4) (hts _ hlink) ⟨I6, I7, I8⟩ ⟨hdd, by show 8 + (nL' + 11) + 100 * d' ≤ 100 * d; omega⟩, hts _ I2⟩ ⟨o_blindI, fun U hU hW => ⟨rfl, by rw [hU], by rw [hU]; exact hP, va_K.moved hW.alike hK, hD.weaken (fun _ _ _ _ => trivial), hNs.warm hW⟩⟩ rfl hna hl.1 hst (lv_room hcat) hd ⟨hk, hs⟩) hS hD hA (fun ad' H1 locs1 hz2 had hw => kk ad' had hz2 (by omega) (fun c hc => (had c (by omega)).trans (ha c hc)) ls H1 locs1 hl hw)
end BFILL
/-- a contract at one state -/
def oMi1 (l : Launch) (d : Nat) (y : MethodName) (cc : ByteArray) (nL mc ms n n' : Nat) (vs : List Value) (E : oE) (σ τ : oS) : Prop := oZ n σ → ∀ sz : Nat, Met l y (oWs y cc nL none) (oRi d mc ms) (va_Pc vs (oPr E n σ sz)) (oQi E (va_A (oWn E n σ) sz) n n' τ) mc ms (va_A (oWn E n σ) sz)
theorem oMi1.of {l : Launch} {d : Nat} {y : MethodName} {cc : ByteArray} {nL mc ms n n' : Nat} {vs : List Value} {lv : List (Nat × Value)} {E : oE} {σ τ : oS} (hy : plainName y.cls = true) (hlen : (lg_sl vs).length ≤ nL) (hlv : lv_args 0 vs = lv)
    (body : ∀ J, oCi l d mc ms cc y.cls y.name nL E n n' τ J → J (oad E) n σ 0 0 0 lv []) : oMi1 l d y cc nL mc ms n n' vs E σ τ := by
  intro hz sz
  refine Met.ofW (cc := cc) (maxL := nL) (ret := none) hy rfl ?_
  intro p e s m args below meth c s₁ B hml hv
  obtain ⟨rfl, hsz, hP, hK, hD0, hNs⟩ := hv
  have hts := atoms_spec (ws := oWs y cc nL none) B.pre
  have hown : s.vm.findClass y.cls = some m.cls := findClass_of_methodNamed B.named
  have hin : meth.name = y.name := (name_of_methodNamed B.named B.method).1
  subst hsz
  have hl := lv_entry vs (n := nL) hlen
  rw [hlv] at hl
  rw [lg_entry_eq]
  exact body _ ⟨p, e, s, m, vs.toArray, below, meth, c, va_A (oWn E n σ) s.heap.size, B.exec, B.bytes, hml, B.returns, B.notSynchronized, hin, hown, fun w hw => hts w (List.mem_cons_of_mem _ hw), hNs, hK, fun q h => Or.inr h, rfl⟩ hz (Nat.le_refl _) (fun _ _ => rfl) _ _ _ hl ⟨hP, hD0.self, va_S.rf⟩
theorem i_callV1 {l : Launch} {d mc ms : Nat} {cc : ByteArray} {own nm : String} {nL : Nat} {E : oE} {n0 n' n k sl pc : Nat} {τ σ τ1 : oS} {J : (Nat → Nat) → Nat → oS → Nat → Nat → Nat → List (Nat × Value) → List Value → Prop} {ad : Nat → Nat} {lv : List (Nat × Value)} {st : List Value} (C : oCi l d mc ms cc own nm nL E n0 n' τ J) {d' nL' mc' ms' n2 na index a q : Nat} {y : MethodName} {cc' : ByteArray} {As st0 : List Value} {Cn : String} {T : u_T} {ty : Nat → FieldType} (K : oCl q Cn T ty) (hq : okd a = q) (han : a < n) (I : oMv y cc' nL' none na Cn) (hlink : Cond.methodLink own index y ∈ oTB) (hM : oMi1 l d' y cc' nL' mc' ms' n n2 (.ref (ad a) :: As) (oEa E ad) σ τ1) (hn2 : n ≤ n2) (hdd : d' + 1 ≤ d) (hna : As.length = na) (hst : st0 = As.reverse ++ .ref (ad a) :: st) (hcat : (st.map fun v => v.category).sum ≤ 8) (hk : k + mc' ≤ mc) (hs : sl + ms' ≤ ms) (hd : decode cc pc = .ok (.invokevirtual index, 3)) (kk : ∀ ad', (∀ c, c < n → ad' c = ad c) → J ad' n2 τ1 (k + mc') (sl + ms') (pc + 3) lv st) : J ad n σ k sl pc lv st0 := by
  obtain ⟨p, e, s, m, args, below, meth, c, A, hx, hb, hml, hr, hlk, hnm, hown, hts, hNs, hK, hA, rfl⟩ := C
  intro hz h0 ha ls H locs hl hW
  obtain ⟨I1, I2, I3, I4, I5, I6, I7, I8⟩ := I
  obtain ⟨hcl, h13, -⟩ := K
  obtain ⟨hP, hD, hS⟩ := hW
  have he : (oWn (oEa E ad) n σ)[a]? = some (ad a, .inr (q, ofs (oEa E ad) σ a)) := by rw [oWn_at han, oel_obj hq h13]
  exact o_goI (va_runV (nL := nL) ⟨hx, hb, hml, hown, hts⟩ (hM hz H.size) ⟨callB_of na hts (lw_goodIn I1) rfl rfl rfl (hts _ I4) (hts _ hlink) ⟨I6, I7, I8⟩ ⟨hdd, by show 8 + (nL' + 11) + 100 * d' ≤ 100 * d; omega⟩, hts _ I2, hts _ I3⟩ ⟨o_blindI, va_recv hK hP hcl he, fun U hU hW => ⟨rfl, by rw [hU], by rw [hU]; exact hP, va_K.moved hW.alike hK, hD.weaken (fun _ _ _ _ => trivial), hNs.warm hW⟩⟩ rfl hna hl.1 hst (lv_room hcat) hd ⟨hk, hs⟩) hS hD hA (fun ad' H1 locs1 hz2 had hw => kk ad' had hz2 (by omega) (fun c hc => (had c (by omega)).trans (ha c hc)) ls H1 locs1 hl hw)
def t_fill (σ : oS) : oS := pF σ 32 4096 (-1)
set_option maxRecDepth 20000 in
theorem ci_fill (l : Launch) : oMi l 1 yJ7_fill_53178 cJ7_fill_53178 4 0 0 35 35 (fun E => [.ref (oad E 32), .int (-1)]) t_fill := by
  refine oMi.ofF (lv := fun E => [(0, .ref (oad E 32)), (1, .int (-1))]) (by decide +kernel) (fun _ => Nat.le_of_ble_eq_true rfl) (fun _ => rfl) (fun E σ nm J C => ?_)
  have C : oCi l 1 0 0 cJ7_fill_53178 RJ7 nm 4 E 35 35 (t_fill σ) J := C
  obtain ⟨k4, q4⟩ : ∃ z : Int32, z = 4096 := ⟨_, rfl⟩
  have e4 : k4.toInt = 4096 := by rw [q4]; rfl
  have key : ∀ (g : Nat) (i : Int32), i.toInt + (g : Int) = 4096 → 0 ≤ i.toInt → J (oad E) 35 (pF σ 32 i.toNatClampNeg (-1)) 0 0 5 [(0, .ref (oad E 32)), (1, .int (-1)), (2, .int i), (3, .int k4)] [] := by
    intro g
    induction g with
    | zero =>
      intro i hi h0
      have en := n_nat i
      refine i_iload_n C (j := 2) (oDec_at oJ7_fill_53178 5 rfl) rfl rfl ?_
      refine i_iload_n C (j := 3) (oDec_at oJ7_fill_53178 6 rfl) rfl rfl ?_
      refine i_icmp_ge C 20 (oDec_at oJ7_fill_53178 7 rfl) (by decide) (fun _ => ?_) (fun h => ?_)
      · rw [show i.toNatClampNeg = 4096 by omega]
        exact i_ret C (oDec_at oJ7_fill_53178 14 rfl)
      · omega
    | succ g ih =>
      intro i hi h0
      have en := n_nat i
      refine i_iload_n C (j := 2) (oDec_at oJ7_fill_53178 5 rfl) rfl rfl ?_
      refine i_iload_n C (j := 3) (oDec_at oJ7_fill_53178 6 rfl) rfl rfl ?_
      refine i_icmp_ge C 20 (oDec_at oJ7_fill_53178 7 rfl) (by decide) (fun h => ?_) (fun _ => ?_)
      · omega
      · refine i_aload_n C (j := 0) (oDec_at oJ7_fill_53178 8 rfl) rfl rfl ?_
        refine i_iload_n C (j := 2) (oDec_at oJ7_fill_53178 9 rfl) rfl rfl ?_
        refine i_iload_n C (j := 1) (oDec_at oJ7_fill_53178 10 rfl) rfl rfl ?_
        refine i_iast C (a := 32) (N := 4096) rfl (by decide) (by decide) rfl rfl ⟨by omega, by omega⟩ (oDec_at oJ7_fill_53178 11 rfl) ?_
        obtain ⟨z, ez⟩ : ∃ z : Int32, i + Int32.ofInt 1 = z := ⟨_, rfl⟩
        have hz : z.toInt = i.toInt + 1 := n_inc ez (by decide) (by omega) (by omega)
        have en2 := n_nat z
        refine i_iinc C (j := 2) (lv' := [(0, .ref (oad E 32)), (1, .int (-1)), (2, .int z), (3, .int k4)]) z [1, 2, 0, 3] (oDec_at oJ7_fill_53178 12 rfl) rfl ez (by decide) rfl ?_
        refine i_goto C (tgt := 5) (oDec_at oJ7_fill_53178 13 rfl) (by decide) ?_
        rw [pF_succ, show i.toNatClampNeg + 1 = z.toNatClampNeg by omega]
        exact ih z (by omega) (by omega)
  refine i_iconst C (x := 0) (oDec_at oJ7_fill_53178 0 rfl) rfl ?_
  refine i_istore_n C (lv' := [(0, .ref (oad E 32)), (1, .int (-1)), (2, .int 0)]) [1, 2, 0] (oDec_at oJ7_fill_53178 1 rfl) rfl (by decide) rfl ?_
  refine i_aload_n C (j := 0) (oDec_at oJ7_fill_53178 2 rfl) rfl rfl ?_
  refine i_alen C (a := 32) (N := 4096) k4 rfl (by decide) (by decide) rfl rfl (by rw [q4]; rfl) (oDec_at oJ7_fill_53178 3 rfl) ?_
  refine i_istore_n C (lv' := [(0, .ref (oad E 32)), (1, .int (-1)), (2, .int 0), (3, .int k4)]) [1, 2, 3, 0] (oDec_at oJ7_fill_53178 4 rfl) rfl (by decide) rfl ?_
  have h := key 4096 0 (by decide) (by decide)
  rw [show (0 : Int32).toNatClampNeg = 0 from rfl, pF_0] at h
  exact h
