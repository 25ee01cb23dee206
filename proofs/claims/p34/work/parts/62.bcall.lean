theorem o_goI {p : Program} {l : Launch} {e : Env} {R : Room} {s : State} {m : MethodId} {args : Array Value} {below : List Frame} {meth : Method} {c : Code} {H : Heap} {locs : List Loc} {Q : State → Prop} {pc k sl mc' ms' n n2 : Nat} {ls : Array Slot} {rest st0 : List Value} {a : Array Value} {A : Nat → Prop} {E : oE} {σ τ : oS}
    (hr : va_Run p l e R s m args below meth c H locs k sl mc' ms' (F0 m pc ls st0) rest (oQi E (va_A (oWn E n σ) H.size) n n2 τ a) (va_A (oWn E n σ) H.size)) (hS : va_S A s.heap H locs) (hD : va_D A (oWn E n σ)) (hA : ∀ q, s.heap.size ≤ q → A q)
    (kk : ∀ ad H1 locs1, oZ n2 τ → (∀ c, c < n → ad c = oad E c) → oWdn (oEa E ad) A s.heap n2 τ H1 locs1 → W p l e R s m args below meth c H1 locs1 (k + mc') (sl + ms') Q (F0 m (pc + 3) ls rest)) : W p l e R s m args below meth c H locs k sl Q (F0 m pc ls st0) := by
  have hAA : ∀ q, va_A (oWn E n σ) H.size q → A q := fun q h => by
    rcases h with ⟨k, x, h⟩ | h
    · exact hD.2 k (q, x) h
    · exact hA q (Nat.le_trans hS.1 h)
  intro T hT X
  obtain ⟨v, st₀, t, T', L, h0, X', hL, e1, e2, ⟨⟨ad, hv, hz2, had, hP1, hK1, hD1⟩, hz, hk⟩, st⟩ := hr T hT X
  cases hv
  rw [h0] at hz hk
  obtain ⟨t2, a1, b1⟩ := kk ad T'.heap (locs ++ L) hz2 had ⟨by rw [e1]; exact hP1, hD1.weaken (fun k q _ h => hAA q.1 h), Nat.le_trans hS.1 (by rw [e1]; exact hz), fun q h1 h2 => by rw [e1, hk q (Nat.lt_of_lt_of_le h1 hS.1) (fun z => h2 (hAA q z))]; exact hS.2.1 q h1 h2, fun q hq => by
      rcases List.mem_append.mp hq with h | h
      · exact hS.2.2 q h
      · exact hAA _ (hL q h)⟩ T' rfl X'
  exact ⟨t2, st t2 a1, b1⟩
theorem o_blindI {E : oE} {n : Nat} {σ : oS} {sz : Nat} {vs : List Value} : FrameBlind (va_Pc vs (oPr E n σ sz)) := fun a U g mk q => by
  obtain ⟨q0, q1, qP, qK, qD, qN⟩ := q
  exact ⟨q0, q1, qP, va_K.moved (u := U) (U := U.calling g mk a) (Vm.Alike.refl U.vm) qK, qD, qN.same rfl⟩
/-- what a call asks of a constructor -/
def oMk0 (y : MethodName) (cc : ByteArray) (nL na : Nat) : Prop := Cond.code y cc nL none ∈ oTB ∧ Cond.instanceMethod y ∈ oTB ∧ Cond.initialized y.cls ∈ oTB ∧ nL ≤ 60 ∧ y.cls ≠ "java/lang/invoke/MethodHandle" ∧ y.cls ≠ "java/lang/invoke/VarHandle" ∧ (parseMethodDescriptor y.desc).map (fun d => d.parameters.length) = some na
section BCALL
variable {l : Launch} {d mc ms : Nat} {cc : ByteArray} {own nm : String} {nL : Nat} {E : oE} {n0 n' n k sl pc : Nat} {τ σ : oS} {J : (Nat → Nat) → Nat → oS → Nat → Nat → Nat → List (Nat × Value) → List Value → Prop} {ad : Nat → Nat} {lv : List (Nat × Value)} {st : List Value}
theorem i_call (C : oCi l d mc ms cc own nm nL E n0 n' τ J) {d' nL' mc' ms' n2 na index b : Nat} {y : MethodName} {cc' : ByteArray} {vs : oE → List Value} {τ' : oS → oS} {As st0 : List Value} (I : oMk0 y cc' nL' na) (hni : y.name = "<init>") (hlink : Cond.methodLink own index y ∈ oTB) (hM : oMi l d' y cc' nL' mc' ms' n n2 vs τ') (hvs : vs (oEa E ad) = .ref b :: As) (hn2 : n ≤ n2) (hdd : d' + 1 ≤ d) (hna : As.length = na) (hst : st0 = As.reverse ++ .ref b :: st) (hcat : (st.map fun v => v.category).sum ≤ 8) (hk : k + mc' ≤ mc) (hs : sl + ms' ≤ ms) (hd : decode cc pc = .ok (.invokespecial index, 3)) (kk : ∀ ad', (∀ c, c < n → ad' c = ad c) → J ad' n2 (τ' σ) (k + mc') (sl + ms') (pc + 3) lv st) : J ad n σ k sl pc lv st0 := by
  obtain ⟨p, e, s, m, args, below, meth, c, A, hx, hb, hml, hr, hlk, hnm, hown, hts, hNs, hK, hA, rfl⟩ := C
  intro hz h0 ha ls H locs hl hW
  obtain ⟨I1, I2, I4, I5, I6, I7, I8⟩ := I
  obtain ⟨hP, hD, hS⟩ := hW
  have hM1 := hM (oEa E ad) σ hz H.size
  rw [hvs] at hM1
  exact o_goI (va_runI (nL := nL) ⟨hx, hb, hml, hown, hts⟩ hM1 (cwI na hts (lw_goodIn I1) rfl rfl rfl (hts _ I4) (hts _ hlink) (hts _ I2) hni ⟨I6, I7, I8⟩ ⟨hdd, by show 8 + (nL' + 11) + 100 * d' ≤ 100 * d; omega⟩) ⟨o_blindI, fun U hU hW => ⟨rfl, by rw [hU], by rw [hU]; exact hP, va_K.moved hW.alike hK, hD.weaken (fun _ _ _ _ => trivial), hNs.warm hW⟩⟩ rfl hna hl.1 hst (lv_room hcat) hd ⟨hk, hs⟩) hS hD hA (fun ad' H1 locs1 hz2 had hw => kk ad' had hz2 (by omega) (fun c hc => (had c (by omega)).trans (ha c hc)) ls H1 locs1 hl hw)
theorem i_callN (C : oCi l d mc ms cc own nm nL E n0 n' τ J) {d' nL' mc' ms' n2 na index b : Nat} {y : MethodName} {cc' : ByteArray} {vs : oE → List Value} {τ' : oS → oS} {As st0 : List Value} {host : String} (I : oMk0 y cc' nL' na) (hni : y.name = "<init>") (hlink : Cond.methodLinkNest own index y host ∈ lw_tbl) (hM : oMi l d' y cc' nL' mc' ms' n n2 vs τ') (hvs : vs (oEa E ad) = .ref b :: As) (hn2 : n ≤ n2) (hdd : d' + 1 ≤ d) (hna : As.length = na) (hst : st0 = As.reverse ++ .ref b :: st) (hcat : (st.map fun v => v.category).sum ≤ 8) (hk : k + mc' ≤ mc) (hs : sl + ms' ≤ ms) (hd : decode cc pc = .ok (.invokespecial index, 3)) (kk : ∀ ad', (∀ c, c < n → ad' c = ad c) → J ad' n2 (τ' σ) (k + mc') (sl + ms') (pc + 3) lv st) : J ad n σ k sl pc lv st0 := by
  obtain ⟨p, e, s, m, args, below, meth, c, A, hx, hb, hml, hr, hlk, hnm, hown, hts, hNs, hK, hA, rfl⟩ := C
  intro hz h0 ha ls H locs hl hW
  obtain ⟨I1, I2, I4, I5, I6, I7, I8⟩ := I
  obtain ⟨hP, hD, hS⟩ := hW
  have hM1 := hM (oEa E ad) σ hz H.size
  rw [hvs] at hM1
  exact o_goI (va_runIN (nL := nL) ⟨hx, hb, hml, hown, hts⟩ hM1 ⟨va_cnB na hts (lw_goodIn I1) rfl rfl rfl (hNs _ hlink rfl) (hts _ I4) ⟨I6, I7, I8⟩ ⟨hdd, by show 8 + (nL' + 11) + 100 * d' ≤ 100 * d; omega⟩, hni, hts _ I2⟩ ⟨o_blindI, fun U hU hW => ⟨rfl, by rw [hU], by rw [hU]; exact hP, va_K.moved hW.alike hK, hD.weaken (fun _ _ _ _ => trivial), hNs.warm hW⟩⟩ rfl hna hl.1 hst (lv_room hcat) hd ⟨hk, hs⟩) hS hD hA (fun ad' H1 locs1 hz2 had hw => kk ad' had hz2 (by omega) (fun c hc => (had c (by omega)).trans (ha c hc)) ls H1 locs1 hl hw)
end BCALL
