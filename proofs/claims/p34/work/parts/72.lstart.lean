def lw_by (j : Nat) : Cond := .eq (.elem (.field (.string "OneLine$Reader" 176) "java/lang/String" "value" "[B") (.int (Int32.ofNat j))) (.int (oXb.getD j 0))
set_option maxRecDepth 100000 in
set_option maxHeartbeats 4000000 in
theorem lw_bl : (flatC (Jvm.Cond.and given_1 narrow_1)).drop 13 = (List.range 182).map lw_by := by decide +kernel
theorem lw_bytes {A : Array Value} {s : State} (hgv : (Jvm.Cond.and given_1 narrow_1).before A s = true) : ∀ j : Nat, j < 182 → (Cond.eq (.elem (.field (.string "OneLine$Reader" 176) "java/lang/String" "value" "[B") (.int (Int32.ofNat j))) (.int (oXb.getD j 0))).before A s = true := by
  intro j hj
  have h1 : lw_by j ∈ (flatC (Jvm.Cond.and given_1 narrow_1)).drop 13 := by
    rw [lw_bl]
    exact List.mem_map.mpr ⟨j, List.mem_range.mpr hj, rfl⟩
  exact flat_of_before _ hgv _ (List.mem_of_mem_drop h1)
theorem lw_str {b : Nat} {s : State} (hts : ∀ w ∈ lw_tbl, w.before #[Value.ref b] s = true) (hgv : (Jvm.Cond.and given_1 narrow_1).before #[Value.ref b] s = true) : ∃ k v : Nat, ∀ E : oE, oks E = k → okv E = v → oX E (fun q => s.heap.size ≤ q) s s.heap := by
  have hs := flat_of_before _ hgv
  have hA : ∀ a : Nat, a < s.heap.size → ¬ (fun q => s.heap.size ≤ q) a := fun a h => Nat.not_le.mpr h
  obtain ⟨adK, adV, hS, hev⟩ := vk_Sof (args := #[Value.ref b]) (s := s) (N := 1) (tm := fun _ => .string "OneLine$Reader" 176) (len := [182]) (byt := [oXb]) (A := fun q => s.heap.size ≤ q) (fun i hi => by rw [show i = 0 by omega]; decide) (fun i _ => hs _ (by decide +kernel)) (fun i _ => hs _ (by decide +kernel)) (fun i _ => hs _ (by decide +kernel)) (fun i hi => by rw [show i = 0 by omega]; exact hs _ (by decide +kernel)) (fun i hi j hj => by
    have h0 : i = 0 := by omega
    subst h0
    exact lw_bytes hgv j hj) (fun i j hi hj hij => by omega) hA
  refine ⟨adK 0, adV 0, fun E h1 h2 => ⟨⟨fun i hi => ?_, fun i j hi hj _ => by omega⟩, ?_, ?_, ?_⟩⟩
  · have h0 : i = 0 := by omega
    subst h0
    have h := hS.1 0 (by omega)
    show va_O "java/lang/String" (oks E) _ s s.heap ∧ va_OF "java/lang/String" "coder" "B" (.int 0) (oks E) _ s s.heap ∧ va_OF "java/lang/String" "value" "[B" (.ref (okv E)) (oks E) _ s s.heap ∧ va_T .byte (okv E) _ _ _ s s.heap
    rw [h1, h2]
    exact h
  · exact va_Zof (hts _ (by decide +kernel)) (hts _ (by decide +kernel)) (va_eqi (hs _ (by decide +kernel))) hA
  · exact va_Zqof (hts _ (by decide +kernel)) (hts _ (by decide +kernel)) (hs _ (by decide +kernel)) hA
  · have h := hev 0 (by omega)
    rw [← h1] at h
    exact vk_R.of (hts _ (by decide +kernel)) h
theorem lw_arr {A : Array Value} {s : State} {ty : FieldType} (hra : ∀ (U : State) (cA : ClassId), va_RA U cA ty = (U.vm.findClass ("[" ++ ty.toString) = some cA)) (h : (Cond.arrayClass ty).before A s = true) : ∃ cA : ClassId, ArrOfT s cA ty ∧ va_RA s cA ty := by
  obtain ⟨cA, kA, comp, h1, h2, h3⟩ := Cond.arrayClass_spec h
  exact ⟨cA, fun n z => ⟨fun k h => (by cases h), kA, h2, comp, h3⟩, by rw [hra]; exact h1⟩
theorem lw_cls {b : Nat} {s : State} (hts : ∀ w ∈ oTB, w.before #[Value.ref b] s = true) : ∃ (dC : Nat → ClassId) (dI : Nat → Nat → Nat), ∀ (k : Nat) (q : vw_C), vwCl[k]? = some q → u_Kn s q.1 q.2.1 q.2.2 (dC k) (dI k) := by
  have h : ∀ k : Nat, ∃ d : ClassId × (Nat → Nat), ∀ q : vw_C, vwCl[k]? = some q → u_Kn s q.1 q.2.1 q.2.2 d.1 d.2 := by
    intro k
    obtain ⟨c0, i0, h0⟩ := u_known (C := RX0) (T := TX0) (N := onf 0) (n := onf 0) hts oCl0.2.2.1 (hts _ isX0)
    obtain ⟨c1, i1, h1⟩ := u_known (C := RX1) (T := TX1) (N := onf 1) (n := onf 1) hts oCl1.2.2.1 (hts _ isX1)
    obtain ⟨c2, i2, h2⟩ := u_known (C := RX2) (T := TX2) (N := onf 2) (n := onf 2) hts oCl2.2.2.1 (hts _ isX2)
    obtain ⟨c3, i3, h3⟩ := u_known (C := RX3) (T := TX3) (N := onf 3) (n := onf 3) hts oCl3.2.2.1 (hts _ isX3)
    obtain ⟨c4, i4, h4⟩ := u_known (C := RX4) (T := TX4) (N := onf 4) (n := onf 4) hts oCl4.2.2.1 (hts _ isX4)
    obtain ⟨c5, i5, h5⟩ := u_known (C := RX5) (T := TX5) (N := onf 5) (n := onf 5) hts oCl5.2.2.1 (hts _ isX5)
    obtain ⟨c6, i6, h6⟩ := u_known (C := RX6) (T := TX6) (N := onf 6) (n := onf 6) hts oCl6.2.2.1 (hts _ isX6)
    obtain ⟨c7, i7, h7⟩ := u_known (C := RX7) (T := TX7) (N := onf 7) (n := onf 7) hts oCl7.2.2.1 (hts _ isX7)
    obtain ⟨c8, i8, h8⟩ := u_known (C := RX8) (T := TX8) (N := onf 8) (n := onf 8) hts oCl8.2.2.1 (hts _ isX8)
    obtain ⟨c9, i9, h9⟩ := u_known (C := RX9) (T := TX9) (N := onf 9) (n := onf 9) hts oCl9.2.2.1 (hts _ isX9)
    obtain ⟨c10, i10, h10⟩ := u_known (C := RX10) (T := TX10) (N := onf 10) (n := onf 10) hts oCl10.2.2.1 (hts _ isX10)
    obtain ⟨c11, i11, h11⟩ := u_known (C := RX11) (T := TX11) (N := onf 11) (n := onf 11) hts oCl11.2.2.1 (hts _ isX11)
    obtain ⟨c12, i12, h12⟩ := u_known (C := RX12) (T := TX12) (N := onf 12) (n := onf 12) hts oCl12.2.2.1 (hts _ isX12)
    match k with
    | 0 => exact ⟨(c0, i0), fun q hq => by cases hq; exact h0⟩
    | 1 => exact ⟨(c1, i1), fun q hq => by cases hq; exact h1⟩
    | 2 => exact ⟨(c2, i2), fun q hq => by cases hq; exact h2⟩
    | 3 => exact ⟨(c3, i3), fun q hq => by cases hq; exact h3⟩
    | 4 => exact ⟨(c4, i4), fun q hq => by cases hq; exact h4⟩
    | 5 => exact ⟨(c5, i5), fun q hq => by cases hq; exact h5⟩
    | 6 => exact ⟨(c6, i6), fun q hq => by cases hq; exact h6⟩
    | 7 => exact ⟨(c7, i7), fun q hq => by cases hq; exact h7⟩
    | 8 => exact ⟨(c8, i8), fun q hq => by cases hq; exact h8⟩
    | 9 => exact ⟨(c9, i9), fun q hq => by cases hq; exact h9⟩
    | 10 => exact ⟨(c10, i10), fun q hq => by cases hq; exact h10⟩
    | 11 => exact ⟨(c11, i11), fun q hq => by cases hq; exact h11⟩
    | 12 => exact ⟨(c12, i12), fun q hq => by cases hq; exact h12⟩
    | k + 13 => exact ⟨(c0, i0), fun q hq => by
        have : vwCl[k + 13]? = none := List.getElem?_eq_none (by show 13 ≤ k + 13; omega)
        rw [this] at hq
        cases hq⟩
  obtain ⟨f, hf⟩ := Classical.axiomOfChoice h
  exact ⟨fun k => (f k).1, fun k => (f k).2, hf⟩
set_option maxHeartbeats 4000000 in
set_option maxRecDepth 100000 in
theorem lw_born {l : Launch} {b : Nat} {E : oE} {J : (Nat → Nat) → Nat → oS → Nat → Nat → Nat → List (Nat × Value) → List Value → Prop} (C : oLI l b E J) (go : ∀ ad, J ad 118 oSF 118 64379 18 [(0, .ref b), (1, .ref (ad 0)), (2, .ref (ad 71)), (3, .int 0)] []) : J (oad E) 0 oS0 0 0 0 [(0, .ref b)] [] := by
  refine j_new C oCl11 rfl ckL_7 isX11 inX11 df11 (by decide) (by decide) (oDec_at oLw_0 0 rfl) (fun ad1 h1 => ?_)
  refine j_dup C (oDec_at oLw_0 1 rfl) ?_
  refine j_call C mkX11_init rfl mlL_9 (ci_X11_init_0 l) rfl (by decide) (by decide) rfl rfl (Nat.le_of_ble_eq_true rfl) (by decide) (by decide) (oDec_at oLw_0 2 rfl) (fun ad2 h2 => ?_)
  rw [← h2 0 (by decide)]
  refine j_astore_n C (lv' := [(0, .ref b), (1, .ref (ad2 0))]) [1, 0] (oDec_at oLw_0 3 rfl) rfl (by decide) rfl ?_
  refine j_new C oCl12 rfl ckL_10 isX12 inX12 df12 (by decide) (by decide) (oDec_at oLw_0 4 rfl) (fun ad3 h3 => ?_)
  rw [← h3 0 (by decide)]
  refine j_dup C (oDec_at oLw_0 5 rfl) ?_
  refine j_call C mkX12_init rfl mlL_12 (ci_X12_init_71 l) rfl (by decide) (by decide) rfl rfl (Nat.le_of_ble_eq_true rfl) (by decide) (by decide) (oDec_at oLw_0 6 rfl) (fun ad4 h4 => ?_)
  rw [← h4 0 (by decide), ← h4 71 (by decide)]
  refine j_astore_n C (lv' := [(0, .ref b), (1, .ref (ad4 0)), (2, .ref (ad4 71))]) [1, 2, 0] (oDec_at oLw_0 7 rfl) rfl (by decide) rfl ?_
  refine j_iconst C (x := 0) (oDec_at oLw_0 8 rfl) rfl ?_
  refine j_istore_n C (lv' := [(0, .ref b), (1, .ref (ad4 0)), (2, .ref (ad4 71)), (3, .int 0)]) [1, 2, 3, 0] (oDec_at oLw_0 9 rfl) rfl (by decide) rfl ?_
  exact go ad4
/-- from the entry, for every script of at most 3072 ints, the law comes to its end with true -/
theorem whole_start {p : Program} {e : Env} {s : State} {m : MethodId} {below : List Frame} {meth : Method} {c : Code} (l : Launch) {b L : Nat} {xs : Nat → Int32} (hL : L ≤ 3072) (C0 : lw_At p s m meth c b L xs) : W p l e room_1 s m #[Value.ref b] below meth c s.heap [] 0 0 (lw_Z below #[Value.ref b] s) (entryFrame m ([Value.ref b] : List Value).toArray 4) := by
  obtain ⟨hx, hb, hr, hml, hown, htsL, hX, hbl, hlk, hgv⟩ := id C0
  have hts : ∀ w ∈ oTB, w.before #[Value.ref b] s = true := fun w hw => htsL w (List.mem_filter.mp hw).1
  have hNs : oNs s := fun w hw hk => by
    have h1 := htsL w hw
    cases w <;> first | exact va_Nw.of rfl h1 | (simp [oNk] at hk; done)
  obtain ⟨kS, vS, hXs⟩ := lw_str htsL hgv
  obtain ⟨dC, dI, hKc⟩ := lw_cls hts
  obtain ⟨a0, g0⟩ := lw_arr ra_int (hts _ ac_int)
  obtain ⟨a1, g1⟩ := lw_arr ra_char (hts _ ac_char)
  obtain ⟨a2, g2⟩ := lw_arr ra_boolean (hts _ ac_boolean)
  obtain ⟨a3, g3⟩ := lw_arr ra_long (hts _ ac_long)
  obtain ⟨E, hE⟩ : ∃ E : oE, E = ((fun t => if t = 0 then a0 else if t = 1 then a1 else if t = 2 then a2 else a3), dC, dI, (fun _ => 0), (kS, vS)) := ⟨_, rfl⟩
  have hK : va_K (oD E) vwCl (otys E) s := by
    rw [hE]
    refine ⟨hKc, fun k q hq => ?_⟩
    match k with
    | 0 => cases hq; exact g0
    | 1 => cases hq; exact g1
    | 2 => cases hq; exact g2
    | 3 => cases hq; exact g3
    | k + 4 =>
      have h9 : (otys ((fun t => if t = 0 then a0 else if t = 1 then a1 else if t = 2 then a2 else a3), dC, dI, (fun _ => 0), (kS, vS)))[k + 4]? = none := List.getElem?_eq_none (by show 4 ≤ k + 4; omega)
      rw [h9] at hq
      cases hq
  have hl := lv_entry ([.ref b]) (n := 4) (Nat.le_of_ble_eq_true rfl)
  rw [lg_entry_eq]
  have CI : oLI l b E _ := ⟨p, e, s, m, below, meth, c, hx, hb, hml, hown, hts, hNs, hK, rfl⟩
  refine lw_born CI (fun ad => ?_) oZ_0 _ _ _ hl ⟨fun k q h => by simp [oWn] at h, ⟨fun i j p q h => by simp [oWn] at h, fun k q h => by simp [oWn] at h⟩, va_S.rf⟩
  intro _ ls H locs hl2 hW
  have hX2 : oX (oEa E ad) (fun q => s.heap.size ≤ q) s s.heap := hXs (oEa E ad) (by rw [hE]) (by rw [hE])
  have CL : oLC l b L xs (oEa E ad) 118 64379 _ := ⟨p, e, s, m, below, meth, c, hx, hb, hml, hr, hlk, hown, hts, hNs, hX2, hK, hX, hbl, ⟨by decide, by decide⟩, rfl⟩
  exact lw_loop CL hL 5000 oSF 0 oLT_F (fun h => by rw [o_F1.2.2.2.1] at h; exact absurd h (by decide)) oBI_F (oqET_F (oqE_0 (by rw [o_F1.2.2.2.2.2.2.1]; rfl) (by rw [o_F1.2.2.2.2.2.2.2]; rfl))) (by decide) (by decide) oTy_F ls H locs hl2 hW
