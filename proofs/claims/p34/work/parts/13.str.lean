section STR
variable {l : Launch} {d : Nat} {cc : ByteArray} {nL : Nat} {ret : Option FieldType} {M : List (Nat × Nat)} {E : oE} {σ0 σ : oS} {Post : Option Value → oS → Prop} {J : oS → Nat → List (Nat × Value) → List Value → Prop} {pc : Nat} {lv : List (Nat × Value)} {st : List Value}
theorem r_ldcS (C : oC l d cc RX5 nL ret M E σ0 Post J) (hd : decode cc pc = .ok (.ldc 176, 2)) (kk : J σ (pc + 2) lv (.ref (oks E) :: st)) : J σ pc lv st := by
  obtain ⟨p, e, s, m, args, below, meth, c, A, hx, hb, hml, hr, hlk, hown, hts, hNs, hXs, hK, hA, rfl⟩ := C
  intro hT hF ls H locs hl hW
  exact va_ldcS hx hb hown hXs.2.2.2 hd (kk hT hF ls H locs hl hW)
theorem r_sval {own : String} (C : oC l d cc own nL ret M E σ0 Post J) {index : Nat} (hlink : Cond.fieldLink own index "java/lang/String" "value" "[B" ∈ oTB) (hd : decode cc pc = .ok (.getfield index, 3)) (kk : J σ (pc + 3) lv (.ref (okv E) :: st)) : J σ pc lv (.ref (oks E) :: st) := by
  obtain ⟨p, e, s, m, args, below, meth, c, A, hx, hb, hml, hr, hlk, hown, hts, hNs, hXs, hK, hA, rfl⟩ := C
  intro hT hF ls H locs hl hW
  exact vk_getf hx hb (hXs.1.1 0 (by decide)).2.2.1 hW.2.2 hown (hts _ hlink) (fun x h => h) hd (kk hT hF ls H locs hl hW)
theorem r_scod {own : String} (C : oC l d cc own nL ret M E σ0 Post J) {index : Nat} (hlink : Cond.fieldLink own index "java/lang/String" "coder" "B" ∈ oTB) (hd : decode cc pc = .ok (.getfield index, 3)) (kk : J σ (pc + 3) lv (.int 0 :: st)) : J σ pc lv (.ref (oks E) :: st) := by
  obtain ⟨p, e, s, m, args, below, meth, c, A, hx, hb, hml, hr, hlk, hown, hts, hNs, hXs, hK, hA, rfl⟩ := C
  intro hT hF ls H locs hl hW
  exact vk_getf hx hb (hXs.1.1 0 (by decide)).2.1 hW.2.2 hown (hts _ hlink) (fun x h => h) hd (kk hT hF ls H locs hl hW)
theorem r_gets {own : String} (C : oC l d cc own nL ret M E σ0 Post J) {index : Nat} (hlink : Cond.fieldLink own index "java/lang/String" "COMPACT_STRINGS" "Z" ∈ oTB) (hd : decode cc pc = .ok (.getstatic index, 3)) (kk : J σ (pc + 3) lv (.int 1 :: st)) : J σ pc lv st := by
  obtain ⟨p, e, s, m, args, below, meth, c, A, hx, hb, hml, hr, hlk, hown, hts, hNs, hXs, hK, hA, rfl⟩ := C
  intro hT hF ls H locs hl hW
  exact va_gets hx hb hXs.2.1 hW.2.2 hown (hts _ hlink) (fun x h => h) hd (kk hT hF ls H locs hl hW)
theorem r_getsq {own : String} (C : oC l d cc own nL ret M E σ0 Post J) {index : Nat} (hlink : Cond.fieldLink own index "jdk/internal/util/Preconditions" "SIOOBE_FORMATTER" "Ljava/util/function/BiFunction;" ∈ oTB) (hd : decode cc pc = .ok (.getstatic index, 3)) (kk : ∀ w : Value, (w = .null ∨ ∃ t, w = .ref t) → J σ (pc + 3) lv (w :: st)) : J σ pc lv st := by
  obtain ⟨p, e, s, m, args, below, meth, c, A, hx, hb, hml, hr, hlk, hown, hts, hNs, hXs, hK, hA, rfl⟩ := C
  intro hT hF ls H locs hl hW
  rcases hXs.2.2.1 with h | ⟨t, h⟩
  · exact va_gets hx hb h hW.2.2 hown (hts _ hlink) (fun x h => h) hd (kk .null (Or.inl rfl) hT hF ls H locs hl hW)
  · exact va_gets hx hb h hW.2.2 hown (hts _ hlink) (fun x h => h) hd (kk (.ref t) (Or.inr ⟨t, rfl⟩) hT hF ls H locs hl hW)
theorem r_slen {own : String} (C : oC l d cc own nL ret M E σ0 Post J) (hd : decode cc pc = .ok (.arraylength, 1)) (kk : J σ (pc + 1) lv (.int 182 :: st)) : J σ pc lv (.ref (okv E) :: st) := by
  obtain ⟨p, e, s, m, args, below, meth, c, A, hx, hb, hml, hr, hlk, hown, hts, hNs, hXs, hK, hA, rfl⟩ := C
  intro hT hF ls H locs hl hW
  obtain ⟨cell, h1, h2, h3, h4, h5, h6, h7⟩ := (hXs.1.1 0 (by decide)).2.2.2.kept hW.2.2.2.1
  exact W.alen (n := 182) hx hb h1 h2 h5 rfl rfl hd (kk hT hF ls H locs hl hW)
theorem r_sbld {own : String} (C : oC l d cc own nL ret M E σ0 Post J) {i : Int32} (h0 : 0 ≤ i.toInt) (hi : i.toInt < 182) (hd : decode cc pc = .ok (.baload, 1)) (kk : J σ (pc + 1) lv (.int (oXb.getD i.toNatClampNeg 0) :: st)) : J σ pc lv (.int i :: .ref (okv E) :: st) := by
  obtain ⟨p, e, s, m, args, below, meth, c, A, hx, hb, hml, hr, hlk, hown, hts, hNs, hXs, hK, hA, rfl⟩ := C
  intro hT hF ls H locs hl hW
  obtain ⟨cell, h1, h2, h3, h4, h5, h6, h7⟩ := (hXs.1.1 0 (by decide)).2.2.2.kept hW.2.2.2.1
  have hv : vp_in i 182 := oix h0 (by omega)
  have hlt : i.toNatClampNeg < 182 := Nat.not_le.mp fun q => hv (Or.inr q)
  have h4 : 182 ≤ cell.slots.size := h4
  exact W.bald (v := .int (oXb.getD i.toNatClampNeg 0)) hx hb h1 h2 h3 (fun q => by rcases q with q | q; exact hv (Or.inl q); omega) (h6 _ hlt) rfl rfl hd (kk hT hF ls H locs hl hW)
theorem r_i2c {own : String} (C : oC l d cc own nL ret M E σ0 Post J) {x : Int32} (v : Int32) (hd : decode cc pc = .ok (.i2c, 1)) (hv : (x.toUInt32 % 65536).toInt32 = v) (kk : J σ (pc + 1) lv (.int v :: st)) : J σ pc lv (.int x :: st) := by
  obtain ⟨p, e, s, m, args, below, meth, c, A, hx, hb, hml, hr, hlk, hown, hts, hNs, hXs, hK, hA, rfl⟩ := C
  intro hT hF ls H locs hl hW
  exact lv_i2c hx hb hd hv (kk hT hF ls H locs hl hW)
theorem r_callKi {own : String} (C : oC l d cc own nL ret M E σ0 Post J) {d' nL' n index : Nat} {y : MethodName} {cc' : ByteArray} {ret' : Option FieldType} {M' : List (Nat × Nat)} {As : List Value} {st0 : List Value} {Q9 : Int32 → oS → Prop} (I : oMv y cc' nL' ret' n RJ0) (hlink : Cond.methodLink own index y ∈ oTB) (hM : oMet l d' y cc' nL' ret' M' E σ (.ref (oks E) :: As) (oPi Q9)) (hdd : d' + 1 ≤ d) (hsub : osub M' M = true) (hn : As.length = n) (hst : st0 = As.reverse ++ .ref (oks E) :: st) (hcat : (st.map fun v => v.category).sum ≤ 8) (hd : decode cc pc = .ok (.invokevirtual index, 3)) (kk : ∀ r u, Q9 r u → oFr M' σ u → J u (pc + 3) lv (.int r :: st)) : J σ pc lv st0 := by
  obtain ⟨p, e, s, m, args, below, meth, c, A, hx, hb, hml, hr, hlk, hown, hts, hNs, hXs, hK, hA, rfl⟩ := C
  intro hT hF ls H locs hl hW
  obtain ⟨I1, I2, I3, I4, I5, I6, I7, I8⟩ := I
  obtain ⟨hP, hD, hS⟩ := hW
  refine o_go (va_runV (nL := nL) ⟨hx, hb, hml, hown, hts⟩ (hM hT H.size) ⟨callB_of n hts (lw_goodIn I1) rfl rfl rfl (hts _ I4) (hts _ hlink) ⟨I6, I7, I8⟩ ⟨hdd, by show 8 + (nL' + 11) + 100 * d' ≤ 100 * d; omega⟩, hts _ I2, hts _ I3⟩ ⟨o_blind, vk_recv hXs.1 (i := 0) (by decide) hS, fun U hU hW => ⟨rfl, by rw [hU], by rw [hU]; exact hP, va_K.moved hW.alike hK, hD.weaken (fun _ _ _ _ => trivial), hNs.warm hW, by rw [hU]; exact ((hXs.kept hS.2.1).narrow (o_AA hS hD hA)).warm hW⟩⟩ rfl hn hl.1 hst (lv_room hcat) hd ⟨Nat.zero_le _, Nat.zero_le _⟩) hS hD hA (fun v u H1 locs1 hp hu hf hw => ?_)
  obtain ⟨r, rfl, h9⟩ := hp
  exact kk r u h9 hf hu (hF.then hf hsub) ls H1 locs1 hl hw
end STR
set_option maxHeartbeats 4000000 in
theorem ct_J0_coder_7d493 (l : Launch) (E : oE) (s : oS)  : oMet l 1 yJ0_coder_7d493 cJ0_coder_7d493 1 (some .byte) [] E s [.ref (oks E)] (oPi (fun r u => r = 0)) := by
  refine oMet.ofF (lv := [(0, .ref (oks E))]) (by decide +kernel) (Nat.le_of_ble_eq_true rfl) rfl (fun J C hT => ?_)
  have C : oC l 1 cJ0_coder_7d493 RJ0 1 (some .byte) [] E s (oPi (fun r u => r = 0)) J := C
  refine r_gets C flJ0_38 (oDec_at oJ0_coder_7d493 0 rfl) ?_
  refine r_if_eq C 13 (oDec_at oJ0_coder_7d493 1 rfl) (by decide) (fun h => ?_) (fun h => ?_)
  · exact absurd h (by decide)
  · refine r_aload_n C (j := 0) (oDec_at oJ0_coder_7d493 2 rfl) rfl rfl ?_
    refine r_scod C flJ0_15 (oDec_at oJ0_coder_7d493 3 rfl) ?_
    refine r_goto C (tgt := 14) (oDec_at oJ0_coder_7d493 4 rfl) (by decide) ?_
    exact r_zret C rfl (oDec_at oJ0_coder_7d493 6 rfl) ⟨_, rfl, rfl⟩
set_option maxHeartbeats 4000000 in
theorem ct_J0_isLatin1_aae02 (l : Launch) (E : oE) (s : oS)  : oMet l 1 yJ0_isLatin1_aae02 cJ0_isLatin1_aae02 1 (some .boolean) [] E s [.ref (oks E)] (oPi (fun r u => r = 1)) := by
  refine oMet.ofF (lv := [(0, .ref (oks E))]) (by decide +kernel) (Nat.le_of_ble_eq_true rfl) rfl (fun J C hT => ?_)
  have C : oC l 1 cJ0_isLatin1_aae02 RJ0 1 (some .boolean) [] E s (oPi (fun r u => r = 1)) J := C
  refine r_gets C flJ0_38 (oDec_at oJ0_isLatin1_aae02 0 rfl) ?_
  refine r_if_eq C 17 (oDec_at oJ0_isLatin1_aae02 1 rfl) (by decide) (fun h => ?_) (fun h => ?_)
  · exact absurd h (by decide)
  · refine r_aload_n C (j := 0) (oDec_at oJ0_isLatin1_aae02 2 rfl) rfl rfl ?_
    refine r_scod C flJ0_15 (oDec_at oJ0_isLatin1_aae02 3 rfl) ?_
    refine r_if_ne C 17 (oDec_at oJ0_isLatin1_aae02 4 rfl) (by decide) (fun h => ?_) (fun h => ?_)
    · exact absurd rfl h
    · refine r_iconst C (oDec_at oJ0_isLatin1_aae02 5 rfl) (v := 1) rfl ?_
      refine r_goto C (tgt := 18) (oDec_at oJ0_isLatin1_aae02 6 rfl) (by decide) ?_
      exact r_zret C rfl (oDec_at oJ0_isLatin1_aae02 8 rfl) ⟨_, rfl, rfl⟩
set_option maxHeartbeats 4000000 in
theorem ct_J0_length_8abf5 (l : Launch) (E : oE) (s : oS)  : oMet l 2 yJ0_length_8abf5 cJ0_length_8abf5 1 (some .int) [] E s [.ref (oks E)] (oPi (fun r u => r.toInt = 182)) := by
  refine oMet.ofF (lv := [(0, .ref (oks E))]) (by decide +kernel) (Nat.le_of_ble_eq_true rfl) rfl (fun J C hT => ?_)
  have C : oC l 2 cJ0_length_8abf5 RJ0 1 (some .int) [] E s (oPi (fun r u => r.toInt = 182)) J := C
  refine r_aload_n C (j := 0) (oDec_at oJ0_length_8abf5 0 rfl) rfl rfl ?_
  refine r_sval C flJ0_9 (oDec_at oJ0_length_8abf5 1 rfl) ?_
  refine r_slen C (oDec_at oJ0_length_8abf5 2 rfl) ?_
  refine r_aload_n C (j := 0) (oDec_at oJ0_length_8abf5 3 rfl) rfl rfl ?_
  refine r_callKi C miJ0_coder_7d493 mlJ0_335 (ct_J0_coder_7d493 l E s) (by decide) rfl rfl rfl (Nat.le_of_ble_eq_true rfl) (oDec_at oJ0_length_8abf5 4 rfl) (fun r u hp hf => ?_)
  try dsimp only at hp
  subst hp
  refine r_ishr C 182 (oDec_at oJ0_length_8abf5 5 rfl) (by decide) ?_
  exact r_iret C (oDec_at oJ0_length_8abf5 6 rfl) ⟨_, rfl, rfl⟩
set_option maxHeartbeats 4000000 in
theorem ct_J3_checkIndex_8e157 (l : Launch) (E : oE) (s : oS) (a0 a1 : Int32) (w : Value) (hw : w.category = 1) (hw2 : lg_sl [.int a0, .int a1, w] = lg_sl [.int a0, .int a1, .null] ∨ True) (h0 : 0 ≤ a0.toInt) (h1 : a0.toInt < a1.toInt) (hlv : lv_args 0 [.int a0, .int a1, w] = [(0, .int a0), (1, .int a1), (2, w)]) (hln : (lg_sl [.int a0, .int a1, w]).length ≤ 3) : oMet l 1 yJ3_checkIndex_8e157 cJ3_checkIndex_8e157 3 (some .int) [] E s [.int a0, .int a1, w] (oPi (fun r u => True)) := by
  refine oMet.ofF (lv := [(0, .int a0), (1, .int a1), (2, w)]) (by decide +kernel) hln hlv (fun J C hT => ?_)
  have C : oC l 1 cJ3_checkIndex_8e157 RJ3 3 (some .int) [] E s (oPi (fun r u => True)) J := C
  refine r_iload_n C (j := 0) (oDec_at oJ3_checkIndex_8e157 0 rfl) rfl rfl ?_
  refine r_if_lt C 9 (oDec_at oJ3_checkIndex_8e157 1 rfl) (by decide) (fun h => ?_) (fun h => ?_)
  · omega
  · refine r_iload_n C (j := 0) (oDec_at oJ3_checkIndex_8e157 2 rfl) rfl rfl ?_
    refine r_iload_n C (j := 1) (oDec_at oJ3_checkIndex_8e157 3 rfl) rfl rfl ?_
    refine r_icmp_lt C 16 (oDec_at oJ3_checkIndex_8e157 4 rfl) (by decide) (fun h2 => ?_) (fun h2 => ?_)
    · refine r_iload_n C (j := 0) (oDec_at oJ3_checkIndex_8e157 10 rfl) rfl rfl ?_
      exact r_iret C (oDec_at oJ3_checkIndex_8e157 11 rfl) ⟨_, rfl, trivial⟩
    · omega
set_option maxHeartbeats 4000000 in
theorem ct_J0_checkIndex_df160 (l : Launch) (E : oE) (s : oS) (a0 a1 : Int32) (h0 : 0 ≤ a0.toInt) (h1 : a0.toInt < a1.toInt) : oMet l 2 yJ0_checkIndex_df160 cJ0_checkIndex_df160 2 none [] E s [.int a0, .int a1] (oPv (fun u => True)) := by
  refine oMet.ofF (lv := [(0, .int a0), (1, .int a1)]) (by decide +kernel) (Nat.le_of_ble_eq_true rfl) rfl (fun J C hT => ?_)
  have C : oC l 2 cJ0_checkIndex_df160 RJ0 2 none [] E s (oPv (fun u => True)) J := C
  refine r_iload_n C (j := 0) (oDec_at oJ0_checkIndex_df160 0 rfl) rfl rfl ?_
  refine r_iload_n C (j := 1) (oDec_at oJ0_checkIndex_df160 1 rfl) rfl rfl ?_
  refine r_getsq C flJ0_1053 (oDec_at oJ0_checkIndex_df160 2 rfl) (fun w hw => ?_)
  have hc : w.category = 1 := by rcases hw with rfl | ⟨t, rfl⟩ <;> rfl
  refine r_callSi C (As := [.int a0, .int a1, w]) (n := 3) miJ3_checkIndex_8e157 mlJ0_1059 (ct_J3_checkIndex_8e157 l E s a0 a1 w hc (Or.inr trivial) h0 h1 (by rcases hw with rfl | ⟨t, rfl⟩ <;> rfl) (by rcases hw with rfl | ⟨t, rfl⟩ <;> exact Nat.le_of_ble_eq_true rfl)) (by decide) rfl rfl rfl (Nat.le_of_ble_eq_true rfl) (oDec_at oJ0_checkIndex_df160 3 rfl) (fun r u hp hf => ?_)
  refine r_pop C (oDec_at oJ0_checkIndex_df160 4 rfl) rfl ?_
  exact r_vret C (oDec_at oJ0_checkIndex_df160 5 rfl) ⟨rfl, trivial⟩
set_option maxHeartbeats 4000000 in
theorem ct_J1_charAt_3b067 (l : Launch) (E : oE) (s : oS) (a1 : Int32) (h0 : 0 ≤ a1.toInt) (h1 : a1.toInt < 182) : oMet l 3 yJ1_charAt_3b067 cJ1_charAt_3b067 2 (some .char) [] E s [.ref (okv E), .int a1] (oPi (fun r u => r = oXb.getD a1.toNatClampNeg 0 &&& 255)) := by
  refine oMet.ofF (lv := [(0, .ref (okv E)), (1, .int a1)]) (by decide +kernel) (Nat.le_of_ble_eq_true rfl) rfl (fun J C hT => ?_)
  have C : oC l 3 cJ1_charAt_3b067 RJ1 2 (some .char) [] E s (oPi (fun r u => r = oXb.getD a1.toNatClampNeg 0 &&& 255)) J := C
  refine r_iload_n C (j := 1) (oDec_at oJ1_charAt_3b067 0 rfl) rfl rfl ?_
  refine r_aload_n C (j := 0) (oDec_at oJ1_charAt_3b067 1 rfl) rfl rfl ?_
  refine r_slen C (oDec_at oJ1_charAt_3b067 2 rfl) ?_
  have e182 : (182 : Int32).toInt = 182 := rfl
  refine r_callSv C (As := [.int a1, .int 182]) (n := 2) miJ0_checkIndex_df160 mlJ1_9 (ct_J0_checkIndex_df160 l E s a1 182 h0 (by omega)) (by decide) rfl rfl rfl (Nat.le_of_ble_eq_true rfl) (oDec_at oJ1_charAt_3b067 3 rfl) (fun u hp hf => ?_)
  refine r_aload_n C (j := 0) (oDec_at oJ1_charAt_3b067 4 rfl) rfl rfl ?_
  refine r_iload_n C (j := 1) (oDec_at oJ1_charAt_3b067 5 rfl) rfl rfl ?_
  refine r_sbld C h0 h1 (oDec_at oJ1_charAt_3b067 6 rfl) ?_
  refine r_sipush C (oDec_at oJ1_charAt_3b067 7 rfl) (v := 255) rfl ?_
  refine r_iand C _ (oDec_at oJ1_charAt_3b067 8 rfl) rfl ?_
  refine r_i2c C _ (oDec_at oJ1_charAt_3b067 9 rfl) (sc_c2 _) ?_
  exact r_zret C (sc_nar _) (oDec_at oJ1_charAt_3b067 10 rfl) ⟨_, rfl, rfl⟩
set_option maxHeartbeats 4000000 in
theorem ct_J0_charAt_5068e (l : Launch) (E : oE) (s : oS) (a1 : Int32) (h0 : 0 ≤ a1.toInt) (h1 : a1.toInt < 182) : oMet l 4 yJ0_charAt_5068e cJ0_charAt_5068e 2 (some .char) [] E s [.ref (oks E), .int a1] (oPi (fun r u => r = oXb.getD a1.toNatClampNeg 0 &&& 255)) := by
  refine oMet.ofF (lv := [(0, .ref (oks E)), (1, .int a1)]) (by decide +kernel) (Nat.le_of_ble_eq_true rfl) rfl (fun J C hT => ?_)
  have C : oC l 4 cJ0_charAt_5068e RJ0 2 (some .char) [] E s (oPi (fun r u => r = oXb.getD a1.toNatClampNeg 0 &&& 255)) J := C
  refine r_aload_n C (j := 0) (oDec_at oJ0_charAt_5068e 0 rfl) rfl rfl ?_
  refine r_callKi C miJ0_isLatin1_aae02 mlJ0_492 (ct_J0_isLatin1_aae02 l E s) (by decide) rfl rfl rfl (Nat.le_of_ble_eq_true rfl) (oDec_at oJ0_charAt_5068e 1 rfl) (fun r u hp hf => ?_)
  try dsimp only at hp
  subst hp
  refine r_if_eq C 16 (oDec_at oJ0_charAt_5068e 2 rfl) (by decide) (fun h => ?_) (fun h => ?_)
  · exact absurd h (by decide)
  · refine r_aload_n C (j := 0) (oDec_at oJ0_charAt_5068e 3 rfl) rfl rfl ?_
    refine r_sval C flJ0_9 (oDec_at oJ0_charAt_5068e 4 rfl) ?_
    refine r_iload_n C (j := 1) (oDec_at oJ0_charAt_5068e 5 rfl) rfl rfl ?_
    refine r_callSi C (As := [.ref (okv E), .int a1]) (n := 2) miJ1_charAt_3b067 mlJ0_495 (ct_J1_charAt_3b067 l E u a1 h0 h1) (by decide) rfl rfl rfl (Nat.le_of_ble_eq_true rfl) (oDec_at oJ0_charAt_5068e 6 rfl) (fun r2 u2 hp2 hf2 => ?_)
    try dsimp only at hp2
    refine r_pc C 15 rfl ?_
    exact r_zret C (by rw [hp2]; exact sc_nar _) (oDec_at oJ0_charAt_5068e 7 rfl) ⟨_, rfl, hp2⟩
