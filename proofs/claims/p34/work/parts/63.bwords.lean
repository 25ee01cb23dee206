theorem i_at {l : Launch} {d mc ms : Nat} {cc : ByteArray} {own nm : String} {nL : Nat} {E : oE} {n0 n' n k sl pc : Nat} {τ σ : oS} {J : (Nat → Nat) → Nat → oS → Nat → Nat → Nat → List (Nat × Value) → List Value → Prop} {ad : Nat → Nat} {lv : List (Nat × Value)} {st : List Value} (_ : oCi l d mc ms cc own nm nL E n0 n' τ J) {n2 k2 s2 pc2 : Nat} (h1 : n = n2) (h2 : k = k2) (h3 : sl = s2) (h4 : pc = pc2) (kk : J ad n2 σ k2 s2 pc2 lv st) : J ad n σ k sl pc lv st := by
  subst h1 h2 h3 h4
  exact kk
theorem obX11 : Cond.methodLink RX11 1 Lib.objectInit ∈ oTB := otb 148 (by decide +kernel) rfl
theorem obX0 : Cond.methodLink RX0 3 Lib.objectInit ∈ oTB := otb 213 (by decide +kernel) rfl
theorem obX1 : Cond.methodLink RX1 3 Lib.objectInit ∈ oTB := otb 323 (by decide +kernel) rfl
theorem obX2 : Cond.methodLink RX2 3 Lib.objectInit ∈ oTB := otb 297 (by decide +kernel) rfl
theorem obX3 : Cond.methodLink RX3 3 Lib.objectInit ∈ oTB := otb 483 (by decide +kernel) rfl
theorem obX4 : Cond.methodLink RX4 3 Lib.objectInit ∈ oTB := otb 173 (by decide +kernel) rfl
theorem obX5 : Cond.methodLink RX5 3 Lib.objectInit ∈ oTB := otb 258 (by decide +kernel) rfl
theorem obX6 : Cond.methodLink RX6 3 Lib.objectInit ∈ oTB := otb 489 (by decide +kernel) rfl
theorem obX7 : Cond.methodLink RX7 3 Lib.objectInit ∈ oTB := otb 455 (by decide +kernel) rfl
theorem obX8 : Cond.methodLink RX8 3 Lib.objectInit ∈ oTB := otb 156 (by decide +kernel) rfl
theorem obX9 : Cond.methodLink RX9 3 Lib.objectInit ∈ oTB := otb 329 (by decide +kernel) rfl
theorem obX10 : Cond.methodLink RX10 3 Lib.objectInit ∈ oTB := otb 401 (by decide +kernel) rfl
theorem obX12 : Cond.methodLink RX12 1 Lib.objectInit ∈ oTB := otb 1356 (by decide +kernel) rfl
theorem obI : Cond.instanceMethod Lib.objectInit ∈ oTB := otb 149 (by decide +kernel) rfl
theorem obC : Cond.code Lib.objectInit ⟨#[0xb1]⟩ 1 none ∈ oTB := otb 150 rfl rfl
theorem ckX11_7 : Cond.classLink RX11 7 RX8 ∈ oTB := otb 151 (by decide +kernel) rfl
theorem ckX11_16 : Cond.classLink RX11 16 RX4 ∈ oTB := otb 168 (by decide +kernel) rfl
theorem ckX11_29 : Cond.classLink RX11 29 RX0 ∈ oTB := otb 208 (by decide +kernel) rfl
theorem ckX11_39 : Cond.classLink RX11 39 RX5 ∈ oTB := otb 253 (by decide +kernel) rfl
theorem ckX11_48 : Cond.classLink RX11 48 RX2 ∈ oTB := otb 292 (by decide +kernel) rfl
theorem ckX11_57 : Cond.classLink RX11 57 RX1 ∈ oTB := otb 318 (by decide +kernel) rfl
theorem ckX11_64 : Cond.classLink RX11 64 RX9 ∈ oTB := otb 394 (by decide +kernel) rfl
theorem ckX11_71 : Cond.classLink RX11 71 RX10 ∈ oTB := otb 396 (by decide +kernel) rfl
theorem ckX11_78 : Cond.classLink RX11 78 RX7 ∈ oTB := otb 450 (by decide +kernel) rfl
theorem ckX11_85 : Cond.classLink RX11 85 RX3 ∈ oTB := otb 478 (by decide +kernel) rfl
theorem ckX1_24 : Cond.classLink RX1 24 RX9 ∈ oTB := otb 324 (by decide +kernel) rfl
theorem ckX3_24 : Cond.classLink RX3 24 RX6 ∈ oTB := otb 484 (by decide +kernel) rfl
theorem ckX6_18 : Cond.classLink RX6 18 RX9 ∈ oTB := otb 490 (by decide +kernel) rfl
theorem ckX10_40 : Cond.classLink RX10 40 RX9 ∈ oTB := otb 402 (by decide +kernel) rfl
theorem ckL_7 : Cond.classLink RL 7 RX11 ∈ oTB := otb 143 (by decide +kernel) rfl
theorem ckL_10 : Cond.classLink RL 10 RX12 ∈ oTB := otb 1351 (by decide +kernel) rfl
theorem isX11 : Cond.instantiable RX11 18 ∈ oTB := otb 144 (by decide +kernel) rfl
theorem isX8 : Cond.instantiable RX8 2 ∈ oTB := otb 152 (by decide +kernel) rfl
theorem isX4 : Cond.instantiable RX4 8 ∈ oTB := otb 169 (by decide +kernel) rfl
theorem isX0 : Cond.instantiable RX0 9 ∈ oTB := otb 209 (by decide +kernel) rfl
theorem isX5 : Cond.instantiable RX5 10 ∈ oTB := otb 254 (by decide +kernel) rfl
theorem isX2 : Cond.instantiable RX2 4 ∈ oTB := otb 293 (by decide +kernel) rfl
theorem isX1 : Cond.instantiable RX1 9 ∈ oTB := otb 319 (by decide +kernel) rfl
theorem isX9 : Cond.instantiable RX9 5 ∈ oTB := otb 325 (by decide +kernel) rfl
theorem isX10 : Cond.instantiable RX10 13 ∈ oTB := otb 397 (by decide +kernel) rfl
theorem isX7 : Cond.instantiable RX7 6 ∈ oTB := otb 451 (by decide +kernel) rfl
theorem isX3 : Cond.instantiable RX3 9 ∈ oTB := otb 479 (by decide +kernel) rfl
theorem isX6 : Cond.instantiable RX6 4 ∈ oTB := otb 485 (by decide +kernel) rfl
theorem isX12 : Cond.instantiable RX12 82 ∈ oTB := otb 1352 (by decide +kernel) rfl
theorem ac_int : Cond.arrayClass .int ∈ oTB := otb 167 (by decide +kernel) rfl
theorem ac_long : Cond.arrayClass .long ∈ oTB := otb 477 (by decide +kernel) rfl
theorem ac_char : Cond.arrayClass .char ∈ oTB := otb 1604 (by decide +kernel) rfl
theorem ac_boolean : Cond.arrayClass .boolean ∈ oTB := otb 1605 (by decide +kernel) rfl
theorem df11 : ∀ j, j < onf 11 → defaultValue (tyX11 j) = oDf (oft 11 j) := fun j hj => match j, hj with
  | 0, _ => rfl
  | 1, _ => rfl
  | 2, _ => rfl
  | 3, _ => rfl
  | 4, _ => rfl
  | 5, _ => rfl
  | 6, _ => rfl
  | 7, _ => rfl
  | 8, _ => rfl
  | 9, _ => rfl
  | 10, _ => rfl
  | 11, _ => rfl
  | 12, _ => rfl
  | 13, _ => rfl
  | 14, _ => rfl
  | 15, _ => rfl
  | 16, _ => rfl
  | 17, _ => rfl
  | k + 18, h => absurd (show k + 18 < 18 from h) (by omega)
theorem df8 : ∀ j, j < onf 8 → defaultValue (tyX8 j) = oDf (oft 8 j) := fun j hj => match j, hj with
  | 0, _ => rfl
  | 1, _ => rfl
  | k + 2, h => absurd (show k + 2 < 2 from h) (by omega)
theorem df4 : ∀ j, j < onf 4 → defaultValue (tyX4 j) = oDf (oft 4 j) := fun j hj => match j, hj with
  | 0, _ => rfl
  | 1, _ => rfl
  | 2, _ => rfl
  | 3, _ => rfl
  | 4, _ => rfl
  | 5, _ => rfl
  | 6, _ => rfl
  | 7, _ => rfl
  | k + 8, h => absurd (show k + 8 < 8 from h) (by omega)
theorem df0 : ∀ j, j < onf 0 → defaultValue (tyX0 j) = oDf (oft 0 j) := fun j hj => match j, hj with
  | 0, _ => rfl
  | 1, _ => rfl
  | 2, _ => rfl
  | 3, _ => rfl
  | 4, _ => rfl
  | 5, _ => rfl
  | 6, _ => rfl
  | 7, _ => rfl
  | 8, _ => rfl
  | k + 9, h => absurd (show k + 9 < 9 from h) (by omega)
theorem df5 : ∀ j, j < onf 5 → defaultValue (tyX5 j) = oDf (oft 5 j) := fun j hj => match j, hj with
  | 0, _ => rfl
  | 1, _ => rfl
  | 2, _ => rfl
  | 3, _ => rfl
  | 4, _ => rfl
  | 5, _ => rfl
  | 6, _ => rfl
  | 7, _ => rfl
  | 8, _ => rfl
  | 9, _ => rfl
  | k + 10, h => absurd (show k + 10 < 10 from h) (by omega)
theorem df2 : ∀ j, j < onf 2 → defaultValue (tyX2 j) = oDf (oft 2 j) := fun j hj => match j, hj with
  | 0, _ => rfl
  | 1, _ => rfl
  | 2, _ => rfl
  | 3, _ => rfl
  | k + 4, h => absurd (show k + 4 < 4 from h) (by omega)
theorem df1 : ∀ j, j < onf 1 → defaultValue (tyX1 j) = oDf (oft 1 j) := fun j hj => match j, hj with
  | 0, _ => rfl
  | 1, _ => rfl
  | 2, _ => rfl
  | 3, _ => rfl
  | 4, _ => rfl
  | 5, _ => rfl
  | 6, _ => rfl
  | 7, _ => rfl
  | 8, _ => rfl
  | k + 9, h => absurd (show k + 9 < 9 from h) (by omega)
theorem df9 : ∀ j, j < onf 9 → defaultValue (tyX9 j) = oDf (oft 9 j) := fun j hj => match j, hj with
  | 0, _ => rfl
  | 1, _ => rfl
  | 2, _ => rfl
  | 3, _ => rfl
  | 4, _ => rfl
  | k + 5, h => absurd (show k + 5 < 5 from h) (by omega)
theorem df10 : ∀ j, j < onf 10 → defaultValue (tyX10 j) = oDf (oft 10 j) := fun j hj => match j, hj with
  | 0, _ => rfl
  | 1, _ => rfl
  | 2, _ => rfl
  | 3, _ => rfl
  | 4, _ => rfl
  | 5, _ => rfl
  | 6, _ => rfl
  | 7, _ => rfl
  | 8, _ => rfl
  | 9, _ => rfl
  | 10, _ => rfl
  | 11, _ => rfl
  | 12, _ => rfl
  | k + 13, h => absurd (show k + 13 < 13 from h) (by omega)
theorem df7 : ∀ j, j < onf 7 → defaultValue (tyX7 j) = oDf (oft 7 j) := fun j hj => match j, hj with
  | 0, _ => rfl
  | 1, _ => rfl
  | 2, _ => rfl
  | 3, _ => rfl
  | 4, _ => rfl
  | 5, _ => rfl
  | k + 6, h => absurd (show k + 6 < 6 from h) (by omega)
theorem df3 : ∀ j, j < onf 3 → defaultValue (tyX3 j) = oDf (oft 3 j) := fun j hj => match j, hj with
  | 0, _ => rfl
  | 1, _ => rfl
  | 2, _ => rfl
  | 3, _ => rfl
  | 4, _ => rfl
  | 5, _ => rfl
  | 6, _ => rfl
  | 7, _ => rfl
  | 8, _ => rfl
  | k + 9, h => absurd (show k + 9 < 9 from h) (by omega)
theorem df6 : ∀ j, j < onf 6 → defaultValue (tyX6 j) = oDf (oft 6 j) := fun j hj => match j, hj with
  | 0, _ => rfl
  | 1, _ => rfl
  | 2, _ => rfl
  | 3, _ => rfl
  | k + 4, h => absurd (show k + 4 < 4 from h) (by omega)
theorem df12 : ∀ j, j < onf 12 → defaultValue (tyX12 j) = oDf (oft 12 j) := fun j hj => match j, hj with
  | 0, _ => rfl
  | 1, _ => rfl
  | 2, _ => rfl
  | 3, _ => rfl
  | 4, _ => rfl
  | 5, _ => rfl
  | 6, _ => rfl
  | 7, _ => rfl
  | 8, _ => rfl
  | 9, _ => rfl
  | 10, _ => rfl
  | 11, _ => rfl
  | 12, _ => rfl
  | 13, _ => rfl
  | 14, _ => rfl
  | 15, _ => rfl
  | 16, _ => rfl
  | 17, _ => rfl
  | 18, _ => rfl
  | 19, _ => rfl
  | 20, _ => rfl
  | 21, _ => rfl
  | 22, _ => rfl
  | 23, _ => rfl
  | 24, _ => rfl
  | 25, _ => rfl
  | 26, _ => rfl
  | 27, _ => rfl
  | 28, _ => rfl
  | 29, _ => rfl
  | 30, _ => rfl
  | 31, _ => rfl
  | 32, _ => rfl
  | 33, _ => rfl
  | 34, _ => rfl
  | 35, _ => rfl
  | 36, _ => rfl
  | 37, _ => rfl
  | 38, _ => rfl
  | 39, _ => rfl
  | 40, _ => rfl
  | 41, _ => rfl
  | 42, _ => rfl
  | 43, _ => rfl
  | 44, _ => rfl
  | 45, _ => rfl
  | 46, _ => rfl
  | 47, _ => rfl
  | 48, _ => rfl
  | 49, _ => rfl
  | 50, _ => rfl
  | 51, _ => rfl
  | 52, _ => rfl
  | 53, _ => rfl
  | 54, _ => rfl
  | 55, _ => rfl
  | 56, _ => rfl
  | 57, _ => rfl
  | 58, _ => rfl
  | 59, _ => rfl
  | 60, _ => rfl
  | 61, _ => rfl
  | 62, _ => rfl
  | 63, _ => rfl
  | 64, _ => rfl
  | 65, _ => rfl
  | 66, _ => rfl
  | 67, _ => rfl
  | 68, _ => rfl
  | 69, _ => rfl
  | 70, _ => rfl
  | 71, _ => rfl
  | 72, _ => rfl
  | 73, _ => rfl
  | 74, _ => rfl
  | 75, _ => rfl
  | 76, _ => rfl
  | 77, _ => rfl
  | 78, _ => rfl
  | 79, _ => rfl
  | 80, _ => rfl
  | 81, _ => rfl
  | k + 82, h => absurd (show k + 82 < 82 from h) (by omega)
theorem ra_int : ∀ (U : State) (cA : ClassId), va_RA U cA .int = (U.vm.findClass ("[" ++ (FieldType.int).toString) = some cA) := fun _ _ => rfl
theorem ra_char : ∀ (U : State) (cA : ClassId), va_RA U cA .char = (U.vm.findClass ("[" ++ (FieldType.char).toString) = some cA) := fun _ _ => rfl
theorem ra_boolean : ∀ (U : State) (cA : ClassId), va_RA U cA .boolean = (U.vm.findClass ("[" ++ (FieldType.boolean).toString) = some cA) := fun _ _ => rfl
theorem ra_long : ∀ (U : State) (cA : ClassId), va_RA U cA .long = (U.vm.findClass ("[" ++ (FieldType.long).toString) = some cA) := fun _ _ => rfl
set_option maxRecDepth 20000 in
theorem mkX11_init : oMk0 yX11_init cX11_init 1 0 := ⟨otb 147 rfl rfl, otb 146 (by decide +kernel) rfl, inX11, by decide, by decide +kernel, by decide +kernel, by decide +kernel⟩
set_option maxRecDepth 20000 in
theorem mkX8_init : oMk0 yX8_init cX8_init 1 0 := ⟨otb 155 rfl rfl, otb 154 (by decide +kernel) rfl, inX8, by decide, by decide +kernel, by decide +kernel, by decide +kernel⟩
set_option maxRecDepth 20000 in
theorem mkX4_init : oMk0 yX4_init cX4_init 1 0 := ⟨otb 172 rfl rfl, otb 171 (by decide +kernel) rfl, inX4, by decide, by decide +kernel, by decide +kernel, by decide +kernel⟩
set_option maxRecDepth 20000 in
theorem mkX0_init : oMk0 yX0_init cX0_init 1 0 := ⟨otb 212 rfl rfl, otb 211 (by decide +kernel) rfl, inX0, by decide, by decide +kernel, by decide +kernel, by decide +kernel⟩
set_option maxRecDepth 20000 in
theorem mkX5_init : oMk0 yX5_init cX5_init 3 2 := ⟨otb 257 rfl rfl, otb 256 (by decide +kernel) rfl, inX5, by decide, by decide +kernel, by decide +kernel, by decide +kernel⟩
set_option maxRecDepth 20000 in
theorem mkX2_init : oMk0 yX2_init cX2_init 2 1 := ⟨otb 296 rfl rfl, otb 295 (by decide +kernel) rfl, inX2, by decide, by decide +kernel, by decide +kernel, by decide +kernel⟩
set_option maxRecDepth 20000 in
theorem mkX1_init : oMk0 yX1_init cX1_init 1 0 := ⟨otb 322 rfl rfl, otb 321 (by decide +kernel) rfl, inX1, by decide, by decide +kernel, by decide +kernel, by decide +kernel⟩
set_option maxRecDepth 20000 in
theorem mkX9_init : oMk0 yX9_init cX9_init 1 0 := ⟨otb 328 rfl rfl, otb 327 (by decide +kernel) rfl, inX9, by decide, by decide +kernel, by decide +kernel, by decide +kernel⟩
set_option maxRecDepth 20000 in
theorem mkX10_init : oMk0 yX10_init cX10_init 1 0 := ⟨otb 400 rfl rfl, otb 399 (by decide +kernel) rfl, inX10, by decide, by decide +kernel, by decide +kernel, by decide +kernel⟩
set_option maxRecDepth 20000 in
theorem mkX7_init : oMk0 yX7_init cX7_init 1 0 := ⟨otb 454 rfl rfl, otb 453 (by decide +kernel) rfl, inX7, by decide, by decide +kernel, by decide +kernel, by decide +kernel⟩
set_option maxRecDepth 20000 in
theorem mkX3_init : oMk0 yX3_init cX3_init 1 0 := ⟨otb 482 rfl rfl, otb 481 (by decide +kernel) rfl, inX3, by decide, by decide +kernel, by decide +kernel, by decide +kernel⟩
set_option maxRecDepth 20000 in
theorem mkX6_init : oMk0 yX6_init cX6_init 1 0 := ⟨otb 488 rfl rfl, otb 487 (by decide +kernel) rfl, inX6, by decide, by decide +kernel, by decide +kernel, by decide +kernel⟩
set_option maxRecDepth 20000 in
theorem mkX12_init : oMk0 yX12_init cX12_init 1 0 := ⟨otb 1355 rfl rfl, otb 1354 (by decide +kernel) rfl, inX12, by decide, by decide +kernel, by decide +kernel, by decide +kernel⟩
