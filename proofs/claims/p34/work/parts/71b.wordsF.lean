set_option maxRecDepth 100000 in
theorem oqWd_F : ∀ i : Nat, i < 26 → ∀ j : Nat, j < oqWl i → (oSF.1 (73 + i) j).toInt = oqWc i j := by decide +kernel
