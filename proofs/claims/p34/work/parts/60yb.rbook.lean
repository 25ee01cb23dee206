set_option maxHeartbeats 4000000 in
set_option maxRecDepth 100000 in
theorem ct5_X5_begin (l : Launch) (E : oE) (s : oS)    : oMet l 1 yX5_begin cX5_begin 1 none [(5, 2), (5, 3), (5, 5), (5, 8), (5, 9)] E s [.ref (oad E 30)] (oPv (fun u => ((u.1 30 2).toInt = 0) ∧ ((u.1 30 3).toInt = -1) ∧ ((u.1 30 8).toInt = 0) ∧ ((u.1 30 9).toInt = -1) ∧ ((u.1 30 5).toInt = 0))) := by
  refine oMet.of (lv := [(0, .ref (oad E 30))]) (by decide +kernel) (Nat.le_of_ble_eq_true rfl) rfl (fun J C hT => ?_)
  have C : oC l 1 cX5_begin RX5 1 none [(5, 2), (5, 3), (5, 5), (5, 8), (5, 9)] E s (oPv (fun u => ((u.1 30 2).toInt = 0) ∧ ((u.1 30 3).toInt = -1) ∧ ((u.1 30 8).toInt = 0) ∧ ((u.1 30 9).toInt = -1) ∧ ((u.1 30 5).toInt = 0))) J := C
  obtain ⟨km1, qkm1⟩ : ∃ z : Int32, z = (-1) := ⟨_, rfl⟩
  have ekm1 : km1.toInt = (-1) := by rw [qkm1]; rfl
  obtain ⟨k0, qk0⟩ : ∃ z : Int32, z = 0 := ⟨_, rfl⟩
  have ek0 : k0.toInt = 0 := by rw [qk0]; rfl
  refine r_aload_n C (j := 0) (oDec_at oX5_begin 0 rfl) rfl rfl ?_
  refine r_iconst C (oDec_at oX5_begin 1 rfl) (v := k0) (by rw [qk0]; rfl) ?_
  refine r_puti (k := 2) (lo := 0) (hi := 1600) C oCl5 rfl (by decide) flX5_23 rfl rfl rfl rfl rfl rfl rfl rfl ⟨by omega, by omega⟩ (oDec_at oX5_begin 2 rfl) ?_
  refine r_aload_n C (j := 0) (oDec_at oX5_begin 3 rfl) rfl rfl ?_
  refine r_iconst C (oDec_at oX5_begin 4 rfl) (v := km1) (by rw [qkm1]; rfl) ?_
  refine r_puti (k := 3) (lo := (-1)) (hi := 1600) C oCl5 rfl (by decide) flX5_26 rfl rfl rfl rfl rfl rfl rfl rfl ⟨by omega, by omega⟩ (oDec_at oX5_begin 5 rfl) ?_
  refine r_pc C 10 rfl ?_
  refine r_aload_n C (j := 0) (oDec_at oX5_begin 6 rfl) rfl rfl ?_
  refine r_iconst C (oDec_at oX5_begin 7 rfl) (v := k0) (by rw [qk0]; rfl) ?_
  refine r_puti (k := 5) (lo := 0) (hi := 6) C oCl5 rfl (by decide) flX5_29 rfl rfl rfl rfl rfl rfl rfl rfl ⟨by omega, by omega⟩ (oDec_at oX5_begin 8 rfl) ?_
  refine r_aload_n C (j := 0) (oDec_at oX5_begin 9 rfl) rfl rfl ?_
  refine r_iconst C (oDec_at oX5_begin 10 rfl) (v := k0) (by rw [qk0]; rfl) ?_
  refine r_puti (k := 8) (lo := (-2147483648)) (hi := 2147483647) C oCl5 rfl (by decide) flX5_32 rfl rfl rfl rfl rfl rfl rfl rfl (n_rng _) (oDec_at oX5_begin 11 rfl) ?_
  refine r_pc C 20 rfl ?_
  refine r_aload_n C (j := 0) (oDec_at oX5_begin 12 rfl) rfl rfl ?_
  refine r_iconst C (oDec_at oX5_begin 13 rfl) (v := km1) (by rw [qkm1]; rfl) ?_
  refine r_puti (k := 9) (lo := (-2147483648)) (hi := 2147483647) C oCl5 rfl (by decide) flX5_9 rfl rfl rfl rfl rfl rfl rfl rfl (n_rng _) (oDec_at oX5_begin 14 rfl) ?_
  have lk1 : (((pI (pI (pI (pI (pI s 30 2 k0) 30 3 km1) 30 5 k0) 30 8 k0) 30 9 km1)).1 30 2).toInt = k0.toInt := congrArg Int32.toInt (((pI_ne (a := 30) (b := 2) (c := 30) (k := 9) _ _ (Or.inr (by decide)))).trans (((pI_ne (a := 30) (b := 2) (c := 30) (k := 8) _ _ (Or.inr (by decide)))).trans (((pI_ne (a := 30) (b := 2) (c := 30) (k := 5) _ _ (Or.inr (by decide)))).trans (((pI_ne (a := 30) (b := 2) (c := 30) (k := 3) _ _ (Or.inr (by decide)))).trans ((pI_self _ _ _ _))))))
  have lk2 : (((pI (pI (pI (pI (pI s 30 2 k0) 30 3 km1) 30 5 k0) 30 8 k0) 30 9 km1)).1 30 3).toInt = km1.toInt := congrArg Int32.toInt (((pI_ne (a := 30) (b := 3) (c := 30) (k := 9) _ _ (Or.inr (by decide)))).trans (((pI_ne (a := 30) (b := 3) (c := 30) (k := 8) _ _ (Or.inr (by decide)))).trans (((pI_ne (a := 30) (b := 3) (c := 30) (k := 5) _ _ (Or.inr (by decide)))).trans ((pI_self _ _ _ _)))))
  have lk3 : (((pI (pI (pI (pI (pI s 30 2 k0) 30 3 km1) 30 5 k0) 30 8 k0) 30 9 km1)).1 30 8).toInt = k0.toInt := congrArg Int32.toInt (((pI_ne (a := 30) (b := 8) (c := 30) (k := 9) _ _ (Or.inr (by decide)))).trans ((pI_self _ _ _ _)))
  have lk4 : (((pI (pI (pI (pI (pI s 30 2 k0) 30 3 km1) 30 5 k0) 30 8 k0) 30 9 km1)).1 30 9).toInt = km1.toInt := congrArg Int32.toInt ((pI_self _ _ _ _))
  have lk5 : (((pI (pI (pI (pI (pI s 30 2 k0) 30 3 km1) 30 5 k0) 30 8 k0) 30 9 km1)).1 30 5).toInt = k0.toInt := congrArg Int32.toInt (((pI_ne (a := 30) (b := 5) (c := 30) (k := 9) _ _ (Or.inr (by decide)))).trans (((pI_ne (a := 30) (b := 5) (c := 30) (k := 8) _ _ (Or.inr (by decide)))).trans ((pI_self _ _ _ _))))
  exact r_vret C (oDec_at oX5_begin 15 rfl) ⟨rfl, ⟨by omega, by omega, by omega, by omega, by omega⟩⟩
