theorem c_Mo_nameSize_34 {I : mI} {A : mA} {L : mL} {p : Int32} (h0 : 0 ≤ p) (h1 : p < 70000) (h2 : 0 ≤ (p + 1 + ((gmt (A 54)) p - 243 + 1))) (h3 : (p + 1 + ((gmt (A 54)) p - 243 + 1)) < 69987) : xm m_Mo_nameSize (2, 42) [.ref 34, .int p] (pic I A L) 0 0 (fun o => o = (.inl (some (.int ((gmt (A 54)) ((p + 1 + ((gmt (A 54)) p - 243 + 1)) + 12) + (gmt (A 54)) ((p + 1 + ((gmt (A 54)) p - 243 + 1)) + 13)))), (pic I A L))) := by
  refine xm_of rfl (by decide) (Nat.le_of_ble_eq_true rfl) ?_
  refine xr_aload_n D_Mo_nameSize_0 rfl rfl ?_
  refine xr_iload_n D_Mo_nameSize_1 rfl rfl ?_
  refine xr_cVx (as := [_]) (c_Mo_behindNumber_34 (by grind) (by grind)) (L_Mo_241) (CD_Mo_behindNumber) CI_Mo D_Mo_nameSize_2 rfl rfl (by decide) (Nat.le_of_ble_eq_true rfl) (Nat.le_of_eq (Nat.zero_add _)) (Nat.le_of_eq (Nat.zero_add _)) pic_len ?_
  rintro _ rfl
  refine ⟨_, _, rfl, rfl, ?_⟩
  refine xr_istore_n D_Mo_nameSize_5 rfl (by decide) ?_
  refine xr_aload_n D_Mo_nameSize_6 rfl rfl ?_
  refine xr_iload_n D_Mo_nameSize_7 rfl rfl ?_
  refine xr_bipush (v := 12) D_Mo_nameSize_8 rfl ?_
  refine xr_iadd D_Mo_nameSize_10 ?_
  refine xr_cVx (as := [_]) (c_Mo_byteAt_34 (by grind) (by grind)) (L_Mo_200) (CD_Mo_byteAt) CI_Mo D_Mo_nameSize_11 rfl rfl (by decide) (Nat.le_of_ble_eq_true rfl) (Nat.le_of_eq (Nat.zero_add _)) (Nat.le_of_eq (Nat.zero_add _)) pic_len ?_
  rintro _ rfl
  refine ⟨_, _, rfl, rfl, ?_⟩
  refine xr_aload_n D_Mo_nameSize_14 rfl rfl ?_
  refine xr_iload_n D_Mo_nameSize_15 rfl rfl ?_
  refine xr_bipush (v := 13) D_Mo_nameSize_16 rfl ?_
  refine xr_iadd D_Mo_nameSize_18 ?_
  refine xr_cVx (as := [_]) (c_Mo_byteAt_34 (by grind) (by grind)) (L_Mo_200) (CD_Mo_byteAt) CI_Mo D_Mo_nameSize_19 rfl rfl (by decide) (Nat.le_of_ble_eq_true rfl) (Nat.le_of_eq (Nat.zero_add _)) (Nat.le_of_eq (Nat.zero_add _)) pic_len ?_
  rintro _ rfl
  refine ⟨_, _, rfl, rfl, ?_⟩
  refine xr_iadd D_Mo_nameSize_22 ?_
  refine xr_iret rfl D_Mo_nameSize_23 ?_
  exact rfl
