theorem LC_8 : Cond.classLink "DviBytesLaw" 8 "DviBytes" ∈ xtb := xtb_at 82 (by decide +kernel) (by decide +kernel)
theorem LC_13 : Cond.classLink "DviBytesLaw" 13 "java/lang/IllegalArgumentException" ∈ xtb := xtb_at 572 (by decide +kernel) (by decide +kernel)
theorem LC_15 : Cond.classLink "DviBytesLaw" 15 "java/lang/IllegalStateException" ∈ xtb := xtb_at 573 (by decide +kernel) (by decide +kernel)
theorem LC_32 : Cond.classLink "DviBytesLaw" 32 "java/lang/UnsupportedOperationException" ∈ xtb := xtb_at 728 (by decide +kernel) (by decide +kernel)
theorem LC_41 : Cond.classLink "DviBytesLaw" 41 "java/lang/ArithmeticException" ∈ xtb := xtb_at 781 (by decide +kernel) (by decide +kernel)
theorem LC_50 : Cond.classLink "DviBytesLaw" 50 "java/lang/IndexOutOfBoundsException" ∈ xtb := xtb_at 943 (by decide +kernel) (by decide +kernel)
theorem LC_66 : Cond.classLink "DviBytesLaw" 66 "DviBytesModel" ∈ xtb := xtb_at 1006 (by decide +kernel) (by decide +kernel)
theorem CW_La_font : xcdW m_La_font := xtb_at 571 (by decide +kernel) (by decide +kernel)
theorem CW_La_width : xcdW m_La_width := xtb_at 686 (by decide +kernel) (by decide +kernel)
theorem CW_La_count : xcdW m_La_count := xtb_at 698 (by decide +kernel) (by decide +kernel)
theorem CW_La_begin : xcdW m_La_begin := xtb_at 706 (by decide +kernel) (by decide +kernel)
theorem CW_La_put : xcdW m_La_put := xtb_at 727 (by decide +kernel) (by decide +kernel)
theorem CW_La_rule : xcdW m_La_rule := xtb_at 769 (by decide +kernel) (by decide +kernel)
theorem CW_La_ship : xcdW m_La_ship := xtb_at 780 (by decide +kernel) (by decide +kernel)
theorem CW_La_close : xcdW m_La_close := xtb_at 931 (by decide +kernel) (by decide +kernel)
theorem CW_La_out : xcdW m_La_out := xtb_at 942 (by decide +kernel) (by decide +kernel)
theorem CW_La_about : xcdW m_La_about := xtb_at 967 (by decide +kernel) (by decide +kernel)
theorem CW_La_mark : xcdW m_La_mark := xtb_at 975 (by decide +kernel) (by decide +kernel)
theorem CW_La_page : xcdW m_La_page := xtb_at 987 (by decide +kernel) (by decide +kernel)
theorem CW_La_told : xcdW m_La_told := xtb_at 999 (by decide +kernel) (by decide +kernel)
theorem c_La_width {I : mI} {A : mA} {L : mL} {f : Int32} {c : Int32} {w : Int32}  : xmW m_La_width (7, 113) [.ref 0, .int f, .int c, .int w] (pic I A L) 1 6 (fun o => ((¬ ((0 ≤ f ∧ f ≤ 255) ∧ (0 ≤ c ∧ c ≤ 255))) ∧ o = (.inl (some (.int 1)), pic I A L)) ∨ (((0 ≤ f ∧ f ≤ 255) ∧ (0 ≤ c ∧ c ≤ 255)) ∧ o = (.inl (some (.int 0)), pic I (upA A 2 (f * 256 + c).toNatClampNeg w) L))) := by
  refine xmW_of (by decide) (Nat.le_of_ble_eq_true rfl) ?_
  refine xr_aload_n D_La_width_0 rfl rfl ?_
  refine xr_iload_n D_La_width_1 rfl rfl ?_
  refine xr_iload_n D_La_width_2 rfl rfl ?_
  refine xr_iload_n D_La_width_3 rfl rfl ?_
  have hsp : (¬ ((0 ≤ f ∧ f ≤ 255) ∧ (0 ≤ c ∧ c ≤ 255))) ∨ ((0 ≤ f ∧ f ≤ 255) ∧ (0 ≤ c ∧ c ≤ 255)) := by grind
  rcases hsp with hc | hc
  · refine xr_callVT (as := [_, _, _]) (len := 0) (i := 0) (xm_mono (P' := fun o => o = (.inr "java/lang/IllegalArgumentException", pic I A L)) (c_Dv_width_0) (by
      rintro _ (⟨_, rfl⟩ | ⟨hx, rfl⟩)
      · exact rfl
      · exfalso; grind)) (by rintro _ rfl; exact ⟨_, rfl⟩) L_La_17 CD_Dv_width rfl D_La_width_4.1 rfl CI_Dv (by decide) (Nat.le_of_ble_eq_true rfl) (rc' := 0) (rs' := 0) (Nat.le_refl _) (Nat.le_refl _) ?_
    rintro E h' he
    cases he
    refine ⟨rfl, 10, 4, ⟨[], (0, 7, 10, 13), [], rfl, rfl, ⟨by decide, by decide, by decide, _, LC_13, rfl, XI_74⟩, by intro y hy; cases hy⟩, by decide, ?_⟩
    refine Or.inr ⟨D_La_width_10.1, ?_⟩
    refine xr_iconst (v := 1) D_La_width_12 rfl ?_
    exact xr_iret rfl D_La_width_13 (Or.inl ⟨hc, rfl⟩)
  · refine xr_cVv (as := [_, _, _]) (xm_mono (P' := fun o => o = (.inl none, pic I (upA A 2 (f * 256 + c).toNatClampNeg w) L)) (c_Dv_width_0) (by
      rintro _ (⟨hx, rfl⟩ | ⟨_, rfl⟩)
      · exfalso; grind
      · exact rfl)) L_La_17 CD_Dv_width CI_Dv D_La_width_4 rfl rfl (by decide) (Nat.le_of_ble_eq_true rfl) (rc' := 0) (rs' := 0) (Nat.le_refl _) (Nat.le_refl _) pic_len ?_
    rintro _ rfl
    refine ⟨_, rfl, rfl, ?_⟩
    refine xr_goto (tgt := 14) D_La_width_7 rfl ?_
    refine xr_iconst (v := 0) D_La_width_14 rfl ?_
    refine xr_iret rfl D_La_width_15 ?_
    exact Or.inr (⟨hc, rfl⟩)

theorem c_La_count {I : mI} {A : mA} {L : mL} {i : Int32} {v : Int32}  : xmW m_La_count (7, 112) [.ref 0, .int i, .int v] (pic I A L) 1 6 (fun o => ((¬ (0 ≤ i ∧ i < 10)) ∧ o = (.inl (some (.int 1)), pic I A L)) ∨ ((0 ≤ i ∧ i < 10) ∧ o = (.inl (some (.int 0)), pic I (upA A 10 i.toNatClampNeg v) L))) := by
  refine xmW_of (by decide) (Nat.le_of_ble_eq_true rfl) ?_
  refine xr_aload_n D_La_count_0 rfl rfl ?_
  refine xr_iload_n D_La_count_1 rfl rfl ?_
  refine xr_iload_n D_La_count_2 rfl rfl ?_
  have hsp : (¬ (0 ≤ i ∧ i < 10)) ∨ (0 ≤ i ∧ i < 10) := by grind
  rcases hsp with hc | hc
  · refine xr_callVT (as := [_, _]) (len := 0) (i := 0) (xm_mono (P' := fun o => o = (.inr "java/lang/IllegalArgumentException", pic I A L)) (c_Dv_count_0) (by
      rintro _ (⟨_, rfl⟩ | ⟨hx, rfl⟩)
      · exact rfl
      · exfalso; grind)) (by rintro _ rfl; exact ⟨_, rfl⟩) L_La_21 CD_Dv_count rfl D_La_count_3.1 rfl CI_Dv (by decide) (Nat.le_of_ble_eq_true rfl) (rc' := 0) (rs' := 0) (Nat.le_refl _) (Nat.le_refl _) ?_
    rintro E h' he
    cases he
    refine ⟨rfl, 9, 3, ⟨[], (0, 6, 9, 13), [], rfl, rfl, ⟨by decide, by decide, by decide, _, LC_13, rfl, XI_74⟩, by intro y hy; cases hy⟩, by decide, ?_⟩
    refine Or.inl ⟨3, rfl, D_La_count_9.1, ?_⟩
    refine xr_iconst (v := 1) D_La_count_10 rfl ?_
    exact xr_iret rfl D_La_count_11 (Or.inl ⟨hc, rfl⟩)
  · refine xr_cVv (as := [_, _]) (xm_mono (P' := fun o => o = (.inl none, pic I (upA A 10 i.toNatClampNeg v) L)) (c_Dv_count_0) (by
      rintro _ (⟨hx, rfl⟩ | ⟨_, rfl⟩)
      · exfalso; grind
      · exact rfl)) L_La_21 CD_Dv_count CI_Dv D_La_count_3 rfl rfl (by decide) (Nat.le_of_ble_eq_true rfl) (rc' := 0) (rs' := 0) (Nat.le_refl _) (Nat.le_refl _) pic_len ?_
    rintro _ rfl
    refine ⟨_, rfl, rfl, ?_⟩
    refine xr_goto (tgt := 12) D_La_count_6 rfl ?_
    refine xr_iconst (v := 0) D_La_count_12 rfl ?_
    refine xr_iret rfl D_La_count_13 ?_
    exact Or.inr (⟨hc, rfl⟩)

theorem c_La_put {I : mI} {A : mA} {L : mL} {f : Int32} {c : Int32} {x : Int32} {y : Int32} (h0 : 0 ≤ I 1101) : xmW m_La_put (7, 114) [.ref 0, .int f, .int c, .int x, .int y, .ref 61] (pic I A L) 1 6 (fun o => ((¬ (((0 ≤ f ∧ f ≤ 255) ∧ 0 < A 9 f.toNatClampNeg) ∧ (0 ≤ c ∧ c ≤ 255) ∧ (-1000000000 ≤ x ∧ x ≤ 1000000000) ∧ (-1000000000 ≤ y ∧ y ≤ 1000000000))) ∧ o = (.inl (some (.int 1)), pic I A L)) ∨ (((((0 ≤ f ∧ f ≤ 255) ∧ 0 < A 9 f.toNatClampNeg) ∧ (0 ≤ c ∧ c ≤ 255) ∧ (-1000000000 ≤ x ∧ x ≤ 1000000000) ∧ (-1000000000 ≤ y ∧ y ≤ 1000000000)) ∧ 500 ≤ I 1101) ∧ o = (.inl (some (.int 2)), pic I A L)) ∨ (((((0 ≤ f ∧ f ≤ 255) ∧ 0 < A 9 f.toNatClampNeg) ∧ (0 ≤ c ∧ c ≤ 255) ∧ (-1000000000 ≤ x ∧ x ≤ 1000000000) ∧ (-1000000000 ≤ y ∧ y ≤ 1000000000)) ∧ I 1101 < 500) ∧ o = (.inl (some (.int 0)), pic (upd I 1101 (I 1101 + 1)) (upA (upA (upA (upA (upA A 12 (I 1101 * 5).toNatClampNeg f) 12 (I 1101 * 5 + 1).toNatClampNeg c) 12 (I 1101 * 5 + 2).toNatClampNeg 0) 12 (I 1101 * 5 + 3).toNatClampNeg x) 12 (I 1101 * 5 + 4).toNatClampNeg y) (upL L 61 0 ((I 1101 + 1)).toInt64)))) := by
  refine xmW_of (by decide) (Nat.le_of_ble_eq_true rfl) ?_
  refine xr_aload D_La_put_0 rfl ?_
  refine xr_iconst (v := 0) D_La_put_2 rfl ?_
  refine xr_aload_n D_La_put_3 rfl rfl ?_
  refine xr_iload_n D_La_put_4 rfl rfl ?_
  refine xr_iload_n D_La_put_5 rfl rfl ?_
  refine xr_iload_n D_La_put_6 rfl rfl ?_
  refine xr_iload D_La_put_7 rfl ?_
  have hsp : (¬ (((0 ≤ f ∧ f ≤ 255) ∧ 0 < A 9 f.toNatClampNeg) ∧ (0 ≤ c ∧ c ≤ 255) ∧ (-1000000000 ≤ x ∧ x ≤ 1000000000) ∧ (-1000000000 ≤ y ∧ y ≤ 1000000000))) ∨ ((((0 ≤ f ∧ f ≤ 255) ∧ 0 < A 9 f.toNatClampNeg) ∧ (0 ≤ c ∧ c ≤ 255) ∧ (-1000000000 ≤ x ∧ x ≤ 1000000000) ∧ (-1000000000 ≤ y ∧ y ≤ 1000000000)) ∧ 500 ≤ I 1101) ∨ ((((0 ≤ f ∧ f ≤ 255) ∧ 0 < A 9 f.toNatClampNeg) ∧ (0 ≤ c ∧ c ≤ 255) ∧ (-1000000000 ≤ x ∧ x ≤ 1000000000) ∧ (-1000000000 ≤ y ∧ y ≤ 1000000000)) ∧ I 1101 < 500) := by grind
  rcases hsp with hc | hc | hc
  · refine xr_callVT (as := [_, _, _, _]) (len := 0) (i := 0) (xm_mono (P' := fun o => o = (.inr "java/lang/IllegalArgumentException", pic I A L)) (c_Dv_put_0 h0) (by
      rintro _ (⟨_, rfl⟩ | ⟨hx, rfl⟩ | ⟨hx, rfl⟩)
      · exact rfl
      · exfalso; grind
      · exfalso; grind)) (by rintro _ rfl; exact ⟨_, rfl⟩) L_La_28 CD_Dv_put rfl D_La_put_9.1 rfl CI_Dv (by decide) (Nat.le_of_ble_eq_true rfl) (rc' := 0) (rs' := 0) (Nat.le_refl _) (Nat.le_refl _) ?_
    rintro E h' he
    cases he
    refine ⟨rfl, 17, 6, ⟨[], (0, 14, 17, 13), [(0, 14, 21, 32)], rfl, rfl, ⟨by decide, by decide, by decide, _, LC_13, rfl, XI_74⟩, by intro y hy; cases hy⟩, by decide, ?_⟩
    refine Or.inr ⟨D_La_put_17.1, ?_⟩
    refine xr_iconst (v := 1) D_La_put_19 rfl ?_
    exact xr_iret rfl D_La_put_20 (Or.inl ⟨hc, rfl⟩)
  · refine xr_callVT (as := [_, _, _, _]) (len := 0) (i := 0) (xm_mono (P' := fun o => o = (.inr "java/lang/UnsupportedOperationException", pic I A L)) (c_Dv_put_0 h0) (by
      rintro _ (⟨hx, rfl⟩ | ⟨_, rfl⟩ | ⟨hx, rfl⟩)
      · exfalso; grind
      · exact rfl
      · exfalso; grind)) (by rintro _ rfl; exact ⟨_, rfl⟩) L_La_28 CD_Dv_put rfl D_La_put_9.1 rfl CI_Dv (by decide) (Nat.le_of_ble_eq_true rfl) (rc' := 0) (rs' := 0) (Nat.le_refl _) (Nat.le_refl _) ?_
    rintro E h' he
    cases he
    refine ⟨rfl, 21, 6, ⟨[(0, 14, 17, 13)], (0, 14, 21, 32), [], rfl, rfl, ⟨by decide, by decide, by decide, _, LC_32, rfl, XI_126⟩, by intro y hy; cases List.mem_singleton.mp hy; exact ⟨by decide, by decide, by decide, _, LC_13, by decide +kernel⟩⟩, by decide, ?_⟩
    refine Or.inr ⟨D_La_put_21.1, ?_⟩
    refine xr_iconst (v := 2) D_La_put_23 rfl ?_
    exact xr_iret rfl D_La_put_24 (Or.inr (Or.inl ⟨hc, rfl⟩))
  · refine xr_cVx (as := [_, _, _, _]) (xm_mono (P' := fun o => o = (.inl (some (.int (I 1101 + 1))), pic (upd I 1101 (I 1101 + 1)) (upA (upA (upA (upA (upA A 12 (I 1101 * 5).toNatClampNeg f) 12 (I 1101 * 5 + 1).toNatClampNeg c) 12 (I 1101 * 5 + 2).toNatClampNeg 0) 12 (I 1101 * 5 + 3).toNatClampNeg x) 12 (I 1101 * 5 + 4).toNatClampNeg y) L)) (c_Dv_put_0 h0) (by
      rintro _ (⟨hx, rfl⟩ | ⟨hx, rfl⟩ | ⟨_, rfl⟩)
      · exfalso; grind
      · exfalso; grind
      · exact rfl)) L_La_28 CD_Dv_put CI_Dv D_La_put_9 rfl rfl (by decide) (Nat.le_of_ble_eq_true rfl) (rc' := 0) (rs' := 0) (Nat.le_refl _) (Nat.le_refl _) pic_len ?_
    rintro _ rfl
    refine ⟨_, _, rfl, rfl, ?_⟩
    refine xr_i2l D_La_put_12 ?_
    refine xr_last D_La_put_13 rfl (by exact i_in2 1 (by decide) (by decide) rfl) (aset_61) ?_
    refine xr_goto (tgt := 25) D_La_put_14 rfl ?_
    refine xr_iconst (v := 0) D_La_put_25 rfl ?_
    refine xr_iret rfl D_La_put_26 ?_
    exact Or.inr (Or.inr (⟨hc, rfl⟩))

theorem c_La_rule {I : mI} {A : mA} {L : mL} {x : Int32} {y : Int32} {w : Int32} {t : Int32} (h0 : 0 ≤ I 1101) : xmW m_La_rule (7, 114) [.ref 0, .int x, .int y, .int w, .int t, .ref 61] (pic I A L) 1 6 (fun o => ((¬ ((-1000000000 ≤ x ∧ x ≤ 1000000000) ∧ (-1000000000 ≤ y ∧ y ≤ 1000000000) ∧ (1 ≤ w ∧ w ≤ 1000000000) ∧ (1 ≤ t ∧ t ≤ 1000000000))) ∧ o = (.inl (some (.int 1)), pic I A L)) ∨ ((((-1000000000 ≤ x ∧ x ≤ 1000000000) ∧ (-1000000000 ≤ y ∧ y ≤ 1000000000) ∧ (1 ≤ w ∧ w ≤ 1000000000) ∧ (1 ≤ t ∧ t ≤ 1000000000)) ∧ 500 ≤ I 1101) ∧ o = (.inl (some (.int 2)), pic I A L)) ∨ ((((-1000000000 ≤ x ∧ x ≤ 1000000000) ∧ (-1000000000 ≤ y ∧ y ≤ 1000000000) ∧ (1 ≤ w ∧ w ≤ 1000000000) ∧ (1 ≤ t ∧ t ≤ 1000000000)) ∧ I 1101 < 500) ∧ o = (.inl (some (.int 0)), pic (upd I 1101 (I 1101 + 1)) (upA (upA (upA (upA (upA A 12 (I 1101 * 5).toNatClampNeg (-1)) 12 (I 1101 * 5 + 1).toNatClampNeg w) 12 (I 1101 * 5 + 2).toNatClampNeg t) 12 (I 1101 * 5 + 3).toNatClampNeg x) 12 (I 1101 * 5 + 4).toNatClampNeg y) (upL L 61 0 ((I 1101 + 1)).toInt64)))) := by
  refine xmW_of (by decide) (Nat.le_of_ble_eq_true rfl) ?_
  refine xr_aload D_La_rule_0 rfl ?_
  refine xr_iconst (v := 0) D_La_rule_2 rfl ?_
  refine xr_aload_n D_La_rule_3 rfl rfl ?_
  refine xr_iload_n D_La_rule_4 rfl rfl ?_
  refine xr_iload_n D_La_rule_5 rfl rfl ?_
  refine xr_iload_n D_La_rule_6 rfl rfl ?_
  refine xr_iload D_La_rule_7 rfl ?_
  have hsp : (¬ ((-1000000000 ≤ x ∧ x ≤ 1000000000) ∧ (-1000000000 ≤ y ∧ y ≤ 1000000000) ∧ (1 ≤ w ∧ w ≤ 1000000000) ∧ (1 ≤ t ∧ t ≤ 1000000000))) ∨ (((-1000000000 ≤ x ∧ x ≤ 1000000000) ∧ (-1000000000 ≤ y ∧ y ≤ 1000000000) ∧ (1 ≤ w ∧ w ≤ 1000000000) ∧ (1 ≤ t ∧ t ≤ 1000000000)) ∧ 500 ≤ I 1101) ∨ (((-1000000000 ≤ x ∧ x ≤ 1000000000) ∧ (-1000000000 ≤ y ∧ y ≤ 1000000000) ∧ (1 ≤ w ∧ w ≤ 1000000000) ∧ (1 ≤ t ∧ t ≤ 1000000000)) ∧ I 1101 < 500) := by grind
  rcases hsp with hc | hc | hc
  · refine xr_callVT (as := [_, _, _, _]) (len := 0) (i := 0) (xm_mono (P' := fun o => o = (.inr "java/lang/IllegalArgumentException", pic I A L)) (c_Dv_rule_0 h0) (by
      rintro _ (⟨_, rfl⟩ | ⟨hx, rfl⟩ | ⟨hx, rfl⟩)
      · exact rfl
      · exfalso; grind
      · exfalso; grind)) (by rintro _ rfl; exact ⟨_, rfl⟩) L_La_34 CD_Dv_rule rfl D_La_rule_9.1 rfl CI_Dv (by decide) (Nat.le_of_ble_eq_true rfl) (rc' := 0) (rs' := 0) (Nat.le_refl _) (Nat.le_refl _) ?_
    rintro E h' he
    cases he
    refine ⟨rfl, 17, 6, ⟨[], (0, 14, 17, 13), [(0, 14, 21, 32)], rfl, rfl, ⟨by decide, by decide, by decide, _, LC_13, rfl, XI_74⟩, by intro y hy; cases hy⟩, by decide, ?_⟩
    refine Or.inr ⟨D_La_rule_17.1, ?_⟩
    refine xr_iconst (v := 1) D_La_rule_19 rfl ?_
    exact xr_iret rfl D_La_rule_20 (Or.inl ⟨hc, rfl⟩)
  · refine xr_callVT (as := [_, _, _, _]) (len := 0) (i := 0) (xm_mono (P' := fun o => o = (.inr "java/lang/UnsupportedOperationException", pic I A L)) (c_Dv_rule_0 h0) (by
      rintro _ (⟨hx, rfl⟩ | ⟨_, rfl⟩ | ⟨hx, rfl⟩)
      · exfalso; grind
      · exact rfl
      · exfalso; grind)) (by rintro _ rfl; exact ⟨_, rfl⟩) L_La_34 CD_Dv_rule rfl D_La_rule_9.1 rfl CI_Dv (by decide) (Nat.le_of_ble_eq_true rfl) (rc' := 0) (rs' := 0) (Nat.le_refl _) (Nat.le_refl _) ?_
    rintro E h' he
    cases he
    refine ⟨rfl, 21, 6, ⟨[(0, 14, 17, 13)], (0, 14, 21, 32), [], rfl, rfl, ⟨by decide, by decide, by decide, _, LC_32, rfl, XI_126⟩, by intro y hy; cases List.mem_singleton.mp hy; exact ⟨by decide, by decide, by decide, _, LC_13, by decide +kernel⟩⟩, by decide, ?_⟩
    refine Or.inr ⟨D_La_rule_21.1, ?_⟩
    refine xr_iconst (v := 2) D_La_rule_23 rfl ?_
    exact xr_iret rfl D_La_rule_24 (Or.inr (Or.inl ⟨hc, rfl⟩))
  · refine xr_cVx (as := [_, _, _, _]) (xm_mono (P' := fun o => o = (.inl (some (.int (I 1101 + 1))), pic (upd I 1101 (I 1101 + 1)) (upA (upA (upA (upA (upA A 12 (I 1101 * 5).toNatClampNeg (-1)) 12 (I 1101 * 5 + 1).toNatClampNeg w) 12 (I 1101 * 5 + 2).toNatClampNeg t) 12 (I 1101 * 5 + 3).toNatClampNeg x) 12 (I 1101 * 5 + 4).toNatClampNeg y) L)) (c_Dv_rule_0 h0) (by
      rintro _ (⟨hx, rfl⟩ | ⟨hx, rfl⟩ | ⟨_, rfl⟩)
      · exfalso; grind
      · exfalso; grind
      · exact rfl)) L_La_34 CD_Dv_rule CI_Dv D_La_rule_9 rfl rfl (by decide) (Nat.le_of_ble_eq_true rfl) (rc' := 0) (rs' := 0) (Nat.le_refl _) (Nat.le_refl _) pic_len ?_
    rintro _ rfl
    refine ⟨_, _, rfl, rfl, ?_⟩
    refine xr_i2l D_La_rule_12 ?_
    refine xr_last D_La_rule_13 rfl (by exact i_in2 1 (by decide) (by decide) rfl) (aset_61) ?_
    refine xr_goto (tgt := 25) D_La_rule_14 rfl ?_
    refine xr_iconst (v := 0) D_La_rule_25 rfl ?_
    refine xr_iret rfl D_La_rule_26 ?_
    exact Or.inr (Or.inr (⟨hc, rfl⟩))

theorem c_La_out {I : mI} {A : mA} {L : mL} {i : Int32}  : xmW m_La_out (7, 111) [.ref 0, .int i, .ref 61] (pic I A L) 1 6 (fun o => ((¬ (0 ≤ i ∧ i < I 1401)) ∧ o = (.inl (some (.int 1)), pic I A L)) ∨ ((0 ≤ i ∧ i < I 1401) ∧ o = (.inl (some (.int 0)), pic I A (upL L 61 0 ((gat (I 1401) (A 15) i)).toInt64)))) := by
  refine xmW_of (by decide) (Nat.le_of_ble_eq_true rfl) ?_
  refine xr_aload_n D_La_out_0 rfl rfl ?_
  refine xr_iconst (v := 0) D_La_out_1 rfl ?_
  refine xr_aload_n D_La_out_2 rfl rfl ?_
  refine xr_iload_n D_La_out_3 rfl rfl ?_
  have hsp : (¬ (0 ≤ i ∧ i < I 1401)) ∨ (0 ≤ i ∧ i < I 1401) := by grind
  rcases hsp with hc | hc
  · refine xr_callVT (as := [_]) (len := 0) (i := 0) (xm_mono (P' := fun o => o = (.inr "java/lang/IndexOutOfBoundsException", pic I A L)) (c_Dv_out_0) (by
      rintro _ (⟨_, rfl⟩ | ⟨hx, rfl⟩)
      · exact rfl
      · exfalso; grind)) (by rintro _ rfl; exact ⟨_, rfl⟩) L_La_46 CD_Dv_out rfl D_La_out_4.1 rfl CI_Dv (by decide) (Nat.le_of_ble_eq_true rfl) (rc' := 0) (rs' := 0) (Nat.le_refl _) (Nat.le_refl _) ?_
    rintro E h' he
    cases he
    refine ⟨rfl, 12, 3, ⟨[], (0, 9, 12, 50), [], rfl, rfl, ⟨by decide, by decide, by decide, _, LC_50, rfl, XI_174⟩, by intro y hy; cases hy⟩, by decide, ?_⟩
    refine Or.inl ⟨3, rfl, D_La_out_12.1, ?_⟩
    refine xr_iconst (v := 1) D_La_out_13 rfl ?_
    exact xr_iret rfl D_La_out_14 (Or.inl ⟨hc, rfl⟩)
  · refine xr_cVx (as := [_]) (xm_mono (P' := fun o => o = (.inl (some (.int (gat (I 1401) (A 15) i))), pic I A L)) (c_Dv_out_0) (by
      rintro _ (⟨hx, rfl⟩ | ⟨_, rfl⟩)
      · exfalso; grind
      · exact rfl)) L_La_46 CD_Dv_out CI_Dv D_La_out_4 rfl rfl (by decide) (Nat.le_of_ble_eq_true rfl) (rc' := 0) (rs' := 0) (Nat.le_refl _) (Nat.le_refl _) pic_len ?_
    rintro _ rfl
    refine ⟨_, _, rfl, rfl, ?_⟩
    refine xr_i2l D_La_out_7 ?_
    refine xr_last D_La_out_8 rfl (by exact i_in2 1 (by decide) (by decide) rfl) (aset_61) ?_
    refine xr_goto (tgt := 15) D_La_out_9 rfl ?_
    refine xr_iconst (v := 0) D_La_out_15 rfl ?_
    refine xr_iret rfl D_La_out_16 ?_
    exact Or.inr (⟨hc, rfl⟩)

theorem c_La_about {I : mI} {A : mA} {L : mL} {w : Int32}  : xmW m_La_about (7, 111) [.ref 0, .int w, .ref 61] (pic I A L) 1 6 (fun o => ((¬ (0 ≤ w ∧ w ≤ 6)) ∧ o = (.inl (some (.int 1)), pic I A L)) ∨ ((w = 0) ∧ o = (.inl (some (.int 0)), pic I A (upL L 61 0 ((I 2405)).toInt64))) ∨ ((w = 1) ∧ o = (.inl (some (.int 0)), pic I A (upL L 61 0 ((I 2406)).toInt64))) ∨ ((w = 2) ∧ o = (.inl (some (.int 0)), pic I A (upL L 61 0 ((I 2407)).toInt64))) ∨ ((w = 3) ∧ o = (.inl (some (.int 0)), pic I A (upL L 61 0 ((I 2408)).toInt64))) ∨ ((w = 4) ∧ o = (.inl (some (.int 0)), pic I A (upL L 61 0 ((I 2409)).toInt64))) ∨ ((w = 5) ∧ o = (.inl (some (.int 0)), pic I A (upL L 61 0 ((I 2410)).toInt64))) ∨ ((w = 6) ∧ o = (.inl (some (.int 0)), pic I A (upL L 61 0 ((I 2411)).toInt64)))) := by
  refine xmW_of (by decide) (Nat.le_of_ble_eq_true rfl) ?_
  refine xr_aload_n D_La_about_0 rfl rfl ?_
  refine xr_iconst (v := 0) D_La_about_1 rfl ?_
  refine xr_aload_n D_La_about_2 rfl rfl ?_
  refine xr_iload_n D_La_about_3 rfl rfl ?_
  have hsp : (¬ (0 ≤ w ∧ w ≤ 6)) ∨ (w = 0) ∨ (w = 1) ∨ (w = 2) ∨ (w = 3) ∨ (w = 4) ∨ (w = 5) ∨ (w = 6) := by grind
  rcases hsp with hc | hc | hc | hc | hc | hc | hc | hc
  · refine xr_callVT (as := [_]) (len := 0) (i := 0) (xm_mono (P' := fun o => o = (.inr "java/lang/IndexOutOfBoundsException", pic I A L)) (c_Dv_about_0) (by
      rintro _ (⟨_, rfl⟩ | ⟨hx, rfl⟩ | ⟨hx, rfl⟩ | ⟨hx, rfl⟩ | ⟨hx, rfl⟩ | ⟨hx, rfl⟩ | ⟨hx, rfl⟩ | ⟨hx, rfl⟩)
      · exact rfl
      · exfalso; grind
      · exfalso; grind
      · exfalso; grind
      · exfalso; grind
      · exfalso; grind
      · exfalso; grind
      · exfalso; grind)) (by rintro _ rfl; exact ⟨_, rfl⟩) L_La_52 CD_Dv_about rfl D_La_about_4.1 rfl CI_Dv (by decide) (Nat.le_of_ble_eq_true rfl) (rc' := 0) (rs' := 0) (Nat.le_refl _) (Nat.le_refl _) ?_
    rintro E h' he
    cases he
    refine ⟨rfl, 12, 3, ⟨[], (0, 9, 12, 50), [], rfl, rfl, ⟨by decide, by decide, by decide, _, LC_50, rfl, XI_174⟩, by intro y hy; cases hy⟩, by decide, ?_⟩
    refine Or.inl ⟨3, rfl, D_La_about_12.1, ?_⟩
    refine xr_iconst (v := 1) D_La_about_13 rfl ?_
    exact xr_iret rfl D_La_about_14 (Or.inl ⟨hc, rfl⟩)
  · refine xr_cVx (as := [_]) (xm_mono (P' := fun o => o = (.inl (some (.int (I 2405))), pic I A L)) (c_Dv_about_0) (by
      rintro _ (⟨hx, rfl⟩ | ⟨_, rfl⟩ | ⟨hx, rfl⟩ | ⟨hx, rfl⟩ | ⟨hx, rfl⟩ | ⟨hx, rfl⟩ | ⟨hx, rfl⟩ | ⟨hx, rfl⟩)
      · exfalso; grind
      · exact rfl
      · exfalso; grind
      · exfalso; grind
      · exfalso; grind
      · exfalso; grind
      · exfalso; grind
      · exfalso; grind)) L_La_52 CD_Dv_about CI_Dv D_La_about_4 rfl rfl (by decide) (Nat.le_of_ble_eq_true rfl) (rc' := 0) (rs' := 0) (Nat.le_refl _) (Nat.le_refl _) pic_len ?_
    rintro _ rfl
    refine ⟨_, _, rfl, rfl, ?_⟩
    refine xr_i2l D_La_about_7 ?_
    refine xr_last D_La_about_8 rfl (by exact i_in2 1 (by decide) (by decide) rfl) (aset_61) ?_
    refine xr_goto (tgt := 15) D_La_about_9 rfl ?_
    refine xr_iconst (v := 0) D_La_about_15 rfl ?_
    refine xr_iret rfl D_La_about_16 ?_
    exact Or.inr (Or.inl ⟨hc, rfl⟩)
  · refine xr_cVx (as := [_]) (xm_mono (P' := fun o => o = (.inl (some (.int (I 2406))), pic I A L)) (c_Dv_about_0) (by
      rintro _ (⟨hx, rfl⟩ | ⟨hx, rfl⟩ | ⟨_, rfl⟩ | ⟨hx, rfl⟩ | ⟨hx, rfl⟩ | ⟨hx, rfl⟩ | ⟨hx, rfl⟩ | ⟨hx, rfl⟩)
      · exfalso; grind
      · exfalso; grind
      · exact rfl
      · exfalso; grind
      · exfalso; grind
      · exfalso; grind
      · exfalso; grind
      · exfalso; grind)) L_La_52 CD_Dv_about CI_Dv D_La_about_4 rfl rfl (by decide) (Nat.le_of_ble_eq_true rfl) (rc' := 0) (rs' := 0) (Nat.le_refl _) (Nat.le_refl _) pic_len ?_
    rintro _ rfl
    refine ⟨_, _, rfl, rfl, ?_⟩
    refine xr_i2l D_La_about_7 ?_
    refine xr_last D_La_about_8 rfl (by exact i_in2 1 (by decide) (by decide) rfl) (aset_61) ?_
    refine xr_goto (tgt := 15) D_La_about_9 rfl ?_
    refine xr_iconst (v := 0) D_La_about_15 rfl ?_
    refine xr_iret rfl D_La_about_16 ?_
    exact Or.inr (Or.inr (Or.inl ⟨hc, rfl⟩))
  · refine xr_cVx (as := [_]) (xm_mono (P' := fun o => o = (.inl (some (.int (I 2407))), pic I A L)) (c_Dv_about_0) (by
      rintro _ (⟨hx, rfl⟩ | ⟨hx, rfl⟩ | ⟨hx, rfl⟩ | ⟨_, rfl⟩ | ⟨hx, rfl⟩ | ⟨hx, rfl⟩ | ⟨hx, rfl⟩ | ⟨hx, rfl⟩)
      · exfalso; grind
      · exfalso; grind
      · exfalso; grind
      · exact rfl
      · exfalso; grind
      · exfalso; grind
      · exfalso; grind
      · exfalso; grind)) L_La_52 CD_Dv_about CI_Dv D_La_about_4 rfl rfl (by decide) (Nat.le_of_ble_eq_true rfl) (rc' := 0) (rs' := 0) (Nat.le_refl _) (Nat.le_refl _) pic_len ?_
    rintro _ rfl
    refine ⟨_, _, rfl, rfl, ?_⟩
    refine xr_i2l D_La_about_7 ?_
    refine xr_last D_La_about_8 rfl (by exact i_in2 1 (by decide) (by decide) rfl) (aset_61) ?_
    refine xr_goto (tgt := 15) D_La_about_9 rfl ?_
    refine xr_iconst (v := 0) D_La_about_15 rfl ?_
    refine xr_iret rfl D_La_about_16 ?_
    exact Or.inr (Or.inr (Or.inr (Or.inl ⟨hc, rfl⟩)))
  · refine xr_cVx (as := [_]) (xm_mono (P' := fun o => o = (.inl (some (.int (I 2408))), pic I A L)) (c_Dv_about_0) (by
      rintro _ (⟨hx, rfl⟩ | ⟨hx, rfl⟩ | ⟨hx, rfl⟩ | ⟨hx, rfl⟩ | ⟨_, rfl⟩ | ⟨hx, rfl⟩ | ⟨hx, rfl⟩ | ⟨hx, rfl⟩)
      · exfalso; grind
      · exfalso; grind
      · exfalso; grind
      · exfalso; grind
      · exact rfl
      · exfalso; grind
      · exfalso; grind
      · exfalso; grind)) L_La_52 CD_Dv_about CI_Dv D_La_about_4 rfl rfl (by decide) (Nat.le_of_ble_eq_true rfl) (rc' := 0) (rs' := 0) (Nat.le_refl _) (Nat.le_refl _) pic_len ?_
    rintro _ rfl
    refine ⟨_, _, rfl, rfl, ?_⟩
    refine xr_i2l D_La_about_7 ?_
    refine xr_last D_La_about_8 rfl (by exact i_in2 1 (by decide) (by decide) rfl) (aset_61) ?_
    refine xr_goto (tgt := 15) D_La_about_9 rfl ?_
    refine xr_iconst (v := 0) D_La_about_15 rfl ?_
    refine xr_iret rfl D_La_about_16 ?_
    exact Or.inr (Or.inr (Or.inr (Or.inr (Or.inl ⟨hc, rfl⟩))))
  · refine xr_cVx (as := [_]) (xm_mono (P' := fun o => o = (.inl (some (.int (I 2409))), pic I A L)) (c_Dv_about_0) (by
      rintro _ (⟨hx, rfl⟩ | ⟨hx, rfl⟩ | ⟨hx, rfl⟩ | ⟨hx, rfl⟩ | ⟨hx, rfl⟩ | ⟨_, rfl⟩ | ⟨hx, rfl⟩ | ⟨hx, rfl⟩)
      · exfalso; grind
      · exfalso; grind
      · exfalso; grind
      · exfalso; grind
      · exfalso; grind
      · exact rfl
      · exfalso; grind
      · exfalso; grind)) L_La_52 CD_Dv_about CI_Dv D_La_about_4 rfl rfl (by decide) (Nat.le_of_ble_eq_true rfl) (rc' := 0) (rs' := 0) (Nat.le_refl _) (Nat.le_refl _) pic_len ?_
    rintro _ rfl
    refine ⟨_, _, rfl, rfl, ?_⟩
    refine xr_i2l D_La_about_7 ?_
    refine xr_last D_La_about_8 rfl (by exact i_in2 1 (by decide) (by decide) rfl) (aset_61) ?_
    refine xr_goto (tgt := 15) D_La_about_9 rfl ?_
    refine xr_iconst (v := 0) D_La_about_15 rfl ?_
    refine xr_iret rfl D_La_about_16 ?_
    exact Or.inr (Or.inr (Or.inr (Or.inr (Or.inr (Or.inl ⟨hc, rfl⟩)))))
  · refine xr_cVx (as := [_]) (xm_mono (P' := fun o => o = (.inl (some (.int (I 2410))), pic I A L)) (c_Dv_about_0) (by
      rintro _ (⟨hx, rfl⟩ | ⟨hx, rfl⟩ | ⟨hx, rfl⟩ | ⟨hx, rfl⟩ | ⟨hx, rfl⟩ | ⟨hx, rfl⟩ | ⟨_, rfl⟩ | ⟨hx, rfl⟩)
      · exfalso; grind
      · exfalso; grind
      · exfalso; grind
      · exfalso; grind
      · exfalso; grind
      · exfalso; grind
      · exact rfl
      · exfalso; grind)) L_La_52 CD_Dv_about CI_Dv D_La_about_4 rfl rfl (by decide) (Nat.le_of_ble_eq_true rfl) (rc' := 0) (rs' := 0) (Nat.le_refl _) (Nat.le_refl _) pic_len ?_
    rintro _ rfl
    refine ⟨_, _, rfl, rfl, ?_⟩
    refine xr_i2l D_La_about_7 ?_
    refine xr_last D_La_about_8 rfl (by exact i_in2 1 (by decide) (by decide) rfl) (aset_61) ?_
    refine xr_goto (tgt := 15) D_La_about_9 rfl ?_
    refine xr_iconst (v := 0) D_La_about_15 rfl ?_
    refine xr_iret rfl D_La_about_16 ?_
    exact Or.inr (Or.inr (Or.inr (Or.inr (Or.inr (Or.inr (Or.inl ⟨hc, rfl⟩))))))
  · refine xr_cVx (as := [_]) (xm_mono (P' := fun o => o = (.inl (some (.int (I 2411))), pic I A L)) (c_Dv_about_0) (by
      rintro _ (⟨hx, rfl⟩ | ⟨hx, rfl⟩ | ⟨hx, rfl⟩ | ⟨hx, rfl⟩ | ⟨hx, rfl⟩ | ⟨hx, rfl⟩ | ⟨hx, rfl⟩ | ⟨_, rfl⟩)
      · exfalso; grind
      · exfalso; grind
      · exfalso; grind
      · exfalso; grind
      · exfalso; grind
      · exfalso; grind
      · exfalso; grind
      · exact rfl)) L_La_52 CD_Dv_about CI_Dv D_La_about_4 rfl rfl (by decide) (Nat.le_of_ble_eq_true rfl) (rc' := 0) (rs' := 0) (Nat.le_refl _) (Nat.le_refl _) pic_len ?_
    rintro _ rfl
    refine ⟨_, _, rfl, rfl, ?_⟩
    refine xr_i2l D_La_about_7 ?_
    refine xr_last D_La_about_8 rfl (by exact i_in2 1 (by decide) (by decide) rfl) (aset_61) ?_
    refine xr_goto (tgt := 15) D_La_about_9 rfl ?_
    refine xr_iconst (v := 0) D_La_about_15 rfl ?_
    refine xr_iret rfl D_La_about_16 ?_
    exact Or.inr (Or.inr (Or.inr (Or.inr (Or.inr (Or.inr (Or.inr (⟨hc, rfl⟩)))))))
