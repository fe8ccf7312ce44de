theorem c_La_font {I : mI} {A : mA} {L : mL} {f : Int32} {x : Int32} {y : Int32} {z : Int32} {a : Int64} {b : Int64} {n : Int32}  : xmW m_La_font (7, 119) [.ref 0, .int f, .int x, .int y, .int z, .long a, .long b, .int n] (pic I A L) 1 6 (fun o => ((¬ ((0 ≤ f ∧ f ≤ 255) ∧ ((1 ≤ n ∧ n ≤ 16) ∧ nmB a b n.toInt.toNat 0 = true))) ∧ o = (.inl (some (.int 1)), pic I A L)) ∨ ((((0 ≤ f ∧ f ≤ 255) ∧ ((1 ≤ n ∧ n ≤ 16) ∧ nmB a b n.toInt.toNat 0 = true)) ∧ ¬ A 20 f.toNatClampNeg = 0) ∧ o = (.inl (some (.int 2)), pic I A L)) ∨ ((((0 ≤ f ∧ f ≤ 255) ∧ ((1 ≤ n ∧ n ≤ 16) ∧ nmB a b n.toInt.toNat 0 = true)) ∧ A 20 f.toNatClampNeg = 0) ∧ o = (.inl (some (.int 0)), pic I (upA (upA (upA (upA A 4 f.toNatClampNeg x) 5 f.toNatClampNeg y) 6 f.toNatClampNeg z) 9 f.toNatClampNeg n) (upL (upL L 7 f.toNatClampNeg a) 8 f.toNatClampNeg b)))) := by
  refine xmW_of (by decide) (Nat.le_of_ble_eq_true rfl) ?_
  refine xr_aload_n D_La_font_0 rfl rfl ?_
  refine xr_iload_n D_La_font_1 rfl rfl ?_
  refine xr_iload_n D_La_font_2 rfl rfl ?_
  refine xr_iload_n D_La_font_3 rfl rfl ?_
  refine xr_iload D_La_font_4 rfl ?_
  refine xr_lload D_La_font_6 rfl ?_
  refine xr_lload D_La_font_8 rfl ?_
  refine xr_iload D_La_font_10 rfl ?_
  have hsp : (¬ ((0 ≤ f ∧ f ≤ 255) ∧ ((1 ≤ n ∧ n ≤ 16) ∧ nmB a b n.toInt.toNat 0 = true))) ∨ (((0 ≤ f ∧ f ≤ 255) ∧ ((1 ≤ n ∧ n ≤ 16) ∧ nmB a b n.toInt.toNat 0 = true)) ∧ ¬ A 20 f.toNatClampNeg = 0) ∨ (((0 ≤ f ∧ f ≤ 255) ∧ ((1 ≤ n ∧ n ≤ 16) ∧ nmB a b n.toInt.toNat 0 = true)) ∧ A 20 f.toNatClampNeg = 0) := by grind
  rcases hsp with hc | hc | hc
  · refine xr_callVT (as := [_, _, _, _, _, _, _]) (len := 0) (i := 0) (xm_mono (P' := fun o => o = (.inr "java/lang/IllegalArgumentException", pic I A L)) (c_Dv_font_0) (by
      rintro _ (⟨_, rfl⟩ | ⟨hx, rfl⟩ | ⟨hx, rfl⟩)
      · exact rfl
      · exfalso; grind
      · exfalso; grind)) (by rintro _ rfl; exact ⟨_, rfl⟩) L_La_7 CD_Dv_font rfl D_La_font_12.1 rfl CI_Dv (by decide) (Nat.le_of_ble_eq_true rfl) (rc' := 0) (rs' := 0) (Nat.le_refl _) (Nat.le_refl _) ?_
    rintro E h' he
    cases he
    refine ⟨rfl, 18, 10, ⟨[], (0, 15, 18, 13), [(0, 15, 22, 15)], rfl, rfl, ⟨by decide, by decide, by decide, _, LC_13, rfl, XI_74⟩, by intro y hy; cases hy⟩, by decide, ?_⟩
    refine Or.inr ⟨D_La_font_18.1, ?_⟩
    refine xr_iconst (v := 1) D_La_font_20 rfl ?_
    exact xr_iret rfl D_La_font_21 (Or.inl ⟨hc, rfl⟩)
  · refine xr_callVT (as := [_, _, _, _, _, _, _]) (len := 0) (i := 0) (xm_mono (P' := fun o => o = (.inr "java/lang/IllegalStateException", pic I A L)) (c_Dv_font_0) (by
      rintro _ (⟨hx, rfl⟩ | ⟨_, rfl⟩ | ⟨hx, rfl⟩)
      · exfalso; grind
      · exact rfl
      · exfalso; grind)) (by rintro _ rfl; exact ⟨_, rfl⟩) L_La_7 CD_Dv_font rfl D_La_font_12.1 rfl CI_Dv (by decide) (Nat.le_of_ble_eq_true rfl) (rc' := 0) (rs' := 0) (Nat.le_refl _) (Nat.le_refl _) ?_
    rintro E h' he
    cases he
    refine ⟨rfl, 22, 10, ⟨[(0, 15, 18, 13)], (0, 15, 22, 15), [], rfl, rfl, ⟨by decide, by decide, by decide, _, LC_15, rfl, XI_84⟩, by intro y hy; cases List.mem_singleton.mp hy; exact ⟨by decide, by decide, by decide, _, LC_13, by decide +kernel⟩⟩, by decide, ?_⟩
    refine Or.inr ⟨D_La_font_22.1, ?_⟩
    refine xr_iconst (v := 2) D_La_font_24 rfl ?_
    exact xr_iret rfl D_La_font_25 (Or.inr (Or.inl ⟨hc, rfl⟩))
  · refine xr_cVv (as := [_, _, _, _, _, _, _]) (xm_mono (P' := fun o => o = (.inl none, pic I (upA (upA (upA (upA A 4 f.toNatClampNeg x) 5 f.toNatClampNeg y) 6 f.toNatClampNeg z) 9 f.toNatClampNeg n) (upL (upL L 7 f.toNatClampNeg a) 8 f.toNatClampNeg b))) (c_Dv_font_0) (by
      rintro _ (⟨hx, rfl⟩ | ⟨hx, rfl⟩ | ⟨_, rfl⟩)
      · exfalso; grind
      · exfalso; grind
      · exact rfl)) L_La_7 CD_Dv_font CI_Dv D_La_font_12 rfl rfl (by decide) (Nat.le_of_ble_eq_true rfl) (rc' := 0) (rs' := 0) (Nat.le_refl _) (Nat.le_refl _) pic_len ?_
    rintro _ rfl
    refine ⟨_, rfl, rfl, ?_⟩
    refine xr_goto (tgt := 26) D_La_font_15 rfl ?_
    refine xr_iconst (v := 0) D_La_font_26 rfl ?_
    refine xr_iret rfl D_La_font_27 ?_
    exact Or.inr (Or.inr (⟨hc, rfl⟩))

theorem c_La_begin {I : mI} {A : mA} {L : mL} {c : Int32} {n : Int32} (h01 : 0 ≤ I 1401) (h03 : 0 ≤ I 1307) (hm : I 1307 ≤ 256) (hT : ∀ j : Nat, (j : Int) < (I 1307).toInt → 0 ≤ A 21 j ∧ A 21 j ≤ 255) : xmW m_La_begin (7, 112) [.ref 0, .int c, .int n] (pic I A L) 1 6 (fun o => ((¬ ((0 ≤ c ∧ c ≤ 255) ∧ (0 ≤ n ∧ n ≤ 255))) ∧ o = (.inl (some (.int 1)), pic I A L)) ∨ (((0 ≤ c ∧ c ≤ 255) ∧ (0 ≤ n ∧ n ≤ 255)) ∧ o = (.inl (some (.int 0)), pic (upd (upd (upd (upd (upd (upd (upd (upd (upd (upd I 1401 0) 1307 0) 1308 c) 1309 n) 1310 0) 1311 0) 1312 (-1)) 1313 0) 1314 0) 1101 0) (upAf A 20 (clr (A 20) (A 21) ((I 1307).toInt - (0 : Int32).toInt).toNat (0 : Int32).toInt.toNat)) L))) := by
  refine xmW_of (by decide) (Nat.le_of_ble_eq_true rfl) ?_
  refine xr_aload_n D_La_begin_0 rfl rfl ?_
  refine xr_iload_n D_La_begin_1 rfl rfl ?_
  refine xr_iload_n D_La_begin_2 rfl rfl ?_
  have hsp : (¬ ((0 ≤ c ∧ c ≤ 255) ∧ (0 ≤ n ∧ n ≤ 255))) ∨ ((0 ≤ c ∧ c ≤ 255) ∧ (0 ≤ n ∧ n ≤ 255)) := by grind
  rcases hsp with hc | hc
  · refine xr_callVT (as := [_, _]) (len := 0) (i := 0) (xm_mono (P' := fun o => o = (.inr "java/lang/IllegalArgumentException", pic I A L)) (c_Dv_begin_0 h01 h03 hm hT) (by
      rintro _ (⟨_, rfl⟩ | ⟨hx, rfl⟩)
      · exact rfl
      · exfalso; grind)) (by rintro _ rfl; exact ⟨_, rfl⟩) L_La_25 CD_Dv_begin rfl D_La_begin_3.1 rfl CI_Dv (by decide) (Nat.le_of_ble_eq_true rfl) (rc' := 0) (rs' := 0) (Nat.le_refl _) (Nat.le_refl _) ?_
    rintro E h' he
    cases he
    refine ⟨rfl, 9, 3, ⟨[], (0, 6, 9, 13), [], rfl, rfl, ⟨by decide, by decide, by decide, _, LC_13, rfl, XI_74⟩, by intro y hy; cases hy⟩, by decide, ?_⟩
    refine Or.inl ⟨3, rfl, D_La_begin_9.1, ?_⟩
    refine xr_iconst (v := 1) D_La_begin_10 rfl ?_
    exact xr_iret rfl D_La_begin_11 (Or.inl ⟨hc, rfl⟩)
  · refine xr_cVv (as := [_, _]) (xm_mono (P' := fun o => o = (.inl none, pic (upd (upd (upd (upd (upd (upd (upd (upd (upd (upd I 1401 0) 1307 0) 1308 c) 1309 n) 1310 0) 1311 0) 1312 (-1)) 1313 0) 1314 0) 1101 0) (upAf A 20 (clr (A 20) (A 21) ((I 1307).toInt - (0 : Int32).toInt).toNat (0 : Int32).toInt.toNat)) L)) (c_Dv_begin_0 h01 h03 hm hT) (by
      rintro _ (⟨hx, rfl⟩ | ⟨_, rfl⟩)
      · exfalso; grind
      · exact rfl)) L_La_25 CD_Dv_begin CI_Dv D_La_begin_3 rfl rfl (by decide) (Nat.le_of_ble_eq_true rfl) (rc' := 0) (rs' := 0) (Nat.le_refl _) (Nat.le_refl _) pic_len ?_
    rintro _ rfl
    refine ⟨_, rfl, rfl, ?_⟩
    refine xr_goto (tgt := 12) D_La_begin_6 rfl ?_
    refine xr_iconst (v := 0) D_La_begin_12 rfl ?_
    refine xr_iret rfl D_La_begin_13 ?_
    exact Or.inr (⟨hc, rfl⟩)

theorem c_La_mark {I : mI} {A : mA} {L : mL} {i : Int32} {w : Int32}  : xmW m_La_mark (7, 112) [.ref 0, .int i, .int w, .ref 61] (pic I A L) 1 6 (fun o => ((¬ (0 ≤ i ∧ i < I 2405 ∧ 0 ≤ w ∧ w < 6)) ∧ o = (.inl (some (.int 1)), pic I A L)) ∨ ((0 ≤ i ∧ i < I 2405 ∧ 0 ≤ w ∧ w < 6) ∧ o = (.inl (some (.int 0)), pic I A (upL L 61 0 ((rPart (I 2405) 2000 6 (A 25) i w)).toInt64)))) := by
  refine xmW_of (by decide) (Nat.le_of_ble_eq_true rfl) ?_
  refine xr_aload_n D_La_mark_0 rfl rfl ?_
  refine xr_iconst (v := 0) D_La_mark_1 rfl ?_
  refine xr_aload_n D_La_mark_2 rfl rfl ?_
  refine xr_iload_n D_La_mark_3 rfl rfl ?_
  refine xr_iload_n D_La_mark_4 rfl rfl ?_
  have hsp : (¬ (0 ≤ i ∧ i < I 2405 ∧ 0 ≤ w ∧ w < 6)) ∨ (0 ≤ i ∧ i < I 2405 ∧ 0 ≤ w ∧ w < 6) := by grind
  rcases hsp with hc | hc
  · refine xr_callVT (as := [_, _]) (len := 0) (i := 0) (xm_mono (P' := fun o => o = (.inr "java/lang/IndexOutOfBoundsException", pic I A L)) (c_Dv_mark_0) (by
      rintro _ (⟨_, rfl⟩ | ⟨hx, rfl⟩)
      · exact rfl
      · exfalso; grind)) (by rintro _ rfl; exact ⟨_, rfl⟩) L_La_55 CD_Dv_mark rfl D_La_mark_5.1 rfl CI_Dv (by decide) (Nat.le_of_ble_eq_true rfl) (rc' := 0) (rs' := 0) (Nat.le_refl _) (Nat.le_refl _) ?_
    rintro E h' he
    cases he
    refine ⟨rfl, 13, 4, ⟨[], (0, 10, 13, 50), [], rfl, rfl, ⟨by decide, by decide, by decide, _, LC_50, rfl, XI_174⟩, by intro y hy; cases hy⟩, by decide, ?_⟩
    refine Or.inr ⟨D_La_mark_13.1, ?_⟩
    refine xr_iconst (v := 1) D_La_mark_15 rfl ?_
    exact xr_iret rfl D_La_mark_16 (Or.inl ⟨hc, rfl⟩)
  · refine xr_cVx (as := [_, _]) (xm_mono (P' := fun o => o = (.inl (some (.int (rPart (I 2405) 2000 6 (A 25) i w))), pic I A L)) (c_Dv_mark_0) (by
      rintro _ (⟨hx, rfl⟩ | ⟨_, rfl⟩)
      · exfalso; grind
      · exact rfl)) L_La_55 CD_Dv_mark CI_Dv D_La_mark_5 rfl rfl (by decide) (Nat.le_of_ble_eq_true rfl) (rc' := 0) (rs' := 0) (Nat.le_refl _) (Nat.le_refl _) pic_len ?_
    rintro _ rfl
    refine ⟨_, _, rfl, rfl, ?_⟩
    refine xr_i2l D_La_mark_8 ?_
    refine xr_last D_La_mark_9 rfl (by exact i_in2 1 (by decide) (by decide) rfl) (aset_61) ?_
    refine xr_goto (tgt := 17) D_La_mark_10 rfl ?_
    refine xr_iconst (v := 0) D_La_mark_17 rfl ?_
    refine xr_iret rfl D_La_mark_18 ?_
    exact Or.inr (⟨hc, rfl⟩)

theorem c_La_page {I : mI} {A : mA} {L : mL} {p : Int32} {i : Int32}  : xmW m_La_page (7, 112) [.ref 0, .int p, .int i, .ref 61] (pic I A L) 1 6 (fun o => ((¬ (0 ≤ p ∧ p < I 2406 ∧ 0 ≤ i ∧ i < 10)) ∧ o = (.inl (some (.int 1)), pic I A L)) ∨ ((0 ≤ p ∧ p < I 2406 ∧ 0 ≤ i ∧ i < 10) ∧ o = (.inl (some (.int 0)), pic I A (upL L 61 0 ((rPart (I 2406) 1300 10 (A 26) p i)).toInt64)))) := by
  refine xmW_of (by decide) (Nat.le_of_ble_eq_true rfl) ?_
  refine xr_aload_n D_La_page_0 rfl rfl ?_
  refine xr_iconst (v := 0) D_La_page_1 rfl ?_
  refine xr_aload_n D_La_page_2 rfl rfl ?_
  refine xr_iload_n D_La_page_3 rfl rfl ?_
  refine xr_iload_n D_La_page_4 rfl rfl ?_
  have hsp : (¬ (0 ≤ p ∧ p < I 2406 ∧ 0 ≤ i ∧ i < 10)) ∨ (0 ≤ p ∧ p < I 2406 ∧ 0 ≤ i ∧ i < 10) := by grind
  rcases hsp with hc | hc
  · refine xr_callVT (as := [_, _]) (len := 0) (i := 0) (xm_mono (P' := fun o => o = (.inr "java/lang/IndexOutOfBoundsException", pic I A L)) (c_Dv_page_0) (by
      rintro _ (⟨_, rfl⟩ | ⟨hx, rfl⟩)
      · exact rfl
      · exfalso; grind)) (by rintro _ rfl; exact ⟨_, rfl⟩) L_La_59 CD_Dv_page rfl D_La_page_5.1 rfl CI_Dv (by decide) (Nat.le_of_ble_eq_true rfl) (rc' := 0) (rs' := 0) (Nat.le_refl _) (Nat.le_refl _) ?_
    rintro E h' he
    cases he
    refine ⟨rfl, 13, 4, ⟨[], (0, 10, 13, 50), [], rfl, rfl, ⟨by decide, by decide, by decide, _, LC_50, rfl, XI_174⟩, by intro y hy; cases hy⟩, by decide, ?_⟩
    refine Or.inr ⟨D_La_page_13.1, ?_⟩
    refine xr_iconst (v := 1) D_La_page_15 rfl ?_
    exact xr_iret rfl D_La_page_16 (Or.inl ⟨hc, rfl⟩)
  · refine xr_cVx (as := [_, _]) (xm_mono (P' := fun o => o = (.inl (some (.int (rPart (I 2406) 1300 10 (A 26) p i))), pic I A L)) (c_Dv_page_0) (by
      rintro _ (⟨hx, rfl⟩ | ⟨_, rfl⟩)
      · exfalso; grind
      · exact rfl)) L_La_59 CD_Dv_page CI_Dv D_La_page_5 rfl rfl (by decide) (Nat.le_of_ble_eq_true rfl) (rc' := 0) (rs' := 0) (Nat.le_refl _) (Nat.le_refl _) pic_len ?_
    rintro _ rfl
    refine ⟨_, _, rfl, rfl, ?_⟩
    refine xr_i2l D_La_page_8 ?_
    refine xr_last D_La_page_9 rfl (by exact i_in2 1 (by decide) (by decide) rfl) (aset_61) ?_
    refine xr_goto (tgt := 17) D_La_page_10 rfl ?_
    refine xr_iconst (v := 0) D_La_page_17 rfl ?_
    refine xr_iret rfl D_La_page_18 ?_
    exact Or.inr (⟨hc, rfl⟩)

theorem c_La_told {I : mI} {A : mA} {L : mL} {k : Int32} {w : Int32}  : xmW m_La_told (7, 112) [.ref 0, .int k, .int w, .ref 61] (pic I A L) 1 6 (fun o => ((¬ (0 ≤ k ∧ k < I 2407 ∧ 0 ≤ w)) ∧ o = (.inl (some (.int 1)), pic I A L)) ∨ ((0 ≤ k ∧ k < I 2407 ∧ 0 ≤ w) ∧ o = (.inl (some (.int 0)), pic I A (upL L 61 0 ((fPart (I 2407) (A 27) (A 28) (gat (I 2901) (A 30)) k w)).toInt64)))) := by
  refine xmW_of (by decide) (Nat.le_of_ble_eq_true rfl) ?_
  refine xr_aload_n D_La_told_0 rfl rfl ?_
  refine xr_iconst (v := 0) D_La_told_1 rfl ?_
  refine xr_aload_n D_La_told_2 rfl rfl ?_
  refine xr_iload_n D_La_told_3 rfl rfl ?_
  refine xr_iload_n D_La_told_4 rfl rfl ?_
  have hsp : (¬ (0 ≤ k ∧ k < I 2407 ∧ 0 ≤ w)) ∨ (0 ≤ k ∧ k < I 2407 ∧ 0 ≤ w) := by grind
  rcases hsp with hc | hc
  · refine xr_callVT (as := [_, _]) (len := 0) (i := 0) (xm_mono (P' := fun o => o = (.inr "java/lang/IndexOutOfBoundsException", pic I A L)) (c_Dv_told_0) (by
      rintro _ (⟨_, rfl⟩ | ⟨hx, rfl⟩)
      · exact rfl
      · exfalso; grind)) (by rintro _ rfl; exact ⟨_, rfl⟩) L_La_62 CD_Dv_told rfl D_La_told_5.1 rfl CI_Dv (by decide) (Nat.le_of_ble_eq_true rfl) (rc' := 0) (rs' := 0) (Nat.le_refl _) (Nat.le_refl _) ?_
    rintro E h' he
    cases he
    refine ⟨rfl, 13, 4, ⟨[], (0, 10, 13, 50), [], rfl, rfl, ⟨by decide, by decide, by decide, _, LC_50, rfl, XI_174⟩, by intro y hy; cases hy⟩, by decide, ?_⟩
    refine Or.inr ⟨D_La_told_13.1, ?_⟩
    refine xr_iconst (v := 1) D_La_told_15 rfl ?_
    exact xr_iret rfl D_La_told_16 (Or.inl ⟨hc, rfl⟩)
  · refine xr_cVx (as := [_, _]) (xm_mono (P' := fun o => o = (.inl (some (.int (fPart (I 2407) (A 27) (A 28) (gat (I 2901) (A 30)) k w))), pic I A L)) (c_Dv_told_0) (by
      rintro _ (⟨hx, rfl⟩ | ⟨_, rfl⟩)
      · exfalso; grind
      · exact rfl)) L_La_62 CD_Dv_told CI_Dv D_La_told_5 rfl rfl (by decide) (Nat.le_of_ble_eq_true rfl) (rc' := 0) (rs' := 0) (Nat.le_refl _) (Nat.le_refl _) pic_len ?_
    rintro _ rfl
    refine ⟨_, _, rfl, rfl, ?_⟩
    refine xr_i2l D_La_told_8 ?_
    refine xr_last D_La_told_9 rfl (by exact i_in2 1 (by decide) (by decide) rfl) (aset_61) ?_
    refine xr_goto (tgt := 17) D_La_told_10 rfl ?_
    refine xr_iconst (v := 0) D_La_told_17 rfl ?_
    refine xr_iret rfl D_La_told_18 ?_
    exact Or.inr (⟨hc, rfl⟩)
