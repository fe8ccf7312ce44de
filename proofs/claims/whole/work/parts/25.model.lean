theorem c_Mo_thrown_34 {I : mI} {A : mA} {L : mL}   : xm m_Mo_thrown (0, 0) [.ref 34] (pic I A L) 0 0 (fun o => o = (.inl (some (.int (I 3400))), (pic I A L))) := by
  refine xm_of rfl (by decide) (Nat.le_of_ble_eq_true rfl) ?_
  refine xr_aload_n D_Mo_thrown_0 rfl rfl ?_
  refine xr_getf F_Mo_97 D_Mo_thrown_1 rfl rfl ?_
  refine xr_iret rfl D_Mo_thrown_4 ?_
  exact rfl

theorem c_Mo_width_34 {I : mI} {A : mA} {L : mL} {f : Int32} {c : Int32} {w : Int32}  : xm m_Mo_width (1, 20) [.ref 34, .int f, .int c, .int w] (pic I A L) 0 0 (fun o => ((¬ ((0 ≤ f ∧ f ≤ 255) ∧ (0 ≤ c ∧ c ≤ 255))) ∧ o = (.inl none, pic (upd I 3400 1) A L)) ∨ (((0 ≤ f ∧ f ≤ 255) ∧ (0 ≤ c ∧ c ≤ 255)) ∧ o = (.inl none, pic (upd I 3400 0) (upA A 41 (256 * f + c).toNatClampNeg w) L))) := by
  refine xm_of rfl (by decide) (Nat.le_of_ble_eq_true rfl) ?_
  refine xr_aload_n D_Mo_width_0 rfl rfl ?_
  refine xr_iload_n D_Mo_width_1 rfl rfl ?_
  refine xr_cSx (as := [_]) (c_Mo_isByte) (L_Mo_105) (CD_Mo_isByte) D_Mo_width_2 rfl (by decide) (Nat.le_of_ble_eq_true rfl) (Nat.le_of_eq (Nat.zero_add _)) (Nat.le_of_eq (Nat.zero_add _)) pic_len ?_
  rintro _ rfl
  refine ⟨_, _, rfl, rfl, ?_⟩
  refine xr_if_eq (tgt := 19) D_Mo_width_5 rfl (fun c1 => ?_) (fun c1 => ?_)
  · rw [b2_0] at c1
    refine xr_iconst (v := 1) D_Mo_width_19 rfl ?_
    refine xr_putf F_Mo_97 FT_Mo FN_Mo_0 D_Mo_width_20 rfl (Nat.le_of_ble_eq_true rfl) rfl rfl (pset_34_0) ?_
    refine xr_aload_n D_Mo_width_23 rfl rfl ?_
    refine xr_getf F_Mo_97 D_Mo_width_24 rfl rfl ?_
    refine xr_if_ne (tgt := 43) D_Mo_width_27 rfl (fun c2 => ?_) (fun c2 => ?_)
    · refine xr_vret rfl D_Mo_width_43 ?_
      first | exact Or.inl ⟨by grind [upd], rfl⟩ | exact Or.inr (⟨by grind [upd], rfl⟩)
    · exact absurd (show (1 : Int32) = (0 : Int32) from c2) (by decide)
  · rw [b2_n] at c1
    refine xr_iload_n D_Mo_width_8 rfl rfl ?_
    refine xr_cSx (as := [_]) (c_Mo_isByte) (L_Mo_105) (CD_Mo_isByte) D_Mo_width_9 rfl (by decide) (Nat.le_of_ble_eq_true rfl) (Nat.le_of_eq (Nat.zero_add _)) (Nat.le_of_eq (Nat.zero_add _)) pic_len ?_
    rintro _ rfl
    refine ⟨_, _, rfl, rfl, ?_⟩
    refine xr_if_eq (tgt := 19) D_Mo_width_12 rfl (fun c2 => ?_) (fun c2 => ?_)
    · rw [b2_0] at c2
      refine xr_iconst (v := 1) D_Mo_width_19 rfl ?_
      refine xr_putf F_Mo_97 FT_Mo FN_Mo_0 D_Mo_width_20 rfl (Nat.le_of_ble_eq_true rfl) rfl rfl (pset_34_0) ?_
      refine xr_aload_n D_Mo_width_23 rfl rfl ?_
      refine xr_getf F_Mo_97 D_Mo_width_24 rfl rfl ?_
      refine xr_if_ne (tgt := 43) D_Mo_width_27 rfl (fun c3 => ?_) (fun c3 => ?_)
      · refine xr_vret rfl D_Mo_width_43 ?_
        first | exact Or.inl ⟨by grind [upd], rfl⟩ | exact Or.inr (⟨by grind [upd], rfl⟩)
      · exact absurd (show (1 : Int32) = (0 : Int32) from c3) (by decide)
    · rw [b2_n] at c2
      refine xr_iconst (v := 0) D_Mo_width_15 rfl ?_
      refine xr_goto (tgt := 20) D_Mo_width_16 rfl ?_
      refine xr_putf F_Mo_97 FT_Mo FN_Mo_0 D_Mo_width_20 rfl (Nat.le_of_ble_eq_true rfl) rfl rfl (pset_34_0) ?_
      refine xr_aload_n D_Mo_width_23 rfl rfl ?_
      refine xr_getf F_Mo_97 D_Mo_width_24 rfl rfl ?_
      refine xr_if_ne (tgt := 43) D_Mo_width_27 rfl (fun c3 => ?_) (fun c3 => ?_)
      · exact absurd (show (0 : Int32) = (0 : Int32) by decide) c3
      · refine xr_aload_n D_Mo_width_30 rfl rfl ?_
        refine xr_getf F_Mo_31 D_Mo_width_31 rfl rfl ?_
        refine xr_sipush (v := 256) D_Mo_width_34 rfl ?_
        refine xr_iload_n D_Mo_width_37 rfl rfl ?_
        refine xr_imul D_Mo_width_38 ?_
        refine xr_iload_n D_Mo_width_39 rfl rfl ?_
        refine xr_iadd D_Mo_width_40 ?_
        refine xr_iload_n D_Mo_width_41 rfl rfl ?_
        refine xr_iast D_Mo_width_42 rfl (by exact i_in2 65536 (by grind [upd]) (by grind [upd]) rfl) (aset_41) ?_
        refine xr_vret rfl D_Mo_width_43 ?_
        first | exact Or.inl ⟨by grind [upd], rfl⟩ | exact Or.inr (⟨by grind [upd], rfl⟩)

theorem c_Mo_count_34 {I : mI} {A : mA} {L : mL} {i : Int32} {v : Int32}  : xm m_Mo_count (0, 0) [.ref 34, .int i, .int v] (pic I A L) 0 0 (fun o => ((¬ (0 ≤ i ∧ i ≤ 9)) ∧ o = (.inl none, pic (upd I 3400 1) A L)) ∨ ((0 ≤ i ∧ i ≤ 9) ∧ o = (.inl none, pic (upd I 3400 0) (upA A 42 i.toNatClampNeg v) L))) := by
  refine xm_of rfl (by decide) (Nat.le_of_ble_eq_true rfl) ?_
  refine xr_aload_n D_Mo_count_0 rfl rfl ?_
  refine xr_iload_n D_Mo_count_1 rfl rfl ?_
  refine xr_if_lt (tgt := 11) D_Mo_count_2 rfl (fun c1 => ?_) (fun c1 => ?_)
  · refine xr_iconst (v := 1) D_Mo_count_11 rfl ?_
    refine xr_goto (tgt := 16) D_Mo_count_12 rfl ?_
    refine xr_putf F_Mo_97 FT_Mo FN_Mo_0 D_Mo_count_16 rfl (Nat.le_of_ble_eq_true rfl) rfl rfl (pset_34_0) ?_
    refine xr_aload_n D_Mo_count_19 rfl rfl ?_
    refine xr_getf F_Mo_97 D_Mo_count_20 rfl rfl ?_
    refine xr_if_ne (tgt := 33) D_Mo_count_23 rfl (fun c2 => ?_) (fun c2 => ?_)
    · refine xr_vret rfl D_Mo_count_33 ?_
      first | exact Or.inl ⟨by grind [upd], rfl⟩ | exact Or.inr (⟨by grind [upd], rfl⟩)
    · exact absurd (show (1 : Int32) = (0 : Int32) from c2) (by decide)
  · refine xr_iload_n D_Mo_count_5 rfl rfl ?_
    refine xr_bipush (v := 9) D_Mo_count_6 rfl ?_
    refine xr_icmp_le (tgt := 15) D_Mo_count_8 rfl (fun c2 => ?_) (fun c2 => ?_)
    · refine xr_iconst (v := 0) D_Mo_count_15 rfl ?_
      refine xr_putf F_Mo_97 FT_Mo FN_Mo_0 D_Mo_count_16 rfl (Nat.le_of_ble_eq_true rfl) rfl rfl (pset_34_0) ?_
      refine xr_aload_n D_Mo_count_19 rfl rfl ?_
      refine xr_getf F_Mo_97 D_Mo_count_20 rfl rfl ?_
      refine xr_if_ne (tgt := 33) D_Mo_count_23 rfl (fun c3 => ?_) (fun c3 => ?_)
      · exact absurd (show (0 : Int32) = (0 : Int32) by decide) c3
      · refine xr_aload_n D_Mo_count_26 rfl rfl ?_
        refine xr_getf F_Mo_34 D_Mo_count_27 rfl rfl ?_
        refine xr_iload_n D_Mo_count_30 rfl rfl ?_
        refine xr_iload_n D_Mo_count_31 rfl rfl ?_
        refine xr_iast D_Mo_count_32 rfl (by exact i_in2 10 (by grind [upd]) (by grind [upd]) rfl) (aset_42) ?_
        refine xr_vret rfl D_Mo_count_33 ?_
        first | exact Or.inl ⟨by grind [upd], rfl⟩ | exact Or.inr (⟨by grind [upd], rfl⟩)
    · refine xr_iconst (v := 1) D_Mo_count_11 rfl ?_
      refine xr_goto (tgt := 16) D_Mo_count_12 rfl ?_
      refine xr_putf F_Mo_97 FT_Mo FN_Mo_0 D_Mo_count_16 rfl (Nat.le_of_ble_eq_true rfl) rfl rfl (pset_34_0) ?_
      refine xr_aload_n D_Mo_count_19 rfl rfl ?_
      refine xr_getf F_Mo_97 D_Mo_count_20 rfl rfl ?_
      refine xr_if_ne (tgt := 33) D_Mo_count_23 rfl (fun c3 => ?_) (fun c3 => ?_)
      · refine xr_vret rfl D_Mo_count_33 ?_
        first | exact Or.inl ⟨by grind [upd], rfl⟩ | exact Or.inr (⟨by grind [upd], rfl⟩)
      · exact absurd (show (1 : Int32) = (0 : Int32) from c3) (by decide)

theorem c_Mo_begin_34 {I : mI} {A : mA} {L : mL} {c : Int32} {n : Int32}  : xm m_Mo_begin (1, 20) [.ref 34, .int c, .int n] (pic I A L) 0 0 (fun o => ((¬ ((0 ≤ c ∧ c ≤ 255) ∧ (0 ≤ n ∧ n ≤ 255))) ∧ o = (.inl none, pic (upd I 3400 1) A L)) ∨ (((0 ≤ c ∧ c ≤ 255) ∧ (0 ≤ n ∧ n ≤ 255)) ∧ o = (.inl none, pic (upd (upd (upd (upd (upd (upd (upd (upd (upd (upd (upd I 3400 0) 3409 0) 3420 0) 3411 n) 3412 c) 3413 0) 3414 0) 3415 (-1)) 3416 0) 3417 0) 3418 0) A L))) := by
  refine xm_of rfl (by decide) (Nat.le_of_ble_eq_true rfl) ?_
  refine xr_aload_n D_Mo_begin_0 rfl rfl ?_
  refine xr_iload_n D_Mo_begin_1 rfl rfl ?_
  refine xr_cSx (as := [_]) (c_Mo_isByte) (L_Mo_105) (CD_Mo_isByte) D_Mo_begin_2 rfl (by decide) (Nat.le_of_ble_eq_true rfl) (Nat.le_of_eq (Nat.zero_add _)) (Nat.le_of_eq (Nat.zero_add _)) pic_len ?_
  rintro _ rfl
  refine ⟨_, _, rfl, rfl, ?_⟩
  refine xr_if_eq (tgt := 19) D_Mo_begin_5 rfl (fun c1 => ?_) (fun c1 => ?_)
  · rw [b2_0] at c1
    refine xr_iconst (v := 1) D_Mo_begin_19 rfl ?_
    refine xr_putf F_Mo_97 FT_Mo FN_Mo_0 D_Mo_begin_20 rfl (Nat.le_of_ble_eq_true rfl) rfl rfl (pset_34_0) ?_
    refine xr_aload_n D_Mo_begin_23 rfl rfl ?_
    refine xr_getf F_Mo_97 D_Mo_begin_24 rfl rfl ?_
    refine xr_if_le (tgt := 31) D_Mo_begin_27 rfl (fun c2 => ?_) (fun c2 => ?_)
    · exact absurd (show (1 : Int32) ≤ (0 : Int32) from c2) (by decide)
    · refine xr_vret rfl D_Mo_begin_30 ?_
      first | exact Or.inl ⟨by grind [upd], rfl⟩ | exact Or.inr (⟨by grind [upd], rfl⟩)
  · rw [b2_n] at c1
    refine xr_iload_n D_Mo_begin_8 rfl rfl ?_
    refine xr_cSx (as := [_]) (c_Mo_isByte) (L_Mo_105) (CD_Mo_isByte) D_Mo_begin_9 rfl (by decide) (Nat.le_of_ble_eq_true rfl) (Nat.le_of_eq (Nat.zero_add _)) (Nat.le_of_eq (Nat.zero_add _)) pic_len ?_
    rintro _ rfl
    refine ⟨_, _, rfl, rfl, ?_⟩
    refine xr_if_eq (tgt := 19) D_Mo_begin_12 rfl (fun c2 => ?_) (fun c2 => ?_)
    · rw [b2_0] at c2
      refine xr_iconst (v := 1) D_Mo_begin_19 rfl ?_
      refine xr_putf F_Mo_97 FT_Mo FN_Mo_0 D_Mo_begin_20 rfl (Nat.le_of_ble_eq_true rfl) rfl rfl (pset_34_0) ?_
      refine xr_aload_n D_Mo_begin_23 rfl rfl ?_
      refine xr_getf F_Mo_97 D_Mo_begin_24 rfl rfl ?_
      refine xr_if_le (tgt := 31) D_Mo_begin_27 rfl (fun c3 => ?_) (fun c3 => ?_)
      · exact absurd (show (1 : Int32) ≤ (0 : Int32) from c3) (by decide)
      · refine xr_vret rfl D_Mo_begin_30 ?_
        first | exact Or.inl ⟨by grind [upd], rfl⟩ | exact Or.inr (⟨by grind [upd], rfl⟩)
    · rw [b2_n] at c2
      refine xr_iconst (v := 0) D_Mo_begin_15 rfl ?_
      refine xr_goto (tgt := 20) D_Mo_begin_16 rfl ?_
      refine xr_putf F_Mo_97 FT_Mo FN_Mo_0 D_Mo_begin_20 rfl (Nat.le_of_ble_eq_true rfl) rfl rfl (pset_34_0) ?_
      refine xr_aload_n D_Mo_begin_23 rfl rfl ?_
      refine xr_getf F_Mo_97 D_Mo_begin_24 rfl rfl ?_
      refine xr_if_le (tgt := 31) D_Mo_begin_27 rfl (fun c3 => ?_) (fun c3 => ?_)
      · refine xr_aload_n D_Mo_begin_31 rfl rfl ?_
        refine xr_iconst (v := 0) D_Mo_begin_32 rfl ?_
        refine xr_putf F_Mo_116 FT_Mo FN_Mo_9 D_Mo_begin_33 rfl (Nat.le_of_ble_eq_true rfl) rfl rfl (pset_34_9) ?_
        refine xr_aload_n D_Mo_begin_36 rfl rfl ?_
        refine xr_iconst (v := 0) D_Mo_begin_37 rfl ?_
        refine xr_putf F_Mo_119 FT_Mo FN_Mo_20 D_Mo_begin_38 rfl (Nat.le_of_ble_eq_true rfl) rfl rfl (pset_34_20) ?_
        refine xr_aload_n D_Mo_begin_41 rfl rfl ?_
        refine xr_iload_n D_Mo_begin_42 rfl rfl ?_
        refine xr_putf F_Mo_122 FT_Mo FN_Mo_11 D_Mo_begin_43 rfl (Nat.le_of_ble_eq_true rfl) rfl rfl (pset_34_11) ?_
        refine xr_aload_n D_Mo_begin_46 rfl rfl ?_
        refine xr_iload_n D_Mo_begin_47 rfl rfl ?_
        refine xr_putf F_Mo_125 FT_Mo FN_Mo_12 D_Mo_begin_48 rfl (Nat.le_of_ble_eq_true rfl) rfl rfl (pset_34_12) ?_
        refine xr_aload_n D_Mo_begin_51 rfl rfl ?_
        refine xr_iconst (v := 0) D_Mo_begin_52 rfl ?_
        refine xr_putf F_Mo_128 FT_Mo FN_Mo_13 D_Mo_begin_53 rfl (Nat.le_of_ble_eq_true rfl) rfl rfl (pset_34_13) ?_
        refine xr_aload_n D_Mo_begin_56 rfl rfl ?_
        refine xr_iconst (v := 0) D_Mo_begin_57 rfl ?_
        refine xr_putf F_Mo_132 FT_Mo FN_Mo_14 D_Mo_begin_58 rfl (Nat.le_of_ble_eq_true rfl) rfl rfl (pset_34_14) ?_
        refine xr_aload_n D_Mo_begin_61 rfl rfl ?_
        refine xr_iconst (v := (-1)) D_Mo_begin_62 rfl ?_
        refine xr_putf F_Mo_41 FT_Mo FN_Mo_15 D_Mo_begin_63 rfl (Nat.le_of_ble_eq_true rfl) rfl rfl (pset_34_15) ?_
        refine xr_aload_n D_Mo_begin_66 rfl rfl ?_
        refine xr_iconst (v := 0) D_Mo_begin_67 rfl ?_
        refine xr_putf F_Mo_135 FT_Mo FN_Mo_16 D_Mo_begin_68 rfl (Nat.le_of_ble_eq_true rfl) rfl rfl (pset_34_16) ?_
        refine xr_aload_n D_Mo_begin_71 rfl rfl ?_
        refine xr_iconst (v := 0) D_Mo_begin_72 rfl ?_
        refine xr_putf F_Mo_138 FT_Mo FN_Mo_17 D_Mo_begin_73 rfl (Nat.le_of_ble_eq_true rfl) rfl rfl (pset_34_17) ?_
        refine xr_aload_n D_Mo_begin_76 rfl rfl ?_
        refine xr_iconst (v := 0) D_Mo_begin_77 rfl ?_
        refine xr_putf F_Mo_100 FT_Mo FN_Mo_18 D_Mo_begin_78 rfl (Nat.le_of_ble_eq_true rfl) rfl rfl (pset_34_18) ?_
        refine xr_vret rfl D_Mo_begin_81 ?_
        first | exact Or.inl ⟨by grind [upd], rfl⟩ | exact Or.inr (⟨by grind [upd], rfl⟩)
      · exact absurd (show (0 : Int32) ≤ (0 : Int32) by decide) c3

theorem c_Mo_mark5_34 {I : mI} {A : mA} {L : mL} {f : Int32} {c : Int32} {x : Int32} {y : Int32} {h : Int32} (h0 : 0 ≤ I 3420) (h1 : I 3420 < 500) : xm m_Mo_mark5 (0, 0) [.ref 34, .int f, .int c, .int x, .int y, .int h] (pic I A L) 0 0 (fun o => o = (.inl (some (.int (I 3420 + 1))), pic (upd (I) 3420 (I 3420 + 1)) (upA (upA (upA (upA (upA A 45 (I 3420).toNatClampNeg f) 46 (I 3420).toNatClampNeg c) 47 (I 3420).toNatClampNeg x) 48 (I 3420).toNatClampNeg y) 49 (I 3420).toNatClampNeg h) L)) := by
  refine xm_of rfl (by decide) (Nat.le_of_ble_eq_true rfl) ?_
  refine xr_aload_n D_Mo_mark5_0 rfl rfl ?_
  refine xr_getf F_Mo_48 D_Mo_mark5_1 rfl rfl ?_
  refine xr_aload_n D_Mo_mark5_4 rfl rfl ?_
  refine xr_getf F_Mo_119 D_Mo_mark5_5 rfl rfl ?_
  refine xr_iload_n D_Mo_mark5_8 rfl rfl ?_
  refine xr_iast D_Mo_mark5_9 rfl (by exact i_in2 500 (by grind [upd]) (by grind [upd]) rfl) (aset_45) ?_
  refine xr_aload_n D_Mo_mark5_10 rfl rfl ?_
  refine xr_getf F_Mo_51 D_Mo_mark5_11 rfl rfl ?_
  refine xr_aload_n D_Mo_mark5_14 rfl rfl ?_
  refine xr_getf F_Mo_119 D_Mo_mark5_15 rfl rfl ?_
  refine xr_iload_n D_Mo_mark5_18 rfl rfl ?_
  refine xr_iast D_Mo_mark5_19 rfl (by exact i_in2 500 (by grind [upd]) (by grind [upd]) rfl) (aset_46) ?_
  refine xr_aload_n D_Mo_mark5_20 rfl rfl ?_
  refine xr_getf F_Mo_54 D_Mo_mark5_21 rfl rfl ?_
  refine xr_aload_n D_Mo_mark5_24 rfl rfl ?_
  refine xr_getf F_Mo_119 D_Mo_mark5_25 rfl rfl ?_
  refine xr_iload_n D_Mo_mark5_28 rfl rfl ?_
  refine xr_iast D_Mo_mark5_29 rfl (by exact i_in2 500 (by grind [upd]) (by grind [upd]) rfl) (aset_47) ?_
  refine xr_aload_n D_Mo_mark5_30 rfl rfl ?_
  refine xr_getf F_Mo_57 D_Mo_mark5_31 rfl rfl ?_
  refine xr_aload_n D_Mo_mark5_34 rfl rfl ?_
  refine xr_getf F_Mo_119 D_Mo_mark5_35 rfl rfl ?_
  refine xr_iload D_Mo_mark5_38 rfl ?_
  refine xr_iast D_Mo_mark5_40 rfl (by exact i_in2 500 (by grind [upd]) (by grind [upd]) rfl) (aset_48) ?_
  refine xr_aload_n D_Mo_mark5_41 rfl rfl ?_
  refine xr_getf F_Mo_60 D_Mo_mark5_42 rfl rfl ?_
  refine xr_aload_n D_Mo_mark5_45 rfl rfl ?_
  refine xr_getf F_Mo_119 D_Mo_mark5_46 rfl rfl ?_
  refine xr_iload D_Mo_mark5_49 rfl ?_
  refine xr_iast D_Mo_mark5_51 rfl (by exact i_in2 500 (by grind [upd]) (by grind [upd]) rfl) (aset_49) ?_
  refine xr_aload_n D_Mo_mark5_52 rfl rfl ?_
  refine xr_dup D_Mo_mark5_53 rfl ?_
  refine xr_getf F_Mo_119 D_Mo_mark5_54 rfl rfl ?_
  refine xr_iconst (v := 1) D_Mo_mark5_57 rfl ?_
  refine xr_iadd D_Mo_mark5_58 ?_
  refine xr_putf F_Mo_119 FT_Mo FN_Mo_20 D_Mo_mark5_59 rfl (Nat.le_of_ble_eq_true rfl) rfl rfl (pset_34_20) ?_
  refine xr_aload_n D_Mo_mark5_62 rfl rfl ?_
  refine xr_getf F_Mo_119 D_Mo_mark5_63 rfl rfl ?_
  refine xr_iret rfl D_Mo_mark5_66 ?_
  exact rfl

theorem c_Mo_put_34 {I : mI} {A : mA} {L : mL} {f : Int32} {c : Int32} {x : Int32} {y : Int32} (h0 : 0 ≤ I 3420) (h1 : I 3420 ≤ 500) : xm m_Mo_put (1, 25) [.ref 34, .int f, .int c, .int x, .int y] (pic I A L) 0 0 (fun o => ((¬ (((0 ≤ f ∧ f ≤ 255) ∧ ¬ A 35 f.toNatClampNeg = 0) ∧ (0 ≤ c ∧ c ≤ 255) ∧ (-1000000000 ≤ x ∧ x ≤ 1000000000) ∧ (-1000000000 ≤ y ∧ y ≤ 1000000000))) ∧ o = (.inl (some (.int 0)), pic (upd I 3400 1) A L)) ∨ (((((0 ≤ f ∧ f ≤ 255) ∧ ¬ A 35 f.toNatClampNeg = 0) ∧ (0 ≤ c ∧ c ≤ 255) ∧ (-1000000000 ≤ x ∧ x ≤ 1000000000) ∧ (-1000000000 ≤ y ∧ y ≤ 1000000000)) ∧ I 3420 = 500) ∧ o = (.inl (some (.int 0)), pic (upd I 3400 2) A L)) ∨ (((((0 ≤ f ∧ f ≤ 255) ∧ ¬ A 35 f.toNatClampNeg = 0) ∧ (0 ≤ c ∧ c ≤ 255) ∧ (-1000000000 ≤ x ∧ x ≤ 1000000000) ∧ (-1000000000 ≤ y ∧ y ≤ 1000000000)) ∧ ¬ I 3420 = 500) ∧ o = (.inl (some (.int (I 3420 + 1))), pic (upd (upd I 3400 0) 3420 (I 3420 + 1)) (upA (upA (upA (upA (upA A 45 (I 3420).toNatClampNeg f) 46 (I 3420).toNatClampNeg c) 47 (I 3420).toNatClampNeg x) 48 (I 3420).toNatClampNeg y) 49 (I 3420).toNatClampNeg 0) L))) := by
  refine xm_of rfl (by decide) (Nat.le_of_ble_eq_true rfl) ?_
  refine xr_aload_n D_Mo_put_0 rfl rfl ?_
  refine xr_iload_n D_Mo_put_1 rfl rfl ?_
  refine xr_cSx (as := [_]) (c_Mo_isByte) (L_Mo_105) (CD_Mo_isByte) D_Mo_put_2 rfl (by decide) (Nat.le_of_ble_eq_true rfl) (Nat.le_of_eq (Nat.zero_add _)) (Nat.le_of_eq (Nat.zero_add _)) pic_len ?_
  rintro _ rfl
  refine ⟨_, _, rfl, rfl, ?_⟩
  refine xr_if_eq (tgt := 39) D_Mo_put_5 rfl (fun c1 => ?_) (fun c1 => ?_)
  · rw [b2_0] at c1
    refine xr_iconst (v := 1) D_Mo_put_39 rfl ?_
    refine xr_goto (tgt := 58) D_Mo_put_40 rfl ?_
    refine xr_putf F_Mo_97 FT_Mo FN_Mo_0 D_Mo_put_58 rfl (Nat.le_of_ble_eq_true rfl) rfl rfl (pset_34_0) ?_
    refine xr_aload_n D_Mo_put_61 rfl rfl ?_
    refine xr_getf F_Mo_97 D_Mo_put_62 rfl rfl ?_
    refine xr_if_le (tgt := 72) D_Mo_put_65 rfl (fun c2 => ?_) (fun c2 => ?_)
    · exact absurd (show (1 : Int32) ≤ (0 : Int32) from c2) (by decide)
    · refine xr_iconst (v := 0) D_Mo_put_68 rfl ?_
      refine xr_goto (tgt := 82) D_Mo_put_69 rfl ?_
      refine xr_iret rfl D_Mo_put_82 ?_
      first | exact Or.inl ⟨by grind [upd], rfl⟩ | exact Or.inr (Or.inl ⟨by grind [upd], rfl⟩) | exact Or.inr (Or.inr (⟨by grind [upd], rfl⟩))
  · rw [b2_n] at c1
    refine xr_aload_n D_Mo_put_8 rfl rfl ?_
    refine xr_getf F_Mo_7 D_Mo_put_9 rfl rfl ?_
    refine xr_iload_n D_Mo_put_12 rfl rfl ?_
    refine xr_zald D_Mo_put_13 rfl (by exact i_in2 256 (by grind [upd]) (by grind [upd]) rfl) ?_
    refine xr_if_eq (tgt := 39) D_Mo_put_14 rfl (fun c2 => ?_) (fun c2 => ?_)
    · refine xr_iconst (v := 1) D_Mo_put_39 rfl ?_
      refine xr_goto (tgt := 58) D_Mo_put_40 rfl ?_
      refine xr_putf F_Mo_97 FT_Mo FN_Mo_0 D_Mo_put_58 rfl (Nat.le_of_ble_eq_true rfl) rfl rfl (pset_34_0) ?_
      refine xr_aload_n D_Mo_put_61 rfl rfl ?_
      refine xr_getf F_Mo_97 D_Mo_put_62 rfl rfl ?_
      refine xr_if_le (tgt := 72) D_Mo_put_65 rfl (fun c3 => ?_) (fun c3 => ?_)
      · exact absurd (show (1 : Int32) ≤ (0 : Int32) from c3) (by decide)
      · refine xr_iconst (v := 0) D_Mo_put_68 rfl ?_
        refine xr_goto (tgt := 82) D_Mo_put_69 rfl ?_
        refine xr_iret rfl D_Mo_put_82 ?_
        first | exact Or.inl ⟨by grind [upd], rfl⟩ | exact Or.inr (Or.inl ⟨by grind [upd], rfl⟩) | exact Or.inr (Or.inr (⟨by grind [upd], rfl⟩))
    · refine xr_iload_n D_Mo_put_17 rfl rfl ?_
      refine xr_cSx (as := [_]) (c_Mo_isByte) (L_Mo_105) (CD_Mo_isByte) D_Mo_put_18 rfl (by decide) (Nat.le_of_ble_eq_true rfl) (Nat.le_of_eq (Nat.zero_add _)) (Nat.le_of_eq (Nat.zero_add _)) pic_len ?_
      rintro _ rfl
      refine ⟨_, _, rfl, rfl, ?_⟩
      refine xr_if_eq (tgt := 39) D_Mo_put_21 rfl (fun c3 => ?_) (fun c3 => ?_)
      · rw [b2_0] at c3
        refine xr_iconst (v := 1) D_Mo_put_39 rfl ?_
        refine xr_goto (tgt := 58) D_Mo_put_40 rfl ?_
        refine xr_putf F_Mo_97 FT_Mo FN_Mo_0 D_Mo_put_58 rfl (Nat.le_of_ble_eq_true rfl) rfl rfl (pset_34_0) ?_
        refine xr_aload_n D_Mo_put_61 rfl rfl ?_
        refine xr_getf F_Mo_97 D_Mo_put_62 rfl rfl ?_
        refine xr_if_le (tgt := 72) D_Mo_put_65 rfl (fun c4 => ?_) (fun c4 => ?_)
        · exact absurd (show (1 : Int32) ≤ (0 : Int32) from c4) (by decide)
        · refine xr_iconst (v := 0) D_Mo_put_68 rfl ?_
          refine xr_goto (tgt := 82) D_Mo_put_69 rfl ?_
          refine xr_iret rfl D_Mo_put_82 ?_
          first | exact Or.inl ⟨by grind [upd], rfl⟩ | exact Or.inr (Or.inl ⟨by grind [upd], rfl⟩) | exact Or.inr (Or.inr (⟨by grind [upd], rfl⟩))
      · rw [b2_n] at c3
        refine xr_iload_n D_Mo_put_24 rfl rfl ?_
        refine xr_cSx (as := [_]) (c_Mo_isPlace) (L_Mo_143) (CD_Mo_isPlace) D_Mo_put_25 rfl (by decide) (Nat.le_of_ble_eq_true rfl) (Nat.le_of_eq (Nat.zero_add _)) (Nat.le_of_eq (Nat.zero_add _)) pic_len ?_
        rintro _ rfl
        refine ⟨_, _, rfl, rfl, ?_⟩
        refine xr_if_eq (tgt := 39) D_Mo_put_28 rfl (fun c4 => ?_) (fun c4 => ?_)
        · rw [b2_0] at c4
          refine xr_iconst (v := 1) D_Mo_put_39 rfl ?_
          refine xr_goto (tgt := 58) D_Mo_put_40 rfl ?_
          refine xr_putf F_Mo_97 FT_Mo FN_Mo_0 D_Mo_put_58 rfl (Nat.le_of_ble_eq_true rfl) rfl rfl (pset_34_0) ?_
          refine xr_aload_n D_Mo_put_61 rfl rfl ?_
          refine xr_getf F_Mo_97 D_Mo_put_62 rfl rfl ?_
          refine xr_if_le (tgt := 72) D_Mo_put_65 rfl (fun c5 => ?_) (fun c5 => ?_)
          · exact absurd (show (1 : Int32) ≤ (0 : Int32) from c5) (by decide)
          · refine xr_iconst (v := 0) D_Mo_put_68 rfl ?_
            refine xr_goto (tgt := 82) D_Mo_put_69 rfl ?_
            refine xr_iret rfl D_Mo_put_82 ?_
            first | exact Or.inl ⟨by grind [upd], rfl⟩ | exact Or.inr (Or.inl ⟨by grind [upd], rfl⟩) | exact Or.inr (Or.inr (⟨by grind [upd], rfl⟩))
        · rw [b2_n] at c4
          refine xr_iload D_Mo_put_31 rfl ?_
          refine xr_cSx (as := [_]) (c_Mo_isPlace) (L_Mo_143) (CD_Mo_isPlace) D_Mo_put_33 rfl (by decide) (Nat.le_of_ble_eq_true rfl) (Nat.le_of_eq (Nat.zero_add _)) (Nat.le_of_eq (Nat.zero_add _)) pic_len ?_
          rintro _ rfl
          refine ⟨_, _, rfl, rfl, ?_⟩
          refine xr_if_ne (tgt := 43) D_Mo_put_36 rfl (fun c5 => ?_) (fun c5 => ?_)
          · rw [b2_n] at c5
            refine xr_aload_n D_Mo_put_43 rfl rfl ?_
            refine xr_getf F_Mo_119 D_Mo_put_44 rfl rfl ?_
            refine xr_sipush (v := 500) D_Mo_put_47 rfl ?_
            refine xr_icmp_ne (tgt := 57) D_Mo_put_50 rfl (fun c6 => ?_) (fun c6 => ?_)
            · refine xr_iconst (v := 0) D_Mo_put_57 rfl ?_
              refine xr_putf F_Mo_97 FT_Mo FN_Mo_0 D_Mo_put_58 rfl (Nat.le_of_ble_eq_true rfl) rfl rfl (pset_34_0) ?_
              refine xr_aload_n D_Mo_put_61 rfl rfl ?_
              refine xr_getf F_Mo_97 D_Mo_put_62 rfl rfl ?_
              refine xr_if_le (tgt := 72) D_Mo_put_65 rfl (fun c7 => ?_) (fun c7 => ?_)
              · refine xr_aload_n D_Mo_put_72 rfl rfl ?_
                refine xr_iload_n D_Mo_put_73 rfl rfl ?_
                refine xr_iload_n D_Mo_put_74 rfl rfl ?_
                refine xr_iload_n D_Mo_put_75 rfl rfl ?_
                refine xr_iload D_Mo_put_76 rfl ?_
                refine xr_iconst (v := 0) D_Mo_put_78 rfl ?_
                refine xr_cVx (as := [_, _, _, _, _]) (c_Mo_mark5_34 (by grind [upd]) (by grind [upd])) (L_Mo_146) (CD_Mo_mark5) CI_Mo D_Mo_put_79 rfl rfl (by decide) (Nat.le_of_ble_eq_true rfl) (Nat.le_of_eq (Nat.zero_add _)) (Nat.le_of_eq (Nat.zero_add _)) pic_len ?_
                rintro _ rfl
                refine ⟨_, _, rfl, rfl, ?_⟩
                refine xr_iret rfl D_Mo_put_82 ?_
                first | exact Or.inl ⟨by grind [upd], rfl⟩ | exact Or.inr (Or.inl ⟨by grind [upd], rfl⟩) | exact Or.inr (Or.inr (⟨by grind [upd], rfl⟩))
              · exact absurd (show (0 : Int32) ≤ (0 : Int32) by decide) c7
            · refine xr_iconst (v := 2) D_Mo_put_53 rfl ?_
              refine xr_goto (tgt := 58) D_Mo_put_54 rfl ?_
              refine xr_putf F_Mo_97 FT_Mo FN_Mo_0 D_Mo_put_58 rfl (Nat.le_of_ble_eq_true rfl) rfl rfl (pset_34_0) ?_
              refine xr_aload_n D_Mo_put_61 rfl rfl ?_
              refine xr_getf F_Mo_97 D_Mo_put_62 rfl rfl ?_
              refine xr_if_le (tgt := 72) D_Mo_put_65 rfl (fun c7 => ?_) (fun c7 => ?_)
              · exact absurd (show (2 : Int32) ≤ (0 : Int32) from c7) (by decide)
              · refine xr_iconst (v := 0) D_Mo_put_68 rfl ?_
                refine xr_goto (tgt := 82) D_Mo_put_69 rfl ?_
                refine xr_iret rfl D_Mo_put_82 ?_
                first | exact Or.inl ⟨by grind [upd], rfl⟩ | exact Or.inr (Or.inl ⟨by grind [upd], rfl⟩) | exact Or.inr (Or.inr (⟨by grind [upd], rfl⟩))
          · rw [b2_0] at c5
            refine xr_iconst (v := 1) D_Mo_put_39 rfl ?_
            refine xr_goto (tgt := 58) D_Mo_put_40 rfl ?_
            refine xr_putf F_Mo_97 FT_Mo FN_Mo_0 D_Mo_put_58 rfl (Nat.le_of_ble_eq_true rfl) rfl rfl (pset_34_0) ?_
            refine xr_aload_n D_Mo_put_61 rfl rfl ?_
            refine xr_getf F_Mo_97 D_Mo_put_62 rfl rfl ?_
            refine xr_if_le (tgt := 72) D_Mo_put_65 rfl (fun c6 => ?_) (fun c6 => ?_)
            · exact absurd (show (1 : Int32) ≤ (0 : Int32) from c6) (by decide)
            · refine xr_iconst (v := 0) D_Mo_put_68 rfl ?_
              refine xr_goto (tgt := 82) D_Mo_put_69 rfl ?_
              refine xr_iret rfl D_Mo_put_82 ?_
              first | exact Or.inl ⟨by grind [upd], rfl⟩ | exact Or.inr (Or.inl ⟨by grind [upd], rfl⟩) | exact Or.inr (Or.inr (⟨by grind [upd], rfl⟩))

theorem c_Mo_rule_34 {I : mI} {A : mA} {L : mL} {x : Int32} {y : Int32} {w : Int32} {t : Int32} (h0 : 0 ≤ I 3420) (h1 : I 3420 ≤ 500) : xm m_Mo_rule (1, 25) [.ref 34, .int x, .int y, .int w, .int t] (pic I A L) 0 0 (fun o => ((¬ ((-1000000000 ≤ x ∧ x ≤ 1000000000) ∧ (-1000000000 ≤ y ∧ y ≤ 1000000000) ∧ (1 ≤ w ∧ w ≤ 1000000000) ∧ (1 ≤ t ∧ t ≤ 1000000000))) ∧ o = (.inl (some (.int 0)), pic (upd I 3400 1) A L)) ∨ ((((-1000000000 ≤ x ∧ x ≤ 1000000000) ∧ (-1000000000 ≤ y ∧ y ≤ 1000000000) ∧ (1 ≤ w ∧ w ≤ 1000000000) ∧ (1 ≤ t ∧ t ≤ 1000000000)) ∧ I 3420 = 500) ∧ o = (.inl (some (.int 0)), pic (upd I 3400 2) A L)) ∨ ((((-1000000000 ≤ x ∧ x ≤ 1000000000) ∧ (-1000000000 ≤ y ∧ y ≤ 1000000000) ∧ (1 ≤ w ∧ w ≤ 1000000000) ∧ (1 ≤ t ∧ t ≤ 1000000000)) ∧ ¬ I 3420 = 500) ∧ o = (.inl (some (.int (I 3420 + 1))), pic (upd (upd I 3400 0) 3420 (I 3420 + 1)) (upA (upA (upA (upA (upA A 45 (I 3420).toNatClampNeg (-1)) 46 (I 3420).toNatClampNeg w) 47 (I 3420).toNatClampNeg x) 48 (I 3420).toNatClampNeg y) 49 (I 3420).toNatClampNeg t) L))) := by
  refine xm_of rfl (by decide) (Nat.le_of_ble_eq_true rfl) ?_
  refine xr_aload_n D_Mo_rule_0 rfl rfl ?_
  refine xr_iload_n D_Mo_rule_1 rfl rfl ?_
  refine xr_cSx (as := [_]) (c_Mo_isPlace) (L_Mo_143) (CD_Mo_isPlace) D_Mo_rule_2 rfl (by decide) (Nat.le_of_ble_eq_true rfl) (Nat.le_of_eq (Nat.zero_add _)) (Nat.le_of_eq (Nat.zero_add _)) pic_len ?_
  rintro _ rfl
  refine ⟨_, _, rfl, rfl, ?_⟩
  refine xr_if_eq (tgt := 39) D_Mo_rule_5 rfl (fun c1 => ?_) (fun c1 => ?_)
  · rw [b2_0] at c1
    refine xr_iconst (v := 1) D_Mo_rule_39 rfl ?_
    refine xr_goto (tgt := 58) D_Mo_rule_40 rfl ?_
    refine xr_putf F_Mo_97 FT_Mo FN_Mo_0 D_Mo_rule_58 rfl (Nat.le_of_ble_eq_true rfl) rfl rfl (pset_34_0) ?_
    refine xr_aload_n D_Mo_rule_61 rfl rfl ?_
    refine xr_getf F_Mo_97 D_Mo_rule_62 rfl rfl ?_
    refine xr_if_le (tgt := 72) D_Mo_rule_65 rfl (fun c2 => ?_) (fun c2 => ?_)
    · exact absurd (show (1 : Int32) ≤ (0 : Int32) from c2) (by decide)
    · refine xr_iconst (v := 0) D_Mo_rule_68 rfl ?_
      refine xr_goto (tgt := 82) D_Mo_rule_69 rfl ?_
      refine xr_iret rfl D_Mo_rule_82 ?_
      first | exact Or.inl ⟨by grind [upd], rfl⟩ | exact Or.inr (Or.inl ⟨by grind [upd], rfl⟩) | exact Or.inr (Or.inr (⟨by grind [upd], rfl⟩))
  · rw [b2_n] at c1
    refine xr_iload_n D_Mo_rule_8 rfl rfl ?_
    refine xr_cSx (as := [_]) (c_Mo_isPlace) (L_Mo_143) (CD_Mo_isPlace) D_Mo_rule_9 rfl (by decide) (Nat.le_of_ble_eq_true rfl) (Nat.le_of_eq (Nat.zero_add _)) (Nat.le_of_eq (Nat.zero_add _)) pic_len ?_
    rintro _ rfl
    refine ⟨_, _, rfl, rfl, ?_⟩
    refine xr_if_eq (tgt := 39) D_Mo_rule_12 rfl (fun c2 => ?_) (fun c2 => ?_)
    · rw [b2_0] at c2
      refine xr_iconst (v := 1) D_Mo_rule_39 rfl ?_
      refine xr_goto (tgt := 58) D_Mo_rule_40 rfl ?_
      refine xr_putf F_Mo_97 FT_Mo FN_Mo_0 D_Mo_rule_58 rfl (Nat.le_of_ble_eq_true rfl) rfl rfl (pset_34_0) ?_
      refine xr_aload_n D_Mo_rule_61 rfl rfl ?_
      refine xr_getf F_Mo_97 D_Mo_rule_62 rfl rfl ?_
      refine xr_if_le (tgt := 72) D_Mo_rule_65 rfl (fun c3 => ?_) (fun c3 => ?_)
      · exact absurd (show (1 : Int32) ≤ (0 : Int32) from c3) (by decide)
      · refine xr_iconst (v := 0) D_Mo_rule_68 rfl ?_
        refine xr_goto (tgt := 82) D_Mo_rule_69 rfl ?_
        refine xr_iret rfl D_Mo_rule_82 ?_
        first | exact Or.inl ⟨by grind [upd], rfl⟩ | exact Or.inr (Or.inl ⟨by grind [upd], rfl⟩) | exact Or.inr (Or.inr (⟨by grind [upd], rfl⟩))
    · rw [b2_n] at c2
      refine xr_iload_n D_Mo_rule_15 rfl rfl ?_
      refine xr_iconst (v := 1) D_Mo_rule_16 rfl ?_
      refine xr_icmp_lt (tgt := 39) D_Mo_rule_17 rfl (fun c3 => ?_) (fun c3 => ?_)
      · refine xr_iconst (v := 1) D_Mo_rule_39 rfl ?_
        refine xr_goto (tgt := 58) D_Mo_rule_40 rfl ?_
        refine xr_putf F_Mo_97 FT_Mo FN_Mo_0 D_Mo_rule_58 rfl (Nat.le_of_ble_eq_true rfl) rfl rfl (pset_34_0) ?_
        refine xr_aload_n D_Mo_rule_61 rfl rfl ?_
        refine xr_getf F_Mo_97 D_Mo_rule_62 rfl rfl ?_
        refine xr_if_le (tgt := 72) D_Mo_rule_65 rfl (fun c4 => ?_) (fun c4 => ?_)
        · exact absurd (show (1 : Int32) ≤ (0 : Int32) from c4) (by decide)
        · refine xr_iconst (v := 0) D_Mo_rule_68 rfl ?_
          refine xr_goto (tgt := 82) D_Mo_rule_69 rfl ?_
          refine xr_iret rfl D_Mo_rule_82 ?_
          first | exact Or.inl ⟨by grind [upd], rfl⟩ | exact Or.inr (Or.inl ⟨by grind [upd], rfl⟩) | exact Or.inr (Or.inr (⟨by grind [upd], rfl⟩))
      · refine xr_iload D_Mo_rule_20 rfl ?_
        refine xr_iconst (v := 1) D_Mo_rule_22 rfl ?_
        refine xr_icmp_lt (tgt := 39) D_Mo_rule_23 rfl (fun c4 => ?_) (fun c4 => ?_)
        · refine xr_iconst (v := 1) D_Mo_rule_39 rfl ?_
          refine xr_goto (tgt := 58) D_Mo_rule_40 rfl ?_
          refine xr_putf F_Mo_97 FT_Mo FN_Mo_0 D_Mo_rule_58 rfl (Nat.le_of_ble_eq_true rfl) rfl rfl (pset_34_0) ?_
          refine xr_aload_n D_Mo_rule_61 rfl rfl ?_
          refine xr_getf F_Mo_97 D_Mo_rule_62 rfl rfl ?_
          refine xr_if_le (tgt := 72) D_Mo_rule_65 rfl (fun c5 => ?_) (fun c5 => ?_)
          · exact absurd (show (1 : Int32) ≤ (0 : Int32) from c5) (by decide)
          · refine xr_iconst (v := 0) D_Mo_rule_68 rfl ?_
            refine xr_goto (tgt := 82) D_Mo_rule_69 rfl ?_
            refine xr_iret rfl D_Mo_rule_82 ?_
            first | exact Or.inl ⟨by grind [upd], rfl⟩ | exact Or.inr (Or.inl ⟨by grind [upd], rfl⟩) | exact Or.inr (Or.inr (⟨by grind [upd], rfl⟩))
        · refine xr_iload_n D_Mo_rule_26 rfl rfl ?_
          refine xr_ldc (v := 1000000000) D_Mo_rule_27 K_Mo_142 ?_
          refine xr_icmp_gt (tgt := 39) D_Mo_rule_29 rfl (fun c5 => ?_) (fun c5 => ?_)
          · refine xr_iconst (v := 1) D_Mo_rule_39 rfl ?_
            refine xr_goto (tgt := 58) D_Mo_rule_40 rfl ?_
            refine xr_putf F_Mo_97 FT_Mo FN_Mo_0 D_Mo_rule_58 rfl (Nat.le_of_ble_eq_true rfl) rfl rfl (pset_34_0) ?_
            refine xr_aload_n D_Mo_rule_61 rfl rfl ?_
            refine xr_getf F_Mo_97 D_Mo_rule_62 rfl rfl ?_
            refine xr_if_le (tgt := 72) D_Mo_rule_65 rfl (fun c6 => ?_) (fun c6 => ?_)
            · exact absurd (show (1 : Int32) ≤ (0 : Int32) from c6) (by decide)
            · refine xr_iconst (v := 0) D_Mo_rule_68 rfl ?_
              refine xr_goto (tgt := 82) D_Mo_rule_69 rfl ?_
              refine xr_iret rfl D_Mo_rule_82 ?_
              first | exact Or.inl ⟨by grind [upd], rfl⟩ | exact Or.inr (Or.inl ⟨by grind [upd], rfl⟩) | exact Or.inr (Or.inr (⟨by grind [upd], rfl⟩))
          · refine xr_iload D_Mo_rule_32 rfl ?_
            refine xr_ldc (v := 1000000000) D_Mo_rule_34 K_Mo_142 ?_
            refine xr_icmp_le (tgt := 43) D_Mo_rule_36 rfl (fun c6 => ?_) (fun c6 => ?_)
            · refine xr_aload_n D_Mo_rule_43 rfl rfl ?_
              refine xr_getf F_Mo_119 D_Mo_rule_44 rfl rfl ?_
              refine xr_sipush (v := 500) D_Mo_rule_47 rfl ?_
              refine xr_icmp_ne (tgt := 57) D_Mo_rule_50 rfl (fun c7 => ?_) (fun c7 => ?_)
              · refine xr_iconst (v := 0) D_Mo_rule_57 rfl ?_
                refine xr_putf F_Mo_97 FT_Mo FN_Mo_0 D_Mo_rule_58 rfl (Nat.le_of_ble_eq_true rfl) rfl rfl (pset_34_0) ?_
                refine xr_aload_n D_Mo_rule_61 rfl rfl ?_
                refine xr_getf F_Mo_97 D_Mo_rule_62 rfl rfl ?_
                refine xr_if_le (tgt := 72) D_Mo_rule_65 rfl (fun c8 => ?_) (fun c8 => ?_)
                · refine xr_aload_n D_Mo_rule_72 rfl rfl ?_
                  refine xr_iconst (v := (-1)) D_Mo_rule_73 rfl ?_
                  refine xr_iload_n D_Mo_rule_74 rfl rfl ?_
                  refine xr_iload_n D_Mo_rule_75 rfl rfl ?_
                  refine xr_iload_n D_Mo_rule_76 rfl rfl ?_
                  refine xr_iload D_Mo_rule_77 rfl ?_
                  refine xr_cVx (as := [_, _, _, _, _]) (c_Mo_mark5_34 (by grind [upd]) (by grind [upd])) (L_Mo_146) (CD_Mo_mark5) CI_Mo D_Mo_rule_79 rfl rfl (by decide) (Nat.le_of_ble_eq_true rfl) (Nat.le_of_eq (Nat.zero_add _)) (Nat.le_of_eq (Nat.zero_add _)) pic_len ?_
                  rintro _ rfl
                  refine ⟨_, _, rfl, rfl, ?_⟩
                  refine xr_iret rfl D_Mo_rule_82 ?_
                  first | exact Or.inl ⟨by grind [upd], rfl⟩ | exact Or.inr (Or.inl ⟨by grind [upd], rfl⟩) | exact Or.inr (Or.inr (⟨by grind [upd], rfl⟩))
                · exact absurd (show (0 : Int32) ≤ (0 : Int32) by decide) c8
              · refine xr_iconst (v := 2) D_Mo_rule_53 rfl ?_
                refine xr_goto (tgt := 58) D_Mo_rule_54 rfl ?_
                refine xr_putf F_Mo_97 FT_Mo FN_Mo_0 D_Mo_rule_58 rfl (Nat.le_of_ble_eq_true rfl) rfl rfl (pset_34_0) ?_
                refine xr_aload_n D_Mo_rule_61 rfl rfl ?_
                refine xr_getf F_Mo_97 D_Mo_rule_62 rfl rfl ?_
                refine xr_if_le (tgt := 72) D_Mo_rule_65 rfl (fun c8 => ?_) (fun c8 => ?_)
                · exact absurd (show (2 : Int32) ≤ (0 : Int32) from c8) (by decide)
                · refine xr_iconst (v := 0) D_Mo_rule_68 rfl ?_
                  refine xr_goto (tgt := 82) D_Mo_rule_69 rfl ?_
                  refine xr_iret rfl D_Mo_rule_82 ?_
                  first | exact Or.inl ⟨by grind [upd], rfl⟩ | exact Or.inr (Or.inl ⟨by grind [upd], rfl⟩) | exact Or.inr (Or.inr (⟨by grind [upd], rfl⟩))
            · refine xr_iconst (v := 1) D_Mo_rule_39 rfl ?_
              refine xr_goto (tgt := 58) D_Mo_rule_40 rfl ?_
              refine xr_putf F_Mo_97 FT_Mo FN_Mo_0 D_Mo_rule_58 rfl (Nat.le_of_ble_eq_true rfl) rfl rfl (pset_34_0) ?_
              refine xr_aload_n D_Mo_rule_61 rfl rfl ?_
              refine xr_getf F_Mo_97 D_Mo_rule_62 rfl rfl ?_
              refine xr_if_le (tgt := 72) D_Mo_rule_65 rfl (fun c7 => ?_) (fun c7 => ?_)
              · exact absurd (show (1 : Int32) ≤ (0 : Int32) from c7) (by decide)
              · refine xr_iconst (v := 0) D_Mo_rule_68 rfl ?_
                refine xr_goto (tgt := 82) D_Mo_rule_69 rfl ?_
                refine xr_iret rfl D_Mo_rule_82 ?_
                first | exact Or.inl ⟨by grind [upd], rfl⟩ | exact Or.inr (Or.inl ⟨by grind [upd], rfl⟩) | exact Or.inr (Or.inr (⟨by grind [upd], rfl⟩))

theorem c_Mo_size_34 {I : mI} {A : mA} {L : mL}   : xm m_Mo_size (0, 0) [.ref 34] (pic I A L) 0 0 (fun o => o = (.inl (some (.int (I 3409))), pic (upd I 3400 0) A L)) := by
  refine xm_of rfl (by decide) (Nat.le_of_ble_eq_true rfl) ?_
  refine xr_aload_n D_Mo_size_0 rfl rfl ?_
  refine xr_iconst (v := 0) D_Mo_size_1 rfl ?_
  refine xr_putf F_Mo_97 FT_Mo FN_Mo_0 D_Mo_size_2 rfl (Nat.le_of_ble_eq_true rfl) rfl rfl (pset_34_0) ?_
  refine xr_aload_n D_Mo_size_5 rfl rfl ?_
  refine xr_getf F_Mo_116 D_Mo_size_6 rfl rfl ?_
  refine xr_iret rfl D_Mo_size_9 ?_
  exact rfl

theorem c_Mo_out_34 {I : mI} {A : mA} {L : mL} {i : Int32} (h1 : I 3409 ≤ 131072) : xm m_Mo_out (0, 0) [.ref 34, .int i] (pic I A L) 0 0 (fun o => ((¬ (0 ≤ i ∧ i < I 3409)) ∧ o = (.inl (some (.int 0)), pic (upd I 3400 1) A L)) ∨ ((0 ≤ i ∧ i < I 3409) ∧ o = (.inl (some (.int (A 43 i.toNatClampNeg &&& 255))), pic (upd I 3400 0) A L))) := by
  refine xm_of rfl (by decide) (Nat.le_of_ble_eq_true rfl) ?_
  refine xr_aload_n D_Mo_out_0 rfl rfl ?_
  refine xr_iload_n D_Mo_out_1 rfl rfl ?_
  refine xr_if_lt (tgt := 13) D_Mo_out_2 rfl (fun c1 => ?_) (fun c1 => ?_)
  · refine xr_iconst (v := 1) D_Mo_out_13 rfl ?_
    refine xr_goto (tgt := 18) D_Mo_out_14 rfl ?_
    refine xr_putf F_Mo_97 FT_Mo FN_Mo_0 D_Mo_out_18 rfl (Nat.le_of_ble_eq_true rfl) rfl rfl (pset_34_0) ?_
    refine xr_aload_n D_Mo_out_21 rfl rfl ?_
    refine xr_getf F_Mo_97 D_Mo_out_22 rfl rfl ?_
    refine xr_if_le (tgt := 32) D_Mo_out_25 rfl (fun c2 => ?_) (fun c2 => ?_)
    · exact absurd (show (1 : Int32) ≤ (0 : Int32) from c2) (by decide)
    · refine xr_iconst (v := 0) D_Mo_out_28 rfl ?_
      refine xr_goto (tgt := 42) D_Mo_out_29 rfl ?_
      refine xr_iret rfl D_Mo_out_42 ?_
      first | exact Or.inl ⟨by grind [upd], rfl⟩ | exact Or.inr (⟨by grind [upd], rfl⟩)
  · refine xr_iload_n D_Mo_out_5 rfl rfl ?_
    refine xr_aload_n D_Mo_out_6 rfl rfl ?_
    refine xr_getf F_Mo_116 D_Mo_out_7 rfl rfl ?_
    refine xr_icmp_lt (tgt := 17) D_Mo_out_10 rfl (fun c2 => ?_) (fun c2 => ?_)
    · refine xr_iconst (v := 0) D_Mo_out_17 rfl ?_
      refine xr_putf F_Mo_97 FT_Mo FN_Mo_0 D_Mo_out_18 rfl (Nat.le_of_ble_eq_true rfl) rfl rfl (pset_34_0) ?_
      refine xr_aload_n D_Mo_out_21 rfl rfl ?_
      refine xr_getf F_Mo_97 D_Mo_out_22 rfl rfl ?_
      refine xr_if_le (tgt := 32) D_Mo_out_25 rfl (fun c3 => ?_) (fun c3 => ?_)
      · refine xr_aload_n D_Mo_out_32 rfl rfl ?_
        refine xr_getf F_Mo_38 D_Mo_out_33 rfl rfl ?_
        refine xr_iload_n D_Mo_out_36 rfl rfl ?_
        refine xr_bald D_Mo_out_37 rfl (by exact i_in2 131072 (by grind [upd]) (by grind [upd]) rfl) ?_
        refine xr_sipush (v := 255) D_Mo_out_38 rfl ?_
        refine xr_iand D_Mo_out_41 ?_
        refine xr_iret rfl D_Mo_out_42 ?_
        first | exact Or.inl ⟨by grind [upd], rfl⟩ | exact Or.inr (⟨by grind [upd], rfl⟩)
      · exact absurd (show (0 : Int32) ≤ (0 : Int32) by decide) c3
    · refine xr_iconst (v := 1) D_Mo_out_13 rfl ?_
      refine xr_goto (tgt := 18) D_Mo_out_14 rfl ?_
      refine xr_putf F_Mo_97 FT_Mo FN_Mo_0 D_Mo_out_18 rfl (Nat.le_of_ble_eq_true rfl) rfl rfl (pset_34_0) ?_
      refine xr_aload_n D_Mo_out_21 rfl rfl ?_
      refine xr_getf F_Mo_97 D_Mo_out_22 rfl rfl ?_
      refine xr_if_le (tgt := 32) D_Mo_out_25 rfl (fun c3 => ?_) (fun c3 => ?_)
      · exact absurd (show (1 : Int32) ≤ (0 : Int32) from c3) (by decide)
      · refine xr_iconst (v := 0) D_Mo_out_28 rfl ?_
        refine xr_goto (tgt := 42) D_Mo_out_29 rfl ?_
        refine xr_iret rfl D_Mo_out_42 ?_
        first | exact Or.inl ⟨by grind [upd], rfl⟩ | exact Or.inr (⟨by grind [upd], rfl⟩)

theorem c_Mo_keep_34 {I : mI} {A : mA} {L : mL} {n : Int32}  : xm m_Mo_keep (0, 0) [.ref 34, .int n] (pic I A L) 0 0 (fun o => ((¬ (0 ≤ n ∧ n ≤ I 3429)) ∧ o = (.inl (some (.int 0)), pic (upd I 3400 0) A L)) ∨ ((0 ≤ n ∧ n ≤ I 3429) ∧ o = (.inl (some (.int 1)), pic (upd (upd I 3400 0) 3429 n) A L))) := by
  refine xm_of rfl (by decide) (Nat.le_of_ble_eq_true rfl) ?_
  refine xr_aload_n D_Mo_keep_0 rfl rfl ?_
  refine xr_iconst (v := 0) D_Mo_keep_1 rfl ?_
  refine xr_putf F_Mo_97 FT_Mo FN_Mo_0 D_Mo_keep_2 rfl (Nat.le_of_ble_eq_true rfl) rfl rfl (pset_34_0) ?_
  refine xr_iload_n D_Mo_keep_5 rfl rfl ?_
  refine xr_if_lt (tgt := 17) D_Mo_keep_6 rfl (fun c1 => ?_) (fun c1 => ?_)
  · refine xr_iconst (v := 0) D_Mo_keep_17 rfl ?_
    refine xr_zret rfl (by first | rfl | exact nar_b2 | exact nar_z hz) D_Mo_keep_18 ?_
    first | exact Or.inl ⟨by grind [upd], rfl⟩ | exact Or.inr (⟨by grind [upd], rfl⟩)
  · refine xr_iload_n D_Mo_keep_9 rfl rfl ?_
    refine xr_aload_n D_Mo_keep_10 rfl rfl ?_
    refine xr_getf F_Mo_197 D_Mo_keep_11 rfl rfl ?_
    refine xr_icmp_le (tgt := 19) D_Mo_keep_14 rfl (fun c2 => ?_) (fun c2 => ?_)
    · refine xr_aload_n D_Mo_keep_19 rfl rfl ?_
      refine xr_iload_n D_Mo_keep_20 rfl rfl ?_
      refine xr_putf F_Mo_197 FT_Mo FN_Mo_29 D_Mo_keep_21 rfl (Nat.le_of_ble_eq_true rfl) rfl rfl (pset_34_29) ?_
      refine xr_iconst (v := 1) D_Mo_keep_24 rfl ?_
      refine xr_zret rfl (by first | rfl | exact nar_b2 | exact nar_z hz) D_Mo_keep_25 ?_
      first | exact Or.inl ⟨by grind [upd], rfl⟩ | exact Or.inr (⟨by grind [upd], rfl⟩)
    · refine xr_iconst (v := 0) D_Mo_keep_17 rfl ?_
      refine xr_zret rfl (by first | rfl | exact nar_b2 | exact nar_z hz) D_Mo_keep_18 ?_
      first | exact Or.inl ⟨by grind [upd], rfl⟩ | exact Or.inr (⟨by grind [upd], rfl⟩)

theorem c_Mo_about_34 {I : mI} {A : mA} {L : mL} {w : Int32}  : xm m_Mo_about (0, 0) [.ref 34, .int w] (pic I A L) 0 0 (fun o => ((¬ (0 ≤ w ∧ w ≤ 6)) ∧ o = (.inl (some (.int 0)), pic (upd I 3400 1) A L)) ∨ ((w = 0) ∧ o = (.inl (some (.int (I 3432))), pic (upd I 3400 0) A L)) ∨ ((w = 1) ∧ o = (.inl (some (.int (I 3434))), pic (upd I 3400 0) A L)) ∨ ((w = 2) ∧ o = (.inl (some (.int (I 3436))), pic (upd I 3400 0) A L)) ∨ ((w = 3) ∧ o = (.inl (some (.int (I 3439))), pic (upd I 3400 0) A L)) ∨ ((w = 4) ∧ o = (.inl (some (.int (I 3440))), pic (upd I 3400 0) A L)) ∨ ((w = 5) ∧ o = (.inl (some (.int (I 3441))), pic (upd I 3400 0) A L)) ∨ ((w = 6) ∧ o = (.inl (some (.int (I 3442))), pic (upd I 3400 0) A L))) := by
  refine xm_of rfl (by decide) (Nat.le_of_ble_eq_true rfl) ?_
  refine xr_aload_n D_Mo_about_0 rfl rfl ?_
  refine xr_iload_n D_Mo_about_1 rfl rfl ?_
  refine xr_if_lt (tgt := 11) D_Mo_about_2 rfl (fun c1 => ?_) (fun c1 => ?_)
  · refine xr_iconst (v := 1) D_Mo_about_11 rfl ?_
    refine xr_goto (tgt := 16) D_Mo_about_12 rfl ?_
    refine xr_putf F_Mo_97 FT_Mo FN_Mo_0 D_Mo_about_16 rfl (Nat.le_of_ble_eq_true rfl) rfl rfl (pset_34_0) ?_
    refine xr_aload_n D_Mo_about_19 rfl rfl ?_
    refine xr_getf F_Mo_97 D_Mo_about_20 rfl rfl ?_
    refine xr_if_le (tgt := 28) D_Mo_about_23 rfl (fun c2 => ?_) (fun c2 => ?_)
    · exact absurd (show (1 : Int32) ≤ (0 : Int32) from c2) (by decide)
    · refine xr_iconst (v := 0) D_Mo_about_26 rfl ?_
      refine xr_iret rfl D_Mo_about_27 ?_
      first | exact Or.inl ⟨by grind [upd], rfl⟩ | exact Or.inr (Or.inl ⟨by grind [upd], rfl⟩) | exact Or.inr (Or.inr (Or.inl ⟨by grind [upd], rfl⟩)) | exact Or.inr (Or.inr (Or.inr (Or.inl ⟨by grind [upd], rfl⟩))) | exact Or.inr (Or.inr (Or.inr (Or.inr (Or.inl ⟨by grind [upd], rfl⟩)))) | exact Or.inr (Or.inr (Or.inr (Or.inr (Or.inr (Or.inl ⟨by grind [upd], rfl⟩))))) | exact Or.inr (Or.inr (Or.inr (Or.inr (Or.inr (Or.inr (Or.inl ⟨by grind [upd], rfl⟩)))))) | exact Or.inr (Or.inr (Or.inr (Or.inr (Or.inr (Or.inr (Or.inr (⟨by grind [upd], rfl⟩)))))))
  · refine xr_iload_n D_Mo_about_5 rfl rfl ?_
    refine xr_bipush (v := 6) D_Mo_about_6 rfl ?_
    refine xr_icmp_le (tgt := 15) D_Mo_about_8 rfl (fun c2 => ?_) (fun c2 => ?_)
    · refine xr_iconst (v := 0) D_Mo_about_15 rfl ?_
      refine xr_putf F_Mo_97 FT_Mo FN_Mo_0 D_Mo_about_16 rfl (Nat.le_of_ble_eq_true rfl) rfl rfl (pset_34_0) ?_
      refine xr_aload_n D_Mo_about_19 rfl rfl ?_
      refine xr_getf F_Mo_97 D_Mo_about_20 rfl rfl ?_
      refine xr_if_le (tgt := 28) D_Mo_about_23 rfl (fun c3 => ?_) (fun c3 => ?_)
      · refine xr_iload_n D_Mo_about_28 rfl rfl ?_
        by_cases t0 : w = 0
        · refine xr_tableIn (tgt := 68) (off := 39) D_Mo_about_29 (by rw [t0]; decide) (by rw [t0]; decide) (by rw [t0]; rfl) rfl ?_
          refine xr_aload_n D_Mo_about_68 rfl rfl ?_
          refine xr_getf F_Mo_279 D_Mo_about_69 rfl rfl ?_
          refine xr_iret rfl D_Mo_about_72 ?_
          first | exact Or.inl ⟨by grind [upd], rfl⟩ | exact Or.inr (Or.inl ⟨by grind [upd], rfl⟩) | exact Or.inr (Or.inr (Or.inl ⟨by grind [upd], rfl⟩)) | exact Or.inr (Or.inr (Or.inr (Or.inl ⟨by grind [upd], rfl⟩))) | exact Or.inr (Or.inr (Or.inr (Or.inr (Or.inl ⟨by grind [upd], rfl⟩)))) | exact Or.inr (Or.inr (Or.inr (Or.inr (Or.inr (Or.inl ⟨by grind [upd], rfl⟩))))) | exact Or.inr (Or.inr (Or.inr (Or.inr (Or.inr (Or.inr (Or.inl ⟨by grind [upd], rfl⟩)))))) | exact Or.inr (Or.inr (Or.inr (Or.inr (Or.inr (Or.inr (Or.inr (⟨by grind [upd], rfl⟩)))))))
        by_cases t1 : w = 1
        · refine xr_tableIn (tgt := 73) (off := 44) D_Mo_about_29 (by rw [t1]; decide) (by rw [t1]; decide) (by rw [t1]; rfl) rfl ?_
          refine xr_aload_n D_Mo_about_73 rfl rfl ?_
          refine xr_getf F_Mo_257 D_Mo_about_74 rfl rfl ?_
          refine xr_iret rfl D_Mo_about_77 ?_
          first | exact Or.inl ⟨by grind [upd], rfl⟩ | exact Or.inr (Or.inl ⟨by grind [upd], rfl⟩) | exact Or.inr (Or.inr (Or.inl ⟨by grind [upd], rfl⟩)) | exact Or.inr (Or.inr (Or.inr (Or.inl ⟨by grind [upd], rfl⟩))) | exact Or.inr (Or.inr (Or.inr (Or.inr (Or.inl ⟨by grind [upd], rfl⟩)))) | exact Or.inr (Or.inr (Or.inr (Or.inr (Or.inr (Or.inl ⟨by grind [upd], rfl⟩))))) | exact Or.inr (Or.inr (Or.inr (Or.inr (Or.inr (Or.inr (Or.inl ⟨by grind [upd], rfl⟩)))))) | exact Or.inr (Or.inr (Or.inr (Or.inr (Or.inr (Or.inr (Or.inr (⟨by grind [upd], rfl⟩)))))))
        by_cases t2 : w = 2
        · refine xr_tableIn (tgt := 78) (off := 49) D_Mo_about_29 (by rw [t2]; decide) (by rw [t2]; decide) (by rw [t2]; rfl) rfl ?_
          refine xr_aload_n D_Mo_about_78 rfl rfl ?_
          refine xr_getf F_Mo_238 D_Mo_about_79 rfl rfl ?_
          refine xr_iret rfl D_Mo_about_82 ?_
          first | exact Or.inl ⟨by grind [upd], rfl⟩ | exact Or.inr (Or.inl ⟨by grind [upd], rfl⟩) | exact Or.inr (Or.inr (Or.inl ⟨by grind [upd], rfl⟩)) | exact Or.inr (Or.inr (Or.inr (Or.inl ⟨by grind [upd], rfl⟩))) | exact Or.inr (Or.inr (Or.inr (Or.inr (Or.inl ⟨by grind [upd], rfl⟩)))) | exact Or.inr (Or.inr (Or.inr (Or.inr (Or.inr (Or.inl ⟨by grind [upd], rfl⟩))))) | exact Or.inr (Or.inr (Or.inr (Or.inr (Or.inr (Or.inr (Or.inl ⟨by grind [upd], rfl⟩)))))) | exact Or.inr (Or.inr (Or.inr (Or.inr (Or.inr (Or.inr (Or.inr (⟨by grind [upd], rfl⟩)))))))
        by_cases t3 : w = 3
        · refine xr_tableIn (tgt := 83) (off := 54) D_Mo_about_29 (by rw [t3]; decide) (by rw [t3]; decide) (by rw [t3]; rfl) rfl ?_
          refine xr_aload_n D_Mo_about_83 rfl rfl ?_
          refine xr_getf F_Mo_267 D_Mo_about_84 rfl rfl ?_
          refine xr_iret rfl D_Mo_about_87 ?_
          first | exact Or.inl ⟨by grind [upd], rfl⟩ | exact Or.inr (Or.inl ⟨by grind [upd], rfl⟩) | exact Or.inr (Or.inr (Or.inl ⟨by grind [upd], rfl⟩)) | exact Or.inr (Or.inr (Or.inr (Or.inl ⟨by grind [upd], rfl⟩))) | exact Or.inr (Or.inr (Or.inr (Or.inr (Or.inl ⟨by grind [upd], rfl⟩)))) | exact Or.inr (Or.inr (Or.inr (Or.inr (Or.inr (Or.inl ⟨by grind [upd], rfl⟩))))) | exact Or.inr (Or.inr (Or.inr (Or.inr (Or.inr (Or.inr (Or.inl ⟨by grind [upd], rfl⟩)))))) | exact Or.inr (Or.inr (Or.inr (Or.inr (Or.inr (Or.inr (Or.inr (⟨by grind [upd], rfl⟩)))))))
        by_cases t4 : w = 4
        · refine xr_tableIn (tgt := 88) (off := 59) D_Mo_about_29 (by rw [t4]; decide) (by rw [t4]; decide) (by rw [t4]; rfl) rfl ?_
          refine xr_aload_n D_Mo_about_88 rfl rfl ?_
          refine xr_getf F_Mo_270 D_Mo_about_89 rfl rfl ?_
          refine xr_iret rfl D_Mo_about_92 ?_
          first | exact Or.inl ⟨by grind [upd], rfl⟩ | exact Or.inr (Or.inl ⟨by grind [upd], rfl⟩) | exact Or.inr (Or.inr (Or.inl ⟨by grind [upd], rfl⟩)) | exact Or.inr (Or.inr (Or.inr (Or.inl ⟨by grind [upd], rfl⟩))) | exact Or.inr (Or.inr (Or.inr (Or.inr (Or.inl ⟨by grind [upd], rfl⟩)))) | exact Or.inr (Or.inr (Or.inr (Or.inr (Or.inr (Or.inl ⟨by grind [upd], rfl⟩))))) | exact Or.inr (Or.inr (Or.inr (Or.inr (Or.inr (Or.inr (Or.inl ⟨by grind [upd], rfl⟩)))))) | exact Or.inr (Or.inr (Or.inr (Or.inr (Or.inr (Or.inr (Or.inr (⟨by grind [upd], rfl⟩)))))))
        by_cases t5 : w = 5
        · refine xr_tableIn (tgt := 93) (off := 64) D_Mo_about_29 (by rw [t5]; decide) (by rw [t5]; decide) (by rw [t5]; rfl) rfl ?_
          refine xr_aload_n D_Mo_about_93 rfl rfl ?_
          refine xr_getf F_Mo_273 D_Mo_about_94 rfl rfl ?_
          refine xr_iret rfl D_Mo_about_97 ?_
          first | exact Or.inl ⟨by grind [upd], rfl⟩ | exact Or.inr (Or.inl ⟨by grind [upd], rfl⟩) | exact Or.inr (Or.inr (Or.inl ⟨by grind [upd], rfl⟩)) | exact Or.inr (Or.inr (Or.inr (Or.inl ⟨by grind [upd], rfl⟩))) | exact Or.inr (Or.inr (Or.inr (Or.inr (Or.inl ⟨by grind [upd], rfl⟩)))) | exact Or.inr (Or.inr (Or.inr (Or.inr (Or.inr (Or.inl ⟨by grind [upd], rfl⟩))))) | exact Or.inr (Or.inr (Or.inr (Or.inr (Or.inr (Or.inr (Or.inl ⟨by grind [upd], rfl⟩)))))) | exact Or.inr (Or.inr (Or.inr (Or.inr (Or.inr (Or.inr (Or.inr (⟨by grind [upd], rfl⟩)))))))
        refine xr_tableOut2 (tgt := 98) (lo9 := 0) (hi9 := 5) D_Mo_about_29 (by grind [upd]) rfl rfl rfl ?_
        refine xr_aload_n D_Mo_about_98 rfl rfl ?_
        refine xr_getf F_Mo_292 D_Mo_about_99 rfl rfl ?_
        refine xr_iret rfl D_Mo_about_102 ?_
        first | exact Or.inl ⟨by grind [upd], rfl⟩ | exact Or.inr (Or.inl ⟨by grind [upd], rfl⟩) | exact Or.inr (Or.inr (Or.inl ⟨by grind [upd], rfl⟩)) | exact Or.inr (Or.inr (Or.inr (Or.inl ⟨by grind [upd], rfl⟩))) | exact Or.inr (Or.inr (Or.inr (Or.inr (Or.inl ⟨by grind [upd], rfl⟩)))) | exact Or.inr (Or.inr (Or.inr (Or.inr (Or.inr (Or.inl ⟨by grind [upd], rfl⟩))))) | exact Or.inr (Or.inr (Or.inr (Or.inr (Or.inr (Or.inr (Or.inl ⟨by grind [upd], rfl⟩)))))) | exact Or.inr (Or.inr (Or.inr (Or.inr (Or.inr (Or.inr (Or.inr (⟨by grind [upd], rfl⟩)))))))
      · exact absurd (show (0 : Int32) ≤ (0 : Int32) by decide) c3
    · refine xr_iconst (v := 1) D_Mo_about_11 rfl ?_
      refine xr_goto (tgt := 16) D_Mo_about_12 rfl ?_
      refine xr_putf F_Mo_97 FT_Mo FN_Mo_0 D_Mo_about_16 rfl (Nat.le_of_ble_eq_true rfl) rfl rfl (pset_34_0) ?_
      refine xr_aload_n D_Mo_about_19 rfl rfl ?_
      refine xr_getf F_Mo_97 D_Mo_about_20 rfl rfl ?_
      refine xr_if_le (tgt := 28) D_Mo_about_23 rfl (fun c3 => ?_) (fun c3 => ?_)
      · exact absurd (show (1 : Int32) ≤ (0 : Int32) from c3) (by decide)
      · refine xr_iconst (v := 0) D_Mo_about_26 rfl ?_
        refine xr_iret rfl D_Mo_about_27 ?_
        first | exact Or.inl ⟨by grind [upd], rfl⟩ | exact Or.inr (Or.inl ⟨by grind [upd], rfl⟩) | exact Or.inr (Or.inr (Or.inl ⟨by grind [upd], rfl⟩)) | exact Or.inr (Or.inr (Or.inr (Or.inl ⟨by grind [upd], rfl⟩))) | exact Or.inr (Or.inr (Or.inr (Or.inr (Or.inl ⟨by grind [upd], rfl⟩)))) | exact Or.inr (Or.inr (Or.inr (Or.inr (Or.inr (Or.inl ⟨by grind [upd], rfl⟩))))) | exact Or.inr (Or.inr (Or.inr (Or.inr (Or.inr (Or.inr (Or.inl ⟨by grind [upd], rfl⟩)))))) | exact Or.inr (Or.inr (Or.inr (Or.inr (Or.inr (Or.inr (Or.inr (⟨by grind [upd], rfl⟩)))))))

theorem c_Mo_mark2_34 {I : mI} {A : mA} {L : mL} {i : Int32} {w : Int32} (h1 : I 3432 ≤ 2000) : xm m_Mo_mark2 (0, 0) [.ref 34, .int i, .int w] (pic I A L) 0 0 (fun o => ((¬ (0 ≤ i ∧ i < I 3432 ∧ 0 ≤ w ∧ w ≤ 5)) ∧ o = (.inl (some (.int 0)), pic (upd I 3400 1) A L)) ∨ ((0 ≤ i ∧ i < I 3432 ∧ 0 ≤ w ∧ w ≤ 5) ∧ o = (.inl (some (.int (A 55 (6 * i + w).toNatClampNeg))), pic (upd I 3400 0) A L))) := by
  refine xm_of rfl (by decide) (Nat.le_of_ble_eq_true rfl) ?_
  refine xr_aload_n D_Mo_mark2_0 rfl rfl ?_
  refine xr_iload_n D_Mo_mark2_1 rfl rfl ?_
  refine xr_if_lt (tgt := 22) D_Mo_mark2_2 rfl (fun c1 => ?_) (fun c1 => ?_)
  · refine xr_iconst (v := 1) D_Mo_mark2_22 rfl ?_
    refine xr_goto (tgt := 27) D_Mo_mark2_23 rfl ?_
    refine xr_putf F_Mo_97 FT_Mo FN_Mo_0 D_Mo_mark2_27 rfl (Nat.le_of_ble_eq_true rfl) rfl rfl (pset_34_0) ?_
    refine xr_aload_n D_Mo_mark2_30 rfl rfl ?_
    refine xr_getf F_Mo_97 D_Mo_mark2_31 rfl rfl ?_
    refine xr_if_le (tgt := 41) D_Mo_mark2_34 rfl (fun c2 => ?_) (fun c2 => ?_)
    · exact absurd (show (1 : Int32) ≤ (0 : Int32) from c2) (by decide)
    · refine xr_iconst (v := 0) D_Mo_mark2_37 rfl ?_
      refine xr_goto (tgt := 52) D_Mo_mark2_38 rfl ?_
      refine xr_iret rfl D_Mo_mark2_52 ?_
      first | exact Or.inl ⟨by grind [upd], rfl⟩ | exact Or.inr (⟨by grind [upd], rfl⟩)
  · refine xr_iload_n D_Mo_mark2_5 rfl rfl ?_
    refine xr_aload_n D_Mo_mark2_6 rfl rfl ?_
    refine xr_getf F_Mo_279 D_Mo_mark2_7 rfl rfl ?_
    refine xr_icmp_ge (tgt := 22) D_Mo_mark2_10 rfl (fun c2 => ?_) (fun c2 => ?_)
    · refine xr_iconst (v := 1) D_Mo_mark2_22 rfl ?_
      refine xr_goto (tgt := 27) D_Mo_mark2_23 rfl ?_
      refine xr_putf F_Mo_97 FT_Mo FN_Mo_0 D_Mo_mark2_27 rfl (Nat.le_of_ble_eq_true rfl) rfl rfl (pset_34_0) ?_
      refine xr_aload_n D_Mo_mark2_30 rfl rfl ?_
      refine xr_getf F_Mo_97 D_Mo_mark2_31 rfl rfl ?_
      refine xr_if_le (tgt := 41) D_Mo_mark2_34 rfl (fun c3 => ?_) (fun c3 => ?_)
      · exact absurd (show (1 : Int32) ≤ (0 : Int32) from c3) (by decide)
      · refine xr_iconst (v := 0) D_Mo_mark2_37 rfl ?_
        refine xr_goto (tgt := 52) D_Mo_mark2_38 rfl ?_
        refine xr_iret rfl D_Mo_mark2_52 ?_
        first | exact Or.inl ⟨by grind [upd], rfl⟩ | exact Or.inr (⟨by grind [upd], rfl⟩)
    · refine xr_iload_n D_Mo_mark2_13 rfl rfl ?_
      refine xr_if_lt (tgt := 22) D_Mo_mark2_14 rfl (fun c3 => ?_) (fun c3 => ?_)
      · refine xr_iconst (v := 1) D_Mo_mark2_22 rfl ?_
        refine xr_goto (tgt := 27) D_Mo_mark2_23 rfl ?_
        refine xr_putf F_Mo_97 FT_Mo FN_Mo_0 D_Mo_mark2_27 rfl (Nat.le_of_ble_eq_true rfl) rfl rfl (pset_34_0) ?_
        refine xr_aload_n D_Mo_mark2_30 rfl rfl ?_
        refine xr_getf F_Mo_97 D_Mo_mark2_31 rfl rfl ?_
        refine xr_if_le (tgt := 41) D_Mo_mark2_34 rfl (fun c4 => ?_) (fun c4 => ?_)
        · exact absurd (show (1 : Int32) ≤ (0 : Int32) from c4) (by decide)
        · refine xr_iconst (v := 0) D_Mo_mark2_37 rfl ?_
          refine xr_goto (tgt := 52) D_Mo_mark2_38 rfl ?_
          refine xr_iret rfl D_Mo_mark2_52 ?_
          first | exact Or.inl ⟨by grind [upd], rfl⟩ | exact Or.inr (⟨by grind [upd], rfl⟩)
      · refine xr_iload_n D_Mo_mark2_17 rfl rfl ?_
        refine xr_iconst (v := 5) D_Mo_mark2_18 rfl ?_
        refine xr_icmp_le (tgt := 26) D_Mo_mark2_19 rfl (fun c4 => ?_) (fun c4 => ?_)
        · refine xr_iconst (v := 0) D_Mo_mark2_26 rfl ?_
          refine xr_putf F_Mo_97 FT_Mo FN_Mo_0 D_Mo_mark2_27 rfl (Nat.le_of_ble_eq_true rfl) rfl rfl (pset_34_0) ?_
          refine xr_aload_n D_Mo_mark2_30 rfl rfl ?_
          refine xr_getf F_Mo_97 D_Mo_mark2_31 rfl rfl ?_
          refine xr_if_le (tgt := 41) D_Mo_mark2_34 rfl (fun c5 => ?_) (fun c5 => ?_)
          · refine xr_aload_n D_Mo_mark2_41 rfl rfl ?_
            refine xr_getf F_Mo_79 D_Mo_mark2_42 rfl rfl ?_
            refine xr_bipush (v := 6) D_Mo_mark2_45 rfl ?_
            refine xr_iload_n D_Mo_mark2_47 rfl rfl ?_
            refine xr_imul D_Mo_mark2_48 ?_
            refine xr_iload_n D_Mo_mark2_49 rfl rfl ?_
            refine xr_iadd D_Mo_mark2_50 ?_
            refine xr_iald D_Mo_mark2_51 rfl (by exact i_in2 12000 (by grind [upd]) (by grind [upd]) rfl) ?_
            refine xr_iret rfl D_Mo_mark2_52 ?_
            first | exact Or.inl ⟨by grind [upd], rfl⟩ | exact Or.inr (⟨by grind [upd], rfl⟩)
          · exact absurd (show (0 : Int32) ≤ (0 : Int32) by decide) c5
        · refine xr_iconst (v := 1) D_Mo_mark2_22 rfl ?_
          refine xr_goto (tgt := 27) D_Mo_mark2_23 rfl ?_
          refine xr_putf F_Mo_97 FT_Mo FN_Mo_0 D_Mo_mark2_27 rfl (Nat.le_of_ble_eq_true rfl) rfl rfl (pset_34_0) ?_
          refine xr_aload_n D_Mo_mark2_30 rfl rfl ?_
          refine xr_getf F_Mo_97 D_Mo_mark2_31 rfl rfl ?_
          refine xr_if_le (tgt := 41) D_Mo_mark2_34 rfl (fun c5 => ?_) (fun c5 => ?_)
          · exact absurd (show (1 : Int32) ≤ (0 : Int32) from c5) (by decide)
          · refine xr_iconst (v := 0) D_Mo_mark2_37 rfl ?_
            refine xr_goto (tgt := 52) D_Mo_mark2_38 rfl ?_
            refine xr_iret rfl D_Mo_mark2_52 ?_
            first | exact Or.inl ⟨by grind [upd], rfl⟩ | exact Or.inr (⟨by grind [upd], rfl⟩)

theorem c_Mo_page_34 {I : mI} {A : mA} {L : mL} {p : Int32} {i : Int32} (h1 : I 3434 ≤ 1300) : xm m_Mo_page (0, 0) [.ref 34, .int p, .int i] (pic I A L) 0 0 (fun o => ((¬ (0 ≤ p ∧ p < I 3434 ∧ 0 ≤ i ∧ i ≤ 9)) ∧ o = (.inl (some (.int 0)), pic (upd I 3400 1) A L)) ∨ ((0 ≤ p ∧ p < I 3434 ∧ 0 ≤ i ∧ i ≤ 9) ∧ o = (.inl (some (.int (A 56 (10 * p + i).toNatClampNeg))), pic (upd I 3400 0) A L))) := by
  refine xm_of rfl (by decide) (Nat.le_of_ble_eq_true rfl) ?_
  refine xr_aload_n D_Mo_page_0 rfl rfl ?_
  refine xr_iload_n D_Mo_page_1 rfl rfl ?_
  refine xr_if_lt (tgt := 23) D_Mo_page_2 rfl (fun c1 => ?_) (fun c1 => ?_)
  · refine xr_iconst (v := 1) D_Mo_page_23 rfl ?_
    refine xr_goto (tgt := 28) D_Mo_page_24 rfl ?_
    refine xr_putf F_Mo_97 FT_Mo FN_Mo_0 D_Mo_page_28 rfl (Nat.le_of_ble_eq_true rfl) rfl rfl (pset_34_0) ?_
    refine xr_aload_n D_Mo_page_31 rfl rfl ?_
    refine xr_getf F_Mo_97 D_Mo_page_32 rfl rfl ?_
    refine xr_if_le (tgt := 42) D_Mo_page_35 rfl (fun c2 => ?_) (fun c2 => ?_)
    · exact absurd (show (1 : Int32) ≤ (0 : Int32) from c2) (by decide)
    · refine xr_iconst (v := 0) D_Mo_page_38 rfl ?_
      refine xr_goto (tgt := 53) D_Mo_page_39 rfl ?_
      refine xr_iret rfl D_Mo_page_53 ?_
      first | exact Or.inl ⟨by grind [upd], rfl⟩ | exact Or.inr (⟨by grind [upd], rfl⟩)
  · refine xr_iload_n D_Mo_page_5 rfl rfl ?_
    refine xr_aload_n D_Mo_page_6 rfl rfl ?_
    refine xr_getf F_Mo_257 D_Mo_page_7 rfl rfl ?_
    refine xr_icmp_ge (tgt := 23) D_Mo_page_10 rfl (fun c2 => ?_) (fun c2 => ?_)
    · refine xr_iconst (v := 1) D_Mo_page_23 rfl ?_
      refine xr_goto (tgt := 28) D_Mo_page_24 rfl ?_
      refine xr_putf F_Mo_97 FT_Mo FN_Mo_0 D_Mo_page_28 rfl (Nat.le_of_ble_eq_true rfl) rfl rfl (pset_34_0) ?_
      refine xr_aload_n D_Mo_page_31 rfl rfl ?_
      refine xr_getf F_Mo_97 D_Mo_page_32 rfl rfl ?_
      refine xr_if_le (tgt := 42) D_Mo_page_35 rfl (fun c3 => ?_) (fun c3 => ?_)
      · exact absurd (show (1 : Int32) ≤ (0 : Int32) from c3) (by decide)
      · refine xr_iconst (v := 0) D_Mo_page_38 rfl ?_
        refine xr_goto (tgt := 53) D_Mo_page_39 rfl ?_
        refine xr_iret rfl D_Mo_page_53 ?_
        first | exact Or.inl ⟨by grind [upd], rfl⟩ | exact Or.inr (⟨by grind [upd], rfl⟩)
    · refine xr_iload_n D_Mo_page_13 rfl rfl ?_
      refine xr_if_lt (tgt := 23) D_Mo_page_14 rfl (fun c3 => ?_) (fun c3 => ?_)
      · refine xr_iconst (v := 1) D_Mo_page_23 rfl ?_
        refine xr_goto (tgt := 28) D_Mo_page_24 rfl ?_
        refine xr_putf F_Mo_97 FT_Mo FN_Mo_0 D_Mo_page_28 rfl (Nat.le_of_ble_eq_true rfl) rfl rfl (pset_34_0) ?_
        refine xr_aload_n D_Mo_page_31 rfl rfl ?_
        refine xr_getf F_Mo_97 D_Mo_page_32 rfl rfl ?_
        refine xr_if_le (tgt := 42) D_Mo_page_35 rfl (fun c4 => ?_) (fun c4 => ?_)
        · exact absurd (show (1 : Int32) ≤ (0 : Int32) from c4) (by decide)
        · refine xr_iconst (v := 0) D_Mo_page_38 rfl ?_
          refine xr_goto (tgt := 53) D_Mo_page_39 rfl ?_
          refine xr_iret rfl D_Mo_page_53 ?_
          first | exact Or.inl ⟨by grind [upd], rfl⟩ | exact Or.inr (⟨by grind [upd], rfl⟩)
      · refine xr_iload_n D_Mo_page_17 rfl rfl ?_
        refine xr_bipush (v := 9) D_Mo_page_18 rfl ?_
        refine xr_icmp_le (tgt := 27) D_Mo_page_20 rfl (fun c4 => ?_) (fun c4 => ?_)
        · refine xr_iconst (v := 0) D_Mo_page_27 rfl ?_
          refine xr_putf F_Mo_97 FT_Mo FN_Mo_0 D_Mo_page_28 rfl (Nat.le_of_ble_eq_true rfl) rfl rfl (pset_34_0) ?_
          refine xr_aload_n D_Mo_page_31 rfl rfl ?_
          refine xr_getf F_Mo_97 D_Mo_page_32 rfl rfl ?_
          refine xr_if_le (tgt := 42) D_Mo_page_35 rfl (fun c5 => ?_) (fun c5 => ?_)
          · refine xr_aload_n D_Mo_page_42 rfl rfl ?_
            refine xr_getf F_Mo_82 D_Mo_page_43 rfl rfl ?_
            refine xr_bipush (v := 10) D_Mo_page_46 rfl ?_
            refine xr_iload_n D_Mo_page_48 rfl rfl ?_
            refine xr_imul D_Mo_page_49 ?_
            refine xr_iload_n D_Mo_page_50 rfl rfl ?_
            refine xr_iadd D_Mo_page_51 ?_
            refine xr_iald D_Mo_page_52 rfl (by exact i_in2 13000 (by grind [upd]) (by grind [upd]) rfl) ?_
            refine xr_iret rfl D_Mo_page_53 ?_
            first | exact Or.inl ⟨by grind [upd], rfl⟩ | exact Or.inr (⟨by grind [upd], rfl⟩)
          · exact absurd (show (0 : Int32) ≤ (0 : Int32) by decide) c5
        · refine xr_iconst (v := 1) D_Mo_page_23 rfl ?_
          refine xr_goto (tgt := 28) D_Mo_page_24 rfl ?_
          refine xr_putf F_Mo_97 FT_Mo FN_Mo_0 D_Mo_page_28 rfl (Nat.le_of_ble_eq_true rfl) rfl rfl (pset_34_0) ?_
          refine xr_aload_n D_Mo_page_31 rfl rfl ?_
          refine xr_getf F_Mo_97 D_Mo_page_32 rfl rfl ?_
          refine xr_if_le (tgt := 42) D_Mo_page_35 rfl (fun c5 => ?_) (fun c5 => ?_)
          · exact absurd (show (1 : Int32) ≤ (0 : Int32) from c5) (by decide)
          · refine xr_iconst (v := 0) D_Mo_page_38 rfl ?_
            refine xr_goto (tgt := 53) D_Mo_page_39 rfl ?_
            refine xr_iret rfl D_Mo_page_53 ?_
            first | exact Or.inl ⟨by grind [upd], rfl⟩ | exact Or.inr (⟨by grind [upd], rfl⟩)
