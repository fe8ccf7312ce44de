abbrev msF (g : Int32 → Int32) (s c a : Int32) : Prop := (s = 0 ∧ c = 247 ∧ g (a + 1) = 2) ∨ (s = 1 ∧ (c = 138 ∨ (242 < c ∧ c < 247) ∨ c = 139 ∨ c = 248)) ∨ (s = 2 ∧ ¬ c = 139 ∧ c < 247) ∨ (¬ s = 0 ∧ ¬ s = 1 ∧ ¬ s = 2 ∧ (c = 138 ∨ (242 < c ∧ c < 247) ∨ c = 249 ∧ g (a + 5) = 2))
def faR (f : Nat → Int32) (x : Int32) : Nat → Nat → Int32 → Int32
  | 0, _, r => r
  | t + 1, j, r => faR f x t (j + 1) (if f j = x then Int32.ofNat j else r)
theorem faR_s {f : Nat → Int32} {x r : Int32} {t j : Nat} : faR f x (t + 1) j r = faR f x t (j + 1) (if f j = x then Int32.ofNat j else r) := rfl

theorem c_Mo_mayStand_34 {I : mI} {A : mA} {L : mL} {c : Int32} (h0 : 0 ≤ I 3444) (h7 : c = 247 → I 3444 < 69986) (h9 : c = 249 → I 3444 < 69995) : xm m_Mo_mayStand (1, 21) [.ref 34, .int c] (pic I A L) 0 0 (fun o => o = (.inl (some (.int (b2 (msF (gmt (A 54)) (I 3443) c (I 3444))))), (pic I A L))) := by
  refine xm_of rfl (by decide) (Nat.le_of_ble_eq_true rfl) ?_
  refine xr_aload_n D_Mo_mayStand_0 rfl rfl ?_
  refine xr_getf F_Mo_232 D_Mo_mayStand_1 rfl rfl ?_
  by_cases t0 : I 3443 = 0
  · refine xr_tableIn (tgt := 32) (off := 28) D_Mo_mayStand_4 (by rw [t0]; decide) (by rw [t0]; decide) (by rw [t0]; rfl) rfl ?_
    refine xr_iload_n D_Mo_mayStand_32 rfl rfl ?_
    refine xr_sipush (v := 247) D_Mo_mayStand_33 rfl ?_
    refine xr_icmp_ne (tgt := 57) D_Mo_mayStand_36 rfl (fun c1 => ?_) (fun c1 => ?_)
    · refine xr_iconst (v := 0) D_Mo_mayStand_57 rfl ?_
      refine xr_zret rfl (by first | rfl | exact nar_b2 | exact nar_z hz) D_Mo_mayStand_58 ?_
      first | exact ob_t (by grind) | exact ob_f (by grind)
    · refine xr_aload_n D_Mo_mayStand_39 rfl rfl ?_
      refine xr_aload_n D_Mo_mayStand_40 rfl rfl ?_
      refine xr_getf F_Mo_203 D_Mo_mayStand_41 rfl rfl ?_
      refine xr_iconst (v := 1) D_Mo_mayStand_44 rfl ?_
      refine xr_iadd D_Mo_mayStand_45 ?_
      refine xr_cVx (as := [_]) (c_Mo_byteAt_34 (by grind) (by grind)) (L_Mo_200) (CD_Mo_byteAt) CI_Mo D_Mo_mayStand_46 rfl rfl (by decide) (Nat.le_of_ble_eq_true rfl) (Nat.le_of_eq (Nat.zero_add _)) (Nat.le_of_eq (Nat.zero_add _)) pic_len ?_
      rintro _ rfl
      refine ⟨_, _, rfl, rfl, ?_⟩
      refine xr_iconst (v := 2) D_Mo_mayStand_49 rfl ?_
      refine xr_icmp_ne (tgt := 57) D_Mo_mayStand_50 rfl (fun c2 => ?_) (fun c2 => ?_)
      · refine xr_iconst (v := 0) D_Mo_mayStand_57 rfl ?_
        refine xr_zret rfl (by first | rfl | exact nar_b2 | exact nar_z hz) D_Mo_mayStand_58 ?_
        first | exact ob_t (by grind) | exact ob_f (by grind)
      · refine xr_iconst (v := 1) D_Mo_mayStand_53 rfl ?_
        refine xr_goto (tgt := 58) D_Mo_mayStand_54 rfl ?_
        refine xr_zret rfl (by first | rfl | exact nar_b2 | exact nar_z hz) D_Mo_mayStand_58 ?_
        first | exact ob_t (by grind) | exact ob_f (by grind)
  by_cases t1 : I 3443 = 1
  · refine xr_tableIn (tgt := 59) (off := 55) D_Mo_mayStand_4 (by rw [t1]; decide) (by rw [t1]; decide) (by rw [t1]; rfl) rfl ?_
    refine xr_iload_n D_Mo_mayStand_59 rfl rfl ?_
    refine xr_sipush (v := 138) D_Mo_mayStand_60 rfl ?_
    refine xr_icmp_eq (tgt := 88) D_Mo_mayStand_63 rfl (fun c3 => ?_) (fun c3 => ?_)
    · refine xr_iconst (v := 1) D_Mo_mayStand_88 rfl ?_
      refine xr_goto (tgt := 93) D_Mo_mayStand_89 rfl ?_
      refine xr_zret rfl (by first | rfl | exact nar_b2 | exact nar_z hz) D_Mo_mayStand_93 ?_
      first | exact ob_t (by grind) | exact ob_f (by grind)
    · refine xr_aload_n D_Mo_mayStand_66 rfl rfl ?_
      refine xr_iload_n D_Mo_mayStand_67 rfl rfl ?_
      refine xr_cVx (as := [_]) (c_Mo_isFontTold_34) (L_Mo_235) (CD_Mo_isFontTold) CI_Mo D_Mo_mayStand_68 rfl rfl (by decide) (Nat.le_of_ble_eq_true rfl) (Nat.le_of_eq (Nat.zero_add _)) (Nat.le_of_eq (Nat.zero_add _)) pic_len ?_
      rintro _ rfl
      refine ⟨_, _, rfl, rfl, ?_⟩
      refine xr_if_ne (tgt := 88) D_Mo_mayStand_71 rfl (fun c4 => ?_) (fun c4 => ?_)
      · rw [b2_n] at c4
        refine xr_iconst (v := 1) D_Mo_mayStand_88 rfl ?_
        refine xr_goto (tgt := 93) D_Mo_mayStand_89 rfl ?_
        refine xr_zret rfl (by first | rfl | exact nar_b2 | exact nar_z hz) D_Mo_mayStand_93 ?_
        first | exact ob_t (by grind) | exact ob_f (by grind)
      · rw [b2_0] at c4
        refine xr_iload_n D_Mo_mayStand_74 rfl rfl ?_
        refine xr_sipush (v := 139) D_Mo_mayStand_75 rfl ?_
        refine xr_icmp_eq (tgt := 88) D_Mo_mayStand_78 rfl (fun c5 => ?_) (fun c5 => ?_)
        · refine xr_iconst (v := 1) D_Mo_mayStand_88 rfl ?_
          refine xr_goto (tgt := 93) D_Mo_mayStand_89 rfl ?_
          refine xr_zret rfl (by first | rfl | exact nar_b2 | exact nar_z hz) D_Mo_mayStand_93 ?_
          first | exact ob_t (by grind) | exact ob_f (by grind)
        · refine xr_iload_n D_Mo_mayStand_81 rfl rfl ?_
          refine xr_sipush (v := 248) D_Mo_mayStand_82 rfl ?_
          refine xr_icmp_ne (tgt := 92) D_Mo_mayStand_85 rfl (fun c6 => ?_) (fun c6 => ?_)
          · refine xr_iconst (v := 0) D_Mo_mayStand_92 rfl ?_
            refine xr_zret rfl (by first | rfl | exact nar_b2 | exact nar_z hz) D_Mo_mayStand_93 ?_
            first | exact ob_t (by grind) | exact ob_f (by grind)
          · refine xr_iconst (v := 1) D_Mo_mayStand_88 rfl ?_
            refine xr_goto (tgt := 93) D_Mo_mayStand_89 rfl ?_
            refine xr_zret rfl (by first | rfl | exact nar_b2 | exact nar_z hz) D_Mo_mayStand_93 ?_
            first | exact ob_t (by grind) | exact ob_f (by grind)
  by_cases t2 : I 3443 = 2
  · refine xr_tableIn (tgt := 94) (off := 90) D_Mo_mayStand_4 (by rw [t2]; decide) (by rw [t2]; decide) (by rw [t2]; rfl) rfl ?_
    refine xr_iload_n D_Mo_mayStand_94 rfl rfl ?_
    refine xr_sipush (v := 139) D_Mo_mayStand_95 rfl ?_
    refine xr_icmp_eq (tgt := 112) D_Mo_mayStand_98 rfl (fun c7 => ?_) (fun c7 => ?_)
    · refine xr_iconst (v := 0) D_Mo_mayStand_112 rfl ?_
      refine xr_zret rfl (by first | rfl | exact nar_b2 | exact nar_z hz) D_Mo_mayStand_113 ?_
      first | exact ob_t (by grind) | exact ob_f (by grind)
    · refine xr_iload_n D_Mo_mayStand_101 rfl rfl ?_
      refine xr_sipush (v := 247) D_Mo_mayStand_102 rfl ?_
      refine xr_icmp_ge (tgt := 112) D_Mo_mayStand_105 rfl (fun c8 => ?_) (fun c8 => ?_)
      · refine xr_iconst (v := 0) D_Mo_mayStand_112 rfl ?_
        refine xr_zret rfl (by first | rfl | exact nar_b2 | exact nar_z hz) D_Mo_mayStand_113 ?_
        first | exact ob_t (by grind) | exact ob_f (by grind)
      · refine xr_iconst (v := 1) D_Mo_mayStand_108 rfl ?_
        refine xr_goto (tgt := 113) D_Mo_mayStand_109 rfl ?_
        refine xr_zret rfl (by first | rfl | exact nar_b2 | exact nar_z hz) D_Mo_mayStand_113 ?_
        first | exact ob_t (by grind) | exact ob_f (by grind)
  refine xr_tableOut2 (tgt := 114) (lo9 := 0) (hi9 := 2) D_Mo_mayStand_4 (by grind) rfl rfl rfl ?_
  refine xr_iload_n D_Mo_mayStand_114 rfl rfl ?_
  refine xr_sipush (v := 138) D_Mo_mayStand_115 rfl ?_
  refine xr_icmp_eq (tgt := 150) D_Mo_mayStand_118 rfl (fun c9 => ?_) (fun c9 => ?_)
  · refine xr_iconst (v := 1) D_Mo_mayStand_150 rfl ?_
    refine xr_goto (tgt := 155) D_Mo_mayStand_151 rfl ?_
    refine xr_zret rfl (by first | rfl | exact nar_b2 | exact nar_z hz) D_Mo_mayStand_155 ?_
    first | exact ob_t (by grind) | exact ob_f (by grind)
  · refine xr_aload_n D_Mo_mayStand_121 rfl rfl ?_
    refine xr_iload_n D_Mo_mayStand_122 rfl rfl ?_
    refine xr_cVx (as := [_]) (c_Mo_isFontTold_34) (L_Mo_235) (CD_Mo_isFontTold) CI_Mo D_Mo_mayStand_123 rfl rfl (by decide) (Nat.le_of_ble_eq_true rfl) (Nat.le_of_eq (Nat.zero_add _)) (Nat.le_of_eq (Nat.zero_add _)) pic_len ?_
    rintro _ rfl
    refine ⟨_, _, rfl, rfl, ?_⟩
    refine xr_if_ne (tgt := 150) D_Mo_mayStand_126 rfl (fun c10 => ?_) (fun c10 => ?_)
    · rw [b2_n] at c10
      refine xr_iconst (v := 1) D_Mo_mayStand_150 rfl ?_
      refine xr_goto (tgt := 155) D_Mo_mayStand_151 rfl ?_
      refine xr_zret rfl (by first | rfl | exact nar_b2 | exact nar_z hz) D_Mo_mayStand_155 ?_
      first | exact ob_t (by grind) | exact ob_f (by grind)
    · rw [b2_0] at c10
      refine xr_iload_n D_Mo_mayStand_129 rfl rfl ?_
      refine xr_sipush (v := 249) D_Mo_mayStand_130 rfl ?_
      refine xr_icmp_ne (tgt := 154) D_Mo_mayStand_133 rfl (fun c11 => ?_) (fun c11 => ?_)
      · refine xr_iconst (v := 0) D_Mo_mayStand_154 rfl ?_
        refine xr_zret rfl (by first | rfl | exact nar_b2 | exact nar_z hz) D_Mo_mayStand_155 ?_
        first | exact ob_t (by grind) | exact ob_f (by grind)
      · refine xr_aload_n D_Mo_mayStand_136 rfl rfl ?_
        refine xr_aload_n D_Mo_mayStand_137 rfl rfl ?_
        refine xr_getf F_Mo_203 D_Mo_mayStand_138 rfl rfl ?_
        refine xr_iconst (v := 5) D_Mo_mayStand_141 rfl ?_
        refine xr_iadd D_Mo_mayStand_142 ?_
        refine xr_cVx (as := [_]) (c_Mo_byteAt_34 (by grind) (by grind)) (L_Mo_200) (CD_Mo_byteAt) CI_Mo D_Mo_mayStand_143 rfl rfl (by decide) (Nat.le_of_ble_eq_true rfl) (Nat.le_of_eq (Nat.zero_add _)) (Nat.le_of_eq (Nat.zero_add _)) pic_len ?_
        rintro _ rfl
        refine ⟨_, _, rfl, rfl, ?_⟩
        refine xr_iconst (v := 2) D_Mo_mayStand_146 rfl ?_
        refine xr_icmp_ne (tgt := 154) D_Mo_mayStand_147 rfl (fun c12 => ?_) (fun c12 => ?_)
        · refine xr_iconst (v := 0) D_Mo_mayStand_154 rfl ?_
          refine xr_zret rfl (by first | rfl | exact nar_b2 | exact nar_z hz) D_Mo_mayStand_155 ?_
          first | exact ob_t (by grind) | exact ob_f (by grind)
        · refine xr_iconst (v := 1) D_Mo_mayStand_150 rfl ?_
          refine xr_goto (tgt := 155) D_Mo_mayStand_151 rfl ?_
          refine xr_zret rfl (by first | rfl | exact nar_b2 | exact nar_z hz) D_Mo_mayStand_155 ?_
          first | exact ob_t (by grind) | exact ob_f (by grind)

theorem c_Mo_add_34 {I : mI} {A : mA} {L : mL} {w : Int32} {d : Int32} (h0 : 0 ≤ w) (h1 : w < 6) : xm m_Mo_add (1, 21) [.ref 34, .int w, .int d] (pic I A L) 0 0 (fun o => ((¬ fitL (smG (A 60 w.toNatClampNeg) d)) ∧ o = (.inl (some (.int 8)), pic I A L)) ∨ ((fitL (smG (A 60 w.toNatClampNeg) d)) ∧ o = (.inl (some (.int 0)), pic I (upA A 60 w.toNatClampNeg (smG (A 60 w.toNatClampNeg) d).toInt32) L))) := by
  refine xm_of rfl (by decide) (Nat.le_of_ble_eq_true rfl) ?_
  refine xr_aload_n D_Mo_add_0 rfl rfl ?_
  refine xr_getf F_Mo_94 D_Mo_add_1 rfl rfl ?_
  refine xr_iload_n D_Mo_add_4 rfl rfl ?_
  refine xr_iald D_Mo_add_5 rfl (by exact i_in2 6 (by grind) (by grind) rfl) ?_
  refine xr_i2l D_Mo_add_6 ?_
  refine xr_iload_n D_Mo_add_7 rfl rfl ?_
  refine xr_i2l D_Mo_add_8 ?_
  refine xr_ladd D_Mo_add_9 ?_
  refine xr_lstore_n D_Mo_add_10 rfl (by decide) ?_
  refine xr_lload_n D_Mo_add_11 rfl rfl ?_
  refine xr_cSx (as := [_]) (c_Mo_isInt) (L_Mo_158) (CD_Mo_isInt) D_Mo_add_12 rfl (by decide) (Nat.le_of_ble_eq_true rfl) (Nat.le_of_eq (Nat.zero_add _)) (Nat.le_of_eq (Nat.zero_add _)) pic_len ?_
  rintro _ rfl
  refine ⟨_, _, rfl, rfl, ?_⟩
  refine xr_if_ne (tgt := 21) D_Mo_add_15 rfl (fun c1 => ?_) (fun c1 => ?_)
  · rw [b2_n] at c1
    refine xr_aload_n D_Mo_add_21 rfl rfl ?_
    refine xr_getf F_Mo_94 D_Mo_add_22 rfl rfl ?_
    refine xr_iload_n D_Mo_add_25 rfl rfl ?_
    refine xr_lload_n D_Mo_add_26 rfl rfl ?_
    refine xr_l2i D_Mo_add_27 ?_
    refine xr_iast D_Mo_add_28 rfl (by exact i_in2 6 (by grind) (by grind) rfl) (aset_60) ?_
    refine xr_iconst (v := 0) D_Mo_add_29 rfl ?_
    refine xr_iret rfl D_Mo_add_30 ?_
    first | exact Or.inl ⟨c1, rfl⟩ | exact Or.inr ⟨c1, rfl⟩
  · rw [b2_0] at c1
    refine xr_bipush (v := 8) D_Mo_add_18 rfl ?_
    refine xr_iret rfl D_Mo_add_20 ?_
    first | exact Or.inl ⟨c1, rfl⟩ | exact Or.inr ⟨c1, rfl⟩

theorem c_Mo_noteMark_34 {I : mI} {A : mA} {L : mL} {f : Int32} {c : Int32} {h : Int32} (h0 : 0 ≤ I 3432) (h1 : I 3432 < 2000) : xm m_Mo_noteMark (0, 0) [.ref 34, .int f, .int c, .int h] (pic I A L) 0 0 (fun o => o = (.inl none, pic (upd I 3432 (I 3432 + 1)) (upA (upA (upA (upA (upA (upA A 55 (6 * I 3432).toNatClampNeg (I 3434 - 1)) 55 (6 * I 3432 + 1).toNatClampNeg (f)) 55 (6 * I 3432 + 2).toNatClampNeg (c)) 55 (6 * I 3432 + 3).toNatClampNeg (A 60 0)) 55 (6 * I 3432 + 4).toNatClampNeg (A 60 1)) 55 (6 * I 3432 + 5).toNatClampNeg (h)) L)) := by
  refine xm_of rfl (by decide) (Nat.le_of_ble_eq_true rfl) ?_
  refine xr_bipush (v := 6) D_Mo_noteMark_0 rfl ?_
  refine xr_aload_n D_Mo_noteMark_2 rfl rfl ?_
  refine xr_getf F_Mo_279 D_Mo_noteMark_3 rfl rfl ?_
  refine xr_imul D_Mo_noteMark_6 ?_
  refine xr_istore D_Mo_noteMark_7 (by decide) ?_
  refine xr_aload_n D_Mo_noteMark_9 rfl rfl ?_
  refine xr_getf F_Mo_79 D_Mo_noteMark_10 rfl rfl ?_
  refine xr_iload D_Mo_noteMark_13 rfl ?_
  refine xr_aload_n D_Mo_noteMark_15 rfl rfl ?_
  refine xr_getf F_Mo_257 D_Mo_noteMark_16 rfl rfl ?_
  refine xr_iconst (v := 1) D_Mo_noteMark_19 rfl ?_
  refine xr_isub D_Mo_noteMark_20 ?_
  refine xr_iast D_Mo_noteMark_21 rfl (by exact i_in2 12000 (by grind) (by grind) rfl) (aset_55) ?_
  refine xr_aload_n D_Mo_noteMark_22 rfl rfl ?_
  refine xr_getf F_Mo_79 D_Mo_noteMark_23 rfl rfl ?_
  refine xr_iload D_Mo_noteMark_26 rfl ?_
  refine xr_iconst (v := 1) D_Mo_noteMark_28 rfl ?_
  refine xr_iadd D_Mo_noteMark_29 ?_
  refine xr_iload_n D_Mo_noteMark_30 rfl rfl ?_
  refine xr_iast D_Mo_noteMark_31 rfl (by exact i_in2 12000 (by grind) (by grind) rfl) (aset_55) ?_
  refine xr_aload_n D_Mo_noteMark_32 rfl rfl ?_
  refine xr_getf F_Mo_79 D_Mo_noteMark_33 rfl rfl ?_
  refine xr_iload D_Mo_noteMark_36 rfl ?_
  refine xr_iconst (v := 2) D_Mo_noteMark_38 rfl ?_
  refine xr_iadd D_Mo_noteMark_39 ?_
  refine xr_iload_n D_Mo_noteMark_40 rfl rfl ?_
  refine xr_iast D_Mo_noteMark_41 rfl (by exact i_in2 12000 (by grind) (by grind) rfl) (aset_55) ?_
  refine xr_aload_n D_Mo_noteMark_42 rfl rfl ?_
  refine xr_getf F_Mo_79 D_Mo_noteMark_43 rfl rfl ?_
  refine xr_iload D_Mo_noteMark_46 rfl ?_
  refine xr_iconst (v := 3) D_Mo_noteMark_48 rfl ?_
  refine xr_iadd D_Mo_noteMark_49 ?_
  refine xr_aload_n D_Mo_noteMark_50 rfl rfl ?_
  refine xr_getf F_Mo_94 D_Mo_noteMark_51 rfl rfl ?_
  refine xr_iconst (v := 0) D_Mo_noteMark_54 rfl ?_
  refine xr_iald D_Mo_noteMark_55 rfl (by exact i_in2 6 (by grind) (by grind) rfl) ?_
  refine xr_iast D_Mo_noteMark_56 rfl (by exact i_in2 12000 (by grind) (by grind) rfl) (aset_55) ?_
  refine xr_aload_n D_Mo_noteMark_57 rfl rfl ?_
  refine xr_getf F_Mo_79 D_Mo_noteMark_58 rfl rfl ?_
  refine xr_iload D_Mo_noteMark_61 rfl ?_
  refine xr_iconst (v := 4) D_Mo_noteMark_63 rfl ?_
  refine xr_iadd D_Mo_noteMark_64 ?_
  refine xr_aload_n D_Mo_noteMark_65 rfl rfl ?_
  refine xr_getf F_Mo_94 D_Mo_noteMark_66 rfl rfl ?_
  refine xr_iconst (v := 1) D_Mo_noteMark_69 rfl ?_
  refine xr_iald D_Mo_noteMark_70 rfl (by exact i_in2 6 (by grind) (by grind) rfl) ?_
  refine xr_iast D_Mo_noteMark_71 rfl (by exact i_in2 12000 (by grind) (by grind) rfl) (aset_55) ?_
  refine xr_aload_n D_Mo_noteMark_72 rfl rfl ?_
  refine xr_getf F_Mo_79 D_Mo_noteMark_73 rfl rfl ?_
  refine xr_iload D_Mo_noteMark_76 rfl ?_
  refine xr_iconst (v := 5) D_Mo_noteMark_78 rfl ?_
  refine xr_iadd D_Mo_noteMark_79 ?_
  refine xr_iload_n D_Mo_noteMark_80 rfl rfl ?_
  refine xr_iast D_Mo_noteMark_81 rfl (by exact i_in2 12000 (by grind) (by grind) rfl) (aset_55) ?_
  refine xr_aload_n D_Mo_noteMark_82 rfl rfl ?_
  refine xr_dup D_Mo_noteMark_83 rfl ?_
  refine xr_getf F_Mo_279 D_Mo_noteMark_84 rfl rfl ?_
  refine xr_iconst (v := 1) D_Mo_noteMark_87 rfl ?_
  refine xr_iadd D_Mo_noteMark_88 ?_
  refine xr_putf F_Mo_279 FT_Mo FN_Mo_32 D_Mo_noteMark_89 rfl (Nat.le_of_ble_eq_true rfl) rfl rfl (pset_34_32) ?_
  refine xr_vret rfl D_Mo_noteMark_92 ?_
  exact rfl

theorem c_Mo_push_34 {I : mI} {A : mA} {L : mL}  (h0 : 0 ≤ I 3450) (h1 : I 3450 ≤ 100) : xm m_Mo_push (0, 0) [.ref 34] (pic I A L) 0 0 (fun o => ((I 3450 = 100) ∧ o = (.inl (some (.int 4)), pic I A L)) ∨ ((¬ I 3450 = 100 ∧ I 3442 < I 3450 + 1) ∧ o = (.inl (some (.int 0)), pic (upd (upd I 3450 (I 3450 + 1)) 3442 (I 3450 + 1)) (upA (upA (upA (upA (upA (upA A 59 (6 * I 3450 + 0).toNatClampNeg (A 60 0)) 59 (6 * I 3450 + 1).toNatClampNeg (A 60 1)) 59 (6 * I 3450 + 2).toNatClampNeg (A 60 2)) 59 (6 * I 3450 + 3).toNatClampNeg (A 60 3)) 59 (6 * I 3450 + 4).toNatClampNeg (A 60 4)) 59 (6 * I 3450 + 5).toNatClampNeg (A 60 5)) L)) ∨ ((¬ I 3450 = 100 ∧ ¬ I 3442 < I 3450 + 1) ∧ o = (.inl (some (.int 0)), pic (upd (upd I 3450 (I 3450 + 1)) 3442 (I 3442)) (upA (upA (upA (upA (upA (upA A 59 (6 * I 3450 + 0).toNatClampNeg (A 60 0)) 59 (6 * I 3450 + 1).toNatClampNeg (A 60 1)) 59 (6 * I 3450 + 2).toNatClampNeg (A 60 2)) 59 (6 * I 3450 + 3).toNatClampNeg (A 60 3)) 59 (6 * I 3450 + 4).toNatClampNeg (A 60 4)) 59 (6 * I 3450 + 5).toNatClampNeg (A 60 5)) L))) := by
  refine xm_of rfl (by decide) (Nat.le_of_ble_eq_true rfl) ?_
  refine xr_aload_n D_Mo_push_0 rfl rfl ?_
  refine xr_getf F_Mo_263 D_Mo_push_1 rfl rfl ?_
  refine xr_bipush (v := 100) D_Mo_push_4 rfl ?_
  refine xr_icmp_ne (tgt := 11) D_Mo_push_6 rfl (fun c1 => ?_) (fun c1 => ?_)
  · refine xr_iconst (v := 0) D_Mo_push_11 rfl ?_
    refine xr_istore_n D_Mo_push_12 rfl (by decide) ?_
    refine xr_iload_n D_Mo_push_13 rfl rfl ?_
    refine xr_bipush (v := 6) D_Mo_push_14 rfl ?_
    refine xr_icmp_ge (tgt := 45) D_Mo_push_16 rfl (fun c2 => ?_) (fun c2 => ?_)
    · exact absurd (show (6 : Int32) ≤ (0 : Int32) from c2) (by decide)
    · refine xr_aload_n D_Mo_push_19 rfl rfl ?_
      refine xr_getf F_Mo_91 D_Mo_push_20 rfl rfl ?_
      refine xr_bipush (v := 6) D_Mo_push_23 rfl ?_
      refine xr_aload_n D_Mo_push_25 rfl rfl ?_
      refine xr_getf F_Mo_263 D_Mo_push_26 rfl rfl ?_
      refine xr_imul D_Mo_push_29 ?_
      refine xr_iload_n D_Mo_push_30 rfl rfl ?_
      refine xr_iadd D_Mo_push_31 ?_
      refine xr_aload_n D_Mo_push_32 rfl rfl ?_
      refine xr_getf F_Mo_94 D_Mo_push_33 rfl rfl ?_
      refine xr_iload_n D_Mo_push_36 rfl rfl ?_
      refine xr_iald D_Mo_push_37 rfl (by exact i_in2 6 (by decide) (by decide) rfl) ?_
      refine xr_iast D_Mo_push_38 rfl (by exact i_in2 606 (by grind) (by grind) rfl) (aset_59) ?_
      refine xr_iinc2 (v9 := 1) (c9 := 1) D_Mo_push_39 rfl rfl rfl (by decide) ?_
      refine xr_goto (tgt := 13) D_Mo_push_42 rfl ?_
      refine xr_iload_n D_Mo_push_13 rfl rfl ?_
      refine xr_bipush (v := 6) D_Mo_push_14 rfl ?_
      refine xr_icmp_ge (tgt := 45) D_Mo_push_16 rfl (fun c3 => ?_) (fun c3 => ?_)
      · exact absurd (show (6 : Int32) ≤ (1 : Int32) from c3) (by decide)
      · refine xr_aload_n D_Mo_push_19 rfl rfl ?_
        refine xr_getf F_Mo_91 D_Mo_push_20 rfl rfl ?_
        refine xr_bipush (v := 6) D_Mo_push_23 rfl ?_
        refine xr_aload_n D_Mo_push_25 rfl rfl ?_
        refine xr_getf F_Mo_263 D_Mo_push_26 rfl rfl ?_
        refine xr_imul D_Mo_push_29 ?_
        refine xr_iload_n D_Mo_push_30 rfl rfl ?_
        refine xr_iadd D_Mo_push_31 ?_
        refine xr_aload_n D_Mo_push_32 rfl rfl ?_
        refine xr_getf F_Mo_94 D_Mo_push_33 rfl rfl ?_
        refine xr_iload_n D_Mo_push_36 rfl rfl ?_
        refine xr_iald D_Mo_push_37 rfl (by exact i_in2 6 (by decide) (by decide) rfl) ?_
        refine xr_iast D_Mo_push_38 rfl (by exact i_in2 606 (by grind) (by grind) rfl) (aset_59) ?_
        refine xr_iinc2 (v9 := 2) (c9 := 1) D_Mo_push_39 rfl rfl rfl (by decide) ?_
        refine xr_goto (tgt := 13) D_Mo_push_42 rfl ?_
        refine xr_iload_n D_Mo_push_13 rfl rfl ?_
        refine xr_bipush (v := 6) D_Mo_push_14 rfl ?_
        refine xr_icmp_ge (tgt := 45) D_Mo_push_16 rfl (fun c4 => ?_) (fun c4 => ?_)
        · exact absurd (show (6 : Int32) ≤ (2 : Int32) from c4) (by decide)
        · refine xr_aload_n D_Mo_push_19 rfl rfl ?_
          refine xr_getf F_Mo_91 D_Mo_push_20 rfl rfl ?_
          refine xr_bipush (v := 6) D_Mo_push_23 rfl ?_
          refine xr_aload_n D_Mo_push_25 rfl rfl ?_
          refine xr_getf F_Mo_263 D_Mo_push_26 rfl rfl ?_
          refine xr_imul D_Mo_push_29 ?_
          refine xr_iload_n D_Mo_push_30 rfl rfl ?_
          refine xr_iadd D_Mo_push_31 ?_
          refine xr_aload_n D_Mo_push_32 rfl rfl ?_
          refine xr_getf F_Mo_94 D_Mo_push_33 rfl rfl ?_
          refine xr_iload_n D_Mo_push_36 rfl rfl ?_
          refine xr_iald D_Mo_push_37 rfl (by exact i_in2 6 (by decide) (by decide) rfl) ?_
          refine xr_iast D_Mo_push_38 rfl (by exact i_in2 606 (by grind) (by grind) rfl) (aset_59) ?_
          refine xr_iinc2 (v9 := 3) (c9 := 1) D_Mo_push_39 rfl rfl rfl (by decide) ?_
          refine xr_goto (tgt := 13) D_Mo_push_42 rfl ?_
          refine xr_iload_n D_Mo_push_13 rfl rfl ?_
          refine xr_bipush (v := 6) D_Mo_push_14 rfl ?_
          refine xr_icmp_ge (tgt := 45) D_Mo_push_16 rfl (fun c5 => ?_) (fun c5 => ?_)
          · exact absurd (show (6 : Int32) ≤ (3 : Int32) from c5) (by decide)
          · refine xr_aload_n D_Mo_push_19 rfl rfl ?_
            refine xr_getf F_Mo_91 D_Mo_push_20 rfl rfl ?_
            refine xr_bipush (v := 6) D_Mo_push_23 rfl ?_
            refine xr_aload_n D_Mo_push_25 rfl rfl ?_
            refine xr_getf F_Mo_263 D_Mo_push_26 rfl rfl ?_
            refine xr_imul D_Mo_push_29 ?_
            refine xr_iload_n D_Mo_push_30 rfl rfl ?_
            refine xr_iadd D_Mo_push_31 ?_
            refine xr_aload_n D_Mo_push_32 rfl rfl ?_
            refine xr_getf F_Mo_94 D_Mo_push_33 rfl rfl ?_
            refine xr_iload_n D_Mo_push_36 rfl rfl ?_
            refine xr_iald D_Mo_push_37 rfl (by exact i_in2 6 (by decide) (by decide) rfl) ?_
            refine xr_iast D_Mo_push_38 rfl (by exact i_in2 606 (by grind) (by grind) rfl) (aset_59) ?_
            refine xr_iinc2 (v9 := 4) (c9 := 1) D_Mo_push_39 rfl rfl rfl (by decide) ?_
            refine xr_goto (tgt := 13) D_Mo_push_42 rfl ?_
            refine xr_iload_n D_Mo_push_13 rfl rfl ?_
            refine xr_bipush (v := 6) D_Mo_push_14 rfl ?_
            refine xr_icmp_ge (tgt := 45) D_Mo_push_16 rfl (fun c6 => ?_) (fun c6 => ?_)
            · exact absurd (show (6 : Int32) ≤ (4 : Int32) from c6) (by decide)
            · refine xr_aload_n D_Mo_push_19 rfl rfl ?_
              refine xr_getf F_Mo_91 D_Mo_push_20 rfl rfl ?_
              refine xr_bipush (v := 6) D_Mo_push_23 rfl ?_
              refine xr_aload_n D_Mo_push_25 rfl rfl ?_
              refine xr_getf F_Mo_263 D_Mo_push_26 rfl rfl ?_
              refine xr_imul D_Mo_push_29 ?_
              refine xr_iload_n D_Mo_push_30 rfl rfl ?_
              refine xr_iadd D_Mo_push_31 ?_
              refine xr_aload_n D_Mo_push_32 rfl rfl ?_
              refine xr_getf F_Mo_94 D_Mo_push_33 rfl rfl ?_
              refine xr_iload_n D_Mo_push_36 rfl rfl ?_
              refine xr_iald D_Mo_push_37 rfl (by exact i_in2 6 (by decide) (by decide) rfl) ?_
              refine xr_iast D_Mo_push_38 rfl (by exact i_in2 606 (by grind) (by grind) rfl) (aset_59) ?_
              refine xr_iinc2 (v9 := 5) (c9 := 1) D_Mo_push_39 rfl rfl rfl (by decide) ?_
              refine xr_goto (tgt := 13) D_Mo_push_42 rfl ?_
              refine xr_iload_n D_Mo_push_13 rfl rfl ?_
              refine xr_bipush (v := 6) D_Mo_push_14 rfl ?_
              refine xr_icmp_ge (tgt := 45) D_Mo_push_16 rfl (fun c7 => ?_) (fun c7 => ?_)
              · exact absurd (show (6 : Int32) ≤ (5 : Int32) from c7) (by decide)
              · refine xr_aload_n D_Mo_push_19 rfl rfl ?_
                refine xr_getf F_Mo_91 D_Mo_push_20 rfl rfl ?_
                refine xr_bipush (v := 6) D_Mo_push_23 rfl ?_
                refine xr_aload_n D_Mo_push_25 rfl rfl ?_
                refine xr_getf F_Mo_263 D_Mo_push_26 rfl rfl ?_
                refine xr_imul D_Mo_push_29 ?_
                refine xr_iload_n D_Mo_push_30 rfl rfl ?_
                refine xr_iadd D_Mo_push_31 ?_
                refine xr_aload_n D_Mo_push_32 rfl rfl ?_
                refine xr_getf F_Mo_94 D_Mo_push_33 rfl rfl ?_
                refine xr_iload_n D_Mo_push_36 rfl rfl ?_
                refine xr_iald D_Mo_push_37 rfl (by exact i_in2 6 (by decide) (by decide) rfl) ?_
                refine xr_iast D_Mo_push_38 rfl (by exact i_in2 606 (by grind) (by grind) rfl) (aset_59) ?_
                refine xr_iinc2 (v9 := 6) (c9 := 1) D_Mo_push_39 rfl rfl rfl (by decide) ?_
                refine xr_goto (tgt := 13) D_Mo_push_42 rfl ?_
                refine xr_iload_n D_Mo_push_13 rfl rfl ?_
                refine xr_bipush (v := 6) D_Mo_push_14 rfl ?_
                refine xr_icmp_ge (tgt := 45) D_Mo_push_16 rfl (fun c8 => ?_) (fun c8 => ?_)
                · refine xr_aload_n D_Mo_push_45 rfl rfl ?_
                  refine xr_dup D_Mo_push_46 rfl ?_
                  refine xr_getf F_Mo_263 D_Mo_push_47 rfl rfl ?_
                  refine xr_iconst (v := 1) D_Mo_push_50 rfl ?_
                  refine xr_iadd D_Mo_push_51 ?_
                  refine xr_putf F_Mo_263 FT_Mo FN_Mo_50 D_Mo_push_52 rfl (Nat.le_of_ble_eq_true rfl) rfl rfl (pset_34_50) ?_
                  refine xr_aload_n D_Mo_push_55 rfl rfl ?_
                  refine xr_aload_n D_Mo_push_56 rfl rfl ?_
                  refine xr_getf F_Mo_263 D_Mo_push_57 rfl rfl ?_
                  refine xr_aload_n D_Mo_push_60 rfl rfl ?_
                  refine xr_getf F_Mo_292 D_Mo_push_61 rfl rfl ?_
                  refine xr_icmp_le (tgt := 74) D_Mo_push_64 rfl (fun c9 => ?_) (fun c9 => ?_)
                  · refine xr_aload_n D_Mo_push_74 rfl rfl ?_
                    refine xr_getf F_Mo_292 D_Mo_push_75 rfl rfl ?_
                    refine xr_putf F_Mo_292 FT_Mo FN_Mo_42 D_Mo_push_78 rfl (Nat.le_of_ble_eq_true rfl) rfl rfl (pset_34_42) ?_
                    refine xr_iconst (v := 0) D_Mo_push_81 rfl ?_
                    refine xr_iret rfl D_Mo_push_82 ?_
                    first | exact Or.inl ⟨by grind [upd], rfl⟩ | exact Or.inr (Or.inl ⟨by grind [upd], rfl⟩) | exact Or.inr (Or.inr (⟨by grind [upd], rfl⟩))
                  · refine xr_aload_n D_Mo_push_67 rfl rfl ?_
                    refine xr_getf F_Mo_263 D_Mo_push_68 rfl rfl ?_
                    refine xr_goto (tgt := 78) D_Mo_push_71 rfl ?_
                    refine xr_putf F_Mo_292 FT_Mo FN_Mo_42 D_Mo_push_78 rfl (Nat.le_of_ble_eq_true rfl) rfl rfl (pset_34_42) ?_
                    refine xr_iconst (v := 0) D_Mo_push_81 rfl ?_
                    refine xr_iret rfl D_Mo_push_82 ?_
                    first | exact Or.inl ⟨by grind [upd], rfl⟩ | exact Or.inr (Or.inl ⟨by grind [upd], rfl⟩) | exact Or.inr (Or.inr (⟨by grind [upd], rfl⟩))
                · exact absurd (show (6 : Int32) ≤ (6 : Int32) by decide) c8
  · refine xr_iconst (v := 4) D_Mo_push_9 rfl ?_
    refine xr_iret rfl D_Mo_push_10 ?_
    first | exact Or.inl ⟨by grind [upd], rfl⟩ | exact Or.inr (Or.inl ⟨by grind [upd], rfl⟩) | exact Or.inr (Or.inr (⟨by grind [upd], rfl⟩))

theorem l_Mo_fa {I : mI} {A : mA} {L : mL} {x : Int32} (hm : I 3436 ≤ 256) : ∀ (t j : Nat) (r : Int32), (j : Int) + t = (I 3436).toInt → xr m_Mo_fontAt none (0, 0) 4 [some (.ref 34), some (.int x), some (.int r), some (.int (Int32.ofNat j))] [] (pic I A L) 0 0 (fun o => o = (.inl (some (.int (faR (A 57) x t j r))), pic I A L)) := by
  have hm9 := i_le.mp hm
  have e256 : (256 : Int32).toInt = 256 := rfl
  intro t
  induction t with
  | zero =>
    intro j r hj
    refine xr_iload_n D_Mo_fontAt_4 rfl rfl ?_
    refine xr_aload_n D_Mo_fontAt_5 rfl rfl ?_
    refine xr_getf F_Mo_238 D_Mo_fontAt_6 rfl rfl ?_
    refine xr_icmp_ge (tgt := 34) D_Mo_fontAt_9 rfl (fun c1 => ?_) (fun c1 => ?_)
    · refine xr_iload_n D_Mo_fontAt_34 rfl rfl ?_
      refine xr_iret rfl D_Mo_fontAt_35 ?_
      exact rfl
    · exact absurd (i_le.mpr (by rw [i_of (by omega)]; omega)) c1
  | succ t ih =>
    intro j r hj
    have ej : (Int32.ofNat j).toNatClampNeg = j := by rw [i_cl, i_of (by omega)]; omega
    refine xr_iload_n D_Mo_fontAt_4 rfl rfl ?_
    refine xr_aload_n D_Mo_fontAt_5 rfl rfl ?_
    refine xr_getf F_Mo_238 D_Mo_fontAt_6 rfl rfl ?_
    refine xr_icmp_ge (tgt := 34) D_Mo_fontAt_9 rfl (fun c1 => ?_) (fun c1 => ?_)
    · exact absurd c1 (fun q => by rw [i_le, i_of (by omega)] at q; omega)
    · refine xr_aload_n D_Mo_fontAt_12 rfl rfl ?_
      refine xr_getf F_Mo_85 D_Mo_fontAt_13 rfl rfl ?_
      refine xr_iload_n D_Mo_fontAt_16 rfl rfl ?_
      refine xr_iald D_Mo_fontAt_17 rfl (by exact i_in (by rw [i_of (by omega)]; omega) (by rw [i_of (by omega)]; omega)) ?_
      refine xr_iload_n D_Mo_fontAt_18 rfl rfl ?_
      refine xr_icmp_ne (tgt := 26) D_Mo_fontAt_19 rfl (fun c2 => ?_) (fun c2 => ?_)
      · refine xr_iload_n D_Mo_fontAt_26 rfl rfl ?_
        refine xr_istore_n D_Mo_fontAt_27 rfl (by decide) ?_
        refine xr_iinc (c9 := 1) D_Mo_fontAt_28 rfl rfl (by decide) ?_
        refine xr_goto (tgt := 4) D_Mo_fontAt_31 rfl ?_
        rw [ej] at c2
        rw [io_succ]
        refine xr_mono (ih (j + 1) _ (by omega)) ?_
        rintro _ rfl
        first | exact oi (by rw [faR_s, if_pos c2]) | exact oi (by rw [faR_s, if_neg c2])
      · refine xr_iload_n D_Mo_fontAt_22 rfl rfl ?_
        refine xr_goto (tgt := 27) D_Mo_fontAt_23 rfl ?_
        refine xr_istore_n D_Mo_fontAt_27 rfl (by decide) ?_
        refine xr_iinc (c9 := 1) D_Mo_fontAt_28 rfl rfl (by decide) ?_
        refine xr_goto (tgt := 4) D_Mo_fontAt_31 rfl ?_
        rw [ej] at c2
        rw [io_succ]
        refine xr_mono (ih (j + 1) _ (by omega)) ?_
        rintro _ rfl
        first | exact oi (by rw [faR_s, if_pos c2]) | exact oi (by rw [faR_s, if_neg c2])

theorem c_Mo_fontAt_34 {I : mI} {A : mA} {L : mL} {x : Int32} (hf0 : 0 ≤ I 3436) (hf1 : I 3436 ≤ 256) : xm m_Mo_fontAt (0, 0) [.ref 34, .int x] (pic I A L) 0 0 (fun o => o = (.inl (some (.int (faR (A 57) x (I 3436).toInt.toNat 0 (-1)))), pic I A L)) := by
  refine xm_of rfl (by decide) (Nat.le_of_ble_eq_true rfl) ?_
  refine xr_iconst (v := (-1)) D_Mo_fontAt_0 rfl ?_
  refine xr_istore_n D_Mo_fontAt_1 rfl (by decide) ?_
  refine xr_iconst (v := 0) D_Mo_fontAt_2 rfl ?_
  refine xr_istore_n D_Mo_fontAt_3 rfl (by decide) ?_
  have g0 := i_le.mp hf0
  rw [z0] at g0
  exact l_Mo_fa hf1 (I 3436).toInt.toNat 0 _ (by omega)

theorem c_Mo_take_34 {I : mI} {A : mA} {L : mL} {f : Int32} (hf0 : 0 ≤ I 3436) (hf1 : I 3436 ≤ 256) : xm m_Mo_take (1, 23) [.ref 34, .int f] (pic I A L) 0 0 (fun o => (((faR (A 57) f (I 3436).toInt.toNat 0 (-1)) < 0) ∧ o = (.inl (some (.int 3)), pic I A L)) ∨ ((¬ (faR (A 57) f (I 3436).toInt.toNat 0 (-1)) < 0) ∧ o = (.inl (some (.int 0)), pic (upd (upd I 3448 f) 3449 1) A L))) := by
  refine xm_of rfl (by decide) (Nat.le_of_ble_eq_true rfl) ?_
  refine xr_aload_n D_Mo_take_0 rfl rfl ?_
  refine xr_iload_n D_Mo_take_1 rfl rfl ?_
  refine xr_cVx (as := [_]) (c_Mo_fontAt_34 hf0 hf1) (L_Mo_247) (CD_Mo_fontAt) CI_Mo D_Mo_take_2 rfl rfl (by decide) (Nat.le_of_ble_eq_true rfl) (Nat.le_of_eq (Nat.zero_add _)) (Nat.le_of_eq (Nat.zero_add _)) pic_len ?_
  rintro _ rfl
  refine ⟨_, _, rfl, rfl, ?_⟩
  refine xr_if_ge (tgt := 10) D_Mo_take_5 rfl (fun c1 => ?_) (fun c1 => ?_)
  · refine xr_aload_n D_Mo_take_10 rfl rfl ?_
    refine xr_iload_n D_Mo_take_11 rfl rfl ?_
    refine xr_putf F_Mo_282 FT_Mo FN_Mo_48 D_Mo_take_12 rfl (Nat.le_of_ble_eq_true rfl) rfl rfl (pset_34_48) ?_
    refine xr_aload_n D_Mo_take_15 rfl rfl ?_
    refine xr_iconst (v := 1) D_Mo_take_16 rfl ?_
    refine xr_putf F_Mo_260 FT_Mo FN_Mo_49 D_Mo_take_17 rfl (Nat.le_of_ble_eq_true rfl) rfl rfl (pset_34_49) ?_
    refine xr_iconst (v := 0) D_Mo_take_20 rfl ?_
    refine xr_iret rfl D_Mo_take_21 ?_
    first | exact Or.inl ⟨by grind, rfl⟩ | exact Or.inr (⟨by grind, rfl⟩)
  · refine xr_iconst (v := 3) D_Mo_take_8 rfl ?_
    refine xr_iret rfl D_Mo_take_9 ?_
    first | exact Or.inl ⟨by grind, rfl⟩ | exact Or.inr (⟨by grind, rfl⟩)

theorem c_Mo_behindNumber_34 {I : mI} {A : mA} {L : mL} {p : Int32} (h0 : 0 ≤ p) (h1 : p < 70000) : xm m_Mo_behindNumber (1, 21) [.ref 34, .int p] (pic I A L) 0 0 (fun o => o = (.inl (some (.int (p + 1 + ((gmt (A 54)) p - 243 + 1)))), (pic I A L))) := by
  refine xm_of rfl (by decide) (Nat.le_of_ble_eq_true rfl) ?_
  refine xr_iload_n D_Mo_behindNumber_0 rfl rfl ?_
  refine xr_iconst (v := 1) D_Mo_behindNumber_1 rfl ?_
  refine xr_iadd D_Mo_behindNumber_2 ?_
  refine xr_aload_n D_Mo_behindNumber_3 rfl rfl ?_
  refine xr_iload_n D_Mo_behindNumber_4 rfl rfl ?_
  refine xr_cVx (as := [_]) (c_Mo_byteAt_34 (by grind) (by grind)) (L_Mo_200) (CD_Mo_byteAt) CI_Mo D_Mo_behindNumber_5 rfl rfl (by decide) (Nat.le_of_ble_eq_true rfl) (Nat.le_of_eq (Nat.zero_add _)) (Nat.le_of_eq (Nat.zero_add _)) pic_len ?_
  rintro _ rfl
  refine ⟨_, _, rfl, rfl, ?_⟩
  refine xr_sipush (v := 243) D_Mo_behindNumber_8 rfl ?_
  refine xr_cSx (as := [_, _]) (c_Mo_among) (L_Mo_209) (CD_Mo_among) D_Mo_behindNumber_11 rfl (by decide) (Nat.le_of_ble_eq_true rfl) (Nat.le_of_eq (Nat.zero_add _)) (Nat.le_of_eq (Nat.zero_add _)) pic_len ?_
  rintro _ rfl
  refine ⟨_, _, rfl, rfl, ?_⟩
  refine xr_iadd D_Mo_behindNumber_14 ?_
  refine xr_iret rfl D_Mo_behindNumber_15 ?_
  exact rfl
