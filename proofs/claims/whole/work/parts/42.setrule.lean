theorem pic_leq {I I2 : mI} {A A2 : mA} {L L2 : mL} : (pic I A L).length = (pic I2 A2 L2).length := rfl
theorem c_Mo_setRule_34 {I : mI} {A : mA} {L : mL} {mv : Int32} (h0 : 0 ≤ I 3444) (h1 : I 3444 < 69992) (m0 : 0 ≤ I 3432) (m1 : I 3432 ≤ 2000) : xm m_Mo_setRule (2, 46) [.ref 34, .int mv] (pic I A L) 0 0 (fun o => ((¬ mv = 0 ∧ ¬ fitL (smG (A 60 0) (nrd (gmt (A 54)) (I 3444 + 5) 4))) ∧ o = (.inl (some (.int 8)), pic I A L)) ∨ (((¬ mv = 0 ∧ fitL (smG (A 60 0) (nrd (gmt (A 54)) (I 3444 + 5) 4))) ∧ (0 < nrd (gmt (A 54)) (I 3444 + 1) 4 ∧ 0 < nrd (gmt (A 54)) (I 3444 + 5) 4) ∧ I 3432 = 2000) ∧ o = (.inl (some (.int 9)), pic I A L)) ∨ (((¬ mv = 0 ∧ fitL (smG (A 60 0) (nrd (gmt (A 54)) (I 3444 + 5) 4))) ∧ (0 < nrd (gmt (A 54)) (I 3444 + 1) 4 ∧ 0 < nrd (gmt (A 54)) (I 3444 + 5) 4) ∧ ¬ I 3432 = 2000) ∧ o = (.inl (some (.int 0)), pic (upd I 3432 (I 3432 + 1)) (upA (upA (upA (upA (upA (upA (upA A 55 (6 * I 3432).toNatClampNeg (I 3434 - 1)) 55 (6 * I 3432 + 1).toNatClampNeg (-1)) 55 (6 * I 3432 + 2).toNatClampNeg (nrd (gmt (A 54)) (I 3444 + 5) 4)) 55 (6 * I 3432 + 3).toNatClampNeg (A 60 0)) 55 (6 * I 3432 + 4).toNatClampNeg (A 60 1)) 55 (6 * I 3432 + 5).toNatClampNeg (nrd (gmt (A 54)) (I 3444 + 1) 4)) 60 0 (smG (A 60 0) (nrd (gmt (A 54)) (I 3444 + 5) 4)).toInt32) L)) ∨ (((¬ mv = 0 ∧ fitL (smG (A 60 0) (nrd (gmt (A 54)) (I 3444 + 5) 4))) ∧ ¬ (0 < nrd (gmt (A 54)) (I 3444 + 1) 4 ∧ 0 < nrd (gmt (A 54)) (I 3444 + 5) 4)) ∧ o = (.inl (some (.int 0)), pic I (upA A 60 0 (smG (A 60 0) (nrd (gmt (A 54)) (I 3444 + 5) 4)).toInt32) L)) ∨ (((mv = 0) ∧ (0 < nrd (gmt (A 54)) (I 3444 + 1) 4 ∧ 0 < nrd (gmt (A 54)) (I 3444 + 5) 4) ∧ I 3432 = 2000) ∧ o = (.inl (some (.int 9)), pic I A L)) ∨ (((mv = 0) ∧ (0 < nrd (gmt (A 54)) (I 3444 + 1) 4 ∧ 0 < nrd (gmt (A 54)) (I 3444 + 5) 4) ∧ ¬ I 3432 = 2000) ∧ o = (.inl (some (.int 0)), pic (upd I 3432 (I 3432 + 1)) (upA (upA (upA (upA (upA (upA A 55 (6 * I 3432).toNatClampNeg (I 3434 - 1)) 55 (6 * I 3432 + 1).toNatClampNeg (-1)) 55 (6 * I 3432 + 2).toNatClampNeg (nrd (gmt (A 54)) (I 3444 + 5) 4)) 55 (6 * I 3432 + 3).toNatClampNeg (A 60 0)) 55 (6 * I 3432 + 4).toNatClampNeg (A 60 1)) 55 (6 * I 3432 + 5).toNatClampNeg (nrd (gmt (A 54)) (I 3444 + 1) 4)) L)) ∨ (((mv = 0) ∧ ¬ (0 < nrd (gmt (A 54)) (I 3444 + 1) 4 ∧ 0 < nrd (gmt (A 54)) (I 3444 + 5) 4)) ∧ o = (.inl (some (.int 0)), pic I A L))) := by
  refine xm_of rfl (by decide) (Nat.le_of_ble_eq_true rfl) ?_
  refine xr_aload_n D_Mo_setRule_0 rfl rfl ?_
  refine xr_aload_n D_Mo_setRule_1 rfl rfl ?_
  refine xr_getf F_Mo_203 D_Mo_setRule_2 rfl rfl ?_
  refine xr_iconst (v := 1) D_Mo_setRule_5 rfl ?_
  refine xr_iadd D_Mo_setRule_6 ?_
  refine xr_iconst (v := 4) D_Mo_setRule_7 rfl ?_
  refine xr_iconst (v := 1) D_Mo_setRule_8 rfl ?_
  refine xr_cVx (as := [_, _, _]) (c_Mo_num4 (by grind) (by grind)) (L_Mo_220) (CD_Mo_number) CI_Mo D_Mo_setRule_9 rfl rfl (by decide) (Nat.le_of_ble_eq_true rfl) (Nat.le_of_eq (Nat.zero_add _)) (Nat.le_of_eq (Nat.zero_add _)) pic_len ?_
  rintro _ rfl
  refine ⟨_, _, rfl, rfl, ?_⟩
  refine xr_istore_n D_Mo_setRule_12 rfl (by decide) ?_
  refine xr_aload_n D_Mo_setRule_13 rfl rfl ?_
  refine xr_aload_n D_Mo_setRule_14 rfl rfl ?_
  refine xr_getf F_Mo_203 D_Mo_setRule_15 rfl rfl ?_
  refine xr_iconst (v := 5) D_Mo_setRule_18 rfl ?_
  refine xr_iadd D_Mo_setRule_19 ?_
  refine xr_iconst (v := 4) D_Mo_setRule_20 rfl ?_
  refine xr_iconst (v := 1) D_Mo_setRule_21 rfl ?_
  refine xr_cVx (as := [_, _, _]) (c_Mo_num4 (by grind) (by grind)) (L_Mo_220) (CD_Mo_number) CI_Mo D_Mo_setRule_22 rfl rfl (by decide) (Nat.le_of_ble_eq_true rfl) (Nat.le_of_eq (Nat.zero_add _)) (Nat.le_of_eq (Nat.zero_add _)) pic_len ?_
  rintro _ rfl
  refine ⟨_, _, rfl, rfl, ?_⟩
  refine xr_istore_n D_Mo_setRule_25 rfl (by decide) ?_
  refine xr_iload_n D_Mo_setRule_26 rfl rfl ?_
  refine xr_if_le (tgt := 38) D_Mo_setRule_27 rfl (fun c1 => ?_) (fun c1 => ?_)
  · refine xr_iconst (v := 0) D_Mo_setRule_38 rfl ?_
    refine xr_istore D_Mo_setRule_39 (by decide) ?_
    refine xr_iload_n D_Mo_setRule_41 rfl rfl ?_
    refine xr_if_eq (tgt := 64) D_Mo_setRule_42 rfl (fun c2 => ?_) (fun c2 => ?_)
    · refine xr_iload D_Mo_setRule_64 rfl ?_
      refine xr_if_eq (tgt := 82) D_Mo_setRule_66 rfl (fun c3 => ?_) (fun c3 => ?_)
      · refine xr_iload D_Mo_setRule_82 rfl ?_
        refine xr_if_eq (tgt := 94) D_Mo_setRule_84 rfl (fun c4 => ?_) (fun c4 => ?_)
        · refine xr_iload_n D_Mo_setRule_94 rfl rfl ?_
          refine xr_if_eq (tgt := 107) D_Mo_setRule_95 rfl (fun c5 => ?_) (fun c5 => ?_)
          · refine xr_iconst (v := 0) D_Mo_setRule_107 rfl ?_
            refine xr_iret rfl D_Mo_setRule_108 ?_
            exact Or.inr (Or.inr (Or.inr (Or.inr (Or.inr (Or.inr (⟨⟨by assumption, by grind⟩, rfl⟩))))))
          · refine xr_aload_n D_Mo_setRule_98 rfl rfl ?_
            refine xr_iconst (v := 0) D_Mo_setRule_99 rfl ?_
            refine xr_iload_n D_Mo_setRule_100 rfl rfl ?_
            refine xr_cVx (as := [_, _]) (c_Mo_add_34 (by decide) (by decide)) (L_Mo_289) (CD_Mo_add) CI_Mo D_Mo_setRule_101 rfl rfl (by decide) (Nat.le_of_ble_eq_true rfl) (Nat.le_of_eq (Nat.zero_add _)) (Nat.le_of_eq (Nat.zero_add _)) pic_len ?_
            rintro _ (⟨hg3, rfl⟩ | ⟨hg3, rfl⟩)
            · refine ⟨_, _, rfl, pic_leq, ?_⟩
              refine xr_goto (tgt := 108) D_Mo_setRule_104 rfl ?_
              refine xr_iret rfl D_Mo_setRule_108 ?_
              exfalso; grind
            · refine ⟨_, _, rfl, pic_leq, ?_⟩
              refine xr_goto (tgt := 108) D_Mo_setRule_104 rfl ?_
              refine xr_iret rfl D_Mo_setRule_108 ?_
              exfalso; grind
        · exact absurd (show (0 : Int32) = (0 : Int32) by decide) c4
      · exact absurd (show (0 : Int32) = (0 : Int32) by decide) c3
    · refine xr_aload_n D_Mo_setRule_45 rfl rfl ?_
      refine xr_getf F_Mo_94 D_Mo_setRule_46 rfl rfl ?_
      refine xr_iconst (v := 0) D_Mo_setRule_49 rfl ?_
      refine xr_iald D_Mo_setRule_50 rfl (by exact i_in2 6 (by grind) (by grind) rfl) ?_
      refine xr_i2l D_Mo_setRule_51 ?_
      refine xr_iload_n D_Mo_setRule_52 rfl rfl ?_
      refine xr_i2l D_Mo_setRule_53 ?_
      refine xr_ladd D_Mo_setRule_54 ?_
      refine xr_cSx (as := [_]) (c_Mo_isInt) (L_Mo_158) (CD_Mo_isInt) D_Mo_setRule_55 rfl (by decide) (Nat.le_of_ble_eq_true rfl) (Nat.le_of_eq (Nat.zero_add _)) (Nat.le_of_eq (Nat.zero_add _)) pic_len ?_
      rintro _ rfl
      refine ⟨_, _, rfl, rfl, ?_⟩
      refine xr_if_ne (tgt := 64) D_Mo_setRule_58 rfl (fun c3 => ?_) (fun c3 => ?_)
      · rw [b2_n] at c3
        refine xr_iload D_Mo_setRule_64 rfl ?_
        refine xr_if_eq (tgt := 82) D_Mo_setRule_66 rfl (fun c4 => ?_) (fun c4 => ?_)
        · refine xr_iload D_Mo_setRule_82 rfl ?_
          refine xr_if_eq (tgt := 94) D_Mo_setRule_84 rfl (fun c5 => ?_) (fun c5 => ?_)
          · refine xr_iload_n D_Mo_setRule_94 rfl rfl ?_
            refine xr_if_eq (tgt := 107) D_Mo_setRule_95 rfl (fun c6 => ?_) (fun c6 => ?_)
            · refine xr_iconst (v := 0) D_Mo_setRule_107 rfl ?_
              refine xr_iret rfl D_Mo_setRule_108 ?_
              exfalso; grind
            · refine xr_aload_n D_Mo_setRule_98 rfl rfl ?_
              refine xr_iconst (v := 0) D_Mo_setRule_99 rfl ?_
              refine xr_iload_n D_Mo_setRule_100 rfl rfl ?_
              refine xr_cVx (as := [_, _]) (c_Mo_add_34 (by decide) (by decide)) (L_Mo_289) (CD_Mo_add) CI_Mo D_Mo_setRule_101 rfl rfl (by decide) (Nat.le_of_ble_eq_true rfl) (Nat.le_of_eq (Nat.zero_add _)) (Nat.le_of_eq (Nat.zero_add _)) pic_len ?_
              rintro _ (⟨hg5, rfl⟩ | ⟨hg5, rfl⟩)
              · refine ⟨_, _, rfl, pic_leq, ?_⟩
                refine xr_goto (tgt := 108) D_Mo_setRule_104 rfl ?_
                refine xr_iret rfl D_Mo_setRule_108 ?_
                exact absurd (show fitL (smG (A 60 0) (nrd (gmt (A 54)) (I 3444 + 5) 4)) by assumption) (by assumption)
              · refine ⟨_, _, rfl, pic_leq, ?_⟩
                refine xr_goto (tgt := 108) D_Mo_setRule_104 rfl ?_
                refine xr_iret rfl D_Mo_setRule_108 ?_
                exact Or.inr (Or.inr (Or.inr (Or.inl ⟨⟨⟨by assumption, by assumption⟩, by grind⟩, rfl⟩)))
          · exact absurd (show (0 : Int32) = (0 : Int32) by decide) c5
        · exact absurd (show (0 : Int32) = (0 : Int32) by decide) c4
      · rw [b2_0] at c3
        refine xr_bipush (v := 8) D_Mo_setRule_61 rfl ?_
        refine xr_iret rfl D_Mo_setRule_63 ?_
        exact Or.inl ⟨⟨by assumption, by assumption⟩, rfl⟩
  · refine xr_iload_n D_Mo_setRule_30 rfl rfl ?_
    refine xr_if_le (tgt := 38) D_Mo_setRule_31 rfl (fun c2 => ?_) (fun c2 => ?_)
    · refine xr_iconst (v := 0) D_Mo_setRule_38 rfl ?_
      refine xr_istore D_Mo_setRule_39 (by decide) ?_
      refine xr_iload_n D_Mo_setRule_41 rfl rfl ?_
      refine xr_if_eq (tgt := 64) D_Mo_setRule_42 rfl (fun c3 => ?_) (fun c3 => ?_)
      · refine xr_iload D_Mo_setRule_64 rfl ?_
        refine xr_if_eq (tgt := 82) D_Mo_setRule_66 rfl (fun c4 => ?_) (fun c4 => ?_)
        · refine xr_iload D_Mo_setRule_82 rfl ?_
          refine xr_if_eq (tgt := 94) D_Mo_setRule_84 rfl (fun c5 => ?_) (fun c5 => ?_)
          · refine xr_iload_n D_Mo_setRule_94 rfl rfl ?_
            refine xr_if_eq (tgt := 107) D_Mo_setRule_95 rfl (fun c6 => ?_) (fun c6 => ?_)
            · refine xr_iconst (v := 0) D_Mo_setRule_107 rfl ?_
              refine xr_iret rfl D_Mo_setRule_108 ?_
              exact Or.inr (Or.inr (Or.inr (Or.inr (Or.inr (Or.inr (⟨⟨by assumption, by grind⟩, rfl⟩))))))
            · refine xr_aload_n D_Mo_setRule_98 rfl rfl ?_
              refine xr_iconst (v := 0) D_Mo_setRule_99 rfl ?_
              refine xr_iload_n D_Mo_setRule_100 rfl rfl ?_
              refine xr_cVx (as := [_, _]) (c_Mo_add_34 (by decide) (by decide)) (L_Mo_289) (CD_Mo_add) CI_Mo D_Mo_setRule_101 rfl rfl (by decide) (Nat.le_of_ble_eq_true rfl) (Nat.le_of_eq (Nat.zero_add _)) (Nat.le_of_eq (Nat.zero_add _)) pic_len ?_
              rintro _ (⟨hg6, rfl⟩ | ⟨hg6, rfl⟩)
              · refine ⟨_, _, rfl, pic_leq, ?_⟩
                refine xr_goto (tgt := 108) D_Mo_setRule_104 rfl ?_
                refine xr_iret rfl D_Mo_setRule_108 ?_
                exfalso; grind
              · refine ⟨_, _, rfl, pic_leq, ?_⟩
                refine xr_goto (tgt := 108) D_Mo_setRule_104 rfl ?_
                refine xr_iret rfl D_Mo_setRule_108 ?_
                exfalso; grind
          · exact absurd (show (0 : Int32) = (0 : Int32) by decide) c5
        · exact absurd (show (0 : Int32) = (0 : Int32) by decide) c4
      · refine xr_aload_n D_Mo_setRule_45 rfl rfl ?_
        refine xr_getf F_Mo_94 D_Mo_setRule_46 rfl rfl ?_
        refine xr_iconst (v := 0) D_Mo_setRule_49 rfl ?_
        refine xr_iald D_Mo_setRule_50 rfl (by exact i_in2 6 (by grind) (by grind) rfl) ?_
        refine xr_i2l D_Mo_setRule_51 ?_
        refine xr_iload_n D_Mo_setRule_52 rfl rfl ?_
        refine xr_i2l D_Mo_setRule_53 ?_
        refine xr_ladd D_Mo_setRule_54 ?_
        refine xr_cSx (as := [_]) (c_Mo_isInt) (L_Mo_158) (CD_Mo_isInt) D_Mo_setRule_55 rfl (by decide) (Nat.le_of_ble_eq_true rfl) (Nat.le_of_eq (Nat.zero_add _)) (Nat.le_of_eq (Nat.zero_add _)) pic_len ?_
        rintro _ rfl
        refine ⟨_, _, rfl, rfl, ?_⟩
        refine xr_if_ne (tgt := 64) D_Mo_setRule_58 rfl (fun c4 => ?_) (fun c4 => ?_)
        · rw [b2_n] at c4
          refine xr_iload D_Mo_setRule_64 rfl ?_
          refine xr_if_eq (tgt := 82) D_Mo_setRule_66 rfl (fun c5 => ?_) (fun c5 => ?_)
          · refine xr_iload D_Mo_setRule_82 rfl ?_
            refine xr_if_eq (tgt := 94) D_Mo_setRule_84 rfl (fun c6 => ?_) (fun c6 => ?_)
            · refine xr_iload_n D_Mo_setRule_94 rfl rfl ?_
              refine xr_if_eq (tgt := 107) D_Mo_setRule_95 rfl (fun c7 => ?_) (fun c7 => ?_)
              · refine xr_iconst (v := 0) D_Mo_setRule_107 rfl ?_
                refine xr_iret rfl D_Mo_setRule_108 ?_
                exfalso; grind
              · refine xr_aload_n D_Mo_setRule_98 rfl rfl ?_
                refine xr_iconst (v := 0) D_Mo_setRule_99 rfl ?_
                refine xr_iload_n D_Mo_setRule_100 rfl rfl ?_
                refine xr_cVx (as := [_, _]) (c_Mo_add_34 (by decide) (by decide)) (L_Mo_289) (CD_Mo_add) CI_Mo D_Mo_setRule_101 rfl rfl (by decide) (Nat.le_of_ble_eq_true rfl) (Nat.le_of_eq (Nat.zero_add _)) (Nat.le_of_eq (Nat.zero_add _)) pic_len ?_
                rintro _ (⟨hg8, rfl⟩ | ⟨hg8, rfl⟩)
                · refine ⟨_, _, rfl, pic_leq, ?_⟩
                  refine xr_goto (tgt := 108) D_Mo_setRule_104 rfl ?_
                  refine xr_iret rfl D_Mo_setRule_108 ?_
                  exact absurd (show fitL (smG (A 60 0) (nrd (gmt (A 54)) (I 3444 + 5) 4)) by assumption) (by assumption)
                · refine ⟨_, _, rfl, pic_leq, ?_⟩
                  refine xr_goto (tgt := 108) D_Mo_setRule_104 rfl ?_
                  refine xr_iret rfl D_Mo_setRule_108 ?_
                  exact Or.inr (Or.inr (Or.inr (Or.inl ⟨⟨⟨by assumption, by assumption⟩, by grind⟩, rfl⟩)))
            · exact absurd (show (0 : Int32) = (0 : Int32) by decide) c6
          · exact absurd (show (0 : Int32) = (0 : Int32) by decide) c5
        · rw [b2_0] at c4
          refine xr_bipush (v := 8) D_Mo_setRule_61 rfl ?_
          refine xr_iret rfl D_Mo_setRule_63 ?_
          exact Or.inl ⟨⟨by assumption, by assumption⟩, rfl⟩
    · refine xr_iconst (v := 1) D_Mo_setRule_34 rfl ?_
      refine xr_goto (tgt := 39) D_Mo_setRule_35 rfl ?_
      refine xr_istore D_Mo_setRule_39 (by decide) ?_
      refine xr_iload_n D_Mo_setRule_41 rfl rfl ?_
      refine xr_if_eq (tgt := 64) D_Mo_setRule_42 rfl (fun c3 => ?_) (fun c3 => ?_)
      · refine xr_iload D_Mo_setRule_64 rfl ?_
        refine xr_if_eq (tgt := 82) D_Mo_setRule_66 rfl (fun c4 => ?_) (fun c4 => ?_)
        · exact absurd (show (1 : Int32) = (0 : Int32) from c4) (by decide)
        · refine xr_aload_n D_Mo_setRule_69 rfl rfl ?_
          refine xr_getf F_Mo_279 D_Mo_setRule_70 rfl rfl ?_
          refine xr_sipush (v := 2000) D_Mo_setRule_73 rfl ?_
          refine xr_icmp_ne (tgt := 82) D_Mo_setRule_76 rfl (fun c5 => ?_) (fun c5 => ?_)
          · refine xr_iload D_Mo_setRule_82 rfl ?_
            refine xr_if_eq (tgt := 94) D_Mo_setRule_84 rfl (fun c6 => ?_) (fun c6 => ?_)
            · exact absurd (show (1 : Int32) = (0 : Int32) from c6) (by decide)
            · refine xr_aload_n D_Mo_setRule_87 rfl rfl ?_
              refine xr_iconst (v := (-1)) D_Mo_setRule_88 rfl ?_
              refine xr_iload_n D_Mo_setRule_89 rfl rfl ?_
              refine xr_iload_n D_Mo_setRule_90 rfl rfl ?_
              refine xr_cVv (as := [_, _, _]) (c_Mo_noteMark_34 m0 (by grind)) (L_Mo_285) (CD_Mo_noteMark) CI_Mo D_Mo_setRule_91 rfl rfl (by decide) (Nat.le_of_ble_eq_true rfl) (Nat.le_of_eq (Nat.zero_add _)) (Nat.le_of_eq (Nat.zero_add _)) pic_len ?_
              rintro _ rfl
              refine ⟨_, rfl, pic_leq, ?_⟩
              refine xr_iload_n D_Mo_setRule_94 rfl rfl ?_
              refine xr_if_eq (tgt := 107) D_Mo_setRule_95 rfl (fun c7 => ?_) (fun c7 => ?_)
              · refine xr_iconst (v := 0) D_Mo_setRule_107 rfl ?_
                refine xr_iret rfl D_Mo_setRule_108 ?_
                exact Or.inr (Or.inr (Or.inr (Or.inr (Or.inr (Or.inl ⟨⟨by assumption, by grind, by assumption⟩, rfl⟩)))))
              · refine xr_aload_n D_Mo_setRule_98 rfl rfl ?_
                refine xr_iconst (v := 0) D_Mo_setRule_99 rfl ?_
                refine xr_iload_n D_Mo_setRule_100 rfl rfl ?_
                refine xr_cVx (as := [_, _]) (c_Mo_add_34 (by decide) (by decide)) (L_Mo_289) (CD_Mo_add) CI_Mo D_Mo_setRule_101 rfl rfl (by decide) (Nat.le_of_ble_eq_true rfl) (Nat.le_of_eq (Nat.zero_add _)) (Nat.le_of_eq (Nat.zero_add _)) pic_len ?_
                rintro _ (⟨hg10, rfl⟩ | ⟨hg10, rfl⟩)
                · refine ⟨_, _, rfl, pic_leq, ?_⟩
                  refine xr_goto (tgt := 108) D_Mo_setRule_104 rfl ?_
                  refine xr_iret rfl D_Mo_setRule_108 ?_
                  exfalso; grind
                · refine ⟨_, _, rfl, pic_leq, ?_⟩
                  refine xr_goto (tgt := 108) D_Mo_setRule_104 rfl ?_
                  refine xr_iret rfl D_Mo_setRule_108 ?_
                  exfalso; grind
          · refine xr_bipush (v := 9) D_Mo_setRule_79 rfl ?_
            refine xr_iret rfl D_Mo_setRule_81 ?_
            exact Or.inr (Or.inr (Or.inr (Or.inr (Or.inl ⟨⟨by assumption, by grind, by assumption⟩, rfl⟩))))
      · refine xr_aload_n D_Mo_setRule_45 rfl rfl ?_
        refine xr_getf F_Mo_94 D_Mo_setRule_46 rfl rfl ?_
        refine xr_iconst (v := 0) D_Mo_setRule_49 rfl ?_
        refine xr_iald D_Mo_setRule_50 rfl (by exact i_in2 6 (by grind) (by grind) rfl) ?_
        refine xr_i2l D_Mo_setRule_51 ?_
        refine xr_iload_n D_Mo_setRule_52 rfl rfl ?_
        refine xr_i2l D_Mo_setRule_53 ?_
        refine xr_ladd D_Mo_setRule_54 ?_
        refine xr_cSx (as := [_]) (c_Mo_isInt) (L_Mo_158) (CD_Mo_isInt) D_Mo_setRule_55 rfl (by decide) (Nat.le_of_ble_eq_true rfl) (Nat.le_of_eq (Nat.zero_add _)) (Nat.le_of_eq (Nat.zero_add _)) pic_len ?_
        rintro _ rfl
        refine ⟨_, _, rfl, rfl, ?_⟩
        refine xr_if_ne (tgt := 64) D_Mo_setRule_58 rfl (fun c4 => ?_) (fun c4 => ?_)
        · rw [b2_n] at c4
          refine xr_iload D_Mo_setRule_64 rfl ?_
          refine xr_if_eq (tgt := 82) D_Mo_setRule_66 rfl (fun c5 => ?_) (fun c5 => ?_)
          · exact absurd (show (1 : Int32) = (0 : Int32) from c5) (by decide)
          · refine xr_aload_n D_Mo_setRule_69 rfl rfl ?_
            refine xr_getf F_Mo_279 D_Mo_setRule_70 rfl rfl ?_
            refine xr_sipush (v := 2000) D_Mo_setRule_73 rfl ?_
            refine xr_icmp_ne (tgt := 82) D_Mo_setRule_76 rfl (fun c6 => ?_) (fun c6 => ?_)
            · refine xr_iload D_Mo_setRule_82 rfl ?_
              refine xr_if_eq (tgt := 94) D_Mo_setRule_84 rfl (fun c7 => ?_) (fun c7 => ?_)
              · exact absurd (show (1 : Int32) = (0 : Int32) from c7) (by decide)
              · refine xr_aload_n D_Mo_setRule_87 rfl rfl ?_
                refine xr_iconst (v := (-1)) D_Mo_setRule_88 rfl ?_
                refine xr_iload_n D_Mo_setRule_89 rfl rfl ?_
                refine xr_iload_n D_Mo_setRule_90 rfl rfl ?_
                refine xr_cVv (as := [_, _, _]) (c_Mo_noteMark_34 m0 (by grind)) (L_Mo_285) (CD_Mo_noteMark) CI_Mo D_Mo_setRule_91 rfl rfl (by decide) (Nat.le_of_ble_eq_true rfl) (Nat.le_of_eq (Nat.zero_add _)) (Nat.le_of_eq (Nat.zero_add _)) pic_len ?_
                rintro _ rfl
                refine ⟨_, rfl, pic_leq, ?_⟩
                refine xr_iload_n D_Mo_setRule_94 rfl rfl ?_
                refine xr_if_eq (tgt := 107) D_Mo_setRule_95 rfl (fun c8 => ?_) (fun c8 => ?_)
                · refine xr_iconst (v := 0) D_Mo_setRule_107 rfl ?_
                  refine xr_iret rfl D_Mo_setRule_108 ?_
                  exfalso; grind
                · refine xr_aload_n D_Mo_setRule_98 rfl rfl ?_
                  refine xr_iconst (v := 0) D_Mo_setRule_99 rfl ?_
                  refine xr_iload_n D_Mo_setRule_100 rfl rfl ?_
                  refine xr_cVx (as := [_, _]) (c_Mo_add_34 (by decide) (by decide)) (L_Mo_289) (CD_Mo_add) CI_Mo D_Mo_setRule_101 rfl rfl (by decide) (Nat.le_of_ble_eq_true rfl) (Nat.le_of_eq (Nat.zero_add _)) (Nat.le_of_eq (Nat.zero_add _)) pic_len ?_
                  rintro _ (⟨hg13, rfl⟩ | ⟨hg13, rfl⟩)
                  · refine ⟨_, _, rfl, pic_leq, ?_⟩
                    refine xr_goto (tgt := 108) D_Mo_setRule_104 rfl ?_
                    refine xr_iret rfl D_Mo_setRule_108 ?_
                    exact absurd (show fitL (smG (A 60 0) (nrd (gmt (A 54)) (I 3444 + 5) 4)) by assumption) (by assumption)
                  · refine ⟨_, _, rfl, pic_leq, ?_⟩
                    refine xr_goto (tgt := 108) D_Mo_setRule_104 rfl ?_
                    refine xr_iret rfl D_Mo_setRule_108 ?_
                    exact Or.inr (Or.inr (Or.inl ⟨⟨⟨by assumption, by assumption⟩, by grind, by assumption⟩, rfl⟩))
            · refine xr_bipush (v := 9) D_Mo_setRule_79 rfl ?_
              refine xr_iret rfl D_Mo_setRule_81 ?_
              exact Or.inr (Or.inl ⟨⟨⟨by assumption, by assumption⟩, by grind, by assumption⟩, rfl⟩)
        · rw [b2_0] at c4
          refine xr_bipush (v := 8) D_Mo_setRule_61 rfl ?_
          refine xr_iret rfl D_Mo_setRule_63 ?_
          exact Or.inl ⟨⟨by assumption, by assumption⟩, rfl⟩
