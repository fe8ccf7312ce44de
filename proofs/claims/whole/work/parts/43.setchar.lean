theorem c_Mo_setCharacter_34 {I : mI} {A : mA} {L : mL} {c : Int32} {mv : Int32} (m0 : 0 ≤ I 3432) (m1 : I 3432 ≤ 2000) : xm m_Mo_setCharacter (2, 45) [.ref 34, .int c, .int mv] (pic I A L) 0 0 (fun o => ((I 3449 = 0) ∧ o = (.inl (some (.int 7)), pic I A L)) ∨ (((¬ I 3449 = 0 ∧ ((0 ≤ I 3448 ∧ I 3448 ≤ 255) ∧ 0 ≤ c ∧ c ≤ 255)) ∧ ¬ mv = 0 ∧ ¬ fitL (smG (A 60 0) (A 41 (256 * I 3448 + c).toNatClampNeg))) ∧ o = (.inl (some (.int 8)), pic I A L)) ∨ (((¬ I 3449 = 0 ∧ ((0 ≤ I 3448 ∧ I 3448 ≤ 255) ∧ 0 ≤ c ∧ c ≤ 255)) ∧ (¬ mv = 0 ∧ fitL (smG (A 60 0) (A 41 (256 * I 3448 + c).toNatClampNeg))) ∧ I 3432 = 2000) ∧ o = (.inl (some (.int 9)), pic I A L)) ∨ (((¬ I 3449 = 0 ∧ ((0 ≤ I 3448 ∧ I 3448 ≤ 255) ∧ 0 ≤ c ∧ c ≤ 255)) ∧ (¬ mv = 0 ∧ fitL (smG (A 60 0) (A 41 (256 * I 3448 + c).toNatClampNeg))) ∧ ¬ I 3432 = 2000) ∧ o = (.inl (some (.int 0)), pic (upd I 3432 (I 3432 + 1)) (upA (upA (upA (upA (upA (upA (upA A 55 (6 * I 3432).toNatClampNeg (I 3434 - 1)) 55 (6 * I 3432 + 1).toNatClampNeg (I 3448)) 55 (6 * I 3432 + 2).toNatClampNeg (c)) 55 (6 * I 3432 + 3).toNatClampNeg (A 60 0)) 55 (6 * I 3432 + 4).toNatClampNeg (A 60 1)) 55 (6 * I 3432 + 5).toNatClampNeg (0)) 60 0 (smG (A 60 0) (A 41 (256 * I 3448 + c).toNatClampNeg)).toInt32) L)) ∨ (((¬ I 3449 = 0 ∧ ((0 ≤ I 3448 ∧ I 3448 ≤ 255) ∧ 0 ≤ c ∧ c ≤ 255)) ∧ (mv = 0) ∧ I 3432 = 2000) ∧ o = (.inl (some (.int 9)), pic I A L)) ∨ (((¬ I 3449 = 0 ∧ ((0 ≤ I 3448 ∧ I 3448 ≤ 255) ∧ 0 ≤ c ∧ c ≤ 255)) ∧ (mv = 0) ∧ ¬ I 3432 = 2000) ∧ o = (.inl (some (.int 0)), pic (upd I 3432 (I 3432 + 1)) (upA (upA (upA (upA (upA (upA A 55 (6 * I 3432).toNatClampNeg (I 3434 - 1)) 55 (6 * I 3432 + 1).toNatClampNeg (I 3448)) 55 (6 * I 3432 + 2).toNatClampNeg (c)) 55 (6 * I 3432 + 3).toNatClampNeg (A 60 0)) 55 (6 * I 3432 + 4).toNatClampNeg (A 60 1)) 55 (6 * I 3432 + 5).toNatClampNeg (0)) L)) ∨ (((¬ I 3449 = 0 ∧ ¬ ((0 ≤ I 3448 ∧ I 3448 ≤ 255) ∧ 0 ≤ c ∧ c ≤ 255)) ∧ ¬ mv = 0 ∧ ¬ fitL (smG (A 60 0) (0))) ∧ o = (.inl (some (.int 8)), pic I A L)) ∨ (((¬ I 3449 = 0 ∧ ¬ ((0 ≤ I 3448 ∧ I 3448 ≤ 255) ∧ 0 ≤ c ∧ c ≤ 255)) ∧ (¬ mv = 0 ∧ fitL (smG (A 60 0) (0))) ∧ I 3432 = 2000) ∧ o = (.inl (some (.int 9)), pic I A L)) ∨ (((¬ I 3449 = 0 ∧ ¬ ((0 ≤ I 3448 ∧ I 3448 ≤ 255) ∧ 0 ≤ c ∧ c ≤ 255)) ∧ (¬ mv = 0 ∧ fitL (smG (A 60 0) (0))) ∧ ¬ I 3432 = 2000) ∧ o = (.inl (some (.int 0)), pic (upd I 3432 (I 3432 + 1)) (upA (upA (upA (upA (upA (upA (upA A 55 (6 * I 3432).toNatClampNeg (I 3434 - 1)) 55 (6 * I 3432 + 1).toNatClampNeg (I 3448)) 55 (6 * I 3432 + 2).toNatClampNeg (c)) 55 (6 * I 3432 + 3).toNatClampNeg (A 60 0)) 55 (6 * I 3432 + 4).toNatClampNeg (A 60 1)) 55 (6 * I 3432 + 5).toNatClampNeg (0)) 60 0 (smG (A 60 0) (0)).toInt32) L)) ∨ (((¬ I 3449 = 0 ∧ ¬ ((0 ≤ I 3448 ∧ I 3448 ≤ 255) ∧ 0 ≤ c ∧ c ≤ 255)) ∧ (mv = 0) ∧ I 3432 = 2000) ∧ o = (.inl (some (.int 9)), pic I A L)) ∨ (((¬ I 3449 = 0 ∧ ¬ ((0 ≤ I 3448 ∧ I 3448 ≤ 255) ∧ 0 ≤ c ∧ c ≤ 255)) ∧ (mv = 0) ∧ ¬ I 3432 = 2000) ∧ o = (.inl (some (.int 0)), pic (upd I 3432 (I 3432 + 1)) (upA (upA (upA (upA (upA (upA A 55 (6 * I 3432).toNatClampNeg (I 3434 - 1)) 55 (6 * I 3432 + 1).toNatClampNeg (I 3448)) 55 (6 * I 3432 + 2).toNatClampNeg (c)) 55 (6 * I 3432 + 3).toNatClampNeg (A 60 0)) 55 (6 * I 3432 + 4).toNatClampNeg (A 60 1)) 55 (6 * I 3432 + 5).toNatClampNeg (0)) L))) := by
  refine xm_of rfl (by decide) (Nat.le_of_ble_eq_true rfl) ?_
  refine xr_aload_n D_Mo_setCharacter_0 rfl rfl ?_
  refine xr_getf F_Mo_260 D_Mo_setCharacter_1 rfl rfl ?_
  refine xr_if_ne (tgt := 10) D_Mo_setCharacter_4 rfl (fun c1 => ?_) (fun c1 => ?_)
  · refine xr_aload_n D_Mo_setCharacter_10 rfl rfl ?_
    refine xr_getf F_Mo_282 D_Mo_setCharacter_11 rfl rfl ?_
    refine xr_cSx (as := [_]) (c_Mo_isByte) (L_Mo_105) (CD_Mo_isByte) D_Mo_setCharacter_14 rfl (by decide) (Nat.le_of_ble_eq_true rfl) (Nat.le_of_eq (Nat.zero_add _)) (Nat.le_of_eq (Nat.zero_add _)) pic_len ?_
    rintro _ rfl
    refine ⟨_, _, rfl, pic_leq, ?_⟩
    refine xr_if_eq (tgt := 45) D_Mo_setCharacter_17 rfl (fun c2 => ?_) (fun c2 => ?_)
    · rw [b2_0] at c2
      refine xr_iconst (v := 0) D_Mo_setCharacter_45 rfl ?_
      refine xr_istore_n D_Mo_setCharacter_46 rfl (by decide) ?_
      refine xr_iload_n D_Mo_setCharacter_47 rfl rfl ?_
      refine xr_if_eq (tgt := 70) D_Mo_setCharacter_48 rfl (fun c3 => ?_) (fun c3 => ?_)
      · refine xr_aload_n D_Mo_setCharacter_70 rfl rfl ?_
        refine xr_getf F_Mo_279 D_Mo_setCharacter_71 rfl rfl ?_
        refine xr_sipush (v := 2000) D_Mo_setCharacter_74 rfl ?_
        refine xr_icmp_ne (tgt := 83) D_Mo_setCharacter_77 rfl (fun c4 => ?_) (fun c4 => ?_)
        · refine xr_aload_n D_Mo_setCharacter_83 rfl rfl ?_
          refine xr_aload_n D_Mo_setCharacter_84 rfl rfl ?_
          refine xr_getf F_Mo_282 D_Mo_setCharacter_85 rfl rfl ?_
          refine xr_iload_n D_Mo_setCharacter_88 rfl rfl ?_
          refine xr_iconst (v := 0) D_Mo_setCharacter_89 rfl ?_
          refine xr_cVv (as := [_, _, _]) (c_Mo_noteMark_34 m0 (by grind)) (L_Mo_285) (CD_Mo_noteMark) CI_Mo D_Mo_setCharacter_90 rfl rfl (by decide) (Nat.le_of_ble_eq_true rfl) (Nat.le_of_eq (Nat.zero_add _)) (Nat.le_of_eq (Nat.zero_add _)) pic_len ?_
          rintro _ rfl
          refine ⟨_, rfl, pic_leq, ?_⟩
          refine xr_iload_n D_Mo_setCharacter_93 rfl rfl ?_
          refine xr_if_eq (tgt := 106) D_Mo_setCharacter_94 rfl (fun c5 => ?_) (fun c5 => ?_)
          · refine xr_iconst (v := 0) D_Mo_setCharacter_106 rfl ?_
            refine xr_iret rfl D_Mo_setCharacter_107 ?_
            exact Or.inr (Or.inr (Or.inr (Or.inr (Or.inr (Or.inr (Or.inr (Or.inr (Or.inr (Or.inr (⟨⟨⟨by assumption, by grind⟩, by assumption, by assumption⟩, rfl⟩))))))))))
          · refine xr_aload_n D_Mo_setCharacter_97 rfl rfl ?_
            refine xr_iconst (v := 0) D_Mo_setCharacter_98 rfl ?_
            refine xr_iload_n D_Mo_setCharacter_99 rfl rfl ?_
            refine xr_cVx (as := [_, _]) (c_Mo_add_34 (by decide) (by decide)) (L_Mo_289) (CD_Mo_add) CI_Mo D_Mo_setCharacter_100 rfl rfl (by decide) (Nat.le_of_ble_eq_true rfl) (Nat.le_of_eq (Nat.zero_add _)) (Nat.le_of_eq (Nat.zero_add _)) pic_len ?_
            rintro _ (⟨hg3, rfl⟩ | ⟨hg3, rfl⟩)
            · refine ⟨_, _, rfl, pic_leq, ?_⟩
              refine xr_goto (tgt := 107) D_Mo_setCharacter_103 rfl ?_
              refine xr_iret rfl D_Mo_setCharacter_107 ?_
              exfalso; grind
            · refine ⟨_, _, rfl, pic_leq, ?_⟩
              refine xr_goto (tgt := 107) D_Mo_setCharacter_103 rfl ?_
              refine xr_iret rfl D_Mo_setCharacter_107 ?_
              exfalso; grind
        · refine xr_bipush (v := 9) D_Mo_setCharacter_80 rfl ?_
          refine xr_iret rfl D_Mo_setCharacter_82 ?_
          exact Or.inr (Or.inr (Or.inr (Or.inr (Or.inr (Or.inr (Or.inr (Or.inr (Or.inr (Or.inl ⟨⟨⟨by assumption, by grind⟩, by assumption, by assumption⟩, rfl⟩)))))))))
      · refine xr_aload_n D_Mo_setCharacter_51 rfl rfl ?_
        refine xr_getf F_Mo_94 D_Mo_setCharacter_52 rfl rfl ?_
        refine xr_iconst (v := 0) D_Mo_setCharacter_55 rfl ?_
        refine xr_iald D_Mo_setCharacter_56 rfl (by exact i_in2 6 (by grind) (by grind) rfl) ?_
        refine xr_i2l D_Mo_setCharacter_57 ?_
        refine xr_iload_n D_Mo_setCharacter_58 rfl rfl ?_
        refine xr_i2l D_Mo_setCharacter_59 ?_
        refine xr_ladd D_Mo_setCharacter_60 ?_
        refine xr_cSx (as := [_]) (c_Mo_isInt) (L_Mo_158) (CD_Mo_isInt) D_Mo_setCharacter_61 rfl (by decide) (Nat.le_of_ble_eq_true rfl) (Nat.le_of_eq (Nat.zero_add _)) (Nat.le_of_eq (Nat.zero_add _)) pic_len ?_
        rintro _ rfl
        refine ⟨_, _, rfl, rfl, ?_⟩
        refine xr_if_ne (tgt := 70) D_Mo_setCharacter_64 rfl (fun c4 => ?_) (fun c4 => ?_)
        · rw [b2_n] at c4
          refine xr_aload_n D_Mo_setCharacter_70 rfl rfl ?_
          refine xr_getf F_Mo_279 D_Mo_setCharacter_71 rfl rfl ?_
          refine xr_sipush (v := 2000) D_Mo_setCharacter_74 rfl ?_
          refine xr_icmp_ne (tgt := 83) D_Mo_setCharacter_77 rfl (fun c5 => ?_) (fun c5 => ?_)
          · refine xr_aload_n D_Mo_setCharacter_83 rfl rfl ?_
            refine xr_aload_n D_Mo_setCharacter_84 rfl rfl ?_
            refine xr_getf F_Mo_282 D_Mo_setCharacter_85 rfl rfl ?_
            refine xr_iload_n D_Mo_setCharacter_88 rfl rfl ?_
            refine xr_iconst (v := 0) D_Mo_setCharacter_89 rfl ?_
            refine xr_cVv (as := [_, _, _]) (c_Mo_noteMark_34 m0 (by grind)) (L_Mo_285) (CD_Mo_noteMark) CI_Mo D_Mo_setCharacter_90 rfl rfl (by decide) (Nat.le_of_ble_eq_true rfl) (Nat.le_of_eq (Nat.zero_add _)) (Nat.le_of_eq (Nat.zero_add _)) pic_len ?_
            rintro _ rfl
            refine ⟨_, rfl, pic_leq, ?_⟩
            refine xr_iload_n D_Mo_setCharacter_93 rfl rfl ?_
            refine xr_if_eq (tgt := 106) D_Mo_setCharacter_94 rfl (fun c6 => ?_) (fun c6 => ?_)
            · refine xr_iconst (v := 0) D_Mo_setCharacter_106 rfl ?_
              refine xr_iret rfl D_Mo_setCharacter_107 ?_
              exfalso; grind
            · refine xr_aload_n D_Mo_setCharacter_97 rfl rfl ?_
              refine xr_iconst (v := 0) D_Mo_setCharacter_98 rfl ?_
              refine xr_iload_n D_Mo_setCharacter_99 rfl rfl ?_
              refine xr_cVx (as := [_, _]) (c_Mo_add_34 (by decide) (by decide)) (L_Mo_289) (CD_Mo_add) CI_Mo D_Mo_setCharacter_100 rfl rfl (by decide) (Nat.le_of_ble_eq_true rfl) (Nat.le_of_eq (Nat.zero_add _)) (Nat.le_of_eq (Nat.zero_add _)) pic_len ?_
              rintro _ (⟨hg6, rfl⟩ | ⟨hg6, rfl⟩)
              · refine ⟨_, _, rfl, pic_leq, ?_⟩
                refine xr_goto (tgt := 107) D_Mo_setCharacter_103 rfl ?_
                refine xr_iret rfl D_Mo_setCharacter_107 ?_
                exact absurd (show fitL (smG (A 60 0) (0)) by assumption) (by assumption)
              · refine ⟨_, _, rfl, pic_leq, ?_⟩
                refine xr_goto (tgt := 107) D_Mo_setCharacter_103 rfl ?_
                refine xr_iret rfl D_Mo_setCharacter_107 ?_
                exact Or.inr (Or.inr (Or.inr (Or.inr (Or.inr (Or.inr (Or.inr (Or.inr (Or.inl ⟨⟨⟨by assumption, by grind⟩, ⟨by assumption, by assumption⟩, by assumption⟩, rfl⟩))))))))
          · refine xr_bipush (v := 9) D_Mo_setCharacter_80 rfl ?_
            refine xr_iret rfl D_Mo_setCharacter_82 ?_
            exact Or.inr (Or.inr (Or.inr (Or.inr (Or.inr (Or.inr (Or.inr (Or.inl ⟨⟨⟨by assumption, by grind⟩, ⟨by assumption, by assumption⟩, by assumption⟩, rfl⟩)))))))
        · rw [b2_0] at c4
          refine xr_bipush (v := 8) D_Mo_setCharacter_67 rfl ?_
          refine xr_iret rfl D_Mo_setCharacter_69 ?_
          exact Or.inr (Or.inr (Or.inr (Or.inr (Or.inr (Or.inr (Or.inl ⟨⟨⟨by assumption, by grind⟩, by assumption, by assumption⟩, rfl⟩))))))
    · rw [b2_n] at c2
      refine xr_iload_n D_Mo_setCharacter_20 rfl rfl ?_
      refine xr_cSx (as := [_]) (c_Mo_isByte) (L_Mo_105) (CD_Mo_isByte) D_Mo_setCharacter_21 rfl (by decide) (Nat.le_of_ble_eq_true rfl) (Nat.le_of_eq (Nat.zero_add _)) (Nat.le_of_eq (Nat.zero_add _)) pic_len ?_
      rintro _ rfl
      refine ⟨_, _, rfl, pic_leq, ?_⟩
      refine xr_if_eq (tgt := 45) D_Mo_setCharacter_24 rfl (fun c3 => ?_) (fun c3 => ?_)
      · rw [b2_0] at c3
        refine xr_iconst (v := 0) D_Mo_setCharacter_45 rfl ?_
        refine xr_istore_n D_Mo_setCharacter_46 rfl (by decide) ?_
        refine xr_iload_n D_Mo_setCharacter_47 rfl rfl ?_
        refine xr_if_eq (tgt := 70) D_Mo_setCharacter_48 rfl (fun c4 => ?_) (fun c4 => ?_)
        · refine xr_aload_n D_Mo_setCharacter_70 rfl rfl ?_
          refine xr_getf F_Mo_279 D_Mo_setCharacter_71 rfl rfl ?_
          refine xr_sipush (v := 2000) D_Mo_setCharacter_74 rfl ?_
          refine xr_icmp_ne (tgt := 83) D_Mo_setCharacter_77 rfl (fun c5 => ?_) (fun c5 => ?_)
          · refine xr_aload_n D_Mo_setCharacter_83 rfl rfl ?_
            refine xr_aload_n D_Mo_setCharacter_84 rfl rfl ?_
            refine xr_getf F_Mo_282 D_Mo_setCharacter_85 rfl rfl ?_
            refine xr_iload_n D_Mo_setCharacter_88 rfl rfl ?_
            refine xr_iconst (v := 0) D_Mo_setCharacter_89 rfl ?_
            refine xr_cVv (as := [_, _, _]) (c_Mo_noteMark_34 m0 (by grind)) (L_Mo_285) (CD_Mo_noteMark) CI_Mo D_Mo_setCharacter_90 rfl rfl (by decide) (Nat.le_of_ble_eq_true rfl) (Nat.le_of_eq (Nat.zero_add _)) (Nat.le_of_eq (Nat.zero_add _)) pic_len ?_
            rintro _ rfl
            refine ⟨_, rfl, pic_leq, ?_⟩
            refine xr_iload_n D_Mo_setCharacter_93 rfl rfl ?_
            refine xr_if_eq (tgt := 106) D_Mo_setCharacter_94 rfl (fun c6 => ?_) (fun c6 => ?_)
            · refine xr_iconst (v := 0) D_Mo_setCharacter_106 rfl ?_
              refine xr_iret rfl D_Mo_setCharacter_107 ?_
              exact Or.inr (Or.inr (Or.inr (Or.inr (Or.inr (Or.inr (Or.inr (Or.inr (Or.inr (Or.inr (⟨⟨⟨by assumption, by grind⟩, by assumption, by assumption⟩, rfl⟩))))))))))
            · refine xr_aload_n D_Mo_setCharacter_97 rfl rfl ?_
              refine xr_iconst (v := 0) D_Mo_setCharacter_98 rfl ?_
              refine xr_iload_n D_Mo_setCharacter_99 rfl rfl ?_
              refine xr_cVx (as := [_, _]) (c_Mo_add_34 (by decide) (by decide)) (L_Mo_289) (CD_Mo_add) CI_Mo D_Mo_setCharacter_100 rfl rfl (by decide) (Nat.le_of_ble_eq_true rfl) (Nat.le_of_eq (Nat.zero_add _)) (Nat.le_of_eq (Nat.zero_add _)) pic_len ?_
              rintro _ (⟨hg9, rfl⟩ | ⟨hg9, rfl⟩)
              · refine ⟨_, _, rfl, pic_leq, ?_⟩
                refine xr_goto (tgt := 107) D_Mo_setCharacter_103 rfl ?_
                refine xr_iret rfl D_Mo_setCharacter_107 ?_
                exfalso; grind
              · refine ⟨_, _, rfl, pic_leq, ?_⟩
                refine xr_goto (tgt := 107) D_Mo_setCharacter_103 rfl ?_
                refine xr_iret rfl D_Mo_setCharacter_107 ?_
                exfalso; grind
          · refine xr_bipush (v := 9) D_Mo_setCharacter_80 rfl ?_
            refine xr_iret rfl D_Mo_setCharacter_82 ?_
            exact Or.inr (Or.inr (Or.inr (Or.inr (Or.inr (Or.inr (Or.inr (Or.inr (Or.inr (Or.inl ⟨⟨⟨by assumption, by grind⟩, by assumption, by assumption⟩, rfl⟩)))))))))
        · refine xr_aload_n D_Mo_setCharacter_51 rfl rfl ?_
          refine xr_getf F_Mo_94 D_Mo_setCharacter_52 rfl rfl ?_
          refine xr_iconst (v := 0) D_Mo_setCharacter_55 rfl ?_
          refine xr_iald D_Mo_setCharacter_56 rfl (by exact i_in2 6 (by grind) (by grind) rfl) ?_
          refine xr_i2l D_Mo_setCharacter_57 ?_
          refine xr_iload_n D_Mo_setCharacter_58 rfl rfl ?_
          refine xr_i2l D_Mo_setCharacter_59 ?_
          refine xr_ladd D_Mo_setCharacter_60 ?_
          refine xr_cSx (as := [_]) (c_Mo_isInt) (L_Mo_158) (CD_Mo_isInt) D_Mo_setCharacter_61 rfl (by decide) (Nat.le_of_ble_eq_true rfl) (Nat.le_of_eq (Nat.zero_add _)) (Nat.le_of_eq (Nat.zero_add _)) pic_len ?_
          rintro _ rfl
          refine ⟨_, _, rfl, rfl, ?_⟩
          refine xr_if_ne (tgt := 70) D_Mo_setCharacter_64 rfl (fun c5 => ?_) (fun c5 => ?_)
          · rw [b2_n] at c5
            refine xr_aload_n D_Mo_setCharacter_70 rfl rfl ?_
            refine xr_getf F_Mo_279 D_Mo_setCharacter_71 rfl rfl ?_
            refine xr_sipush (v := 2000) D_Mo_setCharacter_74 rfl ?_
            refine xr_icmp_ne (tgt := 83) D_Mo_setCharacter_77 rfl (fun c6 => ?_) (fun c6 => ?_)
            · refine xr_aload_n D_Mo_setCharacter_83 rfl rfl ?_
              refine xr_aload_n D_Mo_setCharacter_84 rfl rfl ?_
              refine xr_getf F_Mo_282 D_Mo_setCharacter_85 rfl rfl ?_
              refine xr_iload_n D_Mo_setCharacter_88 rfl rfl ?_
              refine xr_iconst (v := 0) D_Mo_setCharacter_89 rfl ?_
              refine xr_cVv (as := [_, _, _]) (c_Mo_noteMark_34 m0 (by grind)) (L_Mo_285) (CD_Mo_noteMark) CI_Mo D_Mo_setCharacter_90 rfl rfl (by decide) (Nat.le_of_ble_eq_true rfl) (Nat.le_of_eq (Nat.zero_add _)) (Nat.le_of_eq (Nat.zero_add _)) pic_len ?_
              rintro _ rfl
              refine ⟨_, rfl, pic_leq, ?_⟩
              refine xr_iload_n D_Mo_setCharacter_93 rfl rfl ?_
              refine xr_if_eq (tgt := 106) D_Mo_setCharacter_94 rfl (fun c7 => ?_) (fun c7 => ?_)
              · refine xr_iconst (v := 0) D_Mo_setCharacter_106 rfl ?_
                refine xr_iret rfl D_Mo_setCharacter_107 ?_
                exfalso; grind
              · refine xr_aload_n D_Mo_setCharacter_97 rfl rfl ?_
                refine xr_iconst (v := 0) D_Mo_setCharacter_98 rfl ?_
                refine xr_iload_n D_Mo_setCharacter_99 rfl rfl ?_
                refine xr_cVx (as := [_, _]) (c_Mo_add_34 (by decide) (by decide)) (L_Mo_289) (CD_Mo_add) CI_Mo D_Mo_setCharacter_100 rfl rfl (by decide) (Nat.le_of_ble_eq_true rfl) (Nat.le_of_eq (Nat.zero_add _)) (Nat.le_of_eq (Nat.zero_add _)) pic_len ?_
                rintro _ (⟨hg12, rfl⟩ | ⟨hg12, rfl⟩)
                · refine ⟨_, _, rfl, pic_leq, ?_⟩
                  refine xr_goto (tgt := 107) D_Mo_setCharacter_103 rfl ?_
                  refine xr_iret rfl D_Mo_setCharacter_107 ?_
                  exact absurd (show fitL (smG (A 60 0) (0)) by assumption) (by assumption)
                · refine ⟨_, _, rfl, pic_leq, ?_⟩
                  refine xr_goto (tgt := 107) D_Mo_setCharacter_103 rfl ?_
                  refine xr_iret rfl D_Mo_setCharacter_107 ?_
                  exact Or.inr (Or.inr (Or.inr (Or.inr (Or.inr (Or.inr (Or.inr (Or.inr (Or.inl ⟨⟨⟨by assumption, by grind⟩, ⟨by assumption, by assumption⟩, by assumption⟩, rfl⟩))))))))
            · refine xr_bipush (v := 9) D_Mo_setCharacter_80 rfl ?_
              refine xr_iret rfl D_Mo_setCharacter_82 ?_
              exact Or.inr (Or.inr (Or.inr (Or.inr (Or.inr (Or.inr (Or.inr (Or.inl ⟨⟨⟨by assumption, by grind⟩, ⟨by assumption, by assumption⟩, by assumption⟩, rfl⟩)))))))
          · rw [b2_0] at c5
            refine xr_bipush (v := 8) D_Mo_setCharacter_67 rfl ?_
            refine xr_iret rfl D_Mo_setCharacter_69 ?_
            exact Or.inr (Or.inr (Or.inr (Or.inr (Or.inr (Or.inr (Or.inl ⟨⟨⟨by assumption, by grind⟩, by assumption, by assumption⟩, rfl⟩))))))
      · rw [b2_n] at c3
        refine xr_aload_n D_Mo_setCharacter_27 rfl rfl ?_
        refine xr_getf F_Mo_31 D_Mo_setCharacter_28 rfl rfl ?_
        refine xr_sipush (v := 256) D_Mo_setCharacter_31 rfl ?_
        refine xr_aload_n D_Mo_setCharacter_34 rfl rfl ?_
        refine xr_getf F_Mo_282 D_Mo_setCharacter_35 rfl rfl ?_
        refine xr_imul D_Mo_setCharacter_38 ?_
        refine xr_iload_n D_Mo_setCharacter_39 rfl rfl ?_
        refine xr_iadd D_Mo_setCharacter_40 ?_
        refine xr_iald D_Mo_setCharacter_41 rfl (by exact i_in2 65536 (by grind) (by grind) rfl) ?_
        refine xr_goto (tgt := 46) D_Mo_setCharacter_42 rfl ?_
        refine xr_istore_n D_Mo_setCharacter_46 rfl (by decide) ?_
        refine xr_iload_n D_Mo_setCharacter_47 rfl rfl ?_
        refine xr_if_eq (tgt := 70) D_Mo_setCharacter_48 rfl (fun c4 => ?_) (fun c4 => ?_)
        · refine xr_aload_n D_Mo_setCharacter_70 rfl rfl ?_
          refine xr_getf F_Mo_279 D_Mo_setCharacter_71 rfl rfl ?_
          refine xr_sipush (v := 2000) D_Mo_setCharacter_74 rfl ?_
          refine xr_icmp_ne (tgt := 83) D_Mo_setCharacter_77 rfl (fun c5 => ?_) (fun c5 => ?_)
          · refine xr_aload_n D_Mo_setCharacter_83 rfl rfl ?_
            refine xr_aload_n D_Mo_setCharacter_84 rfl rfl ?_
            refine xr_getf F_Mo_282 D_Mo_setCharacter_85 rfl rfl ?_
            refine xr_iload_n D_Mo_setCharacter_88 rfl rfl ?_
            refine xr_iconst (v := 0) D_Mo_setCharacter_89 rfl ?_
            refine xr_cVv (as := [_, _, _]) (c_Mo_noteMark_34 m0 (by grind)) (L_Mo_285) (CD_Mo_noteMark) CI_Mo D_Mo_setCharacter_90 rfl rfl (by decide) (Nat.le_of_ble_eq_true rfl) (Nat.le_of_eq (Nat.zero_add _)) (Nat.le_of_eq (Nat.zero_add _)) pic_len ?_
            rintro _ rfl
            refine ⟨_, rfl, pic_leq, ?_⟩
            refine xr_iload_n D_Mo_setCharacter_93 rfl rfl ?_
            refine xr_if_eq (tgt := 106) D_Mo_setCharacter_94 rfl (fun c6 => ?_) (fun c6 => ?_)
            · refine xr_iconst (v := 0) D_Mo_setCharacter_106 rfl ?_
              refine xr_iret rfl D_Mo_setCharacter_107 ?_
              exact Or.inr (Or.inr (Or.inr (Or.inr (Or.inr (Or.inl ⟨⟨⟨by assumption, by grind⟩, by assumption, by assumption⟩, rfl⟩)))))
            · refine xr_aload_n D_Mo_setCharacter_97 rfl rfl ?_
              refine xr_iconst (v := 0) D_Mo_setCharacter_98 rfl ?_
              refine xr_iload_n D_Mo_setCharacter_99 rfl rfl ?_
              refine xr_cVx (as := [_, _]) (c_Mo_add_34 (by decide) (by decide)) (L_Mo_289) (CD_Mo_add) CI_Mo D_Mo_setCharacter_100 rfl rfl (by decide) (Nat.le_of_ble_eq_true rfl) (Nat.le_of_eq (Nat.zero_add _)) (Nat.le_of_eq (Nat.zero_add _)) pic_len ?_
              rintro _ (⟨hg14, rfl⟩ | ⟨hg14, rfl⟩)
              · refine ⟨_, _, rfl, pic_leq, ?_⟩
                refine xr_goto (tgt := 107) D_Mo_setCharacter_103 rfl ?_
                refine xr_iret rfl D_Mo_setCharacter_107 ?_
                exfalso; grind
              · refine ⟨_, _, rfl, pic_leq, ?_⟩
                refine xr_goto (tgt := 107) D_Mo_setCharacter_103 rfl ?_
                refine xr_iret rfl D_Mo_setCharacter_107 ?_
                exfalso; grind
          · refine xr_bipush (v := 9) D_Mo_setCharacter_80 rfl ?_
            refine xr_iret rfl D_Mo_setCharacter_82 ?_
            exact Or.inr (Or.inr (Or.inr (Or.inr (Or.inl ⟨⟨⟨by assumption, by grind⟩, by assumption, by assumption⟩, rfl⟩))))
        · refine xr_aload_n D_Mo_setCharacter_51 rfl rfl ?_
          refine xr_getf F_Mo_94 D_Mo_setCharacter_52 rfl rfl ?_
          refine xr_iconst (v := 0) D_Mo_setCharacter_55 rfl ?_
          refine xr_iald D_Mo_setCharacter_56 rfl (by exact i_in2 6 (by grind) (by grind) rfl) ?_
          refine xr_i2l D_Mo_setCharacter_57 ?_
          refine xr_iload_n D_Mo_setCharacter_58 rfl rfl ?_
          refine xr_i2l D_Mo_setCharacter_59 ?_
          refine xr_ladd D_Mo_setCharacter_60 ?_
          refine xr_cSx (as := [_]) (c_Mo_isInt) (L_Mo_158) (CD_Mo_isInt) D_Mo_setCharacter_61 rfl (by decide) (Nat.le_of_ble_eq_true rfl) (Nat.le_of_eq (Nat.zero_add _)) (Nat.le_of_eq (Nat.zero_add _)) pic_len ?_
          rintro _ rfl
          refine ⟨_, _, rfl, rfl, ?_⟩
          refine xr_if_ne (tgt := 70) D_Mo_setCharacter_64 rfl (fun c5 => ?_) (fun c5 => ?_)
          · rw [b2_n] at c5
            refine xr_aload_n D_Mo_setCharacter_70 rfl rfl ?_
            refine xr_getf F_Mo_279 D_Mo_setCharacter_71 rfl rfl ?_
            refine xr_sipush (v := 2000) D_Mo_setCharacter_74 rfl ?_
            refine xr_icmp_ne (tgt := 83) D_Mo_setCharacter_77 rfl (fun c6 => ?_) (fun c6 => ?_)
            · refine xr_aload_n D_Mo_setCharacter_83 rfl rfl ?_
              refine xr_aload_n D_Mo_setCharacter_84 rfl rfl ?_
              refine xr_getf F_Mo_282 D_Mo_setCharacter_85 rfl rfl ?_
              refine xr_iload_n D_Mo_setCharacter_88 rfl rfl ?_
              refine xr_iconst (v := 0) D_Mo_setCharacter_89 rfl ?_
              refine xr_cVv (as := [_, _, _]) (c_Mo_noteMark_34 m0 (by grind)) (L_Mo_285) (CD_Mo_noteMark) CI_Mo D_Mo_setCharacter_90 rfl rfl (by decide) (Nat.le_of_ble_eq_true rfl) (Nat.le_of_eq (Nat.zero_add _)) (Nat.le_of_eq (Nat.zero_add _)) pic_len ?_
              rintro _ rfl
              refine ⟨_, rfl, pic_leq, ?_⟩
              refine xr_iload_n D_Mo_setCharacter_93 rfl rfl ?_
              refine xr_if_eq (tgt := 106) D_Mo_setCharacter_94 rfl (fun c7 => ?_) (fun c7 => ?_)
              · refine xr_iconst (v := 0) D_Mo_setCharacter_106 rfl ?_
                refine xr_iret rfl D_Mo_setCharacter_107 ?_
                exfalso; grind
              · refine xr_aload_n D_Mo_setCharacter_97 rfl rfl ?_
                refine xr_iconst (v := 0) D_Mo_setCharacter_98 rfl ?_
                refine xr_iload_n D_Mo_setCharacter_99 rfl rfl ?_
                refine xr_cVx (as := [_, _]) (c_Mo_add_34 (by decide) (by decide)) (L_Mo_289) (CD_Mo_add) CI_Mo D_Mo_setCharacter_100 rfl rfl (by decide) (Nat.le_of_ble_eq_true rfl) (Nat.le_of_eq (Nat.zero_add _)) (Nat.le_of_eq (Nat.zero_add _)) pic_len ?_
                rintro _ (⟨hg17, rfl⟩ | ⟨hg17, rfl⟩)
                · refine ⟨_, _, rfl, pic_leq, ?_⟩
                  refine xr_goto (tgt := 107) D_Mo_setCharacter_103 rfl ?_
                  refine xr_iret rfl D_Mo_setCharacter_107 ?_
                  exact absurd (show fitL (smG (A 60 0) (A 41 (256 * I 3448 + c).toNatClampNeg)) by assumption) (by assumption)
                · refine ⟨_, _, rfl, pic_leq, ?_⟩
                  refine xr_goto (tgt := 107) D_Mo_setCharacter_103 rfl ?_
                  refine xr_iret rfl D_Mo_setCharacter_107 ?_
                  exact Or.inr (Or.inr (Or.inr (Or.inl ⟨⟨⟨by assumption, by grind⟩, ⟨by assumption, by assumption⟩, by assumption⟩, rfl⟩)))
            · refine xr_bipush (v := 9) D_Mo_setCharacter_80 rfl ?_
              refine xr_iret rfl D_Mo_setCharacter_82 ?_
              exact Or.inr (Or.inr (Or.inl ⟨⟨⟨by assumption, by grind⟩, ⟨by assumption, by assumption⟩, by assumption⟩, rfl⟩))
          · rw [b2_0] at c5
            refine xr_bipush (v := 8) D_Mo_setCharacter_67 rfl ?_
            refine xr_iret rfl D_Mo_setCharacter_69 ?_
            exact Or.inr (Or.inl ⟨⟨⟨by assumption, by grind⟩, by assumption, by assumption⟩, rfl⟩)
  · refine xr_bipush (v := 7) D_Mo_setCharacter_7 rfl ?_
    refine xr_iret rfl D_Mo_setCharacter_9 ?_
    exact Or.inl ⟨by assumption, rfl⟩
