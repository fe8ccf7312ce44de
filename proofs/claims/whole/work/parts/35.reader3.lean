theorem c_Rd_obeyFont_31 {I : mI} {A : mA} {L : mL}  {k : Nat} (hw : (I 3109).toInt = (k : Int)) (hk : k ≤ 4) (hf0 : 0 ≤ I 2407) (hf1 : I 2407 ≤ 256) : xm m_Rd_obeyFont (2, 45) [.ref 31] (pic I A L) 0 0 (fun o => (((0 < I 3109) ∧ (ffR (A 27) (nrd (gat (I 2201) (A 23)) (I 3107 + 1) k) (I 2407).toInt.toNat 0) = -1) ∧ o = (.inl (some (.int 3)), pic (upd I 3110 (ffR (A 27) (nrd (gat (I 2201) (A 23)) (I 3107 + 1) k) (I 2407).toInt.toNat 0)) A L)) ∨ (((0 < I 3109) ∧ ¬ (ffR (A 27) (nrd (gat (I 2201) (A 23)) (I 3107 + 1) k) (I 2407).toInt.toNat 0) = -1) ∧ o = (.inl (some (.int 0)), pic (upd I 3110 (ffR (A 27) (nrd (gat (I 2201) (A 23)) (I 3107 + 1) k) (I 2407).toInt.toNat 0)) A L)) ∨ (((¬ 0 < I 3109) ∧ (ffR (A 27) (I 3108 - 171) (I 2407).toInt.toNat 0) = -1) ∧ o = (.inl (some (.int 3)), pic (upd I 3110 (ffR (A 27) (I 3108 - 171) (I 2407).toInt.toNat 0)) A L)) ∨ (((¬ 0 < I 3109) ∧ ¬ (ffR (A 27) (I 3108 - 171) (I 2407).toInt.toNat 0) = -1) ∧ o = (.inl (some (.int 0)), pic (upd I 3110 (ffR (A 27) (I 3108 - 171) (I 2407).toInt.toNat 0)) A L))) := by
  refine xm_of rfl (by decide) (Nat.le_of_ble_eq_true rfl) ?_
  refine xr_aload_n D_Rd_obeyFont_0 rfl rfl ?_
  refine xr_getf F_Rd_63 D_Rd_obeyFont_1 rfl rfl ?_
  refine xr_if_le (tgt := 27) D_Rd_obeyFont_4 rfl (fun c1 => ?_) (fun c1 => ?_)
  · refine xr_aload_n D_Rd_obeyFont_27 rfl rfl ?_
    refine xr_getf F_Rd_57 D_Rd_obeyFont_28 rfl rfl ?_
    refine xr_sipush (v := 171) D_Rd_obeyFont_31 rfl ?_
    refine xr_isub D_Rd_obeyFont_34 ?_
    refine xr_istore_n D_Rd_obeyFont_35 rfl (by decide) ?_
    refine xr_aload_n D_Rd_obeyFont_36 rfl rfl ?_
    refine xr_aload_n D_Rd_obeyFont_37 rfl rfl ?_
    refine xr_getf F_Rd_26 D_Rd_obeyFont_38 rfl rfl ?_
    refine xr_iload_n D_Rd_obeyFont_41 rfl rfl ?_
    refine xr_cVx (as := [_]) (c_Rg_findFont_24 hf0 hf1) (L_Rd_154) (CD_Rg_findFont) CI_Rg D_Rd_obeyFont_42 rfl rfl (by decide) (Nat.le_of_ble_eq_true rfl) (Nat.le_of_eq (Nat.zero_add _)) (Nat.le_of_eq (Nat.zero_add _)) pic_len ?_
    rintro _ rfl
    refine ⟨_, _, rfl, rfl, ?_⟩
    refine xr_putf F_Rd_128 FT_Rd FN_Rd_10 D_Rd_obeyFont_45 rfl (Nat.le_of_ble_eq_true rfl) rfl rfl (pset_31_10) ?_
    refine xr_aload_n D_Rd_obeyFont_48 rfl rfl ?_
    refine xr_getf F_Rd_128 D_Rd_obeyFont_49 rfl rfl ?_
    refine xr_iconst (v := (-1)) D_Rd_obeyFont_52 rfl ?_
    refine xr_icmp_ne (tgt := 60) D_Rd_obeyFont_53 rfl (fun c2 => ?_) (fun c2 => ?_)
    · refine xr_iconst (v := 0) D_Rd_obeyFont_60 rfl ?_
      refine xr_iret rfl D_Rd_obeyFont_61 ?_
      first | exact Or.inl ⟨by grind [upd], rfl⟩ | exact Or.inr (Or.inl ⟨by grind [upd], rfl⟩) | exact Or.inr (Or.inr (Or.inl ⟨by grind [upd], rfl⟩)) | exact Or.inr (Or.inr (Or.inr (⟨by grind [upd], rfl⟩)))
    · refine xr_iconst (v := 3) D_Rd_obeyFont_56 rfl ?_
      refine xr_goto (tgt := 61) D_Rd_obeyFont_57 rfl ?_
      refine xr_iret rfl D_Rd_obeyFont_61 ?_
      first | exact Or.inl ⟨by grind [upd], rfl⟩ | exact Or.inr (Or.inl ⟨by grind [upd], rfl⟩) | exact Or.inr (Or.inr (Or.inl ⟨by grind [upd], rfl⟩)) | exact Or.inr (Or.inr (Or.inr (⟨by grind [upd], rfl⟩)))
  · refine xr_aload_n D_Rd_obeyFont_7 rfl rfl ?_
    refine xr_getf F_Rd_18 D_Rd_obeyFont_8 rfl rfl ?_
    refine xr_aload_n D_Rd_obeyFont_11 rfl rfl ?_
    refine xr_getf F_Rd_39 D_Rd_obeyFont_12 rfl rfl ?_
    refine xr_iconst (v := 1) D_Rd_obeyFont_15 rfl ?_
    refine xr_iadd D_Rd_obeyFont_16 ?_
    refine xr_aload_n D_Rd_obeyFont_17 rfl rfl ?_
    refine xr_getf F_Rd_63 D_Rd_obeyFont_18 rfl rfl ?_
    refine xr_cVx (as := [_, _]) (c_By_number_22 k hw hk) (L_Rd_88) (CD_By_number) CI_By D_Rd_obeyFont_21 rfl rfl (by decide) (Nat.le_of_ble_eq_true rfl) (Nat.le_of_eq (Nat.zero_add _)) (Nat.le_of_eq (Nat.zero_add _)) pic_len ?_
    rintro _ rfl
    refine ⟨_, _, rfl, rfl, ?_⟩
    refine xr_goto (tgt := 35) D_Rd_obeyFont_24 rfl ?_
    refine xr_istore_n D_Rd_obeyFont_35 rfl (by decide) ?_
    refine xr_aload_n D_Rd_obeyFont_36 rfl rfl ?_
    refine xr_aload_n D_Rd_obeyFont_37 rfl rfl ?_
    refine xr_getf F_Rd_26 D_Rd_obeyFont_38 rfl rfl ?_
    refine xr_iload_n D_Rd_obeyFont_41 rfl rfl ?_
    refine xr_cVx (as := [_]) (c_Rg_findFont_24 hf0 hf1) (L_Rd_154) (CD_Rg_findFont) CI_Rg D_Rd_obeyFont_42 rfl rfl (by decide) (Nat.le_of_ble_eq_true rfl) (Nat.le_of_eq (Nat.zero_add _)) (Nat.le_of_eq (Nat.zero_add _)) pic_len ?_
    rintro _ rfl
    refine ⟨_, _, rfl, rfl, ?_⟩
    refine xr_putf F_Rd_128 FT_Rd FN_Rd_10 D_Rd_obeyFont_45 rfl (Nat.le_of_ble_eq_true rfl) rfl rfl (pset_31_10) ?_
    refine xr_aload_n D_Rd_obeyFont_48 rfl rfl ?_
    refine xr_getf F_Rd_128 D_Rd_obeyFont_49 rfl rfl ?_
    refine xr_iconst (v := (-1)) D_Rd_obeyFont_52 rfl ?_
    refine xr_icmp_ne (tgt := 60) D_Rd_obeyFont_53 rfl (fun c2 => ?_) (fun c2 => ?_)
    · refine xr_iconst (v := 0) D_Rd_obeyFont_60 rfl ?_
      refine xr_iret rfl D_Rd_obeyFont_61 ?_
      first | exact Or.inl ⟨by grind [upd], rfl⟩ | exact Or.inr (Or.inl ⟨by grind [upd], rfl⟩) | exact Or.inr (Or.inr (Or.inl ⟨by grind [upd], rfl⟩)) | exact Or.inr (Or.inr (Or.inr (⟨by grind [upd], rfl⟩)))
    · refine xr_iconst (v := 3) D_Rd_obeyFont_56 rfl ?_
      refine xr_goto (tgt := 61) D_Rd_obeyFont_57 rfl ?_
      refine xr_iret rfl D_Rd_obeyFont_61 ?_
      first | exact Or.inl ⟨by grind [upd], rfl⟩ | exact Or.inr (Or.inl ⟨by grind [upd], rfl⟩) | exact Or.inr (Or.inr (Or.inl ⟨by grind [upd], rfl⟩)) | exact Or.inr (Or.inr (Or.inr (⟨by grind [upd], rfl⟩)))

theorem c_Rd_obeyRule_31 {I : mI} {A : mA} {L : mL}   : xm m_Rd_obeyRule (2, 45) [.ref 31] (pic I A L) 0 0 (fun o => ((I 3108 = 132 ∧ ¬ fitL (smG (A 32 0) (nrd (gat (I 2201) (A 23)) (I 3107 + 5) 4))) ∧ o = (.inl (some (.int 8)), pic I A L)) ∨ (((I 3108 = 132 ∧ fitL (smG (A 32 0) (nrd (gat (I 2201) (A 23)) (I 3107 + 5) 4))) ∧ ¬ (0 < nrd (gat (I 2201) (A 23)) (I 3107 + 1) 4 ∧ 0 < nrd (gat (I 2201) (A 23)) (I 3107 + 5) 4)) ∧ o = (.inl (some (.int 0)), pic I (upA A 32 0 (smG (A 32 0) (nrd (gat (I 2201) (A 23)) (I 3107 + 5) 4)).toInt32) L)) ∨ ((((I 3108 = 132 ∧ fitL (smG (A 32 0) (nrd (gat (I 2201) (A 23)) (I 3107 + 5) 4))) ∧ (0 < nrd (gat (I 2201) (A 23)) (I 3107 + 1) 4 ∧ 0 < nrd (gat (I 2201) (A 23)) (I 3107 + 5) 4)) ∧ (0 ≤ I 2405 ∧ I 2405 < 2000)) ∧ o = (.inl (some (.int 0)), pic (upd I 2405 (I 2405 + 1)) (upA (upA (upA (upA (upA (upA (upA A 32 0 (smG (A 32 0) (nrd (gat (I 2201) (A 23)) (I 3107 + 5) 4)).toInt32) 25 (I 2405 * 6).toNatClampNeg (I 2406 - 1)) 25 (I 2405 * 6 + 1).toNatClampNeg (-1)) 25 (I 2405 * 6 + 2).toNatClampNeg (nrd (gat (I 2201) (A 23)) (I 3107 + 5) 4)) 25 (I 2405 * 6 + 3).toNatClampNeg (A 32 0)) 25 (I 2405 * 6 + 4).toNatClampNeg (A 32 1)) 25 (I 2405 * 6 + 5).toNatClampNeg (nrd (gat (I 2201) (A 23)) (I 3107 + 1) 4)) L)) ∨ ((((I 3108 = 132 ∧ fitL (smG (A 32 0) (nrd (gat (I 2201) (A 23)) (I 3107 + 5) 4))) ∧ (0 < nrd (gat (I 2201) (A 23)) (I 3107 + 1) 4 ∧ 0 < nrd (gat (I 2201) (A 23)) (I 3107 + 5) 4)) ∧ ¬ (0 ≤ I 2405 ∧ I 2405 < 2000)) ∧ o = (.inl (some (.int 9)), pic I (upA A 32 0 (smG (A 32 0) (nrd (gat (I 2201) (A 23)) (I 3107 + 5) 4)).toInt32) L)) ∨ (((¬ I 3108 = 132) ∧ ¬ (0 < nrd (gat (I 2201) (A 23)) (I 3107 + 1) 4 ∧ 0 < nrd (gat (I 2201) (A 23)) (I 3107 + 5) 4)) ∧ o = (.inl (some (.int 0)), pic I A L)) ∨ ((((¬ I 3108 = 132) ∧ (0 < nrd (gat (I 2201) (A 23)) (I 3107 + 1) 4 ∧ 0 < nrd (gat (I 2201) (A 23)) (I 3107 + 5) 4)) ∧ (0 ≤ I 2405 ∧ I 2405 < 2000)) ∧ o = (.inl (some (.int 0)), pic (upd I 2405 (I 2405 + 1)) (upA (upA (upA (upA (upA (upA A 25 (I 2405 * 6).toNatClampNeg (I 2406 - 1)) 25 (I 2405 * 6 + 1).toNatClampNeg (-1)) 25 (I 2405 * 6 + 2).toNatClampNeg (nrd (gat (I 2201) (A 23)) (I 3107 + 5) 4)) 25 (I 2405 * 6 + 3).toNatClampNeg (A 32 0)) 25 (I 2405 * 6 + 4).toNatClampNeg (A 32 1)) 25 (I 2405 * 6 + 5).toNatClampNeg (nrd (gat (I 2201) (A 23)) (I 3107 + 1) 4)) L)) ∨ ((((¬ I 3108 = 132) ∧ (0 < nrd (gat (I 2201) (A 23)) (I 3107 + 1) 4 ∧ 0 < nrd (gat (I 2201) (A 23)) (I 3107 + 5) 4)) ∧ ¬ (0 ≤ I 2405 ∧ I 2405 < 2000)) ∧ o = (.inl (some (.int 9)), pic I A L))) := by
  refine xm_of rfl (by decide) (Nat.le_of_ble_eq_true rfl) ?_
  refine xr_aload_n D_Rd_obeyRule_0 rfl rfl ?_
  refine xr_getf F_Rd_18 D_Rd_obeyRule_1 rfl rfl ?_
  refine xr_aload_n D_Rd_obeyRule_4 rfl rfl ?_
  refine xr_getf F_Rd_39 D_Rd_obeyRule_5 rfl rfl ?_
  refine xr_iconst (v := 1) D_Rd_obeyRule_8 rfl ?_
  refine xr_iadd D_Rd_obeyRule_9 ?_
  refine xr_iconst (v := 4) D_Rd_obeyRule_10 rfl ?_
  refine xr_cVx (as := [_, _]) (c_By_number_22 4 rfl (by decide)) (L_Rd_88) (CD_By_number) CI_By D_Rd_obeyRule_11 rfl rfl (by decide) (Nat.le_of_ble_eq_true rfl) (Nat.le_of_eq (Nat.zero_add _)) (Nat.le_of_eq (Nat.zero_add _)) pic_len ?_
  rintro _ rfl
  refine ⟨_, _, rfl, rfl, ?_⟩
  refine xr_istore_n D_Rd_obeyRule_14 rfl (by decide) ?_
  refine xr_aload_n D_Rd_obeyRule_15 rfl rfl ?_
  refine xr_getf F_Rd_18 D_Rd_obeyRule_16 rfl rfl ?_
  refine xr_aload_n D_Rd_obeyRule_19 rfl rfl ?_
  refine xr_getf F_Rd_39 D_Rd_obeyRule_20 rfl rfl ?_
  refine xr_iconst (v := 5) D_Rd_obeyRule_23 rfl ?_
  refine xr_iadd D_Rd_obeyRule_24 ?_
  refine xr_iconst (v := 4) D_Rd_obeyRule_25 rfl ?_
  refine xr_cVx (as := [_, _]) (c_By_number_22 4 rfl (by decide)) (L_Rd_88) (CD_By_number) CI_By D_Rd_obeyRule_26 rfl rfl (by decide) (Nat.le_of_ble_eq_true rfl) (Nat.le_of_eq (Nat.zero_add _)) (Nat.le_of_eq (Nat.zero_add _)) pic_len ?_
  rintro _ rfl
  refine ⟨_, _, rfl, rfl, ?_⟩
  refine xr_istore_n D_Rd_obeyRule_29 rfl (by decide) ?_
  refine xr_aload_n D_Rd_obeyRule_30 rfl rfl ?_
  refine xr_getf F_Rd_11 D_Rd_obeyRule_31 rfl rfl ?_
  refine xr_iconst (v := 0) D_Rd_obeyRule_34 rfl ?_
  refine xr_iald D_Rd_obeyRule_35 rfl (by exact i_in2 6 (by grind) (by grind) rfl) ?_
  refine xr_istore_n D_Rd_obeyRule_36 rfl (by decide) ?_
  refine xr_aload_n D_Rd_obeyRule_37 rfl rfl ?_
  refine xr_getf F_Rd_57 D_Rd_obeyRule_38 rfl rfl ?_
  refine xr_sipush (v := 132) D_Rd_obeyRule_41 rfl ?_
  refine xr_icmp_ne (tgt := 59) D_Rd_obeyRule_44 rfl (fun c1 => ?_) (fun c1 => ?_)
  · refine xr_iload_n D_Rd_obeyRule_59 rfl rfl ?_
    refine xr_if_le (tgt := 67) D_Rd_obeyRule_60 rfl (fun c2 => ?_) (fun c2 => ?_)
    · refine xr_iconst (v := 0) D_Rd_obeyRule_67 rfl ?_
      refine xr_iret rfl D_Rd_obeyRule_68 ?_
      first | exact Or.inl ⟨by grind, rfl⟩ | exact Or.inr (Or.inl ⟨by grind, rfl⟩) | exact Or.inr (Or.inr (Or.inl ⟨by grind, rfl⟩)) | exact Or.inr (Or.inr (Or.inr (Or.inl ⟨by grind, rfl⟩))) | exact Or.inr (Or.inr (Or.inr (Or.inr (Or.inl ⟨by grind, rfl⟩)))) | exact Or.inr (Or.inr (Or.inr (Or.inr (Or.inr (Or.inl ⟨by grind, rfl⟩))))) | exact Or.inr (Or.inr (Or.inr (Or.inr (Or.inr (Or.inr (⟨by grind, rfl⟩))))))
    · refine xr_iload_n D_Rd_obeyRule_63 rfl rfl ?_
      refine xr_if_gt (tgt := 69) D_Rd_obeyRule_64 rfl (fun c3 => ?_) (fun c3 => ?_)
      · refine xr_aload_n D_Rd_obeyRule_69 rfl rfl ?_
        refine xr_getf F_Rd_26 D_Rd_obeyRule_70 rfl rfl ?_
        refine xr_iconst (v := (-1)) D_Rd_obeyRule_73 rfl ?_
        refine xr_iload_n D_Rd_obeyRule_74 rfl rfl ?_
        refine xr_iload_n D_Rd_obeyRule_75 rfl rfl ?_
        refine xr_aload_n D_Rd_obeyRule_76 rfl rfl ?_
        refine xr_getf F_Rd_11 D_Rd_obeyRule_77 rfl rfl ?_
        refine xr_iconst (v := 1) D_Rd_obeyRule_80 rfl ?_
        refine xr_iald D_Rd_obeyRule_81 rfl (by exact i_in2 6 (by grind) (by grind) rfl) ?_
        refine xr_iload_n D_Rd_obeyRule_82 rfl rfl ?_
        refine xr_cVx (as := [_, _, _, _, _]) (c_Rg_addMark_24) (L_Rd_143) (CD_Rg_addMark) CI_Rg D_Rd_obeyRule_83 rfl rfl (by decide) (Nat.le_of_ble_eq_true rfl) (Nat.le_of_eq (Nat.zero_add _)) (Nat.le_of_eq (Nat.zero_add _)) pic_len ?_
        rintro _ (⟨hg3, rfl⟩ | ⟨hg3, rfl⟩)
        · refine ⟨_, _, rfl, rfl, ?_⟩
          refine xr_if_eq (tgt := 93) D_Rd_obeyRule_86 rfl (fun c4 => ?_) (fun c4 => ?_)
          · refine xr_bipush (v := 9) D_Rd_obeyRule_93 rfl ?_
            refine xr_iret rfl D_Rd_obeyRule_95 ?_
            first | exact Or.inl ⟨by grind, rfl⟩ | exact Or.inr (Or.inl ⟨by grind, rfl⟩) | exact Or.inr (Or.inr (Or.inl ⟨by grind, rfl⟩)) | exact Or.inr (Or.inr (Or.inr (Or.inl ⟨by grind, rfl⟩))) | exact Or.inr (Or.inr (Or.inr (Or.inr (Or.inl ⟨by grind, rfl⟩)))) | exact Or.inr (Or.inr (Or.inr (Or.inr (Or.inr (Or.inl ⟨by grind, rfl⟩))))) | exact Or.inr (Or.inr (Or.inr (Or.inr (Or.inr (Or.inr (⟨by grind, rfl⟩))))))
          · exact absurd (show (0 : Int32) = (0 : Int32) by decide) c4
        · refine ⟨_, _, rfl, rfl, ?_⟩
          refine xr_if_eq (tgt := 93) D_Rd_obeyRule_86 rfl (fun c5 => ?_) (fun c5 => ?_)
          · exact absurd (show (1 : Int32) = (0 : Int32) from c5) (by decide)
          · refine xr_iconst (v := 0) D_Rd_obeyRule_89 rfl ?_
            refine xr_goto (tgt := 95) D_Rd_obeyRule_90 rfl ?_
            refine xr_iret rfl D_Rd_obeyRule_95 ?_
            first | exact Or.inl ⟨by grind, rfl⟩ | exact Or.inr (Or.inl ⟨by grind, rfl⟩) | exact Or.inr (Or.inr (Or.inl ⟨by grind, rfl⟩)) | exact Or.inr (Or.inr (Or.inr (Or.inl ⟨by grind, rfl⟩))) | exact Or.inr (Or.inr (Or.inr (Or.inr (Or.inl ⟨by grind, rfl⟩)))) | exact Or.inr (Or.inr (Or.inr (Or.inr (Or.inr (Or.inl ⟨by grind, rfl⟩))))) | exact Or.inr (Or.inr (Or.inr (Or.inr (Or.inr (Or.inr (⟨by grind, rfl⟩))))))
      · refine xr_iconst (v := 0) D_Rd_obeyRule_67 rfl ?_
        refine xr_iret rfl D_Rd_obeyRule_68 ?_
        first | exact Or.inl ⟨by grind, rfl⟩ | exact Or.inr (Or.inl ⟨by grind, rfl⟩) | exact Or.inr (Or.inr (Or.inl ⟨by grind, rfl⟩)) | exact Or.inr (Or.inr (Or.inr (Or.inl ⟨by grind, rfl⟩))) | exact Or.inr (Or.inr (Or.inr (Or.inr (Or.inl ⟨by grind, rfl⟩)))) | exact Or.inr (Or.inr (Or.inr (Or.inr (Or.inr (Or.inl ⟨by grind, rfl⟩))))) | exact Or.inr (Or.inr (Or.inr (Or.inr (Or.inr (Or.inr (⟨by grind, rfl⟩))))))
  · refine xr_aload_n D_Rd_obeyRule_47 rfl rfl ?_
    refine xr_iconst (v := 0) D_Rd_obeyRule_48 rfl ?_
    refine xr_iload_n D_Rd_obeyRule_49 rfl rfl ?_
    refine xr_cVx (as := [_, _]) (c_Rd_grow_31 (by decide) (by decide)) (L_Rd_139) (CD_Rd_grow) CI_Rd D_Rd_obeyRule_50 rfl rfl (by decide) (Nat.le_of_ble_eq_true rfl) (Nat.le_of_eq (Nat.zero_add _)) (Nat.le_of_eq (Nat.zero_add _)) pic_len ?_
    rintro _ (⟨hg4, rfl⟩ | ⟨hg4, rfl⟩)
    · refine ⟨_, _, rfl, rfl, ?_⟩
      refine xr_if_ne (tgt := 59) D_Rd_obeyRule_53 rfl (fun c2 => ?_) (fun c2 => ?_)
      · exact absurd (show (0 : Int32) = (0 : Int32) by decide) c2
      · refine xr_bipush (v := 8) D_Rd_obeyRule_56 rfl ?_
        refine xr_iret rfl D_Rd_obeyRule_58 ?_
        first | exact Or.inl ⟨by grind, rfl⟩ | exact Or.inr (Or.inl ⟨by grind, rfl⟩) | exact Or.inr (Or.inr (Or.inl ⟨by grind, rfl⟩)) | exact Or.inr (Or.inr (Or.inr (Or.inl ⟨by grind, rfl⟩))) | exact Or.inr (Or.inr (Or.inr (Or.inr (Or.inl ⟨by grind, rfl⟩)))) | exact Or.inr (Or.inr (Or.inr (Or.inr (Or.inr (Or.inl ⟨by grind, rfl⟩))))) | exact Or.inr (Or.inr (Or.inr (Or.inr (Or.inr (Or.inr (⟨by grind, rfl⟩))))))
    · refine ⟨_, _, rfl, rfl, ?_⟩
      refine xr_if_ne (tgt := 59) D_Rd_obeyRule_53 rfl (fun c3 => ?_) (fun c3 => ?_)
      · refine xr_iload_n D_Rd_obeyRule_59 rfl rfl ?_
        refine xr_if_le (tgt := 67) D_Rd_obeyRule_60 rfl (fun c4 => ?_) (fun c4 => ?_)
        · refine xr_iconst (v := 0) D_Rd_obeyRule_67 rfl ?_
          refine xr_iret rfl D_Rd_obeyRule_68 ?_
          first | exact Or.inl ⟨by grind, rfl⟩ | exact Or.inr (Or.inl ⟨by grind, rfl⟩) | exact Or.inr (Or.inr (Or.inl ⟨by grind, rfl⟩)) | exact Or.inr (Or.inr (Or.inr (Or.inl ⟨by grind, rfl⟩))) | exact Or.inr (Or.inr (Or.inr (Or.inr (Or.inl ⟨by grind, rfl⟩)))) | exact Or.inr (Or.inr (Or.inr (Or.inr (Or.inr (Or.inl ⟨by grind, rfl⟩))))) | exact Or.inr (Or.inr (Or.inr (Or.inr (Or.inr (Or.inr (⟨by grind, rfl⟩))))))
        · refine xr_iload_n D_Rd_obeyRule_63 rfl rfl ?_
          refine xr_if_gt (tgt := 69) D_Rd_obeyRule_64 rfl (fun c5 => ?_) (fun c5 => ?_)
          · refine xr_aload_n D_Rd_obeyRule_69 rfl rfl ?_
            refine xr_getf F_Rd_26 D_Rd_obeyRule_70 rfl rfl ?_
            refine xr_iconst (v := (-1)) D_Rd_obeyRule_73 rfl ?_
            refine xr_iload_n D_Rd_obeyRule_74 rfl rfl ?_
            refine xr_iload_n D_Rd_obeyRule_75 rfl rfl ?_
            refine xr_aload_n D_Rd_obeyRule_76 rfl rfl ?_
            refine xr_getf F_Rd_11 D_Rd_obeyRule_77 rfl rfl ?_
            refine xr_iconst (v := 1) D_Rd_obeyRule_80 rfl ?_
            refine xr_iald D_Rd_obeyRule_81 rfl (by exact i_in2 6 (by grind) (by grind) rfl) ?_
            refine xr_iload_n D_Rd_obeyRule_82 rfl rfl ?_
            refine xr_cVx (as := [_, _, _, _, _]) (c_Rg_addMark_24) (L_Rd_143) (CD_Rg_addMark) CI_Rg D_Rd_obeyRule_83 rfl rfl (by decide) (Nat.le_of_ble_eq_true rfl) (Nat.le_of_eq (Nat.zero_add _)) (Nat.le_of_eq (Nat.zero_add _)) pic_len ?_
            rintro _ (⟨hg5, rfl⟩ | ⟨hg5, rfl⟩)
            · refine ⟨_, _, rfl, rfl, ?_⟩
              refine xr_if_eq (tgt := 93) D_Rd_obeyRule_86 rfl (fun c6 => ?_) (fun c6 => ?_)
              · refine xr_bipush (v := 9) D_Rd_obeyRule_93 rfl ?_
                refine xr_iret rfl D_Rd_obeyRule_95 ?_
                first | exact Or.inl ⟨by grind, rfl⟩ | exact Or.inr (Or.inl ⟨by grind, rfl⟩) | exact Or.inr (Or.inr (Or.inl ⟨by grind, rfl⟩)) | exact Or.inr (Or.inr (Or.inr (Or.inl ⟨by grind, rfl⟩))) | exact Or.inr (Or.inr (Or.inr (Or.inr (Or.inl ⟨by grind, rfl⟩)))) | exact Or.inr (Or.inr (Or.inr (Or.inr (Or.inr (Or.inl ⟨by grind, rfl⟩))))) | exact Or.inr (Or.inr (Or.inr (Or.inr (Or.inr (Or.inr (⟨by grind, rfl⟩))))))
              · exact absurd (show (0 : Int32) = (0 : Int32) by decide) c6
            · refine ⟨_, _, rfl, rfl, ?_⟩
              refine xr_if_eq (tgt := 93) D_Rd_obeyRule_86 rfl (fun c7 => ?_) (fun c7 => ?_)
              · exact absurd (show (1 : Int32) = (0 : Int32) from c7) (by decide)
              · refine xr_iconst (v := 0) D_Rd_obeyRule_89 rfl ?_
                refine xr_goto (tgt := 95) D_Rd_obeyRule_90 rfl ?_
                refine xr_iret rfl D_Rd_obeyRule_95 ?_
                first | exact Or.inl ⟨by grind, rfl⟩ | exact Or.inr (Or.inl ⟨by grind, rfl⟩) | exact Or.inr (Or.inr (Or.inl ⟨by grind, rfl⟩)) | exact Or.inr (Or.inr (Or.inr (Or.inl ⟨by grind, rfl⟩))) | exact Or.inr (Or.inr (Or.inr (Or.inr (Or.inl ⟨by grind, rfl⟩)))) | exact Or.inr (Or.inr (Or.inr (Or.inr (Or.inr (Or.inl ⟨by grind, rfl⟩))))) | exact Or.inr (Or.inr (Or.inr (Or.inr (Or.inr (Or.inr (⟨by grind, rfl⟩))))))
          · refine xr_iconst (v := 0) D_Rd_obeyRule_67 rfl ?_
            refine xr_iret rfl D_Rd_obeyRule_68 ?_
            first | exact Or.inl ⟨by grind, rfl⟩ | exact Or.inr (Or.inl ⟨by grind, rfl⟩) | exact Or.inr (Or.inr (Or.inl ⟨by grind, rfl⟩)) | exact Or.inr (Or.inr (Or.inr (Or.inl ⟨by grind, rfl⟩))) | exact Or.inr (Or.inr (Or.inr (Or.inr (Or.inl ⟨by grind, rfl⟩)))) | exact Or.inr (Or.inr (Or.inr (Or.inr (Or.inr (Or.inl ⟨by grind, rfl⟩))))) | exact Or.inr (Or.inr (Or.inr (Or.inr (Or.inr (Or.inr (⟨by grind, rfl⟩))))))
      · exact absurd (show (1 : Int32) = (0 : Int32) from c3) (by decide)

set_option maxHeartbeats 4000000 in
theorem c_Rd_obeyCharacter_31 {I : mI} {A : mA} {L : mL}  {k : Nat} (hw : (I 3109).toInt = (k : Int)) (hk : k ≤ 4) : xm m_Rd_obeyCharacter (2, 45) [.ref 31] (pic I A L) 0 0 (fun o => ((I 3110 = -1) ∧ o = (.inl (some (.int 7)), pic I A L)) ∨ (((¬ I 3110 = -1 ∧ (0 < I 3109)) ∧ I 3108 ≤ 131 ∧ ¬ fitL (smG (A 32 0) (wOf (A 2) (fPart (I 2407) (A 27) (A 28) (gat (I 2901) (A 30)) (I 3110) 0) (nrd (gat (I 2201) (A 23)) (I 3107 + 1) k)))) ∧ o = (.inl (some (.int 8)), pic I A L)) ∨ ((((¬ I 3110 = -1 ∧ (0 < I 3109)) ∧ I 3108 ≤ 131 ∧ fitL (smG (A 32 0) (wOf (A 2) (fPart (I 2407) (A 27) (A 28) (gat (I 2901) (A 30)) (I 3110) 0) (nrd (gat (I 2201) (A 23)) (I 3107 + 1) k)))) ∧ (0 ≤ I 2405 ∧ I 2405 < 2000)) ∧ o = (.inl (some (.int 0)), pic (upd I 2405 (I 2405 + 1)) (upA (upA (upA (upA (upA (upA (upA A 32 0 (smG (A 32 0) (wOf (A 2) (fPart (I 2407) (A 27) (A 28) (gat (I 2901) (A 30)) (I 3110) 0) (nrd (gat (I 2201) (A 23)) (I 3107 + 1) k))).toInt32) 25 (I 2405 * 6).toNatClampNeg (I 2406 - 1)) 25 (I 2405 * 6 + 1).toNatClampNeg (fPart (I 2407) (A 27) (A 28) (gat (I 2901) (A 30)) (I 3110) 0)) 25 (I 2405 * 6 + 2).toNatClampNeg (nrd (gat (I 2201) (A 23)) (I 3107 + 1) k)) 25 (I 2405 * 6 + 3).toNatClampNeg (A 32 0)) 25 (I 2405 * 6 + 4).toNatClampNeg (A 32 1)) 25 (I 2405 * 6 + 5).toNatClampNeg (0)) L)) ∨ ((((¬ I 3110 = -1 ∧ (0 < I 3109)) ∧ I 3108 ≤ 131 ∧ fitL (smG (A 32 0) (wOf (A 2) (fPart (I 2407) (A 27) (A 28) (gat (I 2901) (A 30)) (I 3110) 0) (nrd (gat (I 2201) (A 23)) (I 3107 + 1) k)))) ∧ ¬ (0 ≤ I 2405 ∧ I 2405 < 2000)) ∧ o = (.inl (some (.int 9)), pic I (upA A 32 0 (smG (A 32 0) (wOf (A 2) (fPart (I 2407) (A 27) (A 28) (gat (I 2901) (A 30)) (I 3110) 0) (nrd (gat (I 2201) (A 23)) (I 3107 + 1) k))).toInt32) L)) ∨ ((((¬ I 3110 = -1 ∧ (0 < I 3109)) ∧ ¬ I 3108 ≤ 131) ∧ (0 ≤ I 2405 ∧ I 2405 < 2000)) ∧ o = (.inl (some (.int 0)), pic (upd I 2405 (I 2405 + 1)) (upA (upA (upA (upA (upA (upA A 25 (I 2405 * 6).toNatClampNeg (I 2406 - 1)) 25 (I 2405 * 6 + 1).toNatClampNeg (fPart (I 2407) (A 27) (A 28) (gat (I 2901) (A 30)) (I 3110) 0)) 25 (I 2405 * 6 + 2).toNatClampNeg (nrd (gat (I 2201) (A 23)) (I 3107 + 1) k)) 25 (I 2405 * 6 + 3).toNatClampNeg (A 32 0)) 25 (I 2405 * 6 + 4).toNatClampNeg (A 32 1)) 25 (I 2405 * 6 + 5).toNatClampNeg (0)) L)) ∨ ((((¬ I 3110 = -1 ∧ (0 < I 3109)) ∧ ¬ I 3108 ≤ 131) ∧ ¬ (0 ≤ I 2405 ∧ I 2405 < 2000)) ∧ o = (.inl (some (.int 9)), pic I A L)) ∨ (((¬ I 3110 = -1 ∧ (¬ 0 < I 3109)) ∧ I 3108 ≤ 131 ∧ ¬ fitL (smG (A 32 0) (wOf (A 2) (fPart (I 2407) (A 27) (A 28) (gat (I 2901) (A 30)) (I 3110) 0) (I 3108)))) ∧ o = (.inl (some (.int 8)), pic I A L)) ∨ ((((¬ I 3110 = -1 ∧ (¬ 0 < I 3109)) ∧ I 3108 ≤ 131 ∧ fitL (smG (A 32 0) (wOf (A 2) (fPart (I 2407) (A 27) (A 28) (gat (I 2901) (A 30)) (I 3110) 0) (I 3108)))) ∧ (0 ≤ I 2405 ∧ I 2405 < 2000)) ∧ o = (.inl (some (.int 0)), pic (upd I 2405 (I 2405 + 1)) (upA (upA (upA (upA (upA (upA (upA A 32 0 (smG (A 32 0) (wOf (A 2) (fPart (I 2407) (A 27) (A 28) (gat (I 2901) (A 30)) (I 3110) 0) (I 3108))).toInt32) 25 (I 2405 * 6).toNatClampNeg (I 2406 - 1)) 25 (I 2405 * 6 + 1).toNatClampNeg (fPart (I 2407) (A 27) (A 28) (gat (I 2901) (A 30)) (I 3110) 0)) 25 (I 2405 * 6 + 2).toNatClampNeg (I 3108)) 25 (I 2405 * 6 + 3).toNatClampNeg (A 32 0)) 25 (I 2405 * 6 + 4).toNatClampNeg (A 32 1)) 25 (I 2405 * 6 + 5).toNatClampNeg (0)) L)) ∨ ((((¬ I 3110 = -1 ∧ (¬ 0 < I 3109)) ∧ I 3108 ≤ 131 ∧ fitL (smG (A 32 0) (wOf (A 2) (fPart (I 2407) (A 27) (A 28) (gat (I 2901) (A 30)) (I 3110) 0) (I 3108)))) ∧ ¬ (0 ≤ I 2405 ∧ I 2405 < 2000)) ∧ o = (.inl (some (.int 9)), pic I (upA A 32 0 (smG (A 32 0) (wOf (A 2) (fPart (I 2407) (A 27) (A 28) (gat (I 2901) (A 30)) (I 3110) 0) (I 3108))).toInt32) L)) ∨ ((((¬ I 3110 = -1 ∧ (¬ 0 < I 3109)) ∧ ¬ I 3108 ≤ 131) ∧ (0 ≤ I 2405 ∧ I 2405 < 2000)) ∧ o = (.inl (some (.int 0)), pic (upd I 2405 (I 2405 + 1)) (upA (upA (upA (upA (upA (upA A 25 (I 2405 * 6).toNatClampNeg (I 2406 - 1)) 25 (I 2405 * 6 + 1).toNatClampNeg (fPart (I 2407) (A 27) (A 28) (gat (I 2901) (A 30)) (I 3110) 0)) 25 (I 2405 * 6 + 2).toNatClampNeg (I 3108)) 25 (I 2405 * 6 + 3).toNatClampNeg (A 32 0)) 25 (I 2405 * 6 + 4).toNatClampNeg (A 32 1)) 25 (I 2405 * 6 + 5).toNatClampNeg (0)) L)) ∨ ((((¬ I 3110 = -1 ∧ (¬ 0 < I 3109)) ∧ ¬ I 3108 ≤ 131) ∧ ¬ (0 ≤ I 2405 ∧ I 2405 < 2000)) ∧ o = (.inl (some (.int 9)), pic I A L))) := by
  refine xm_of rfl (by decide) (Nat.le_of_ble_eq_true rfl) ?_
  refine xr_aload_n D_Rd_obeyCharacter_0 rfl rfl ?_
  refine xr_getf F_Rd_128 D_Rd_obeyCharacter_1 rfl rfl ?_
  refine xr_iconst (v := (-1)) D_Rd_obeyCharacter_4 rfl ?_
  refine xr_icmp_ne (tgt := 11) D_Rd_obeyCharacter_5 rfl (fun c1 => ?_) (fun c1 => ?_)
  · refine xr_aload_n D_Rd_obeyCharacter_11 rfl rfl ?_
    refine xr_getf F_Rd_26 D_Rd_obeyCharacter_12 rfl rfl ?_
    refine xr_aload_n D_Rd_obeyCharacter_15 rfl rfl ?_
    refine xr_getf F_Rd_128 D_Rd_obeyCharacter_16 rfl rfl ?_
    refine xr_iconst (v := 0) D_Rd_obeyCharacter_19 rfl ?_
    refine xr_cVx (as := [_, _]) (c_Rg_fontPart_24) (L_Rd_131) (CD_Rg_fontPart) CI_Rg D_Rd_obeyCharacter_20 rfl rfl (by decide) (Nat.le_of_ble_eq_true rfl) (Nat.le_of_eq (Nat.zero_add _)) (Nat.le_of_eq (Nat.zero_add _)) pic_len ?_
    rintro _ rfl
    refine ⟨_, _, rfl, rfl, ?_⟩
    refine xr_istore_n D_Rd_obeyCharacter_23 rfl (by decide) ?_
    refine xr_aload_n D_Rd_obeyCharacter_24 rfl rfl ?_
    refine xr_getf F_Rd_63 D_Rd_obeyCharacter_25 rfl rfl ?_
    refine xr_if_le (tgt := 51) D_Rd_obeyCharacter_28 rfl (fun c2 => ?_) (fun c2 => ?_)
    · refine xr_aload_n D_Rd_obeyCharacter_51 rfl rfl ?_
      refine xr_getf F_Rd_57 D_Rd_obeyCharacter_52 rfl rfl ?_
      refine xr_istore_n D_Rd_obeyCharacter_55 rfl (by decide) ?_
      refine xr_aload_n D_Rd_obeyCharacter_56 rfl rfl ?_
      refine xr_getf F_Rd_11 D_Rd_obeyCharacter_57 rfl rfl ?_
      refine xr_iconst (v := 0) D_Rd_obeyCharacter_60 rfl ?_
      refine xr_iald D_Rd_obeyCharacter_61 rfl (by exact i_in2 6 (by grind) (by grind) rfl) ?_
      refine xr_istore_n D_Rd_obeyCharacter_62 rfl (by decide) ?_
      refine xr_aload_n D_Rd_obeyCharacter_63 rfl rfl ?_
      refine xr_getf F_Rd_57 D_Rd_obeyCharacter_64 rfl rfl ?_
      refine xr_sipush (v := 131) D_Rd_obeyCharacter_67 rfl ?_
      refine xr_icmp_gt (tgt := 93) D_Rd_obeyCharacter_70 rfl (fun c3 => ?_) (fun c3 => ?_)
      · refine xr_aload_n D_Rd_obeyCharacter_93 rfl rfl ?_
        refine xr_getf F_Rd_26 D_Rd_obeyCharacter_94 rfl rfl ?_
        refine xr_iload_n D_Rd_obeyCharacter_97 rfl rfl ?_
        refine xr_iload_n D_Rd_obeyCharacter_98 rfl rfl ?_
        refine xr_iload_n D_Rd_obeyCharacter_99 rfl rfl ?_
        refine xr_aload_n D_Rd_obeyCharacter_100 rfl rfl ?_
        refine xr_getf F_Rd_11 D_Rd_obeyCharacter_101 rfl rfl ?_
        refine xr_iconst (v := 1) D_Rd_obeyCharacter_104 rfl ?_
        refine xr_iald D_Rd_obeyCharacter_105 rfl (by exact i_in2 6 (by grind) (by grind) rfl) ?_
        refine xr_iconst (v := 0) D_Rd_obeyCharacter_106 rfl ?_
        refine xr_cVx (as := [_, _, _, _, _]) (c_Rg_addMark_24) (L_Rd_143) (CD_Rg_addMark) CI_Rg D_Rd_obeyCharacter_107 rfl rfl (by decide) (Nat.le_of_ble_eq_true rfl) (Nat.le_of_eq (Nat.zero_add _)) (Nat.le_of_eq (Nat.zero_add _)) pic_len ?_
        rintro _ (⟨hg2, rfl⟩ | ⟨hg2, rfl⟩)
        · refine ⟨_, _, rfl, rfl, ?_⟩
          refine xr_if_eq (tgt := 117) D_Rd_obeyCharacter_110 rfl (fun c4 => ?_) (fun c4 => ?_)
          · refine xr_bipush (v := 9) D_Rd_obeyCharacter_117 rfl ?_
            refine xr_iret rfl D_Rd_obeyCharacter_119 ?_
            exact Or.inr (Or.inr (Or.inr (Or.inr (Or.inr (Or.inr (Or.inr (Or.inr (Or.inr (Or.inr (⟨by grind, rfl⟩))))))))))
          · exact absurd (show (0 : Int32) = (0 : Int32) by decide) c4
        · refine ⟨_, _, rfl, rfl, ?_⟩
          refine xr_if_eq (tgt := 117) D_Rd_obeyCharacter_110 rfl (fun c5 => ?_) (fun c5 => ?_)
          · exact absurd (show (1 : Int32) = (0 : Int32) from c5) (by decide)
          · refine xr_iconst (v := 0) D_Rd_obeyCharacter_113 rfl ?_
            refine xr_goto (tgt := 119) D_Rd_obeyCharacter_114 rfl ?_
            refine xr_iret rfl D_Rd_obeyCharacter_119 ?_
            exact Or.inr (Or.inr (Or.inr (Or.inr (Or.inr (Or.inr (Or.inr (Or.inr (Or.inr (Or.inl ⟨by grind, rfl⟩)))))))))
      · refine xr_aload_n D_Rd_obeyCharacter_73 rfl rfl ?_
        refine xr_iconst (v := 0) D_Rd_obeyCharacter_74 rfl ?_
        refine xr_aload_n D_Rd_obeyCharacter_75 rfl rfl ?_
        refine xr_getf F_Rd_22 D_Rd_obeyCharacter_76 rfl rfl ?_
        refine xr_iload_n D_Rd_obeyCharacter_79 rfl rfl ?_
        refine xr_iload_n D_Rd_obeyCharacter_80 rfl rfl ?_
        refine xr_cVx (as := [_, _]) (c_Wi_of_1) (L_Rd_134) (CD_Wi_of) CI_Wi D_Rd_obeyCharacter_81 rfl rfl (by decide) (Nat.le_of_ble_eq_true rfl) (Nat.le_of_eq (Nat.zero_add _)) (Nat.le_of_eq (Nat.zero_add _)) pic_len ?_
        rintro _ rfl
        refine ⟨_, _, rfl, rfl, ?_⟩
        refine xr_cVx (as := [_, _]) (c_Rd_grow_31 (by decide) (by decide)) (L_Rd_139) (CD_Rd_grow) CI_Rd D_Rd_obeyCharacter_84 rfl rfl (by decide) (Nat.le_of_ble_eq_true rfl) (Nat.le_of_eq (Nat.zero_add _)) (Nat.le_of_eq (Nat.zero_add _)) pic_len ?_
        rintro _ (⟨hg4, rfl⟩ | ⟨hg4, rfl⟩)
        · refine ⟨_, _, rfl, rfl, ?_⟩
          refine xr_if_ne (tgt := 93) D_Rd_obeyCharacter_87 rfl (fun c4 => ?_) (fun c4 => ?_)
          · exact absurd (show (0 : Int32) = (0 : Int32) by decide) c4
          · refine xr_bipush (v := 8) D_Rd_obeyCharacter_90 rfl ?_
            refine xr_iret rfl D_Rd_obeyCharacter_92 ?_
            exact Or.inr (Or.inr (Or.inr (Or.inr (Or.inr (Or.inr (Or.inl ⟨by grind, rfl⟩))))))
        · refine ⟨_, _, rfl, rfl, ?_⟩
          refine xr_if_ne (tgt := 93) D_Rd_obeyCharacter_87 rfl (fun c5 => ?_) (fun c5 => ?_)
          · refine xr_aload_n D_Rd_obeyCharacter_93 rfl rfl ?_
            refine xr_getf F_Rd_26 D_Rd_obeyCharacter_94 rfl rfl ?_
            refine xr_iload_n D_Rd_obeyCharacter_97 rfl rfl ?_
            refine xr_iload_n D_Rd_obeyCharacter_98 rfl rfl ?_
            refine xr_iload_n D_Rd_obeyCharacter_99 rfl rfl ?_
            refine xr_aload_n D_Rd_obeyCharacter_100 rfl rfl ?_
            refine xr_getf F_Rd_11 D_Rd_obeyCharacter_101 rfl rfl ?_
            refine xr_iconst (v := 1) D_Rd_obeyCharacter_104 rfl ?_
            refine xr_iald D_Rd_obeyCharacter_105 rfl (by exact i_in2 6 (by grind) (by grind) rfl) ?_
            refine xr_iconst (v := 0) D_Rd_obeyCharacter_106 rfl ?_
            refine xr_cVx (as := [_, _, _, _, _]) (c_Rg_addMark_24) (L_Rd_143) (CD_Rg_addMark) CI_Rg D_Rd_obeyCharacter_107 rfl rfl (by decide) (Nat.le_of_ble_eq_true rfl) (Nat.le_of_eq (Nat.zero_add _)) (Nat.le_of_eq (Nat.zero_add _)) pic_len ?_
            rintro _ (⟨hg5, rfl⟩ | ⟨hg5, rfl⟩)
            · refine ⟨_, _, rfl, rfl, ?_⟩
              refine xr_if_eq (tgt := 117) D_Rd_obeyCharacter_110 rfl (fun c6 => ?_) (fun c6 => ?_)
              · refine xr_bipush (v := 9) D_Rd_obeyCharacter_117 rfl ?_
                refine xr_iret rfl D_Rd_obeyCharacter_119 ?_
                exact Or.inr (Or.inr (Or.inr (Or.inr (Or.inr (Or.inr (Or.inr (Or.inr (Or.inl ⟨by grind, rfl⟩))))))))
              · exact absurd (show (0 : Int32) = (0 : Int32) by decide) c6
            · refine ⟨_, _, rfl, rfl, ?_⟩
              refine xr_if_eq (tgt := 117) D_Rd_obeyCharacter_110 rfl (fun c7 => ?_) (fun c7 => ?_)
              · exact absurd (show (1 : Int32) = (0 : Int32) from c7) (by decide)
              · refine xr_iconst (v := 0) D_Rd_obeyCharacter_113 rfl ?_
                refine xr_goto (tgt := 119) D_Rd_obeyCharacter_114 rfl ?_
                refine xr_iret rfl D_Rd_obeyCharacter_119 ?_
                exact Or.inr (Or.inr (Or.inr (Or.inr (Or.inr (Or.inr (Or.inr (Or.inl ⟨by grind, rfl⟩)))))))
          · exact absurd (show (1 : Int32) = (0 : Int32) from c5) (by decide)
    · refine xr_aload_n D_Rd_obeyCharacter_31 rfl rfl ?_
      refine xr_getf F_Rd_18 D_Rd_obeyCharacter_32 rfl rfl ?_
      refine xr_aload_n D_Rd_obeyCharacter_35 rfl rfl ?_
      refine xr_getf F_Rd_39 D_Rd_obeyCharacter_36 rfl rfl ?_
      refine xr_iconst (v := 1) D_Rd_obeyCharacter_39 rfl ?_
      refine xr_iadd D_Rd_obeyCharacter_40 ?_
      refine xr_aload_n D_Rd_obeyCharacter_41 rfl rfl ?_
      refine xr_getf F_Rd_63 D_Rd_obeyCharacter_42 rfl rfl ?_
      refine xr_cVx (as := [_, _]) (c_By_number_22 k hw hk) (L_Rd_88) (CD_By_number) CI_By D_Rd_obeyCharacter_45 rfl rfl (by decide) (Nat.le_of_ble_eq_true rfl) (Nat.le_of_eq (Nat.zero_add _)) (Nat.le_of_eq (Nat.zero_add _)) pic_len ?_
      rintro _ rfl
      refine ⟨_, _, rfl, rfl, ?_⟩
      refine xr_goto (tgt := 55) D_Rd_obeyCharacter_48 rfl ?_
      refine xr_istore_n D_Rd_obeyCharacter_55 rfl (by decide) ?_
      refine xr_aload_n D_Rd_obeyCharacter_56 rfl rfl ?_
      refine xr_getf F_Rd_11 D_Rd_obeyCharacter_57 rfl rfl ?_
      refine xr_iconst (v := 0) D_Rd_obeyCharacter_60 rfl ?_
      refine xr_iald D_Rd_obeyCharacter_61 rfl (by exact i_in2 6 (by grind) (by grind) rfl) ?_
      refine xr_istore_n D_Rd_obeyCharacter_62 rfl (by decide) ?_
      refine xr_aload_n D_Rd_obeyCharacter_63 rfl rfl ?_
      refine xr_getf F_Rd_57 D_Rd_obeyCharacter_64 rfl rfl ?_
      refine xr_sipush (v := 131) D_Rd_obeyCharacter_67 rfl ?_
      refine xr_icmp_gt (tgt := 93) D_Rd_obeyCharacter_70 rfl (fun c3 => ?_) (fun c3 => ?_)
      · refine xr_aload_n D_Rd_obeyCharacter_93 rfl rfl ?_
        refine xr_getf F_Rd_26 D_Rd_obeyCharacter_94 rfl rfl ?_
        refine xr_iload_n D_Rd_obeyCharacter_97 rfl rfl ?_
        refine xr_iload_n D_Rd_obeyCharacter_98 rfl rfl ?_
        refine xr_iload_n D_Rd_obeyCharacter_99 rfl rfl ?_
        refine xr_aload_n D_Rd_obeyCharacter_100 rfl rfl ?_
        refine xr_getf F_Rd_11 D_Rd_obeyCharacter_101 rfl rfl ?_
        refine xr_iconst (v := 1) D_Rd_obeyCharacter_104 rfl ?_
        refine xr_iald D_Rd_obeyCharacter_105 rfl (by exact i_in2 6 (by grind) (by grind) rfl) ?_
        refine xr_iconst (v := 0) D_Rd_obeyCharacter_106 rfl ?_
        refine xr_cVx (as := [_, _, _, _, _]) (c_Rg_addMark_24) (L_Rd_143) (CD_Rg_addMark) CI_Rg D_Rd_obeyCharacter_107 rfl rfl (by decide) (Nat.le_of_ble_eq_true rfl) (Nat.le_of_eq (Nat.zero_add _)) (Nat.le_of_eq (Nat.zero_add _)) pic_len ?_
        rintro _ (⟨hg7, rfl⟩ | ⟨hg7, rfl⟩)
        · refine ⟨_, _, rfl, rfl, ?_⟩
          refine xr_if_eq (tgt := 117) D_Rd_obeyCharacter_110 rfl (fun c4 => ?_) (fun c4 => ?_)
          · refine xr_bipush (v := 9) D_Rd_obeyCharacter_117 rfl ?_
            refine xr_iret rfl D_Rd_obeyCharacter_119 ?_
            exact Or.inr (Or.inr (Or.inr (Or.inr (Or.inr (Or.inl ⟨by grind, rfl⟩)))))
          · exact absurd (show (0 : Int32) = (0 : Int32) by decide) c4
        · refine ⟨_, _, rfl, rfl, ?_⟩
          refine xr_if_eq (tgt := 117) D_Rd_obeyCharacter_110 rfl (fun c5 => ?_) (fun c5 => ?_)
          · exact absurd (show (1 : Int32) = (0 : Int32) from c5) (by decide)
          · refine xr_iconst (v := 0) D_Rd_obeyCharacter_113 rfl ?_
            refine xr_goto (tgt := 119) D_Rd_obeyCharacter_114 rfl ?_
            refine xr_iret rfl D_Rd_obeyCharacter_119 ?_
            exact Or.inr (Or.inr (Or.inr (Or.inr (Or.inl ⟨by grind, rfl⟩))))
      · refine xr_aload_n D_Rd_obeyCharacter_73 rfl rfl ?_
        refine xr_iconst (v := 0) D_Rd_obeyCharacter_74 rfl ?_
        refine xr_aload_n D_Rd_obeyCharacter_75 rfl rfl ?_
        refine xr_getf F_Rd_22 D_Rd_obeyCharacter_76 rfl rfl ?_
        refine xr_iload_n D_Rd_obeyCharacter_79 rfl rfl ?_
        refine xr_iload_n D_Rd_obeyCharacter_80 rfl rfl ?_
        refine xr_cVx (as := [_, _]) (c_Wi_of_1) (L_Rd_134) (CD_Wi_of) CI_Wi D_Rd_obeyCharacter_81 rfl rfl (by decide) (Nat.le_of_ble_eq_true rfl) (Nat.le_of_eq (Nat.zero_add _)) (Nat.le_of_eq (Nat.zero_add _)) pic_len ?_
        rintro _ rfl
        refine ⟨_, _, rfl, rfl, ?_⟩
        refine xr_cVx (as := [_, _]) (c_Rd_grow_31 (by decide) (by decide)) (L_Rd_139) (CD_Rd_grow) CI_Rd D_Rd_obeyCharacter_84 rfl rfl (by decide) (Nat.le_of_ble_eq_true rfl) (Nat.le_of_eq (Nat.zero_add _)) (Nat.le_of_eq (Nat.zero_add _)) pic_len ?_
        rintro _ (⟨hg9, rfl⟩ | ⟨hg9, rfl⟩)
        · refine ⟨_, _, rfl, rfl, ?_⟩
          refine xr_if_ne (tgt := 93) D_Rd_obeyCharacter_87 rfl (fun c4 => ?_) (fun c4 => ?_)
          · exact absurd (show (0 : Int32) = (0 : Int32) by decide) c4
          · refine xr_bipush (v := 8) D_Rd_obeyCharacter_90 rfl ?_
            refine xr_iret rfl D_Rd_obeyCharacter_92 ?_
            exact Or.inr (Or.inl ⟨by grind, rfl⟩)
        · refine ⟨_, _, rfl, rfl, ?_⟩
          refine xr_if_ne (tgt := 93) D_Rd_obeyCharacter_87 rfl (fun c5 => ?_) (fun c5 => ?_)
          · refine xr_aload_n D_Rd_obeyCharacter_93 rfl rfl ?_
            refine xr_getf F_Rd_26 D_Rd_obeyCharacter_94 rfl rfl ?_
            refine xr_iload_n D_Rd_obeyCharacter_97 rfl rfl ?_
            refine xr_iload_n D_Rd_obeyCharacter_98 rfl rfl ?_
            refine xr_iload_n D_Rd_obeyCharacter_99 rfl rfl ?_
            refine xr_aload_n D_Rd_obeyCharacter_100 rfl rfl ?_
            refine xr_getf F_Rd_11 D_Rd_obeyCharacter_101 rfl rfl ?_
            refine xr_iconst (v := 1) D_Rd_obeyCharacter_104 rfl ?_
            refine xr_iald D_Rd_obeyCharacter_105 rfl (by exact i_in2 6 (by grind) (by grind) rfl) ?_
            refine xr_iconst (v := 0) D_Rd_obeyCharacter_106 rfl ?_
            refine xr_cVx (as := [_, _, _, _, _]) (c_Rg_addMark_24) (L_Rd_143) (CD_Rg_addMark) CI_Rg D_Rd_obeyCharacter_107 rfl rfl (by decide) (Nat.le_of_ble_eq_true rfl) (Nat.le_of_eq (Nat.zero_add _)) (Nat.le_of_eq (Nat.zero_add _)) pic_len ?_
            rintro _ (⟨hg10, rfl⟩ | ⟨hg10, rfl⟩)
            · refine ⟨_, _, rfl, rfl, ?_⟩
              refine xr_if_eq (tgt := 117) D_Rd_obeyCharacter_110 rfl (fun c6 => ?_) (fun c6 => ?_)
              · refine xr_bipush (v := 9) D_Rd_obeyCharacter_117 rfl ?_
                refine xr_iret rfl D_Rd_obeyCharacter_119 ?_
                exact Or.inr (Or.inr (Or.inr (Or.inl ⟨by grind, rfl⟩)))
              · exact absurd (show (0 : Int32) = (0 : Int32) by decide) c6
            · refine ⟨_, _, rfl, rfl, ?_⟩
              refine xr_if_eq (tgt := 117) D_Rd_obeyCharacter_110 rfl (fun c7 => ?_) (fun c7 => ?_)
              · exact absurd (show (1 : Int32) = (0 : Int32) from c7) (by decide)
              · refine xr_iconst (v := 0) D_Rd_obeyCharacter_113 rfl ?_
                refine xr_goto (tgt := 119) D_Rd_obeyCharacter_114 rfl ?_
                refine xr_iret rfl D_Rd_obeyCharacter_119 ?_
                exact Or.inr (Or.inr (Or.inl ⟨by grind, rfl⟩))
          · exact absurd (show (1 : Int32) = (0 : Int32) from c5) (by decide)
  · refine xr_bipush (v := 7) D_Rd_obeyCharacter_8 rfl ?_
    refine xr_iret rfl D_Rd_obeyCharacter_10 ?_
    exact Or.inl ⟨by grind, rfl⟩

theorem c_Rd_obeyBegin_31 {I : mI} {A : mA} {L : mL}   : xm m_Rd_obeyBegin (3, 68) [.ref 31] (pic I A L) 0 0 (fun o => ((¬ nrd (gat (I 2201) (A 23)) (I 3107 + 1 + 40) 4 = I 3111) ∧ o = (.inl (some (.int 5)), pic I A L)) ∨ ((nrd (gat (I 2201) (A 23)) (I 3107 + 1 + 40) 4 = I 3111 ∧ ¬ (0 ≤ I 2406 ∧ I 2406 < 1300)) ∧ o = (.inl (some (.int 9)), pic I A L)) ∨ ((nrd (gat (I 2201) (A 23)) (I 3107 + 1 + 40) 4 = I 3111 ∧ (0 ≤ I 2406 ∧ I 2406 < 1300)) ∧ o = (.inl (some (.int 0)), pic (upd (upd (upd (upd (upd I 2406 (I 2406 + 1)) 3111 (I 3107)) 3106 2) 3110 (-1)) 3105 0) (upA (upA (upA (upA (upA (upA (upAf A 26 (pgF (gat (I 2201) (A 23)) (I 3107 + 1) (I 2406) 10 0 (A 26))) 32 0 0) 32 1 0) 32 2 0) 32 3 0) 32 4 0) 32 5 0) L))) := by
  refine xm_of rfl (by decide) (Nat.le_of_ble_eq_true rfl) ?_
  refine xr_aload_n D_Rd_obeyBegin_0 rfl rfl ?_
  refine xr_getf F_Rd_18 D_Rd_obeyBegin_1 rfl rfl ?_
  refine xr_aload_n D_Rd_obeyBegin_4 rfl rfl ?_
  refine xr_getf F_Rd_39 D_Rd_obeyBegin_5 rfl rfl ?_
  refine xr_iconst (v := 1) D_Rd_obeyBegin_8 rfl ?_
  refine xr_iadd D_Rd_obeyBegin_9 ?_
  refine xr_bipush (v := 40) D_Rd_obeyBegin_10 rfl ?_
  refine xr_iadd D_Rd_obeyBegin_12 ?_
  refine xr_iconst (v := 4) D_Rd_obeyBegin_13 rfl ?_
  refine xr_cVx (as := [_, _]) (c_By_number_22 4 rfl (by decide)) (L_Rd_88) (CD_By_number) CI_By D_Rd_obeyBegin_14 rfl rfl (by decide) (Nat.le_of_ble_eq_true rfl) (Nat.le_of_eq (Nat.zero_add _)) (Nat.le_of_eq (Nat.zero_add _)) pic_len ?_
  rintro _ rfl
  refine ⟨_, _, rfl, rfl, ?_⟩
  refine xr_aload_n D_Rd_obeyBegin_17 rfl rfl ?_
  refine xr_getf F_Rd_42 D_Rd_obeyBegin_18 rfl rfl ?_
  refine xr_icmp_eq (tgt := 26) D_Rd_obeyBegin_21 rfl (fun c1 => ?_) (fun c1 => ?_)
  · refine xr_aload_n D_Rd_obeyBegin_26 rfl rfl ?_
    refine xr_getf F_Rd_26 D_Rd_obeyBegin_27 rfl rfl ?_
    refine xr_aload_n D_Rd_obeyBegin_30 rfl rfl ?_
    refine xr_getf F_Rd_18 D_Rd_obeyBegin_31 rfl rfl ?_
    refine xr_aload_n D_Rd_obeyBegin_34 rfl rfl ?_
    refine xr_getf F_Rd_39 D_Rd_obeyBegin_35 rfl rfl ?_
    refine xr_iconst (v := 1) D_Rd_obeyBegin_38 rfl ?_
    refine xr_iadd D_Rd_obeyBegin_39 ?_
    refine xr_cVx (as := [_, _]) (c_Rg_addPage_24) (L_Rd_164) (CD_Rg_addPage) CI_Rg D_Rd_obeyBegin_40 rfl rfl (by decide) (Nat.le_of_ble_eq_true rfl) (Nat.le_of_eq (Nat.zero_add _)) (Nat.le_of_eq (Nat.zero_add _)) pic_len ?_
    rintro _ (⟨hg2, rfl⟩ | ⟨hg2, rfl⟩)
    · refine ⟨_, _, rfl, rfl, ?_⟩
      refine xr_if_ne (tgt := 49) D_Rd_obeyBegin_43 rfl (fun c2 => ?_) (fun c2 => ?_)
      · exact absurd (show (0 : Int32) = (0 : Int32) by decide) c2
      · refine xr_bipush (v := 9) D_Rd_obeyBegin_46 rfl ?_
        refine xr_iret rfl D_Rd_obeyBegin_48 ?_
        first | exact Or.inl ⟨by grind, rfl⟩ | exact Or.inr (Or.inl ⟨by grind, rfl⟩) | exact Or.inr (Or.inr (⟨by grind, rfl⟩))
    · refine ⟨_, _, rfl, rfl, ?_⟩
      refine xr_if_ne (tgt := 49) D_Rd_obeyBegin_43 rfl (fun c3 => ?_) (fun c3 => ?_)
      · refine xr_aload_n D_Rd_obeyBegin_49 rfl rfl ?_
        refine xr_aload_n D_Rd_obeyBegin_50 rfl rfl ?_
        refine xr_getf F_Rd_39 D_Rd_obeyBegin_51 rfl rfl ?_
        refine xr_putf F_Rd_42 FT_Rd FN_Rd_11 D_Rd_obeyBegin_54 rfl (Nat.le_of_ble_eq_true rfl) rfl rfl (pset_31_11) ?_
        refine xr_aload_n D_Rd_obeyBegin_57 rfl rfl ?_
        refine xr_iconst (v := 2) D_Rd_obeyBegin_58 rfl ?_
        refine xr_putf F_Rd_35 FT_Rd FN_Rd_6 D_Rd_obeyBegin_59 rfl (Nat.le_of_ble_eq_true rfl) rfl rfl (pset_31_6) ?_
        refine xr_aload_n D_Rd_obeyBegin_62 rfl rfl ?_
        refine xr_iconst (v := (-1)) D_Rd_obeyBegin_63 rfl ?_
        refine xr_putf F_Rd_128 FT_Rd FN_Rd_10 D_Rd_obeyBegin_64 rfl (Nat.le_of_ble_eq_true rfl) rfl rfl (pset_31_10) ?_
        refine xr_aload_n D_Rd_obeyBegin_67 rfl rfl ?_
        refine xr_iconst (v := 0) D_Rd_obeyBegin_68 rfl ?_
        refine xr_putf F_Rd_107 FT_Rd FN_Rd_5 D_Rd_obeyBegin_69 rfl (Nat.le_of_ble_eq_true rfl) rfl rfl (pset_31_5) ?_
        refine xr_iconst (v := 0) D_Rd_obeyBegin_72 rfl ?_
        refine xr_istore_n D_Rd_obeyBegin_73 rfl (by decide) ?_
        refine xr_iload_n D_Rd_obeyBegin_74 rfl rfl ?_
        refine xr_aload_n D_Rd_obeyBegin_75 rfl rfl ?_
        refine xr_getf F_Rd_11 D_Rd_obeyBegin_76 rfl rfl ?_
        refine xr_alen (v := 6) D_Rd_obeyBegin_79 rfl (by simp [xtok]) rfl ?_
        refine xr_icmp_ge (tgt := 96) D_Rd_obeyBegin_80 rfl (fun c4 => ?_) (fun c4 => ?_)
        · exact absurd (show (6 : Int32) ≤ (0 : Int32) from c4) (by decide)
        · refine xr_aload_n D_Rd_obeyBegin_83 rfl rfl ?_
          refine xr_getf F_Rd_11 D_Rd_obeyBegin_84 rfl rfl ?_
          refine xr_iload_n D_Rd_obeyBegin_87 rfl rfl ?_
          refine xr_iconst (v := 0) D_Rd_obeyBegin_88 rfl ?_
          refine xr_iast D_Rd_obeyBegin_89 rfl (by exact i_in2 6 (by grind) (by grind) rfl) (aset_32) ?_
          refine xr_iinc2 (v9 := 1) (c9 := 1) D_Rd_obeyBegin_90 rfl rfl rfl (by decide) ?_
          refine xr_goto (tgt := 74) D_Rd_obeyBegin_93 rfl ?_
          refine xr_iload_n D_Rd_obeyBegin_74 rfl rfl ?_
          refine xr_aload_n D_Rd_obeyBegin_75 rfl rfl ?_
          refine xr_getf F_Rd_11 D_Rd_obeyBegin_76 rfl rfl ?_
          refine xr_alen (v := 6) D_Rd_obeyBegin_79 rfl (by simp [xtok]) rfl ?_
          refine xr_icmp_ge (tgt := 96) D_Rd_obeyBegin_80 rfl (fun c5 => ?_) (fun c5 => ?_)
          · exact absurd (show (6 : Int32) ≤ (1 : Int32) from c5) (by decide)
          · refine xr_aload_n D_Rd_obeyBegin_83 rfl rfl ?_
            refine xr_getf F_Rd_11 D_Rd_obeyBegin_84 rfl rfl ?_
            refine xr_iload_n D_Rd_obeyBegin_87 rfl rfl ?_
            refine xr_iconst (v := 0) D_Rd_obeyBegin_88 rfl ?_
            refine xr_iast D_Rd_obeyBegin_89 rfl (by exact i_in2 6 (by grind) (by grind) rfl) (aset_32) ?_
            refine xr_iinc2 (v9 := 2) (c9 := 1) D_Rd_obeyBegin_90 rfl rfl rfl (by decide) ?_
            refine xr_goto (tgt := 74) D_Rd_obeyBegin_93 rfl ?_
            refine xr_iload_n D_Rd_obeyBegin_74 rfl rfl ?_
            refine xr_aload_n D_Rd_obeyBegin_75 rfl rfl ?_
            refine xr_getf F_Rd_11 D_Rd_obeyBegin_76 rfl rfl ?_
            refine xr_alen (v := 6) D_Rd_obeyBegin_79 rfl (by simp [xtok]) rfl ?_
            refine xr_icmp_ge (tgt := 96) D_Rd_obeyBegin_80 rfl (fun c6 => ?_) (fun c6 => ?_)
            · exact absurd (show (6 : Int32) ≤ (2 : Int32) from c6) (by decide)
            · refine xr_aload_n D_Rd_obeyBegin_83 rfl rfl ?_
              refine xr_getf F_Rd_11 D_Rd_obeyBegin_84 rfl rfl ?_
              refine xr_iload_n D_Rd_obeyBegin_87 rfl rfl ?_
              refine xr_iconst (v := 0) D_Rd_obeyBegin_88 rfl ?_
              refine xr_iast D_Rd_obeyBegin_89 rfl (by exact i_in2 6 (by grind) (by grind) rfl) (aset_32) ?_
              refine xr_iinc2 (v9 := 3) (c9 := 1) D_Rd_obeyBegin_90 rfl rfl rfl (by decide) ?_
              refine xr_goto (tgt := 74) D_Rd_obeyBegin_93 rfl ?_
              refine xr_iload_n D_Rd_obeyBegin_74 rfl rfl ?_
              refine xr_aload_n D_Rd_obeyBegin_75 rfl rfl ?_
              refine xr_getf F_Rd_11 D_Rd_obeyBegin_76 rfl rfl ?_
              refine xr_alen (v := 6) D_Rd_obeyBegin_79 rfl (by simp [xtok]) rfl ?_
              refine xr_icmp_ge (tgt := 96) D_Rd_obeyBegin_80 rfl (fun c7 => ?_) (fun c7 => ?_)
              · exact absurd (show (6 : Int32) ≤ (3 : Int32) from c7) (by decide)
              · refine xr_aload_n D_Rd_obeyBegin_83 rfl rfl ?_
                refine xr_getf F_Rd_11 D_Rd_obeyBegin_84 rfl rfl ?_
                refine xr_iload_n D_Rd_obeyBegin_87 rfl rfl ?_
                refine xr_iconst (v := 0) D_Rd_obeyBegin_88 rfl ?_
                refine xr_iast D_Rd_obeyBegin_89 rfl (by exact i_in2 6 (by grind) (by grind) rfl) (aset_32) ?_
                refine xr_iinc2 (v9 := 4) (c9 := 1) D_Rd_obeyBegin_90 rfl rfl rfl (by decide) ?_
                refine xr_goto (tgt := 74) D_Rd_obeyBegin_93 rfl ?_
                refine xr_iload_n D_Rd_obeyBegin_74 rfl rfl ?_
                refine xr_aload_n D_Rd_obeyBegin_75 rfl rfl ?_
                refine xr_getf F_Rd_11 D_Rd_obeyBegin_76 rfl rfl ?_
                refine xr_alen (v := 6) D_Rd_obeyBegin_79 rfl (by simp [xtok]) rfl ?_
                refine xr_icmp_ge (tgt := 96) D_Rd_obeyBegin_80 rfl (fun c8 => ?_) (fun c8 => ?_)
                · exact absurd (show (6 : Int32) ≤ (4 : Int32) from c8) (by decide)
                · refine xr_aload_n D_Rd_obeyBegin_83 rfl rfl ?_
                  refine xr_getf F_Rd_11 D_Rd_obeyBegin_84 rfl rfl ?_
                  refine xr_iload_n D_Rd_obeyBegin_87 rfl rfl ?_
                  refine xr_iconst (v := 0) D_Rd_obeyBegin_88 rfl ?_
                  refine xr_iast D_Rd_obeyBegin_89 rfl (by exact i_in2 6 (by grind) (by grind) rfl) (aset_32) ?_
                  refine xr_iinc2 (v9 := 5) (c9 := 1) D_Rd_obeyBegin_90 rfl rfl rfl (by decide) ?_
                  refine xr_goto (tgt := 74) D_Rd_obeyBegin_93 rfl ?_
                  refine xr_iload_n D_Rd_obeyBegin_74 rfl rfl ?_
                  refine xr_aload_n D_Rd_obeyBegin_75 rfl rfl ?_
                  refine xr_getf F_Rd_11 D_Rd_obeyBegin_76 rfl rfl ?_
                  refine xr_alen (v := 6) D_Rd_obeyBegin_79 rfl (by simp [xtok]) rfl ?_
                  refine xr_icmp_ge (tgt := 96) D_Rd_obeyBegin_80 rfl (fun c9 => ?_) (fun c9 => ?_)
                  · exact absurd (show (6 : Int32) ≤ (5 : Int32) from c9) (by decide)
                  · refine xr_aload_n D_Rd_obeyBegin_83 rfl rfl ?_
                    refine xr_getf F_Rd_11 D_Rd_obeyBegin_84 rfl rfl ?_
                    refine xr_iload_n D_Rd_obeyBegin_87 rfl rfl ?_
                    refine xr_iconst (v := 0) D_Rd_obeyBegin_88 rfl ?_
                    refine xr_iast D_Rd_obeyBegin_89 rfl (by exact i_in2 6 (by grind) (by grind) rfl) (aset_32) ?_
                    refine xr_iinc2 (v9 := 6) (c9 := 1) D_Rd_obeyBegin_90 rfl rfl rfl (by decide) ?_
                    refine xr_goto (tgt := 74) D_Rd_obeyBegin_93 rfl ?_
                    refine xr_iload_n D_Rd_obeyBegin_74 rfl rfl ?_
                    refine xr_aload_n D_Rd_obeyBegin_75 rfl rfl ?_
                    refine xr_getf F_Rd_11 D_Rd_obeyBegin_76 rfl rfl ?_
                    refine xr_alen (v := 6) D_Rd_obeyBegin_79 rfl (by simp [xtok]) rfl ?_
                    refine xr_icmp_ge (tgt := 96) D_Rd_obeyBegin_80 rfl (fun c10 => ?_) (fun c10 => ?_)
                    · refine xr_iconst (v := 0) D_Rd_obeyBegin_96 rfl ?_
                      refine xr_iret rfl D_Rd_obeyBegin_97 ?_
                      first | exact Or.inl ⟨by grind, rfl⟩ | exact Or.inr (Or.inl ⟨by grind, rfl⟩) | exact Or.inr (Or.inr (⟨by grind, rfl⟩))
                    · exact absurd (show (6 : Int32) ≤ (6 : Int32) by decide) c10
      · exact absurd (show (1 : Int32) = (0 : Int32) from c3) (by decide)
  · refine xr_iconst (v := 5) D_Rd_obeyBegin_24 rfl ?_
    refine xr_iret rfl D_Rd_obeyBegin_25 ?_
    first | exact Or.inl ⟨by grind, rfl⟩ | exact Or.inr (Or.inl ⟨by grind, rfl⟩) | exact Or.inr (Or.inr (⟨by grind, rfl⟩))
