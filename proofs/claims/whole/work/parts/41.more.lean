def ppM (s : Nat → Int32) (d : Int32) : Nat → Nat → (Nat → Int32) → (Nat → Int32)
  | 0, _, f => f
  | t + 1, j, f => ppM s d t (j + 1) (upd f (Int32.ofNat j).toNatClampNeg (s (6 * d + Int32.ofNat j).toNatClampNeg))
def gwF (m : Int32) (f w : Nat → Int32) (i : Int32) : Int32 := if sPart m f i 0 = -1 then 0 else wOf w (sPart m f i 0) (sPart m f i 1)

theorem l_Mo_pop {I : mI} {L : mL} (h0 : 0 ≤ I 3450) (h1 : I 3450 < 100) : ∀ (t j : Nat) (A : mA), j + t = 6 → xr m_Mo_pop none (0, 0) 21 [some (.ref 34), some (.int (Int32.ofNat j))] [] (pic I A L) 0 0 (fun o => o = (.inl (some (.int 0)), pic I (upAf A 60 (ppM (A 59) (I 3450) t j (A 60))) L)) := by
  have e6 : (6 : Int32).toInt = 6 := rfl
  intro t
  induction t with
  | zero =>
    intro j A hj
    refine xr_iload_n D_Mo_pop_21 rfl rfl ?_
    refine xr_bipush (v := 6) D_Mo_pop_22 rfl ?_
    refine xr_icmp_ge (tgt := 53) D_Mo_pop_24 rfl (fun c1 => ?_) (fun c1 => ?_)
    · refine xr_iconst (v := 0) D_Mo_pop_53 rfl ?_
      refine xr_iret rfl D_Mo_pop_54 ?_
      exact congrArg (fun z => ((.inl (some (.int 0)), pic I z L) : xO)) upAf_self.symm
    · exact absurd (i_le.mpr (by rw [i_of (by omega)]; omega)) c1
  | succ t ih =>
    intro j A hj
    have hjl : Int32.ofNat j < 6 := i_lt.mpr (by rw [i_of (by omega)]; omega)
    have hj0 : 0 ≤ Int32.ofNat j := i_le.mpr (by rw [i_of (by omega), z0]; omega)
    refine xr_iload_n D_Mo_pop_21 rfl rfl ?_
    refine xr_bipush (v := 6) D_Mo_pop_22 rfl ?_
    refine xr_icmp_ge (tgt := 53) D_Mo_pop_24 rfl (fun c1 => ?_) (fun c1 => ?_)
    · exact absurd c1 (by grind)
    · refine xr_aload_n D_Mo_pop_27 rfl rfl ?_
      refine xr_getf F_Mo_94 D_Mo_pop_28 rfl rfl ?_
      refine xr_iload_n D_Mo_pop_31 rfl rfl ?_
      refine xr_aload_n D_Mo_pop_32 rfl rfl ?_
      refine xr_getf F_Mo_91 D_Mo_pop_33 rfl rfl ?_
      refine xr_bipush (v := 6) D_Mo_pop_36 rfl ?_
      refine xr_aload_n D_Mo_pop_38 rfl rfl ?_
      refine xr_getf F_Mo_263 D_Mo_pop_39 rfl rfl ?_
      refine xr_imul D_Mo_pop_42 ?_
      refine xr_iload_n D_Mo_pop_43 rfl rfl ?_
      refine xr_iadd D_Mo_pop_44 ?_
      refine xr_iald D_Mo_pop_45 rfl (by exact i_in2 606 (by grind) (by grind) rfl) ?_
      refine xr_iast D_Mo_pop_46 rfl (by exact i_in2 6 (by grind) (by grind) rfl) (aset_60) ?_
      refine xr_iinc (c9 := 1) D_Mo_pop_47 rfl rfl (by decide) ?_
      refine xr_goto (tgt := 21) D_Mo_pop_50 rfl ?_
      rw [io_succ]
      refine xr_mono (ih (j + 1) _ (by omega)) ?_
      rintro _ rfl
      exact congrArg (fun z => ((.inl (some (.int 0)), pic I z L) : xO)) upAf_upA

theorem c_Mo_pop_34 {I : mI} {A : mA} {L : mL}  (h0 : 0 ≤ I 3450) (h1 : I 3450 ≤ 100) : xm m_Mo_pop (0, 0) [.ref 34] (pic I A L) 0 0 (fun o => ((I 3450 = 0) ∧ o = (.inl (some (.int 4)), pic I A L)) ∨ ((¬ I 3450 = 0) ∧ o = (.inl (some (.int 0)), pic (upd I 3450 (I 3450 - 1)) (upAf A 60 (ppM (A 59) (I 3450 - 1) 6 0 (A 60))) L))) := by
  refine xm_of rfl (by decide) (Nat.le_of_ble_eq_true rfl) ?_
  refine xr_aload_n D_Mo_pop_0 rfl rfl ?_
  refine xr_getf F_Mo_263 D_Mo_pop_1 rfl rfl ?_
  refine xr_if_ne (tgt := 9) D_Mo_pop_4 rfl (fun c1 => ?_) (fun c1 => ?_)
  · refine xr_aload_n D_Mo_pop_9 rfl rfl ?_
    refine xr_dup D_Mo_pop_10 rfl ?_
    refine xr_getf F_Mo_263 D_Mo_pop_11 rfl rfl ?_
    refine xr_iconst (v := 1) D_Mo_pop_14 rfl ?_
    refine xr_isub D_Mo_pop_15 ?_
    refine xr_putf F_Mo_263 FT_Mo FN_Mo_50 D_Mo_pop_16 rfl (Nat.le_of_ble_eq_true rfl) rfl rfl (pset_34_50) ?_
    refine xr_iconst (v := 0) D_Mo_pop_19 rfl ?_
    refine xr_istore_n D_Mo_pop_20 rfl (by decide) ?_
    refine xr_mono (l_Mo_pop (I := upd I 3450 (I 3450 - 1)) (show 0 ≤ I 3450 - 1 by grind) (show I 3450 - 1 < 100 by grind) 6 0 A rfl) ?_
    rintro _ rfl
    exact Or.inr ⟨by grind, rfl⟩
  · refine xr_iconst (v := 4) D_Mo_pop_7 rfl ?_
    refine xr_iret rfl D_Mo_pop_8 ?_
    first | exact Or.inl ⟨by grind, rfl⟩ | exact Or.inr (⟨by grind, rfl⟩)

theorem c_Mo_forget_34 {I : mI} {A : mA} {L : mL}   : xm m_Mo_forget (0, 0) [.ref 34] (pic I A L) 0 0 (fun o => o = (.inl none, pic (upd (upd (upd (upd (upd (upd (upd I 3432 0) 3434 0) 3436 0) 3439 0) 3440 0) 3441 0) 3442 0) A L)) := by
  refine xm_of rfl (by decide) (Nat.le_of_ble_eq_true rfl) ?_
  refine xr_aload_n D_Mo_forget_0 rfl rfl ?_
  refine xr_iconst (v := 0) D_Mo_forget_1 rfl ?_
  refine xr_putf F_Mo_279 FT_Mo FN_Mo_32 D_Mo_forget_2 rfl (Nat.le_of_ble_eq_true rfl) rfl rfl (pset_34_32) ?_
  refine xr_aload_n D_Mo_forget_5 rfl rfl ?_
  refine xr_iconst (v := 0) D_Mo_forget_6 rfl ?_
  refine xr_putf F_Mo_257 FT_Mo FN_Mo_34 D_Mo_forget_7 rfl (Nat.le_of_ble_eq_true rfl) rfl rfl (pset_34_34) ?_
  refine xr_aload_n D_Mo_forget_10 rfl rfl ?_
  refine xr_iconst (v := 0) D_Mo_forget_11 rfl ?_
  refine xr_putf F_Mo_238 FT_Mo FN_Mo_36 D_Mo_forget_12 rfl (Nat.le_of_ble_eq_true rfl) rfl rfl (pset_34_36) ?_
  refine xr_aload_n D_Mo_forget_15 rfl rfl ?_
  refine xr_iconst (v := 0) D_Mo_forget_16 rfl ?_
  refine xr_putf F_Mo_267 FT_Mo FN_Mo_39 D_Mo_forget_17 rfl (Nat.le_of_ble_eq_true rfl) rfl rfl (pset_34_39) ?_
  refine xr_aload_n D_Mo_forget_20 rfl rfl ?_
  refine xr_iconst (v := 0) D_Mo_forget_21 rfl ?_
  refine xr_putf F_Mo_270 FT_Mo FN_Mo_40 D_Mo_forget_22 rfl (Nat.le_of_ble_eq_true rfl) rfl rfl (pset_34_40) ?_
  refine xr_aload_n D_Mo_forget_25 rfl rfl ?_
  refine xr_iconst (v := 0) D_Mo_forget_26 rfl ?_
  refine xr_putf F_Mo_273 FT_Mo FN_Mo_41 D_Mo_forget_27 rfl (Nat.le_of_ble_eq_true rfl) rfl rfl (pset_34_41) ?_
  refine xr_aload_n D_Mo_forget_30 rfl rfl ?_
  refine xr_iconst (v := 0) D_Mo_forget_31 rfl ?_
  refine xr_putf F_Mo_292 FT_Mo FN_Mo_42 D_Mo_forget_32 rfl (Nat.le_of_ble_eq_true rfl) rfl rfl (pset_34_42) ?_
  refine xr_vret rfl D_Mo_forget_35 ?_
  exact rfl

theorem c_Wr_growth_13 {I : mI} {A : mA} {L : mL} {i : Int32}  : xm m_Wr_growth (2, 44) [.ref 13, .ref 11, .int i] (pic I A L) 0 0 (fun o => o = (.inl (some (.int (gwF (I 1101) (A 12) (A 2) i))), (pic I A L))) := by
  refine xm_of rfl (by decide) (Nat.le_of_ble_eq_true rfl) ?_
  refine xr_aload_n D_Wr_growth_0 rfl rfl ?_
  refine xr_iload_n D_Wr_growth_1 rfl rfl ?_
  refine xr_cVx (as := [_]) (c_Sh_isRule_11) (L_Wr_122) (CD_Sh_isRule) CI_Sh D_Wr_growth_2 rfl rfl (by decide) (Nat.le_of_ble_eq_true rfl) (Nat.le_of_eq (Nat.zero_add _)) (Nat.le_of_eq (Nat.zero_add _)) pic_len ?_
  rintro _ rfl
  refine ⟨_, _, rfl, rfl, ?_⟩
  refine xr_if_eq (tgt := 12) D_Wr_growth_5 rfl (fun c1 => ?_) (fun c1 => ?_)
  · rw [b2_0] at c1
    refine xr_aload_n D_Wr_growth_12 rfl rfl ?_
    refine xr_getf F_Wr_46 D_Wr_growth_13 rfl rfl ?_
    refine xr_aload_n D_Wr_growth_16 rfl rfl ?_
    refine xr_iload_n D_Wr_growth_17 rfl rfl ?_
    refine xr_cVx (as := [_]) (c_Sh_fontOf_11) (L_Wr_125) (CD_Sh_fontOf) CI_Sh D_Wr_growth_18 rfl rfl (by decide) (Nat.le_of_ble_eq_true rfl) (Nat.le_of_eq (Nat.zero_add _)) (Nat.le_of_eq (Nat.zero_add _)) pic_len ?_
    rintro _ rfl
    refine ⟨_, _, rfl, rfl, ?_⟩
    refine xr_aload_n D_Wr_growth_21 rfl rfl ?_
    refine xr_iload_n D_Wr_growth_22 rfl rfl ?_
    refine xr_cVx (as := [_]) (c_Sh_characterOrWidth_11) (L_Wr_128) (CD_Sh_characterOrWidth) CI_Sh D_Wr_growth_23 rfl rfl (by decide) (Nat.le_of_ble_eq_true rfl) (Nat.le_of_eq (Nat.zero_add _)) (Nat.le_of_eq (Nat.zero_add _)) pic_len ?_
    rintro _ rfl
    refine ⟨_, _, rfl, rfl, ?_⟩
    refine xr_cVx (as := [_, _]) (c_Wi_of_1) (L_Wr_131) (CD_Wi_of) CI_Wi D_Wr_growth_26 rfl rfl (by decide) (Nat.le_of_ble_eq_true rfl) (Nat.le_of_eq (Nat.zero_add _)) (Nat.le_of_eq (Nat.zero_add _)) pic_len ?_
    rintro _ rfl
    refine ⟨_, _, rfl, rfl, ?_⟩
    refine xr_iret rfl D_Wr_growth_29 ?_
    first | exact oi (if_pos (by grind)).symm | exact oi (if_neg (by grind)).symm
  · rw [b2_n] at c1
    refine xr_iconst (v := 0) D_Wr_growth_8 rfl ?_
    refine xr_goto (tgt := 29) D_Wr_growth_9 rfl ?_
    refine xr_iret rfl D_Wr_growth_29 ?_
    first | exact oi (if_pos (by grind)).symm | exact oi (if_neg (by grind)).symm
