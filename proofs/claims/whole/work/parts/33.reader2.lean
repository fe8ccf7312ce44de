abbrev fitL (n : Int64) : Prop := -2147483648 ≤ n.toInt ∧ n.toInt ≤ 2147483647
theorem fit_iff (n : Int64) : n = n.toInt32.toInt64 ↔ fitL n := by
  rw [← Int64.toInt_inj, Int32.toInt_toInt64, Int64.toInt_toInt32]
  constructor
  · intro h
    have h1 := Int.le_bmod (x := n.toInt) (m := 2 ^ 32) (by decide)
    have h2 := Int.bmod_lt (x := n.toInt) (m := 2 ^ 32) (by decide)
    rw [← h] at h1 h2
    omega
  · intro h
    exact (Int.bmod_eq_of_le (by omega) (by omega)).symm
theorem cmp_0 {x y : Int64} : lg_cmp x y = 0 ↔ x = y := by
  unfold lg_cmp
  constructor
  · intro h
    by_cases h1 : x > y
    · rw [if_pos h1] at h; exact absurd h (by decide)
    · rw [if_neg h1] at h
      by_cases h2 : x = y
      · exact h2
      · rw [if_neg h2] at h; exact absurd h (by decide)
  · intro h
    rw [if_neg (by rw [h]; exact Int64.lt_irrefl), if_pos h]
def smG (a b : Int32) : Int64 := a.toInt64 + b.toInt64
def ffR (f : Nat → Int32) (x : Int32) : Nat → Nat → Int32
  | 0, _ => -1
  | t + 1, j => if f (Int32.ofNat j * 5).toNatClampNeg = x then Int32.ofNat j else ffR f x t (j + 1)
theorem ffR_s {f : Nat → Int32} {x : Int32} {t j : Nat} : ffR f x (t + 1) j = if f (Int32.ofNat j * 5).toNatClampNeg = x then Int32.ofNat j else ffR f x t (j + 1) := rfl

theorem c_Dv_isInt {h : List xC} {n : Int64} : xm m_Dv_isInt (0, 0) [.long n] h 0 0 (fun o => o = (.inl (some (.int (b2 (fitL n)))), h)) := by
  refine xm_of rfl (by decide) (Nat.le_of_ble_eq_true rfl) ?_
  refine xr_lload_n D_Dv_isInt_0 rfl rfl ?_
  refine xr_lload_n D_Dv_isInt_1 rfl rfl ?_
  refine xr_l2i D_Dv_isInt_2 ?_
  refine xr_i2l D_Dv_isInt_3 ?_
  refine xr_lcmp D_Dv_isInt_4 ?_
  refine xr_if_ne (tgt := 12) D_Dv_isInt_5 rfl (fun c1 => ?_) (fun c1 => ?_)
  · refine xr_iconst (v := 0) D_Dv_isInt_12 rfl ?_
    refine xr_zret rfl (by first | rfl | exact nar_b2 | exact nar_z hz) D_Dv_isInt_13 ?_
    first | exact ob_t ((fit_iff n).mp (cmp_0.mp c1)) | exact ob_f (fun z => c1 (cmp_0.mpr ((fit_iff n).mpr z)))
  · refine xr_iconst (v := 1) D_Dv_isInt_8 rfl ?_
    refine xr_goto (tgt := 13) D_Dv_isInt_9 rfl ?_
    refine xr_zret rfl (by first | rfl | exact nar_b2 | exact nar_z hz) D_Dv_isInt_13 ?_
    first | exact ob_t ((fit_iff n).mp (cmp_0.mp c1)) | exact ob_f (fun z => c1 (cmp_0.mpr ((fit_iff n).mpr z)))

theorem c_Rd_grow_31 {I : mI} {A : mA} {L : mL} {w : Int32} {b : Int32} (h0 : 0 ≤ w) (h1 : w < 6) : xm m_Rd_grow (1, 21) [.ref 31, .int w, .int b] (pic I A L) 0 0 (fun o => ((¬ fitL (smG (A 32 w.toNatClampNeg) b)) ∧ o = (.inl (some (.int 0)), pic I A L)) ∨ ((fitL (smG (A 32 w.toNatClampNeg) b)) ∧ o = (.inl (some (.int 1)), pic I (upA A 32 w.toNatClampNeg (smG (A 32 w.toNatClampNeg) b).toInt32) L))) := by
  refine xm_of rfl (by decide) (Nat.le_of_ble_eq_true rfl) ?_
  refine xr_iload_n D_Rd_grow_0 rfl rfl ?_
  refine xr_if_lt (tgt := 13) D_Rd_grow_1 rfl (fun c1 => ?_) (fun c1 => ?_)
  · refine xr_iconst (v := 0) D_Rd_grow_13 rfl ?_
    refine xr_zret rfl (by first | rfl | exact nar_b2 | exact nar_z hz) D_Rd_grow_14 ?_
    first | exact Or.inl ⟨by first | exact c3 | grind, rfl⟩ | exact Or.inr ⟨by first | exact c3 | grind, rfl⟩ | (exfalso; grind)
  · refine xr_iload_n D_Rd_grow_4 rfl rfl ?_
    refine xr_aload_n D_Rd_grow_5 rfl rfl ?_
    refine xr_getf F_Rd_11 D_Rd_grow_6 rfl rfl ?_
    refine xr_alen (v := 6) D_Rd_grow_9 rfl (by simp [xtok]) rfl ?_
    refine xr_icmp_lt (tgt := 15) D_Rd_grow_10 rfl (fun c2 => ?_) (fun c2 => ?_)
    · refine xr_aload_n D_Rd_grow_15 rfl rfl ?_
      refine xr_getf F_Rd_11 D_Rd_grow_16 rfl rfl ?_
      refine xr_iload_n D_Rd_grow_19 rfl rfl ?_
      refine xr_iald D_Rd_grow_20 rfl (by exact i_in2 6 (by grind) (by grind) rfl) ?_
      refine xr_i2l D_Rd_grow_21 ?_
      refine xr_iload_n D_Rd_grow_22 rfl rfl ?_
      refine xr_i2l D_Rd_grow_23 ?_
      refine xr_ladd D_Rd_grow_24 ?_
      refine xr_lstore_n D_Rd_grow_25 rfl (by decide) ?_
      refine xr_lload_n D_Rd_grow_26 rfl rfl ?_
      refine xr_cSx (as := [_]) (c_Dv_isInt) (L_Rd_147) (CD_Dv_isInt) D_Rd_grow_27 rfl (by decide) (Nat.le_of_ble_eq_true rfl) (Nat.le_of_eq (Nat.zero_add _)) (Nat.le_of_eq (Nat.zero_add _)) pic_len ?_
      rintro _ rfl
      refine ⟨_, _, rfl, rfl, ?_⟩
      refine xr_if_ne (tgt := 35) D_Rd_grow_30 rfl (fun c3 => ?_) (fun c3 => ?_)
      · rw [b2_n] at c3
        refine xr_aload_n D_Rd_grow_35 rfl rfl ?_
        refine xr_getf F_Rd_11 D_Rd_grow_36 rfl rfl ?_
        refine xr_iload_n D_Rd_grow_39 rfl rfl ?_
        refine xr_lload_n D_Rd_grow_40 rfl rfl ?_
        refine xr_l2i D_Rd_grow_41 ?_
        refine xr_iast D_Rd_grow_42 rfl (by exact i_in2 6 (by grind) (by grind) rfl) (aset_32) ?_
        refine xr_iconst (v := 1) D_Rd_grow_43 rfl ?_
        refine xr_zret rfl (by first | rfl | exact nar_b2 | exact nar_z hz) D_Rd_grow_44 ?_
        first | exact Or.inl ⟨by first | exact c3 | grind, rfl⟩ | exact Or.inr ⟨by first | exact c3 | grind, rfl⟩ | (exfalso; grind)
      · rw [b2_0] at c3
        refine xr_iconst (v := 0) D_Rd_grow_33 rfl ?_
        refine xr_zret rfl (by first | rfl | exact nar_b2 | exact nar_z hz) D_Rd_grow_34 ?_
        first | exact Or.inl ⟨by first | exact c3 | grind, rfl⟩ | exact Or.inr ⟨by first | exact c3 | grind, rfl⟩ | (exfalso; grind)
    · refine xr_iconst (v := 0) D_Rd_grow_13 rfl ?_
      refine xr_zret rfl (by first | rfl | exact nar_b2 | exact nar_z hz) D_Rd_grow_14 ?_
      first | exact Or.inl ⟨by first | exact c3 | grind, rfl⟩ | exact Or.inr ⟨by first | exact c3 | grind, rfl⟩ | (exfalso; grind)

theorem c_Rd_obeyPush_31 {I : mI} {A : mA} {L : mL}   : xm m_Rd_obeyPush (1, 21) [.ref 31] (pic I A L) 0 0 (fun o => ((¬ (0 ≤ I 3105 ∧ I 3105 < 100)) ∧ o = (.inl (some (.int 4)), pic I A L)) ∨ ((0 ≤ I 3105 ∧ I 3105 < 100) ∧ o = (.inl (some (.int 0)), pic (upd (upd I 3105 (I 3105 + 1)) 2411 (if I 2411 < I 3105 + 1 then I 3105 + 1 else I 2411)) (upA (upA (upA (upA (upA (upA A 33 (I 3105 * 6 + 0).toNatClampNeg (A 32 0)) 33 (I 3105 * 6 + 1).toNatClampNeg (A 32 1)) 33 (I 3105 * 6 + 2).toNatClampNeg (A 32 2)) 33 (I 3105 * 6 + 3).toNatClampNeg (A 32 3)) 33 (I 3105 * 6 + 4).toNatClampNeg (A 32 4)) 33 (I 3105 * 6 + 5).toNatClampNeg (A 32 5)) L))) := by
  refine xm_of rfl (by decide) (Nat.le_of_ble_eq_true rfl) ?_
  refine xr_aload_n D_Rd_obeyPush_0 rfl rfl ?_
  refine xr_getf F_Rd_107 D_Rd_obeyPush_1 rfl rfl ?_
  refine xr_if_lt (tgt := 16) D_Rd_obeyPush_4 rfl (fun c1 => ?_) (fun c1 => ?_)
  · refine xr_iconst (v := 4) D_Rd_obeyPush_16 rfl ?_
    refine xr_iret rfl D_Rd_obeyPush_17 ?_
    first | exact Or.inl ⟨by grind, rfl⟩ | exact Or.inr (⟨by grind, rfl⟩)
  · refine xr_aload_n D_Rd_obeyPush_7 rfl rfl ?_
    refine xr_getf F_Rd_107 D_Rd_obeyPush_8 rfl rfl ?_
    refine xr_bipush (v := 100) D_Rd_obeyPush_11 rfl ?_
    refine xr_icmp_lt (tgt := 18) D_Rd_obeyPush_13 rfl (fun c2 => ?_) (fun c2 => ?_)
    · refine xr_iconst (v := 0) D_Rd_obeyPush_18 rfl ?_
      refine xr_istore_n D_Rd_obeyPush_19 rfl (by decide) ?_
      refine xr_iload_n D_Rd_obeyPush_20 rfl rfl ?_
      refine xr_bipush (v := 6) D_Rd_obeyPush_21 rfl ?_
      refine xr_icmp_ge (tgt := 52) D_Rd_obeyPush_23 rfl (fun c3 => ?_) (fun c3 => ?_)
      · exact absurd (show (6 : Int32) ≤ (0 : Int32) from c3) (by decide)
      · refine xr_aload_n D_Rd_obeyPush_26 rfl rfl ?_
        refine xr_getf F_Rd_15 D_Rd_obeyPush_27 rfl rfl ?_
        refine xr_aload_n D_Rd_obeyPush_30 rfl rfl ?_
        refine xr_getf F_Rd_107 D_Rd_obeyPush_31 rfl rfl ?_
        refine xr_bipush (v := 6) D_Rd_obeyPush_34 rfl ?_
        refine xr_imul D_Rd_obeyPush_36 ?_
        refine xr_iload_n D_Rd_obeyPush_37 rfl rfl ?_
        refine xr_iadd D_Rd_obeyPush_38 ?_
        refine xr_aload_n D_Rd_obeyPush_39 rfl rfl ?_
        refine xr_getf F_Rd_11 D_Rd_obeyPush_40 rfl rfl ?_
        refine xr_iload_n D_Rd_obeyPush_43 rfl rfl ?_
        refine xr_iald D_Rd_obeyPush_44 rfl (by exact i_in2 6 (by grind) (by grind) rfl) ?_
        refine xr_iast D_Rd_obeyPush_45 rfl (by exact i_in2 600 (by grind) (by grind) rfl) (aset_33) ?_
        refine xr_iinc2 (v9 := 1) (c9 := 1) D_Rd_obeyPush_46 rfl rfl rfl (by decide) ?_
        refine xr_goto (tgt := 20) D_Rd_obeyPush_49 rfl ?_
        refine xr_iload_n D_Rd_obeyPush_20 rfl rfl ?_
        refine xr_bipush (v := 6) D_Rd_obeyPush_21 rfl ?_
        refine xr_icmp_ge (tgt := 52) D_Rd_obeyPush_23 rfl (fun c4 => ?_) (fun c4 => ?_)
        · exact absurd (show (6 : Int32) ≤ (1 : Int32) from c4) (by decide)
        · refine xr_aload_n D_Rd_obeyPush_26 rfl rfl ?_
          refine xr_getf F_Rd_15 D_Rd_obeyPush_27 rfl rfl ?_
          refine xr_aload_n D_Rd_obeyPush_30 rfl rfl ?_
          refine xr_getf F_Rd_107 D_Rd_obeyPush_31 rfl rfl ?_
          refine xr_bipush (v := 6) D_Rd_obeyPush_34 rfl ?_
          refine xr_imul D_Rd_obeyPush_36 ?_
          refine xr_iload_n D_Rd_obeyPush_37 rfl rfl ?_
          refine xr_iadd D_Rd_obeyPush_38 ?_
          refine xr_aload_n D_Rd_obeyPush_39 rfl rfl ?_
          refine xr_getf F_Rd_11 D_Rd_obeyPush_40 rfl rfl ?_
          refine xr_iload_n D_Rd_obeyPush_43 rfl rfl ?_
          refine xr_iald D_Rd_obeyPush_44 rfl (by exact i_in2 6 (by grind) (by grind) rfl) ?_
          refine xr_iast D_Rd_obeyPush_45 rfl (by exact i_in2 600 (by grind) (by grind) rfl) (aset_33) ?_
          refine xr_iinc2 (v9 := 2) (c9 := 1) D_Rd_obeyPush_46 rfl rfl rfl (by decide) ?_
          refine xr_goto (tgt := 20) D_Rd_obeyPush_49 rfl ?_
          refine xr_iload_n D_Rd_obeyPush_20 rfl rfl ?_
          refine xr_bipush (v := 6) D_Rd_obeyPush_21 rfl ?_
          refine xr_icmp_ge (tgt := 52) D_Rd_obeyPush_23 rfl (fun c5 => ?_) (fun c5 => ?_)
          · exact absurd (show (6 : Int32) ≤ (2 : Int32) from c5) (by decide)
          · refine xr_aload_n D_Rd_obeyPush_26 rfl rfl ?_
            refine xr_getf F_Rd_15 D_Rd_obeyPush_27 rfl rfl ?_
            refine xr_aload_n D_Rd_obeyPush_30 rfl rfl ?_
            refine xr_getf F_Rd_107 D_Rd_obeyPush_31 rfl rfl ?_
            refine xr_bipush (v := 6) D_Rd_obeyPush_34 rfl ?_
            refine xr_imul D_Rd_obeyPush_36 ?_
            refine xr_iload_n D_Rd_obeyPush_37 rfl rfl ?_
            refine xr_iadd D_Rd_obeyPush_38 ?_
            refine xr_aload_n D_Rd_obeyPush_39 rfl rfl ?_
            refine xr_getf F_Rd_11 D_Rd_obeyPush_40 rfl rfl ?_
            refine xr_iload_n D_Rd_obeyPush_43 rfl rfl ?_
            refine xr_iald D_Rd_obeyPush_44 rfl (by exact i_in2 6 (by grind) (by grind) rfl) ?_
            refine xr_iast D_Rd_obeyPush_45 rfl (by exact i_in2 600 (by grind) (by grind) rfl) (aset_33) ?_
            refine xr_iinc2 (v9 := 3) (c9 := 1) D_Rd_obeyPush_46 rfl rfl rfl (by decide) ?_
            refine xr_goto (tgt := 20) D_Rd_obeyPush_49 rfl ?_
            refine xr_iload_n D_Rd_obeyPush_20 rfl rfl ?_
            refine xr_bipush (v := 6) D_Rd_obeyPush_21 rfl ?_
            refine xr_icmp_ge (tgt := 52) D_Rd_obeyPush_23 rfl (fun c6 => ?_) (fun c6 => ?_)
            · exact absurd (show (6 : Int32) ≤ (3 : Int32) from c6) (by decide)
            · refine xr_aload_n D_Rd_obeyPush_26 rfl rfl ?_
              refine xr_getf F_Rd_15 D_Rd_obeyPush_27 rfl rfl ?_
              refine xr_aload_n D_Rd_obeyPush_30 rfl rfl ?_
              refine xr_getf F_Rd_107 D_Rd_obeyPush_31 rfl rfl ?_
              refine xr_bipush (v := 6) D_Rd_obeyPush_34 rfl ?_
              refine xr_imul D_Rd_obeyPush_36 ?_
              refine xr_iload_n D_Rd_obeyPush_37 rfl rfl ?_
              refine xr_iadd D_Rd_obeyPush_38 ?_
              refine xr_aload_n D_Rd_obeyPush_39 rfl rfl ?_
              refine xr_getf F_Rd_11 D_Rd_obeyPush_40 rfl rfl ?_
              refine xr_iload_n D_Rd_obeyPush_43 rfl rfl ?_
              refine xr_iald D_Rd_obeyPush_44 rfl (by exact i_in2 6 (by grind) (by grind) rfl) ?_
              refine xr_iast D_Rd_obeyPush_45 rfl (by exact i_in2 600 (by grind) (by grind) rfl) (aset_33) ?_
              refine xr_iinc2 (v9 := 4) (c9 := 1) D_Rd_obeyPush_46 rfl rfl rfl (by decide) ?_
              refine xr_goto (tgt := 20) D_Rd_obeyPush_49 rfl ?_
              refine xr_iload_n D_Rd_obeyPush_20 rfl rfl ?_
              refine xr_bipush (v := 6) D_Rd_obeyPush_21 rfl ?_
              refine xr_icmp_ge (tgt := 52) D_Rd_obeyPush_23 rfl (fun c7 => ?_) (fun c7 => ?_)
              · exact absurd (show (6 : Int32) ≤ (4 : Int32) from c7) (by decide)
              · refine xr_aload_n D_Rd_obeyPush_26 rfl rfl ?_
                refine xr_getf F_Rd_15 D_Rd_obeyPush_27 rfl rfl ?_
                refine xr_aload_n D_Rd_obeyPush_30 rfl rfl ?_
                refine xr_getf F_Rd_107 D_Rd_obeyPush_31 rfl rfl ?_
                refine xr_bipush (v := 6) D_Rd_obeyPush_34 rfl ?_
                refine xr_imul D_Rd_obeyPush_36 ?_
                refine xr_iload_n D_Rd_obeyPush_37 rfl rfl ?_
                refine xr_iadd D_Rd_obeyPush_38 ?_
                refine xr_aload_n D_Rd_obeyPush_39 rfl rfl ?_
                refine xr_getf F_Rd_11 D_Rd_obeyPush_40 rfl rfl ?_
                refine xr_iload_n D_Rd_obeyPush_43 rfl rfl ?_
                refine xr_iald D_Rd_obeyPush_44 rfl (by exact i_in2 6 (by grind) (by grind) rfl) ?_
                refine xr_iast D_Rd_obeyPush_45 rfl (by exact i_in2 600 (by grind) (by grind) rfl) (aset_33) ?_
                refine xr_iinc2 (v9 := 5) (c9 := 1) D_Rd_obeyPush_46 rfl rfl rfl (by decide) ?_
                refine xr_goto (tgt := 20) D_Rd_obeyPush_49 rfl ?_
                refine xr_iload_n D_Rd_obeyPush_20 rfl rfl ?_
                refine xr_bipush (v := 6) D_Rd_obeyPush_21 rfl ?_
                refine xr_icmp_ge (tgt := 52) D_Rd_obeyPush_23 rfl (fun c8 => ?_) (fun c8 => ?_)
                · exact absurd (show (6 : Int32) ≤ (5 : Int32) from c8) (by decide)
                · refine xr_aload_n D_Rd_obeyPush_26 rfl rfl ?_
                  refine xr_getf F_Rd_15 D_Rd_obeyPush_27 rfl rfl ?_
                  refine xr_aload_n D_Rd_obeyPush_30 rfl rfl ?_
                  refine xr_getf F_Rd_107 D_Rd_obeyPush_31 rfl rfl ?_
                  refine xr_bipush (v := 6) D_Rd_obeyPush_34 rfl ?_
                  refine xr_imul D_Rd_obeyPush_36 ?_
                  refine xr_iload_n D_Rd_obeyPush_37 rfl rfl ?_
                  refine xr_iadd D_Rd_obeyPush_38 ?_
                  refine xr_aload_n D_Rd_obeyPush_39 rfl rfl ?_
                  refine xr_getf F_Rd_11 D_Rd_obeyPush_40 rfl rfl ?_
                  refine xr_iload_n D_Rd_obeyPush_43 rfl rfl ?_
                  refine xr_iald D_Rd_obeyPush_44 rfl (by exact i_in2 6 (by grind) (by grind) rfl) ?_
                  refine xr_iast D_Rd_obeyPush_45 rfl (by exact i_in2 600 (by grind) (by grind) rfl) (aset_33) ?_
                  refine xr_iinc2 (v9 := 6) (c9 := 1) D_Rd_obeyPush_46 rfl rfl rfl (by decide) ?_
                  refine xr_goto (tgt := 20) D_Rd_obeyPush_49 rfl ?_
                  refine xr_iload_n D_Rd_obeyPush_20 rfl rfl ?_
                  refine xr_bipush (v := 6) D_Rd_obeyPush_21 rfl ?_
                  refine xr_icmp_ge (tgt := 52) D_Rd_obeyPush_23 rfl (fun c9 => ?_) (fun c9 => ?_)
                  · refine xr_aload_n D_Rd_obeyPush_52 rfl rfl ?_
                    refine xr_dup D_Rd_obeyPush_53 rfl ?_
                    refine xr_getf F_Rd_107 D_Rd_obeyPush_54 rfl rfl ?_
                    refine xr_iconst (v := 1) D_Rd_obeyPush_57 rfl ?_
                    refine xr_iadd D_Rd_obeyPush_58 ?_
                    refine xr_putf F_Rd_107 FT_Rd FN_Rd_5 D_Rd_obeyPush_59 rfl (Nat.le_of_ble_eq_true rfl) rfl rfl (pset_31_5) ?_
                    refine xr_aload_n D_Rd_obeyPush_62 rfl rfl ?_
                    refine xr_getf F_Rd_26 D_Rd_obeyPush_63 rfl rfl ?_
                    refine xr_aload_n D_Rd_obeyPush_66 rfl rfl ?_
                    refine xr_getf F_Rd_26 D_Rd_obeyPush_67 rfl rfl ?_
                    refine xr_getf F_Rd_168 D_Rd_obeyPush_70 rfl rfl ?_
                    refine xr_aload_n D_Rd_obeyPush_73 rfl rfl ?_
                    refine xr_getf F_Rd_107 D_Rd_obeyPush_74 rfl rfl ?_
                    refine xr_mmax D_Rd_obeyPush_77 M_Rd_171 (by decide) (Nat.le_of_ble_eq_true rfl) ?_
                    refine xr_putf F_Rd_168 FT_Rg FN_Rg_11 D_Rd_obeyPush_80 rfl (Nat.le_of_ble_eq_true rfl) rfl rfl (pset_24_11) ?_
                    refine xr_iconst (v := 0) D_Rd_obeyPush_83 rfl ?_
                    refine xr_iret rfl D_Rd_obeyPush_84 ?_
                    first | exact Or.inl ⟨by grind, rfl⟩ | exact Or.inr (⟨by grind, rfl⟩)
                  · exact absurd (show (6 : Int32) ≤ (6 : Int32) by decide) c9
    · refine xr_iconst (v := 4) D_Rd_obeyPush_16 rfl ?_
      refine xr_iret rfl D_Rd_obeyPush_17 ?_
      first | exact Or.inl ⟨by grind, rfl⟩ | exact Or.inr (⟨by grind, rfl⟩)

def ppF (s : Nat → Int32) (d : Int32) : Nat → Nat → (Nat → Int32) → (Nat → Int32)
  | 0, _, f => f
  | t + 1, j, f => ppF s d t (j + 1) (upd f (Int32.ofNat j).toNatClampNeg (s (d * 6 + Int32.ofNat j).toNatClampNeg))
def pgF (g : Int32 → Int32) (p b : Int32) : Nat → Nat → (Nat → Int32) → (Nat → Int32)
  | 0, _, f => f
  | t + 1, j, f => pgF g p b t (j + 1) (upd f (b * 10 + Int32.ofNat j).toNatClampNeg (nrd g (p + 4 * Int32.ofNat j) 4))

theorem l_Rd_pop {I : mI} {L : mL} (h0 : 0 ≤ I 3105) (h1 : I 3105 < 100) : ∀ (t j : Nat) (A : mA), j + t = 6 → xr m_Rd_obeyPop none (0, 0) 31 [some (.ref 31), some (.int (Int32.ofNat j))] [] (pic I A L) 0 0 (fun o => o = (.inl (some (.int 0)), pic I (upAf A 32 (ppF (A 33) (I 3105) t j (A 32))) L)) := by
  have e6 : (6 : Int32).toInt = 6 := rfl
  intro t
  induction t with
  | zero =>
    intro j A hj
    refine xr_iload_n D_Rd_obeyPop_31 rfl rfl ?_
    refine xr_bipush (v := 6) D_Rd_obeyPop_32 rfl ?_
    refine xr_icmp_ge (tgt := 63) D_Rd_obeyPop_34 rfl (fun c1 => ?_) (fun c1 => ?_)
    · refine xr_iconst (v := 0) D_Rd_obeyPop_63 rfl ?_
      refine xr_iret rfl D_Rd_obeyPop_64 ?_
      exact congrArg (fun z => ((.inl (some (.int 0)), pic I z L) : xO)) upAf_self.symm
    · exact absurd (i_le.mpr (by rw [i_of (by omega)]; omega)) c1
  | succ t ih =>
    intro j A hj
    have hjl : Int32.ofNat j < 6 := i_lt.mpr (by rw [i_of (by omega)]; omega)
    have hj0 : 0 ≤ Int32.ofNat j := i_le.mpr (by rw [i_of (by omega), z0]; omega)
    refine xr_iload_n D_Rd_obeyPop_31 rfl rfl ?_
    refine xr_bipush (v := 6) D_Rd_obeyPop_32 rfl ?_
    refine xr_icmp_ge (tgt := 63) D_Rd_obeyPop_34 rfl (fun c1 => ?_) (fun c1 => ?_)
    · exact absurd c1 (by grind)
    · refine xr_aload_n D_Rd_obeyPop_37 rfl rfl ?_
      refine xr_getf F_Rd_11 D_Rd_obeyPop_38 rfl rfl ?_
      refine xr_iload_n D_Rd_obeyPop_41 rfl rfl ?_
      refine xr_aload_n D_Rd_obeyPop_42 rfl rfl ?_
      refine xr_getf F_Rd_15 D_Rd_obeyPop_43 rfl rfl ?_
      refine xr_aload_n D_Rd_obeyPop_46 rfl rfl ?_
      refine xr_getf F_Rd_107 D_Rd_obeyPop_47 rfl rfl ?_
      refine xr_bipush (v := 6) D_Rd_obeyPop_50 rfl ?_
      refine xr_imul D_Rd_obeyPop_52 ?_
      refine xr_iload_n D_Rd_obeyPop_53 rfl rfl ?_
      refine xr_iadd D_Rd_obeyPop_54 ?_
      refine xr_iald D_Rd_obeyPop_55 rfl (by exact i_in2 600 (by grind) (by grind) rfl) ?_
      refine xr_iast D_Rd_obeyPop_56 rfl (by exact i_in2 6 (by grind) (by grind) rfl) (aset_32) ?_
      refine xr_iinc (c9 := 1) D_Rd_obeyPop_57 rfl rfl (by decide) ?_
      refine xr_goto (tgt := 31) D_Rd_obeyPop_60 rfl ?_
      rw [io_succ]
      refine xr_mono (ih (j + 1) _ (by omega)) ?_
      rintro _ rfl
      exact congrArg (fun z => ((.inl (some (.int 0)), pic I z L) : xO)) upAf_upA

theorem c_Rd_obeyPop_31 {I : mI} {A : mA} {L : mL}   : xm m_Rd_obeyPop (0, 0) [.ref 31] (pic I A L) 0 0 (fun o => ((¬ (1 ≤ I 3105 ∧ I 3105 ≤ 100)) ∧ o = (.inl (some (.int 4)), pic I A L)) ∨ ((1 ≤ I 3105 ∧ I 3105 ≤ 100) ∧ o = (.inl (some (.int 0)), pic (upd I 3105 (I 3105 - 1)) (upAf A 32 (ppF (A 33) (I 3105 - 1) 6 0 (A 32))) L))) := by
  refine xm_of rfl (by decide) (Nat.le_of_ble_eq_true rfl) ?_
  refine xr_aload_n D_Rd_obeyPop_0 rfl rfl ?_
  refine xr_getf F_Rd_107 D_Rd_obeyPop_1 rfl rfl ?_
  refine xr_iconst (v := 1) D_Rd_obeyPop_4 rfl ?_
  refine xr_icmp_lt (tgt := 17) D_Rd_obeyPop_5 rfl (fun c1 => ?_) (fun c1 => ?_)
  · refine xr_iconst (v := 4) D_Rd_obeyPop_17 rfl ?_
    refine xr_iret rfl D_Rd_obeyPop_18 ?_
    first | exact Or.inl ⟨by grind, rfl⟩ | exact Or.inr (⟨by grind, rfl⟩)
  · refine xr_aload_n D_Rd_obeyPop_8 rfl rfl ?_
    refine xr_getf F_Rd_107 D_Rd_obeyPop_9 rfl rfl ?_
    refine xr_bipush (v := 100) D_Rd_obeyPop_12 rfl ?_
    refine xr_icmp_le (tgt := 19) D_Rd_obeyPop_14 rfl (fun c2 => ?_) (fun c2 => ?_)
    · refine xr_aload_n D_Rd_obeyPop_19 rfl rfl ?_
      refine xr_dup D_Rd_obeyPop_20 rfl ?_
      refine xr_getf F_Rd_107 D_Rd_obeyPop_21 rfl rfl ?_
      refine xr_iconst (v := 1) D_Rd_obeyPop_24 rfl ?_
      refine xr_isub D_Rd_obeyPop_25 ?_
      refine xr_putf F_Rd_107 FT_Rd FN_Rd_5 D_Rd_obeyPop_26 rfl (Nat.le_of_ble_eq_true rfl) rfl rfl (pset_31_5) ?_
      refine xr_iconst (v := 0) D_Rd_obeyPop_29 rfl ?_
      refine xr_istore_n D_Rd_obeyPop_30 rfl (by decide) ?_
      refine xr_mono (l_Rd_pop (I := upd I 3105 (I 3105 - 1)) (show 0 ≤ I 3105 - 1 by grind) (show I 3105 - 1 < 100 by grind) 6 0 A rfl) ?_
      rintro _ rfl
      exact Or.inr ⟨by grind, rfl⟩
    · refine xr_iconst (v := 4) D_Rd_obeyPop_17 rfl ?_
      refine xr_iret rfl D_Rd_obeyPop_18 ?_
      first | exact Or.inl ⟨by grind, rfl⟩ | exact Or.inr (⟨by grind, rfl⟩)

theorem l_Rg_ff {I : mI} {A : mA} {L : mL} {x : Int32} (hm : I 2407 ≤ 256) : ∀ (t j : Nat), (j : Int) + t = (I 2407).toInt → xr m_Rg_findFont none (0, 0) 2 [some (.ref 24), some (.int x), some (.int (Int32.ofNat j))] [] (pic I A L) 0 0 (fun o => o = (.inl (some (.int (ffR (A 27) x t j))), pic I A L)) := by
  have hm9 := i_le.mp hm
  have e256 : (256 : Int32).toInt = 256 := rfl
  intro t
  induction t with
  | zero =>
    intro j hj
    refine xr_iload_n D_Rg_findFont_2 rfl rfl ?_
    refine xr_aload_n D_Rg_findFont_3 rfl rfl ?_
    refine xr_getf F_Rg_42 D_Rg_findFont_4 rfl rfl ?_
    refine xr_icmp_ge (tgt := 37) D_Rg_findFont_7 rfl (fun c1 => ?_) (fun c1 => ?_)
    · refine xr_iconst (v := (-1)) D_Rg_findFont_37 rfl ?_
      refine xr_iret rfl D_Rg_findFont_38 ?_
      exact rfl
    · exact absurd (i_le.mpr (by rw [i_of (by omega)]; omega)) c1
  | succ t ih =>
    intro j hj
    have hjl : Int32.ofNat j < 256 := i_lt.mpr (by rw [i_of (by omega)]; omega)
    have hj0 : 0 ≤ Int32.ofNat j := i_le.mpr (by rw [i_of (by omega), z0]; omega)
    refine xr_iload_n D_Rg_findFont_2 rfl rfl ?_
    refine xr_aload_n D_Rg_findFont_3 rfl rfl ?_
    refine xr_getf F_Rg_42 D_Rg_findFont_4 rfl rfl ?_
    refine xr_icmp_ge (tgt := 37) D_Rg_findFont_7 rfl (fun c1 => ?_) (fun c1 => ?_)
    · exact absurd c1 (fun q => by rw [i_le, i_of (by omega)] at q; omega)
    · refine xr_iload_n D_Rg_findFont_10 rfl rfl ?_
      refine xr_sipush (v := 256) D_Rg_findFont_11 rfl ?_
      refine xr_icmp_ge (tgt := 37) D_Rg_findFont_14 rfl (fun c2 => ?_) (fun c2 => ?_)
      · exact absurd c2 (by grind)
      · refine xr_aload_n D_Rg_findFont_17 rfl rfl ?_
        refine xr_getf F_Rg_18 D_Rg_findFont_18 rfl rfl ?_
        refine xr_iload_n D_Rg_findFont_21 rfl rfl ?_
        refine xr_iconst (v := 5) D_Rg_findFont_22 rfl ?_
        refine xr_imul D_Rg_findFont_23 ?_
        refine xr_iald D_Rg_findFont_24 rfl (by exact i_in2 1280 (by grind) (by grind) rfl) ?_
        refine xr_iload_n D_Rg_findFont_25 rfl rfl ?_
        refine xr_icmp_ne (tgt := 31) D_Rg_findFont_26 rfl (fun c3 => ?_) (fun c3 => ?_)
        · refine xr_iinc (c9 := 1) D_Rg_findFont_31 rfl rfl (by decide) ?_
          refine xr_goto (tgt := 2) D_Rg_findFont_34 rfl ?_
          rw [io_succ]
          refine xr_mono (ih (j + 1) (by omega)) ?_
          rintro _ rfl
          exact oi (by rw [ffR_s, if_neg c3])
        · refine xr_iload_n D_Rg_findFont_29 rfl rfl ?_
          refine xr_iret rfl D_Rg_findFont_30 ?_
          exact oi (by rw [ffR_s, if_pos c3])

theorem c_Rg_findFont_24 {I : mI} {A : mA} {L : mL} {x : Int32} (h0 : 0 ≤ I 2407) (hm : I 2407 ≤ 256) : xm m_Rg_findFont (0, 0) [.ref 24, .int x] (pic I A L) 0 0 (fun o => o = (.inl (some (.int (ffR (A 27) x (I 2407).toInt.toNat 0))), pic I A L)) := by
  refine xm_of rfl (by decide) (Nat.le_of_ble_eq_true rfl) ?_
  refine xr_iconst (v := 0) D_Rg_findFont_0 rfl ?_
  refine xr_istore_n D_Rg_findFont_1 rfl (by decide) ?_
  have g0 := i_le.mp h0
  rw [z0] at g0
  exact l_Rg_ff hm (I 2407).toInt.toNat 0 (by omega)

theorem c_Rg_addMark_24 {I : mI} {A : mA} {L : mL} {f : Int32} {c : Int32} {x : Int32} {y : Int32} {h : Int32}  : xm m_Rg_addMark (0, 0) [.ref 24, .int f, .int c, .int x, .int y, .int h] (pic I A L) 0 0 (fun o => ((¬ (0 ≤ I 2405 ∧ I 2405 < 2000)) ∧ o = (.inl (some (.int 0)), pic I A L)) ∨ ((0 ≤ I 2405 ∧ I 2405 < 2000) ∧ o = (.inl (some (.int 1)), pic (upd I 2405 (I 2405 + 1)) (upA (upA (upA (upA (upA (upA A 25 (I 2405 * 6).toNatClampNeg (I 2406 - 1)) 25 (I 2405 * 6 + 1).toNatClampNeg (f)) 25 (I 2405 * 6 + 2).toNatClampNeg (c)) 25 (I 2405 * 6 + 3).toNatClampNeg (x)) 25 (I 2405 * 6 + 4).toNatClampNeg (y)) 25 (I 2405 * 6 + 5).toNatClampNeg (h)) L))) := by
  refine xm_of rfl (by decide) (Nat.le_of_ble_eq_true rfl) ?_
  refine xr_aload_n D_Rg_addMark_0 rfl rfl ?_
  refine xr_getf F_Rg_35 D_Rg_addMark_1 rfl rfl ?_
  refine xr_if_lt (tgt := 17) D_Rg_addMark_4 rfl (fun c1 => ?_) (fun c1 => ?_)
  · refine xr_iconst (v := 0) D_Rg_addMark_17 rfl ?_
    refine xr_zret rfl (by first | rfl | exact nar_b2 | exact nar_z hz) D_Rg_addMark_18 ?_
    first | exact Or.inl ⟨by grind, rfl⟩ | exact Or.inr (⟨by grind, rfl⟩)
  · refine xr_aload_n D_Rg_addMark_7 rfl rfl ?_
    refine xr_getf F_Rg_35 D_Rg_addMark_8 rfl rfl ?_
    refine xr_sipush (v := 2000) D_Rg_addMark_11 rfl ?_
    refine xr_icmp_lt (tgt := 19) D_Rg_addMark_14 rfl (fun c2 => ?_) (fun c2 => ?_)
    · refine xr_aload_n D_Rg_addMark_19 rfl rfl ?_
      refine xr_getf F_Rg_35 D_Rg_addMark_20 rfl rfl ?_
      refine xr_bipush (v := 6) D_Rg_addMark_23 rfl ?_
      refine xr_imul D_Rg_addMark_25 ?_
      refine xr_istore D_Rg_addMark_26 (by decide) ?_
      refine xr_aload_n D_Rg_addMark_28 rfl rfl ?_
      refine xr_getf F_Rg_11 D_Rg_addMark_29 rfl rfl ?_
      refine xr_iload D_Rg_addMark_32 rfl ?_
      refine xr_aload_n D_Rg_addMark_34 rfl rfl ?_
      refine xr_getf F_Rg_39 D_Rg_addMark_35 rfl rfl ?_
      refine xr_iconst (v := 1) D_Rg_addMark_38 rfl ?_
      refine xr_isub D_Rg_addMark_39 ?_
      refine xr_iast D_Rg_addMark_40 rfl (by exact i_in2 12000 (by grind) (by grind) rfl) (aset_25) ?_
      refine xr_aload_n D_Rg_addMark_41 rfl rfl ?_
      refine xr_getf F_Rg_11 D_Rg_addMark_42 rfl rfl ?_
      refine xr_iload D_Rg_addMark_45 rfl ?_
      refine xr_iconst (v := 1) D_Rg_addMark_47 rfl ?_
      refine xr_iadd D_Rg_addMark_48 ?_
      refine xr_iload_n D_Rg_addMark_49 rfl rfl ?_
      refine xr_iast D_Rg_addMark_50 rfl (by exact i_in2 12000 (by grind) (by grind) rfl) (aset_25) ?_
      refine xr_aload_n D_Rg_addMark_51 rfl rfl ?_
      refine xr_getf F_Rg_11 D_Rg_addMark_52 rfl rfl ?_
      refine xr_iload D_Rg_addMark_55 rfl ?_
      refine xr_iconst (v := 2) D_Rg_addMark_57 rfl ?_
      refine xr_iadd D_Rg_addMark_58 ?_
      refine xr_iload_n D_Rg_addMark_59 rfl rfl ?_
      refine xr_iast D_Rg_addMark_60 rfl (by exact i_in2 12000 (by grind) (by grind) rfl) (aset_25) ?_
      refine xr_aload_n D_Rg_addMark_61 rfl rfl ?_
      refine xr_getf F_Rg_11 D_Rg_addMark_62 rfl rfl ?_
      refine xr_iload D_Rg_addMark_65 rfl ?_
      refine xr_iconst (v := 3) D_Rg_addMark_67 rfl ?_
      refine xr_iadd D_Rg_addMark_68 ?_
      refine xr_iload_n D_Rg_addMark_69 rfl rfl ?_
      refine xr_iast D_Rg_addMark_70 rfl (by exact i_in2 12000 (by grind) (by grind) rfl) (aset_25) ?_
      refine xr_aload_n D_Rg_addMark_71 rfl rfl ?_
      refine xr_getf F_Rg_11 D_Rg_addMark_72 rfl rfl ?_
      refine xr_iload D_Rg_addMark_75 rfl ?_
      refine xr_iconst (v := 4) D_Rg_addMark_77 rfl ?_
      refine xr_iadd D_Rg_addMark_78 ?_
      refine xr_iload D_Rg_addMark_79 rfl ?_
      refine xr_iast D_Rg_addMark_81 rfl (by exact i_in2 12000 (by grind) (by grind) rfl) (aset_25) ?_
      refine xr_aload_n D_Rg_addMark_82 rfl rfl ?_
      refine xr_getf F_Rg_11 D_Rg_addMark_83 rfl rfl ?_
      refine xr_iload D_Rg_addMark_86 rfl ?_
      refine xr_iconst (v := 5) D_Rg_addMark_88 rfl ?_
      refine xr_iadd D_Rg_addMark_89 ?_
      refine xr_iload D_Rg_addMark_90 rfl ?_
      refine xr_iast D_Rg_addMark_92 rfl (by exact i_in2 12000 (by grind) (by grind) rfl) (aset_25) ?_
      refine xr_aload_n D_Rg_addMark_93 rfl rfl ?_
      refine xr_dup D_Rg_addMark_94 rfl ?_
      refine xr_getf F_Rg_35 D_Rg_addMark_95 rfl rfl ?_
      refine xr_iconst (v := 1) D_Rg_addMark_98 rfl ?_
      refine xr_iadd D_Rg_addMark_99 ?_
      refine xr_putf F_Rg_35 FT_Rg FN_Rg_5 D_Rg_addMark_100 rfl (Nat.le_of_ble_eq_true rfl) rfl rfl (pset_24_5) ?_
      refine xr_iconst (v := 1) D_Rg_addMark_103 rfl ?_
      refine xr_zret rfl (by first | rfl | exact nar_b2 | exact nar_z hz) D_Rg_addMark_104 ?_
      first | exact Or.inl ⟨by grind, rfl⟩ | exact Or.inr (⟨by grind, rfl⟩)
    · refine xr_iconst (v := 0) D_Rg_addMark_17 rfl ?_
      refine xr_zret rfl (by first | rfl | exact nar_b2 | exact nar_z hz) D_Rg_addMark_18 ?_
      first | exact Or.inl ⟨by grind, rfl⟩ | exact Or.inr (⟨by grind, rfl⟩)

theorem l_Rg_ap {I : mI} {L : mL} {p : Int32} (h0 : 0 ≤ I 2406) (h1 : I 2406 < 1300) : ∀ (t j : Nat) (A : mA), j + t = 10 → xr m_Rg_addPage none (2, 45) 21 [some (.ref 24), some (.ref 22), some (.int p), some (.int (Int32.ofNat j))] [] (pic I A L) 0 0 (fun o => o = (.inl (some (.int 1)), pic (upd I 2406 (I 2406 + 1)) (upAf A 26 (pgF (gat (I 2201) (A 23)) p (I 2406) t j (A 26))) L)) := by
  have e10 : (10 : Int32).toInt = 10 := rfl
  intro t
  induction t with
  | zero =>
    intro j A hj
    refine xr_iload_n D_Rg_addPage_21 rfl rfl ?_
    refine xr_bipush (v := 10) D_Rg_addPage_22 rfl ?_
    refine xr_icmp_ge (tgt := 57) D_Rg_addPage_24 rfl (fun c1 => ?_) (fun c1 => ?_)
    · refine xr_aload_n D_Rg_addPage_57 rfl rfl ?_
      refine xr_dup D_Rg_addPage_58 rfl ?_
      refine xr_getf F_Rg_39 D_Rg_addPage_59 rfl rfl ?_
      refine xr_iconst (v := 1) D_Rg_addPage_62 rfl ?_
      refine xr_iadd D_Rg_addPage_63 ?_
      refine xr_putf F_Rg_39 FT_Rg FN_Rg_6 D_Rg_addPage_64 rfl (Nat.le_of_ble_eq_true rfl) rfl rfl (pset_24_6) ?_
      refine xr_iconst (v := 1) D_Rg_addPage_67 rfl ?_
      refine xr_zret rfl (by first | rfl | exact nar_b2 | exact nar_z hz) D_Rg_addPage_68 ?_
      exact congrArg (fun z => ((.inl (some (.int 1)), pic (upd I 2406 (I 2406 + 1)) z L) : xO)) upAf_self.symm
    · exact absurd (i_le.mpr (by rw [i_of (by omega)]; omega)) c1
  | succ t ih =>
    intro j A hj
    have hjl : Int32.ofNat j < 10 := i_lt.mpr (by rw [i_of (by omega)]; omega)
    have hj0 : 0 ≤ Int32.ofNat j := i_le.mpr (by rw [i_of (by omega), z0]; omega)
    refine xr_iload_n D_Rg_addPage_21 rfl rfl ?_
    refine xr_bipush (v := 10) D_Rg_addPage_22 rfl ?_
    refine xr_icmp_ge (tgt := 57) D_Rg_addPage_24 rfl (fun c1 => ?_) (fun c1 => ?_)
    · exact absurd c1 (by grind)
    · refine xr_aload_n D_Rg_addPage_27 rfl rfl ?_
      refine xr_getf F_Rg_15 D_Rg_addPage_28 rfl rfl ?_
      refine xr_aload_n D_Rg_addPage_31 rfl rfl ?_
      refine xr_getf F_Rg_39 D_Rg_addPage_32 rfl rfl ?_
      refine xr_bipush (v := 10) D_Rg_addPage_35 rfl ?_
      refine xr_imul D_Rg_addPage_37 ?_
      refine xr_iload_n D_Rg_addPage_38 rfl rfl ?_
      refine xr_iadd D_Rg_addPage_39 ?_
      refine xr_aload_n D_Rg_addPage_40 rfl rfl ?_
      refine xr_iload_n D_Rg_addPage_41 rfl rfl ?_
      refine xr_iconst (v := 4) D_Rg_addPage_42 rfl ?_
      refine xr_iload_n D_Rg_addPage_43 rfl rfl ?_
      refine xr_imul D_Rg_addPage_44 ?_
      refine xr_iadd D_Rg_addPage_45 ?_
      refine xr_iconst (v := 4) D_Rg_addPage_46 rfl ?_
      refine xr_cVx (as := [_, _]) (c_By_number_22 4 rfl (by decide)) (L_Rg_65) (CD_By_number) CI_By D_Rg_addPage_47 rfl rfl (by decide) (Nat.le_of_ble_eq_true rfl) (Nat.le_of_eq (Nat.zero_add _)) (Nat.le_of_eq (Nat.zero_add _)) pic_len ?_
      rintro _ rfl
      refine ⟨_, _, rfl, rfl, ?_⟩
      refine xr_iast D_Rg_addPage_50 rfl (by exact i_in2 13000 (by grind) (by grind) rfl) (aset_26) ?_
      refine xr_iinc (c9 := 1) D_Rg_addPage_51 rfl rfl (by decide) ?_
      refine xr_goto (tgt := 21) D_Rg_addPage_54 rfl ?_
      rw [io_succ]
      refine xr_mono (ih (j + 1) _ (by omega)) ?_
      rintro _ rfl
      exact congrArg (fun z => ((.inl (some (.int 1)), pic (upd I 2406 (I 2406 + 1)) z L) : xO)) upAf_upA

theorem c_Rg_addPage_24 {I : mI} {A : mA} {L : mL} {p : Int32}  : xm m_Rg_addPage (2, 45) [.ref 24, .ref 22, .int p] (pic I A L) 0 0 (fun o => ((¬ (0 ≤ I 2406 ∧ I 2406 < 1300)) ∧ o = (.inl (some (.int 0)), pic I A L)) ∨ ((0 ≤ I 2406 ∧ I 2406 < 1300) ∧ o = (.inl (some (.int 1)), pic (upd I 2406 (I 2406 + 1)) (upAf A 26 (pgF (gat (I 2201) (A 23)) p (I 2406) 10 0 (A 26))) L))) := by
  refine xm_of rfl (by decide) (Nat.le_of_ble_eq_true rfl) ?_
  refine xr_aload_n D_Rg_addPage_0 rfl rfl ?_
  refine xr_getf F_Rg_39 D_Rg_addPage_1 rfl rfl ?_
  refine xr_if_lt (tgt := 17) D_Rg_addPage_4 rfl (fun c1 => ?_) (fun c1 => ?_)
  · refine xr_iconst (v := 0) D_Rg_addPage_17 rfl ?_
    refine xr_zret rfl (by first | rfl | exact nar_b2 | exact nar_z hz) D_Rg_addPage_18 ?_
    first | exact Or.inl ⟨by grind, rfl⟩ | exact Or.inr (⟨by grind, rfl⟩)
  · refine xr_aload_n D_Rg_addPage_7 rfl rfl ?_
    refine xr_getf F_Rg_39 D_Rg_addPage_8 rfl rfl ?_
    refine xr_sipush (v := 1300) D_Rg_addPage_11 rfl ?_
    refine xr_icmp_lt (tgt := 19) D_Rg_addPage_14 rfl (fun c2 => ?_) (fun c2 => ?_)
    · refine xr_iconst (v := 0) D_Rg_addPage_19 rfl ?_
      refine xr_istore_n D_Rg_addPage_20 rfl (by decide) ?_
      refine xr_mono (l_Rg_ap (by grind) (by grind) 10 0 A rfl) ?_
      rintro _ rfl
      exact Or.inr ⟨by grind, rfl⟩
    · refine xr_iconst (v := 0) D_Rg_addPage_17 rfl ?_
      refine xr_zret rfl (by first | rfl | exact nar_b2 | exact nar_z hz) D_Rg_addPage_18 ?_
      first | exact Or.inl ⟨by grind, rfl⟩ | exact Or.inr (⟨by grind, rfl⟩)

theorem c_Rg_nameLengthAt {I : mI} {A : mA} {L : mL} {p : Int32}  : xm m_Rg_nameLengthAt (1, 21) [.ref 22, .int p] (pic I A L) 0 0 (fun o => o = (.inl (some (.int ((gat (I 2201) (A 23)) (p + 12) + (gat (I 2201) (A 23)) (p + 13)))), (pic I A L))) := by
  refine xm_of rfl (by decide) (Nat.le_of_ble_eq_true rfl) ?_
  refine xr_aload_n D_Rg_nameLengthAt_0 rfl rfl ?_
  refine xr_iload_n D_Rg_nameLengthAt_1 rfl rfl ?_
  refine xr_bipush (v := 12) D_Rg_nameLengthAt_2 rfl ?_
  refine xr_iadd D_Rg_nameLengthAt_4 ?_
  refine xr_cVx (as := [_]) (c_By_at_22) (L_Rg_61) (CD_By_at) CI_By D_Rg_nameLengthAt_5 rfl rfl (by decide) (Nat.le_of_ble_eq_true rfl) (Nat.le_of_eq (Nat.zero_add _)) (Nat.le_of_eq (Nat.zero_add _)) pic_len ?_
  rintro _ rfl
  refine ⟨_, _, rfl, rfl, ?_⟩
  refine xr_aload_n D_Rg_nameLengthAt_8 rfl rfl ?_
  refine xr_iload_n D_Rg_nameLengthAt_9 rfl rfl ?_
  refine xr_bipush (v := 13) D_Rg_nameLengthAt_10 rfl ?_
  refine xr_iadd D_Rg_nameLengthAt_12 ?_
  refine xr_cVx (as := [_]) (c_By_at_22) (L_Rg_61) (CD_By_at) CI_By D_Rg_nameLengthAt_13 rfl rfl (by decide) (Nat.le_of_ble_eq_true rfl) (Nat.le_of_eq (Nat.zero_add _)) (Nat.le_of_eq (Nat.zero_add _)) pic_len ?_
  rintro _ rfl
  refine ⟨_, _, rfl, rfl, ?_⟩
  refine xr_iadd D_Rg_nameLengthAt_16 ?_
  refine xr_iret rfl D_Rg_nameLengthAt_17 ?_
  exact rfl
