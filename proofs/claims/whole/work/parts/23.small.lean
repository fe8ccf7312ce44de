def wOf (g : Nat → Int32) (f c : Int32) : Int32 := if (0 ≤ f ∧ f ≤ 255) ∧ 0 ≤ c ∧ c ≤ 255 then g (f * 256 + c).toNatClampNeg else 0
theorem wOf_t {g : Nat → Int32} {f c : Int32} (h : (0 ≤ f ∧ f ≤ 255) ∧ 0 ≤ c ∧ c ≤ 255) : g (f * 256 + c).toNatClampNeg = wOf g f c := (if_pos h).symm
theorem wOf_f {g : Nat → Int32} {f c : Int32} (h : ¬ ((0 ≤ f ∧ f ≤ 255) ∧ 0 ≤ c ∧ c ≤ 255)) : 0 = wOf g f c := (if_neg h).symm
def sPart (m : Int32) (f : Nat → Int32) (i w : Int32) : Int32 := if 0 ≤ i ∧ i < m ∧ i < 500 ∧ 0 ≤ w ∧ w < 5 then f (i * 5 + w).toNatClampNeg else 0
theorem sPart_t {m : Int32} {f : Nat → Int32} {i w : Int32} (h : 0 ≤ i ∧ i < m ∧ i < 500 ∧ 0 ≤ w ∧ w < 5) : f (i * 5 + w).toNatClampNeg = sPart m f i w := (if_pos h).symm
theorem sPart_f {m : Int32} {f : Nat → Int32} {i w : Int32} (h : ¬ (0 ≤ i ∧ i < m ∧ i < 500 ∧ 0 ≤ w ∧ w < 5)) : 0 = sPart m f i w := (if_neg h).symm
def cmF (f : Nat → Int32) (x : Int32) : Nat → Nat → Bool
  | 0, _ => false
  | n + 1, s => (f s == x) || cmF f x n (s + 1)
def cmB (m : Int32) (f : Nat → Int32) (i x : Int32) : Prop := ¬ x = 0 ∧ cmF f x (m.toInt - (i.toInt + 1)).toNat (i.toInt + 1).toNat = true
def letC (a b : Int64) (i : Int32) : Int32 := (((if i < 8 then a else b).toUInt64 >>> ((8 * (i &&& 7)).toInt64.toUInt64 &&& Int64.toUInt64 63)).toInt64).toInt32 &&& 255

theorem c_Wi_of_1 {I : mI} {A : mA} {L : mL} {f : Int32} {c : Int32}  : xm m_Wi_of (1, 20) [.ref 1, .int f, .int c] (pic I A L) 0 0 (fun o => o = (.inl (some (.int (wOf (A 2) f c))), (pic I A L))) := by
  refine xm_of rfl (by decide) (Nat.le_of_ble_eq_true rfl) ?_
  refine xr_iload_n D_Wi_of_0 rfl rfl ?_
  refine xr_cSx (as := [_]) (c_Dv_isByte) (L_Wi_16) (CD_Dv_isByte) D_Wi_of_1 rfl (by decide) (Nat.le_of_ble_eq_true rfl) (Nat.le_of_eq (Nat.zero_add _)) (Nat.le_of_eq (Nat.zero_add _)) pic_len ?_
  rintro _ rfl
  refine ⟨_, _, rfl, rfl, ?_⟩
  refine xr_if_eq (tgt := 29) D_Wi_of_4 rfl (fun c1 => ?_) (fun c1 => ?_)
  · rw [b2_0] at c1
    refine xr_iconst (v := 0) D_Wi_of_29 rfl ?_
    refine xr_iret rfl D_Wi_of_30 ?_
    first | exact oi (wOf_t (by grind)) | exact oi (wOf_f (by grind))
  · rw [b2_n] at c1
    refine xr_iload_n D_Wi_of_7 rfl rfl ?_
    refine xr_cSx (as := [_]) (c_Dv_isByte) (L_Wi_16) (CD_Dv_isByte) D_Wi_of_8 rfl (by decide) (Nat.le_of_ble_eq_true rfl) (Nat.le_of_eq (Nat.zero_add _)) (Nat.le_of_eq (Nat.zero_add _)) pic_len ?_
    rintro _ rfl
    refine ⟨_, _, rfl, rfl, ?_⟩
    refine xr_if_eq (tgt := 29) D_Wi_of_11 rfl (fun c2 => ?_) (fun c2 => ?_)
    · rw [b2_0] at c2
      refine xr_iconst (v := 0) D_Wi_of_29 rfl ?_
      refine xr_iret rfl D_Wi_of_30 ?_
      first | exact oi (wOf_t (by grind)) | exact oi (wOf_f (by grind))
    · rw [b2_n] at c2
      refine xr_aload_n D_Wi_of_14 rfl rfl ?_
      refine xr_getf F_Wi_10 D_Wi_of_15 rfl rfl ?_
      refine xr_iload_n D_Wi_of_18 rfl rfl ?_
      refine xr_sipush (v := 256) D_Wi_of_19 rfl ?_
      refine xr_imul D_Wi_of_22 ?_
      refine xr_iload_n D_Wi_of_23 rfl rfl ?_
      refine xr_iadd D_Wi_of_24 ?_
      refine xr_iald D_Wi_of_25 rfl (by exact i_in2 65536 (by grind) (by grind) rfl) ?_
      refine xr_goto (tgt := 30) D_Wi_of_26 rfl ?_
      refine xr_iret rfl D_Wi_of_30 ?_
      first | exact oi (wOf_t (by grind)) | exact oi (wOf_f (by grind))

theorem c_Wi_change_1 {I : mI} {A : mA} {L : mL} {f : Int32} {c : Int32} {w : Int32} (hf : 0 ≤ f ∧ f ≤ 255) (hc : 0 ≤ c ∧ c ≤ 255) : xm m_Wi_change (1, 20) [.ref 1, .int f, .int c, .int w] (pic I A L) 0 0 (fun o => o = (.inl none, pic I (upA A 2 (f * 256 + c).toNatClampNeg w) L)) := by
  refine xm_of rfl (by decide) (Nat.le_of_ble_eq_true rfl) ?_
  refine xr_iload_n D_Wi_change_0 rfl rfl ?_
  refine xr_cSx (as := [_]) (c_Dv_isByte) (L_Wi_16) (CD_Dv_isByte) D_Wi_change_1 rfl (by decide) (Nat.le_of_ble_eq_true rfl) (Nat.le_of_eq (Nat.zero_add _)) (Nat.le_of_eq (Nat.zero_add _)) pic_len ?_
  rintro _ rfl
  refine ⟨_, _, rfl, rfl, ?_⟩
  refine xr_if_eq (tgt := 27) D_Wi_change_4 rfl (fun c1 => ?_) (fun c1 => ?_)
  · rw [b2_0] at c1
    refine xr_vret rfl D_Wi_change_27 ?_
    first | exact rfl | (exfalso; grind)
  · rw [b2_n] at c1
    refine xr_iload_n D_Wi_change_7 rfl rfl ?_
    refine xr_cSx (as := [_]) (c_Dv_isByte) (L_Wi_16) (CD_Dv_isByte) D_Wi_change_8 rfl (by decide) (Nat.le_of_ble_eq_true rfl) (Nat.le_of_eq (Nat.zero_add _)) (Nat.le_of_eq (Nat.zero_add _)) pic_len ?_
    rintro _ rfl
    refine ⟨_, _, rfl, rfl, ?_⟩
    refine xr_if_eq (tgt := 27) D_Wi_change_11 rfl (fun c2 => ?_) (fun c2 => ?_)
    · rw [b2_0] at c2
      refine xr_vret rfl D_Wi_change_27 ?_
      first | exact rfl | (exfalso; grind)
    · rw [b2_n] at c2
      refine xr_aload_n D_Wi_change_14 rfl rfl ?_
      refine xr_getf F_Wi_10 D_Wi_change_15 rfl rfl ?_
      refine xr_iload_n D_Wi_change_18 rfl rfl ?_
      refine xr_sipush (v := 256) D_Wi_change_19 rfl ?_
      refine xr_imul D_Wi_change_22 ?_
      refine xr_iload_n D_Wi_change_23 rfl rfl ?_
      refine xr_iadd D_Wi_change_24 ?_
      refine xr_iload_n D_Wi_change_25 rfl rfl ?_
      refine xr_iast D_Wi_change_26 rfl (by exact i_in2 65536 (by grind) (by grind) rfl) (aset_2) ?_
      refine xr_vret rfl D_Wi_change_27 ?_
      first | exact rfl | (exfalso; grind)

theorem c_Fo_isDefined_3 {I : mI} {A : mA} {L : mL} {f : Int32}  : xm m_Fo_isDefined (1, 20) [.ref 3, .int f] (pic I A L) 0 0 (fun o => o = (.inl (some (.int (b2 ((0 ≤ f ∧ f ≤ 255) ∧ 0 < A 9 f.toNatClampNeg)))), (pic I A L))) := by
  refine xm_of rfl (by decide) (Nat.le_of_ble_eq_true rfl) ?_
  refine xr_iload_n D_Fo_isDefined_0 rfl rfl ?_
  refine xr_cSx (as := [_]) (c_Dv_isByte) (L_Fo_31) (CD_Dv_isByte) D_Fo_isDefined_1 rfl (by decide) (Nat.le_of_ble_eq_true rfl) (Nat.le_of_eq (Nat.zero_add _)) (Nat.le_of_eq (Nat.zero_add _)) pic_len ?_
  rintro _ rfl
  refine ⟨_, _, rfl, rfl, ?_⟩
  refine xr_if_eq (tgt := 20) D_Fo_isDefined_4 rfl (fun c1 => ?_) (fun c1 => ?_)
  · rw [b2_0] at c1
    refine xr_iconst (v := 0) D_Fo_isDefined_20 rfl ?_
    refine xr_zret rfl (by first | rfl | exact nar_b2 | exact nar_z hz) D_Fo_isDefined_21 ?_
    first | exact ob_t (by grind) | exact ob_f (by grind)
  · rw [b2_n] at c1
    refine xr_aload_n D_Fo_isDefined_7 rfl rfl ?_
    refine xr_getf F_Fo_28 D_Fo_isDefined_8 rfl rfl ?_
    refine xr_iload_n D_Fo_isDefined_11 rfl rfl ?_
    refine xr_iald D_Fo_isDefined_12 rfl (by exact i_in2 256 (by grind) (by grind) rfl) ?_
    refine xr_if_le (tgt := 20) D_Fo_isDefined_13 rfl (fun c2 => ?_) (fun c2 => ?_)
    · refine xr_iconst (v := 0) D_Fo_isDefined_20 rfl ?_
      refine xr_zret rfl (by first | rfl | exact nar_b2 | exact nar_z hz) D_Fo_isDefined_21 ?_
      first | exact ob_t (by grind) | exact ob_f (by grind)
    · refine xr_iconst (v := 1) D_Fo_isDefined_16 rfl ?_
      refine xr_goto (tgt := 21) D_Fo_isDefined_17 rfl ?_
      refine xr_zret rfl (by first | rfl | exact nar_b2 | exact nar_z hz) D_Fo_isDefined_21 ?_
      first | exact ob_t (by grind) | exact ob_f (by grind)

theorem c_Fo_define_3 {I : mI} {A : mA} {L : mL} {f : Int32} {a : Int32} {b : Int32} {c : Int32} (hf : 0 ≤ f ∧ f ≤ 255) : xm m_Fo_define (1, 20) [.ref 3, .int f, .int a, .int b, .int c] (pic I A L) 0 0 (fun o => o = (.inl none, pic I (upA (upA (upA A 4 f.toNatClampNeg a) 5 f.toNatClampNeg b) 6 f.toNatClampNeg c) L)) := by
  refine xm_of rfl (by decide) (Nat.le_of_ble_eq_true rfl) ?_
  refine xr_iload_n D_Fo_define_0 rfl rfl ?_
  refine xr_cSx (as := [_]) (c_Dv_isByte) (L_Fo_31) (CD_Dv_isByte) D_Fo_define_1 rfl (by decide) (Nat.le_of_ble_eq_true rfl) (Nat.le_of_eq (Nat.zero_add _)) (Nat.le_of_eq (Nat.zero_add _)) pic_len ?_
  rintro _ rfl
  refine ⟨_, _, rfl, rfl, ?_⟩
  refine xr_if_eq (tgt := 29) D_Fo_define_4 rfl (fun c1 => ?_) (fun c1 => ?_)
  · rw [b2_0] at c1
    refine xr_vret rfl D_Fo_define_29 ?_
    first | exact rfl | (exfalso; grind)
  · rw [b2_n] at c1
    refine xr_aload_n D_Fo_define_7 rfl rfl ?_
    refine xr_getf F_Fo_9 D_Fo_define_8 rfl rfl ?_
    refine xr_iload_n D_Fo_define_11 rfl rfl ?_
    refine xr_iload_n D_Fo_define_12 rfl rfl ?_
    refine xr_iast D_Fo_define_13 rfl (by exact i_in2 256 (by grind) (by grind) rfl) (aset_4) ?_
    refine xr_aload_n D_Fo_define_14 rfl rfl ?_
    refine xr_getf F_Fo_15 D_Fo_define_15 rfl rfl ?_
    refine xr_iload_n D_Fo_define_18 rfl rfl ?_
    refine xr_iload_n D_Fo_define_19 rfl rfl ?_
    refine xr_iast D_Fo_define_20 rfl (by exact i_in2 256 (by grind) (by grind) rfl) (aset_5) ?_
    refine xr_aload_n D_Fo_define_21 rfl rfl ?_
    refine xr_getf F_Fo_18 D_Fo_define_22 rfl rfl ?_
    refine xr_iload_n D_Fo_define_25 rfl rfl ?_
    refine xr_iload D_Fo_define_26 rfl ?_
    refine xr_iast D_Fo_define_28 rfl (by exact i_in2 256 (by grind) (by grind) rfl) (aset_6) ?_
    refine xr_vret rfl D_Fo_define_29 ?_
    first | exact rfl | (exfalso; grind)

theorem c_Fo_call_3 {I : mI} {A : mA} {L : mL} {f : Int32} {a : Int64} {b : Int64} {n : Int32} (hf : 0 ≤ f ∧ f ≤ 255) : xm m_Fo_call (1, 20) [.ref 3, .int f, .long a, .long b, .int n] (pic I A L) 0 0 (fun o => o = (.inl none, pic I (upA A 9 f.toNatClampNeg n) (upL (upL L 7 f.toNatClampNeg a) 8 f.toNatClampNeg b))) := by
  refine xm_of rfl (by decide) (Nat.le_of_ble_eq_true rfl) ?_
  refine xr_iload_n D_Fo_call_0 rfl rfl ?_
  refine xr_cSx (as := [_]) (c_Dv_isByte) (L_Fo_31) (CD_Dv_isByte) D_Fo_call_1 rfl (by decide) (Nat.le_of_ble_eq_true rfl) (Nat.le_of_eq (Nat.zero_add _)) (Nat.le_of_eq (Nat.zero_add _)) pic_len ?_
  rintro _ rfl
  refine ⟨_, _, rfl, rfl, ?_⟩
  refine xr_if_eq (tgt := 30) D_Fo_call_4 rfl (fun c1 => ?_) (fun c1 => ?_)
  · rw [b2_0] at c1
    refine xr_vret rfl D_Fo_call_30 ?_
    first | exact rfl | (exfalso; grind)
  · rw [b2_n] at c1
    refine xr_aload_n D_Fo_call_7 rfl rfl ?_
    refine xr_getf F_Fo_21 D_Fo_call_8 rfl rfl ?_
    refine xr_iload_n D_Fo_call_11 rfl rfl ?_
    refine xr_lload_n D_Fo_call_12 rfl rfl ?_
    refine xr_last D_Fo_call_13 rfl (by exact i_in2 256 (by grind) (by grind) rfl) (aset_7) ?_
    refine xr_aload_n D_Fo_call_14 rfl rfl ?_
    refine xr_getf F_Fo_25 D_Fo_call_15 rfl rfl ?_
    refine xr_iload_n D_Fo_call_18 rfl rfl ?_
    refine xr_lload D_Fo_call_19 rfl ?_
    refine xr_last D_Fo_call_21 rfl (by exact i_in2 256 (by grind) (by grind) rfl) (aset_8) ?_
    refine xr_aload_n D_Fo_call_22 rfl rfl ?_
    refine xr_getf F_Fo_28 D_Fo_call_23 rfl rfl ?_
    refine xr_iload_n D_Fo_call_26 rfl rfl ?_
    refine xr_iload D_Fo_call_27 rfl ?_
    refine xr_iast D_Fo_call_29 rfl (by exact i_in2 256 (by grind) (by grind) rfl) (aset_9) ?_
    refine xr_vret rfl D_Fo_call_30 ?_
    first | exact rfl | (exfalso; grind)

theorem c_Sh_isFull_11 {I : mI} {A : mA} {L : mL}   : xm m_Sh_isFull (0, 0) [.ref 11] (pic I A L) 0 0 (fun o => o = (.inl (some (.int (b2 (500 ≤ I 1101)))), (pic I A L))) := by
  refine xm_of rfl (by decide) (Nat.le_of_ble_eq_true rfl) ?_
  refine xr_aload_n D_Sh_isFull_0 rfl rfl ?_
  refine xr_getf F_Sh_15 D_Sh_isFull_1 rfl rfl ?_
  refine xr_sipush (v := 500) D_Sh_isFull_4 rfl ?_
  refine xr_icmp_lt (tgt := 14) D_Sh_isFull_7 rfl (fun c1 => ?_) (fun c1 => ?_)
  · refine xr_iconst (v := 0) D_Sh_isFull_14 rfl ?_
    refine xr_zret rfl (by first | rfl | exact nar_b2 | exact nar_z hz) D_Sh_isFull_15 ?_
    first | exact ob_t (by grind) | exact ob_f (by grind)
  · refine xr_iconst (v := 1) D_Sh_isFull_10 rfl ?_
    refine xr_goto (tgt := 15) D_Sh_isFull_11 rfl ?_
    refine xr_zret rfl (by first | rfl | exact nar_b2 | exact nar_z hz) D_Sh_isFull_15 ?_
    first | exact ob_t (by grind) | exact ob_f (by grind)

theorem c_Sh_length_11 {I : mI} {A : mA} {L : mL}   : xm m_Sh_length (0, 0) [.ref 11] (pic I A L) 0 0 (fun o => o = (.inl (some (.int (I 1101))), (pic I A L))) := by
  refine xm_of rfl (by decide) (Nat.le_of_ble_eq_true rfl) ?_
  refine xr_aload_n D_Sh_length_0 rfl rfl ?_
  refine xr_getf F_Sh_15 D_Sh_length_1 rfl rfl ?_
  refine xr_iret rfl D_Sh_length_4 ?_
  exact rfl

theorem c_Sh_clear_11 {I : mI} {A : mA} {L : mL}   : xm m_Sh_clear (0, 0) [.ref 11] (pic I A L) 0 0 (fun o => o = (.inl none, pic (upd I 1101 0) A L)) := by
  refine xm_of rfl (by decide) (Nat.le_of_ble_eq_true rfl) ?_
  refine xr_aload_n D_Sh_clear_0 rfl rfl ?_
  refine xr_iconst (v := 0) D_Sh_clear_1 rfl ?_
  refine xr_putf F_Sh_15 FT_Sh FN_Sh_1 D_Sh_clear_2 rfl (Nat.le_of_ble_eq_true rfl) rfl rfl (pset_11_1) ?_
  refine xr_vret rfl D_Sh_clear_5 ?_
  exact rfl

theorem c_Sh_part_11 {I : mI} {A : mA} {L : mL} {i : Int32} {w : Int32}  : xm m_Sh_part (0, 0) [.ref 11, .int i, .int w] (pic I A L) 0 0 (fun o => o = (.inl (some (.int (sPart (I 1101) (A 12) i w))), (pic I A L))) := by
  refine xm_of rfl (by decide) (Nat.le_of_ble_eq_true rfl) ?_
  refine xr_iload_n D_Sh_part_0 rfl rfl ?_
  refine xr_if_lt (tgt := 32) D_Sh_part_1 rfl (fun c1 => ?_) (fun c1 => ?_)
  · refine xr_iconst (v := 0) D_Sh_part_32 rfl ?_
    refine xr_istore_n D_Sh_part_33 rfl (by decide) ?_
    refine xr_iload_n D_Sh_part_34 rfl rfl ?_
    refine xr_if_eq (tgt := 51) D_Sh_part_35 rfl (fun c2 => ?_) (fun c2 => ?_)
    · refine xr_iconst (v := 0) D_Sh_part_51 rfl ?_
      refine xr_iret rfl D_Sh_part_52 ?_
      first | exact oi (sPart_t (by grind)) | exact oi (sPart_f (by grind))
    · exact absurd (show (0 : Int32) = (0 : Int32) by decide) c2
  · refine xr_iload_n D_Sh_part_4 rfl rfl ?_
    refine xr_aload_n D_Sh_part_5 rfl rfl ?_
    refine xr_getf F_Sh_15 D_Sh_part_6 rfl rfl ?_
    refine xr_icmp_ge (tgt := 32) D_Sh_part_9 rfl (fun c2 => ?_) (fun c2 => ?_)
    · refine xr_iconst (v := 0) D_Sh_part_32 rfl ?_
      refine xr_istore_n D_Sh_part_33 rfl (by decide) ?_
      refine xr_iload_n D_Sh_part_34 rfl rfl ?_
      refine xr_if_eq (tgt := 51) D_Sh_part_35 rfl (fun c3 => ?_) (fun c3 => ?_)
      · refine xr_iconst (v := 0) D_Sh_part_51 rfl ?_
        refine xr_iret rfl D_Sh_part_52 ?_
        first | exact oi (sPart_t (by grind)) | exact oi (sPart_f (by grind))
      · exact absurd (show (0 : Int32) = (0 : Int32) by decide) c3
    · refine xr_iload_n D_Sh_part_12 rfl rfl ?_
      refine xr_sipush (v := 500) D_Sh_part_13 rfl ?_
      refine xr_icmp_ge (tgt := 32) D_Sh_part_16 rfl (fun c3 => ?_) (fun c3 => ?_)
      · refine xr_iconst (v := 0) D_Sh_part_32 rfl ?_
        refine xr_istore_n D_Sh_part_33 rfl (by decide) ?_
        refine xr_iload_n D_Sh_part_34 rfl rfl ?_
        refine xr_if_eq (tgt := 51) D_Sh_part_35 rfl (fun c4 => ?_) (fun c4 => ?_)
        · refine xr_iconst (v := 0) D_Sh_part_51 rfl ?_
          refine xr_iret rfl D_Sh_part_52 ?_
          first | exact oi (sPart_t (by grind)) | exact oi (sPart_f (by grind))
        · exact absurd (show (0 : Int32) = (0 : Int32) by decide) c4
      · refine xr_iload_n D_Sh_part_19 rfl rfl ?_
        refine xr_if_lt (tgt := 32) D_Sh_part_20 rfl (fun c4 => ?_) (fun c4 => ?_)
        · refine xr_iconst (v := 0) D_Sh_part_32 rfl ?_
          refine xr_istore_n D_Sh_part_33 rfl (by decide) ?_
          refine xr_iload_n D_Sh_part_34 rfl rfl ?_
          refine xr_if_eq (tgt := 51) D_Sh_part_35 rfl (fun c5 => ?_) (fun c5 => ?_)
          · refine xr_iconst (v := 0) D_Sh_part_51 rfl ?_
            refine xr_iret rfl D_Sh_part_52 ?_
            first | exact oi (sPart_t (by grind)) | exact oi (sPart_f (by grind))
          · exact absurd (show (0 : Int32) = (0 : Int32) by decide) c5
        · refine xr_iload_n D_Sh_part_23 rfl rfl ?_
          refine xr_iconst (v := 5) D_Sh_part_24 rfl ?_
          refine xr_icmp_ge (tgt := 32) D_Sh_part_25 rfl (fun c5 => ?_) (fun c5 => ?_)
          · refine xr_iconst (v := 0) D_Sh_part_32 rfl ?_
            refine xr_istore_n D_Sh_part_33 rfl (by decide) ?_
            refine xr_iload_n D_Sh_part_34 rfl rfl ?_
            refine xr_if_eq (tgt := 51) D_Sh_part_35 rfl (fun c6 => ?_) (fun c6 => ?_)
            · refine xr_iconst (v := 0) D_Sh_part_51 rfl ?_
              refine xr_iret rfl D_Sh_part_52 ?_
              first | exact oi (sPart_t (by grind)) | exact oi (sPart_f (by grind))
            · exact absurd (show (0 : Int32) = (0 : Int32) by decide) c6
          · refine xr_iconst (v := 1) D_Sh_part_28 rfl ?_
            refine xr_goto (tgt := 33) D_Sh_part_29 rfl ?_
            refine xr_istore_n D_Sh_part_33 rfl (by decide) ?_
            refine xr_iload_n D_Sh_part_34 rfl rfl ?_
            refine xr_if_eq (tgt := 51) D_Sh_part_35 rfl (fun c6 => ?_) (fun c6 => ?_)
            · exact absurd (show (1 : Int32) = (0 : Int32) from c6) (by decide)
            · refine xr_aload_n D_Sh_part_38 rfl rfl ?_
              refine xr_getf F_Sh_11 D_Sh_part_39 rfl rfl ?_
              refine xr_iload_n D_Sh_part_42 rfl rfl ?_
              refine xr_iconst (v := 5) D_Sh_part_43 rfl ?_
              refine xr_imul D_Sh_part_44 ?_
              refine xr_iload_n D_Sh_part_45 rfl rfl ?_
              refine xr_iadd D_Sh_part_46 ?_
              refine xr_iald D_Sh_part_47 rfl (by exact i_in2 2500 (by grind) (by grind) rfl) ?_
              refine xr_goto (tgt := 52) D_Sh_part_48 rfl ?_
              refine xr_iret rfl D_Sh_part_52 ?_
              first | exact oi (sPart_t (by grind)) | exact oi (sPart_f (by grind))

theorem c_Sh_isRule_11 {I : mI} {A : mA} {L : mL} {i : Int32}  : xm m_Sh_isRule (1, 23) [.ref 11, .int i] (pic I A L) 0 0 (fun o => o = (.inl (some (.int (b2 (sPart (I 1101) (A 12) i 0 = -1)))), (pic I A L))) := by
  refine xm_of rfl (by decide) (Nat.le_of_ble_eq_true rfl) ?_
  refine xr_aload_n D_Sh_isRule_0 rfl rfl ?_
  refine xr_iload_n D_Sh_isRule_1 rfl rfl ?_
  refine xr_iconst (v := 0) D_Sh_isRule_2 rfl ?_
  refine xr_cVx (as := [_, _]) (c_Sh_part_11) (L_Sh_19) (CD_Sh_part) CI_Sh D_Sh_isRule_3 rfl rfl (by decide) (Nat.le_of_ble_eq_true rfl) (Nat.le_of_eq (Nat.zero_add _)) (Nat.le_of_eq (Nat.zero_add _)) pic_len ?_
  rintro _ rfl
  refine ⟨_, _, rfl, rfl, ?_⟩
  refine xr_iconst (v := (-1)) D_Sh_isRule_6 rfl ?_
  refine xr_icmp_ne (tgt := 14) D_Sh_isRule_7 rfl (fun c1 => ?_) (fun c1 => ?_)
  · refine xr_iconst (v := 0) D_Sh_isRule_14 rfl ?_
    refine xr_zret rfl (by first | rfl | exact nar_b2 | exact nar_z hz) D_Sh_isRule_15 ?_
    first | exact ob_t (by grind) | exact ob_f (by grind)
  · refine xr_iconst (v := 1) D_Sh_isRule_10 rfl ?_
    refine xr_goto (tgt := 15) D_Sh_isRule_11 rfl ?_
    refine xr_zret rfl (by first | rfl | exact nar_b2 | exact nar_z hz) D_Sh_isRule_15 ?_
    first | exact ob_t (by grind) | exact ob_f (by grind)

theorem c_Sh_fontOf_11 {I : mI} {A : mA} {L : mL} {i : Int32}  : xm m_Sh_fontOf (1, 23) [.ref 11, .int i] (pic I A L) 0 0 (fun o => o = (.inl (some (.int (sPart (I 1101) (A 12) i 0))), (pic I A L))) := by
  refine xm_of rfl (by decide) (Nat.le_of_ble_eq_true rfl) ?_
  refine xr_aload_n D_Sh_fontOf_0 rfl rfl ?_
  refine xr_iload_n D_Sh_fontOf_1 rfl rfl ?_
  refine xr_iconst (v := 0) D_Sh_fontOf_2 rfl ?_
  refine xr_cVx (as := [_, _]) (c_Sh_part_11) (L_Sh_19) (CD_Sh_part) CI_Sh D_Sh_fontOf_3 rfl rfl (by decide) (Nat.le_of_ble_eq_true rfl) (Nat.le_of_eq (Nat.zero_add _)) (Nat.le_of_eq (Nat.zero_add _)) pic_len ?_
  rintro _ rfl
  refine ⟨_, _, rfl, rfl, ?_⟩
  refine xr_iret rfl D_Sh_fontOf_6 ?_
  exact rfl

theorem c_Sh_characterOrWidth_11 {I : mI} {A : mA} {L : mL} {i : Int32}  : xm m_Sh_characterOrWidth (1, 23) [.ref 11, .int i] (pic I A L) 0 0 (fun o => o = (.inl (some (.int (sPart (I 1101) (A 12) i 1))), (pic I A L))) := by
  refine xm_of rfl (by decide) (Nat.le_of_ble_eq_true rfl) ?_
  refine xr_aload_n D_Sh_characterOrWidth_0 rfl rfl ?_
  refine xr_iload_n D_Sh_characterOrWidth_1 rfl rfl ?_
  refine xr_iconst (v := 1) D_Sh_characterOrWidth_2 rfl ?_
  refine xr_cVx (as := [_, _]) (c_Sh_part_11) (L_Sh_19) (CD_Sh_part) CI_Sh D_Sh_characterOrWidth_3 rfl rfl (by decide) (Nat.le_of_ble_eq_true rfl) (Nat.le_of_eq (Nat.zero_add _)) (Nat.le_of_eq (Nat.zero_add _)) pic_len ?_
  rintro _ rfl
  refine ⟨_, _, rfl, rfl, ?_⟩
  refine xr_iret rfl D_Sh_characterOrWidth_6 ?_
  exact rfl

theorem c_Sh_height_11 {I : mI} {A : mA} {L : mL} {i : Int32}  : xm m_Sh_height (1, 23) [.ref 11, .int i] (pic I A L) 0 0 (fun o => o = (.inl (some (.int (sPart (I 1101) (A 12) i 2))), (pic I A L))) := by
  refine xm_of rfl (by decide) (Nat.le_of_ble_eq_true rfl) ?_
  refine xr_aload_n D_Sh_height_0 rfl rfl ?_
  refine xr_iload_n D_Sh_height_1 rfl rfl ?_
  refine xr_iconst (v := 2) D_Sh_height_2 rfl ?_
  refine xr_cVx (as := [_, _]) (c_Sh_part_11) (L_Sh_19) (CD_Sh_part) CI_Sh D_Sh_height_3 rfl rfl (by decide) (Nat.le_of_ble_eq_true rfl) (Nat.le_of_eq (Nat.zero_add _)) (Nat.le_of_eq (Nat.zero_add _)) pic_len ?_
  rintro _ rfl
  refine ⟨_, _, rfl, rfl, ?_⟩
  refine xr_iret rfl D_Sh_height_6 ?_
  exact rfl

theorem c_Sh_x_11 {I : mI} {A : mA} {L : mL} {i : Int32}  : xm m_Sh_x (1, 23) [.ref 11, .int i] (pic I A L) 0 0 (fun o => o = (.inl (some (.int (sPart (I 1101) (A 12) i 3))), (pic I A L))) := by
  refine xm_of rfl (by decide) (Nat.le_of_ble_eq_true rfl) ?_
  refine xr_aload_n D_Sh_x_0 rfl rfl ?_
  refine xr_iload_n D_Sh_x_1 rfl rfl ?_
  refine xr_iconst (v := 3) D_Sh_x_2 rfl ?_
  refine xr_cVx (as := [_, _]) (c_Sh_part_11) (L_Sh_19) (CD_Sh_part) CI_Sh D_Sh_x_3 rfl rfl (by decide) (Nat.le_of_ble_eq_true rfl) (Nat.le_of_eq (Nat.zero_add _)) (Nat.le_of_eq (Nat.zero_add _)) pic_len ?_
  rintro _ rfl
  refine ⟨_, _, rfl, rfl, ?_⟩
  refine xr_iret rfl D_Sh_x_6 ?_
  exact rfl

theorem c_Sh_y_11 {I : mI} {A : mA} {L : mL} {i : Int32}  : xm m_Sh_y (1, 23) [.ref 11, .int i] (pic I A L) 0 0 (fun o => o = (.inl (some (.int (sPart (I 1101) (A 12) i 4))), (pic I A L))) := by
  refine xm_of rfl (by decide) (Nat.le_of_ble_eq_true rfl) ?_
  refine xr_aload_n D_Sh_y_0 rfl rfl ?_
  refine xr_iload_n D_Sh_y_1 rfl rfl ?_
  refine xr_iconst (v := 4) D_Sh_y_2 rfl ?_
  refine xr_cVx (as := [_, _]) (c_Sh_part_11) (L_Sh_19) (CD_Sh_part) CI_Sh D_Sh_y_3 rfl rfl (by decide) (Nat.le_of_ble_eq_true rfl) (Nat.le_of_eq (Nat.zero_add _)) (Nat.le_of_eq (Nat.zero_add _)) pic_len ?_
  rintro _ rfl
  refine ⟨_, _, rfl, rfl, ?_⟩
  refine xr_iret rfl D_Sh_y_6 ?_
  exact rfl

theorem c_Sh_add_11 {I : mI} {A : mA} {L : mL} {f : Int32} {c : Int32} {h : Int32} {x : Int32} {y : Int32} (h0 : 0 ≤ I 1101) (h1 : I 1101 < 500) : xm m_Sh_add (0, 0) [.ref 11, .int f, .int c, .int h, .int x, .int y] (pic I A L) 0 0 (fun o => o = (.inl (some (.int (I 1101 + 1))), pic (upd I 1101 (I 1101 + 1)) (upA (upA (upA (upA (upA A 12 (I 1101 * 5).toNatClampNeg f) 12 (I 1101 * 5 + 1).toNatClampNeg c) 12 (I 1101 * 5 + 2).toNatClampNeg h) 12 (I 1101 * 5 + 3).toNatClampNeg x) 12 (I 1101 * 5 + 4).toNatClampNeg y) L)) := by
  refine xm_of rfl (by decide) (Nat.le_of_ble_eq_true rfl) ?_
  refine xr_aload_n D_Sh_add_0 rfl rfl ?_
  refine xr_getf F_Sh_15 D_Sh_add_1 rfl rfl ?_
  refine xr_iconst (v := 5) D_Sh_add_4 rfl ?_
  refine xr_imul D_Sh_add_5 ?_
  refine xr_istore D_Sh_add_6 (by decide) ?_
  refine xr_iload D_Sh_add_8 rfl ?_
  refine xr_if_lt (tgt := 85) D_Sh_add_10 rfl (fun c1 => ?_) (fun c1 => ?_)
  · refine xr_aload_n D_Sh_add_85 rfl rfl ?_
    refine xr_getf F_Sh_15 D_Sh_add_86 rfl rfl ?_
    refine xr_iret rfl D_Sh_add_89 ?_
    first | exact rfl | (exfalso; grind)
  · refine xr_iload D_Sh_add_13 rfl ?_
    refine xr_aload_n D_Sh_add_15 rfl rfl ?_
    refine xr_getf F_Sh_11 D_Sh_add_16 rfl rfl ?_
    refine xr_alen (v := 2500) D_Sh_add_19 rfl (by simp [xtok]) rfl ?_
    refine xr_iconst (v := 5) D_Sh_add_20 rfl ?_
    refine xr_isub D_Sh_add_21 ?_
    refine xr_icmp_gt (tgt := 85) D_Sh_add_22 rfl (fun c2 => ?_) (fun c2 => ?_)
    · refine xr_aload_n D_Sh_add_85 rfl rfl ?_
      refine xr_getf F_Sh_15 D_Sh_add_86 rfl rfl ?_
      refine xr_iret rfl D_Sh_add_89 ?_
      first | exact rfl | (exfalso; grind)
    · refine xr_aload_n D_Sh_add_25 rfl rfl ?_
      refine xr_getf F_Sh_11 D_Sh_add_26 rfl rfl ?_
      refine xr_iload D_Sh_add_29 rfl ?_
      refine xr_iload_n D_Sh_add_31 rfl rfl ?_
      refine xr_iast D_Sh_add_32 rfl (by exact i_in2 2500 (by grind) (by grind) rfl) (aset_12) ?_
      refine xr_aload_n D_Sh_add_33 rfl rfl ?_
      refine xr_getf F_Sh_11 D_Sh_add_34 rfl rfl ?_
      refine xr_iload D_Sh_add_37 rfl ?_
      refine xr_iconst (v := 1) D_Sh_add_39 rfl ?_
      refine xr_iadd D_Sh_add_40 ?_
      refine xr_iload_n D_Sh_add_41 rfl rfl ?_
      refine xr_iast D_Sh_add_42 rfl (by exact i_in2 2500 (by grind) (by grind) rfl) (aset_12) ?_
      refine xr_aload_n D_Sh_add_43 rfl rfl ?_
      refine xr_getf F_Sh_11 D_Sh_add_44 rfl rfl ?_
      refine xr_iload D_Sh_add_47 rfl ?_
      refine xr_iconst (v := 2) D_Sh_add_49 rfl ?_
      refine xr_iadd D_Sh_add_50 ?_
      refine xr_iload_n D_Sh_add_51 rfl rfl ?_
      refine xr_iast D_Sh_add_52 rfl (by exact i_in2 2500 (by grind) (by grind) rfl) (aset_12) ?_
      refine xr_aload_n D_Sh_add_53 rfl rfl ?_
      refine xr_getf F_Sh_11 D_Sh_add_54 rfl rfl ?_
      refine xr_iload D_Sh_add_57 rfl ?_
      refine xr_iconst (v := 3) D_Sh_add_59 rfl ?_
      refine xr_iadd D_Sh_add_60 ?_
      refine xr_iload D_Sh_add_61 rfl ?_
      refine xr_iast D_Sh_add_63 rfl (by exact i_in2 2500 (by grind) (by grind) rfl) (aset_12) ?_
      refine xr_aload_n D_Sh_add_64 rfl rfl ?_
      refine xr_getf F_Sh_11 D_Sh_add_65 rfl rfl ?_
      refine xr_iload D_Sh_add_68 rfl ?_
      refine xr_iconst (v := 4) D_Sh_add_70 rfl ?_
      refine xr_iadd D_Sh_add_71 ?_
      refine xr_iload D_Sh_add_72 rfl ?_
      refine xr_iast D_Sh_add_74 rfl (by exact i_in2 2500 (by grind) (by grind) rfl) (aset_12) ?_
      refine xr_aload_n D_Sh_add_75 rfl rfl ?_
      refine xr_dup D_Sh_add_76 rfl ?_
      refine xr_getf F_Sh_15 D_Sh_add_77 rfl rfl ?_
      refine xr_iconst (v := 1) D_Sh_add_80 rfl ?_
      refine xr_iadd D_Sh_add_81 ?_
      refine xr_putf F_Sh_15 FT_Sh FN_Sh_1 D_Sh_add_82 rfl (Nat.le_of_ble_eq_true rfl) rfl rfl (pset_11_1) ?_
      refine xr_aload_n D_Sh_add_85 rfl rfl ?_
      refine xr_getf F_Sh_15 D_Sh_add_86 rfl rfl ?_
      refine xr_iret rfl D_Sh_add_89 ?_
      first | exact rfl | (exfalso; grind)

theorem c_Wa_clear_16 {I : mI} {A : mA} {L : mL}   : xm m_Wa_clear (0, 0) [.ref 16] (pic I A L) 0 0 (fun o => o = (.inl none, pic (upd (upd (upd I 1602 0) 1603 0) 1604 0) A L)) := by
  refine xm_of rfl (by decide) (Nat.le_of_ble_eq_true rfl) ?_
  refine xr_aload_n D_Wa_clear_0 rfl rfl ?_
  refine xr_iconst (v := 0) D_Wa_clear_1 rfl ?_
  refine xr_putf F_Wa_19 FT_Wa FN_Wa_2 D_Wa_clear_2 rfl (Nat.le_of_ble_eq_true rfl) rfl rfl (pset_16_2) ?_
  refine xr_aload_n D_Wa_clear_5 rfl rfl ?_
  refine xr_iconst (v := 0) D_Wa_clear_6 rfl ?_
  refine xr_putf F_Wa_22 FT_Wa FN_Wa_3 D_Wa_clear_7 rfl (Nat.le_of_ble_eq_true rfl) rfl rfl (pset_16_3) ?_
  refine xr_aload_n D_Wa_clear_10 rfl rfl ?_
  refine xr_iconst (v := 0) D_Wa_clear_11 rfl ?_
  refine xr_putf F_Wa_25 FT_Wa FN_Wa_4 D_Wa_clear_12 rfl (Nat.le_of_ble_eq_true rfl) rfl rfl (pset_16_4) ?_
  refine xr_vret rfl D_Wa_clear_15 ?_
  exact rfl

theorem c_Wa_plan_16 {I : mI} {A : mA} {L : mL} {d : Int32} (h0 : 0 ≤ I 1602) (h1 : I 1602 < 500) : xm m_Wa_plan (0, 0) [.ref 16, .int d] (pic I A L) 0 0 (fun o => o = (.inl none, pic (upd I 1602 (I 1602 + 1)) (upA A 17 (I 1602).toNatClampNeg d) L)) := by
  refine xm_of rfl (by decide) (Nat.le_of_ble_eq_true rfl) ?_
  refine xr_aload_n D_Wa_plan_0 rfl rfl ?_
  refine xr_getf F_Wa_19 D_Wa_plan_1 rfl rfl ?_
  refine xr_if_lt (tgt := 39) D_Wa_plan_4 rfl (fun c1 => ?_) (fun c1 => ?_)
  · refine xr_vret rfl D_Wa_plan_39 ?_
    first | exact rfl | (exfalso; grind)
  · refine xr_aload_n D_Wa_plan_7 rfl rfl ?_
    refine xr_getf F_Wa_19 D_Wa_plan_8 rfl rfl ?_
    refine xr_aload_n D_Wa_plan_11 rfl rfl ?_
    refine xr_getf F_Wa_9 D_Wa_plan_12 rfl rfl ?_
    refine xr_alen (v := 500) D_Wa_plan_15 rfl (by simp [xtok]) rfl ?_
    refine xr_icmp_ge (tgt := 39) D_Wa_plan_16 rfl (fun c2 => ?_) (fun c2 => ?_)
    · refine xr_vret rfl D_Wa_plan_39 ?_
      first | exact rfl | (exfalso; grind)
    · refine xr_aload_n D_Wa_plan_19 rfl rfl ?_
      refine xr_getf F_Wa_9 D_Wa_plan_20 rfl rfl ?_
      refine xr_aload_n D_Wa_plan_23 rfl rfl ?_
      refine xr_getf F_Wa_19 D_Wa_plan_24 rfl rfl ?_
      refine xr_iload_n D_Wa_plan_27 rfl rfl ?_
      refine xr_iast D_Wa_plan_28 rfl (by exact i_in2 500 (by grind) (by grind) rfl) (aset_17) ?_
      refine xr_aload_n D_Wa_plan_29 rfl rfl ?_
      refine xr_dup D_Wa_plan_30 rfl ?_
      refine xr_getf F_Wa_19 D_Wa_plan_31 rfl rfl ?_
      refine xr_iconst (v := 1) D_Wa_plan_34 rfl ?_
      refine xr_iadd D_Wa_plan_35 ?_
      refine xr_putf F_Wa_19 FT_Wa FN_Wa_2 D_Wa_plan_36 rfl (Nat.le_of_ble_eq_true rfl) rfl rfl (pset_16_2) ?_
      refine xr_vret rfl D_Wa_plan_39 ?_
      first | exact rfl | (exfalso; grind)

theorem c_Wa_clear_18 {I : mI} {A : mA} {L : mL}   : xm m_Wa_clear (0, 0) [.ref 18] (pic I A L) 0 0 (fun o => o = (.inl none, pic (upd (upd (upd I 1802 0) 1803 0) 1804 0) A L)) := by
  refine xm_of rfl (by decide) (Nat.le_of_ble_eq_true rfl) ?_
  refine xr_aload_n D_Wa_clear_0 rfl rfl ?_
  refine xr_iconst (v := 0) D_Wa_clear_1 rfl ?_
  refine xr_putf F_Wa_19 FT_Wa FN_Wa_2 D_Wa_clear_2 rfl (Nat.le_of_ble_eq_true rfl) rfl rfl (pset_18_2) ?_
  refine xr_aload_n D_Wa_clear_5 rfl rfl ?_
  refine xr_iconst (v := 0) D_Wa_clear_6 rfl ?_
  refine xr_putf F_Wa_22 FT_Wa FN_Wa_3 D_Wa_clear_7 rfl (Nat.le_of_ble_eq_true rfl) rfl rfl (pset_18_3) ?_
  refine xr_aload_n D_Wa_clear_10 rfl rfl ?_
  refine xr_iconst (v := 0) D_Wa_clear_11 rfl ?_
  refine xr_putf F_Wa_25 FT_Wa FN_Wa_4 D_Wa_clear_12 rfl (Nat.le_of_ble_eq_true rfl) rfl rfl (pset_18_4) ?_
  refine xr_vret rfl D_Wa_clear_15 ?_
  exact rfl

theorem c_Wa_plan_18 {I : mI} {A : mA} {L : mL} {d : Int32} (h0 : 0 ≤ I 1802) (h1 : I 1802 < 500) : xm m_Wa_plan (0, 0) [.ref 18, .int d] (pic I A L) 0 0 (fun o => o = (.inl none, pic (upd I 1802 (I 1802 + 1)) (upA A 19 (I 1802).toNatClampNeg d) L)) := by
  refine xm_of rfl (by decide) (Nat.le_of_ble_eq_true rfl) ?_
  refine xr_aload_n D_Wa_plan_0 rfl rfl ?_
  refine xr_getf F_Wa_19 D_Wa_plan_1 rfl rfl ?_
  refine xr_if_lt (tgt := 39) D_Wa_plan_4 rfl (fun c1 => ?_) (fun c1 => ?_)
  · refine xr_vret rfl D_Wa_plan_39 ?_
    first | exact rfl | (exfalso; grind)
  · refine xr_aload_n D_Wa_plan_7 rfl rfl ?_
    refine xr_getf F_Wa_19 D_Wa_plan_8 rfl rfl ?_
    refine xr_aload_n D_Wa_plan_11 rfl rfl ?_
    refine xr_getf F_Wa_9 D_Wa_plan_12 rfl rfl ?_
    refine xr_alen (v := 500) D_Wa_plan_15 rfl (by simp [xtok]) rfl ?_
    refine xr_icmp_ge (tgt := 39) D_Wa_plan_16 rfl (fun c2 => ?_) (fun c2 => ?_)
    · refine xr_vret rfl D_Wa_plan_39 ?_
      first | exact rfl | (exfalso; grind)
    · refine xr_aload_n D_Wa_plan_19 rfl rfl ?_
      refine xr_getf F_Wa_9 D_Wa_plan_20 rfl rfl ?_
      refine xr_aload_n D_Wa_plan_23 rfl rfl ?_
      refine xr_getf F_Wa_19 D_Wa_plan_24 rfl rfl ?_
      refine xr_iload_n D_Wa_plan_27 rfl rfl ?_
      refine xr_iast D_Wa_plan_28 rfl (by exact i_in2 500 (by grind) (by grind) rfl) (aset_19) ?_
      refine xr_aload_n D_Wa_plan_29 rfl rfl ?_
      refine xr_dup D_Wa_plan_30 rfl ?_
      refine xr_getf F_Wa_19 D_Wa_plan_31 rfl rfl ?_
      refine xr_iconst (v := 1) D_Wa_plan_34 rfl ?_
      refine xr_iadd D_Wa_plan_35 ?_
      refine xr_putf F_Wa_19 FT_Wa FN_Wa_2 D_Wa_plan_36 rfl (Nat.le_of_ble_eq_true rfl) rfl rfl (pset_18_2) ?_
      refine xr_vret rfl D_Wa_plan_39 ?_
      first | exact rfl | (exfalso; grind)

theorem c_Wr_bytes_13 {I : mI} {A : mA} {L : mL}   : xm m_Wr_bytes (0, 0) [.ref 13] (pic I A L) 0 0 (fun o => o = (.inl (some (.ref 14)), (pic I A L))) := by
  refine xm_of rfl (by decide) (Nat.le_of_ble_eq_true rfl) ?_
  refine xr_aload_n D_Wr_bytes_0 rfl rfl ?_
  refine xr_getf F_Wr_12 D_Wr_bytes_1 rfl rfl ?_
  refine xr_aret rfl (Or.inl ⟨_, rfl⟩) D_Wr_bytes_4 ?_
  exact rfl

theorem c_Wr_isClosed_13 {I : mI} {A : mA} {L : mL}  (hz : I 1310 = 0 ∨ I 1310 = 1) : xm m_Wr_isClosed (0, 0) [.ref 13] (pic I A L) 0 0 (fun o => o = (.inl (some (.int (I 1310))), (pic I A L))) := by
  refine xm_of rfl (by decide) (Nat.le_of_ble_eq_true rfl) ?_
  refine xr_aload_n D_Wr_isClosed_0 rfl rfl ?_
  refine xr_getf F_Wr_50 D_Wr_isClosed_1 rfl rfl ?_
  refine xr_zret rfl (by first | rfl | exact nar_b2 | exact nar_z hz) D_Wr_isClosed_4 ?_
  exact rfl

theorem c_Wr_pageCount_13 {I : mI} {A : mA} {L : mL}   : xm m_Wr_pageCount (0, 0) [.ref 13] (pic I A L) 0 0 (fun o => o = (.inl (some (.int (I 1311))), (pic I A L))) := by
  refine xm_of rfl (by decide) (Nat.le_of_ble_eq_true rfl) ?_
  refine xr_aload_n D_Wr_pageCount_0 rfl rfl ?_
  refine xr_getf F_Wr_54 D_Wr_pageCount_1 rfl rfl ?_
  refine xr_iret rfl D_Wr_pageCount_4 ?_
  exact rfl

theorem c_Wr_hasTold_13 {I : mI} {A : mA} {L : mL} {f : Int32}  : xm m_Wr_hasTold (1, 20) [.ref 13, .int f] (pic I A L) 0 0 (fun o => o = (.inl (some (.int (b2 ((0 ≤ f ∧ f ≤ 255) ∧ ¬ A 20 f.toNatClampNeg = 0)))), (pic I A L))) := by
  refine xm_of rfl (by decide) (Nat.le_of_ble_eq_true rfl) ?_
  refine xr_iload_n D_Wr_hasTold_0 rfl rfl ?_
  refine xr_cSx (as := [_]) (c_Dv_isByte) (L_Wr_57) (CD_Dv_isByte) D_Wr_hasTold_1 rfl (by decide) (Nat.le_of_ble_eq_true rfl) (Nat.le_of_eq (Nat.zero_add _)) (Nat.le_of_eq (Nat.zero_add _)) pic_len ?_
  rintro _ rfl
  refine ⟨_, _, rfl, rfl, ?_⟩
  refine xr_if_eq (tgt := 20) D_Wr_hasTold_4 rfl (fun c1 => ?_) (fun c1 => ?_)
  · rw [b2_0] at c1
    refine xr_iconst (v := 0) D_Wr_hasTold_20 rfl ?_
    refine xr_zret rfl (by first | rfl | exact nar_b2 | exact nar_z hz) D_Wr_hasTold_21 ?_
    first | exact ob_t (by grind) | exact ob_f (by grind)
  · rw [b2_n] at c1
    refine xr_aload_n D_Wr_hasTold_7 rfl rfl ?_
    refine xr_getf F_Wr_30 D_Wr_hasTold_8 rfl rfl ?_
    refine xr_iload_n D_Wr_hasTold_11 rfl rfl ?_
    refine xr_zald D_Wr_hasTold_12 rfl (by exact i_in2 256 (by grind) (by grind) rfl) ?_
    refine xr_if_eq (tgt := 20) D_Wr_hasTold_13 rfl (fun c2 => ?_) (fun c2 => ?_)
    · refine xr_iconst (v := 0) D_Wr_hasTold_20 rfl ?_
      refine xr_zret rfl (by first | rfl | exact nar_b2 | exact nar_z hz) D_Wr_hasTold_21 ?_
      first | exact ob_t (by grind) | exact ob_f (by grind)
    · refine xr_iconst (v := 1) D_Wr_hasTold_16 rfl ?_
      refine xr_goto (tgt := 21) D_Wr_hasTold_17 rfl ?_
      refine xr_zret rfl (by first | rfl | exact nar_b2 | exact nar_z hz) D_Wr_hasTold_21 ?_
      first | exact ob_t (by grind) | exact ob_f (by grind)

theorem c_Dv_letterOf {I : mI} {A : mA} {L : mL} {a : Int64} {b : Int64} {i : Int32}  : xm m_Dv_letterOf (0, 0) [.long a, .long b, .int i] (pic I A L) 0 0 (fun o => o = (.inl (some (.int (letC a b i))), (pic I A L))) := by
  refine xm_of rfl (by decide) (Nat.le_of_ble_eq_true rfl) ?_
  refine xr_iload D_Dv_letterOf_0 rfl ?_
  refine xr_bipush (v := 8) D_Dv_letterOf_2 rfl ?_
  refine xr_icmp_ge (tgt := 11) D_Dv_letterOf_4 rfl (fun c1 => ?_) (fun c1 => ?_)
  · refine xr_lload_n D_Dv_letterOf_11 rfl rfl ?_
    refine xr_lstore D_Dv_letterOf_12 (by decide) ?_
    refine xr_lload D_Dv_letterOf_14 rfl ?_
    refine xr_bipush (v := 8) D_Dv_letterOf_16 rfl ?_
    refine xr_iload D_Dv_letterOf_18 rfl ?_
    refine xr_bipush (v := 7) D_Dv_letterOf_20 rfl ?_
    refine xr_iand D_Dv_letterOf_22 ?_
    refine xr_imul D_Dv_letterOf_23 ?_
    refine xr_lushr D_Dv_letterOf_24 ?_
    refine xr_l2i D_Dv_letterOf_25 ?_
    refine xr_sipush (v := 255) D_Dv_letterOf_26 rfl ?_
    refine xr_iand D_Dv_letterOf_29 ?_
    refine xr_iret rfl D_Dv_letterOf_30 ?_
    first | exact oi (by unfold letC; rw [if_pos (by grind)]) | exact oi (by unfold letC; rw [if_neg (by grind)])
  · refine xr_lload_n D_Dv_letterOf_7 rfl rfl ?_
    refine xr_goto (tgt := 12) D_Dv_letterOf_8 rfl ?_
    refine xr_lstore D_Dv_letterOf_12 (by decide) ?_
    refine xr_lload D_Dv_letterOf_14 rfl ?_
    refine xr_bipush (v := 8) D_Dv_letterOf_16 rfl ?_
    refine xr_iload D_Dv_letterOf_18 rfl ?_
    refine xr_bipush (v := 7) D_Dv_letterOf_20 rfl ?_
    refine xr_iand D_Dv_letterOf_22 ?_
    refine xr_imul D_Dv_letterOf_23 ?_
    refine xr_lushr D_Dv_letterOf_24 ?_
    refine xr_l2i D_Dv_letterOf_25 ?_
    refine xr_sipush (v := 255) D_Dv_letterOf_26 rfl ?_
    refine xr_iand D_Dv_letterOf_29 ?_
    refine xr_iret rfl D_Dv_letterOf_30 ?_
    first | exact oi (by unfold letC; rw [if_pos (by grind)]) | exact oi (by unfold letC; rw [if_neg (by grind)])
