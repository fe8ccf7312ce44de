theorem c_Dv_isByte {h : List xC} {n : Int32} : xm m_Dv_isByte (0, 0) [.int n] h 0 0 (fun o => o = (.inl (some (.int (b2 (0 ≤ n ∧ n ≤ 255)))), h)) := by
  refine xm_of rfl (by decide) (Nat.le_of_ble_eq_true rfl) ?_
  refine xr_iload_n D_Dv_isByte_0 rfl rfl ?_
  refine xr_if_lt (tgt := 15) D_Dv_isByte_1 rfl (fun c1 => ?_) (fun c1 => ?_)
  · refine xr_iconst (v := 0) D_Dv_isByte_15 rfl ?_
    refine xr_zret rfl (by first | rfl | exact nar_b2 | exact nar_z hz) D_Dv_isByte_16 ?_
    first | exact ob_t (by grind) | exact ob_f (by grind)
  · refine xr_iload_n D_Dv_isByte_4 rfl rfl ?_
    refine xr_sipush (v := 255) D_Dv_isByte_5 rfl ?_
    refine xr_icmp_gt (tgt := 15) D_Dv_isByte_8 rfl (fun c2 => ?_) (fun c2 => ?_)
    · refine xr_iconst (v := 0) D_Dv_isByte_15 rfl ?_
      refine xr_zret rfl (by first | rfl | exact nar_b2 | exact nar_z hz) D_Dv_isByte_16 ?_
      first | exact ob_t (by grind) | exact ob_f (by grind)
    · refine xr_iconst (v := 1) D_Dv_isByte_11 rfl ?_
      refine xr_goto (tgt := 16) D_Dv_isByte_12 rfl ?_
      refine xr_zret rfl (by first | rfl | exact nar_b2 | exact nar_z hz) D_Dv_isByte_16 ?_
      first | exact ob_t (by grind) | exact ob_f (by grind)

theorem c_Dv_isNear {h : List xC} {n : Int32} : xm m_Dv_isNear (0, 0) [.int n] h 0 0 (fun o => o = (.inl (some (.int (b2 (-1000000000 ≤ n ∧ n ≤ 1000000000)))), h)) := by
  refine xm_of rfl (by decide) (Nat.le_of_ble_eq_true rfl) ?_
  refine xr_iload_n D_Dv_isNear_0 rfl rfl ?_
  refine xr_ldc (v := (-1000000000)) D_Dv_isNear_1 K_Dv_244 ?_
  refine xr_icmp_lt (tgt := 16) D_Dv_isNear_3 rfl (fun c1 => ?_) (fun c1 => ?_)
  · refine xr_iconst (v := 0) D_Dv_isNear_16 rfl ?_
    refine xr_zret rfl (by first | rfl | exact nar_b2 | exact nar_z hz) D_Dv_isNear_17 ?_
    first | exact ob_t (by grind) | exact ob_f (by grind)
  · refine xr_iload_n D_Dv_isNear_6 rfl rfl ?_
    refine xr_ldc (v := 1000000000) D_Dv_isNear_7 K_Dv_245 ?_
    refine xr_icmp_gt (tgt := 16) D_Dv_isNear_9 rfl (fun c2 => ?_) (fun c2 => ?_)
    · refine xr_iconst (v := 0) D_Dv_isNear_16 rfl ?_
      refine xr_zret rfl (by first | rfl | exact nar_b2 | exact nar_z hz) D_Dv_isNear_17 ?_
      first | exact ob_t (by grind) | exact ob_f (by grind)
    · refine xr_iconst (v := 1) D_Dv_isNear_12 rfl ?_
      refine xr_goto (tgt := 17) D_Dv_isNear_13 rfl ?_
      refine xr_zret rfl (by first | rfl | exact nar_b2 | exact nar_z hz) D_Dv_isNear_17 ?_
      first | exact ob_t (by grind) | exact ob_f (by grind)

theorem c_Dv_isExtent {h : List xC} {n : Int32} : xm m_Dv_isExtent (0, 0) [.int n] h 0 0 (fun o => o = (.inl (some (.int (b2 (1 ≤ n ∧ n ≤ 1000000000)))), h)) := by
  refine xm_of rfl (by decide) (Nat.le_of_ble_eq_true rfl) ?_
  refine xr_iload_n D_Dv_isExtent_0 rfl rfl ?_
  refine xr_iconst (v := 1) D_Dv_isExtent_1 rfl ?_
  refine xr_icmp_lt (tgt := 15) D_Dv_isExtent_2 rfl (fun c1 => ?_) (fun c1 => ?_)
  · refine xr_iconst (v := 0) D_Dv_isExtent_15 rfl ?_
    refine xr_zret rfl (by first | rfl | exact nar_b2 | exact nar_z hz) D_Dv_isExtent_16 ?_
    first | exact ob_t (by grind) | exact ob_f (by grind)
  · refine xr_iload_n D_Dv_isExtent_5 rfl rfl ?_
    refine xr_ldc (v := 1000000000) D_Dv_isExtent_6 K_Dv_245 ?_
    refine xr_icmp_gt (tgt := 15) D_Dv_isExtent_8 rfl (fun c2 => ?_) (fun c2 => ?_)
    · refine xr_iconst (v := 0) D_Dv_isExtent_15 rfl ?_
      refine xr_zret rfl (by first | rfl | exact nar_b2 | exact nar_z hz) D_Dv_isExtent_16 ?_
      first | exact ob_t (by grind) | exact ob_f (by grind)
    · refine xr_iconst (v := 1) D_Dv_isExtent_11 rfl ?_
      refine xr_goto (tgt := 16) D_Dv_isExtent_12 rfl ?_
      refine xr_zret rfl (by first | rfl | exact nar_b2 | exact nar_z hz) D_Dv_isExtent_16 ?_
      first | exact ob_t (by grind) | exact ob_f (by grind)

theorem c_Mo_isByte {h : List xC} {n : Int32} : xm m_Mo_isByte (0, 0) [.int n] h 0 0 (fun o => o = (.inl (some (.int (b2 (0 ≤ n ∧ n ≤ 255)))), h)) := by
  refine xm_of rfl (by decide) (Nat.le_of_ble_eq_true rfl) ?_
  refine xr_iload_n D_Mo_isByte_0 rfl rfl ?_
  refine xr_if_lt (tgt := 15) D_Mo_isByte_1 rfl (fun c1 => ?_) (fun c1 => ?_)
  · refine xr_iconst (v := 0) D_Mo_isByte_15 rfl ?_
    refine xr_zret rfl (by first | rfl | exact nar_b2 | exact nar_z hz) D_Mo_isByte_16 ?_
    first | exact ob_t (by grind) | exact ob_f (by grind)
  · refine xr_iload_n D_Mo_isByte_4 rfl rfl ?_
    refine xr_sipush (v := 255) D_Mo_isByte_5 rfl ?_
    refine xr_icmp_gt (tgt := 15) D_Mo_isByte_8 rfl (fun c2 => ?_) (fun c2 => ?_)
    · refine xr_iconst (v := 0) D_Mo_isByte_15 rfl ?_
      refine xr_zret rfl (by first | rfl | exact nar_b2 | exact nar_z hz) D_Mo_isByte_16 ?_
      first | exact ob_t (by grind) | exact ob_f (by grind)
    · refine xr_iconst (v := 1) D_Mo_isByte_11 rfl ?_
      refine xr_goto (tgt := 16) D_Mo_isByte_12 rfl ?_
      refine xr_zret rfl (by first | rfl | exact nar_b2 | exact nar_z hz) D_Mo_isByte_16 ?_
      first | exact ob_t (by grind) | exact ob_f (by grind)

theorem c_Mo_isPlace {h : List xC} {n : Int32} : xm m_Mo_isPlace (0, 0) [.int n] h 0 0 (fun o => o = (.inl (some (.int (b2 (-1000000000 ≤ n ∧ n ≤ 1000000000)))), h)) := by
  refine xm_of rfl (by decide) (Nat.le_of_ble_eq_true rfl) ?_
  refine xr_iload_n D_Mo_isPlace_0 rfl rfl ?_
  refine xr_ldc (v := (-1000000000)) D_Mo_isPlace_1 K_Mo_141 ?_
  refine xr_icmp_lt (tgt := 16) D_Mo_isPlace_3 rfl (fun c1 => ?_) (fun c1 => ?_)
  · refine xr_iconst (v := 0) D_Mo_isPlace_16 rfl ?_
    refine xr_zret rfl (by first | rfl | exact nar_b2 | exact nar_z hz) D_Mo_isPlace_17 ?_
    first | exact ob_t (by grind) | exact ob_f (by grind)
  · refine xr_iload_n D_Mo_isPlace_6 rfl rfl ?_
    refine xr_ldc (v := 1000000000) D_Mo_isPlace_7 K_Mo_142 ?_
    refine xr_icmp_gt (tgt := 16) D_Mo_isPlace_9 rfl (fun c2 => ?_) (fun c2 => ?_)
    · refine xr_iconst (v := 0) D_Mo_isPlace_16 rfl ?_
      refine xr_zret rfl (by first | rfl | exact nar_b2 | exact nar_z hz) D_Mo_isPlace_17 ?_
      first | exact ob_t (by grind) | exact ob_f (by grind)
    · refine xr_iconst (v := 1) D_Mo_isPlace_12 rfl ?_
      refine xr_goto (tgt := 17) D_Mo_isPlace_13 rfl ?_
      refine xr_zret rfl (by first | rfl | exact nar_b2 | exact nar_z hz) D_Mo_isPlace_17 ?_
      first | exact ob_t (by grind) | exact ob_f (by grind)

theorem c_Rg_isIn {h : List xC} {i : Int32} {m : Int32} {k : Int32} : xm m_Rg_isIn (0, 0) [.int i, .int m, .int k] h 0 0 (fun o => o = (.inl (some (.int (b2 (0 ≤ i ∧ i < m ∧ i < k)))), h)) := by
  refine xm_of rfl (by decide) (Nat.le_of_ble_eq_true rfl) ?_
  refine xr_iload_n D_Rg_isIn_0 rfl rfl ?_
  refine xr_if_lt (tgt := 18) D_Rg_isIn_1 rfl (fun c1 => ?_) (fun c1 => ?_)
  · refine xr_iconst (v := 0) D_Rg_isIn_18 rfl ?_
    refine xr_zret rfl (by first | rfl | exact nar_b2 | exact nar_z hz) D_Rg_isIn_19 ?_
    first | exact ob_t (by grind) | exact ob_f (by grind)
  · refine xr_iload_n D_Rg_isIn_4 rfl rfl ?_
    refine xr_iload_n D_Rg_isIn_5 rfl rfl ?_
    refine xr_icmp_ge (tgt := 18) D_Rg_isIn_6 rfl (fun c2 => ?_) (fun c2 => ?_)
    · refine xr_iconst (v := 0) D_Rg_isIn_18 rfl ?_
      refine xr_zret rfl (by first | rfl | exact nar_b2 | exact nar_z hz) D_Rg_isIn_19 ?_
      first | exact ob_t (by grind) | exact ob_f (by grind)
    · refine xr_iload_n D_Rg_isIn_9 rfl rfl ?_
      refine xr_iload_n D_Rg_isIn_10 rfl rfl ?_
      refine xr_icmp_ge (tgt := 18) D_Rg_isIn_11 rfl (fun c3 => ?_) (fun c3 => ?_)
      · refine xr_iconst (v := 0) D_Rg_isIn_18 rfl ?_
        refine xr_zret rfl (by first | rfl | exact nar_b2 | exact nar_z hz) D_Rg_isIn_19 ?_
        first | exact ob_t (by grind) | exact ob_f (by grind)
      · refine xr_iconst (v := 1) D_Rg_isIn_14 rfl ?_
        refine xr_goto (tgt := 19) D_Rg_isIn_15 rfl ?_
        refine xr_zret rfl (by first | rfl | exact nar_b2 | exact nar_z hz) D_Rg_isIn_19 ?_
        first | exact ob_t (by grind) | exact ob_f (by grind)

theorem c_By_length_14 {I : mI} {A : mA} {L : mL} : xm m_By_length (0, 0) [.ref 14] (pic I A L) 0 0 (fun o => o = (.inl (some (.int (I 1401))), pic I A L)) := by
  refine xm_of rfl (by decide) (Nat.le_of_ble_eq_true rfl) ?_
  refine xr_aload_n D_By_length_0 rfl rfl ?_
  refine xr_getf F_By_16 D_By_length_1 rfl rfl ?_
  refine xr_iret rfl D_By_length_4 ?_
  exact rfl

theorem c_By_at_14 {I : mI} {A : mA} {L : mL} {i : Int32} : xm m_By_at (0, 0) [.ref 14, .int i] (pic I A L) 0 0 (fun o => o = (.inl (some (.int (gat (I 1401) (A 15) i))), pic I A L)) := by
  refine xm_of rfl (by decide) (Nat.le_of_ble_eq_true rfl) ?_
  refine xr_iload_n D_By_at_0 rfl rfl ?_
  refine xr_if_lt (tgt := 34) D_By_at_1 rfl (fun c1 => ?_) (fun c1 => ?_)
  · refine xr_iconst (v := 0) D_By_at_34 rfl ?_
    refine xr_iret rfl D_By_at_35 ?_
    first | exact oi (gat_t (by grind)) | exact oi (gat_f (by grind))
  · refine xr_iload_n D_By_at_4 rfl rfl ?_
    refine xr_aload_n D_By_at_5 rfl rfl ?_
    refine xr_getf F_By_16 D_By_at_6 rfl rfl ?_
    refine xr_icmp_ge (tgt := 34) D_By_at_9 rfl (fun c2 => ?_) (fun c2 => ?_)
    · refine xr_iconst (v := 0) D_By_at_34 rfl ?_
      refine xr_iret rfl D_By_at_35 ?_
      first | exact oi (gat_t (by grind)) | exact oi (gat_f (by grind))
    · refine xr_iload_n D_By_at_12 rfl rfl ?_
      refine xr_aload_n D_By_at_13 rfl rfl ?_
      refine xr_getf F_By_10 D_By_at_14 rfl rfl ?_
      refine xr_alen (v := 70000) D_By_at_17 rfl (by simp [xtok]) rfl ?_
      refine xr_icmp_ge (tgt := 34) D_By_at_18 rfl (fun c3 => ?_) (fun c3 => ?_)
      · refine xr_iconst (v := 0) D_By_at_34 rfl ?_
        refine xr_iret rfl D_By_at_35 ?_
        first | exact oi (gat_t (by grind)) | exact oi (gat_f (by grind))
      · refine xr_aload_n D_By_at_21 rfl rfl ?_
        refine xr_getf F_By_10 D_By_at_22 rfl rfl ?_
        refine xr_iload_n D_By_at_25 rfl rfl ?_
        refine xr_bald D_By_at_26 rfl (by exact i_in2 70000 (by grind) (by grind) rfl) ?_
        refine xr_sipush (v := 255) D_By_at_27 rfl ?_
        refine xr_iand D_By_at_30 ?_
        refine xr_goto (tgt := 35) D_By_at_31 rfl ?_
        refine xr_iret rfl D_By_at_35 ?_
        first | exact oi (gat_t (by grind)) | exact oi (gat_f (by grind))

theorem c_By_length_22 {I : mI} {A : mA} {L : mL} : xm m_By_length (0, 0) [.ref 22] (pic I A L) 0 0 (fun o => o = (.inl (some (.int (I 2201))), pic I A L)) := by
  refine xm_of rfl (by decide) (Nat.le_of_ble_eq_true rfl) ?_
  refine xr_aload_n D_By_length_0 rfl rfl ?_
  refine xr_getf F_By_16 D_By_length_1 rfl rfl ?_
  refine xr_iret rfl D_By_length_4 ?_
  exact rfl

theorem c_By_at_22 {I : mI} {A : mA} {L : mL} {i : Int32} : xm m_By_at (0, 0) [.ref 22, .int i] (pic I A L) 0 0 (fun o => o = (.inl (some (.int (gat (I 2201) (A 23) i))), pic I A L)) := by
  refine xm_of rfl (by decide) (Nat.le_of_ble_eq_true rfl) ?_
  refine xr_iload_n D_By_at_0 rfl rfl ?_
  refine xr_if_lt (tgt := 34) D_By_at_1 rfl (fun c1 => ?_) (fun c1 => ?_)
  · refine xr_iconst (v := 0) D_By_at_34 rfl ?_
    refine xr_iret rfl D_By_at_35 ?_
    first | exact oi (gat_t (by grind)) | exact oi (gat_f (by grind))
  · refine xr_iload_n D_By_at_4 rfl rfl ?_
    refine xr_aload_n D_By_at_5 rfl rfl ?_
    refine xr_getf F_By_16 D_By_at_6 rfl rfl ?_
    refine xr_icmp_ge (tgt := 34) D_By_at_9 rfl (fun c2 => ?_) (fun c2 => ?_)
    · refine xr_iconst (v := 0) D_By_at_34 rfl ?_
      refine xr_iret rfl D_By_at_35 ?_
      first | exact oi (gat_t (by grind)) | exact oi (gat_f (by grind))
    · refine xr_iload_n D_By_at_12 rfl rfl ?_
      refine xr_aload_n D_By_at_13 rfl rfl ?_
      refine xr_getf F_By_10 D_By_at_14 rfl rfl ?_
      refine xr_alen (v := 70000) D_By_at_17 rfl (by simp [xtok]) rfl ?_
      refine xr_icmp_ge (tgt := 34) D_By_at_18 rfl (fun c3 => ?_) (fun c3 => ?_)
      · refine xr_iconst (v := 0) D_By_at_34 rfl ?_
        refine xr_iret rfl D_By_at_35 ?_
        first | exact oi (gat_t (by grind)) | exact oi (gat_f (by grind))
      · refine xr_aload_n D_By_at_21 rfl rfl ?_
        refine xr_getf F_By_10 D_By_at_22 rfl rfl ?_
        refine xr_iload_n D_By_at_25 rfl rfl ?_
        refine xr_bald D_By_at_26 rfl (by exact i_in2 70000 (by grind) (by grind) rfl) ?_
        refine xr_sipush (v := 255) D_By_at_27 rfl ?_
        refine xr_iand D_By_at_30 ?_
        refine xr_goto (tgt := 35) D_By_at_31 rfl ?_
        refine xr_iret rfl D_By_at_35 ?_
        first | exact oi (gat_t (by grind)) | exact oi (gat_f (by grind))

theorem c_By_length_29 {I : mI} {A : mA} {L : mL} : xm m_By_length (0, 0) [.ref 29] (pic I A L) 0 0 (fun o => o = (.inl (some (.int (I 2901))), pic I A L)) := by
  refine xm_of rfl (by decide) (Nat.le_of_ble_eq_true rfl) ?_
  refine xr_aload_n D_By_length_0 rfl rfl ?_
  refine xr_getf F_By_16 D_By_length_1 rfl rfl ?_
  refine xr_iret rfl D_By_length_4 ?_
  exact rfl

theorem c_By_at_29 {I : mI} {A : mA} {L : mL} {i : Int32} : xm m_By_at (0, 0) [.ref 29, .int i] (pic I A L) 0 0 (fun o => o = (.inl (some (.int (gat (I 2901) (A 30) i))), pic I A L)) := by
  refine xm_of rfl (by decide) (Nat.le_of_ble_eq_true rfl) ?_
  refine xr_iload_n D_By_at_0 rfl rfl ?_
  refine xr_if_lt (tgt := 34) D_By_at_1 rfl (fun c1 => ?_) (fun c1 => ?_)
  · refine xr_iconst (v := 0) D_By_at_34 rfl ?_
    refine xr_iret rfl D_By_at_35 ?_
    first | exact oi (gat_t (by grind)) | exact oi (gat_f (by grind))
  · refine xr_iload_n D_By_at_4 rfl rfl ?_
    refine xr_aload_n D_By_at_5 rfl rfl ?_
    refine xr_getf F_By_16 D_By_at_6 rfl rfl ?_
    refine xr_icmp_ge (tgt := 34) D_By_at_9 rfl (fun c2 => ?_) (fun c2 => ?_)
    · refine xr_iconst (v := 0) D_By_at_34 rfl ?_
      refine xr_iret rfl D_By_at_35 ?_
      first | exact oi (gat_t (by grind)) | exact oi (gat_f (by grind))
    · refine xr_iload_n D_By_at_12 rfl rfl ?_
      refine xr_aload_n D_By_at_13 rfl rfl ?_
      refine xr_getf F_By_10 D_By_at_14 rfl rfl ?_
      refine xr_alen (v := 70000) D_By_at_17 rfl (by simp [xtok]) rfl ?_
      refine xr_icmp_ge (tgt := 34) D_By_at_18 rfl (fun c3 => ?_) (fun c3 => ?_)
      · refine xr_iconst (v := 0) D_By_at_34 rfl ?_
        refine xr_iret rfl D_By_at_35 ?_
        first | exact oi (gat_t (by grind)) | exact oi (gat_f (by grind))
      · refine xr_aload_n D_By_at_21 rfl rfl ?_
        refine xr_getf F_By_10 D_By_at_22 rfl rfl ?_
        refine xr_iload_n D_By_at_25 rfl rfl ?_
        refine xr_bald D_By_at_26 rfl (by exact i_in2 70000 (by grind) (by grind) rfl) ?_
        refine xr_sipush (v := 255) D_By_at_27 rfl ?_
        refine xr_iand D_By_at_30 ?_
        refine xr_goto (tgt := 35) D_By_at_31 rfl ?_
        refine xr_iret rfl D_By_at_35 ?_
        first | exact oi (gat_t (by grind)) | exact oi (gat_f (by grind))
