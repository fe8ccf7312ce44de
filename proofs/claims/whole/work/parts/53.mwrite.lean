theorem l_Mo_df {L : mL} {f : Int32} (hf : 0 ≤ f ∧ f ≤ 255) : ∀ (t j : Nat) (I : mI) (A : mA) (B : List Int32), (j : Int) + t = (A 39 f.toNatClampNeg).toInt → A 39 f.toNatClampNeg ≤ 16 → B.length + t ≤ 131072 → isO (I 3409) (A 43) B → xr m_Mo_define none (2, 44) 62 [some (.ref 34), some (.int f), some (.int (Int32.ofNat j))] [] (pic I A L) 0 0 (pM I A L (B ++ nmM (A 40) f t j)) := by
  have e16 : (16 : Int32).toInt = 16 := rfl
  intro t
  induction t with
  | zero =>
    intro j I A B hj hl9 hl hB
    have hl8 := i_le.mp hl9
    refine xr_iload_n D_Mo_define_62 rfl rfl ?_
    refine xr_aload_n D_Mo_define_63 rfl rfl ?_
    refine xr_getf F_Mo_23 D_Mo_define_64 rfl rfl ?_
    refine xr_iload_n D_Mo_define_67 rfl rfl ?_
    refine xr_iald D_Mo_define_68 rfl (by exact i_in2 256 (by grind) (by grind) rfl) ?_
    refine xr_icmp_ge (tgt := 93) D_Mo_define_69 rfl (fun c1 => ?_) (fun c1 => ?_)
    · refine xr_vret rfl D_Mo_define_93 ?_
      exact ⟨I, A, rfl, frI_rf, frA_rf, by rw [show nmM (A 40) f 0 j = [] from rfl, List.append_nil]; exact hB⟩
    · exact absurd (show A 39 f.toNatClampNeg ≤ Int32.ofNat j from i_le.mpr (by rw [i_of (by omega)]; omega)) c1
  | succ t ih =>
    intro j I A B hj hl9 hl hB
    have hl8 := i_le.mp hl9
    have hj0 : 0 ≤ Int32.ofNat j := i_le.mpr (by rw [i_of (by omega), z0]; omega)
    have hj1 : Int32.ofNat j < 16 := i_lt.mpr (by rw [i_of (by omega)]; omega)
    have f0 : frI [3409] I I := frI_rf
    have a0 : frA [43] A A := frA_rf
    refine xr_iload_n D_Mo_define_62 rfl rfl ?_
    refine xr_aload_n D_Mo_define_63 rfl rfl ?_
    refine xr_getf F_Mo_23 D_Mo_define_64 rfl rfl ?_
    refine xr_iload_n D_Mo_define_67 rfl rfl ?_
    refine xr_iald D_Mo_define_68 rfl (by exact i_in2 256 (by grind) (by grind) rfl) ?_
    refine xr_icmp_ge (tgt := 93) D_Mo_define_69 rfl (fun c1 => ?_) (fun c1 => ?_)
    · exact absurd (show A 39 f.toNatClampNeg ≤ Int32.ofNat j from c1) (fun q => by rw [i_le, i_of (by omega)] at q; omega)
    · refine xr_aload_n D_Mo_define_72 rfl rfl ?_
      refine xr_aload_n D_Mo_define_73 rfl rfl ?_
      refine xr_getf F_Mo_26 D_Mo_define_74 rfl rfl ?_
      refine xr_bipush (v := 16) D_Mo_define_77 rfl ?_
      refine xr_iload_n D_Mo_define_79 rfl rfl ?_
      refine xr_imul D_Mo_define_80 ?_
      refine xr_iload_n D_Mo_define_81 rfl rfl ?_
      refine xr_iadd D_Mo_define_82 ?_
      refine xr_bald D_Mo_define_83 rfl (by exact i_in2 4096 (by grind) (by grind) rfl) ?_
      refine xr_cVv (as := [_]) (n_Mo_lay (by first | omega | (simp only [List.length_append, List.length_cons, List.length_nil, numB_len]; omega)) hB) (L_Mo_150) (CD_Mo_lay) CI_Mo D_Mo_define_84 rfl rfl (by decide) (Nat.le_of_ble_eq_true rfl) (Nat.le_of_eq (Nat.zero_add _)) (Nat.le_of_eq (Nat.zero_add _)) pic_len ?_
      rintro _ ⟨I1, A1, rfl, hI1, hA1, hB1⟩
      refine ⟨_, rfl, pic_leq, ?_⟩
      have f1 := frI_tr (ks := [3409]) f0 hI1 (fun _ h => h) (fun _ h => h)
      have a1 := frA_tr (ks := [43]) a0 hA1 (fun _ h => h) (fun _ h => h)
      refine xr_iinc (c9 := 1) D_Mo_define_87 rfl rfl (by decide) ?_
      refine xr_goto (tgt := 62) D_Mo_define_90 rfl ?_
      rw [io_succ]
      refine xr_mono (ih (j + 1) _ _ _ (by rw [hA1 39 (by decide)]; omega) (by rw [hA1 39 (by decide)]; exact hl9) (by simp; omega) hB1) (pM_tr hI1 hA1 ?_)
      rw [hA1 40 (by decide), List.append_assoc]
      rfl

theorem c_Mo_define_34 {I : mI} {A : mA} {L : mL} {B : List Int32} {f : Int32} (hf : 0 ≤ f ∧ f ≤ 255) (h0 : 0 ≤ A 39 f.toNatClampNeg) (h1 : A 39 f.toNatClampNeg ≤ 16) (hl : B.length + 32 ≤ 131072) (hB : isO (I 3409) (A 43) B) : xm m_Mo_define (2, 44) [.ref 34, .int f] (pic I A L) 0 0 (pM I A L (B ++ defM A f)) := by
  have f0 : frI [3409] I I := frI_rf
  have a0 : frA [43] A A := frA_rf
  refine xm_of rfl (by decide) (Nat.le_of_ble_eq_true rfl) ?_
  refine xr_aload_n D_Mo_define_0 rfl rfl ?_
  refine xr_sipush (v := 243) D_Mo_define_1 rfl ?_
  refine xr_cVv (as := [_]) (n_Mo_lay (by first | omega | (simp only [List.length_append, List.length_cons, List.length_nil, numB_len]; omega)) hB) (L_Mo_150) (CD_Mo_lay) CI_Mo D_Mo_define_4 rfl rfl (by decide) (Nat.le_of_ble_eq_true rfl) (Nat.le_of_eq (Nat.zero_add _)) (Nat.le_of_eq (Nat.zero_add _)) pic_len ?_
  rintro _ ⟨I1, A1, rfl, hI1, hA1, hB1⟩
  refine ⟨_, rfl, pic_leq, ?_⟩
  have f1 := frI_tr (ks := [3409]) f0 hI1 (fun _ h => h) (fun _ h => h)
  have a1 := frA_tr (ks := [43]) a0 hA1 (fun _ h => h) (fun _ h => h)
  refine xr_aload_n D_Mo_define_7 rfl rfl ?_
  refine xr_iload_n D_Mo_define_8 rfl rfl ?_
  refine xr_cVv (as := [_]) (n_Mo_lay (by first | omega | (simp only [List.length_append, List.length_cons, List.length_nil, numB_len]; omega)) hB1) (L_Mo_150) (CD_Mo_lay) CI_Mo D_Mo_define_9 rfl rfl (by decide) (Nat.le_of_ble_eq_true rfl) (Nat.le_of_eq (Nat.zero_add _)) (Nat.le_of_eq (Nat.zero_add _)) pic_len ?_
  rintro _ ⟨I2, A2, rfl, hI2, hA2, hB2⟩
  refine ⟨_, rfl, pic_leq, ?_⟩
  have f2 := frI_tr (ks := [3409]) f1 hI2 (fun _ h => h) (fun _ h => h)
  have a2 := frA_tr (ks := [43]) a1 hA2 (fun _ h => h) (fun _ h => h)
  refine xr_aload_n D_Mo_define_12 rfl rfl ?_
  refine xr_aload_n D_Mo_define_13 rfl rfl ?_
  refine xr_getf F_Mo_13 D_Mo_define_14 rfl rfl ?_
  refine xr_iload_n D_Mo_define_17 rfl rfl ?_
  refine xr_iald D_Mo_define_18 rfl (by exact i_in2 256 (by grind) (by grind) rfl) ?_
  refine xr_iconst (v := 4) D_Mo_define_19 rfl ?_
  refine xr_cVv (as := [_, _]) (n_Mo_layNumber 4 rfl (by decide) (by first | omega | (simp only [List.length_append, List.length_cons, List.length_nil, numB_len]; omega)) hB2) (L_Mo_173) (CD_Mo_layNumber) CI_Mo D_Mo_define_20 rfl rfl (by decide) (Nat.le_of_ble_eq_true rfl) (Nat.le_of_eq (Nat.zero_add _)) (Nat.le_of_eq (Nat.zero_add _)) pic_len ?_
  rintro _ ⟨I3, A3, rfl, hI3, hA3, hB3⟩
  refine ⟨_, rfl, pic_leq, ?_⟩
  have f3 := frI_tr (ks := [3409]) f2 hI3 (fun _ h => h) (fun _ h => h)
  have a3 := frA_tr (ks := [43]) a2 hA3 (fun _ h => h) (fun _ h => h)
  rw [a2 36 (by decide)] at hB3
  refine xr_aload_n D_Mo_define_23 rfl rfl ?_
  refine xr_aload_n D_Mo_define_24 rfl rfl ?_
  refine xr_getf F_Mo_17 D_Mo_define_25 rfl rfl ?_
  refine xr_iload_n D_Mo_define_28 rfl rfl ?_
  refine xr_iald D_Mo_define_29 rfl (by exact i_in2 256 (by grind) (by grind) rfl) ?_
  refine xr_iconst (v := 4) D_Mo_define_30 rfl ?_
  refine xr_cVv (as := [_, _]) (n_Mo_layNumber 4 rfl (by decide) (by first | omega | (simp only [List.length_append, List.length_cons, List.length_nil, numB_len]; omega)) hB3) (L_Mo_173) (CD_Mo_layNumber) CI_Mo D_Mo_define_31 rfl rfl (by decide) (Nat.le_of_ble_eq_true rfl) (Nat.le_of_eq (Nat.zero_add _)) (Nat.le_of_eq (Nat.zero_add _)) pic_len ?_
  rintro _ ⟨I4, A4, rfl, hI4, hA4, hB4⟩
  refine ⟨_, rfl, pic_leq, ?_⟩
  have f4 := frI_tr (ks := [3409]) f3 hI4 (fun _ h => h) (fun _ h => h)
  have a4 := frA_tr (ks := [43]) a3 hA4 (fun _ h => h) (fun _ h => h)
  rw [a3 37 (by decide)] at hB4
  refine xr_aload_n D_Mo_define_34 rfl rfl ?_
  refine xr_aload_n D_Mo_define_35 rfl rfl ?_
  refine xr_getf F_Mo_20 D_Mo_define_36 rfl rfl ?_
  refine xr_iload_n D_Mo_define_39 rfl rfl ?_
  refine xr_iald D_Mo_define_40 rfl (by exact i_in2 256 (by grind) (by grind) rfl) ?_
  refine xr_iconst (v := 4) D_Mo_define_41 rfl ?_
  refine xr_cVv (as := [_, _]) (n_Mo_layNumber 4 rfl (by decide) (by first | omega | (simp only [List.length_append, List.length_cons, List.length_nil, numB_len]; omega)) hB4) (L_Mo_173) (CD_Mo_layNumber) CI_Mo D_Mo_define_42 rfl rfl (by decide) (Nat.le_of_ble_eq_true rfl) (Nat.le_of_eq (Nat.zero_add _)) (Nat.le_of_eq (Nat.zero_add _)) pic_len ?_
  rintro _ ⟨I5, A5, rfl, hI5, hA5, hB5⟩
  refine ⟨_, rfl, pic_leq, ?_⟩
  have f5 := frI_tr (ks := [3409]) f4 hI5 (fun _ h => h) (fun _ h => h)
  have a5 := frA_tr (ks := [43]) a4 hA5 (fun _ h => h) (fun _ h => h)
  rw [a4 38 (by decide)] at hB5
  refine xr_aload_n D_Mo_define_45 rfl rfl ?_
  refine xr_iconst (v := 0) D_Mo_define_46 rfl ?_
  refine xr_cVv (as := [_]) (n_Mo_lay (by first | omega | (simp only [List.length_append, List.length_cons, List.length_nil, numB_len]; omega)) hB5) (L_Mo_150) (CD_Mo_lay) CI_Mo D_Mo_define_47 rfl rfl (by decide) (Nat.le_of_ble_eq_true rfl) (Nat.le_of_eq (Nat.zero_add _)) (Nat.le_of_eq (Nat.zero_add _)) pic_len ?_
  rintro _ ⟨I6, A6, rfl, hI6, hA6, hB6⟩
  refine ⟨_, rfl, pic_leq, ?_⟩
  have f6 := frI_tr (ks := [3409]) f5 hI6 (fun _ h => h) (fun _ h => h)
  have a6 := frA_tr (ks := [43]) a5 hA6 (fun _ h => h) (fun _ h => h)
  refine xr_aload_n D_Mo_define_50 rfl rfl ?_
  refine xr_aload_n D_Mo_define_51 rfl rfl ?_
  refine xr_getf F_Mo_23 D_Mo_define_52 rfl rfl ?_
  refine xr_iload_n D_Mo_define_55 rfl rfl ?_
  refine xr_iald D_Mo_define_56 rfl (by exact i_in2 256 (by grind) (by grind) rfl) ?_
  refine xr_cVv (as := [_]) (n_Mo_lay (by first | omega | (simp only [List.length_append, List.length_cons, List.length_nil, numB_len]; omega)) hB6) (L_Mo_150) (CD_Mo_lay) CI_Mo D_Mo_define_57 rfl rfl (by decide) (Nat.le_of_ble_eq_true rfl) (Nat.le_of_eq (Nat.zero_add _)) (Nat.le_of_eq (Nat.zero_add _)) pic_len ?_
  rintro _ ⟨I7, A7, rfl, hI7, hA7, hB7⟩
  refine ⟨_, rfl, pic_leq, ?_⟩
  have f7 := frI_tr (ks := [3409]) f6 hI7 (fun _ h => h) (fun _ h => h)
  have a7 := frA_tr (ks := [43]) a6 hA7 (fun _ h => h) (fun _ h => h)
  rw [a6 39 (by decide)] at hB7
  refine xr_iconst (v := 0) D_Mo_define_60 rfl ?_
  refine xr_istore_n D_Mo_define_61 rfl (by decide) ?_
  have g0 := i_le.mp h0
  rw [z0] at g0
  have g1 := i_le.mp h1
  rw [show (16 : Int32).toInt = 16 from rfl] at g1
  refine xr_mono (l_Mo_df hf (A 39 f.toNatClampNeg).toInt.toNat 0 _ _ _ (by rw [a7 39 (by decide)]; omega) (by rw [a7 39 (by decide)]; exact h1) (by first | omega | (simp only [List.length_append, List.length_cons, List.length_nil, numB_len]; omega)) hB7) (pM_tr f7 a7 ?_)
  rw [a7 40 (by decide)]
  simp only [List.append_assoc, List.cons_append, List.nil_append]
  rfl

theorem l_Mo_op {L : mL} : ∀ (t j : Nat) (I : mI) (A : mA) (B : List Int32), (j : Int) + t = (I 3411).toInt → I 3411 ≤ 255 → B.length + t ≤ 131072 → isO (I 3409) (A 43) B → xr m_Mo_open none (2, 44) 51 [some (.ref 34), some (.int (Int32.ofNat j))] [] (pic I A L) 0 0 (pM I A L (B ++ List.replicate t (I 3412 &&& 255))) := by
  have e255 : (255 : Int32).toInt = 255 := rfl
  intro t
  induction t with
  | zero =>
    intro j I A B hj hl9 hl hB
    have hl8 := i_le.mp hl9
    refine xr_iload_n D_Mo_open_51 rfl rfl ?_
    refine xr_aload_n D_Mo_open_52 rfl rfl ?_
    refine xr_getf F_Mo_122 D_Mo_open_53 rfl rfl ?_
    refine xr_icmp_ge (tgt := 73) D_Mo_open_56 rfl (fun c1 => ?_) (fun c1 => ?_)
    · refine xr_vret rfl D_Mo_open_73 ?_
      exact ⟨I, A, rfl, frI_rf, frA_rf, by rw [List.replicate_zero, List.append_nil]; exact hB⟩
    · exact absurd (show I 3411 ≤ Int32.ofNat j from i_le.mpr (by rw [i_of (by omega)]; omega)) c1
  | succ t ih =>
    intro j I A B hj hl9 hl hB
    have hl8 := i_le.mp hl9
    have f0 : frI [3409] I I := frI_rf
    have a0 : frA [43] A A := frA_rf
    refine xr_iload_n D_Mo_open_51 rfl rfl ?_
    refine xr_aload_n D_Mo_open_52 rfl rfl ?_
    refine xr_getf F_Mo_122 D_Mo_open_53 rfl rfl ?_
    refine xr_icmp_ge (tgt := 73) D_Mo_open_56 rfl (fun c1 => ?_) (fun c1 => ?_)
    · exact absurd (show I 3411 ≤ Int32.ofNat j from c1) (fun q => by rw [i_le, i_of (by omega)] at q; omega)
    · refine xr_aload_n D_Mo_open_59 rfl rfl ?_
      refine xr_aload_n D_Mo_open_60 rfl rfl ?_
      refine xr_getf F_Mo_125 D_Mo_open_61 rfl rfl ?_
      refine xr_cVv (as := [_]) (n_Mo_lay (by first | omega | (simp only [List.length_append, List.length_cons, List.length_nil, numB_len]; omega)) hB) (L_Mo_150) (CD_Mo_lay) CI_Mo D_Mo_open_64 rfl rfl (by decide) (Nat.le_of_ble_eq_true rfl) (Nat.le_of_eq (Nat.zero_add _)) (Nat.le_of_eq (Nat.zero_add _)) pic_len ?_
      rintro _ ⟨I1, A1, rfl, hI1, hA1, hB1⟩
      refine ⟨_, rfl, pic_leq, ?_⟩
      have f1 := frI_tr (ks := [3409]) f0 hI1 (fun _ h => h) (fun _ h => h)
      have a1 := frA_tr (ks := [43]) a0 hA1 (fun _ h => h) (fun _ h => h)
      refine xr_iinc (c9 := 1) D_Mo_open_67 rfl rfl (by decide) ?_
      refine xr_goto (tgt := 51) D_Mo_open_70 rfl ?_
      rw [io_succ]
      refine xr_mono (ih (j + 1) _ _ _ (by rw [hI1 3411 (by decide)]; omega) (by rw [hI1 3411 (by decide)]; exact hl9) (by simp; omega) hB1) (pM_tr hI1 hA1 ?_)
      rw [hI1 3412 (by decide), List.append_assoc]
      rfl

theorem c_Mo_open_34 {I : mI} {A : mA} {L : mL} {B : List Int32} (h0 : 0 ≤ I 3411) (h1 : I 3411 ≤ 255) (hl : B.length + 300 ≤ 131072) (hB : isO (I 3409) (A 43) B) : xm m_Mo_open (2, 44) [.ref 34] (pic I A L) 0 0 (pM I A L (if B = [] then stB (I 3412) (I 3411) else B)) := by
  have f0 : frI [3409] I I := frI_rf
  have a0 : frA [43] A A := frA_rf
  refine xm_of rfl (by decide) (Nat.le_of_ble_eq_true rfl) ?_
  refine xr_aload_n D_Mo_open_0 rfl rfl ?_
  refine xr_getf F_Mo_116 D_Mo_open_1 rfl rfl ?_
  refine xr_if_ne (tgt := 73) D_Mo_open_4 rfl (fun c1 => ?_) (fun c1 => ?_)
  · refine xr_vret rfl D_Mo_open_73 ?_
    rw [if_neg (fun e => c1 (i_eq.mpr (by rw [hB.1, e, z0]; rfl)))]
    exact ⟨I, A, rfl, frI_rf, frA_rf, hB⟩
  · refine xr_aload_n D_Mo_open_7 rfl rfl ?_
    refine xr_sipush (v := 247) D_Mo_open_8 rfl ?_
    refine xr_cVv (as := [_]) (n_Mo_lay (by first | omega | (simp only [List.length_append, List.length_cons, List.length_nil, numB_len]; omega)) hB) (L_Mo_150) (CD_Mo_lay) CI_Mo D_Mo_open_11 rfl rfl (by decide) (Nat.le_of_ble_eq_true rfl) (Nat.le_of_eq (Nat.zero_add _)) (Nat.le_of_eq (Nat.zero_add _)) pic_len ?_
    rintro _ ⟨I1, A1, rfl, hI1, hA1, hB1⟩
    refine ⟨_, rfl, pic_leq, ?_⟩
    have f1 := frI_tr (ks := [3409]) f0 hI1 (fun _ h => h) (fun _ h => h)
    have a1 := frA_tr (ks := [43]) a0 hA1 (fun _ h => h) (fun _ h => h)
    refine xr_aload_n D_Mo_open_14 rfl rfl ?_
    refine xr_iconst (v := 2) D_Mo_open_15 rfl ?_
    refine xr_cVv (as := [_]) (n_Mo_lay (by first | omega | (simp only [List.length_append, List.length_cons, List.length_nil, numB_len]; omega)) hB1) (L_Mo_150) (CD_Mo_lay) CI_Mo D_Mo_open_16 rfl rfl (by decide) (Nat.le_of_ble_eq_true rfl) (Nat.le_of_eq (Nat.zero_add _)) (Nat.le_of_eq (Nat.zero_add _)) pic_len ?_
    rintro _ ⟨I2, A2, rfl, hI2, hA2, hB2⟩
    refine ⟨_, rfl, pic_leq, ?_⟩
    have f2 := frI_tr (ks := [3409]) f1 hI2 (fun _ h => h) (fun _ h => h)
    have a2 := frA_tr (ks := [43]) a1 hA2 (fun _ h => h) (fun _ h => h)
    refine xr_aload_n D_Mo_open_19 rfl rfl ?_
    refine xr_ldc (v := 25400000) D_Mo_open_20 K_Mo_177 ?_
    refine xr_iconst (v := 4) D_Mo_open_22 rfl ?_
    refine xr_cVv (as := [_, _]) (n_Mo_layNumber 4 rfl (by decide) (by first | omega | (simp only [List.length_append, List.length_cons, List.length_nil, numB_len]; omega)) hB2) (L_Mo_173) (CD_Mo_layNumber) CI_Mo D_Mo_open_23 rfl rfl (by decide) (Nat.le_of_ble_eq_true rfl) (Nat.le_of_eq (Nat.zero_add _)) (Nat.le_of_eq (Nat.zero_add _)) pic_len ?_
    rintro _ ⟨I3, A3, rfl, hI3, hA3, hB3⟩
    refine ⟨_, rfl, pic_leq, ?_⟩
    have f3 := frI_tr (ks := [3409]) f2 hI3 (fun _ h => h) (fun _ h => h)
    have a3 := frA_tr (ks := [43]) a2 hA3 (fun _ h => h) (fun _ h => h)
    refine xr_aload_n D_Mo_open_26 rfl rfl ?_
    refine xr_ldc (v := 473628672) D_Mo_open_27 K_Mo_178 ?_
    refine xr_iconst (v := 4) D_Mo_open_29 rfl ?_
    refine xr_cVv (as := [_, _]) (n_Mo_layNumber 4 rfl (by decide) (by first | omega | (simp only [List.length_append, List.length_cons, List.length_nil, numB_len]; omega)) hB3) (L_Mo_173) (CD_Mo_layNumber) CI_Mo D_Mo_open_30 rfl rfl (by decide) (Nat.le_of_ble_eq_true rfl) (Nat.le_of_eq (Nat.zero_add _)) (Nat.le_of_eq (Nat.zero_add _)) pic_len ?_
    rintro _ ⟨I4, A4, rfl, hI4, hA4, hB4⟩
    refine ⟨_, rfl, pic_leq, ?_⟩
    have f4 := frI_tr (ks := [3409]) f3 hI4 (fun _ h => h) (fun _ h => h)
    have a4 := frA_tr (ks := [43]) a3 hA4 (fun _ h => h) (fun _ h => h)
    refine xr_aload_n D_Mo_open_33 rfl rfl ?_
    refine xr_sipush (v := 1000) D_Mo_open_34 rfl ?_
    refine xr_iconst (v := 4) D_Mo_open_37 rfl ?_
    refine xr_cVv (as := [_, _]) (n_Mo_layNumber 4 rfl (by decide) (by first | omega | (simp only [List.length_append, List.length_cons, List.length_nil, numB_len]; omega)) hB4) (L_Mo_173) (CD_Mo_layNumber) CI_Mo D_Mo_open_38 rfl rfl (by decide) (Nat.le_of_ble_eq_true rfl) (Nat.le_of_eq (Nat.zero_add _)) (Nat.le_of_eq (Nat.zero_add _)) pic_len ?_
    rintro _ ⟨I5, A5, rfl, hI5, hA5, hB5⟩
    refine ⟨_, rfl, pic_leq, ?_⟩
    have f5 := frI_tr (ks := [3409]) f4 hI5 (fun _ h => h) (fun _ h => h)
    have a5 := frA_tr (ks := [43]) a4 hA5 (fun _ h => h) (fun _ h => h)
    refine xr_aload_n D_Mo_open_41 rfl rfl ?_
    refine xr_aload_n D_Mo_open_42 rfl rfl ?_
    refine xr_getf F_Mo_122 D_Mo_open_43 rfl rfl ?_
    refine xr_cVv (as := [_]) (n_Mo_lay (by first | omega | (simp only [List.length_append, List.length_cons, List.length_nil, numB_len]; omega)) hB5) (L_Mo_150) (CD_Mo_lay) CI_Mo D_Mo_open_46 rfl rfl (by decide) (Nat.le_of_ble_eq_true rfl) (Nat.le_of_eq (Nat.zero_add _)) (Nat.le_of_eq (Nat.zero_add _)) pic_len ?_
    rintro _ ⟨I6, A6, rfl, hI6, hA6, hB6⟩
    refine ⟨_, rfl, pic_leq, ?_⟩
    have f6 := frI_tr (ks := [3409]) f5 hI6 (fun _ h => h) (fun _ h => h)
    have a6 := frA_tr (ks := [43]) a5 hA6 (fun _ h => h) (fun _ h => h)
    rw [f5 3411 (by decide)] at hB6
    refine xr_iconst (v := 0) D_Mo_open_49 rfl ?_
    refine xr_istore_n D_Mo_open_50 rfl (by decide) ?_
    have g0 := i_le.mp h0
    rw [z0] at g0
    have g1 := i_le.mp h1
    rw [show (255 : Int32).toInt = 255 from rfl] at g1
    have eB : B = [] := List.eq_nil_of_length_eq_zero (by have q := hB.1; have q2 := i_eq.mp c1; rw [z0] at q2; omega)
    rw [if_pos eB]
    refine xr_mono (l_Mo_op (I 3411).toInt.toNat 0 _ _ _ (by rw [f6 3411 (by decide)]; omega) (by rw [f6 3411 (by decide)]; exact h1) (by first | omega | (simp only [List.length_append, List.length_cons, List.length_nil, numB_len]; omega)) hB6) (pM_tr f6 a6 ?_)
    rw [f6 3412 (by decide), eB]
    simp only [List.append_assoc, List.cons_append, List.nil_append]
    rfl

abbrev gwM (F C : Nat → Int32) (w : Nat → Int32) (k : Nat) : Int32 := if F k < 0 then 0 else w (256 * F k + C k).toNatClampNeg
def fmQ (I : mI) (A : mA) (L : mL) (X Y G : Nat → Int32) (n j : Nat) : xO → Prop := fun o =>
  ((∃ k, k < n ∧ ¬ okP X G k) ∧ ∃ A', o = (.inl (some (.int 0)), pic I A' L) ∧ frA [50, 51, 52] A A') ∨
  ((∀ k, j ≤ k → k < n → okP X G k) ∧ ∃ A', o = (.inl (some (.int 1)), pic I A' L) ∧ frA [50, 51, 52] A A' ∧ (∀ k, k < j → A' 50 k = A 50 k ∧ A' 51 k = A 51 k ∧ A' 52 k = A 52 k) ∧ (∀ k, j ≤ k → k < n → A' 50 k = rtP X G k ∧ A' 51 k = dnP Y k ∧ A' 52 k = hP X G (k + 1)))
theorem fmQ_tr {I : mI} {A A1 : mA} {L : mL} {X Y G : Nat → Int32} {n j : Nat} (hj : okP X G j) (f2 : frA [50, 51, 52] A A1) (e1 : ∀ k, k < j → A1 50 k = A 50 k ∧ A1 51 k = A 51 k ∧ A1 52 k = A 52 k) (e2 : A1 50 j = rtP X G j ∧ A1 51 j = dnP Y j ∧ A1 52 j = hP X G (j + 1)) : ∀ o, fmQ I A1 L X Y G n (j + 1) o → fmQ I A L X Y G n j o := by
  rintro o (⟨h1, A', h2, h4⟩ | ⟨h1, A', h2, h4, h7, h8⟩)
  · exact Or.inl ⟨h1, A', h2, frA_tr f2 h4 (fun _ h => h) (fun _ h => h)⟩
  · refine Or.inr ⟨fun k q1 q2 => ?_, A', h2, frA_tr f2 h4 (fun _ h => h) (fun _ h => h), fun k q => ?_, fun k q1 q2 => ?_⟩
    · by_cases e : k = j
      · rw [e]; exact hj
      · exact h1 k (by omega) q2
    · have a := h7 k (by omega)
      have b := e1 k q
      exact ⟨a.1.trans b.1, a.2.1.trans b.2.1, a.2.2.trans b.2.2⟩
    · by_cases e : k = j
      · subst e
        have a := h7 k (by omega)
        exact ⟨a.1.trans e2.1, a.2.1.trans e2.2.1, a.2.2.trans e2.2.2⟩
      · exact h8 k (by omega) q2
theorem fit_id {x : Int64} (h : fitL x) : x.toInt32.toInt64 = x := ((fit_iff x).mpr h).symm
theorem sub_i {x y : Int32} : (x.toInt64 - y.toInt64).toInt32 = x - y := by
  rw [Int64.toInt32_sub, Int32.toInt32_toInt64, Int32.toInt32_toInt64]

set_option maxHeartbeats 1000000 in
theorem l_Mo_fm {I : mI} {L : mL} {X Y G F C w : Nat → Int32} {n : Nat} (hn : n ≤ 500) (hm : (I 3420).toInt = (n : Int)) (hG : G = gwM F C w) (hF : ∀ k, k < n → F k < 0 ∨ ((0 ≤ F k ∧ F k ≤ 255) ∧ 0 ≤ C k ∧ C k ≤ 255)) : ∀ (t j : Nat) (A : mA) (h9 v9 : Int64) (x6 x7 : Option Value), j + t = n → h9 = (hP X G j).toInt64 → v9 = (vP Y j).toInt64 → A 47 = X → A 48 = Y → A 45 = F → A 46 = C → A 41 = w → xr m_Mo_findMoves none (1, 21) 7 [some (.ref 34), some (.long h9), none, some (.long v9), none, some (.int (Int32.ofNat j)), x6, x7] [] (pic I A L) 0 0 (fmQ I A L X Y G n j) := by
  intro t
  induction t with
  | zero =>
    intro j A h9 v9 x6 x7 hj hh hv e47 e48 e45 e46 e41
    subst hh hv e47 e48 e45 e46 e41
    refine xr_iload D_Mo_findMoves_7 rfl ?_
    refine xr_aload_n D_Mo_findMoves_9 rfl rfl ?_
    refine xr_getf F_Mo_119 D_Mo_findMoves_10 rfl rfl ?_
    refine xr_icmp_ge (tgt := 148) D_Mo_findMoves_13 rfl (fun c1 => ?_) (fun c1 => ?_)
    · refine xr_iconst (v := 1) D_Mo_findMoves_148 rfl ?_
      refine xr_zret rfl (by first | rfl | exact nar_b2 | exact nar_z hz) D_Mo_findMoves_149 ?_
      exact Or.inr ⟨fun k q1 q2 => absurd q1 (by omega), A, rfl, frA_rf, fun _ _ => ⟨rfl, rfl, rfl⟩, fun k q1 q2 => absurd q1 (by omega)⟩
    · exact absurd (i_le.mpr (by rw [hm, i_of (by omega)]; omega)) c1
  | succ t ih =>
    intro j A h9 v9 x6 x7 hj hh hv e47 e48 e45 e46 e41
    have ej : (Int32.ofNat j).toNatClampNeg = j := by rw [i_cl, i_of (by omega)]; omega
    have hb : vp_in (Int32.ofNat j) 500 := i_in (by rw [i_of (by omega)]; omega) (by rw [i_of (by omega)]; omega)
    have hFj := hF j (by omega)
    subst hh hv e47 e48 e45 e46 e41
    refine xr_iload D_Mo_findMoves_7 rfl ?_
    refine xr_aload_n D_Mo_findMoves_9 rfl rfl ?_
    refine xr_getf F_Mo_119 D_Mo_findMoves_10 rfl rfl ?_
    refine xr_icmp_ge (tgt := 148) D_Mo_findMoves_13 rfl (fun c1 => ?_) (fun c1 => ?_)
    · exact absurd c1 (fun q => by rw [i_le, hm, i_of (by omega)] at q; omega)
    · refine xr_aload_n D_Mo_findMoves_16 rfl rfl ?_
      refine xr_getf F_Mo_54 D_Mo_findMoves_17 rfl rfl ?_
      refine xr_iload D_Mo_findMoves_20 rfl ?_
      refine xr_iald D_Mo_findMoves_22 rfl (by exact hb) ?_
      rw [ej]
      refine xr_i2l D_Mo_findMoves_23 ?_
      refine xr_lload_n D_Mo_findMoves_24 rfl rfl ?_
      refine xr_lsub D_Mo_findMoves_25 ?_
      refine xr_lstore D_Mo_findMoves_26 (by decide) ?_
      refine xr_lload D_Mo_findMoves_28 rfl ?_
      refine xr_cSx (as := [_]) (c_Mo_isInt) (L_Mo_158) (CD_Mo_isInt) D_Mo_findMoves_30 rfl (by decide) (Nat.le_of_ble_eq_true rfl) (Nat.le_of_eq (Nat.zero_add _)) (Nat.le_of_eq (Nat.zero_add _)) pic_len ?_
      rintro _ rfl
      refine ⟨_, _, rfl, pic_leq, ?_⟩
      refine xr_if_ne (tgt := 38) D_Mo_findMoves_33 rfl (fun c2 => ?_) (fun c2 => ?_)
      · rw [b2_n] at c2
        refine xr_aload_n D_Mo_findMoves_38 rfl rfl ?_
        refine xr_getf F_Mo_63 D_Mo_findMoves_39 rfl rfl ?_
        refine xr_iload D_Mo_findMoves_42 rfl ?_
        refine xr_lload D_Mo_findMoves_44 rfl ?_
        refine xr_l2i D_Mo_findMoves_46 ?_
        refine xr_iast D_Mo_findMoves_47 rfl (by exact hb) (aset_50) ?_
        refine xr_aload_n D_Mo_findMoves_48 rfl rfl ?_
        refine xr_getf F_Mo_66 D_Mo_findMoves_49 rfl rfl ?_
        refine xr_iload D_Mo_findMoves_52 rfl ?_
        refine xr_aload_n D_Mo_findMoves_54 rfl rfl ?_
        refine xr_getf F_Mo_57 D_Mo_findMoves_55 rfl rfl ?_
        refine xr_iload D_Mo_findMoves_58 rfl ?_
        refine xr_iald D_Mo_findMoves_60 rfl (by exact hb) ?_
        rw [ej]
        refine xr_i2l D_Mo_findMoves_61 ?_
        refine xr_lload_n D_Mo_findMoves_62 rfl rfl ?_
        refine xr_lsub D_Mo_findMoves_63 ?_
        refine xr_l2i D_Mo_findMoves_64 ?_
        refine xr_iast D_Mo_findMoves_65 rfl (by exact hb) (aset_51) ?_
        refine xr_aload_n D_Mo_findMoves_66 rfl rfl ?_
        refine xr_getf F_Mo_57 D_Mo_findMoves_67 rfl rfl ?_
        refine xr_iload D_Mo_findMoves_70 rfl ?_
        refine xr_iald D_Mo_findMoves_72 rfl (by exact hb) ?_
        rw [ej]
        refine xr_i2l D_Mo_findMoves_73 ?_
        refine xr_lstore_n D_Mo_findMoves_74 rfl (by decide) ?_
        refine xr_aload_n D_Mo_findMoves_75 rfl rfl ?_
        refine xr_getf F_Mo_54 D_Mo_findMoves_76 rfl rfl ?_
        refine xr_iload D_Mo_findMoves_79 rfl ?_
        refine xr_iald D_Mo_findMoves_81 rfl (by exact hb) ?_
        rw [ej]
        refine xr_i2l D_Mo_findMoves_82 ?_
        refine xr_aload_n D_Mo_findMoves_83 rfl rfl ?_
        refine xr_getf F_Mo_48 D_Mo_findMoves_84 rfl rfl ?_
        refine xr_iload D_Mo_findMoves_87 rfl ?_
        refine xr_iald D_Mo_findMoves_89 rfl (by exact hb) ?_
        rw [ej]
        refine xr_if_ge (tgt := 97) D_Mo_findMoves_90 rfl (fun c3 => ?_) (fun c3 => ?_)
        · have c3y : 0 ≤ A 45 j := c3
          have c3x : ¬ A 45 j < 0 := by grind
          have hFr := hFj.resolve_left c3x
          refine xr_aload_n D_Mo_findMoves_97 rfl rfl ?_
          refine xr_getf F_Mo_31 D_Mo_findMoves_98 rfl rfl ?_
          refine xr_sipush (v := 256) D_Mo_findMoves_101 rfl ?_
          refine xr_aload_n D_Mo_findMoves_104 rfl rfl ?_
          refine xr_getf F_Mo_48 D_Mo_findMoves_105 rfl rfl ?_
          refine xr_iload D_Mo_findMoves_108 rfl ?_
          refine xr_iald D_Mo_findMoves_110 rfl (by exact hb) ?_
          rw [ej]
          refine xr_imul D_Mo_findMoves_111 ?_
          refine xr_aload_n D_Mo_findMoves_112 rfl rfl ?_
          refine xr_getf F_Mo_51 D_Mo_findMoves_113 rfl rfl ?_
          refine xr_iload D_Mo_findMoves_116 rfl ?_
          refine xr_iald D_Mo_findMoves_118 rfl (by exact hb) ?_
          rw [ej]
          refine xr_iadd D_Mo_findMoves_119 ?_
          refine xr_iald D_Mo_findMoves_120 rfl (by exact (show vp_in (256 * A 45 j + A 46 j) 65536 from i_in2 65536 (by grind) (by grind) rfl)) ?_
          refine xr_i2l D_Mo_findMoves_121 ?_
          refine xr_ladd D_Mo_findMoves_122 ?_
          refine xr_lstore_n D_Mo_findMoves_123 rfl (by decide) ?_
          refine xr_lload_n D_Mo_findMoves_124 rfl rfl ?_
          refine xr_cSx (as := [_]) (c_Mo_isInt) (L_Mo_158) (CD_Mo_isInt) D_Mo_findMoves_125 rfl (by decide) (Nat.le_of_ble_eq_true rfl) (Nat.le_of_eq (Nat.zero_add _)) (Nat.le_of_eq (Nat.zero_add _)) pic_len ?_
          rintro _ rfl
          refine ⟨_, _, rfl, pic_leq, ?_⟩
          refine xr_if_ne (tgt := 133) D_Mo_findMoves_128 rfl (fun c4 => ?_) (fun c4 => ?_)
          · rw [b2_n] at c4
            refine xr_aload_n D_Mo_findMoves_133 rfl rfl ?_
            refine xr_getf F_Mo_69 D_Mo_findMoves_134 rfl rfl ?_
            refine xr_iload D_Mo_findMoves_137 rfl ?_
            refine xr_lload_n D_Mo_findMoves_139 rfl rfl ?_
            refine xr_l2i D_Mo_findMoves_140 ?_
            refine xr_iast D_Mo_findMoves_141 rfl (by exact hb) (aset_52) ?_
            refine xr_iinc (c9 := 1) D_Mo_findMoves_142 rfl rfl (by decide) ?_
            refine xr_goto (tgt := 7) D_Mo_findMoves_145 rfl ?_
            have eg : G j = A 41 (256 * A 45 j + A 46 j).toNatClampNeg := by rw [hG]; exact if_neg c3x
            rw [io_succ]
            have hok : okP (A 47) G j := ⟨c2, by rw [eg]; exact c4⟩
            refine xr_mono (ih (j + 1) _ _ _ _ _ (by omega) (show (A 47 j).toInt64 + (A 41 (256 * A 45 j + A 46 j).toNatClampNeg).toInt64 = _ from ?_) rfl rfl rfl rfl rfl rfl) (fmQ_tr hok (fun k hk => ?_) (fun k hk => ?_) ?_)
            · have z := (fit_id hok.2).symm
              rw [eg] at z
              show _ = (((A 47 j).toInt64 + (G j).toInt64).toInt32).toInt64
              rw [eg]
              exact z
            · simp only [List.mem_cons, List.not_mem_nil, not_or, or_false] at hk
              rw [upA_n hk.2.2, upA_n hk.2.1, upA_n hk.1]
            · show upd (A 50) _ _ k = _ ∧ upd (A 51) _ _ k = _ ∧ upd (A 52) _ _ k = _
              rw [ej, upd_n (by omega), upd_n (by omega), upd_n (by omega)]
              exact ⟨rfl, rfl, rfl⟩
            · show upd (A 50) _ _ j = _ ∧ upd (A 51) _ _ j = _ ∧ upd (A 52) _ _ j = _
              rw [ej, upd_s, upd_s, upd_s]
              refine ⟨rfl, sub_i, ?_⟩
              show ((A 47 j).toInt64 + (A 41 (256 * A 45 j + A 46 j).toNatClampNeg).toInt64).toInt32 = ((A 47 j).toInt64 + (G j).toInt64).toInt32
              rw [eg]
          · rw [b2_0] at c4
            refine xr_iconst (v := 0) D_Mo_findMoves_131 rfl ?_
            refine xr_zret rfl (by first | rfl | exact nar_b2 | exact nar_z hz) D_Mo_findMoves_132 ?_
            refine Or.inl ⟨⟨j, by omega, fun q => c4 ?_⟩, _, rfl, ?_⟩
            · have q2 := q.2
              rw [hG] at q2
              rw [show gwM (A 45) (A 46) (A 41) j = A 41 (256 * A 45 j + A 46 j).toNatClampNeg from if_neg c3x] at q2; exact q2
            · intro k hk
              simp only [List.mem_cons, List.not_mem_nil, not_or, or_false] at hk
              rw [upA_n hk.2.1, upA_n hk.1]
        · have c3y : ¬ 0 ≤ A 45 j := c3
          have c3x : A 45 j < 0 := by grind
          refine xr_lconst (v := 0) D_Mo_findMoves_93 rfl ?_
          refine xr_goto (tgt := 122) D_Mo_findMoves_94 rfl ?_
          refine xr_ladd D_Mo_findMoves_122 ?_
          refine xr_lstore_n D_Mo_findMoves_123 rfl (by decide) ?_
          refine xr_lload_n D_Mo_findMoves_124 rfl rfl ?_
          refine xr_cSx (as := [_]) (c_Mo_isInt) (L_Mo_158) (CD_Mo_isInt) D_Mo_findMoves_125 rfl (by decide) (Nat.le_of_ble_eq_true rfl) (Nat.le_of_eq (Nat.zero_add _)) (Nat.le_of_eq (Nat.zero_add _)) pic_len ?_
          rintro _ rfl
          refine ⟨_, _, rfl, pic_leq, ?_⟩
          refine xr_if_ne (tgt := 133) D_Mo_findMoves_128 rfl (fun c4 => ?_) (fun c4 => ?_)
          · rw [b2_n] at c4
            refine xr_aload_n D_Mo_findMoves_133 rfl rfl ?_
            refine xr_getf F_Mo_69 D_Mo_findMoves_134 rfl rfl ?_
            refine xr_iload D_Mo_findMoves_137 rfl ?_
            refine xr_lload_n D_Mo_findMoves_139 rfl rfl ?_
            refine xr_l2i D_Mo_findMoves_140 ?_
            refine xr_iast D_Mo_findMoves_141 rfl (by exact hb) (aset_52) ?_
            refine xr_iinc (c9 := 1) D_Mo_findMoves_142 rfl rfl (by decide) ?_
            refine xr_goto (tgt := 7) D_Mo_findMoves_145 rfl ?_
            have eg : G j = 0 := by rw [hG]; exact if_pos c3x
            rw [io_succ]
            have hok : okP (A 47) G j := ⟨c2, by rw [eg]; exact c4⟩
            refine xr_mono (ih (j + 1) _ _ _ _ _ (by omega) (show (A 47 j).toInt64 + 0 = _ from ?_) rfl rfl rfl rfl rfl rfl) (fmQ_tr hok (fun k hk => ?_) (fun k hk => ?_) ?_)
            · have z := (fit_id hok.2).symm
              rw [eg] at z
              show _ = (((A 47 j).toInt64 + (G j).toInt64).toInt32).toInt64
              rw [eg]
              exact z
            · simp only [List.mem_cons, List.not_mem_nil, not_or, or_false] at hk
              rw [upA_n hk.2.2, upA_n hk.2.1, upA_n hk.1]
            · show upd (A 50) _ _ k = _ ∧ upd (A 51) _ _ k = _ ∧ upd (A 52) _ _ k = _
              rw [ej, upd_n (by omega), upd_n (by omega), upd_n (by omega)]
              exact ⟨rfl, rfl, rfl⟩
            · show upd (A 50) _ _ j = _ ∧ upd (A 51) _ _ j = _ ∧ upd (A 52) _ _ j = _
              rw [ej, upd_s, upd_s, upd_s]
              refine ⟨rfl, sub_i, ?_⟩
              show ((A 47 j).toInt64 + 0).toInt32 = ((A 47 j).toInt64 + (G j).toInt64).toInt32
              rw [eg] <;> rfl
          · rw [b2_0] at c4
            refine xr_iconst (v := 0) D_Mo_findMoves_131 rfl ?_
            refine xr_zret rfl (by first | rfl | exact nar_b2 | exact nar_z hz) D_Mo_findMoves_132 ?_
            refine Or.inl ⟨⟨j, by omega, fun q => c4 ?_⟩, _, rfl, ?_⟩
            · have q2 := q.2
              rw [hG] at q2
              rw [show gwM (A 45) (A 46) (A 41) j = 0 from if_pos c3x] at q2; exact q2
            · intro k hk
              simp only [List.mem_cons, List.not_mem_nil, not_or, or_false] at hk
              rw [upA_n hk.2.1, upA_n hk.1]
      · rw [b2_0] at c2
        refine xr_iconst (v := 0) D_Mo_findMoves_36 rfl ?_
        refine xr_zret rfl (by first | rfl | exact nar_b2 | exact nar_z hz) D_Mo_findMoves_37 ?_
        exact Or.inl ⟨⟨j, by omega, fun q => c2 q.1⟩, A, rfl, frA_rf⟩

def fmE (I : mI) (A : mA) (L : mL) (X Y G : Nat → Int32) (n : Nat) : xO → Prop := fun o =>
  ((∃ k, k < n ∧ ¬ okP X G k) ∧ ∃ A', o = (.inl (some (.int 0)), pic I A' L) ∧ frA [50, 51, 52] A A') ∨
  ((∀ k, k < n → okP X G k) ∧ ∃ A', o = (.inl (some (.int 1)), pic I A' L) ∧ frA [50, 51, 52] A A' ∧ (∀ k, k < n → A' 50 k = rtP X G k ∧ A' 51 k = dnP Y k ∧ A' 52 k = hP X G (k + 1)))
theorem c_Mo_findMoves_34 {I : mI} {A : mA} {L : mL} {n : Nat} (hn : n ≤ 500) (hm : (I 3420).toInt = (n : Int)) (hF : ∀ k, k < n → A 45 k < 0 ∨ ((0 ≤ A 45 k ∧ A 45 k ≤ 255) ∧ 0 ≤ A 46 k ∧ A 46 k ≤ 255)) : xm m_Mo_findMoves (1, 21) [.ref 34] (pic I A L) 0 0 (fmE I A L (A 47) (A 48) (gwM (A 45) (A 46) (A 41)) n) := by
  refine xm_of rfl (by decide) (Nat.le_of_ble_eq_true rfl) ?_
  refine xr_lconst (v := 0) D_Mo_findMoves_0 rfl ?_
  refine xr_lstore_n D_Mo_findMoves_1 rfl (by decide) ?_
  refine xr_lconst (v := 0) D_Mo_findMoves_2 rfl ?_
  refine xr_lstore_n D_Mo_findMoves_3 rfl (by decide) ?_
  refine xr_iconst (v := 0) D_Mo_findMoves_4 rfl ?_
  refine xr_istore D_Mo_findMoves_5 (by decide) ?_
  refine xr_mono (l_Mo_fm (X := A 47) (Y := A 48) hn hm rfl hF n 0 A _ _ _ _ (by omega) rfl rfl rfl rfl rfl rfl rfl) ?_
  rintro o (⟨h1, A', h2, h4⟩ | ⟨h1, A', h2, h4, h7, h8⟩)
  · exact Or.inl ⟨h1, A', h2, h4⟩
  · exact Or.inr ⟨fun k hk => h1 k (by omega) hk, A', h2, h4, fun k hk => h8 k (by omega) hk⟩
