theorem l_Mo_wc {L : mL} {p1 : Int32} {x3 x4 : Option Value} {Q : xO → Prop} : ∀ (t j : Nat) (I : mI) (A : mA) (B : List Int32), j + t = 10 → B.length + 4 * t ≤ 131072 → isO (I 3409) (A 43) B → (∀ I' A', frI [3409] I I' → frA [43] A A' → isO (I' 3409) (A' 43) (B ++ cntB (A 42) t j) → xr m_Mo_writePage none (3, 71) 41 [some (.ref 34), some (.int p1), some (.int (Int32.ofNat 10)), x3, x4] [] (pic I' A' L) 0 0 Q) → xr m_Mo_writePage none (3, 71) 18 [some (.ref 34), some (.int p1), some (.int (Int32.ofNat j)), x3, x4] [] (pic I A L) 0 0 Q := by
  have e10 : (10 : Int32).toInt = 10 := rfl
  intro t
  induction t with
  | zero =>
    intro j I A B hj hl hB K
    have hj : j = 10 := by omega
    subst hj
    refine xr_iload_n D_Mo_writePage_18 rfl rfl ?_
    refine xr_bipush (v := 10) D_Mo_writePage_19 rfl ?_
    refine xr_icmp_ge (tgt := 41) D_Mo_writePage_21 rfl (fun c1 => ?_) (fun c1 => ?_)
    · exact K I A frI_rf frA_rf (by rw [show cntB (A 42) 0 10 = [] from rfl, List.append_nil]; exact hB)
    · exact absurd (show (10 : Int32) ≤ Int32.ofNat 10 by decide) c1
  | succ t ih =>
    intro j I A B hj hl hB K
    have hj1 : Int32.ofNat j < 10 := i_lt.mpr (by rw [i_of (by omega), e10]; omega)
    have hj0 : 0 ≤ Int32.ofNat j := i_le.mpr (by rw [i_of (by omega), z0]; omega)
    have ej : (Int32.ofNat j).toNatClampNeg = j := by rw [i_cl, i_of (by omega)]; omega
    refine xr_iload_n D_Mo_writePage_18 rfl rfl ?_
    refine xr_bipush (v := 10) D_Mo_writePage_19 rfl ?_
    refine xr_icmp_ge (tgt := 41) D_Mo_writePage_21 rfl (fun c1 => ?_) (fun c1 => ?_)
    · exact absurd c1 (by grind)
    · refine xr_aload_n D_Mo_writePage_24 rfl rfl ?_
      refine xr_aload_n D_Mo_writePage_25 rfl rfl ?_
      refine xr_getf F_Mo_34 D_Mo_writePage_26 rfl rfl ?_
      refine xr_iload_n D_Mo_writePage_29 rfl rfl ?_
      refine xr_iald D_Mo_writePage_30 rfl (by exact i_in2 10 hj0 hj1 rfl) ?_
      refine xr_iconst (v := 4) D_Mo_writePage_31 rfl ?_
      refine xr_cVv (as := [_, _]) (n_Mo_layNumber 4 rfl (by decide) (by omega) hB) (L_Mo_173) (CD_Mo_layNumber) CI_Mo D_Mo_writePage_32 rfl rfl (by decide) (Nat.le_of_ble_eq_true rfl) (Nat.le_of_eq (Nat.zero_add _)) (Nat.le_of_eq (Nat.zero_add _)) pic_len ?_
      rintro _ ⟨I1, A1, rfl, hI1, hA1, hB1⟩
      refine ⟨_, rfl, pic_leq, ?_⟩
      refine xr_iinc (c9 := 1) D_Mo_writePage_35 rfl rfl (by decide) ?_
      refine xr_goto (tgt := 18) D_Mo_writePage_38 rfl ?_
      rw [io_succ]
      rw [ej] at hB1
      refine ih (j + 1) _ _ _ (by omega) (by rw [List.length_append, numB_len]; omega) hB1 (fun I9 A9 q1 q2 q3 => K I9 A9 (frI_tr hI1 q1 (fun _ h => h) (fun _ h => h)) (frA_tr hA1 q2 (fun _ h => h) (fun _ h => h)) ?_)
      rw [List.append_assoc, hA1 42 (by decide)] at q3
      exact q3

theorem cntB_len {f : Nat → Int32} : ∀ (t j : Nat), (cntB f t j).length = 4 * t := by
  intro t
  induction t with
  | zero => intro j; rfl
  | succ t ih => intro j; show (numB (f j) 4 ++ cntB f t (j + 1)).length = _; rw [List.length_append, numB_len, ih]; omega
theorem stM_len {B : List Int32} {c n : Int32} (h0 : 0 ≤ n) (h1 : n ≤ 255) : (if B = [] then stB c n else B).length ≤ B.length + 270 := by
  split
  · have := stB_len (c := c) h0 h1
    omega
  · omega

def six0 (A : mA) : mA := upA (upA (upA (upA (upA (upA A 60 0 0) 60 1 0) 60 2 0) 60 3 0) 60 4 0) 60 5 0
theorem wmF {A : mA} : frA [60] A (six0 A) := by
  intro k hk
  simp only [List.mem_cons, List.not_mem_nil, or_false] at hk
  unfold six0
  rw [upA_n hk, upA_n hk, upA_n hk, upA_n hk, upA_n hk, upA_n hk]
theorem wmX {I I' : mI} {A A' : mA} {m : Int32} {F C H rt dn : Nat → Int32} {D : Int32 → List Int32} (h : wmM I A m F C H rt dn D) (hI : frI [3409, 3415] I I') (hA : frA [43] A A') : wmM I' (six0 A') m F C H rt dn D := by
  have hA2 : frA [43, 44, 60] A (six0 A') := frA_tr hA wmF (by decide) (by decide)
  obtain ⟨h1, h2, h3, h4, h5, h6, h7, h8⟩ := h
  refine ⟨(hI 3420 (by decide)).trans h1, (hA2 45 (by decide)).trans h2, (hA2 46 (by decide)).trans h3, (hA2 49 (by decide)).trans h4, (hA2 50 (by decide)).trans h5, (hA2 51 (by decide)).trans h6, fun x => ?_, fun x => ?_⟩
  · rw [← h7 x]
    unfold defM
    rw [hA2 36 (by decide), hA2 37 (by decide), hA2 38 (by decide), hA2 39 (by decide), hA2 40 (by decide)]
  · rw [hA2 39 (by decide)]; exact h8 x

set_option maxHeartbeats 2000000 in
theorem c_Mo_writePage_34 {I : mI} {A : mA} {L : mL} {m : Int32} {F C H rt dn : Nat → Int32} {D : Int32 → List Int32} {n : Nat} {B T : List Int32} (hn : n ≤ 500) (hmn : m.toInt = (n : Int)) (hF : ∀ k, k < n → F k = -1 ∨ (0 ≤ F k ∧ F k ≤ 255)) (hDl : ∀ x : Int32, 0 ≤ x → x ≤ 255 → (D x).length ≤ 32) (w0 : wmM I A m F C H rt dn D) (h0 : 0 ≤ I 3411) (h1 : I 3411 ≤ 255) (hlen : B.length ≤ 60000) (hB : isO (I 3409) (A 43) B) (t0 : isM (I 3418) (A 44) T) : xm m_Mo_writePage (3, 71) [.ref 34] (pic I A L) 0 0 (fun o => ∃ I' A', o = (.inl none, pic I' A' L) ∧ frI [3409, 3418, 3415] I I' ∧ frA [43, 44, 60] A A' ∧ isO (I' 3409) (A' 43) ((if B = [] then stB (I 3412) (I 3411) else B) ++ pgY (A 42) (I 3415) (pgR dn rt (cmN n dn) (cmN n rt) F C H D n 0 0 0 0 0 (-1) T).1) ∧ isM (I' 3418) (A' 44) (pgR dn rt (cmN n dn) (cmN n rt) F C H D n 0 0 0 0 0 (-1) T).2 ∧ I' 3415 = Int32.ofNat (if B = [] then stB (I 3412) (I 3411) else B).length) := by
  have f0 : frI [3409] I I := frI_rf
  have a0 : frA [43] A A := frA_rf
  have hsl := stM_len (B := B) (c := I 3412) h0 h1
  refine xm_of rfl (by decide) (Nat.le_of_ble_eq_true rfl) ?_
  refine xr_aload_n D_Mo_writePage_0 rfl rfl ?_
  refine xr_cVv (as := []) (c_Mo_open_34 h0 h1 (by omega) hB) (L_Mo_179) (CD_Mo_open) CI_Mo D_Mo_writePage_1 rfl rfl (by decide) (Nat.le_of_ble_eq_true rfl) (Nat.le_of_eq (Nat.zero_add _)) (Nat.le_of_eq (Nat.zero_add _)) pic_len ?_
  rintro _ ⟨I1, A1, rfl, hI1, hA1, hB1⟩
  refine ⟨_, rfl, pic_leq, ?_⟩
  have f1 := frI_tr (ks := [3409]) f0 hI1 (fun _ h => h) (by decide)
  have a1 := frA_tr (ks := [43]) a0 hA1 (fun _ h => h) (fun _ h => h)
  refine xr_aload_n D_Mo_writePage_4 rfl rfl ?_
  refine xr_getf F_Mo_116 D_Mo_writePage_5 rfl rfl ?_
  refine xr_istore_n D_Mo_writePage_8 rfl (by decide) ?_
  refine xr_aload_n D_Mo_writePage_9 rfl rfl ?_
  refine xr_sipush (v := 139) D_Mo_writePage_10 rfl ?_
  refine xr_cVv (as := [_]) (n_Mo_lay (by have q := hsl; first | omega | (simp only [List.length_append, List.length_cons, List.length_nil, numB_len, cntB_len]; omega)) hB1) (L_Mo_150) (CD_Mo_lay) CI_Mo D_Mo_writePage_13 rfl rfl (by decide) (Nat.le_of_ble_eq_true rfl) (Nat.le_of_eq (Nat.zero_add _)) (Nat.le_of_eq (Nat.zero_add _)) pic_len ?_
  rintro _ ⟨I2, A2, rfl, hI2, hA2, hB2⟩
  refine ⟨_, rfl, pic_leq, ?_⟩
  have f2 := frI_tr (ks := [3409]) f1 hI2 (fun _ h => h) (by decide)
  have a2 := frA_tr (ks := [43]) a1 hA2 (fun _ h => h) (fun _ h => h)
  refine xr_iconst (v := 0) D_Mo_writePage_16 rfl ?_
  refine xr_istore_n D_Mo_writePage_17 rfl (by decide) ?_
  refine l_Mo_wc 10 0 _ _ _ rfl (by have q := hsl; first | omega | (simp only [List.length_append, List.length_cons, List.length_nil, numB_len, cntB_len]; omega)) hB2 ?_
  intro I90 A90 hI90 hA90 hB90
  have f90 := frI_tr (ks := [3409]) f2 hI90 (fun _ h => h) (by decide)
  have a90 := frA_tr (ks := [43]) a2 hA90 (fun _ h => h) (fun _ h => h)
  rw [a2 42 (by decide)] at hB90
  refine xr_aload_n D_Mo_writePage_41 rfl rfl ?_
  refine xr_aload_n D_Mo_writePage_42 rfl rfl ?_
  refine xr_getf F_Mo_41 D_Mo_writePage_43 rfl rfl ?_
  refine xr_iconst (v := 4) D_Mo_writePage_46 rfl ?_
  refine xr_cVv (as := [_, _]) (n_Mo_layNumber 4 rfl (by decide) (by have q := hsl; first | omega | (simp only [List.length_append, List.length_cons, List.length_nil, numB_len, cntB_len]; omega)) hB90) (L_Mo_173) (CD_Mo_layNumber) CI_Mo D_Mo_writePage_47 rfl rfl (by decide) (Nat.le_of_ble_eq_true rfl) (Nat.le_of_eq (Nat.zero_add _)) (Nat.le_of_eq (Nat.zero_add _)) pic_len ?_
  rintro _ ⟨I3, A3, rfl, hI3, hA3, hB3⟩
  refine ⟨_, rfl, pic_leq, ?_⟩
  have f3 := frI_tr (ks := [3409]) f90 hI3 (fun _ h => h) (by decide)
  have a3 := frA_tr (ks := [43]) a90 hA3 (fun _ h => h) (fun _ h => h)
  refine xr_aload_n D_Mo_writePage_50 rfl rfl ?_
  refine xr_iload_n D_Mo_writePage_51 rfl rfl ?_
  refine xr_putf F_Mo_41 FT_Mo FN_Mo_15 D_Mo_writePage_52 rfl (Nat.le_of_ble_eq_true rfl) rfl rfl (pset_34_15) ?_
  have hI70 : frI [3415] I3 (upd I3 3415 (I1 3409)) := frI_up (by decide)
  have f70 := frI_tr (ks := [3409, 3415]) f3 hI70 (by decide) (by decide)
  have a70 := a3
  have hB70 : isO ((upd I3 3415 (I1 3409)) 3409) (A3 43) _ := hB3
  have hI70e : (upd I3 3415 (I1 3409)) 3415 = I1 3409 := rfl
  generalize hgI : upd I3 3415 (I1 3409) = I70 at hI70 f70 hB70 hI70e ⊢
  have hA70 : frA [43] A3 A3 := frA_rf
  generalize hgA : A3 = A70 at a70 hB70 hA70 ⊢
  refine xr_aload_n D_Mo_writePage_55 rfl rfl ?_
  refine xr_sipush (v := 141) D_Mo_writePage_56 rfl ?_
  refine xr_cVv (as := [_]) (n_Mo_lay (by have q := hsl; first | omega | (simp only [List.length_append, List.length_cons, List.length_nil, numB_len, cntB_len]; omega)) hB70) (L_Mo_150) (CD_Mo_lay) CI_Mo D_Mo_writePage_59 rfl rfl (by decide) (Nat.le_of_ble_eq_true rfl) (Nat.le_of_eq (Nat.zero_add _)) (Nat.le_of_eq (Nat.zero_add _)) pic_len ?_
  rintro _ ⟨I4, A4, rfl, hI4, hA4, hB4⟩
  refine ⟨_, rfl, pic_leq, ?_⟩
  have f4 := frI_tr (ks := [3409, 3415]) f70 hI4 (fun _ h => h) (by decide)
  have a4 := frA_tr (ks := [43]) a70 hA4 (fun _ h => h) (fun _ h => h)
  refine xr_iconst (v := 0) D_Mo_writePage_62 rfl ?_
  refine xr_istore_n D_Mo_writePage_63 rfl (by decide) ?_
  refine xr_iload_n D_Mo_writePage_64 rfl rfl ?_
  refine xr_bipush (v := 6) D_Mo_writePage_65 rfl ?_
  refine xr_icmp_ge (tgt := 83) D_Mo_writePage_67 rfl (fun c1 => ?_) (fun c1 => ?_)
  · exact absurd (show (6 : Int32) ≤ (0 : Int32) from c1) (by decide)
  · refine xr_aload_n D_Mo_writePage_70 rfl rfl ?_
    refine xr_getf F_Mo_94 D_Mo_writePage_71 rfl rfl ?_
    refine xr_iload_n D_Mo_writePage_74 rfl rfl ?_
    refine xr_iconst (v := 0) D_Mo_writePage_75 rfl ?_
    refine xr_iast D_Mo_writePage_76 rfl (by exact i_in2 6 (by grind) (by grind) rfl) (aset_60) ?_
    refine xr_iinc2 (v9 := 1) (c9 := 1) D_Mo_writePage_77 rfl rfl rfl (by decide) ?_
    refine xr_goto (tgt := 64) D_Mo_writePage_80 rfl ?_
    refine xr_iload_n D_Mo_writePage_64 rfl rfl ?_
    refine xr_bipush (v := 6) D_Mo_writePage_65 rfl ?_
    refine xr_icmp_ge (tgt := 83) D_Mo_writePage_67 rfl (fun c2 => ?_) (fun c2 => ?_)
    · exact absurd (show (6 : Int32) ≤ (1 : Int32) from c2) (by decide)
    · refine xr_aload_n D_Mo_writePage_70 rfl rfl ?_
      refine xr_getf F_Mo_94 D_Mo_writePage_71 rfl rfl ?_
      refine xr_iload_n D_Mo_writePage_74 rfl rfl ?_
      refine xr_iconst (v := 0) D_Mo_writePage_75 rfl ?_
      refine xr_iast D_Mo_writePage_76 rfl (by exact i_in2 6 (by grind) (by grind) rfl) (aset_60) ?_
      refine xr_iinc2 (v9 := 2) (c9 := 1) D_Mo_writePage_77 rfl rfl rfl (by decide) ?_
      refine xr_goto (tgt := 64) D_Mo_writePage_80 rfl ?_
      refine xr_iload_n D_Mo_writePage_64 rfl rfl ?_
      refine xr_bipush (v := 6) D_Mo_writePage_65 rfl ?_
      refine xr_icmp_ge (tgt := 83) D_Mo_writePage_67 rfl (fun c3 => ?_) (fun c3 => ?_)
      · exact absurd (show (6 : Int32) ≤ (2 : Int32) from c3) (by decide)
      · refine xr_aload_n D_Mo_writePage_70 rfl rfl ?_
        refine xr_getf F_Mo_94 D_Mo_writePage_71 rfl rfl ?_
        refine xr_iload_n D_Mo_writePage_74 rfl rfl ?_
        refine xr_iconst (v := 0) D_Mo_writePage_75 rfl ?_
        refine xr_iast D_Mo_writePage_76 rfl (by exact i_in2 6 (by grind) (by grind) rfl) (aset_60) ?_
        refine xr_iinc2 (v9 := 3) (c9 := 1) D_Mo_writePage_77 rfl rfl rfl (by decide) ?_
        refine xr_goto (tgt := 64) D_Mo_writePage_80 rfl ?_
        refine xr_iload_n D_Mo_writePage_64 rfl rfl ?_
        refine xr_bipush (v := 6) D_Mo_writePage_65 rfl ?_
        refine xr_icmp_ge (tgt := 83) D_Mo_writePage_67 rfl (fun c4 => ?_) (fun c4 => ?_)
        · exact absurd (show (6 : Int32) ≤ (3 : Int32) from c4) (by decide)
        · refine xr_aload_n D_Mo_writePage_70 rfl rfl ?_
          refine xr_getf F_Mo_94 D_Mo_writePage_71 rfl rfl ?_
          refine xr_iload_n D_Mo_writePage_74 rfl rfl ?_
          refine xr_iconst (v := 0) D_Mo_writePage_75 rfl ?_
          refine xr_iast D_Mo_writePage_76 rfl (by exact i_in2 6 (by grind) (by grind) rfl) (aset_60) ?_
          refine xr_iinc2 (v9 := 4) (c9 := 1) D_Mo_writePage_77 rfl rfl rfl (by decide) ?_
          refine xr_goto (tgt := 64) D_Mo_writePage_80 rfl ?_
          refine xr_iload_n D_Mo_writePage_64 rfl rfl ?_
          refine xr_bipush (v := 6) D_Mo_writePage_65 rfl ?_
          refine xr_icmp_ge (tgt := 83) D_Mo_writePage_67 rfl (fun c5 => ?_) (fun c5 => ?_)
          · exact absurd (show (6 : Int32) ≤ (4 : Int32) from c5) (by decide)
          · refine xr_aload_n D_Mo_writePage_70 rfl rfl ?_
            refine xr_getf F_Mo_94 D_Mo_writePage_71 rfl rfl ?_
            refine xr_iload_n D_Mo_writePage_74 rfl rfl ?_
            refine xr_iconst (v := 0) D_Mo_writePage_75 rfl ?_
            refine xr_iast D_Mo_writePage_76 rfl (by exact i_in2 6 (by grind) (by grind) rfl) (aset_60) ?_
            refine xr_iinc2 (v9 := 5) (c9 := 1) D_Mo_writePage_77 rfl rfl rfl (by decide) ?_
            refine xr_goto (tgt := 64) D_Mo_writePage_80 rfl ?_
            refine xr_iload_n D_Mo_writePage_64 rfl rfl ?_
            refine xr_bipush (v := 6) D_Mo_writePage_65 rfl ?_
            refine xr_icmp_ge (tgt := 83) D_Mo_writePage_67 rfl (fun c6 => ?_) (fun c6 => ?_)
            · exact absurd (show (6 : Int32) ≤ (5 : Int32) from c6) (by decide)
            · refine xr_aload_n D_Mo_writePage_70 rfl rfl ?_
              refine xr_getf F_Mo_94 D_Mo_writePage_71 rfl rfl ?_
              refine xr_iload_n D_Mo_writePage_74 rfl rfl ?_
              refine xr_iconst (v := 0) D_Mo_writePage_75 rfl ?_
              refine xr_iast D_Mo_writePage_76 rfl (by exact i_in2 6 (by grind) (by grind) rfl) (aset_60) ?_
              refine xr_iinc2 (v9 := 6) (c9 := 1) D_Mo_writePage_77 rfl rfl rfl (by decide) ?_
              refine xr_goto (tgt := 64) D_Mo_writePage_80 rfl ?_
              refine xr_iload_n D_Mo_writePage_64 rfl rfl ?_
              refine xr_bipush (v := 6) D_Mo_writePage_65 rfl ?_
              refine xr_icmp_ge (tgt := 83) D_Mo_writePage_67 rfl (fun c7 => ?_) (fun c7 => ?_)
              · refine xr_iconst (v := (-1)) D_Mo_writePage_83 rfl ?_
                refine xr_istore_n D_Mo_writePage_84 rfl (by decide) ?_
                refine xr_iconst (v := 0) D_Mo_writePage_85 rfl ?_
                refine xr_istore_n D_Mo_writePage_86 rfl (by decide) ?_
                skip
                refine xr_mono (l_Mo_wm hn hmn hF hDl n 0 _ _ _ T (-1) _ _ (by omega) (wmX w0 f4 a4) (show isO (I4 3409) (A4 43) _ from hB4) (show isM (I4 3418) (A4 44) T by rw [f4 3418 (by decide), a4 44 (by decide)]; exact t0) (by have q := hsl; first | omega | (simp only [List.length_append, List.length_cons, List.length_nil, numB_len, cntB_len]; omega))) ?_
                rintro _ ⟨I9, A9, rfl, q1, q2, q3, q4⟩
                have e3 : I9 3415 = Int32.ofNat (if B = [] then stB (I 3412) (I 3411) else B).length := by
                  rw [q1 3415 (by decide), hI4 3415 (by decide)]
                  rw [hI70e]
                  exact i_eq.mpr (by rw [hB1.1, i_of (by omega)])
                refine ⟨I9, A9, rfl, frI_tr (ks := [3409, 3418, 3415]) f4 q1 (by decide) (by decide), frA_tr (ks := [43, 44, 60]) (frA_tr (ks := [43, 60]) a4 (wmF (A := A4)) (by decide) (by decide)) q2 (by decide) (by decide), ?_, q4, e3⟩
                have hz := q3
                rw [f90 3415 (by decide)] at hz
                simp only [List.append_assoc, List.cons_append, List.nil_append] at hz
                exact hz
              · exact absurd (show (6 : Int32) ≤ (6 : Int32) by decide) c7
