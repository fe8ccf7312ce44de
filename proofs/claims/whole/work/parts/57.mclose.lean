theorem l_Mo_cl1 {L : mL} {l1 : Int32} {n : Nat} {Q : xO → Prop} (hn : n ≤ 256) : ∀ (k : Nat) (i : Int32) (I : mI) (A : mA) (B : List Int32), i.toInt = (k : Int) - 1 → k ≤ n → B.length + 32 * k ≤ 131072 → (∀ k, k < n → (0 ≤ A 44 k ∧ A 44 k ≤ 255) ∧ 0 ≤ A 39 (A 44 k).toNatClampNeg ∧ A 39 (A 44 k).toNatClampNeg ≤ 16) → isO (I 3409) (A 43) B → (∀ I' A' (i9 : Int32), frI [3409] I I' → frA [43] A A' → isO (I' 3409) (A' 43) (B ++ dfF (defM A) (A 44) k) → xr m_Mo_close none (3, 66) 143 [some (.ref 34), some (.int l1), some (.int i9)] [] (pic I' A' L) 0 0 Q) → xr m_Mo_close none (3, 66) 123 [some (.ref 34), some (.int l1), some (.int i)] [] (pic I A L) 0 0 Q := by
  intro k
  induction k with
  | zero =>
    intro i I A B hi hk hl hO hB K
    refine xr_iload_n D_Mo_close_123 rfl rfl ?_
    refine xr_if_lt (tgt := 143) D_Mo_close_124 rfl (fun c1 => ?_) (fun c1 => ?_)
    · exact K I A _ frI_rf frA_rf (by rw [show dfF (defM A) (A 44) 0 = [] from rfl, List.append_nil]; exact hB)
    · exact absurd (i_lt.mpr (by rw [hi, z0]; omega)) c1
  | succ k ih =>
    intro i I A B hi hk hl hO hB K
    have ei : i.toNatClampNeg = k := by rw [i_cl, hi]; omega
    have q0 : 0 ≤ i := i_le.mpr (by rw [hi, z0]; omega)
    have q1 : i < 256 := i_lt.mpr (by rw [hi, show (256 : Int32).toInt = 256 from rfl]; omega)
    have hdl := defM_len (hO k (by omega)).2.1 (hO k (by omega)).2.2
    refine xr_iload_n D_Mo_close_123 rfl rfl ?_
    refine xr_if_lt (tgt := 143) D_Mo_close_124 rfl (fun c1 => ?_) (fun c1 => ?_)
    · exact absurd (i_le.mp q0) (fun z => by have := i_lt.mp c1; omega)
    · refine xr_aload_n D_Mo_close_127 rfl rfl ?_
      refine xr_aload_n D_Mo_close_128 rfl rfl ?_
      refine xr_getf F_Mo_45 D_Mo_close_129 rfl rfl ?_
      refine xr_iload_n D_Mo_close_132 rfl rfl ?_
      refine xr_iald D_Mo_close_133 rfl (by exact i_in2 256 q0 q1 rfl) ?_
      refine xr_cVv (as := [_]) (c_Mo_define_34 (show 0 ≤ A 44 i.toNatClampNeg ∧ A 44 i.toNatClampNeg ≤ 255 by rw [ei]; exact (hO k (by omega)).1) (by rw [ei]; exact (hO k (by omega)).2.1) (by rw [ei]; exact (hO k (by omega)).2.2) (by omega) hB) (L_Mo_186) (CD_Mo_define) CI_Mo D_Mo_close_134 rfl rfl (by decide) (Nat.le_of_ble_eq_true rfl) (Nat.le_of_eq (Nat.zero_add _)) (Nat.le_of_eq (Nat.zero_add _)) pic_len ?_
      rintro _ ⟨I1, A1, rfl, hI1, hA1, hB1⟩
      refine ⟨_, rfl, pic_leq, ?_⟩
      refine xr_iinc (c9 := (-1)) D_Mo_close_137 rfl rfl (by decide) ?_
      refine xr_goto (tgt := 123) D_Mo_close_140 rfl ?_
      rw [ei] at hB1
      refine ih _ _ _ _ ?_ (by omega) (by rw [List.length_append]; omega) (fun j hj => ?_) hB1 (fun I9 A9 i9 q1 q2 q3 => K I9 A9 i9 (frI_tr hI1 q1 (fun _ h => h) (fun _ h => h)) (frA_tr hA1 q2 (fun _ h => h) (fun _ h => h)) ?_)
      · rw [i_add (by rw [zm1, hi]; omega) (by rw [zm1, hi]; omega), zm1, hi]; omega
      · rw [hA1 44 (by decide), hA1 39 (by decide)]; exact hO j hj
      · have ed : defM A1 = defM A := by
          funext x
          unfold defM
          rw [hA1 36 (by decide), hA1 37 (by decide), hA1 38 (by decide), hA1 39 (by decide), hA1 40 (by decide)]
        rw [List.append_assoc, hA1 44 (by decide), ed] at q3
        exact q3

theorem l_Mo_cl2 {L : mL} {l1 : Int32} {n : Nat} (hn : n + 7 ≤ 131072) : ∀ (t j : Nat) (I : mI) (A : mA) (B : List Int32), j + t = flN n → B.length = n + j → isO (I 3409) (A 43) B → xr m_Mo_close none (3, 66) 163 [some (.ref 34), some (.int l1), some (.int (Int32.ofNat j))] [] (pic I A L) 0 0 (fun o => ∃ I' A', o = (.inl (some (.int (I' 3409))), pic I' A' L) ∧ frI [3409, 3413] I I' ∧ frA [43] A A' ∧ isO (I' 3409) (A' 43) (B ++ List.replicate t (223 &&& 255)) ∧ I' 3413 = 1) := by
  have e4 : (4 : Int32).toInt = 4 := rfl
  have hf : flN n = 4 + (4 - n % 4) % 4 := rfl
  intro t
  induction t with
  | zero =>
    intro j I A B hj hl hB
    have hu := hB.1
    have hu0 : 0 ≤ I 3409 := i_le.mpr (by rw [z0]; omega)
    refine xr_iload_n D_Mo_close_163 rfl rfl ?_
    refine xr_iconst (v := 4) D_Mo_close_164 rfl ?_
    refine xr_icmp_lt (tgt := 177) D_Mo_close_165 rfl (fun c1 => ?_) (fun c1 => ?_)
    · exact absurd c1 (fun q => by rw [i_lt, i_of (by omega), e4] at q; omega)
    · refine xr_aload_n D_Mo_close_168 rfl rfl ?_
      refine xr_getf F_Mo_116 D_Mo_close_169 rfl rfl ?_
      refine xr_iconst (v := 4) D_Mo_close_172 rfl ?_
      refine xr_irem D_Mo_close_173 (by decide) ?_
      refine xr_if_eq (tgt := 190) D_Mo_close_174 rfl (fun c2 => ?_) (fun c2 => ?_)
      · refine xr_aload_n D_Mo_close_190 rfl rfl ?_
        refine xr_iconst (v := 1) D_Mo_close_191 rfl ?_
        refine xr_putf F_Mo_128 FT_Mo FN_Mo_13 D_Mo_close_192 rfl (Nat.le_of_ble_eq_true rfl) rfl rfl (pset_34_13) ?_
        refine xr_aload_n D_Mo_close_195 rfl rfl ?_
        refine xr_getf F_Mo_116 D_Mo_close_196 rfl rfl ?_
        refine xr_iret rfl D_Mo_close_199 ?_
        exact ⟨_, _, rfl, frI_up (by decide), frA_rf, by rw [List.replicate_zero, List.append_nil]; exact hB, rfl⟩
      · exact absurd ((rem4 hu0).mpr (by omega)) c2
  | succ t ih =>
    intro j I A B hj hl hB
    have hu := hB.1
    have hu0 : 0 ≤ I 3409 := i_le.mpr (by rw [z0]; omega)
    refine xr_iload_n D_Mo_close_163 rfl rfl ?_
    refine xr_iconst (v := 4) D_Mo_close_164 rfl ?_
    refine xr_icmp_lt (tgt := 177) D_Mo_close_165 rfl (fun c1 => ?_) (fun c1 => ?_)
    · refine xr_aload_n D_Mo_close_177 rfl rfl ?_
      refine xr_sipush (v := 223) D_Mo_close_178 rfl ?_
      refine xr_cVv (as := [_]) (n_Mo_lay (by omega) hB) (L_Mo_150) (CD_Mo_lay) CI_Mo D_Mo_close_181 rfl rfl (by decide) (Nat.le_of_ble_eq_true rfl) (Nat.le_of_eq (Nat.zero_add _)) (Nat.le_of_eq (Nat.zero_add _)) pic_len ?_
      rintro _ ⟨I1, A1, rfl, hI1, hA1, hB1⟩
      refine ⟨_, rfl, pic_leq, ?_⟩
      refine xr_iinc (c9 := 1) D_Mo_close_184 rfl rfl (by decide) ?_
      refine xr_goto (tgt := 163) D_Mo_close_187 rfl ?_
      rw [io_succ]
      refine xr_mono (ih (j + 1) _ _ _ (by omega) (by rw [List.length_append, hl]; simp; omega) hB1) ?_
      rintro _ ⟨I9, A9, rfl, q1, q2, q3, q4⟩
      refine ⟨I9, A9, rfl, frI_tr hI1 q1 (fun _ h => List.mem_cons.mpr (Or.inl (List.mem_singleton.mp h))) (fun _ h => h), frA_tr hA1 q2 (fun _ h => h) (fun _ h => h), ?_, q4⟩
      rw [List.append_assoc] at q3
      exact q3
    · refine xr_aload_n D_Mo_close_168 rfl rfl ?_
      refine xr_getf F_Mo_116 D_Mo_close_169 rfl rfl ?_
      refine xr_iconst (v := 4) D_Mo_close_172 rfl ?_
      refine xr_irem D_Mo_close_173 (by decide) ?_
      refine xr_if_eq (tgt := 190) D_Mo_close_174 rfl (fun c2 => ?_) (fun c2 => ?_)
      · exact absurd ((rem4 hu0).mp c2) (fun q => by rw [i_lt, i_of (by omega), e4] at c1; omega)
      · refine xr_aload_n D_Mo_close_177 rfl rfl ?_
        refine xr_sipush (v := 223) D_Mo_close_178 rfl ?_
        refine xr_cVv (as := [_]) (n_Mo_lay (by omega) hB) (L_Mo_150) (CD_Mo_lay) CI_Mo D_Mo_close_181 rfl rfl (by decide) (Nat.le_of_ble_eq_true rfl) (Nat.le_of_eq (Nat.zero_add _)) (Nat.le_of_eq (Nat.zero_add _)) pic_len ?_
        rintro _ ⟨I2, A2, rfl, hI2, hA2, hB2⟩
        refine ⟨_, rfl, pic_leq, ?_⟩
        refine xr_iinc (c9 := 1) D_Mo_close_184 rfl rfl (by decide) ?_
        refine xr_goto (tgt := 163) D_Mo_close_187 rfl ?_
        rw [io_succ]
        refine xr_mono (ih (j + 1) _ _ _ (by omega) (by rw [List.length_append, hl]; simp; omega) hB2) ?_
        rintro _ ⟨I9, A9, rfl, q1, q2, q3, q4⟩
        refine ⟨I9, A9, rfl, frI_tr hI2 q1 (fun _ h => List.mem_cons.mpr (Or.inl (List.mem_singleton.mp h))) (fun _ h => h), frA_tr hA2 q2 (fun _ h => h) (fun _ h => h), ?_, q4⟩
        rw [List.append_assoc] at q3
        exact q3

def clO (I : mI) (A : mA) (B T : List Int32) : List Int32 := ((stM B (I 3412) (I 3411)) ++ (edB (I 3415) (I 3416) (I 3417) (I 3414) (Int32.ofNat (stM B (I 3412) (I 3411)).length) (dfF (defM A) (A 44) T.length))) ++ List.replicate (flN ((stM B (I 3412) (I 3411)) ++ (edB (I 3415) (I 3416) (I 3417) (I 3414) (Int32.ofNat (stM B (I 3412) (I 3411)).length) (dfF (defM A) (A 44) T.length))).length) (223 &&& 255)
def clR (I : mI) (A : mA) (L : mL) (B T : List Int32) : xO → Prop := fun o => ∃ I' A', o = (.inl (some (.int (I' 3409))), pic I' A' L) ∧ frI [3400, 3409, 3413] I I' ∧ frA [43] A A' ∧ isO (I' 3409) (A' 43) (clO I A B T) ∧ I' 3413 = 1 ∧ I' 3400 = 0
set_option maxHeartbeats 2000000 in
theorem c_Mo_close_34 {I : mI} {A : mA} {L : mL} {B T : List Int32} (h0 : 0 ≤ I 3411) (h1 : I 3411 ≤ 255) (hlen : I 3413 = 0 → B.length ≤ 60000) (hL : ∀ x : Int32, 0 ≤ x → x ≤ 255 → 0 ≤ A 39 x.toNatClampNeg ∧ A 39 x.toNatClampNeg ≤ 16) (hB : isO (I 3409) (A 43) B) (hT : isM (I 3418) (A 44) T) : xm m_Mo_close (3, 66) [.ref 34] (pic I A L) 0 0 (fun o => (¬ I 3413 = 0 ∧ o = (.inl (some (.int 0)), pic (upd I 3400 1) A L)) ∨ (I 3413 = 0 ∧ clR I A L B T o)) := by
  refine xm_of rfl (by decide) (Nat.le_of_ble_eq_true rfl) ?_
  refine xr_aload_n D_Mo_close_0 rfl rfl ?_
  refine xr_aload_n D_Mo_close_1 rfl rfl ?_
  refine xr_getf F_Mo_128 D_Mo_close_2 rfl rfl ?_
  refine xr_if_eq (tgt := 12) D_Mo_close_5 rfl (fun c1 => ?_) (fun c1 => ?_)
  · refine xr_iconst (v := 0) D_Mo_close_12 rfl ?_
    refine xr_putf F_Mo_97 FT_Mo FN_Mo_0 D_Mo_close_13 rfl (Nat.le_of_ble_eq_true rfl) rfl rfl (pset_34_0) ?_
    refine xr_aload_n D_Mo_close_16 rfl rfl ?_
    refine xr_getf F_Mo_97 D_Mo_close_17 rfl rfl ?_
    refine xr_if_le (tgt := 25) D_Mo_close_20 rfl (fun c2 => ?_) (fun c2 => ?_)
    · have f0 : frI [3409] (upd I 3400 0) (upd I 3400 0) := frI_rf
      have a0 : frA [43] A A := frA_rf
      have hlB := hlen c1
      have hsl : (stM B (I 3412) (I 3411)).length ≤ B.length + 270 := stM_len h0 h1
      refine xr_aload_n D_Mo_close_25 rfl rfl ?_
      refine xr_cVv (as := []) (c_Mo_open_34 h0 h1 (by omega) hB) (L_Mo_179) (CD_Mo_open) CI_Mo D_Mo_close_26 rfl rfl (by decide) (Nat.le_of_ble_eq_true rfl) (Nat.le_of_eq (Nat.zero_add _)) (Nat.le_of_eq (Nat.zero_add _)) pic_len ?_
      rintro _ ⟨I1, A1, rfl, hI1, hA1, hB1⟩
      refine ⟨_, rfl, pic_leq, ?_⟩
      have f1 := frI_tr (ks := [3409]) f0 hI1 (fun _ h => h) (fun _ h => h)
      have a1 := frA_tr (ks := [43]) a0 hA1 (fun _ h => h) (fun _ h => h)
      change isO _ _ (stM B (I 3412) (I 3411)) at hB1
      refine xr_aload_n D_Mo_close_29 rfl rfl ?_
      refine xr_getf F_Mo_116 D_Mo_close_30 rfl rfl ?_
      refine xr_istore_n D_Mo_close_33 rfl (by decide) ?_
      refine xr_aload_n D_Mo_close_34 rfl rfl ?_
      refine xr_sipush (v := 248) D_Mo_close_35 rfl ?_
      refine xr_cVv (as := [_]) (n_Mo_lay (by have q := hsl; first | omega | (simp only [List.length_append, List.length_cons, List.length_nil, numB_len]; omega)) hB1) (L_Mo_150) (CD_Mo_lay) CI_Mo D_Mo_close_38 rfl rfl (by decide) (Nat.le_of_ble_eq_true rfl) (Nat.le_of_eq (Nat.zero_add _)) (Nat.le_of_eq (Nat.zero_add _)) pic_len ?_
      rintro _ ⟨I2, A2, rfl, hI2, hA2, hB2⟩
      refine ⟨_, rfl, pic_leq, ?_⟩
      have f2 := frI_tr (ks := [3409]) f1 hI2 (fun _ h => h) (fun _ h => h)
      have a2 := frA_tr (ks := [43]) a1 hA2 (fun _ h => h) (fun _ h => h)
      refine xr_aload_n D_Mo_close_41 rfl rfl ?_
      refine xr_aload_n D_Mo_close_42 rfl rfl ?_
      refine xr_getf F_Mo_41 D_Mo_close_43 rfl rfl ?_
      refine xr_iconst (v := 4) D_Mo_close_46 rfl ?_
      refine xr_cVv (as := [_, _]) (n_Mo_layNumber 4 rfl (by decide) (by have q := hsl; first | omega | (simp only [List.length_append, List.length_cons, List.length_nil, numB_len]; omega)) hB2) (L_Mo_173) (CD_Mo_layNumber) CI_Mo D_Mo_close_47 rfl rfl (by decide) (Nat.le_of_ble_eq_true rfl) (Nat.le_of_eq (Nat.zero_add _)) (Nat.le_of_eq (Nat.zero_add _)) pic_len ?_
      rintro _ ⟨I3, A3, rfl, hI3, hA3, hB3⟩
      refine ⟨_, rfl, pic_leq, ?_⟩
      have f3 := frI_tr (ks := [3409]) f2 hI3 (fun _ h => h) (fun _ h => h)
      have a3 := frA_tr (ks := [43]) a2 hA3 (fun _ h => h) (fun _ h => h)
      rw [f2 3415 (by decide)] at hB3
      refine xr_aload_n D_Mo_close_50 rfl rfl ?_
      refine xr_ldc (v := 25400000) D_Mo_close_51 K_Mo_177 ?_
      refine xr_iconst (v := 4) D_Mo_close_53 rfl ?_
      refine xr_cVv (as := [_, _]) (n_Mo_layNumber 4 rfl (by decide) (by have q := hsl; first | omega | (simp only [List.length_append, List.length_cons, List.length_nil, numB_len]; omega)) hB3) (L_Mo_173) (CD_Mo_layNumber) CI_Mo D_Mo_close_54 rfl rfl (by decide) (Nat.le_of_ble_eq_true rfl) (Nat.le_of_eq (Nat.zero_add _)) (Nat.le_of_eq (Nat.zero_add _)) pic_len ?_
      rintro _ ⟨I4, A4, rfl, hI4, hA4, hB4⟩
      refine ⟨_, rfl, pic_leq, ?_⟩
      have f4 := frI_tr (ks := [3409]) f3 hI4 (fun _ h => h) (fun _ h => h)
      have a4 := frA_tr (ks := [43]) a3 hA4 (fun _ h => h) (fun _ h => h)
      refine xr_aload_n D_Mo_close_57 rfl rfl ?_
      refine xr_ldc (v := 473628672) D_Mo_close_58 K_Mo_178 ?_
      refine xr_iconst (v := 4) D_Mo_close_60 rfl ?_
      refine xr_cVv (as := [_, _]) (n_Mo_layNumber 4 rfl (by decide) (by have q := hsl; first | omega | (simp only [List.length_append, List.length_cons, List.length_nil, numB_len]; omega)) hB4) (L_Mo_173) (CD_Mo_layNumber) CI_Mo D_Mo_close_61 rfl rfl (by decide) (Nat.le_of_ble_eq_true rfl) (Nat.le_of_eq (Nat.zero_add _)) (Nat.le_of_eq (Nat.zero_add _)) pic_len ?_
      rintro _ ⟨I5, A5, rfl, hI5, hA5, hB5⟩
      refine ⟨_, rfl, pic_leq, ?_⟩
      have f5 := frI_tr (ks := [3409]) f4 hI5 (fun _ h => h) (fun _ h => h)
      have a5 := frA_tr (ks := [43]) a4 hA5 (fun _ h => h) (fun _ h => h)
      refine xr_aload_n D_Mo_close_64 rfl rfl ?_
      refine xr_sipush (v := 1000) D_Mo_close_65 rfl ?_
      refine xr_iconst (v := 4) D_Mo_close_68 rfl ?_
      refine xr_cVv (as := [_, _]) (n_Mo_layNumber 4 rfl (by decide) (by have q := hsl; first | omega | (simp only [List.length_append, List.length_cons, List.length_nil, numB_len]; omega)) hB5) (L_Mo_173) (CD_Mo_layNumber) CI_Mo D_Mo_close_69 rfl rfl (by decide) (Nat.le_of_ble_eq_true rfl) (Nat.le_of_eq (Nat.zero_add _)) (Nat.le_of_eq (Nat.zero_add _)) pic_len ?_
      rintro _ ⟨I6, A6, rfl, hI6, hA6, hB6⟩
      refine ⟨_, rfl, pic_leq, ?_⟩
      have f6 := frI_tr (ks := [3409]) f5 hI6 (fun _ h => h) (fun _ h => h)
      have a6 := frA_tr (ks := [43]) a5 hA6 (fun _ h => h) (fun _ h => h)
      refine xr_aload_n D_Mo_close_72 rfl rfl ?_
      refine xr_aload_n D_Mo_close_73 rfl rfl ?_
      refine xr_getf F_Mo_135 D_Mo_close_74 rfl rfl ?_
      refine xr_iconst (v := 4) D_Mo_close_77 rfl ?_
      refine xr_cVv (as := [_, _]) (n_Mo_layNumber 4 rfl (by decide) (by have q := hsl; first | omega | (simp only [List.length_append, List.length_cons, List.length_nil, numB_len]; omega)) hB6) (L_Mo_173) (CD_Mo_layNumber) CI_Mo D_Mo_close_78 rfl rfl (by decide) (Nat.le_of_ble_eq_true rfl) (Nat.le_of_eq (Nat.zero_add _)) (Nat.le_of_eq (Nat.zero_add _)) pic_len ?_
      rintro _ ⟨I7, A7, rfl, hI7, hA7, hB7⟩
      refine ⟨_, rfl, pic_leq, ?_⟩
      have f7 := frI_tr (ks := [3409]) f6 hI7 (fun _ h => h) (fun _ h => h)
      have a7 := frA_tr (ks := [43]) a6 hA7 (fun _ h => h) (fun _ h => h)
      rw [f6 3416 (by decide)] at hB7
      refine xr_aload_n D_Mo_close_81 rfl rfl ?_
      refine xr_aload_n D_Mo_close_82 rfl rfl ?_
      refine xr_getf F_Mo_138 D_Mo_close_83 rfl rfl ?_
      refine xr_iconst (v := 4) D_Mo_close_86 rfl ?_
      refine xr_cVv (as := [_, _]) (n_Mo_layNumber 4 rfl (by decide) (by have q := hsl; first | omega | (simp only [List.length_append, List.length_cons, List.length_nil, numB_len]; omega)) hB7) (L_Mo_173) (CD_Mo_layNumber) CI_Mo D_Mo_close_87 rfl rfl (by decide) (Nat.le_of_ble_eq_true rfl) (Nat.le_of_eq (Nat.zero_add _)) (Nat.le_of_eq (Nat.zero_add _)) pic_len ?_
      rintro _ ⟨I8, A8, rfl, hI8, hA8, hB8⟩
      refine ⟨_, rfl, pic_leq, ?_⟩
      have f8 := frI_tr (ks := [3409]) f7 hI8 (fun _ h => h) (fun _ h => h)
      have a8 := frA_tr (ks := [43]) a7 hA8 (fun _ h => h) (fun _ h => h)
      rw [f7 3417 (by decide)] at hB8
      refine xr_aload_n D_Mo_close_90 rfl rfl ?_
      refine xr_aload_n D_Mo_close_91 rfl rfl ?_
      refine xr_getf F_Mo_132 D_Mo_close_92 rfl rfl ?_
      refine xr_if_le (tgt := 102) D_Mo_close_95 rfl (fun c3 => ?_) (fun c3 => ?_)
      · have hpg : ¬ 0 < I 3414 := by rw [show I 3414 = I8 3414 from (f8 3414 (by decide)).symm]; exact fun z => by have := i_le.mp c3; have := i_lt.mp z; omega
        refine xr_iconst (v := 0) D_Mo_close_102 rfl ?_
        refine xr_iconst (v := 2) D_Mo_close_103 rfl ?_
        refine xr_cVv (as := [_, _]) (n_Mo_layNumber 2 rfl (by decide) (by have q := hsl; first | omega | (simp only [List.length_append, List.length_cons, List.length_nil, numB_len]; omega)) hB8) (L_Mo_173) (CD_Mo_layNumber) CI_Mo D_Mo_close_104 rfl rfl (by decide) (Nat.le_of_ble_eq_true rfl) (Nat.le_of_eq (Nat.zero_add _)) (Nat.le_of_eq (Nat.zero_add _)) pic_len ?_
        rintro _ ⟨I9, A9, rfl, hI9, hA9, hB9⟩
        refine ⟨_, rfl, pic_leq, ?_⟩
        have f9 := frI_tr (ks := [3409]) f8 hI9 (fun _ h => h) (fun _ h => h)
        have a9 := frA_tr (ks := [43]) a8 hA9 (fun _ h => h) (fun _ h => h)
        refine xr_aload_n D_Mo_close_107 rfl rfl ?_
        refine xr_aload_n D_Mo_close_108 rfl rfl ?_
        refine xr_getf F_Mo_132 D_Mo_close_109 rfl rfl ?_
        refine xr_iconst (v := 2) D_Mo_close_112 rfl ?_
        refine xr_cVv (as := [_, _]) (n_Mo_layNumber 2 rfl (by decide) (by have q := hsl; first | omega | (simp only [List.length_append, List.length_cons, List.length_nil, numB_len]; omega)) hB9) (L_Mo_173) (CD_Mo_layNumber) CI_Mo D_Mo_close_113 rfl rfl (by decide) (Nat.le_of_ble_eq_true rfl) (Nat.le_of_eq (Nat.zero_add _)) (Nat.le_of_eq (Nat.zero_add _)) pic_len ?_
        rintro _ ⟨I10, A10, rfl, hI10, hA10, hB10⟩
        refine ⟨_, rfl, pic_leq, ?_⟩
        have f10 := frI_tr (ks := [3409]) f9 hI10 (fun _ h => h) (fun _ h => h)
        have a10 := frA_tr (ks := [43]) a9 hA10 (fun _ h => h) (fun _ h => h)
        rw [f9 3414 (by decide)] at hB10
        refine xr_aload_n D_Mo_close_116 rfl rfl ?_
        refine xr_getf F_Mo_100 D_Mo_close_117 rfl rfl ?_
        refine xr_iconst (v := 1) D_Mo_close_120 rfl ?_
        refine xr_isub D_Mo_close_121 ?_
        refine xr_istore_n D_Mo_close_122 rfl (by decide) ?_
        have hq := hT.1
        have hq2 := nd_len hT.2.1 hT.2.2.2
        refine l_Mo_cl1 hq2 T.length _ _ _ _ ?_ (Nat.le_refl _) (by have q := hsl; first | omega | (simp only [List.length_append, List.length_cons, List.length_nil, numB_len]; omega)) ?_ hB10 ?_
        · show (I10 3418 - 1).toInt = _
          rw [f10 3418 (by decide)]
          show (I 3418 - 1).toInt = _
          rw [i_sub (by rw [z1]; omega) (by rw [z1]; omega), z1, hq]
        · intro k hk
          rw [a10 44 (by decide), a10 39 (by decide), hT.2.2.1 k _ (List.getElem?_eq_getElem hk)]
          have hr := hT.2.2.2 _ (List.getElem_mem hk)
          exact ⟨hr, hL _ hr.1 hr.2⟩
        intro I90 A90 i90 hI90 hA90 hB90
        have f90 := frI_tr (ks := [3409]) f10 hI90 (fun _ h => h) (fun _ h => h)
        have a90 := frA_tr (ks := [43]) a10 hA90 (fun _ h => h) (fun _ h => h)
        have ed : defM A10 = defM A := by
          funext x
          unfold defM
          rw [a10 36 (by decide), a10 37 (by decide), a10 38 (by decide), a10 39 (by decide), a10 40 (by decide)]
        rw [ed, a10 44 (by decide)] at hB90
        have hq3 : ∀ k, k < T.length → (defM A (A 44 k)).length ≤ 32 := by
          intro k hk
          rw [hT.2.2.1 k _ (List.getElem?_eq_getElem hk)]
          have hr := hT.2.2.2 _ (List.getElem_mem hk)
          exact defM_len (hL _ hr.1 hr.2).1 (hL _ hr.1 hr.2).2
        have hq4 := dfF_len (D := defM A) (od := A 44) T.length hq3
        refine xr_aload_n D_Mo_close_143 rfl rfl ?_
        refine xr_sipush (v := 249) D_Mo_close_144 rfl ?_
        refine xr_cVv (as := [_]) (n_Mo_lay (by have q := hsl; first | omega | (simp only [List.length_append, List.length_cons, List.length_nil, numB_len]; omega)) hB90) (L_Mo_150) (CD_Mo_lay) CI_Mo D_Mo_close_147 rfl rfl (by decide) (Nat.le_of_ble_eq_true rfl) (Nat.le_of_eq (Nat.zero_add _)) (Nat.le_of_eq (Nat.zero_add _)) pic_len ?_
        rintro _ ⟨I11, A11, rfl, hI11, hA11, hB11⟩
        refine ⟨_, rfl, pic_leq, ?_⟩
        have f11 := frI_tr (ks := [3409]) f90 hI11 (fun _ h => h) (fun _ h => h)
        have a11 := frA_tr (ks := [43]) a90 hA11 (fun _ h => h) (fun _ h => h)
        refine xr_aload_n D_Mo_close_150 rfl rfl ?_
        refine xr_iload_n D_Mo_close_151 rfl rfl ?_
        refine xr_iconst (v := 4) D_Mo_close_152 rfl ?_
        refine xr_cVv (as := [_, _]) (n_Mo_layNumber 4 rfl (by decide) (by have q := hsl; first | omega | (simp only [List.length_append, List.length_cons, List.length_nil, numB_len]; omega)) hB11) (L_Mo_173) (CD_Mo_layNumber) CI_Mo D_Mo_close_153 rfl rfl (by decide) (Nat.le_of_ble_eq_true rfl) (Nat.le_of_eq (Nat.zero_add _)) (Nat.le_of_eq (Nat.zero_add _)) pic_len ?_
        rintro _ ⟨I12, A12, rfl, hI12, hA12, hB12⟩
        refine ⟨_, rfl, pic_leq, ?_⟩
        have f12 := frI_tr (ks := [3409]) f11 hI12 (fun _ h => h) (fun _ h => h)
        have a12 := frA_tr (ks := [43]) a11 hA12 (fun _ h => h) (fun _ h => h)
        refine xr_aload_n D_Mo_close_156 rfl rfl ?_
        refine xr_iconst (v := 2) D_Mo_close_157 rfl ?_
        refine xr_cVv (as := [_]) (n_Mo_lay (by have q := hsl; first | omega | (simp only [List.length_append, List.length_cons, List.length_nil, numB_len]; omega)) hB12) (L_Mo_150) (CD_Mo_lay) CI_Mo D_Mo_close_158 rfl rfl (by decide) (Nat.le_of_ble_eq_true rfl) (Nat.le_of_eq (Nat.zero_add _)) (Nat.le_of_eq (Nat.zero_add _)) pic_len ?_
        rintro _ ⟨I13, A13, rfl, hI13, hA13, hB13⟩
        refine ⟨_, rfl, pic_leq, ?_⟩
        have f13 := frI_tr (ks := [3409]) f12 hI13 (fun _ h => h) (fun _ h => h)
        have a13 := frA_tr (ks := [43]) a12 hA13 (fun _ h => h) (fun _ h => h)
        refine xr_iconst (v := 0) D_Mo_close_161 rfl ?_
        refine xr_istore_n D_Mo_close_162 rfl (by decide) ?_
        have ep : I1 3409 = Int32.ofNat (stM B (I 3412) (I 3411)).length := i_eq.mpr (by rw [hB1.1, i_of (by omega)])
        have hBz : isO (I13 3409) (A13 43) ((stM B (I 3412) (I 3411)) ++ (edB (I 3415) (I 3416) (I 3417) (I 3414) (Int32.ofNat (stM B (I 3412) (I 3411)).length) (dfF (defM A) (A 44) T.length))) := by
          have hz := hB13
          simp only [List.append_assoc, List.cons_append, List.nil_append] at hz
          rw [ep] at hz
          unfold edB scl
          rw [if_neg hpg]
          simp only [List.append_assoc, List.cons_append, List.nil_append]
          exact hz
        have hlz : ((stM B (I 3412) (I 3411)) ++ (edB (I 3415) (I 3416) (I 3417) (I 3414) (Int32.ofNat (stM B (I 3412) (I 3411)).length) (dfF (defM A) (A 44) T.length))).length + 7 ≤ 131072 := by rw [List.length_append, edB_len]; omega
        refine xr_mono (l_Mo_cl2 hlz (flN ((stM B (I 3412) (I 3411)) ++ (edB (I 3415) (I 3416) (I 3417) (I 3414) (Int32.ofNat (stM B (I 3412) (I 3411)).length) (dfF (defM A) (A 44) T.length))).length) 0 _ _ _ (by omega) rfl hBz) ?_
        rintro _ ⟨I9z, A9z, rfl, q1, q2, q3, q4⟩
        refine Or.inr ⟨c1, I9z, A9z, rfl, fun q hq => ?_, frA_tr a13 q2 (fun _ h => h) (fun _ h => h), q3, q4, ?_⟩
        · simp only [List.mem_cons, List.not_mem_nil, not_or, or_false] at hq
          rw [q1 q (by simp only [List.mem_cons, List.not_mem_nil, not_or, or_false]; exact hq.2), f13 q (by simp only [List.mem_cons, List.not_mem_nil, or_false]; exact hq.2.1), upd_n hq.1]
        · rw [q1 3400 (by decide), f13 3400 (by decide)]; rfl
      · have hpg : 0 < I 3414 := by rw [show I 3414 = I8 3414 from (f8 3414 (by decide)).symm]; exact i_lt.mpr (by have := c3; rw [i_le] at this; omega)
        refine xr_iconst (v := 1) D_Mo_close_98 rfl ?_
        refine xr_goto (tgt := 103) D_Mo_close_99 rfl ?_
        refine xr_iconst (v := 2) D_Mo_close_103 rfl ?_
        refine xr_cVv (as := [_, _]) (n_Mo_layNumber 2 rfl (by decide) (by have q := hsl; first | omega | (simp only [List.length_append, List.length_cons, List.length_nil, numB_len]; omega)) hB8) (L_Mo_173) (CD_Mo_layNumber) CI_Mo D_Mo_close_104 rfl rfl (by decide) (Nat.le_of_ble_eq_true rfl) (Nat.le_of_eq (Nat.zero_add _)) (Nat.le_of_eq (Nat.zero_add _)) pic_len ?_
        rintro _ ⟨I14, A14, rfl, hI14, hA14, hB14⟩
        refine ⟨_, rfl, pic_leq, ?_⟩
        have f14 := frI_tr (ks := [3409]) f8 hI14 (fun _ h => h) (fun _ h => h)
        have a14 := frA_tr (ks := [43]) a8 hA14 (fun _ h => h) (fun _ h => h)
        refine xr_aload_n D_Mo_close_107 rfl rfl ?_
        refine xr_aload_n D_Mo_close_108 rfl rfl ?_
        refine xr_getf F_Mo_132 D_Mo_close_109 rfl rfl ?_
        refine xr_iconst (v := 2) D_Mo_close_112 rfl ?_
        refine xr_cVv (as := [_, _]) (n_Mo_layNumber 2 rfl (by decide) (by have q := hsl; first | omega | (simp only [List.length_append, List.length_cons, List.length_nil, numB_len]; omega)) hB14) (L_Mo_173) (CD_Mo_layNumber) CI_Mo D_Mo_close_113 rfl rfl (by decide) (Nat.le_of_ble_eq_true rfl) (Nat.le_of_eq (Nat.zero_add _)) (Nat.le_of_eq (Nat.zero_add _)) pic_len ?_
        rintro _ ⟨I15, A15, rfl, hI15, hA15, hB15⟩
        refine ⟨_, rfl, pic_leq, ?_⟩
        have f15 := frI_tr (ks := [3409]) f14 hI15 (fun _ h => h) (fun _ h => h)
        have a15 := frA_tr (ks := [43]) a14 hA15 (fun _ h => h) (fun _ h => h)
        rw [f14 3414 (by decide)] at hB15
        refine xr_aload_n D_Mo_close_116 rfl rfl ?_
        refine xr_getf F_Mo_100 D_Mo_close_117 rfl rfl ?_
        refine xr_iconst (v := 1) D_Mo_close_120 rfl ?_
        refine xr_isub D_Mo_close_121 ?_
        refine xr_istore_n D_Mo_close_122 rfl (by decide) ?_
        have hq := hT.1
        have hq2 := nd_len hT.2.1 hT.2.2.2
        refine l_Mo_cl1 hq2 T.length _ _ _ _ ?_ (Nat.le_refl _) (by have q := hsl; first | omega | (simp only [List.length_append, List.length_cons, List.length_nil, numB_len]; omega)) ?_ hB15 ?_
        · show (I15 3418 - 1).toInt = _
          rw [f15 3418 (by decide)]
          show (I 3418 - 1).toInt = _
          rw [i_sub (by rw [z1]; omega) (by rw [z1]; omega), z1, hq]
        · intro k hk
          rw [a15 44 (by decide), a15 39 (by decide), hT.2.2.1 k _ (List.getElem?_eq_getElem hk)]
          have hr := hT.2.2.2 _ (List.getElem_mem hk)
          exact ⟨hr, hL _ hr.1 hr.2⟩
        intro I90 A90 i90 hI90 hA90 hB90
        have f90 := frI_tr (ks := [3409]) f15 hI90 (fun _ h => h) (fun _ h => h)
        have a90 := frA_tr (ks := [43]) a15 hA90 (fun _ h => h) (fun _ h => h)
        have ed : defM A15 = defM A := by
          funext x
          unfold defM
          rw [a15 36 (by decide), a15 37 (by decide), a15 38 (by decide), a15 39 (by decide), a15 40 (by decide)]
        rw [ed, a15 44 (by decide)] at hB90
        have hq3 : ∀ k, k < T.length → (defM A (A 44 k)).length ≤ 32 := by
          intro k hk
          rw [hT.2.2.1 k _ (List.getElem?_eq_getElem hk)]
          have hr := hT.2.2.2 _ (List.getElem_mem hk)
          exact defM_len (hL _ hr.1 hr.2).1 (hL _ hr.1 hr.2).2
        have hq4 := dfF_len (D := defM A) (od := A 44) T.length hq3
        refine xr_aload_n D_Mo_close_143 rfl rfl ?_
        refine xr_sipush (v := 249) D_Mo_close_144 rfl ?_
        refine xr_cVv (as := [_]) (n_Mo_lay (by have q := hsl; first | omega | (simp only [List.length_append, List.length_cons, List.length_nil, numB_len]; omega)) hB90) (L_Mo_150) (CD_Mo_lay) CI_Mo D_Mo_close_147 rfl rfl (by decide) (Nat.le_of_ble_eq_true rfl) (Nat.le_of_eq (Nat.zero_add _)) (Nat.le_of_eq (Nat.zero_add _)) pic_len ?_
        rintro _ ⟨I16, A16, rfl, hI16, hA16, hB16⟩
        refine ⟨_, rfl, pic_leq, ?_⟩
        have f16 := frI_tr (ks := [3409]) f90 hI16 (fun _ h => h) (fun _ h => h)
        have a16 := frA_tr (ks := [43]) a90 hA16 (fun _ h => h) (fun _ h => h)
        refine xr_aload_n D_Mo_close_150 rfl rfl ?_
        refine xr_iload_n D_Mo_close_151 rfl rfl ?_
        refine xr_iconst (v := 4) D_Mo_close_152 rfl ?_
        refine xr_cVv (as := [_, _]) (n_Mo_layNumber 4 rfl (by decide) (by have q := hsl; first | omega | (simp only [List.length_append, List.length_cons, List.length_nil, numB_len]; omega)) hB16) (L_Mo_173) (CD_Mo_layNumber) CI_Mo D_Mo_close_153 rfl rfl (by decide) (Nat.le_of_ble_eq_true rfl) (Nat.le_of_eq (Nat.zero_add _)) (Nat.le_of_eq (Nat.zero_add _)) pic_len ?_
        rintro _ ⟨I17, A17, rfl, hI17, hA17, hB17⟩
        refine ⟨_, rfl, pic_leq, ?_⟩
        have f17 := frI_tr (ks := [3409]) f16 hI17 (fun _ h => h) (fun _ h => h)
        have a17 := frA_tr (ks := [43]) a16 hA17 (fun _ h => h) (fun _ h => h)
        refine xr_aload_n D_Mo_close_156 rfl rfl ?_
        refine xr_iconst (v := 2) D_Mo_close_157 rfl ?_
        refine xr_cVv (as := [_]) (n_Mo_lay (by have q := hsl; first | omega | (simp only [List.length_append, List.length_cons, List.length_nil, numB_len]; omega)) hB17) (L_Mo_150) (CD_Mo_lay) CI_Mo D_Mo_close_158 rfl rfl (by decide) (Nat.le_of_ble_eq_true rfl) (Nat.le_of_eq (Nat.zero_add _)) (Nat.le_of_eq (Nat.zero_add _)) pic_len ?_
        rintro _ ⟨I18, A18, rfl, hI18, hA18, hB18⟩
        refine ⟨_, rfl, pic_leq, ?_⟩
        have f18 := frI_tr (ks := [3409]) f17 hI18 (fun _ h => h) (fun _ h => h)
        have a18 := frA_tr (ks := [43]) a17 hA18 (fun _ h => h) (fun _ h => h)
        refine xr_iconst (v := 0) D_Mo_close_161 rfl ?_
        refine xr_istore_n D_Mo_close_162 rfl (by decide) ?_
        have ep : I1 3409 = Int32.ofNat (stM B (I 3412) (I 3411)).length := i_eq.mpr (by rw [hB1.1, i_of (by omega)])
        have hBz : isO (I18 3409) (A18 43) ((stM B (I 3412) (I 3411)) ++ (edB (I 3415) (I 3416) (I 3417) (I 3414) (Int32.ofNat (stM B (I 3412) (I 3411)).length) (dfF (defM A) (A 44) T.length))) := by
          have hz := hB18
          simp only [List.append_assoc, List.cons_append, List.nil_append] at hz
          rw [ep] at hz
          unfold edB scl
          rw [if_pos hpg]
          simp only [List.append_assoc, List.cons_append, List.nil_append]
          exact hz
        have hlz : ((stM B (I 3412) (I 3411)) ++ (edB (I 3415) (I 3416) (I 3417) (I 3414) (Int32.ofNat (stM B (I 3412) (I 3411)).length) (dfF (defM A) (A 44) T.length))).length + 7 ≤ 131072 := by rw [List.length_append, edB_len]; omega
        refine xr_mono (l_Mo_cl2 hlz (flN ((stM B (I 3412) (I 3411)) ++ (edB (I 3415) (I 3416) (I 3417) (I 3414) (Int32.ofNat (stM B (I 3412) (I 3411)).length) (dfF (defM A) (A 44) T.length))).length) 0 _ _ _ (by omega) rfl hBz) ?_
        rintro _ ⟨I9z, A9z, rfl, q1, q2, q3, q4⟩
        refine Or.inr ⟨c1, I9z, A9z, rfl, fun q hq => ?_, frA_tr a18 q2 (fun _ h => h) (fun _ h => h), q3, q4, ?_⟩
        · simp only [List.mem_cons, List.not_mem_nil, not_or, or_false] at hq
          rw [q1 q (by simp only [List.mem_cons, List.not_mem_nil, not_or, or_false]; exact hq.2), f18 q (by simp only [List.mem_cons, List.not_mem_nil, or_false]; exact hq.2.1), upd_n hq.1]
        · rw [q1 3400 (by decide), f18 3400 (by decide)]; rfl
    · exact absurd (show (0 : Int32) ≤ (0 : Int32) by decide) c2
  · refine xr_iconst (v := 1) D_Mo_close_8 rfl ?_
    refine xr_goto (tgt := 13) D_Mo_close_9 rfl ?_
    refine xr_putf F_Mo_97 FT_Mo FN_Mo_0 D_Mo_close_13 rfl (Nat.le_of_ble_eq_true rfl) rfl rfl (pset_34_0) ?_
    refine xr_aload_n D_Mo_close_16 rfl rfl ?_
    refine xr_getf F_Mo_97 D_Mo_close_17 rfl rfl ?_
    refine xr_if_le (tgt := 25) D_Mo_close_20 rfl (fun c2 => ?_) (fun c2 => ?_)
    · exact absurd (show (1 : Int32) ≤ (0 : Int32) from c2) (by decide)
    · refine xr_iconst (v := 0) D_Mo_close_23 rfl ?_
      refine xr_iret rfl D_Mo_close_24 ?_
      exact Or.inl ⟨c1, rfl⟩
