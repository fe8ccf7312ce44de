abbrev smD (g : Int32 → Int32) (a b : Int32) : Prop := g ((a + 1 + (g a - 243 + 1)) + 12) + g ((a + 1 + (g a - 243 + 1)) + 13) = g ((b + 1 + (g b - 243 + 1)) + 12) + g ((b + 1 + (g b - 243 + 1)) + 13) ∧ smR (fun j => g ((a + 1 + (g a - 243 + 1)) + Int32.ofNat j)) (fun j => g ((b + 1 + (g b - 243 + 1)) + Int32.ofNat j)) 12 0 = true ∧ smR (fun j => g ((a + 1 + (g a - 243 + 1)) + 14 + Int32.ofNat j)) (fun j => g ((b + 1 + (g b - 243 + 1)) + 14 + Int32.ofNat j)) (g ((a + 1 + (g a - 243 + 1)) + 12) + g ((a + 1 + (g a - 243 + 1)) + 13)).toInt.toNat 0 = true
abbrev plO (g : Int32 → Int32) (s a : Int32) : Prop := 0 ≤ a ∧ a < 70000 ∧ 243 ≤ g a ∧ g a ≤ 246 ∧ (a + 1 + (g a - 243 + 1)).toInt + 14 + (g ((a + 1 + (g a - 243 + 1)) + 12) + g ((a + 1 + (g a - 243 + 1)) + 13)).toInt ≤ s.toInt
theorem plO_q {f : Nat → Int32} {s a : Int32} (h : plO (gmt f) s a) (hs : s ≤ 70000) : 0 ≤ a + 1 + (gmt f a - 243 + 1) ∧ a + 1 + (gmt f a - 243 + 1) < 69987 ∧ (∃ n : Nat, n ≤ 510 ∧ (gmt f ((a + 1 + (gmt f a - 243 + 1)) + 12) + gmt f ((a + 1 + (gmt f a - 243 + 1)) + 13)).toInt = (n : Int) ∧ (a + 1 + (gmt f a - 243 + 1)).toInt + 14 + n ≤ 70000) := by
  obtain ⟨h1, h2, h3, h4, h5⟩ := h
  have r1 := gm_r (f := f) (p := (a + 1 + (gmt f a - 243 + 1)) + 12)
  have r2 := gm_r (f := f) (p := (a + 1 + (gmt f a - 243 + 1)) + 13)
  generalize gmt f ((a + 1 + (gmt f a - 243 + 1)) + 12) = x at *
  generalize gmt f ((a + 1 + (gmt f a - 243 + 1)) + 13) = y at *
  have s7 := i_le.mp hs
  rw [z7] at s7
  have b1 := i_le.mp r1.1
  have b2 := i_le.mp r1.2
  have b3 := i_le.mp r2.1
  have b4 := i_le.mp r2.2
  rw [z0] at b1 b3
  rw [show (255 : Int32).toInt = 255 from rfl] at b2 b4
  have e : (x + y).toInt = x.toInt + y.toInt := i_add (by omega) (by omega)
  rw [e] at h5
  have g0 : 0 ≤ a + 1 + (gmt f a - 243 + 1) := by grind
  refine ⟨g0, ?_, (x.toInt + y.toInt).toNat, by omega, by rw [e]; omega, ?_⟩
  · by_cases hx : a + 1 + (gmt f a - 243 + 1) < 69987
    · exact hx
    · exfalso
      have g1 : ¬ ((a + 1 + (gmt f a - 243 + 1)).toInt < (69987 : Int32).toInt) := fun w => hx (i_lt.mpr w)
      rw [show (69987 : Int32).toInt = 69987 from rfl] at g1
      omega
  · have := i_le.mp g0
    rw [z0] at this
    omega

theorem c_Mo_tell_34 {I : mI} {A : mA} {L : mL}  {k : Nat} (hk : (gmt (A 54) (I 3444) - 243 + 1).toInt = (k : Int)) (hk1 : 1 ≤ k ∧ k ≤ 4) (hk7 : (I 3444 + 1).toInt + k ≤ 70000) (h0 : 0 ≤ I 3444) (h1 : I 3444 < 69987) (hf0 : 0 ≤ I 3436) (hf1 : I 3436 ≤ 256) (hs : I 3445 ≤ 70000) (hfa : ¬ (faR (A 57) (nrd (gmt (A 54)) (I 3444 + 1) k) (I 3436).toInt.toNat 0 (-1)) < 0 → vp_in (faR (A 57) (nrd (gmt (A 54)) (I 3444 + 1) k) (I 3436).toInt.toNat 0 (-1)) 256 ∧ plO (gmt (A 54)) (I 3445) (A 58 (faR (A 57) (nrd (gmt (A 54)) (I 3444 + 1) k) (I 3436).toInt.toNat 0 (-1)).toNatClampNeg)) (hat : plO (gmt (A 54)) (I 3445) (I 3444)) : xm m_Mo_tell (4, 90) [.ref 34] (pic I A L) 0 0 (fun o => ((0 ≤ (faR (A 57) (nrd (gmt (A 54)) (I 3444 + 1) k) (I 3436).toInt.toNat 0 (-1)) ∧ smD (gmt (A 54)) (A 58 (faR (A 57) (nrd (gmt (A 54)) (I 3444 + 1) k) (I 3436).toInt.toNat 0 (-1)).toNatClampNeg) (I 3444)) ∧ o = (.inl (some (.int 0)), pic I A L)) ∨ ((0 ≤ (faR (A 57) (nrd (gmt (A 54)) (I 3444 + 1) k) (I 3436).toInt.toNat 0 (-1)) ∧ ¬ smD (gmt (A 54)) (A 58 (faR (A 57) (nrd (gmt (A 54)) (I 3444 + 1) k) (I 3436).toInt.toNat 0 (-1)).toNatClampNeg) (I 3444)) ∧ o = (.inl (some (.int 3)), pic I A L)) ∨ (((faR (A 57) (nrd (gmt (A 54)) (I 3444 + 1) k) (I 3436).toInt.toNat 0 (-1)) < 0 ∧ I 3443 = 3) ∧ o = (.inl (some (.int 3)), pic I A L)) ∨ (((faR (A 57) (nrd (gmt (A 54)) (I 3444 + 1) k) (I 3436).toInt.toNat 0 (-1)) < 0 ∧ ¬ I 3443 = 3 ∧ I 3436 = 256) ∧ o = (.inl (some (.int 9)), pic I A L)) ∨ (((faR (A 57) (nrd (gmt (A 54)) (I 3444 + 1) k) (I 3436).toInt.toNat 0 (-1)) < 0 ∧ ¬ I 3443 = 3 ∧ ¬ I 3436 = 256) ∧ o = (.inl (some (.int 0)), pic (upd I 3436 (I 3436 + 1)) (upA (upA A 57 (I 3436).toNatClampNeg (nrd (gmt (A 54)) (I 3444 + 1) k)) 58 (I 3436).toNatClampNeg (I 3444)) L))) := by
  refine xm_of rfl (by decide) (Nat.le_of_ble_eq_true rfl) ?_
  refine xr_aload_n D_Mo_tell_0 rfl rfl ?_
  refine xr_aload_n D_Mo_tell_1 rfl rfl ?_
  refine xr_getf F_Mo_203 D_Mo_tell_2 rfl rfl ?_
  refine xr_iconst (v := 1) D_Mo_tell_5 rfl ?_
  refine xr_iadd D_Mo_tell_6 ?_
  refine xr_aload_n D_Mo_tell_7 rfl rfl ?_
  refine xr_aload_n D_Mo_tell_8 rfl rfl ?_
  refine xr_getf F_Mo_203 D_Mo_tell_9 rfl rfl ?_
  refine xr_cVx (as := [_]) (c_Mo_byteAt_34 (by grind) (by grind)) (L_Mo_200) (CD_Mo_byteAt) CI_Mo D_Mo_tell_12 rfl rfl (by decide) (Nat.le_of_ble_eq_true rfl) (Nat.le_of_eq (Nat.zero_add _)) (Nat.le_of_eq (Nat.zero_add _)) pic_len ?_
  rintro _ rfl
  refine ⟨_, _, rfl, pic_leq, ?_⟩
  refine xr_sipush (v := 243) D_Mo_tell_15 rfl ?_
  refine xr_cSx (as := [_, _]) (c_Mo_among) (L_Mo_209) (CD_Mo_among) D_Mo_tell_18 rfl (by decide) (Nat.le_of_ble_eq_true rfl) (Nat.le_of_eq (Nat.zero_add _)) (Nat.le_of_eq (Nat.zero_add _)) pic_len ?_
  rintro _ rfl
  refine ⟨_, _, rfl, pic_leq, ?_⟩
  refine xr_iconst (v := 0) D_Mo_tell_21 rfl ?_
  refine xr_cVx (as := [_, _, _]) (c_Mo_numU k hk (by omega) (by omega) (by grind) hk7) (L_Mo_220) (CD_Mo_number) CI_Mo D_Mo_tell_22 rfl rfl (by decide) (Nat.le_of_ble_eq_true rfl) (Nat.le_of_eq (Nat.zero_add _)) (Nat.le_of_eq (Nat.zero_add _)) pic_len ?_
  rintro _ rfl
  refine ⟨_, _, rfl, pic_leq, ?_⟩
  refine xr_istore_n D_Mo_tell_25 rfl (by decide) ?_
  refine xr_aload_n D_Mo_tell_26 rfl rfl ?_
  refine xr_iload_n D_Mo_tell_27 rfl rfl ?_
  refine xr_cVx (as := [_]) (c_Mo_fontAt_34 hf0 hf1) (L_Mo_247) (CD_Mo_fontAt) CI_Mo D_Mo_tell_28 rfl rfl (by decide) (Nat.le_of_ble_eq_true rfl) (Nat.le_of_eq (Nat.zero_add _)) (Nat.le_of_eq (Nat.zero_add _)) pic_len ?_
  rintro _ rfl
  refine ⟨_, _, rfl, pic_leq, ?_⟩
  refine xr_istore_n D_Mo_tell_31 rfl (by decide) ?_
  refine xr_iload_n D_Mo_tell_32 rfl rfl ?_
  refine xr_if_lt (tgt := 59) D_Mo_tell_33 rfl (fun c1 => ?_) (fun c1 => ?_)
  · refine xr_aload_n D_Mo_tell_59 rfl rfl ?_
    refine xr_getf F_Mo_232 D_Mo_tell_60 rfl rfl ?_
    refine xr_iconst (v := 3) D_Mo_tell_63 rfl ?_
    refine xr_icmp_ne (tgt := 69) D_Mo_tell_64 rfl (fun c2 => ?_) (fun c2 => ?_)
    · refine xr_aload_n D_Mo_tell_69 rfl rfl ?_
      refine xr_getf F_Mo_238 D_Mo_tell_70 rfl rfl ?_
      refine xr_sipush (v := 256) D_Mo_tell_73 rfl ?_
      refine xr_icmp_ne (tgt := 82) D_Mo_tell_76 rfl (fun c3 => ?_) (fun c3 => ?_)
      · refine xr_aload_n D_Mo_tell_82 rfl rfl ?_
        refine xr_getf F_Mo_85 D_Mo_tell_83 rfl rfl ?_
        refine xr_aload_n D_Mo_tell_86 rfl rfl ?_
        refine xr_getf F_Mo_238 D_Mo_tell_87 rfl rfl ?_
        refine xr_iload_n D_Mo_tell_90 rfl rfl ?_
        refine xr_iast D_Mo_tell_91 rfl (by exact i_in2 256 hf0 (by grind) rfl) (aset_57) ?_
        refine xr_aload_n D_Mo_tell_92 rfl rfl ?_
        refine xr_getf F_Mo_88 D_Mo_tell_93 rfl rfl ?_
        refine xr_aload_n D_Mo_tell_96 rfl rfl ?_
        refine xr_getf F_Mo_238 D_Mo_tell_97 rfl rfl ?_
        refine xr_aload_n D_Mo_tell_100 rfl rfl ?_
        refine xr_getf F_Mo_203 D_Mo_tell_101 rfl rfl ?_
        refine xr_iast D_Mo_tell_104 rfl (by exact i_in2 256 hf0 (by grind) rfl) (aset_58) ?_
        refine xr_aload_n D_Mo_tell_105 rfl rfl ?_
        refine xr_dup D_Mo_tell_106 rfl ?_
        refine xr_getf F_Mo_238 D_Mo_tell_107 rfl rfl ?_
        refine xr_iconst (v := 1) D_Mo_tell_110 rfl ?_
        refine xr_iadd D_Mo_tell_111 ?_
        refine xr_putf F_Mo_238 FT_Mo FN_Mo_36 D_Mo_tell_112 rfl (Nat.le_of_ble_eq_true rfl) rfl rfl (pset_34_36) ?_
        refine xr_iconst (v := 0) D_Mo_tell_115 rfl ?_
        refine xr_iret rfl D_Mo_tell_116 ?_
        exact Or.inr (Or.inr (Or.inr (Or.inr (⟨⟨by assumption, by assumption, by assumption⟩, rfl⟩))))
      · refine xr_bipush (v := 9) D_Mo_tell_79 rfl ?_
        refine xr_iret rfl D_Mo_tell_81 ?_
        exact Or.inr (Or.inr (Or.inr (Or.inl ⟨⟨by assumption, by assumption, by assumption⟩, rfl⟩)))
    · refine xr_iconst (v := 3) D_Mo_tell_67 rfl ?_
      refine xr_iret rfl D_Mo_tell_68 ?_
      exact Or.inr (Or.inr (Or.inl ⟨⟨by assumption, by assumption⟩, rfl⟩))
  · have hfm := hfa c1
    have pq := plO_q hfm.2 hs
    obtain ⟨nn, n5, ne, n7⟩ := pq.2.2
    have bq := plO_q hat hs
    obtain ⟨mm, m5, me, m7⟩ := bq.2.2
    have hI9 := c_Mo_isSame_34 (L := L) (I := I) hfm.2.1 hfm.2.2.1 rfl pq.1 pq.2.1 n7 bq.1 bq.2.1 (fun z => by have := congrArg Int32.toInt z; rw [ne, me] at this; omega) ne n5 hat.1 hat.2.1 rfl
    refine xr_aload_n D_Mo_tell_36 rfl rfl ?_
    refine xr_aload_n D_Mo_tell_37 rfl rfl ?_
    refine xr_getf F_Mo_88 D_Mo_tell_38 rfl rfl ?_
    refine xr_iload_n D_Mo_tell_41 rfl rfl ?_
    refine xr_iald D_Mo_tell_42 rfl (by exact hfm.1) ?_
    refine xr_aload_n D_Mo_tell_43 rfl rfl ?_
    refine xr_getf F_Mo_203 D_Mo_tell_44 rfl rfl ?_
    refine xr_cVx (as := [_, _]) (hI9) (L_Mo_250) (CD_Mo_isSame) CI_Mo D_Mo_tell_47 rfl rfl (by decide) (Nat.le_of_ble_eq_true rfl) (Nat.le_of_eq (Nat.zero_add _)) (Nat.le_of_eq (Nat.zero_add _)) pic_len ?_
    rintro _ rfl
    refine ⟨_, _, rfl, pic_leq, ?_⟩
    refine xr_if_eq (tgt := 57) D_Mo_tell_50 rfl (fun c2 => ?_) (fun c2 => ?_)
    · rw [b2_0] at c2
      refine xr_iconst (v := 3) D_Mo_tell_57 rfl ?_
      refine xr_iret rfl D_Mo_tell_58 ?_
      exact Or.inr (Or.inl ⟨⟨by grind, by unfold smD; rw [ne, Int.toNat_natCast]; exact c2⟩, rfl⟩)
    · rw [b2_n] at c2
      refine xr_iconst (v := 0) D_Mo_tell_53 rfl ?_
      refine xr_goto (tgt := 58) D_Mo_tell_54 rfl ?_
      refine xr_iret rfl D_Mo_tell_58 ?_
      exact Or.inl ⟨⟨by grind, by unfold smD; rw [ne, Int.toNat_natCast]; exact c2⟩, rfl⟩

def pgM (g : Int32 → Int32) (p b : Int32) : Nat → Nat → (Nat → Int32) → (Nat → Int32)
  | 0, _, f => f
  | t + 1, j, f => pgM g p b t (j + 1) (upd f (10 * b + Int32.ofNat j).toNatClampNeg (nrd g (p + 4 * Int32.ofNat j) 4))

theorem l_Mo_bp {I : mI} {L : mL} {Q : xO → Prop} (h0 : 0 ≤ I 3444) (h1 : I 3444 < 69956) (hp0 : 0 ≤ I 3434) (hp1 : I 3434 < 1300) : ∀ (t j : Nat) (A : mA), j + t = 10 → xr m_Mo_beginPage none (2, 46) 87 [some (.ref 34), some (.int (Int32.ofNat 10))] [] (pic I (upAf A 56 (pgM (gmt (A 54)) (I 3444 + 1) (I 3434) t j (A 56))) L) 0 0 Q → xr m_Mo_beginPage none (2, 46) 45 [some (.ref 34), some (.int (Int32.ofNat j))] [] (pic I A L) 0 0 Q := by
  have e10 : (10 : Int32).toInt = 10 := rfl
  intro t
  induction t with
  | zero =>
    intro j A hj K
    have hj : j = 10 := by omega
    subst hj
    rw [show pgM (gmt (A 54)) (I 3444 + 1) (I 3434) 0 10 (A 56) = A 56 from rfl, upAf_self] at K
    refine xr_iload_n D_Mo_beginPage_45 rfl rfl ?_
    refine xr_bipush (v := 10) D_Mo_beginPage_46 rfl ?_
    refine xr_icmp_ge (tgt := 87) D_Mo_beginPage_48 rfl (fun c1 => ?_) (fun c1 => ?_)
    · exact K
    · exact absurd (show (10 : Int32) ≤ Int32.ofNat 10 by decide) c1
  | succ t ih =>
    intro j A hj K
    have hj1 : Int32.ofNat j < 10 := i_lt.mpr (by rw [i_of (by omega), e10]; omega)
    have hj0 : 0 ≤ Int32.ofNat j := i_le.mpr (by rw [i_of (by omega), z0]; omega)
    refine xr_iload_n D_Mo_beginPage_45 rfl rfl ?_
    refine xr_bipush (v := 10) D_Mo_beginPage_46 rfl ?_
    refine xr_icmp_ge (tgt := 87) D_Mo_beginPage_48 rfl (fun c1 => ?_) (fun c1 => ?_)
    · exact absurd c1 (by grind)
    · refine xr_aload_n D_Mo_beginPage_51 rfl rfl ?_
      refine xr_getf F_Mo_82 D_Mo_beginPage_52 rfl rfl ?_
      refine xr_bipush (v := 10) D_Mo_beginPage_55 rfl ?_
      refine xr_aload_n D_Mo_beginPage_57 rfl rfl ?_
      refine xr_getf F_Mo_257 D_Mo_beginPage_58 rfl rfl ?_
      refine xr_imul D_Mo_beginPage_61 ?_
      refine xr_iload_n D_Mo_beginPage_62 rfl rfl ?_
      refine xr_iadd D_Mo_beginPage_63 ?_
      refine xr_aload_n D_Mo_beginPage_64 rfl rfl ?_
      refine xr_aload_n D_Mo_beginPage_65 rfl rfl ?_
      refine xr_getf F_Mo_203 D_Mo_beginPage_66 rfl rfl ?_
      refine xr_iconst (v := 1) D_Mo_beginPage_69 rfl ?_
      refine xr_iadd D_Mo_beginPage_70 ?_
      refine xr_iconst (v := 4) D_Mo_beginPage_71 rfl ?_
      refine xr_iload_n D_Mo_beginPage_72 rfl rfl ?_
      refine xr_imul D_Mo_beginPage_73 ?_
      refine xr_iadd D_Mo_beginPage_74 ?_
      refine xr_iconst (v := 4) D_Mo_beginPage_75 rfl ?_
      refine xr_iconst (v := 1) D_Mo_beginPage_76 rfl ?_
      refine xr_cVx (as := [_, _, _]) (c_Mo_num4 (by grind) (by grind)) (L_Mo_220) (CD_Mo_number) CI_Mo D_Mo_beginPage_77 rfl rfl (by decide) (Nat.le_of_ble_eq_true rfl) (Nat.le_of_eq (Nat.zero_add _)) (Nat.le_of_eq (Nat.zero_add _)) pic_len ?_
      rintro _ rfl
      refine ⟨_, _, rfl, pic_leq, ?_⟩
      refine xr_iast D_Mo_beginPage_80 rfl (by exact i_in2 13000 (by grind) (by grind) rfl) (aset_56) ?_
      refine xr_iinc (c9 := 1) D_Mo_beginPage_81 rfl rfl (by decide) ?_
      refine xr_goto (tgt := 45) D_Mo_beginPage_84 rfl ?_
      rw [io_succ]
      refine ih (j + 1) _ (by omega) ?_
      rw [upAf_upA]
      exact K

theorem c_Mo_beginPage_34 {I : mI} {A : mA} {L : mL}  (h0 : 0 ≤ I 3444) (h1 : I 3444 < 69956) (hp0 : 0 ≤ I 3434) (hp1 : I 3434 ≤ 1300) : xm m_Mo_beginPage (2, 46) [.ref 34] (pic I A L) 0 0 (fun o => ((¬ nrd (gmt (A 54)) (I 3444 + 41) 4 = I 3446) ∧ o = (.inl (some (.int 5)), pic I A L)) ∨ ((nrd (gmt (A 54)) (I 3444 + 41) 4 = I 3446 ∧ I 3434 = 1300) ∧ o = (.inl (some (.int 9)), pic I A L)) ∨ ((nrd (gmt (A 54)) (I 3444 + 41) 4 = I 3446 ∧ ¬ I 3434 = 1300) ∧ o = (.inl (some (.int 0)), pic (upd (upd (upd (upd (upd I 3446 (I 3444)) 3434 (I 3434 + 1)) 3443 2) 3449 0) 3450 0) (six0 (upAf A 56 (pgM (gmt (A 54)) (I 3444 + 1) (I 3434) 10 0 (A 56)))) L))) := by
  refine xm_of rfl (by decide) (Nat.le_of_ble_eq_true rfl) ?_
  refine xr_aload_n D_Mo_beginPage_0 rfl rfl ?_
  refine xr_aload_n D_Mo_beginPage_1 rfl rfl ?_
  refine xr_getf F_Mo_203 D_Mo_beginPage_2 rfl rfl ?_
  refine xr_bipush (v := 41) D_Mo_beginPage_5 rfl ?_
  refine xr_iadd D_Mo_beginPage_7 ?_
  refine xr_iconst (v := 4) D_Mo_beginPage_8 rfl ?_
  refine xr_iconst (v := 1) D_Mo_beginPage_9 rfl ?_
  refine xr_cVx (as := [_, _, _]) (c_Mo_num4 (by grind) (by grind)) (L_Mo_220) (CD_Mo_number) CI_Mo D_Mo_beginPage_10 rfl rfl (by decide) (Nat.le_of_ble_eq_true rfl) (Nat.le_of_eq (Nat.zero_add _)) (Nat.le_of_eq (Nat.zero_add _)) pic_len ?_
  rintro _ rfl
  refine ⟨_, _, rfl, pic_leq, ?_⟩
  refine xr_aload_n D_Mo_beginPage_13 rfl rfl ?_
  refine xr_getf F_Mo_254 D_Mo_beginPage_14 rfl rfl ?_
  refine xr_icmp_eq (tgt := 22) D_Mo_beginPage_17 rfl (fun c1 => ?_) (fun c1 => ?_)
  · refine xr_aload_n D_Mo_beginPage_22 rfl rfl ?_
    refine xr_getf F_Mo_257 D_Mo_beginPage_23 rfl rfl ?_
    refine xr_sipush (v := 1300) D_Mo_beginPage_26 rfl ?_
    refine xr_icmp_ne (tgt := 35) D_Mo_beginPage_29 rfl (fun c2 => ?_) (fun c2 => ?_)
    · refine xr_aload_n D_Mo_beginPage_35 rfl rfl ?_
      refine xr_aload_n D_Mo_beginPage_36 rfl rfl ?_
      refine xr_getf F_Mo_203 D_Mo_beginPage_37 rfl rfl ?_
      refine xr_putf F_Mo_254 FT_Mo FN_Mo_46 D_Mo_beginPage_40 rfl (Nat.le_of_ble_eq_true rfl) rfl rfl (pset_34_46) ?_
      refine xr_iconst (v := 0) D_Mo_beginPage_43 rfl ?_
      refine xr_istore_n D_Mo_beginPage_44 rfl (by decide) ?_
      refine l_Mo_bp (I := upd I 3446 (I 3444)) h0 h1 hp0 (show I 3434 < 1300 by grind) 10 0 A rfl ?_
      refine xr_aload_n D_Mo_beginPage_87 rfl rfl ?_
      refine xr_dup D_Mo_beginPage_88 rfl ?_
      refine xr_getf F_Mo_257 D_Mo_beginPage_89 rfl rfl ?_
      refine xr_iconst (v := 1) D_Mo_beginPage_92 rfl ?_
      refine xr_iadd D_Mo_beginPage_93 ?_
      refine xr_putf F_Mo_257 FT_Mo FN_Mo_34 D_Mo_beginPage_94 rfl (Nat.le_of_ble_eq_true rfl) rfl rfl (pset_34_34) ?_
      refine xr_aload_n D_Mo_beginPage_97 rfl rfl ?_
      refine xr_iconst (v := 2) D_Mo_beginPage_98 rfl ?_
      refine xr_putf F_Mo_232 FT_Mo FN_Mo_43 D_Mo_beginPage_99 rfl (Nat.le_of_ble_eq_true rfl) rfl rfl (pset_34_43) ?_
      refine xr_aload_n D_Mo_beginPage_102 rfl rfl ?_
      refine xr_iconst (v := 0) D_Mo_beginPage_103 rfl ?_
      refine xr_putf F_Mo_260 FT_Mo FN_Mo_49 D_Mo_beginPage_104 rfl (Nat.le_of_ble_eq_true rfl) rfl rfl (pset_34_49) ?_
      refine xr_aload_n D_Mo_beginPage_107 rfl rfl ?_
      refine xr_iconst (v := 0) D_Mo_beginPage_108 rfl ?_
      refine xr_putf F_Mo_263 FT_Mo FN_Mo_50 D_Mo_beginPage_109 rfl (Nat.le_of_ble_eq_true rfl) rfl rfl (pset_34_50) ?_
      refine xr_iconst (v := 0) D_Mo_beginPage_112 rfl ?_
      refine xr_istore_n D_Mo_beginPage_113 rfl (by decide) ?_
      refine xr_iload_n D_Mo_beginPage_114 rfl rfl ?_
      refine xr_bipush (v := 6) D_Mo_beginPage_115 rfl ?_
      refine xr_icmp_ge (tgt := 133) D_Mo_beginPage_117 rfl (fun c3 => ?_) (fun c3 => ?_)
      · exact absurd (show (6 : Int32) ≤ (0 : Int32) from c3) (by decide)
      · refine xr_aload_n D_Mo_beginPage_120 rfl rfl ?_
        refine xr_getf F_Mo_94 D_Mo_beginPage_121 rfl rfl ?_
        refine xr_iload_n D_Mo_beginPage_124 rfl rfl ?_
        refine xr_iconst (v := 0) D_Mo_beginPage_125 rfl ?_
        refine xr_iast D_Mo_beginPage_126 rfl (by exact i_in2 6 (by decide) (by decide) rfl) (aset_60) ?_
        refine xr_iinc2 (v9 := 1) (c9 := 1) D_Mo_beginPage_127 rfl rfl rfl (by decide) ?_
        refine xr_goto (tgt := 114) D_Mo_beginPage_130 rfl ?_
        refine xr_iload_n D_Mo_beginPage_114 rfl rfl ?_
        refine xr_bipush (v := 6) D_Mo_beginPage_115 rfl ?_
        refine xr_icmp_ge (tgt := 133) D_Mo_beginPage_117 rfl (fun c4 => ?_) (fun c4 => ?_)
        · exact absurd (show (6 : Int32) ≤ (1 : Int32) from c4) (by decide)
        · refine xr_aload_n D_Mo_beginPage_120 rfl rfl ?_
          refine xr_getf F_Mo_94 D_Mo_beginPage_121 rfl rfl ?_
          refine xr_iload_n D_Mo_beginPage_124 rfl rfl ?_
          refine xr_iconst (v := 0) D_Mo_beginPage_125 rfl ?_
          refine xr_iast D_Mo_beginPage_126 rfl (by exact i_in2 6 (by decide) (by decide) rfl) (aset_60) ?_
          refine xr_iinc2 (v9 := 2) (c9 := 1) D_Mo_beginPage_127 rfl rfl rfl (by decide) ?_
          refine xr_goto (tgt := 114) D_Mo_beginPage_130 rfl ?_
          refine xr_iload_n D_Mo_beginPage_114 rfl rfl ?_
          refine xr_bipush (v := 6) D_Mo_beginPage_115 rfl ?_
          refine xr_icmp_ge (tgt := 133) D_Mo_beginPage_117 rfl (fun c5 => ?_) (fun c5 => ?_)
          · exact absurd (show (6 : Int32) ≤ (2 : Int32) from c5) (by decide)
          · refine xr_aload_n D_Mo_beginPage_120 rfl rfl ?_
            refine xr_getf F_Mo_94 D_Mo_beginPage_121 rfl rfl ?_
            refine xr_iload_n D_Mo_beginPage_124 rfl rfl ?_
            refine xr_iconst (v := 0) D_Mo_beginPage_125 rfl ?_
            refine xr_iast D_Mo_beginPage_126 rfl (by exact i_in2 6 (by decide) (by decide) rfl) (aset_60) ?_
            refine xr_iinc2 (v9 := 3) (c9 := 1) D_Mo_beginPage_127 rfl rfl rfl (by decide) ?_
            refine xr_goto (tgt := 114) D_Mo_beginPage_130 rfl ?_
            refine xr_iload_n D_Mo_beginPage_114 rfl rfl ?_
            refine xr_bipush (v := 6) D_Mo_beginPage_115 rfl ?_
            refine xr_icmp_ge (tgt := 133) D_Mo_beginPage_117 rfl (fun c6 => ?_) (fun c6 => ?_)
            · exact absurd (show (6 : Int32) ≤ (3 : Int32) from c6) (by decide)
            · refine xr_aload_n D_Mo_beginPage_120 rfl rfl ?_
              refine xr_getf F_Mo_94 D_Mo_beginPage_121 rfl rfl ?_
              refine xr_iload_n D_Mo_beginPage_124 rfl rfl ?_
              refine xr_iconst (v := 0) D_Mo_beginPage_125 rfl ?_
              refine xr_iast D_Mo_beginPage_126 rfl (by exact i_in2 6 (by decide) (by decide) rfl) (aset_60) ?_
              refine xr_iinc2 (v9 := 4) (c9 := 1) D_Mo_beginPage_127 rfl rfl rfl (by decide) ?_
              refine xr_goto (tgt := 114) D_Mo_beginPage_130 rfl ?_
              refine xr_iload_n D_Mo_beginPage_114 rfl rfl ?_
              refine xr_bipush (v := 6) D_Mo_beginPage_115 rfl ?_
              refine xr_icmp_ge (tgt := 133) D_Mo_beginPage_117 rfl (fun c7 => ?_) (fun c7 => ?_)
              · exact absurd (show (6 : Int32) ≤ (4 : Int32) from c7) (by decide)
              · refine xr_aload_n D_Mo_beginPage_120 rfl rfl ?_
                refine xr_getf F_Mo_94 D_Mo_beginPage_121 rfl rfl ?_
                refine xr_iload_n D_Mo_beginPage_124 rfl rfl ?_
                refine xr_iconst (v := 0) D_Mo_beginPage_125 rfl ?_
                refine xr_iast D_Mo_beginPage_126 rfl (by exact i_in2 6 (by decide) (by decide) rfl) (aset_60) ?_
                refine xr_iinc2 (v9 := 5) (c9 := 1) D_Mo_beginPage_127 rfl rfl rfl (by decide) ?_
                refine xr_goto (tgt := 114) D_Mo_beginPage_130 rfl ?_
                refine xr_iload_n D_Mo_beginPage_114 rfl rfl ?_
                refine xr_bipush (v := 6) D_Mo_beginPage_115 rfl ?_
                refine xr_icmp_ge (tgt := 133) D_Mo_beginPage_117 rfl (fun c8 => ?_) (fun c8 => ?_)
                · exact absurd (show (6 : Int32) ≤ (5 : Int32) from c8) (by decide)
                · refine xr_aload_n D_Mo_beginPage_120 rfl rfl ?_
                  refine xr_getf F_Mo_94 D_Mo_beginPage_121 rfl rfl ?_
                  refine xr_iload_n D_Mo_beginPage_124 rfl rfl ?_
                  refine xr_iconst (v := 0) D_Mo_beginPage_125 rfl ?_
                  refine xr_iast D_Mo_beginPage_126 rfl (by exact i_in2 6 (by decide) (by decide) rfl) (aset_60) ?_
                  refine xr_iinc2 (v9 := 6) (c9 := 1) D_Mo_beginPage_127 rfl rfl rfl (by decide) ?_
                  refine xr_goto (tgt := 114) D_Mo_beginPage_130 rfl ?_
                  refine xr_iload_n D_Mo_beginPage_114 rfl rfl ?_
                  refine xr_bipush (v := 6) D_Mo_beginPage_115 rfl ?_
                  refine xr_icmp_ge (tgt := 133) D_Mo_beginPage_117 rfl (fun c9 => ?_) (fun c9 => ?_)
                  · refine xr_iconst (v := 0) D_Mo_beginPage_133 rfl ?_
                    refine xr_iret rfl D_Mo_beginPage_134 ?_
                    exact Or.inr (Or.inr (⟨⟨c1, c2⟩, rfl⟩))
                  · exact absurd (show (6 : Int32) ≤ (6 : Int32) by decide) c9
    · refine xr_bipush (v := 9) D_Mo_beginPage_32 rfl ?_
      refine xr_iret rfl D_Mo_beginPage_34 ?_
      exact Or.inr (Or.inl ⟨⟨c1, c2⟩, rfl⟩)
  · refine xr_iconst (v := 5) D_Mo_beginPage_20 rfl ?_
    refine xr_iret rfl D_Mo_beginPage_21 ?_
    exact Or.inl ⟨c1, rfl⟩

theorem c_Mo_post_34 {I : mI} {A : mA} {L : mL}  (h0 : 0 ≤ I 3444) (h1 : I 3444 < 69972) : xm m_Mo_post (2, 46) [.ref 34] (pic I A L) 0 0 (fun o => ((¬ nrd (gmt (A 54)) (I 3444 + 1) 4 = I 3446) ∧ o = (.inl (some (.int 5)), pic I A L)) ∨ ((nrd (gmt (A 54)) (I 3444 + 1) 4 = I 3446 ∧ ¬ (nrd (gmt (A 54)) (I 3444 + 26 + 1) 2 = (I 3434 &&& 65535) ∧ smR (fun j => gmt (A 54) (I 3444 + 5 + Int32.ofNat j)) (fun j => gmt (A 54) (2 + Int32.ofNat j)) 12 0 = true)) ∧ o = (.inl (some (.int 6)), pic I A L)) ∨ ((nrd (gmt (A 54)) (I 3444 + 1) 4 = I 3446 ∧ (nrd (gmt (A 54)) (I 3444 + 26 + 1) 2 = (I 3434 &&& 65535) ∧ smR (fun j => gmt (A 54) (I 3444 + 5 + Int32.ofNat j)) (fun j => gmt (A 54) (2 + Int32.ofNat j)) 12 0 = true)) ∧ o = (.inl (some (.int 0)), pic (upd (upd (upd (upd (upd I 3439 (nrd (gmt (A 54)) (I 3444 + 13) 4)) 3440 (nrd (gmt (A 54)) (I 3444 + 17) 4)) 3441 (nrd (gmt (A 54)) (I 3444 + 21) 4)) 3447 (I 3444)) 3443 3) A L))) := by
  refine xm_of rfl (by decide) (Nat.le_of_ble_eq_true rfl) ?_
  have hp27 : (I 3444 + 26 + 1).toInt + (2 : Nat) ≤ 70000 := by
    have q : I 3444 + 26 + 1 < 69999 := by grind
    have q2 := i_lt.mp q
    rw [show (69999 : Int32).toInt = 69999 from rfl] at q2
    omega
  refine xr_aload_n D_Mo_post_0 rfl rfl ?_
  refine xr_aload_n D_Mo_post_1 rfl rfl ?_
  refine xr_getf F_Mo_203 D_Mo_post_2 rfl rfl ?_
  refine xr_iconst (v := 1) D_Mo_post_5 rfl ?_
  refine xr_iadd D_Mo_post_6 ?_
  refine xr_iconst (v := 4) D_Mo_post_7 rfl ?_
  refine xr_iconst (v := 1) D_Mo_post_8 rfl ?_
  refine xr_cVx (as := [_, _, _]) (c_Mo_num4 (by grind) (by grind)) (L_Mo_220) (CD_Mo_number) CI_Mo D_Mo_post_9 rfl rfl (by decide) (Nat.le_of_ble_eq_true rfl) (Nat.le_of_eq (Nat.zero_add _)) (Nat.le_of_eq (Nat.zero_add _)) pic_len ?_
  rintro _ rfl
  refine ⟨_, _, rfl, pic_leq, ?_⟩
  refine xr_aload_n D_Mo_post_12 rfl rfl ?_
  refine xr_getf F_Mo_254 D_Mo_post_13 rfl rfl ?_
  refine xr_icmp_eq (tgt := 21) D_Mo_post_16 rfl (fun c1 => ?_) (fun c1 => ?_)
  · refine xr_aload_n D_Mo_post_21 rfl rfl ?_
    refine xr_aload_n D_Mo_post_22 rfl rfl ?_
    refine xr_getf F_Mo_203 D_Mo_post_23 rfl rfl ?_
    refine xr_bipush (v := 26) D_Mo_post_26 rfl ?_
    refine xr_iadd D_Mo_post_28 ?_
    refine xr_iconst (v := 1) D_Mo_post_29 rfl ?_
    refine xr_iadd D_Mo_post_30 ?_
    refine xr_iconst (v := 2) D_Mo_post_31 rfl ?_
    refine xr_iconst (v := 0) D_Mo_post_32 rfl ?_
    refine xr_cVx (as := [_, _, _]) (c_Mo_numU 2 rfl (by decide) (by decide) (by grind) hp27) (L_Mo_220) (CD_Mo_number) CI_Mo D_Mo_post_33 rfl rfl (by decide) (Nat.le_of_ble_eq_true rfl) (Nat.le_of_eq (Nat.zero_add _)) (Nat.le_of_eq (Nat.zero_add _)) pic_len ?_
    rintro _ rfl
    refine ⟨_, _, rfl, pic_leq, ?_⟩
    refine xr_aload_n D_Mo_post_36 rfl rfl ?_
    refine xr_getf F_Mo_257 D_Mo_post_37 rfl rfl ?_
    refine xr_ldcw (v := 65535) D_Mo_post_40 K_Mo_266 ?_
    refine xr_iand D_Mo_post_43 ?_
    refine xr_icmp_ne (tgt := 51) D_Mo_post_44 rfl (fun c2 => ?_) (fun c2 => ?_)
    · refine xr_iconst (v := 0) D_Mo_post_51 rfl ?_
      refine xr_istore_n D_Mo_post_52 rfl (by decide) ?_
      refine xr_iconst (v := 0) D_Mo_post_53 rfl ?_
      refine xr_istore_n D_Mo_post_54 rfl (by decide) ?_
      refine l_Mo_po h0 h1 12 0 0 (Or.inl rfl) rfl (fun j9 => ?_)
      refine xr_iload_n D_Mo_post_99 rfl rfl ?_
      refine xr_if_ne (tgt := 106) D_Mo_post_100 rfl (fun c3 => ?_) (fun c3 => ?_)
      · rw [b2_n] at c3
        refine xr_aload_n D_Mo_post_106 rfl rfl ?_
        refine xr_aload_n D_Mo_post_107 rfl rfl ?_
        refine xr_aload_n D_Mo_post_108 rfl rfl ?_
        refine xr_getf F_Mo_203 D_Mo_post_109 rfl rfl ?_
        refine xr_bipush (v := 13) D_Mo_post_112 rfl ?_
        refine xr_iadd D_Mo_post_114 ?_
        refine xr_iconst (v := 4) D_Mo_post_115 rfl ?_
        refine xr_iconst (v := 1) D_Mo_post_116 rfl ?_
        refine xr_cVx (as := [_, _, _]) (c_Mo_num4 (by grind) (by grind)) (L_Mo_220) (CD_Mo_number) CI_Mo D_Mo_post_117 rfl rfl (by decide) (Nat.le_of_ble_eq_true rfl) (Nat.le_of_eq (Nat.zero_add _)) (Nat.le_of_eq (Nat.zero_add _)) pic_len ?_
        rintro _ rfl
        refine ⟨_, _, rfl, pic_leq, ?_⟩
        refine xr_putf F_Mo_267 FT_Mo FN_Mo_39 D_Mo_post_120 rfl (Nat.le_of_ble_eq_true rfl) rfl rfl (pset_34_39) ?_
        refine xr_aload_n D_Mo_post_123 rfl rfl ?_
        refine xr_aload_n D_Mo_post_124 rfl rfl ?_
        refine xr_aload_n D_Mo_post_125 rfl rfl ?_
        refine xr_getf F_Mo_203 D_Mo_post_126 rfl rfl ?_
        refine xr_bipush (v := 17) D_Mo_post_129 rfl ?_
        refine xr_iadd D_Mo_post_131 ?_
        refine xr_iconst (v := 4) D_Mo_post_132 rfl ?_
        refine xr_iconst (v := 1) D_Mo_post_133 rfl ?_
        refine xr_cVx (as := [_, _, _]) (c_Mo_num4 (show 0 ≤ I 3444 + 17 by grind) (show I 3444 + 17 < 69997 by grind)) (L_Mo_220) (CD_Mo_number) CI_Mo D_Mo_post_134 rfl rfl (by decide) (Nat.le_of_ble_eq_true rfl) (Nat.le_of_eq (Nat.zero_add _)) (Nat.le_of_eq (Nat.zero_add _)) pic_len ?_
        rintro _ rfl
        refine ⟨_, _, rfl, pic_leq, ?_⟩
        refine xr_putf F_Mo_270 FT_Mo FN_Mo_40 D_Mo_post_137 rfl (Nat.le_of_ble_eq_true rfl) rfl rfl (pset_34_40) ?_
        refine xr_aload_n D_Mo_post_140 rfl rfl ?_
        refine xr_aload_n D_Mo_post_141 rfl rfl ?_
        refine xr_aload_n D_Mo_post_142 rfl rfl ?_
        refine xr_getf F_Mo_203 D_Mo_post_143 rfl rfl ?_
        refine xr_bipush (v := 21) D_Mo_post_146 rfl ?_
        refine xr_iadd D_Mo_post_148 ?_
        refine xr_iconst (v := 4) D_Mo_post_149 rfl ?_
        refine xr_iconst (v := 1) D_Mo_post_150 rfl ?_
        refine xr_cVx (as := [_, _, _]) (c_Mo_num4 (show 0 ≤ I 3444 + 21 by grind) (show I 3444 + 21 < 69997 by grind)) (L_Mo_220) (CD_Mo_number) CI_Mo D_Mo_post_151 rfl rfl (by decide) (Nat.le_of_ble_eq_true rfl) (Nat.le_of_eq (Nat.zero_add _)) (Nat.le_of_eq (Nat.zero_add _)) pic_len ?_
        rintro _ rfl
        refine ⟨_, _, rfl, pic_leq, ?_⟩
        refine xr_putf F_Mo_273 FT_Mo FN_Mo_41 D_Mo_post_154 rfl (Nat.le_of_ble_eq_true rfl) rfl rfl (pset_34_41) ?_
        refine xr_aload_n D_Mo_post_157 rfl rfl ?_
        refine xr_aload_n D_Mo_post_158 rfl rfl ?_
        refine xr_getf F_Mo_203 D_Mo_post_159 rfl rfl ?_
        refine xr_putf F_Mo_276 FT_Mo FN_Mo_47 D_Mo_post_162 rfl (Nat.le_of_ble_eq_true rfl) rfl rfl (pset_34_47) ?_
        refine xr_aload_n D_Mo_post_165 rfl rfl ?_
        refine xr_iconst (v := 3) D_Mo_post_166 rfl ?_
        refine xr_putf F_Mo_232 FT_Mo FN_Mo_43 D_Mo_post_167 rfl (Nat.le_of_ble_eq_true rfl) rfl rfl (pset_34_43) ?_
        refine xr_iconst (v := 0) D_Mo_post_170 rfl ?_
        refine xr_iret rfl D_Mo_post_171 ?_
        exact absurd rfl c3.1
      · rw [b2_0] at c3
        refine xr_bipush (v := 6) D_Mo_post_103 rfl ?_
        refine xr_iret rfl D_Mo_post_105 ?_
        exact Or.inr (Or.inl ⟨⟨c1, fun z => c2 z.1⟩, rfl⟩)
    · refine xr_iconst (v := 1) D_Mo_post_47 rfl ?_
      refine xr_goto (tgt := 52) D_Mo_post_48 rfl ?_
      refine xr_istore_n D_Mo_post_52 rfl (by decide) ?_
      refine xr_iconst (v := 0) D_Mo_post_53 rfl ?_
      refine xr_istore_n D_Mo_post_54 rfl (by decide) ?_
      refine l_Mo_po h0 h1 12 0 1 (Or.inr rfl) rfl (fun j9 => ?_)
      refine xr_iload_n D_Mo_post_99 rfl rfl ?_
      refine xr_if_ne (tgt := 106) D_Mo_post_100 rfl (fun c3 => ?_) (fun c3 => ?_)
      · rw [b2_n] at c3
        refine xr_aload_n D_Mo_post_106 rfl rfl ?_
        refine xr_aload_n D_Mo_post_107 rfl rfl ?_
        refine xr_aload_n D_Mo_post_108 rfl rfl ?_
        refine xr_getf F_Mo_203 D_Mo_post_109 rfl rfl ?_
        refine xr_bipush (v := 13) D_Mo_post_112 rfl ?_
        refine xr_iadd D_Mo_post_114 ?_
        refine xr_iconst (v := 4) D_Mo_post_115 rfl ?_
        refine xr_iconst (v := 1) D_Mo_post_116 rfl ?_
        refine xr_cVx (as := [_, _, _]) (c_Mo_num4 (by grind) (by grind)) (L_Mo_220) (CD_Mo_number) CI_Mo D_Mo_post_117 rfl rfl (by decide) (Nat.le_of_ble_eq_true rfl) (Nat.le_of_eq (Nat.zero_add _)) (Nat.le_of_eq (Nat.zero_add _)) pic_len ?_
        rintro _ rfl
        refine ⟨_, _, rfl, pic_leq, ?_⟩
        refine xr_putf F_Mo_267 FT_Mo FN_Mo_39 D_Mo_post_120 rfl (Nat.le_of_ble_eq_true rfl) rfl rfl (pset_34_39) ?_
        refine xr_aload_n D_Mo_post_123 rfl rfl ?_
        refine xr_aload_n D_Mo_post_124 rfl rfl ?_
        refine xr_aload_n D_Mo_post_125 rfl rfl ?_
        refine xr_getf F_Mo_203 D_Mo_post_126 rfl rfl ?_
        refine xr_bipush (v := 17) D_Mo_post_129 rfl ?_
        refine xr_iadd D_Mo_post_131 ?_
        refine xr_iconst (v := 4) D_Mo_post_132 rfl ?_
        refine xr_iconst (v := 1) D_Mo_post_133 rfl ?_
        refine xr_cVx (as := [_, _, _]) (c_Mo_num4 (show 0 ≤ I 3444 + 17 by grind) (show I 3444 + 17 < 69997 by grind)) (L_Mo_220) (CD_Mo_number) CI_Mo D_Mo_post_134 rfl rfl (by decide) (Nat.le_of_ble_eq_true rfl) (Nat.le_of_eq (Nat.zero_add _)) (Nat.le_of_eq (Nat.zero_add _)) pic_len ?_
        rintro _ rfl
        refine ⟨_, _, rfl, pic_leq, ?_⟩
        refine xr_putf F_Mo_270 FT_Mo FN_Mo_40 D_Mo_post_137 rfl (Nat.le_of_ble_eq_true rfl) rfl rfl (pset_34_40) ?_
        refine xr_aload_n D_Mo_post_140 rfl rfl ?_
        refine xr_aload_n D_Mo_post_141 rfl rfl ?_
        refine xr_aload_n D_Mo_post_142 rfl rfl ?_
        refine xr_getf F_Mo_203 D_Mo_post_143 rfl rfl ?_
        refine xr_bipush (v := 21) D_Mo_post_146 rfl ?_
        refine xr_iadd D_Mo_post_148 ?_
        refine xr_iconst (v := 4) D_Mo_post_149 rfl ?_
        refine xr_iconst (v := 1) D_Mo_post_150 rfl ?_
        refine xr_cVx (as := [_, _, _]) (c_Mo_num4 (show 0 ≤ I 3444 + 21 by grind) (show I 3444 + 21 < 69997 by grind)) (L_Mo_220) (CD_Mo_number) CI_Mo D_Mo_post_151 rfl rfl (by decide) (Nat.le_of_ble_eq_true rfl) (Nat.le_of_eq (Nat.zero_add _)) (Nat.le_of_eq (Nat.zero_add _)) pic_len ?_
        rintro _ rfl
        refine ⟨_, _, rfl, pic_leq, ?_⟩
        refine xr_putf F_Mo_273 FT_Mo FN_Mo_41 D_Mo_post_154 rfl (Nat.le_of_ble_eq_true rfl) rfl rfl (pset_34_41) ?_
        refine xr_aload_n D_Mo_post_157 rfl rfl ?_
        refine xr_aload_n D_Mo_post_158 rfl rfl ?_
        refine xr_getf F_Mo_203 D_Mo_post_159 rfl rfl ?_
        refine xr_putf F_Mo_276 FT_Mo FN_Mo_47 D_Mo_post_162 rfl (Nat.le_of_ble_eq_true rfl) rfl rfl (pset_34_47) ?_
        refine xr_aload_n D_Mo_post_165 rfl rfl ?_
        refine xr_iconst (v := 3) D_Mo_post_166 rfl ?_
        refine xr_putf F_Mo_232 FT_Mo FN_Mo_43 D_Mo_post_167 rfl (Nat.le_of_ble_eq_true rfl) rfl rfl (pset_34_43) ?_
        refine xr_iconst (v := 0) D_Mo_post_170 rfl ?_
        refine xr_iret rfl D_Mo_post_171 ?_
        exact Or.inr (Or.inr (⟨⟨c1, c2, c3.2⟩, rfl⟩))
      · rw [b2_0] at c3
        refine xr_bipush (v := 6) D_Mo_post_103 rfl ?_
        refine xr_iret rfl D_Mo_post_105 ?_
        exact Or.inr (Or.inl ⟨⟨c1, fun z => c3 ⟨by decide, z.2⟩⟩, rfl⟩)
  · refine xr_iconst (v := 5) D_Mo_post_19 rfl ?_
    refine xr_iret rfl D_Mo_post_20 ?_
    exact Or.inl ⟨c1, rfl⟩
