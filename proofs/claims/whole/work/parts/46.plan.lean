abbrev xsP (m : Int32) (f : Nat → Int32) (k : Nat) : Int32 := sPart m f (Int32.ofNat k) 3
abbrev ysP (m : Int32) (f : Nat → Int32) (k : Nat) : Int32 := sPart m f (Int32.ofNat k) 4
abbrev gsP (m : Int32) (f w : Nat → Int32) (k : Nat) : Int32 := gwF m f w (Int32.ofNat k)
def hP (X G : Nat → Int32) : Nat → Int32
  | 0 => 0
  | k + 1 => ((X k).toInt64 + (G k).toInt64).toInt32
def vP (Y : Nat → Int32) : Nat → Int32
  | 0 => 0
  | k + 1 => Y k
abbrev okP (X G : Nat → Int32) (k : Nat) : Prop := fitL ((X k).toInt64 - (hP X G k).toInt64) ∧ fitL ((X k).toInt64 + (G k).toInt64)
abbrev rtP (X G : Nat → Int32) (k : Nat) : Int32 := ((X k).toInt64 - (hP X G k).toInt64).toInt32
abbrev dnP (Y : Nat → Int32) (k : Nat) : Int32 := Y k - vP Y k
def mxP (f : Nat → Int32) : Nat → Nat → Int32 → Int32
  | 0, _, r => r
  | t + 1, j, r => mxP f t (j + 1) (if r < f j then f j else r)
def ppQ (I : mI) (A : mA) (L : mL) (X Y G : Nat → Int32) (n t j : Nat) : xO → Prop := fun o =>
  ((∃ k, k < n ∧ ¬ okP X G k) ∧ ∃ I' A', o = (.inl (some (.int 0)), pic I' A' L) ∧ frI [1602, 1802, 1315, 1316] I I' ∧ frA [17, 19] A A') ∨
  ((∀ k, j ≤ k → k < n → okP X G k) ∧ ∃ I' A', o = (.inl (some (.int 1)), pic I' A' L) ∧ frI [1602, 1802, 1315, 1316] I I' ∧ frA [17, 19] A A' ∧ I' 1602 = Int32.ofNat n ∧ I' 1802 = Int32.ofNat n ∧ (∀ k, k < j → A' 17 k = A 17 k ∧ A' 19 k = A 19 k) ∧ (∀ k, j ≤ k → k < n → A' 17 k = rtP X G k ∧ A' 19 k = dnP Y k) ∧ I' 1315 = mxP Y t j (I 1315) ∧ I' 1316 = mxP (fun k => hP X G (k + 1)) t j (I 1316))
theorem ppQ_tr {I I1 : mI} {A A1 : mA} {L : mL} {X Y G : Nat → Int32} {n t j : Nat} (hj : okP X G j) (f1 : frI [1602, 1802, 1315, 1316] I I1) (f2 : frA [17, 19] A A1) (e1 : ∀ k, k < j → A1 17 k = A 17 k ∧ A1 19 k = A 19 k) (e2 : A1 17 j = rtP X G j ∧ A1 19 j = dnP Y j) (e3 : I1 1315 = if I 1315 < Y j then Y j else I 1315) (e4 : I1 1316 = if I 1316 < hP X G (j + 1) then hP X G (j + 1) else I 1316) : ∀ o, ppQ I1 A1 L X Y G n t (j + 1) o → ppQ I A L X Y G n (t + 1) j o := by
  rintro o (⟨h1, I', A', h2, h3, h4⟩ | ⟨h1, I', A', h2, h3, h4, h5, h6, h7, h8, h9, h10⟩)
  · exact Or.inl ⟨h1, I', A', h2, frI_tr f1 h3 (fun _ h => h) (fun _ h => h), frA_tr f2 h4 (fun _ h => h) (fun _ h => h)⟩
  · refine Or.inr ⟨fun k q1 q2 => ?_, I', A', h2, frI_tr f1 h3 (fun _ h => h) (fun _ h => h), frA_tr f2 h4 (fun _ h => h) (fun _ h => h), h5, h6, fun k q => ?_, fun k q1 q2 => ?_, ?_, ?_⟩
    · by_cases e : k = j
      · rw [e]; exact hj
      · exact h1 k (by omega) q2
    · have a := h7 k (by omega)
      have b := e1 k q
      exact ⟨a.1.trans b.1, a.2.trans b.2⟩
    · by_cases e : k = j
      · subst e
        have a := h7 k (by omega)
        exact ⟨a.1.trans e2.1, a.2.trans e2.2⟩
      · exact h8 k (by omega) q2
    · rw [h9, e3]; rfl
    · rw [h10, e4]; rfl

theorem l_Wr_pp {L : mL} {m : Int32} {f w : Nat → Int32} {n : Nat} (hn : n ≤ 500) (hmn : m.toInt = (n : Int)) : ∀ (t j : Nat) (I : mI) (A : mA) (x5 x6 x7 x8 x9 x10 : Option Value), j + t = n → I 1101 = m → A 12 = f → A 2 = w → I 1602 = Int32.ofNat j → I 1802 = Int32.ofNat j → xr m_Wr_planPage none (3, 66) 37 [some (.ref 13), some (.ref 11), some (.int (hP (xsP m f) (gsP m f w) j)), some (.int (vP (ysP m f) j)), some (.int (Int32.ofNat j)), x5, x6, x7, x8, x9, x10] [] (pic I A L) 0 0 (ppQ I A L (xsP m f) (ysP m f) (gsP m f w) n t j) := by
  intro t
  induction t with
  | zero =>
    intro j I A x5 x6 x7 x8 x9 x10 hj hm hf hw h16 h18
    subst hm hf hw
    refine xr_iload D_Wr_planPage_37 rfl ?_
    refine xr_aload_n D_Wr_planPage_39 rfl rfl ?_
    refine xr_cVx (as := []) (c_Sh_length_11) (L_Wr_92) (CD_Sh_length) CI_Sh D_Wr_planPage_40 rfl rfl (by decide) (Nat.le_of_ble_eq_true rfl) (Nat.le_of_eq (Nat.zero_add _)) (Nat.le_of_eq (Nat.zero_add _)) pic_len ?_
    rintro _ rfl
    refine ⟨_, _, rfl, rfl, ?_⟩
    refine xr_icmp_ge (tgt := 160) D_Wr_planPage_43 rfl (fun c1 => ?_) (fun c1 => ?_)
    · refine xr_iconst (v := 1) D_Wr_planPage_160 rfl ?_
      refine xr_zret rfl (by first | rfl | exact nar_b2 | exact nar_z hz) D_Wr_planPage_161 ?_
      exact Or.inr ⟨fun k q1 q2 => absurd q1 (by omega), I, A, rfl, frI_rf, frA_rf, by rw [h16]; congr 1, by rw [h18]; congr 1, fun _ _ => ⟨rfl, rfl⟩, fun k q1 q2 => absurd q1 (by omega), rfl, rfl⟩
    · exact absurd (i_le.mpr (by rw [hmn, i_of (by omega)]; omega)) c1
  | succ t ih =>
    intro j I A x5 x6 x7 x8 x9 x10 hj hm hf hw h16 h18
    have hj0 : 0 ≤ Int32.ofNat j := i_le.mpr (by rw [z0, i_of (by omega)]; omega)
    have hj5 : Int32.ofNat j < 500 := i_lt.mpr (by rw [i_of (by omega), show (500 : Int32).toInt = 500 from rfl]; omega)
    have ej : (Int32.ofNat j).toNatClampNeg = j := by rw [i_cl, i_of (by omega)]; omega
    subst hm hf hw
    refine xr_iload D_Wr_planPage_37 rfl ?_
    refine xr_aload_n D_Wr_planPage_39 rfl rfl ?_
    refine xr_cVx (as := []) (c_Sh_length_11) (L_Wr_92) (CD_Sh_length) CI_Sh D_Wr_planPage_40 rfl rfl (by decide) (Nat.le_of_ble_eq_true rfl) (Nat.le_of_eq (Nat.zero_add _)) (Nat.le_of_eq (Nat.zero_add _)) pic_len ?_
    rintro _ rfl
    refine ⟨_, _, rfl, rfl, ?_⟩
    refine xr_icmp_ge (tgt := 160) D_Wr_planPage_43 rfl (fun c1 => ?_) (fun c1 => ?_)
    · exact absurd c1 (fun q => by rw [i_le, hmn, i_of (by omega)] at q; omega)
    · refine xr_aload_n D_Wr_planPage_46 rfl rfl ?_
      refine xr_iload D_Wr_planPage_47 rfl ?_
      refine xr_cVx (as := [_]) (c_Sh_x_11) (L_Wr_98) (CD_Sh_x) CI_Sh D_Wr_planPage_49 rfl rfl (by decide) (Nat.le_of_ble_eq_true rfl) (Nat.le_of_eq (Nat.zero_add _)) (Nat.le_of_eq (Nat.zero_add _)) pic_len ?_
      rintro _ rfl
      refine ⟨_, _, rfl, rfl, ?_⟩
      refine xr_istore D_Wr_planPage_52 (by decide) ?_
      refine xr_aload_n D_Wr_planPage_54 rfl rfl ?_
      refine xr_iload D_Wr_planPage_55 rfl ?_
      refine xr_cVx (as := [_]) (c_Sh_y_11) (L_Wr_102) (CD_Sh_y) CI_Sh D_Wr_planPage_57 rfl rfl (by decide) (Nat.le_of_ble_eq_true rfl) (Nat.le_of_eq (Nat.zero_add _)) (Nat.le_of_eq (Nat.zero_add _)) pic_len ?_
      rintro _ rfl
      refine ⟨_, _, rfl, rfl, ?_⟩
      refine xr_istore D_Wr_planPage_60 (by decide) ?_
      refine xr_iload D_Wr_planPage_62 rfl ?_
      refine xr_i2l D_Wr_planPage_64 ?_
      refine xr_iload_n D_Wr_planPage_65 rfl rfl ?_
      refine xr_i2l D_Wr_planPage_66 ?_
      refine xr_lsub D_Wr_planPage_67 ?_
      refine xr_lstore D_Wr_planPage_68 (by decide) ?_
      refine xr_iload D_Wr_planPage_70 rfl ?_
      refine xr_i2l D_Wr_planPage_72 ?_
      refine xr_aload_n D_Wr_planPage_73 rfl rfl ?_
      refine xr_aload_n D_Wr_planPage_74 rfl rfl ?_
      refine xr_iload D_Wr_planPage_75 rfl ?_
      refine xr_cVx (as := [_, _]) (c_Wr_growth_13) (L_Wr_105) (CD_Wr_growth) CI_Wr D_Wr_planPage_77 rfl rfl (by decide) (Nat.le_of_ble_eq_true rfl) (Nat.le_of_eq (Nat.zero_add _)) (Nat.le_of_eq (Nat.zero_add _)) pic_len ?_
      rintro _ rfl
      refine ⟨_, _, rfl, rfl, ?_⟩
      refine xr_i2l D_Wr_planPage_80 ?_
      refine xr_ladd D_Wr_planPage_81 ?_
      refine xr_lstore D_Wr_planPage_82 (by decide) ?_
      refine xr_lload D_Wr_planPage_84 rfl ?_
      refine xr_cSx (as := [_]) (c_Dv_isInt) (L_Wr_109) (CD_Dv_isInt) D_Wr_planPage_86 rfl (by decide) (Nat.le_of_ble_eq_true rfl) (Nat.le_of_eq (Nat.zero_add _)) (Nat.le_of_eq (Nat.zero_add _)) pic_len ?_
      rintro _ rfl
      refine ⟨_, _, rfl, rfl, ?_⟩
      refine xr_if_eq (tgt := 100) D_Wr_planPage_89 rfl (fun c2 => ?_) (fun c2 => ?_)
      · rw [b2_0] at c2
        refine xr_iconst (v := 0) D_Wr_planPage_100 rfl ?_
        refine xr_zret rfl (by first | rfl | exact nar_b2 | exact nar_z hz) D_Wr_planPage_101 ?_
        exact Or.inl ⟨⟨j, by omega, fun q => c2 q.1⟩, I, A, rfl, frI_rf, frA_rf⟩
      · rw [b2_n] at c2
        refine xr_lload D_Wr_planPage_92 rfl ?_
        refine xr_cSx (as := [_]) (c_Dv_isInt) (L_Wr_109) (CD_Dv_isInt) D_Wr_planPage_94 rfl (by decide) (Nat.le_of_ble_eq_true rfl) (Nat.le_of_eq (Nat.zero_add _)) (Nat.le_of_eq (Nat.zero_add _)) pic_len ?_
        rintro _ rfl
        refine ⟨_, _, rfl, rfl, ?_⟩
        refine xr_if_ne (tgt := 102) D_Wr_planPage_97 rfl (fun c3 => ?_) (fun c3 => ?_)
        · rw [b2_n] at c3
          refine xr_aload_n D_Wr_planPage_102 rfl rfl ?_
          refine xr_getf F_Wr_23 D_Wr_planPage_103 rfl rfl ?_
          refine xr_lload D_Wr_planPage_106 rfl ?_
          refine xr_l2i D_Wr_planPage_108 ?_
          refine xr_cVv (as := [_]) (c_Wa_plan_16 (by rw [h16]; exact hj0) (by rw [h16]; exact hj5)) (L_Wr_113) (CD_Wa_plan) CI_Wa D_Wr_planPage_109 rfl rfl (by decide) (Nat.le_of_ble_eq_true rfl) (Nat.le_of_eq (Nat.zero_add _)) (Nat.le_of_eq (Nat.zero_add _)) pic_len ?_
          rintro _ rfl
          refine ⟨_, rfl, pic_leq, ?_⟩
          refine xr_aload_n D_Wr_planPage_112 rfl rfl ?_
          refine xr_getf F_Wr_27 D_Wr_planPage_113 rfl rfl ?_
          refine xr_iload D_Wr_planPage_116 rfl ?_
          refine xr_iload_n D_Wr_planPage_118 rfl rfl ?_
          refine xr_isub D_Wr_planPage_119 ?_
          refine xr_cVv (as := [_]) (c_Wa_plan_18 (show 0 ≤ I 1802 by rw [h18]; exact hj0) (show I 1802 < 500 by rw [h18]; exact hj5)) (L_Wr_113) (CD_Wa_plan) CI_Wa D_Wr_planPage_120 rfl rfl (by decide) (Nat.le_of_ble_eq_true rfl) (Nat.le_of_eq (Nat.zero_add _)) (Nat.le_of_eq (Nat.zero_add _)) pic_len ?_
          rintro _ rfl
          refine ⟨_, rfl, pic_leq, ?_⟩
          refine xr_lload D_Wr_planPage_123 rfl ?_
          refine xr_l2i D_Wr_planPage_125 ?_
          refine xr_istore_n D_Wr_planPage_126 rfl (by decide) ?_
          refine xr_iload D_Wr_planPage_127 rfl ?_
          refine xr_istore_n D_Wr_planPage_129 rfl (by decide) ?_
          refine xr_aload_n D_Wr_planPage_130 rfl rfl ?_
          refine xr_aload_n D_Wr_planPage_131 rfl rfl ?_
          refine xr_getf F_Wr_86 D_Wr_planPage_132 rfl rfl ?_
          refine xr_iload_n D_Wr_planPage_135 rfl rfl ?_
          refine xr_mmax D_Wr_planPage_136 M_Wr_116 (by decide) (Nat.le_of_ble_eq_true rfl) ?_
          refine xr_putf F_Wr_86 FT_Wr FN_Wr_15 D_Wr_planPage_139 rfl (Nat.le_of_ble_eq_true rfl) rfl rfl (pset_13_15) ?_
          refine xr_aload_n D_Wr_planPage_142 rfl rfl ?_
          refine xr_aload_n D_Wr_planPage_143 rfl rfl ?_
          refine xr_getf F_Wr_89 D_Wr_planPage_144 rfl rfl ?_
          refine xr_iload_n D_Wr_planPage_147 rfl rfl ?_
          refine xr_mmax D_Wr_planPage_148 M_Wr_116 (by decide) (Nat.le_of_ble_eq_true rfl) ?_
          refine xr_putf F_Wr_89 FT_Wr FN_Wr_16 D_Wr_planPage_151 rfl (Nat.le_of_ble_eq_true rfl) rfl rfl (pset_13_16) ?_
          refine xr_iinc (c9 := 1) D_Wr_planPage_154 rfl rfl (by decide) ?_
          refine xr_goto (tgt := 37) D_Wr_planPage_157 rfl ?_
          rw [io_succ]
          refine xr_mono (ih (j + 1) _ _ _ _ _ _ _ _ (by omega) rfl rfl rfl (show I 1602 + 1 = Int32.ofNat (j + 1) by rw [h16, io_succ]) (show I 1802 + 1 = Int32.ofNat (j + 1) by rw [h18, io_succ])) (ppQ_tr ⟨c2, c3⟩ (fun k hk => ?_) (fun k hk => ?_) (fun k hk => ?_) ?_ rfl rfl)
          · simp only [List.mem_cons, List.not_mem_nil, not_or, or_false] at hk
            rw [upd_n hk.2.2.2, upd_n hk.2.2.1, upd_n hk.2.1, upd_n hk.1]
          · simp only [List.mem_cons, List.not_mem_nil, not_or, or_false] at hk
            rw [upA_n hk.2, upA_n hk.1]
          · show upd (A 17) (I 1602).toNatClampNeg _ k = _ ∧ upd (A 19) (I 1802).toNatClampNeg _ k = _
            rw [h16, h18, ej, upd_n (by omega), upd_n (by omega)]
            exact ⟨rfl, rfl⟩
          · show upd (A 17) (I 1602).toNatClampNeg _ j = _ ∧ upd (A 19) (I 1802).toNatClampNeg _ j = _
            rw [h16, h18, ej, upd_s, upd_s]
            exact ⟨rfl, rfl⟩
        · rw [b2_0] at c3
          refine xr_iconst (v := 0) D_Wr_planPage_100 rfl ?_
          refine xr_zret rfl (by first | rfl | exact nar_b2 | exact nar_z hz) D_Wr_planPage_101 ?_
          exact Or.inl ⟨⟨j, by omega, fun q => c3 q.2⟩, I, A, rfl, frI_rf, frA_rf⟩

def ppE (I : mI) (A : mA) (L : mL) (X Y G : Nat → Int32) (n : Nat) : xO → Prop := fun o =>
  ((∃ k, k < n ∧ ¬ okP X G k) ∧ ∃ I' A', o = (.inl (some (.int 0)), pic I' A' L) ∧ frI [1602, 1603, 1604, 1802, 1803, 1804, 1315, 1316] I I' ∧ frA [17, 19] A A') ∨
  ((∀ k, k < n → okP X G k) ∧ ∃ I' A', o = (.inl (some (.int 1)), pic I' A' L) ∧ frI [1602, 1603, 1604, 1802, 1803, 1804, 1315, 1316] I I' ∧ frA [17, 19] A A' ∧ I' 1602 = Int32.ofNat n ∧ I' 1802 = Int32.ofNat n ∧ I' 1603 = 0 ∧ I' 1604 = 0 ∧ I' 1803 = 0 ∧ I' 1804 = 0 ∧ (∀ k, k < n → A' 17 k = rtP X G k ∧ A' 19 k = dnP Y k) ∧ I' 1315 = mxP Y n 0 (I 1313) ∧ I' 1316 = mxP (fun k => hP X G (k + 1)) n 0 (I 1314))
theorem fr_pp {I I' : mI} (h : frI [1602, 1802, 1315, 1316] (upd (upd (upd (upd (upd (upd (upd (upd I 1602 0) 1603 0) 1604 0) 1802 0) 1803 0) 1804 0) 1315 (I 1313)) 1316 (I 1314)) I') : frI [1602, 1603, 1604, 1802, 1803, 1804, 1315, 1316] I I' := by
  intro k hk
  simp only [List.mem_cons, List.not_mem_nil, not_or, or_false] at hk
  obtain ⟨a1, a2, a3, a4, a5, a6, a7, a8⟩ := hk
  rw [h k (by simp only [List.mem_cons, List.not_mem_nil, not_or, or_false]; exact ⟨a1, a4, a7, a8⟩), upd_n a8, upd_n a7, upd_n a6, upd_n a5, upd_n a4, upd_n a3, upd_n a2, upd_n a1]

theorem c_Wr_planPage_13 {I : mI} {A : mA} {L : mL} {n : Nat} (hn : n ≤ 500) (hmn : (I 1101).toInt = (n : Int)) : xm m_Wr_planPage (3, 66) [.ref 13, .ref 11] (pic I A L) 0 0 (ppE I A L (xsP (I 1101) (A 12)) (ysP (I 1101) (A 12)) (gsP (I 1101) (A 12) (A 2)) n) := by
  refine xm_of rfl (by decide) (Nat.le_of_ble_eq_true rfl) ?_
  refine xr_aload_n D_Wr_planPage_0 rfl rfl ?_
  refine xr_getf F_Wr_23 D_Wr_planPage_1 rfl rfl ?_
  refine xr_cVv (as := []) (c_Wa_clear_16) (L_Wr_83) (CD_Wa_clear) CI_Wa D_Wr_planPage_4 rfl rfl (by decide) (Nat.le_of_ble_eq_true rfl) (Nat.le_of_eq (Nat.zero_add _)) (Nat.le_of_eq (Nat.zero_add _)) pic_len ?_
  rintro _ rfl
  refine ⟨_, rfl, pic_leq, ?_⟩
  refine xr_aload_n D_Wr_planPage_7 rfl rfl ?_
  refine xr_getf F_Wr_27 D_Wr_planPage_8 rfl rfl ?_
  refine xr_cVv (as := []) (c_Wa_clear_18) (L_Wr_83) (CD_Wa_clear) CI_Wa D_Wr_planPage_11 rfl rfl (by decide) (Nat.le_of_ble_eq_true rfl) (Nat.le_of_eq (Nat.zero_add _)) (Nat.le_of_eq (Nat.zero_add _)) pic_len ?_
  rintro _ rfl
  refine ⟨_, rfl, pic_leq, ?_⟩
  refine xr_aload_n D_Wr_planPage_14 rfl rfl ?_
  refine xr_aload_n D_Wr_planPage_15 rfl rfl ?_
  refine xr_getf F_Wr_71 D_Wr_planPage_16 rfl rfl ?_
  refine xr_putf F_Wr_86 FT_Wr FN_Wr_15 D_Wr_planPage_19 rfl (Nat.le_of_ble_eq_true rfl) rfl rfl (pset_13_15) ?_
  refine xr_aload_n D_Wr_planPage_22 rfl rfl ?_
  refine xr_aload_n D_Wr_planPage_23 rfl rfl ?_
  refine xr_getf F_Wr_74 D_Wr_planPage_24 rfl rfl ?_
  refine xr_putf F_Wr_89 FT_Wr FN_Wr_16 D_Wr_planPage_27 rfl (Nat.le_of_ble_eq_true rfl) rfl rfl (pset_13_16) ?_
  refine xr_iconst (v := 0) D_Wr_planPage_30 rfl ?_
  refine xr_istore_n D_Wr_planPage_31 rfl (by decide) ?_
  refine xr_iconst (v := 0) D_Wr_planPage_32 rfl ?_
  refine xr_istore_n D_Wr_planPage_33 rfl (by decide) ?_
  refine xr_iconst (v := 0) D_Wr_planPage_34 rfl ?_
  refine xr_istore D_Wr_planPage_35 (by decide) ?_
  refine xr_mono (l_Wr_pp hn hmn n 0 _ _ _ _ _ _ _ _ (by omega) rfl rfl rfl rfl rfl) ?_
  rintro o (⟨h1, I', A', h2, h3, h4⟩ | ⟨h1, I', A', h2, h3, h4, h5, h6, h7, h8, h9, h10⟩)
  · exact Or.inl ⟨h1, I', A', h2, fr_pp h3, h4⟩
  · exact Or.inr ⟨fun k q => h1 k (by omega) q, I', A', h2, fr_pp h3, h4, h5, h6, h3 1603 (by decide), h3 1604 (by decide), h3 1803 (by decide), h3 1804 (by decide), fun k q => h8 k (by omega) q, h9, h10⟩
