def toV (A : mA) (k w : Int32) : Int32 := if w < 5 then (if w = 0 then A 57 k.toNatClampNeg else if w = 1 then nrd (gmt (A 54)) (bQ (gmt (A 54)) (A 58 k.toNatClampNeg)) 4 else if w = 2 then nrd (gmt (A 54)) (bQ (gmt (A 54)) (A 58 k.toNatClampNeg) + 4) 4 else if w = 3 then nrd (gmt (A 54)) (bQ (gmt (A 54)) (A 58 k.toNatClampNeg) + 8) 4 else nSz (gmt (A 54)) (bQ (gmt (A 54)) (A 58 k.toNatClampNeg))) else if w - 5 < nSz (gmt (A 54)) (bQ (gmt (A 54)) (A 58 k.toNatClampNeg)) then gmt (A 54) (bQ (gmt (A 54)) (A 58 k.toNatClampNeg) + 14 + w - 5) else 0
theorem q_4 {q : Int32} (c : Int32) (h0 : 0 ≤ q) (h1 : q < 69987) (hc0 : 0 ≤ c) (hc : c ≤ 8) : 0 ≤ q + c ∧ q + c < 69997 := by grind
theorem q_w {w s : Int32} {n : Nat} (h5 : 5 ≤ w) (hw : w - 5 < s) (ne : s.toInt = (n : Int)) : (w - 5).toInt = w.toInt - 5 ∧ 5 ≤ w.toInt ∧ w.toInt - 5 < n := by
  have e5 : (5 : Int32).toInt = 5 := rfl
  have g5 := i_le.mp h5
  rw [e5] at g5
  have gw := Int32.toInt_lt w
  have e : (w - 5).toInt = w.toInt - 5 := by rw [i_sub (by rw [e5]; omega) (by rw [e5]; omega), e5]
  have g := i_lt.mp hw
  rw [e] at g
  omega
theorem q_b {q w s : Int32} {n : Nat} (h0 : 0 ≤ q) (h1 : q.toInt + 14 + n ≤ 70000) (h5 : 5 ≤ w) (hw : w - 5 < s) (ne : s.toInt = (n : Int)) (n5 : n ≤ 510) : 0 ≤ q + 14 + w - 5 ∧ q + 14 + w - 5 < 70000 := by
  obtain ⟨e1, e2, e3⟩ := q_w h5 hw ne
  have g0 := i_le.mp h0
  rw [z0] at g0
  have e5 : (5 : Int32).toInt = 5 := rfl
  have e14 : (14 : Int32).toInt = 14 := rfl
  have a1 : (q + 14).toInt = q.toInt + 14 := by rw [i_add (by rw [e14]; omega) (by rw [e14]; omega), e14]
  have a2 : (q + 14 + w).toInt = q.toInt + 14 + w.toInt := by rw [i_add (by rw [a1]; omega) (by rw [a1]; omega), a1]
  have a3 : (q + 14 + w - 5).toInt = q.toInt + 14 + w.toInt - 5 := by rw [i_sub (by rw [a2, e5]; omega) (by rw [a2, e5]; omega), a2, e5]
  exact ⟨i_le.mpr (by rw [z0, a3]; omega), i_lt.mpr (by rw [z7, a3]; omega)⟩
theorem k_cl {k m : Int32} (h0 : 0 ≤ k) (h1 : k < m) : ((k.toNatClampNeg : Nat) : Int) < m.toInt := by
  have g0 := i_le.mp h0
  rw [z0] at g0
  have g1 := i_lt.mp h1
  rw [i_cl]
  omega
theorem c_Mo_told_34 {I : mI} {A : mA} {L : mL} {k : Int32} {w : Int32} (hp : ∀ j : Nat, (j : Int) < (I 3436).toInt → plO (gmt (A 54)) (I 3445) (A 58 j)) (h7 : I 3445 ≤ 70000) (h36 : I 3436 ≤ 256) : xm m_Mo_told (3, 64) [.ref 34, .int k, .int w] (pic I A L) 0 0 (fun o => ((¬ (0 ≤ k ∧ k < I 3436 ∧ 0 ≤ w)) ∧ o = (.inl (some (.int 0)), pic (upd I 3400 1) A L)) ∨ (((0 ≤ k ∧ k < I 3436 ∧ 0 ≤ w)) ∧ o = (.inl (some (.int (toV A k w))), pic (upd I 3400 0) A L))) := by
  refine xm_of rfl (by decide) (Nat.le_of_ble_eq_true rfl) ?_
  refine xr_aload_n D_Mo_told_0 rfl rfl ?_
  refine xr_iload_n D_Mo_told_1 rfl rfl ?_
  refine xr_if_lt (tgt := 17) D_Mo_told_2 rfl (fun c1 => ?_) (fun c1 => ?_)
  · refine xr_iconst (v := 1) D_Mo_told_17 rfl ?_
    refine xr_goto (tgt := 22) D_Mo_told_18 rfl ?_
    refine xr_putf F_Mo_97 FT_Mo FN_Mo_0 D_Mo_told_22 rfl (Nat.le_of_ble_eq_true rfl) rfl rfl (pset_34_0) ?_
    refine xr_aload_n D_Mo_told_25 rfl rfl ?_
    refine xr_getf F_Mo_97 D_Mo_told_26 rfl rfl ?_
    refine xr_if_le (tgt := 34) D_Mo_told_29 rfl (fun c2 => ?_) (fun c2 => ?_)
    · exact absurd (show (1 : Int32) ≤ (0 : Int32) from c2) (by decide)
    · refine xr_iconst (v := 0) D_Mo_told_32 rfl ?_
      refine xr_iret rfl D_Mo_told_33 ?_
      exact Or.inl ⟨by grind, rfl⟩
  · refine xr_iload_n D_Mo_told_5 rfl rfl ?_
    refine xr_aload_n D_Mo_told_6 rfl rfl ?_
    refine xr_getf F_Mo_238 D_Mo_told_7 rfl rfl ?_
    refine xr_icmp_ge (tgt := 17) D_Mo_told_10 rfl (fun c2 => ?_) (fun c2 => ?_)
    · refine xr_iconst (v := 1) D_Mo_told_17 rfl ?_
      refine xr_goto (tgt := 22) D_Mo_told_18 rfl ?_
      refine xr_putf F_Mo_97 FT_Mo FN_Mo_0 D_Mo_told_22 rfl (Nat.le_of_ble_eq_true rfl) rfl rfl (pset_34_0) ?_
      refine xr_aload_n D_Mo_told_25 rfl rfl ?_
      refine xr_getf F_Mo_97 D_Mo_told_26 rfl rfl ?_
      refine xr_if_le (tgt := 34) D_Mo_told_29 rfl (fun c3 => ?_) (fun c3 => ?_)
      · exact absurd (show (1 : Int32) ≤ (0 : Int32) from c3) (by decide)
      · refine xr_iconst (v := 0) D_Mo_told_32 rfl ?_
        refine xr_iret rfl D_Mo_told_33 ?_
        exact Or.inl ⟨by grind, rfl⟩
    · refine xr_iload_n D_Mo_told_13 rfl rfl ?_
      refine xr_if_ge (tgt := 21) D_Mo_told_14 rfl (fun c3 => ?_) (fun c3 => ?_)
      · refine xr_iconst (v := 0) D_Mo_told_21 rfl ?_
        refine xr_putf F_Mo_97 FT_Mo FN_Mo_0 D_Mo_told_22 rfl (Nat.le_of_ble_eq_true rfl) rfl rfl (pset_34_0) ?_
        refine xr_aload_n D_Mo_told_25 rfl rfl ?_
        refine xr_getf F_Mo_97 D_Mo_told_26 rfl rfl ?_
        refine xr_if_le (tgt := 34) D_Mo_told_29 rfl (fun c4 => ?_) (fun c4 => ?_)
        · have hg : (0 ≤ k ∧ k < I 3436 ∧ 0 ≤ w) := by grind
          have pk := hp k.toNatClampNeg (k_cl hg.1 hg.2.1)
          obtain ⟨q0, q1, n, n5, ne, n7⟩ := plO_q pk h7
          refine xr_aload_n D_Mo_told_34 rfl rfl ?_
          refine xr_aload_n D_Mo_told_35 rfl rfl ?_
          refine xr_getf F_Mo_88 D_Mo_told_36 rfl rfl ?_
          refine xr_iload_n D_Mo_told_39 rfl rfl ?_
          refine xr_iald D_Mo_told_40 rfl (by exact i_in2 256 (by grind) (by grind) rfl) ?_
          refine xr_cVx (as := [_]) (c_Mo_behindNumber_34 pk.1 pk.2.1) (L_Mo_241) (CD_Mo_behindNumber) CI_Mo D_Mo_told_41 rfl rfl (by decide) (Nat.le_of_ble_eq_true rfl) (Nat.le_of_eq (Nat.zero_add _)) (Nat.le_of_eq (Nat.zero_add _)) pic_len ?_
          rintro _ rfl
          refine ⟨_, _, rfl, pic_leq, ?_⟩
          refine xr_istore_n D_Mo_told_44 rfl (by decide) ?_
          refine xr_aload_n D_Mo_told_45 rfl rfl ?_
          refine xr_aload_n D_Mo_told_46 rfl rfl ?_
          refine xr_getf F_Mo_88 D_Mo_told_47 rfl rfl ?_
          refine xr_iload_n D_Mo_told_50 rfl rfl ?_
          refine xr_iald D_Mo_told_51 rfl (by exact i_in2 256 (by grind) (by grind) rfl) ?_
          refine xr_cVx (as := [_]) (c_Mo_nameSize_34 pk.1 pk.2.1 q0 q1) (L_Mo_244) (CD_Mo_nameSize) CI_Mo D_Mo_told_52 rfl rfl (by decide) (Nat.le_of_ble_eq_true rfl) (Nat.le_of_eq (Nat.zero_add _)) (Nat.le_of_eq (Nat.zero_add _)) pic_len ?_
          rintro _ rfl
          refine ⟨_, _, rfl, pic_leq, ?_⟩
          refine xr_istore D_Mo_told_55 (by decide) ?_
          refine xr_iload_n D_Mo_told_57 rfl rfl ?_
          by_cases t0 : w = 0
          · refine xr_tableIn (tgt := 92) (off := 34) D_Mo_told_58 (by rw [t0]; decide) (by rw [t0]; decide) (by rw [t0]; rfl) rfl ?_
            refine xr_aload_n D_Mo_told_92 rfl rfl ?_
            refine xr_getf F_Mo_85 D_Mo_told_93 rfl rfl ?_
            refine xr_iload_n D_Mo_told_96 rfl rfl ?_
            refine xr_iald D_Mo_told_97 rfl (by exact i_in2 256 (by grind) (by grind) rfl) ?_
            refine xr_iret rfl D_Mo_told_98 ?_
            exact Or.inr ⟨hg, by first | (rw [t0]; rfl) | (rw [t1]; rfl) | (rw [t2]; rfl) | (rw [t3]; rfl) | (rw [t4]; rfl)⟩
          by_cases t1 : w = 1
          · refine xr_tableIn (tgt := 99) (off := 41) D_Mo_told_58 (by rw [t1]; decide) (by rw [t1]; decide) (by rw [t1]; rfl) rfl ?_
            have hn := q_4 0 q0 q1 (by decide) (by decide)
            rw [Int32.add_zero] at hn
            refine xr_aload_n D_Mo_told_99 rfl rfl ?_
            refine xr_iload_n D_Mo_told_100 rfl rfl ?_
            refine xr_iconst (v := 4) D_Mo_told_101 rfl ?_
            refine xr_iconst (v := 1) D_Mo_told_102 rfl ?_
            refine xr_cVx (as := [_, _, _]) (c_Mo_num4 hn.1 hn.2) (L_Mo_220) (CD_Mo_number) CI_Mo D_Mo_told_103 rfl rfl (by decide) (Nat.le_of_ble_eq_true rfl) (Nat.le_of_eq (Nat.zero_add _)) (Nat.le_of_eq (Nat.zero_add _)) pic_len ?_
            rintro _ rfl
            refine ⟨_, _, rfl, pic_leq, ?_⟩
            refine xr_iret rfl D_Mo_told_106 ?_
            exact Or.inr ⟨hg, by first | (rw [t0]; rfl) | (rw [t1]; rfl) | (rw [t2]; rfl) | (rw [t3]; rfl) | (rw [t4]; rfl)⟩
          by_cases t2 : w = 2
          · refine xr_tableIn (tgt := 107) (off := 49) D_Mo_told_58 (by rw [t2]; decide) (by rw [t2]; decide) (by rw [t2]; rfl) rfl ?_
            have hn := q_4 4 q0 q1 (by decide) (by decide)
            refine xr_aload_n D_Mo_told_107 rfl rfl ?_
            refine xr_iload_n D_Mo_told_108 rfl rfl ?_
            refine xr_iconst (v := 4) D_Mo_told_109 rfl ?_
            refine xr_iadd D_Mo_told_110 ?_
            refine xr_iconst (v := 4) D_Mo_told_111 rfl ?_
            refine xr_iconst (v := 1) D_Mo_told_112 rfl ?_
            refine xr_cVx (as := [_, _, _]) (c_Mo_num4 hn.1 hn.2) (L_Mo_220) (CD_Mo_number) CI_Mo D_Mo_told_113 rfl rfl (by decide) (Nat.le_of_ble_eq_true rfl) (Nat.le_of_eq (Nat.zero_add _)) (Nat.le_of_eq (Nat.zero_add _)) pic_len ?_
            rintro _ rfl
            refine ⟨_, _, rfl, pic_leq, ?_⟩
            refine xr_iret rfl D_Mo_told_116 ?_
            exact Or.inr ⟨hg, by first | (rw [t0]; rfl) | (rw [t1]; rfl) | (rw [t2]; rfl) | (rw [t3]; rfl) | (rw [t4]; rfl)⟩
          by_cases t3 : w = 3
          · refine xr_tableIn (tgt := 117) (off := 59) D_Mo_told_58 (by rw [t3]; decide) (by rw [t3]; decide) (by rw [t3]; rfl) rfl ?_
            have hn := q_4 8 q0 q1 (by decide) (by decide)
            refine xr_aload_n D_Mo_told_117 rfl rfl ?_
            refine xr_iload_n D_Mo_told_118 rfl rfl ?_
            refine xr_bipush (v := 8) D_Mo_told_119 rfl ?_
            refine xr_iadd D_Mo_told_121 ?_
            refine xr_iconst (v := 4) D_Mo_told_122 rfl ?_
            refine xr_iconst (v := 1) D_Mo_told_123 rfl ?_
            refine xr_cVx (as := [_, _, _]) (c_Mo_num4 hn.1 hn.2) (L_Mo_220) (CD_Mo_number) CI_Mo D_Mo_told_124 rfl rfl (by decide) (Nat.le_of_ble_eq_true rfl) (Nat.le_of_eq (Nat.zero_add _)) (Nat.le_of_eq (Nat.zero_add _)) pic_len ?_
            rintro _ rfl
            refine ⟨_, _, rfl, pic_leq, ?_⟩
            refine xr_iret rfl D_Mo_told_127 ?_
            exact Or.inr ⟨hg, by first | (rw [t0]; rfl) | (rw [t1]; rfl) | (rw [t2]; rfl) | (rw [t3]; rfl) | (rw [t4]; rfl)⟩
          by_cases t4 : w = 4
          · refine xr_tableIn (tgt := 128) (off := 70) D_Mo_told_58 (by rw [t4]; decide) (by rw [t4]; decide) (by rw [t4]; rfl) rfl ?_
            refine xr_iload D_Mo_told_128 rfl ?_
            refine xr_iret rfl D_Mo_told_130 ?_
            exact Or.inr ⟨hg, by first | (rw [t0]; rfl) | (rw [t1]; rfl) | (rw [t2]; rfl) | (rw [t3]; rfl) | (rw [t4]; rfl)⟩
          refine xr_tableOut2 (tgt := 131) (lo9 := 0) (hi9 := 4) D_Mo_told_58 (by grind) rfl rfl rfl ?_
          have h5 : 5 ≤ w := by grind
          refine xr_iload_n D_Mo_told_131 rfl rfl ?_
          refine xr_iconst (v := 5) D_Mo_told_132 rfl ?_
          refine xr_isub D_Mo_told_133 ?_
          refine xr_iload D_Mo_told_134 rfl ?_
          refine xr_icmp_ge (tgt := 154) D_Mo_told_136 rfl (fun c5 => ?_) (fun c5 => ?_)
          · refine xr_iconst (v := 0) D_Mo_told_154 rfl ?_
            refine xr_iret rfl D_Mo_told_155 ?_
            have hcc := c5
            exact Or.inr ⟨hg, by unfold toV; rw [if_neg (Int32.not_lt.mpr h5), if_neg (Int32.not_lt.mpr hcc)]⟩
          · have qb := q_b q0 n7 h5 (Int32.not_le.mp c5) ne n5
            refine xr_aload_n D_Mo_told_139 rfl rfl ?_
            refine xr_iload_n D_Mo_told_140 rfl rfl ?_
            refine xr_bipush (v := 14) D_Mo_told_141 rfl ?_
            refine xr_iadd D_Mo_told_143 ?_
            refine xr_iload_n D_Mo_told_144 rfl rfl ?_
            refine xr_iadd D_Mo_told_145 ?_
            refine xr_iconst (v := 5) D_Mo_told_146 rfl ?_
            refine xr_isub D_Mo_told_147 ?_
            refine xr_cVx (as := [_]) (c_Mo_byteAt_34 qb.1 qb.2) (L_Mo_200) (CD_Mo_byteAt) CI_Mo D_Mo_told_148 rfl rfl (by decide) (Nat.le_of_ble_eq_true rfl) (Nat.le_of_eq (Nat.zero_add _)) (Nat.le_of_eq (Nat.zero_add _)) pic_len ?_
            rintro _ rfl
            refine ⟨_, _, rfl, pic_leq, ?_⟩
            refine xr_goto (tgt := 155) D_Mo_told_151 rfl ?_
            refine xr_iret rfl D_Mo_told_155 ?_
            have hcc := c5
            exact Or.inr ⟨hg, by unfold toV; rw [if_neg (Int32.not_lt.mpr h5), if_pos (Int32.not_le.mp hcc)]⟩
        · exact absurd (show (0 : Int32) ≤ (0 : Int32) by decide) c4
      · refine xr_iconst (v := 1) D_Mo_told_17 rfl ?_
        refine xr_goto (tgt := 22) D_Mo_told_18 rfl ?_
        refine xr_putf F_Mo_97 FT_Mo FN_Mo_0 D_Mo_told_22 rfl (Nat.le_of_ble_eq_true rfl) rfl rfl (pset_34_0) ?_
        refine xr_aload_n D_Mo_told_25 rfl rfl ?_
        refine xr_getf F_Mo_97 D_Mo_told_26 rfl rfl ?_
        refine xr_if_le (tgt := 34) D_Mo_told_29 rfl (fun c4 => ?_) (fun c4 => ?_)
        · exact absurd (show (1 : Int32) ≤ (0 : Int32) from c4) (by decide)
        · refine xr_iconst (v := 0) D_Mo_told_32 rfl ?_
          refine xr_iret rfl D_Mo_told_33 ?_
          exact Or.inl ⟨by grind, rfl⟩


theorem to_e {Ic I : mI} {Ac A : mA} {k w : Int32} (rt : RT Ic Ac I A) (h7 : I 3445 ≤ 70000) (hg : 0 ≤ k ∧ k < I 3436 ∧ 0 ≤ w) : fPart (Ic 2407) (Ac 27) (Ac 28) (gat (Ic 2901) (Ac 30)) k w = toV A k w := by
  obtain ⟨g1, g2, g3⟩ := hg
  have hk := k_cl g1 g2
  have hl := rt.2.2.1
  have ek : Int32.ofNat k.toNatClampNeg = k := by
    have a1 := i_le.mp g1
    rw [z0] at a1
    have a2 := i_lt.mp g2
    have a3 := i_le.mp hl
    rw [show (256 : Int32).toInt = 256 from rfl] at a3
    exact i_eq.mpr (by rw [i_of (by rw [i_cl]; omega), i_cl]; omega)
  have f := rt.2.2.2.1 _ hk
  obtain ⟨f1, f2, f3, f4, f5, f6, f7, f8, f9⟩ := f
  obtain ⟨q0, q1, n, n5, ne, n7⟩ := plO_q f2 h7
  by_cases h5 : w < 5
  · have e := fP (g := gat (Ic 2901) (Ac 30)) rt hk g3 h5
    rw [ek] at e
    rw [e]
    have hw : w = 0 ∨ w = 1 ∨ w = 2 ∨ w = 3 ∨ w = 4 := by grind
    rcases hw with rfl | rfl | rfl | rfl | rfl
    · exact f1
    · exact f3
    · exact f4
    · exact f5
    · exact f6
  · have h5 : 5 ≤ w := Int32.not_lt.mp h5
    by_cases hs : w - 5 < nSz (gmt (A 54)) (bQ (gmt (A 54)) (A 58 k.toNatClampNeg))
    · obtain ⟨e1, e2, e3⟩ := q_w h5 hs ne
      have e := fPn (j := (w - 5).toNatClampNeg) rt hk (by rw [ne, i_cl]; omega) (by rw [i_cl]; omega)
      have ew : Int32.ofNat (w - 5).toNatClampNeg = w - 5 := i_eq.mpr (by rw [i_of (by rw [i_cl]; omega), i_cl]; omega)
      rw [ek, ew, show 5 + (w - 5) = w by grind] at e
      rw [e]
      unfold toV
      rw [if_neg (Int32.not_lt.mpr h5), if_pos hs]
      congr 1
      grind
    · unfold toV
      rw [if_neg (Int32.not_lt.mpr h5), if_neg hs]
      unfold fPart
      have hk2 : k < 256 := by grind
      have e4 : (k * 5 + 4).toNatClampNeg = 5 * k.toNatClampNeg + 4 := by
        have := ix_l (m := k) (c := 5) (q := 5) (j := 4) g1 (by grind) rfl (by decide) (by decide)
        rw [show (4 : Int32) = Int32.ofNat 4 from rfl, this, i_cl]
      rw [if_neg (by rw [rt.1]; grind), if_neg (Int32.not_lt.mpr h5), e4, f6, if_neg hs]
