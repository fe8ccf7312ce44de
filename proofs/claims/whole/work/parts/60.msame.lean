theorem l_Mo_is1 {I : mI} {A : mA} {L : mL} {a b p q : Int32} {Q : xO → Prop} (hp0 : 0 ≤ p) (hp1 : p ≤ 69987) (hq0 : 0 ≤ q) (hq1 : q ≤ 69987) : ∀ (t j : Nat) (r : Int32), (r = 0 ∨ r = 1) → j + t = 12 → (∀ j9 : Int32, xr m_Mo_isSame none (3, 64) 80 [some (.ref 34), some (.int a), some (.int b), some (.int (b2 (¬ r = 0 ∧ smR (fun j => gmt (A 54) (p + Int32.ofNat j)) (fun j => gmt (A 54) (q + Int32.ofNat j)) t j = true))), some (.int p), some (.int q), some (.int j9)] [] (pic I A L) 0 0 Q) → xr m_Mo_isSame none (3, 64) 36 [some (.ref 34), some (.int a), some (.int b), some (.int r), some (.int p), some (.int q), some (.int (Int32.ofNat j))] [] (pic I A L) 0 0 Q := by
  have e12 : (12 : Int32).toInt = 12 := rfl
  intro t
  induction t with
  | zero =>
    intro j r hr hj K
    refine xr_iload D_Mo_isSame_36 rfl ?_
    refine xr_bipush (v := 12) D_Mo_isSame_38 rfl ?_
    refine xr_icmp_ge (tgt := 80) D_Mo_isSame_40 rfl (fun c1 => ?_) (fun c1 => ?_)
    · have e : b2 (¬ r = 0 ∧ smR (fun j => gmt (A 54) (p + Int32.ofNat j)) (fun j => gmt (A 54) (q + Int32.ofNat j)) 0 j = true) = r := by
        rcases hr with rfl | rfl
        · exact (b2_f (fun q => q.1 rfl)).symm
        · exact (b2_t ⟨by decide, rfl⟩).symm
      have z := K (Int32.ofNat j)
      rw [e] at z
      exact z
    · exact absurd (show (12 : Int32) ≤ Int32.ofNat j from i_le.mpr (by rw [i_of (by omega), e12]; omega)) c1
  | succ t ih =>
    intro j r hr hj K
    have hj0 : 0 ≤ Int32.ofNat j := i_le.mpr (by rw [i_of (by omega), z0]; omega)
    have hj1 : Int32.ofNat j < 12 := i_lt.mpr (by rw [i_of (by omega)]; omega)
    refine xr_iload D_Mo_isSame_36 rfl ?_
    refine xr_bipush (v := 12) D_Mo_isSame_38 rfl ?_
    refine xr_icmp_ge (tgt := 80) D_Mo_isSame_40 rfl (fun c1 => ?_) (fun c1 => ?_)
    · exact absurd c1 (fun q => by rw [i_le, i_of (by omega), e12] at q; omega)
    · refine xr_iload_n D_Mo_isSame_43 rfl rfl ?_
      refine xr_if_eq (tgt := 80) D_Mo_isSame_44 rfl (fun c2 => ?_) (fun c2 => ?_)
      · have e : b2 (¬ r = 0 ∧ smR (fun j => gmt (A 54) (p + Int32.ofNat j)) (fun j => gmt (A 54) (q + Int32.ofNat j)) (t + 1) j = true) = r := by rw [c2]; exact (b2_f (fun q => q.1 rfl)).symm
        have z := K (Int32.ofNat j)
        rw [e] at z
        exact z
      · refine xr_aload_n D_Mo_isSame_47 rfl rfl ?_
        refine xr_iload D_Mo_isSame_48 rfl ?_
        refine xr_iload D_Mo_isSame_50 rfl ?_
        refine xr_iadd D_Mo_isSame_52 ?_
        refine xr_cVx (as := [_]) (c_Mo_byteAt_34 (by grind) (by grind)) (L_Mo_200) (CD_Mo_byteAt) CI_Mo D_Mo_isSame_53 rfl rfl (by decide) (Nat.le_of_ble_eq_true rfl) (Nat.le_of_eq (Nat.zero_add _)) (Nat.le_of_eq (Nat.zero_add _)) pic_len ?_
        rintro _ rfl
        refine ⟨_, _, rfl, pic_leq, ?_⟩
        refine xr_aload_n D_Mo_isSame_56 rfl rfl ?_
        refine xr_iload D_Mo_isSame_57 rfl ?_
        refine xr_iload D_Mo_isSame_59 rfl ?_
        refine xr_iadd D_Mo_isSame_61 ?_
        refine xr_cVx (as := [_]) (c_Mo_byteAt_34 (by grind) (by grind)) (L_Mo_200) (CD_Mo_byteAt) CI_Mo D_Mo_isSame_62 rfl rfl (by decide) (Nat.le_of_ble_eq_true rfl) (Nat.le_of_eq (Nat.zero_add _)) (Nat.le_of_eq (Nat.zero_add _)) pic_len ?_
        rintro _ rfl
        refine ⟨_, _, rfl, pic_leq, ?_⟩
        refine xr_icmp_ne (tgt := 72) D_Mo_isSame_65 rfl (fun c3 => ?_) (fun c3 => ?_)
        · refine xr_iconst (v := 0) D_Mo_isSame_72 rfl ?_
          refine xr_istore_n D_Mo_isSame_73 rfl (by decide) ?_
          refine xr_iinc (c9 := 1) D_Mo_isSame_74 rfl rfl (by decide) ?_
          refine xr_goto (tgt := 36) D_Mo_isSame_77 rfl ?_
          rw [io_succ]
          refine ih (j + 1) 0 (Or.inl rfl) (by omega) (fun j9 => ?_)
          have e : b2 (¬ (0 : Int32) = 0 ∧ smR (fun j => gmt (A 54) (p + Int32.ofNat j)) (fun j => gmt (A 54) (q + Int32.ofNat j)) t (j + 1) = true) = b2 (¬ r = 0 ∧ smR (fun j => gmt (A 54) (p + Int32.ofNat j)) (fun j => gmt (A 54) (q + Int32.ofNat j)) (t + 1) j = true) := by
            refine b2_iff ?_
            rw [smR_s, decide_eq_false c3, Bool.false_and]
            exact ⟨fun q => absurd rfl q.1, fun q => absurd q.2 (by decide)⟩
          rw [e]
          exact K j9
        · refine xr_iconst (v := 1) D_Mo_isSame_68 rfl ?_
          refine xr_goto (tgt := 73) D_Mo_isSame_69 rfl ?_
          refine xr_istore_n D_Mo_isSame_73 rfl (by decide) ?_
          refine xr_iinc (c9 := 1) D_Mo_isSame_74 rfl rfl (by decide) ?_
          refine xr_goto (tgt := 36) D_Mo_isSame_77 rfl ?_
          rw [io_succ]
          refine ih (j + 1) 1 (Or.inr rfl) (by omega) (fun j9 => ?_)
          have e : b2 (¬ (1 : Int32) = 0 ∧ smR (fun j => gmt (A 54) (p + Int32.ofNat j)) (fun j => gmt (A 54) (q + Int32.ofNat j)) t (j + 1) = true) = b2 (¬ r = 0 ∧ smR (fun j => gmt (A 54) (p + Int32.ofNat j)) (fun j => gmt (A 54) (q + Int32.ofNat j)) (t + 1) j = true) := by
            refine b2_iff ?_
            rw [smR_s, decide_eq_true c3, Bool.true_and]
            exact ⟨fun q => ⟨c2, q.2⟩, fun q => ⟨by decide, q.2⟩⟩
          rw [e]
          exact K j9

theorem l_Mo_po {I : mI} {A : mA} {L : mL}  {Q : xO → Prop} (h0 : 0 ≤ I 3444) (h1 : I 3444 < 69972) : ∀ (t j : Nat) (r : Int32), (r = 0 ∨ r = 1) → j + t = 12 → (∀ j9 : Int32, xr m_Mo_post none (2, 46) 99 [some (.ref 34), some (.int (b2 (¬ r = 0 ∧ smR (fun j => gmt (A 54) (I 3444 + 5 + Int32.ofNat j)) (fun j => gmt (A 54) (2 + Int32.ofNat j)) t j = true))), some (.int j9)] [] (pic I A L) 0 0 Q) → xr m_Mo_post none (2, 46) 55 [some (.ref 34), some (.int r), some (.int (Int32.ofNat j))] [] (pic I A L) 0 0 Q := by
  have e12 : (12 : Int32).toInt = 12 := rfl
  intro t
  induction t with
  | zero =>
    intro j r hr hj K
    refine xr_iload_n D_Mo_post_55 rfl rfl ?_
    refine xr_bipush (v := 12) D_Mo_post_56 rfl ?_
    refine xr_icmp_ge (tgt := 99) D_Mo_post_58 rfl (fun c1 => ?_) (fun c1 => ?_)
    · have e : b2 (¬ r = 0 ∧ smR (fun j => gmt (A 54) (I 3444 + 5 + Int32.ofNat j)) (fun j => gmt (A 54) (2 + Int32.ofNat j)) 0 j = true) = r := by
        rcases hr with rfl | rfl
        · exact (b2_f (fun q => q.1 rfl)).symm
        · exact (b2_t ⟨by decide, rfl⟩).symm
      have z := K (Int32.ofNat j)
      rw [e] at z
      exact z
    · exact absurd (show (12 : Int32) ≤ Int32.ofNat j from i_le.mpr (by rw [i_of (by omega), e12]; omega)) c1
  | succ t ih =>
    intro j r hr hj K
    have hj0 : 0 ≤ Int32.ofNat j := i_le.mpr (by rw [i_of (by omega), z0]; omega)
    have hj1 : Int32.ofNat j < 12 := i_lt.mpr (by rw [i_of (by omega)]; omega)
    refine xr_iload_n D_Mo_post_55 rfl rfl ?_
    refine xr_bipush (v := 12) D_Mo_post_56 rfl ?_
    refine xr_icmp_ge (tgt := 99) D_Mo_post_58 rfl (fun c1 => ?_) (fun c1 => ?_)
    · exact absurd c1 (fun q => by rw [i_le, i_of (by omega), e12] at q; omega)
    · refine xr_iload_n D_Mo_post_61 rfl rfl ?_
      refine xr_if_eq (tgt := 91) D_Mo_post_62 rfl (fun c2 => ?_) (fun c2 => ?_)
      · refine xr_iconst (v := 0) D_Mo_post_91 rfl ?_
        refine xr_istore_n D_Mo_post_92 rfl (by decide) ?_
        refine xr_iinc (c9 := 1) D_Mo_post_93 rfl rfl (by decide) ?_
        refine xr_goto (tgt := 55) D_Mo_post_96 rfl ?_
        rw [io_succ]
        refine ih (j + 1) 0 (Or.inl rfl) (by omega) (fun j9 => ?_)
        have e : b2 (¬ (0 : Int32) = 0 ∧ smR (fun j => gmt (A 54) (I 3444 + 5 + Int32.ofNat j)) (fun j => gmt (A 54) (2 + Int32.ofNat j)) t (j + 1) = true) = b2 (¬ r = 0 ∧ smR (fun j => gmt (A 54) (I 3444 + 5 + Int32.ofNat j)) (fun j => gmt (A 54) (2 + Int32.ofNat j)) (t + 1) j = true) := b2_iff ⟨fun q => absurd rfl q.1, fun q => absurd c2 q.1⟩
        rw [e]
        exact K j9
      · refine xr_aload_n D_Mo_post_65 rfl rfl ?_
        refine xr_aload_n D_Mo_post_66 rfl rfl ?_
        refine xr_getf F_Mo_203 D_Mo_post_67 rfl rfl ?_
        refine xr_iconst (v := 5) D_Mo_post_70 rfl ?_
        refine xr_iadd D_Mo_post_71 ?_
        refine xr_iload_n D_Mo_post_72 rfl rfl ?_
        refine xr_iadd D_Mo_post_73 ?_
        refine xr_cVx (as := [_]) (c_Mo_byteAt_34 (by grind) (by grind)) (L_Mo_200) (CD_Mo_byteAt) CI_Mo D_Mo_post_74 rfl rfl (by decide) (Nat.le_of_ble_eq_true rfl) (Nat.le_of_eq (Nat.zero_add _)) (Nat.le_of_eq (Nat.zero_add _)) pic_len ?_
        rintro _ rfl
        refine ⟨_, _, rfl, pic_leq, ?_⟩
        refine xr_aload_n D_Mo_post_77 rfl rfl ?_
        refine xr_iconst (v := 2) D_Mo_post_78 rfl ?_
        refine xr_iload_n D_Mo_post_79 rfl rfl ?_
        refine xr_iadd D_Mo_post_80 ?_
        refine xr_cVx (as := [_]) (c_Mo_byteAt_34 (by grind) (by grind)) (L_Mo_200) (CD_Mo_byteAt) CI_Mo D_Mo_post_81 rfl rfl (by decide) (Nat.le_of_ble_eq_true rfl) (Nat.le_of_eq (Nat.zero_add _)) (Nat.le_of_eq (Nat.zero_add _)) pic_len ?_
        rintro _ rfl
        refine ⟨_, _, rfl, pic_leq, ?_⟩
        refine xr_icmp_ne (tgt := 91) D_Mo_post_84 rfl (fun c3 => ?_) (fun c3 => ?_)
        · refine xr_iconst (v := 0) D_Mo_post_91 rfl ?_
          refine xr_istore_n D_Mo_post_92 rfl (by decide) ?_
          refine xr_iinc (c9 := 1) D_Mo_post_93 rfl rfl (by decide) ?_
          refine xr_goto (tgt := 55) D_Mo_post_96 rfl ?_
          rw [io_succ]
          refine ih (j + 1) 0 (Or.inl rfl) (by omega) (fun j9 => ?_)
          have e : b2 (¬ (0 : Int32) = 0 ∧ smR (fun j => gmt (A 54) (I 3444 + 5 + Int32.ofNat j)) (fun j => gmt (A 54) (2 + Int32.ofNat j)) t (j + 1) = true) = b2 (¬ r = 0 ∧ smR (fun j => gmt (A 54) (I 3444 + 5 + Int32.ofNat j)) (fun j => gmt (A 54) (2 + Int32.ofNat j)) (t + 1) j = true) := by
            refine b2_iff ?_
            rw [smR_s, decide_eq_false c3, Bool.false_and]
            exact ⟨fun q => absurd rfl q.1, fun q => absurd q.2 (by decide)⟩
          rw [e]
          exact K j9
        · refine xr_iconst (v := 1) D_Mo_post_87 rfl ?_
          refine xr_goto (tgt := 92) D_Mo_post_88 rfl ?_
          refine xr_istore_n D_Mo_post_92 rfl (by decide) ?_
          refine xr_iinc (c9 := 1) D_Mo_post_93 rfl rfl (by decide) ?_
          refine xr_goto (tgt := 55) D_Mo_post_96 rfl ?_
          rw [io_succ]
          refine ih (j + 1) 1 (Or.inr rfl) (by omega) (fun j9 => ?_)
          have e : b2 (¬ (1 : Int32) = 0 ∧ smR (fun j => gmt (A 54) (I 3444 + 5 + Int32.ofNat j)) (fun j => gmt (A 54) (2 + Int32.ofNat j)) t (j + 1) = true) = b2 (¬ r = 0 ∧ smR (fun j => gmt (A 54) (I 3444 + 5 + Int32.ofNat j)) (fun j => gmt (A 54) (2 + Int32.ofNat j)) (t + 1) j = true) := by
            refine b2_iff ?_
            rw [smR_s, decide_eq_true c3, Bool.true_and]
            exact ⟨fun q => ⟨c2, q.2⟩, fun q => ⟨by decide, q.2⟩⟩
          rw [e]
          exact K j9

theorem l_Mo_is2 {I : mI} {A : mA} {L : mL} {a b p q : Int32} {n : Nat} {Q : xO → Prop} (ha0 : 0 ≤ a) (ha1 : a < 70000) (hp : a + 1 + (gmt (A 54) a - 243 + 1) = p) (hp0 : 0 ≤ p) (hp1 : p < 69987) (hpn : p.toInt + 14 + n ≤ 70000) (hq0 : 0 ≤ q) (hq1 : q < 69987) (hqn : q.toInt + 14 + n ≤ 70000) (hn : (gmt (A 54) (p + 12) + gmt (A 54) (p + 13)).toInt = (n : Int)) (hn5 : n ≤ 510) : ∀ (t j : Nat) (r : Int32), (r = 0 ∨ r = 1) → j + t = n → (∀ j9 : Int32, xr m_Mo_isSame none (3, 64) 136 [some (.ref 34), some (.int a), some (.int b), some (.int (b2 (¬ r = 0 ∧ smR (fun j => gmt (A 54) (p + 14 + Int32.ofNat j)) (fun j => gmt (A 54) (q + 14 + Int32.ofNat j)) t j = true))), some (.int p), some (.int q), some (.int j9)] [] (pic I A L) 0 0 Q) → xr m_Mo_isSame none (3, 64) 83 [some (.ref 34), some (.int a), some (.int b), some (.int r), some (.int p), some (.int q), some (.int (Int32.ofNat j))] [] (pic I A L) 0 0 Q := by
  have e14 : (14 : Int32).toInt = 14 := rfl
  have gp0 := i_le.mp hp0
  have gq0 := i_le.mp hq0
  rw [z0] at gp0 gq0
  have gp1 := i_lt.mp hp1
  have gq1 := i_lt.mp hq1
  rw [show (69987 : Int32).toInt = 69987 from rfl] at gp1 gq1
  intro t
  induction t with
  | zero =>
    intro j r hr hj K
    refine xr_iload D_Mo_isSame_83 rfl ?_
    refine xr_aload_n D_Mo_isSame_85 rfl rfl ?_
    refine xr_iload_n D_Mo_isSame_86 rfl rfl ?_
    refine xr_cVx (as := [_]) (c_Mo_nameSize_34 ha0 ha1 (by rw [hp]; exact hp0) (by rw [hp]; exact hp1)) (L_Mo_244) (CD_Mo_nameSize) CI_Mo D_Mo_isSame_87 rfl rfl (by decide) (Nat.le_of_ble_eq_true rfl) (Nat.le_of_eq (Nat.zero_add _)) (Nat.le_of_eq (Nat.zero_add _)) pic_len ?_
    rintro _ rfl
    refine ⟨_, _, rfl, pic_leq, ?_⟩
    rw [hp]
    refine xr_icmp_ge (tgt := 136) D_Mo_isSame_90 rfl (fun c1 => ?_) (fun c1 => ?_)
    · have e : b2 (¬ r = 0 ∧ smR (fun j => gmt (A 54) (p + 14 + Int32.ofNat j)) (fun j => gmt (A 54) (q + 14 + Int32.ofNat j)) 0 j = true) = r := by
        rcases hr with rfl | rfl
        · exact (b2_f (fun q => q.1 rfl)).symm
        · exact (b2_t ⟨by decide, rfl⟩).symm
      have z := K (Int32.ofNat j)
      rw [e] at z
      exact z
    · exact absurd (i_le.mpr (by rw [hn, i_of (by omega)]; omega)) c1
  | succ t ih =>
    intro j r hr hj K
    have hj9 : (Int32.ofNat j).toInt = j := i_of (by omega)
    have ep : (p + 14 + Int32.ofNat j).toInt = p.toInt + 14 + j := by rw [i_add (by rw [hj9, i_add (by rw [e14]; omega) (by rw [e14]; omega), e14]; omega) (by rw [hj9, i_add (by rw [e14]; omega) (by rw [e14]; omega), e14]; omega), hj9, i_add (by rw [e14]; omega) (by rw [e14]; omega), e14]
    have eq : (q + 14 + Int32.ofNat j).toInt = q.toInt + 14 + j := by rw [i_add (by rw [hj9, i_add (by rw [e14]; omega) (by rw [e14]; omega), e14]; omega) (by rw [hj9, i_add (by rw [e14]; omega) (by rw [e14]; omega), e14]; omega), hj9, i_add (by rw [e14]; omega) (by rw [e14]; omega), e14]
    have bp0 : 0 ≤ p + 14 + Int32.ofNat j := i_le.mpr (by rw [z0, ep]; omega)
    have bp1 : p + 14 + Int32.ofNat j < 70000 := i_lt.mpr (by rw [z7, ep]; omega)
    have bq0 : 0 ≤ q + 14 + Int32.ofNat j := i_le.mpr (by rw [z0, eq]; omega)
    have bq1 : q + 14 + Int32.ofNat j < 70000 := i_lt.mpr (by rw [z7, eq]; omega)
    refine xr_iload D_Mo_isSame_83 rfl ?_
    refine xr_aload_n D_Mo_isSame_85 rfl rfl ?_
    refine xr_iload_n D_Mo_isSame_86 rfl rfl ?_
    refine xr_cVx (as := [_]) (c_Mo_nameSize_34 ha0 ha1 (by rw [hp]; exact hp0) (by rw [hp]; exact hp1)) (L_Mo_244) (CD_Mo_nameSize) CI_Mo D_Mo_isSame_87 rfl rfl (by decide) (Nat.le_of_ble_eq_true rfl) (Nat.le_of_eq (Nat.zero_add _)) (Nat.le_of_eq (Nat.zero_add _)) pic_len ?_
    rintro _ rfl
    refine ⟨_, _, rfl, pic_leq, ?_⟩
    rw [hp]
    refine xr_icmp_ge (tgt := 136) D_Mo_isSame_90 rfl (fun c1 => ?_) (fun c1 => ?_)
    · exact absurd c1 (fun q => by rw [i_le, hn, i_of (by omega)] at q; omega)
    · refine xr_iload_n D_Mo_isSame_93 rfl rfl ?_
      refine xr_if_eq (tgt := 136) D_Mo_isSame_94 rfl (fun c2 => ?_) (fun c2 => ?_)
      · have e : b2 (¬ r = 0 ∧ smR (fun j => gmt (A 54) (p + 14 + Int32.ofNat j)) (fun j => gmt (A 54) (q + 14 + Int32.ofNat j)) (t + 1) j = true) = r := by rw [c2]; exact (b2_f (fun q => q.1 rfl)).symm
        have z := K (Int32.ofNat j)
        rw [e] at z
        exact z
      · refine xr_aload_n D_Mo_isSame_97 rfl rfl ?_
        refine xr_iload D_Mo_isSame_98 rfl ?_
        refine xr_bipush (v := 14) D_Mo_isSame_100 rfl ?_
        refine xr_iadd D_Mo_isSame_102 ?_
        refine xr_iload D_Mo_isSame_103 rfl ?_
        refine xr_iadd D_Mo_isSame_105 ?_
        refine xr_cVx (as := [_]) (c_Mo_byteAt_34 (by assumption) (by assumption)) (L_Mo_200) (CD_Mo_byteAt) CI_Mo D_Mo_isSame_106 rfl rfl (by decide) (Nat.le_of_ble_eq_true rfl) (Nat.le_of_eq (Nat.zero_add _)) (Nat.le_of_eq (Nat.zero_add _)) pic_len ?_
        rintro _ rfl
        refine ⟨_, _, rfl, pic_leq, ?_⟩
        refine xr_aload_n D_Mo_isSame_109 rfl rfl ?_
        refine xr_iload D_Mo_isSame_110 rfl ?_
        refine xr_bipush (v := 14) D_Mo_isSame_112 rfl ?_
        refine xr_iadd D_Mo_isSame_114 ?_
        refine xr_iload D_Mo_isSame_115 rfl ?_
        refine xr_iadd D_Mo_isSame_117 ?_
        refine xr_cVx (as := [_]) (c_Mo_byteAt_34 (by assumption) (by assumption)) (L_Mo_200) (CD_Mo_byteAt) CI_Mo D_Mo_isSame_118 rfl rfl (by decide) (Nat.le_of_ble_eq_true rfl) (Nat.le_of_eq (Nat.zero_add _)) (Nat.le_of_eq (Nat.zero_add _)) pic_len ?_
        rintro _ rfl
        refine ⟨_, _, rfl, pic_leq, ?_⟩
        refine xr_icmp_ne (tgt := 128) D_Mo_isSame_121 rfl (fun c3 => ?_) (fun c3 => ?_)
        · refine xr_iconst (v := 0) D_Mo_isSame_128 rfl ?_
          refine xr_istore_n D_Mo_isSame_129 rfl (by decide) ?_
          refine xr_iinc (c9 := 1) D_Mo_isSame_130 rfl rfl (by decide) ?_
          refine xr_goto (tgt := 83) D_Mo_isSame_133 rfl ?_
          rw [io_succ]
          refine ih (j + 1) 0 (Or.inl rfl) (by omega) (fun j9 => ?_)
          have e : b2 (¬ (0 : Int32) = 0 ∧ smR (fun j => gmt (A 54) (p + 14 + Int32.ofNat j)) (fun j => gmt (A 54) (q + 14 + Int32.ofNat j)) t (j + 1) = true) = b2 (¬ r = 0 ∧ smR (fun j => gmt (A 54) (p + 14 + Int32.ofNat j)) (fun j => gmt (A 54) (q + 14 + Int32.ofNat j)) (t + 1) j = true) := by
            refine b2_iff ?_
            rw [smR_s, decide_eq_false c3, Bool.false_and]
            exact ⟨fun q => absurd rfl q.1, fun q => absurd q.2 (by decide)⟩
          rw [e]
          exact K j9
        · refine xr_iconst (v := 1) D_Mo_isSame_124 rfl ?_
          refine xr_goto (tgt := 129) D_Mo_isSame_125 rfl ?_
          refine xr_istore_n D_Mo_isSame_129 rfl (by decide) ?_
          refine xr_iinc (c9 := 1) D_Mo_isSame_130 rfl rfl (by decide) ?_
          refine xr_goto (tgt := 83) D_Mo_isSame_133 rfl ?_
          rw [io_succ]
          refine ih (j + 1) 1 (Or.inr rfl) (by omega) (fun j9 => ?_)
          have e : b2 (¬ (1 : Int32) = 0 ∧ smR (fun j => gmt (A 54) (p + 14 + Int32.ofNat j)) (fun j => gmt (A 54) (q + 14 + Int32.ofNat j)) t (j + 1) = true) = b2 (¬ r = 0 ∧ smR (fun j => gmt (A 54) (p + 14 + Int32.ofNat j)) (fun j => gmt (A 54) (q + 14 + Int32.ofNat j)) (t + 1) j = true) := by
            refine b2_iff ?_
            rw [smR_s, decide_eq_true c3, Bool.true_and]
            exact ⟨fun q => ⟨c2, q.2⟩, fun q => ⟨by decide, q.2⟩⟩
          rw [e]
          exact K j9

theorem b2_01 {p : Prop} [Decidable p] : b2 p = 0 ∨ b2 p = 1 := by
  unfold b2
  split
  · exact Or.inr rfl
  · exact Or.inl rfl

theorem c_Mo_isSame_34 {I : mI} {A : mA} {L : mL} {a b p q : Int32} {n : Nat} (ha0 : 0 ≤ a) (ha1 : a < 70000) (hp : a + 1 + (gmt (A 54) a - 243 + 1) = p) (hp0 : 0 ≤ p) (hp1 : p < 69987) (hpn : p.toInt + 14 + n ≤ 70000) (hq0 : 0 ≤ q) (hq1 : q < 69987) (hqn : gmt (A 54) (q + 12) + gmt (A 54) (q + 13) = gmt (A 54) (p + 12) + gmt (A 54) (p + 13) → q.toInt + 14 + n ≤ 70000) (hn : (gmt (A 54) (p + 12) + gmt (A 54) (p + 13)).toInt = (n : Int)) (hn5 : n ≤ 510) (hb0 : 0 ≤ b) (hb1 : b < 70000) (hq : b + 1 + (gmt (A 54) b - 243 + 1) = q) : xm m_Mo_isSame (3, 64) [.ref 34, .int a, .int b] (pic I A L) 0 0 (fun o => o = (.inl (some (.int (b2 (gmt (A 54) (p + 12) + gmt (A 54) (p + 13) = gmt (A 54) (q + 12) + gmt (A 54) (q + 13) ∧ smR (fun j => gmt (A 54) (p + Int32.ofNat j)) (fun j => gmt (A 54) (q + Int32.ofNat j)) 12 0 = true ∧ smR (fun j => gmt (A 54) (p + 14 + Int32.ofNat j)) (fun j => gmt (A 54) (q + 14 + Int32.ofNat j)) n 0 = true)))), pic I A L)) := by
  refine xm_of rfl (by decide) (Nat.le_of_ble_eq_true rfl) ?_
  refine xr_aload_n D_Mo_isSame_0 rfl rfl ?_
  refine xr_iload_n D_Mo_isSame_1 rfl rfl ?_
  refine xr_cVx (as := [_]) (c_Mo_nameSize_34 ha0 ha1 (by rw [hp]; exact hp0) (by rw [hp]; exact hp1)) (L_Mo_244) (CD_Mo_nameSize) CI_Mo D_Mo_isSame_2 rfl rfl (by decide) (Nat.le_of_ble_eq_true rfl) (Nat.le_of_eq (Nat.zero_add _)) (Nat.le_of_eq (Nat.zero_add _)) pic_len ?_
  rintro _ rfl
  refine ⟨_, _, rfl, pic_leq, ?_⟩
  rw [hp]
  refine xr_aload_n D_Mo_isSame_5 rfl rfl ?_
  refine xr_iload_n D_Mo_isSame_6 rfl rfl ?_
  refine xr_cVx (as := [_]) (c_Mo_nameSize_34 hb0 hb1 (by rw [hq]; exact hq0) (by rw [hq]; exact hq1)) (L_Mo_244) (CD_Mo_nameSize) CI_Mo D_Mo_isSame_7 rfl rfl (by decide) (Nat.le_of_ble_eq_true rfl) (Nat.le_of_eq (Nat.zero_add _)) (Nat.le_of_eq (Nat.zero_add _)) pic_len ?_
  rintro _ rfl
  refine ⟨_, _, rfl, pic_leq, ?_⟩
  rw [hq]
  refine xr_icmp_ne (tgt := 17) D_Mo_isSame_10 rfl (fun c1 => ?_) (fun c1 => ?_)
  · refine xr_iconst (v := 0) D_Mo_isSame_17 rfl ?_
    refine xr_istore_n D_Mo_isSame_18 rfl (by decide) ?_
    refine xr_aload_n D_Mo_isSame_19 rfl rfl ?_
    refine xr_iload_n D_Mo_isSame_20 rfl rfl ?_
    refine xr_cVx (as := [_]) (c_Mo_behindNumber_34 ha0 ha1) (L_Mo_241) (CD_Mo_behindNumber) CI_Mo D_Mo_isSame_21 rfl rfl (by decide) (Nat.le_of_ble_eq_true rfl) (Nat.le_of_eq (Nat.zero_add _)) (Nat.le_of_eq (Nat.zero_add _)) pic_len ?_
    rintro _ rfl
    refine ⟨_, _, rfl, pic_leq, ?_⟩
    rw [hp]
    refine xr_istore D_Mo_isSame_24 (by decide) ?_
    refine xr_aload_n D_Mo_isSame_26 rfl rfl ?_
    refine xr_iload_n D_Mo_isSame_27 rfl rfl ?_
    refine xr_cVx (as := [_]) (c_Mo_behindNumber_34 hb0 hb1) (L_Mo_241) (CD_Mo_behindNumber) CI_Mo D_Mo_isSame_28 rfl rfl (by decide) (Nat.le_of_ble_eq_true rfl) (Nat.le_of_eq (Nat.zero_add _)) (Nat.le_of_eq (Nat.zero_add _)) pic_len ?_
    rintro _ rfl
    refine ⟨_, _, rfl, pic_leq, ?_⟩
    rw [hq]
    refine xr_istore D_Mo_isSame_31 (by decide) ?_
    refine xr_iconst (v := 0) D_Mo_isSame_33 rfl ?_
    refine xr_istore D_Mo_isSame_34 (by decide) ?_
    refine l_Mo_is1 hp0 (by grind) hq0 (by grind) 12 0 0 (Or.inl rfl) rfl (fun j9 => ?_)
    refine xr_iconst (v := 0) D_Mo_isSame_80 rfl ?_
    refine xr_istore D_Mo_isSame_81 (by decide) ?_
    have er : b2 (¬ (0 : Int32) = 0 ∧ smR (fun j => gmt (A 54) (p + Int32.ofNat j)) (fun j => gmt (A 54) (q + Int32.ofNat j)) 12 0 = true) = 0 := (b2_f (fun q => q.1 rfl)).symm
    rw [er]
    refine xr_iload D_Mo_isSame_83 rfl ?_
    refine xr_aload_n D_Mo_isSame_85 rfl rfl ?_
    refine xr_iload_n D_Mo_isSame_86 rfl rfl ?_
    refine xr_cVx (as := [_]) (c_Mo_nameSize_34 ha0 ha1 (by rw [hp]; exact hp0) (by rw [hp]; exact hp1)) (L_Mo_244) (CD_Mo_nameSize) CI_Mo D_Mo_isSame_87 rfl rfl (by decide) (Nat.le_of_ble_eq_true rfl) (Nat.le_of_eq (Nat.zero_add _)) (Nat.le_of_eq (Nat.zero_add _)) pic_len ?_
    rintro _ rfl
    refine ⟨_, _, rfl, pic_leq, ?_⟩
    rw [hp]
    refine xr_icmp_ge (tgt := 136) D_Mo_isSame_90 rfl (fun c2 => ?_) (fun c2 => ?_)
    · refine xr_iload_n D_Mo_isSame_136 rfl rfl ?_
      refine xr_zret rfl (by first | rfl | exact nar_b2 | exact nar_z hz | exact nar_z b2_01) D_Mo_isSame_137 ?_
      exact ob_f (fun z => c1 z.1)
    · refine xr_iload_n D_Mo_isSame_93 rfl rfl ?_
      refine xr_if_eq (tgt := 136) D_Mo_isSame_94 rfl (fun c3 => ?_) (fun c3 => ?_)
      · refine xr_iload_n D_Mo_isSame_136 rfl rfl ?_
        refine xr_zret rfl (by first | rfl | exact nar_b2 | exact nar_z hz | exact nar_z b2_01) D_Mo_isSame_137 ?_
        exact ob_f (fun z => c1 z.1)
      · exact absurd (show (0 : Int32) = (0 : Int32) by decide) c3
  · refine xr_iconst (v := 1) D_Mo_isSame_13 rfl ?_
    refine xr_goto (tgt := 18) D_Mo_isSame_14 rfl ?_
    refine xr_istore_n D_Mo_isSame_18 rfl (by decide) ?_
    refine xr_aload_n D_Mo_isSame_19 rfl rfl ?_
    refine xr_iload_n D_Mo_isSame_20 rfl rfl ?_
    refine xr_cVx (as := [_]) (c_Mo_behindNumber_34 ha0 ha1) (L_Mo_241) (CD_Mo_behindNumber) CI_Mo D_Mo_isSame_21 rfl rfl (by decide) (Nat.le_of_ble_eq_true rfl) (Nat.le_of_eq (Nat.zero_add _)) (Nat.le_of_eq (Nat.zero_add _)) pic_len ?_
    rintro _ rfl
    refine ⟨_, _, rfl, pic_leq, ?_⟩
    rw [hp]
    refine xr_istore D_Mo_isSame_24 (by decide) ?_
    refine xr_aload_n D_Mo_isSame_26 rfl rfl ?_
    refine xr_iload_n D_Mo_isSame_27 rfl rfl ?_
    refine xr_cVx (as := [_]) (c_Mo_behindNumber_34 hb0 hb1) (L_Mo_241) (CD_Mo_behindNumber) CI_Mo D_Mo_isSame_28 rfl rfl (by decide) (Nat.le_of_ble_eq_true rfl) (Nat.le_of_eq (Nat.zero_add _)) (Nat.le_of_eq (Nat.zero_add _)) pic_len ?_
    rintro _ rfl
    refine ⟨_, _, rfl, pic_leq, ?_⟩
    rw [hq]
    refine xr_istore D_Mo_isSame_31 (by decide) ?_
    refine xr_iconst (v := 0) D_Mo_isSame_33 rfl ?_
    refine xr_istore D_Mo_isSame_34 (by decide) ?_
    refine l_Mo_is1 hp0 (by grind) hq0 (by grind) 12 0 1 (Or.inr rfl) rfl (fun j9 => ?_)
    refine xr_iconst (v := 0) D_Mo_isSame_80 rfl ?_
    refine xr_istore D_Mo_isSame_81 (by decide) ?_
    refine l_Mo_is2 ha0 ha1 hp hp0 hp1 hpn hq0 hq1 (hqn c1.symm) hn hn5 n 0 _ (b2_01) (by omega) (fun j8 => ?_)
    refine xr_iload_n D_Mo_isSame_136 rfl rfl ?_
    refine xr_zret rfl (by first | rfl | exact nar_b2 | exact nar_z hz | exact nar_z b2_01) D_Mo_isSame_137 ?_
    refine ob_iff ?_
    rw [b2_n]
    exact ⟨fun z => ⟨c1, z.1.2, z.2⟩, fun z => ⟨⟨by decide, z.2.1⟩, z.2.2⟩⟩
