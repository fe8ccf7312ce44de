theorem and255 (x : Int32) : 0 ≤ (x &&& 255) ∧ (x &&& 255) ≤ 255 := by
  have hle : (x.toBitVec &&& 255#32).toNat ≤ 255 := by
    rw [BitVec.toNat_and]
    exact Nat.and_le_right
  have e : (x &&& 255).toInt = ((x.toBitVec &&& 255#32).toNat : Int) := by
    show (x.toBitVec &&& 255#32).toInt = _
    apply BitVec.toInt_eq_toNat_of_lt
    omega
  have e255 : (255 : Int32).toInt = 255 := rfl
  exact ⟨i_le.mpr (by rw [e, z0]; omega), i_le.mpr (by rw [e, e255]; omega)⟩
theorem gat_r (u : Int32) (f : Nat → Int32) (i : Int32) : 0 ≤ gat u f i ∧ gat u f i ≤ 255 := by
  unfold gat
  split
  · exact and255 _
  · exact ⟨by decide, by decide⟩
def smR (F G : Nat → Int32) : Nat → Nat → Bool
  | 0, _ => true
  | t + 1, j => decide (F j = G j) && smR F G t (j + 1)
theorem smR_s {F G : Nat → Int32} {t j : Nat} : smR F G (t + 1) j = (decide (F j = G j) && smR F G t (j + 1)) := rfl
def nmL (G : Nat → Int32) : Nat → Nat → List Int32
  | 0, _ => []
  | t + 1, j => (G j &&& 255) :: nmL G t (j + 1)

theorem l_Rg_same {I : mI} {A : mA} {L : mL} {k p n : Int32} (h0 : 0 ≤ n) (h1 : n ≤ 510) : ∀ (t j : Nat), (j : Int) + t = n.toInt → xr m_Rg_isSameFont none (2, 45) 63 [some (.ref 24), some (.int k), some (.ref 22), some (.int p), some (.int n), some (.int (Int32.ofNat j))] [] (pic I A L) 0 0 (fun o => o = (.inl (some (.int (b2 (smR (fun j => fPart (I 2407) (A 27) (A 28) (gat (I 2901) (A 30)) k (5 + Int32.ofNat j)) (fun j => (gat (I 2201) (A 23)) (p + 14 + Int32.ofNat j)) t j = true)))), pic I A L)) := by
  have g1 := i_le.mp h1
  have e510 : (510 : Int32).toInt = 510 := rfl
  intro t
  induction t with
  | zero =>
    intro j hj
    refine xr_iload D_Rg_isSameFont_63 rfl ?_
    refine xr_iload D_Rg_isSameFont_65 rfl ?_
    refine xr_icmp_ge (tgt := 101) D_Rg_isSameFont_67 rfl (fun c1 => ?_) (fun c1 => ?_)
    · refine xr_iconst (v := 1) D_Rg_isSameFont_101 rfl ?_
      refine xr_zret rfl (by first | rfl | exact nar_b2 | exact nar_z hz) D_Rg_isSameFont_102 ?_
      exact ob_t rfl
    · exact absurd (i_le.mpr (by rw [i_of (by omega)]; omega)) c1
  | succ t ih =>
    intro j hj
    refine xr_iload D_Rg_isSameFont_63 rfl ?_
    refine xr_iload D_Rg_isSameFont_65 rfl ?_
    refine xr_icmp_ge (tgt := 101) D_Rg_isSameFont_67 rfl (fun c1 => ?_) (fun c1 => ?_)
    · exact absurd c1 (fun q => by rw [i_le, i_of (by omega)] at q; omega)
    · refine xr_aload_n D_Rg_isSameFont_70 rfl rfl ?_
      refine xr_iload_n D_Rg_isSameFont_71 rfl rfl ?_
      refine xr_iconst (v := 5) D_Rg_isSameFont_72 rfl ?_
      refine xr_iload D_Rg_isSameFont_73 rfl ?_
      refine xr_iadd D_Rg_isSameFont_75 ?_
      refine xr_cVx (as := [_, _]) (c_Rg_fontPart_24) (L_Rg_80) (CD_Rg_fontPart) CI_Rg D_Rg_isSameFont_76 rfl rfl (by decide) (Nat.le_of_ble_eq_true rfl) (Nat.le_of_eq (Nat.zero_add _)) (Nat.le_of_eq (Nat.zero_add _)) pic_len ?_
      rintro _ rfl
      refine ⟨_, _, rfl, rfl, ?_⟩
      refine xr_aload_n D_Rg_isSameFont_79 rfl rfl ?_
      refine xr_iload_n D_Rg_isSameFont_80 rfl rfl ?_
      refine xr_bipush (v := 14) D_Rg_isSameFont_81 rfl ?_
      refine xr_iadd D_Rg_isSameFont_83 ?_
      refine xr_iload D_Rg_isSameFont_84 rfl ?_
      refine xr_iadd D_Rg_isSameFont_86 ?_
      refine xr_cVx (as := [_]) (c_By_at_22) (L_Rg_61) (CD_By_at) CI_By D_Rg_isSameFont_87 rfl rfl (by decide) (Nat.le_of_ble_eq_true rfl) (Nat.le_of_eq (Nat.zero_add _)) (Nat.le_of_eq (Nat.zero_add _)) pic_len ?_
      rintro _ rfl
      refine ⟨_, _, rfl, rfl, ?_⟩
      refine xr_icmp_eq (tgt := 95) D_Rg_isSameFont_90 rfl (fun c2 => ?_) (fun c2 => ?_)
      · refine xr_iinc (c9 := 1) D_Rg_isSameFont_95 rfl rfl (by decide) ?_
        refine xr_goto (tgt := 63) D_Rg_isSameFont_98 rfl ?_
        rw [io_succ]
        refine xr_mono (ih (j + 1) (by omega)) ?_
        rintro _ rfl
        exact ob_iff (by rw [smR_s, decide_eq_true c2, Bool.true_and])
      · refine xr_iconst (v := 0) D_Rg_isSameFont_93 rfl ?_
        refine xr_zret rfl (by first | rfl | exact nar_b2 | exact nar_z hz) D_Rg_isSameFont_94 ?_
        exact ob_f (by rw [smR_s, decide_eq_false c2]; simp)

set_option maxHeartbeats 1000000 in
theorem c_Rg_isSameFont_24 {I : mI} {A : mA} {L : mL} {k p : Int32} : xm m_Rg_isSameFont (2, 45) [.ref 24, .int k, .ref 22, .int p] (pic I A L) 0 0 (fun o => o = (.inl (some (.int (b2 ((fPart (I 2407) (A 27) (A 28) (gat (I 2901) (A 30)) k (1 + 0) = nrd (gat (I 2201) (A 23)) (p + 4 * 0) 4 ∧ fPart (I 2407) (A 27) (A 28) (gat (I 2901) (A 30)) k (1 + 1) = nrd (gat (I 2201) (A 23)) (p + 4 * 1) 4 ∧ fPart (I 2407) (A 27) (A 28) (gat (I 2901) (A 30)) k (1 + 2) = nrd (gat (I 2201) (A 23)) (p + 4 * 2) 4) ∧ fPart (I 2407) (A 27) (A 28) (gat (I 2901) (A 30)) k (4) = ((gat (I 2201) (A 23)) (p + 12) + (gat (I 2201) (A 23)) (p + 13)) ∧ smR (fun j => fPart (I 2407) (A 27) (A 28) (gat (I 2901) (A 30)) k (5 + Int32.ofNat j)) (fun j => (gat (I 2201) (A 23)) (p + 14 + Int32.ofNat j)) ((gat (I 2201) (A 23)) (p + 12) + (gat (I 2201) (A 23)) (p + 13)).toInt.toNat 0 = true)))), pic I A L)) := by
  refine xm_of rfl (by decide) (Nat.le_of_ble_eq_true rfl) ?_
  refine xr_iconst (v := 0) D_Rg_isSameFont_0 rfl ?_
  refine xr_istore D_Rg_isSameFont_1 (by decide) ?_
  refine xr_iload D_Rg_isSameFont_3 rfl ?_
  refine xr_iconst (v := 3) D_Rg_isSameFont_5 rfl ?_
  refine xr_icmp_ge (tgt := 40) D_Rg_isSameFont_6 rfl (fun c1 => ?_) (fun c1 => ?_)
  · exact absurd (show (3 : Int32) ≤ (0 : Int32) from c1) (by decide)
  · refine xr_aload_n D_Rg_isSameFont_9 rfl rfl ?_
    refine xr_iload_n D_Rg_isSameFont_10 rfl rfl ?_
    refine xr_iconst (v := 1) D_Rg_isSameFont_11 rfl ?_
    refine xr_iload D_Rg_isSameFont_12 rfl ?_
    refine xr_iadd D_Rg_isSameFont_14 ?_
    refine xr_cVx (as := [_, _]) (c_Rg_fontPart_24) (L_Rg_80) (CD_Rg_fontPart) CI_Rg D_Rg_isSameFont_15 rfl rfl (by decide) (Nat.le_of_ble_eq_true rfl) (Nat.le_of_eq (Nat.zero_add _)) (Nat.le_of_eq (Nat.zero_add _)) pic_len ?_
    rintro _ rfl
    refine ⟨_, _, rfl, rfl, ?_⟩
    refine xr_aload_n D_Rg_isSameFont_18 rfl rfl ?_
    refine xr_iload_n D_Rg_isSameFont_19 rfl rfl ?_
    refine xr_iconst (v := 4) D_Rg_isSameFont_20 rfl ?_
    refine xr_iload D_Rg_isSameFont_21 rfl ?_
    refine xr_imul D_Rg_isSameFont_23 ?_
    refine xr_iadd D_Rg_isSameFont_24 ?_
    refine xr_iconst (v := 4) D_Rg_isSameFont_25 rfl ?_
    refine xr_cVx (as := [_, _]) (c_By_number_22 4 rfl (by decide)) (L_Rg_65) (CD_By_number) CI_By D_Rg_isSameFont_26 rfl rfl (by decide) (Nat.le_of_ble_eq_true rfl) (Nat.le_of_eq (Nat.zero_add _)) (Nat.le_of_eq (Nat.zero_add _)) pic_len ?_
    rintro _ rfl
    refine ⟨_, _, rfl, rfl, ?_⟩
    refine xr_icmp_eq (tgt := 34) D_Rg_isSameFont_29 rfl (fun c2 => ?_) (fun c2 => ?_)
    · refine xr_iinc2 (v9 := 1) (c9 := 1) D_Rg_isSameFont_34 rfl rfl rfl (by decide) ?_
      refine xr_goto (tgt := 3) D_Rg_isSameFont_37 rfl ?_
      refine xr_iload D_Rg_isSameFont_3 rfl ?_
      refine xr_iconst (v := 3) D_Rg_isSameFont_5 rfl ?_
      refine xr_icmp_ge (tgt := 40) D_Rg_isSameFont_6 rfl (fun c3 => ?_) (fun c3 => ?_)
      · exact absurd (show (3 : Int32) ≤ (1 : Int32) from c3) (by decide)
      · refine xr_aload_n D_Rg_isSameFont_9 rfl rfl ?_
        refine xr_iload_n D_Rg_isSameFont_10 rfl rfl ?_
        refine xr_iconst (v := 1) D_Rg_isSameFont_11 rfl ?_
        refine xr_iload D_Rg_isSameFont_12 rfl ?_
        refine xr_iadd D_Rg_isSameFont_14 ?_
        refine xr_cVx (as := [_, _]) (c_Rg_fontPart_24) (L_Rg_80) (CD_Rg_fontPart) CI_Rg D_Rg_isSameFont_15 rfl rfl (by decide) (Nat.le_of_ble_eq_true rfl) (Nat.le_of_eq (Nat.zero_add _)) (Nat.le_of_eq (Nat.zero_add _)) pic_len ?_
        rintro _ rfl
        refine ⟨_, _, rfl, rfl, ?_⟩
        refine xr_aload_n D_Rg_isSameFont_18 rfl rfl ?_
        refine xr_iload_n D_Rg_isSameFont_19 rfl rfl ?_
        refine xr_iconst (v := 4) D_Rg_isSameFont_20 rfl ?_
        refine xr_iload D_Rg_isSameFont_21 rfl ?_
        refine xr_imul D_Rg_isSameFont_23 ?_
        refine xr_iadd D_Rg_isSameFont_24 ?_
        refine xr_iconst (v := 4) D_Rg_isSameFont_25 rfl ?_
        refine xr_cVx (as := [_, _]) (c_By_number_22 4 rfl (by decide)) (L_Rg_65) (CD_By_number) CI_By D_Rg_isSameFont_26 rfl rfl (by decide) (Nat.le_of_ble_eq_true rfl) (Nat.le_of_eq (Nat.zero_add _)) (Nat.le_of_eq (Nat.zero_add _)) pic_len ?_
        rintro _ rfl
        refine ⟨_, _, rfl, rfl, ?_⟩
        refine xr_icmp_eq (tgt := 34) D_Rg_isSameFont_29 rfl (fun c4 => ?_) (fun c4 => ?_)
        · refine xr_iinc2 (v9 := 2) (c9 := 1) D_Rg_isSameFont_34 rfl rfl rfl (by decide) ?_
          refine xr_goto (tgt := 3) D_Rg_isSameFont_37 rfl ?_
          refine xr_iload D_Rg_isSameFont_3 rfl ?_
          refine xr_iconst (v := 3) D_Rg_isSameFont_5 rfl ?_
          refine xr_icmp_ge (tgt := 40) D_Rg_isSameFont_6 rfl (fun c5 => ?_) (fun c5 => ?_)
          · exact absurd (show (3 : Int32) ≤ (2 : Int32) from c5) (by decide)
          · refine xr_aload_n D_Rg_isSameFont_9 rfl rfl ?_
            refine xr_iload_n D_Rg_isSameFont_10 rfl rfl ?_
            refine xr_iconst (v := 1) D_Rg_isSameFont_11 rfl ?_
            refine xr_iload D_Rg_isSameFont_12 rfl ?_
            refine xr_iadd D_Rg_isSameFont_14 ?_
            refine xr_cVx (as := [_, _]) (c_Rg_fontPart_24) (L_Rg_80) (CD_Rg_fontPart) CI_Rg D_Rg_isSameFont_15 rfl rfl (by decide) (Nat.le_of_ble_eq_true rfl) (Nat.le_of_eq (Nat.zero_add _)) (Nat.le_of_eq (Nat.zero_add _)) pic_len ?_
            rintro _ rfl
            refine ⟨_, _, rfl, rfl, ?_⟩
            refine xr_aload_n D_Rg_isSameFont_18 rfl rfl ?_
            refine xr_iload_n D_Rg_isSameFont_19 rfl rfl ?_
            refine xr_iconst (v := 4) D_Rg_isSameFont_20 rfl ?_
            refine xr_iload D_Rg_isSameFont_21 rfl ?_
            refine xr_imul D_Rg_isSameFont_23 ?_
            refine xr_iadd D_Rg_isSameFont_24 ?_
            refine xr_iconst (v := 4) D_Rg_isSameFont_25 rfl ?_
            refine xr_cVx (as := [_, _]) (c_By_number_22 4 rfl (by decide)) (L_Rg_65) (CD_By_number) CI_By D_Rg_isSameFont_26 rfl rfl (by decide) (Nat.le_of_ble_eq_true rfl) (Nat.le_of_eq (Nat.zero_add _)) (Nat.le_of_eq (Nat.zero_add _)) pic_len ?_
            rintro _ rfl
            refine ⟨_, _, rfl, rfl, ?_⟩
            refine xr_icmp_eq (tgt := 34) D_Rg_isSameFont_29 rfl (fun c6 => ?_) (fun c6 => ?_)
            · refine xr_iinc2 (v9 := 3) (c9 := 1) D_Rg_isSameFont_34 rfl rfl rfl (by decide) ?_
              refine xr_goto (tgt := 3) D_Rg_isSameFont_37 rfl ?_
              refine xr_iload D_Rg_isSameFont_3 rfl ?_
              refine xr_iconst (v := 3) D_Rg_isSameFont_5 rfl ?_
              refine xr_icmp_ge (tgt := 40) D_Rg_isSameFont_6 rfl (fun c7 => ?_) (fun c7 => ?_)
              · refine xr_aload_n D_Rg_isSameFont_40 rfl rfl ?_
                refine xr_iload_n D_Rg_isSameFont_41 rfl rfl ?_
                refine xr_cSx (as := [_, _]) (c_Rg_nameLengthAt) (L_Rg_69) (CD_Rg_nameLengthAt) D_Rg_isSameFont_42 rfl (by decide) (Nat.le_of_ble_eq_true rfl) (Nat.le_of_eq (Nat.zero_add _)) (Nat.le_of_eq (Nat.zero_add _)) pic_len ?_
                rintro _ rfl
                refine ⟨_, _, rfl, rfl, ?_⟩
                refine xr_istore D_Rg_isSameFont_45 (by decide) ?_
                refine xr_aload_n D_Rg_isSameFont_47 rfl rfl ?_
                refine xr_iload_n D_Rg_isSameFont_48 rfl rfl ?_
                refine xr_iconst (v := 4) D_Rg_isSameFont_49 rfl ?_
                refine xr_cVx (as := [_, _]) (c_Rg_fontPart_24) (L_Rg_80) (CD_Rg_fontPart) CI_Rg D_Rg_isSameFont_50 rfl rfl (by decide) (Nat.le_of_ble_eq_true rfl) (Nat.le_of_eq (Nat.zero_add _)) (Nat.le_of_eq (Nat.zero_add _)) pic_len ?_
                rintro _ rfl
                refine ⟨_, _, rfl, rfl, ?_⟩
                refine xr_iload D_Rg_isSameFont_53 rfl ?_
                refine xr_icmp_eq (tgt := 60) D_Rg_isSameFont_55 rfl (fun c8 => ?_) (fun c8 => ?_)
                · refine xr_iconst (v := 0) D_Rg_isSameFont_60 rfl ?_
                  refine xr_istore D_Rg_isSameFont_61 (by decide) ?_
                  have r1 := gat_r (I 2201) (A 23) (p + 12)
                  have r2 := gat_r (I 2201) (A 23) (p + 13)
                  have q0 : 0 ≤ ((gat (I 2201) (A 23)) (p + 12) + (gat (I 2201) (A 23)) (p + 13)) := by grind
                  have q1 : ((gat (I 2201) (A 23)) (p + 12) + (gat (I 2201) (A 23)) (p + 13)) ≤ 510 := by grind
                  have q2 := i_le.mp q0
                  rw [z0] at q2
                  refine xr_mono (l_Rg_same q0 q1 ((gat (I 2201) (A 23)) (p + 12) + (gat (I 2201) (A 23)) (p + 13)).toInt.toNat 0 (by omega)) ?_
                  rintro _ rfl
                  exact ob_iff (by grind)
                · refine xr_iconst (v := 0) D_Rg_isSameFont_58 rfl ?_
                  refine xr_zret rfl (by first | rfl | exact nar_b2 | exact nar_z hz) D_Rg_isSameFont_59 ?_
                  exact ob_f (by grind)
              · exact absurd (show (3 : Int32) ≤ (3 : Int32) by decide) c7
            · refine xr_iconst (v := 0) D_Rg_isSameFont_32 rfl ?_
              refine xr_zret rfl (by first | rfl | exact nar_b2 | exact nar_z hz) D_Rg_isSameFont_33 ?_
              exact ob_f (by grind)
        · refine xr_iconst (v := 0) D_Rg_isSameFont_32 rfl ?_
          refine xr_zret rfl (by first | rfl | exact nar_b2 | exact nar_z hz) D_Rg_isSameFont_33 ?_
          exact ob_f (by grind)
    · refine xr_iconst (v := 0) D_Rg_isSameFont_32 rfl ?_
      refine xr_zret rfl (by first | rfl | exact nar_b2 | exact nar_z hz) D_Rg_isSameFont_33 ?_
      exact ob_f (by grind)

theorem l_Rg_af {L : mL} {x p to n : Int32} {G : Nat → Int32} (h0 : 0 ≤ n) (h1 : n ≤ 510) : ∀ (t j : Nat) (I : mI) (A : mA) (N : List Int32), (j : Int) + t = n.toInt → (∀ j : Nat, (gat (I 2201) (A 23)) (p + 14 + Int32.ofNat j) = G j) → isB (I 2901) (A 30) N → xr m_Rg_addFont none (2, 45) 110 [some (.ref 24), some (.int x), some (.ref 22), some (.int p), some (.int to), some (.int n), some (.int (Int32.ofNat j))] [] (pic I A L) 0 0 (fun o => ∃ I' A', o = (.inl (some (.int 1)), pic (upd I' 2407 (I' 2407 + 1)) A' L) ∧ frI [2901] I I' ∧ frA [30] A A' ∧ isB (I' 2901) (A' 30) (app N (nmL G t j))) := by
  have g1 := i_le.mp h1
  have e510 : (510 : Int32).toInt = 510 := rfl
  intro t
  induction t with
  | zero =>
    intro j I A N hj hG hB
    refine xr_iload D_Rg_addFont_110 rfl ?_
    refine xr_iload D_Rg_addFont_112 rfl ?_
    refine xr_icmp_ge (tgt := 141) D_Rg_addFont_114 rfl (fun c1 => ?_) (fun c1 => ?_)
    · refine xr_aload_n D_Rg_addFont_141 rfl rfl ?_
      refine xr_dup D_Rg_addFont_142 rfl ?_
      refine xr_getf F_Rg_42 D_Rg_addFont_143 rfl rfl ?_
      refine xr_iconst (v := 1) D_Rg_addFont_146 rfl ?_
      refine xr_iadd D_Rg_addFont_147 ?_
      refine xr_putf F_Rg_42 FT_Rg FN_Rg_7 D_Rg_addFont_148 rfl (Nat.le_of_ble_eq_true rfl) rfl rfl (pset_24_7) ?_
      refine xr_iconst (v := 1) D_Rg_addFont_151 rfl ?_
      refine xr_zret rfl (by first | rfl | exact nar_b2 | exact nar_z hz) D_Rg_addFont_152 ?_
      exact ⟨I, A, rfl, frI_rf, frA_rf, by rw [show nmL G 0 j = [] from rfl, app_nil hB.2.1]; exact hB⟩
    · exact absurd (i_le.mpr (by rw [i_of (by omega)]; omega)) c1
  | succ t ih =>
    intro j I A N hj hG hB
    refine xr_iload D_Rg_addFont_110 rfl ?_
    refine xr_iload D_Rg_addFont_112 rfl ?_
    refine xr_icmp_ge (tgt := 141) D_Rg_addFont_114 rfl (fun c1 => ?_) (fun c1 => ?_)
    · exact absurd c1 (fun q => by rw [i_le, i_of (by omega)] at q; omega)
    · refine xr_aload_n D_Rg_addFont_117 rfl rfl ?_
      refine xr_getf F_Rg_27 D_Rg_addFont_118 rfl rfl ?_
      refine xr_aload_n D_Rg_addFont_121 rfl rfl ?_
      refine xr_iload_n D_Rg_addFont_122 rfl rfl ?_
      refine xr_bipush (v := 14) D_Rg_addFont_123 rfl ?_
      refine xr_iadd D_Rg_addFont_125 ?_
      refine xr_iload D_Rg_addFont_126 rfl ?_
      refine xr_iadd D_Rg_addFont_128 ?_
      refine xr_cVx (as := [_]) (c_By_at_22) (L_Rg_61) (CD_By_at) CI_By D_Rg_addFont_129 rfl rfl (by decide) (Nat.le_of_ble_eq_true rfl) (Nat.le_of_eq (Nat.zero_add _)) (Nat.le_of_eq (Nat.zero_add _)) pic_len ?_
      rintro _ rfl
      refine ⟨_, _, rfl, rfl, ?_⟩
      refine xr_cVv (as := [_]) (c_By_add_29 hB) (L_Rg_77) (CD_By_add) CI_By D_Rg_addFont_132 rfl rfl (by decide) (Nat.le_of_ble_eq_true rfl) (Nat.le_of_eq (Nat.zero_add _)) (Nat.le_of_eq (Nat.zero_add _)) pic_len ?_
      rintro _ ⟨I2, A2, rfl, hI2, hA2, hB2⟩
      refine ⟨_, rfl, rfl, ?_⟩
      refine xr_iinc (c9 := 1) D_Rg_addFont_135 rfl rfl (by decide) ?_
      refine xr_goto (tgt := 110) D_Rg_addFont_138 rfl ?_
      rw [io_succ]
      refine xr_mono (ih (j + 1) _ _ _ (by omega) (fun z => by rw [hI2 2201 (by decide), hA2 23 (by decide)]; exact hG z) hB2) ?_
      rintro _ ⟨I9, A9, rfl, k1, k2, k3⟩
      rw [app_app, hG j] at k3
      exact ⟨I9, A9, rfl, frI_tr hI2 k1 (fun _ h => h) (fun _ h => h), frA_tr hA2 k2 (fun _ h => h) (fun _ h => h), k3⟩

set_option maxHeartbeats 1000000 in
theorem c_Rg_addFont_24 {I : mI} {A : mA} {L : mL} {x p : Int32} {N : List Int32} (hB : isB (I 2901) (A 30) N) : xm m_Rg_addFont (2, 45) [.ref 24, .int x, .ref 22, .int p] (pic I A L) 0 0 (fun o => (¬ (0 ≤ I 2407 ∧ I 2407 < 256) ∧ o = (.inl (some (.int 0)), pic I A L)) ∨ ((0 ≤ I 2407 ∧ I 2407 < 256) ∧ ∃ I' A', o = (.inl (some (.int 1)), pic (upd I' 2407 (I' 2407 + 1)) A' L) ∧ frI [2901] I I' ∧ frA [30] (upA (upA (upA (upA (upA (upA A 27 (I 2407 * 5).toNatClampNeg x) 27 (I 2407 * 5 + 1 + 0).toNatClampNeg (nrd (gat (I 2201) (A 23)) (p + 4 * 0) 4)) 27 (I 2407 * 5 + 1 + 1).toNatClampNeg (nrd (gat (I 2201) (A 23)) (p + 4 * 1) 4)) 27 (I 2407 * 5 + 1 + 2).toNatClampNeg (nrd (gat (I 2201) (A 23)) (p + 4 * 2) 4)) 27 (I 2407 * 5 + 4).toNatClampNeg ((gat (I 2201) (A 23)) (p + 12) + (gat (I 2201) (A 23)) (p + 13))) 28 (I 2407).toNatClampNeg (I 2901)) A' ∧ isB (I' 2901) (A' 30) (app N (nmL (fun j => (gat (I 2201) (A 23)) (p + 14 + Int32.ofNat j)) ((gat (I 2201) (A 23)) (p + 12) + (gat (I 2201) (A 23)) (p + 13)).toInt.toNat 0)))) := by
  refine xm_of rfl (by decide) (Nat.le_of_ble_eq_true rfl) ?_
  refine xr_aload_n D_Rg_addFont_0 rfl rfl ?_
  refine xr_getf F_Rg_42 D_Rg_addFont_1 rfl rfl ?_
  refine xr_if_lt (tgt := 17) D_Rg_addFont_4 rfl (fun c1 => ?_) (fun c1 => ?_)
  · refine xr_iconst (v := 0) D_Rg_addFont_17 rfl ?_
    refine xr_zret rfl (by first | rfl | exact nar_b2 | exact nar_z hz) D_Rg_addFont_18 ?_
    exact Or.inl ⟨by grind, rfl⟩
  · refine xr_aload_n D_Rg_addFont_7 rfl rfl ?_
    refine xr_getf F_Rg_42 D_Rg_addFont_8 rfl rfl ?_
    refine xr_sipush (v := 256) D_Rg_addFont_11 rfl ?_
    refine xr_icmp_lt (tgt := 19) D_Rg_addFont_14 rfl (fun c2 => ?_) (fun c2 => ?_)
    · refine xr_aload_n D_Rg_addFont_19 rfl rfl ?_
      refine xr_getf F_Rg_42 D_Rg_addFont_20 rfl rfl ?_
      refine xr_iconst (v := 5) D_Rg_addFont_23 rfl ?_
      refine xr_imul D_Rg_addFont_24 ?_
      refine xr_istore D_Rg_addFont_25 (by decide) ?_
      refine xr_aload_n D_Rg_addFont_27 rfl rfl ?_
      refine xr_iload_n D_Rg_addFont_28 rfl rfl ?_
      refine xr_cSx (as := [_, _]) (c_Rg_nameLengthAt) (L_Rg_69) (CD_Rg_nameLengthAt) D_Rg_addFont_29 rfl (by decide) (Nat.le_of_ble_eq_true rfl) (Nat.le_of_eq (Nat.zero_add _)) (Nat.le_of_eq (Nat.zero_add _)) pic_len ?_
      rintro _ rfl
      refine ⟨_, _, rfl, rfl, ?_⟩
      refine xr_istore D_Rg_addFont_32 (by decide) ?_
      refine xr_aload_n D_Rg_addFont_34 rfl rfl ?_
      refine xr_getf F_Rg_18 D_Rg_addFont_35 rfl rfl ?_
      refine xr_iload D_Rg_addFont_38 rfl ?_
      refine xr_iload_n D_Rg_addFont_40 rfl rfl ?_
      refine xr_iast D_Rg_addFont_41 rfl (by exact i_in2 1280 (by grind) (by grind) rfl) (aset_27) ?_
      refine xr_iconst (v := 0) D_Rg_addFont_42 rfl ?_
      refine xr_istore D_Rg_addFont_43 (by decide) ?_
      refine xr_iload D_Rg_addFont_45 rfl ?_
      refine xr_iconst (v := 3) D_Rg_addFont_47 rfl ?_
      refine xr_icmp_ge (tgt := 80) D_Rg_addFont_48 rfl (fun c3 => ?_) (fun c3 => ?_)
      · exact absurd (show (3 : Int32) ≤ (0 : Int32) from c3) (by decide)
      · refine xr_aload_n D_Rg_addFont_51 rfl rfl ?_
        refine xr_getf F_Rg_18 D_Rg_addFont_52 rfl rfl ?_
        refine xr_iload D_Rg_addFont_55 rfl ?_
        refine xr_iconst (v := 1) D_Rg_addFont_57 rfl ?_
        refine xr_iadd D_Rg_addFont_58 ?_
        refine xr_iload D_Rg_addFont_59 rfl ?_
        refine xr_iadd D_Rg_addFont_61 ?_
        refine xr_aload_n D_Rg_addFont_62 rfl rfl ?_
        refine xr_iload_n D_Rg_addFont_63 rfl rfl ?_
        refine xr_iconst (v := 4) D_Rg_addFont_64 rfl ?_
        refine xr_iload D_Rg_addFont_65 rfl ?_
        refine xr_imul D_Rg_addFont_67 ?_
        refine xr_iadd D_Rg_addFont_68 ?_
        refine xr_iconst (v := 4) D_Rg_addFont_69 rfl ?_
        refine xr_cVx (as := [_, _]) (c_By_number_22 4 rfl (by decide)) (L_Rg_65) (CD_By_number) CI_By D_Rg_addFont_70 rfl rfl (by decide) (Nat.le_of_ble_eq_true rfl) (Nat.le_of_eq (Nat.zero_add _)) (Nat.le_of_eq (Nat.zero_add _)) pic_len ?_
        rintro _ rfl
        refine ⟨_, _, rfl, rfl, ?_⟩
        refine xr_iast D_Rg_addFont_73 rfl (by exact i_in2 1280 (by grind) (by grind) rfl) (aset_27) ?_
        refine xr_iinc2 (v9 := 1) (c9 := 1) D_Rg_addFont_74 rfl rfl rfl (by decide) ?_
        refine xr_goto (tgt := 45) D_Rg_addFont_77 rfl ?_
        refine xr_iload D_Rg_addFont_45 rfl ?_
        refine xr_iconst (v := 3) D_Rg_addFont_47 rfl ?_
        refine xr_icmp_ge (tgt := 80) D_Rg_addFont_48 rfl (fun c4 => ?_) (fun c4 => ?_)
        · exact absurd (show (3 : Int32) ≤ (1 : Int32) from c4) (by decide)
        · refine xr_aload_n D_Rg_addFont_51 rfl rfl ?_
          refine xr_getf F_Rg_18 D_Rg_addFont_52 rfl rfl ?_
          refine xr_iload D_Rg_addFont_55 rfl ?_
          refine xr_iconst (v := 1) D_Rg_addFont_57 rfl ?_
          refine xr_iadd D_Rg_addFont_58 ?_
          refine xr_iload D_Rg_addFont_59 rfl ?_
          refine xr_iadd D_Rg_addFont_61 ?_
          refine xr_aload_n D_Rg_addFont_62 rfl rfl ?_
          refine xr_iload_n D_Rg_addFont_63 rfl rfl ?_
          refine xr_iconst (v := 4) D_Rg_addFont_64 rfl ?_
          refine xr_iload D_Rg_addFont_65 rfl ?_
          refine xr_imul D_Rg_addFont_67 ?_
          refine xr_iadd D_Rg_addFont_68 ?_
          refine xr_iconst (v := 4) D_Rg_addFont_69 rfl ?_
          refine xr_cVx (as := [_, _]) (c_By_number_22 4 rfl (by decide)) (L_Rg_65) (CD_By_number) CI_By D_Rg_addFont_70 rfl rfl (by decide) (Nat.le_of_ble_eq_true rfl) (Nat.le_of_eq (Nat.zero_add _)) (Nat.le_of_eq (Nat.zero_add _)) pic_len ?_
          rintro _ rfl
          refine ⟨_, _, rfl, rfl, ?_⟩
          refine xr_iast D_Rg_addFont_73 rfl (by exact i_in2 1280 (by grind) (by grind) rfl) (aset_27) ?_
          refine xr_iinc2 (v9 := 2) (c9 := 1) D_Rg_addFont_74 rfl rfl rfl (by decide) ?_
          refine xr_goto (tgt := 45) D_Rg_addFont_77 rfl ?_
          refine xr_iload D_Rg_addFont_45 rfl ?_
          refine xr_iconst (v := 3) D_Rg_addFont_47 rfl ?_
          refine xr_icmp_ge (tgt := 80) D_Rg_addFont_48 rfl (fun c5 => ?_) (fun c5 => ?_)
          · exact absurd (show (3 : Int32) ≤ (2 : Int32) from c5) (by decide)
          · refine xr_aload_n D_Rg_addFont_51 rfl rfl ?_
            refine xr_getf F_Rg_18 D_Rg_addFont_52 rfl rfl ?_
            refine xr_iload D_Rg_addFont_55 rfl ?_
            refine xr_iconst (v := 1) D_Rg_addFont_57 rfl ?_
            refine xr_iadd D_Rg_addFont_58 ?_
            refine xr_iload D_Rg_addFont_59 rfl ?_
            refine xr_iadd D_Rg_addFont_61 ?_
            refine xr_aload_n D_Rg_addFont_62 rfl rfl ?_
            refine xr_iload_n D_Rg_addFont_63 rfl rfl ?_
            refine xr_iconst (v := 4) D_Rg_addFont_64 rfl ?_
            refine xr_iload D_Rg_addFont_65 rfl ?_
            refine xr_imul D_Rg_addFont_67 ?_
            refine xr_iadd D_Rg_addFont_68 ?_
            refine xr_iconst (v := 4) D_Rg_addFont_69 rfl ?_
            refine xr_cVx (as := [_, _]) (c_By_number_22 4 rfl (by decide)) (L_Rg_65) (CD_By_number) CI_By D_Rg_addFont_70 rfl rfl (by decide) (Nat.le_of_ble_eq_true rfl) (Nat.le_of_eq (Nat.zero_add _)) (Nat.le_of_eq (Nat.zero_add _)) pic_len ?_
            rintro _ rfl
            refine ⟨_, _, rfl, rfl, ?_⟩
            refine xr_iast D_Rg_addFont_73 rfl (by exact i_in2 1280 (by grind) (by grind) rfl) (aset_27) ?_
            refine xr_iinc2 (v9 := 3) (c9 := 1) D_Rg_addFont_74 rfl rfl rfl (by decide) ?_
            refine xr_goto (tgt := 45) D_Rg_addFont_77 rfl ?_
            refine xr_iload D_Rg_addFont_45 rfl ?_
            refine xr_iconst (v := 3) D_Rg_addFont_47 rfl ?_
            refine xr_icmp_ge (tgt := 80) D_Rg_addFont_48 rfl (fun c6 => ?_) (fun c6 => ?_)
            · refine xr_aload_n D_Rg_addFont_80 rfl rfl ?_
              refine xr_getf F_Rg_18 D_Rg_addFont_81 rfl rfl ?_
              refine xr_iload D_Rg_addFont_84 rfl ?_
              refine xr_iconst (v := 4) D_Rg_addFont_86 rfl ?_
              refine xr_iadd D_Rg_addFont_87 ?_
              refine xr_iload D_Rg_addFont_88 rfl ?_
              refine xr_iast D_Rg_addFont_90 rfl (by exact i_in2 1280 (by grind) (by grind) rfl) (aset_27) ?_
              refine xr_aload_n D_Rg_addFont_91 rfl rfl ?_
              refine xr_getf F_Rg_21 D_Rg_addFont_92 rfl rfl ?_
              refine xr_aload_n D_Rg_addFont_95 rfl rfl ?_
              refine xr_getf F_Rg_42 D_Rg_addFont_96 rfl rfl ?_
              refine xr_aload_n D_Rg_addFont_99 rfl rfl ?_
              refine xr_getf F_Rg_27 D_Rg_addFont_100 rfl rfl ?_
              refine xr_cVx (as := []) (c_By_length_29) (L_Rg_73) (CD_By_length) CI_By D_Rg_addFont_103 rfl rfl (by decide) (Nat.le_of_ble_eq_true rfl) (Nat.le_of_eq (Nat.zero_add _)) (Nat.le_of_eq (Nat.zero_add _)) pic_len ?_
              rintro _ rfl
              refine ⟨_, _, rfl, rfl, ?_⟩
              refine xr_iast D_Rg_addFont_106 rfl (by exact i_in2 256 (by grind) (by grind) rfl) (aset_28) ?_
              refine xr_iconst (v := 0) D_Rg_addFont_107 rfl ?_
              refine xr_istore D_Rg_addFont_108 (by decide) ?_
              have r1 := gat_r (I 2201) (A 23) (p + 12)
              have r2 := gat_r (I 2201) (A 23) (p + 13)
              have q0 : 0 ≤ ((gat (I 2201) (A 23)) (p + 12) + (gat (I 2201) (A 23)) (p + 13)) := by grind
              have q1 : ((gat (I 2201) (A 23)) (p + 12) + (gat (I 2201) (A 23)) (p + 13)) ≤ 510 := by grind
              have q2 := i_le.mp q0
              rw [z0] at q2
              refine xr_mono (l_Rg_af (G := (fun j => (gat (I 2201) (A 23)) (p + 14 + Int32.ofNat j))) q0 q1 ((gat (I 2201) (A 23)) (p + 12) + (gat (I 2201) (A 23)) (p + 13)).toInt.toNat 0 I (upA (upA (upA (upA (upA (upA A 27 (I 2407 * 5).toNatClampNeg x) 27 (I 2407 * 5 + 1 + 0).toNatClampNeg (nrd (gat (I 2201) (A 23)) (p + 4 * 0) 4)) 27 (I 2407 * 5 + 1 + 1).toNatClampNeg (nrd (gat (I 2201) (A 23)) (p + 4 * 1) 4)) 27 (I 2407 * 5 + 1 + 2).toNatClampNeg (nrd (gat (I 2201) (A 23)) (p + 4 * 2) 4)) 27 (I 2407 * 5 + 4).toNatClampNeg ((gat (I 2201) (A 23)) (p + 12) + (gat (I 2201) (A 23)) (p + 13))) 28 (I 2407).toNatClampNeg (I 2901)) N (by omega) (fun z => rfl) hB) ?_
              exact fun o ho => Or.inr ⟨by grind, ho⟩
            · exact absurd (show (3 : Int32) ≤ (3 : Int32) by decide) c6
    · refine xr_iconst (v := 0) D_Rg_addFont_17 rfl ?_
      refine xr_zret rfl (by first | rfl | exact nar_b2 | exact nar_z hz) D_Rg_addFont_18 ?_
      exact Or.inl ⟨by grind, rfl⟩
