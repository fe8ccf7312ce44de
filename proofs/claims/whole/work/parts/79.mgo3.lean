theorem q_44 {s : Int32} (h : ¬ s < 4) (h2 : s ≤ 4) : s = 4 := by grind
set_option maxHeartbeats 1000000 in
theorem l_Mo_g1 {L : mL} {r : Int32} {Ic' : mI} {Ac' : mA} : ∀ (t : Nat) (Ic I : mI) (Ac A : mA) (x1 x2 x3 : Option Value), RR Ic Ac I A (I 3444).toInt → I 3443 < 4 → (I 3445).toInt ≤ (I 3444).toInt + t → rdC t Ic Ac r Ic' Ac' → xr m_Mo_goThrough none (6, 133) 15 [some (.ref 34), x1, x2, x3] [] (pic I A L) 0 0 (gtQ I A L r Ic' Ac') := by
  intro t
  induction t with
  | zero =>
    intro Ic I Ac A x1 x2 x3 R h4 hfu hr
    obtain ⟨rfl, rfl, hr⟩ := hr
    rw [R.2.2.2.2.2.2.1.2.2.2.2.2 h4, if_pos (by decide)] at hr
    refine xr_aload_n D_Mo_goThrough_15 rfl rfl ?_
    refine xr_getf F_Mo_232 D_Mo_goThrough_16 rfl rfl ?_
    refine xr_iconst (v := 4) D_Mo_goThrough_19 rfl ?_
    refine xr_icmp_ge (tgt := 137) D_Mo_goThrough_20 rfl (fun c1 => ?_) (fun c1 => ?_)
    · exact absurd h4 (Int32.not_lt.mpr c1)
    · refine xr_aload_n D_Mo_goThrough_23 rfl rfl ?_
      refine xr_getf F_Mo_203 D_Mo_goThrough_24 rfl rfl ?_
      refine xr_aload_n D_Mo_goThrough_27 rfl rfl ?_
      refine xr_getf F_Mo_206 D_Mo_goThrough_28 rfl rfl ?_
      refine xr_icmp_lt (tgt := 43) D_Mo_goThrough_31 rfl (fun c2 => ?_) (fun c2 => ?_)
      · exact absurd (i_lt.mp c2) (by omega)
      · refine xr_iconst (v := 2) D_Mo_goThrough_34 rfl ?_
        refine xr_aload_n D_Mo_goThrough_35 rfl rfl ?_
        refine xr_getf F_Mo_206 D_Mo_goThrough_36 rfl rfl ?_
        refine xr_cSx (as := [_, _]) (c_Mo_fault) (L_Mo_326) (CD_Mo_fault) D_Mo_goThrough_39 rfl (by decide) (Nat.le_of_ble_eq_true rfl) (Nat.le_of_eq (Nat.zero_add _)) (Nat.le_of_eq (Nat.zero_add _)) pic_len ?_
        rintro _ rfl
        refine ⟨_, _, rfl, pic_leq, ?_⟩
        refine xr_iret rfl D_Mo_goThrough_42 ?_
        have q := a_70 R
        exact ⟨_, I, A, rfl, frI_rf, frA_rf, Or.inl ⟨by rw [hr]; decide, by rw [hr, at_end R c2], v_pos (by decide) (by decide) q.2.2.1 q.2.2.2⟩⟩
  | succ t ih =>
    intro Ic I Ac A x1 x2 x3 R h4 hfu hr
    refine xr_aload_n D_Mo_goThrough_15 rfl rfl ?_
    refine xr_getf F_Mo_232 D_Mo_goThrough_16 rfl rfl ?_
    refine xr_iconst (v := 4) D_Mo_goThrough_19 rfl ?_
    refine xr_icmp_ge (tgt := 137) D_Mo_goThrough_20 rfl (fun c1 => ?_) (fun c1 => ?_)
    · exact absurd h4 (Int32.not_lt.mpr c1)
    · refine xr_aload_n D_Mo_goThrough_23 rfl rfl ?_
      refine xr_getf F_Mo_203 D_Mo_goThrough_24 rfl rfl ?_
      refine xr_aload_n D_Mo_goThrough_27 rfl rfl ?_
      refine xr_getf F_Mo_206 D_Mo_goThrough_28 rfl rfl ?_
      refine xr_icmp_lt (tgt := 43) D_Mo_goThrough_31 rfl (fun c2 => ?_) (fun c2 => ?_)
      · have hlt : I 3444 < I 3445 := c2
        have hlt2 : Ic 3107 < Ic 2201 := by rw [R.2.1.1, R.1.1]; exact hlt
        refine xr_aload_n D_Mo_goThrough_43 rfl rfl ?_
        refine xr_aload_n D_Mo_goThrough_44 rfl rfl ?_
        refine xr_getf F_Mo_203 D_Mo_goThrough_45 rfl rfl ?_
        refine xr_cVx (as := [_]) (c_Mo_byteAt_34 (a_70 R).1 (by have q1 := (a_70 R).2.2.2; grind)) (L_Mo_200) (CD_Mo_byteAt) CI_Mo D_Mo_goThrough_48 rfl rfl (by decide) (Nat.le_of_ble_eq_true rfl) (Nat.le_of_eq (Nat.zero_add _)) (Nat.le_of_eq (Nat.zero_add _)) pic_len ?_
        rintro _ rfl
        refine ⟨_, _, rfl, pic_leq, ?_⟩
        refine xr_istore_n D_Mo_goThrough_51 rfl (by decide) ?_
        refine xr_aload_n D_Mo_goThrough_52 rfl rfl ?_
        refine xr_cVx (as := []) (c_Mo_length_34 (a_70 R).1 hlt R.1.2.1) (L_Mo_329) (CD_Mo_length) CI_Mo D_Mo_goThrough_53 rfl rfl (by decide) (Nat.le_of_ble_eq_true rfl) (Nat.le_of_eq (Nat.zero_add _)) (Nat.le_of_eq (Nat.zero_add _)) pic_len ?_
        rintro _ rfl
        refine ⟨_, _, rfl, pic_leq, ?_⟩
        rw [ln_bh R.1 rfl R.2.1.2.1 hlt rfl]
        have hk9 := nbF_k (c := (gmt (A 54) (I 3444)))
        have cde := cd_e R hlt
        generalize hbd : (bhF (gat (Ic 2201) (Ac 23)) (I 3445) (I 3444) (gmt (A 54) (I 3444)) (nbF (gmt (A 54) (I 3444))) (nbF (gmt (A 54) (I 3444))).toInt.toNat) = b at cde ⊢
        refine xr_istore_n D_Mo_goThrough_56 rfl (by decide) ?_
        refine xr_iload_n D_Mo_goThrough_57 rfl rfl ?_
        refine xr_if_ge (tgt := 70) D_Mo_goThrough_58 rfl (fun c3 => ?_) (fun c3 => ?_)
        · have hnb : ¬ b < 0 := Int32.not_lt.mpr c3
          refine xr_aload_n D_Mo_goThrough_70 rfl rfl ?_
          refine xr_iload_n D_Mo_goThrough_71 rfl rfl ?_
          refine xr_cVx (as := [_]) (m_may R hlt rfl hk9.1 hbd hnb) (L_Mo_332) (CD_Mo_mayStand) CI_Mo D_Mo_goThrough_72 rfl rfl (by decide) (Nat.le_of_ble_eq_true rfl) (Nat.le_of_eq (Nat.zero_add _)) (Nat.le_of_eq (Nat.zero_add _)) pic_len ?_
          rintro _ rfl
          refine ⟨_, _, rfl, pic_leq, ?_⟩
          refine xr_if_ne (tgt := 87) D_Mo_goThrough_75 rfl (fun c4 => ?_) (fun c4 => ?_)
          · rw [b2_n] at c4
            refine xr_aload_n D_Mo_goThrough_87 rfl rfl ?_
            refine xr_getf F_Mo_232 D_Mo_goThrough_88 rfl rfl ?_
            refine xr_iconst (v := 2) D_Mo_goThrough_91 rfl ?_
            refine xr_icmp_ne (tgt := 103) D_Mo_goThrough_92 rfl (fun c5 => ?_) (fun c5 => ?_)
            · refine xr_aload_n D_Mo_goThrough_103 rfl rfl ?_
              refine xr_iload_n D_Mo_goThrough_104 rfl rfl ?_
              refine xr_cVx (as := [_]) (m_outside R hlt rfl hk9.1 hbd hnb) (L_Mo_338) (CD_Mo_outside) CI_Mo D_Mo_goThrough_105 rfl rfl (by decide) (Nat.le_of_ble_eq_true rfl) (Nat.le_of_eq (Nat.zero_add _)) (Nat.le_of_eq (Nat.zero_add _)) pic_len ?_
              rintro _ ⟨w, I2, A2, rfl, ht⟩
              refine ⟨_, _, rfl, pic_leq, ?_⟩
              refine xr_istore_n D_Mo_goThrough_108 rfl (by decide) ?_
              refine xr_iload_n D_Mo_goThrough_109 rfl rfl ?_
              refine xr_if_le (tgt := 122) D_Mo_goThrough_110 rfl (fun c6 => ?_) (fun c6 => ?_)
              · refine xr_aload_n D_Mo_goThrough_122 rfl rfl ?_
                refine xr_aload_n D_Mo_goThrough_123 rfl rfl ?_
                refine xr_getf F_Mo_203 D_Mo_goThrough_124 rfl rfl ?_
                refine xr_iconst (v := 1) D_Mo_goThrough_127 rfl ?_
                refine xr_iadd D_Mo_goThrough_128 ?_
                refine xr_iload_n D_Mo_goThrough_129 rfl rfl ?_
                refine xr_iadd D_Mo_goThrough_130 ?_
                refine xr_putf F_Mo_203 FT_Mo FN_Mo_44 D_Mo_goThrough_131 rfl (Nat.le_of_ble_eq_true rfl) rfl rfl (pset_34_44) ?_
                refine xr_goto (tgt := 15) D_Mo_goThrough_134 rfl ?_
                have hcs := (ms_cs R hlt rfl hk9.1 hbd hnb h4).mp c4
                rw [rdC_s, cde.1, cde.2.1, cde.2.2.1, cde.2.2.2] at hr
                have fm := fm_outside ht
                have fs := fs_outside ht
                have zz : ∀ (f : Int32) (Ic2 : mI) (Ac2 : mA) (N : List Int32), isB (Ic 2901) (Ac 30) N → t_obey (upd (upd Ic 3108 (gmt (A 54) (I 3444))) 3109 (nbF (gmt (A 54) (I 3444)))) Ac (nbF (gmt (A 54) (I 3444))).toInt.toNat N f Ic2 Ac2 → _ := fun f Ic2 Ac2 N hN ho => stp (w := w) (I2 := I2) (A2 := A2) R hlt h4 rfl hk9.1 hbd hnb hcs hN ho (Or.inr ⟨c5, ht⟩)
                rcases hr with ⟨q, -⟩ | ⟨-, q, -⟩ | ⟨-, -, q, -⟩ | ⟨-, -, -, f, Ic2, Ac2, N, hN, ho, hr⟩
                · exact absurd hlt2 q
                · exact absurd q hnb
                · exact absurd hcs q
                have z := zz f Ic2 Ac2 N hN ho
                have hw0 : w = 0 := fm.2.2.resolve_right (fun q => absurd q.1 (Int32.not_lt.mpr c6))
                have hf0 : f = 0 := z.1.symm.trans hw0
                obtain ⟨y1, y2, y3, y4, y5⟩ := z.2 hf0
                have hr := (hr.resolve_left (fun q => q.1 hf0)).2
                have ft := ft_all R hlt rfl hk9.1 hbd hnb
                have hb0 : 0 ≤ b := c3
                have gb := i_le.mp hb0
                rw [z0] at gb
                have RA := adv (b := b) y1 hb0 (by rw [y3, y4]; exact ft.2.1) y2 (by rw [y3]; omega)
                have ee : (I2 3444 + 1 + b).toInt = (I 3444).toInt + 1 + b.toInt := by rw [y3, i_add (by rw [ft.2.2.2.2.2.2.2]; omega) (by rw [ft.2.2.2.2.2.2.2]; omega), ft.2.2.2.2.2.2.2]
                have hfu2 : (I2 3445).toInt ≤ (I2 3444 + 1 + b).toInt + t := by rw [y4, ee]; omega
                by_cases h4n : I2 3443 < 4
                · exact xr_mono (ih _ (upd I2 3444 (I2 3444 + 1 + b)) _ A2 _ _ _ RA h4n hfu2 hr) (gtQ_tr (frI_u fm.1 (by decide)) fm.2.1)
                · have h44 : I2 3443 = 4 := q_44 h4n RA.2.1.2.2.2.2.2.1
                  refine xr_aload_n D_Mo_goThrough_15 rfl rfl ?_
                  refine xr_getf F_Mo_232 D_Mo_goThrough_16 rfl rfl ?_
                  refine xr_iconst (v := 4) D_Mo_goThrough_19 rfl ?_
                  refine xr_icmp_ge (tgt := 137) D_Mo_goThrough_20 rfl (fun c7 => ?_) (fun c7 => ?_)
                  · refine xr_iconst (v := 0) D_Mo_goThrough_137 rfl ?_
                    refine xr_istore_n D_Mo_goThrough_138 rfl (by decide) ?_
                    exact xr_mono (l_Mo_g2 t _ (upd I2 3444 (I2 3444 + 1 + b)) _ A2 0 _ _ RA h44 (y5 h44) hfu2 hr) (gtQ_tr (frI_u fm.1 (by decide)) fm.2.1)
                  · exact absurd (show (4 : Int32) ≤ I2 3443 by rw [h44]; decide) c7
              · refine xr_iload_n D_Mo_goThrough_113 rfl rfl ?_
                refine xr_aload_n D_Mo_goThrough_114 rfl rfl ?_
                refine xr_getf F_Mo_203 D_Mo_goThrough_115 rfl rfl ?_
                refine xr_cSx (as := [_, _]) (c_Mo_fault) (L_Mo_326) (CD_Mo_fault) D_Mo_goThrough_118 rfl (by decide) (Nat.le_of_ble_eq_true rfl) (Nat.le_of_eq (Nat.zero_add _)) (Nat.le_of_eq (Nat.zero_add _)) pic_len ?_
                rintro _ rfl
                refine ⟨_, _, rfl, pic_leq, ?_⟩
                refine xr_iret rfl D_Mo_goThrough_121 ?_
                have q7 := a_70 R
                have hcs := (ms_cs R hlt rfl hk9.1 hbd hnb h4).mp c4
                rw [rdC_s, cde.1, cde.2.1, cde.2.2.1, cde.2.2.2] at hr
                have fm := fm_outside ht
                have fs := fs_outside ht
                have zz : ∀ (f : Int32) (Ic2 : mI) (Ac2 : mA) (N : List Int32), isB (Ic 2901) (Ac 30) N → t_obey (upd (upd Ic 3108 (gmt (A 54) (I 3444))) 3109 (nbF (gmt (A 54) (I 3444)))) Ac (nbF (gmt (A 54) (I 3444))).toInt.toNat N f Ic2 Ac2 → _ := fun f Ic2 Ac2 N hN ho => stp (w := w) (I2 := I2) (A2 := A2) R hlt h4 rfl hk9.1 hbd hnb hcs hN ho (Or.inr ⟨c5, ht⟩)
                rcases hr with ⟨q, -⟩ | ⟨-, q, -⟩ | ⟨-, -, q, -⟩ | ⟨-, -, -, f, Ic2, Ac2, N, hN, ho, hr⟩
                · exact absurd hlt2 q
                · exact absurd q hnb
                · exact absurd hcs q
                have z := zz f Ic2 Ac2 N hN ho
                · have hw : 0 < w := Int32.not_le.mp c6
                  have hf : ¬ f = 0 := by
                    rw [← z.1]
                    intro e
                    rw [e] at hw
                    exact absurd hw (by decide)
                  rcases hr with ⟨-, e1, e2, e3⟩ | ⟨q, -⟩
                  · have gt := gt_obey (I := upd (upd Ic 3108 (gmt (A 54) (I 3444))) 3109 (nbF (gmt (A 54) (I 3444)))) (show 0 ≤ Ic 2407 ∧ Ic 2407 ≤ 256 by rw [R.2.2.2.2.1.1]; exact ⟨R.2.2.2.2.1.2.1, R.2.2.2.2.1.2.2.1⟩) hN ho
                    have ep : Ic' 3107 = I 3444 := by
                      rw [e2]
                      exact (gt.1 3107 (by decide)).trans R.2.1.1
                    have hw9 : w ≤ 9 := (fm.2.2.resolve_left (fun q => by rw [q] at hw; exact absurd hw (by decide))).2
                    refine ⟨_, I2, A2, rfl, fm.1, fm.2.1, Or.inl ⟨by rw [e1]; exact hf, by rw [e1, ep, ← z.1, fs.1], ?_⟩⟩
                    rw [fs.1]
                    exact v_pos hw hw9 q7.1 q7.2.1
                  · exact absurd q hf
            · refine xr_aload_n D_Mo_goThrough_95 rfl rfl ?_
              refine xr_iload_n D_Mo_goThrough_96 rfl rfl ?_
              refine xr_cVx (as := [_]) (m_within R hlt rfl hk9.1 hbd hnb c5) (L_Mo_335) (CD_Mo_within) CI_Mo D_Mo_goThrough_97 rfl rfl (by decide) (Nat.le_of_ble_eq_true rfl) (Nat.le_of_eq (Nat.zero_add _)) (Nat.le_of_eq (Nat.zero_add _)) pic_len ?_
              rintro _ ⟨w, I2, A2, rfl, ht⟩
              refine ⟨_, _, rfl, pic_leq, ?_⟩
              refine xr_goto (tgt := 108) D_Mo_goThrough_100 rfl ?_
              refine xr_istore_n D_Mo_goThrough_108 rfl (by decide) ?_
              refine xr_iload_n D_Mo_goThrough_109 rfl rfl ?_
              refine xr_if_le (tgt := 122) D_Mo_goThrough_110 rfl (fun c6 => ?_) (fun c6 => ?_)
              · refine xr_aload_n D_Mo_goThrough_122 rfl rfl ?_
                refine xr_aload_n D_Mo_goThrough_123 rfl rfl ?_
                refine xr_getf F_Mo_203 D_Mo_goThrough_124 rfl rfl ?_
                refine xr_iconst (v := 1) D_Mo_goThrough_127 rfl ?_
                refine xr_iadd D_Mo_goThrough_128 ?_
                refine xr_iload_n D_Mo_goThrough_129 rfl rfl ?_
                refine xr_iadd D_Mo_goThrough_130 ?_
                refine xr_putf F_Mo_203 FT_Mo FN_Mo_44 D_Mo_goThrough_131 rfl (Nat.le_of_ble_eq_true rfl) rfl rfl (pset_34_44) ?_
                refine xr_goto (tgt := 15) D_Mo_goThrough_134 rfl ?_
                have hcs := (ms_cs R hlt rfl hk9.1 hbd hnb h4).mp c4
                rw [rdC_s, cde.1, cde.2.1, cde.2.2.1, cde.2.2.2] at hr
                have fm := fm_within ht
                have fs := fs_within ht
                have zz : ∀ (f : Int32) (Ic2 : mI) (Ac2 : mA) (N : List Int32), isB (Ic 2901) (Ac 30) N → t_obey (upd (upd Ic 3108 (gmt (A 54) (I 3444))) 3109 (nbF (gmt (A 54) (I 3444)))) Ac (nbF (gmt (A 54) (I 3444))).toInt.toNat N f Ic2 Ac2 → _ := fun f Ic2 Ac2 N hN ho => stp (w := w) (I2 := I2) (A2 := A2) R hlt h4 rfl hk9.1 hbd hnb hcs hN ho (Or.inl ⟨c5, ht⟩)
                rcases hr with ⟨q, -⟩ | ⟨-, q, -⟩ | ⟨-, -, q, -⟩ | ⟨-, -, -, f, Ic2, Ac2, N, hN, ho, hr⟩
                · exact absurd hlt2 q
                · exact absurd q hnb
                · exact absurd hcs q
                have z := zz f Ic2 Ac2 N hN ho
                have hw0 : w = 0 := fm.2.2.resolve_right (fun q => absurd q.1 (Int32.not_lt.mpr c6))
                have hf0 : f = 0 := z.1.symm.trans hw0
                obtain ⟨y1, y2, y3, y4, y5⟩ := z.2 hf0
                have hr := (hr.resolve_left (fun q => q.1 hf0)).2
                have ft := ft_all R hlt rfl hk9.1 hbd hnb
                have hb0 : 0 ≤ b := c3
                have gb := i_le.mp hb0
                rw [z0] at gb
                have RA := adv (b := b) y1 hb0 (by rw [y3, y4]; exact ft.2.1) y2 (by rw [y3]; omega)
                have ee : (I2 3444 + 1 + b).toInt = (I 3444).toInt + 1 + b.toInt := by rw [y3, i_add (by rw [ft.2.2.2.2.2.2.2]; omega) (by rw [ft.2.2.2.2.2.2.2]; omega), ft.2.2.2.2.2.2.2]
                have hfu2 : (I2 3445).toInt ≤ (I2 3444 + 1 + b).toInt + t := by rw [y4, ee]; omega
                by_cases h4n : I2 3443 < 4
                · exact xr_mono (ih _ (upd I2 3444 (I2 3444 + 1 + b)) _ A2 _ _ _ RA h4n hfu2 hr) (gtQ_tr (frI_u fm.1 (by decide)) fm.2.1)
                · have h44 : I2 3443 = 4 := q_44 h4n RA.2.1.2.2.2.2.2.1
                  refine xr_aload_n D_Mo_goThrough_15 rfl rfl ?_
                  refine xr_getf F_Mo_232 D_Mo_goThrough_16 rfl rfl ?_
                  refine xr_iconst (v := 4) D_Mo_goThrough_19 rfl ?_
                  refine xr_icmp_ge (tgt := 137) D_Mo_goThrough_20 rfl (fun c7 => ?_) (fun c7 => ?_)
                  · refine xr_iconst (v := 0) D_Mo_goThrough_137 rfl ?_
                    refine xr_istore_n D_Mo_goThrough_138 rfl (by decide) ?_
                    exact xr_mono (l_Mo_g2 t _ (upd I2 3444 (I2 3444 + 1 + b)) _ A2 0 _ _ RA h44 (y5 h44) hfu2 hr) (gtQ_tr (frI_u fm.1 (by decide)) fm.2.1)
                  · exact absurd (show (4 : Int32) ≤ I2 3443 by rw [h44]; decide) c7
              · refine xr_iload_n D_Mo_goThrough_113 rfl rfl ?_
                refine xr_aload_n D_Mo_goThrough_114 rfl rfl ?_
                refine xr_getf F_Mo_203 D_Mo_goThrough_115 rfl rfl ?_
                refine xr_cSx (as := [_, _]) (c_Mo_fault) (L_Mo_326) (CD_Mo_fault) D_Mo_goThrough_118 rfl (by decide) (Nat.le_of_ble_eq_true rfl) (Nat.le_of_eq (Nat.zero_add _)) (Nat.le_of_eq (Nat.zero_add _)) pic_len ?_
                rintro _ rfl
                refine ⟨_, _, rfl, pic_leq, ?_⟩
                refine xr_iret rfl D_Mo_goThrough_121 ?_
                have q7 := a_70 R
                have hcs := (ms_cs R hlt rfl hk9.1 hbd hnb h4).mp c4
                rw [rdC_s, cde.1, cde.2.1, cde.2.2.1, cde.2.2.2] at hr
                have fm := fm_within ht
                have fs := fs_within ht
                have zz : ∀ (f : Int32) (Ic2 : mI) (Ac2 : mA) (N : List Int32), isB (Ic 2901) (Ac 30) N → t_obey (upd (upd Ic 3108 (gmt (A 54) (I 3444))) 3109 (nbF (gmt (A 54) (I 3444)))) Ac (nbF (gmt (A 54) (I 3444))).toInt.toNat N f Ic2 Ac2 → _ := fun f Ic2 Ac2 N hN ho => stp (w := w) (I2 := I2) (A2 := A2) R hlt h4 rfl hk9.1 hbd hnb hcs hN ho (Or.inl ⟨c5, ht⟩)
                rcases hr with ⟨q, -⟩ | ⟨-, q, -⟩ | ⟨-, -, q, -⟩ | ⟨-, -, -, f, Ic2, Ac2, N, hN, ho, hr⟩
                · exact absurd hlt2 q
                · exact absurd q hnb
                · exact absurd hcs q
                have z := zz f Ic2 Ac2 N hN ho
                · have hw : 0 < w := Int32.not_le.mp c6
                  have hf : ¬ f = 0 := by
                    rw [← z.1]
                    intro e
                    rw [e] at hw
                    exact absurd hw (by decide)
                  rcases hr with ⟨-, e1, e2, e3⟩ | ⟨q, -⟩
                  · have gt := gt_obey (I := upd (upd Ic 3108 (gmt (A 54) (I 3444))) 3109 (nbF (gmt (A 54) (I 3444)))) (show 0 ≤ Ic 2407 ∧ Ic 2407 ≤ 256 by rw [R.2.2.2.2.1.1]; exact ⟨R.2.2.2.2.1.2.1, R.2.2.2.2.1.2.2.1⟩) hN ho
                    have ep : Ic' 3107 = I 3444 := by
                      rw [e2]
                      exact (gt.1 3107 (by decide)).trans R.2.1.1
                    have hw9 : w ≤ 9 := (fm.2.2.resolve_left (fun q => by rw [q] at hw; exact absurd hw (by decide))).2
                    refine ⟨_, I2, A2, rfl, fm.1, fm.2.1, Or.inl ⟨by rw [e1]; exact hf, by rw [e1, ep, ← z.1, fs.1], ?_⟩⟩
                    rw [fs.1]
                    exact v_pos hw hw9 q7.1 q7.2.1
                  · exact absurd q hf
          · rw [b2_0] at c4
            refine xr_iconst (v := 2) D_Mo_goThrough_78 rfl ?_
            refine xr_aload_n D_Mo_goThrough_79 rfl rfl ?_
            refine xr_getf F_Mo_203 D_Mo_goThrough_80 rfl rfl ?_
            refine xr_cSx (as := [_, _]) (c_Mo_fault) (L_Mo_326) (CD_Mo_fault) D_Mo_goThrough_83 rfl (by decide) (Nat.le_of_ble_eq_true rfl) (Nat.le_of_eq (Nat.zero_add _)) (Nat.le_of_eq (Nat.zero_add _)) pic_len ?_
            rintro _ rfl
            refine ⟨_, _, rfl, pic_leq, ?_⟩
            refine xr_iret rfl D_Mo_goThrough_86 ?_
            have q7 := a_70 R
            have hcs : ¬ _ := fun q => c4 ((ms_cs R hlt rfl hk9.1 hbd hnb h4).mpr q)
            rw [rdC_s, cde.1, cde.2.1, cde.2.2.2] at hr
            rcases hr with ⟨q, -⟩ | ⟨-, q, -⟩ | ⟨-, -, -, rfl, rfl, rfl⟩ | ⟨-, -, q, -⟩
            · exact absurd hlt2 q
            · exact absurd q hnb
            · exact ⟨_, I, A, rfl, frI_rf, frA_rf, Or.inl ⟨by decide, by rw [← R.2.1.1]; rfl, v_pos (by decide) (by decide) q7.1 q7.2.1⟩⟩
            · exact absurd q hcs
        · refine xr_iconst (v := 1) D_Mo_goThrough_61 rfl ?_
          refine xr_aload_n D_Mo_goThrough_62 rfl rfl ?_
          refine xr_getf F_Mo_203 D_Mo_goThrough_63 rfl rfl ?_
          refine xr_cSx (as := [_, _]) (c_Mo_fault) (L_Mo_326) (CD_Mo_fault) D_Mo_goThrough_66 rfl (by decide) (Nat.le_of_ble_eq_true rfl) (Nat.le_of_eq (Nat.zero_add _)) (Nat.le_of_eq (Nat.zero_add _)) pic_len ?_
          rintro _ rfl
          refine ⟨_, _, rfl, pic_leq, ?_⟩
          refine xr_iret rfl D_Mo_goThrough_69 ?_
          have q7 := a_70 R
          rw [rdC_s, cde.1, cde.2.1] at hr
          rcases hr with ⟨q, -⟩ | ⟨-, -, rfl, rfl, rfl⟩ | ⟨-, q, -⟩ | ⟨-, q, -⟩
          · exact absurd hlt2 q
          · exact ⟨_, I, A, rfl, frI_rf, frA_rf, Or.inl ⟨by decide, by rw [← R.2.1.1]; rfl, v_pos (by decide) (by decide) q7.1 q7.2.1⟩⟩
          · exact absurd (Int32.not_le.mp c3) q
          · exact absurd (Int32.not_le.mp c3) q
      · refine xr_iconst (v := 2) D_Mo_goThrough_34 rfl ?_
        refine xr_aload_n D_Mo_goThrough_35 rfl rfl ?_
        refine xr_getf F_Mo_206 D_Mo_goThrough_36 rfl rfl ?_
        refine xr_cSx (as := [_, _]) (c_Mo_fault) (L_Mo_326) (CD_Mo_fault) D_Mo_goThrough_39 rfl (by decide) (Nat.le_of_ble_eq_true rfl) (Nat.le_of_eq (Nat.zero_add _)) (Nat.le_of_eq (Nat.zero_add _)) pic_len ?_
        rintro _ rfl
        refine ⟨_, _, rfl, pic_leq, ?_⟩
        refine xr_iret rfl D_Mo_goThrough_42 ?_
        rw [rdC_s] at hr
        rcases hr with ⟨-, rfl, rfl, hr⟩ | ⟨q, -⟩ | ⟨q, -⟩ | ⟨q, -⟩
        · rw [R.2.2.2.2.2.2.1.2.2.2.2.2 h4, if_pos (by decide)] at hr
          have q := a_70 R
          exact ⟨_, I, A, rfl, frI_rf, frA_rf, Or.inl ⟨by rw [hr]; decide, by rw [hr, at_end R c2], v_pos (by decide) (by decide) q.2.2.1 q.2.2.2⟩⟩
        · exact absurd q (by rw [R.2.1.1, R.1.1]; exact c2)
        · exact absurd q (by rw [R.2.1.1, R.1.1]; exact c2)
        · exact absurd q (by rw [R.2.1.1, R.1.1]; exact c2)

theorem c_Mo_goThrough_34 {Ic I : mI} {Ac A : mA} {L : mL} {r : Int32} {Ic' : mI} {Ac' : mA} {n : Nat} (R : RR Ic Ac (upd (upd (upd I 3444 0) 3443 0) 3446 (-1)) A 0) (hfu : (I 3445).toInt ≤ (n : Int)) (hr : rdC n Ic Ac r Ic' Ac') : xm m_Mo_goThrough (6, 133) [.ref 34] (pic I A L) 0 0 (gtQ (upd (upd (upd I 3444 0) 3443 0) 3446 (-1)) A L r Ic' Ac') := by
  refine xm_of rfl (by decide) (Nat.le_of_ble_eq_true rfl) ?_
  refine xr_aload_n D_Mo_goThrough_0 rfl rfl ?_
  refine xr_iconst (v := 0) D_Mo_goThrough_1 rfl ?_
  refine xr_putf F_Mo_203 FT_Mo FN_Mo_44 D_Mo_goThrough_2 rfl (Nat.le_of_ble_eq_true rfl) rfl rfl (pset_34_44) ?_
  refine xr_aload_n D_Mo_goThrough_5 rfl rfl ?_
  refine xr_iconst (v := 0) D_Mo_goThrough_6 rfl ?_
  refine xr_putf F_Mo_232 FT_Mo FN_Mo_43 D_Mo_goThrough_7 rfl (Nat.le_of_ble_eq_true rfl) rfl rfl (pset_34_43) ?_
  refine xr_aload_n D_Mo_goThrough_10 rfl rfl ?_
  refine xr_iconst (v := (-1)) D_Mo_goThrough_11 rfl ?_
  refine xr_putf F_Mo_254 FT_Mo FN_Mo_46 D_Mo_goThrough_12 rfl (Nat.le_of_ble_eq_true rfl) rfl rfl (pset_34_46) ?_
  exact l_Mo_g1 n Ic (upd (upd (upd I 3444 0) 3443 0) 3446 (-1)) Ac A _ _ _ R (by decide : (0 : Int32) < 4) (by show (I 3445).toInt ≤ (0 : Int32).toInt + n; rw [z0]; omega) hr

