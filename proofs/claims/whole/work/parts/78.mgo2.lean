theorem rdC_s {t : Nat} {I : mI} {A : mA} {r : Int32} {I' : mI} {A' : mA} : rdC (t + 1) I A r I' A' ↔ ((¬ I 3107 < I 2201 ∧ I' = I ∧ A' = A ∧ r = (if I 3113 < 4 then 2 else 0)) ∨ (I 3107 < I 2201 ∧ cdB I A < 0 ∧ r = 1 ∧ I' = cdI I A ∧ A' = A) ∨ (I 3107 < I 2201 ∧ ¬ cdB I A < 0 ∧ ¬ cdS I A ∧ r = 2 ∧ I' = cdI I A ∧ A' = A) ∨ (I 3107 < I 2201 ∧ ¬ cdB I A < 0 ∧ cdS I A ∧ ∃ (f : Int32) (I2 : mI) (A2 : mA) (N : List Int32), isB (I 2901) (A 30) N ∧ t_obey (cdI I A) A (cdK I A) N f I2 A2 ∧ ((¬ f = 0 ∧ r = f ∧ I' = I2 ∧ A' = A2) ∨ (f = 0 ∧ rdC t (upd I2 3107 (I2 3107 + (1 + cdB I A))) A2 r I' A')))) := Iff.rfl
def RE (Ic : mI) (Ac : mA) (I : mI) (A : mA) : Prop := RM Ic Ac I A ∧ RP Ic Ac I A ∧ RT Ic Ac I A ∧ Ic 2408 = I 3439 ∧ Ic 2409 = I 3440 ∧ Ic 2410 = I 3441 ∧ Ic 2411 = I 3442 ∧ ∃ N, isB (Ic 2901) (Ac 30) N
def gtQ (I : mI) (A : mA) (L : mL) (r : Int32) (Ic' : mI) (Ac' : mA) : xO → Prop := fun o => ∃ (v : Int32) (I' : mI) (A' : mA), o = (.inl (some (.int v)), pic I' A' L) ∧ frI [3432, 3434, 3436, 3439, 3440, 3441, 3442, 3443, 3444, 3446, 3447, 3448, 3449, 3450] I I' ∧ frA [55, 56, 57, 58, 59, 60] A A' ∧ ((¬ r = 0 ∧ v = 100000 * r + Ic' 3107 ∧ 0 < v) ∨ (r = 0 ∧ v = 0 ∧ RE Ic' Ac' I' A'))
theorem gtQ_tr {I I1 : mI} {A A1 : mA} {L : mL} {r : Int32} {Ic' : mI} {Ac' : mA} (h1 : frI [3432, 3434, 3436, 3439, 3440, 3441, 3442, 3443, 3444, 3446, 3447, 3448, 3449, 3450] I I1) (h2 : frA [55, 56, 57, 58, 59, 60] A A1) : ∀ o, gtQ I1 A1 L r Ic' Ac' o → gtQ I A L r Ic' Ac' o := by
  rintro o ⟨v, I', A', e, k1, k2, k3⟩
  exact ⟨v, I', A', e, frI_tr h1 k1 (fun _ h => h) (fun _ h => h), frA_tr h2 k2 (fun _ h => h) (fun _ h => h), k3⟩
theorem cd_e {Ic I : mI} {Ac A : mA} {m : Int} (R : RR Ic Ac I A m) (hlt : I 3444 < I 3445) : cdB Ic Ac = (bhF (gat (Ic 2201) (Ac 23)) (I 3445) (I 3444) (gmt (A 54) (I 3444)) (nbF (gmt (A 54) (I 3444))) (nbF (gmt (A 54) (I 3444))).toInt.toNat) ∧ cdI Ic Ac = upd (upd Ic 3108 (gmt (A 54) (I 3444))) 3109 (nbF (gmt (A 54) (I 3444))) ∧ cdK Ic Ac = (nbF (gmt (A 54) (I 3444))).toInt.toNat ∧ (cdS Ic Ac ↔ csF (gat (Ic 2201) (Ac 23)) (I 3443) (gmt (A 54) (I 3444)) (I 3444)) := by
  have e : gat (Ic 2201) (Ac 23) (Ic 3107) = gmt (A 54) (I 3444) := by
    rw [R.2.1.1]
    exact gR R.1 R.2.1.2.1 hlt
  refine ⟨?_, ?_, ?_, ?_⟩
  · show bhF (gat (Ic 2201) (Ac 23)) (Ic 2201) (Ic 3107) (gat (Ic 2201) (Ac 23) (Ic 3107)) (nbF (gat (Ic 2201) (Ac 23) (Ic 3107))) (nbF (gat (Ic 2201) (Ac 23) (Ic 3107))).toInt.toNat = _
    rw [e, R.2.1.1]
    congr 1
    exact R.1.1
  · show upd (upd Ic 3108 (gat (Ic 2201) (Ac 23) (Ic 3107))) 3109 (nbF (gat (Ic 2201) (Ac 23) (Ic 3107))) = _
    rw [e]
  · show (nbF (gat (Ic 2201) (Ac 23) (Ic 3107))).toInt.toNat = _
    rw [e]
  · show csF (gat (Ic 2201) (Ac 23)) (Ic 3106) (gat (Ic 2201) (Ac 23) (Ic 3107)) (Ic 3107) ↔ _
    rw [e, R.2.1.1, R.2.1.2.2.2.1]
theorem v_pos {r a : Int32} (h1 : 0 < r) (h2 : r ≤ 9) (h3 : 0 ≤ a) (h4 : a ≤ 70000) : 0 < 100000 * r + a := by grind
theorem RE_of {Ic I : mI} {Ac A : mA} {m : Int} (R : RR Ic Ac I A m) (h : I 3443 = 4) : RE Ic Ac I A := by
  obtain ⟨r1, r2, rm, rp, rt, ⟨N, n1, n2⟩, rg, ri⟩ := R
  exact ⟨rm, rp, rt, (rg.2.2.2.1 (by rw [h]; decide)).2, rg.1, rg.2.1, rg.2.2.1, N, n1⟩
theorem at_end {Ic I : mI} {Ac A : mA} {m : Int} (R : RR Ic Ac I A m) (h : ¬ I 3444 < I 3445) : I 3445 = Ic 3107 := by
  rw [R.2.1.1]
  have a := i_le.mp R.2.1.2.2.1
  have b : ¬ ((I 3444).toInt < (I 3445).toInt) := fun q => h (i_lt.mpr q)
  exact i_eq.mpr (by omega)
theorem a_70 {Ic I : mI} {Ac A : mA} {m : Int} (R : RR Ic Ac I A m) : 0 ≤ I 3444 ∧ I 3444 ≤ 70000 ∧ 0 ≤ I 3445 ∧ I 3445 ≤ 70000 := by
  have a := R.2.1.2.1
  have b := R.2.1.2.2.1
  have c := R.1.2.1
  grind
theorem fill0 {g : Int32 → Int32} {s a : Int32} {k : Nat} (h : ¬ bhF g s a 223 (nbF 223) k < 0) : bhF g s a 223 (nbF 223) k = 0 := by
  obtain ⟨e, -, -, -⟩ := bh_ge h
  rw [e, show nbF 223 = 0 from rfl, show fxF 223 = 0 from rfl]
  rfl

theorem cs_4 {g : Int32 → Int32} {s c a : Int32} (h : s = 4) (hs : csF g s c a) : c = 223 := by
  subst h
  rcases hs with ⟨h, _⟩ | ⟨h, _⟩ | ⟨h, _⟩ | ⟨h, _⟩ | ⟨_, q⟩
  · exact absurd h (by decide)
  · exact absurd h (by decide)
  · exact absurd h (by decide)
  · exact absurd h (by decide)
  · exact q

theorem l_Mo_g2 {L : mL} {r : Int32} {Ic' : mI} {Ac' : mA} : ∀ (t : Nat) (Ic I : mI) (Ac A : mA) (many : Int32) (x2 x3 : Option Value), RR Ic Ac I A (I 3444).toInt → I 3443 = 4 → Ic 3113 = many → (I 3445).toInt ≤ (I 3444).toInt + t → rdC t Ic Ac r Ic' Ac' → xr m_Mo_goThrough none (6, 133) 139 [some (.ref 34), some (.int many), x2, x3] [] (pic I A L) 0 0 (gtQ I A L r Ic' Ac') := by
  intro t
  induction t with
  | zero =>
    intro Ic I Ac A many x2 x3 R h4 hmy hfu hr
    obtain ⟨rfl, rfl, hr⟩ := hr
    rw [hmy] at hr
    refine xr_aload_n D_Mo_goThrough_139 rfl rfl ?_
    refine xr_getf F_Mo_203 D_Mo_goThrough_140 rfl rfl ?_
    refine xr_aload_n D_Mo_goThrough_143 rfl rfl ?_
    refine xr_getf F_Mo_206 D_Mo_goThrough_144 rfl rfl ?_
    refine xr_icmp_ge (tgt := 205) D_Mo_goThrough_147 rfl (fun c1 => ?_) (fun c1 => ?_)
    · refine xr_iload_n D_Mo_goThrough_205 rfl rfl ?_
      refine xr_iconst (v := 4) D_Mo_goThrough_206 rfl ?_
      refine xr_icmp_ge (tgt := 221) D_Mo_goThrough_207 rfl (fun c2 => ?_) (fun c2 => ?_)
      · refine xr_iconst (v := 0) D_Mo_goThrough_221 rfl ?_
        refine xr_iret rfl D_Mo_goThrough_222 ?_
        have hr2 : r = 0 := by rw [hr, if_neg (by grind)]
        exact ⟨0, I, A, rfl, frI_rf, frA_rf, Or.inr ⟨hr2, rfl, RE_of R h4⟩⟩
      · refine xr_iconst (v := 2) D_Mo_goThrough_210 rfl ?_
        refine xr_aload_n D_Mo_goThrough_211 rfl rfl ?_
        refine xr_getf F_Mo_206 D_Mo_goThrough_212 rfl rfl ?_
        refine xr_cSx (as := [_, _]) (c_Mo_fault) (L_Mo_326) (CD_Mo_fault) D_Mo_goThrough_215 rfl (by decide) (Nat.le_of_ble_eq_true rfl) (Nat.le_of_eq (Nat.zero_add _)) (Nat.le_of_eq (Nat.zero_add _)) pic_len ?_
        rintro _ rfl
        refine ⟨_, _, rfl, pic_leq, ?_⟩
        refine xr_goto (tgt := 222) D_Mo_goThrough_218 rfl ?_
        refine xr_iret rfl D_Mo_goThrough_222 ?_
        have hr2 : r = 2 := by rw [hr, if_pos (by grind)]
        have q := a_70 R
        exact ⟨_, I, A, rfl, frI_rf, frA_rf, Or.inl ⟨by rw [hr2]; decide, by rw [hr2, at_end R (by grind)], v_pos (by decide) (by decide) q.2.2.1 q.2.2.2⟩⟩
    · exact absurd (i_le.mpr (by have q := i_lt.mp (Int32.not_le.mp c1); omega)) c1
  | succ t ih =>
    intro Ic I Ac A many x2 x3 R h4 hmy hfu hr
    refine xr_aload_n D_Mo_goThrough_139 rfl rfl ?_
    refine xr_getf F_Mo_203 D_Mo_goThrough_140 rfl rfl ?_
    refine xr_aload_n D_Mo_goThrough_143 rfl rfl ?_
    refine xr_getf F_Mo_206 D_Mo_goThrough_144 rfl rfl ?_
    refine xr_icmp_ge (tgt := 205) D_Mo_goThrough_147 rfl (fun c1 => ?_) (fun c1 => ?_)
    · refine xr_iload_n D_Mo_goThrough_205 rfl rfl ?_
      refine xr_iconst (v := 4) D_Mo_goThrough_206 rfl ?_
      refine xr_icmp_ge (tgt := 221) D_Mo_goThrough_207 rfl (fun c2 => ?_) (fun c2 => ?_)
      · refine xr_iconst (v := 0) D_Mo_goThrough_221 rfl ?_
        refine xr_iret rfl D_Mo_goThrough_222 ?_
        rcases hr with ⟨-, rfl, rfl, hr⟩ | ⟨q, -⟩ | ⟨q, -⟩ | ⟨q, -⟩
        · rw [hmy] at hr
          have hr2 : r = 0 := by rw [hr, if_neg (by grind)]
          exact ⟨0, I, A, rfl, frI_rf, frA_rf, Or.inr ⟨hr2, rfl, RE_of R h4⟩⟩
        · exact absurd q (by rw [R.2.1.1, R.1.1]; grind)
        · exact absurd q (by rw [R.2.1.1, R.1.1]; grind)
        · exact absurd q (by rw [R.2.1.1, R.1.1]; grind)
      · refine xr_iconst (v := 2) D_Mo_goThrough_210 rfl ?_
        refine xr_aload_n D_Mo_goThrough_211 rfl rfl ?_
        refine xr_getf F_Mo_206 D_Mo_goThrough_212 rfl rfl ?_
        refine xr_cSx (as := [_, _]) (c_Mo_fault) (L_Mo_326) (CD_Mo_fault) D_Mo_goThrough_215 rfl (by decide) (Nat.le_of_ble_eq_true rfl) (Nat.le_of_eq (Nat.zero_add _)) (Nat.le_of_eq (Nat.zero_add _)) pic_len ?_
        rintro _ rfl
        refine ⟨_, _, rfl, pic_leq, ?_⟩
        refine xr_goto (tgt := 222) D_Mo_goThrough_218 rfl ?_
        refine xr_iret rfl D_Mo_goThrough_222 ?_
        rcases hr with ⟨-, rfl, rfl, hr⟩ | ⟨q, -⟩ | ⟨q, -⟩ | ⟨q, -⟩
        · rw [hmy] at hr
          have hr2 : r = 2 := by rw [hr, if_pos (by grind)]
          have q := a_70 R
          exact ⟨_, I, A, rfl, frI_rf, frA_rf, Or.inl ⟨by rw [hr2]; decide, by rw [hr2, at_end R (by grind)], v_pos (by decide) (by decide) q.2.2.1 q.2.2.2⟩⟩
        · exact absurd q (by rw [R.2.1.1, R.1.1]; grind)
        · exact absurd q (by rw [R.2.1.1, R.1.1]; grind)
        · exact absurd q (by rw [R.2.1.1, R.1.1]; grind)
    · have hlt : I 3444 < I 3445 := by grind
      have hlt2 : Ic 3107 < Ic 2201 := by rw [R.2.1.1, R.1.1]; exact hlt
      refine xr_aload_n D_Mo_goThrough_150 rfl rfl ?_
      refine xr_cVx (as := []) (c_Mo_length_34 (a_70 R).1 hlt R.1.2.1) (L_Mo_329) (CD_Mo_length) CI_Mo D_Mo_goThrough_151 rfl rfl (by decide) (Nat.le_of_ble_eq_true rfl) (Nat.le_of_eq (Nat.zero_add _)) (Nat.le_of_eq (Nat.zero_add _)) pic_len ?_
      rintro _ rfl
      refine ⟨_, _, rfl, pic_leq, ?_⟩
      rw [ln_bh R.1 rfl R.2.1.2.1 hlt rfl]
      have hk9 := nbF_k (c := (gmt (A 54) (I 3444)))
      have cde := cd_e R hlt
      generalize hbd : (bhF (gat (Ic 2201) (Ac 23)) (I 3445) (I 3444) (gmt (A 54) (I 3444)) (nbF (gmt (A 54) (I 3444))) (nbF (gmt (A 54) (I 3444))).toInt.toNat) = b at cde ⊢
      refine xr_if_ge (tgt := 166) D_Mo_goThrough_154 rfl (fun c2 => ?_) (fun c2 => ?_)
      · refine xr_aload_n D_Mo_goThrough_166 rfl rfl ?_
        refine xr_aload_n D_Mo_goThrough_167 rfl rfl ?_
        refine xr_getf F_Mo_203 D_Mo_goThrough_168 rfl rfl ?_
        refine xr_cVx (as := [_]) (c_Mo_byteAt_34 (a_70 R).1 (by have q1 := (a_70 R).2.2.2; grind)) (L_Mo_200) (CD_Mo_byteAt) CI_Mo D_Mo_goThrough_171 rfl rfl (by decide) (Nat.le_of_ble_eq_true rfl) (Nat.le_of_eq (Nat.zero_add _)) (Nat.le_of_eq (Nat.zero_add _)) pic_len ?_
        rintro _ rfl
        refine ⟨_, _, rfl, pic_leq, ?_⟩
        refine xr_sipush (v := 223) D_Mo_goThrough_174 rfl ?_
        refine xr_icmp_eq (tgt := 189) D_Mo_goThrough_177 rfl (fun c3 => ?_) (fun c3 => ?_)
        · refine xr_aload_n D_Mo_goThrough_189 rfl rfl ?_
          refine xr_dup D_Mo_goThrough_190 rfl ?_
          refine xr_getf F_Mo_203 D_Mo_goThrough_191 rfl rfl ?_
          refine xr_iconst (v := 1) D_Mo_goThrough_194 rfl ?_
          refine xr_iadd D_Mo_goThrough_195 ?_
          refine xr_putf F_Mo_203 FT_Mo FN_Mo_44 D_Mo_goThrough_196 rfl (Nat.le_of_ble_eq_true rfl) rfl rfl (pset_34_44) ?_
          refine xr_iinc (c9 := 1) D_Mo_goThrough_199 rfl rfl (by decide) ?_
          refine xr_goto (tgt := 139) D_Mo_goThrough_202 rfl ?_
          have hnb : ¬ b < 0 := Int32.not_lt.mpr c2
          have h223 : gmt (A 54) (I 3444) = 223 := c3
          have hb0 : b = 0 := by
            rw [h223] at hbd
            rw [← hbd] at hnb ⊢
            exact fill0 hnb
          rw [rdC_s, cde.1, cde.2.1, cde.2.2.1, cde.2.2.2] at hr
          rcases hr with ⟨q, -⟩ | ⟨-, q, -⟩ | ⟨-, -, q, -⟩ | ⟨-, -, -, f, I2, A2, N, hN, ho, hr⟩
          · exact absurd hlt2 q
          · exact absurd q hnb
          · exact absurd (Or.inr (Or.inr (Or.inr (Or.inr ⟨h4, h223⟩)))) q
          · have e6 : Ic 3106 = 4 := R.2.1.2.2.2.1.trans h4
            obtain ⟨rfl, rfl, rfl⟩ := oc_fill (J := upd (upd Ic 3108 (gmt (A 54) (I 3444))) 3109 (nbF (gmt (A 54) (I 3444)))) e6 ho
            rcases hr with ⟨q, -⟩ | ⟨-, hr⟩
            · exact absurd rfl q
            · have RA := adv (b := 0) R (by decide) (by have q1 := i_lt.mp hlt; rw [z0]; omega) (by rw [h4]; decide) (by rw [z0]; omega)
              have ea : I 3444 + 1 + 0 = I 3444 + 1 := Int32.add_zero _
              rw [ea] at RA
              rw [hb0] at hr
              have e1 := (a_c (c := 1) (n := 1) R.2.1.2.1 (by have := a_7 R; omega) rfl (by decide)).2
              obtain ⟨w1, w2, w3, w4, w5, w6, w7, w8⟩ := RA
              refine xr_mono (ih (upd (upd (upd (upd Ic 3108 (gmt (A 54) (I 3444))) 3109 (nbF (gmt (A 54) (I 3444)))) 3113 (Ic 3113 + 1)) 3107 (Ic 3107 + (1 + 0))) (upd I 3444 (I 3444 + 1)) _ A _ _ _ ⟨w1, w2, w3, w4, w5, w6, ⟨w7.1, w7.2.1, w7.2.2.1, w7.2.2.2.1, w7.2.2.2.2.1, fun q => ?_⟩, w8⟩ h4 ?_ ?_ hr) (gtQ_tr (frI_u frI_rf (by decide)) frA_rf)
              · exact absurd (show I 3443 < 4 from q) (by rw [h4]; decide)
              · show Ic 3113 + 1 = many + 1
                rw [hmy]
              · show (I 3445).toInt ≤ (I 3444 + 1).toInt + t
                rw [e1]
                omega
        · refine xr_iconst (v := 2) D_Mo_goThrough_180 rfl ?_
          refine xr_aload_n D_Mo_goThrough_181 rfl rfl ?_
          refine xr_getf F_Mo_203 D_Mo_goThrough_182 rfl rfl ?_
          refine xr_cSx (as := [_, _]) (c_Mo_fault) (L_Mo_326) (CD_Mo_fault) D_Mo_goThrough_185 rfl (by decide) (Nat.le_of_ble_eq_true rfl) (Nat.le_of_eq (Nat.zero_add _)) (Nat.le_of_eq (Nat.zero_add _)) pic_len ?_
          rintro _ rfl
          refine ⟨_, _, rfl, pic_leq, ?_⟩
          refine xr_iret rfl D_Mo_goThrough_188 ?_
          have q7 := a_70 R
          have hnb : ¬ b < 0 := Int32.not_lt.mpr c2
          rw [rdC_s, cde.1, cde.2.1, cde.2.2.2] at hr
          rcases hr with ⟨q, -⟩ | ⟨-, q, -⟩ | ⟨-, -, -, rfl, rfl, rfl⟩ | ⟨-, -, q, -⟩
          · exact absurd hlt2 q
          · exact absurd q hnb
          · exact ⟨_, I, A, rfl, frI_rf, frA_rf, Or.inl ⟨by decide, by rw [← R.2.1.1]; rfl, v_pos (by decide) (by decide) q7.1 q7.2.1⟩⟩
          · exact absurd (cs_4 h4 q) c3
      · refine xr_iconst (v := 1) D_Mo_goThrough_157 rfl ?_
        refine xr_aload_n D_Mo_goThrough_158 rfl rfl ?_
        refine xr_getf F_Mo_203 D_Mo_goThrough_159 rfl rfl ?_
        refine xr_cSx (as := [_, _]) (c_Mo_fault) (L_Mo_326) (CD_Mo_fault) D_Mo_goThrough_162 rfl (by decide) (Nat.le_of_ble_eq_true rfl) (Nat.le_of_eq (Nat.zero_add _)) (Nat.le_of_eq (Nat.zero_add _)) pic_len ?_
        rintro _ rfl
        refine ⟨_, _, rfl, pic_leq, ?_⟩
        refine xr_iret rfl D_Mo_goThrough_165 ?_
        have q7 := a_70 R
        rw [rdC_s, cde.1, cde.2.1] at hr
        rcases hr with ⟨q, -⟩ | ⟨-, -, rfl, rfl, rfl⟩ | ⟨-, q, -⟩ | ⟨-, q, -⟩
        · exact absurd hlt2 q
        · exact ⟨_, I, A, rfl, frI_rf, frA_rf, Or.inl ⟨by decide, by rw [← R.2.1.1]; rfl, v_pos (by decide) (by decide) q7.1 q7.2.1⟩⟩
        · exact absurd (Int32.not_le.mp c2) q
        · exact absurd (Int32.not_le.mp c2) q

