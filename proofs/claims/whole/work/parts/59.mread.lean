def lnX (l : Int32) (n : Int64) : Int32 := if l.toInt < n.toInt then -1 else n.toInt32
def lnN (g : Int32 → Int32) (c a l : Int32) : Int64 :=
  if 127 < c ∧ c < 132 then (c - 128 + 1).toInt64 else
  if c = 132 ∨ c = 137 then 8 else
  if 132 < c ∧ c < 137 then (c - 133 + 1).toInt64 else
  if c = 139 then 44 else
  if 142 < c ∧ c < 171 then (mbF c).toInt64 else
  if 234 < c ∧ c < 239 then (c - 235 + 1).toInt64 else
  if 238 < c ∧ c < 243 then (if l < c - 239 + 1 then (c - 239 + 1).toInt64 else if nrd g (a + 1) (c.toInt - 238).toNat < 0 then 1000000 else (c - 239 + 1).toInt64 + (nrd g (a + 1) (c.toInt - 238).toNat).toInt64) else
  if 242 < c ∧ c < 247 then (if l < c - 243 + 1 + 14 then (c - 243 + 1 + 14).toInt64 else (c - 243 + 1 + 14).toInt64 + (g (a + (c - 243 + 1 + 14) - 1)).toInt64 + (g (a + (c - 243 + 1 + 14))).toInt64) else
  if c = 247 then (if l < 14 then 14 else 14 + (g (a + 14)).toInt64) else
  if c = 248 then 28 else if c = 249 then 5 else 0
theorem i64_32 {x : Int32} : x.toInt64.toInt32 = x := Int32.toInt32_toInt64 x
theorem i64_t {x : Int32} : x.toInt64.toInt = x.toInt := Int32.toInt_toInt64 x

theorem l_Mo_ln {I : mI} {A : mA} {L : mL} {c l : Int32} {n9 : Int64} {x5 : Option Value} : xr m_Mo_length none (2, 46) 358 [some (.ref 34), some (.int c), some (.int l), some (.long n9), none, x5] [] (pic I A L) 0 0 (fun o => o = (.inl (some (.int (lnX l n9))), pic I A L)) := by
  refine xr_lload_n D_Mo_length_358 rfl rfl ?_
  refine xr_iload_n D_Mo_length_359 rfl rfl ?_
  refine xr_i2l D_Mo_length_360 ?_
  refine xr_lcmp D_Mo_length_361 ?_
  refine xr_if_gt (tgt := 370) D_Mo_length_362 rfl (fun c1 => ?_) (fun c1 => ?_)
  · refine xr_iconst (v := (-1)) D_Mo_length_370 rfl ?_
    refine xr_iret rfl D_Mo_length_371 ?_
    rw [cmp_gt, i64_t] at c1
    exact oi (if_pos c1).symm
  · refine xr_lload_n D_Mo_length_365 rfl rfl ?_
    refine xr_l2i D_Mo_length_366 ?_
    refine xr_goto (tgt := 371) D_Mo_length_367 rfl ?_
    refine xr_iret rfl D_Mo_length_371 ?_
    rw [cmp_gt, i64_t] at c1
    exact oi (if_neg c1).symm

theorem sb_t {c k m : Int32} (hu : c ≤ 255) (hc : k ≤ c) (hk : 0 ≤ k) (hm : k.toInt - 1 = m.toInt) : (c - k + 1).toInt = c.toInt - m.toInt := by
  have a := i_le.mp hc
  have b := i_le.mp hk
  rw [z0] at b
  have r := i_le.mp hu
  rw [show (255 : Int32).toInt = 255 from rfl] at r
  rw [i_add (by rw [z1, i_sub (by omega) (by omega)]; omega) (by rw [z1, i_sub (by omega) (by omega)]; omega), z1, i_sub (by omega) (by omega)]
  omega
theorem byt_and (x : Int32) : 0 ≤ x &&& 255 ∧ x &&& 255 ≤ 255 := by
  have h : (x &&& 255).toInt = ((x.toBitVec.toNat &&& 255 : Nat) : Int) := by
    show (x.toBitVec &&& 255#32).toInt = _
    rw [BitVec.toInt_eq_toNat_of_lt (by rw [BitVec.toNat_and]; have := Nat.and_le_right (n := x.toBitVec.toNat) (m := (255#32).toNat); have e : (255#32).toNat = 255 := rfl; omega), BitVec.toNat_and]
    rfl
  have h2 := Nat.and_le_right (n := x.toBitVec.toNat) (m := 255)
  rw [i_le, i_le, h, z0, show (255 : Int32).toInt = 255 from rfl]
  omega
theorem gm_r {f : Nat → Int32} {p : Int32} : 0 ≤ gmt f p ∧ gmt f p ≤ 255 := by
  unfold gmt
  have h := byt_and (f p.toNatClampNeg)
  exact h

set_option maxHeartbeats 4000000 in
theorem c_Mo_length_34 {I : mI} {A : mA} {L : mL}  (h0 : 0 ≤ I 3444) (h1 : I 3444 < I 3445) (h2 : I 3445 ≤ 70000) : xm m_Mo_length (2, 46) [.ref 34] (pic I A L) 0 0 (fun o => o = (.inl (some (.int (lnX (I 3445 - I 3444 - 1) (lnN (gmt (A 54)) (gmt (A 54) (I 3444)) (I 3444) (I 3445 - I 3444 - 1))))), (pic I A L))) := by
  refine xm_of rfl (by decide) (Nat.le_of_ble_eq_true rfl) ?_
  have hgr := gm_r (f := A 54) (p := I 3444)
  refine xr_aload_n D_Mo_length_0 rfl rfl ?_
  refine xr_aload_n D_Mo_length_1 rfl rfl ?_
  refine xr_getf F_Mo_203 D_Mo_length_2 rfl rfl ?_
  refine xr_cVx (as := [_]) (c_Mo_byteAt_34 (by grind) (by grind)) (L_Mo_200) (CD_Mo_byteAt) CI_Mo D_Mo_length_5 rfl rfl (by decide) (Nat.le_of_ble_eq_true rfl) (Nat.le_of_eq (Nat.zero_add _)) (Nat.le_of_eq (Nat.zero_add _)) pic_len ?_
  rintro _ rfl
  refine ⟨_, _, rfl, pic_leq, ?_⟩
  refine xr_istore_n D_Mo_length_8 rfl (by decide) ?_
  refine xr_aload_n D_Mo_length_9 rfl rfl ?_
  refine xr_getf F_Mo_206 D_Mo_length_10 rfl rfl ?_
  refine xr_aload_n D_Mo_length_13 rfl rfl ?_
  refine xr_getf F_Mo_203 D_Mo_length_14 rfl rfl ?_
  refine xr_isub D_Mo_length_17 ?_
  refine xr_iconst (v := 1) D_Mo_length_18 rfl ?_
  refine xr_isub D_Mo_length_19 ?_
  refine xr_istore_n D_Mo_length_20 rfl (by decide) ?_
  refine xr_lconst (v := 0) D_Mo_length_21 rfl ?_
  refine xr_lstore_n D_Mo_length_22 rfl (by decide) ?_
  have hsp : (gmt (A 54) (I 3444) ≤ 127) ∨ (127 < gmt (A 54) (I 3444) ∧ gmt (A 54) (I 3444) < 132) ∨ (gmt (A 54) (I 3444) = 132 ∨ gmt (A 54) (I 3444) = 137) ∨ (132 < gmt (A 54) (I 3444) ∧ gmt (A 54) (I 3444) < 137) ∨ (gmt (A 54) (I 3444) = 138 ∨ gmt (A 54) (I 3444) = 140 ∨ gmt (A 54) (I 3444) = 141 ∨ gmt (A 54) (I 3444) = 142) ∨ (gmt (A 54) (I 3444) = 139) ∨ (142 < gmt (A 54) (I 3444) ∧ gmt (A 54) (I 3444) < 171) ∨ (170 < gmt (A 54) (I 3444) ∧ gmt (A 54) (I 3444) < 235) ∨ (234 < gmt (A 54) (I 3444) ∧ gmt (A 54) (I 3444) < 239) ∨ (238 < gmt (A 54) (I 3444) ∧ gmt (A 54) (I 3444) < 243) ∨ (242 < gmt (A 54) (I 3444) ∧ gmt (A 54) (I 3444) < 247) ∨ (gmt (A 54) (I 3444) = 247) ∨ (gmt (A 54) (I 3444) = 248) ∨ (gmt (A 54) (I 3444) = 249) ∨ (249 < gmt (A 54) (I 3444)) := by grind
  rcases hsp with hc | hc | hc | hc | hc | hc | hc | hc | hc | hc | hc | hc | hc | hc | hc
  · refine xr_iload_n D_Mo_length_23 rfl rfl ?_
    refine xr_bipush (v := 127) D_Mo_length_24 rfl ?_
    refine xr_icmp_le (tgt := 48) D_Mo_length_26 rfl (fun c1 => ?_) (fun c1 => ?_)
    · refine xr_iload_n D_Mo_length_48 rfl rfl ?_
      refine xr_sipush (v := 132) D_Mo_length_49 rfl ?_
      refine xr_icmp_eq (tgt := 62) D_Mo_length_52 rfl (fun c2 => ?_) (fun c2 => ?_)
      · exfalso; grind
      · refine xr_iload_n D_Mo_length_55 rfl rfl ?_
        refine xr_sipush (v := 137) D_Mo_length_56 rfl ?_
        refine xr_icmp_ne (tgt := 69) D_Mo_length_59 rfl (fun c3 => ?_) (fun c3 => ?_)
        · refine xr_iload_n D_Mo_length_69 rfl rfl ?_
          refine xr_sipush (v := 132) D_Mo_length_70 rfl ?_
          refine xr_icmp_le (tgt := 95) D_Mo_length_73 rfl (fun c4 => ?_) (fun c4 => ?_)
          · refine xr_iload_n D_Mo_length_95 rfl rfl ?_
            refine xr_sipush (v := 139) D_Mo_length_96 rfl ?_
            refine xr_icmp_ne (tgt := 109) D_Mo_length_99 rfl (fun c5 => ?_) (fun c5 => ?_)
            · refine xr_iload_n D_Mo_length_109 rfl rfl ?_
              refine xr_sipush (v := 142) D_Mo_length_110 rfl ?_
              refine xr_icmp_le (tgt := 132) D_Mo_length_113 rfl (fun c6 => ?_) (fun c6 => ?_)
              · refine xr_iload_n D_Mo_length_132 rfl rfl ?_
                refine xr_sipush (v := 234) D_Mo_length_133 rfl ?_
                refine xr_icmp_le (tgt := 158) D_Mo_length_136 rfl (fun c7 => ?_) (fun c7 => ?_)
                · refine xr_iload_n D_Mo_length_158 rfl rfl ?_
                  refine xr_sipush (v := 238) D_Mo_length_159 rfl ?_
                  refine xr_icmp_le (tgt := 223) D_Mo_length_162 rfl (fun c8 => ?_) (fun c8 => ?_)
                  · refine xr_iload_n D_Mo_length_223 rfl rfl ?_
                    refine xr_sipush (v := 242) D_Mo_length_224 rfl ?_
                    refine xr_icmp_le (tgt := 293) D_Mo_length_227 rfl (fun c9 => ?_) (fun c9 => ?_)
                    · refine xr_iload_n D_Mo_length_293 rfl rfl ?_
                      refine xr_sipush (v := 247) D_Mo_length_294 rfl ?_
                      refine xr_icmp_ne (tgt := 333) D_Mo_length_297 rfl (fun c10 => ?_) (fun c10 => ?_)
                      · refine xr_iload_n D_Mo_length_333 rfl rfl ?_
                        refine xr_sipush (v := 248) D_Mo_length_334 rfl ?_
                        refine xr_icmp_ne (tgt := 347) D_Mo_length_337 rfl (fun c11 => ?_) (fun c11 => ?_)
                        · refine xr_iload_n D_Mo_length_347 rfl rfl ?_
                          refine xr_sipush (v := 249) D_Mo_length_348 rfl ?_
                          refine xr_icmp_ne (tgt := 358) D_Mo_length_351 rfl (fun c12 => ?_) (fun c12 => ?_)
                          · refine xr_mono l_Mo_ln ?_
                            rintro _ rfl
                            refine oi (congrArg (lnX _) ?_)
                            unfold lnN
                            rw [if_neg (by grind), if_neg (by grind), if_neg (by grind), if_neg (by grind), if_neg (by grind), if_neg (by grind), if_neg (by grind), if_neg (by grind), if_neg (by grind), if_neg (by grind), if_neg (by grind)]
                          · exfalso; grind
                        · exfalso; grind
                      · exfalso; grind
                    · exfalso; grind
                  · exfalso; grind
                · exfalso; grind
              · exfalso; grind
            · exfalso; grind
          · exfalso; grind
        · exfalso; grind
    · exfalso; grind
  · refine xr_iload_n D_Mo_length_23 rfl rfl ?_
    refine xr_bipush (v := 127) D_Mo_length_24 rfl ?_
    refine xr_icmp_le (tgt := 48) D_Mo_length_26 rfl (fun c1 => ?_) (fun c1 => ?_)
    · exfalso; grind
    · refine xr_iload_n D_Mo_length_29 rfl rfl ?_
      refine xr_sipush (v := 132) D_Mo_length_30 rfl ?_
      refine xr_icmp_ge (tgt := 48) D_Mo_length_33 rfl (fun c2 => ?_) (fun c2 => ?_)
      · exfalso; grind
      · refine xr_iload_n D_Mo_length_36 rfl rfl ?_
        refine xr_sipush (v := 128) D_Mo_length_37 rfl ?_
        refine xr_cSx (as := [_, _]) (c_Mo_among) (L_Mo_209) (CD_Mo_among) D_Mo_length_40 rfl (by decide) (Nat.le_of_ble_eq_true rfl) (Nat.le_of_eq (Nat.zero_add _)) (Nat.le_of_eq (Nat.zero_add _)) pic_len ?_
        rintro _ rfl
        refine ⟨_, _, rfl, pic_leq, ?_⟩
        refine xr_i2l D_Mo_length_43 ?_
        refine xr_lstore_n D_Mo_length_44 rfl (by decide) ?_
        refine xr_goto (tgt := 358) D_Mo_length_45 rfl ?_
        refine xr_mono l_Mo_ln ?_
        rintro _ rfl
        refine oi (congrArg (lnX _) ?_)
        unfold lnN
        rw [if_pos (by grind)]
  · refine xr_iload_n D_Mo_length_23 rfl rfl ?_
    refine xr_bipush (v := 127) D_Mo_length_24 rfl ?_
    refine xr_icmp_le (tgt := 48) D_Mo_length_26 rfl (fun c1 => ?_) (fun c1 => ?_)
    · exfalso; grind
    · refine xr_iload_n D_Mo_length_29 rfl rfl ?_
      refine xr_sipush (v := 132) D_Mo_length_30 rfl ?_
      refine xr_icmp_ge (tgt := 48) D_Mo_length_33 rfl (fun c2 => ?_) (fun c2 => ?_)
      · refine xr_iload_n D_Mo_length_48 rfl rfl ?_
        refine xr_sipush (v := 132) D_Mo_length_49 rfl ?_
        refine xr_icmp_eq (tgt := 62) D_Mo_length_52 rfl (fun c3 => ?_) (fun c3 => ?_)
        · refine xr_ldc2 (v := 8) D_Mo_length_62 K_Mo_213 ?_
          refine xr_lstore_n D_Mo_length_65 rfl (by decide) ?_
          refine xr_goto (tgt := 358) D_Mo_length_66 rfl ?_
          refine xr_mono l_Mo_ln ?_
          rintro _ rfl
          refine oi (congrArg (lnX _) ?_)
          unfold lnN
          rw [if_neg (by grind), if_pos (by grind)]
        · refine xr_iload_n D_Mo_length_55 rfl rfl ?_
          refine xr_sipush (v := 137) D_Mo_length_56 rfl ?_
          refine xr_icmp_ne (tgt := 69) D_Mo_length_59 rfl (fun c4 => ?_) (fun c4 => ?_)
          · exfalso; grind
          · refine xr_ldc2 (v := 8) D_Mo_length_62 K_Mo_213 ?_
            refine xr_lstore_n D_Mo_length_65 rfl (by decide) ?_
            refine xr_goto (tgt := 358) D_Mo_length_66 rfl ?_
            refine xr_mono l_Mo_ln ?_
            rintro _ rfl
            refine oi (congrArg (lnX _) ?_)
            unfold lnN
            rw [if_neg (by grind), if_pos (by grind)]
      · exfalso; grind
  · refine xr_iload_n D_Mo_length_23 rfl rfl ?_
    refine xr_bipush (v := 127) D_Mo_length_24 rfl ?_
    refine xr_icmp_le (tgt := 48) D_Mo_length_26 rfl (fun c1 => ?_) (fun c1 => ?_)
    · exfalso; grind
    · refine xr_iload_n D_Mo_length_29 rfl rfl ?_
      refine xr_sipush (v := 132) D_Mo_length_30 rfl ?_
      refine xr_icmp_ge (tgt := 48) D_Mo_length_33 rfl (fun c2 => ?_) (fun c2 => ?_)
      · refine xr_iload_n D_Mo_length_48 rfl rfl ?_
        refine xr_sipush (v := 132) D_Mo_length_49 rfl ?_
        refine xr_icmp_eq (tgt := 62) D_Mo_length_52 rfl (fun c3 => ?_) (fun c3 => ?_)
        · exfalso; grind
        · refine xr_iload_n D_Mo_length_55 rfl rfl ?_
          refine xr_sipush (v := 137) D_Mo_length_56 rfl ?_
          refine xr_icmp_ne (tgt := 69) D_Mo_length_59 rfl (fun c4 => ?_) (fun c4 => ?_)
          · refine xr_iload_n D_Mo_length_69 rfl rfl ?_
            refine xr_sipush (v := 132) D_Mo_length_70 rfl ?_
            refine xr_icmp_le (tgt := 95) D_Mo_length_73 rfl (fun c5 => ?_) (fun c5 => ?_)
            · exfalso; grind
            · refine xr_iload_n D_Mo_length_76 rfl rfl ?_
              refine xr_sipush (v := 137) D_Mo_length_77 rfl ?_
              refine xr_icmp_ge (tgt := 95) D_Mo_length_80 rfl (fun c6 => ?_) (fun c6 => ?_)
              · exfalso; grind
              · refine xr_iload_n D_Mo_length_83 rfl rfl ?_
                refine xr_sipush (v := 133) D_Mo_length_84 rfl ?_
                refine xr_cSx (as := [_, _]) (c_Mo_among) (L_Mo_209) (CD_Mo_among) D_Mo_length_87 rfl (by decide) (Nat.le_of_ble_eq_true rfl) (Nat.le_of_eq (Nat.zero_add _)) (Nat.le_of_eq (Nat.zero_add _)) pic_len ?_
                rintro _ rfl
                refine ⟨_, _, rfl, pic_leq, ?_⟩
                refine xr_i2l D_Mo_length_90 ?_
                refine xr_lstore_n D_Mo_length_91 rfl (by decide) ?_
                refine xr_goto (tgt := 358) D_Mo_length_92 rfl ?_
                refine xr_mono l_Mo_ln ?_
                rintro _ rfl
                refine oi (congrArg (lnX _) ?_)
                unfold lnN
                rw [if_neg (by grind), if_neg (by grind), if_pos (by grind)]
          · exfalso; grind
      · exfalso; grind
  · refine xr_iload_n D_Mo_length_23 rfl rfl ?_
    refine xr_bipush (v := 127) D_Mo_length_24 rfl ?_
    refine xr_icmp_le (tgt := 48) D_Mo_length_26 rfl (fun c1 => ?_) (fun c1 => ?_)
    · exfalso; grind
    · refine xr_iload_n D_Mo_length_29 rfl rfl ?_
      refine xr_sipush (v := 132) D_Mo_length_30 rfl ?_
      refine xr_icmp_ge (tgt := 48) D_Mo_length_33 rfl (fun c2 => ?_) (fun c2 => ?_)
      · refine xr_iload_n D_Mo_length_48 rfl rfl ?_
        refine xr_sipush (v := 132) D_Mo_length_49 rfl ?_
        refine xr_icmp_eq (tgt := 62) D_Mo_length_52 rfl (fun c3 => ?_) (fun c3 => ?_)
        · exfalso; grind
        · refine xr_iload_n D_Mo_length_55 rfl rfl ?_
          refine xr_sipush (v := 137) D_Mo_length_56 rfl ?_
          refine xr_icmp_ne (tgt := 69) D_Mo_length_59 rfl (fun c4 => ?_) (fun c4 => ?_)
          · refine xr_iload_n D_Mo_length_69 rfl rfl ?_
            refine xr_sipush (v := 132) D_Mo_length_70 rfl ?_
            refine xr_icmp_le (tgt := 95) D_Mo_length_73 rfl (fun c5 => ?_) (fun c5 => ?_)
            · exfalso; grind
            · refine xr_iload_n D_Mo_length_76 rfl rfl ?_
              refine xr_sipush (v := 137) D_Mo_length_77 rfl ?_
              refine xr_icmp_ge (tgt := 95) D_Mo_length_80 rfl (fun c6 => ?_) (fun c6 => ?_)
              · refine xr_iload_n D_Mo_length_95 rfl rfl ?_
                refine xr_sipush (v := 139) D_Mo_length_96 rfl ?_
                refine xr_icmp_ne (tgt := 109) D_Mo_length_99 rfl (fun c7 => ?_) (fun c7 => ?_)
                · refine xr_iload_n D_Mo_length_109 rfl rfl ?_
                  refine xr_sipush (v := 142) D_Mo_length_110 rfl ?_
                  refine xr_icmp_le (tgt := 132) D_Mo_length_113 rfl (fun c8 => ?_) (fun c8 => ?_)
                  · refine xr_iload_n D_Mo_length_132 rfl rfl ?_
                    refine xr_sipush (v := 234) D_Mo_length_133 rfl ?_
                    refine xr_icmp_le (tgt := 158) D_Mo_length_136 rfl (fun c9 => ?_) (fun c9 => ?_)
                    · refine xr_iload_n D_Mo_length_158 rfl rfl ?_
                      refine xr_sipush (v := 238) D_Mo_length_159 rfl ?_
                      refine xr_icmp_le (tgt := 223) D_Mo_length_162 rfl (fun c10 => ?_) (fun c10 => ?_)
                      · refine xr_iload_n D_Mo_length_223 rfl rfl ?_
                        refine xr_sipush (v := 242) D_Mo_length_224 rfl ?_
                        refine xr_icmp_le (tgt := 293) D_Mo_length_227 rfl (fun c11 => ?_) (fun c11 => ?_)
                        · refine xr_iload_n D_Mo_length_293 rfl rfl ?_
                          refine xr_sipush (v := 247) D_Mo_length_294 rfl ?_
                          refine xr_icmp_ne (tgt := 333) D_Mo_length_297 rfl (fun c12 => ?_) (fun c12 => ?_)
                          · refine xr_iload_n D_Mo_length_333 rfl rfl ?_
                            refine xr_sipush (v := 248) D_Mo_length_334 rfl ?_
                            refine xr_icmp_ne (tgt := 347) D_Mo_length_337 rfl (fun c13 => ?_) (fun c13 => ?_)
                            · refine xr_iload_n D_Mo_length_347 rfl rfl ?_
                              refine xr_sipush (v := 249) D_Mo_length_348 rfl ?_
                              refine xr_icmp_ne (tgt := 358) D_Mo_length_351 rfl (fun c14 => ?_) (fun c14 => ?_)
                              · refine xr_mono l_Mo_ln ?_
                                rintro _ rfl
                                refine oi (congrArg (lnX _) ?_)
                                unfold lnN
                                rw [if_neg (by grind), if_neg (by grind), if_neg (by grind), if_neg (by grind), if_neg (by grind), if_neg (by grind), if_neg (by grind), if_neg (by grind), if_neg (by grind), if_neg (by grind), if_neg (by grind)]
                              · exfalso; grind
                            · exfalso; grind
                          · exfalso; grind
                        · exfalso; grind
                      · exfalso; grind
                    · exfalso; grind
                  · exfalso; grind
                · exfalso; grind
              · exfalso; grind
          · exfalso; grind
      · exfalso; grind
  · refine xr_iload_n D_Mo_length_23 rfl rfl ?_
    refine xr_bipush (v := 127) D_Mo_length_24 rfl ?_
    refine xr_icmp_le (tgt := 48) D_Mo_length_26 rfl (fun c1 => ?_) (fun c1 => ?_)
    · exfalso; grind
    · refine xr_iload_n D_Mo_length_29 rfl rfl ?_
      refine xr_sipush (v := 132) D_Mo_length_30 rfl ?_
      refine xr_icmp_ge (tgt := 48) D_Mo_length_33 rfl (fun c2 => ?_) (fun c2 => ?_)
      · refine xr_iload_n D_Mo_length_48 rfl rfl ?_
        refine xr_sipush (v := 132) D_Mo_length_49 rfl ?_
        refine xr_icmp_eq (tgt := 62) D_Mo_length_52 rfl (fun c3 => ?_) (fun c3 => ?_)
        · exfalso; grind
        · refine xr_iload_n D_Mo_length_55 rfl rfl ?_
          refine xr_sipush (v := 137) D_Mo_length_56 rfl ?_
          refine xr_icmp_ne (tgt := 69) D_Mo_length_59 rfl (fun c4 => ?_) (fun c4 => ?_)
          · refine xr_iload_n D_Mo_length_69 rfl rfl ?_
            refine xr_sipush (v := 132) D_Mo_length_70 rfl ?_
            refine xr_icmp_le (tgt := 95) D_Mo_length_73 rfl (fun c5 => ?_) (fun c5 => ?_)
            · exfalso; grind
            · refine xr_iload_n D_Mo_length_76 rfl rfl ?_
              refine xr_sipush (v := 137) D_Mo_length_77 rfl ?_
              refine xr_icmp_ge (tgt := 95) D_Mo_length_80 rfl (fun c6 => ?_) (fun c6 => ?_)
              · refine xr_iload_n D_Mo_length_95 rfl rfl ?_
                refine xr_sipush (v := 139) D_Mo_length_96 rfl ?_
                refine xr_icmp_ne (tgt := 109) D_Mo_length_99 rfl (fun c7 => ?_) (fun c7 => ?_)
                · exfalso; grind
                · refine xr_ldc2 (v := 44) D_Mo_length_102 K_Mo_215 ?_
                  refine xr_lstore_n D_Mo_length_105 rfl (by decide) ?_
                  refine xr_goto (tgt := 358) D_Mo_length_106 rfl ?_
                  refine xr_mono l_Mo_ln ?_
                  rintro _ rfl
                  refine oi (congrArg (lnX _) ?_)
                  unfold lnN
                  rw [if_neg (by grind), if_neg (by grind), if_neg (by grind), if_pos (by grind)]
              · exfalso; grind
          · exfalso; grind
      · exfalso; grind
  · refine xr_iload_n D_Mo_length_23 rfl rfl ?_
    refine xr_bipush (v := 127) D_Mo_length_24 rfl ?_
    refine xr_icmp_le (tgt := 48) D_Mo_length_26 rfl (fun c1 => ?_) (fun c1 => ?_)
    · exfalso; grind
    · refine xr_iload_n D_Mo_length_29 rfl rfl ?_
      refine xr_sipush (v := 132) D_Mo_length_30 rfl ?_
      refine xr_icmp_ge (tgt := 48) D_Mo_length_33 rfl (fun c2 => ?_) (fun c2 => ?_)
      · refine xr_iload_n D_Mo_length_48 rfl rfl ?_
        refine xr_sipush (v := 132) D_Mo_length_49 rfl ?_
        refine xr_icmp_eq (tgt := 62) D_Mo_length_52 rfl (fun c3 => ?_) (fun c3 => ?_)
        · exfalso; grind
        · refine xr_iload_n D_Mo_length_55 rfl rfl ?_
          refine xr_sipush (v := 137) D_Mo_length_56 rfl ?_
          refine xr_icmp_ne (tgt := 69) D_Mo_length_59 rfl (fun c4 => ?_) (fun c4 => ?_)
          · refine xr_iload_n D_Mo_length_69 rfl rfl ?_
            refine xr_sipush (v := 132) D_Mo_length_70 rfl ?_
            refine xr_icmp_le (tgt := 95) D_Mo_length_73 rfl (fun c5 => ?_) (fun c5 => ?_)
            · exfalso; grind
            · refine xr_iload_n D_Mo_length_76 rfl rfl ?_
              refine xr_sipush (v := 137) D_Mo_length_77 rfl ?_
              refine xr_icmp_ge (tgt := 95) D_Mo_length_80 rfl (fun c6 => ?_) (fun c6 => ?_)
              · refine xr_iload_n D_Mo_length_95 rfl rfl ?_
                refine xr_sipush (v := 139) D_Mo_length_96 rfl ?_
                refine xr_icmp_ne (tgt := 109) D_Mo_length_99 rfl (fun c7 => ?_) (fun c7 => ?_)
                · refine xr_iload_n D_Mo_length_109 rfl rfl ?_
                  refine xr_sipush (v := 142) D_Mo_length_110 rfl ?_
                  refine xr_icmp_le (tgt := 132) D_Mo_length_113 rfl (fun c8 => ?_) (fun c8 => ?_)
                  · exfalso; grind
                  · refine xr_iload_n D_Mo_length_116 rfl rfl ?_
                    refine xr_sipush (v := 171) D_Mo_length_117 rfl ?_
                    refine xr_icmp_ge (tgt := 132) D_Mo_length_120 rfl (fun c9 => ?_) (fun c9 => ?_)
                    · exfalso; grind
                    · refine xr_iload_n D_Mo_length_123 rfl rfl ?_
                      refine xr_cSx (as := [_]) (c_Mo_moveBytes) (L_Mo_217) (CD_Mo_moveBytes) D_Mo_length_124 rfl (by decide) (Nat.le_of_ble_eq_true rfl) (Nat.le_of_eq (Nat.zero_add _)) (Nat.le_of_eq (Nat.zero_add _)) pic_len ?_
                      rintro _ rfl
                      refine ⟨_, _, rfl, pic_leq, ?_⟩
                      refine xr_i2l D_Mo_length_127 ?_
                      refine xr_lstore_n D_Mo_length_128 rfl (by decide) ?_
                      refine xr_goto (tgt := 358) D_Mo_length_129 rfl ?_
                      refine xr_mono l_Mo_ln ?_
                      rintro _ rfl
                      refine oi (congrArg (lnX _) ?_)
                      unfold lnN
                      rw [if_neg (by grind), if_neg (by grind), if_neg (by grind), if_neg (by grind), if_pos (by grind)]
                · exfalso; grind
              · exfalso; grind
          · exfalso; grind
      · exfalso; grind
  · refine xr_iload_n D_Mo_length_23 rfl rfl ?_
    refine xr_bipush (v := 127) D_Mo_length_24 rfl ?_
    refine xr_icmp_le (tgt := 48) D_Mo_length_26 rfl (fun c1 => ?_) (fun c1 => ?_)
    · exfalso; grind
    · refine xr_iload_n D_Mo_length_29 rfl rfl ?_
      refine xr_sipush (v := 132) D_Mo_length_30 rfl ?_
      refine xr_icmp_ge (tgt := 48) D_Mo_length_33 rfl (fun c2 => ?_) (fun c2 => ?_)
      · refine xr_iload_n D_Mo_length_48 rfl rfl ?_
        refine xr_sipush (v := 132) D_Mo_length_49 rfl ?_
        refine xr_icmp_eq (tgt := 62) D_Mo_length_52 rfl (fun c3 => ?_) (fun c3 => ?_)
        · exfalso; grind
        · refine xr_iload_n D_Mo_length_55 rfl rfl ?_
          refine xr_sipush (v := 137) D_Mo_length_56 rfl ?_
          refine xr_icmp_ne (tgt := 69) D_Mo_length_59 rfl (fun c4 => ?_) (fun c4 => ?_)
          · refine xr_iload_n D_Mo_length_69 rfl rfl ?_
            refine xr_sipush (v := 132) D_Mo_length_70 rfl ?_
            refine xr_icmp_le (tgt := 95) D_Mo_length_73 rfl (fun c5 => ?_) (fun c5 => ?_)
            · exfalso; grind
            · refine xr_iload_n D_Mo_length_76 rfl rfl ?_
              refine xr_sipush (v := 137) D_Mo_length_77 rfl ?_
              refine xr_icmp_ge (tgt := 95) D_Mo_length_80 rfl (fun c6 => ?_) (fun c6 => ?_)
              · refine xr_iload_n D_Mo_length_95 rfl rfl ?_
                refine xr_sipush (v := 139) D_Mo_length_96 rfl ?_
                refine xr_icmp_ne (tgt := 109) D_Mo_length_99 rfl (fun c7 => ?_) (fun c7 => ?_)
                · refine xr_iload_n D_Mo_length_109 rfl rfl ?_
                  refine xr_sipush (v := 142) D_Mo_length_110 rfl ?_
                  refine xr_icmp_le (tgt := 132) D_Mo_length_113 rfl (fun c8 => ?_) (fun c8 => ?_)
                  · exfalso; grind
                  · refine xr_iload_n D_Mo_length_116 rfl rfl ?_
                    refine xr_sipush (v := 171) D_Mo_length_117 rfl ?_
                    refine xr_icmp_ge (tgt := 132) D_Mo_length_120 rfl (fun c9 => ?_) (fun c9 => ?_)
                    · refine xr_iload_n D_Mo_length_132 rfl rfl ?_
                      refine xr_sipush (v := 234) D_Mo_length_133 rfl ?_
                      refine xr_icmp_le (tgt := 158) D_Mo_length_136 rfl (fun c10 => ?_) (fun c10 => ?_)
                      · refine xr_iload_n D_Mo_length_158 rfl rfl ?_
                        refine xr_sipush (v := 238) D_Mo_length_159 rfl ?_
                        refine xr_icmp_le (tgt := 223) D_Mo_length_162 rfl (fun c11 => ?_) (fun c11 => ?_)
                        · refine xr_iload_n D_Mo_length_223 rfl rfl ?_
                          refine xr_sipush (v := 242) D_Mo_length_224 rfl ?_
                          refine xr_icmp_le (tgt := 293) D_Mo_length_227 rfl (fun c12 => ?_) (fun c12 => ?_)
                          · refine xr_iload_n D_Mo_length_293 rfl rfl ?_
                            refine xr_sipush (v := 247) D_Mo_length_294 rfl ?_
                            refine xr_icmp_ne (tgt := 333) D_Mo_length_297 rfl (fun c13 => ?_) (fun c13 => ?_)
                            · refine xr_iload_n D_Mo_length_333 rfl rfl ?_
                              refine xr_sipush (v := 248) D_Mo_length_334 rfl ?_
                              refine xr_icmp_ne (tgt := 347) D_Mo_length_337 rfl (fun c14 => ?_) (fun c14 => ?_)
                              · refine xr_iload_n D_Mo_length_347 rfl rfl ?_
                                refine xr_sipush (v := 249) D_Mo_length_348 rfl ?_
                                refine xr_icmp_ne (tgt := 358) D_Mo_length_351 rfl (fun c15 => ?_) (fun c15 => ?_)
                                · refine xr_mono l_Mo_ln ?_
                                  rintro _ rfl
                                  refine oi (congrArg (lnX _) ?_)
                                  unfold lnN
                                  rw [if_neg (by grind), if_neg (by grind), if_neg (by grind), if_neg (by grind), if_neg (by grind), if_neg (by grind), if_neg (by grind), if_neg (by grind), if_neg (by grind), if_neg (by grind), if_neg (by grind)]
                                · exfalso; grind
                              · exfalso; grind
                            · exfalso; grind
                          · exfalso; grind
                        · exfalso; grind
                      · exfalso; grind
                    · exfalso; grind
                · exfalso; grind
              · exfalso; grind
          · exfalso; grind
      · exfalso; grind
  · refine xr_iload_n D_Mo_length_23 rfl rfl ?_
    refine xr_bipush (v := 127) D_Mo_length_24 rfl ?_
    refine xr_icmp_le (tgt := 48) D_Mo_length_26 rfl (fun c1 => ?_) (fun c1 => ?_)
    · exfalso; grind
    · refine xr_iload_n D_Mo_length_29 rfl rfl ?_
      refine xr_sipush (v := 132) D_Mo_length_30 rfl ?_
      refine xr_icmp_ge (tgt := 48) D_Mo_length_33 rfl (fun c2 => ?_) (fun c2 => ?_)
      · refine xr_iload_n D_Mo_length_48 rfl rfl ?_
        refine xr_sipush (v := 132) D_Mo_length_49 rfl ?_
        refine xr_icmp_eq (tgt := 62) D_Mo_length_52 rfl (fun c3 => ?_) (fun c3 => ?_)
        · exfalso; grind
        · refine xr_iload_n D_Mo_length_55 rfl rfl ?_
          refine xr_sipush (v := 137) D_Mo_length_56 rfl ?_
          refine xr_icmp_ne (tgt := 69) D_Mo_length_59 rfl (fun c4 => ?_) (fun c4 => ?_)
          · refine xr_iload_n D_Mo_length_69 rfl rfl ?_
            refine xr_sipush (v := 132) D_Mo_length_70 rfl ?_
            refine xr_icmp_le (tgt := 95) D_Mo_length_73 rfl (fun c5 => ?_) (fun c5 => ?_)
            · exfalso; grind
            · refine xr_iload_n D_Mo_length_76 rfl rfl ?_
              refine xr_sipush (v := 137) D_Mo_length_77 rfl ?_
              refine xr_icmp_ge (tgt := 95) D_Mo_length_80 rfl (fun c6 => ?_) (fun c6 => ?_)
              · refine xr_iload_n D_Mo_length_95 rfl rfl ?_
                refine xr_sipush (v := 139) D_Mo_length_96 rfl ?_
                refine xr_icmp_ne (tgt := 109) D_Mo_length_99 rfl (fun c7 => ?_) (fun c7 => ?_)
                · refine xr_iload_n D_Mo_length_109 rfl rfl ?_
                  refine xr_sipush (v := 142) D_Mo_length_110 rfl ?_
                  refine xr_icmp_le (tgt := 132) D_Mo_length_113 rfl (fun c8 => ?_) (fun c8 => ?_)
                  · exfalso; grind
                  · refine xr_iload_n D_Mo_length_116 rfl rfl ?_
                    refine xr_sipush (v := 171) D_Mo_length_117 rfl ?_
                    refine xr_icmp_ge (tgt := 132) D_Mo_length_120 rfl (fun c9 => ?_) (fun c9 => ?_)
                    · refine xr_iload_n D_Mo_length_132 rfl rfl ?_
                      refine xr_sipush (v := 234) D_Mo_length_133 rfl ?_
                      refine xr_icmp_le (tgt := 158) D_Mo_length_136 rfl (fun c10 => ?_) (fun c10 => ?_)
                      · exfalso; grind
                      · refine xr_iload_n D_Mo_length_139 rfl rfl ?_
                        refine xr_sipush (v := 239) D_Mo_length_140 rfl ?_
                        refine xr_icmp_ge (tgt := 158) D_Mo_length_143 rfl (fun c11 => ?_) (fun c11 => ?_)
                        · exfalso; grind
                        · refine xr_iload_n D_Mo_length_146 rfl rfl ?_
                          refine xr_sipush (v := 235) D_Mo_length_147 rfl ?_
                          refine xr_cSx (as := [_, _]) (c_Mo_among) (L_Mo_209) (CD_Mo_among) D_Mo_length_150 rfl (by decide) (Nat.le_of_ble_eq_true rfl) (Nat.le_of_eq (Nat.zero_add _)) (Nat.le_of_eq (Nat.zero_add _)) pic_len ?_
                          rintro _ rfl
                          refine ⟨_, _, rfl, pic_leq, ?_⟩
                          refine xr_i2l D_Mo_length_153 ?_
                          refine xr_lstore_n D_Mo_length_154 rfl (by decide) ?_
                          refine xr_goto (tgt := 358) D_Mo_length_155 rfl ?_
                          refine xr_mono l_Mo_ln ?_
                          rintro _ rfl
                          refine oi (congrArg (lnX _) ?_)
                          unfold lnN
                          rw [if_neg (by grind), if_neg (by grind), if_neg (by grind), if_neg (by grind), if_neg (by grind), if_pos (by grind)]
                    · exfalso; grind
                · exfalso; grind
              · exfalso; grind
          · exfalso; grind
      · exfalso; grind
  · refine xr_iload_n D_Mo_length_23 rfl rfl ?_
    refine xr_bipush (v := 127) D_Mo_length_24 rfl ?_
    refine xr_icmp_le (tgt := 48) D_Mo_length_26 rfl (fun c1 => ?_) (fun c1 => ?_)
    · exfalso; grind
    · refine xr_iload_n D_Mo_length_29 rfl rfl ?_
      refine xr_sipush (v := 132) D_Mo_length_30 rfl ?_
      refine xr_icmp_ge (tgt := 48) D_Mo_length_33 rfl (fun c2 => ?_) (fun c2 => ?_)
      · refine xr_iload_n D_Mo_length_48 rfl rfl ?_
        refine xr_sipush (v := 132) D_Mo_length_49 rfl ?_
        refine xr_icmp_eq (tgt := 62) D_Mo_length_52 rfl (fun c3 => ?_) (fun c3 => ?_)
        · exfalso; grind
        · refine xr_iload_n D_Mo_length_55 rfl rfl ?_
          refine xr_sipush (v := 137) D_Mo_length_56 rfl ?_
          refine xr_icmp_ne (tgt := 69) D_Mo_length_59 rfl (fun c4 => ?_) (fun c4 => ?_)
          · refine xr_iload_n D_Mo_length_69 rfl rfl ?_
            refine xr_sipush (v := 132) D_Mo_length_70 rfl ?_
            refine xr_icmp_le (tgt := 95) D_Mo_length_73 rfl (fun c5 => ?_) (fun c5 => ?_)
            · exfalso; grind
            · refine xr_iload_n D_Mo_length_76 rfl rfl ?_
              refine xr_sipush (v := 137) D_Mo_length_77 rfl ?_
              refine xr_icmp_ge (tgt := 95) D_Mo_length_80 rfl (fun c6 => ?_) (fun c6 => ?_)
              · refine xr_iload_n D_Mo_length_95 rfl rfl ?_
                refine xr_sipush (v := 139) D_Mo_length_96 rfl ?_
                refine xr_icmp_ne (tgt := 109) D_Mo_length_99 rfl (fun c7 => ?_) (fun c7 => ?_)
                · refine xr_iload_n D_Mo_length_109 rfl rfl ?_
                  refine xr_sipush (v := 142) D_Mo_length_110 rfl ?_
                  refine xr_icmp_le (tgt := 132) D_Mo_length_113 rfl (fun c8 => ?_) (fun c8 => ?_)
                  · exfalso; grind
                  · refine xr_iload_n D_Mo_length_116 rfl rfl ?_
                    refine xr_sipush (v := 171) D_Mo_length_117 rfl ?_
                    refine xr_icmp_ge (tgt := 132) D_Mo_length_120 rfl (fun c9 => ?_) (fun c9 => ?_)
                    · refine xr_iload_n D_Mo_length_132 rfl rfl ?_
                      refine xr_sipush (v := 234) D_Mo_length_133 rfl ?_
                      refine xr_icmp_le (tgt := 158) D_Mo_length_136 rfl (fun c10 => ?_) (fun c10 => ?_)
                      · exfalso; grind
                      · refine xr_iload_n D_Mo_length_139 rfl rfl ?_
                        refine xr_sipush (v := 239) D_Mo_length_140 rfl ?_
                        refine xr_icmp_ge (tgt := 158) D_Mo_length_143 rfl (fun c11 => ?_) (fun c11 => ?_)
                        · refine xr_iload_n D_Mo_length_158 rfl rfl ?_
                          refine xr_sipush (v := 238) D_Mo_length_159 rfl ?_
                          refine xr_icmp_le (tgt := 223) D_Mo_length_162 rfl (fun c12 => ?_) (fun c12 => ?_)
                          · exfalso; grind
                          · refine xr_iload_n D_Mo_length_165 rfl rfl ?_
                            refine xr_sipush (v := 243) D_Mo_length_166 rfl ?_
                            refine xr_icmp_ge (tgt := 223) D_Mo_length_169 rfl (fun c13 => ?_) (fun c13 => ?_)
                            · exfalso; grind
                            · refine xr_iload_n D_Mo_length_172 rfl rfl ?_
                              refine xr_sipush (v := 239) D_Mo_length_173 rfl ?_
                              refine xr_cSx (as := [_, _]) (c_Mo_among) (L_Mo_209) (CD_Mo_among) D_Mo_length_176 rfl (by decide) (Nat.le_of_ble_eq_true rfl) (Nat.le_of_eq (Nat.zero_add _)) (Nat.le_of_eq (Nat.zero_add _)) pic_len ?_
                              rintro _ rfl
                              refine ⟨_, _, rfl, pic_leq, ?_⟩
                              refine xr_i2l D_Mo_length_179 ?_
                              refine xr_lstore_n D_Mo_length_180 rfl (by decide) ?_
                              refine xr_lload_n D_Mo_length_181 rfl rfl ?_
                              refine xr_iload_n D_Mo_length_182 rfl rfl ?_
                              refine xr_i2l D_Mo_length_183 ?_
                              refine xr_lcmp D_Mo_length_184 ?_
                              refine xr_if_gt (tgt := 358) D_Mo_length_185 rfl (fun c14 => ?_) (fun c14 => ?_)
                              · have cq : (I 3445 - I 3444 - 1 < gmt (A 54) (I 3444) - 239 + 1) := by
                                  have z := c14
                                  rw [cmp_gt, i64_t, i64_t] at z
                                  exact i_lt.mpr z
                                refine xr_mono l_Mo_ln ?_
                                rintro _ rfl
                                refine oi (congrArg (lnX _) ?_)
                                unfold lnN
                                rw [if_neg (by grind), if_neg (by grind), if_neg (by grind), if_neg (by grind), if_neg (by grind), if_neg (by grind), if_pos (by grind), if_pos cq]
                              · have cq : ¬ (I 3445 - I 3444 - 1 < gmt (A 54) (I 3444) - 239 + 1) := by
                                  have z := c14
                                  rw [cmp_gt, i64_t, i64_t] at z
                                  exact fun w => z (i_lt.mp w)
                                have b1 : 239 ≤ gmt (A 54) (I 3444) := by grind
                                have b2 : gmt (A 54) (I 3444) ≤ 242 := by grind
                                have e1 := sb_t (m := 238) hgr.2 b1 (by decide) rfl
                                have b3 := i_le.mp b1
                                have b4 := i_le.mp b2
                                rw [show (239 : Int32).toInt = 239 from rfl] at b3
                                rw [show (242 : Int32).toInt = 242 from rfl] at b4
                                rw [show (238 : Int32).toInt = 238 from rfl] at e1
                                have g0 := i_le.mp h0
                                have g1 := i_lt.mp h1
                                have g2 := i_le.mp h2
                                rw [z0] at g0
                                rw [z7] at g2
                                have el : (I 3445 - I 3444 - 1).toInt = (I 3445).toInt - (I 3444).toInt - 1 := by rw [i_sub (by rw [z1, i_sub (by omega) (by omega)]; omega) (by rw [z1, i_sub (by omega) (by omega)]; omega), z1, i_sub (by omega) (by omega)]
                                have g3 : ¬ ((I 3445 - I 3444 - 1).toInt < (gmt (A 54) (I 3444) - 239 + 1).toInt) := fun w => cq (i_lt.mpr w)
                                rw [el, e1] at g3
                                have e2 : (I 3444 + 1).toInt = (I 3444).toInt + 1 := by rw [i_add (by rw [z1]; omega) (by rw [z1]; omega), z1]
                                have q0 : 0 ≤ I 3444 + 1 := i_le.mpr (by rw [z0]; omega)
                                refine xr_aload_n D_Mo_length_188 rfl rfl ?_
                                refine xr_aload_n D_Mo_length_189 rfl rfl ?_
                                refine xr_getf F_Mo_203 D_Mo_length_190 rfl rfl ?_
                                refine xr_iconst (v := 1) D_Mo_length_193 rfl ?_
                                refine xr_iadd D_Mo_length_194 ?_
                                refine xr_lload_n D_Mo_length_195 rfl rfl ?_
                                refine xr_l2i D_Mo_length_196 ?_
                                rw [i64_32]
                                refine xr_iconst (v := 0) D_Mo_length_197 rfl ?_
                                refine xr_cVx (as := [_, _, _]) (c_Mo_numU ((gmt (A 54) (I 3444)).toInt - 238).toNat (by rw [e1]; omega) (by omega) (by omega) q0 (by rw [e2]; omega)) (L_Mo_220) (CD_Mo_number) CI_Mo D_Mo_length_198 rfl rfl (by decide) (Nat.le_of_ble_eq_true rfl) (Nat.le_of_eq (Nat.zero_add _)) (Nat.le_of_eq (Nat.zero_add _)) pic_len ?_
                                rintro _ rfl
                                refine ⟨_, _, rfl, pic_leq, ?_⟩
                                refine xr_istore D_Mo_length_201 (by decide) ?_
                                refine xr_iload D_Mo_length_203 rfl ?_
                                refine xr_if_ge (tgt := 214) D_Mo_length_205 rfl (fun c15 => ?_) (fun c15 => ?_)
                                · refine xr_lload_n D_Mo_length_214 rfl rfl ?_
                                  refine xr_iload D_Mo_length_215 rfl ?_
                                  refine xr_i2l D_Mo_length_217 ?_
                                  refine xr_ladd D_Mo_length_218 ?_
                                  refine xr_lstore_n D_Mo_length_219 rfl (by decide) ?_
                                  refine xr_goto (tgt := 358) D_Mo_length_220 rfl ?_
                                  refine xr_mono l_Mo_ln ?_
                                  rintro _ rfl
                                  refine oi (congrArg (lnX _) ?_)
                                  unfold lnN
                                  rw [if_neg (by grind), if_neg (by grind), if_neg (by grind), if_neg (by grind), if_neg (by grind), if_neg (by grind), if_pos (by grind), if_neg cq, if_neg (by grind)]
                                · refine xr_ldc2 (v := 1000000) D_Mo_length_208 K_Mo_224 ?_
                                  refine xr_goto (tgt := 219) D_Mo_length_211 rfl ?_
                                  refine xr_lstore_n D_Mo_length_219 rfl (by decide) ?_
                                  refine xr_goto (tgt := 358) D_Mo_length_220 rfl ?_
                                  refine xr_mono l_Mo_ln ?_
                                  rintro _ rfl
                                  refine oi (congrArg (lnX _) ?_)
                                  unfold lnN
                                  rw [if_neg (by grind), if_neg (by grind), if_neg (by grind), if_neg (by grind), if_neg (by grind), if_neg (by grind), if_pos (by grind), if_neg cq, if_pos (by grind)]
                        · exfalso; grind
                    · exfalso; grind
                · exfalso; grind
              · exfalso; grind
          · exfalso; grind
      · exfalso; grind
  · refine xr_iload_n D_Mo_length_23 rfl rfl ?_
    refine xr_bipush (v := 127) D_Mo_length_24 rfl ?_
    refine xr_icmp_le (tgt := 48) D_Mo_length_26 rfl (fun c1 => ?_) (fun c1 => ?_)
    · exfalso; grind
    · refine xr_iload_n D_Mo_length_29 rfl rfl ?_
      refine xr_sipush (v := 132) D_Mo_length_30 rfl ?_
      refine xr_icmp_ge (tgt := 48) D_Mo_length_33 rfl (fun c2 => ?_) (fun c2 => ?_)
      · refine xr_iload_n D_Mo_length_48 rfl rfl ?_
        refine xr_sipush (v := 132) D_Mo_length_49 rfl ?_
        refine xr_icmp_eq (tgt := 62) D_Mo_length_52 rfl (fun c3 => ?_) (fun c3 => ?_)
        · exfalso; grind
        · refine xr_iload_n D_Mo_length_55 rfl rfl ?_
          refine xr_sipush (v := 137) D_Mo_length_56 rfl ?_
          refine xr_icmp_ne (tgt := 69) D_Mo_length_59 rfl (fun c4 => ?_) (fun c4 => ?_)
          · refine xr_iload_n D_Mo_length_69 rfl rfl ?_
            refine xr_sipush (v := 132) D_Mo_length_70 rfl ?_
            refine xr_icmp_le (tgt := 95) D_Mo_length_73 rfl (fun c5 => ?_) (fun c5 => ?_)
            · exfalso; grind
            · refine xr_iload_n D_Mo_length_76 rfl rfl ?_
              refine xr_sipush (v := 137) D_Mo_length_77 rfl ?_
              refine xr_icmp_ge (tgt := 95) D_Mo_length_80 rfl (fun c6 => ?_) (fun c6 => ?_)
              · refine xr_iload_n D_Mo_length_95 rfl rfl ?_
                refine xr_sipush (v := 139) D_Mo_length_96 rfl ?_
                refine xr_icmp_ne (tgt := 109) D_Mo_length_99 rfl (fun c7 => ?_) (fun c7 => ?_)
                · refine xr_iload_n D_Mo_length_109 rfl rfl ?_
                  refine xr_sipush (v := 142) D_Mo_length_110 rfl ?_
                  refine xr_icmp_le (tgt := 132) D_Mo_length_113 rfl (fun c8 => ?_) (fun c8 => ?_)
                  · exfalso; grind
                  · refine xr_iload_n D_Mo_length_116 rfl rfl ?_
                    refine xr_sipush (v := 171) D_Mo_length_117 rfl ?_
                    refine xr_icmp_ge (tgt := 132) D_Mo_length_120 rfl (fun c9 => ?_) (fun c9 => ?_)
                    · refine xr_iload_n D_Mo_length_132 rfl rfl ?_
                      refine xr_sipush (v := 234) D_Mo_length_133 rfl ?_
                      refine xr_icmp_le (tgt := 158) D_Mo_length_136 rfl (fun c10 => ?_) (fun c10 => ?_)
                      · exfalso; grind
                      · refine xr_iload_n D_Mo_length_139 rfl rfl ?_
                        refine xr_sipush (v := 239) D_Mo_length_140 rfl ?_
                        refine xr_icmp_ge (tgt := 158) D_Mo_length_143 rfl (fun c11 => ?_) (fun c11 => ?_)
                        · refine xr_iload_n D_Mo_length_158 rfl rfl ?_
                          refine xr_sipush (v := 238) D_Mo_length_159 rfl ?_
                          refine xr_icmp_le (tgt := 223) D_Mo_length_162 rfl (fun c12 => ?_) (fun c12 => ?_)
                          · exfalso; grind
                          · refine xr_iload_n D_Mo_length_165 rfl rfl ?_
                            refine xr_sipush (v := 243) D_Mo_length_166 rfl ?_
                            refine xr_icmp_ge (tgt := 223) D_Mo_length_169 rfl (fun c13 => ?_) (fun c13 => ?_)
                            · refine xr_iload_n D_Mo_length_223 rfl rfl ?_
                              refine xr_sipush (v := 242) D_Mo_length_224 rfl ?_
                              refine xr_icmp_le (tgt := 293) D_Mo_length_227 rfl (fun c14 => ?_) (fun c14 => ?_)
                              · exfalso; grind
                              · refine xr_iload_n D_Mo_length_230 rfl rfl ?_
                                refine xr_sipush (v := 247) D_Mo_length_231 rfl ?_
                                refine xr_icmp_ge (tgt := 293) D_Mo_length_234 rfl (fun c15 => ?_) (fun c15 => ?_)
                                · exfalso; grind
                                · refine xr_iload_n D_Mo_length_237 rfl rfl ?_
                                  refine xr_sipush (v := 243) D_Mo_length_238 rfl ?_
                                  refine xr_cSx (as := [_, _]) (c_Mo_among) (L_Mo_209) (CD_Mo_among) D_Mo_length_241 rfl (by decide) (Nat.le_of_ble_eq_true rfl) (Nat.le_of_eq (Nat.zero_add _)) (Nat.le_of_eq (Nat.zero_add _)) pic_len ?_
                                  rintro _ rfl
                                  refine ⟨_, _, rfl, pic_leq, ?_⟩
                                  refine xr_bipush (v := 14) D_Mo_length_244 rfl ?_
                                  refine xr_iadd D_Mo_length_246 ?_
                                  refine xr_i2l D_Mo_length_247 ?_
                                  refine xr_lstore_n D_Mo_length_248 rfl (by decide) ?_
                                  refine xr_lload_n D_Mo_length_249 rfl rfl ?_
                                  refine xr_iload_n D_Mo_length_250 rfl rfl ?_
                                  refine xr_i2l D_Mo_length_251 ?_
                                  refine xr_lcmp D_Mo_length_252 ?_
                                  refine xr_if_gt (tgt := 288) D_Mo_length_253 rfl (fun c16 => ?_) (fun c16 => ?_)
                                  · have cq : (I 3445 - I 3444 - 1 < gmt (A 54) (I 3444) - 243 + 1 + 14) := by
                                      have z := c16
                                      rw [cmp_gt, i64_t, i64_t] at z
                                      exact i_lt.mpr z
                                    refine xr_lload_n D_Mo_length_288 rfl rfl ?_
                                    refine xr_lstore_n D_Mo_length_289 rfl (by decide) ?_
                                    refine xr_goto (tgt := 358) D_Mo_length_290 rfl ?_
                                    refine xr_mono l_Mo_ln ?_
                                    rintro _ rfl
                                    refine oi (congrArg (lnX _) ?_)
                                    unfold lnN
                                    rw [if_neg (by grind), if_neg (by grind), if_neg (by grind), if_neg (by grind), if_neg (by grind), if_neg (by grind), if_neg (by grind), if_pos (by grind), if_pos cq]
                                  · have cq : ¬ (I 3445 - I 3444 - 1 < gmt (A 54) (I 3444) - 243 + 1 + 14) := by
                                      have z := c16
                                      rw [cmp_gt, i64_t, i64_t] at z
                                      exact fun w => z (i_lt.mp w)
                                    have b1 : 243 ≤ gmt (A 54) (I 3444) := by grind
                                    have b2 : gmt (A 54) (I 3444) ≤ 246 := by grind
                                    refine xr_lload_n D_Mo_length_256 rfl rfl ?_
                                    refine xr_aload_n D_Mo_length_257 rfl rfl ?_
                                    refine xr_aload_n D_Mo_length_258 rfl rfl ?_
                                    refine xr_getf F_Mo_203 D_Mo_length_259 rfl rfl ?_
                                    refine xr_lload_n D_Mo_length_262 rfl rfl ?_
                                    refine xr_l2i D_Mo_length_263 ?_
                                    rw [i64_32]
                                    refine xr_iadd D_Mo_length_264 ?_
                                    refine xr_iconst (v := 1) D_Mo_length_265 rfl ?_
                                    refine xr_isub D_Mo_length_266 ?_
                                    refine xr_cVx (as := [_]) (c_Mo_byteAt_34 (by grind) (by grind)) (L_Mo_200) (CD_Mo_byteAt) CI_Mo D_Mo_length_267 rfl rfl (by decide) (Nat.le_of_ble_eq_true rfl) (Nat.le_of_eq (Nat.zero_add _)) (Nat.le_of_eq (Nat.zero_add _)) pic_len ?_
                                    rintro _ rfl
                                    refine ⟨_, _, rfl, pic_leq, ?_⟩
                                    refine xr_i2l D_Mo_length_270 ?_
                                    refine xr_ladd D_Mo_length_271 ?_
                                    refine xr_aload_n D_Mo_length_272 rfl rfl ?_
                                    refine xr_aload_n D_Mo_length_273 rfl rfl ?_
                                    refine xr_getf F_Mo_203 D_Mo_length_274 rfl rfl ?_
                                    refine xr_lload_n D_Mo_length_277 rfl rfl ?_
                                    refine xr_l2i D_Mo_length_278 ?_
                                    rw [i64_32]
                                    refine xr_iadd D_Mo_length_279 ?_
                                    refine xr_cVx (as := [_]) (c_Mo_byteAt_34 (by grind) (by grind)) (L_Mo_200) (CD_Mo_byteAt) CI_Mo D_Mo_length_280 rfl rfl (by decide) (Nat.le_of_ble_eq_true rfl) (Nat.le_of_eq (Nat.zero_add _)) (Nat.le_of_eq (Nat.zero_add _)) pic_len ?_
                                    rintro _ rfl
                                    refine ⟨_, _, rfl, pic_leq, ?_⟩
                                    refine xr_i2l D_Mo_length_283 ?_
                                    refine xr_ladd D_Mo_length_284 ?_
                                    refine xr_goto (tgt := 289) D_Mo_length_285 rfl ?_
                                    refine xr_lstore_n D_Mo_length_289 rfl (by decide) ?_
                                    refine xr_goto (tgt := 358) D_Mo_length_290 rfl ?_
                                    refine xr_mono l_Mo_ln ?_
                                    rintro _ rfl
                                    refine oi (congrArg (lnX _) ?_)
                                    unfold lnN
                                    rw [if_neg (by grind), if_neg (by grind), if_neg (by grind), if_neg (by grind), if_neg (by grind), if_neg (by grind), if_neg (by grind), if_pos (by grind), if_neg cq]
                            · exfalso; grind
                        · exfalso; grind
                    · exfalso; grind
                · exfalso; grind
              · exfalso; grind
          · exfalso; grind
      · exfalso; grind
  · refine xr_iload_n D_Mo_length_23 rfl rfl ?_
    refine xr_bipush (v := 127) D_Mo_length_24 rfl ?_
    refine xr_icmp_le (tgt := 48) D_Mo_length_26 rfl (fun c1 => ?_) (fun c1 => ?_)
    · exfalso; grind
    · refine xr_iload_n D_Mo_length_29 rfl rfl ?_
      refine xr_sipush (v := 132) D_Mo_length_30 rfl ?_
      refine xr_icmp_ge (tgt := 48) D_Mo_length_33 rfl (fun c2 => ?_) (fun c2 => ?_)
      · refine xr_iload_n D_Mo_length_48 rfl rfl ?_
        refine xr_sipush (v := 132) D_Mo_length_49 rfl ?_
        refine xr_icmp_eq (tgt := 62) D_Mo_length_52 rfl (fun c3 => ?_) (fun c3 => ?_)
        · exfalso; grind
        · refine xr_iload_n D_Mo_length_55 rfl rfl ?_
          refine xr_sipush (v := 137) D_Mo_length_56 rfl ?_
          refine xr_icmp_ne (tgt := 69) D_Mo_length_59 rfl (fun c4 => ?_) (fun c4 => ?_)
          · refine xr_iload_n D_Mo_length_69 rfl rfl ?_
            refine xr_sipush (v := 132) D_Mo_length_70 rfl ?_
            refine xr_icmp_le (tgt := 95) D_Mo_length_73 rfl (fun c5 => ?_) (fun c5 => ?_)
            · exfalso; grind
            · refine xr_iload_n D_Mo_length_76 rfl rfl ?_
              refine xr_sipush (v := 137) D_Mo_length_77 rfl ?_
              refine xr_icmp_ge (tgt := 95) D_Mo_length_80 rfl (fun c6 => ?_) (fun c6 => ?_)
              · refine xr_iload_n D_Mo_length_95 rfl rfl ?_
                refine xr_sipush (v := 139) D_Mo_length_96 rfl ?_
                refine xr_icmp_ne (tgt := 109) D_Mo_length_99 rfl (fun c7 => ?_) (fun c7 => ?_)
                · refine xr_iload_n D_Mo_length_109 rfl rfl ?_
                  refine xr_sipush (v := 142) D_Mo_length_110 rfl ?_
                  refine xr_icmp_le (tgt := 132) D_Mo_length_113 rfl (fun c8 => ?_) (fun c8 => ?_)
                  · exfalso; grind
                  · refine xr_iload_n D_Mo_length_116 rfl rfl ?_
                    refine xr_sipush (v := 171) D_Mo_length_117 rfl ?_
                    refine xr_icmp_ge (tgt := 132) D_Mo_length_120 rfl (fun c9 => ?_) (fun c9 => ?_)
                    · refine xr_iload_n D_Mo_length_132 rfl rfl ?_
                      refine xr_sipush (v := 234) D_Mo_length_133 rfl ?_
                      refine xr_icmp_le (tgt := 158) D_Mo_length_136 rfl (fun c10 => ?_) (fun c10 => ?_)
                      · exfalso; grind
                      · refine xr_iload_n D_Mo_length_139 rfl rfl ?_
                        refine xr_sipush (v := 239) D_Mo_length_140 rfl ?_
                        refine xr_icmp_ge (tgt := 158) D_Mo_length_143 rfl (fun c11 => ?_) (fun c11 => ?_)
                        · refine xr_iload_n D_Mo_length_158 rfl rfl ?_
                          refine xr_sipush (v := 238) D_Mo_length_159 rfl ?_
                          refine xr_icmp_le (tgt := 223) D_Mo_length_162 rfl (fun c12 => ?_) (fun c12 => ?_)
                          · exfalso; grind
                          · refine xr_iload_n D_Mo_length_165 rfl rfl ?_
                            refine xr_sipush (v := 243) D_Mo_length_166 rfl ?_
                            refine xr_icmp_ge (tgt := 223) D_Mo_length_169 rfl (fun c13 => ?_) (fun c13 => ?_)
                            · refine xr_iload_n D_Mo_length_223 rfl rfl ?_
                              refine xr_sipush (v := 242) D_Mo_length_224 rfl ?_
                              refine xr_icmp_le (tgt := 293) D_Mo_length_227 rfl (fun c14 => ?_) (fun c14 => ?_)
                              · exfalso; grind
                              · refine xr_iload_n D_Mo_length_230 rfl rfl ?_
                                refine xr_sipush (v := 247) D_Mo_length_231 rfl ?_
                                refine xr_icmp_ge (tgt := 293) D_Mo_length_234 rfl (fun c15 => ?_) (fun c15 => ?_)
                                · refine xr_iload_n D_Mo_length_293 rfl rfl ?_
                                  refine xr_sipush (v := 247) D_Mo_length_294 rfl ?_
                                  refine xr_icmp_ne (tgt := 333) D_Mo_length_297 rfl (fun c16 => ?_) (fun c16 => ?_)
                                  · exfalso; grind
                                  · refine xr_ldc2 (v := 14) D_Mo_length_300 K_Mo_226 ?_
                                    refine xr_lstore_n D_Mo_length_303 rfl (by decide) ?_
                                    refine xr_lload_n D_Mo_length_304 rfl rfl ?_
                                    refine xr_iload_n D_Mo_length_305 rfl rfl ?_
                                    refine xr_i2l D_Mo_length_306 ?_
                                    refine xr_lcmp D_Mo_length_307 ?_
                                    refine xr_if_gt (tgt := 328) D_Mo_length_308 rfl (fun c17 => ?_) (fun c17 => ?_)
                                    · have cq : (I 3445 - I 3444 - 1 < 14) := by
                                        have z := c17
                                        rw [cmp_gt, i64_t] at z
                                        exact i_lt.mpr z
                                      refine xr_lload_n D_Mo_length_328 rfl rfl ?_
                                      refine xr_lstore_n D_Mo_length_329 rfl (by decide) ?_
                                      refine xr_goto (tgt := 358) D_Mo_length_330 rfl ?_
                                      refine xr_mono l_Mo_ln ?_
                                      rintro _ rfl
                                      refine oi (congrArg (lnX _) ?_)
                                      unfold lnN
                                      rw [if_neg (by grind), if_neg (by grind), if_neg (by grind), if_neg (by grind), if_neg (by grind), if_neg (by grind), if_neg (by grind), if_neg (by grind), if_pos (by grind), if_pos cq]
                                    · have cq : ¬ (I 3445 - I 3444 - 1 < 14) := by
                                        have z := c17
                                        rw [cmp_gt, i64_t] at z
                                        exact fun w => z (i_lt.mp w)
                                      refine xr_lload_n D_Mo_length_311 rfl rfl ?_
                                      refine xr_aload_n D_Mo_length_312 rfl rfl ?_
                                      refine xr_aload_n D_Mo_length_313 rfl rfl ?_
                                      refine xr_getf F_Mo_203 D_Mo_length_314 rfl rfl ?_
                                      refine xr_bipush (v := 14) D_Mo_length_317 rfl ?_
                                      refine xr_iadd D_Mo_length_319 ?_
                                      refine xr_cVx (as := [_]) (c_Mo_byteAt_34 (by grind) (by grind)) (L_Mo_200) (CD_Mo_byteAt) CI_Mo D_Mo_length_320 rfl rfl (by decide) (Nat.le_of_ble_eq_true rfl) (Nat.le_of_eq (Nat.zero_add _)) (Nat.le_of_eq (Nat.zero_add _)) pic_len ?_
                                      rintro _ rfl
                                      refine ⟨_, _, rfl, pic_leq, ?_⟩
                                      refine xr_i2l D_Mo_length_323 ?_
                                      refine xr_ladd D_Mo_length_324 ?_
                                      refine xr_goto (tgt := 329) D_Mo_length_325 rfl ?_
                                      refine xr_lstore_n D_Mo_length_329 rfl (by decide) ?_
                                      refine xr_goto (tgt := 358) D_Mo_length_330 rfl ?_
                                      refine xr_mono l_Mo_ln ?_
                                      rintro _ rfl
                                      refine oi (congrArg (lnX _) ?_)
                                      unfold lnN
                                      rw [if_neg (by grind), if_neg (by grind), if_neg (by grind), if_neg (by grind), if_neg (by grind), if_neg (by grind), if_neg (by grind), if_neg (by grind), if_pos (by grind), if_neg cq]
                                · exfalso; grind
                            · exfalso; grind
                        · exfalso; grind
                    · exfalso; grind
                · exfalso; grind
              · exfalso; grind
          · exfalso; grind
      · exfalso; grind
  · refine xr_iload_n D_Mo_length_23 rfl rfl ?_
    refine xr_bipush (v := 127) D_Mo_length_24 rfl ?_
    refine xr_icmp_le (tgt := 48) D_Mo_length_26 rfl (fun c1 => ?_) (fun c1 => ?_)
    · exfalso; grind
    · refine xr_iload_n D_Mo_length_29 rfl rfl ?_
      refine xr_sipush (v := 132) D_Mo_length_30 rfl ?_
      refine xr_icmp_ge (tgt := 48) D_Mo_length_33 rfl (fun c2 => ?_) (fun c2 => ?_)
      · refine xr_iload_n D_Mo_length_48 rfl rfl ?_
        refine xr_sipush (v := 132) D_Mo_length_49 rfl ?_
        refine xr_icmp_eq (tgt := 62) D_Mo_length_52 rfl (fun c3 => ?_) (fun c3 => ?_)
        · exfalso; grind
        · refine xr_iload_n D_Mo_length_55 rfl rfl ?_
          refine xr_sipush (v := 137) D_Mo_length_56 rfl ?_
          refine xr_icmp_ne (tgt := 69) D_Mo_length_59 rfl (fun c4 => ?_) (fun c4 => ?_)
          · refine xr_iload_n D_Mo_length_69 rfl rfl ?_
            refine xr_sipush (v := 132) D_Mo_length_70 rfl ?_
            refine xr_icmp_le (tgt := 95) D_Mo_length_73 rfl (fun c5 => ?_) (fun c5 => ?_)
            · exfalso; grind
            · refine xr_iload_n D_Mo_length_76 rfl rfl ?_
              refine xr_sipush (v := 137) D_Mo_length_77 rfl ?_
              refine xr_icmp_ge (tgt := 95) D_Mo_length_80 rfl (fun c6 => ?_) (fun c6 => ?_)
              · refine xr_iload_n D_Mo_length_95 rfl rfl ?_
                refine xr_sipush (v := 139) D_Mo_length_96 rfl ?_
                refine xr_icmp_ne (tgt := 109) D_Mo_length_99 rfl (fun c7 => ?_) (fun c7 => ?_)
                · refine xr_iload_n D_Mo_length_109 rfl rfl ?_
                  refine xr_sipush (v := 142) D_Mo_length_110 rfl ?_
                  refine xr_icmp_le (tgt := 132) D_Mo_length_113 rfl (fun c8 => ?_) (fun c8 => ?_)
                  · exfalso; grind
                  · refine xr_iload_n D_Mo_length_116 rfl rfl ?_
                    refine xr_sipush (v := 171) D_Mo_length_117 rfl ?_
                    refine xr_icmp_ge (tgt := 132) D_Mo_length_120 rfl (fun c9 => ?_) (fun c9 => ?_)
                    · refine xr_iload_n D_Mo_length_132 rfl rfl ?_
                      refine xr_sipush (v := 234) D_Mo_length_133 rfl ?_
                      refine xr_icmp_le (tgt := 158) D_Mo_length_136 rfl (fun c10 => ?_) (fun c10 => ?_)
                      · exfalso; grind
                      · refine xr_iload_n D_Mo_length_139 rfl rfl ?_
                        refine xr_sipush (v := 239) D_Mo_length_140 rfl ?_
                        refine xr_icmp_ge (tgt := 158) D_Mo_length_143 rfl (fun c11 => ?_) (fun c11 => ?_)
                        · refine xr_iload_n D_Mo_length_158 rfl rfl ?_
                          refine xr_sipush (v := 238) D_Mo_length_159 rfl ?_
                          refine xr_icmp_le (tgt := 223) D_Mo_length_162 rfl (fun c12 => ?_) (fun c12 => ?_)
                          · exfalso; grind
                          · refine xr_iload_n D_Mo_length_165 rfl rfl ?_
                            refine xr_sipush (v := 243) D_Mo_length_166 rfl ?_
                            refine xr_icmp_ge (tgt := 223) D_Mo_length_169 rfl (fun c13 => ?_) (fun c13 => ?_)
                            · refine xr_iload_n D_Mo_length_223 rfl rfl ?_
                              refine xr_sipush (v := 242) D_Mo_length_224 rfl ?_
                              refine xr_icmp_le (tgt := 293) D_Mo_length_227 rfl (fun c14 => ?_) (fun c14 => ?_)
                              · exfalso; grind
                              · refine xr_iload_n D_Mo_length_230 rfl rfl ?_
                                refine xr_sipush (v := 247) D_Mo_length_231 rfl ?_
                                refine xr_icmp_ge (tgt := 293) D_Mo_length_234 rfl (fun c15 => ?_) (fun c15 => ?_)
                                · refine xr_iload_n D_Mo_length_293 rfl rfl ?_
                                  refine xr_sipush (v := 247) D_Mo_length_294 rfl ?_
                                  refine xr_icmp_ne (tgt := 333) D_Mo_length_297 rfl (fun c16 => ?_) (fun c16 => ?_)
                                  · refine xr_iload_n D_Mo_length_333 rfl rfl ?_
                                    refine xr_sipush (v := 248) D_Mo_length_334 rfl ?_
                                    refine xr_icmp_ne (tgt := 347) D_Mo_length_337 rfl (fun c17 => ?_) (fun c17 => ?_)
                                    · exfalso; grind
                                    · refine xr_ldc2 (v := 28) D_Mo_length_340 K_Mo_228 ?_
                                      refine xr_lstore_n D_Mo_length_343 rfl (by decide) ?_
                                      refine xr_goto (tgt := 358) D_Mo_length_344 rfl ?_
                                      refine xr_mono l_Mo_ln ?_
                                      rintro _ rfl
                                      refine oi (congrArg (lnX _) ?_)
                                      unfold lnN
                                      rw [if_neg (by grind), if_neg (by grind), if_neg (by grind), if_neg (by grind), if_neg (by grind), if_neg (by grind), if_neg (by grind), if_neg (by grind), if_neg (by grind), if_pos (by grind)]
                                  · exfalso; grind
                                · exfalso; grind
                            · exfalso; grind
                        · exfalso; grind
                    · exfalso; grind
                · exfalso; grind
              · exfalso; grind
          · exfalso; grind
      · exfalso; grind
  · refine xr_iload_n D_Mo_length_23 rfl rfl ?_
    refine xr_bipush (v := 127) D_Mo_length_24 rfl ?_
    refine xr_icmp_le (tgt := 48) D_Mo_length_26 rfl (fun c1 => ?_) (fun c1 => ?_)
    · exfalso; grind
    · refine xr_iload_n D_Mo_length_29 rfl rfl ?_
      refine xr_sipush (v := 132) D_Mo_length_30 rfl ?_
      refine xr_icmp_ge (tgt := 48) D_Mo_length_33 rfl (fun c2 => ?_) (fun c2 => ?_)
      · refine xr_iload_n D_Mo_length_48 rfl rfl ?_
        refine xr_sipush (v := 132) D_Mo_length_49 rfl ?_
        refine xr_icmp_eq (tgt := 62) D_Mo_length_52 rfl (fun c3 => ?_) (fun c3 => ?_)
        · exfalso; grind
        · refine xr_iload_n D_Mo_length_55 rfl rfl ?_
          refine xr_sipush (v := 137) D_Mo_length_56 rfl ?_
          refine xr_icmp_ne (tgt := 69) D_Mo_length_59 rfl (fun c4 => ?_) (fun c4 => ?_)
          · refine xr_iload_n D_Mo_length_69 rfl rfl ?_
            refine xr_sipush (v := 132) D_Mo_length_70 rfl ?_
            refine xr_icmp_le (tgt := 95) D_Mo_length_73 rfl (fun c5 => ?_) (fun c5 => ?_)
            · exfalso; grind
            · refine xr_iload_n D_Mo_length_76 rfl rfl ?_
              refine xr_sipush (v := 137) D_Mo_length_77 rfl ?_
              refine xr_icmp_ge (tgt := 95) D_Mo_length_80 rfl (fun c6 => ?_) (fun c6 => ?_)
              · refine xr_iload_n D_Mo_length_95 rfl rfl ?_
                refine xr_sipush (v := 139) D_Mo_length_96 rfl ?_
                refine xr_icmp_ne (tgt := 109) D_Mo_length_99 rfl (fun c7 => ?_) (fun c7 => ?_)
                · refine xr_iload_n D_Mo_length_109 rfl rfl ?_
                  refine xr_sipush (v := 142) D_Mo_length_110 rfl ?_
                  refine xr_icmp_le (tgt := 132) D_Mo_length_113 rfl (fun c8 => ?_) (fun c8 => ?_)
                  · exfalso; grind
                  · refine xr_iload_n D_Mo_length_116 rfl rfl ?_
                    refine xr_sipush (v := 171) D_Mo_length_117 rfl ?_
                    refine xr_icmp_ge (tgt := 132) D_Mo_length_120 rfl (fun c9 => ?_) (fun c9 => ?_)
                    · refine xr_iload_n D_Mo_length_132 rfl rfl ?_
                      refine xr_sipush (v := 234) D_Mo_length_133 rfl ?_
                      refine xr_icmp_le (tgt := 158) D_Mo_length_136 rfl (fun c10 => ?_) (fun c10 => ?_)
                      · exfalso; grind
                      · refine xr_iload_n D_Mo_length_139 rfl rfl ?_
                        refine xr_sipush (v := 239) D_Mo_length_140 rfl ?_
                        refine xr_icmp_ge (tgt := 158) D_Mo_length_143 rfl (fun c11 => ?_) (fun c11 => ?_)
                        · refine xr_iload_n D_Mo_length_158 rfl rfl ?_
                          refine xr_sipush (v := 238) D_Mo_length_159 rfl ?_
                          refine xr_icmp_le (tgt := 223) D_Mo_length_162 rfl (fun c12 => ?_) (fun c12 => ?_)
                          · exfalso; grind
                          · refine xr_iload_n D_Mo_length_165 rfl rfl ?_
                            refine xr_sipush (v := 243) D_Mo_length_166 rfl ?_
                            refine xr_icmp_ge (tgt := 223) D_Mo_length_169 rfl (fun c13 => ?_) (fun c13 => ?_)
                            · refine xr_iload_n D_Mo_length_223 rfl rfl ?_
                              refine xr_sipush (v := 242) D_Mo_length_224 rfl ?_
                              refine xr_icmp_le (tgt := 293) D_Mo_length_227 rfl (fun c14 => ?_) (fun c14 => ?_)
                              · exfalso; grind
                              · refine xr_iload_n D_Mo_length_230 rfl rfl ?_
                                refine xr_sipush (v := 247) D_Mo_length_231 rfl ?_
                                refine xr_icmp_ge (tgt := 293) D_Mo_length_234 rfl (fun c15 => ?_) (fun c15 => ?_)
                                · refine xr_iload_n D_Mo_length_293 rfl rfl ?_
                                  refine xr_sipush (v := 247) D_Mo_length_294 rfl ?_
                                  refine xr_icmp_ne (tgt := 333) D_Mo_length_297 rfl (fun c16 => ?_) (fun c16 => ?_)
                                  · refine xr_iload_n D_Mo_length_333 rfl rfl ?_
                                    refine xr_sipush (v := 248) D_Mo_length_334 rfl ?_
                                    refine xr_icmp_ne (tgt := 347) D_Mo_length_337 rfl (fun c17 => ?_) (fun c17 => ?_)
                                    · refine xr_iload_n D_Mo_length_347 rfl rfl ?_
                                      refine xr_sipush (v := 249) D_Mo_length_348 rfl ?_
                                      refine xr_icmp_ne (tgt := 358) D_Mo_length_351 rfl (fun c18 => ?_) (fun c18 => ?_)
                                      · exfalso; grind
                                      · refine xr_ldc2 (v := 5) D_Mo_length_354 K_Mo_230 ?_
                                        refine xr_lstore_n D_Mo_length_357 rfl (by decide) ?_
                                        refine xr_mono l_Mo_ln ?_
                                        rintro _ rfl
                                        refine oi (congrArg (lnX _) ?_)
                                        unfold lnN
                                        rw [if_neg (by grind), if_neg (by grind), if_neg (by grind), if_neg (by grind), if_neg (by grind), if_neg (by grind), if_neg (by grind), if_neg (by grind), if_neg (by grind), if_neg (by grind), if_pos (by grind)]
                                    · exfalso; grind
                                  · exfalso; grind
                                · exfalso; grind
                            · exfalso; grind
                        · exfalso; grind
                    · exfalso; grind
                · exfalso; grind
              · exfalso; grind
          · exfalso; grind
      · exfalso; grind
  · refine xr_iload_n D_Mo_length_23 rfl rfl ?_
    refine xr_bipush (v := 127) D_Mo_length_24 rfl ?_
    refine xr_icmp_le (tgt := 48) D_Mo_length_26 rfl (fun c1 => ?_) (fun c1 => ?_)
    · exfalso; grind
    · refine xr_iload_n D_Mo_length_29 rfl rfl ?_
      refine xr_sipush (v := 132) D_Mo_length_30 rfl ?_
      refine xr_icmp_ge (tgt := 48) D_Mo_length_33 rfl (fun c2 => ?_) (fun c2 => ?_)
      · refine xr_iload_n D_Mo_length_48 rfl rfl ?_
        refine xr_sipush (v := 132) D_Mo_length_49 rfl ?_
        refine xr_icmp_eq (tgt := 62) D_Mo_length_52 rfl (fun c3 => ?_) (fun c3 => ?_)
        · exfalso; grind
        · refine xr_iload_n D_Mo_length_55 rfl rfl ?_
          refine xr_sipush (v := 137) D_Mo_length_56 rfl ?_
          refine xr_icmp_ne (tgt := 69) D_Mo_length_59 rfl (fun c4 => ?_) (fun c4 => ?_)
          · refine xr_iload_n D_Mo_length_69 rfl rfl ?_
            refine xr_sipush (v := 132) D_Mo_length_70 rfl ?_
            refine xr_icmp_le (tgt := 95) D_Mo_length_73 rfl (fun c5 => ?_) (fun c5 => ?_)
            · exfalso; grind
            · refine xr_iload_n D_Mo_length_76 rfl rfl ?_
              refine xr_sipush (v := 137) D_Mo_length_77 rfl ?_
              refine xr_icmp_ge (tgt := 95) D_Mo_length_80 rfl (fun c6 => ?_) (fun c6 => ?_)
              · refine xr_iload_n D_Mo_length_95 rfl rfl ?_
                refine xr_sipush (v := 139) D_Mo_length_96 rfl ?_
                refine xr_icmp_ne (tgt := 109) D_Mo_length_99 rfl (fun c7 => ?_) (fun c7 => ?_)
                · refine xr_iload_n D_Mo_length_109 rfl rfl ?_
                  refine xr_sipush (v := 142) D_Mo_length_110 rfl ?_
                  refine xr_icmp_le (tgt := 132) D_Mo_length_113 rfl (fun c8 => ?_) (fun c8 => ?_)
                  · exfalso; grind
                  · refine xr_iload_n D_Mo_length_116 rfl rfl ?_
                    refine xr_sipush (v := 171) D_Mo_length_117 rfl ?_
                    refine xr_icmp_ge (tgt := 132) D_Mo_length_120 rfl (fun c9 => ?_) (fun c9 => ?_)
                    · refine xr_iload_n D_Mo_length_132 rfl rfl ?_
                      refine xr_sipush (v := 234) D_Mo_length_133 rfl ?_
                      refine xr_icmp_le (tgt := 158) D_Mo_length_136 rfl (fun c10 => ?_) (fun c10 => ?_)
                      · exfalso; grind
                      · refine xr_iload_n D_Mo_length_139 rfl rfl ?_
                        refine xr_sipush (v := 239) D_Mo_length_140 rfl ?_
                        refine xr_icmp_ge (tgt := 158) D_Mo_length_143 rfl (fun c11 => ?_) (fun c11 => ?_)
                        · refine xr_iload_n D_Mo_length_158 rfl rfl ?_
                          refine xr_sipush (v := 238) D_Mo_length_159 rfl ?_
                          refine xr_icmp_le (tgt := 223) D_Mo_length_162 rfl (fun c12 => ?_) (fun c12 => ?_)
                          · exfalso; grind
                          · refine xr_iload_n D_Mo_length_165 rfl rfl ?_
                            refine xr_sipush (v := 243) D_Mo_length_166 rfl ?_
                            refine xr_icmp_ge (tgt := 223) D_Mo_length_169 rfl (fun c13 => ?_) (fun c13 => ?_)
                            · refine xr_iload_n D_Mo_length_223 rfl rfl ?_
                              refine xr_sipush (v := 242) D_Mo_length_224 rfl ?_
                              refine xr_icmp_le (tgt := 293) D_Mo_length_227 rfl (fun c14 => ?_) (fun c14 => ?_)
                              · exfalso; grind
                              · refine xr_iload_n D_Mo_length_230 rfl rfl ?_
                                refine xr_sipush (v := 247) D_Mo_length_231 rfl ?_
                                refine xr_icmp_ge (tgt := 293) D_Mo_length_234 rfl (fun c15 => ?_) (fun c15 => ?_)
                                · refine xr_iload_n D_Mo_length_293 rfl rfl ?_
                                  refine xr_sipush (v := 247) D_Mo_length_294 rfl ?_
                                  refine xr_icmp_ne (tgt := 333) D_Mo_length_297 rfl (fun c16 => ?_) (fun c16 => ?_)
                                  · refine xr_iload_n D_Mo_length_333 rfl rfl ?_
                                    refine xr_sipush (v := 248) D_Mo_length_334 rfl ?_
                                    refine xr_icmp_ne (tgt := 347) D_Mo_length_337 rfl (fun c17 => ?_) (fun c17 => ?_)
                                    · refine xr_iload_n D_Mo_length_347 rfl rfl ?_
                                      refine xr_sipush (v := 249) D_Mo_length_348 rfl ?_
                                      refine xr_icmp_ne (tgt := 358) D_Mo_length_351 rfl (fun c18 => ?_) (fun c18 => ?_)
                                      · refine xr_mono l_Mo_ln ?_
                                        rintro _ rfl
                                        refine oi (congrArg (lnX _) ?_)
                                        unfold lnN
                                        rw [if_neg (by grind), if_neg (by grind), if_neg (by grind), if_neg (by grind), if_neg (by grind), if_neg (by grind), if_neg (by grind), if_neg (by grind), if_neg (by grind), if_neg (by grind), if_neg (by grind)]
                                      · exfalso; grind
                                    · exfalso; grind
                                  · exfalso; grind
                                · exfalso; grind
                            · exfalso; grind
                        · exfalso; grind
                    · exfalso; grind
                · exfalso; grind
              · exfalso; grind
          · exfalso; grind
      · exfalso; grind
