abbrev cmD (m : Int32) (f : Nat → Int32) (i x : Int32) : Prop := ¬ x = 0 ∧ cmF f x (m.toInt - (i.toInt + 1)).toNat (i.toInt + 1).toNat = true
theorem cmF_s {f : Nat → Int32} {x : Int32} {n s : Nat} : cmF f x (n + 1) s = ((f s == x) || cmF f x n (s + 1)) := rfl
def shB (p d : Int32) : List Int32 := ((p + Int32.ofNat (bfN d) - 1) &&& 255) :: numB d (bfN d)
def mvS (p d a b : Int32) (c : Int32 → Bool) : List Int32 × Int32 × Int32 :=
  if d = 0 then ([], a, b) else if d = a then ([(p + 4) &&& 255], a, b) else if d = b then ([(p + 9) &&& 255], a, b) else
  if c d = false then (shB p d, a, b) else if c a = false then (shB (p + 5) d, d, b) else if c b = false then (shB (p + 10) d, a, d) else (shB p d, a, b)
section MV
variable {p d a b : Int32} {c : Int32 → Bool}
theorem mv0 (h : d = 0) : mvS p d a b c = ([], a, b) := by unfold mvS; rw [if_pos h]
theorem mv1 (h0 : ¬ d = 0) (h : d = a) : mvS p d a b c = ([(p + 4) &&& 255], a, b) := by unfold mvS; rw [if_neg h0, if_pos h]
theorem mv2 (h0 : ¬ d = 0) (h1 : ¬ d = a) (h : d = b) : mvS p d a b c = ([(p + 9) &&& 255], a, b) := by unfold mvS; rw [if_neg h0, if_neg h1, if_pos h]
theorem mv3 (h0 : ¬ d = 0) (h1 : ¬ d = a) (h2 : ¬ d = b) (h : c d = false) : mvS p d a b c = (shB p d, a, b) := by unfold mvS; rw [if_neg h0, if_neg h1, if_neg h2, if_pos h]
theorem mv4 (h0 : ¬ d = 0) (h1 : ¬ d = a) (h2 : ¬ d = b) (h3 : c d = true) (h : c a = false) : mvS p d a b c = (shB (p + 5) d, d, b) := by unfold mvS; rw [if_neg h0, if_neg h1, if_neg h2, if_neg (by rw [h3]; decide), if_pos h]
theorem mv5 (h0 : ¬ d = 0) (h1 : ¬ d = a) (h2 : ¬ d = b) (h3 : c d = true) (h4 : c a = true) (h : c b = false) : mvS p d a b c = (shB (p + 10) d, a, d) := by unfold mvS; rw [if_neg h0, if_neg h1, if_neg h2, if_neg (by rw [h3]; decide), if_neg (by rw [h4]; decide), if_pos h]
theorem mv6 (h0 : ¬ d = 0) (h1 : ¬ d = a) (h2 : ¬ d = b) (h3 : c d = true) (h4 : c a = true) (h : c b = true) : mvS p d a b c = (shB p d, a, b) := by unfold mvS; rw [if_neg h0, if_neg h1, if_neg h2, if_neg (by rw [h3]; decide), if_neg (by rw [h4]; decide), if_neg (by rw [h]; decide)]
end MV
theorem b2n_F {m : Int32} {f : Nat → Int32} {i x : Int32} (h : ¬ cmD m f i x) : (fun z => decide (cmD m f i z)) x = false := decide_eq_false h
theorem b2n_T {m : Int32} {f : Nat → Int32} {i x : Int32} (h : cmD m f i x) : (fun z => decide (cmD m f i z)) x = true := decide_eq_true h

theorem l_Wa_cb_16 {I : mI} {A : mA} {L : mL} {i x : Int32} (hm : I 1602 ≤ 500) : ∀ (t : Nat) (j : Int32), 0 ≤ j → j.toInt + t = (I 1602).toInt → xr m_Wa_comesBehind none (0, 0) 14 [some (.ref 16), some (.int i), some (.int x), some (.int j)] [] (pic I A L) 0 0 (fun o => o = (.inl (some (.int (b2 (cmF (A 17) x t j.toInt.toNat = true)))), pic I A L)) := by
  have hm9 := i_le.mp hm
  have e500 : (500 : Int32).toInt = 500 := rfl
  intro t
  induction t with
  | zero =>
    intro j h0 hj
    refine xr_iload_n D_Wa_comesBehind_14 rfl rfl ?_
    refine xr_aload_n D_Wa_comesBehind_15 rfl rfl ?_
    refine xr_getf F_Wa_19 D_Wa_comesBehind_16 rfl rfl ?_
    refine xr_icmp_ge (tgt := 49) D_Wa_comesBehind_19 rfl (fun c1 => ?_) (fun c1 => ?_)
    · refine xr_iconst (v := 0) D_Wa_comesBehind_49 rfl ?_
      refine xr_zret rfl (by first | rfl | exact nar_b2 | exact nar_z hz) D_Wa_comesBehind_50 ?_
      exact ob_f (by simp [cmF])
    · exact absurd (i_le.mpr (by omega)) c1
  | succ t ih =>
    intro j h0 hj
    have g0 := i_le.mp h0
    rw [z0] at g0
    refine xr_iload_n D_Wa_comesBehind_14 rfl rfl ?_
    refine xr_aload_n D_Wa_comesBehind_15 rfl rfl ?_
    refine xr_getf F_Wa_19 D_Wa_comesBehind_16 rfl rfl ?_
    refine xr_icmp_ge (tgt := 49) D_Wa_comesBehind_19 rfl (fun c1 => ?_) (fun c1 => ?_)
    · exact absurd c1 (fun q => by rw [i_le] at q; omega)
    · refine xr_iload_n D_Wa_comesBehind_22 rfl rfl ?_
      refine xr_aload_n D_Wa_comesBehind_23 rfl rfl ?_
      refine xr_getf F_Wa_9 D_Wa_comesBehind_24 rfl rfl ?_
      refine xr_alen (v := 500) D_Wa_comesBehind_27 rfl (by simp [xtok]) rfl ?_
      refine xr_icmp_ge (tgt := 49) D_Wa_comesBehind_28 rfl (fun c2 => ?_) (fun c2 => ?_)
      · exact absurd c2 (fun q => by rw [i_le] at q; omega)
      · refine xr_aload_n D_Wa_comesBehind_31 rfl rfl ?_
        refine xr_getf F_Wa_9 D_Wa_comesBehind_32 rfl rfl ?_
        refine xr_iload_n D_Wa_comesBehind_35 rfl rfl ?_
        refine xr_iald D_Wa_comesBehind_36 rfl (by exact i_in (by omega) (by omega)) ?_
        refine xr_iload_n D_Wa_comesBehind_37 rfl rfl ?_
        refine xr_icmp_ne (tgt := 43) D_Wa_comesBehind_38 rfl (fun c3 => ?_) (fun c3 => ?_)
        · refine xr_iinc (c9 := 1) D_Wa_comesBehind_43 rfl rfl (by decide) ?_
          refine xr_goto (tgt := 14) D_Wa_comesBehind_46 rfl ?_
          refine xr_mono (ih (j + 1) (by grind) ?_) ?_
          · rw [i_add (by rw [z1]; omega) (by rw [z1]; omega), z1]; omega
          · rintro _ rfl
            refine ob_iff ?_
            have e : (j + 1).toInt.toNat = j.toInt.toNat + 1 := by rw [i_add (by rw [z1]; omega) (by rw [z1]; omega), z1]; omega
            rw [e, cmF_s]
            have hne : (A 17 j.toInt.toNat == x) = false := by simpa using c3
            rw [hne, Bool.false_or]
        · refine xr_iconst (v := 1) D_Wa_comesBehind_41 rfl ?_
          refine xr_zret rfl (by first | rfl | exact nar_b2 | exact nar_z hz) D_Wa_comesBehind_42 ?_
          have he : (A 17 j.toInt.toNat == x) = true := by simpa using c3
          exact ob_t (by rw [cmF_s, he, Bool.true_or])

theorem c_Wa_comesBehind_16 {I : mI} {A : mA} {L : mL} {i x : Int32} (h0 : 0 ≤ i) (h1 : i < I 1602) (hm : I 1602 ≤ 500) : xm m_Wa_comesBehind (0, 0) [.ref 16, .int i, .int x] (pic I A L) 0 0 (fun o => o = (.inl (some (.int (b2 (cmD (I 1602) (A 17) i x)))), pic I A L)) := by
  refine xm_of rfl (by decide) (Nat.le_of_ble_eq_true rfl) ?_
  refine xr_iload_n D_Wa_comesBehind_0 rfl rfl ?_
  refine xr_if_eq (tgt := 8) D_Wa_comesBehind_1 rfl (fun c1 => ?_) (fun c1 => ?_)
  · refine xr_iconst (v := 0) D_Wa_comesBehind_8 rfl ?_
    refine xr_zret rfl (by first | rfl | exact nar_b2 | exact nar_z hz) D_Wa_comesBehind_9 ?_
    exact ob_f (by grind)
  · refine xr_iload_n D_Wa_comesBehind_4 rfl rfl ?_
    refine xr_if_ge (tgt := 10) D_Wa_comesBehind_5 rfl (fun c2 => ?_) (fun c2 => ?_)
    · refine xr_iload_n D_Wa_comesBehind_10 rfl rfl ?_
      refine xr_iconst (v := 1) D_Wa_comesBehind_11 rfl ?_
      refine xr_iadd D_Wa_comesBehind_12 ?_
      refine xr_istore_n D_Wa_comesBehind_13 rfl (by decide) ?_
      have g0 := i_le.mp h0
      have g1 := i_lt.mp h1
      have gm := i_le.mp hm
      have e500 : (500 : Int32).toInt = 500 := rfl
      rw [z0] at g0
      have e : (i + 1).toInt = i.toInt + 1 := by rw [i_add (by rw [z1]; omega) (by rw [z1]; omega), z1]
      refine xr_mono (l_Wa_cb_16 hm ((I 1602).toInt - (i.toInt + 1)).toNat (i + 1) (by grind) (by rw [e]; omega)) ?_
      rintro _ rfl
      refine ob_iff ?_
      rw [e]
      exact ⟨fun q => ⟨c1, q⟩, fun q => q.2⟩
    · exact absurd h0 c2

theorem c_Wa_write_16 {I : mI} {A : mA} {L : mL} {B : List Int32} {i : Int32} (h0 : 0 ≤ i) (h1 : i < I 1602) (hm : I 1602 ≤ 500) (hB : isB (I 1401) (A 15) B) : xm m_Wa_write (3, 67) [.ref 16, .int i, .ref 14] (pic I A L) 0 0 (pB (upd (upd I 1603 (mvS (I 1600) (A 17 i.toNatClampNeg) (I 1603) (I 1604) (fun z => decide (cmD (I 1602) (A 17) i z))).2.1) 1604 (mvS (I 1600) (A 17 i.toNatClampNeg) (I 1603) (I 1604) (fun z => decide (cmD (I 1602) (A 17) i z))).2.2) A L 1401 15 (app B (mvS (I 1600) (A 17 i.toNatClampNeg) (I 1603) (I 1604) (fun z => decide (cmD (I 1602) (A 17) i z))).1)) := by
  refine xm_of rfl (by decide) (Nat.le_of_ble_eq_true rfl) ?_
  refine xr_iload_n D_Wa_write_0 rfl rfl ?_
  refine xr_if_lt (tgt := 30) D_Wa_write_1 rfl (fun c1 => ?_) (fun c1 => ?_)
  · exfalso; grind
  · refine xr_iload_n D_Wa_write_4 rfl rfl ?_
    refine xr_aload_n D_Wa_write_5 rfl rfl ?_
    refine xr_getf F_Wa_19 D_Wa_write_6 rfl rfl ?_
    refine xr_icmp_ge (tgt := 30) D_Wa_write_9 rfl (fun c2 => ?_) (fun c2 => ?_)
    · exfalso; grind
    · refine xr_iload_n D_Wa_write_12 rfl rfl ?_
      refine xr_aload_n D_Wa_write_13 rfl rfl ?_
      refine xr_getf F_Wa_9 D_Wa_write_14 rfl rfl ?_
      refine xr_alen (v := 500) D_Wa_write_17 rfl (by simp [xtok]) rfl ?_
      refine xr_icmp_ge (tgt := 30) D_Wa_write_18 rfl (fun c3 => ?_) (fun c3 => ?_)
      · exfalso; grind
      · refine xr_aload_n D_Wa_write_21 rfl rfl ?_
        refine xr_getf F_Wa_9 D_Wa_write_22 rfl rfl ?_
        refine xr_iload_n D_Wa_write_25 rfl rfl ?_
        refine xr_iald D_Wa_write_26 rfl (by exact i_in2 500 (by grind) (by grind) rfl) ?_
        refine xr_goto (tgt := 31) D_Wa_write_27 rfl ?_
        refine xr_istore_n D_Wa_write_31 rfl (by decide) ?_
        refine xr_iload_n D_Wa_write_32 rfl rfl ?_
        refine xr_if_ne (tgt := 37) D_Wa_write_33 rfl (fun c4 => ?_) (fun c4 => ?_)
        · refine xr_iload_n D_Wa_write_37 rfl rfl ?_
          refine xr_aload_n D_Wa_write_38 rfl rfl ?_
          refine xr_getf F_Wa_22 D_Wa_write_39 rfl rfl ?_
          refine xr_icmp_ne (tgt := 58) D_Wa_write_42 rfl (fun c5 => ?_) (fun c5 => ?_)
          · refine xr_iload_n D_Wa_write_58 rfl rfl ?_
            refine xr_aload_n D_Wa_write_59 rfl rfl ?_
            refine xr_getf F_Wa_25 D_Wa_write_60 rfl rfl ?_
            refine xr_icmp_ne (tgt := 80) D_Wa_write_63 rfl (fun c6 => ?_) (fun c6 => ?_)
            · refine xr_aload_n D_Wa_write_80 rfl rfl ?_
              refine xr_iload_n D_Wa_write_81 rfl rfl ?_
              refine xr_iload_n D_Wa_write_82 rfl rfl ?_
              refine xr_cVx (as := [_, _]) (c_Wa_comesBehind_16 h0 h1 hm) (L_Wa_34) (CD_Wa_comesBehind) CI_Wa D_Wa_write_83 rfl rfl (by decide) (Nat.le_of_ble_eq_true rfl) (Nat.le_of_eq (Nat.zero_add _)) (Nat.le_of_eq (Nat.zero_add _)) pic_len ?_
              rintro _ rfl
              refine ⟨_, _, rfl, rfl, ?_⟩
              refine xr_if_ne (tgt := 101) D_Wa_write_86 rfl (fun c7 => ?_) (fun c7 => ?_)
              · rw [b2_n] at c7
                refine xr_aload_n D_Wa_write_101 rfl rfl ?_
                refine xr_iload_n D_Wa_write_102 rfl rfl ?_
                refine xr_aload_n D_Wa_write_103 rfl rfl ?_
                refine xr_getf F_Wa_22 D_Wa_write_104 rfl rfl ?_
                refine xr_cVx (as := [_, _]) (c_Wa_comesBehind_16 h0 h1 hm) (L_Wa_34) (CD_Wa_comesBehind) CI_Wa D_Wa_write_107 rfl rfl (by decide) (Nat.le_of_ble_eq_true rfl) (Nat.le_of_eq (Nat.zero_add _)) (Nat.le_of_eq (Nat.zero_add _)) pic_len ?_
                rintro _ rfl
                refine ⟨_, _, rfl, rfl, ?_⟩
                refine xr_if_ne (tgt := 132) D_Wa_write_110 rfl (fun c8 => ?_) (fun c8 => ?_)
                · rw [b2_n] at c8
                  refine xr_aload_n D_Wa_write_132 rfl rfl ?_
                  refine xr_iload_n D_Wa_write_133 rfl rfl ?_
                  refine xr_aload_n D_Wa_write_134 rfl rfl ?_
                  refine xr_getf F_Wa_25 D_Wa_write_135 rfl rfl ?_
                  refine xr_cVx (as := [_, _]) (c_Wa_comesBehind_16 h0 h1 hm) (L_Wa_34) (CD_Wa_comesBehind) CI_Wa D_Wa_write_138 rfl rfl (by decide) (Nat.le_of_ble_eq_true rfl) (Nat.le_of_eq (Nat.zero_add _)) (Nat.le_of_eq (Nat.zero_add _)) pic_len ?_
                  rintro _ rfl
                  refine ⟨_, _, rfl, rfl, ?_⟩
                  refine xr_if_ne (tgt := 164) D_Wa_write_141 rfl (fun c9 => ?_) (fun c9 => ?_)
                  · rw [b2_n] at c9
                    refine xr_aload_n D_Wa_write_164 rfl rfl ?_
                    refine xr_aload_n D_Wa_write_165 rfl rfl ?_
                    refine xr_getf F_Wa_15 D_Wa_write_166 rfl rfl ?_
                    refine xr_iload_n D_Wa_write_169 rfl rfl ?_
                    refine xr_cVv (as := [_, _]) (c_By_addShortest_14 hB) (L_Wa_38) (CD_By_addShortest) CI_By D_Wa_write_170 rfl rfl (by decide) (Nat.le_of_ble_eq_true rfl) (Nat.le_of_eq (Nat.zero_add _)) (Nat.le_of_eq (Nat.zero_add _)) pic_len ?_
                    rintro _ ⟨I4, A4, rfl, hI4, hA4, hB4⟩
                    refine ⟨_, rfl, rfl, ?_⟩
                    refine xr_vret rfl D_Wa_write_173 ?_
                    show pB (upd (upd I 1603 (mvS (I 1600) (A 17 i.toNatClampNeg) (I 1603) (I 1604) (fun z => decide (cmD (I 1602) (A 17) i z))).2.1) 1604 (mvS (I 1600) (A 17 i.toNatClampNeg) (I 1603) (I 1604) (fun z => decide (cmD (I 1602) (A 17) i z))).2.2) A L 1401 15 (app B (mvS (I 1600) (A 17 i.toNatClampNeg) (I 1603) (I 1604) (fun z => decide (cmD (I 1602) (A 17) i z))).1) _
                    rw [mv6 c4 c5 c6 (b2n_T c7) (b2n_T c8) (b2n_T c9)]
                    dsimp only
                    rw [upd_self (k := 1603), upd_self (k := 1604)]
                    exact ⟨_, _, rfl, hI4, hA4, hB4⟩
                  · rw [b2_0] at c9
                    refine xr_aload_n D_Wa_write_144 rfl rfl ?_
                    refine xr_iload_n D_Wa_write_145 rfl rfl ?_
                    refine xr_putf F_Wa_25 FT_Wa FN_Wa_4 D_Wa_write_146 rfl (Nat.le_of_ble_eq_true rfl) rfl rfl (pset_16_4) ?_
                    refine xr_aload_n D_Wa_write_149 rfl rfl ?_
                    refine xr_aload_n D_Wa_write_150 rfl rfl ?_
                    refine xr_getf F_Wa_15 D_Wa_write_151 rfl rfl ?_
                    refine xr_bipush (v := 10) D_Wa_write_154 rfl ?_
                    refine xr_iadd D_Wa_write_156 ?_
                    refine xr_iload_n D_Wa_write_157 rfl rfl ?_
                    refine xr_cVv (as := [_, _]) (c_By_addShortest_14 hB) (L_Wa_38) (CD_By_addShortest) CI_By D_Wa_write_158 rfl rfl (by decide) (Nat.le_of_ble_eq_true rfl) (Nat.le_of_eq (Nat.zero_add _)) (Nat.le_of_eq (Nat.zero_add _)) pic_len ?_
                    rintro _ ⟨I5, A5, rfl, hI5, hA5, hB5⟩
                    refine ⟨_, rfl, rfl, ?_⟩
                    refine xr_goto (tgt := 173) D_Wa_write_161 rfl ?_
                    refine xr_vret rfl D_Wa_write_173 ?_
                    show pB (upd (upd I 1603 (mvS (I 1600) (A 17 i.toNatClampNeg) (I 1603) (I 1604) (fun z => decide (cmD (I 1602) (A 17) i z))).2.1) 1604 (mvS (I 1600) (A 17 i.toNatClampNeg) (I 1603) (I 1604) (fun z => decide (cmD (I 1602) (A 17) i z))).2.2) A L 1401 15 (app B (mvS (I 1600) (A 17 i.toNatClampNeg) (I 1603) (I 1604) (fun z => decide (cmD (I 1602) (A 17) i z))).1) _
                    rw [mv5 c4 c5 c6 (b2n_T c7) (b2n_T c8) (b2n_F c9)]
                    dsimp only
                    rw [upd_self (k := 1603)]
                    exact ⟨_, _, rfl, hI5, hA5, hB5⟩
                · rw [b2_0] at c8
                  refine xr_aload_n D_Wa_write_113 rfl rfl ?_
                  refine xr_iload_n D_Wa_write_114 rfl rfl ?_
                  refine xr_putf F_Wa_22 FT_Wa FN_Wa_3 D_Wa_write_115 rfl (Nat.le_of_ble_eq_true rfl) rfl rfl (pset_16_3) ?_
                  refine xr_aload_n D_Wa_write_118 rfl rfl ?_
                  refine xr_aload_n D_Wa_write_119 rfl rfl ?_
                  refine xr_getf F_Wa_15 D_Wa_write_120 rfl rfl ?_
                  refine xr_iconst (v := 5) D_Wa_write_123 rfl ?_
                  refine xr_iadd D_Wa_write_124 ?_
                  refine xr_iload_n D_Wa_write_125 rfl rfl ?_
                  refine xr_cVv (as := [_, _]) (c_By_addShortest_14 hB) (L_Wa_38) (CD_By_addShortest) CI_By D_Wa_write_126 rfl rfl (by decide) (Nat.le_of_ble_eq_true rfl) (Nat.le_of_eq (Nat.zero_add _)) (Nat.le_of_eq (Nat.zero_add _)) pic_len ?_
                  rintro _ ⟨I6, A6, rfl, hI6, hA6, hB6⟩
                  refine ⟨_, rfl, rfl, ?_⟩
                  refine xr_goto (tgt := 173) D_Wa_write_129 rfl ?_
                  refine xr_vret rfl D_Wa_write_173 ?_
                  show pB (upd (upd I 1603 (mvS (I 1600) (A 17 i.toNatClampNeg) (I 1603) (I 1604) (fun z => decide (cmD (I 1602) (A 17) i z))).2.1) 1604 (mvS (I 1600) (A 17 i.toNatClampNeg) (I 1603) (I 1604) (fun z => decide (cmD (I 1602) (A 17) i z))).2.2) A L 1401 15 (app B (mvS (I 1600) (A 17 i.toNatClampNeg) (I 1603) (I 1604) (fun z => decide (cmD (I 1602) (A 17) i z))).1) _
                  rw [mv4 c4 c5 c6 (b2n_T c7) (b2n_F c8)]
                  dsimp only
                  rw [show upd (upd I 1603 (A 17 i.toNatClampNeg)) 1604 (I 1604) = upd I 1603 (A 17 i.toNatClampNeg) from upd_self (I := upd I 1603 (A 17 i.toNatClampNeg)) (k := 1604)]
                  exact ⟨_, _, rfl, hI6, hA6, hB6⟩
              · rw [b2_0] at c7
                refine xr_aload_n D_Wa_write_89 rfl rfl ?_
                refine xr_aload_n D_Wa_write_90 rfl rfl ?_
                refine xr_getf F_Wa_15 D_Wa_write_91 rfl rfl ?_
                refine xr_iload_n D_Wa_write_94 rfl rfl ?_
                refine xr_cVv (as := [_, _]) (c_By_addShortest_14 hB) (L_Wa_38) (CD_By_addShortest) CI_By D_Wa_write_95 rfl rfl (by decide) (Nat.le_of_ble_eq_true rfl) (Nat.le_of_eq (Nat.zero_add _)) (Nat.le_of_eq (Nat.zero_add _)) pic_len ?_
                rintro _ ⟨I7, A7, rfl, hI7, hA7, hB7⟩
                refine ⟨_, rfl, rfl, ?_⟩
                refine xr_goto (tgt := 173) D_Wa_write_98 rfl ?_
                refine xr_vret rfl D_Wa_write_173 ?_
                show pB (upd (upd I 1603 (mvS (I 1600) (A 17 i.toNatClampNeg) (I 1603) (I 1604) (fun z => decide (cmD (I 1602) (A 17) i z))).2.1) 1604 (mvS (I 1600) (A 17 i.toNatClampNeg) (I 1603) (I 1604) (fun z => decide (cmD (I 1602) (A 17) i z))).2.2) A L 1401 15 (app B (mvS (I 1600) (A 17 i.toNatClampNeg) (I 1603) (I 1604) (fun z => decide (cmD (I 1602) (A 17) i z))).1) _
                rw [mv3 c4 c5 c6 (b2n_F c7)]
                dsimp only
                rw [upd_self (k := 1603), upd_self (k := 1604)]
                exact ⟨_, _, rfl, hI7, hA7, hB7⟩
            · refine xr_aload_n D_Wa_write_66 rfl rfl ?_
              refine xr_aload_n D_Wa_write_67 rfl rfl ?_
              refine xr_getf F_Wa_15 D_Wa_write_68 rfl rfl ?_
              refine xr_bipush (v := 9) D_Wa_write_71 rfl ?_
              refine xr_iadd D_Wa_write_73 ?_
              refine xr_cVv (as := [_]) (c_By_add_14 hB) (L_Wa_28) (CD_By_add) CI_By D_Wa_write_74 rfl rfl (by decide) (Nat.le_of_ble_eq_true rfl) (Nat.le_of_eq (Nat.zero_add _)) (Nat.le_of_eq (Nat.zero_add _)) pic_len ?_
              rintro _ ⟨I8, A8, rfl, hI8, hA8, hB8⟩
              refine ⟨_, rfl, rfl, ?_⟩
              refine xr_goto (tgt := 173) D_Wa_write_77 rfl ?_
              refine xr_vret rfl D_Wa_write_173 ?_
              show pB (upd (upd I 1603 (mvS (I 1600) (A 17 i.toNatClampNeg) (I 1603) (I 1604) (fun z => decide (cmD (I 1602) (A 17) i z))).2.1) 1604 (mvS (I 1600) (A 17 i.toNatClampNeg) (I 1603) (I 1604) (fun z => decide (cmD (I 1602) (A 17) i z))).2.2) A L 1401 15 (app B (mvS (I 1600) (A 17 i.toNatClampNeg) (I 1603) (I 1604) (fun z => decide (cmD (I 1602) (A 17) i z))).1) _
              rw [mv2 c4 c5 c6]
              dsimp only
              rw [upd_self (k := 1603), upd_self (k := 1604)]
              exact ⟨_, _, rfl, hI8, hA8, hB8⟩
          · refine xr_aload_n D_Wa_write_45 rfl rfl ?_
            refine xr_aload_n D_Wa_write_46 rfl rfl ?_
            refine xr_getf F_Wa_15 D_Wa_write_47 rfl rfl ?_
            refine xr_iconst (v := 4) D_Wa_write_50 rfl ?_
            refine xr_iadd D_Wa_write_51 ?_
            refine xr_cVv (as := [_]) (c_By_add_14 hB) (L_Wa_28) (CD_By_add) CI_By D_Wa_write_52 rfl rfl (by decide) (Nat.le_of_ble_eq_true rfl) (Nat.le_of_eq (Nat.zero_add _)) (Nat.le_of_eq (Nat.zero_add _)) pic_len ?_
            rintro _ ⟨I9, A9, rfl, hI9, hA9, hB9⟩
            refine ⟨_, rfl, rfl, ?_⟩
            refine xr_goto (tgt := 173) D_Wa_write_55 rfl ?_
            refine xr_vret rfl D_Wa_write_173 ?_
            show pB (upd (upd I 1603 (mvS (I 1600) (A 17 i.toNatClampNeg) (I 1603) (I 1604) (fun z => decide (cmD (I 1602) (A 17) i z))).2.1) 1604 (mvS (I 1600) (A 17 i.toNatClampNeg) (I 1603) (I 1604) (fun z => decide (cmD (I 1602) (A 17) i z))).2.2) A L 1401 15 (app B (mvS (I 1600) (A 17 i.toNatClampNeg) (I 1603) (I 1604) (fun z => decide (cmD (I 1602) (A 17) i z))).1) _
            rw [mv1 c4 c5]
            dsimp only
            rw [upd_self (k := 1603), upd_self (k := 1604)]
            exact ⟨_, _, rfl, hI9, hA9, hB9⟩
        · refine xr_vret rfl D_Wa_write_36 ?_
          show pB (upd (upd I 1603 (mvS (I 1600) (A 17 i.toNatClampNeg) (I 1603) (I 1604) (fun z => decide (cmD (I 1602) (A 17) i z))).2.1) 1604 (mvS (I 1600) (A 17 i.toNatClampNeg) (I 1603) (I 1604) (fun z => decide (cmD (I 1602) (A 17) i z))).2.2) A L 1401 15 (app B (mvS (I 1600) (A 17 i.toNatClampNeg) (I 1603) (I 1604) (fun z => decide (cmD (I 1602) (A 17) i z))).1) _
          rw [mv0 c4]
          dsimp only
          rw [upd_self (k := 1603), upd_self (k := 1604)]
          exact ⟨I, A, rfl, frI_rf, frA_rf, by rw [app_nil hB.2.1]; exact hB⟩

theorem l_Wa_cb_18 {I : mI} {A : mA} {L : mL} {i x : Int32} (hm : I 1802 ≤ 500) : ∀ (t : Nat) (j : Int32), 0 ≤ j → j.toInt + t = (I 1802).toInt → xr m_Wa_comesBehind none (0, 0) 14 [some (.ref 18), some (.int i), some (.int x), some (.int j)] [] (pic I A L) 0 0 (fun o => o = (.inl (some (.int (b2 (cmF (A 19) x t j.toInt.toNat = true)))), pic I A L)) := by
  have hm9 := i_le.mp hm
  have e500 : (500 : Int32).toInt = 500 := rfl
  intro t
  induction t with
  | zero =>
    intro j h0 hj
    refine xr_iload_n D_Wa_comesBehind_14 rfl rfl ?_
    refine xr_aload_n D_Wa_comesBehind_15 rfl rfl ?_
    refine xr_getf F_Wa_19 D_Wa_comesBehind_16 rfl rfl ?_
    refine xr_icmp_ge (tgt := 49) D_Wa_comesBehind_19 rfl (fun c1 => ?_) (fun c1 => ?_)
    · refine xr_iconst (v := 0) D_Wa_comesBehind_49 rfl ?_
      refine xr_zret rfl (by first | rfl | exact nar_b2 | exact nar_z hz) D_Wa_comesBehind_50 ?_
      exact ob_f (by simp [cmF])
    · exact absurd (i_le.mpr (by omega)) c1
  | succ t ih =>
    intro j h0 hj
    have g0 := i_le.mp h0
    rw [z0] at g0
    refine xr_iload_n D_Wa_comesBehind_14 rfl rfl ?_
    refine xr_aload_n D_Wa_comesBehind_15 rfl rfl ?_
    refine xr_getf F_Wa_19 D_Wa_comesBehind_16 rfl rfl ?_
    refine xr_icmp_ge (tgt := 49) D_Wa_comesBehind_19 rfl (fun c1 => ?_) (fun c1 => ?_)
    · exact absurd c1 (fun q => by rw [i_le] at q; omega)
    · refine xr_iload_n D_Wa_comesBehind_22 rfl rfl ?_
      refine xr_aload_n D_Wa_comesBehind_23 rfl rfl ?_
      refine xr_getf F_Wa_9 D_Wa_comesBehind_24 rfl rfl ?_
      refine xr_alen (v := 500) D_Wa_comesBehind_27 rfl (by simp [xtok]) rfl ?_
      refine xr_icmp_ge (tgt := 49) D_Wa_comesBehind_28 rfl (fun c2 => ?_) (fun c2 => ?_)
      · exact absurd c2 (fun q => by rw [i_le] at q; omega)
      · refine xr_aload_n D_Wa_comesBehind_31 rfl rfl ?_
        refine xr_getf F_Wa_9 D_Wa_comesBehind_32 rfl rfl ?_
        refine xr_iload_n D_Wa_comesBehind_35 rfl rfl ?_
        refine xr_iald D_Wa_comesBehind_36 rfl (by exact i_in (by omega) (by omega)) ?_
        refine xr_iload_n D_Wa_comesBehind_37 rfl rfl ?_
        refine xr_icmp_ne (tgt := 43) D_Wa_comesBehind_38 rfl (fun c3 => ?_) (fun c3 => ?_)
        · refine xr_iinc (c9 := 1) D_Wa_comesBehind_43 rfl rfl (by decide) ?_
          refine xr_goto (tgt := 14) D_Wa_comesBehind_46 rfl ?_
          refine xr_mono (ih (j + 1) (by grind) ?_) ?_
          · rw [i_add (by rw [z1]; omega) (by rw [z1]; omega), z1]; omega
          · rintro _ rfl
            refine ob_iff ?_
            have e : (j + 1).toInt.toNat = j.toInt.toNat + 1 := by rw [i_add (by rw [z1]; omega) (by rw [z1]; omega), z1]; omega
            rw [e, cmF_s]
            have hne : (A 19 j.toInt.toNat == x) = false := by simpa using c3
            rw [hne, Bool.false_or]
        · refine xr_iconst (v := 1) D_Wa_comesBehind_41 rfl ?_
          refine xr_zret rfl (by first | rfl | exact nar_b2 | exact nar_z hz) D_Wa_comesBehind_42 ?_
          have he : (A 19 j.toInt.toNat == x) = true := by simpa using c3
          exact ob_t (by rw [cmF_s, he, Bool.true_or])

theorem c_Wa_comesBehind_18 {I : mI} {A : mA} {L : mL} {i x : Int32} (h0 : 0 ≤ i) (h1 : i < I 1802) (hm : I 1802 ≤ 500) : xm m_Wa_comesBehind (0, 0) [.ref 18, .int i, .int x] (pic I A L) 0 0 (fun o => o = (.inl (some (.int (b2 (cmD (I 1802) (A 19) i x)))), pic I A L)) := by
  refine xm_of rfl (by decide) (Nat.le_of_ble_eq_true rfl) ?_
  refine xr_iload_n D_Wa_comesBehind_0 rfl rfl ?_
  refine xr_if_eq (tgt := 8) D_Wa_comesBehind_1 rfl (fun c1 => ?_) (fun c1 => ?_)
  · refine xr_iconst (v := 0) D_Wa_comesBehind_8 rfl ?_
    refine xr_zret rfl (by first | rfl | exact nar_b2 | exact nar_z hz) D_Wa_comesBehind_9 ?_
    exact ob_f (by grind)
  · refine xr_iload_n D_Wa_comesBehind_4 rfl rfl ?_
    refine xr_if_ge (tgt := 10) D_Wa_comesBehind_5 rfl (fun c2 => ?_) (fun c2 => ?_)
    · refine xr_iload_n D_Wa_comesBehind_10 rfl rfl ?_
      refine xr_iconst (v := 1) D_Wa_comesBehind_11 rfl ?_
      refine xr_iadd D_Wa_comesBehind_12 ?_
      refine xr_istore_n D_Wa_comesBehind_13 rfl (by decide) ?_
      have g0 := i_le.mp h0
      have g1 := i_lt.mp h1
      have gm := i_le.mp hm
      have e500 : (500 : Int32).toInt = 500 := rfl
      rw [z0] at g0
      have e : (i + 1).toInt = i.toInt + 1 := by rw [i_add (by rw [z1]; omega) (by rw [z1]; omega), z1]
      refine xr_mono (l_Wa_cb_18 hm ((I 1802).toInt - (i.toInt + 1)).toNat (i + 1) (by grind) (by rw [e]; omega)) ?_
      rintro _ rfl
      refine ob_iff ?_
      rw [e]
      exact ⟨fun q => ⟨c1, q⟩, fun q => q.2⟩
    · exact absurd h0 c2

theorem c_Wa_write_18 {I : mI} {A : mA} {L : mL} {B : List Int32} {i : Int32} (h0 : 0 ≤ i) (h1 : i < I 1802) (hm : I 1802 ≤ 500) (hB : isB (I 1401) (A 15) B) : xm m_Wa_write (3, 67) [.ref 18, .int i, .ref 14] (pic I A L) 0 0 (pB (upd (upd I 1803 (mvS (I 1800) (A 19 i.toNatClampNeg) (I 1803) (I 1804) (fun z => decide (cmD (I 1802) (A 19) i z))).2.1) 1804 (mvS (I 1800) (A 19 i.toNatClampNeg) (I 1803) (I 1804) (fun z => decide (cmD (I 1802) (A 19) i z))).2.2) A L 1401 15 (app B (mvS (I 1800) (A 19 i.toNatClampNeg) (I 1803) (I 1804) (fun z => decide (cmD (I 1802) (A 19) i z))).1)) := by
  refine xm_of rfl (by decide) (Nat.le_of_ble_eq_true rfl) ?_
  refine xr_iload_n D_Wa_write_0 rfl rfl ?_
  refine xr_if_lt (tgt := 30) D_Wa_write_1 rfl (fun c1 => ?_) (fun c1 => ?_)
  · exfalso; grind
  · refine xr_iload_n D_Wa_write_4 rfl rfl ?_
    refine xr_aload_n D_Wa_write_5 rfl rfl ?_
    refine xr_getf F_Wa_19 D_Wa_write_6 rfl rfl ?_
    refine xr_icmp_ge (tgt := 30) D_Wa_write_9 rfl (fun c2 => ?_) (fun c2 => ?_)
    · exfalso; grind
    · refine xr_iload_n D_Wa_write_12 rfl rfl ?_
      refine xr_aload_n D_Wa_write_13 rfl rfl ?_
      refine xr_getf F_Wa_9 D_Wa_write_14 rfl rfl ?_
      refine xr_alen (v := 500) D_Wa_write_17 rfl (by simp [xtok]) rfl ?_
      refine xr_icmp_ge (tgt := 30) D_Wa_write_18 rfl (fun c3 => ?_) (fun c3 => ?_)
      · exfalso; grind
      · refine xr_aload_n D_Wa_write_21 rfl rfl ?_
        refine xr_getf F_Wa_9 D_Wa_write_22 rfl rfl ?_
        refine xr_iload_n D_Wa_write_25 rfl rfl ?_
        refine xr_iald D_Wa_write_26 rfl (by exact i_in2 500 (by grind) (by grind) rfl) ?_
        refine xr_goto (tgt := 31) D_Wa_write_27 rfl ?_
        refine xr_istore_n D_Wa_write_31 rfl (by decide) ?_
        refine xr_iload_n D_Wa_write_32 rfl rfl ?_
        refine xr_if_ne (tgt := 37) D_Wa_write_33 rfl (fun c4 => ?_) (fun c4 => ?_)
        · refine xr_iload_n D_Wa_write_37 rfl rfl ?_
          refine xr_aload_n D_Wa_write_38 rfl rfl ?_
          refine xr_getf F_Wa_22 D_Wa_write_39 rfl rfl ?_
          refine xr_icmp_ne (tgt := 58) D_Wa_write_42 rfl (fun c5 => ?_) (fun c5 => ?_)
          · refine xr_iload_n D_Wa_write_58 rfl rfl ?_
            refine xr_aload_n D_Wa_write_59 rfl rfl ?_
            refine xr_getf F_Wa_25 D_Wa_write_60 rfl rfl ?_
            refine xr_icmp_ne (tgt := 80) D_Wa_write_63 rfl (fun c6 => ?_) (fun c6 => ?_)
            · refine xr_aload_n D_Wa_write_80 rfl rfl ?_
              refine xr_iload_n D_Wa_write_81 rfl rfl ?_
              refine xr_iload_n D_Wa_write_82 rfl rfl ?_
              refine xr_cVx (as := [_, _]) (c_Wa_comesBehind_18 h0 h1 hm) (L_Wa_34) (CD_Wa_comesBehind) CI_Wa D_Wa_write_83 rfl rfl (by decide) (Nat.le_of_ble_eq_true rfl) (Nat.le_of_eq (Nat.zero_add _)) (Nat.le_of_eq (Nat.zero_add _)) pic_len ?_
              rintro _ rfl
              refine ⟨_, _, rfl, rfl, ?_⟩
              refine xr_if_ne (tgt := 101) D_Wa_write_86 rfl (fun c7 => ?_) (fun c7 => ?_)
              · rw [b2_n] at c7
                refine xr_aload_n D_Wa_write_101 rfl rfl ?_
                refine xr_iload_n D_Wa_write_102 rfl rfl ?_
                refine xr_aload_n D_Wa_write_103 rfl rfl ?_
                refine xr_getf F_Wa_22 D_Wa_write_104 rfl rfl ?_
                refine xr_cVx (as := [_, _]) (c_Wa_comesBehind_18 h0 h1 hm) (L_Wa_34) (CD_Wa_comesBehind) CI_Wa D_Wa_write_107 rfl rfl (by decide) (Nat.le_of_ble_eq_true rfl) (Nat.le_of_eq (Nat.zero_add _)) (Nat.le_of_eq (Nat.zero_add _)) pic_len ?_
                rintro _ rfl
                refine ⟨_, _, rfl, rfl, ?_⟩
                refine xr_if_ne (tgt := 132) D_Wa_write_110 rfl (fun c8 => ?_) (fun c8 => ?_)
                · rw [b2_n] at c8
                  refine xr_aload_n D_Wa_write_132 rfl rfl ?_
                  refine xr_iload_n D_Wa_write_133 rfl rfl ?_
                  refine xr_aload_n D_Wa_write_134 rfl rfl ?_
                  refine xr_getf F_Wa_25 D_Wa_write_135 rfl rfl ?_
                  refine xr_cVx (as := [_, _]) (c_Wa_comesBehind_18 h0 h1 hm) (L_Wa_34) (CD_Wa_comesBehind) CI_Wa D_Wa_write_138 rfl rfl (by decide) (Nat.le_of_ble_eq_true rfl) (Nat.le_of_eq (Nat.zero_add _)) (Nat.le_of_eq (Nat.zero_add _)) pic_len ?_
                  rintro _ rfl
                  refine ⟨_, _, rfl, rfl, ?_⟩
                  refine xr_if_ne (tgt := 164) D_Wa_write_141 rfl (fun c9 => ?_) (fun c9 => ?_)
                  · rw [b2_n] at c9
                    refine xr_aload_n D_Wa_write_164 rfl rfl ?_
                    refine xr_aload_n D_Wa_write_165 rfl rfl ?_
                    refine xr_getf F_Wa_15 D_Wa_write_166 rfl rfl ?_
                    refine xr_iload_n D_Wa_write_169 rfl rfl ?_
                    refine xr_cVv (as := [_, _]) (c_By_addShortest_14 hB) (L_Wa_38) (CD_By_addShortest) CI_By D_Wa_write_170 rfl rfl (by decide) (Nat.le_of_ble_eq_true rfl) (Nat.le_of_eq (Nat.zero_add _)) (Nat.le_of_eq (Nat.zero_add _)) pic_len ?_
                    rintro _ ⟨I4, A4, rfl, hI4, hA4, hB4⟩
                    refine ⟨_, rfl, rfl, ?_⟩
                    refine xr_vret rfl D_Wa_write_173 ?_
                    show pB (upd (upd I 1803 (mvS (I 1800) (A 19 i.toNatClampNeg) (I 1803) (I 1804) (fun z => decide (cmD (I 1802) (A 19) i z))).2.1) 1804 (mvS (I 1800) (A 19 i.toNatClampNeg) (I 1803) (I 1804) (fun z => decide (cmD (I 1802) (A 19) i z))).2.2) A L 1401 15 (app B (mvS (I 1800) (A 19 i.toNatClampNeg) (I 1803) (I 1804) (fun z => decide (cmD (I 1802) (A 19) i z))).1) _
                    rw [mv6 c4 c5 c6 (b2n_T c7) (b2n_T c8) (b2n_T c9)]
                    dsimp only
                    rw [upd_self (k := 1803), upd_self (k := 1804)]
                    exact ⟨_, _, rfl, hI4, hA4, hB4⟩
                  · rw [b2_0] at c9
                    refine xr_aload_n D_Wa_write_144 rfl rfl ?_
                    refine xr_iload_n D_Wa_write_145 rfl rfl ?_
                    refine xr_putf F_Wa_25 FT_Wa FN_Wa_4 D_Wa_write_146 rfl (Nat.le_of_ble_eq_true rfl) rfl rfl (pset_18_4) ?_
                    refine xr_aload_n D_Wa_write_149 rfl rfl ?_
                    refine xr_aload_n D_Wa_write_150 rfl rfl ?_
                    refine xr_getf F_Wa_15 D_Wa_write_151 rfl rfl ?_
                    refine xr_bipush (v := 10) D_Wa_write_154 rfl ?_
                    refine xr_iadd D_Wa_write_156 ?_
                    refine xr_iload_n D_Wa_write_157 rfl rfl ?_
                    refine xr_cVv (as := [_, _]) (c_By_addShortest_14 hB) (L_Wa_38) (CD_By_addShortest) CI_By D_Wa_write_158 rfl rfl (by decide) (Nat.le_of_ble_eq_true rfl) (Nat.le_of_eq (Nat.zero_add _)) (Nat.le_of_eq (Nat.zero_add _)) pic_len ?_
                    rintro _ ⟨I5, A5, rfl, hI5, hA5, hB5⟩
                    refine ⟨_, rfl, rfl, ?_⟩
                    refine xr_goto (tgt := 173) D_Wa_write_161 rfl ?_
                    refine xr_vret rfl D_Wa_write_173 ?_
                    show pB (upd (upd I 1803 (mvS (I 1800) (A 19 i.toNatClampNeg) (I 1803) (I 1804) (fun z => decide (cmD (I 1802) (A 19) i z))).2.1) 1804 (mvS (I 1800) (A 19 i.toNatClampNeg) (I 1803) (I 1804) (fun z => decide (cmD (I 1802) (A 19) i z))).2.2) A L 1401 15 (app B (mvS (I 1800) (A 19 i.toNatClampNeg) (I 1803) (I 1804) (fun z => decide (cmD (I 1802) (A 19) i z))).1) _
                    rw [mv5 c4 c5 c6 (b2n_T c7) (b2n_T c8) (b2n_F c9)]
                    dsimp only
                    rw [upd_self (k := 1803)]
                    exact ⟨_, _, rfl, hI5, hA5, hB5⟩
                · rw [b2_0] at c8
                  refine xr_aload_n D_Wa_write_113 rfl rfl ?_
                  refine xr_iload_n D_Wa_write_114 rfl rfl ?_
                  refine xr_putf F_Wa_22 FT_Wa FN_Wa_3 D_Wa_write_115 rfl (Nat.le_of_ble_eq_true rfl) rfl rfl (pset_18_3) ?_
                  refine xr_aload_n D_Wa_write_118 rfl rfl ?_
                  refine xr_aload_n D_Wa_write_119 rfl rfl ?_
                  refine xr_getf F_Wa_15 D_Wa_write_120 rfl rfl ?_
                  refine xr_iconst (v := 5) D_Wa_write_123 rfl ?_
                  refine xr_iadd D_Wa_write_124 ?_
                  refine xr_iload_n D_Wa_write_125 rfl rfl ?_
                  refine xr_cVv (as := [_, _]) (c_By_addShortest_14 hB) (L_Wa_38) (CD_By_addShortest) CI_By D_Wa_write_126 rfl rfl (by decide) (Nat.le_of_ble_eq_true rfl) (Nat.le_of_eq (Nat.zero_add _)) (Nat.le_of_eq (Nat.zero_add _)) pic_len ?_
                  rintro _ ⟨I6, A6, rfl, hI6, hA6, hB6⟩
                  refine ⟨_, rfl, rfl, ?_⟩
                  refine xr_goto (tgt := 173) D_Wa_write_129 rfl ?_
                  refine xr_vret rfl D_Wa_write_173 ?_
                  show pB (upd (upd I 1803 (mvS (I 1800) (A 19 i.toNatClampNeg) (I 1803) (I 1804) (fun z => decide (cmD (I 1802) (A 19) i z))).2.1) 1804 (mvS (I 1800) (A 19 i.toNatClampNeg) (I 1803) (I 1804) (fun z => decide (cmD (I 1802) (A 19) i z))).2.2) A L 1401 15 (app B (mvS (I 1800) (A 19 i.toNatClampNeg) (I 1803) (I 1804) (fun z => decide (cmD (I 1802) (A 19) i z))).1) _
                  rw [mv4 c4 c5 c6 (b2n_T c7) (b2n_F c8)]
                  dsimp only
                  rw [show upd (upd I 1803 (A 19 i.toNatClampNeg)) 1804 (I 1804) = upd I 1803 (A 19 i.toNatClampNeg) from upd_self (I := upd I 1803 (A 19 i.toNatClampNeg)) (k := 1804)]
                  exact ⟨_, _, rfl, hI6, hA6, hB6⟩
              · rw [b2_0] at c7
                refine xr_aload_n D_Wa_write_89 rfl rfl ?_
                refine xr_aload_n D_Wa_write_90 rfl rfl ?_
                refine xr_getf F_Wa_15 D_Wa_write_91 rfl rfl ?_
                refine xr_iload_n D_Wa_write_94 rfl rfl ?_
                refine xr_cVv (as := [_, _]) (c_By_addShortest_14 hB) (L_Wa_38) (CD_By_addShortest) CI_By D_Wa_write_95 rfl rfl (by decide) (Nat.le_of_ble_eq_true rfl) (Nat.le_of_eq (Nat.zero_add _)) (Nat.le_of_eq (Nat.zero_add _)) pic_len ?_
                rintro _ ⟨I7, A7, rfl, hI7, hA7, hB7⟩
                refine ⟨_, rfl, rfl, ?_⟩
                refine xr_goto (tgt := 173) D_Wa_write_98 rfl ?_
                refine xr_vret rfl D_Wa_write_173 ?_
                show pB (upd (upd I 1803 (mvS (I 1800) (A 19 i.toNatClampNeg) (I 1803) (I 1804) (fun z => decide (cmD (I 1802) (A 19) i z))).2.1) 1804 (mvS (I 1800) (A 19 i.toNatClampNeg) (I 1803) (I 1804) (fun z => decide (cmD (I 1802) (A 19) i z))).2.2) A L 1401 15 (app B (mvS (I 1800) (A 19 i.toNatClampNeg) (I 1803) (I 1804) (fun z => decide (cmD (I 1802) (A 19) i z))).1) _
                rw [mv3 c4 c5 c6 (b2n_F c7)]
                dsimp only
                rw [upd_self (k := 1803), upd_self (k := 1804)]
                exact ⟨_, _, rfl, hI7, hA7, hB7⟩
            · refine xr_aload_n D_Wa_write_66 rfl rfl ?_
              refine xr_aload_n D_Wa_write_67 rfl rfl ?_
              refine xr_getf F_Wa_15 D_Wa_write_68 rfl rfl ?_
              refine xr_bipush (v := 9) D_Wa_write_71 rfl ?_
              refine xr_iadd D_Wa_write_73 ?_
              refine xr_cVv (as := [_]) (c_By_add_14 hB) (L_Wa_28) (CD_By_add) CI_By D_Wa_write_74 rfl rfl (by decide) (Nat.le_of_ble_eq_true rfl) (Nat.le_of_eq (Nat.zero_add _)) (Nat.le_of_eq (Nat.zero_add _)) pic_len ?_
              rintro _ ⟨I8, A8, rfl, hI8, hA8, hB8⟩
              refine ⟨_, rfl, rfl, ?_⟩
              refine xr_goto (tgt := 173) D_Wa_write_77 rfl ?_
              refine xr_vret rfl D_Wa_write_173 ?_
              show pB (upd (upd I 1803 (mvS (I 1800) (A 19 i.toNatClampNeg) (I 1803) (I 1804) (fun z => decide (cmD (I 1802) (A 19) i z))).2.1) 1804 (mvS (I 1800) (A 19 i.toNatClampNeg) (I 1803) (I 1804) (fun z => decide (cmD (I 1802) (A 19) i z))).2.2) A L 1401 15 (app B (mvS (I 1800) (A 19 i.toNatClampNeg) (I 1803) (I 1804) (fun z => decide (cmD (I 1802) (A 19) i z))).1) _
              rw [mv2 c4 c5 c6]
              dsimp only
              rw [upd_self (k := 1803), upd_self (k := 1804)]
              exact ⟨_, _, rfl, hI8, hA8, hB8⟩
          · refine xr_aload_n D_Wa_write_45 rfl rfl ?_
            refine xr_aload_n D_Wa_write_46 rfl rfl ?_
            refine xr_getf F_Wa_15 D_Wa_write_47 rfl rfl ?_
            refine xr_iconst (v := 4) D_Wa_write_50 rfl ?_
            refine xr_iadd D_Wa_write_51 ?_
            refine xr_cVv (as := [_]) (c_By_add_14 hB) (L_Wa_28) (CD_By_add) CI_By D_Wa_write_52 rfl rfl (by decide) (Nat.le_of_ble_eq_true rfl) (Nat.le_of_eq (Nat.zero_add _)) (Nat.le_of_eq (Nat.zero_add _)) pic_len ?_
            rintro _ ⟨I9, A9, rfl, hI9, hA9, hB9⟩
            refine ⟨_, rfl, rfl, ?_⟩
            refine xr_goto (tgt := 173) D_Wa_write_55 rfl ?_
            refine xr_vret rfl D_Wa_write_173 ?_
            show pB (upd (upd I 1803 (mvS (I 1800) (A 19 i.toNatClampNeg) (I 1803) (I 1804) (fun z => decide (cmD (I 1802) (A 19) i z))).2.1) 1804 (mvS (I 1800) (A 19 i.toNatClampNeg) (I 1803) (I 1804) (fun z => decide (cmD (I 1802) (A 19) i z))).2.2) A L 1401 15 (app B (mvS (I 1800) (A 19 i.toNatClampNeg) (I 1803) (I 1804) (fun z => decide (cmD (I 1802) (A 19) i z))).1) _
            rw [mv1 c4 c5]
            dsimp only
            rw [upd_self (k := 1803), upd_self (k := 1804)]
            exact ⟨_, _, rfl, hI9, hA9, hB9⟩
        · refine xr_vret rfl D_Wa_write_36 ?_
          show pB (upd (upd I 1803 (mvS (I 1800) (A 19 i.toNatClampNeg) (I 1803) (I 1804) (fun z => decide (cmD (I 1802) (A 19) i z))).2.1) 1804 (mvS (I 1800) (A 19 i.toNatClampNeg) (I 1803) (I 1804) (fun z => decide (cmD (I 1802) (A 19) i z))).2.2) A L 1401 15 (app B (mvS (I 1800) (A 19 i.toNatClampNeg) (I 1803) (I 1804) (fun z => decide (cmD (I 1802) (A 19) i z))).1) _
          rw [mv0 c4]
          dsimp only
          rw [upd_self (k := 1803), upd_self (k := 1804)]
          exact ⟨I, A, rfl, frI_rf, frA_rf, by rw [app_nil hB.2.1]; exact hB⟩
