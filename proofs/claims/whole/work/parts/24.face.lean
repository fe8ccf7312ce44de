theorem xr_tableOut2 {M : xM} {sc : xSc} {d : Nat × Nat} {pc : Nat} {lo : xL} {st : List Value} {h : List xC} {rc rs : Nat} {Q : xO → Prop} {dflt lw hi : Int} {offs : Array Int} {len : Nat} {x lo9 hi9 : Int32} {tgt q9 : Nat} (hd : xd M pc (.tableswitch dflt lw hi offs) len q9) (hx : x < lo9 ∨ hi9 < x) (hl : lo9.toInt = lw) (hh : hi9.toInt = hi) (ht : (pc : Int) + dflt = (tgt : Int)) (k : xr M sc d tgt lo st h rc rs Q) : xr M sc d pc lo (.int x :: st) h rc rs Q :=
  xr_tableOut hd (by rcases hx with q | q <;> have := i_lt.mp q <;> omega) ht k
theorem xaw {own E : String} {ic : Nat} {names : List String} (h : (Bundle.ownAtoms own ic E names).all (fun w => decide (w ∈ lw_tbl) && (goodWord w || xisD w) || (w == .isRef (.static Bundle.tN "UNASSIGNED_STACK" Bundle.steD) || (w == .isRef (.static Bundle.tN "SUPPRESSED_SENTINEL" Bundle.listD) || (w == .laysStatic Bundle.tN "UNASSIGNED_STACK" Bundle.steD || w == .laysStatic Bundle.tN "SUPPRESSED_SENTINEL" Bundle.listD)))) = true) : ∀ w ∈ Bundle.ownAtoms own ic E names, w ∈ xtb ∨ w ∈ xdcl ∨ xno w := by
  intro w hw
  have h1 := List.all_eq_true.mp h w hw
  simp only [Bool.or_eq_true, Bool.and_eq_true, decide_eq_true_eq, beq_iff_eq] at h1
  rcases h1 with ⟨h1, h2 | h2⟩ | h1
  · exact Or.inl (xtb_in h1 h2)
  · exact Or.inr (Or.inl (List.mem_filter.mpr ⟨h1, h2⟩))
  · exact Or.inr (Or.inr h1)

theorem XW_74 : ∀ w ∈ Bundle.ownAtoms "DviBytes" 78 "java/lang/IllegalArgumentException" ["java/lang/RuntimeException", "java/lang/Exception"], w ∈ xtb ∨ w ∈ xdcl ∨ xno w := xaw (by decide +kernel)
theorem XC_74 : Cond.classLink "DviBytes" 74 "java/lang/IllegalArgumentException" ∈ xtb := xtb_at 585 (by decide +kernel) (by decide +kernel)
theorem XI_74 : Cond.initialized "java/lang/IllegalArgumentException" ∈ xtb := xtb_at 75 (by decide +kernel) (by decide +kernel)
theorem XW_84 : ∀ w ∈ Bundle.ownAtoms "DviBytes" 88 "java/lang/IllegalStateException" ["java/lang/RuntimeException", "java/lang/Exception"], w ∈ xtb ∨ w ∈ xdcl ∨ xno w := xaw (by decide +kernel)
theorem XC_84 : Cond.classLink "DviBytes" 84 "java/lang/IllegalStateException" ∈ xtb := xtb_at 659 (by decide +kernel) (by decide +kernel)
theorem XI_84 : Cond.initialized "java/lang/IllegalStateException" ∈ xtb := xtb_at 76 (by decide +kernel) (by decide +kernel)
theorem XW_126 : ∀ w ∈ Bundle.ownAtoms "DviBytes" 130 "java/lang/UnsupportedOperationException" ["java/lang/RuntimeException", "java/lang/Exception"], w ∈ xtb ∨ w ∈ xdcl ∨ xno w := xaw (by decide +kernel)
theorem XC_126 : Cond.classLink "DviBytes" 126 "java/lang/UnsupportedOperationException" ∈ xtb := xtb_at 747 (by decide +kernel) (by decide +kernel)
theorem XI_126 : Cond.initialized "java/lang/UnsupportedOperationException" ∈ xtb := xtb_at 77 (by decide +kernel) (by decide +kernel)
theorem XW_149 : ∀ w ∈ Bundle.ownAtoms "DviBytes" 153 "java/lang/ArithmeticException" ["java/lang/RuntimeException", "java/lang/Exception"], w ∈ xtb ∨ w ∈ xdcl ∨ xno w := xaw (by decide +kernel)
theorem XC_149 : Cond.classLink "DviBytes" 149 "java/lang/ArithmeticException" ∈ xtb := xtb_at 838 (by decide +kernel) (by decide +kernel)
theorem XI_149 : Cond.initialized "java/lang/ArithmeticException" ∈ xtb := xtb_at 79 (by decide +kernel) (by decide +kernel)
theorem XW_174 : ∀ w ∈ Bundle.ownAtoms "DviBytes" 178 "java/lang/IndexOutOfBoundsException" ["java/lang/RuntimeException", "java/lang/Exception"], w ∈ xtb ∨ w ∈ xdcl ∨ xno w := xaw (by decide +kernel)
theorem XC_174 : Cond.classLink "DviBytes" 174 "java/lang/IndexOutOfBoundsException" ∈ xtb := xtb_at 948 (by decide +kernel) (by decide +kernel)
theorem XI_174 : Cond.initialized "java/lang/IndexOutOfBoundsException" ∈ xtb := xtb_at 80 (by decide +kernel) (by decide +kernel)
theorem TH_74_76 : xtw "DviBytes" 74 76 78 "java/lang/IllegalArgumentException" ["java/lang/RuntimeException", "java/lang/Exception"] := ⟨by decide +kernel, by decide +kernel, XC_74, XI_74, ⟨"no such font or name", by decide +kernel⟩, XW_74, by decide⟩
theorem TH_84_86 : xtw "DviBytes" 84 86 88 "java/lang/IllegalStateException" ["java/lang/RuntimeException", "java/lang/Exception"] := ⟨by decide +kernel, by decide +kernel, XC_84, XI_84, ⟨"the font was told in the file", by decide +kernel⟩, XW_84, by decide⟩
theorem TH_74_97 : xtw "DviBytes" 74 97 78 "java/lang/IllegalArgumentException" ["java/lang/RuntimeException", "java/lang/Exception"] := ⟨by decide +kernel, by decide +kernel, XC_74, XI_74, ⟨"no such font or character", by decide +kernel⟩, XW_74, by decide⟩
theorem TH_74_103 : xtw "DviBytes" 74 103 78 "java/lang/IllegalArgumentException" ["java/lang/RuntimeException", "java/lang/Exception"] := ⟨by decide +kernel, by decide +kernel, XC_74, XI_74, ⟨"no such count", by decide +kernel⟩, XW_74, by decide⟩
theorem TH_74_105 : xtw "DviBytes" 74 105 78 "java/lang/IllegalArgumentException" ["java/lang/RuntimeException", "java/lang/Exception"] := ⟨by decide +kernel, by decide +kernel, XC_74, XI_74, ⟨"no such comment", by decide +kernel⟩, XW_74, by decide⟩
theorem TH_74_120 : xtw "DviBytes" 74 120 78 "java/lang/IllegalArgumentException" ["java/lang/RuntimeException", "java/lang/Exception"] := ⟨by decide +kernel, by decide +kernel, XC_74, XI_74, ⟨"no such font, character or place", by decide +kernel⟩, XW_74, by decide⟩
theorem TH_126_128 : xtw "DviBytes" 126 128 130 "java/lang/UnsupportedOperationException" ["java/lang/RuntimeException", "java/lang/Exception"] := ⟨by decide +kernel, by decide +kernel, XC_126, XI_126, ⟨"the page is full", by decide +kernel⟩, XW_126, by decide⟩
theorem TH_74_138 : xtw "DviBytes" 74 138 78 "java/lang/IllegalArgumentException" ["java/lang/RuntimeException", "java/lang/Exception"] := ⟨by decide +kernel, by decide +kernel, XC_74, XI_74, ⟨"no such place or rule", by decide +kernel⟩, XW_74, by decide⟩
theorem TH_84_143 : xtw "DviBytes" 84 143 88 "java/lang/IllegalStateException" ["java/lang/RuntimeException", "java/lang/Exception"] := ⟨by decide +kernel, by decide +kernel, XC_84, XI_84, ⟨"the file is closed", by decide +kernel⟩, XW_84, by decide⟩
theorem TH_149_151 : xtw "DviBytes" 149 151 153 "java/lang/ArithmeticException" ["java/lang/RuntimeException", "java/lang/Exception"] := ⟨by decide +kernel, by decide +kernel, XC_149, XI_149, ⟨"a place or a move passes an int", by decide +kernel⟩, XW_149, by decide⟩
theorem TH_126_158 : xtw "DviBytes" 126 158 130 "java/lang/UnsupportedOperationException" ["java/lang/RuntimeException", "java/lang/Exception"] := ⟨by decide +kernel, by decide +kernel, XC_126, XI_126, ⟨"the file would be too long", by decide +kernel⟩, XW_126, by decide⟩
theorem TH_174_176 : xtw "DviBytes" 174 176 178 "java/lang/IndexOutOfBoundsException" ["java/lang/RuntimeException", "java/lang/Exception"] := ⟨by decide +kernel, by decide +kernel, XC_174, XI_174, ⟨"no such byte", by decide +kernel⟩, XW_174, by decide⟩
theorem TH_174_226 : xtw "DviBytes" 174 226 178 "java/lang/IndexOutOfBoundsException" ["java/lang/RuntimeException", "java/lang/Exception"] := ⟨by decide +kernel, by decide +kernel, XC_174, XI_174, ⟨"nothing is told of that", by decide +kernel⟩, XW_174, by decide⟩
theorem TH_174_228 : xtw "DviBytes" 174 228 178 "java/lang/IndexOutOfBoundsException" ["java/lang/RuntimeException", "java/lang/Exception"] := ⟨by decide +kernel, by decide +kernel, XC_174, XI_174, ⟨"no such mark, or part of one", by decide +kernel⟩, XW_174, by decide⟩
theorem TH_174_234 : xtw "DviBytes" 174 234 178 "java/lang/IndexOutOfBoundsException" ["java/lang/RuntimeException", "java/lang/Exception"] := ⟨by decide +kernel, by decide +kernel, XC_174, XI_174, ⟨"no such page or count", by decide +kernel⟩, XW_174, by decide⟩
theorem TH_174_239 : xtw "DviBytes" 174 239 178 "java/lang/IndexOutOfBoundsException" ["java/lang/RuntimeException", "java/lang/Exception"] := ⟨by decide +kernel, by decide +kernel, XC_174, XI_174, ⟨"no such font, or part of one", by decide +kernel⟩, XW_174, by decide⟩
theorem c_Dv_width_0 {I : mI} {A : mA} {L : mL} {f : Int32} {c : Int32} {w : Int32}  : xm m_Dv_width (6, 90) [.ref 0, .int f, .int c, .int w] (pic I A L) 1 6 (fun o => ((¬ ((0 ≤ f ∧ f ≤ 255) ∧ (0 ≤ c ∧ c ≤ 255))) ∧ o = (.inr "java/lang/IllegalArgumentException", pic I A L)) ∨ (((0 ≤ f ∧ f ≤ 255) ∧ (0 ≤ c ∧ c ≤ 255)) ∧ o = (.inl none, pic I (upA A 2 (f * 256 + c).toNatClampNeg w) L))) := by
  refine xm_of rfl (by decide) (Nat.le_of_ble_eq_true rfl) ?_
  refine xr_iload_n D_Dv_width_0 rfl rfl ?_
  refine xr_cSx (as := [_]) (c_Dv_isByte) (L_Dv_66) (CD_Dv_isByte) D_Dv_width_1 rfl (by decide) (Nat.le_of_ble_eq_true rfl) (Nat.le_of_eq (Nat.zero_add _)) (Nat.le_of_eq (Nat.zero_add _)) pic_len ?_
  rintro _ rfl
  refine ⟨_, _, rfl, rfl, ?_⟩
  refine xr_if_eq (tgt := 14) D_Dv_width_4 rfl (fun c1 => ?_) (fun c1 => ?_)
  · rw [b2_0] at c1
    refine xr_throwS (TH_74_97) rfl D_Dv_width_14.1 D_Dv_width_17.1 D_Dv_width_18.1 D_Dv_width_20.1 D_Dv_width_23.1 (by decide) (by decide) (Nat.le_of_ble_eq_true rfl) (Nat.le_refl _) (Nat.le_refl _) ?_
    first | exact Or.inl ⟨by grind, rfl⟩ | exact Or.inr (⟨by grind, rfl⟩)
  · rw [b2_n] at c1
    refine xr_iload_n D_Dv_width_7 rfl rfl ?_
    refine xr_cSx (as := [_]) (c_Dv_isByte) (L_Dv_66) (CD_Dv_isByte) D_Dv_width_8 rfl (by decide) (Nat.le_of_ble_eq_true rfl) (Nat.le_of_eq (Nat.zero_add _)) (Nat.le_of_eq (Nat.zero_add _)) pic_len ?_
    rintro _ rfl
    refine ⟨_, _, rfl, rfl, ?_⟩
    refine xr_if_ne (tgt := 24) D_Dv_width_11 rfl (fun c2 => ?_) (fun c2 => ?_)
    · rw [b2_n] at c2
      refine xr_aload_n D_Dv_width_24 rfl rfl ?_
      refine xr_getf F_Dv_10 D_Dv_width_25 rfl rfl ?_
      refine xr_iload_n D_Dv_width_28 rfl rfl ?_
      refine xr_iload_n D_Dv_width_29 rfl rfl ?_
      refine xr_iload_n D_Dv_width_30 rfl rfl ?_
      refine xr_cVv (as := [_, _, _]) (c_Wi_change_1 (by grind) (by grind)) (L_Dv_99) (CD_Wi_change) CI_Wi D_Dv_width_31 rfl rfl (by decide) (Nat.le_of_ble_eq_true rfl) (Nat.le_of_eq (Nat.zero_add _)) (Nat.le_of_eq (Nat.zero_add _)) pic_len ?_
      rintro _ rfl
      refine ⟨_, rfl, rfl, ?_⟩
      refine xr_vret rfl D_Dv_width_34 ?_
      first | exact Or.inl ⟨by grind, rfl⟩ | exact Or.inr (⟨by grind, rfl⟩)
    · rw [b2_0] at c2
      refine xr_throwS (TH_74_97) rfl D_Dv_width_14.1 D_Dv_width_17.1 D_Dv_width_18.1 D_Dv_width_20.1 D_Dv_width_23.1 (by decide) (by decide) (Nat.le_of_ble_eq_true rfl) (Nat.le_refl _) (Nat.le_refl _) ?_
      first | exact Or.inl ⟨by grind, rfl⟩ | exact Or.inr (⟨by grind, rfl⟩)

theorem c_Dv_count_0 {I : mI} {A : mA} {L : mL} {i : Int32} {v : Int32}  : xm m_Dv_count (6, 90) [.ref 0, .int i, .int v] (pic I A L) 1 6 (fun o => ((¬ (0 ≤ i ∧ i < 10)) ∧ o = (.inr "java/lang/IllegalArgumentException", pic I A L)) ∨ ((0 ≤ i ∧ i < 10) ∧ o = (.inl none, pic I (upA A 10 i.toNatClampNeg v) L))) := by
  refine xm_of rfl (by decide) (Nat.le_of_ble_eq_true rfl) ?_
  refine xr_iload_n D_Dv_count_0 rfl rfl ?_
  refine xr_if_lt (tgt := 13) D_Dv_count_1 rfl (fun c1 => ?_) (fun c1 => ?_)
  · refine xr_throwS (TH_74_103) rfl D_Dv_count_13.1 D_Dv_count_16.1 D_Dv_count_17.1 D_Dv_count_19.1 D_Dv_count_22.1 (by decide) (by decide) (Nat.le_of_ble_eq_true rfl) (Nat.le_refl _) (Nat.le_refl _) ?_
    first | exact Or.inl ⟨by grind, rfl⟩ | exact Or.inr (⟨by grind, rfl⟩)
  · refine xr_iload_n D_Dv_count_4 rfl rfl ?_
    refine xr_aload_n D_Dv_count_5 rfl rfl ?_
    refine xr_getf F_Dv_23 D_Dv_count_6 rfl rfl ?_
    refine xr_alen (v := 10) D_Dv_count_9 rfl (by simp [xtok]) rfl ?_
    refine xr_icmp_lt (tgt := 23) D_Dv_count_10 rfl (fun c2 => ?_) (fun c2 => ?_)
    · refine xr_aload_n D_Dv_count_23 rfl rfl ?_
      refine xr_getf F_Dv_23 D_Dv_count_24 rfl rfl ?_
      refine xr_iload_n D_Dv_count_27 rfl rfl ?_
      refine xr_iload_n D_Dv_count_28 rfl rfl ?_
      refine xr_iast D_Dv_count_29 rfl (by exact i_in2 10 (by grind) (by grind) rfl) (aset_10) ?_
      refine xr_vret rfl D_Dv_count_30 ?_
      first | exact Or.inl ⟨by grind, rfl⟩ | exact Or.inr (⟨by grind, rfl⟩)
    · refine xr_throwS (TH_74_103) rfl D_Dv_count_13.1 D_Dv_count_16.1 D_Dv_count_17.1 D_Dv_count_19.1 D_Dv_count_22.1 (by decide) (by decide) (Nat.le_of_ble_eq_true rfl) (Nat.le_refl _) (Nat.le_refl _) ?_
      first | exact Or.inl ⟨by grind, rfl⟩ | exact Or.inr (⟨by grind, rfl⟩)

theorem c_Dv_put_0 {I : mI} {A : mA} {L : mL} {f : Int32} {c : Int32} {x : Int32} {y : Int32} (h0 : 0 ≤ I 1101) : xm m_Dv_put (6, 90) [.ref 0, .int f, .int c, .int x, .int y] (pic I A L) 1 6 (fun o => ((¬ (((0 ≤ f ∧ f ≤ 255) ∧ 0 < A 9 f.toNatClampNeg) ∧ (0 ≤ c ∧ c ≤ 255) ∧ (-1000000000 ≤ x ∧ x ≤ 1000000000) ∧ (-1000000000 ≤ y ∧ y ≤ 1000000000))) ∧ o = (.inr "java/lang/IllegalArgumentException", pic I A L)) ∨ (((((0 ≤ f ∧ f ≤ 255) ∧ 0 < A 9 f.toNatClampNeg) ∧ (0 ≤ c ∧ c ≤ 255) ∧ (-1000000000 ≤ x ∧ x ≤ 1000000000) ∧ (-1000000000 ≤ y ∧ y ≤ 1000000000)) ∧ 500 ≤ I 1101) ∧ o = (.inr "java/lang/UnsupportedOperationException", pic I A L)) ∨ (((((0 ≤ f ∧ f ≤ 255) ∧ 0 < A 9 f.toNatClampNeg) ∧ (0 ≤ c ∧ c ≤ 255) ∧ (-1000000000 ≤ x ∧ x ≤ 1000000000) ∧ (-1000000000 ≤ y ∧ y ≤ 1000000000)) ∧ I 1101 < 500) ∧ o = (.inl (some (.int (I 1101 + 1))), pic (upd I 1101 (I 1101 + 1)) (upA (upA (upA (upA (upA A 12 (I 1101 * 5).toNatClampNeg f) 12 (I 1101 * 5 + 1).toNatClampNeg c) 12 (I 1101 * 5 + 2).toNatClampNeg 0) 12 (I 1101 * 5 + 3).toNatClampNeg x) 12 (I 1101 * 5 + 4).toNatClampNeg y) L))) := by
  refine xm_of rfl (by decide) (Nat.le_of_ble_eq_true rfl) ?_
  refine xr_aload_n D_Dv_put_0 rfl rfl ?_
  refine xr_getf F_Dv_19 D_Dv_put_1 rfl rfl ?_
  refine xr_iload_n D_Dv_put_4 rfl rfl ?_
  refine xr_cVx (as := [_]) (c_Fo_isDefined_3) (L_Dv_114) (CD_Fo_isDefined) CI_Fo D_Dv_put_5 rfl rfl (by decide) (Nat.le_of_ble_eq_true rfl) (Nat.le_of_eq (Nat.zero_add _)) (Nat.le_of_eq (Nat.zero_add _)) pic_len ?_
  rintro _ rfl
  refine ⟨_, _, rfl, rfl, ?_⟩
  refine xr_if_eq (tgt := 33) D_Dv_put_8 rfl (fun c1 => ?_) (fun c1 => ?_)
  · rw [b2_0] at c1
    refine xr_throwS (TH_74_120) rfl D_Dv_put_33.1 D_Dv_put_36.1 D_Dv_put_37.1 D_Dv_put_39.1 D_Dv_put_42.1 (by decide) (by decide) (Nat.le_of_ble_eq_true rfl) (Nat.le_refl _) (Nat.le_refl _) ?_
    first | exact Or.inl ⟨by grind, rfl⟩ | exact Or.inr (Or.inl ⟨by grind, rfl⟩) | exact Or.inr (Or.inr (⟨by grind, rfl⟩))
  · rw [b2_n] at c1
    refine xr_iload_n D_Dv_put_11 rfl rfl ?_
    refine xr_cSx (as := [_]) (c_Dv_isByte) (L_Dv_66) (CD_Dv_isByte) D_Dv_put_12 rfl (by decide) (Nat.le_of_ble_eq_true rfl) (Nat.le_of_eq (Nat.zero_add _)) (Nat.le_of_eq (Nat.zero_add _)) pic_len ?_
    rintro _ rfl
    refine ⟨_, _, rfl, rfl, ?_⟩
    refine xr_if_eq (tgt := 33) D_Dv_put_15 rfl (fun c2 => ?_) (fun c2 => ?_)
    · rw [b2_0] at c2
      refine xr_throwS (TH_74_120) rfl D_Dv_put_33.1 D_Dv_put_36.1 D_Dv_put_37.1 D_Dv_put_39.1 D_Dv_put_42.1 (by decide) (by decide) (Nat.le_of_ble_eq_true rfl) (Nat.le_refl _) (Nat.le_refl _) ?_
      first | exact Or.inl ⟨by grind, rfl⟩ | exact Or.inr (Or.inl ⟨by grind, rfl⟩) | exact Or.inr (Or.inr (⟨by grind, rfl⟩))
    · rw [b2_n] at c2
      refine xr_iload_n D_Dv_put_18 rfl rfl ?_
      refine xr_cSx (as := [_]) (c_Dv_isNear) (L_Dv_117) (CD_Dv_isNear) D_Dv_put_19 rfl (by decide) (Nat.le_of_ble_eq_true rfl) (Nat.le_of_eq (Nat.zero_add _)) (Nat.le_of_eq (Nat.zero_add _)) pic_len ?_
      rintro _ rfl
      refine ⟨_, _, rfl, rfl, ?_⟩
      refine xr_if_eq (tgt := 33) D_Dv_put_22 rfl (fun c3 => ?_) (fun c3 => ?_)
      · rw [b2_0] at c3
        refine xr_throwS (TH_74_120) rfl D_Dv_put_33.1 D_Dv_put_36.1 D_Dv_put_37.1 D_Dv_put_39.1 D_Dv_put_42.1 (by decide) (by decide) (Nat.le_of_ble_eq_true rfl) (Nat.le_refl _) (Nat.le_refl _) ?_
        first | exact Or.inl ⟨by grind, rfl⟩ | exact Or.inr (Or.inl ⟨by grind, rfl⟩) | exact Or.inr (Or.inr (⟨by grind, rfl⟩))
      · rw [b2_n] at c3
        refine xr_iload D_Dv_put_25 rfl ?_
        refine xr_cSx (as := [_]) (c_Dv_isNear) (L_Dv_117) (CD_Dv_isNear) D_Dv_put_27 rfl (by decide) (Nat.le_of_ble_eq_true rfl) (Nat.le_of_eq (Nat.zero_add _)) (Nat.le_of_eq (Nat.zero_add _)) pic_len ?_
        rintro _ rfl
        refine ⟨_, _, rfl, rfl, ?_⟩
        refine xr_if_ne (tgt := 43) D_Dv_put_30 rfl (fun c4 => ?_) (fun c4 => ?_)
        · rw [b2_n] at c4
          refine xr_aload_n D_Dv_put_43 rfl rfl ?_
          refine xr_getf F_Dv_30 D_Dv_put_44 rfl rfl ?_
          refine xr_cVx (as := []) (c_Sh_isFull_11) (L_Dv_122) (CD_Sh_isFull) CI_Sh D_Dv_put_47 rfl rfl (by decide) (Nat.le_of_ble_eq_true rfl) (Nat.le_of_eq (Nat.zero_add _)) (Nat.le_of_eq (Nat.zero_add _)) pic_len ?_
          rintro _ rfl
          refine ⟨_, _, rfl, rfl, ?_⟩
          refine xr_if_eq (tgt := 63) D_Dv_put_50 rfl (fun c5 => ?_) (fun c5 => ?_)
          · rw [b2_0] at c5
            refine xr_aload_n D_Dv_put_63 rfl rfl ?_
            refine xr_getf F_Dv_30 D_Dv_put_64 rfl rfl ?_
            refine xr_iload_n D_Dv_put_67 rfl rfl ?_
            refine xr_iload_n D_Dv_put_68 rfl rfl ?_
            refine xr_iconst (v := 0) D_Dv_put_69 rfl ?_
            refine xr_iload_n D_Dv_put_70 rfl rfl ?_
            refine xr_iload D_Dv_put_71 rfl ?_
            refine xr_cVx (as := [_, _, _, _, _]) (c_Sh_add_11 (by grind) (by grind)) (L_Dv_131) (CD_Sh_add) CI_Sh D_Dv_put_73 rfl rfl (by decide) (Nat.le_of_ble_eq_true rfl) (Nat.le_of_eq (Nat.zero_add _)) (Nat.le_of_eq (Nat.zero_add _)) pic_len ?_
            rintro _ rfl
            refine ⟨_, _, rfl, rfl, ?_⟩
            refine xr_iret rfl D_Dv_put_76 ?_
            first | exact Or.inl ⟨by grind, rfl⟩ | exact Or.inr (Or.inl ⟨by grind, rfl⟩) | exact Or.inr (Or.inr (⟨by grind, rfl⟩))
          · rw [b2_n] at c5
            refine xr_throwS (TH_126_128) rfl D_Dv_put_53.1 D_Dv_put_56.1 D_Dv_put_57.1 D_Dv_put_59.1 D_Dv_put_62.1 (by decide) (by decide) (Nat.le_of_ble_eq_true rfl) (Nat.le_refl _) (Nat.le_refl _) ?_
            first | exact Or.inl ⟨by grind, rfl⟩ | exact Or.inr (Or.inl ⟨by grind, rfl⟩) | exact Or.inr (Or.inr (⟨by grind, rfl⟩))
        · rw [b2_0] at c4
          refine xr_throwS (TH_74_120) rfl D_Dv_put_33.1 D_Dv_put_36.1 D_Dv_put_37.1 D_Dv_put_39.1 D_Dv_put_42.1 (by decide) (by decide) (Nat.le_of_ble_eq_true rfl) (Nat.le_refl _) (Nat.le_refl _) ?_
          first | exact Or.inl ⟨by grind, rfl⟩ | exact Or.inr (Or.inl ⟨by grind, rfl⟩) | exact Or.inr (Or.inr (⟨by grind, rfl⟩))

theorem c_Dv_rule_0 {I : mI} {A : mA} {L : mL} {x : Int32} {y : Int32} {w : Int32} {t : Int32} (h0 : 0 ≤ I 1101) : xm m_Dv_rule (6, 90) [.ref 0, .int x, .int y, .int w, .int t] (pic I A L) 1 6 (fun o => ((¬ ((-1000000000 ≤ x ∧ x ≤ 1000000000) ∧ (-1000000000 ≤ y ∧ y ≤ 1000000000) ∧ (1 ≤ w ∧ w ≤ 1000000000) ∧ (1 ≤ t ∧ t ≤ 1000000000))) ∧ o = (.inr "java/lang/IllegalArgumentException", pic I A L)) ∨ ((((-1000000000 ≤ x ∧ x ≤ 1000000000) ∧ (-1000000000 ≤ y ∧ y ≤ 1000000000) ∧ (1 ≤ w ∧ w ≤ 1000000000) ∧ (1 ≤ t ∧ t ≤ 1000000000)) ∧ 500 ≤ I 1101) ∧ o = (.inr "java/lang/UnsupportedOperationException", pic I A L)) ∨ ((((-1000000000 ≤ x ∧ x ≤ 1000000000) ∧ (-1000000000 ≤ y ∧ y ≤ 1000000000) ∧ (1 ≤ w ∧ w ≤ 1000000000) ∧ (1 ≤ t ∧ t ≤ 1000000000)) ∧ I 1101 < 500) ∧ o = (.inl (some (.int (I 1101 + 1))), pic (upd I 1101 (I 1101 + 1)) (upA (upA (upA (upA (upA A 12 (I 1101 * 5).toNatClampNeg (-1)) 12 (I 1101 * 5 + 1).toNatClampNeg w) 12 (I 1101 * 5 + 2).toNatClampNeg t) 12 (I 1101 * 5 + 3).toNatClampNeg x) 12 (I 1101 * 5 + 4).toNatClampNeg y) L))) := by
  refine xm_of rfl (by decide) (Nat.le_of_ble_eq_true rfl) ?_
  refine xr_iload_n D_Dv_rule_0 rfl rfl ?_
  refine xr_cSx (as := [_]) (c_Dv_isNear) (L_Dv_117) (CD_Dv_isNear) D_Dv_rule_1 rfl (by decide) (Nat.le_of_ble_eq_true rfl) (Nat.le_of_eq (Nat.zero_add _)) (Nat.le_of_eq (Nat.zero_add _)) pic_len ?_
  rintro _ rfl
  refine ⟨_, _, rfl, rfl, ?_⟩
  refine xr_if_eq (tgt := 29) D_Dv_rule_4 rfl (fun c1 => ?_) (fun c1 => ?_)
  · rw [b2_0] at c1
    refine xr_throwS (TH_74_138) rfl D_Dv_rule_29.1 D_Dv_rule_32.1 D_Dv_rule_33.1 D_Dv_rule_35.1 D_Dv_rule_38.1 (by decide) (by decide) (Nat.le_of_ble_eq_true rfl) (Nat.le_refl _) (Nat.le_refl _) ?_
    first | exact Or.inl ⟨by grind, rfl⟩ | exact Or.inr (Or.inl ⟨by grind, rfl⟩) | exact Or.inr (Or.inr (⟨by grind, rfl⟩))
  · rw [b2_n] at c1
    refine xr_iload_n D_Dv_rule_7 rfl rfl ?_
    refine xr_cSx (as := [_]) (c_Dv_isNear) (L_Dv_117) (CD_Dv_isNear) D_Dv_rule_8 rfl (by decide) (Nat.le_of_ble_eq_true rfl) (Nat.le_of_eq (Nat.zero_add _)) (Nat.le_of_eq (Nat.zero_add _)) pic_len ?_
    rintro _ rfl
    refine ⟨_, _, rfl, rfl, ?_⟩
    refine xr_if_eq (tgt := 29) D_Dv_rule_11 rfl (fun c2 => ?_) (fun c2 => ?_)
    · rw [b2_0] at c2
      refine xr_throwS (TH_74_138) rfl D_Dv_rule_29.1 D_Dv_rule_32.1 D_Dv_rule_33.1 D_Dv_rule_35.1 D_Dv_rule_38.1 (by decide) (by decide) (Nat.le_of_ble_eq_true rfl) (Nat.le_refl _) (Nat.le_refl _) ?_
      first | exact Or.inl ⟨by grind, rfl⟩ | exact Or.inr (Or.inl ⟨by grind, rfl⟩) | exact Or.inr (Or.inr (⟨by grind, rfl⟩))
    · rw [b2_n] at c2
      refine xr_iload_n D_Dv_rule_14 rfl rfl ?_
      refine xr_cSx (as := [_]) (c_Dv_isExtent) (L_Dv_135) (CD_Dv_isExtent) D_Dv_rule_15 rfl (by decide) (Nat.le_of_ble_eq_true rfl) (Nat.le_of_eq (Nat.zero_add _)) (Nat.le_of_eq (Nat.zero_add _)) pic_len ?_
      rintro _ rfl
      refine ⟨_, _, rfl, rfl, ?_⟩
      refine xr_if_eq (tgt := 29) D_Dv_rule_18 rfl (fun c3 => ?_) (fun c3 => ?_)
      · rw [b2_0] at c3
        refine xr_throwS (TH_74_138) rfl D_Dv_rule_29.1 D_Dv_rule_32.1 D_Dv_rule_33.1 D_Dv_rule_35.1 D_Dv_rule_38.1 (by decide) (by decide) (Nat.le_of_ble_eq_true rfl) (Nat.le_refl _) (Nat.le_refl _) ?_
        first | exact Or.inl ⟨by grind, rfl⟩ | exact Or.inr (Or.inl ⟨by grind, rfl⟩) | exact Or.inr (Or.inr (⟨by grind, rfl⟩))
      · rw [b2_n] at c3
        refine xr_iload D_Dv_rule_21 rfl ?_
        refine xr_cSx (as := [_]) (c_Dv_isExtent) (L_Dv_135) (CD_Dv_isExtent) D_Dv_rule_23 rfl (by decide) (Nat.le_of_ble_eq_true rfl) (Nat.le_of_eq (Nat.zero_add _)) (Nat.le_of_eq (Nat.zero_add _)) pic_len ?_
        rintro _ rfl
        refine ⟨_, _, rfl, rfl, ?_⟩
        refine xr_if_ne (tgt := 39) D_Dv_rule_26 rfl (fun c4 => ?_) (fun c4 => ?_)
        · rw [b2_n] at c4
          refine xr_aload_n D_Dv_rule_39 rfl rfl ?_
          refine xr_getf F_Dv_30 D_Dv_rule_40 rfl rfl ?_
          refine xr_cVx (as := []) (c_Sh_isFull_11) (L_Dv_122) (CD_Sh_isFull) CI_Sh D_Dv_rule_43 rfl rfl (by decide) (Nat.le_of_ble_eq_true rfl) (Nat.le_of_eq (Nat.zero_add _)) (Nat.le_of_eq (Nat.zero_add _)) pic_len ?_
          rintro _ rfl
          refine ⟨_, _, rfl, rfl, ?_⟩
          refine xr_if_eq (tgt := 59) D_Dv_rule_46 rfl (fun c5 => ?_) (fun c5 => ?_)
          · rw [b2_0] at c5
            refine xr_aload_n D_Dv_rule_59 rfl rfl ?_
            refine xr_getf F_Dv_30 D_Dv_rule_60 rfl rfl ?_
            refine xr_iconst (v := (-1)) D_Dv_rule_63 rfl ?_
            refine xr_iload_n D_Dv_rule_64 rfl rfl ?_
            refine xr_iload D_Dv_rule_65 rfl ?_
            refine xr_iload_n D_Dv_rule_67 rfl rfl ?_
            refine xr_iload_n D_Dv_rule_68 rfl rfl ?_
            refine xr_cVx (as := [_, _, _, _, _]) (c_Sh_add_11 (by grind) (by grind)) (L_Dv_131) (CD_Sh_add) CI_Sh D_Dv_rule_69 rfl rfl (by decide) (Nat.le_of_ble_eq_true rfl) (Nat.le_of_eq (Nat.zero_add _)) (Nat.le_of_eq (Nat.zero_add _)) pic_len ?_
            rintro _ rfl
            refine ⟨_, _, rfl, rfl, ?_⟩
            refine xr_iret rfl D_Dv_rule_72 ?_
            first | exact Or.inl ⟨by grind, rfl⟩ | exact Or.inr (Or.inl ⟨by grind, rfl⟩) | exact Or.inr (Or.inr (⟨by grind, rfl⟩))
          · rw [b2_n] at c5
            refine xr_throwS (TH_126_128) rfl D_Dv_rule_49.1 D_Dv_rule_52.1 D_Dv_rule_53.1 D_Dv_rule_55.1 D_Dv_rule_58.1 (by decide) (by decide) (Nat.le_of_ble_eq_true rfl) (Nat.le_refl _) (Nat.le_refl _) ?_
            first | exact Or.inl ⟨by grind, rfl⟩ | exact Or.inr (Or.inl ⟨by grind, rfl⟩) | exact Or.inr (Or.inr (⟨by grind, rfl⟩))
        · rw [b2_0] at c4
          refine xr_throwS (TH_74_138) rfl D_Dv_rule_29.1 D_Dv_rule_32.1 D_Dv_rule_33.1 D_Dv_rule_35.1 D_Dv_rule_38.1 (by decide) (by decide) (Nat.le_of_ble_eq_true rfl) (Nat.le_refl _) (Nat.le_refl _) ?_
          first | exact Or.inl ⟨by grind, rfl⟩ | exact Or.inr (Or.inl ⟨by grind, rfl⟩) | exact Or.inr (Or.inr (⟨by grind, rfl⟩))

theorem c_Dv_size_0 {I : mI} {A : mA} {L : mL}   : xm m_Dv_size (1, 20) [.ref 0] (pic I A L) 0 0 (fun o => o = (.inl (some (.int (I 1401))), (pic I A L))) := by
  refine xm_of rfl (by decide) (Nat.le_of_ble_eq_true rfl) ?_
  refine xr_aload_n D_Dv_size_0 rfl rfl ?_
  refine xr_getf F_Dv_39 D_Dv_size_1 rfl rfl ?_
  refine xr_cVx (as := []) (c_Wr_bytes_13) (L_Dv_167) (CD_Wr_bytes) CI_Wr D_Dv_size_4 rfl rfl (by decide) (Nat.le_of_ble_eq_true rfl) (Nat.le_of_eq (Nat.zero_add _)) (Nat.le_of_eq (Nat.zero_add _)) pic_len ?_
  rintro _ rfl
  refine ⟨_, _, rfl, rfl, ?_⟩
  refine xr_cVx (as := []) (c_By_length_14) (L_Dv_171) (CD_By_length) CI_By D_Dv_size_7 rfl rfl (by decide) (Nat.le_of_ble_eq_true rfl) (Nat.le_of_eq (Nat.zero_add _)) (Nat.le_of_eq (Nat.zero_add _)) pic_len ?_
  rintro _ rfl
  refine ⟨_, _, rfl, rfl, ?_⟩
  refine xr_iret rfl D_Dv_size_10 ?_
  exact rfl

theorem c_Dv_out_0 {I : mI} {A : mA} {L : mL} {i : Int32}  : xm m_Dv_out (6, 90) [.ref 0, .int i] (pic I A L) 1 6 (fun o => ((¬ (0 ≤ i ∧ i < I 1401)) ∧ o = (.inr "java/lang/IndexOutOfBoundsException", pic I A L)) ∨ ((0 ≤ i ∧ i < I 1401) ∧ o = (.inl (some (.int (gat (I 1401) (A 15) i))), pic I A L))) := by
  refine xm_of rfl (by decide) (Nat.le_of_ble_eq_true rfl) ?_
  refine xr_iload_n D_Dv_out_0 rfl rfl ?_
  refine xr_if_lt (tgt := 18) D_Dv_out_1 rfl (fun c1 => ?_) (fun c1 => ?_)
  · refine xr_throwS (TH_174_176) rfl D_Dv_out_18.1 D_Dv_out_21.1 D_Dv_out_22.1 D_Dv_out_24.1 D_Dv_out_27.1 (by decide) (by decide) (Nat.le_of_ble_eq_true rfl) (Nat.le_refl _) (Nat.le_refl _) ?_
    first | exact Or.inl ⟨by grind, rfl⟩ | exact Or.inr (⟨by grind, rfl⟩)
  · refine xr_iload_n D_Dv_out_4 rfl rfl ?_
    refine xr_aload_n D_Dv_out_5 rfl rfl ?_
    refine xr_getf F_Dv_39 D_Dv_out_6 rfl rfl ?_
    refine xr_cVx (as := []) (c_Wr_bytes_13) (L_Dv_167) (CD_Wr_bytes) CI_Wr D_Dv_out_9 rfl rfl (by decide) (Nat.le_of_ble_eq_true rfl) (Nat.le_of_eq (Nat.zero_add _)) (Nat.le_of_eq (Nat.zero_add _)) pic_len ?_
    rintro _ rfl
    refine ⟨_, _, rfl, rfl, ?_⟩
    refine xr_cVx (as := []) (c_By_length_14) (L_Dv_171) (CD_By_length) CI_By D_Dv_out_12 rfl rfl (by decide) (Nat.le_of_ble_eq_true rfl) (Nat.le_of_eq (Nat.zero_add _)) (Nat.le_of_eq (Nat.zero_add _)) pic_len ?_
    rintro _ rfl
    refine ⟨_, _, rfl, rfl, ?_⟩
    refine xr_icmp_lt (tgt := 28) D_Dv_out_15 rfl (fun c2 => ?_) (fun c2 => ?_)
    · refine xr_aload_n D_Dv_out_28 rfl rfl ?_
      refine xr_getf F_Dv_39 D_Dv_out_29 rfl rfl ?_
      refine xr_cVx (as := []) (c_Wr_bytes_13) (L_Dv_167) (CD_Wr_bytes) CI_Wr D_Dv_out_32 rfl rfl (by decide) (Nat.le_of_ble_eq_true rfl) (Nat.le_of_eq (Nat.zero_add _)) (Nat.le_of_eq (Nat.zero_add _)) pic_len ?_
      rintro _ rfl
      refine ⟨_, _, rfl, rfl, ?_⟩
      refine xr_iload_n D_Dv_out_35 rfl rfl ?_
      refine xr_cVx (as := [_]) (c_By_at_14) (L_Dv_179) (CD_By_at) CI_By D_Dv_out_36 rfl rfl (by decide) (Nat.le_of_ble_eq_true rfl) (Nat.le_of_eq (Nat.zero_add _)) (Nat.le_of_eq (Nat.zero_add _)) pic_len ?_
      rintro _ rfl
      refine ⟨_, _, rfl, rfl, ?_⟩
      refine xr_iret rfl D_Dv_out_39 ?_
      first | exact Or.inl ⟨by grind, rfl⟩ | exact Or.inr (⟨by grind, rfl⟩)
    · refine xr_throwS (TH_174_176) rfl D_Dv_out_18.1 D_Dv_out_21.1 D_Dv_out_22.1 D_Dv_out_24.1 D_Dv_out_27.1 (by decide) (by decide) (Nat.le_of_ble_eq_true rfl) (Nat.le_refl _) (Nat.le_refl _) ?_
      first | exact Or.inl ⟨by grind, rfl⟩ | exact Or.inr (⟨by grind, rfl⟩)

theorem c_Dv_keep_0 {I : mI} {A : mA} {L : mL} {n : Int32}  : xm m_Dv_keep (1, 21) [.ref 0, .int n] (pic I A L) 0 0 (fun o => ((¬ (0 ≤ n ∧ n ≤ I 2201)) ∧ o = (.inl (some (.int 0)), pic I A L)) ∨ ((0 ≤ n ∧ n ≤ I 2201) ∧ o = (.inl (some (.int 1)), pic (upd I 2201 n) A L))) := by
  refine xm_of rfl (by decide) (Nat.le_of_ble_eq_true rfl) ?_
  refine xr_iload_n D_Dv_keep_0 rfl rfl ?_
  refine xr_if_lt (tgt := 15) D_Dv_keep_1 rfl (fun c1 => ?_) (fun c1 => ?_)
  · refine xr_iconst (v := 0) D_Dv_keep_15 rfl ?_
    refine xr_zret rfl (by first | rfl | exact nar_b2 | exact nar_z hz) D_Dv_keep_16 ?_
    first | exact Or.inl ⟨by grind, rfl⟩ | exact Or.inr (⟨by grind, rfl⟩)
  · refine xr_iload_n D_Dv_keep_4 rfl rfl ?_
    refine xr_aload_n D_Dv_keep_5 rfl rfl ?_
    refine xr_getf F_Dv_46 D_Dv_keep_6 rfl rfl ?_
    refine xr_cVx (as := []) (c_By_length_22) (L_Dv_171) (CD_By_length) CI_By D_Dv_keep_9 rfl rfl (by decide) (Nat.le_of_ble_eq_true rfl) (Nat.le_of_eq (Nat.zero_add _)) (Nat.le_of_eq (Nat.zero_add _)) pic_len ?_
    rintro _ rfl
    refine ⟨_, _, rfl, rfl, ?_⟩
    refine xr_icmp_le (tgt := 17) D_Dv_keep_12 rfl (fun c2 => ?_) (fun c2 => ?_)
    · refine xr_aload_n D_Dv_keep_17 rfl rfl ?_
      refine xr_getf F_Dv_46 D_Dv_keep_18 rfl rfl ?_
      refine xr_iload_n D_Dv_keep_21 rfl rfl ?_
      refine xr_cVv (as := [_]) (c_By_cut_22 (by grind) (by grind)) (L_Dv_187) (CD_By_cut) CI_By D_Dv_keep_22 rfl rfl (by decide) (Nat.le_of_ble_eq_true rfl) (Nat.le_of_eq (Nat.zero_add _)) (Nat.le_of_eq (Nat.zero_add _)) pic_len ?_
      rintro _ rfl
      refine ⟨_, rfl, rfl, ?_⟩
      refine xr_iconst (v := 1) D_Dv_keep_25 rfl ?_
      refine xr_zret rfl (by first | rfl | exact nar_b2 | exact nar_z hz) D_Dv_keep_26 ?_
      first | exact Or.inl ⟨by grind, rfl⟩ | exact Or.inr (⟨by grind, rfl⟩)
    · refine xr_iconst (v := 0) D_Dv_keep_15 rfl ?_
      refine xr_zret rfl (by first | rfl | exact nar_b2 | exact nar_z hz) D_Dv_keep_16 ?_
      first | exact Or.inl ⟨by grind, rfl⟩ | exact Or.inr (⟨by grind, rfl⟩)

theorem c_Dv_about_0 {I : mI} {A : mA} {L : mL} {w : Int32}  : xm m_Dv_about (6, 90) [.ref 0, .int w] (pic I A L) 1 6 (fun o => ((¬ (0 ≤ w ∧ w ≤ 6)) ∧ o = (.inr "java/lang/IndexOutOfBoundsException", pic I A L)) ∨ ((w = 0) ∧ o = (.inl (some (.int (I 2405))), pic I A L)) ∨ ((w = 1) ∧ o = (.inl (some (.int (I 2406))), pic I A L)) ∨ ((w = 2) ∧ o = (.inl (some (.int (I 2407))), pic I A L)) ∨ ((w = 3) ∧ o = (.inl (some (.int (I 2408))), pic I A L)) ∨ ((w = 4) ∧ o = (.inl (some (.int (I 2409))), pic I A L)) ∨ ((w = 5) ∧ o = (.inl (some (.int (I 2410))), pic I A L)) ∨ ((w = 6) ∧ o = (.inl (some (.int (I 2411))), pic I A L))) := by
  refine xm_of rfl (by decide) (Nat.le_of_ble_eq_true rfl) ?_
  refine xr_iload_n D_Dv_about_0 rfl rfl ?_
  by_cases t0 : w = 0
  · refine xr_tableIn (tgt := 44) (off := 43) D_Dv_about_1 (by rw [t0]; decide) (by rw [t0]; decide) (by rw [t0]; rfl) rfl ?_
    refine xr_aload_n D_Dv_about_44 rfl rfl ?_
    refine xr_getf F_Dv_53 D_Dv_about_45 rfl rfl ?_
    refine xr_getf F_Dv_204 D_Dv_about_48 rfl rfl ?_
    refine xr_iret rfl D_Dv_about_51 ?_
    first | exact Or.inl ⟨by grind, rfl⟩ | exact Or.inr (Or.inl ⟨by grind, rfl⟩) | exact Or.inr (Or.inr (Or.inl ⟨by grind, rfl⟩)) | exact Or.inr (Or.inr (Or.inr (Or.inl ⟨by grind, rfl⟩))) | exact Or.inr (Or.inr (Or.inr (Or.inr (Or.inl ⟨by grind, rfl⟩)))) | exact Or.inr (Or.inr (Or.inr (Or.inr (Or.inr (Or.inl ⟨by grind, rfl⟩))))) | exact Or.inr (Or.inr (Or.inr (Or.inr (Or.inr (Or.inr (Or.inl ⟨by grind, rfl⟩)))))) | exact Or.inr (Or.inr (Or.inr (Or.inr (Or.inr (Or.inr (Or.inr (⟨by grind, rfl⟩)))))))
  by_cases t1 : w = 1
  · refine xr_tableIn (tgt := 52) (off := 51) D_Dv_about_1 (by rw [t1]; decide) (by rw [t1]; decide) (by rw [t1]; rfl) rfl ?_
    refine xr_aload_n D_Dv_about_52 rfl rfl ?_
    refine xr_getf F_Dv_53 D_Dv_about_53 rfl rfl ?_
    refine xr_getf F_Dv_208 D_Dv_about_56 rfl rfl ?_
    refine xr_iret rfl D_Dv_about_59 ?_
    first | exact Or.inl ⟨by grind, rfl⟩ | exact Or.inr (Or.inl ⟨by grind, rfl⟩) | exact Or.inr (Or.inr (Or.inl ⟨by grind, rfl⟩)) | exact Or.inr (Or.inr (Or.inr (Or.inl ⟨by grind, rfl⟩))) | exact Or.inr (Or.inr (Or.inr (Or.inr (Or.inl ⟨by grind, rfl⟩)))) | exact Or.inr (Or.inr (Or.inr (Or.inr (Or.inr (Or.inl ⟨by grind, rfl⟩))))) | exact Or.inr (Or.inr (Or.inr (Or.inr (Or.inr (Or.inr (Or.inl ⟨by grind, rfl⟩)))))) | exact Or.inr (Or.inr (Or.inr (Or.inr (Or.inr (Or.inr (Or.inr (⟨by grind, rfl⟩)))))))
  by_cases t2 : w = 2
  · refine xr_tableIn (tgt := 60) (off := 59) D_Dv_about_1 (by rw [t2]; decide) (by rw [t2]; decide) (by rw [t2]; rfl) rfl ?_
    refine xr_aload_n D_Dv_about_60 rfl rfl ?_
    refine xr_getf F_Dv_53 D_Dv_about_61 rfl rfl ?_
    refine xr_getf F_Dv_211 D_Dv_about_64 rfl rfl ?_
    refine xr_iret rfl D_Dv_about_67 ?_
    first | exact Or.inl ⟨by grind, rfl⟩ | exact Or.inr (Or.inl ⟨by grind, rfl⟩) | exact Or.inr (Or.inr (Or.inl ⟨by grind, rfl⟩)) | exact Or.inr (Or.inr (Or.inr (Or.inl ⟨by grind, rfl⟩))) | exact Or.inr (Or.inr (Or.inr (Or.inr (Or.inl ⟨by grind, rfl⟩)))) | exact Or.inr (Or.inr (Or.inr (Or.inr (Or.inr (Or.inl ⟨by grind, rfl⟩))))) | exact Or.inr (Or.inr (Or.inr (Or.inr (Or.inr (Or.inr (Or.inl ⟨by grind, rfl⟩)))))) | exact Or.inr (Or.inr (Or.inr (Or.inr (Or.inr (Or.inr (Or.inr (⟨by grind, rfl⟩)))))))
  by_cases t3 : w = 3
  · refine xr_tableIn (tgt := 68) (off := 67) D_Dv_about_1 (by rw [t3]; decide) (by rw [t3]; decide) (by rw [t3]; rfl) rfl ?_
    refine xr_aload_n D_Dv_about_68 rfl rfl ?_
    refine xr_getf F_Dv_53 D_Dv_about_69 rfl rfl ?_
    refine xr_getf F_Dv_214 D_Dv_about_72 rfl rfl ?_
    refine xr_iret rfl D_Dv_about_75 ?_
    first | exact Or.inl ⟨by grind, rfl⟩ | exact Or.inr (Or.inl ⟨by grind, rfl⟩) | exact Or.inr (Or.inr (Or.inl ⟨by grind, rfl⟩)) | exact Or.inr (Or.inr (Or.inr (Or.inl ⟨by grind, rfl⟩))) | exact Or.inr (Or.inr (Or.inr (Or.inr (Or.inl ⟨by grind, rfl⟩)))) | exact Or.inr (Or.inr (Or.inr (Or.inr (Or.inr (Or.inl ⟨by grind, rfl⟩))))) | exact Or.inr (Or.inr (Or.inr (Or.inr (Or.inr (Or.inr (Or.inl ⟨by grind, rfl⟩)))))) | exact Or.inr (Or.inr (Or.inr (Or.inr (Or.inr (Or.inr (Or.inr (⟨by grind, rfl⟩)))))))
  by_cases t4 : w = 4
  · refine xr_tableIn (tgt := 76) (off := 75) D_Dv_about_1 (by rw [t4]; decide) (by rw [t4]; decide) (by rw [t4]; rfl) rfl ?_
    refine xr_aload_n D_Dv_about_76 rfl rfl ?_
    refine xr_getf F_Dv_53 D_Dv_about_77 rfl rfl ?_
    refine xr_getf F_Dv_217 D_Dv_about_80 rfl rfl ?_
    refine xr_iret rfl D_Dv_about_83 ?_
    first | exact Or.inl ⟨by grind, rfl⟩ | exact Or.inr (Or.inl ⟨by grind, rfl⟩) | exact Or.inr (Or.inr (Or.inl ⟨by grind, rfl⟩)) | exact Or.inr (Or.inr (Or.inr (Or.inl ⟨by grind, rfl⟩))) | exact Or.inr (Or.inr (Or.inr (Or.inr (Or.inl ⟨by grind, rfl⟩)))) | exact Or.inr (Or.inr (Or.inr (Or.inr (Or.inr (Or.inl ⟨by grind, rfl⟩))))) | exact Or.inr (Or.inr (Or.inr (Or.inr (Or.inr (Or.inr (Or.inl ⟨by grind, rfl⟩)))))) | exact Or.inr (Or.inr (Or.inr (Or.inr (Or.inr (Or.inr (Or.inr (⟨by grind, rfl⟩)))))))
  by_cases t5 : w = 5
  · refine xr_tableIn (tgt := 84) (off := 83) D_Dv_about_1 (by rw [t5]; decide) (by rw [t5]; decide) (by rw [t5]; rfl) rfl ?_
    refine xr_aload_n D_Dv_about_84 rfl rfl ?_
    refine xr_getf F_Dv_53 D_Dv_about_85 rfl rfl ?_
    refine xr_getf F_Dv_220 D_Dv_about_88 rfl rfl ?_
    refine xr_iret rfl D_Dv_about_91 ?_
    first | exact Or.inl ⟨by grind, rfl⟩ | exact Or.inr (Or.inl ⟨by grind, rfl⟩) | exact Or.inr (Or.inr (Or.inl ⟨by grind, rfl⟩)) | exact Or.inr (Or.inr (Or.inr (Or.inl ⟨by grind, rfl⟩))) | exact Or.inr (Or.inr (Or.inr (Or.inr (Or.inl ⟨by grind, rfl⟩)))) | exact Or.inr (Or.inr (Or.inr (Or.inr (Or.inr (Or.inl ⟨by grind, rfl⟩))))) | exact Or.inr (Or.inr (Or.inr (Or.inr (Or.inr (Or.inr (Or.inl ⟨by grind, rfl⟩)))))) | exact Or.inr (Or.inr (Or.inr (Or.inr (Or.inr (Or.inr (Or.inr (⟨by grind, rfl⟩)))))))
  by_cases t6 : w = 6
  · refine xr_tableIn (tgt := 92) (off := 91) D_Dv_about_1 (by rw [t6]; decide) (by rw [t6]; decide) (by rw [t6]; rfl) rfl ?_
    refine xr_aload_n D_Dv_about_92 rfl rfl ?_
    refine xr_getf F_Dv_53 D_Dv_about_93 rfl rfl ?_
    refine xr_getf F_Dv_223 D_Dv_about_96 rfl rfl ?_
    refine xr_iret rfl D_Dv_about_99 ?_
    first | exact Or.inl ⟨by grind, rfl⟩ | exact Or.inr (Or.inl ⟨by grind, rfl⟩) | exact Or.inr (Or.inr (Or.inl ⟨by grind, rfl⟩)) | exact Or.inr (Or.inr (Or.inr (Or.inl ⟨by grind, rfl⟩))) | exact Or.inr (Or.inr (Or.inr (Or.inr (Or.inl ⟨by grind, rfl⟩)))) | exact Or.inr (Or.inr (Or.inr (Or.inr (Or.inr (Or.inl ⟨by grind, rfl⟩))))) | exact Or.inr (Or.inr (Or.inr (Or.inr (Or.inr (Or.inr (Or.inl ⟨by grind, rfl⟩)))))) | exact Or.inr (Or.inr (Or.inr (Or.inr (Or.inr (Or.inr (Or.inr (⟨by grind, rfl⟩)))))))
  refine xr_tableOut2 (tgt := 100) (lo9 := 0) (hi9 := 6) D_Dv_about_1 (by grind) rfl rfl rfl ?_
  refine xr_throwS (TH_174_226) rfl D_Dv_about_100.1 D_Dv_about_103.1 D_Dv_about_104.1 D_Dv_about_106.1 D_Dv_about_109.1 (by decide) (by decide) (Nat.le_of_ble_eq_true rfl) (Nat.le_refl _) (Nat.le_refl _) ?_
  first | exact Or.inl ⟨by grind, rfl⟩ | exact Or.inr (Or.inl ⟨by grind, rfl⟩) | exact Or.inr (Or.inr (Or.inl ⟨by grind, rfl⟩)) | exact Or.inr (Or.inr (Or.inr (Or.inl ⟨by grind, rfl⟩))) | exact Or.inr (Or.inr (Or.inr (Or.inr (Or.inl ⟨by grind, rfl⟩)))) | exact Or.inr (Or.inr (Or.inr (Or.inr (Or.inr (Or.inl ⟨by grind, rfl⟩))))) | exact Or.inr (Or.inr (Or.inr (Or.inr (Or.inr (Or.inr (Or.inl ⟨by grind, rfl⟩)))))) | exact Or.inr (Or.inr (Or.inr (Or.inr (Or.inr (Or.inr (Or.inr (⟨by grind, rfl⟩)))))))
