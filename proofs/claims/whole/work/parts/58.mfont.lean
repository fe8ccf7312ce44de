def nmV (a b : Int64) : Nat → Nat → Bool
  | 0, _ => true
  | n + 1, s => decide (33 ≤ letM a b (Int32.ofNat s) ∧ letM a b (Int32.ofNat s) ≤ 126) && nmV a b n (s + 1)
theorem nmV_s {a b : Int64} {n s : Nat} : nmV a b (n + 1) s = (decide (33 ≤ letM a b (Int32.ofNat s) ∧ letM a b (Int32.ofNat s) ≤ 126) && nmV a b n (s + 1)) := rfl
def nwF (x : Int32) (a b : Int64) : Nat → Nat → (Nat → Int32) → (Nat → Int32)
  | 0, _, g => g
  | t + 1, j, g => nwF x a b t (j + 1) (upd g (16 * x + Int32.ofNat j).toNatClampNeg (vp_nar .byte (letM a b (Int32.ofNat j)).toInt8.toInt32))
def fdM (w : Int64) : Nat → List Int32
  | 0 => []
  | k + 1 => ((w >>> ((8 * Int32.ofNat k).toInt64 &&& 63)).toInt32 &&& 255) :: fdM w k

theorem l_Mo_fo1 {I : mI} {A : mA} {L : mL} {f x y z n : Int32} {a b : Int64} {Q : xO → Prop} (hn : n ≤ 16) : ∀ (t j : Nat) (r : Int32), (r = 0 ∨ r = 1) → (j : Int) + t = n.toInt → (∀ j9 : Int32, xr m_Mo_font none (1, 24) 83 [some (.ref 34), some (.int f), some (.int x), some (.int y), some (.int z), some (.long a), none, some (.long b), none, some (.int n), some (.int (b2 (¬ r = 0 ∧ nmV a b t j = true))), some (.int j9)] [] (pic I A L) 0 0 Q) → xr m_Mo_font none (1, 24) 30 [some (.ref 34), some (.int f), some (.int x), some (.int y), some (.int z), some (.long a), none, some (.long b), none, some (.int n), some (.int r), some (.int (Int32.ofNat j))] [] (pic I A L) 0 0 Q := by
  have hn9 := i_le.mp hn
  have e16 : (16 : Int32).toInt = 16 := rfl
  intro t
  induction t with
  | zero =>
    intro j r hr hj K
    refine xr_iload D_Mo_font_30 rfl ?_
    refine xr_iload D_Mo_font_32 rfl ?_
    refine xr_icmp_ge (tgt := 83) D_Mo_font_34 rfl (fun c1 => ?_) (fun c1 => ?_)
    · have e : b2 (¬ r = 0 ∧ nmV a b 0 j = true) = r := by
        rcases hr with rfl | rfl
        · exact (b2_f (fun q => q.1 rfl)).symm
        · exact (b2_t ⟨by decide, rfl⟩).symm
      have z := K (Int32.ofNat j)
      rw [e] at z
      exact z
    · exact absurd (i_le.mpr (by rw [i_of (by omega)]; omega)) c1
  | succ t ih =>
    intro j r hr hj K
    refine xr_iload D_Mo_font_30 rfl ?_
    refine xr_iload D_Mo_font_32 rfl ?_
    refine xr_icmp_ge (tgt := 83) D_Mo_font_34 rfl (fun c1 => ?_) (fun c1 => ?_)
    · exact absurd c1 (fun q => by rw [i_le, i_of (by omega)] at q; omega)
    · refine xr_iload D_Mo_font_37 rfl ?_
      refine xr_if_eq (tgt := 83) D_Mo_font_39 rfl (fun c2 => ?_) (fun c2 => ?_)
      · have e : b2 (¬ r = 0 ∧ nmV a b (t + 1) j = true) = r := by rw [c2]; exact (b2_f (fun q => q.1 rfl)).symm
        have z := K (Int32.ofNat j)
        rw [e] at z
        exact z
      · refine xr_lload D_Mo_font_42 rfl ?_
        refine xr_lload D_Mo_font_44 rfl ?_
        refine xr_iload D_Mo_font_46 rfl ?_
        refine xr_cSx (as := [_, _, _]) (c_Mo_letter) (L_Mo_109) (CD_Mo_letter) D_Mo_font_48 rfl (by decide) (Nat.le_of_ble_eq_true rfl) (Nat.le_of_eq (Nat.zero_add _)) (Nat.le_of_eq (Nat.zero_add _)) pic_len ?_
        rintro _ rfl
        refine ⟨_, _, rfl, pic_leq, ?_⟩
        refine xr_bipush (v := 33) D_Mo_font_51 rfl ?_
        refine xr_icmp_lt (tgt := 74) D_Mo_font_53 rfl (fun c3 => ?_) (fun c3 => ?_)
        · refine xr_iconst (v := 0) D_Mo_font_74 rfl ?_
          refine xr_istore D_Mo_font_75 (by decide) ?_
          refine xr_iinc (c9 := 1) D_Mo_font_77 rfl rfl (by decide) ?_
          refine xr_goto (tgt := 30) D_Mo_font_80 rfl ?_
          rw [io_succ]
          refine ih (j + 1) 0 (Or.inl rfl) (by omega) (fun j9 => ?_)
          have e : b2 (¬ (0 : Int32) = 0 ∧ nmV a b t (j + 1) = true) = b2 (¬ r = 0 ∧ nmV a b (t + 1) j = true) := by
            refine b2_iff ?_
            rw [nmV_s, decide_eq_false (show ¬ (33 ≤ letM a b (Int32.ofNat j) ∧ letM a b (Int32.ofNat j) ≤ 126) by grind), Bool.false_and]
            exact ⟨fun q => absurd rfl q.1, fun q => absurd q.2 (by decide)⟩
          rw [e]
          exact K j9
        · refine xr_lload D_Mo_font_56 rfl ?_
          refine xr_lload D_Mo_font_58 rfl ?_
          refine xr_iload D_Mo_font_60 rfl ?_
          refine xr_cSx (as := [_, _, _]) (c_Mo_letter) (L_Mo_109) (CD_Mo_letter) D_Mo_font_62 rfl (by decide) (Nat.le_of_ble_eq_true rfl) (Nat.le_of_eq (Nat.zero_add _)) (Nat.le_of_eq (Nat.zero_add _)) pic_len ?_
          rintro _ rfl
          refine ⟨_, _, rfl, pic_leq, ?_⟩
          refine xr_bipush (v := 126) D_Mo_font_65 rfl ?_
          refine xr_icmp_gt (tgt := 74) D_Mo_font_67 rfl (fun c4 => ?_) (fun c4 => ?_)
          · refine xr_iconst (v := 0) D_Mo_font_74 rfl ?_
            refine xr_istore D_Mo_font_75 (by decide) ?_
            refine xr_iinc (c9 := 1) D_Mo_font_77 rfl rfl (by decide) ?_
            refine xr_goto (tgt := 30) D_Mo_font_80 rfl ?_
            rw [io_succ]
            refine ih (j + 1) 0 (Or.inl rfl) (by omega) (fun j9 => ?_)
            have e : b2 (¬ (0 : Int32) = 0 ∧ nmV a b t (j + 1) = true) = b2 (¬ r = 0 ∧ nmV a b (t + 1) j = true) := by
              refine b2_iff ?_
              rw [nmV_s, decide_eq_false (show ¬ (33 ≤ letM a b (Int32.ofNat j) ∧ letM a b (Int32.ofNat j) ≤ 126) by grind), Bool.false_and]
              exact ⟨fun q => absurd rfl q.1, fun q => absurd q.2 (by decide)⟩
            rw [e]
            exact K j9
          · refine xr_iconst (v := 1) D_Mo_font_70 rfl ?_
            refine xr_goto (tgt := 75) D_Mo_font_71 rfl ?_
            refine xr_istore D_Mo_font_75 (by decide) ?_
            refine xr_iinc (c9 := 1) D_Mo_font_77 rfl rfl (by decide) ?_
            refine xr_goto (tgt := 30) D_Mo_font_80 rfl ?_
            rw [io_succ]
            refine ih (j + 1) 1 (Or.inr rfl) (by omega) (fun j9 => ?_)
            have e : b2 (¬ (1 : Int32) = 0 ∧ nmV a b t (j + 1) = true) = b2 (¬ r = 0 ∧ nmV a b (t + 1) j = true) := by
              refine b2_iff ?_
              rw [nmV_s, decide_eq_true (show 33 ≤ letM a b (Int32.ofNat j) ∧ letM a b (Int32.ofNat j) ≤ 126 by grind), Bool.true_and]
              exact ⟨fun q => ⟨c2, q.2⟩, fun q => ⟨by decide, q.2⟩⟩
            rw [e]
            exact K j9

theorem l_Mo_fo2 {I : mI} {L : mL} {f x y z n : Int32} {a b : Int64} {x10 : Int32} (hf : 0 ≤ f ∧ f ≤ 255) (hn : n ≤ 16) : ∀ (t j : Nat) (A : mA), (j : Int) + t = n.toInt → xr m_Mo_font none (1, 24) 157 [some (.ref 34), some (.int f), some (.int x), some (.int y), some (.int z), some (.long a), none, some (.long b), none, some (.int n), some (.int x10), some (.int (Int32.ofNat j))] [] (pic I A L) 0 0 (fun o => o = (.inl none, pic I (upAf A 40 (nwF f a b t j (A 40))) L)) := by
  have hn9 := i_le.mp hn
  have e16 : (16 : Int32).toInt = 16 := rfl
  intro t
  induction t with
  | zero =>
    intro j A hj
    refine xr_iload D_Mo_font_157 rfl ?_
    refine xr_iload D_Mo_font_159 rfl ?_
    refine xr_icmp_ge (tgt := 192) D_Mo_font_161 rfl (fun c1 => ?_) (fun c1 => ?_)
    · refine xr_vret rfl D_Mo_font_192 ?_
      exact congrArg (fun z => ((.inl none, pic I z L) : xO)) upAf_self.symm
    · exact absurd (i_le.mpr (by rw [i_of (by omega)]; omega)) c1
  | succ t ih =>
    intro j A hj
    have hj0 : 0 ≤ Int32.ofNat j := i_le.mpr (by rw [i_of (by omega), z0]; omega)
    have hj1 : Int32.ofNat j < 16 := i_lt.mpr (by rw [i_of (by omega)]; omega)
    refine xr_iload D_Mo_font_157 rfl ?_
    refine xr_iload D_Mo_font_159 rfl ?_
    refine xr_icmp_ge (tgt := 192) D_Mo_font_161 rfl (fun c1 => ?_) (fun c1 => ?_)
    · exact absurd c1 (fun q => by rw [i_le, i_of (by omega)] at q; omega)
    · refine xr_aload_n D_Mo_font_164 rfl rfl ?_
      refine xr_getf F_Mo_26 D_Mo_font_165 rfl rfl ?_
      refine xr_bipush (v := 16) D_Mo_font_168 rfl ?_
      refine xr_iload_n D_Mo_font_170 rfl rfl ?_
      refine xr_imul D_Mo_font_171 ?_
      refine xr_iload D_Mo_font_172 rfl ?_
      refine xr_iadd D_Mo_font_174 ?_
      refine xr_lload D_Mo_font_175 rfl ?_
      refine xr_lload D_Mo_font_177 rfl ?_
      refine xr_iload D_Mo_font_179 rfl ?_
      refine xr_cSx (as := [_, _, _]) (c_Mo_letter) (L_Mo_109) (CD_Mo_letter) D_Mo_font_181 rfl (by decide) (Nat.le_of_ble_eq_true rfl) (Nat.le_of_eq (Nat.zero_add _)) (Nat.le_of_eq (Nat.zero_add _)) pic_len ?_
      rintro _ rfl
      refine ⟨_, _, rfl, pic_leq, ?_⟩
      refine xr_i2b D_Mo_font_184 ?_
      refine xr_bast D_Mo_font_185 rfl (by exact i_in2 4096 (by grind) (by grind) rfl) (aset_40) ?_
      refine xr_iinc (c9 := 1) D_Mo_font_186 rfl rfl (by decide) ?_
      refine xr_goto (tgt := 157) D_Mo_font_189 rfl ?_
      rw [io_succ]
      refine xr_mono (ih (j + 1) _ (by omega)) ?_
      rintro _ rfl
      exact congrArg (fun z => ((.inl none, pic I z L) : xO)) upAf_upA

theorem c_Mo_font_34 {I : mI} {A : mA} {L : mL} {f : Int32} {x : Int32} {y : Int32} {z : Int32} {a : Int64} {b : Int64} {n : Int32} (ht0 : 0 ≤ I 3418) (ht1 : I 3418 ≤ 256) : xm m_Mo_font (1, 24) [.ref 34, .int f, .int x, .int y, .int z, .long a, .long b, .int n] (pic I A L) 0 0 (fun o => ((¬ ((0 ≤ f ∧ f ≤ 255) ∧ ((1 ≤ n ∧ n ≤ 16) ∧ nmV a b n.toInt.toNat 0 = true))) ∧ o = (.inl none, pic (upd I 3400 1) A L)) ∨ ((((0 ≤ f ∧ f ≤ 255) ∧ ((1 ≤ n ∧ n ≤ 16) ∧ nmV a b n.toInt.toNat 0 = true)) ∧ cmF (A 44) f (I 3418).toInt.toNat 0 = true) ∧ o = (.inl none, pic (upd I 3400 2) A L)) ∨ ((((0 ≤ f ∧ f ≤ 255) ∧ ((1 ≤ n ∧ n ≤ 16) ∧ nmV a b n.toInt.toNat 0 = true)) ∧ ¬ cmF (A 44) f (I 3418).toInt.toNat 0 = true) ∧ o = (.inl none, pic (upd I 3400 0) (upAf (upA (upA (upA (upA (upA A 35 f.toNatClampNeg 1) 36 f.toNatClampNeg x) 37 f.toNatClampNeg y) 38 f.toNatClampNeg z) 39 f.toNatClampNeg n) 40 (nwF f a b n.toInt.toNat 0 (A 40))) L))) := by
  refine xm_of rfl (by decide) (Nat.le_of_ble_eq_true rfl) ?_
  refine xr_iload_n D_Mo_font_0 rfl rfl ?_
  refine xr_cSx (as := [_]) (c_Mo_isByte) (L_Mo_105) (CD_Mo_isByte) D_Mo_font_1 rfl (by decide) (Nat.le_of_ble_eq_true rfl) (Nat.le_of_eq (Nat.zero_add _)) (Nat.le_of_eq (Nat.zero_add _)) pic_len ?_
  rintro _ rfl
  refine ⟨_, _, rfl, pic_leq, ?_⟩
  refine xr_if_eq (tgt := 24) D_Mo_font_4 rfl (fun c1 => ?_) (fun c1 => ?_)
  · rw [b2_0] at c1
    refine xr_iconst (v := 0) D_Mo_font_24 rfl ?_
    refine xr_istore D_Mo_font_25 (by decide) ?_
    refine xr_iconst (v := 0) D_Mo_font_27 rfl ?_
    refine xr_istore D_Mo_font_28 (by decide) ?_
    refine xr_iload D_Mo_font_30 rfl ?_
    refine xr_iload D_Mo_font_32 rfl ?_
    refine xr_icmp_ge (tgt := 83) D_Mo_font_34 rfl (fun c2 => ?_) (fun c2 => ?_)
    · refine xr_aload_n D_Mo_font_83 rfl rfl ?_
      refine xr_iload D_Mo_font_84 rfl ?_
      refine xr_if_ne (tgt := 93) D_Mo_font_86 rfl (fun c3 => ?_) (fun c3 => ?_)
      · exact absurd (show (0 : Int32) = (0 : Int32) by decide) c3
      · refine xr_iconst (v := 1) D_Mo_font_89 rfl ?_
        refine xr_goto (tgt := 106) D_Mo_font_90 rfl ?_
        refine xr_putf F_Mo_97 FT_Mo FN_Mo_0 D_Mo_font_106 rfl (Nat.le_of_ble_eq_true rfl) rfl rfl (pset_34_0) ?_
        refine xr_aload_n D_Mo_font_109 rfl rfl ?_
        refine xr_getf F_Mo_97 D_Mo_font_110 rfl rfl ?_
        refine xr_if_le (tgt := 117) D_Mo_font_113 rfl (fun c4 => ?_) (fun c4 => ?_)
        · exact absurd (show (1 : Int32) ≤ (0 : Int32) from c4) (by decide)
        · refine xr_vret rfl D_Mo_font_116 ?_
          exact Or.inl ⟨by grind, rfl⟩
    · refine xr_iload D_Mo_font_37 rfl ?_
      refine xr_if_eq (tgt := 83) D_Mo_font_39 rfl (fun c3 => ?_) (fun c3 => ?_)
      · refine xr_aload_n D_Mo_font_83 rfl rfl ?_
        refine xr_iload D_Mo_font_84 rfl ?_
        refine xr_if_ne (tgt := 93) D_Mo_font_86 rfl (fun c4 => ?_) (fun c4 => ?_)
        · exact absurd (show (0 : Int32) = (0 : Int32) by decide) c4
        · refine xr_iconst (v := 1) D_Mo_font_89 rfl ?_
          refine xr_goto (tgt := 106) D_Mo_font_90 rfl ?_
          refine xr_putf F_Mo_97 FT_Mo FN_Mo_0 D_Mo_font_106 rfl (Nat.le_of_ble_eq_true rfl) rfl rfl (pset_34_0) ?_
          refine xr_aload_n D_Mo_font_109 rfl rfl ?_
          refine xr_getf F_Mo_97 D_Mo_font_110 rfl rfl ?_
          refine xr_if_le (tgt := 117) D_Mo_font_113 rfl (fun c5 => ?_) (fun c5 => ?_)
          · exact absurd (show (1 : Int32) ≤ (0 : Int32) from c5) (by decide)
          · refine xr_vret rfl D_Mo_font_116 ?_
            exact Or.inl ⟨by grind, rfl⟩
      · exact absurd (show (0 : Int32) = (0 : Int32) by decide) c3
  · rw [b2_n] at c1
    refine xr_iload D_Mo_font_7 rfl ?_
    refine xr_iconst (v := 1) D_Mo_font_9 rfl ?_
    refine xr_icmp_lt (tgt := 24) D_Mo_font_10 rfl (fun c2 => ?_) (fun c2 => ?_)
    · refine xr_iconst (v := 0) D_Mo_font_24 rfl ?_
      refine xr_istore D_Mo_font_25 (by decide) ?_
      refine xr_iconst (v := 0) D_Mo_font_27 rfl ?_
      refine xr_istore D_Mo_font_28 (by decide) ?_
      refine xr_iload D_Mo_font_30 rfl ?_
      refine xr_iload D_Mo_font_32 rfl ?_
      refine xr_icmp_ge (tgt := 83) D_Mo_font_34 rfl (fun c3 => ?_) (fun c3 => ?_)
      · refine xr_aload_n D_Mo_font_83 rfl rfl ?_
        refine xr_iload D_Mo_font_84 rfl ?_
        refine xr_if_ne (tgt := 93) D_Mo_font_86 rfl (fun c4 => ?_) (fun c4 => ?_)
        · exact absurd (show (0 : Int32) = (0 : Int32) by decide) c4
        · refine xr_iconst (v := 1) D_Mo_font_89 rfl ?_
          refine xr_goto (tgt := 106) D_Mo_font_90 rfl ?_
          refine xr_putf F_Mo_97 FT_Mo FN_Mo_0 D_Mo_font_106 rfl (Nat.le_of_ble_eq_true rfl) rfl rfl (pset_34_0) ?_
          refine xr_aload_n D_Mo_font_109 rfl rfl ?_
          refine xr_getf F_Mo_97 D_Mo_font_110 rfl rfl ?_
          refine xr_if_le (tgt := 117) D_Mo_font_113 rfl (fun c5 => ?_) (fun c5 => ?_)
          · exact absurd (show (1 : Int32) ≤ (0 : Int32) from c5) (by decide)
          · refine xr_vret rfl D_Mo_font_116 ?_
            exact Or.inl ⟨by grind, rfl⟩
      · refine xr_iload D_Mo_font_37 rfl ?_
        refine xr_if_eq (tgt := 83) D_Mo_font_39 rfl (fun c4 => ?_) (fun c4 => ?_)
        · refine xr_aload_n D_Mo_font_83 rfl rfl ?_
          refine xr_iload D_Mo_font_84 rfl ?_
          refine xr_if_ne (tgt := 93) D_Mo_font_86 rfl (fun c5 => ?_) (fun c5 => ?_)
          · exact absurd (show (0 : Int32) = (0 : Int32) by decide) c5
          · refine xr_iconst (v := 1) D_Mo_font_89 rfl ?_
            refine xr_goto (tgt := 106) D_Mo_font_90 rfl ?_
            refine xr_putf F_Mo_97 FT_Mo FN_Mo_0 D_Mo_font_106 rfl (Nat.le_of_ble_eq_true rfl) rfl rfl (pset_34_0) ?_
            refine xr_aload_n D_Mo_font_109 rfl rfl ?_
            refine xr_getf F_Mo_97 D_Mo_font_110 rfl rfl ?_
            refine xr_if_le (tgt := 117) D_Mo_font_113 rfl (fun c6 => ?_) (fun c6 => ?_)
            · exact absurd (show (1 : Int32) ≤ (0 : Int32) from c6) (by decide)
            · refine xr_vret rfl D_Mo_font_116 ?_
              exact Or.inl ⟨by grind, rfl⟩
        · exact absurd (show (0 : Int32) = (0 : Int32) by decide) c4
    · refine xr_iload D_Mo_font_13 rfl ?_
      refine xr_bipush (v := 16) D_Mo_font_15 rfl ?_
      refine xr_icmp_gt (tgt := 24) D_Mo_font_17 rfl (fun c3 => ?_) (fun c3 => ?_)
      · refine xr_iconst (v := 0) D_Mo_font_24 rfl ?_
        refine xr_istore D_Mo_font_25 (by decide) ?_
        refine xr_iconst (v := 0) D_Mo_font_27 rfl ?_
        refine xr_istore D_Mo_font_28 (by decide) ?_
        refine xr_iload D_Mo_font_30 rfl ?_
        refine xr_iload D_Mo_font_32 rfl ?_
        refine xr_icmp_ge (tgt := 83) D_Mo_font_34 rfl (fun c4 => ?_) (fun c4 => ?_)
        · refine xr_aload_n D_Mo_font_83 rfl rfl ?_
          refine xr_iload D_Mo_font_84 rfl ?_
          refine xr_if_ne (tgt := 93) D_Mo_font_86 rfl (fun c5 => ?_) (fun c5 => ?_)
          · exact absurd (show (0 : Int32) = (0 : Int32) by decide) c5
          · refine xr_iconst (v := 1) D_Mo_font_89 rfl ?_
            refine xr_goto (tgt := 106) D_Mo_font_90 rfl ?_
            refine xr_putf F_Mo_97 FT_Mo FN_Mo_0 D_Mo_font_106 rfl (Nat.le_of_ble_eq_true rfl) rfl rfl (pset_34_0) ?_
            refine xr_aload_n D_Mo_font_109 rfl rfl ?_
            refine xr_getf F_Mo_97 D_Mo_font_110 rfl rfl ?_
            refine xr_if_le (tgt := 117) D_Mo_font_113 rfl (fun c6 => ?_) (fun c6 => ?_)
            · exact absurd (show (1 : Int32) ≤ (0 : Int32) from c6) (by decide)
            · refine xr_vret rfl D_Mo_font_116 ?_
              exact Or.inl ⟨by grind, rfl⟩
        · refine xr_iload D_Mo_font_37 rfl ?_
          refine xr_if_eq (tgt := 83) D_Mo_font_39 rfl (fun c5 => ?_) (fun c5 => ?_)
          · refine xr_aload_n D_Mo_font_83 rfl rfl ?_
            refine xr_iload D_Mo_font_84 rfl ?_
            refine xr_if_ne (tgt := 93) D_Mo_font_86 rfl (fun c6 => ?_) (fun c6 => ?_)
            · exact absurd (show (0 : Int32) = (0 : Int32) by decide) c6
            · refine xr_iconst (v := 1) D_Mo_font_89 rfl ?_
              refine xr_goto (tgt := 106) D_Mo_font_90 rfl ?_
              refine xr_putf F_Mo_97 FT_Mo FN_Mo_0 D_Mo_font_106 rfl (Nat.le_of_ble_eq_true rfl) rfl rfl (pset_34_0) ?_
              refine xr_aload_n D_Mo_font_109 rfl rfl ?_
              refine xr_getf F_Mo_97 D_Mo_font_110 rfl rfl ?_
              refine xr_if_le (tgt := 117) D_Mo_font_113 rfl (fun c7 => ?_) (fun c7 => ?_)
              · exact absurd (show (1 : Int32) ≤ (0 : Int32) from c7) (by decide)
              · refine xr_vret rfl D_Mo_font_116 ?_
                exact Or.inl ⟨by grind, rfl⟩
          · exact absurd (show (0 : Int32) = (0 : Int32) by decide) c5
      · refine xr_iconst (v := 1) D_Mo_font_20 rfl ?_
        refine xr_goto (tgt := 25) D_Mo_font_21 rfl ?_
        refine xr_istore D_Mo_font_25 (by decide) ?_
        refine xr_iconst (v := 0) D_Mo_font_27 rfl ?_
        refine xr_istore D_Mo_font_28 (by decide) ?_
        have g1 : 1 ≤ n := by grind
        have g2 : n ≤ 16 := by grind
        have g3 := i_le.mp g1
        rw [z1] at g3
        refine l_Mo_fo1 g2 n.toInt.toNat 0 1 (Or.inr rfl) (by omega) (fun j9 => ?_)
        have e9 : b2 (¬ (1 : Int32) = 0 ∧ nmV a b n.toInt.toNat 0 = true) = b2 (nmV a b n.toInt.toNat 0 = true) := b2_iff ⟨fun q => q.2, fun q => ⟨by decide, q⟩⟩
        rw [e9]
        refine xr_aload_n D_Mo_font_83 rfl rfl ?_
        refine xr_iload D_Mo_font_84 rfl ?_
        refine xr_if_ne (tgt := 93) D_Mo_font_86 rfl (fun c4 => ?_) (fun c4 => ?_)
        · rw [b2_n] at c4
          refine xr_aload_n D_Mo_font_93 rfl rfl ?_
          refine xr_iload_n D_Mo_font_94 rfl rfl ?_
          refine xr_cVx (as := [_]) (c_Mo_isTold_34 ht0 ht1) (L_Mo_113) (CD_Mo_isTold) CI_Mo D_Mo_font_95 rfl rfl (by decide) (Nat.le_of_ble_eq_true rfl) (Nat.le_of_eq (Nat.zero_add _)) (Nat.le_of_eq (Nat.zero_add _)) pic_len ?_
          rintro _ rfl
          refine ⟨_, _, rfl, pic_leq, ?_⟩
          refine xr_if_eq (tgt := 105) D_Mo_font_98 rfl (fun c5 => ?_) (fun c5 => ?_)
          · rw [b2_0] at c5
            refine xr_iconst (v := 0) D_Mo_font_105 rfl ?_
            refine xr_putf F_Mo_97 FT_Mo FN_Mo_0 D_Mo_font_106 rfl (Nat.le_of_ble_eq_true rfl) rfl rfl (pset_34_0) ?_
            refine xr_aload_n D_Mo_font_109 rfl rfl ?_
            refine xr_getf F_Mo_97 D_Mo_font_110 rfl rfl ?_
            refine xr_if_le (tgt := 117) D_Mo_font_113 rfl (fun c6 => ?_) (fun c6 => ?_)
            · refine xr_aload_n D_Mo_font_117 rfl rfl ?_
              refine xr_getf F_Mo_7 D_Mo_font_118 rfl rfl ?_
              refine xr_iload_n D_Mo_font_121 rfl rfl ?_
              refine xr_iconst (v := 1) D_Mo_font_122 rfl ?_
              refine xr_zast D_Mo_font_123 rfl (by exact i_in2 256 (by grind) (by grind) rfl) (aset_35) ?_
              refine xr_aload_n D_Mo_font_124 rfl rfl ?_
              refine xr_getf F_Mo_13 D_Mo_font_125 rfl rfl ?_
              refine xr_iload_n D_Mo_font_128 rfl rfl ?_
              refine xr_iload_n D_Mo_font_129 rfl rfl ?_
              refine xr_iast D_Mo_font_130 rfl (by exact i_in2 256 (by grind) (by grind) rfl) (aset_36) ?_
              refine xr_aload_n D_Mo_font_131 rfl rfl ?_
              refine xr_getf F_Mo_17 D_Mo_font_132 rfl rfl ?_
              refine xr_iload_n D_Mo_font_135 rfl rfl ?_
              refine xr_iload_n D_Mo_font_136 rfl rfl ?_
              refine xr_iast D_Mo_font_137 rfl (by exact i_in2 256 (by grind) (by grind) rfl) (aset_37) ?_
              refine xr_aload_n D_Mo_font_138 rfl rfl ?_
              refine xr_getf F_Mo_20 D_Mo_font_139 rfl rfl ?_
              refine xr_iload_n D_Mo_font_142 rfl rfl ?_
              refine xr_iload D_Mo_font_143 rfl ?_
              refine xr_iast D_Mo_font_145 rfl (by exact i_in2 256 (by grind) (by grind) rfl) (aset_38) ?_
              refine xr_aload_n D_Mo_font_146 rfl rfl ?_
              refine xr_getf F_Mo_23 D_Mo_font_147 rfl rfl ?_
              refine xr_iload_n D_Mo_font_150 rfl rfl ?_
              refine xr_iload D_Mo_font_151 rfl ?_
              refine xr_iast D_Mo_font_153 rfl (by exact i_in2 256 (by grind) (by grind) rfl) (aset_39) ?_
              refine xr_iconst (v := 0) D_Mo_font_154 rfl ?_
              refine xr_istore D_Mo_font_155 (by decide) ?_
              refine xr_mono (l_Mo_fo2 (by grind) g2 n.toInt.toNat 0 _ (by omega)) ?_
              rintro _ rfl
              exact Or.inr (Or.inr ⟨⟨by grind, by assumption⟩, rfl⟩)
            · exact absurd (show (0 : Int32) ≤ (0 : Int32) by decide) c6
          · rw [b2_n] at c5
            refine xr_iconst (v := 2) D_Mo_font_101 rfl ?_
            refine xr_goto (tgt := 106) D_Mo_font_102 rfl ?_
            refine xr_putf F_Mo_97 FT_Mo FN_Mo_0 D_Mo_font_106 rfl (Nat.le_of_ble_eq_true rfl) rfl rfl (pset_34_0) ?_
            refine xr_aload_n D_Mo_font_109 rfl rfl ?_
            refine xr_getf F_Mo_97 D_Mo_font_110 rfl rfl ?_
            refine xr_if_le (tgt := 117) D_Mo_font_113 rfl (fun c6 => ?_) (fun c6 => ?_)
            · exact absurd (show (2 : Int32) ≤ (0 : Int32) from c6) (by decide)
            · refine xr_vret rfl D_Mo_font_116 ?_
              exact Or.inr (Or.inl ⟨⟨by grind, by assumption⟩, rfl⟩)
        · rw [b2_0] at c4
          refine xr_iconst (v := 1) D_Mo_font_89 rfl ?_
          refine xr_goto (tgt := 106) D_Mo_font_90 rfl ?_
          refine xr_putf F_Mo_97 FT_Mo FN_Mo_0 D_Mo_font_106 rfl (Nat.le_of_ble_eq_true rfl) rfl rfl (pset_34_0) ?_
          refine xr_aload_n D_Mo_font_109 rfl rfl ?_
          refine xr_getf F_Mo_97 D_Mo_font_110 rfl rfl ?_
          refine xr_if_le (tgt := 117) D_Mo_font_113 rfl (fun c5 => ?_) (fun c5 => ?_)
          · exact absurd (show (1 : Int32) ≤ (0 : Int32) from c5) (by decide)
          · refine xr_vret rfl D_Mo_font_116 ?_
            exact Or.inl ⟨by grind, rfl⟩

theorem l_Mo_feed {L : mL} {w : Int64} {n : Int32} : ∀ (k : Nat) (i : Int32) (I : mI) (A : mA) (B : List Int32), i.toInt = (k : Int) - 1 → k ≤ 8 → B.length + k ≤ 70000 → isB (I 3429) (A 53) B → xr m_Mo_feed none (0, 0) 34 [some (.ref 34), some (.long w), none, some (.int n), some (.int i)] [] (pic I A L) 0 0 (fun o => ∃ I' A', o = (.inl (some (.int 1)), pic I' A' L) ∧ frI [3429] I I' ∧ frA [53] A A' ∧ isB (I' 3429) (A' 53) (app B (fdM w k))) := by
  intro k
  induction k with
  | zero =>
    intro i I A B hi hk hl hB
    refine xr_iload D_Mo_feed_34 rfl ?_
    refine xr_if_lt (tgt := 73) D_Mo_feed_36 rfl (fun c1 => ?_) (fun c1 => ?_)
    · refine xr_iconst (v := 1) D_Mo_feed_73 rfl ?_
      refine xr_zret rfl (by first | rfl | exact nar_b2 | exact nar_z hz) D_Mo_feed_74 ?_
      exact ⟨I, A, rfl, frI_rf, frA_rf, by rw [show fdM w 0 = [] from rfl, app_nil hB.2.1]; exact hB⟩
    · exact absurd (i_lt.mpr (by rw [hi, z0]; omega)) c1
  | succ k ih =>
    intro i I A B hi hk hl hB
    have ei : i = Int32.ofNat k := i_eq.mpr (by rw [i_of (by omega)]; omega)
    subst ei
    have hu := hB.1
    have u0 : 0 ≤ I 3429 := i_le.mpr (by rw [z0]; omega)
    have u1 : I 3429 < 70000 := i_lt.mpr (by rw [z7]; omega)
    refine xr_iload D_Mo_feed_34 rfl ?_
    refine xr_if_lt (tgt := 73) D_Mo_feed_36 rfl (fun c1 => ?_) (fun c1 => ?_)
    · exact absurd c1 (fun q => by rw [i_lt, hi, z0] at q; omega)
    · refine xr_aload_n D_Mo_feed_39 rfl rfl ?_
      refine xr_getf F_Mo_73 D_Mo_feed_40 rfl rfl ?_
      refine xr_aload_n D_Mo_feed_43 rfl rfl ?_
      refine xr_getf F_Mo_197 D_Mo_feed_44 rfl rfl ?_
      refine xr_lload_n D_Mo_feed_47 rfl rfl ?_
      refine xr_bipush (v := 8) D_Mo_feed_48 rfl ?_
      refine xr_iload D_Mo_feed_50 rfl ?_
      refine xr_imul D_Mo_feed_52 ?_
      refine xr_lshr D_Mo_feed_53 ?_
      refine xr_l2i D_Mo_feed_54 ?_
      refine xr_i2b D_Mo_feed_55 ?_
      refine xr_bast D_Mo_feed_56 rfl (by exact i_in2 70000 u0 u1 rfl) (aset_53) ?_
      refine xr_aload_n D_Mo_feed_57 rfl rfl ?_
      refine xr_dup D_Mo_feed_58 rfl ?_
      refine xr_getf F_Mo_197 D_Mo_feed_59 rfl rfl ?_
      refine xr_iconst (v := 1) D_Mo_feed_62 rfl ?_
      refine xr_iadd D_Mo_feed_63 ?_
      refine xr_putf F_Mo_197 FT_Mo FN_Mo_29 D_Mo_feed_64 rfl (Nat.le_of_ble_eq_true rfl) rfl rfl (pset_34_29) ?_
      refine xr_iinc (c9 := (-1)) D_Mo_feed_67 rfl rfl (by decide) ?_
      refine xr_goto (tgt := 34) D_Mo_feed_70 rfl ?_
      have hB9 := adB_ok (x := (w >>> ((8 * Int32.ofNat k).toInt64 &&& 63)).toInt32) hB u0 u1
      refine xr_mono (ih _ _ _ (app B [(w >>> ((8 * Int32.ofNat k).toInt64 &&& 63)).toInt32 &&& 255]) ?_ (by omega) (by rw [app_ok (by simp; omega)]; simp; omega) hB9) ?_
      · rw [i_add (by rw [zm1, i_of (by omega)]; omega) (by rw [zm1, i_of (by omega)]; omega), zm1, i_of (by omega)]; omega
      · rintro _ ⟨I9, A9, rfl, q1, q2, q3⟩
        refine ⟨I9, A9, rfl, frI_tr (frI_up (ks := [3429]) List.mem_cons_self) q1 (fun _ h => h) (fun _ h => h), frA_tr (frA_up (ks := [53]) List.mem_cons_self) q2 (fun _ h => h) (fun _ h => h), ?_⟩
        rw [app_app] at q3
        exact q3

theorem c_Mo_feed_34 {I : mI} {A : mA} {L : mL} {B : List Int32} {w : Int64} {n : Int32} (hB : isB (I 3429) (A 53) B) : xm m_Mo_feed (0, 0) [.ref 34, .long w, .int n] (pic I A L) 0 0 (fun o => (¬ (1 ≤ n ∧ n ≤ 8 ∧ I 3429 + n ≤ 70000) ∧ o = (.inl (some (.int 0)), pic (upd I 3400 0) A L)) ∨ ((1 ≤ n ∧ n ≤ 8 ∧ I 3429 + n ≤ 70000) ∧ ∃ I' A', o = (.inl (some (.int 1)), pic I' A' L) ∧ frI [3400, 3429] I I' ∧ I' 3400 = 0 ∧ frA [53] A A' ∧ isB (I' 3429) (A' 53) (app B (fdM w n.toInt.toNat)))) := by
  have hu := hB.1
  have hu2 := hB.2.1
  refine xm_of rfl (by decide) (Nat.le_of_ble_eq_true rfl) ?_
  refine xr_aload_n D_Mo_feed_0 rfl rfl ?_
  refine xr_iconst (v := 0) D_Mo_feed_1 rfl ?_
  refine xr_putf F_Mo_97 FT_Mo FN_Mo_0 D_Mo_feed_2 rfl (Nat.le_of_ble_eq_true rfl) rfl rfl (pset_34_0) ?_
  refine xr_iload_n D_Mo_feed_5 rfl rfl ?_
  refine xr_iconst (v := 1) D_Mo_feed_6 rfl ?_
  refine xr_icmp_lt (tgt := 27) D_Mo_feed_7 rfl (fun c1 => ?_) (fun c1 => ?_)
  · refine xr_iconst (v := 0) D_Mo_feed_27 rfl ?_
    refine xr_zret rfl (by first | rfl | exact nar_b2 | exact nar_z hz) D_Mo_feed_28 ?_
    exact Or.inl ⟨by grind [upd], rfl⟩
  · refine xr_iload_n D_Mo_feed_10 rfl rfl ?_
    refine xr_bipush (v := 8) D_Mo_feed_11 rfl ?_
    refine xr_icmp_gt (tgt := 27) D_Mo_feed_13 rfl (fun c2 => ?_) (fun c2 => ?_)
    · refine xr_iconst (v := 0) D_Mo_feed_27 rfl ?_
      refine xr_zret rfl (by first | rfl | exact nar_b2 | exact nar_z hz) D_Mo_feed_28 ?_
      exact Or.inl ⟨by grind [upd], rfl⟩
    · refine xr_aload_n D_Mo_feed_16 rfl rfl ?_
      refine xr_getf F_Mo_197 D_Mo_feed_17 rfl rfl ?_
      refine xr_iload_n D_Mo_feed_20 rfl rfl ?_
      refine xr_iadd D_Mo_feed_21 ?_
      refine xr_ldc (v := 70000) D_Mo_feed_22 K_Mo_72 ?_
      refine xr_icmp_le (tgt := 29) D_Mo_feed_24 rfl (fun c3 => ?_) (fun c3 => ?_)
      · refine xr_iload_n D_Mo_feed_29 rfl rfl ?_
        refine xr_iconst (v := 1) D_Mo_feed_30 rfl ?_
        refine xr_isub D_Mo_feed_31 ?_
        refine xr_istore D_Mo_feed_32 (by decide) ?_
        have g1 : 1 ≤ n := by grind
        have g2 : n ≤ 8 := by grind
        have g4 : I 3429 + n ≤ 70000 := by assumption
        have g3 := i_le.mp g1
        rw [z1] at g3
        have g5 := i_le.mp g2
        rw [show (8 : Int32).toInt = 8 from rfl] at g5
        have g6 := i_le.mp g4
        rw [i_add (by omega) (by omega), z7] at g6
        refine xr_mono (l_Mo_feed n.toInt.toNat _ _ _ B (by rw [i_sub (by rw [z1]; omega) (by rw [z1]; omega), z1]; omega) (by omega) (by omega) hB) ?_
        rintro _ ⟨I9, A9, rfl, q1, q2, q3⟩
        exact Or.inr ⟨⟨g1, g2, g4⟩, I9, A9, rfl, frI_tr (frI_up (ks := [3400]) List.mem_cons_self) q1 (by decide) (by decide), q1 3400 (by decide), q2, q3⟩
      · refine xr_iconst (v := 0) D_Mo_feed_27 rfl ?_
        refine xr_zret rfl (by first | rfl | exact nar_b2 | exact nar_z hz) D_Mo_feed_28 ?_
        exact Or.inl ⟨by grind [upd], rfl⟩

theorem by_id {x : Int32} (h0 : -128 ≤ x) (h1 : x ≤ 127) : vp_nar .byte x = x := by
  show x.toInt8.toInt32 = x
  rw [i_le] at h0 h1
  rw [show (-128 : Int32).toInt = -128 from rfl] at h0
  rw [show (127 : Int32).toInt = 127 from rfl] at h1
  rw [i_eq, Int8.toInt_toInt32, Int32.toInt_toInt8]
  exact Int.bmod_eq_of_le (by omega) (by omega)

theorem l_Mo_copy {I : mI} {L : mL} {B : List Int32} (hl : B.length ≤ 70000) : ∀ (t j : Nat) (A : mA), j + t = B.length → isO (I 3409) (A 43) B → (∀ i, i < j → A 53 i = A 43 i) → xr m_Mo_copy none (0, 0) 7 [some (.ref 34), some (.int (Int32.ofNat j))] [] (pic I A L) 0 0 (fun o => ∃ A', o = (.inl (some (.int (I 3409))), pic (upd I 3429 (I 3409)) A' L) ∧ frA [53] A A' ∧ isB (I 3409) (A' 53) B) := by
  intro t
  induction t with
  | zero =>
    intro j A hj hB hc
    have hu := hB.1
    refine xr_iload_n D_Mo_copy_7 rfl rfl ?_
    refine xr_aload_n D_Mo_copy_8 rfl rfl ?_
    refine xr_getf F_Mo_116 D_Mo_copy_9 rfl rfl ?_
    refine xr_icmp_ge (tgt := 33) D_Mo_copy_12 rfl (fun c1 => ?_) (fun c1 => ?_)
    · refine xr_aload_n D_Mo_copy_33 rfl rfl ?_
      refine xr_aload_n D_Mo_copy_34 rfl rfl ?_
      refine xr_getf F_Mo_116 D_Mo_copy_35 rfl rfl ?_
      refine xr_putf F_Mo_197 FT_Mo FN_Mo_29 D_Mo_copy_38 rfl (Nat.le_of_ble_eq_true rfl) rfl rfl (pset_34_29) ?_
      refine xr_aload_n D_Mo_copy_41 rfl rfl ?_
      refine xr_getf F_Mo_197 D_Mo_copy_42 rfl rfl ?_
      refine xr_iret rfl D_Mo_copy_45 ?_
      refine ⟨A, rfl, frA_rf, hB.1, hl, fun i b hb => ?_⟩
      rw [hc i (by have := (List.getElem?_eq_some_iff.mp hb).1; omega)]
      exact hB.2.2 i b hb
    · exact absurd (show I 3409 ≤ Int32.ofNat j from i_le.mpr (by rw [i_of (by omega)]; omega)) c1
  | succ t ih =>
    intro j A hj hB hc
    have hu := hB.1
    have ej : (Int32.ofNat j).toNatClampNeg = j := by rw [i_cl, i_of (by omega)]; omega
    have hjl : j < B.length := by omega
    have hby := hB.2.2 j _ (List.getElem?_eq_getElem hjl)
    refine xr_iload_n D_Mo_copy_7 rfl rfl ?_
    refine xr_aload_n D_Mo_copy_8 rfl rfl ?_
    refine xr_getf F_Mo_116 D_Mo_copy_9 rfl rfl ?_
    refine xr_icmp_ge (tgt := 33) D_Mo_copy_12 rfl (fun c1 => ?_) (fun c1 => ?_)
    · exact absurd (show I 3409 ≤ Int32.ofNat j from c1) (fun q => by rw [i_le, i_of (by omega)] at q; omega)
    · refine xr_aload_n D_Mo_copy_15 rfl rfl ?_
      refine xr_getf F_Mo_73 D_Mo_copy_16 rfl rfl ?_
      refine xr_iload_n D_Mo_copy_19 rfl rfl ?_
      refine xr_aload_n D_Mo_copy_20 rfl rfl ?_
      refine xr_getf F_Mo_38 D_Mo_copy_21 rfl rfl ?_
      refine xr_iload_n D_Mo_copy_24 rfl rfl ?_
      refine xr_bald D_Mo_copy_25 rfl (by exact i_in (by rw [i_of (by omega)]; omega) (by rw [i_of (by omega)]; omega)) ?_
      refine xr_bast D_Mo_copy_26 rfl (by exact i_in (by rw [i_of (by omega)]; omega) (by rw [i_of (by omega)]; omega)) (aset_53) ?_
      refine xr_iinc (c9 := 1) D_Mo_copy_27 rfl rfl (by decide) ?_
      refine xr_goto (tgt := 7) D_Mo_copy_30 rfl ?_
      rw [io_succ]
      refine xr_mono (ih (j + 1) _ (by omega) hB (fun i hi => ?_)) ?_
      · show upd (A 53) (Int32.ofNat j).toNatClampNeg _ i = A 43 i
        rw [ej]
        by_cases e : i = j
        · subst e
          rw [upd_s]
          exact by_id hby.2.1 hby.2.2
        · rw [upd_n e]; exact hc i (by omega)
      · rintro _ ⟨A9, rfl, q1, q2⟩
        exact ⟨A9, rfl, frA_tr (frA_up (ks := [53]) List.mem_cons_self) q1 (fun _ h => h) (fun _ h => h), q2⟩

theorem c_Mo_copy_34 {I : mI} {A : mA} {L : mL} {B : List Int32} (hl : B.length ≤ 70000) (hB : isO (I 3409) (A 43) B) : xm m_Mo_copy (0, 0) [.ref 34] (pic I A L) 0 0 (fun o => ∃ A', o = (.inl (some (.int (I 3409))), pic (upd (upd I 3400 0) 3429 (I 3409)) A' L) ∧ frA [53] A A' ∧ isB (I 3409) (A' 53) B) := by
  refine xm_of rfl (by decide) (Nat.le_of_ble_eq_true rfl) ?_
  refine xr_aload_n D_Mo_copy_0 rfl rfl ?_
  refine xr_iconst (v := 0) D_Mo_copy_1 rfl ?_
  refine xr_putf F_Mo_97 FT_Mo FN_Mo_0 D_Mo_copy_2 rfl (Nat.le_of_ble_eq_true rfl) rfl rfl (pset_34_0) ?_
  refine xr_iconst (v := 0) D_Mo_copy_5 rfl ?_
  refine xr_istore_n D_Mo_copy_6 rfl (by decide) ?_
  exact l_Mo_copy (I := upd I 3400 0) hl B.length 0 A (by omega) hB (fun i hi => absurd hi (by omega))
