def fdB (w : Int64) : Nat → List Int32
  | 0 => []
  | k + 1 => ((w.toUInt64 >>> ((8 * Int32.ofNat k).toInt64.toUInt64 &&& Int64.toUInt64 63)).toInt64.toInt32 &&& 255) :: fdB w k
def nmB (a b : Int64) : Nat → Nat → Bool
  | 0, _ => true
  | n + 1, s => decide (33 ≤ letC a b (Int32.ofNat s) ∧ letC a b (Int32.ofNat s) ≤ 126) && nmB a b n (s + 1)
theorem nmB_s {a b : Int64} {n s : Nat} : nmB a b (n + 1) s = (decide (33 ≤ letC a b (Int32.ofNat s) ∧ letC a b (Int32.ofNat s) ≤ 126) && nmB a b n (s + 1)) := rfl
theorem b2_iff {p q : Prop} [Decidable p] [Decidable q] (h : p ↔ q) : b2 p = b2 q := by
  unfold b2
  by_cases hp : p
  · rw [if_pos hp, if_pos (h.mp hp)]
  · rw [if_neg hp, if_neg (fun z => hp (h.mpr z))]
theorem ob_iff {p q : Prop} [Decidable p] [Decidable q] {h : List xC} (e : p ↔ q) : ((.inl (some (.int (b2 p))), h) : xO) = (.inl (some (.int (b2 q))), h) := by rw [b2_iff e]
def clr (g t : Nat → Int32) : Nat → Nat → (Nat → Int32)
  | 0, _ => g
  | n + 1, s => clr (upd g (t s).toNatClampNeg 0) t n (s + 1)
theorem upAf_self {A : mA} {k : Nat} : upAf A k (A k) = A := by
  funext j
  unfold upAf
  by_cases h : j = k
  · rw [if_pos h, h]
  · rw [if_neg h]
theorem upAf_upA {A : mA} {k i : Nat} {x : Int32} {g : Nat → Int32} : upAf (upA A k i x) k g = upAf A k g := by
  funext j
  unfold upAf
  by_cases h : j = k
  · rw [if_pos h, if_pos h]
  · rw [if_neg h, if_neg h, upA_n h]
theorem cset_23 {I : mI} {A : mA} {L : mL} {g : Nat → Int32} : (pic I A L).set 23 (.inr (.byte, 70000, .inl g)) = pic I (upAf A 23 g) L := rfl
theorem cp_b {n : Int32} (h0 : 0 ≤ n) (h1 : n ≤ 70000) : (0 : Int32).toNatClampNeg + n.toNatClampNeg ≤ 70000 := by
  rw [i_le, z0] at h0
  rw [i_le, z7] at h1
  rw [i_cl, i_cl, z0]
  omega
theorem cp_f {n : Int32} {f : Nat → Int32} {B : List Int32} (h : isB n f B) : ∀ i, i < n.toNatClampNeg → fits .byte (.int (f ((0 : Int32).toNatClampNeg + i))) = true := by
  intro i hi
  obtain ⟨h1, h2, h3⟩ := h
  rw [i_cl, h1] at hi
  have hl : i < B.length := by omega
  have e : (0 : Int32).toNatClampNeg + i = i := by rw [i_cl, z0]; omega
  rw [e]
  have := (h3 i _ (List.getElem?_eq_getElem hl)).2
  simp [fits, this.1, this.2]
theorem cp_B {n : Int32} {f g : Nat → Int32} {B : List Int32} (h : isB n f B) : isB n (va_cpy f g (0 : Int32).toNatClampNeg (0 : Int32).toNatClampNeg n.toNatClampNeg) B := by
  obtain ⟨h1, h2, h3⟩ := h
  refine ⟨h1, h2, fun i b hb => ?_⟩
  have hl := (List.getElem?_eq_some_iff.mp hb).1
  have e : va_cpy f g (0 : Int32).toNatClampNeg (0 : Int32).toNatClampNeg n.toNatClampNeg i = f i := by
    unfold va_cpy
    have e0 : (0 : Int32).toNatClampNeg = 0 := rfl
    rw [e0, if_pos (by rw [i_cl, h1]; omega)]
    congr 1
    omega
  rw [e]
  exact h3 i b hb
def rPart (m c q : Int32) (f : Nat → Int32) (i w : Int32) : Int32 := if (0 ≤ i ∧ i < m ∧ i < c) ∧ (0 ≤ w ∧ w < q ∧ w < q) then f (i * q + w).toNatClampNeg else 0
theorem rPart_t {m c q : Int32} {f : Nat → Int32} {i w : Int32} (h : (0 ≤ i ∧ i < m ∧ i < c) ∧ (0 ≤ w ∧ w < q ∧ w < q)) : f (i * q + w).toNatClampNeg = rPart m c q f i w := (if_pos h).symm
theorem rPart_f {m c q : Int32} {f : Nat → Int32} {i w : Int32} (h : ¬ ((0 ≤ i ∧ i < m ∧ i < c) ∧ (0 ≤ w ∧ w < q ∧ w < q))) : 0 = rPart m c q f i w := (if_neg h).symm
def fPart (m : Int32) (f ns : Nat → Int32) (g : Int32 → Int32) (k w : Int32) : Int32 :=
  if ¬ (0 ≤ k ∧ k < m ∧ k < 256) ∨ w < 0 then 0 else if w < 5 then f (k * 5 + w).toNatClampNeg else if w - 5 < f (k * 5 + 4).toNatClampNeg then g (ns k.toNatClampNeg + (w - 5)) else 0

theorem c_Rg_markPart_24 {I : mI} {A : mA} {L : mL} {i : Int32} {w : Int32}  : xm m_Rg_markPart (1, 22) [.ref 24, .int i, .int w] (pic I A L) 0 0 (fun o => o = (.inl (some (.int (rPart (I 2405) 2000 6 (A 25) i w))), (pic I A L))) := by
  refine xm_of rfl (by decide) (Nat.le_of_ble_eq_true rfl) ?_
  refine xr_iload_n D_Rg_markPart_0 rfl rfl ?_
  refine xr_aload_n D_Rg_markPart_1 rfl rfl ?_
  refine xr_getf F_Rg_35 D_Rg_markPart_2 rfl rfl ?_
  refine xr_sipush (v := 2000) D_Rg_markPart_5 rfl ?_
  refine xr_cSx (as := [_, _, _]) (c_Rg_isIn) (L_Rg_57) (CD_Rg_isIn) D_Rg_markPart_8 rfl (by decide) (Nat.le_of_ble_eq_true rfl) (Nat.le_of_eq (Nat.zero_add _)) (Nat.le_of_eq (Nat.zero_add _)) pic_len ?_
  rintro _ rfl
  refine ⟨_, _, rfl, rfl, ?_⟩
  refine xr_if_eq (tgt := 29) D_Rg_markPart_11 rfl (fun c1 => ?_) (fun c1 => ?_)
  · rw [b2_0] at c1
    refine xr_iconst (v := 0) D_Rg_markPart_29 rfl ?_
    refine xr_istore_n D_Rg_markPart_30 rfl (by decide) ?_
    refine xr_iload_n D_Rg_markPart_31 rfl rfl ?_
    refine xr_if_eq (tgt := 49) D_Rg_markPart_32 rfl (fun c2 => ?_) (fun c2 => ?_)
    · refine xr_iconst (v := 0) D_Rg_markPart_49 rfl ?_
      refine xr_iret rfl D_Rg_markPart_50 ?_
      first | exact oi (rPart_t (by grind)) | exact oi (rPart_f (by grind))
    · exact absurd (show (0 : Int32) = (0 : Int32) by decide) c2
  · rw [b2_n] at c1
    refine xr_iload_n D_Rg_markPart_14 rfl rfl ?_
    refine xr_bipush (v := 6) D_Rg_markPart_15 rfl ?_
    refine xr_bipush (v := 6) D_Rg_markPart_17 rfl ?_
    refine xr_cSx (as := [_, _, _]) (c_Rg_isIn) (L_Rg_57) (CD_Rg_isIn) D_Rg_markPart_19 rfl (by decide) (Nat.le_of_ble_eq_true rfl) (Nat.le_of_eq (Nat.zero_add _)) (Nat.le_of_eq (Nat.zero_add _)) pic_len ?_
    rintro _ rfl
    refine ⟨_, _, rfl, rfl, ?_⟩
    refine xr_if_eq (tgt := 29) D_Rg_markPart_22 rfl (fun c2 => ?_) (fun c2 => ?_)
    · rw [b2_0] at c2
      refine xr_iconst (v := 0) D_Rg_markPart_29 rfl ?_
      refine xr_istore_n D_Rg_markPart_30 rfl (by decide) ?_
      refine xr_iload_n D_Rg_markPart_31 rfl rfl ?_
      refine xr_if_eq (tgt := 49) D_Rg_markPart_32 rfl (fun c3 => ?_) (fun c3 => ?_)
      · refine xr_iconst (v := 0) D_Rg_markPart_49 rfl ?_
        refine xr_iret rfl D_Rg_markPart_50 ?_
        first | exact oi (rPart_t (by grind)) | exact oi (rPart_f (by grind))
      · exact absurd (show (0 : Int32) = (0 : Int32) by decide) c3
    · rw [b2_n] at c2
      refine xr_iconst (v := 1) D_Rg_markPart_25 rfl ?_
      refine xr_goto (tgt := 30) D_Rg_markPart_26 rfl ?_
      refine xr_istore_n D_Rg_markPart_30 rfl (by decide) ?_
      refine xr_iload_n D_Rg_markPart_31 rfl rfl ?_
      refine xr_if_eq (tgt := 49) D_Rg_markPart_32 rfl (fun c3 => ?_) (fun c3 => ?_)
      · exact absurd (show (1 : Int32) = (0 : Int32) from c3) (by decide)
      · refine xr_aload_n D_Rg_markPart_35 rfl rfl ?_
        refine xr_getf F_Rg_11 D_Rg_markPart_36 rfl rfl ?_
        refine xr_iload_n D_Rg_markPart_39 rfl rfl ?_
        refine xr_bipush (v := 6) D_Rg_markPart_40 rfl ?_
        refine xr_imul D_Rg_markPart_42 ?_
        refine xr_iload_n D_Rg_markPart_43 rfl rfl ?_
        refine xr_iadd D_Rg_markPart_44 ?_
        refine xr_iald D_Rg_markPart_45 rfl (by exact i_in2 12000 (by grind) (by grind) rfl) ?_
        refine xr_goto (tgt := 50) D_Rg_markPart_46 rfl ?_
        refine xr_iret rfl D_Rg_markPart_50 ?_
        first | exact oi (rPart_t (by grind)) | exact oi (rPart_f (by grind))

theorem c_Rg_pagePart_24 {I : mI} {A : mA} {L : mL} {i : Int32} {w : Int32}  : xm m_Rg_pagePart (1, 22) [.ref 24, .int i, .int w] (pic I A L) 0 0 (fun o => o = (.inl (some (.int (rPart (I 2406) 1300 10 (A 26) i w))), (pic I A L))) := by
  refine xm_of rfl (by decide) (Nat.le_of_ble_eq_true rfl) ?_
  refine xr_iload_n D_Rg_pagePart_0 rfl rfl ?_
  refine xr_aload_n D_Rg_pagePart_1 rfl rfl ?_
  refine xr_getf F_Rg_39 D_Rg_pagePart_2 rfl rfl ?_
  refine xr_sipush (v := 1300) D_Rg_pagePart_5 rfl ?_
  refine xr_cSx (as := [_, _, _]) (c_Rg_isIn) (L_Rg_57) (CD_Rg_isIn) D_Rg_pagePart_8 rfl (by decide) (Nat.le_of_ble_eq_true rfl) (Nat.le_of_eq (Nat.zero_add _)) (Nat.le_of_eq (Nat.zero_add _)) pic_len ?_
  rintro _ rfl
  refine ⟨_, _, rfl, rfl, ?_⟩
  refine xr_if_eq (tgt := 29) D_Rg_pagePart_11 rfl (fun c1 => ?_) (fun c1 => ?_)
  · rw [b2_0] at c1
    refine xr_iconst (v := 0) D_Rg_pagePart_29 rfl ?_
    refine xr_istore_n D_Rg_pagePart_30 rfl (by decide) ?_
    refine xr_iload_n D_Rg_pagePart_31 rfl rfl ?_
    refine xr_if_eq (tgt := 49) D_Rg_pagePart_32 rfl (fun c2 => ?_) (fun c2 => ?_)
    · refine xr_iconst (v := 0) D_Rg_pagePart_49 rfl ?_
      refine xr_iret rfl D_Rg_pagePart_50 ?_
      first | exact oi (rPart_t (by grind)) | exact oi (rPart_f (by grind))
    · exact absurd (show (0 : Int32) = (0 : Int32) by decide) c2
  · rw [b2_n] at c1
    refine xr_iload_n D_Rg_pagePart_14 rfl rfl ?_
    refine xr_bipush (v := 10) D_Rg_pagePart_15 rfl ?_
    refine xr_bipush (v := 10) D_Rg_pagePart_17 rfl ?_
    refine xr_cSx (as := [_, _, _]) (c_Rg_isIn) (L_Rg_57) (CD_Rg_isIn) D_Rg_pagePart_19 rfl (by decide) (Nat.le_of_ble_eq_true rfl) (Nat.le_of_eq (Nat.zero_add _)) (Nat.le_of_eq (Nat.zero_add _)) pic_len ?_
    rintro _ rfl
    refine ⟨_, _, rfl, rfl, ?_⟩
    refine xr_if_eq (tgt := 29) D_Rg_pagePart_22 rfl (fun c2 => ?_) (fun c2 => ?_)
    · rw [b2_0] at c2
      refine xr_iconst (v := 0) D_Rg_pagePart_29 rfl ?_
      refine xr_istore_n D_Rg_pagePart_30 rfl (by decide) ?_
      refine xr_iload_n D_Rg_pagePart_31 rfl rfl ?_
      refine xr_if_eq (tgt := 49) D_Rg_pagePart_32 rfl (fun c3 => ?_) (fun c3 => ?_)
      · refine xr_iconst (v := 0) D_Rg_pagePart_49 rfl ?_
        refine xr_iret rfl D_Rg_pagePart_50 ?_
        first | exact oi (rPart_t (by grind)) | exact oi (rPart_f (by grind))
      · exact absurd (show (0 : Int32) = (0 : Int32) by decide) c3
    · rw [b2_n] at c2
      refine xr_iconst (v := 1) D_Rg_pagePart_25 rfl ?_
      refine xr_goto (tgt := 30) D_Rg_pagePart_26 rfl ?_
      refine xr_istore_n D_Rg_pagePart_30 rfl (by decide) ?_
      refine xr_iload_n D_Rg_pagePart_31 rfl rfl ?_
      refine xr_if_eq (tgt := 49) D_Rg_pagePart_32 rfl (fun c3 => ?_) (fun c3 => ?_)
      · exact absurd (show (1 : Int32) = (0 : Int32) from c3) (by decide)
      · refine xr_aload_n D_Rg_pagePart_35 rfl rfl ?_
        refine xr_getf F_Rg_15 D_Rg_pagePart_36 rfl rfl ?_
        refine xr_iload_n D_Rg_pagePart_39 rfl rfl ?_
        refine xr_bipush (v := 10) D_Rg_pagePart_40 rfl ?_
        refine xr_imul D_Rg_pagePart_42 ?_
        refine xr_iload_n D_Rg_pagePart_43 rfl rfl ?_
        refine xr_iadd D_Rg_pagePart_44 ?_
        refine xr_iald D_Rg_pagePart_45 rfl (by exact i_in2 13000 (by grind) (by grind) rfl) ?_
        refine xr_goto (tgt := 50) D_Rg_pagePart_46 rfl ?_
        refine xr_iret rfl D_Rg_pagePart_50 ?_
        first | exact oi (rPart_t (by grind)) | exact oi (rPart_f (by grind))

theorem c_Rg_fontPart_24 {I : mI} {A : mA} {L : mL} {k : Int32} {w : Int32}  : xm m_Rg_fontPart (1, 22) [.ref 24, .int k, .int w] (pic I A L) 0 0 (fun o => o = (.inl (some (.int (fPart (I 2407) (A 27) (A 28) (gat (I 2901) (A 30)) k w))), (pic I A L))) := by
  refine xm_of rfl (by decide) (Nat.le_of_ble_eq_true rfl) ?_
  refine xr_iload_n D_Rg_fontPart_0 rfl rfl ?_
  refine xr_aload_n D_Rg_fontPart_1 rfl rfl ?_
  refine xr_getf F_Rg_42 D_Rg_fontPart_2 rfl rfl ?_
  refine xr_sipush (v := 256) D_Rg_fontPart_5 rfl ?_
  refine xr_cSx (as := [_, _, _]) (c_Rg_isIn) (L_Rg_57) (CD_Rg_isIn) D_Rg_fontPart_8 rfl (by decide) (Nat.le_of_ble_eq_true rfl) (Nat.le_of_eq (Nat.zero_add _)) (Nat.le_of_eq (Nat.zero_add _)) pic_len ?_
  rintro _ rfl
  refine ⟨_, _, rfl, rfl, ?_⟩
  refine xr_if_eq (tgt := 18) D_Rg_fontPart_11 rfl (fun c1 => ?_) (fun c1 => ?_)
  · rw [b2_0] at c1
    refine xr_iconst (v := 0) D_Rg_fontPart_18 rfl ?_
    refine xr_iret rfl D_Rg_fontPart_19 ?_
    exact oi (by unfold fPart; grind)
  · rw [b2_n] at c1
    refine xr_iload_n D_Rg_fontPart_14 rfl rfl ?_
    refine xr_if_ge (tgt := 20) D_Rg_fontPart_15 rfl (fun c2 => ?_) (fun c2 => ?_)
    · refine xr_iload_n D_Rg_fontPart_20 rfl rfl ?_
      refine xr_iconst (v := 5) D_Rg_fontPart_21 rfl ?_
      refine xr_icmp_ge (tgt := 36) D_Rg_fontPart_22 rfl (fun c3 => ?_) (fun c3 => ?_)
      · refine xr_iload_n D_Rg_fontPart_36 rfl rfl ?_
        refine xr_iconst (v := 5) D_Rg_fontPart_37 rfl ?_
        refine xr_isub D_Rg_fontPart_38 ?_
        refine xr_istore_n D_Rg_fontPart_39 rfl (by decide) ?_
        refine xr_iload_n D_Rg_fontPart_40 rfl rfl ?_
        refine xr_aload_n D_Rg_fontPart_41 rfl rfl ?_
        refine xr_getf F_Rg_18 D_Rg_fontPart_42 rfl rfl ?_
        refine xr_iload_n D_Rg_fontPart_45 rfl rfl ?_
        refine xr_iconst (v := 5) D_Rg_fontPart_46 rfl ?_
        refine xr_imul D_Rg_fontPart_47 ?_
        refine xr_iconst (v := 4) D_Rg_fontPart_48 rfl ?_
        refine xr_iadd D_Rg_fontPart_49 ?_
        refine xr_iald D_Rg_fontPart_50 rfl (by exact i_in2 1280 (by grind) (by grind) rfl) ?_
        refine xr_icmp_ge (tgt := 72) D_Rg_fontPart_51 rfl (fun c4 => ?_) (fun c4 => ?_)
        · refine xr_iconst (v := 0) D_Rg_fontPart_72 rfl ?_
          refine xr_iret rfl D_Rg_fontPart_73 ?_
          exact oi (by unfold fPart; grind)
        · refine xr_aload_n D_Rg_fontPart_54 rfl rfl ?_
          refine xr_getf F_Rg_27 D_Rg_fontPart_55 rfl rfl ?_
          refine xr_aload_n D_Rg_fontPart_58 rfl rfl ?_
          refine xr_getf F_Rg_21 D_Rg_fontPart_59 rfl rfl ?_
          refine xr_iload_n D_Rg_fontPart_62 rfl rfl ?_
          refine xr_iald D_Rg_fontPart_63 rfl (by exact i_in2 256 (by grind) (by grind) rfl) ?_
          refine xr_iload_n D_Rg_fontPart_64 rfl rfl ?_
          refine xr_iadd D_Rg_fontPart_65 ?_
          refine xr_cVx (as := [_]) (c_By_at_29) (L_Rg_61) (CD_By_at) CI_By D_Rg_fontPart_66 rfl rfl (by decide) (Nat.le_of_ble_eq_true rfl) (Nat.le_of_eq (Nat.zero_add _)) (Nat.le_of_eq (Nat.zero_add _)) pic_len ?_
          rintro _ rfl
          refine ⟨_, _, rfl, rfl, ?_⟩
          refine xr_goto (tgt := 73) D_Rg_fontPart_69 rfl ?_
          refine xr_iret rfl D_Rg_fontPart_73 ?_
          exact oi (by unfold fPart; grind)
      · refine xr_aload_n D_Rg_fontPart_25 rfl rfl ?_
        refine xr_getf F_Rg_18 D_Rg_fontPart_26 rfl rfl ?_
        refine xr_iload_n D_Rg_fontPart_29 rfl rfl ?_
        refine xr_iconst (v := 5) D_Rg_fontPart_30 rfl ?_
        refine xr_imul D_Rg_fontPart_31 ?_
        refine xr_iload_n D_Rg_fontPart_32 rfl rfl ?_
        refine xr_iadd D_Rg_fontPart_33 ?_
        refine xr_iald D_Rg_fontPart_34 rfl (by exact i_in2 1280 (by grind) (by grind) rfl) ?_
        refine xr_iret rfl D_Rg_fontPart_35 ?_
        exact oi (by unfold fPart; grind)
    · refine xr_iconst (v := 0) D_Rg_fontPart_18 rfl ?_
      refine xr_iret rfl D_Rg_fontPart_19 ?_
      exact oi (by unfold fPart; grind)

theorem c_Rg_clear_24 {I : mI} {A : mA} {L : mL}  (h29 : 0 ≤ I 2901) : xm m_Rg_clear (1, 21) [.ref 24] (pic I A L) 0 0 (fun o => o = (.inl none, pic (upd (upd (upd (upd (upd (upd (upd (upd I 2901 0) 2405 0) 2406 0) 2407 0) 2408 0) 2409 0) 2410 0) 2411 0) A L)) := by
  refine xm_of rfl (by decide) (Nat.le_of_ble_eq_true rfl) ?_
  refine xr_aload_n D_Rg_clear_0 rfl rfl ?_
  refine xr_getf F_Rg_27 D_Rg_clear_1 rfl rfl ?_
  refine xr_iconst (v := 0) D_Rg_clear_4 rfl ?_
  refine xr_cVv (as := [_]) (c_By_cut_29 (by decide) h29) (L_Rg_31) (CD_By_cut) CI_By D_Rg_clear_5 rfl rfl (by decide) (Nat.le_of_ble_eq_true rfl) (Nat.le_of_eq (Nat.zero_add _)) (Nat.le_of_eq (Nat.zero_add _)) pic_len ?_
  rintro _ rfl
  refine ⟨_, rfl, rfl, ?_⟩
  refine xr_aload_n D_Rg_clear_8 rfl rfl ?_
  refine xr_iconst (v := 0) D_Rg_clear_9 rfl ?_
  refine xr_putf F_Rg_35 FT_Rg FN_Rg_5 D_Rg_clear_10 rfl (Nat.le_of_ble_eq_true rfl) rfl rfl (pset_24_5) ?_
  refine xr_aload_n D_Rg_clear_13 rfl rfl ?_
  refine xr_iconst (v := 0) D_Rg_clear_14 rfl ?_
  refine xr_putf F_Rg_39 FT_Rg FN_Rg_6 D_Rg_clear_15 rfl (Nat.le_of_ble_eq_true rfl) rfl rfl (pset_24_6) ?_
  refine xr_aload_n D_Rg_clear_18 rfl rfl ?_
  refine xr_iconst (v := 0) D_Rg_clear_19 rfl ?_
  refine xr_putf F_Rg_42 FT_Rg FN_Rg_7 D_Rg_clear_20 rfl (Nat.le_of_ble_eq_true rfl) rfl rfl (pset_24_7) ?_
  refine xr_aload_n D_Rg_clear_23 rfl rfl ?_
  refine xr_iconst (v := 0) D_Rg_clear_24 rfl ?_
  refine xr_putf F_Rg_45 FT_Rg FN_Rg_8 D_Rg_clear_25 rfl (Nat.le_of_ble_eq_true rfl) rfl rfl (pset_24_8) ?_
  refine xr_aload_n D_Rg_clear_28 rfl rfl ?_
  refine xr_iconst (v := 0) D_Rg_clear_29 rfl ?_
  refine xr_putf F_Rg_48 FT_Rg FN_Rg_9 D_Rg_clear_30 rfl (Nat.le_of_ble_eq_true rfl) rfl rfl (pset_24_9) ?_
  refine xr_aload_n D_Rg_clear_33 rfl rfl ?_
  refine xr_iconst (v := 0) D_Rg_clear_34 rfl ?_
  refine xr_putf F_Rg_51 FT_Rg FN_Rg_10 D_Rg_clear_35 rfl (Nat.le_of_ble_eq_true rfl) rfl rfl (pset_24_10) ?_
  refine xr_aload_n D_Rg_clear_38 rfl rfl ?_
  refine xr_iconst (v := 0) D_Rg_clear_39 rfl ?_
  refine xr_putf F_Rg_54 FT_Rg FN_Rg_11 D_Rg_clear_40 rfl (Nat.le_of_ble_eq_true rfl) rfl rfl (pset_24_11) ?_
  refine xr_vret rfl D_Rg_clear_43 ?_
  exact rfl

theorem c_Dv_mark_0 {I : mI} {A : mA} {L : mL} {i : Int32} {w : Int32}  : xm m_Dv_mark (6, 90) [.ref 0, .int i, .int w] (pic I A L) 1 6 (fun o => ((¬ (0 ≤ i ∧ i < I 2405 ∧ 0 ≤ w ∧ w < 6)) ∧ o = (.inr "java/lang/IndexOutOfBoundsException", pic I A L)) ∨ ((0 ≤ i ∧ i < I 2405 ∧ 0 ≤ w ∧ w < 6) ∧ o = (.inl (some (.int (rPart (I 2405) 2000 6 (A 25) i w))), pic I A L))) := by
  refine xm_of rfl (by decide) (Nat.le_of_ble_eq_true rfl) ?_
  refine xr_iload_n D_Dv_mark_0 rfl rfl ?_
  refine xr_if_lt (tgt := 25) D_Dv_mark_1 rfl (fun c1 => ?_) (fun c1 => ?_)
  · refine xr_throwS (TH_174_228) rfl D_Dv_mark_25.1 D_Dv_mark_28.1 D_Dv_mark_29.1 D_Dv_mark_31.1 D_Dv_mark_34.1 (by decide) (by decide) (Nat.le_of_ble_eq_true rfl) (Nat.le_refl _) (Nat.le_refl _) ?_
    first | exact Or.inl ⟨by grind, rfl⟩ | exact Or.inr (⟨by grind, rfl⟩)
  · refine xr_iload_n D_Dv_mark_4 rfl rfl ?_
    refine xr_aload_n D_Dv_mark_5 rfl rfl ?_
    refine xr_getf F_Dv_53 D_Dv_mark_6 rfl rfl ?_
    refine xr_getf F_Dv_204 D_Dv_mark_9 rfl rfl ?_
    refine xr_icmp_ge (tgt := 25) D_Dv_mark_12 rfl (fun c2 => ?_) (fun c2 => ?_)
    · refine xr_throwS (TH_174_228) rfl D_Dv_mark_25.1 D_Dv_mark_28.1 D_Dv_mark_29.1 D_Dv_mark_31.1 D_Dv_mark_34.1 (by decide) (by decide) (Nat.le_of_ble_eq_true rfl) (Nat.le_refl _) (Nat.le_refl _) ?_
      first | exact Or.inl ⟨by grind, rfl⟩ | exact Or.inr (⟨by grind, rfl⟩)
    · refine xr_iload_n D_Dv_mark_15 rfl rfl ?_
      refine xr_if_lt (tgt := 25) D_Dv_mark_16 rfl (fun c3 => ?_) (fun c3 => ?_)
      · refine xr_throwS (TH_174_228) rfl D_Dv_mark_25.1 D_Dv_mark_28.1 D_Dv_mark_29.1 D_Dv_mark_31.1 D_Dv_mark_34.1 (by decide) (by decide) (Nat.le_of_ble_eq_true rfl) (Nat.le_refl _) (Nat.le_refl _) ?_
        first | exact Or.inl ⟨by grind, rfl⟩ | exact Or.inr (⟨by grind, rfl⟩)
      · refine xr_iload_n D_Dv_mark_19 rfl rfl ?_
        refine xr_bipush (v := 6) D_Dv_mark_20 rfl ?_
        refine xr_icmp_lt (tgt := 35) D_Dv_mark_22 rfl (fun c4 => ?_) (fun c4 => ?_)
        · refine xr_aload_n D_Dv_mark_35 rfl rfl ?_
          refine xr_getf F_Dv_53 D_Dv_mark_36 rfl rfl ?_
          refine xr_iload_n D_Dv_mark_39 rfl rfl ?_
          refine xr_iload_n D_Dv_mark_40 rfl rfl ?_
          refine xr_cVx (as := [_, _]) (c_Rg_markPart_24) (L_Dv_230) (CD_Rg_markPart) CI_Rg D_Dv_mark_41 rfl rfl (by decide) (Nat.le_of_ble_eq_true rfl) (Nat.le_of_eq (Nat.zero_add _)) (Nat.le_of_eq (Nat.zero_add _)) pic_len ?_
          rintro _ rfl
          refine ⟨_, _, rfl, rfl, ?_⟩
          refine xr_iret rfl D_Dv_mark_44 ?_
          first | exact Or.inl ⟨by grind, rfl⟩ | exact Or.inr (⟨by grind, rfl⟩)
        · refine xr_throwS (TH_174_228) rfl D_Dv_mark_25.1 D_Dv_mark_28.1 D_Dv_mark_29.1 D_Dv_mark_31.1 D_Dv_mark_34.1 (by decide) (by decide) (Nat.le_of_ble_eq_true rfl) (Nat.le_refl _) (Nat.le_refl _) ?_
          first | exact Or.inl ⟨by grind, rfl⟩ | exact Or.inr (⟨by grind, rfl⟩)

theorem c_Dv_page_0 {I : mI} {A : mA} {L : mL} {p : Int32} {i : Int32}  : xm m_Dv_page (6, 90) [.ref 0, .int p, .int i] (pic I A L) 1 6 (fun o => ((¬ (0 ≤ p ∧ p < I 2406 ∧ 0 ≤ i ∧ i < 10)) ∧ o = (.inr "java/lang/IndexOutOfBoundsException", pic I A L)) ∨ ((0 ≤ p ∧ p < I 2406 ∧ 0 ≤ i ∧ i < 10) ∧ o = (.inl (some (.int (rPart (I 2406) 1300 10 (A 26) p i))), pic I A L))) := by
  refine xm_of rfl (by decide) (Nat.le_of_ble_eq_true rfl) ?_
  refine xr_iload_n D_Dv_page_0 rfl rfl ?_
  refine xr_if_lt (tgt := 25) D_Dv_page_1 rfl (fun c1 => ?_) (fun c1 => ?_)
  · refine xr_throwS (TH_174_234) rfl D_Dv_page_25.1 D_Dv_page_28.1 D_Dv_page_29.1 D_Dv_page_31.1 D_Dv_page_34.1 (by decide) (by decide) (Nat.le_of_ble_eq_true rfl) (Nat.le_refl _) (Nat.le_refl _) ?_
    first | exact Or.inl ⟨by grind, rfl⟩ | exact Or.inr (⟨by grind, rfl⟩)
  · refine xr_iload_n D_Dv_page_4 rfl rfl ?_
    refine xr_aload_n D_Dv_page_5 rfl rfl ?_
    refine xr_getf F_Dv_53 D_Dv_page_6 rfl rfl ?_
    refine xr_getf F_Dv_208 D_Dv_page_9 rfl rfl ?_
    refine xr_icmp_ge (tgt := 25) D_Dv_page_12 rfl (fun c2 => ?_) (fun c2 => ?_)
    · refine xr_throwS (TH_174_234) rfl D_Dv_page_25.1 D_Dv_page_28.1 D_Dv_page_29.1 D_Dv_page_31.1 D_Dv_page_34.1 (by decide) (by decide) (Nat.le_of_ble_eq_true rfl) (Nat.le_refl _) (Nat.le_refl _) ?_
      first | exact Or.inl ⟨by grind, rfl⟩ | exact Or.inr (⟨by grind, rfl⟩)
    · refine xr_iload_n D_Dv_page_15 rfl rfl ?_
      refine xr_if_lt (tgt := 25) D_Dv_page_16 rfl (fun c3 => ?_) (fun c3 => ?_)
      · refine xr_throwS (TH_174_234) rfl D_Dv_page_25.1 D_Dv_page_28.1 D_Dv_page_29.1 D_Dv_page_31.1 D_Dv_page_34.1 (by decide) (by decide) (Nat.le_of_ble_eq_true rfl) (Nat.le_refl _) (Nat.le_refl _) ?_
        first | exact Or.inl ⟨by grind, rfl⟩ | exact Or.inr (⟨by grind, rfl⟩)
      · refine xr_iload_n D_Dv_page_19 rfl rfl ?_
        refine xr_bipush (v := 10) D_Dv_page_20 rfl ?_
        refine xr_icmp_lt (tgt := 35) D_Dv_page_22 rfl (fun c4 => ?_) (fun c4 => ?_)
        · refine xr_aload_n D_Dv_page_35 rfl rfl ?_
          refine xr_getf F_Dv_53 D_Dv_page_36 rfl rfl ?_
          refine xr_iload_n D_Dv_page_39 rfl rfl ?_
          refine xr_iload_n D_Dv_page_40 rfl rfl ?_
          refine xr_cVx (as := [_, _]) (c_Rg_pagePart_24) (L_Dv_236) (CD_Rg_pagePart) CI_Rg D_Dv_page_41 rfl rfl (by decide) (Nat.le_of_ble_eq_true rfl) (Nat.le_of_eq (Nat.zero_add _)) (Nat.le_of_eq (Nat.zero_add _)) pic_len ?_
          rintro _ rfl
          refine ⟨_, _, rfl, rfl, ?_⟩
          refine xr_iret rfl D_Dv_page_44 ?_
          first | exact Or.inl ⟨by grind, rfl⟩ | exact Or.inr (⟨by grind, rfl⟩)
        · refine xr_throwS (TH_174_234) rfl D_Dv_page_25.1 D_Dv_page_28.1 D_Dv_page_29.1 D_Dv_page_31.1 D_Dv_page_34.1 (by decide) (by decide) (Nat.le_of_ble_eq_true rfl) (Nat.le_refl _) (Nat.le_refl _) ?_
          first | exact Or.inl ⟨by grind, rfl⟩ | exact Or.inr (⟨by grind, rfl⟩)

theorem c_Dv_told_0 {I : mI} {A : mA} {L : mL} {k : Int32} {w : Int32}  : xm m_Dv_told (6, 90) [.ref 0, .int k, .int w] (pic I A L) 1 6 (fun o => ((¬ (0 ≤ k ∧ k < I 2407 ∧ 0 ≤ w)) ∧ o = (.inr "java/lang/IndexOutOfBoundsException", pic I A L)) ∨ ((0 ≤ k ∧ k < I 2407 ∧ 0 ≤ w) ∧ o = (.inl (some (.int (fPart (I 2407) (A 27) (A 28) (gat (I 2901) (A 30)) k w))), pic I A L))) := by
  refine xm_of rfl (by decide) (Nat.le_of_ble_eq_true rfl) ?_
  refine xr_iload_n D_Dv_told_0 rfl rfl ?_
  refine xr_if_lt (tgt := 19) D_Dv_told_1 rfl (fun c1 => ?_) (fun c1 => ?_)
  · refine xr_throwS (TH_174_239) rfl D_Dv_told_19.1 D_Dv_told_22.1 D_Dv_told_23.1 D_Dv_told_25.1 D_Dv_told_28.1 (by decide) (by decide) (Nat.le_of_ble_eq_true rfl) (Nat.le_refl _) (Nat.le_refl _) ?_
    first | exact Or.inl ⟨by grind, rfl⟩ | exact Or.inr (⟨by grind, rfl⟩)
  · refine xr_iload_n D_Dv_told_4 rfl rfl ?_
    refine xr_aload_n D_Dv_told_5 rfl rfl ?_
    refine xr_getf F_Dv_53 D_Dv_told_6 rfl rfl ?_
    refine xr_getf F_Dv_211 D_Dv_told_9 rfl rfl ?_
    refine xr_icmp_ge (tgt := 19) D_Dv_told_12 rfl (fun c2 => ?_) (fun c2 => ?_)
    · refine xr_throwS (TH_174_239) rfl D_Dv_told_19.1 D_Dv_told_22.1 D_Dv_told_23.1 D_Dv_told_25.1 D_Dv_told_28.1 (by decide) (by decide) (Nat.le_of_ble_eq_true rfl) (Nat.le_refl _) (Nat.le_refl _) ?_
      first | exact Or.inl ⟨by grind, rfl⟩ | exact Or.inr (⟨by grind, rfl⟩)
    · refine xr_iload_n D_Dv_told_15 rfl rfl ?_
      refine xr_if_ge (tgt := 29) D_Dv_told_16 rfl (fun c3 => ?_) (fun c3 => ?_)
      · refine xr_aload_n D_Dv_told_29 rfl rfl ?_
        refine xr_getf F_Dv_53 D_Dv_told_30 rfl rfl ?_
        refine xr_iload_n D_Dv_told_33 rfl rfl ?_
        refine xr_iload_n D_Dv_told_34 rfl rfl ?_
        refine xr_cVx (as := [_, _]) (c_Rg_fontPart_24) (L_Dv_241) (CD_Rg_fontPart) CI_Rg D_Dv_told_35 rfl rfl (by decide) (Nat.le_of_ble_eq_true rfl) (Nat.le_of_eq (Nat.zero_add _)) (Nat.le_of_eq (Nat.zero_add _)) pic_len ?_
        rintro _ rfl
        refine ⟨_, _, rfl, rfl, ?_⟩
        refine xr_iret rfl D_Dv_told_38 ?_
        first | exact Or.inl ⟨by grind, rfl⟩ | exact Or.inr (⟨by grind, rfl⟩)
      · refine xr_throwS (TH_174_239) rfl D_Dv_told_19.1 D_Dv_told_22.1 D_Dv_told_23.1 D_Dv_told_25.1 D_Dv_told_28.1 (by decide) (by decide) (Nat.le_of_ble_eq_true rfl) (Nat.le_refl _) (Nat.le_refl _) ?_
        first | exact Or.inl ⟨by grind, rfl⟩ | exact Or.inr (⟨by grind, rfl⟩)

theorem l_Dv_isName {I : mI} {A : mA} {L : mL} {a b : Int64} {n : Int32} (hn : n ≤ 16) : ∀ (t j : Nat) (x6 : Option Value), (j : Int) + t = n.toInt → xr m_Dv_isName none (1, 26) 18 [some (.long a), none, some (.long b), none, some (.int n), some (.int (Int32.ofNat j)), x6] [] (pic I A L) 0 0 (fun o => o = (.inl (some (.int (b2 (nmB a b t j = true)))), pic I A L)) := by
  have hn := i_le.mp hn
  have e16 : (16 : Int32).toInt = 16 := rfl
  intro t
  induction t with
  | zero =>
    intro j x6 hj
    refine xr_iload D_Dv_isName_18 rfl ?_
    refine xr_iload D_Dv_isName_20 rfl ?_
    refine xr_icmp_ge (tgt := 56) D_Dv_isName_22 rfl (fun c1 => ?_) (fun c1 => ?_)
    · refine xr_iconst (v := 1) D_Dv_isName_56 rfl ?_
      refine xr_zret rfl (by first | rfl | exact nar_b2 | exact nar_z hz) D_Dv_isName_57 ?_
      exact ob_t rfl
    · exact absurd (i_le.mpr (by rw [i_of (by omega)]; omega)) c1
  | succ t ih =>
    intro j x6 hj
    refine xr_iload D_Dv_isName_18 rfl ?_
    refine xr_iload D_Dv_isName_20 rfl ?_
    refine xr_icmp_ge (tgt := 56) D_Dv_isName_22 rfl (fun c1 => ?_) (fun c1 => ?_)
    · exact absurd c1 (fun q => by rw [i_le, i_of (by omega)] at q; omega)
    · refine xr_lload_n D_Dv_isName_25 rfl rfl ?_
      refine xr_lload_n D_Dv_isName_26 rfl rfl ?_
      refine xr_iload D_Dv_isName_27 rfl ?_
      refine xr_cSx (as := [_, _, _]) (c_Dv_letterOf) (L_Dv_246) (CD_Dv_letterOf) D_Dv_isName_29 rfl (by decide) (Nat.le_of_ble_eq_true rfl) (Nat.le_of_eq (Nat.zero_add _)) (Nat.le_of_eq (Nat.zero_add _)) pic_len ?_
      rintro _ rfl
      refine ⟨_, _, rfl, rfl, ?_⟩
      refine xr_istore D_Dv_isName_32 (by decide) ?_
      refine xr_iload D_Dv_isName_34 rfl ?_
      refine xr_bipush (v := 33) D_Dv_isName_36 rfl ?_
      refine xr_icmp_lt (tgt := 48) D_Dv_isName_38 rfl (fun c2 => ?_) (fun c2 => ?_)
      · refine xr_iconst (v := 0) D_Dv_isName_48 rfl ?_
        refine xr_zret rfl (by first | rfl | exact nar_b2 | exact nar_z hz) D_Dv_isName_49 ?_
        exact ob_f (by rw [nmB_s]; rw [decide_eq_false (by grind)]; simp)
      · refine xr_iload D_Dv_isName_41 rfl ?_
        refine xr_bipush (v := 126) D_Dv_isName_43 rfl ?_
        refine xr_icmp_le (tgt := 50) D_Dv_isName_45 rfl (fun c3 => ?_) (fun c3 => ?_)
        · refine xr_iinc (c9 := 1) D_Dv_isName_50 rfl rfl (by decide) ?_
          refine xr_goto (tgt := 18) D_Dv_isName_53 rfl ?_
          rw [io_succ]
          refine xr_mono (ih (j + 1) _ (by omega)) ?_
          rintro _ rfl
          exact ob_iff (by rw [nmB_s, decide_eq_true (by grind), Bool.true_and])
        · refine xr_iconst (v := 0) D_Dv_isName_48 rfl ?_
          refine xr_zret rfl (by first | rfl | exact nar_b2 | exact nar_z hz) D_Dv_isName_49 ?_
          exact ob_f (by rw [nmB_s]; rw [decide_eq_false (by grind)]; simp)

theorem c_Dv_isName {I : mI} {A : mA} {L : mL} {a b : Int64} {n : Int32} : xm m_Dv_isName (1, 26) [.long a, .long b, .int n] (pic I A L) 0 0 (fun o => o = (.inl (some (.int (b2 ((1 ≤ n ∧ n ≤ 16) ∧ nmB a b n.toInt.toNat 0 = true)))), pic I A L)) := by
  refine xm_of rfl (by decide) (Nat.le_of_ble_eq_true rfl) ?_
  refine xr_iload D_Dv_isName_0 rfl ?_
  refine xr_iconst (v := 1) D_Dv_isName_2 rfl ?_
  refine xr_icmp_lt (tgt := 13) D_Dv_isName_3 rfl (fun c1 => ?_) (fun c1 => ?_)
  · refine xr_iconst (v := 0) D_Dv_isName_13 rfl ?_
    refine xr_zret rfl (by first | rfl | exact nar_b2 | exact nar_z hz) D_Dv_isName_14 ?_
    exact ob_f (by grind)
  · refine xr_iload D_Dv_isName_6 rfl ?_
    refine xr_bipush (v := 16) D_Dv_isName_8 rfl ?_
    refine xr_icmp_le (tgt := 15) D_Dv_isName_10 rfl (fun c2 => ?_) (fun c2 => ?_)
    · refine xr_iconst (v := 0) D_Dv_isName_15 rfl ?_
      refine xr_istore D_Dv_isName_16 (by decide) ?_
      refine xr_mono (l_Dv_isName (by grind) n.toInt.toNat 0 _ ?_) ?_
      · have := i_le.mp (show (1 : Int32) ≤ n by grind)
        rw [z1] at this
        omega
      · rintro _ rfl
        exact ob_iff (by grind)
    · refine xr_iconst (v := 0) D_Dv_isName_13 rfl ?_
      refine xr_zret rfl (by first | rfl | exact nar_b2 | exact nar_z hz) D_Dv_isName_14 ?_
      exact ob_f (by grind)

theorem c_Dv_font_0 {I : mI} {A : mA} {L : mL} {f : Int32} {x : Int32} {y : Int32} {z : Int32} {a : Int64} {b : Int64} {n : Int32}  : xm m_Dv_font (6, 90) [.ref 0, .int f, .int x, .int y, .int z, .long a, .long b, .int n] (pic I A L) 1 6 (fun o => ((¬ ((0 ≤ f ∧ f ≤ 255) ∧ ((1 ≤ n ∧ n ≤ 16) ∧ nmB a b n.toInt.toNat 0 = true))) ∧ o = (.inr "java/lang/IllegalArgumentException", pic I A L)) ∨ ((((0 ≤ f ∧ f ≤ 255) ∧ ((1 ≤ n ∧ n ≤ 16) ∧ nmB a b n.toInt.toNat 0 = true)) ∧ ¬ A 20 f.toNatClampNeg = 0) ∧ o = (.inr "java/lang/IllegalStateException", pic I A L)) ∨ ((((0 ≤ f ∧ f ≤ 255) ∧ ((1 ≤ n ∧ n ≤ 16) ∧ nmB a b n.toInt.toNat 0 = true)) ∧ A 20 f.toNatClampNeg = 0) ∧ o = (.inl none, pic I (upA (upA (upA (upA A 4 f.toNatClampNeg x) 5 f.toNatClampNeg y) 6 f.toNatClampNeg z) 9 f.toNatClampNeg n) (upL (upL L 7 f.toNatClampNeg a) 8 f.toNatClampNeg b)))) := by
  refine xm_of rfl (by decide) (Nat.le_of_ble_eq_true rfl) ?_
  refine xr_iload_n D_Dv_font_0 rfl rfl ?_
  refine xr_cSx (as := [_]) (c_Dv_isByte) (L_Dv_66) (CD_Dv_isByte) D_Dv_font_1 rfl (by decide) (Nat.le_of_ble_eq_true rfl) (Nat.le_of_eq (Nat.zero_add _)) (Nat.le_of_eq (Nat.zero_add _)) pic_len ?_
  rintro _ rfl
  refine ⟨_, _, rfl, rfl, ?_⟩
  refine xr_if_eq (tgt := 19) D_Dv_font_4 rfl (fun c1 => ?_) (fun c1 => ?_)
  · rw [b2_0] at c1
    refine xr_throwS (TH_74_76) rfl D_Dv_font_19.1 D_Dv_font_22.1 D_Dv_font_23.1 D_Dv_font_25.1 D_Dv_font_28.1 (by decide) (by decide) (Nat.le_of_ble_eq_true rfl) (Nat.le_refl _) (Nat.le_refl _) ?_
    first | exact Or.inl ⟨by grind, rfl⟩ | exact Or.inr (Or.inl ⟨by grind, rfl⟩) | exact Or.inr (Or.inr (⟨by grind, rfl⟩))
  · rw [b2_n] at c1
    refine xr_lload D_Dv_font_7 rfl ?_
    refine xr_lload D_Dv_font_9 rfl ?_
    refine xr_iload D_Dv_font_11 rfl ?_
    refine xr_cSx (as := [_, _, _]) (c_Dv_isName) (L_Dv_70) (CD_Dv_isName) D_Dv_font_13 rfl (by decide) (Nat.le_of_ble_eq_true rfl) (Nat.le_of_eq (Nat.zero_add _)) (Nat.le_of_eq (Nat.zero_add _)) pic_len ?_
    rintro _ rfl
    refine ⟨_, _, rfl, rfl, ?_⟩
    refine xr_if_ne (tgt := 29) D_Dv_font_16 rfl (fun c2 => ?_) (fun c2 => ?_)
    · rw [b2_n] at c2
      refine xr_aload_n D_Dv_font_29 rfl rfl ?_
      refine xr_getf F_Dv_39 D_Dv_font_30 rfl rfl ?_
      refine xr_iload_n D_Dv_font_33 rfl rfl ?_
      refine xr_cVx (as := [_]) (c_Wr_hasTold_13) (L_Dv_81) (CD_Wr_hasTold) CI_Wr D_Dv_font_34 rfl rfl (by decide) (Nat.le_of_ble_eq_true rfl) (Nat.le_of_eq (Nat.zero_add _)) (Nat.le_of_eq (Nat.zero_add _)) pic_len ?_
      rintro _ rfl
      refine ⟨_, _, rfl, rfl, ?_⟩
      refine xr_if_eq (tgt := 50) D_Dv_font_37 rfl (fun c3 => ?_) (fun c3 => ?_)
      · rw [b2_0] at c3
        refine xr_aload_n D_Dv_font_50 rfl rfl ?_
        refine xr_getf F_Dv_19 D_Dv_font_51 rfl rfl ?_
        refine xr_iload_n D_Dv_font_54 rfl rfl ?_
        refine xr_iload_n D_Dv_font_55 rfl rfl ?_
        refine xr_iload_n D_Dv_font_56 rfl rfl ?_
        refine xr_iload D_Dv_font_57 rfl ?_
        refine xr_cVv (as := [_, _, _, _]) (c_Fo_define_3 (by grind)) (L_Dv_89) (CD_Fo_define) CI_Fo D_Dv_font_59 rfl rfl (by decide) (Nat.le_of_ble_eq_true rfl) (Nat.le_of_eq (Nat.zero_add _)) (Nat.le_of_eq (Nat.zero_add _)) pic_len ?_
        rintro _ rfl
        refine ⟨_, rfl, rfl, ?_⟩
        refine xr_aload_n D_Dv_font_62 rfl rfl ?_
        refine xr_getf F_Dv_19 D_Dv_font_63 rfl rfl ?_
        refine xr_iload_n D_Dv_font_66 rfl rfl ?_
        refine xr_lload D_Dv_font_67 rfl ?_
        refine xr_lload D_Dv_font_69 rfl ?_
        refine xr_iload D_Dv_font_71 rfl ?_
        refine xr_cVv (as := [_, _, _, _]) (c_Fo_call_3 (by grind)) (L_Dv_93) (CD_Fo_call) CI_Fo D_Dv_font_73 rfl rfl (by decide) (Nat.le_of_ble_eq_true rfl) (Nat.le_of_eq (Nat.zero_add _)) (Nat.le_of_eq (Nat.zero_add _)) pic_len ?_
        rintro _ rfl
        refine ⟨_, rfl, rfl, ?_⟩
        refine xr_vret rfl D_Dv_font_76 ?_
        first | exact Or.inl ⟨by grind, rfl⟩ | exact Or.inr (Or.inl ⟨by grind, rfl⟩) | exact Or.inr (Or.inr (⟨by grind, rfl⟩))
      · rw [b2_n] at c3
        refine xr_throwS (TH_84_86) rfl D_Dv_font_40.1 D_Dv_font_43.1 D_Dv_font_44.1 D_Dv_font_46.1 D_Dv_font_49.1 (by decide) (by decide) (Nat.le_of_ble_eq_true rfl) (Nat.le_refl _) (Nat.le_refl _) ?_
        first | exact Or.inl ⟨by grind, rfl⟩ | exact Or.inr (Or.inl ⟨by grind, rfl⟩) | exact Or.inr (Or.inr (⟨by grind, rfl⟩))
    · rw [b2_0] at c2
      refine xr_throwS (TH_74_76) rfl D_Dv_font_19.1 D_Dv_font_22.1 D_Dv_font_23.1 D_Dv_font_25.1 D_Dv_font_28.1 (by decide) (by decide) (Nat.le_of_ble_eq_true rfl) (Nat.le_refl _) (Nat.le_refl _) ?_
      first | exact Or.inl ⟨by grind, rfl⟩ | exact Or.inr (Or.inl ⟨by grind, rfl⟩) | exact Or.inr (Or.inr (⟨by grind, rfl⟩))

theorem l_Wr_goBack {I : mI} {L : mL} {w k : Int32} (hm : I 1307 ≤ 256) : ∀ (t : Nat) (i : Int32) (A : mA) (x4 : Option Value), 0 ≤ i → i.toInt + t = (I 1307).toInt → (∀ j : Nat, (j : Int) < (I 1307).toInt → 0 ≤ A 21 j ∧ A 21 j ≤ 255) → xr m_Wr_goBack none (1, 21) 10 [some (.ref 13), some (.int w), some (.int k), some (.int i), x4] [] (pic I A L) 0 0 (fun o => o = (.inl none, pic (upd I 1307 k) (upAf A 20 (clr (A 20) (A 21) t i.toInt.toNat)) L)) := by
  have hm9 := i_le.mp hm
  have e256 : (256 : Int32).toInt = 256 := rfl
  intro t
  induction t with
  | zero =>
    intro i A x4 h0 hi hT
    refine xr_iload_n D_Wr_goBack_10 rfl rfl ?_
    refine xr_if_lt (tgt := 59) D_Wr_goBack_11 rfl (fun c1 => ?_) (fun c1 => ?_)
    · refine xr_aload_n D_Wr_goBack_59 rfl rfl ?_
      refine xr_iload_n D_Wr_goBack_60 rfl rfl ?_
      refine xr_putf F_Wr_80 FT_Wr FN_Wr_7 D_Wr_goBack_61 rfl (Nat.le_of_ble_eq_true rfl) rfl rfl (pset_13_7) ?_
      refine xr_vret rfl D_Wr_goBack_64 ?_
      exact congrArg (fun z => ((.inl none, pic (upd I 1307 k) z L) : xO)) upAf_self.symm
    · refine xr_iload_n D_Wr_goBack_14 rfl rfl ?_
      refine xr_aload_n D_Wr_goBack_15 rfl rfl ?_
      refine xr_getf F_Wr_80 D_Wr_goBack_16 rfl rfl ?_
      refine xr_icmp_ge (tgt := 59) D_Wr_goBack_19 rfl (fun c2 => ?_) (fun c2 => ?_)
      · refine xr_aload_n D_Wr_goBack_59 rfl rfl ?_
        refine xr_iload_n D_Wr_goBack_60 rfl rfl ?_
        refine xr_putf F_Wr_80 FT_Wr FN_Wr_7 D_Wr_goBack_61 rfl (Nat.le_of_ble_eq_true rfl) rfl rfl (pset_13_7) ?_
        refine xr_vret rfl D_Wr_goBack_64 ?_
        exact congrArg (fun z => ((.inl none, pic (upd I 1307 k) z L) : xO)) upAf_self.symm
      · exact absurd (i_le.mpr (by omega)) c2
  | succ t ih =>
    intro i A x4 h0 hi hT
    have g0 := i_le.mp h0
    have hb := hT i.toInt.toNat (by rw [z0] at g0; omega)
    have hb2 : 0 ≤ A 21 i.toNatClampNeg ∧ A 21 i.toNatClampNeg ≤ 255 := hb
    have hlt : i < I 1307 := i_lt.mpr (by omega)
    refine xr_iload_n D_Wr_goBack_10 rfl rfl ?_
    refine xr_if_lt (tgt := 59) D_Wr_goBack_11 rfl (fun c1 => ?_) (fun c1 => ?_)
    · exact absurd c1 (by grind)
    · refine xr_iload_n D_Wr_goBack_14 rfl rfl ?_
      refine xr_aload_n D_Wr_goBack_15 rfl rfl ?_
      refine xr_getf F_Wr_80 D_Wr_goBack_16 rfl rfl ?_
      refine xr_icmp_ge (tgt := 59) D_Wr_goBack_19 rfl (fun c2 => ?_) (fun c2 => ?_)
      · exact absurd c2 (by grind)
      · refine xr_iload_n D_Wr_goBack_22 rfl rfl ?_
        refine xr_sipush (v := 256) D_Wr_goBack_23 rfl ?_
        refine xr_icmp_ge (tgt := 59) D_Wr_goBack_26 rfl (fun c3 => ?_) (fun c3 => ?_)
        · exact absurd c3 (by grind)
        · refine xr_aload_n D_Wr_goBack_29 rfl rfl ?_
          refine xr_getf F_Wr_34 D_Wr_goBack_30 rfl rfl ?_
          refine xr_iload_n D_Wr_goBack_33 rfl rfl ?_
          refine xr_iald D_Wr_goBack_34 rfl (by exact i_in2 256 (by grind) (by grind) rfl) ?_
          refine xr_istore D_Wr_goBack_35 (by decide) ?_
          refine xr_iload D_Wr_goBack_37 rfl ?_
          refine xr_cSx (as := [_]) (c_Dv_isByte) (L_Wr_57) (CD_Dv_isByte) D_Wr_goBack_39 rfl (by decide) (Nat.le_of_ble_eq_true rfl) (Nat.le_of_eq (Nat.zero_add _)) (Nat.le_of_eq (Nat.zero_add _)) pic_len ?_
          rintro _ rfl
          refine ⟨_, _, rfl, rfl, ?_⟩
          refine xr_if_eq (tgt := 53) D_Wr_goBack_42 rfl (fun c4 => ?_) (fun c4 => ?_)
          · rw [b2_0] at c4
            exact absurd hb2 (by grind)
          · rw [b2_n] at c4
            refine xr_aload_n D_Wr_goBack_45 rfl rfl ?_
            refine xr_getf F_Wr_30 D_Wr_goBack_46 rfl rfl ?_
            refine xr_iload D_Wr_goBack_49 rfl ?_
            refine xr_iconst (v := 0) D_Wr_goBack_51 rfl ?_
            refine xr_zast D_Wr_goBack_52 rfl (by exact i_in2 256 (by grind) (by grind) rfl) (aset_20) ?_
            refine xr_iinc (c9 := 1) D_Wr_goBack_53 rfl rfl (by decide) ?_
            refine xr_goto (tgt := 10) D_Wr_goBack_56 rfl ?_
            refine xr_mono (ih (i + 1) (upA A 20 (A 21 i.toNatClampNeg).toNatClampNeg 0) _ (by grind) ?_ hT) ?_
            · rw [i_add (by rw [z1]; rw [z0] at g0; omega) (by rw [z1]; omega), z1]; omega
            · rintro _ rfl
              have e : (i + 1).toInt.toNat = i.toInt.toNat + 1 := by rw [i_add (by rw [z1]; rw [z0] at g0; omega) (by rw [z1]; omega), z1]; rw [z0] at g0; omega
              rw [e]
              exact congrArg (fun z => ((.inl none, pic (upd I 1307 k) z L) : xO)) upAf_upA

theorem c_Wr_goBack_13 {I : mI} {A : mA} {L : mL} {w k : Int32} (h0 : 0 ≤ w) (h1 : w ≤ I 1401) (h2 : 0 ≤ k) (h3 : k ≤ I 1307) (hm : I 1307 ≤ 256) (hT : ∀ j : Nat, (j : Int) < (I 1307).toInt → 0 ≤ A 21 j ∧ A 21 j ≤ 255) : xm m_Wr_goBack (1, 21) [.ref 13, .int w, .int k] (pic I A L) 0 0 (fun o => o = (.inl none, pic (upd (upd I 1401 w) 1307 k) (upAf A 20 (clr (A 20) (A 21) ((I 1307).toInt - k.toInt).toNat k.toInt.toNat)) L)) := by
  refine xm_of rfl (by decide) (Nat.le_of_ble_eq_true rfl) ?_
  refine xr_aload_n D_Wr_goBack_0 rfl rfl ?_
  refine xr_getf F_Wr_12 D_Wr_goBack_1 rfl rfl ?_
  refine xr_iload_n D_Wr_goBack_4 rfl rfl ?_
  refine xr_cVv (as := [_]) (c_By_cut_14 h0 h1) (L_Wr_77) (CD_By_cut) CI_By D_Wr_goBack_5 rfl rfl (by decide) (Nat.le_of_ble_eq_true rfl) (Nat.le_of_eq (Nat.zero_add _)) (Nat.le_of_eq (Nat.zero_add _)) pic_len ?_
  rintro _ rfl
  refine ⟨_, rfl, rfl, ?_⟩
  refine xr_iload_n D_Wr_goBack_8 rfl rfl ?_
  refine xr_istore_n D_Wr_goBack_9 rfl (by decide) ?_
  exact l_Wr_goBack (I := upd I 1401 w) hm _ _ A _ h2 (by have := i_le.mp h3; show k.toInt + _ = (I 1307).toInt; omega) hT

theorem c_Wr_restart_13 {I : mI} {A : mA} {L : mL} {c : Int32} {n : Int32} (h01 : 0 ≤ I 1401) (h03 : 0 ≤ I 1307) (hm : I 1307 ≤ 256) (hT : ∀ j : Nat, (j : Int) < (I 1307).toInt → 0 ≤ A 21 j ∧ A 21 j ≤ 255) : xm m_Wr_restart (2, 45) [.ref 13, .int c, .int n] (pic I A L) 0 0 (fun o => o = (.inl none, pic (upd (upd (upd (upd (upd (upd (upd (upd (upd I 1401 0) 1307 0) 1308 c) 1309 n) 1310 0) 1311 0) 1312 (-1)) 1313 0) 1314 0) (upAf A 20 (clr (A 20) (A 21) ((I 1307).toInt - (0 : Int32).toInt).toNat (0 : Int32).toInt.toNat)) L)) := by
  refine xm_of rfl (by decide) (Nat.le_of_ble_eq_true rfl) ?_
  refine xr_aload_n D_Wr_restart_0 rfl rfl ?_
  refine xr_iconst (v := 0) D_Wr_restart_1 rfl ?_
  refine xr_iconst (v := 0) D_Wr_restart_2 rfl ?_
  refine xr_cVv (as := [_, _]) (c_Wr_goBack_13 (by decide) h01 (by decide) h03 hm hT) (L_Wr_61) (CD_Wr_goBack) CI_Wr D_Wr_restart_3 rfl rfl (by decide) (Nat.le_of_ble_eq_true rfl) (Nat.le_of_eq (Nat.zero_add _)) (Nat.le_of_eq (Nat.zero_add _)) pic_len ?_
  rintro _ rfl
  refine ⟨_, rfl, rfl, ?_⟩
  refine xr_aload_n D_Wr_restart_6 rfl rfl ?_
  refine xr_iload_n D_Wr_restart_7 rfl rfl ?_
  refine xr_putf F_Wr_65 FT_Wr FN_Wr_8 D_Wr_restart_8 rfl (Nat.le_of_ble_eq_true rfl) rfl rfl (pset_13_8) ?_
  refine xr_aload_n D_Wr_restart_11 rfl rfl ?_
  refine xr_iload_n D_Wr_restart_12 rfl rfl ?_
  refine xr_putf F_Wr_68 FT_Wr FN_Wr_9 D_Wr_restart_13 rfl (Nat.le_of_ble_eq_true rfl) rfl rfl (pset_13_9) ?_
  refine xr_aload_n D_Wr_restart_16 rfl rfl ?_
  refine xr_iconst (v := 0) D_Wr_restart_17 rfl ?_
  refine xr_putf F_Wr_50 FT_Wr FN_Wr_10 D_Wr_restart_18 rfl (Nat.le_of_ble_eq_true rfl) rfl rfl (pset_13_10) ?_
  refine xr_aload_n D_Wr_restart_21 rfl rfl ?_
  refine xr_iconst (v := 0) D_Wr_restart_22 rfl ?_
  refine xr_putf F_Wr_54 FT_Wr FN_Wr_11 D_Wr_restart_23 rfl (Nat.le_of_ble_eq_true rfl) rfl rfl (pset_13_11) ?_
  refine xr_aload_n D_Wr_restart_26 rfl rfl ?_
  refine xr_iconst (v := (-1)) D_Wr_restart_27 rfl ?_
  refine xr_putf F_Wr_38 FT_Wr FN_Wr_12 D_Wr_restart_28 rfl (Nat.le_of_ble_eq_true rfl) rfl rfl (pset_13_12) ?_
  refine xr_aload_n D_Wr_restart_31 rfl rfl ?_
  refine xr_iconst (v := 0) D_Wr_restart_32 rfl ?_
  refine xr_putf F_Wr_71 FT_Wr FN_Wr_13 D_Wr_restart_33 rfl (Nat.le_of_ble_eq_true rfl) rfl rfl (pset_13_13) ?_
  refine xr_aload_n D_Wr_restart_36 rfl rfl ?_
  refine xr_iconst (v := 0) D_Wr_restart_37 rfl ?_
  refine xr_putf F_Wr_74 FT_Wr FN_Wr_14 D_Wr_restart_38 rfl (Nat.le_of_ble_eq_true rfl) rfl rfl (pset_13_14) ?_
  refine xr_vret rfl D_Wr_restart_41 ?_
  exact rfl

theorem c_Dv_begin_0 {I : mI} {A : mA} {L : mL} {c : Int32} {n : Int32} (h01 : 0 ≤ I 1401) (h03 : 0 ≤ I 1307) (hm : I 1307 ≤ 256) (hT : ∀ j : Nat, (j : Int) < (I 1307).toInt → 0 ≤ A 21 j ∧ A 21 j ≤ 255) : xm m_Dv_begin (6, 90) [.ref 0, .int c, .int n] (pic I A L) 1 6 (fun o => ((¬ ((0 ≤ c ∧ c ≤ 255) ∧ (0 ≤ n ∧ n ≤ 255))) ∧ o = (.inr "java/lang/IllegalArgumentException", pic I A L)) ∨ (((0 ≤ c ∧ c ≤ 255) ∧ (0 ≤ n ∧ n ≤ 255)) ∧ o = (.inl none, pic (upd (upd (upd (upd (upd (upd (upd (upd (upd (upd I 1401 0) 1307 0) 1308 c) 1309 n) 1310 0) 1311 0) 1312 (-1)) 1313 0) 1314 0) 1101 0) (upAf A 20 (clr (A 20) (A 21) ((I 1307).toInt - (0 : Int32).toInt).toNat (0 : Int32).toInt.toNat)) L))) := by
  refine xm_of rfl (by decide) (Nat.le_of_ble_eq_true rfl) ?_
  refine xr_iload_n D_Dv_begin_0 rfl rfl ?_
  refine xr_cSx (as := [_]) (c_Dv_isByte) (L_Dv_66) (CD_Dv_isByte) D_Dv_begin_1 rfl (by decide) (Nat.le_of_ble_eq_true rfl) (Nat.le_of_eq (Nat.zero_add _)) (Nat.le_of_eq (Nat.zero_add _)) pic_len ?_
  rintro _ rfl
  refine ⟨_, _, rfl, rfl, ?_⟩
  refine xr_if_eq (tgt := 14) D_Dv_begin_4 rfl (fun c1 => ?_) (fun c1 => ?_)
  · rw [b2_0] at c1
    refine xr_throwS (TH_74_105) rfl D_Dv_begin_14.1 D_Dv_begin_17.1 D_Dv_begin_18.1 D_Dv_begin_20.1 D_Dv_begin_23.1 (by decide) (by decide) (Nat.le_of_ble_eq_true rfl) (Nat.le_refl _) (Nat.le_refl _) ?_
    first | exact Or.inl ⟨by grind, rfl⟩ | exact Or.inr (⟨by grind, rfl⟩)
  · rw [b2_n] at c1
    refine xr_iload_n D_Dv_begin_7 rfl rfl ?_
    refine xr_cSx (as := [_]) (c_Dv_isByte) (L_Dv_66) (CD_Dv_isByte) D_Dv_begin_8 rfl (by decide) (Nat.le_of_ble_eq_true rfl) (Nat.le_of_eq (Nat.zero_add _)) (Nat.le_of_eq (Nat.zero_add _)) pic_len ?_
    rintro _ rfl
    refine ⟨_, _, rfl, rfl, ?_⟩
    refine xr_if_ne (tgt := 24) D_Dv_begin_11 rfl (fun c2 => ?_) (fun c2 => ?_)
    · rw [b2_n] at c2
      refine xr_aload_n D_Dv_begin_24 rfl rfl ?_
      refine xr_getf F_Dv_39 D_Dv_begin_25 rfl rfl ?_
      refine xr_iload_n D_Dv_begin_28 rfl rfl ?_
      refine xr_iload_n D_Dv_begin_29 rfl rfl ?_
      refine xr_cVv (as := [_, _]) (c_Wr_restart_13 h01 h03 hm hT) (L_Dv_107) (CD_Wr_restart) CI_Wr D_Dv_begin_30 rfl rfl (by decide) (Nat.le_of_ble_eq_true rfl) (Nat.le_of_eq (Nat.zero_add _)) (Nat.le_of_eq (Nat.zero_add _)) pic_len ?_
      rintro _ rfl
      refine ⟨_, rfl, rfl, ?_⟩
      refine xr_aload_n D_Dv_begin_33 rfl rfl ?_
      refine xr_getf F_Dv_30 D_Dv_begin_34 rfl rfl ?_
      refine xr_cVv (as := []) (c_Sh_clear_11) (L_Dv_111) (CD_Sh_clear) CI_Sh D_Dv_begin_37 rfl rfl (by decide) (Nat.le_of_ble_eq_true rfl) (Nat.le_of_eq (Nat.zero_add _)) (Nat.le_of_eq (Nat.zero_add _)) pic_len ?_
      rintro _ rfl
      refine ⟨_, rfl, rfl, ?_⟩
      refine xr_vret rfl D_Dv_begin_40 ?_
      first | exact Or.inl ⟨by grind, rfl⟩ | exact Or.inr (⟨by grind, rfl⟩)
    · rw [b2_0] at c2
      refine xr_throwS (TH_74_105) rfl D_Dv_begin_14.1 D_Dv_begin_17.1 D_Dv_begin_18.1 D_Dv_begin_20.1 D_Dv_begin_23.1 (by decide) (by decide) (Nat.le_of_ble_eq_true rfl) (Nat.le_refl _) (Nat.le_refl _) ?_
      first | exact Or.inl ⟨by grind, rfl⟩ | exact Or.inr (⟨by grind, rfl⟩)

theorem c_By_become {I : mI} {A : mA} {L : mL} {B : List Int32} (hB : isB (I 1401) (A 15) B) : xm m_By_become (1, 60) [.ref 22, .ref 14] (pic I A L) 0 0 (fun o => ∃ A', o = (.inl none, pic (upd I 2201 (I 1401)) A' L) ∧ frA [23] A A' ∧ isB (I 1401) (A' 23) B) := by
  have h0 : 0 ≤ I 1401 := i_le.mpr (by rw [z0, hB.1]; omega)
  have h1 : I 1401 ≤ 70000 := i_le.mpr (by rw [z7, hB.1]; have := hB.2.1; omega)
  refine xm_of rfl (by decide) (Nat.le_of_ble_eq_true rfl) ?_
  refine xr_aload_n D_By_become_0 rfl rfl ?_
  refine xr_getf F_By_16 D_By_become_1 rfl rfl ?_
  refine xr_aload_n D_By_become_4 rfl rfl ?_
  refine xr_getf F_By_10 D_By_become_5 rfl rfl ?_
  refine xr_alen (v := 70000) D_By_become_8 rfl (by simp [xtok]) rfl ?_
  refine xr_mmin D_By_become_9 M_By_42 (by decide) (Nat.le_of_ble_eq_true rfl) ?_
  rw [if_neg (by grind)]
  refine xr_istore_n D_By_become_12 rfl (by decide) ?_
  refine xr_iload_n D_By_become_13 rfl rfl ?_
  refine xr_if_lt (tgt := 45) D_By_become_14 rfl (fun c1 => ?_) (fun c1 => ?_)
  · refine xr_vret rfl D_By_become_45 ?_
    first | exact ⟨_, rfl, frA_upf List.mem_cons_self, cp_B hB⟩ | (exfalso; grind)
  · refine xr_iload_n D_By_become_17 rfl rfl ?_
    refine xr_aload_n D_By_become_18 rfl rfl ?_
    refine xr_getf F_By_10 D_By_become_19 rfl rfl ?_
    refine xr_alen (v := 70000) D_By_become_22 rfl (by simp [xtok]) rfl ?_
    refine xr_icmp_gt (tgt := 45) D_By_become_23 rfl (fun c2 => ?_) (fun c2 => ?_)
    · refine xr_vret rfl D_By_become_45 ?_
      first | exact ⟨_, rfl, frA_upf List.mem_cons_self, cp_B hB⟩ | (exfalso; grind)
    · refine xr_aload_n D_By_become_26 rfl rfl ?_
      refine xr_getf F_By_10 D_By_become_27 rfl rfl ?_
      refine xr_iconst (v := 0) D_By_become_30 rfl ?_
      refine xr_aload_n D_By_become_31 rfl rfl ?_
      refine xr_getf F_By_10 D_By_become_32 rfl rfl ?_
      refine xr_iconst (v := 0) D_By_become_35 rfl ?_
      refine xr_iload_n D_By_become_36 rfl rfl ?_
      refine xr_copyi D_By_become_37 M_By_47 (by simp [xtok]) rfl rfl rfl (by decide) (by decide) (by grind) (cp_b h0 h1) (cp_b h0 h1) (cp_f hB) (by decide) (by decide) (Nat.le_of_ble_eq_true rfl) cset_23 ?_
      refine xr_aload_n D_By_become_40 rfl rfl ?_
      refine xr_iload_n D_By_become_41 rfl rfl ?_
      refine xr_putf F_By_16 FT_By FN_By_1 D_By_become_42 rfl (Nat.le_of_ble_eq_true rfl) rfl rfl (pset_22_1) ?_
      refine xr_vret rfl D_By_become_45 ?_
      first | exact ⟨_, rfl, frA_upf List.mem_cons_self, cp_B hB⟩ | (exfalso; grind)

theorem c_Dv_copy {I : mI} {A : mA} {L : mL} {B : List Int32} (hB : isB (I 1401) (A 15) B) : xm m_Dv_copy (2, 82) [.ref 0] (pic I A L) 0 0 (fun o => ∃ A', o = (.inl (some (.int (I 1401))), pic (upd I 2201 (I 1401)) A' L) ∧ frA [23] A A' ∧ isB (I 1401) (A' 23) B) := by
  refine xm_of rfl (by decide) (Nat.le_of_ble_eq_true rfl) ?_
  refine xr_aload_n D_Dv_copy_0 rfl rfl ?_
  refine xr_getf F_Dv_46 D_Dv_copy_1 rfl rfl ?_
  refine xr_aload_n D_Dv_copy_4 rfl rfl ?_
  refine xr_getf F_Dv_39 D_Dv_copy_5 rfl rfl ?_
  refine xr_cVx (as := []) (c_Wr_bytes_13) (L_Dv_167) (CD_Wr_bytes) CI_Wr D_Dv_copy_8 rfl rfl (by decide) (Nat.le_of_ble_eq_true rfl) (Nat.le_of_eq (Nat.zero_add _)) (Nat.le_of_eq (Nat.zero_add _)) pic_len ?_
  rintro _ rfl
  refine ⟨_, _, rfl, rfl, ?_⟩
  refine xr_cVv (as := [_]) (c_By_become hB) (L_Dv_190) (CD_By_become) CI_By D_Dv_copy_11 rfl rfl (by decide) (Nat.le_of_ble_eq_true rfl) (Nat.le_of_eq (Nat.zero_add _)) (Nat.le_of_eq (Nat.zero_add _)) pic_len ?_
  rintro _ ⟨A2, rfl, hA2, hC2⟩
  refine ⟨_, rfl, rfl, ?_⟩
  refine xr_aload_n D_Dv_copy_14 rfl rfl ?_
  refine xr_getf F_Dv_46 D_Dv_copy_15 rfl rfl ?_
  refine xr_cVx (as := []) (c_By_length_22) (L_Dv_171) (CD_By_length) CI_By D_Dv_copy_18 rfl rfl (by decide) (Nat.le_of_ble_eq_true rfl) (Nat.le_of_eq (Nat.zero_add _)) (Nat.le_of_eq (Nat.zero_add _)) pic_len ?_
  rintro _ rfl
  refine ⟨_, _, rfl, rfl, ?_⟩
  refine xr_iret rfl D_Dv_copy_21 ?_
  exact ⟨_, rfl, hA2, hC2⟩

theorem l_Dv_feed {L : mL} {w : Int64} {n : Int32} : ∀ (k : Nat) (i : Int32) (I : mI) (A : mA) (B : List Int32), i.toInt = (k : Int) - 1 → k ≤ 8 → isB (I 2201) (A 23) B → xr m_Dv_feed none (1, 21) 32 [some (.ref 0), some (.long w), none, some (.int n), some (.int i)] [] (pic I A L) 0 0 (fun o => ∃ I' A', o = (.inl (some (.int 1)), pic I' A' L) ∧ frI [2201] I I' ∧ frA [23] A A' ∧ isB (I' 2201) (A' 23) (app B (fdB w k))) := by
  intro k
  induction k with
  | zero =>
    intro i I A B hi hk hB
    refine xr_iload D_Dv_feed_32 rfl ?_
    refine xr_if_lt (tgt := 58) D_Dv_feed_34 rfl (fun c1 => ?_) (fun c1 => ?_)
    · refine xr_iconst (v := 1) D_Dv_feed_58 rfl ?_
      refine xr_zret rfl (by first | rfl | exact nar_b2 | exact nar_z hz) D_Dv_feed_59 ?_
      exact ⟨I, A, rfl, frI_rf, frA_rf, by rw [show fdB w 0 = [] from rfl, app_nil hB.2.1]; exact hB⟩
    · exact absurd (i_lt.mpr (by rw [hi, z0]; decide)) c1
  | succ k ih =>
    intro i I A B hi hk hB
    have ei : i = Int32.ofNat k := i_eq.mpr (by rw [i_of (by omega)]; omega)
    subst ei
    refine xr_iload D_Dv_feed_32 rfl ?_
    refine xr_if_lt (tgt := 58) D_Dv_feed_34 rfl (fun c1 => ?_) (fun c1 => ?_)
    · exact absurd c1 (fun q => by rw [i_lt, hi, z0] at q; omega)
    · refine xr_aload_n D_Dv_feed_37 rfl rfl ?_
      refine xr_getf F_Dv_46 D_Dv_feed_38 rfl rfl ?_
      refine xr_lload_n D_Dv_feed_41 rfl rfl ?_
      refine xr_bipush (v := 8) D_Dv_feed_42 rfl ?_
      refine xr_iload D_Dv_feed_44 rfl ?_
      refine xr_imul D_Dv_feed_46 ?_
      refine xr_lushr D_Dv_feed_47 ?_
      refine xr_l2i D_Dv_feed_48 ?_
      refine xr_cVv (as := [_]) (c_By_add_22 hB) (L_Dv_184) (CD_By_add) CI_By D_Dv_feed_49 rfl rfl (by decide) (Nat.le_of_ble_eq_true rfl) (Nat.le_of_eq (Nat.zero_add _)) (Nat.le_of_eq (Nat.zero_add _)) pic_len ?_
      rintro _ ⟨I1, A1, rfl, hI1, hA1, hB1⟩
      refine ⟨_, rfl, rfl, ?_⟩
      refine xr_iinc (c9 := (-1)) D_Dv_feed_52 rfl rfl (by decide) ?_
      refine xr_goto (tgt := 32) D_Dv_feed_55 rfl ?_
      refine xr_mono (ih _ I1 A1 _ ?_ (by omega) hB1) ?_
      · rw [i_add (by rw [zm1, i_of (by omega)]; omega) (by rw [zm1, i_of (by omega)]; omega), zm1, i_of (by omega)]; omega
      · rintro _ ⟨I2, A2, rfl, k1, k2, k3⟩
        rw [app_app] at k3
        exact ⟨I2, A2, rfl, frI_tr hI1 k1 (fun _ h => h) (fun _ h => h), frA_tr hA1 k2 (fun _ h => h) (fun _ h => h), k3⟩

theorem c_Dv_feed {I : mI} {A : mA} {L : mL} {B : List Int32} {w : Int64} {n : Int32} (hB : isB (I 2201) (A 23) B) : xm m_Dv_feed (1, 21) [.ref 0, .long w, .int n] (pic I A L) 0 0 (fun o => (¬ (1 ≤ n ∧ n ≤ 8 ∧ n ≤ 70000 - I 2201) ∧ o = (.inl (some (.int 0)), pic I A L)) ∨ ((1 ≤ n ∧ n ≤ 8 ∧ n ≤ 70000 - I 2201) ∧ ∃ I' A', o = (.inl (some (.int 1)), pic I' A' L) ∧ frI [2201] I I' ∧ frA [23] A A' ∧ isB (I' 2201) (A' 23) (app B (fdB w n.toInt.toNat)))) := by
  refine xm_of rfl (by decide) (Nat.le_of_ble_eq_true rfl) ?_
  refine xr_iload_n D_Dv_feed_0 rfl rfl ?_
  refine xr_iconst (v := 1) D_Dv_feed_1 rfl ?_
  refine xr_icmp_lt (tgt := 25) D_Dv_feed_2 rfl (fun c1 => ?_) (fun c1 => ?_)
  · refine xr_iconst (v := 0) D_Dv_feed_25 rfl ?_
    refine xr_zret rfl (by first | rfl | exact nar_b2 | exact nar_z hz) D_Dv_feed_26 ?_
    exact Or.inl ⟨by grind, rfl⟩
  · refine xr_iload_n D_Dv_feed_5 rfl rfl ?_
    refine xr_bipush (v := 8) D_Dv_feed_6 rfl ?_
    refine xr_icmp_gt (tgt := 25) D_Dv_feed_8 rfl (fun c2 => ?_) (fun c2 => ?_)
    · refine xr_iconst (v := 0) D_Dv_feed_25 rfl ?_
      refine xr_zret rfl (by first | rfl | exact nar_b2 | exact nar_z hz) D_Dv_feed_26 ?_
      exact Or.inl ⟨by grind, rfl⟩
    · refine xr_iload_n D_Dv_feed_11 rfl rfl ?_
      refine xr_ldc (v := 70000) D_Dv_feed_12 K_Dv_183 ?_
      refine xr_aload_n D_Dv_feed_14 rfl rfl ?_
      refine xr_getf F_Dv_46 D_Dv_feed_15 rfl rfl ?_
      refine xr_cVx (as := []) (c_By_length_22) (L_Dv_171) (CD_By_length) CI_By D_Dv_feed_18 rfl rfl (by decide) (Nat.le_of_ble_eq_true rfl) (Nat.le_of_eq (Nat.zero_add _)) (Nat.le_of_eq (Nat.zero_add _)) pic_len ?_
      rintro _ rfl
      refine ⟨_, _, rfl, rfl, ?_⟩
      refine xr_isub D_Dv_feed_21 ?_
      refine xr_icmp_le (tgt := 27) D_Dv_feed_22 rfl (fun c3 => ?_) (fun c3 => ?_)
      · refine xr_iload_n D_Dv_feed_27 rfl rfl ?_
        refine xr_iconst (v := 1) D_Dv_feed_28 rfl ?_
        refine xr_isub D_Dv_feed_29 ?_
        refine xr_istore D_Dv_feed_30 (by decide) ?_
        have g1 := i_le.mp (show (1 : Int32) ≤ n by grind)
        have g2 := i_le.mp (show n ≤ (8 : Int32) by grind)
        have e8 : (8 : Int32).toInt = 8 := rfl
        rw [z1] at g1
        refine xr_mono (l_Dv_feed n.toInt.toNat _ I A B ?_ (by omega) hB) ?_
        · rw [i_sub (by rw [z1]; omega) (by rw [z1]; omega), z1]; omega
        · exact fun o ho => Or.inr ⟨by grind, ho⟩
      · refine xr_iconst (v := 0) D_Dv_feed_25 rfl ?_
        refine xr_zret rfl (by first | rfl | exact nar_b2 | exact nar_z hz) D_Dv_feed_26 ?_
        exact Or.inl ⟨by grind, rfl⟩
