theorem cmp_lt {x y : Int64} : lg_cmp x y < 0 ↔ x.toInt < y.toInt := by
  have h := lg_cmp_ge x y
  rw [Int64.le_iff_toInt_le] at h
  constructor
  · intro q
    apply Int.not_le.mp
    intro z
    have := h.mpr z
    grind
  · intro q
    have : ¬ 0 ≤ lg_cmp x y := fun z => by have := h.mp z; omega
    grind
theorem cmp_gt {x y : Int64} : 0 < lg_cmp x y ↔ y.toInt < x.toInt := by
  unfold lg_cmp
  simp only [gt_iff_lt, Int64.lt_iff_toInt_lt, ← Int64.toInt_inj]
  by_cases h1 : y.toInt < x.toInt
  · rw [if_pos h1]
    exact ⟨fun _ => h1, fun _ => by decide⟩
  · rw [if_neg h1]
    refine ⟨fun q => ?_, fun q => absurd q h1⟩
    split at q <;> exact absurd q (by decide)
def letM (a b : Int64) (k : Int32) : Int32 := ((if k < 8 then a >>> ((8 * k).toInt64 &&& 63) else b >>> ((8 * (k - 8)).toInt64 &&& 63)) &&& 255).toInt32
def mbF (c : Int32) : Int32 := if c < 147 then c - 142 else if c < 152 then c - 147 else if c < 157 then c - 152 else if c < 161 then c - 156 else if c < 166 then c - 161 else c - 166
def gmt (f : Nat → Int32) (p : Int32) : Int32 := f p.toNatClampNeg &&& 255
def isO (u : Int32) (f : Nat → Int32) (B : List Int32) : Prop := u.toInt = B.length ∧ B.length ≤ 131072 ∧ ∀ (i : Nat) (b : Int32), B[i]? = some b → f i &&& 255 = b ∧ -128 ≤ f i ∧ f i ≤ 127
theorem isO_add {u : Int32} {f : Nat → Int32} {B : List Int32} (h : isO u f B) (hl : B.length < 131072) (x : Int32) : isO (u + 1) (upd f u.toNatClampNeg (vp_nar .byte x.toInt8.toInt32)) (B ++ [x &&& 255]) := by
  obtain ⟨h1, h2, h3⟩ := h
  rw [show vp_nar .byte x.toInt8.toInt32 = byt x from nar_b x]
  refine ⟨?_, by simp; omega, fun i b hb => ?_⟩
  · rw [i_add (by rw [z1]; omega) (by rw [z1]; omega), z1, h1]; simp
  · by_cases hi : i = B.length
    · have e3 : u.toNatClampNeg = i := by rw [i_cl, h1, hi]; omega
      rw [e3]
      simp only [upd_s]
      rw [hi] at hb
      simp at hb
      exact ⟨by rw [byt_m, hb], byt_r x⟩
    · have hlt : i < B.length := by
        have := (List.getElem?_eq_some_iff.mp hb).1
        simp at this
        omega
      have e3 : i ≠ u.toNatClampNeg := by rw [i_cl, h1]; omega
      simp only [upd_n e3]
      rw [List.getElem?_append_left hlt] at hb
      exact h3 i b hb
theorem upA_self {A : mA} {k i : Nat} {x : Int32} {g : Nat → Int32} : upA (upAf A k g) k i x = upAf A k (upd g i x) := by
  funext j
  simp only [upA, upAf]
  by_cases h : j = k <;> simp [h]
def pO (I : mI) (A : mA) (L : mL) (B : List Int32) : xO → Prop := fun o => ∃ u g, o = (.inl none, pic (upd I 3409 u) (upAf A 43 g) L) ∧ isO u g B
theorem pO_app {I : mI} {A : mA} {L : mL} {B xs ys : List Int32} : ∀ o, pO I A L ((B ++ xs) ++ ys) o → pO I A L (B ++ (xs ++ ys)) o := by
  intro o ho
  rw [List.append_assoc] at ho
  exact ho

theorem c_Mo_among {h : List xC} {c : Int32} {f : Int32} : xm m_Mo_among (0, 0) [.int c, .int f] h 0 0 (fun o => o = (.inl (some (.int (c - f + 1))), h)) := by
  refine xm_of rfl (by decide) (Nat.le_of_ble_eq_true rfl) ?_
  refine xr_iload_n D_Mo_among_0 rfl rfl ?_
  refine xr_iload_n D_Mo_among_1 rfl rfl ?_
  refine xr_isub D_Mo_among_2 ?_
  refine xr_iconst (v := 1) D_Mo_among_3 rfl ?_
  refine xr_iadd D_Mo_among_4 ?_
  refine xr_iret rfl D_Mo_among_5 ?_
  exact rfl

theorem c_Mo_fault {h : List xC} {w : Int32} {p : Int32} : xm m_Mo_fault (0, 0) [.int w, .int p] h 0 0 (fun o => o = (.inl (some (.int (100000 * w + p))), h)) := by
  refine xm_of rfl (by decide) (Nat.le_of_ble_eq_true rfl) ?_
  refine xr_ldcw (v := 100000) D_Mo_fault_0 K_Mo_325 ?_
  refine xr_iload_n D_Mo_fault_3 rfl rfl ?_
  refine xr_imul D_Mo_fault_4 ?_
  refine xr_iload_n D_Mo_fault_5 rfl rfl ?_
  refine xr_iadd D_Mo_fault_6 ?_
  refine xr_iret rfl D_Mo_fault_7 ?_
  exact rfl

theorem c_Mo_bytesOf {h : List xC} {n : Int32} : xm m_Mo_bytesOf (0, 0) [.int n] h 0 0 (fun o => o = (.inl (some (.int (Int32.ofNat (bfN n)))), h)) := by
  refine xm_of rfl (by decide) (Nat.le_of_ble_eq_true rfl) ?_
  refine xr_iload_n D_Mo_bytesOf_0 rfl rfl ?_
  refine xr_bipush (v := (-128)) D_Mo_bytesOf_1 rfl ?_
  refine xr_icmp_lt (tgt := 17) D_Mo_bytesOf_3 rfl (fun c1 => ?_) (fun c1 => ?_)
  · refine xr_iload_n D_Mo_bytesOf_17 rfl rfl ?_
    refine xr_sipush (v := (-32768)) D_Mo_bytesOf_18 rfl ?_
    refine xr_icmp_lt (tgt := 34) D_Mo_bytesOf_21 rfl (fun c2 => ?_) (fun c2 => ?_)
    · refine xr_iload_n D_Mo_bytesOf_34 rfl rfl ?_
      refine xr_ldc (v := (-8388608)) D_Mo_bytesOf_35 K_Mo_163 ?_
      refine xr_icmp_lt (tgt := 50) D_Mo_bytesOf_37 rfl (fun c3 => ?_) (fun c3 => ?_)
      · refine xr_iconst (v := 4) D_Mo_bytesOf_50 rfl ?_
        refine xr_iret rfl D_Mo_bytesOf_51 ?_
        first | exact oi (bfN_1 (by grind)) | exact oi (bfN_2 (by grind) (by grind)) | exact oi (bfN_3 (by grind) (by grind) (by grind)) | exact oi (bfN_4 (by grind) (by grind) (by grind))
      · refine xr_iload_n D_Mo_bytesOf_40 rfl rfl ?_
        refine xr_ldc (v := 8388608) D_Mo_bytesOf_41 K_Mo_164 ?_
        refine xr_icmp_ge (tgt := 50) D_Mo_bytesOf_43 rfl (fun c4 => ?_) (fun c4 => ?_)
        · refine xr_iconst (v := 4) D_Mo_bytesOf_50 rfl ?_
          refine xr_iret rfl D_Mo_bytesOf_51 ?_
          first | exact oi (bfN_1 (by grind)) | exact oi (bfN_2 (by grind) (by grind)) | exact oi (bfN_3 (by grind) (by grind) (by grind)) | exact oi (bfN_4 (by grind) (by grind) (by grind))
        · refine xr_iconst (v := 3) D_Mo_bytesOf_46 rfl ?_
          refine xr_goto (tgt := 51) D_Mo_bytesOf_47 rfl ?_
          refine xr_iret rfl D_Mo_bytesOf_51 ?_
          first | exact oi (bfN_1 (by grind)) | exact oi (bfN_2 (by grind) (by grind)) | exact oi (bfN_3 (by grind) (by grind) (by grind)) | exact oi (bfN_4 (by grind) (by grind) (by grind))
    · refine xr_iload_n D_Mo_bytesOf_24 rfl rfl ?_
      refine xr_ldc (v := 32768) D_Mo_bytesOf_25 K_Mo_162 ?_
      refine xr_icmp_ge (tgt := 34) D_Mo_bytesOf_27 rfl (fun c3 => ?_) (fun c3 => ?_)
      · refine xr_iload_n D_Mo_bytesOf_34 rfl rfl ?_
        refine xr_ldc (v := (-8388608)) D_Mo_bytesOf_35 K_Mo_163 ?_
        refine xr_icmp_lt (tgt := 50) D_Mo_bytesOf_37 rfl (fun c4 => ?_) (fun c4 => ?_)
        · refine xr_iconst (v := 4) D_Mo_bytesOf_50 rfl ?_
          refine xr_iret rfl D_Mo_bytesOf_51 ?_
          first | exact oi (bfN_1 (by grind)) | exact oi (bfN_2 (by grind) (by grind)) | exact oi (bfN_3 (by grind) (by grind) (by grind)) | exact oi (bfN_4 (by grind) (by grind) (by grind))
        · refine xr_iload_n D_Mo_bytesOf_40 rfl rfl ?_
          refine xr_ldc (v := 8388608) D_Mo_bytesOf_41 K_Mo_164 ?_
          refine xr_icmp_ge (tgt := 50) D_Mo_bytesOf_43 rfl (fun c5 => ?_) (fun c5 => ?_)
          · refine xr_iconst (v := 4) D_Mo_bytesOf_50 rfl ?_
            refine xr_iret rfl D_Mo_bytesOf_51 ?_
            first | exact oi (bfN_1 (by grind)) | exact oi (bfN_2 (by grind) (by grind)) | exact oi (bfN_3 (by grind) (by grind) (by grind)) | exact oi (bfN_4 (by grind) (by grind) (by grind))
          · refine xr_iconst (v := 3) D_Mo_bytesOf_46 rfl ?_
            refine xr_goto (tgt := 51) D_Mo_bytesOf_47 rfl ?_
            refine xr_iret rfl D_Mo_bytesOf_51 ?_
            first | exact oi (bfN_1 (by grind)) | exact oi (bfN_2 (by grind) (by grind)) | exact oi (bfN_3 (by grind) (by grind) (by grind)) | exact oi (bfN_4 (by grind) (by grind) (by grind))
      · refine xr_iconst (v := 2) D_Mo_bytesOf_30 rfl ?_
        refine xr_goto (tgt := 51) D_Mo_bytesOf_31 rfl ?_
        refine xr_iret rfl D_Mo_bytesOf_51 ?_
        first | exact oi (bfN_1 (by grind)) | exact oi (bfN_2 (by grind) (by grind)) | exact oi (bfN_3 (by grind) (by grind) (by grind)) | exact oi (bfN_4 (by grind) (by grind) (by grind))
  · refine xr_iload_n D_Mo_bytesOf_6 rfl rfl ?_
    refine xr_sipush (v := 128) D_Mo_bytesOf_7 rfl ?_
    refine xr_icmp_ge (tgt := 17) D_Mo_bytesOf_10 rfl (fun c2 => ?_) (fun c2 => ?_)
    · refine xr_iload_n D_Mo_bytesOf_17 rfl rfl ?_
      refine xr_sipush (v := (-32768)) D_Mo_bytesOf_18 rfl ?_
      refine xr_icmp_lt (tgt := 34) D_Mo_bytesOf_21 rfl (fun c3 => ?_) (fun c3 => ?_)
      · refine xr_iload_n D_Mo_bytesOf_34 rfl rfl ?_
        refine xr_ldc (v := (-8388608)) D_Mo_bytesOf_35 K_Mo_163 ?_
        refine xr_icmp_lt (tgt := 50) D_Mo_bytesOf_37 rfl (fun c4 => ?_) (fun c4 => ?_)
        · refine xr_iconst (v := 4) D_Mo_bytesOf_50 rfl ?_
          refine xr_iret rfl D_Mo_bytesOf_51 ?_
          first | exact oi (bfN_1 (by grind)) | exact oi (bfN_2 (by grind) (by grind)) | exact oi (bfN_3 (by grind) (by grind) (by grind)) | exact oi (bfN_4 (by grind) (by grind) (by grind))
        · refine xr_iload_n D_Mo_bytesOf_40 rfl rfl ?_
          refine xr_ldc (v := 8388608) D_Mo_bytesOf_41 K_Mo_164 ?_
          refine xr_icmp_ge (tgt := 50) D_Mo_bytesOf_43 rfl (fun c5 => ?_) (fun c5 => ?_)
          · refine xr_iconst (v := 4) D_Mo_bytesOf_50 rfl ?_
            refine xr_iret rfl D_Mo_bytesOf_51 ?_
            first | exact oi (bfN_1 (by grind)) | exact oi (bfN_2 (by grind) (by grind)) | exact oi (bfN_3 (by grind) (by grind) (by grind)) | exact oi (bfN_4 (by grind) (by grind) (by grind))
          · refine xr_iconst (v := 3) D_Mo_bytesOf_46 rfl ?_
            refine xr_goto (tgt := 51) D_Mo_bytesOf_47 rfl ?_
            refine xr_iret rfl D_Mo_bytesOf_51 ?_
            first | exact oi (bfN_1 (by grind)) | exact oi (bfN_2 (by grind) (by grind)) | exact oi (bfN_3 (by grind) (by grind) (by grind)) | exact oi (bfN_4 (by grind) (by grind) (by grind))
      · refine xr_iload_n D_Mo_bytesOf_24 rfl rfl ?_
        refine xr_ldc (v := 32768) D_Mo_bytesOf_25 K_Mo_162 ?_
        refine xr_icmp_ge (tgt := 34) D_Mo_bytesOf_27 rfl (fun c4 => ?_) (fun c4 => ?_)
        · refine xr_iload_n D_Mo_bytesOf_34 rfl rfl ?_
          refine xr_ldc (v := (-8388608)) D_Mo_bytesOf_35 K_Mo_163 ?_
          refine xr_icmp_lt (tgt := 50) D_Mo_bytesOf_37 rfl (fun c5 => ?_) (fun c5 => ?_)
          · refine xr_iconst (v := 4) D_Mo_bytesOf_50 rfl ?_
            refine xr_iret rfl D_Mo_bytesOf_51 ?_
            first | exact oi (bfN_1 (by grind)) | exact oi (bfN_2 (by grind) (by grind)) | exact oi (bfN_3 (by grind) (by grind) (by grind)) | exact oi (bfN_4 (by grind) (by grind) (by grind))
          · refine xr_iload_n D_Mo_bytesOf_40 rfl rfl ?_
            refine xr_ldc (v := 8388608) D_Mo_bytesOf_41 K_Mo_164 ?_
            refine xr_icmp_ge (tgt := 50) D_Mo_bytesOf_43 rfl (fun c6 => ?_) (fun c6 => ?_)
            · refine xr_iconst (v := 4) D_Mo_bytesOf_50 rfl ?_
              refine xr_iret rfl D_Mo_bytesOf_51 ?_
              first | exact oi (bfN_1 (by grind)) | exact oi (bfN_2 (by grind) (by grind)) | exact oi (bfN_3 (by grind) (by grind) (by grind)) | exact oi (bfN_4 (by grind) (by grind) (by grind))
            · refine xr_iconst (v := 3) D_Mo_bytesOf_46 rfl ?_
              refine xr_goto (tgt := 51) D_Mo_bytesOf_47 rfl ?_
              refine xr_iret rfl D_Mo_bytesOf_51 ?_
              first | exact oi (bfN_1 (by grind)) | exact oi (bfN_2 (by grind) (by grind)) | exact oi (bfN_3 (by grind) (by grind) (by grind)) | exact oi (bfN_4 (by grind) (by grind) (by grind))
        · refine xr_iconst (v := 2) D_Mo_bytesOf_30 rfl ?_
          refine xr_goto (tgt := 51) D_Mo_bytesOf_31 rfl ?_
          refine xr_iret rfl D_Mo_bytesOf_51 ?_
          first | exact oi (bfN_1 (by grind)) | exact oi (bfN_2 (by grind) (by grind)) | exact oi (bfN_3 (by grind) (by grind) (by grind)) | exact oi (bfN_4 (by grind) (by grind) (by grind))
    · refine xr_iconst (v := 1) D_Mo_bytesOf_13 rfl ?_
      refine xr_goto (tgt := 51) D_Mo_bytesOf_14 rfl ?_
      refine xr_iret rfl D_Mo_bytesOf_51 ?_
      first | exact oi (bfN_1 (by grind)) | exact oi (bfN_2 (by grind) (by grind)) | exact oi (bfN_3 (by grind) (by grind) (by grind)) | exact oi (bfN_4 (by grind) (by grind) (by grind))

theorem c_Mo_moveBytes {h : List xC} {c : Int32} : xm m_Mo_moveBytes (0, 0) [.int c] h 0 0 (fun o => o = (.inl (some (.int (mbF c))), h)) := by
  refine xm_of rfl (by decide) (Nat.le_of_ble_eq_true rfl) ?_
  refine xr_iload_n D_Mo_moveBytes_0 rfl rfl ?_
  refine xr_sipush (v := 147) D_Mo_moveBytes_1 rfl ?_
  refine xr_icmp_ge (tgt := 13) D_Mo_moveBytes_4 rfl (fun c1 => ?_) (fun c1 => ?_)
  · refine xr_iload_n D_Mo_moveBytes_13 rfl rfl ?_
    refine xr_sipush (v := 157) D_Mo_moveBytes_14 rfl ?_
    refine xr_icmp_ge (tgt := 41) D_Mo_moveBytes_17 rfl (fun c2 => ?_) (fun c2 => ?_)
    · refine xr_iload_n D_Mo_moveBytes_41 rfl rfl ?_
      refine xr_sipush (v := 161) D_Mo_moveBytes_42 rfl ?_
      refine xr_icmp_ge (tgt := 54) D_Mo_moveBytes_45 rfl (fun c3 => ?_) (fun c3 => ?_)
      · refine xr_iload_n D_Mo_moveBytes_54 rfl rfl ?_
        refine xr_sipush (v := 166) D_Mo_moveBytes_55 rfl ?_
        refine xr_icmp_ge (tgt := 69) D_Mo_moveBytes_58 rfl (fun c4 => ?_) (fun c4 => ?_)
        · refine xr_iload_n D_Mo_moveBytes_69 rfl rfl ?_
          refine xr_sipush (v := 166) D_Mo_moveBytes_70 rfl ?_
          refine xr_isub D_Mo_moveBytes_73 ?_
          refine xr_iret rfl D_Mo_moveBytes_74 ?_
          exact oi (by unfold mbF; grind)
        · refine xr_iload_n D_Mo_moveBytes_61 rfl rfl ?_
          refine xr_sipush (v := 161) D_Mo_moveBytes_62 rfl ?_
          refine xr_isub D_Mo_moveBytes_65 ?_
          refine xr_goto (tgt := 74) D_Mo_moveBytes_66 rfl ?_
          refine xr_iret rfl D_Mo_moveBytes_74 ?_
          exact oi (by unfold mbF; grind)
      · refine xr_iload_n D_Mo_moveBytes_48 rfl rfl ?_
        refine xr_sipush (v := 156) D_Mo_moveBytes_49 rfl ?_
        refine xr_isub D_Mo_moveBytes_52 ?_
        refine xr_iret rfl D_Mo_moveBytes_53 ?_
        exact oi (by unfold mbF; grind)
    · refine xr_iload_n D_Mo_moveBytes_20 rfl rfl ?_
      refine xr_sipush (v := 152) D_Mo_moveBytes_21 rfl ?_
      refine xr_icmp_ge (tgt := 35) D_Mo_moveBytes_24 rfl (fun c3 => ?_) (fun c3 => ?_)
      · refine xr_iload_n D_Mo_moveBytes_35 rfl rfl ?_
        refine xr_sipush (v := 152) D_Mo_moveBytes_36 rfl ?_
        refine xr_isub D_Mo_moveBytes_39 ?_
        refine xr_iret rfl D_Mo_moveBytes_40 ?_
        exact oi (by unfold mbF; grind)
      · refine xr_iload_n D_Mo_moveBytes_27 rfl rfl ?_
        refine xr_sipush (v := 147) D_Mo_moveBytes_28 rfl ?_
        refine xr_isub D_Mo_moveBytes_31 ?_
        refine xr_goto (tgt := 40) D_Mo_moveBytes_32 rfl ?_
        refine xr_iret rfl D_Mo_moveBytes_40 ?_
        exact oi (by unfold mbF; grind)
  · refine xr_iload_n D_Mo_moveBytes_7 rfl rfl ?_
    refine xr_sipush (v := 142) D_Mo_moveBytes_8 rfl ?_
    refine xr_isub D_Mo_moveBytes_11 ?_
    refine xr_iret rfl D_Mo_moveBytes_12 ?_
    exact oi (by unfold mbF; grind)

theorem c_Mo_letter {h : List xC} {a : Int64} {b : Int64} {k : Int32} : xm m_Mo_letter (0, 0) [.long a, .long b, .int k] h 0 0 (fun o => o = (.inl (some (.int (letM a b k))), h)) := by
  refine xm_of rfl (by decide) (Nat.le_of_ble_eq_true rfl) ?_
  refine xr_iload D_Mo_letter_0 rfl ?_
  refine xr_bipush (v := 8) D_Mo_letter_2 rfl ?_
  refine xr_icmp_ge (tgt := 17) D_Mo_letter_4 rfl (fun c1 => ?_) (fun c1 => ?_)
  · refine xr_lload_n D_Mo_letter_17 rfl rfl ?_
    refine xr_bipush (v := 8) D_Mo_letter_18 rfl ?_
    refine xr_iload D_Mo_letter_20 rfl ?_
    refine xr_bipush (v := 8) D_Mo_letter_22 rfl ?_
    refine xr_isub D_Mo_letter_24 ?_
    refine xr_imul D_Mo_letter_25 ?_
    refine xr_lshr D_Mo_letter_26 ?_
    refine xr_ldc2 (v := 255) D_Mo_letter_27 K_Mo_103 ?_
    refine xr_land D_Mo_letter_30 ?_
    refine xr_l2i D_Mo_letter_31 ?_
    refine xr_iret rfl D_Mo_letter_32 ?_
    first | exact oi (by unfold letM; rw [if_pos (by grind)]) | exact oi (by unfold letM; rw [if_neg (by grind)])
  · refine xr_lload_n D_Mo_letter_7 rfl rfl ?_
    refine xr_bipush (v := 8) D_Mo_letter_8 rfl ?_
    refine xr_iload D_Mo_letter_10 rfl ?_
    refine xr_imul D_Mo_letter_12 ?_
    refine xr_lshr D_Mo_letter_13 ?_
    refine xr_goto (tgt := 27) D_Mo_letter_14 rfl ?_
    refine xr_ldc2 (v := 255) D_Mo_letter_27 K_Mo_103 ?_
    refine xr_land D_Mo_letter_30 ?_
    refine xr_l2i D_Mo_letter_31 ?_
    refine xr_iret rfl D_Mo_letter_32 ?_
    first | exact oi (by unfold letM; rw [if_pos (by grind)]) | exact oi (by unfold letM; rw [if_neg (by grind)])

theorem c_Mo_isInt {h : List xC} {n : Int64} : xm m_Mo_isInt (0, 0) [.long n] h 0 0 (fun o => o = (.inl (some (.int (b2 (fitL n)))), h)) := by
  have k1 : (-2147483648 : Int64).toInt = -2147483648 := rfl
  have k2 : (2147483647 : Int64).toInt = 2147483647 := rfl
  refine xm_of rfl (by decide) (Nat.le_of_ble_eq_true rfl) ?_
  refine xr_lload_n D_Mo_isInt_0 rfl rfl ?_
  refine xr_ldc2 (v := (-2147483648)) D_Mo_isInt_1 K_Mo_154 ?_
  refine xr_lcmp D_Mo_isInt_4 ?_
  refine xr_if_lt (tgt := 20) D_Mo_isInt_5 rfl (fun c1 => ?_) (fun c1 => ?_)
  · refine xr_iconst (v := 0) D_Mo_isInt_20 rfl ?_
    refine xr_zret rfl (by first | rfl | exact nar_b2 | exact nar_z hz) D_Mo_isInt_21 ?_
    first | exact ob_t ⟨by rw [cmp_lt, k1] at c1; omega, by rw [cmp_gt, k2] at c2; omega⟩ | exact ob_f (fun z => by rw [cmp_lt, k1] at c1; omega) | exact ob_f (fun z => by rw [cmp_gt, k2] at c2; omega)
  · refine xr_lload_n D_Mo_isInt_8 rfl rfl ?_
    refine xr_ldc2 (v := 2147483647) D_Mo_isInt_9 K_Mo_156 ?_
    refine xr_lcmp D_Mo_isInt_12 ?_
    refine xr_if_gt (tgt := 20) D_Mo_isInt_13 rfl (fun c2 => ?_) (fun c2 => ?_)
    · refine xr_iconst (v := 0) D_Mo_isInt_20 rfl ?_
      refine xr_zret rfl (by first | rfl | exact nar_b2 | exact nar_z hz) D_Mo_isInt_21 ?_
      first | exact ob_t ⟨by rw [cmp_lt, k1] at c1; omega, by rw [cmp_gt, k2] at c2; omega⟩ | exact ob_f (fun z => by rw [cmp_lt, k1] at c1; omega) | exact ob_f (fun z => by rw [cmp_gt, k2] at c2; omega)
    · refine xr_iconst (v := 1) D_Mo_isInt_16 rfl ?_
      refine xr_goto (tgt := 21) D_Mo_isInt_17 rfl ?_
      refine xr_zret rfl (by first | rfl | exact nar_b2 | exact nar_z hz) D_Mo_isInt_21 ?_
      first | exact ob_t ⟨by rw [cmp_lt, k1] at c1; omega, by rw [cmp_gt, k2] at c2; omega⟩ | exact ob_f (fun z => by rw [cmp_lt, k1] at c1; omega) | exact ob_f (fun z => by rw [cmp_gt, k2] at c2; omega)

theorem c_Mo_isFontTold_34 {I : mI} {A : mA} {L : mL} {c : Int32}  : xm m_Mo_isFontTold (0, 0) [.ref 34, .int c] (pic I A L) 0 0 (fun o => o = (.inl (some (.int (b2 (242 < c ∧ c < 247)))), (pic I A L))) := by
  refine xm_of rfl (by decide) (Nat.le_of_ble_eq_true rfl) ?_
  refine xr_iload_n D_Mo_isFontTold_0 rfl rfl ?_
  refine xr_sipush (v := 242) D_Mo_isFontTold_1 rfl ?_
  refine xr_icmp_le (tgt := 18) D_Mo_isFontTold_4 rfl (fun c1 => ?_) (fun c1 => ?_)
  · refine xr_iconst (v := 0) D_Mo_isFontTold_18 rfl ?_
    refine xr_zret rfl (by first | rfl | exact nar_b2 | exact nar_z hz) D_Mo_isFontTold_19 ?_
    first | exact ob_t (by grind) | exact ob_f (by grind)
  · refine xr_iload_n D_Mo_isFontTold_7 rfl rfl ?_
    refine xr_sipush (v := 247) D_Mo_isFontTold_8 rfl ?_
    refine xr_icmp_ge (tgt := 18) D_Mo_isFontTold_11 rfl (fun c2 => ?_) (fun c2 => ?_)
    · refine xr_iconst (v := 0) D_Mo_isFontTold_18 rfl ?_
      refine xr_zret rfl (by first | rfl | exact nar_b2 | exact nar_z hz) D_Mo_isFontTold_19 ?_
      first | exact ob_t (by grind) | exact ob_f (by grind)
    · refine xr_iconst (v := 1) D_Mo_isFontTold_14 rfl ?_
      refine xr_goto (tgt := 19) D_Mo_isFontTold_15 rfl ?_
      refine xr_zret rfl (by first | rfl | exact nar_b2 | exact nar_z hz) D_Mo_isFontTold_19 ?_
      first | exact ob_t (by grind) | exact ob_f (by grind)

theorem c_Mo_byteAt_34 {I : mI} {A : mA} {L : mL} {p : Int32} (h0 : 0 ≤ p) (h1 : p < 70000) : xm m_Mo_byteAt (0, 0) [.ref 34, .int p] (pic I A L) 0 0 (fun o => o = (.inl (some (.int (gmt (A 54) p))), (pic I A L))) := by
  refine xm_of rfl (by decide) (Nat.le_of_ble_eq_true rfl) ?_
  refine xr_aload_n D_Mo_byteAt_0 rfl rfl ?_
  refine xr_getf F_Mo_76 D_Mo_byteAt_1 rfl rfl ?_
  refine xr_iload_n D_Mo_byteAt_4 rfl rfl ?_
  refine xr_bald D_Mo_byteAt_5 rfl (by exact i_in2 70000 (by grind) (by grind) rfl) ?_
  refine xr_sipush (v := 255) D_Mo_byteAt_6 rfl ?_
  refine xr_iand D_Mo_byteAt_9 ?_
  refine xr_iret rfl D_Mo_byteAt_10 ?_
  exact rfl

theorem l_Mo_number {I : mI} {A : mA} {L : mL} {p w sg : Int32} {k : Nat} (hw : w.toInt = (k : Int)) (hk0 : 1 ≤ k) (hk : k ≤ 4) (h0 : 0 ≤ p) (h1 : p.toInt + k ≤ 70000) : ∀ (t j : Nat), j + t = k → xr m_Mo_number none (1, 21) 6 [some (.ref 34), some (.int p), some (.int w), some (.int sg), some (.int (nrd (gmt (A 54)) p j)), some (.int (Int32.ofNat j))] [] (pic I A L) 0 0 (fun o => o = (.inl (some (.int (if (¬ sg = 0 ∧ w < 4 ∧ 127 < gmt (A 54) p) then nrd (gmt (A 54)) p k - (1 <<< ((8 * w) &&& 31)) else nrd (gmt (A 54)) p k))), pic I A L)) := by
  have hp := i_le.mp h0
  rw [z0] at hp
  have h7 : p < 70000 := i_lt.mpr (by rw [z7]; omega)
  intro t
  induction t with
  | zero =>
    intro j hj
    have hj : j = k := by omega
    subst hj
    refine xr_iload D_Mo_number_6 rfl ?_
    refine xr_iload_n D_Mo_number_8 rfl rfl ?_
    refine xr_icmp_ge (tgt := 34) D_Mo_number_9 rfl (fun c1 => ?_) (fun c1 => ?_)
    · refine xr_iload_n D_Mo_number_34 rfl rfl ?_
      refine xr_if_eq (tgt := 57) D_Mo_number_35 rfl (fun c2 => ?_) (fun c2 => ?_)
      · refine xr_iconst (v := 0) D_Mo_number_57 rfl ?_
        refine xr_istore D_Mo_number_58 (by decide) ?_
        refine xr_iload D_Mo_number_60 rfl ?_
        refine xr_if_eq (tgt := 77) D_Mo_number_62 rfl (fun c3 => ?_) (fun c3 => ?_)
        · refine xr_iload D_Mo_number_77 rfl ?_
          refine xr_iret rfl D_Mo_number_79 ?_
          first | exact oi (if_pos (by grind)).symm | exact oi (if_neg (by grind)).symm
        · exact absurd (show (0 : Int32) = (0 : Int32) by decide) c3
      · refine xr_iload_n D_Mo_number_38 rfl rfl ?_
        refine xr_iconst (v := 4) D_Mo_number_39 rfl ?_
        refine xr_icmp_ge (tgt := 57) D_Mo_number_40 rfl (fun c3 => ?_) (fun c3 => ?_)
        · refine xr_iconst (v := 0) D_Mo_number_57 rfl ?_
          refine xr_istore D_Mo_number_58 (by decide) ?_
          refine xr_iload D_Mo_number_60 rfl ?_
          refine xr_if_eq (tgt := 77) D_Mo_number_62 rfl (fun c4 => ?_) (fun c4 => ?_)
          · refine xr_iload D_Mo_number_77 rfl ?_
            refine xr_iret rfl D_Mo_number_79 ?_
            first | exact oi (if_pos (by grind)).symm | exact oi (if_neg (by grind)).symm
          · exact absurd (show (0 : Int32) = (0 : Int32) by decide) c4
        · refine xr_aload_n D_Mo_number_43 rfl rfl ?_
          refine xr_iload_n D_Mo_number_44 rfl rfl ?_
          refine xr_cVx (as := [_]) (c_Mo_byteAt_34 (by grind) (by grind)) (L_Mo_200) (CD_Mo_byteAt) CI_Mo D_Mo_number_45 rfl rfl (by decide) (Nat.le_of_ble_eq_true rfl) (Nat.le_of_eq (Nat.zero_add _)) (Nat.le_of_eq (Nat.zero_add _)) pic_len ?_
          rintro _ rfl
          refine ⟨_, _, rfl, rfl, ?_⟩
          refine xr_bipush (v := 127) D_Mo_number_48 rfl ?_
          refine xr_icmp_le (tgt := 57) D_Mo_number_50 rfl (fun c4 => ?_) (fun c4 => ?_)
          · refine xr_iconst (v := 0) D_Mo_number_57 rfl ?_
            refine xr_istore D_Mo_number_58 (by decide) ?_
            refine xr_iload D_Mo_number_60 rfl ?_
            refine xr_if_eq (tgt := 77) D_Mo_number_62 rfl (fun c5 => ?_) (fun c5 => ?_)
            · refine xr_iload D_Mo_number_77 rfl ?_
              refine xr_iret rfl D_Mo_number_79 ?_
              first | exact oi (if_pos (by grind)).symm | exact oi (if_neg (by grind)).symm
            · exact absurd (show (0 : Int32) = (0 : Int32) by decide) c5
          · refine xr_iconst (v := 1) D_Mo_number_53 rfl ?_
            refine xr_goto (tgt := 58) D_Mo_number_54 rfl ?_
            refine xr_istore D_Mo_number_58 (by decide) ?_
            refine xr_iload D_Mo_number_60 rfl ?_
            refine xr_if_eq (tgt := 77) D_Mo_number_62 rfl (fun c5 => ?_) (fun c5 => ?_)
            · exact absurd (show (1 : Int32) = (0 : Int32) from c5) (by decide)
            · refine xr_iload D_Mo_number_65 rfl ?_
              refine xr_iconst (v := 1) D_Mo_number_67 rfl ?_
              refine xr_bipush (v := 8) D_Mo_number_68 rfl ?_
              refine xr_iload_n D_Mo_number_70 rfl rfl ?_
              refine xr_imul D_Mo_number_71 ?_
              refine xr_ishl D_Mo_number_72 ?_
              refine xr_isub D_Mo_number_73 ?_
              refine xr_goto (tgt := 79) D_Mo_number_74 rfl ?_
              refine xr_iret rfl D_Mo_number_79 ?_
              first | exact oi (if_pos (by grind)).symm | exact oi (if_neg (by grind)).symm
    · exact absurd (i_le.mpr (by rw [hw, i_of (by omega)]; omega)) c1
  | succ t ih =>
    intro j hj
    have hpj : (p + Int32.ofNat j).toInt = p.toInt + j := by rw [i_add (by rw [i_of (by omega)]; omega) (by rw [i_of (by omega)]; omega), i_of (by omega)]
    have q0 : 0 ≤ p + Int32.ofNat j := i_le.mpr (by rw [hpj, z0]; omega)
    have q1 : p + Int32.ofNat j < 70000 := i_lt.mpr (by rw [hpj, z7]; omega)
    refine xr_iload D_Mo_number_6 rfl ?_
    refine xr_iload_n D_Mo_number_8 rfl rfl ?_
    refine xr_icmp_ge (tgt := 34) D_Mo_number_9 rfl (fun c1 => ?_) (fun c1 => ?_)
    · exact absurd c1 (fun q => by rw [i_le, hw, i_of (by omega)] at q; omega)
    · refine xr_iload D_Mo_number_12 rfl ?_
      refine xr_bipush (v := 8) D_Mo_number_14 rfl ?_
      refine xr_ishl D_Mo_number_16 ?_
      refine xr_aload_n D_Mo_number_17 rfl rfl ?_
      refine xr_iload_n D_Mo_number_18 rfl rfl ?_
      refine xr_iload D_Mo_number_19 rfl ?_
      refine xr_iadd D_Mo_number_21 ?_
      refine xr_cVx (as := [_]) (c_Mo_byteAt_34 (by grind) (by grind)) (L_Mo_200) (CD_Mo_byteAt) CI_Mo D_Mo_number_22 rfl rfl (by decide) (Nat.le_of_ble_eq_true rfl) (Nat.le_of_eq (Nat.zero_add _)) (Nat.le_of_eq (Nat.zero_add _)) pic_len ?_
      rintro _ rfl
      refine ⟨_, _, rfl, rfl, ?_⟩
      refine xr_ior D_Mo_number_25 ?_
      refine xr_istore D_Mo_number_26 (by decide) ?_
      refine xr_iinc (c9 := 1) D_Mo_number_28 rfl rfl (by decide) ?_
      refine xr_goto (tgt := 6) D_Mo_number_31 rfl ?_
      rw [io_succ]
      exact ih (j + 1) (by omega)

theorem c_Mo_number_34 {I : mI} {A : mA} {L : mL} {p w sg : Int32} (k : Nat) (hw : w.toInt = (k : Int)) (hk0 : 1 ≤ k) (hk : k ≤ 4) (h0 : 0 ≤ p) (h1 : p.toInt + k ≤ 70000) : xm m_Mo_number (1, 21) [.ref 34, .int p, .int w, .int sg] (pic I A L) 0 0 (fun o => o = (.inl (some (.int (if (¬ sg = 0 ∧ w < 4 ∧ 127 < gmt (A 54) p) then nrd (gmt (A 54)) p k - (1 <<< ((8 * w) &&& 31)) else nrd (gmt (A 54)) p k))), pic I A L)) := by
  refine xm_of rfl (by decide) (Nat.le_of_ble_eq_true rfl) ?_
  refine xr_iconst (v := 0) D_Mo_number_0 rfl ?_
  refine xr_istore D_Mo_number_1 (by decide) ?_
  refine xr_iconst (v := 0) D_Mo_number_3 rfl ?_
  refine xr_istore D_Mo_number_4 (by decide) ?_
  exact l_Mo_number hw hk0 hk h0 h1 k 0 (by omega)

theorem w_Mo_lay {I : mI} {A : mA} {L : mL} {u : Int32} {g : Nat → Int32} {B : List Int32} {x : Int32} (hl : B.length < 131072) (hB : isO u g B) : xm m_Mo_lay (0, 0) [.ref 34, .int x] (pic (upd I 3409 u) (upAf A 43 g) L) 0 0 (pO I A L (B ++ [x &&& 255])) := by
  have g0 : 0 ≤ u := i_le.mpr (by rw [z0, hB.1]; omega)
  have g1 : u < 131072 := i_lt.mpr (by rw [hB.1, show (131072 : Int32).toInt = 131072 from rfl]; omega)
  refine xm_of rfl (by decide) (Nat.le_of_ble_eq_true rfl) ?_
  refine xr_aload_n D_Mo_lay_0 rfl rfl ?_
  refine xr_getf F_Mo_38 D_Mo_lay_1 rfl rfl ?_
  refine xr_aload_n D_Mo_lay_4 rfl rfl ?_
  refine xr_getf F_Mo_116 D_Mo_lay_5 rfl rfl ?_
  refine xr_iload_n D_Mo_lay_8 rfl rfl ?_
  refine xr_i2b D_Mo_lay_9 ?_
  refine xr_bast D_Mo_lay_10 rfl (by exact i_in2 131072 g0 g1 rfl) (aset_43) ?_
  refine xr_aload_n D_Mo_lay_11 rfl rfl ?_
  refine xr_dup D_Mo_lay_12 rfl ?_
  refine xr_getf F_Mo_116 D_Mo_lay_13 rfl rfl ?_
  refine xr_iconst (v := 1) D_Mo_lay_16 rfl ?_
  refine xr_iadd D_Mo_lay_17 ?_
  refine xr_putf F_Mo_116 FT_Mo FN_Mo_9 D_Mo_lay_18 rfl (Nat.le_of_ble_eq_true rfl) rfl rfl (pset_34_9) ?_
  refine xr_vret rfl D_Mo_lay_21 ?_
  exact ⟨u + 1, upd g u.toNatClampNeg (vp_nar .byte x.toInt8.toInt32), by rw [← upd_upd (x := u), ← upA_self]; rfl, isO_add hB hl x⟩

theorem l_Mo_layNumber {I : mI} {A : mA} {L : mL} {n w : Int32} : ∀ (k : Nat) (i : Int32) (u : Int32) (g : Nat → Int32) (B : List Int32), i.toInt = (k : Int) - 1 → k ≤ 4 → B.length + k ≤ 131072 → isO u g B → xr m_Mo_layNumber none (1, 21) 4 [some (.ref 34), some (.int n), some (.int w), some (.int i)] [] (pic (upd I 3409 u) (upAf A 43 g) L) 0 0 (pO I A L (B ++ numB n k)) := by
  intro k
  induction k with
  | zero =>
    intro i u g B hi hk hl hB
    refine xr_iload_n D_Mo_layNumber_4 rfl rfl ?_
    refine xr_if_lt (tgt := 24) D_Mo_layNumber_5 rfl (fun c1 => ?_) (fun c1 => ?_)
    · refine xr_vret rfl D_Mo_layNumber_24 ?_
      exact ⟨u, g, rfl, by rw [show numB n 0 = [] from rfl, List.append_nil]; exact hB⟩
    · exact absurd (i_lt.mpr (by rw [hi, z0]; decide)) c1
  | succ k ih =>
    intro i u g B hi hk hl9 hB
    have hl : B.length < 131072 := by omega
    have ei : i = Int32.ofNat k := i_eq.mpr (by rw [i_of (by omega)]; omega)
    subst ei
    refine xr_iload_n D_Mo_layNumber_4 rfl rfl ?_
    refine xr_if_lt (tgt := 24) D_Mo_layNumber_5 rfl (fun c1 => ?_) (fun c1 => ?_)
    · exact absurd c1 (fun q => by rw [i_lt, hi, z0] at q; omega)
    · refine xr_aload_n D_Mo_layNumber_8 rfl rfl ?_
      refine xr_iload_n D_Mo_layNumber_9 rfl rfl ?_
      refine xr_bipush (v := 8) D_Mo_layNumber_10 rfl ?_
      refine xr_iload_n D_Mo_layNumber_12 rfl rfl ?_
      refine xr_imul D_Mo_layNumber_13 ?_
      refine xr_ishr D_Mo_layNumber_14 ?_
      refine xr_cVv (as := [_]) (w_Mo_lay hl hB) (L_Mo_150) (CD_Mo_lay) CI_Mo D_Mo_layNumber_15 rfl rfl (by decide) (Nat.le_of_ble_eq_true rfl) (Nat.le_of_eq (Nat.zero_add _)) (Nat.le_of_eq (Nat.zero_add _)) pic_len ?_
      rintro _ ⟨u1, g1, rfl, hB1⟩
      refine ⟨_, rfl, rfl, ?_⟩
      refine xr_iinc (c9 := (-1)) D_Mo_layNumber_18 rfl rfl (by decide) ?_
      refine xr_goto (tgt := 4) D_Mo_layNumber_21 rfl ?_
      refine xr_mono (ih _ _ _ _ ?_ (by omega) (by simp; omega) hB1) pO_app
      rw [i_add (by rw [zm1, i_of (by omega)]; omega) (by rw [zm1, i_of (by omega)]; omega), zm1, i_of (by omega)]; omega

theorem w_Mo_layNumber {I : mI} {A : mA} {L : mL} {u : Int32} {g : Nat → Int32} {B : List Int32} {n w : Int32} (k : Nat) (hw : w.toInt = (k : Int)) (hk : k ≤ 4) (hl : B.length + k ≤ 131072) (hB : isO u g B) : xm m_Mo_layNumber (1, 21) [.ref 34, .int n, .int w] (pic (upd I 3409 u) (upAf A 43 g) L) 0 0 (pO I A L (B ++ numB n k)) := by
  refine xm_of rfl (by decide) (Nat.le_of_ble_eq_true rfl) ?_
  refine xr_iload_n D_Mo_layNumber_0 rfl rfl ?_
  refine xr_iconst (v := 1) D_Mo_layNumber_1 rfl ?_
  refine xr_isub D_Mo_layNumber_2 ?_
  refine xr_istore_n D_Mo_layNumber_3 rfl (by decide) ?_
  exact l_Mo_layNumber k _ u g B (by rw [i_sub (by rw [hw, z1]; omega) (by rw [hw, z1]; omega), hw, z1]) hk hl hB
