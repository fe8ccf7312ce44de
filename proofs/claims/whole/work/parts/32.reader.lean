theorem lk_df {ps : List (Int × Int)} {d k : Int} (h : ∀ q ∈ ps, ¬ k = q.1) : Op.lookupswitch.offset ps d k = d := by
  induction ps with
  | nil => rfl
  | cons q r ih =>
    obtain ⟨a, b⟩ := q
    show (if a = k then b else Op.lookupswitch.offset r d k) = d
    rw [if_neg (fun e => h (a, b) List.mem_cons_self e.symm)]
    exact ih (fun z hz => h z (List.mem_cons_of_mem _ hz))
theorem FAM_in : ("DviBytes$Reader", "FAMILIES", "[I", 1000001, 11, xfam) ∈ xsa := List.mem_cons_self
theorem xr_tald2 {M : xM} {sc : xSc} {d : Nat × Nat} {pc : Nat} {lo : xL} {st : List Value} {h : List xC} {rc rs : Nat} {Q : xO → Prop} {C n ds : String} {t N : Nat} {f : Nat → Int32} {i v : Int32} {q9 : Nat} (hd : xd M pc (.iaload) 1 q9) (hq : (C, n, ds, t, N, f) ∈ xsa) (hin : vp_in i N) (hv : f i.toNatClampNeg = v) (k : xr M sc d q9 lo (.int v :: st) h rc rs Q) : xr M sc d pc lo (.int i :: .ref t :: st) h rc rs Q := xr_tald hd hq hin (by rw [hv]; exact k)
theorem xr_iinc2 {M : xM} {sc : xSc} {d : Nat × Nat} {pc : Nat} {lo : xL} {st : List Value} {h : List xC} {rc rs : Nat} {Q : xO → Prop} {i : Nat} {n : Int} {x c9 v9 : Int32} {q9 : Nat} (hd : xd M pc (.iinc i n) 3 q9) (hc : Int32.ofInt n = c9) (hl0 : lo[i]? = some (some (.int x))) (hv : x + c9 = v9) (hn : i < M.2.2.1) (k : xr M sc d q9 (xst lo i (.int v9)) st h rc rs Q) : xr M sc d pc lo st h rc rs Q := xr_iinc hd hc hl0 hn (by rw [hv]; exact k)

theorem FAM_lk : Cond.fieldLink "DviBytes$Reader" 76 "DviBytes$Reader" "FAMILIES" "[I" ∈ xtb := xtb_at 438 (by decide +kernel) (by decide +kernel)
def nbR (c : Int32) : Nat → Nat → Int32
  | 0, _ => 0
  | t + 1, j => if xfam j ≤ c ∧ c < xfam j + 4 then c - xfam j + 1 else nbR c t (j + 1)
theorem nbR_s {c : Int32} {t j : Nat} : nbR c (t + 1) j = if xfam j ≤ c ∧ c < xfam j + 4 then c - xfam j + 1 else nbR c t (j + 1) := rfl
def nbF (c : Int32) : Int32 := nbR c 11 0
def fxF (c : Int32) : Int32 := if c = 132 ∨ c = 137 then 8 else if c = 139 then 44 else if c = 247 then 14 else if c = 248 then 28 else if c = 249 then 5 else if 243 ≤ c ∧ c ≤ 246 then 14 else 0
def txF (g : Int32 → Int32) (c nb : Int32) (k : Nat) (p : Int32) : Int32 := if 239 ≤ c ∧ c ≤ 242 then nrd g (p - nb) k else if 243 ≤ c ∧ c ≤ 246 then g (p - 2) + g (p - 1) else if c = 247 then g (p - 1) else 0
def bhF (g : Int32 → Int32) (len a c nb : Int32) (k : Nat) : Int32 :=
  if len - a - 1 < nb + fxF c then -1 else if txF g c nb k (a + 1 + (nb + fxF c)) < 0 ∨ len - a - 1 - (nb + fxF c) < txF g c nb k (a + 1 + (nb + fxF c)) then -1 else nb + fxF c + txF g c nb k (a + 1 + (nb + fxF c))
abbrev csF (g : Int32 → Int32) (s c a : Int32) : Prop := (s = 0 ∧ c = 247 ∧ g (a + 1) = 2) ∨ (s = 1 ∧ ((c = 138 ∨ 243 ≤ c ∧ c ≤ 246) ∨ c = 139 ∨ c = 248)) ∨ (s = 2 ∧ c < 247 ∧ ¬ c = 139) ∨ (s = 3 ∧ ((c = 138 ∨ 243 ≤ c ∧ c ≤ 246) ∨ c = 249 ∧ g (a + 5) = 2)) ∨ (s = 4 ∧ c = 223)

theorem l_Rd_bn {I : mI} {A : mA} {L : mL} {c : Int32} : ∀ (t j : Nat) (x2 : Option Value), j + t = 11 → xr m_Rd_bytesOfNumber none (0, 0) 2 [some (.int c), some (.int (Int32.ofNat j)), x2] [] (pic I A L) 0 0 (fun o => o = (.inl (some (.int (nbR c t j))), pic I A L)) := by
  have e11 : (11 : Int32).toInt = 11 := rfl
  intro t
  induction t with
  | zero =>
    intro j x2 hj
    refine xr_iload_n D_Rd_bytesOfNumber_2 rfl rfl ?_
    refine xr_getsA D_Rd_bytesOfNumber_3 FAM_in FAM_lk ?_
    refine xr_tlen (v := 11) D_Rd_bytesOfNumber_6 FAM_in rfl ?_
    refine xr_icmp_ge (tgt := 40) D_Rd_bytesOfNumber_7 rfl (fun c1 => ?_) (fun c1 => ?_)
    · refine xr_iconst (v := 0) D_Rd_bytesOfNumber_40 rfl ?_
      refine xr_iret rfl D_Rd_bytesOfNumber_41 ?_
      exact rfl
    · exact absurd (i_le.mpr (by rw [i_of (by omega)]; omega)) c1
  | succ t ih =>
    intro j x2 hj
    have ej : (Int32.ofNat j).toNatClampNeg = j := by rw [i_cl, i_of (by omega)]; omega
    refine xr_iload_n D_Rd_bytesOfNumber_2 rfl rfl ?_
    refine xr_getsA D_Rd_bytesOfNumber_3 FAM_in FAM_lk ?_
    refine xr_tlen (v := 11) D_Rd_bytesOfNumber_6 FAM_in rfl ?_
    refine xr_icmp_ge (tgt := 40) D_Rd_bytesOfNumber_7 rfl (fun c1 => ?_) (fun c1 => ?_)
    · exact absurd c1 (fun q => by rw [i_le, i_of (by omega)] at q; omega)
    · refine xr_getsA D_Rd_bytesOfNumber_10 FAM_in FAM_lk ?_
      refine xr_iload_n D_Rd_bytesOfNumber_13 rfl rfl ?_
      refine xr_tald2 (v := xfam j) D_Rd_bytesOfNumber_14 FAM_in (i_in (by rw [i_of (by omega)]; omega) (by rw [i_of (by omega)]; omega)) (by rw [ej]) ?_
      refine xr_istore_n D_Rd_bytesOfNumber_15 rfl (by decide) ?_
      refine xr_iload_n D_Rd_bytesOfNumber_16 rfl rfl ?_
      refine xr_iload_n D_Rd_bytesOfNumber_17 rfl rfl ?_
      refine xr_icmp_lt (tgt := 34) D_Rd_bytesOfNumber_18 rfl (fun c2 => ?_) (fun c2 => ?_)
      · refine xr_iinc (c9 := 1) D_Rd_bytesOfNumber_34 rfl rfl (by decide) ?_
        refine xr_goto (tgt := 2) D_Rd_bytesOfNumber_37 rfl ?_
        rw [io_succ]
        refine xr_mono (ih (j + 1) _ (by omega)) ?_
        rintro _ rfl
        exact oi (by rw [nbR_s, if_neg (by grind)])
      · refine xr_iload_n D_Rd_bytesOfNumber_21 rfl rfl ?_
        refine xr_iload_n D_Rd_bytesOfNumber_22 rfl rfl ?_
        refine xr_iconst (v := 4) D_Rd_bytesOfNumber_23 rfl ?_
        refine xr_iadd D_Rd_bytesOfNumber_24 ?_
        refine xr_icmp_ge (tgt := 34) D_Rd_bytesOfNumber_25 rfl (fun c3 => ?_) (fun c3 => ?_)
        · refine xr_iinc (c9 := 1) D_Rd_bytesOfNumber_34 rfl rfl (by decide) ?_
          refine xr_goto (tgt := 2) D_Rd_bytesOfNumber_37 rfl ?_
          rw [io_succ]
          refine xr_mono (ih (j + 1) _ (by omega)) ?_
          rintro _ rfl
          exact oi (by rw [nbR_s, if_neg (by grind)])
        · refine xr_iload_n D_Rd_bytesOfNumber_28 rfl rfl ?_
          refine xr_iload_n D_Rd_bytesOfNumber_29 rfl rfl ?_
          refine xr_isub D_Rd_bytesOfNumber_30 ?_
          refine xr_iconst (v := 1) D_Rd_bytesOfNumber_31 rfl ?_
          refine xr_iadd D_Rd_bytesOfNumber_32 ?_
          refine xr_iret rfl D_Rd_bytesOfNumber_33 ?_
          exact oi (by rw [nbR_s, if_pos (by grind)])

theorem c_Rd_bytesOfNumber {I : mI} {A : mA} {L : mL} {c : Int32} : xm m_Rd_bytesOfNumber (0, 0) [.int c] (pic I A L) 0 0 (fun o => o = (.inl (some (.int (nbF c))), pic I A L)) := by
  refine xm_of rfl (by decide) (Nat.le_of_ble_eq_true rfl) ?_
  refine xr_iconst (v := 0) D_Rd_bytesOfNumber_0 rfl ?_
  refine xr_istore_n D_Rd_bytesOfNumber_1 rfl (by decide) ?_
  exact l_Rd_bn 11 0 _ rfl

theorem c_Rd_isDefinition_31 {I : mI} {A : mA} {L : mL}   : xm m_Rd_isDefinition (0, 0) [.ref 31] (pic I A L) 0 0 (fun o => o = (.inl (some (.int (b2 (243 ≤ I 3108 ∧ I 3108 ≤ 246)))), (pic I A L))) := by
  refine xm_of rfl (by decide) (Nat.le_of_ble_eq_true rfl) ?_
  refine xr_aload_n D_Rd_isDefinition_0 rfl rfl ?_
  refine xr_getf F_Rd_57 D_Rd_isDefinition_1 rfl rfl ?_
  refine xr_sipush (v := 243) D_Rd_isDefinition_4 rfl ?_
  refine xr_icmp_lt (tgt := 24) D_Rd_isDefinition_7 rfl (fun c1 => ?_) (fun c1 => ?_)
  · refine xr_iconst (v := 0) D_Rd_isDefinition_24 rfl ?_
    refine xr_zret rfl (by first | rfl | exact nar_b2 | exact nar_z hz) D_Rd_isDefinition_25 ?_
    first | exact ob_t (by grind) | exact ob_f (by grind)
  · refine xr_aload_n D_Rd_isDefinition_10 rfl rfl ?_
    refine xr_getf F_Rd_57 D_Rd_isDefinition_11 rfl rfl ?_
    refine xr_sipush (v := 246) D_Rd_isDefinition_14 rfl ?_
    refine xr_icmp_gt (tgt := 24) D_Rd_isDefinition_17 rfl (fun c2 => ?_) (fun c2 => ?_)
    · refine xr_iconst (v := 0) D_Rd_isDefinition_24 rfl ?_
      refine xr_zret rfl (by first | rfl | exact nar_b2 | exact nar_z hz) D_Rd_isDefinition_25 ?_
      first | exact ob_t (by grind) | exact ob_f (by grind)
    · refine xr_iconst (v := 1) D_Rd_isDefinition_20 rfl ?_
      refine xr_goto (tgt := 25) D_Rd_isDefinition_21 rfl ?_
      refine xr_zret rfl (by first | rfl | exact nar_b2 | exact nar_z hz) D_Rd_isDefinition_25 ?_
      first | exact ob_t (by grind) | exact ob_f (by grind)

theorem c_Rd_place_31 {I : mI} {A : mA} {L : mL}   : xm m_Rd_place (0, 0) [.ref 31] (pic I A L) 0 0 (fun o => o = (.inl (some (.int (I 3107))), (pic I A L))) := by
  refine xm_of rfl (by decide) (Nat.le_of_ble_eq_true rfl) ?_
  refine xr_aload_n D_Rd_place_0 rfl rfl ?_
  refine xr_getf F_Rd_39 D_Rd_place_1 rfl rfl ?_
  refine xr_iret rfl D_Rd_place_4 ?_
  exact rfl

theorem c_Rd_restart_31 {I : mI} {A : mA} {L : mL}  (h29 : 0 ≤ I 2901) : xm m_Rd_restart (2, 41) [.ref 31] (pic I A L) 0 0 (fun o => o = (.inl none, pic (upd (upd (upd (upd (upd (upd (upd (upd (upd (upd (upd (upd I 2901 0) 2405 0) 2406 0) 2407 0) 2408 0) 2409 0) 2410 0) 2411 0) 3106 0) 3107 0) 3111 (-1)) 3113 0) A L)) := by
  refine xm_of rfl (by decide) (Nat.le_of_ble_eq_true rfl) ?_
  refine xr_aload_n D_Rd_restart_0 rfl rfl ?_
  refine xr_getf F_Rd_26 D_Rd_restart_1 rfl rfl ?_
  refine xr_cVv (as := []) (c_Rg_clear_24 h29) (L_Rd_30) (CD_Rg_clear) CI_Rg D_Rd_restart_4 rfl rfl (by decide) (Nat.le_of_ble_eq_true rfl) (Nat.le_of_eq (Nat.zero_add _)) (Nat.le_of_eq (Nat.zero_add _)) pic_len ?_
  rintro _ rfl
  refine ⟨_, rfl, rfl, ?_⟩
  refine xr_aload_n D_Rd_restart_7 rfl rfl ?_
  refine xr_iconst (v := 0) D_Rd_restart_8 rfl ?_
  refine xr_putf F_Rd_35 FT_Rd FN_Rd_6 D_Rd_restart_9 rfl (Nat.le_of_ble_eq_true rfl) rfl rfl (pset_31_6) ?_
  refine xr_aload_n D_Rd_restart_12 rfl rfl ?_
  refine xr_iconst (v := 0) D_Rd_restart_13 rfl ?_
  refine xr_putf F_Rd_39 FT_Rd FN_Rd_7 D_Rd_restart_14 rfl (Nat.le_of_ble_eq_true rfl) rfl rfl (pset_31_7) ?_
  refine xr_aload_n D_Rd_restart_17 rfl rfl ?_
  refine xr_iconst (v := (-1)) D_Rd_restart_18 rfl ?_
  refine xr_putf F_Rd_42 FT_Rd FN_Rd_11 D_Rd_restart_19 rfl (Nat.le_of_ble_eq_true rfl) rfl rfl (pset_31_11) ?_
  refine xr_aload_n D_Rd_restart_22 rfl rfl ?_
  refine xr_iconst (v := 0) D_Rd_restart_23 rfl ?_
  refine xr_putf F_Rd_45 FT_Rd FN_Rd_13 D_Rd_restart_24 rfl (Nat.le_of_ble_eq_true rfl) rfl rfl (pset_31_13) ?_
  refine xr_vret rfl D_Rd_restart_27 ?_
  exact rfl

theorem c_Rd_fixedBytes_31 {I : mI} {A : mA} {L : mL}   : xm m_Rd_fixedBytes (1, 20) [.ref 31] (pic I A L) 0 0 (fun o => o = (.inl (some (.int (fxF (I 3108)))), (pic I A L))) := by
  refine xm_of rfl (by decide) (Nat.le_of_ble_eq_true rfl) ?_
  refine xr_aload_n D_Rd_fixedBytes_0 rfl rfl ?_
  refine xr_getf F_Rd_57 D_Rd_fixedBytes_1 rfl rfl ?_
  by_cases t0 : I 3108 = 132
  · refine xr_lookup (tgt := 64) (off := 60) D_Rd_fixedBytes_4 (by decide) (by rw [t0]; rfl) rfl ?_
    refine xr_bipush (v := 8) D_Rd_fixedBytes_64 rfl ?_
    refine xr_iret rfl D_Rd_fixedBytes_66 ?_
    exact oi (by unfold fxF; grind)
  by_cases t1 : I 3108 = 137
  · refine xr_lookup (tgt := 64) (off := 60) D_Rd_fixedBytes_4 (by decide) (by rw [t1]; rfl) rfl ?_
    refine xr_bipush (v := 8) D_Rd_fixedBytes_64 rfl ?_
    refine xr_iret rfl D_Rd_fixedBytes_66 ?_
    exact oi (by unfold fxF; grind)
  by_cases t2 : I 3108 = 139
  · refine xr_lookup (tgt := 67) (off := 63) D_Rd_fixedBytes_4 (by decide) (by rw [t2]; rfl) rfl ?_
    refine xr_bipush (v := 44) D_Rd_fixedBytes_67 rfl ?_
    refine xr_iret rfl D_Rd_fixedBytes_69 ?_
    exact oi (by unfold fxF; grind)
  by_cases t3 : I 3108 = 247
  · refine xr_lookup (tgt := 70) (off := 66) D_Rd_fixedBytes_4 (by decide) (by rw [t3]; rfl) rfl ?_
    refine xr_bipush (v := 14) D_Rd_fixedBytes_70 rfl ?_
    refine xr_iret rfl D_Rd_fixedBytes_72 ?_
    exact oi (by unfold fxF; grind)
  by_cases t4 : I 3108 = 248
  · refine xr_lookup (tgt := 73) (off := 69) D_Rd_fixedBytes_4 (by decide) (by rw [t4]; rfl) rfl ?_
    refine xr_bipush (v := 28) D_Rd_fixedBytes_73 rfl ?_
    refine xr_iret rfl D_Rd_fixedBytes_75 ?_
    exact oi (by unfold fxF; grind)
  by_cases t5 : I 3108 = 249
  · refine xr_lookup (tgt := 76) (off := 72) D_Rd_fixedBytes_4 (by decide) (by rw [t5]; rfl) rfl ?_
    refine xr_iconst (v := 5) D_Rd_fixedBytes_76 rfl ?_
    refine xr_iret rfl D_Rd_fixedBytes_77 ?_
    exact oi (by unfold fxF; grind)
  refine xr_lookup (tgt := 78) (off := 74) D_Rd_fixedBytes_4 (by decide) (lk_df (by simp only [List.forall_mem_cons]; exact ⟨fun e => t0 (i_eq.mpr e), fun e => t1 (i_eq.mpr e), fun e => t2 (i_eq.mpr e), fun e => t3 (i_eq.mpr e), fun e => t4 (i_eq.mpr e), fun e => t5 (i_eq.mpr e), fun _ h => absurd h List.not_mem_nil⟩)) rfl ?_
  refine xr_aload_n D_Rd_fixedBytes_78 rfl rfl ?_
  refine xr_cVx (as := []) (c_Rd_isDefinition_31) (L_Rd_85) (CD_Rd_isDefinition) CI_Rd D_Rd_fixedBytes_79 rfl rfl (by decide) (Nat.le_of_ble_eq_true rfl) (Nat.le_of_eq (Nat.zero_add _)) (Nat.le_of_eq (Nat.zero_add _)) pic_len ?_
  rintro _ rfl
  refine ⟨_, _, rfl, rfl, ?_⟩
  refine xr_if_eq (tgt := 90) D_Rd_fixedBytes_82 rfl (fun c1 => ?_) (fun c1 => ?_)
  · rw [b2_0] at c1
    refine xr_iconst (v := 0) D_Rd_fixedBytes_90 rfl ?_
    refine xr_iret rfl D_Rd_fixedBytes_91 ?_
    exact oi (by unfold fxF; grind)
  · rw [b2_n] at c1
    refine xr_bipush (v := 14) D_Rd_fixedBytes_85 rfl ?_
    refine xr_goto (tgt := 91) D_Rd_fixedBytes_87 rfl ?_
    refine xr_iret rfl D_Rd_fixedBytes_91 ?_
    exact oi (by unfold fxF; grind)

theorem c_Rd_bytesOfText_31 {I : mI} {A : mA} {L : mL} {p : Int32} {k : Nat} (hw : (I 3109).toInt = (k : Int)) (hk : k ≤ 4) : xm m_Rd_bytesOfText (2, 45) [.ref 31, .int p] (pic I A L) 0 0 (fun o => o = (.inl (some (.int (txF (gat (I 2201) (A 23)) (I 3108) (I 3109) k p))), (pic I A L))) := by
  refine xm_of rfl (by decide) (Nat.le_of_ble_eq_true rfl) ?_
  refine xr_aload_n D_Rd_bytesOfText_0 rfl rfl ?_
  refine xr_getf F_Rd_57 D_Rd_bytesOfText_1 rfl rfl ?_
  refine xr_sipush (v := 239) D_Rd_bytesOfText_4 rfl ?_
  refine xr_icmp_lt (tgt := 38) D_Rd_bytesOfText_7 rfl (fun c1 => ?_) (fun c1 => ?_)
  · refine xr_aload_n D_Rd_bytesOfText_38 rfl rfl ?_
    refine xr_cVx (as := []) (c_Rd_isDefinition_31) (L_Rd_85) (CD_Rd_isDefinition) CI_Rd D_Rd_bytesOfText_39 rfl rfl (by decide) (Nat.le_of_ble_eq_true rfl) (Nat.le_of_eq (Nat.zero_add _)) (Nat.le_of_eq (Nat.zero_add _)) pic_len ?_
    rintro _ rfl
    refine ⟨_, _, rfl, rfl, ?_⟩
    refine xr_if_eq (tgt := 67) D_Rd_bytesOfText_42 rfl (fun c2 => ?_) (fun c2 => ?_)
    · rw [b2_0] at c2
      refine xr_aload_n D_Rd_bytesOfText_67 rfl rfl ?_
      refine xr_getf F_Rd_57 D_Rd_bytesOfText_68 rfl rfl ?_
      refine xr_sipush (v := 247) D_Rd_bytesOfText_71 rfl ?_
      refine xr_icmp_ne (tgt := 90) D_Rd_bytesOfText_74 rfl (fun c3 => ?_) (fun c3 => ?_)
      · refine xr_iconst (v := 0) D_Rd_bytesOfText_90 rfl ?_
        refine xr_iret rfl D_Rd_bytesOfText_91 ?_
        exact oi (by unfold txF; grind)
      · refine xr_aload_n D_Rd_bytesOfText_77 rfl rfl ?_
        refine xr_getf F_Rd_18 D_Rd_bytesOfText_78 rfl rfl ?_
        refine xr_iload_n D_Rd_bytesOfText_81 rfl rfl ?_
        refine xr_iconst (v := 1) D_Rd_bytesOfText_82 rfl ?_
        refine xr_isub D_Rd_bytesOfText_83 ?_
        refine xr_cVx (as := [_]) (c_By_at_22) (L_Rd_54) (CD_By_at) CI_By D_Rd_bytesOfText_84 rfl rfl (by decide) (Nat.le_of_ble_eq_true rfl) (Nat.le_of_eq (Nat.zero_add _)) (Nat.le_of_eq (Nat.zero_add _)) pic_len ?_
        rintro _ rfl
        refine ⟨_, _, rfl, rfl, ?_⟩
        refine xr_goto (tgt := 91) D_Rd_bytesOfText_87 rfl ?_
        refine xr_iret rfl D_Rd_bytesOfText_91 ?_
        exact oi (by unfold txF; grind)
    · rw [b2_n] at c2
      refine xr_aload_n D_Rd_bytesOfText_45 rfl rfl ?_
      refine xr_getf F_Rd_18 D_Rd_bytesOfText_46 rfl rfl ?_
      refine xr_iload_n D_Rd_bytesOfText_49 rfl rfl ?_
      refine xr_iconst (v := 2) D_Rd_bytesOfText_50 rfl ?_
      refine xr_isub D_Rd_bytesOfText_51 ?_
      refine xr_cVx (as := [_]) (c_By_at_22) (L_Rd_54) (CD_By_at) CI_By D_Rd_bytesOfText_52 rfl rfl (by decide) (Nat.le_of_ble_eq_true rfl) (Nat.le_of_eq (Nat.zero_add _)) (Nat.le_of_eq (Nat.zero_add _)) pic_len ?_
      rintro _ rfl
      refine ⟨_, _, rfl, rfl, ?_⟩
      refine xr_aload_n D_Rd_bytesOfText_55 rfl rfl ?_
      refine xr_getf F_Rd_18 D_Rd_bytesOfText_56 rfl rfl ?_
      refine xr_iload_n D_Rd_bytesOfText_59 rfl rfl ?_
      refine xr_iconst (v := 1) D_Rd_bytesOfText_60 rfl ?_
      refine xr_isub D_Rd_bytesOfText_61 ?_
      refine xr_cVx (as := [_]) (c_By_at_22) (L_Rd_54) (CD_By_at) CI_By D_Rd_bytesOfText_62 rfl rfl (by decide) (Nat.le_of_ble_eq_true rfl) (Nat.le_of_eq (Nat.zero_add _)) (Nat.le_of_eq (Nat.zero_add _)) pic_len ?_
      rintro _ rfl
      refine ⟨_, _, rfl, rfl, ?_⟩
      refine xr_iadd D_Rd_bytesOfText_65 ?_
      refine xr_iret rfl D_Rd_bytesOfText_66 ?_
      exact oi (by unfold txF; grind)
  · refine xr_aload_n D_Rd_bytesOfText_10 rfl rfl ?_
    refine xr_getf F_Rd_57 D_Rd_bytesOfText_11 rfl rfl ?_
    refine xr_sipush (v := 242) D_Rd_bytesOfText_14 rfl ?_
    refine xr_icmp_gt (tgt := 38) D_Rd_bytesOfText_17 rfl (fun c2 => ?_) (fun c2 => ?_)
    · refine xr_aload_n D_Rd_bytesOfText_38 rfl rfl ?_
      refine xr_cVx (as := []) (c_Rd_isDefinition_31) (L_Rd_85) (CD_Rd_isDefinition) CI_Rd D_Rd_bytesOfText_39 rfl rfl (by decide) (Nat.le_of_ble_eq_true rfl) (Nat.le_of_eq (Nat.zero_add _)) (Nat.le_of_eq (Nat.zero_add _)) pic_len ?_
      rintro _ rfl
      refine ⟨_, _, rfl, rfl, ?_⟩
      refine xr_if_eq (tgt := 67) D_Rd_bytesOfText_42 rfl (fun c3 => ?_) (fun c3 => ?_)
      · rw [b2_0] at c3
        refine xr_aload_n D_Rd_bytesOfText_67 rfl rfl ?_
        refine xr_getf F_Rd_57 D_Rd_bytesOfText_68 rfl rfl ?_
        refine xr_sipush (v := 247) D_Rd_bytesOfText_71 rfl ?_
        refine xr_icmp_ne (tgt := 90) D_Rd_bytesOfText_74 rfl (fun c4 => ?_) (fun c4 => ?_)
        · refine xr_iconst (v := 0) D_Rd_bytesOfText_90 rfl ?_
          refine xr_iret rfl D_Rd_bytesOfText_91 ?_
          exact oi (by unfold txF; grind)
        · refine xr_aload_n D_Rd_bytesOfText_77 rfl rfl ?_
          refine xr_getf F_Rd_18 D_Rd_bytesOfText_78 rfl rfl ?_
          refine xr_iload_n D_Rd_bytesOfText_81 rfl rfl ?_
          refine xr_iconst (v := 1) D_Rd_bytesOfText_82 rfl ?_
          refine xr_isub D_Rd_bytesOfText_83 ?_
          refine xr_cVx (as := [_]) (c_By_at_22) (L_Rd_54) (CD_By_at) CI_By D_Rd_bytesOfText_84 rfl rfl (by decide) (Nat.le_of_ble_eq_true rfl) (Nat.le_of_eq (Nat.zero_add _)) (Nat.le_of_eq (Nat.zero_add _)) pic_len ?_
          rintro _ rfl
          refine ⟨_, _, rfl, rfl, ?_⟩
          refine xr_goto (tgt := 91) D_Rd_bytesOfText_87 rfl ?_
          refine xr_iret rfl D_Rd_bytesOfText_91 ?_
          exact oi (by unfold txF; grind)
      · rw [b2_n] at c3
        refine xr_aload_n D_Rd_bytesOfText_45 rfl rfl ?_
        refine xr_getf F_Rd_18 D_Rd_bytesOfText_46 rfl rfl ?_
        refine xr_iload_n D_Rd_bytesOfText_49 rfl rfl ?_
        refine xr_iconst (v := 2) D_Rd_bytesOfText_50 rfl ?_
        refine xr_isub D_Rd_bytesOfText_51 ?_
        refine xr_cVx (as := [_]) (c_By_at_22) (L_Rd_54) (CD_By_at) CI_By D_Rd_bytesOfText_52 rfl rfl (by decide) (Nat.le_of_ble_eq_true rfl) (Nat.le_of_eq (Nat.zero_add _)) (Nat.le_of_eq (Nat.zero_add _)) pic_len ?_
        rintro _ rfl
        refine ⟨_, _, rfl, rfl, ?_⟩
        refine xr_aload_n D_Rd_bytesOfText_55 rfl rfl ?_
        refine xr_getf F_Rd_18 D_Rd_bytesOfText_56 rfl rfl ?_
        refine xr_iload_n D_Rd_bytesOfText_59 rfl rfl ?_
        refine xr_iconst (v := 1) D_Rd_bytesOfText_60 rfl ?_
        refine xr_isub D_Rd_bytesOfText_61 ?_
        refine xr_cVx (as := [_]) (c_By_at_22) (L_Rd_54) (CD_By_at) CI_By D_Rd_bytesOfText_62 rfl rfl (by decide) (Nat.le_of_ble_eq_true rfl) (Nat.le_of_eq (Nat.zero_add _)) (Nat.le_of_eq (Nat.zero_add _)) pic_len ?_
        rintro _ rfl
        refine ⟨_, _, rfl, rfl, ?_⟩
        refine xr_iadd D_Rd_bytesOfText_65 ?_
        refine xr_iret rfl D_Rd_bytesOfText_66 ?_
        exact oi (by unfold txF; grind)
    · refine xr_aload_n D_Rd_bytesOfText_20 rfl rfl ?_
      refine xr_getf F_Rd_18 D_Rd_bytesOfText_21 rfl rfl ?_
      refine xr_iload_n D_Rd_bytesOfText_24 rfl rfl ?_
      refine xr_aload_n D_Rd_bytesOfText_25 rfl rfl ?_
      refine xr_getf F_Rd_63 D_Rd_bytesOfText_26 rfl rfl ?_
      refine xr_isub D_Rd_bytesOfText_29 ?_
      refine xr_aload_n D_Rd_bytesOfText_30 rfl rfl ?_
      refine xr_getf F_Rd_63 D_Rd_bytesOfText_31 rfl rfl ?_
      refine xr_cVx (as := [_, _]) (c_By_number_22 k hw hk) (L_Rd_88) (CD_By_number) CI_By D_Rd_bytesOfText_34 rfl rfl (by decide) (Nat.le_of_ble_eq_true rfl) (Nat.le_of_eq (Nat.zero_add _)) (Nat.le_of_eq (Nat.zero_add _)) pic_len ?_
      rintro _ rfl
      refine ⟨_, _, rfl, rfl, ?_⟩
      refine xr_iret rfl D_Rd_bytesOfText_37 ?_
      exact oi (by unfold txF; grind)

theorem c_Rd_bytesBehind_31 {I : mI} {A : mA} {L : mL}  {k : Nat} (hw : (I 3109).toInt = (k : Int)) (hk : k ≤ 4) : xm m_Rd_bytesBehind (3, 66) [.ref 31] (pic I A L) 0 0 (fun o => o = (.inl (some (.int (bhF (gat (I 2201) (A 23)) (I 2201) (I 3107) (I 3108) (I 3109) k))), (pic I A L))) := by
  refine xm_of rfl (by decide) (Nat.le_of_ble_eq_true rfl) ?_
  refine xr_aload_n D_Rd_bytesBehind_0 rfl rfl ?_
  refine xr_getf F_Rd_63 D_Rd_bytesBehind_1 rfl rfl ?_
  refine xr_aload_n D_Rd_bytesBehind_4 rfl rfl ?_
  refine xr_cVx (as := []) (c_Rd_fixedBytes_31) (L_Rd_79) (CD_Rd_fixedBytes) CI_Rd D_Rd_bytesBehind_5 rfl rfl (by decide) (Nat.le_of_ble_eq_true rfl) (Nat.le_of_eq (Nat.zero_add _)) (Nat.le_of_eq (Nat.zero_add _)) pic_len ?_
  rintro _ rfl
  refine ⟨_, _, rfl, rfl, ?_⟩
  refine xr_iadd D_Rd_bytesBehind_8 ?_
  refine xr_istore_n D_Rd_bytesBehind_9 rfl (by decide) ?_
  refine xr_aload_n D_Rd_bytesBehind_10 rfl rfl ?_
  refine xr_getf F_Rd_18 D_Rd_bytesBehind_11 rfl rfl ?_
  refine xr_cVx (as := []) (c_By_length_22) (L_Rd_48) (CD_By_length) CI_By D_Rd_bytesBehind_14 rfl rfl (by decide) (Nat.le_of_ble_eq_true rfl) (Nat.le_of_eq (Nat.zero_add _)) (Nat.le_of_eq (Nat.zero_add _)) pic_len ?_
  rintro _ rfl
  refine ⟨_, _, rfl, rfl, ?_⟩
  refine xr_aload_n D_Rd_bytesBehind_17 rfl rfl ?_
  refine xr_getf F_Rd_39 D_Rd_bytesBehind_18 rfl rfl ?_
  refine xr_isub D_Rd_bytesBehind_21 ?_
  refine xr_iconst (v := 1) D_Rd_bytesBehind_22 rfl ?_
  refine xr_isub D_Rd_bytesBehind_23 ?_
  refine xr_istore_n D_Rd_bytesBehind_24 rfl (by decide) ?_
  refine xr_iload_n D_Rd_bytesBehind_25 rfl rfl ?_
  refine xr_iload_n D_Rd_bytesBehind_26 rfl rfl ?_
  refine xr_icmp_le (tgt := 32) D_Rd_bytesBehind_27 rfl (fun c1 => ?_) (fun c1 => ?_)
  · refine xr_aload_n D_Rd_bytesBehind_32 rfl rfl ?_
    refine xr_aload_n D_Rd_bytesBehind_33 rfl rfl ?_
    refine xr_getf F_Rd_39 D_Rd_bytesBehind_34 rfl rfl ?_
    refine xr_iconst (v := 1) D_Rd_bytesBehind_37 rfl ?_
    refine xr_iadd D_Rd_bytesBehind_38 ?_
    refine xr_iload_n D_Rd_bytesBehind_39 rfl rfl ?_
    refine xr_iadd D_Rd_bytesBehind_40 ?_
    refine xr_cVx (as := [_]) (c_Rd_bytesOfText_31 hw hk) (L_Rd_82) (CD_Rd_bytesOfText) CI_Rd D_Rd_bytesBehind_41 rfl rfl (by decide) (Nat.le_of_ble_eq_true rfl) (Nat.le_of_eq (Nat.zero_add _)) (Nat.le_of_eq (Nat.zero_add _)) pic_len ?_
    rintro _ rfl
    refine ⟨_, _, rfl, rfl, ?_⟩
    refine xr_istore_n D_Rd_bytesBehind_44 rfl (by decide) ?_
    refine xr_iload_n D_Rd_bytesBehind_45 rfl rfl ?_
    refine xr_if_lt (tgt := 56) D_Rd_bytesBehind_46 rfl (fun c2 => ?_) (fun c2 => ?_)
    · refine xr_iconst (v := (-1)) D_Rd_bytesBehind_56 rfl ?_
      refine xr_goto (tgt := 63) D_Rd_bytesBehind_57 rfl ?_
      refine xr_iret rfl D_Rd_bytesBehind_63 ?_
      exact oi (by unfold bhF; grind)
    · refine xr_iload_n D_Rd_bytesBehind_49 rfl rfl ?_
      refine xr_iload_n D_Rd_bytesBehind_50 rfl rfl ?_
      refine xr_iload_n D_Rd_bytesBehind_51 rfl rfl ?_
      refine xr_isub D_Rd_bytesBehind_52 ?_
      refine xr_icmp_le (tgt := 60) D_Rd_bytesBehind_53 rfl (fun c3 => ?_) (fun c3 => ?_)
      · refine xr_iload_n D_Rd_bytesBehind_60 rfl rfl ?_
        refine xr_iload_n D_Rd_bytesBehind_61 rfl rfl ?_
        refine xr_iadd D_Rd_bytesBehind_62 ?_
        refine xr_iret rfl D_Rd_bytesBehind_63 ?_
        exact oi (by unfold bhF; grind)
      · refine xr_iconst (v := (-1)) D_Rd_bytesBehind_56 rfl ?_
        refine xr_goto (tgt := 63) D_Rd_bytesBehind_57 rfl ?_
        refine xr_iret rfl D_Rd_bytesBehind_63 ?_
        exact oi (by unfold bhF; grind)
  · refine xr_iconst (v := (-1)) D_Rd_bytesBehind_30 rfl ?_
    refine xr_iret rfl D_Rd_bytesBehind_31 ?_
    exact oi (by unfold bhF; grind)

theorem c_Rd_canStand_31 {I : mI} {A : mA} {L : mL}   : xm m_Rd_canStand (1, 21) [.ref 31] (pic I A L) 0 0 (fun o => o = (.inl (some (.int (b2 (csF (gat (I 2201) (A 23)) (I 3106) (I 3108) (I 3107))))), (pic I A L))) := by
  refine xm_of rfl (by decide) (Nat.le_of_ble_eq_true rfl) ?_
  refine xr_aload_n D_Rd_canStand_0 rfl rfl ?_
  refine xr_getf F_Rd_57 D_Rd_canStand_1 rfl rfl ?_
  refine xr_sipush (v := 138) D_Rd_canStand_4 rfl ?_
  refine xr_icmp_eq (tgt := 17) D_Rd_canStand_7 rfl (fun c1 => ?_) (fun c1 => ?_)
  · refine xr_iconst (v := 1) D_Rd_canStand_17 rfl ?_
    refine xr_goto (tgt := 22) D_Rd_canStand_18 rfl ?_
    refine xr_istore_n D_Rd_canStand_22 rfl (by decide) ?_
    refine xr_aload_n D_Rd_canStand_23 rfl rfl ?_
    refine xr_getf F_Rd_35 D_Rd_canStand_24 rfl rfl ?_
    by_cases t0 : I 3106 = 0
    · refine xr_tableIn (tgt := 60) (off := 33) D_Rd_canStand_27 (by rw [t0]; decide) (by rw [t0]; decide) (by rw [t0]; rfl) rfl ?_
      refine xr_aload_n D_Rd_canStand_60 rfl rfl ?_
      refine xr_getf F_Rd_57 D_Rd_canStand_61 rfl rfl ?_
      refine xr_sipush (v := 247) D_Rd_canStand_64 rfl ?_
      refine xr_icmp_ne (tgt := 91) D_Rd_canStand_67 rfl (fun c2 => ?_) (fun c2 => ?_)
      · refine xr_iconst (v := 0) D_Rd_canStand_91 rfl ?_
        refine xr_zret rfl (by first | rfl | exact nar_b2 | exact nar_z hz) D_Rd_canStand_92 ?_
        first | exact ob_t (by grind) | exact ob_f (by grind)
      · refine xr_aload_n D_Rd_canStand_70 rfl rfl ?_
        refine xr_getf F_Rd_18 D_Rd_canStand_71 rfl rfl ?_
        refine xr_aload_n D_Rd_canStand_74 rfl rfl ?_
        refine xr_getf F_Rd_39 D_Rd_canStand_75 rfl rfl ?_
        refine xr_iconst (v := 1) D_Rd_canStand_78 rfl ?_
        refine xr_iadd D_Rd_canStand_79 ?_
        refine xr_cVx (as := [_]) (c_By_at_22) (L_Rd_54) (CD_By_at) CI_By D_Rd_canStand_80 rfl rfl (by decide) (Nat.le_of_ble_eq_true rfl) (Nat.le_of_eq (Nat.zero_add _)) (Nat.le_of_eq (Nat.zero_add _)) pic_len ?_
        rintro _ rfl
        refine ⟨_, _, rfl, rfl, ?_⟩
        refine xr_iconst (v := 2) D_Rd_canStand_83 rfl ?_
        refine xr_icmp_ne (tgt := 91) D_Rd_canStand_84 rfl (fun c3 => ?_) (fun c3 => ?_)
        · refine xr_iconst (v := 0) D_Rd_canStand_91 rfl ?_
          refine xr_zret rfl (by first | rfl | exact nar_b2 | exact nar_z hz) D_Rd_canStand_92 ?_
          first | exact ob_t (by grind) | exact ob_f (by grind)
        · refine xr_iconst (v := 1) D_Rd_canStand_87 rfl ?_
          refine xr_goto (tgt := 92) D_Rd_canStand_88 rfl ?_
          refine xr_zret rfl (by first | rfl | exact nar_b2 | exact nar_z hz) D_Rd_canStand_92 ?_
          first | exact ob_t (by grind) | exact ob_f (by grind)
    by_cases t1 : I 3106 = 1
    · refine xr_tableIn (tgt := 93) (off := 66) D_Rd_canStand_27 (by rw [t1]; decide) (by rw [t1]; decide) (by rw [t1]; rfl) rfl ?_
      refine xr_iload_n D_Rd_canStand_93 rfl rfl ?_
      refine xr_if_ne (tgt := 117) D_Rd_canStand_94 rfl (fun c4 => ?_) (fun c4 => ?_)
      · refine xr_iconst (v := 1) D_Rd_canStand_117 rfl ?_
        refine xr_goto (tgt := 122) D_Rd_canStand_118 rfl ?_
        refine xr_zret rfl (by first | rfl | exact nar_b2 | exact nar_z hz) D_Rd_canStand_122 ?_
        first | exact ob_t (by grind) | exact ob_f (by grind)
      · exact absurd (show (1 : Int32) = (0 : Int32) from c4) (by decide)
    by_cases t2 : I 3106 = 2
    · refine xr_tableIn (tgt := 123) (off := 96) D_Rd_canStand_27 (by rw [t2]; decide) (by rw [t2]; decide) (by rw [t2]; rfl) rfl ?_
      refine xr_aload_n D_Rd_canStand_123 rfl rfl ?_
      refine xr_getf F_Rd_57 D_Rd_canStand_124 rfl rfl ?_
      refine xr_sipush (v := 247) D_Rd_canStand_127 rfl ?_
      refine xr_icmp_ge (tgt := 147) D_Rd_canStand_130 rfl (fun c5 => ?_) (fun c5 => ?_)
      · refine xr_iconst (v := 0) D_Rd_canStand_147 rfl ?_
        refine xr_zret rfl (by first | rfl | exact nar_b2 | exact nar_z hz) D_Rd_canStand_148 ?_
        first | exact ob_t (by grind) | exact ob_f (by grind)
      · refine xr_aload_n D_Rd_canStand_133 rfl rfl ?_
        refine xr_getf F_Rd_57 D_Rd_canStand_134 rfl rfl ?_
        refine xr_sipush (v := 139) D_Rd_canStand_137 rfl ?_
        refine xr_icmp_eq (tgt := 147) D_Rd_canStand_140 rfl (fun c6 => ?_) (fun c6 => ?_)
        · refine xr_iconst (v := 0) D_Rd_canStand_147 rfl ?_
          refine xr_zret rfl (by first | rfl | exact nar_b2 | exact nar_z hz) D_Rd_canStand_148 ?_
          first | exact ob_t (by grind) | exact ob_f (by grind)
        · refine xr_iconst (v := 1) D_Rd_canStand_143 rfl ?_
          refine xr_goto (tgt := 148) D_Rd_canStand_144 rfl ?_
          refine xr_zret rfl (by first | rfl | exact nar_b2 | exact nar_z hz) D_Rd_canStand_148 ?_
          first | exact ob_t (by grind) | exact ob_f (by grind)
    by_cases t3 : I 3106 = 3
    · refine xr_tableIn (tgt := 149) (off := 122) D_Rd_canStand_27 (by rw [t3]; decide) (by rw [t3]; decide) (by rw [t3]; rfl) rfl ?_
      refine xr_iload_n D_Rd_canStand_149 rfl rfl ?_
      refine xr_if_ne (tgt := 180) D_Rd_canStand_150 rfl (fun c7 => ?_) (fun c7 => ?_)
      · refine xr_iconst (v := 1) D_Rd_canStand_180 rfl ?_
        refine xr_goto (tgt := 185) D_Rd_canStand_181 rfl ?_
        refine xr_zret rfl (by first | rfl | exact nar_b2 | exact nar_z hz) D_Rd_canStand_185 ?_
        first | exact ob_t (by grind) | exact ob_f (by grind)
      · exact absurd (show (1 : Int32) = (0 : Int32) from c7) (by decide)
    by_cases t4 : I 3106 = 4
    · refine xr_tableIn (tgt := 186) (off := 159) D_Rd_canStand_27 (by rw [t4]; decide) (by rw [t4]; decide) (by rw [t4]; rfl) rfl ?_
      refine xr_aload_n D_Rd_canStand_186 rfl rfl ?_
      refine xr_getf F_Rd_57 D_Rd_canStand_187 rfl rfl ?_
      refine xr_sipush (v := 223) D_Rd_canStand_190 rfl ?_
      refine xr_icmp_ne (tgt := 200) D_Rd_canStand_193 rfl (fun c8 => ?_) (fun c8 => ?_)
      · refine xr_iconst (v := 0) D_Rd_canStand_200 rfl ?_
        refine xr_zret rfl (by first | rfl | exact nar_b2 | exact nar_z hz) D_Rd_canStand_201 ?_
        first | exact ob_t (by grind) | exact ob_f (by grind)
      · refine xr_iconst (v := 1) D_Rd_canStand_196 rfl ?_
        refine xr_goto (tgt := 201) D_Rd_canStand_197 rfl ?_
        refine xr_zret rfl (by first | rfl | exact nar_b2 | exact nar_z hz) D_Rd_canStand_201 ?_
        first | exact ob_t (by grind) | exact ob_f (by grind)
    refine xr_tableOut2 (tgt := 202) (lo9 := 0) (hi9 := 4) D_Rd_canStand_27 (by grind) rfl rfl rfl ?_
    refine xr_iconst (v := 0) D_Rd_canStand_202 rfl ?_
    refine xr_zret rfl (by first | rfl | exact nar_b2 | exact nar_z hz) D_Rd_canStand_203 ?_
    first | exact ob_t (by grind) | exact ob_f (by grind)
  · refine xr_aload_n D_Rd_canStand_10 rfl rfl ?_
    refine xr_cVx (as := []) (c_Rd_isDefinition_31) (L_Rd_85) (CD_Rd_isDefinition) CI_Rd D_Rd_canStand_11 rfl rfl (by decide) (Nat.le_of_ble_eq_true rfl) (Nat.le_of_eq (Nat.zero_add _)) (Nat.le_of_eq (Nat.zero_add _)) pic_len ?_
    rintro _ rfl
    refine ⟨_, _, rfl, rfl, ?_⟩
    refine xr_if_eq (tgt := 21) D_Rd_canStand_14 rfl (fun c2 => ?_) (fun c2 => ?_)
    · rw [b2_0] at c2
      refine xr_iconst (v := 0) D_Rd_canStand_21 rfl ?_
      refine xr_istore_n D_Rd_canStand_22 rfl (by decide) ?_
      refine xr_aload_n D_Rd_canStand_23 rfl rfl ?_
      refine xr_getf F_Rd_35 D_Rd_canStand_24 rfl rfl ?_
      by_cases t0 : I 3106 = 0
      · refine xr_tableIn (tgt := 60) (off := 33) D_Rd_canStand_27 (by rw [t0]; decide) (by rw [t0]; decide) (by rw [t0]; rfl) rfl ?_
        refine xr_aload_n D_Rd_canStand_60 rfl rfl ?_
        refine xr_getf F_Rd_57 D_Rd_canStand_61 rfl rfl ?_
        refine xr_sipush (v := 247) D_Rd_canStand_64 rfl ?_
        refine xr_icmp_ne (tgt := 91) D_Rd_canStand_67 rfl (fun c3 => ?_) (fun c3 => ?_)
        · refine xr_iconst (v := 0) D_Rd_canStand_91 rfl ?_
          refine xr_zret rfl (by first | rfl | exact nar_b2 | exact nar_z hz) D_Rd_canStand_92 ?_
          first | exact ob_t (by grind) | exact ob_f (by grind)
        · refine xr_aload_n D_Rd_canStand_70 rfl rfl ?_
          refine xr_getf F_Rd_18 D_Rd_canStand_71 rfl rfl ?_
          refine xr_aload_n D_Rd_canStand_74 rfl rfl ?_
          refine xr_getf F_Rd_39 D_Rd_canStand_75 rfl rfl ?_
          refine xr_iconst (v := 1) D_Rd_canStand_78 rfl ?_
          refine xr_iadd D_Rd_canStand_79 ?_
          refine xr_cVx (as := [_]) (c_By_at_22) (L_Rd_54) (CD_By_at) CI_By D_Rd_canStand_80 rfl rfl (by decide) (Nat.le_of_ble_eq_true rfl) (Nat.le_of_eq (Nat.zero_add _)) (Nat.le_of_eq (Nat.zero_add _)) pic_len ?_
          rintro _ rfl
          refine ⟨_, _, rfl, rfl, ?_⟩
          refine xr_iconst (v := 2) D_Rd_canStand_83 rfl ?_
          refine xr_icmp_ne (tgt := 91) D_Rd_canStand_84 rfl (fun c4 => ?_) (fun c4 => ?_)
          · refine xr_iconst (v := 0) D_Rd_canStand_91 rfl ?_
            refine xr_zret rfl (by first | rfl | exact nar_b2 | exact nar_z hz) D_Rd_canStand_92 ?_
            first | exact ob_t (by grind) | exact ob_f (by grind)
          · refine xr_iconst (v := 1) D_Rd_canStand_87 rfl ?_
            refine xr_goto (tgt := 92) D_Rd_canStand_88 rfl ?_
            refine xr_zret rfl (by first | rfl | exact nar_b2 | exact nar_z hz) D_Rd_canStand_92 ?_
            first | exact ob_t (by grind) | exact ob_f (by grind)
      by_cases t1 : I 3106 = 1
      · refine xr_tableIn (tgt := 93) (off := 66) D_Rd_canStand_27 (by rw [t1]; decide) (by rw [t1]; decide) (by rw [t1]; rfl) rfl ?_
        refine xr_iload_n D_Rd_canStand_93 rfl rfl ?_
        refine xr_if_ne (tgt := 117) D_Rd_canStand_94 rfl (fun c5 => ?_) (fun c5 => ?_)
        · exact absurd (show (0 : Int32) = (0 : Int32) by decide) c5
        · refine xr_aload_n D_Rd_canStand_97 rfl rfl ?_
          refine xr_getf F_Rd_57 D_Rd_canStand_98 rfl rfl ?_
          refine xr_sipush (v := 139) D_Rd_canStand_101 rfl ?_
          refine xr_icmp_eq (tgt := 117) D_Rd_canStand_104 rfl (fun c6 => ?_) (fun c6 => ?_)
          · refine xr_iconst (v := 1) D_Rd_canStand_117 rfl ?_
            refine xr_goto (tgt := 122) D_Rd_canStand_118 rfl ?_
            refine xr_zret rfl (by first | rfl | exact nar_b2 | exact nar_z hz) D_Rd_canStand_122 ?_
            first | exact ob_t (by grind) | exact ob_f (by grind)
          · refine xr_aload_n D_Rd_canStand_107 rfl rfl ?_
            refine xr_getf F_Rd_57 D_Rd_canStand_108 rfl rfl ?_
            refine xr_sipush (v := 248) D_Rd_canStand_111 rfl ?_
            refine xr_icmp_ne (tgt := 121) D_Rd_canStand_114 rfl (fun c7 => ?_) (fun c7 => ?_)
            · refine xr_iconst (v := 0) D_Rd_canStand_121 rfl ?_
              refine xr_zret rfl (by first | rfl | exact nar_b2 | exact nar_z hz) D_Rd_canStand_122 ?_
              first | exact ob_t (by grind) | exact ob_f (by grind)
            · refine xr_iconst (v := 1) D_Rd_canStand_117 rfl ?_
              refine xr_goto (tgt := 122) D_Rd_canStand_118 rfl ?_
              refine xr_zret rfl (by first | rfl | exact nar_b2 | exact nar_z hz) D_Rd_canStand_122 ?_
              first | exact ob_t (by grind) | exact ob_f (by grind)
      by_cases t2 : I 3106 = 2
      · refine xr_tableIn (tgt := 123) (off := 96) D_Rd_canStand_27 (by rw [t2]; decide) (by rw [t2]; decide) (by rw [t2]; rfl) rfl ?_
        refine xr_aload_n D_Rd_canStand_123 rfl rfl ?_
        refine xr_getf F_Rd_57 D_Rd_canStand_124 rfl rfl ?_
        refine xr_sipush (v := 247) D_Rd_canStand_127 rfl ?_
        refine xr_icmp_ge (tgt := 147) D_Rd_canStand_130 rfl (fun c8 => ?_) (fun c8 => ?_)
        · refine xr_iconst (v := 0) D_Rd_canStand_147 rfl ?_
          refine xr_zret rfl (by first | rfl | exact nar_b2 | exact nar_z hz) D_Rd_canStand_148 ?_
          first | exact ob_t (by grind) | exact ob_f (by grind)
        · refine xr_aload_n D_Rd_canStand_133 rfl rfl ?_
          refine xr_getf F_Rd_57 D_Rd_canStand_134 rfl rfl ?_
          refine xr_sipush (v := 139) D_Rd_canStand_137 rfl ?_
          refine xr_icmp_eq (tgt := 147) D_Rd_canStand_140 rfl (fun c9 => ?_) (fun c9 => ?_)
          · refine xr_iconst (v := 0) D_Rd_canStand_147 rfl ?_
            refine xr_zret rfl (by first | rfl | exact nar_b2 | exact nar_z hz) D_Rd_canStand_148 ?_
            first | exact ob_t (by grind) | exact ob_f (by grind)
          · refine xr_iconst (v := 1) D_Rd_canStand_143 rfl ?_
            refine xr_goto (tgt := 148) D_Rd_canStand_144 rfl ?_
            refine xr_zret rfl (by first | rfl | exact nar_b2 | exact nar_z hz) D_Rd_canStand_148 ?_
            first | exact ob_t (by grind) | exact ob_f (by grind)
      by_cases t3 : I 3106 = 3
      · refine xr_tableIn (tgt := 149) (off := 122) D_Rd_canStand_27 (by rw [t3]; decide) (by rw [t3]; decide) (by rw [t3]; rfl) rfl ?_
        refine xr_iload_n D_Rd_canStand_149 rfl rfl ?_
        refine xr_if_ne (tgt := 180) D_Rd_canStand_150 rfl (fun c10 => ?_) (fun c10 => ?_)
        · exact absurd (show (0 : Int32) = (0 : Int32) by decide) c10
        · refine xr_aload_n D_Rd_canStand_153 rfl rfl ?_
          refine xr_getf F_Rd_57 D_Rd_canStand_154 rfl rfl ?_
          refine xr_sipush (v := 249) D_Rd_canStand_157 rfl ?_
          refine xr_icmp_ne (tgt := 184) D_Rd_canStand_160 rfl (fun c11 => ?_) (fun c11 => ?_)
          · refine xr_iconst (v := 0) D_Rd_canStand_184 rfl ?_
            refine xr_zret rfl (by first | rfl | exact nar_b2 | exact nar_z hz) D_Rd_canStand_185 ?_
            first | exact ob_t (by grind) | exact ob_f (by grind)
          · refine xr_aload_n D_Rd_canStand_163 rfl rfl ?_
            refine xr_getf F_Rd_18 D_Rd_canStand_164 rfl rfl ?_
            refine xr_aload_n D_Rd_canStand_167 rfl rfl ?_
            refine xr_getf F_Rd_39 D_Rd_canStand_168 rfl rfl ?_
            refine xr_iconst (v := 5) D_Rd_canStand_171 rfl ?_
            refine xr_iadd D_Rd_canStand_172 ?_
            refine xr_cVx (as := [_]) (c_By_at_22) (L_Rd_54) (CD_By_at) CI_By D_Rd_canStand_173 rfl rfl (by decide) (Nat.le_of_ble_eq_true rfl) (Nat.le_of_eq (Nat.zero_add _)) (Nat.le_of_eq (Nat.zero_add _)) pic_len ?_
            rintro _ rfl
            refine ⟨_, _, rfl, rfl, ?_⟩
            refine xr_iconst (v := 2) D_Rd_canStand_176 rfl ?_
            refine xr_icmp_ne (tgt := 184) D_Rd_canStand_177 rfl (fun c12 => ?_) (fun c12 => ?_)
            · refine xr_iconst (v := 0) D_Rd_canStand_184 rfl ?_
              refine xr_zret rfl (by first | rfl | exact nar_b2 | exact nar_z hz) D_Rd_canStand_185 ?_
              first | exact ob_t (by grind) | exact ob_f (by grind)
            · refine xr_iconst (v := 1) D_Rd_canStand_180 rfl ?_
              refine xr_goto (tgt := 185) D_Rd_canStand_181 rfl ?_
              refine xr_zret rfl (by first | rfl | exact nar_b2 | exact nar_z hz) D_Rd_canStand_185 ?_
              first | exact ob_t (by grind) | exact ob_f (by grind)
      by_cases t4 : I 3106 = 4
      · refine xr_tableIn (tgt := 186) (off := 159) D_Rd_canStand_27 (by rw [t4]; decide) (by rw [t4]; decide) (by rw [t4]; rfl) rfl ?_
        refine xr_aload_n D_Rd_canStand_186 rfl rfl ?_
        refine xr_getf F_Rd_57 D_Rd_canStand_187 rfl rfl ?_
        refine xr_sipush (v := 223) D_Rd_canStand_190 rfl ?_
        refine xr_icmp_ne (tgt := 200) D_Rd_canStand_193 rfl (fun c13 => ?_) (fun c13 => ?_)
        · refine xr_iconst (v := 0) D_Rd_canStand_200 rfl ?_
          refine xr_zret rfl (by first | rfl | exact nar_b2 | exact nar_z hz) D_Rd_canStand_201 ?_
          first | exact ob_t (by grind) | exact ob_f (by grind)
        · refine xr_iconst (v := 1) D_Rd_canStand_196 rfl ?_
          refine xr_goto (tgt := 201) D_Rd_canStand_197 rfl ?_
          refine xr_zret rfl (by first | rfl | exact nar_b2 | exact nar_z hz) D_Rd_canStand_201 ?_
          first | exact ob_t (by grind) | exact ob_f (by grind)
      refine xr_tableOut2 (tgt := 202) (lo9 := 0) (hi9 := 4) D_Rd_canStand_27 (by grind) rfl rfl rfl ?_
      refine xr_iconst (v := 0) D_Rd_canStand_202 rfl ?_
      refine xr_zret rfl (by first | rfl | exact nar_b2 | exact nar_z hz) D_Rd_canStand_203 ?_
      first | exact ob_t (by grind) | exact ob_f (by grind)
    · rw [b2_n] at c2
      refine xr_iconst (v := 1) D_Rd_canStand_17 rfl ?_
      refine xr_goto (tgt := 22) D_Rd_canStand_18 rfl ?_
      refine xr_istore_n D_Rd_canStand_22 rfl (by decide) ?_
      refine xr_aload_n D_Rd_canStand_23 rfl rfl ?_
      refine xr_getf F_Rd_35 D_Rd_canStand_24 rfl rfl ?_
      by_cases t0 : I 3106 = 0
      · refine xr_tableIn (tgt := 60) (off := 33) D_Rd_canStand_27 (by rw [t0]; decide) (by rw [t0]; decide) (by rw [t0]; rfl) rfl ?_
        refine xr_aload_n D_Rd_canStand_60 rfl rfl ?_
        refine xr_getf F_Rd_57 D_Rd_canStand_61 rfl rfl ?_
        refine xr_sipush (v := 247) D_Rd_canStand_64 rfl ?_
        refine xr_icmp_ne (tgt := 91) D_Rd_canStand_67 rfl (fun c3 => ?_) (fun c3 => ?_)
        · refine xr_iconst (v := 0) D_Rd_canStand_91 rfl ?_
          refine xr_zret rfl (by first | rfl | exact nar_b2 | exact nar_z hz) D_Rd_canStand_92 ?_
          first | exact ob_t (by grind) | exact ob_f (by grind)
        · refine xr_aload_n D_Rd_canStand_70 rfl rfl ?_
          refine xr_getf F_Rd_18 D_Rd_canStand_71 rfl rfl ?_
          refine xr_aload_n D_Rd_canStand_74 rfl rfl ?_
          refine xr_getf F_Rd_39 D_Rd_canStand_75 rfl rfl ?_
          refine xr_iconst (v := 1) D_Rd_canStand_78 rfl ?_
          refine xr_iadd D_Rd_canStand_79 ?_
          refine xr_cVx (as := [_]) (c_By_at_22) (L_Rd_54) (CD_By_at) CI_By D_Rd_canStand_80 rfl rfl (by decide) (Nat.le_of_ble_eq_true rfl) (Nat.le_of_eq (Nat.zero_add _)) (Nat.le_of_eq (Nat.zero_add _)) pic_len ?_
          rintro _ rfl
          refine ⟨_, _, rfl, rfl, ?_⟩
          refine xr_iconst (v := 2) D_Rd_canStand_83 rfl ?_
          refine xr_icmp_ne (tgt := 91) D_Rd_canStand_84 rfl (fun c4 => ?_) (fun c4 => ?_)
          · refine xr_iconst (v := 0) D_Rd_canStand_91 rfl ?_
            refine xr_zret rfl (by first | rfl | exact nar_b2 | exact nar_z hz) D_Rd_canStand_92 ?_
            first | exact ob_t (by grind) | exact ob_f (by grind)
          · refine xr_iconst (v := 1) D_Rd_canStand_87 rfl ?_
            refine xr_goto (tgt := 92) D_Rd_canStand_88 rfl ?_
            refine xr_zret rfl (by first | rfl | exact nar_b2 | exact nar_z hz) D_Rd_canStand_92 ?_
            first | exact ob_t (by grind) | exact ob_f (by grind)
      by_cases t1 : I 3106 = 1
      · refine xr_tableIn (tgt := 93) (off := 66) D_Rd_canStand_27 (by rw [t1]; decide) (by rw [t1]; decide) (by rw [t1]; rfl) rfl ?_
        refine xr_iload_n D_Rd_canStand_93 rfl rfl ?_
        refine xr_if_ne (tgt := 117) D_Rd_canStand_94 rfl (fun c5 => ?_) (fun c5 => ?_)
        · refine xr_iconst (v := 1) D_Rd_canStand_117 rfl ?_
          refine xr_goto (tgt := 122) D_Rd_canStand_118 rfl ?_
          refine xr_zret rfl (by first | rfl | exact nar_b2 | exact nar_z hz) D_Rd_canStand_122 ?_
          first | exact ob_t (by grind) | exact ob_f (by grind)
        · exact absurd (show (1 : Int32) = (0 : Int32) from c5) (by decide)
      by_cases t2 : I 3106 = 2
      · refine xr_tableIn (tgt := 123) (off := 96) D_Rd_canStand_27 (by rw [t2]; decide) (by rw [t2]; decide) (by rw [t2]; rfl) rfl ?_
        refine xr_aload_n D_Rd_canStand_123 rfl rfl ?_
        refine xr_getf F_Rd_57 D_Rd_canStand_124 rfl rfl ?_
        refine xr_sipush (v := 247) D_Rd_canStand_127 rfl ?_
        refine xr_icmp_ge (tgt := 147) D_Rd_canStand_130 rfl (fun c6 => ?_) (fun c6 => ?_)
        · refine xr_iconst (v := 0) D_Rd_canStand_147 rfl ?_
          refine xr_zret rfl (by first | rfl | exact nar_b2 | exact nar_z hz) D_Rd_canStand_148 ?_
          first | exact ob_t (by grind) | exact ob_f (by grind)
        · refine xr_aload_n D_Rd_canStand_133 rfl rfl ?_
          refine xr_getf F_Rd_57 D_Rd_canStand_134 rfl rfl ?_
          refine xr_sipush (v := 139) D_Rd_canStand_137 rfl ?_
          refine xr_icmp_eq (tgt := 147) D_Rd_canStand_140 rfl (fun c7 => ?_) (fun c7 => ?_)
          · refine xr_iconst (v := 0) D_Rd_canStand_147 rfl ?_
            refine xr_zret rfl (by first | rfl | exact nar_b2 | exact nar_z hz) D_Rd_canStand_148 ?_
            first | exact ob_t (by grind) | exact ob_f (by grind)
          · refine xr_iconst (v := 1) D_Rd_canStand_143 rfl ?_
            refine xr_goto (tgt := 148) D_Rd_canStand_144 rfl ?_
            refine xr_zret rfl (by first | rfl | exact nar_b2 | exact nar_z hz) D_Rd_canStand_148 ?_
            first | exact ob_t (by grind) | exact ob_f (by grind)
      by_cases t3 : I 3106 = 3
      · refine xr_tableIn (tgt := 149) (off := 122) D_Rd_canStand_27 (by rw [t3]; decide) (by rw [t3]; decide) (by rw [t3]; rfl) rfl ?_
        refine xr_iload_n D_Rd_canStand_149 rfl rfl ?_
        refine xr_if_ne (tgt := 180) D_Rd_canStand_150 rfl (fun c8 => ?_) (fun c8 => ?_)
        · refine xr_iconst (v := 1) D_Rd_canStand_180 rfl ?_
          refine xr_goto (tgt := 185) D_Rd_canStand_181 rfl ?_
          refine xr_zret rfl (by first | rfl | exact nar_b2 | exact nar_z hz) D_Rd_canStand_185 ?_
          first | exact ob_t (by grind) | exact ob_f (by grind)
        · exact absurd (show (1 : Int32) = (0 : Int32) from c8) (by decide)
      by_cases t4 : I 3106 = 4
      · refine xr_tableIn (tgt := 186) (off := 159) D_Rd_canStand_27 (by rw [t4]; decide) (by rw [t4]; decide) (by rw [t4]; rfl) rfl ?_
        refine xr_aload_n D_Rd_canStand_186 rfl rfl ?_
        refine xr_getf F_Rd_57 D_Rd_canStand_187 rfl rfl ?_
        refine xr_sipush (v := 223) D_Rd_canStand_190 rfl ?_
        refine xr_icmp_ne (tgt := 200) D_Rd_canStand_193 rfl (fun c9 => ?_) (fun c9 => ?_)
        · refine xr_iconst (v := 0) D_Rd_canStand_200 rfl ?_
          refine xr_zret rfl (by first | rfl | exact nar_b2 | exact nar_z hz) D_Rd_canStand_201 ?_
          first | exact ob_t (by grind) | exact ob_f (by grind)
        · refine xr_iconst (v := 1) D_Rd_canStand_196 rfl ?_
          refine xr_goto (tgt := 201) D_Rd_canStand_197 rfl ?_
          refine xr_zret rfl (by first | rfl | exact nar_b2 | exact nar_z hz) D_Rd_canStand_201 ?_
          first | exact ob_t (by grind) | exact ob_f (by grind)
      refine xr_tableOut2 (tgt := 202) (lo9 := 0) (hi9 := 4) D_Rd_canStand_27 (by grind) rfl rfl rfl ?_
      refine xr_iconst (v := 0) D_Rd_canStand_202 rfl ?_
      refine xr_zret rfl (by first | rfl | exact nar_b2 | exact nar_z hz) D_Rd_canStand_203 ?_
      first | exact ob_t (by grind) | exact ob_f (by grind)
