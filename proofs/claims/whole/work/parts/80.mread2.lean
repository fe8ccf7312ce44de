abbrev fgI (I : mI) : mI := upd (upd (upd (upd (upd (upd (upd I 3432 0) 3434 0) 3436 0) 3439 0) 3440 0) 3441 0) 3442 0
abbrev mrI (I : mI) : mI := upd (fgI (upd I 3400 0)) 3445 (I 3429)
def ic0 (Ic : mI) : Prop := Ic 2405 = 0 ∧ Ic 2406 = 0 ∧ Ic 2407 = 0 ∧ Ic 2409 = 0 ∧ Ic 2410 = 0 ∧ Ic 2411 = 0 ∧ Ic 3106 = 0 ∧ Ic 3107 = 0 ∧ Ic 3111 = -1 ∧ Ic 3113 = 0 ∧ Ic 2901 = 0
theorem rsI_0 (I : mI) : ic0 (rsI I) := ⟨rfl, rfl, rfl, rfl, rfl, rfl, rfl, rfl, rfl, rfl, rfl⟩
theorem isB_gat {u : Int32} {f : Nat → Int32} {C : List Int32} (h : isB u f C) {p : Int32} (h0 : 0 ≤ p) (h1 : p < u) : C[p.toNatClampNeg]? = some (gat u f p) := by
  have g0 := i_le.mp h0
  have g1 := i_lt.mp h1
  rw [z0] at g0
  have hu := h.1
  have h7 := h.2.1
  have e : p.toNatClampNeg = p.toInt.toNat := i_cl
  have hl : p.toNatClampNeg < C.length := by rw [e]; omega
  have q := h.2.2 _ _ (List.getElem?_eq_getElem hl)
  rw [List.getElem?_eq_getElem hl]
  unfold gat
  rw [if_pos ⟨h0, h1, i_lt.mpr (by rw [z7]; omega)⟩, q.1]
theorem RR0 {Ic I : mI} {Ac A : mA} {C : List Int32} (h0 : ic0 Ic) (hB : isB (Ic 2201) (Ac 23) C) (hM : isB (I 3429) (A 53) C) (hc : ∀ i, i < C.length → A 54 i = A 53 i) (hw : Ac 2 = A 41) : RR Ic Ac (upd (upd (upd (mrI I) 3444 0) 3443 0) 3446 (-1)) A 0 := by
  obtain ⟨a1, a2, a3, a4, a5, a6, a7, a8, a9, a10, a11⟩ := h0
  have e : Ic 2201 = I 3429 := i_eq.mpr (by rw [hB.1, hM.1])
  have h7 := hM.2.1
  have hu := hM.1
  have l7 : I 3429 ≤ 70000 := i_le.mpr (by rw [z7]; omega)
  have l0 : 0 ≤ I 3429 := i_le.mpr (by rw [z0]; omega)
  refine ⟨⟨e, l7, fun p p0 p1 => ?_, hw⟩, ⟨a8, (by decide : (0 : Int32) ≤ 0), l0, a7, (by decide : (0 : Int32) ≤ 0), (by decide : (0 : Int32) ≤ 4), a9, fun _ => rfl⟩, ⟨a1, (by decide : (0 : Int32) ≤ 0), (by decide : (0 : Int32) ≤ 2000), fun i hi => absurd hi (by show ¬ ((i : Int) < 6 * (0 : Int32).toInt); rw [z0]; omega)⟩, ⟨a2, (by decide : (0 : Int32) ≤ 0), (by decide : (0 : Int32) ≤ 1300), fun i hi => absurd hi (by show ¬ ((i : Int) < 10 * (0 : Int32).toInt); rw [z0]; omega)⟩, ⟨a3, (by decide : (0 : Int32) ≤ 0), (by decide : (0 : Int32) ≤ 256), fun i hi => absurd hi (by show ¬ ((i : Int) < (0 : Int32).toInt); rw [z0]; omega), fun i k hi => absurd hi (by show ¬ ((i : Int) < (0 : Int32).toInt); rw [z0]; omega)⟩, ⟨[], by rw [a11]; exact isB_0 _, by decide⟩, ⟨a4, a5, a6, fun q => absurd (show (3 : Int32) ≤ 0 from q) (by decide), fun q => absurd (show (1 : Int32) ≤ 0 from q) (by decide), fun _ => a10⟩, fun q => absurd (show (0 : Int32) = 2 from q) (by decide)⟩
  have p2 : p < Ic 2201 := by rw [e]; exact p1
  have q := isB_gat hB p0 p2
  have w := hM.2.2 _ _ q
  show gat (Ic 2201) (Ac 23) p = A 54 p.toNatClampNeg &&& 255
  rw [hc _ (List.getElem?_eq_some_iff.mp q).1, w.1]
def rdQ (I : mI) (A : mA) (L : mL) (r : Int32) (Ic' : mI) (Ac' : mA) : xO → Prop := fun o => ∃ (v : Int32) (I' : mI) (A' : mA), o = (.inl (some (.int v)), pic I' A' L) ∧ frI [3400, 3445, 3432, 3434, 3436, 3439, 3440, 3441, 3442, 3443, 3444, 3446, 3447, 3448, 3449, 3450] I I' ∧ frA [54, 55, 56, 57, 58, 59, 60] A A' ∧ I' 3400 = 0 ∧ I' 3445 = I 3429 ∧ ((¬ r = 0 ∧ v = 100000 * r + Ic' 3107 ∧ I' 3432 = 0 ∧ I' 3434 = 0 ∧ I' 3436 = 0 ∧ I' 3439 = 0 ∧ I' 3440 = 0 ∧ I' 3441 = 0 ∧ I' 3442 = 0) ∨ (r = 0 ∧ v = 0 ∧ RE Ic' Ac' I' A'))
theorem l_Mo_read {I : mI} {L : mL} {C : List Int32} {Q : xO → Prop} : ∀ (t j : Nat) (A : mA), j + t = C.length → isB (I 3429) (A 53) C → (∀ i, i < j → A 54 i = A 53 i) → (∀ A', frA [54] A A' → (∀ i, i < C.length → A' 54 i = A' 53 i) → xr m_Mo_read none (7, 156) 45 [some (.ref 34), some (.int (Int32.ofNat C.length))] [] (pic I A' L) 0 0 Q) → xr m_Mo_read none (7, 156) 19 [some (.ref 34), some (.int (Int32.ofNat j))] [] (pic I A L) 0 0 Q := by
  intro t
  induction t with
  | zero =>
    intro j A hj hB hc hq
    have hu := hB.1
    have hl := hB.2.1
    have ej : j = C.length := by omega
    subst ej
    refine xr_iload_n D_Mo_read_19 rfl rfl ?_
    refine xr_aload_n D_Mo_read_20 rfl rfl ?_
    refine xr_getf F_Mo_197 D_Mo_read_21 rfl rfl ?_
    refine xr_icmp_ge (tgt := 45) D_Mo_read_24 rfl (fun c1 => ?_) (fun c1 => ?_)
    · exact hq A frA_rf hc
    · exact absurd (show I 3429 ≤ Int32.ofNat C.length from i_le.mpr (by rw [i_of (by omega)]; omega)) c1
  | succ t ih =>
    intro j A hj hB hc hq
    have hu := hB.1
    have hl := hB.2.1
    have ej : (Int32.ofNat j).toNatClampNeg = j := by rw [i_cl, i_of (by omega)]; omega
    have hjl : j < C.length := by omega
    have hby := hB.2.2 j _ (List.getElem?_eq_getElem hjl)
    refine xr_iload_n D_Mo_read_19 rfl rfl ?_
    refine xr_aload_n D_Mo_read_20 rfl rfl ?_
    refine xr_getf F_Mo_197 D_Mo_read_21 rfl rfl ?_
    refine xr_icmp_ge (tgt := 45) D_Mo_read_24 rfl (fun c1 => ?_) (fun c1 => ?_)
    · exact absurd (show I 3429 ≤ Int32.ofNat j from c1) (fun q => by rw [i_le, i_of (by omega)] at q; omega)
    · refine xr_aload_n D_Mo_read_27 rfl rfl ?_
      refine xr_getf F_Mo_76 D_Mo_read_28 rfl rfl ?_
      refine xr_iload_n D_Mo_read_31 rfl rfl ?_
      refine xr_aload_n D_Mo_read_32 rfl rfl ?_
      refine xr_getf F_Mo_73 D_Mo_read_33 rfl rfl ?_
      refine xr_iload_n D_Mo_read_36 rfl rfl ?_
      refine xr_bald D_Mo_read_37 rfl (by exact i_in (by rw [i_of (by omega)]; omega) (by rw [i_of (by omega)]; omega)) ?_
      refine xr_bast D_Mo_read_38 rfl (by exact i_in (by rw [i_of (by omega)]; omega) (by rw [i_of (by omega)]; omega)) (aset_54) ?_
      refine xr_iinc (c9 := 1) D_Mo_read_39 rfl rfl (by decide) ?_
      refine xr_goto (tgt := 19) D_Mo_read_42 rfl ?_
      rw [io_succ]
      refine ih (j + 1) _ (by omega) hB (fun i hi => ?_) (fun A9 q1 q2 => hq A9 (frA_tr (frA_up (ks := [54]) List.mem_cons_self) q1 (fun _ h => h) (fun _ h => h)) q2)
      show upd (A 54) (Int32.ofNat j).toNatClampNeg _ i = A 53 i
      rw [ej]
      by_cases e : i = j
      · subst e
        rw [upd_s]
        exact by_id hby.2.1 hby.2.2
      · rw [upd_n e]; exact hc i (by omega)

abbrev FRS : List Nat := [3400, 3445, 3432, 3434, 3436, 3439, 3440, 3441, 3442, 3443, 3444, 3446, 3447, 3448, 3449, 3450]
theorem fr_rd {I I3 : mI} {k : Nat} (hk : k ∉ FRS) (k1 : frI [3432, 3434, 3436, 3439, 3440, 3441, 3442, 3443, 3444, 3446, 3447, 3448, 3449, 3450] (upd (upd (upd (mrI I) 3444 0) 3443 0) 3446 (-1)) I3) : I3 k = I k := by
  simp only [List.mem_cons, List.not_mem_nil, not_or, or_false] at hk
  obtain ⟨h0, h1, h2, h3, h4, h5, h6, h7, h8, h9, h10, h11, h12, h13, h14, h15⟩ := hk
  rw [k1 k (by simp only [List.mem_cons, List.not_mem_nil, or_false, not_or]; exact ⟨h2, h3, h4, h5, h6, h7, h8, h9, h10, h11, h12, h13, h14, h15⟩)]
  unfold mrI fgI
  rw [upd_n h11, upd_n h9, upd_n h10, upd_n h1, upd_n h8, upd_n h7, upd_n h6, upd_n h5, upd_n h4, upd_n h3, upd_n h2, upd_n h0]

theorem c_Mo_read_34 {Ic I : mI} {Ac A : mA} {L : mL} {r : Int32} {Ic' : mI} {Ac' : mA} {C : List Int32} (h0 : ic0 Ic) (hB : isB (Ic 2201) (Ac 23) C) (hM : isB (I 3429) (A 53) C) (hw : Ac 2 = A 41) (hr : rdC C.length Ic Ac r Ic' Ac') : xm m_Mo_read (7, 156) [.ref 34] (pic I A L) 0 0 (rdQ I A L r Ic' Ac') := by
  refine xm_of rfl (by decide) (Nat.le_of_ble_eq_true rfl) ?_
  refine xr_aload_n D_Mo_read_0 rfl rfl ?_
  refine xr_iconst (v := 0) D_Mo_read_1 rfl ?_
  refine xr_putf F_Mo_97 FT_Mo FN_Mo_0 D_Mo_read_2 rfl (Nat.le_of_ble_eq_true rfl) rfl rfl (pset_34_0) ?_
  refine xr_aload_n D_Mo_read_5 rfl rfl ?_
  refine xr_cVv (as := []) (c_Mo_forget_34) (L_Mo_341) (CD_Mo_forget) CI_Mo D_Mo_read_6 rfl rfl (by decide) (Nat.le_of_ble_eq_true rfl) (Nat.le_of_eq (Nat.zero_add _)) (Nat.le_of_eq (Nat.zero_add _)) pic_len ?_
  rintro _ rfl
  refine ⟨_, rfl, pic_leq, ?_⟩
  refine xr_aload_n D_Mo_read_9 rfl rfl ?_
  refine xr_aload_n D_Mo_read_10 rfl rfl ?_
  refine xr_getf F_Mo_197 D_Mo_read_11 rfl rfl ?_
  refine xr_putf F_Mo_206 FT_Mo FN_Mo_45 D_Mo_read_14 rfl (Nat.le_of_ble_eq_true rfl) rfl rfl (pset_34_45) ?_
  refine xr_iconst (v := 0) D_Mo_read_17 rfl ?_
  refine xr_istore_n D_Mo_read_18 rfl (by decide) ?_
  refine l_Mo_read (I := mrI I) C.length 0 A (by omega) hM (fun i hi => absurd hi (by omega)) (fun A1 q1 q2 => ?_)
  refine xr_aload_n D_Mo_read_45 rfl rfl ?_
  refine xr_cVx (as := []) (c_Mo_goThrough_34 (RR0 (I := I) h0 hB (by rw [q1 53 (by decide)]; exact hM) q2 (hw.trans (q1 41 (by decide)).symm)) (Int.le_of_eq hM.1) hr) (L_Mo_344) (CD_Mo_goThrough) CI_Mo D_Mo_read_46 rfl rfl (by decide) (Nat.le_of_ble_eq_true rfl) (Nat.le_of_eq (Nat.zero_add _)) (Nat.le_of_eq (Nat.zero_add _)) pic_len ?_
  rintro _ ⟨v, I3, A3, rfl, k1, k2, k3⟩
  refine ⟨_, _, rfl, pic_leq, ?_⟩
  refine xr_istore_n D_Mo_read_49 rfl (by decide) ?_
  refine xr_iload_n D_Mo_read_50 rfl rfl ?_
  refine xr_if_le (tgt := 58) D_Mo_read_51 rfl (fun c1 => ?_) (fun c1 => ?_)
  · refine xr_iload_n D_Mo_read_58 rfl rfl ?_
    refine xr_iret rfl D_Mo_read_59 ?_
    have hw0 : I3 3400 = 0 := k1 3400 (by decide)
    have hw5 : I3 3445 = I 3429 := k1 3445 (by decide)
    have f1 : frI FRS I I3 := fun k hk => ?f1
    case f1 => exact fr_rd hk k1
    have f2 : frA [54, 55, 56, 57, 58, 59, 60] A A3 := frA_tr q1 k2 (by decide) (by decide)
    rcases k3 with ⟨g1, g2, g3⟩ | ⟨g1, g2, g3⟩
    · exact absurd g3 (Int32.not_lt.mpr c1)
    · exact ⟨v, I3, A3, rfl, f1, f2, hw0, hw5, Or.inr ⟨g1, g2, g3⟩⟩
  · refine xr_aload_n D_Mo_read_54 rfl rfl ?_
    refine xr_cVv (as := []) (c_Mo_forget_34) (L_Mo_341) (CD_Mo_forget) CI_Mo D_Mo_read_55 rfl rfl (by decide) (Nat.le_of_ble_eq_true rfl) (Nat.le_of_eq (Nat.zero_add _)) (Nat.le_of_eq (Nat.zero_add _)) pic_len ?_
    rintro _ rfl
    refine ⟨_, rfl, pic_leq, ?_⟩
    refine xr_iload_n D_Mo_read_58 rfl rfl ?_
    refine xr_iret rfl D_Mo_read_59 ?_
    have hw0 : I3 3400 = 0 := k1 3400 (by decide)
    have hw5 : I3 3445 = I 3429 := k1 3445 (by decide)
    have f1 : frI FRS I I3 := fun k hk => ?f1
    case f1 => exact fr_rd hk k1
    have f2 : frA [54, 55, 56, 57, 58, 59, 60] A A3 := frA_tr q1 k2 (by decide) (by decide)
    rcases k3 with ⟨g1, g2, g3⟩ | ⟨g1, g2, g3⟩
    · exact ⟨v, fgI I3, A3, rfl, (by repeat (first | exact f1 | refine frI_u ?_ (by decide))), f2, hw0, hw5, Or.inl ⟨g1, g2, rfl, rfl, rfl, rfl, rfl, rfl, rfl⟩⟩
    · exact absurd (show v ≤ 0 by rw [g2]; decide) c1

