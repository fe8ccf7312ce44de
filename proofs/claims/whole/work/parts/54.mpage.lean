def isM (n : Int32) (od : Nat → Int32) (T : List Int32) : Prop := n.toInt = T.length ∧ T.Nodup ∧ (∀ (i : Nat) (x : Int32), T[i]? = some x → od i = x) ∧ (∀ x ∈ T, 0 ≤ x ∧ x ≤ 255)
theorem isM_lt {n : Int32} {od : Nat → Int32} {T : List Int32} {f : Int32} (h : isM n od T) (hf : 0 ≤ f ∧ f ≤ 255) (hm : f ∉ T) : 0 ≤ n ∧ n < 256 := by
  obtain ⟨h1, h2, h3, h4⟩ := h
  have h6 : (f :: T).length ≤ 256 := nd_len (List.nodup_cons.mpr ⟨hm, h2⟩) (fun x hx => by
    rcases List.mem_cons.mp hx with rfl | hx
    · exact hf
    · exact h4 x hx)
  rw [List.length_cons] at h6
  rw [i_le, i_lt, z0, show (256 : Int32).toInt = 256 from rfl]
  omega
theorem isM_le {n : Int32} {od : Nat → Int32} {T : List Int32} (h : isM n od T) : 0 ≤ n ∧ n ≤ 256 := by
  have h6 := nd_len h.2.1 h.2.2.2
  have h1 := h.1
  rw [i_le, i_le, z0, show (256 : Int32).toInt = 256 from rfl]
  omega
theorem isM_mem {n : Int32} {od : Nat → Int32} {T : List Int32} {f : Int32} (h : isM n od T) : cmF od f n.toInt.toNat 0 = true ↔ f ∈ T := by
  rw [h.1, Int.toNat_natCast]
  exact cmF_mem T 0 (fun i y hy => by rw [Nat.zero_add]; exact h.2.2.1 i y hy)
theorem isM_add {n : Int32} {od : Nat → Int32} {T : List Int32} {f : Int32} (h : isM n od T) (hf : 0 ≤ f ∧ f ≤ 255) (hm : f ∉ T) : isM (n + 1) (upd od n.toNatClampNeg f) (T ++ [f]) := by
  have hlt := isM_lt h hf hm
  obtain ⟨h1, h2, h3, h4⟩ := h
  rw [i_le, i_lt, z0, show (256 : Int32).toInt = 256 from rfl] at hlt
  refine ⟨?_, ?_, fun i x hx => ?_, fun x hx => ?_⟩
  · rw [i_add (by rw [z1]; omega) (by rw [z1]; omega), z1, h1]; simp
  · rw [List.nodup_append]
    refine ⟨h2, by simp, fun a ha b hb e => ?_⟩
    rw [List.mem_singleton] at hb
    rw [e, hb] at ha
    exact hm ha
  · by_cases hi : i = T.length
    · have e3 : n.toNatClampNeg = i := by rw [i_cl, h1, hi]; omega
      rw [e3, upd_s]
      rw [hi] at hx
      simp at hx
      exact hx
    · have hlt2 : i < T.length := by
        have := (List.getElem?_eq_some_iff.mp hx).1
        simp at this
        omega
      have e3 : i ≠ n.toNatClampNeg := by rw [i_cl, h1]; omega
      rw [upd_n e3]
      rw [List.getElem?_append_left hlt2] at hx
      exact h3 i x hx
  · rcases List.mem_append.mp hx with hx | hx
    · exact h4 x hx
    · rw [List.mem_singleton] at hx
      rw [hx]; exact hf
abbrev wmM (I : mI) (A : mA) (m : Int32) (F C H rt dn : Nat → Int32) (D : Int32 → List Int32) : Prop := I 3420 = m ∧ A 45 = F ∧ A 46 = C ∧ A 49 = H ∧ A 50 = rt ∧ A 51 = dn ∧ (∀ x, defM A x = D x) ∧ (∀ x : Int32, 0 ≤ x → x ≤ 255 → 0 ≤ A 39 x.toNatClampNeg ∧ A 39 x.toNatClampNeg ≤ 16)
theorem wmM_fr {I I' : mI} {A A' : mA} {m : Int32} {F C H rt dn : Nat → Int32} {D : Int32 → List Int32} (h : wmM I A m F C H rt dn D) (hI : frI [3409, 3418] I I') (hA : frA [43, 44, 60] A A') : wmM I' A' m F C H rt dn D := by
  obtain ⟨h1, h2, h3, h4, h5, h6, h7, h8⟩ := h
  refine ⟨(hI 3420 (by decide)).trans h1, (hA 45 (by decide)).trans h2, (hA 46 (by decide)).trans h3, (hA 49 (by decide)).trans h4, (hA 50 (by decide)).trans h5, (hA 51 (by decide)).trans h6, fun x => ?_, fun x => ?_⟩
  · rw [← h7 x]
    unfold defM
    rw [hA 36 (by decide), hA 37 (by decide), hA 38 (by decide), hA 39 (by decide), hA 40 (by decide)]
  · rw [hA 39 (by decide)]; exact h8 x
def pNM (I : mI) (A : mA) (L : mL) (B T : List Int32) : xO → Prop := fun o => ∃ I' A', o = (.inl none, pic I' A' L) ∧ frI [3409, 3418] I I' ∧ frA [43, 44, 60] A A' ∧ isO (I' 3409) (A' 43) B ∧ isM (I' 3418) (A' 44) T
theorem fIm {l : List Nat} {I I1 I2 : mI} (h : frI [3409, 3418] I I1) (k : frI l I1 I2) (hl : ∀ x ∈ l, x ∈ ([3409, 3418] : List Nat)) : frI [3409, 3418] I I2 := frI_tr h k (fun _ h => h) hl
theorem fAm {l : List Nat} {A A1 A2 : mA} (h : frA [43, 44, 60] A A1) (k : frA l A1 A2) (hl : ∀ x ∈ l, x ∈ ([43, 44, 60] : List Nat)) : frA [43, 44, 60] A A2 := frA_tr h k (fun _ h => h) hl
theorem pNM_tr {I I1 : mI} {A A1 : mA} {L : mL} {B B' T T' : List Int32} (h1 : frI [3409, 3418] I I1) (h2 : frA [43, 44, 60] A A1) (e : B = B') (e2 : T = T') : ∀ o, pNM I1 A1 L B T o → pNM I A L B' T' o := by
  rintro o ⟨I2, A2, rfl, k1, k2, k3, k4⟩
  subst e e2
  exact ⟨I2, A2, rfl, fIm h1 k1 (fun _ h => h), fAm h2 k2 (fun _ h => h), k3, k4⟩

set_option maxHeartbeats 4000000 in
theorem l_Mo_wm {L : mL} {m : Int32} {F C H rt dn : Nat → Int32} {D : Int32 → List Int32} {n : Nat} (hn : n ≤ 500) (hmn : m.toInt = (n : Int)) (hF : ∀ k, k < n → F k = -1 ∨ (0 ≤ F k ∧ F k ≤ 255)) (hDl : ∀ x : Int32, 0 ≤ x → x ≤ 255 → (D x).length ≤ 32) : ∀ (t j : Nat) (I : mI) (A : mA) (B T : List Int32) (hd : Int32) (x1 x4 : Option Value), j + t = n → wmM I A m F C H rt dn D → isO (I 3409) (A 43) B → isM (I 3418) (A 44) T → B.length + 50 * t + 10 ≤ 131072 → xr m_Mo_writePage none (3, 71) 87 [some (.ref 34), x1, some (.int hd), some (.int (Int32.ofNat j)), x4] [] (pic I A L) 0 0 (pNM I A L (B ++ ((pgR dn rt (cmN n dn) (cmN n rt) F C H D t j (A 60 4) (A 60 5) (A 60 2) (A 60 3) hd T).1 ++ [142 &&& 255, 140 &&& 255])) (pgR dn rt (cmN n dn) (cmN n rt) F C H D t j (A 60 4) (A 60 5) (A 60 2) (A 60 3) hd T).2) := by
  intro t
  induction t with
  | zero =>
    intro j I A B T hd x1 x4 hj w0 hB t0 hl
    have f0 : frI [3409] I I := frI_rf
    have a0 : frA [43] A A := frA_rf
    refine xr_iload_n D_Mo_writePage_87 rfl rfl ?_
    refine xr_aload_n D_Mo_writePage_88 rfl rfl ?_
    refine xr_getf F_Mo_119 D_Mo_writePage_89 rfl rfl ?_
    refine xr_icmp_ge (tgt := 281) D_Mo_writePage_92 rfl (fun c1 => ?_) (fun c1 => ?_)
    · refine xr_aload_n D_Mo_writePage_281 rfl rfl ?_
      refine xr_sipush (v := 142) D_Mo_writePage_282 rfl ?_
      refine xr_cVv (as := [_]) (n_Mo_lay (by omega) hB) (L_Mo_150) (CD_Mo_lay) CI_Mo D_Mo_writePage_285 rfl rfl (by decide) (Nat.le_of_ble_eq_true rfl) (Nat.le_of_eq (Nat.zero_add _)) (Nat.le_of_eq (Nat.zero_add _)) pic_len ?_
      rintro _ ⟨I1, A1, rfl, hI1, hA1, hB1⟩
      refine ⟨_, rfl, pic_leq, ?_⟩
      refine xr_aload_n D_Mo_writePage_288 rfl rfl ?_
      refine xr_sipush (v := 140) D_Mo_writePage_289 rfl ?_
      refine xr_cVv (as := [_]) (n_Mo_lay (by simp; omega) hB1) (L_Mo_150) (CD_Mo_lay) CI_Mo D_Mo_writePage_292 rfl rfl (by decide) (Nat.le_of_ble_eq_true rfl) (Nat.le_of_eq (Nat.zero_add _)) (Nat.le_of_eq (Nat.zero_add _)) pic_len ?_
      rintro _ ⟨I2, A2, rfl, hI2, hA2, hB2⟩
      refine ⟨_, rfl, pic_leq, ?_⟩
      refine xr_vret rfl D_Mo_writePage_295 ?_
      have f9 := frI_tr (ks := [3409]) hI1 hI2 (fun _ h => h) (fun _ h => h)
      have a9 := frA_tr (ks := [43]) hA1 hA2 (fun _ h => h) (fun _ h => h)
      refine ⟨_, _, rfl, frI_tr (ks := [3409, 3418]) f9 (frI_rf (ks := [])) (by decide) (by decide), frA_tr (ks := [43, 44, 60]) a9 (frA_rf (ks := [])) (by decide) (by decide), ?_, by rw [f9 3418 (by decide), a9 44 (by decide)]; exact t0⟩
      have hz := hB2
      rw [List.append_assoc] at hz
      exact hz
    · exact absurd (show I 3420 ≤ Int32.ofNat j from i_le.mpr (by rw [w0.1, hmn, i_of (by omega)]; omega)) c1
  | succ t ih =>
    intro j I A B T hd x1 x4 hj w0 hB t0 hl
    have ej : (Int32.ofNat j).toNatClampNeg = j := by rw [i_cl, i_of (by omega)]; omega
    have hb : vp_in (Int32.ofNat j) 500 := i_in (by rw [i_of (by omega)]; omega) (by rw [i_of (by omega)]; omega)
    have f0 : frI [3409, 3418] I I := frI_rf
    have a0 : frA [43, 44, 60] A A := frA_rf
    have hq32 : 0 ≤ F j → F j ≤ 255 → (D (F j)).length ≤ 32 := fun a b => hDl _ a b
    refine xr_iload_n D_Mo_writePage_87 rfl rfl ?_
    refine xr_aload_n D_Mo_writePage_88 rfl rfl ?_
    refine xr_getf F_Mo_119 D_Mo_writePage_89 rfl rfl ?_
    refine xr_icmp_ge (tgt := 281) D_Mo_writePage_92 rfl (fun c1 => ?_) (fun c1 => ?_)
    · exact absurd (show I 3420 ≤ Int32.ofNat j from c1) (fun q => by rw [i_le, w0.1, hmn, i_of (by omega)] at q; omega)
    · refine xr_aload_n D_Mo_writePage_95 rfl rfl ?_
      refine xr_aload_n D_Mo_writePage_96 rfl rfl ?_
      refine xr_getf F_Mo_66 D_Mo_writePage_97 rfl rfl ?_
      refine xr_iload_n D_Mo_writePage_100 rfl rfl ?_
      refine xr_sipush (v := 157) D_Mo_writePage_101 rfl ?_
      refine xr_iconst (v := 4) D_Mo_writePage_104 rfl ?_
      refine xr_cVv (as := [_, _, _, _]) (c_Mo_move_51 hn (show (I 3420).toInt = (n : Int) by rw [w0.1]; exact hmn) (show j < n by omega) (by omega) hB) (L_Mo_182) (CD_Mo_move) CI_Mo D_Mo_writePage_105 rfl rfl (by decide) (Nat.le_of_ble_eq_true rfl) (Nat.le_of_eq (Nat.zero_add _)) (Nat.le_of_eq (Nat.zero_add _)) pic_len ?_
      rintro _ ⟨I1, A1, rfl, hI1, hA1, hB1, ya1, za1, xa1⟩
      refine ⟨_, rfl, pic_leq, ?_⟩
      have f1 := fIm f0 hI1 (by decide)
      have a1 := fAm a0 hA1 (by decide)
      have w1 := wmM_fr w0 f1 a1
      have t1 : isM (I1 3418) (A1 44) T := by rw [hI1 3418 (by decide), hA1 44 (by decide)]; exact t0
      rw [w0.2.2.2.2.2.1] at hB1 ya1 za1
      refine xr_aload_n D_Mo_writePage_108 rfl rfl ?_
      refine xr_aload_n D_Mo_writePage_109 rfl rfl ?_
      refine xr_getf F_Mo_63 D_Mo_writePage_110 rfl rfl ?_
      refine xr_iload_n D_Mo_writePage_113 rfl rfl ?_
      refine xr_sipush (v := 143) D_Mo_writePage_114 rfl ?_
      refine xr_iconst (v := 2) D_Mo_writePage_117 rfl ?_
      refine xr_cVv (as := [_, _, _, _]) (c_Mo_move_50 hn (show (I1 3420).toInt = (n : Int) by rw [w1.1]; exact hmn) (show j < n by omega) (by have q := mvS_len (p := 157) (d := dn j) (a := A 60 4) (b := A 60 5) (c := cmN n dn j); rw [List.length_append]; omega) hB1) (L_Mo_182) (CD_Mo_move) CI_Mo D_Mo_writePage_118 rfl rfl (by decide) (Nat.le_of_ble_eq_true rfl) (Nat.le_of_eq (Nat.zero_add _)) (Nat.le_of_eq (Nat.zero_add _)) pic_len ?_
      rintro _ ⟨I2, A2, rfl, hI2, hA2, hB2, ya2, za2, xa2⟩
      refine ⟨_, rfl, pic_leq, ?_⟩
      have f2 := fIm f1 hI2 (by decide)
      have a2 := fAm a1 hA2 (by decide)
      have w2 := wmM_fr w0 f2 a2
      have t2 : isM (I2 3418) (A2 44) T := by rw [hI2 3418 (by decide), hA2 44 (by decide)]; exact t1
      rw [w1.2.2.2.2.1, xa1 2 (by decide) (by decide), xa1 3 (by decide) (by decide)] at hB2 ya2 za2
      have v2 : A2 60 4 = (mvS 157 (dn j) (A 60 4) (A 60 5) (cmN n dn j)).2.1 ∧ A2 60 5 = (mvS 157 (dn j) (A 60 4) (A 60 5) (cmN n dn j)).2.2 ∧ A2 60 2 = (mvS 143 (rt j) (A 60 2) (A 60 3) (cmN n rt j)).2.1 ∧ A2 60 3 = (mvS 143 (rt j) (A 60 2) (A 60 3) (cmN n rt j)).2.2 := ⟨(xa2 4 (by decide) (by decide)).trans ya1, (xa2 5 (by decide) (by decide)).trans za1, ya2, za2⟩
      have l2 : (B ++ (mvS 157 (dn j) (A 60 4) (A 60 5) (cmN n dn j)).1 ++ (mvS 143 (rt j) (A 60 2) (A 60 3) (cmN n rt j)).1).length ≤ B.length + 10 := by have q1 := mvS_len (p := 157) (d := dn j) (a := A 60 4) (b := A 60 5) (c := cmN n dn j); have q2 := mvS_len (p := 143) (d := rt j) (a := A 60 2) (b := A 60 3) (c := cmN n rt j); simp only [List.length_append]; omega
      refine xr_aload_n D_Mo_writePage_121 rfl rfl ?_
      refine xr_getf F_Mo_48 D_Mo_writePage_122 rfl rfl ?_
      refine xr_iload_n D_Mo_writePage_125 rfl rfl ?_
      refine xr_iald D_Mo_writePage_126 rfl (by exact hb) ?_
      rw [w2.2.1, ej]
      refine xr_istore D_Mo_writePage_127 (by decide) ?_
      refine xr_iload D_Mo_writePage_129 rfl ?_
      refine xr_if_ge (tgt := 166) D_Mo_writePage_131 rfl (fun c2 => ?_) (fun c2 => ?_)
      · have hfr : 0 ≤ F j ∧ F j ≤ 255 := (hF j (by omega)).resolve_left (fun q => absurd (show (0 : Int32) ≤ -1 by rw [← q]; exact c2) (by decide))
        have hq33 := hq32 hfr.1 hfr.2
        have hnr : ¬ F j = -1 := fun q => absurd (show (0 : Int32) ≤ -1 by rw [← q]; exact hfr.1) (by decide)
        refine xr_iload D_Mo_writePage_166 rfl ?_
        refine xr_iload_n D_Mo_writePage_168 rfl rfl ?_
        refine xr_icmp_eq (tgt := 247) D_Mo_writePage_169 rfl (fun c3 => ?_) (fun c3 => ?_)
        · refine xr_aload_n D_Mo_writePage_247 rfl rfl ?_
          refine xr_getf F_Mo_51 D_Mo_writePage_248 rfl rfl ?_
          refine xr_iload_n D_Mo_writePage_251 rfl rfl ?_
          refine xr_iald D_Mo_writePage_252 rfl (by exact hb) ?_
          rw [w2.2.2.1, ej]
          refine xr_bipush (v := 127) D_Mo_writePage_253 rfl ?_
          refine xr_icmp_le (tgt := 265) D_Mo_writePage_255 rfl (fun c4 => ?_) (fun c4 => ?_)
          · refine xr_aload_n D_Mo_writePage_265 rfl rfl ?_
            refine xr_aload_n D_Mo_writePage_266 rfl rfl ?_
            refine xr_getf F_Mo_51 D_Mo_writePage_267 rfl rfl ?_
            refine xr_iload_n D_Mo_writePage_270 rfl rfl ?_
            refine xr_iald D_Mo_writePage_271 rfl (by exact hb) ?_
            rw [w2.2.2.1, ej]
            refine xr_cVv (as := [_]) (n_Mo_lay (by have q := l2; first | omega | (simp only [List.length_append, List.length_cons, List.length_nil, numB_len] at q ⊢; omega)) hB2) (L_Mo_150) (CD_Mo_lay) CI_Mo D_Mo_writePage_272 rfl rfl (by decide) (Nat.le_of_ble_eq_true rfl) (Nat.le_of_eq (Nat.zero_add _)) (Nat.le_of_eq (Nat.zero_add _)) pic_len ?_
            rintro _ ⟨I3, A3, rfl, hI3, hA3, hB3⟩
            refine ⟨_, rfl, pic_leq, ?_⟩
            have f3 := fIm f2 hI3 (by decide)
            have a3 := fAm a2 hA3 (by decide)
            have w3 := wmM_fr w0 f3 a3
            have t3 : isM (I3 3418) (A3 44) T := by rw [hI3 3418 (by decide), hA3 44 (by decide)]; exact t2
            have v3 : A3 60 4 = (mvS 157 (dn j) (A 60 4) (A 60 5) (cmN n dn j)).2.1 ∧ A3 60 5 = (mvS 157 (dn j) (A 60 4) (A 60 5) (cmN n dn j)).2.2 ∧ A3 60 2 = (mvS 143 (rt j) (A 60 2) (A 60 3) (cmN n rt j)).2.1 ∧ A3 60 3 = (mvS 143 (rt j) (A 60 2) (A 60 3) (cmN n rt j)).2.2 := by rw [hA3 60 (by decide)]; exact v2
            refine xr_iinc (c9 := 1) D_Mo_writePage_275 rfl rfl (by decide) ?_
            refine xr_goto (tgt := 87) D_Mo_writePage_278 rfl ?_
            have ecs : csel (C j) = [C j &&& 255] := if_neg (by grind)
            rw [io_succ]
            refine xr_mono (ih (j + 1) _ _ _ _ _ _ _ (by omega) w3 hB3 t3 (by have q := l2; first | omega | (simp only [List.length_append, List.length_cons, List.length_nil, numB_len] at q ⊢; omega))) (pNM_tr f3 a3 ?_ ?_)
            · rw [v3.1, v3.2.1, v3.2.2.1, v3.2.2.2, pgR_c hnr]
              simp only [List.append_assoc, List.cons_append, List.nil_append, fnS, c3, if_true, ecs]
            · rw [v3.1, v3.2.1, v3.2.2.1, v3.2.2.2, pgR_c hnr]
              simp only [fnS, c3, if_true]
          · refine xr_aload_n D_Mo_writePage_258 rfl rfl ?_
            refine xr_sipush (v := 128) D_Mo_writePage_259 rfl ?_
            refine xr_cVv (as := [_]) (n_Mo_lay (by have q := l2; first | omega | (simp only [List.length_append, List.length_cons, List.length_nil, numB_len] at q ⊢; omega)) hB2) (L_Mo_150) (CD_Mo_lay) CI_Mo D_Mo_writePage_262 rfl rfl (by decide) (Nat.le_of_ble_eq_true rfl) (Nat.le_of_eq (Nat.zero_add _)) (Nat.le_of_eq (Nat.zero_add _)) pic_len ?_
            rintro _ ⟨I4, A4, rfl, hI4, hA4, hB4⟩
            refine ⟨_, rfl, pic_leq, ?_⟩
            have f4 := fIm f2 hI4 (by decide)
            have a4 := fAm a2 hA4 (by decide)
            have w4 := wmM_fr w0 f4 a4
            have t4 : isM (I4 3418) (A4 44) T := by rw [hI4 3418 (by decide), hA4 44 (by decide)]; exact t2
            have v4 : A4 60 4 = (mvS 157 (dn j) (A 60 4) (A 60 5) (cmN n dn j)).2.1 ∧ A4 60 5 = (mvS 157 (dn j) (A 60 4) (A 60 5) (cmN n dn j)).2.2 ∧ A4 60 2 = (mvS 143 (rt j) (A 60 2) (A 60 3) (cmN n rt j)).2.1 ∧ A4 60 3 = (mvS 143 (rt j) (A 60 2) (A 60 3) (cmN n rt j)).2.2 := by rw [hA4 60 (by decide)]; exact v2
            refine xr_aload_n D_Mo_writePage_265 rfl rfl ?_
            refine xr_aload_n D_Mo_writePage_266 rfl rfl ?_
            refine xr_getf F_Mo_51 D_Mo_writePage_267 rfl rfl ?_
            refine xr_iload_n D_Mo_writePage_270 rfl rfl ?_
            refine xr_iald D_Mo_writePage_271 rfl (by exact hb) ?_
            rw [w4.2.2.1, ej]
            refine xr_cVv (as := [_]) (n_Mo_lay (by have q := l2; first | omega | (simp only [List.length_append, List.length_cons, List.length_nil, numB_len] at q ⊢; omega)) hB4) (L_Mo_150) (CD_Mo_lay) CI_Mo D_Mo_writePage_272 rfl rfl (by decide) (Nat.le_of_ble_eq_true rfl) (Nat.le_of_eq (Nat.zero_add _)) (Nat.le_of_eq (Nat.zero_add _)) pic_len ?_
            rintro _ ⟨I5, A5, rfl, hI5, hA5, hB5⟩
            refine ⟨_, rfl, pic_leq, ?_⟩
            have f5 := fIm f4 hI5 (by decide)
            have a5 := fAm a4 hA5 (by decide)
            have w5 := wmM_fr w0 f5 a5
            have t5 : isM (I5 3418) (A5 44) T := by rw [hI5 3418 (by decide), hA5 44 (by decide)]; exact t4
            have v5 : A5 60 4 = (mvS 157 (dn j) (A 60 4) (A 60 5) (cmN n dn j)).2.1 ∧ A5 60 5 = (mvS 157 (dn j) (A 60 4) (A 60 5) (cmN n dn j)).2.2 ∧ A5 60 2 = (mvS 143 (rt j) (A 60 2) (A 60 3) (cmN n rt j)).2.1 ∧ A5 60 3 = (mvS 143 (rt j) (A 60 2) (A 60 3) (cmN n rt j)).2.2 := by rw [hA5 60 (by decide)]; exact v4
            refine xr_iinc (c9 := 1) D_Mo_writePage_275 rfl rfl (by decide) ?_
            refine xr_goto (tgt := 87) D_Mo_writePage_278 rfl ?_
            have ecs : csel (C j) = [128 &&& 255, C j &&& 255] := if_pos (by grind)
            rw [io_succ]
            refine xr_mono (ih (j + 1) _ _ _ _ _ _ _ (by omega) w5 hB5 t5 (by have q := l2; first | omega | (simp only [List.length_append, List.length_cons, List.length_nil, numB_len] at q ⊢; omega))) (pNM_tr f5 a5 ?_ ?_)
            · rw [v5.1, v5.2.1, v5.2.2.1, v5.2.2.2, pgR_c hnr]
              simp only [List.append_assoc, List.cons_append, List.nil_append, fnS, c3, if_true, ecs]
            · rw [v5.1, v5.2.1, v5.2.2.1, v5.2.2.2, pgR_c hnr]
              simp only [fnS, c3, if_true]
        · refine xr_aload_n D_Mo_writePage_172 rfl rfl ?_
          refine xr_iload D_Mo_writePage_173 rfl ?_
          refine xr_cVx (as := [_]) (c_Mo_isTold_34 (isM_le t2).1 (isM_le t2).2) (L_Mo_113) (CD_Mo_isTold) CI_Mo D_Mo_writePage_175 rfl rfl (by decide) (Nat.le_of_ble_eq_true rfl) (Nat.le_of_eq (Nat.zero_add _)) (Nat.le_of_eq (Nat.zero_add _)) pic_len ?_
          rintro _ rfl
          refine ⟨_, _, rfl, pic_leq, ?_⟩
          rw [b2_iff (isM_mem t2)]
          refine xr_if_ne (tgt := 208) D_Mo_writePage_178 rfl (fun c4 => ?_) (fun c4 => ?_)
          · rw [b2_n] at c4
            refine xr_aload_n D_Mo_writePage_208 rfl rfl ?_
            refine xr_iload D_Mo_writePage_209 rfl ?_
            refine xr_bipush (v := 64) D_Mo_writePage_211 rfl ?_
            refine xr_icmp_ge (tgt := 225) D_Mo_writePage_213 rfl (fun c5 => ?_) (fun c5 => ?_)
            · refine xr_sipush (v := 235) D_Mo_writePage_225 rfl ?_
              refine xr_cVv (as := [_]) (n_Mo_lay (by have q := l2; first | omega | (simp only [List.length_append, List.length_cons, List.length_nil, numB_len] at q ⊢; omega)) hB2) (L_Mo_150) (CD_Mo_lay) CI_Mo D_Mo_writePage_228 rfl rfl (by decide) (Nat.le_of_ble_eq_true rfl) (Nat.le_of_eq (Nat.zero_add _)) (Nat.le_of_eq (Nat.zero_add _)) pic_len ?_
              rintro _ ⟨I7, A7, rfl, hI7, hA7, hB7⟩
              refine ⟨_, rfl, pic_leq, ?_⟩
              have f7 := fIm f2 hI7 (by decide)
              have a7 := fAm a2 hA7 (by decide)
              have w7 := wmM_fr w0 f7 a7
              have t7 : isM (I7 3418) (A7 44) T := by rw [hI7 3418 (by decide), hA7 44 (by decide)]; exact t2
              have v7 : A7 60 4 = (mvS 157 (dn j) (A 60 4) (A 60 5) (cmN n dn j)).2.1 ∧ A7 60 5 = (mvS 157 (dn j) (A 60 4) (A 60 5) (cmN n dn j)).2.2 ∧ A7 60 2 = (mvS 143 (rt j) (A 60 2) (A 60 3) (cmN n rt j)).2.1 ∧ A7 60 3 = (mvS 143 (rt j) (A 60 2) (A 60 3) (cmN n rt j)).2.2 := by rw [hA7 60 (by decide)]; exact v2
              refine xr_iload D_Mo_writePage_231 rfl ?_
              refine xr_bipush (v := 63) D_Mo_writePage_233 rfl ?_
              refine xr_icmp_le (tgt := 244) D_Mo_writePage_235 rfl (fun c6 => ?_) (fun c6 => ?_)
              · refine xr_iload D_Mo_writePage_244 rfl ?_
                refine xr_istore_n D_Mo_writePage_246 rfl (by decide) ?_
                refine xr_aload_n D_Mo_writePage_247 rfl rfl ?_
                refine xr_getf F_Mo_51 D_Mo_writePage_248 rfl rfl ?_
                refine xr_iload_n D_Mo_writePage_251 rfl rfl ?_
                refine xr_iald D_Mo_writePage_252 rfl (by exact hb) ?_
                rw [w7.2.2.1, ej]
                refine xr_bipush (v := 127) D_Mo_writePage_253 rfl ?_
                refine xr_icmp_le (tgt := 265) D_Mo_writePage_255 rfl (fun c7 => ?_) (fun c7 => ?_)
                · refine xr_aload_n D_Mo_writePage_265 rfl rfl ?_
                  refine xr_aload_n D_Mo_writePage_266 rfl rfl ?_
                  refine xr_getf F_Mo_51 D_Mo_writePage_267 rfl rfl ?_
                  refine xr_iload_n D_Mo_writePage_270 rfl rfl ?_
                  refine xr_iald D_Mo_writePage_271 rfl (by exact hb) ?_
                  rw [w7.2.2.1, ej]
                  refine xr_cVv (as := [_]) (n_Mo_lay (by have q := l2; first | omega | (simp only [List.length_append, List.length_cons, List.length_nil, numB_len] at q ⊢; omega)) hB7) (L_Mo_150) (CD_Mo_lay) CI_Mo D_Mo_writePage_272 rfl rfl (by decide) (Nat.le_of_ble_eq_true rfl) (Nat.le_of_eq (Nat.zero_add _)) (Nat.le_of_eq (Nat.zero_add _)) pic_len ?_
                  rintro _ ⟨I8, A8, rfl, hI8, hA8, hB8⟩
                  refine ⟨_, rfl, pic_leq, ?_⟩
                  have f8 := fIm f7 hI8 (by decide)
                  have a8 := fAm a7 hA8 (by decide)
                  have w8 := wmM_fr w0 f8 a8
                  have t8 : isM (I8 3418) (A8 44) T := by rw [hI8 3418 (by decide), hA8 44 (by decide)]; exact t7
                  have v8 : A8 60 4 = (mvS 157 (dn j) (A 60 4) (A 60 5) (cmN n dn j)).2.1 ∧ A8 60 5 = (mvS 157 (dn j) (A 60 4) (A 60 5) (cmN n dn j)).2.2 ∧ A8 60 2 = (mvS 143 (rt j) (A 60 2) (A 60 3) (cmN n rt j)).2.1 ∧ A8 60 3 = (mvS 143 (rt j) (A 60 2) (A 60 3) (cmN n rt j)).2.2 := by rw [hA8 60 (by decide)]; exact v7
                  refine xr_iinc (c9 := 1) D_Mo_writePage_275 rfl rfl (by decide) ?_
                  refine xr_goto (tgt := 87) D_Mo_writePage_278 rfl ?_
                  exfalso; grind
                · refine xr_aload_n D_Mo_writePage_258 rfl rfl ?_
                  refine xr_sipush (v := 128) D_Mo_writePage_259 rfl ?_
                  refine xr_cVv (as := [_]) (n_Mo_lay (by have q := l2; first | omega | (simp only [List.length_append, List.length_cons, List.length_nil, numB_len] at q ⊢; omega)) hB7) (L_Mo_150) (CD_Mo_lay) CI_Mo D_Mo_writePage_262 rfl rfl (by decide) (Nat.le_of_ble_eq_true rfl) (Nat.le_of_eq (Nat.zero_add _)) (Nat.le_of_eq (Nat.zero_add _)) pic_len ?_
                  rintro _ ⟨I9, A9, rfl, hI9, hA9, hB9⟩
                  refine ⟨_, rfl, pic_leq, ?_⟩
                  have f9 := fIm f7 hI9 (by decide)
                  have a9 := fAm a7 hA9 (by decide)
                  have w9 := wmM_fr w0 f9 a9
                  have t9 : isM (I9 3418) (A9 44) T := by rw [hI9 3418 (by decide), hA9 44 (by decide)]; exact t7
                  have v9 : A9 60 4 = (mvS 157 (dn j) (A 60 4) (A 60 5) (cmN n dn j)).2.1 ∧ A9 60 5 = (mvS 157 (dn j) (A 60 4) (A 60 5) (cmN n dn j)).2.2 ∧ A9 60 2 = (mvS 143 (rt j) (A 60 2) (A 60 3) (cmN n rt j)).2.1 ∧ A9 60 3 = (mvS 143 (rt j) (A 60 2) (A 60 3) (cmN n rt j)).2.2 := by rw [hA9 60 (by decide)]; exact v7
                  refine xr_aload_n D_Mo_writePage_265 rfl rfl ?_
                  refine xr_aload_n D_Mo_writePage_266 rfl rfl ?_
                  refine xr_getf F_Mo_51 D_Mo_writePage_267 rfl rfl ?_
                  refine xr_iload_n D_Mo_writePage_270 rfl rfl ?_
                  refine xr_iald D_Mo_writePage_271 rfl (by exact hb) ?_
                  rw [w9.2.2.1, ej]
                  refine xr_cVv (as := [_]) (n_Mo_lay (by have q := l2; first | omega | (simp only [List.length_append, List.length_cons, List.length_nil, numB_len] at q ⊢; omega)) hB9) (L_Mo_150) (CD_Mo_lay) CI_Mo D_Mo_writePage_272 rfl rfl (by decide) (Nat.le_of_ble_eq_true rfl) (Nat.le_of_eq (Nat.zero_add _)) (Nat.le_of_eq (Nat.zero_add _)) pic_len ?_
                  rintro _ ⟨I10, A10, rfl, hI10, hA10, hB10⟩
                  refine ⟨_, rfl, pic_leq, ?_⟩
                  have f10 := fIm f9 hI10 (by decide)
                  have a10 := fAm a9 hA10 (by decide)
                  have w10 := wmM_fr w0 f10 a10
                  have t10 : isM (I10 3418) (A10 44) T := by rw [hI10 3418 (by decide), hA10 44 (by decide)]; exact t9
                  have v10 : A10 60 4 = (mvS 157 (dn j) (A 60 4) (A 60 5) (cmN n dn j)).2.1 ∧ A10 60 5 = (mvS 157 (dn j) (A 60 4) (A 60 5) (cmN n dn j)).2.2 ∧ A10 60 2 = (mvS 143 (rt j) (A 60 2) (A 60 3) (cmN n rt j)).2.1 ∧ A10 60 3 = (mvS 143 (rt j) (A 60 2) (A 60 3) (cmN n rt j)).2.2 := by rw [hA10 60 (by decide)]; exact v9
                  refine xr_iinc (c9 := 1) D_Mo_writePage_275 rfl rfl (by decide) ?_
                  refine xr_goto (tgt := 87) D_Mo_writePage_278 rfl ?_
                  exfalso; grind
              · refine xr_aload_n D_Mo_writePage_238 rfl rfl ?_
                refine xr_iload D_Mo_writePage_239 rfl ?_
                refine xr_cVv (as := [_]) (n_Mo_lay (by have q := l2; first | omega | (simp only [List.length_append, List.length_cons, List.length_nil, numB_len] at q ⊢; omega)) hB7) (L_Mo_150) (CD_Mo_lay) CI_Mo D_Mo_writePage_241 rfl rfl (by decide) (Nat.le_of_ble_eq_true rfl) (Nat.le_of_eq (Nat.zero_add _)) (Nat.le_of_eq (Nat.zero_add _)) pic_len ?_
                rintro _ ⟨I11, A11, rfl, hI11, hA11, hB11⟩
                refine ⟨_, rfl, pic_leq, ?_⟩
                have f11 := fIm f7 hI11 (by decide)
                have a11 := fAm a7 hA11 (by decide)
                have w11 := wmM_fr w0 f11 a11
                have t11 : isM (I11 3418) (A11 44) T := by rw [hI11 3418 (by decide), hA11 44 (by decide)]; exact t7
                have v11 : A11 60 4 = (mvS 157 (dn j) (A 60 4) (A 60 5) (cmN n dn j)).2.1 ∧ A11 60 5 = (mvS 157 (dn j) (A 60 4) (A 60 5) (cmN n dn j)).2.2 ∧ A11 60 2 = (mvS 143 (rt j) (A 60 2) (A 60 3) (cmN n rt j)).2.1 ∧ A11 60 3 = (mvS 143 (rt j) (A 60 2) (A 60 3) (cmN n rt j)).2.2 := by rw [hA11 60 (by decide)]; exact v7
                refine xr_iload D_Mo_writePage_244 rfl ?_
                refine xr_istore_n D_Mo_writePage_246 rfl (by decide) ?_
                refine xr_aload_n D_Mo_writePage_247 rfl rfl ?_
                refine xr_getf F_Mo_51 D_Mo_writePage_248 rfl rfl ?_
                refine xr_iload_n D_Mo_writePage_251 rfl rfl ?_
                refine xr_iald D_Mo_writePage_252 rfl (by exact hb) ?_
                rw [w11.2.2.1, ej]
                refine xr_bipush (v := 127) D_Mo_writePage_253 rfl ?_
                refine xr_icmp_le (tgt := 265) D_Mo_writePage_255 rfl (fun c7 => ?_) (fun c7 => ?_)
                · refine xr_aload_n D_Mo_writePage_265 rfl rfl ?_
                  refine xr_aload_n D_Mo_writePage_266 rfl rfl ?_
                  refine xr_getf F_Mo_51 D_Mo_writePage_267 rfl rfl ?_
                  refine xr_iload_n D_Mo_writePage_270 rfl rfl ?_
                  refine xr_iald D_Mo_writePage_271 rfl (by exact hb) ?_
                  rw [w11.2.2.1, ej]
                  refine xr_cVv (as := [_]) (n_Mo_lay (by have q := l2; first | omega | (simp only [List.length_append, List.length_cons, List.length_nil, numB_len] at q ⊢; omega)) hB11) (L_Mo_150) (CD_Mo_lay) CI_Mo D_Mo_writePage_272 rfl rfl (by decide) (Nat.le_of_ble_eq_true rfl) (Nat.le_of_eq (Nat.zero_add _)) (Nat.le_of_eq (Nat.zero_add _)) pic_len ?_
                  rintro _ ⟨I12, A12, rfl, hI12, hA12, hB12⟩
                  refine ⟨_, rfl, pic_leq, ?_⟩
                  have f12 := fIm f11 hI12 (by decide)
                  have a12 := fAm a11 hA12 (by decide)
                  have w12 := wmM_fr w0 f12 a12
                  have t12 : isM (I12 3418) (A12 44) T := by rw [hI12 3418 (by decide), hA12 44 (by decide)]; exact t11
                  have v12 : A12 60 4 = (mvS 157 (dn j) (A 60 4) (A 60 5) (cmN n dn j)).2.1 ∧ A12 60 5 = (mvS 157 (dn j) (A 60 4) (A 60 5) (cmN n dn j)).2.2 ∧ A12 60 2 = (mvS 143 (rt j) (A 60 2) (A 60 3) (cmN n rt j)).2.1 ∧ A12 60 3 = (mvS 143 (rt j) (A 60 2) (A 60 3) (cmN n rt j)).2.2 := by rw [hA12 60 (by decide)]; exact v11
                  refine xr_iinc (c9 := 1) D_Mo_writePage_275 rfl rfl (by decide) ?_
                  refine xr_goto (tgt := 87) D_Mo_writePage_278 rfl ?_
                  have ecs : csel (C j) = [C j &&& 255] := if_neg (by grind)
                  have efs : fsel (F j) = [235 &&& 255, F j &&& 255] := if_neg (by grind)
                  rw [io_succ]
                  refine xr_mono (ih (j + 1) _ _ _ _ _ _ _ (by omega) w12 hB12 t12 (by have q := l2; first | omega | (simp only [List.length_append, List.length_cons, List.length_nil, numB_len] at q ⊢; omega))) (pNM_tr f12 a12 ?_ ?_)
                  · rw [v12.1, v12.2.1, v12.2.2.1, v12.2.2.2, pgR_c hnr]
                    simp only [List.append_assoc, List.cons_append, List.nil_append, fnS, if_neg c3, if_pos c4, ecs, efs]
                  · rw [v12.1, v12.2.1, v12.2.2.1, v12.2.2.2, pgR_c hnr]
                    simp only [fnS, if_neg c3, if_pos c4]
                · refine xr_aload_n D_Mo_writePage_258 rfl rfl ?_
                  refine xr_sipush (v := 128) D_Mo_writePage_259 rfl ?_
                  refine xr_cVv (as := [_]) (n_Mo_lay (by have q := l2; first | omega | (simp only [List.length_append, List.length_cons, List.length_nil, numB_len] at q ⊢; omega)) hB11) (L_Mo_150) (CD_Mo_lay) CI_Mo D_Mo_writePage_262 rfl rfl (by decide) (Nat.le_of_ble_eq_true rfl) (Nat.le_of_eq (Nat.zero_add _)) (Nat.le_of_eq (Nat.zero_add _)) pic_len ?_
                  rintro _ ⟨I13, A13, rfl, hI13, hA13, hB13⟩
                  refine ⟨_, rfl, pic_leq, ?_⟩
                  have f13 := fIm f11 hI13 (by decide)
                  have a13 := fAm a11 hA13 (by decide)
                  have w13 := wmM_fr w0 f13 a13
                  have t13 : isM (I13 3418) (A13 44) T := by rw [hI13 3418 (by decide), hA13 44 (by decide)]; exact t11
                  have v13 : A13 60 4 = (mvS 157 (dn j) (A 60 4) (A 60 5) (cmN n dn j)).2.1 ∧ A13 60 5 = (mvS 157 (dn j) (A 60 4) (A 60 5) (cmN n dn j)).2.2 ∧ A13 60 2 = (mvS 143 (rt j) (A 60 2) (A 60 3) (cmN n rt j)).2.1 ∧ A13 60 3 = (mvS 143 (rt j) (A 60 2) (A 60 3) (cmN n rt j)).2.2 := by rw [hA13 60 (by decide)]; exact v11
                  refine xr_aload_n D_Mo_writePage_265 rfl rfl ?_
                  refine xr_aload_n D_Mo_writePage_266 rfl rfl ?_
                  refine xr_getf F_Mo_51 D_Mo_writePage_267 rfl rfl ?_
                  refine xr_iload_n D_Mo_writePage_270 rfl rfl ?_
                  refine xr_iald D_Mo_writePage_271 rfl (by exact hb) ?_
                  rw [w13.2.2.1, ej]
                  refine xr_cVv (as := [_]) (n_Mo_lay (by have q := l2; first | omega | (simp only [List.length_append, List.length_cons, List.length_nil, numB_len] at q ⊢; omega)) hB13) (L_Mo_150) (CD_Mo_lay) CI_Mo D_Mo_writePage_272 rfl rfl (by decide) (Nat.le_of_ble_eq_true rfl) (Nat.le_of_eq (Nat.zero_add _)) (Nat.le_of_eq (Nat.zero_add _)) pic_len ?_
                  rintro _ ⟨I14, A14, rfl, hI14, hA14, hB14⟩
                  refine ⟨_, rfl, pic_leq, ?_⟩
                  have f14 := fIm f13 hI14 (by decide)
                  have a14 := fAm a13 hA14 (by decide)
                  have w14 := wmM_fr w0 f14 a14
                  have t14 : isM (I14 3418) (A14 44) T := by rw [hI14 3418 (by decide), hA14 44 (by decide)]; exact t13
                  have v14 : A14 60 4 = (mvS 157 (dn j) (A 60 4) (A 60 5) (cmN n dn j)).2.1 ∧ A14 60 5 = (mvS 157 (dn j) (A 60 4) (A 60 5) (cmN n dn j)).2.2 ∧ A14 60 2 = (mvS 143 (rt j) (A 60 2) (A 60 3) (cmN n rt j)).2.1 ∧ A14 60 3 = (mvS 143 (rt j) (A 60 2) (A 60 3) (cmN n rt j)).2.2 := by rw [hA14 60 (by decide)]; exact v13
                  refine xr_iinc (c9 := 1) D_Mo_writePage_275 rfl rfl (by decide) ?_
                  refine xr_goto (tgt := 87) D_Mo_writePage_278 rfl ?_
                  have ecs : csel (C j) = [128 &&& 255, C j &&& 255] := if_pos (by grind)
                  have efs : fsel (F j) = [235 &&& 255, F j &&& 255] := if_neg (by grind)
                  rw [io_succ]
                  refine xr_mono (ih (j + 1) _ _ _ _ _ _ _ (by omega) w14 hB14 t14 (by have q := l2; first | omega | (simp only [List.length_append, List.length_cons, List.length_nil, numB_len] at q ⊢; omega))) (pNM_tr f14 a14 ?_ ?_)
                  · rw [v14.1, v14.2.1, v14.2.2.1, v14.2.2.2, pgR_c hnr]
                    simp only [List.append_assoc, List.cons_append, List.nil_append, fnS, if_neg c3, if_pos c4, ecs, efs]
                  · rw [v14.1, v14.2.1, v14.2.2.1, v14.2.2.2, pgR_c hnr]
                    simp only [fnS, if_neg c3, if_pos c4]
            · refine xr_sipush (v := 171) D_Mo_writePage_216 rfl ?_
              refine xr_iload D_Mo_writePage_219 rfl ?_
              refine xr_iadd D_Mo_writePage_221 ?_
              refine xr_goto (tgt := 228) D_Mo_writePage_222 rfl ?_
              refine xr_cVv (as := [_]) (n_Mo_lay (by have q := l2; first | omega | (simp only [List.length_append, List.length_cons, List.length_nil, numB_len] at q ⊢; omega)) hB2) (L_Mo_150) (CD_Mo_lay) CI_Mo D_Mo_writePage_228 rfl rfl (by decide) (Nat.le_of_ble_eq_true rfl) (Nat.le_of_eq (Nat.zero_add _)) (Nat.le_of_eq (Nat.zero_add _)) pic_len ?_
              rintro _ ⟨I15, A15, rfl, hI15, hA15, hB15⟩
              refine ⟨_, rfl, pic_leq, ?_⟩
              have f15 := fIm f2 hI15 (by decide)
              have a15 := fAm a2 hA15 (by decide)
              have w15 := wmM_fr w0 f15 a15
              have t15 : isM (I15 3418) (A15 44) T := by rw [hI15 3418 (by decide), hA15 44 (by decide)]; exact t2
              have v15 : A15 60 4 = (mvS 157 (dn j) (A 60 4) (A 60 5) (cmN n dn j)).2.1 ∧ A15 60 5 = (mvS 157 (dn j) (A 60 4) (A 60 5) (cmN n dn j)).2.2 ∧ A15 60 2 = (mvS 143 (rt j) (A 60 2) (A 60 3) (cmN n rt j)).2.1 ∧ A15 60 3 = (mvS 143 (rt j) (A 60 2) (A 60 3) (cmN n rt j)).2.2 := by rw [hA15 60 (by decide)]; exact v2
              refine xr_iload D_Mo_writePage_231 rfl ?_
              refine xr_bipush (v := 63) D_Mo_writePage_233 rfl ?_
              refine xr_icmp_le (tgt := 244) D_Mo_writePage_235 rfl (fun c6 => ?_) (fun c6 => ?_)
              · refine xr_iload D_Mo_writePage_244 rfl ?_
                refine xr_istore_n D_Mo_writePage_246 rfl (by decide) ?_
                refine xr_aload_n D_Mo_writePage_247 rfl rfl ?_
                refine xr_getf F_Mo_51 D_Mo_writePage_248 rfl rfl ?_
                refine xr_iload_n D_Mo_writePage_251 rfl rfl ?_
                refine xr_iald D_Mo_writePage_252 rfl (by exact hb) ?_
                rw [w15.2.2.1, ej]
                refine xr_bipush (v := 127) D_Mo_writePage_253 rfl ?_
                refine xr_icmp_le (tgt := 265) D_Mo_writePage_255 rfl (fun c7 => ?_) (fun c7 => ?_)
                · refine xr_aload_n D_Mo_writePage_265 rfl rfl ?_
                  refine xr_aload_n D_Mo_writePage_266 rfl rfl ?_
                  refine xr_getf F_Mo_51 D_Mo_writePage_267 rfl rfl ?_
                  refine xr_iload_n D_Mo_writePage_270 rfl rfl ?_
                  refine xr_iald D_Mo_writePage_271 rfl (by exact hb) ?_
                  rw [w15.2.2.1, ej]
                  refine xr_cVv (as := [_]) (n_Mo_lay (by have q := l2; first | omega | (simp only [List.length_append, List.length_cons, List.length_nil, numB_len] at q ⊢; omega)) hB15) (L_Mo_150) (CD_Mo_lay) CI_Mo D_Mo_writePage_272 rfl rfl (by decide) (Nat.le_of_ble_eq_true rfl) (Nat.le_of_eq (Nat.zero_add _)) (Nat.le_of_eq (Nat.zero_add _)) pic_len ?_
                  rintro _ ⟨I16, A16, rfl, hI16, hA16, hB16⟩
                  refine ⟨_, rfl, pic_leq, ?_⟩
                  have f16 := fIm f15 hI16 (by decide)
                  have a16 := fAm a15 hA16 (by decide)
                  have w16 := wmM_fr w0 f16 a16
                  have t16 : isM (I16 3418) (A16 44) T := by rw [hI16 3418 (by decide), hA16 44 (by decide)]; exact t15
                  have v16 : A16 60 4 = (mvS 157 (dn j) (A 60 4) (A 60 5) (cmN n dn j)).2.1 ∧ A16 60 5 = (mvS 157 (dn j) (A 60 4) (A 60 5) (cmN n dn j)).2.2 ∧ A16 60 2 = (mvS 143 (rt j) (A 60 2) (A 60 3) (cmN n rt j)).2.1 ∧ A16 60 3 = (mvS 143 (rt j) (A 60 2) (A 60 3) (cmN n rt j)).2.2 := by rw [hA16 60 (by decide)]; exact v15
                  refine xr_iinc (c9 := 1) D_Mo_writePage_275 rfl rfl (by decide) ?_
                  refine xr_goto (tgt := 87) D_Mo_writePage_278 rfl ?_
                  have ecs : csel (C j) = [C j &&& 255] := if_neg (by grind)
                  have efs : fsel (F j) = [(171 + F j) &&& 255] := if_pos (by grind)
                  rw [io_succ]
                  refine xr_mono (ih (j + 1) _ _ _ _ _ _ _ (by omega) w16 hB16 t16 (by have q := l2; first | omega | (simp only [List.length_append, List.length_cons, List.length_nil, numB_len] at q ⊢; omega))) (pNM_tr f16 a16 ?_ ?_)
                  · rw [v16.1, v16.2.1, v16.2.2.1, v16.2.2.2, pgR_c hnr]
                    simp only [List.append_assoc, List.cons_append, List.nil_append, fnS, if_neg c3, if_pos c4, ecs, efs]
                  · rw [v16.1, v16.2.1, v16.2.2.1, v16.2.2.2, pgR_c hnr]
                    simp only [fnS, if_neg c3, if_pos c4]
                · refine xr_aload_n D_Mo_writePage_258 rfl rfl ?_
                  refine xr_sipush (v := 128) D_Mo_writePage_259 rfl ?_
                  refine xr_cVv (as := [_]) (n_Mo_lay (by have q := l2; first | omega | (simp only [List.length_append, List.length_cons, List.length_nil, numB_len] at q ⊢; omega)) hB15) (L_Mo_150) (CD_Mo_lay) CI_Mo D_Mo_writePage_262 rfl rfl (by decide) (Nat.le_of_ble_eq_true rfl) (Nat.le_of_eq (Nat.zero_add _)) (Nat.le_of_eq (Nat.zero_add _)) pic_len ?_
                  rintro _ ⟨I17, A17, rfl, hI17, hA17, hB17⟩
                  refine ⟨_, rfl, pic_leq, ?_⟩
                  have f17 := fIm f15 hI17 (by decide)
                  have a17 := fAm a15 hA17 (by decide)
                  have w17 := wmM_fr w0 f17 a17
                  have t17 : isM (I17 3418) (A17 44) T := by rw [hI17 3418 (by decide), hA17 44 (by decide)]; exact t15
                  have v17 : A17 60 4 = (mvS 157 (dn j) (A 60 4) (A 60 5) (cmN n dn j)).2.1 ∧ A17 60 5 = (mvS 157 (dn j) (A 60 4) (A 60 5) (cmN n dn j)).2.2 ∧ A17 60 2 = (mvS 143 (rt j) (A 60 2) (A 60 3) (cmN n rt j)).2.1 ∧ A17 60 3 = (mvS 143 (rt j) (A 60 2) (A 60 3) (cmN n rt j)).2.2 := by rw [hA17 60 (by decide)]; exact v15
                  refine xr_aload_n D_Mo_writePage_265 rfl rfl ?_
                  refine xr_aload_n D_Mo_writePage_266 rfl rfl ?_
                  refine xr_getf F_Mo_51 D_Mo_writePage_267 rfl rfl ?_
                  refine xr_iload_n D_Mo_writePage_270 rfl rfl ?_
                  refine xr_iald D_Mo_writePage_271 rfl (by exact hb) ?_
                  rw [w17.2.2.1, ej]
                  refine xr_cVv (as := [_]) (n_Mo_lay (by have q := l2; first | omega | (simp only [List.length_append, List.length_cons, List.length_nil, numB_len] at q ⊢; omega)) hB17) (L_Mo_150) (CD_Mo_lay) CI_Mo D_Mo_writePage_272 rfl rfl (by decide) (Nat.le_of_ble_eq_true rfl) (Nat.le_of_eq (Nat.zero_add _)) (Nat.le_of_eq (Nat.zero_add _)) pic_len ?_
                  rintro _ ⟨I18, A18, rfl, hI18, hA18, hB18⟩
                  refine ⟨_, rfl, pic_leq, ?_⟩
                  have f18 := fIm f17 hI18 (by decide)
                  have a18 := fAm a17 hA18 (by decide)
                  have w18 := wmM_fr w0 f18 a18
                  have t18 : isM (I18 3418) (A18 44) T := by rw [hI18 3418 (by decide), hA18 44 (by decide)]; exact t17
                  have v18 : A18 60 4 = (mvS 157 (dn j) (A 60 4) (A 60 5) (cmN n dn j)).2.1 ∧ A18 60 5 = (mvS 157 (dn j) (A 60 4) (A 60 5) (cmN n dn j)).2.2 ∧ A18 60 2 = (mvS 143 (rt j) (A 60 2) (A 60 3) (cmN n rt j)).2.1 ∧ A18 60 3 = (mvS 143 (rt j) (A 60 2) (A 60 3) (cmN n rt j)).2.2 := by rw [hA18 60 (by decide)]; exact v17
                  refine xr_iinc (c9 := 1) D_Mo_writePage_275 rfl rfl (by decide) ?_
                  refine xr_goto (tgt := 87) D_Mo_writePage_278 rfl ?_
                  have ecs : csel (C j) = [128 &&& 255, C j &&& 255] := if_pos (by grind)
                  have efs : fsel (F j) = [(171 + F j) &&& 255] := if_pos (by grind)
                  rw [io_succ]
                  refine xr_mono (ih (j + 1) _ _ _ _ _ _ _ (by omega) w18 hB18 t18 (by have q := l2; first | omega | (simp only [List.length_append, List.length_cons, List.length_nil, numB_len] at q ⊢; omega))) (pNM_tr f18 a18 ?_ ?_)
                  · rw [v18.1, v18.2.1, v18.2.2.1, v18.2.2.2, pgR_c hnr]
                    simp only [List.append_assoc, List.cons_append, List.nil_append, fnS, if_neg c3, if_pos c4, ecs, efs]
                  · rw [v18.1, v18.2.1, v18.2.2.1, v18.2.2.2, pgR_c hnr]
                    simp only [fnS, if_neg c3, if_pos c4]
              · refine xr_aload_n D_Mo_writePage_238 rfl rfl ?_
                refine xr_iload D_Mo_writePage_239 rfl ?_
                refine xr_cVv (as := [_]) (n_Mo_lay (by have q := l2; first | omega | (simp only [List.length_append, List.length_cons, List.length_nil, numB_len] at q ⊢; omega)) hB15) (L_Mo_150) (CD_Mo_lay) CI_Mo D_Mo_writePage_241 rfl rfl (by decide) (Nat.le_of_ble_eq_true rfl) (Nat.le_of_eq (Nat.zero_add _)) (Nat.le_of_eq (Nat.zero_add _)) pic_len ?_
                rintro _ ⟨I19, A19, rfl, hI19, hA19, hB19⟩
                refine ⟨_, rfl, pic_leq, ?_⟩
                have f19 := fIm f15 hI19 (by decide)
                have a19 := fAm a15 hA19 (by decide)
                have w19 := wmM_fr w0 f19 a19
                have t19 : isM (I19 3418) (A19 44) T := by rw [hI19 3418 (by decide), hA19 44 (by decide)]; exact t15
                have v19 : A19 60 4 = (mvS 157 (dn j) (A 60 4) (A 60 5) (cmN n dn j)).2.1 ∧ A19 60 5 = (mvS 157 (dn j) (A 60 4) (A 60 5) (cmN n dn j)).2.2 ∧ A19 60 2 = (mvS 143 (rt j) (A 60 2) (A 60 3) (cmN n rt j)).2.1 ∧ A19 60 3 = (mvS 143 (rt j) (A 60 2) (A 60 3) (cmN n rt j)).2.2 := by rw [hA19 60 (by decide)]; exact v15
                refine xr_iload D_Mo_writePage_244 rfl ?_
                refine xr_istore_n D_Mo_writePage_246 rfl (by decide) ?_
                refine xr_aload_n D_Mo_writePage_247 rfl rfl ?_
                refine xr_getf F_Mo_51 D_Mo_writePage_248 rfl rfl ?_
                refine xr_iload_n D_Mo_writePage_251 rfl rfl ?_
                refine xr_iald D_Mo_writePage_252 rfl (by exact hb) ?_
                rw [w19.2.2.1, ej]
                refine xr_bipush (v := 127) D_Mo_writePage_253 rfl ?_
                refine xr_icmp_le (tgt := 265) D_Mo_writePage_255 rfl (fun c7 => ?_) (fun c7 => ?_)
                · refine xr_aload_n D_Mo_writePage_265 rfl rfl ?_
                  refine xr_aload_n D_Mo_writePage_266 rfl rfl ?_
                  refine xr_getf F_Mo_51 D_Mo_writePage_267 rfl rfl ?_
                  refine xr_iload_n D_Mo_writePage_270 rfl rfl ?_
                  refine xr_iald D_Mo_writePage_271 rfl (by exact hb) ?_
                  rw [w19.2.2.1, ej]
                  refine xr_cVv (as := [_]) (n_Mo_lay (by have q := l2; first | omega | (simp only [List.length_append, List.length_cons, List.length_nil, numB_len] at q ⊢; omega)) hB19) (L_Mo_150) (CD_Mo_lay) CI_Mo D_Mo_writePage_272 rfl rfl (by decide) (Nat.le_of_ble_eq_true rfl) (Nat.le_of_eq (Nat.zero_add _)) (Nat.le_of_eq (Nat.zero_add _)) pic_len ?_
                  rintro _ ⟨I20, A20, rfl, hI20, hA20, hB20⟩
                  refine ⟨_, rfl, pic_leq, ?_⟩
                  have f20 := fIm f19 hI20 (by decide)
                  have a20 := fAm a19 hA20 (by decide)
                  have w20 := wmM_fr w0 f20 a20
                  have t20 : isM (I20 3418) (A20 44) T := by rw [hI20 3418 (by decide), hA20 44 (by decide)]; exact t19
                  have v20 : A20 60 4 = (mvS 157 (dn j) (A 60 4) (A 60 5) (cmN n dn j)).2.1 ∧ A20 60 5 = (mvS 157 (dn j) (A 60 4) (A 60 5) (cmN n dn j)).2.2 ∧ A20 60 2 = (mvS 143 (rt j) (A 60 2) (A 60 3) (cmN n rt j)).2.1 ∧ A20 60 3 = (mvS 143 (rt j) (A 60 2) (A 60 3) (cmN n rt j)).2.2 := by rw [hA20 60 (by decide)]; exact v19
                  refine xr_iinc (c9 := 1) D_Mo_writePage_275 rfl rfl (by decide) ?_
                  refine xr_goto (tgt := 87) D_Mo_writePage_278 rfl ?_
                  exfalso; grind
                · refine xr_aload_n D_Mo_writePage_258 rfl rfl ?_
                  refine xr_sipush (v := 128) D_Mo_writePage_259 rfl ?_
                  refine xr_cVv (as := [_]) (n_Mo_lay (by have q := l2; first | omega | (simp only [List.length_append, List.length_cons, List.length_nil, numB_len] at q ⊢; omega)) hB19) (L_Mo_150) (CD_Mo_lay) CI_Mo D_Mo_writePage_262 rfl rfl (by decide) (Nat.le_of_ble_eq_true rfl) (Nat.le_of_eq (Nat.zero_add _)) (Nat.le_of_eq (Nat.zero_add _)) pic_len ?_
                  rintro _ ⟨I21, A21, rfl, hI21, hA21, hB21⟩
                  refine ⟨_, rfl, pic_leq, ?_⟩
                  have f21 := fIm f19 hI21 (by decide)
                  have a21 := fAm a19 hA21 (by decide)
                  have w21 := wmM_fr w0 f21 a21
                  have t21 : isM (I21 3418) (A21 44) T := by rw [hI21 3418 (by decide), hA21 44 (by decide)]; exact t19
                  have v21 : A21 60 4 = (mvS 157 (dn j) (A 60 4) (A 60 5) (cmN n dn j)).2.1 ∧ A21 60 5 = (mvS 157 (dn j) (A 60 4) (A 60 5) (cmN n dn j)).2.2 ∧ A21 60 2 = (mvS 143 (rt j) (A 60 2) (A 60 3) (cmN n rt j)).2.1 ∧ A21 60 3 = (mvS 143 (rt j) (A 60 2) (A 60 3) (cmN n rt j)).2.2 := by rw [hA21 60 (by decide)]; exact v19
                  refine xr_aload_n D_Mo_writePage_265 rfl rfl ?_
                  refine xr_aload_n D_Mo_writePage_266 rfl rfl ?_
                  refine xr_getf F_Mo_51 D_Mo_writePage_267 rfl rfl ?_
                  refine xr_iload_n D_Mo_writePage_270 rfl rfl ?_
                  refine xr_iald D_Mo_writePage_271 rfl (by exact hb) ?_
                  rw [w21.2.2.1, ej]
                  refine xr_cVv (as := [_]) (n_Mo_lay (by have q := l2; first | omega | (simp only [List.length_append, List.length_cons, List.length_nil, numB_len] at q ⊢; omega)) hB21) (L_Mo_150) (CD_Mo_lay) CI_Mo D_Mo_writePage_272 rfl rfl (by decide) (Nat.le_of_ble_eq_true rfl) (Nat.le_of_eq (Nat.zero_add _)) (Nat.le_of_eq (Nat.zero_add _)) pic_len ?_
                  rintro _ ⟨I22, A22, rfl, hI22, hA22, hB22⟩
                  refine ⟨_, rfl, pic_leq, ?_⟩
                  have f22 := fIm f21 hI22 (by decide)
                  have a22 := fAm a21 hA22 (by decide)
                  have w22 := wmM_fr w0 f22 a22
                  have t22 : isM (I22 3418) (A22 44) T := by rw [hI22 3418 (by decide), hA22 44 (by decide)]; exact t21
                  have v22 : A22 60 4 = (mvS 157 (dn j) (A 60 4) (A 60 5) (cmN n dn j)).2.1 ∧ A22 60 5 = (mvS 157 (dn j) (A 60 4) (A 60 5) (cmN n dn j)).2.2 ∧ A22 60 2 = (mvS 143 (rt j) (A 60 2) (A 60 3) (cmN n rt j)).2.1 ∧ A22 60 3 = (mvS 143 (rt j) (A 60 2) (A 60 3) (cmN n rt j)).2.2 := by rw [hA22 60 (by decide)]; exact v21
                  refine xr_iinc (c9 := 1) D_Mo_writePage_275 rfl rfl (by decide) ?_
                  refine xr_goto (tgt := 87) D_Mo_writePage_278 rfl ?_
                  exfalso; grind
          · rw [b2_0] at c4
            refine xr_aload_n D_Mo_writePage_181 rfl rfl ?_
            refine xr_iload D_Mo_writePage_182 rfl ?_
            refine xr_cVv (as := [_]) (c_Mo_define_34 hfr (w2.2.2.2.2.2.2.2 _ hfr.1 hfr.2).1 (w2.2.2.2.2.2.2.2 _ hfr.1 hfr.2).2 (by have q := l2; first | omega | (simp only [List.length_append, List.length_cons, List.length_nil, numB_len] at q ⊢; omega)) hB2) (L_Mo_186) (CD_Mo_define) CI_Mo D_Mo_writePage_184 rfl rfl (by decide) (Nat.le_of_ble_eq_true rfl) (Nat.le_of_eq (Nat.zero_add _)) (Nat.le_of_eq (Nat.zero_add _)) pic_len ?_
            rintro _ ⟨I23, A23, rfl, hI23, hA23, hB23⟩
            refine ⟨_, rfl, pic_leq, ?_⟩
            have f23 := fIm f2 hI23 (by decide)
            have a23 := fAm a2 hA23 (by decide)
            have w23 := wmM_fr w0 f23 a23
            have t23 : isM (I23 3418) (A23 44) T := by rw [hI23 3418 (by decide), hA23 44 (by decide)]; exact t2
            have v23 : A23 60 4 = (mvS 157 (dn j) (A 60 4) (A 60 5) (cmN n dn j)).2.1 ∧ A23 60 5 = (mvS 157 (dn j) (A 60 4) (A 60 5) (cmN n dn j)).2.2 ∧ A23 60 2 = (mvS 143 (rt j) (A 60 2) (A 60 3) (cmN n rt j)).2.1 ∧ A23 60 3 = (mvS 143 (rt j) (A 60 2) (A 60 3) (cmN n rt j)).2.2 := by rw [hA23 60 (by decide)]; exact v2
            rw [w2.2.2.2.2.2.2.1] at hB23
            have hm9 := isM_lt t23 hfr c4
            refine xr_aload_n D_Mo_writePage_187 rfl rfl ?_
            refine xr_getf F_Mo_45 D_Mo_writePage_188 rfl rfl ?_
            refine xr_aload_n D_Mo_writePage_191 rfl rfl ?_
            refine xr_getf F_Mo_100 D_Mo_writePage_192 rfl rfl ?_
            refine xr_iload D_Mo_writePage_195 rfl ?_
            refine xr_iast D_Mo_writePage_197 rfl (by exact i_in2 256 hm9.1 hm9.2 rfl) (aset_44) ?_
            refine xr_aload_n D_Mo_writePage_198 rfl rfl ?_
            refine xr_dup D_Mo_writePage_199 rfl ?_
            refine xr_getf F_Mo_100 D_Mo_writePage_200 rfl rfl ?_
            refine xr_iconst (v := 1) D_Mo_writePage_203 rfl ?_
            refine xr_iadd D_Mo_writePage_204 ?_
            refine xr_putf F_Mo_100 FT_Mo FN_Mo_18 D_Mo_writePage_205 rfl (Nat.le_of_ble_eq_true rfl) rfl rfl (pset_34_18) ?_
            have t80 : isM ((upd I23 3418 (I23 3418 + 1)) 3418) ((upA A23 44 (I23 3418).toNatClampNeg (F j)) 44) (T ++ [F j]) := isM_add t23 hfr c4
            have hI80 : frI [3418] I23 (upd I23 3418 (I23 3418 + 1)) := frI_up (by decide)
            have hA80 : frA [44] A23 (upA A23 44 (I23 3418).toNatClampNeg (F j)) := frA_up (by decide)
            have v80 : (upA A23 44 (I23 3418).toNatClampNeg (F j)) 60 4 = (mvS 157 (dn j) (A 60 4) (A 60 5) (cmN n dn j)).2.1 ∧ (upA A23 44 (I23 3418).toNatClampNeg (F j)) 60 5 = (mvS 157 (dn j) (A 60 4) (A 60 5) (cmN n dn j)).2.2 ∧ (upA A23 44 (I23 3418).toNatClampNeg (F j)) 60 2 = (mvS 143 (rt j) (A 60 2) (A 60 3) (cmN n rt j)).2.1 ∧ (upA A23 44 (I23 3418).toNatClampNeg (F j)) 60 3 = (mvS 143 (rt j) (A 60 2) (A 60 3) (cmN n rt j)).2.2 := v23
            have hB80 : isO ((upd I23 3418 (I23 3418 + 1)) 3409) ((upA A23 44 (I23 3418).toNatClampNeg (F j)) 43) _ := hB23
            generalize hgI : upd I23 3418 (I23 3418 + 1) = I80 at hI80 t80 hB80 ⊢
            generalize hgA : upA A23 44 (I23 3418).toNatClampNeg (F j) = A80 at hA80 t80 v80 hB80 ⊢
            have f80 := fIm f23 hI80 (by decide)
            have a80 := fAm a23 hA80 (by decide)
            have w80 := wmM_fr w0 f80 a80
            refine xr_aload_n D_Mo_writePage_208 rfl rfl ?_
            refine xr_iload D_Mo_writePage_209 rfl ?_
            refine xr_bipush (v := 64) D_Mo_writePage_211 rfl ?_
            refine xr_icmp_ge (tgt := 225) D_Mo_writePage_213 rfl (fun c5 => ?_) (fun c5 => ?_)
            · refine xr_sipush (v := 235) D_Mo_writePage_225 rfl ?_
              refine xr_cVv (as := [_]) (n_Mo_lay (by have q := l2; first | omega | (simp only [List.length_append, List.length_cons, List.length_nil, numB_len] at q ⊢; omega)) hB80) (L_Mo_150) (CD_Mo_lay) CI_Mo D_Mo_writePage_228 rfl rfl (by decide) (Nat.le_of_ble_eq_true rfl) (Nat.le_of_eq (Nat.zero_add _)) (Nat.le_of_eq (Nat.zero_add _)) pic_len ?_
              rintro _ ⟨I24, A24, rfl, hI24, hA24, hB24⟩
              refine ⟨_, rfl, pic_leq, ?_⟩
              have f24 := fIm f80 hI24 (by decide)
              have a24 := fAm a80 hA24 (by decide)
              have w24 := wmM_fr w0 f24 a24
              have t24 : isM (I24 3418) (A24 44) (T ++ [F j]) := by rw [hI24 3418 (by decide), hA24 44 (by decide)]; exact t80
              have v24 : A24 60 4 = (mvS 157 (dn j) (A 60 4) (A 60 5) (cmN n dn j)).2.1 ∧ A24 60 5 = (mvS 157 (dn j) (A 60 4) (A 60 5) (cmN n dn j)).2.2 ∧ A24 60 2 = (mvS 143 (rt j) (A 60 2) (A 60 3) (cmN n rt j)).2.1 ∧ A24 60 3 = (mvS 143 (rt j) (A 60 2) (A 60 3) (cmN n rt j)).2.2 := by rw [hA24 60 (by decide)]; exact v80
              refine xr_iload D_Mo_writePage_231 rfl ?_
              refine xr_bipush (v := 63) D_Mo_writePage_233 rfl ?_
              refine xr_icmp_le (tgt := 244) D_Mo_writePage_235 rfl (fun c6 => ?_) (fun c6 => ?_)
              · refine xr_iload D_Mo_writePage_244 rfl ?_
                refine xr_istore_n D_Mo_writePage_246 rfl (by decide) ?_
                refine xr_aload_n D_Mo_writePage_247 rfl rfl ?_
                refine xr_getf F_Mo_51 D_Mo_writePage_248 rfl rfl ?_
                refine xr_iload_n D_Mo_writePage_251 rfl rfl ?_
                refine xr_iald D_Mo_writePage_252 rfl (by exact hb) ?_
                rw [w24.2.2.1, ej]
                refine xr_bipush (v := 127) D_Mo_writePage_253 rfl ?_
                refine xr_icmp_le (tgt := 265) D_Mo_writePage_255 rfl (fun c7 => ?_) (fun c7 => ?_)
                · refine xr_aload_n D_Mo_writePage_265 rfl rfl ?_
                  refine xr_aload_n D_Mo_writePage_266 rfl rfl ?_
                  refine xr_getf F_Mo_51 D_Mo_writePage_267 rfl rfl ?_
                  refine xr_iload_n D_Mo_writePage_270 rfl rfl ?_
                  refine xr_iald D_Mo_writePage_271 rfl (by exact hb) ?_
                  rw [w24.2.2.1, ej]
                  refine xr_cVv (as := [_]) (n_Mo_lay (by have q := l2; first | omega | (simp only [List.length_append, List.length_cons, List.length_nil, numB_len] at q ⊢; omega)) hB24) (L_Mo_150) (CD_Mo_lay) CI_Mo D_Mo_writePage_272 rfl rfl (by decide) (Nat.le_of_ble_eq_true rfl) (Nat.le_of_eq (Nat.zero_add _)) (Nat.le_of_eq (Nat.zero_add _)) pic_len ?_
                  rintro _ ⟨I25, A25, rfl, hI25, hA25, hB25⟩
                  refine ⟨_, rfl, pic_leq, ?_⟩
                  have f25 := fIm f24 hI25 (by decide)
                  have a25 := fAm a24 hA25 (by decide)
                  have w25 := wmM_fr w0 f25 a25
                  have t25 : isM (I25 3418) (A25 44) (T ++ [F j]) := by rw [hI25 3418 (by decide), hA25 44 (by decide)]; exact t24
                  have v25 : A25 60 4 = (mvS 157 (dn j) (A 60 4) (A 60 5) (cmN n dn j)).2.1 ∧ A25 60 5 = (mvS 157 (dn j) (A 60 4) (A 60 5) (cmN n dn j)).2.2 ∧ A25 60 2 = (mvS 143 (rt j) (A 60 2) (A 60 3) (cmN n rt j)).2.1 ∧ A25 60 3 = (mvS 143 (rt j) (A 60 2) (A 60 3) (cmN n rt j)).2.2 := by rw [hA25 60 (by decide)]; exact v24
                  refine xr_iinc (c9 := 1) D_Mo_writePage_275 rfl rfl (by decide) ?_
                  refine xr_goto (tgt := 87) D_Mo_writePage_278 rfl ?_
                  exfalso; grind
                · refine xr_aload_n D_Mo_writePage_258 rfl rfl ?_
                  refine xr_sipush (v := 128) D_Mo_writePage_259 rfl ?_
                  refine xr_cVv (as := [_]) (n_Mo_lay (by have q := l2; first | omega | (simp only [List.length_append, List.length_cons, List.length_nil, numB_len] at q ⊢; omega)) hB24) (L_Mo_150) (CD_Mo_lay) CI_Mo D_Mo_writePage_262 rfl rfl (by decide) (Nat.le_of_ble_eq_true rfl) (Nat.le_of_eq (Nat.zero_add _)) (Nat.le_of_eq (Nat.zero_add _)) pic_len ?_
                  rintro _ ⟨I26, A26, rfl, hI26, hA26, hB26⟩
                  refine ⟨_, rfl, pic_leq, ?_⟩
                  have f26 := fIm f24 hI26 (by decide)
                  have a26 := fAm a24 hA26 (by decide)
                  have w26 := wmM_fr w0 f26 a26
                  have t26 : isM (I26 3418) (A26 44) (T ++ [F j]) := by rw [hI26 3418 (by decide), hA26 44 (by decide)]; exact t24
                  have v26 : A26 60 4 = (mvS 157 (dn j) (A 60 4) (A 60 5) (cmN n dn j)).2.1 ∧ A26 60 5 = (mvS 157 (dn j) (A 60 4) (A 60 5) (cmN n dn j)).2.2 ∧ A26 60 2 = (mvS 143 (rt j) (A 60 2) (A 60 3) (cmN n rt j)).2.1 ∧ A26 60 3 = (mvS 143 (rt j) (A 60 2) (A 60 3) (cmN n rt j)).2.2 := by rw [hA26 60 (by decide)]; exact v24
                  refine xr_aload_n D_Mo_writePage_265 rfl rfl ?_
                  refine xr_aload_n D_Mo_writePage_266 rfl rfl ?_
                  refine xr_getf F_Mo_51 D_Mo_writePage_267 rfl rfl ?_
                  refine xr_iload_n D_Mo_writePage_270 rfl rfl ?_
                  refine xr_iald D_Mo_writePage_271 rfl (by exact hb) ?_
                  rw [w26.2.2.1, ej]
                  refine xr_cVv (as := [_]) (n_Mo_lay (by have q := l2; first | omega | (simp only [List.length_append, List.length_cons, List.length_nil, numB_len] at q ⊢; omega)) hB26) (L_Mo_150) (CD_Mo_lay) CI_Mo D_Mo_writePage_272 rfl rfl (by decide) (Nat.le_of_ble_eq_true rfl) (Nat.le_of_eq (Nat.zero_add _)) (Nat.le_of_eq (Nat.zero_add _)) pic_len ?_
                  rintro _ ⟨I27, A27, rfl, hI27, hA27, hB27⟩
                  refine ⟨_, rfl, pic_leq, ?_⟩
                  have f27 := fIm f26 hI27 (by decide)
                  have a27 := fAm a26 hA27 (by decide)
                  have w27 := wmM_fr w0 f27 a27
                  have t27 : isM (I27 3418) (A27 44) (T ++ [F j]) := by rw [hI27 3418 (by decide), hA27 44 (by decide)]; exact t26
                  have v27 : A27 60 4 = (mvS 157 (dn j) (A 60 4) (A 60 5) (cmN n dn j)).2.1 ∧ A27 60 5 = (mvS 157 (dn j) (A 60 4) (A 60 5) (cmN n dn j)).2.2 ∧ A27 60 2 = (mvS 143 (rt j) (A 60 2) (A 60 3) (cmN n rt j)).2.1 ∧ A27 60 3 = (mvS 143 (rt j) (A 60 2) (A 60 3) (cmN n rt j)).2.2 := by rw [hA27 60 (by decide)]; exact v26
                  refine xr_iinc (c9 := 1) D_Mo_writePage_275 rfl rfl (by decide) ?_
                  refine xr_goto (tgt := 87) D_Mo_writePage_278 rfl ?_
                  exfalso; grind
              · refine xr_aload_n D_Mo_writePage_238 rfl rfl ?_
                refine xr_iload D_Mo_writePage_239 rfl ?_
                refine xr_cVv (as := [_]) (n_Mo_lay (by have q := l2; first | omega | (simp only [List.length_append, List.length_cons, List.length_nil, numB_len] at q ⊢; omega)) hB24) (L_Mo_150) (CD_Mo_lay) CI_Mo D_Mo_writePage_241 rfl rfl (by decide) (Nat.le_of_ble_eq_true rfl) (Nat.le_of_eq (Nat.zero_add _)) (Nat.le_of_eq (Nat.zero_add _)) pic_len ?_
                rintro _ ⟨I28, A28, rfl, hI28, hA28, hB28⟩
                refine ⟨_, rfl, pic_leq, ?_⟩
                have f28 := fIm f24 hI28 (by decide)
                have a28 := fAm a24 hA28 (by decide)
                have w28 := wmM_fr w0 f28 a28
                have t28 : isM (I28 3418) (A28 44) (T ++ [F j]) := by rw [hI28 3418 (by decide), hA28 44 (by decide)]; exact t24
                have v28 : A28 60 4 = (mvS 157 (dn j) (A 60 4) (A 60 5) (cmN n dn j)).2.1 ∧ A28 60 5 = (mvS 157 (dn j) (A 60 4) (A 60 5) (cmN n dn j)).2.2 ∧ A28 60 2 = (mvS 143 (rt j) (A 60 2) (A 60 3) (cmN n rt j)).2.1 ∧ A28 60 3 = (mvS 143 (rt j) (A 60 2) (A 60 3) (cmN n rt j)).2.2 := by rw [hA28 60 (by decide)]; exact v24
                refine xr_iload D_Mo_writePage_244 rfl ?_
                refine xr_istore_n D_Mo_writePage_246 rfl (by decide) ?_
                refine xr_aload_n D_Mo_writePage_247 rfl rfl ?_
                refine xr_getf F_Mo_51 D_Mo_writePage_248 rfl rfl ?_
                refine xr_iload_n D_Mo_writePage_251 rfl rfl ?_
                refine xr_iald D_Mo_writePage_252 rfl (by exact hb) ?_
                rw [w28.2.2.1, ej]
                refine xr_bipush (v := 127) D_Mo_writePage_253 rfl ?_
                refine xr_icmp_le (tgt := 265) D_Mo_writePage_255 rfl (fun c7 => ?_) (fun c7 => ?_)
                · refine xr_aload_n D_Mo_writePage_265 rfl rfl ?_
                  refine xr_aload_n D_Mo_writePage_266 rfl rfl ?_
                  refine xr_getf F_Mo_51 D_Mo_writePage_267 rfl rfl ?_
                  refine xr_iload_n D_Mo_writePage_270 rfl rfl ?_
                  refine xr_iald D_Mo_writePage_271 rfl (by exact hb) ?_
                  rw [w28.2.2.1, ej]
                  refine xr_cVv (as := [_]) (n_Mo_lay (by have q := l2; first | omega | (simp only [List.length_append, List.length_cons, List.length_nil, numB_len] at q ⊢; omega)) hB28) (L_Mo_150) (CD_Mo_lay) CI_Mo D_Mo_writePage_272 rfl rfl (by decide) (Nat.le_of_ble_eq_true rfl) (Nat.le_of_eq (Nat.zero_add _)) (Nat.le_of_eq (Nat.zero_add _)) pic_len ?_
                  rintro _ ⟨I29, A29, rfl, hI29, hA29, hB29⟩
                  refine ⟨_, rfl, pic_leq, ?_⟩
                  have f29 := fIm f28 hI29 (by decide)
                  have a29 := fAm a28 hA29 (by decide)
                  have w29 := wmM_fr w0 f29 a29
                  have t29 : isM (I29 3418) (A29 44) (T ++ [F j]) := by rw [hI29 3418 (by decide), hA29 44 (by decide)]; exact t28
                  have v29 : A29 60 4 = (mvS 157 (dn j) (A 60 4) (A 60 5) (cmN n dn j)).2.1 ∧ A29 60 5 = (mvS 157 (dn j) (A 60 4) (A 60 5) (cmN n dn j)).2.2 ∧ A29 60 2 = (mvS 143 (rt j) (A 60 2) (A 60 3) (cmN n rt j)).2.1 ∧ A29 60 3 = (mvS 143 (rt j) (A 60 2) (A 60 3) (cmN n rt j)).2.2 := by rw [hA29 60 (by decide)]; exact v28
                  refine xr_iinc (c9 := 1) D_Mo_writePage_275 rfl rfl (by decide) ?_
                  refine xr_goto (tgt := 87) D_Mo_writePage_278 rfl ?_
                  have ecs : csel (C j) = [C j &&& 255] := if_neg (by grind)
                  have efs : fsel (F j) = [235 &&& 255, F j &&& 255] := if_neg (by grind)
                  rw [io_succ]
                  refine xr_mono (ih (j + 1) _ _ _ _ _ _ _ (by omega) w29 hB29 t29 (by have q := l2; first | omega | (simp only [List.length_append, List.length_cons, List.length_nil, numB_len] at q ⊢; omega))) (pNM_tr f29 a29 ?_ ?_)
                  · rw [v29.1, v29.2.1, v29.2.2.1, v29.2.2.2, pgR_c hnr]
                    simp only [List.append_assoc, List.cons_append, List.nil_append, fnS, if_neg c3, if_neg c4, ecs, efs]
                  · rw [v29.1, v29.2.1, v29.2.2.1, v29.2.2.2, pgR_c hnr]
                    simp only [fnS, if_neg c3, if_neg c4]
                · refine xr_aload_n D_Mo_writePage_258 rfl rfl ?_
                  refine xr_sipush (v := 128) D_Mo_writePage_259 rfl ?_
                  refine xr_cVv (as := [_]) (n_Mo_lay (by have q := l2; first | omega | (simp only [List.length_append, List.length_cons, List.length_nil, numB_len] at q ⊢; omega)) hB28) (L_Mo_150) (CD_Mo_lay) CI_Mo D_Mo_writePage_262 rfl rfl (by decide) (Nat.le_of_ble_eq_true rfl) (Nat.le_of_eq (Nat.zero_add _)) (Nat.le_of_eq (Nat.zero_add _)) pic_len ?_
                  rintro _ ⟨I30, A30, rfl, hI30, hA30, hB30⟩
                  refine ⟨_, rfl, pic_leq, ?_⟩
                  have f30 := fIm f28 hI30 (by decide)
                  have a30 := fAm a28 hA30 (by decide)
                  have w30 := wmM_fr w0 f30 a30
                  have t30 : isM (I30 3418) (A30 44) (T ++ [F j]) := by rw [hI30 3418 (by decide), hA30 44 (by decide)]; exact t28
                  have v30 : A30 60 4 = (mvS 157 (dn j) (A 60 4) (A 60 5) (cmN n dn j)).2.1 ∧ A30 60 5 = (mvS 157 (dn j) (A 60 4) (A 60 5) (cmN n dn j)).2.2 ∧ A30 60 2 = (mvS 143 (rt j) (A 60 2) (A 60 3) (cmN n rt j)).2.1 ∧ A30 60 3 = (mvS 143 (rt j) (A 60 2) (A 60 3) (cmN n rt j)).2.2 := by rw [hA30 60 (by decide)]; exact v28
                  refine xr_aload_n D_Mo_writePage_265 rfl rfl ?_
                  refine xr_aload_n D_Mo_writePage_266 rfl rfl ?_
                  refine xr_getf F_Mo_51 D_Mo_writePage_267 rfl rfl ?_
                  refine xr_iload_n D_Mo_writePage_270 rfl rfl ?_
                  refine xr_iald D_Mo_writePage_271 rfl (by exact hb) ?_
                  rw [w30.2.2.1, ej]
                  refine xr_cVv (as := [_]) (n_Mo_lay (by have q := l2; first | omega | (simp only [List.length_append, List.length_cons, List.length_nil, numB_len] at q ⊢; omega)) hB30) (L_Mo_150) (CD_Mo_lay) CI_Mo D_Mo_writePage_272 rfl rfl (by decide) (Nat.le_of_ble_eq_true rfl) (Nat.le_of_eq (Nat.zero_add _)) (Nat.le_of_eq (Nat.zero_add _)) pic_len ?_
                  rintro _ ⟨I31, A31, rfl, hI31, hA31, hB31⟩
                  refine ⟨_, rfl, pic_leq, ?_⟩
                  have f31 := fIm f30 hI31 (by decide)
                  have a31 := fAm a30 hA31 (by decide)
                  have w31 := wmM_fr w0 f31 a31
                  have t31 : isM (I31 3418) (A31 44) (T ++ [F j]) := by rw [hI31 3418 (by decide), hA31 44 (by decide)]; exact t30
                  have v31 : A31 60 4 = (mvS 157 (dn j) (A 60 4) (A 60 5) (cmN n dn j)).2.1 ∧ A31 60 5 = (mvS 157 (dn j) (A 60 4) (A 60 5) (cmN n dn j)).2.2 ∧ A31 60 2 = (mvS 143 (rt j) (A 60 2) (A 60 3) (cmN n rt j)).2.1 ∧ A31 60 3 = (mvS 143 (rt j) (A 60 2) (A 60 3) (cmN n rt j)).2.2 := by rw [hA31 60 (by decide)]; exact v30
                  refine xr_iinc (c9 := 1) D_Mo_writePage_275 rfl rfl (by decide) ?_
                  refine xr_goto (tgt := 87) D_Mo_writePage_278 rfl ?_
                  have ecs : csel (C j) = [128 &&& 255, C j &&& 255] := if_pos (by grind)
                  have efs : fsel (F j) = [235 &&& 255, F j &&& 255] := if_neg (by grind)
                  rw [io_succ]
                  refine xr_mono (ih (j + 1) _ _ _ _ _ _ _ (by omega) w31 hB31 t31 (by have q := l2; first | omega | (simp only [List.length_append, List.length_cons, List.length_nil, numB_len] at q ⊢; omega))) (pNM_tr f31 a31 ?_ ?_)
                  · rw [v31.1, v31.2.1, v31.2.2.1, v31.2.2.2, pgR_c hnr]
                    simp only [List.append_assoc, List.cons_append, List.nil_append, fnS, if_neg c3, if_neg c4, ecs, efs]
                  · rw [v31.1, v31.2.1, v31.2.2.1, v31.2.2.2, pgR_c hnr]
                    simp only [fnS, if_neg c3, if_neg c4]
            · refine xr_sipush (v := 171) D_Mo_writePage_216 rfl ?_
              refine xr_iload D_Mo_writePage_219 rfl ?_
              refine xr_iadd D_Mo_writePage_221 ?_
              refine xr_goto (tgt := 228) D_Mo_writePage_222 rfl ?_
              refine xr_cVv (as := [_]) (n_Mo_lay (by have q := l2; first | omega | (simp only [List.length_append, List.length_cons, List.length_nil, numB_len] at q ⊢; omega)) hB80) (L_Mo_150) (CD_Mo_lay) CI_Mo D_Mo_writePage_228 rfl rfl (by decide) (Nat.le_of_ble_eq_true rfl) (Nat.le_of_eq (Nat.zero_add _)) (Nat.le_of_eq (Nat.zero_add _)) pic_len ?_
              rintro _ ⟨I32, A32, rfl, hI32, hA32, hB32⟩
              refine ⟨_, rfl, pic_leq, ?_⟩
              have f32 := fIm f80 hI32 (by decide)
              have a32 := fAm a80 hA32 (by decide)
              have w32 := wmM_fr w0 f32 a32
              have t32 : isM (I32 3418) (A32 44) (T ++ [F j]) := by rw [hI32 3418 (by decide), hA32 44 (by decide)]; exact t80
              have v32 : A32 60 4 = (mvS 157 (dn j) (A 60 4) (A 60 5) (cmN n dn j)).2.1 ∧ A32 60 5 = (mvS 157 (dn j) (A 60 4) (A 60 5) (cmN n dn j)).2.2 ∧ A32 60 2 = (mvS 143 (rt j) (A 60 2) (A 60 3) (cmN n rt j)).2.1 ∧ A32 60 3 = (mvS 143 (rt j) (A 60 2) (A 60 3) (cmN n rt j)).2.2 := by rw [hA32 60 (by decide)]; exact v80
              refine xr_iload D_Mo_writePage_231 rfl ?_
              refine xr_bipush (v := 63) D_Mo_writePage_233 rfl ?_
              refine xr_icmp_le (tgt := 244) D_Mo_writePage_235 rfl (fun c6 => ?_) (fun c6 => ?_)
              · refine xr_iload D_Mo_writePage_244 rfl ?_
                refine xr_istore_n D_Mo_writePage_246 rfl (by decide) ?_
                refine xr_aload_n D_Mo_writePage_247 rfl rfl ?_
                refine xr_getf F_Mo_51 D_Mo_writePage_248 rfl rfl ?_
                refine xr_iload_n D_Mo_writePage_251 rfl rfl ?_
                refine xr_iald D_Mo_writePage_252 rfl (by exact hb) ?_
                rw [w32.2.2.1, ej]
                refine xr_bipush (v := 127) D_Mo_writePage_253 rfl ?_
                refine xr_icmp_le (tgt := 265) D_Mo_writePage_255 rfl (fun c7 => ?_) (fun c7 => ?_)
                · refine xr_aload_n D_Mo_writePage_265 rfl rfl ?_
                  refine xr_aload_n D_Mo_writePage_266 rfl rfl ?_
                  refine xr_getf F_Mo_51 D_Mo_writePage_267 rfl rfl ?_
                  refine xr_iload_n D_Mo_writePage_270 rfl rfl ?_
                  refine xr_iald D_Mo_writePage_271 rfl (by exact hb) ?_
                  rw [w32.2.2.1, ej]
                  refine xr_cVv (as := [_]) (n_Mo_lay (by have q := l2; first | omega | (simp only [List.length_append, List.length_cons, List.length_nil, numB_len] at q ⊢; omega)) hB32) (L_Mo_150) (CD_Mo_lay) CI_Mo D_Mo_writePage_272 rfl rfl (by decide) (Nat.le_of_ble_eq_true rfl) (Nat.le_of_eq (Nat.zero_add _)) (Nat.le_of_eq (Nat.zero_add _)) pic_len ?_
                  rintro _ ⟨I33, A33, rfl, hI33, hA33, hB33⟩
                  refine ⟨_, rfl, pic_leq, ?_⟩
                  have f33 := fIm f32 hI33 (by decide)
                  have a33 := fAm a32 hA33 (by decide)
                  have w33 := wmM_fr w0 f33 a33
                  have t33 : isM (I33 3418) (A33 44) (T ++ [F j]) := by rw [hI33 3418 (by decide), hA33 44 (by decide)]; exact t32
                  have v33 : A33 60 4 = (mvS 157 (dn j) (A 60 4) (A 60 5) (cmN n dn j)).2.1 ∧ A33 60 5 = (mvS 157 (dn j) (A 60 4) (A 60 5) (cmN n dn j)).2.2 ∧ A33 60 2 = (mvS 143 (rt j) (A 60 2) (A 60 3) (cmN n rt j)).2.1 ∧ A33 60 3 = (mvS 143 (rt j) (A 60 2) (A 60 3) (cmN n rt j)).2.2 := by rw [hA33 60 (by decide)]; exact v32
                  refine xr_iinc (c9 := 1) D_Mo_writePage_275 rfl rfl (by decide) ?_
                  refine xr_goto (tgt := 87) D_Mo_writePage_278 rfl ?_
                  have ecs : csel (C j) = [C j &&& 255] := if_neg (by grind)
                  have efs : fsel (F j) = [(171 + F j) &&& 255] := if_pos (by grind)
                  rw [io_succ]
                  refine xr_mono (ih (j + 1) _ _ _ _ _ _ _ (by omega) w33 hB33 t33 (by have q := l2; first | omega | (simp only [List.length_append, List.length_cons, List.length_nil, numB_len] at q ⊢; omega))) (pNM_tr f33 a33 ?_ ?_)
                  · rw [v33.1, v33.2.1, v33.2.2.1, v33.2.2.2, pgR_c hnr]
                    simp only [List.append_assoc, List.cons_append, List.nil_append, fnS, if_neg c3, if_neg c4, ecs, efs]
                  · rw [v33.1, v33.2.1, v33.2.2.1, v33.2.2.2, pgR_c hnr]
                    simp only [fnS, if_neg c3, if_neg c4]
                · refine xr_aload_n D_Mo_writePage_258 rfl rfl ?_
                  refine xr_sipush (v := 128) D_Mo_writePage_259 rfl ?_
                  refine xr_cVv (as := [_]) (n_Mo_lay (by have q := l2; first | omega | (simp only [List.length_append, List.length_cons, List.length_nil, numB_len] at q ⊢; omega)) hB32) (L_Mo_150) (CD_Mo_lay) CI_Mo D_Mo_writePage_262 rfl rfl (by decide) (Nat.le_of_ble_eq_true rfl) (Nat.le_of_eq (Nat.zero_add _)) (Nat.le_of_eq (Nat.zero_add _)) pic_len ?_
                  rintro _ ⟨I34, A34, rfl, hI34, hA34, hB34⟩
                  refine ⟨_, rfl, pic_leq, ?_⟩
                  have f34 := fIm f32 hI34 (by decide)
                  have a34 := fAm a32 hA34 (by decide)
                  have w34 := wmM_fr w0 f34 a34
                  have t34 : isM (I34 3418) (A34 44) (T ++ [F j]) := by rw [hI34 3418 (by decide), hA34 44 (by decide)]; exact t32
                  have v34 : A34 60 4 = (mvS 157 (dn j) (A 60 4) (A 60 5) (cmN n dn j)).2.1 ∧ A34 60 5 = (mvS 157 (dn j) (A 60 4) (A 60 5) (cmN n dn j)).2.2 ∧ A34 60 2 = (mvS 143 (rt j) (A 60 2) (A 60 3) (cmN n rt j)).2.1 ∧ A34 60 3 = (mvS 143 (rt j) (A 60 2) (A 60 3) (cmN n rt j)).2.2 := by rw [hA34 60 (by decide)]; exact v32
                  refine xr_aload_n D_Mo_writePage_265 rfl rfl ?_
                  refine xr_aload_n D_Mo_writePage_266 rfl rfl ?_
                  refine xr_getf F_Mo_51 D_Mo_writePage_267 rfl rfl ?_
                  refine xr_iload_n D_Mo_writePage_270 rfl rfl ?_
                  refine xr_iald D_Mo_writePage_271 rfl (by exact hb) ?_
                  rw [w34.2.2.1, ej]
                  refine xr_cVv (as := [_]) (n_Mo_lay (by have q := l2; first | omega | (simp only [List.length_append, List.length_cons, List.length_nil, numB_len] at q ⊢; omega)) hB34) (L_Mo_150) (CD_Mo_lay) CI_Mo D_Mo_writePage_272 rfl rfl (by decide) (Nat.le_of_ble_eq_true rfl) (Nat.le_of_eq (Nat.zero_add _)) (Nat.le_of_eq (Nat.zero_add _)) pic_len ?_
                  rintro _ ⟨I35, A35, rfl, hI35, hA35, hB35⟩
                  refine ⟨_, rfl, pic_leq, ?_⟩
                  have f35 := fIm f34 hI35 (by decide)
                  have a35 := fAm a34 hA35 (by decide)
                  have w35 := wmM_fr w0 f35 a35
                  have t35 : isM (I35 3418) (A35 44) (T ++ [F j]) := by rw [hI35 3418 (by decide), hA35 44 (by decide)]; exact t34
                  have v35 : A35 60 4 = (mvS 157 (dn j) (A 60 4) (A 60 5) (cmN n dn j)).2.1 ∧ A35 60 5 = (mvS 157 (dn j) (A 60 4) (A 60 5) (cmN n dn j)).2.2 ∧ A35 60 2 = (mvS 143 (rt j) (A 60 2) (A 60 3) (cmN n rt j)).2.1 ∧ A35 60 3 = (mvS 143 (rt j) (A 60 2) (A 60 3) (cmN n rt j)).2.2 := by rw [hA35 60 (by decide)]; exact v34
                  refine xr_iinc (c9 := 1) D_Mo_writePage_275 rfl rfl (by decide) ?_
                  refine xr_goto (tgt := 87) D_Mo_writePage_278 rfl ?_
                  have ecs : csel (C j) = [128 &&& 255, C j &&& 255] := if_pos (by grind)
                  have efs : fsel (F j) = [(171 + F j) &&& 255] := if_pos (by grind)
                  rw [io_succ]
                  refine xr_mono (ih (j + 1) _ _ _ _ _ _ _ (by omega) w35 hB35 t35 (by have q := l2; first | omega | (simp only [List.length_append, List.length_cons, List.length_nil, numB_len] at q ⊢; omega))) (pNM_tr f35 a35 ?_ ?_)
                  · rw [v35.1, v35.2.1, v35.2.2.1, v35.2.2.2, pgR_c hnr]
                    simp only [List.append_assoc, List.cons_append, List.nil_append, fnS, if_neg c3, if_neg c4, ecs, efs]
                  · rw [v35.1, v35.2.1, v35.2.2.1, v35.2.2.2, pgR_c hnr]
                    simp only [fnS, if_neg c3, if_neg c4]
              · refine xr_aload_n D_Mo_writePage_238 rfl rfl ?_
                refine xr_iload D_Mo_writePage_239 rfl ?_
                refine xr_cVv (as := [_]) (n_Mo_lay (by have q := l2; first | omega | (simp only [List.length_append, List.length_cons, List.length_nil, numB_len] at q ⊢; omega)) hB32) (L_Mo_150) (CD_Mo_lay) CI_Mo D_Mo_writePage_241 rfl rfl (by decide) (Nat.le_of_ble_eq_true rfl) (Nat.le_of_eq (Nat.zero_add _)) (Nat.le_of_eq (Nat.zero_add _)) pic_len ?_
                rintro _ ⟨I36, A36, rfl, hI36, hA36, hB36⟩
                refine ⟨_, rfl, pic_leq, ?_⟩
                have f36 := fIm f32 hI36 (by decide)
                have a36 := fAm a32 hA36 (by decide)
                have w36 := wmM_fr w0 f36 a36
                have t36 : isM (I36 3418) (A36 44) (T ++ [F j]) := by rw [hI36 3418 (by decide), hA36 44 (by decide)]; exact t32
                have v36 : A36 60 4 = (mvS 157 (dn j) (A 60 4) (A 60 5) (cmN n dn j)).2.1 ∧ A36 60 5 = (mvS 157 (dn j) (A 60 4) (A 60 5) (cmN n dn j)).2.2 ∧ A36 60 2 = (mvS 143 (rt j) (A 60 2) (A 60 3) (cmN n rt j)).2.1 ∧ A36 60 3 = (mvS 143 (rt j) (A 60 2) (A 60 3) (cmN n rt j)).2.2 := by rw [hA36 60 (by decide)]; exact v32
                refine xr_iload D_Mo_writePage_244 rfl ?_
                refine xr_istore_n D_Mo_writePage_246 rfl (by decide) ?_
                refine xr_aload_n D_Mo_writePage_247 rfl rfl ?_
                refine xr_getf F_Mo_51 D_Mo_writePage_248 rfl rfl ?_
                refine xr_iload_n D_Mo_writePage_251 rfl rfl ?_
                refine xr_iald D_Mo_writePage_252 rfl (by exact hb) ?_
                rw [w36.2.2.1, ej]
                refine xr_bipush (v := 127) D_Mo_writePage_253 rfl ?_
                refine xr_icmp_le (tgt := 265) D_Mo_writePage_255 rfl (fun c7 => ?_) (fun c7 => ?_)
                · refine xr_aload_n D_Mo_writePage_265 rfl rfl ?_
                  refine xr_aload_n D_Mo_writePage_266 rfl rfl ?_
                  refine xr_getf F_Mo_51 D_Mo_writePage_267 rfl rfl ?_
                  refine xr_iload_n D_Mo_writePage_270 rfl rfl ?_
                  refine xr_iald D_Mo_writePage_271 rfl (by exact hb) ?_
                  rw [w36.2.2.1, ej]
                  refine xr_cVv (as := [_]) (n_Mo_lay (by have q := l2; first | omega | (simp only [List.length_append, List.length_cons, List.length_nil, numB_len] at q ⊢; omega)) hB36) (L_Mo_150) (CD_Mo_lay) CI_Mo D_Mo_writePage_272 rfl rfl (by decide) (Nat.le_of_ble_eq_true rfl) (Nat.le_of_eq (Nat.zero_add _)) (Nat.le_of_eq (Nat.zero_add _)) pic_len ?_
                  rintro _ ⟨I37, A37, rfl, hI37, hA37, hB37⟩
                  refine ⟨_, rfl, pic_leq, ?_⟩
                  have f37 := fIm f36 hI37 (by decide)
                  have a37 := fAm a36 hA37 (by decide)
                  have w37 := wmM_fr w0 f37 a37
                  have t37 : isM (I37 3418) (A37 44) (T ++ [F j]) := by rw [hI37 3418 (by decide), hA37 44 (by decide)]; exact t36
                  have v37 : A37 60 4 = (mvS 157 (dn j) (A 60 4) (A 60 5) (cmN n dn j)).2.1 ∧ A37 60 5 = (mvS 157 (dn j) (A 60 4) (A 60 5) (cmN n dn j)).2.2 ∧ A37 60 2 = (mvS 143 (rt j) (A 60 2) (A 60 3) (cmN n rt j)).2.1 ∧ A37 60 3 = (mvS 143 (rt j) (A 60 2) (A 60 3) (cmN n rt j)).2.2 := by rw [hA37 60 (by decide)]; exact v36
                  refine xr_iinc (c9 := 1) D_Mo_writePage_275 rfl rfl (by decide) ?_
                  refine xr_goto (tgt := 87) D_Mo_writePage_278 rfl ?_
                  exfalso; grind
                · refine xr_aload_n D_Mo_writePage_258 rfl rfl ?_
                  refine xr_sipush (v := 128) D_Mo_writePage_259 rfl ?_
                  refine xr_cVv (as := [_]) (n_Mo_lay (by have q := l2; first | omega | (simp only [List.length_append, List.length_cons, List.length_nil, numB_len] at q ⊢; omega)) hB36) (L_Mo_150) (CD_Mo_lay) CI_Mo D_Mo_writePage_262 rfl rfl (by decide) (Nat.le_of_ble_eq_true rfl) (Nat.le_of_eq (Nat.zero_add _)) (Nat.le_of_eq (Nat.zero_add _)) pic_len ?_
                  rintro _ ⟨I38, A38, rfl, hI38, hA38, hB38⟩
                  refine ⟨_, rfl, pic_leq, ?_⟩
                  have f38 := fIm f36 hI38 (by decide)
                  have a38 := fAm a36 hA38 (by decide)
                  have w38 := wmM_fr w0 f38 a38
                  have t38 : isM (I38 3418) (A38 44) (T ++ [F j]) := by rw [hI38 3418 (by decide), hA38 44 (by decide)]; exact t36
                  have v38 : A38 60 4 = (mvS 157 (dn j) (A 60 4) (A 60 5) (cmN n dn j)).2.1 ∧ A38 60 5 = (mvS 157 (dn j) (A 60 4) (A 60 5) (cmN n dn j)).2.2 ∧ A38 60 2 = (mvS 143 (rt j) (A 60 2) (A 60 3) (cmN n rt j)).2.1 ∧ A38 60 3 = (mvS 143 (rt j) (A 60 2) (A 60 3) (cmN n rt j)).2.2 := by rw [hA38 60 (by decide)]; exact v36
                  refine xr_aload_n D_Mo_writePage_265 rfl rfl ?_
                  refine xr_aload_n D_Mo_writePage_266 rfl rfl ?_
                  refine xr_getf F_Mo_51 D_Mo_writePage_267 rfl rfl ?_
                  refine xr_iload_n D_Mo_writePage_270 rfl rfl ?_
                  refine xr_iald D_Mo_writePage_271 rfl (by exact hb) ?_
                  rw [w38.2.2.1, ej]
                  refine xr_cVv (as := [_]) (n_Mo_lay (by have q := l2; first | omega | (simp only [List.length_append, List.length_cons, List.length_nil, numB_len] at q ⊢; omega)) hB38) (L_Mo_150) (CD_Mo_lay) CI_Mo D_Mo_writePage_272 rfl rfl (by decide) (Nat.le_of_ble_eq_true rfl) (Nat.le_of_eq (Nat.zero_add _)) (Nat.le_of_eq (Nat.zero_add _)) pic_len ?_
                  rintro _ ⟨I39, A39, rfl, hI39, hA39, hB39⟩
                  refine ⟨_, rfl, pic_leq, ?_⟩
                  have f39 := fIm f38 hI39 (by decide)
                  have a39 := fAm a38 hA39 (by decide)
                  have w39 := wmM_fr w0 f39 a39
                  have t39 : isM (I39 3418) (A39 44) (T ++ [F j]) := by rw [hI39 3418 (by decide), hA39 44 (by decide)]; exact t38
                  have v39 : A39 60 4 = (mvS 157 (dn j) (A 60 4) (A 60 5) (cmN n dn j)).2.1 ∧ A39 60 5 = (mvS 157 (dn j) (A 60 4) (A 60 5) (cmN n dn j)).2.2 ∧ A39 60 2 = (mvS 143 (rt j) (A 60 2) (A 60 3) (cmN n rt j)).2.1 ∧ A39 60 3 = (mvS 143 (rt j) (A 60 2) (A 60 3) (cmN n rt j)).2.2 := by rw [hA39 60 (by decide)]; exact v38
                  refine xr_iinc (c9 := 1) D_Mo_writePage_275 rfl rfl (by decide) ?_
                  refine xr_goto (tgt := 87) D_Mo_writePage_278 rfl ?_
                  exfalso; grind
      · have hru : F j = -1 := (hF j (by omega)).resolve_right (fun q => c2 q.1)
        refine xr_aload_n D_Mo_writePage_134 rfl rfl ?_
        refine xr_sipush (v := 137) D_Mo_writePage_135 rfl ?_
        refine xr_cVv (as := [_]) (n_Mo_lay (by have q := l2; first | omega | (simp only [List.length_append, List.length_cons, List.length_nil, numB_len] at q ⊢; omega)) hB2) (L_Mo_150) (CD_Mo_lay) CI_Mo D_Mo_writePage_138 rfl rfl (by decide) (Nat.le_of_ble_eq_true rfl) (Nat.le_of_eq (Nat.zero_add _)) (Nat.le_of_eq (Nat.zero_add _)) pic_len ?_
        rintro _ ⟨I40, A40, rfl, hI40, hA40, hB40⟩
        refine ⟨_, rfl, pic_leq, ?_⟩
        have f40 := fIm f2 hI40 (by decide)
        have a40 := fAm a2 hA40 (by decide)
        have w40 := wmM_fr w0 f40 a40
        have t40 : isM (I40 3418) (A40 44) T := by rw [hI40 3418 (by decide), hA40 44 (by decide)]; exact t2
        have v40 : A40 60 4 = (mvS 157 (dn j) (A 60 4) (A 60 5) (cmN n dn j)).2.1 ∧ A40 60 5 = (mvS 157 (dn j) (A 60 4) (A 60 5) (cmN n dn j)).2.2 ∧ A40 60 2 = (mvS 143 (rt j) (A 60 2) (A 60 3) (cmN n rt j)).2.1 ∧ A40 60 3 = (mvS 143 (rt j) (A 60 2) (A 60 3) (cmN n rt j)).2.2 := by rw [hA40 60 (by decide)]; exact v2
        refine xr_aload_n D_Mo_writePage_141 rfl rfl ?_
        refine xr_aload_n D_Mo_writePage_142 rfl rfl ?_
        refine xr_getf F_Mo_60 D_Mo_writePage_143 rfl rfl ?_
        refine xr_iload_n D_Mo_writePage_146 rfl rfl ?_
        refine xr_iald D_Mo_writePage_147 rfl (by exact hb) ?_
        rw [w40.2.2.2.1, ej]
        refine xr_iconst (v := 4) D_Mo_writePage_148 rfl ?_
        refine xr_cVv (as := [_, _]) (n_Mo_layNumber 4 rfl (by decide) (by have q := l2; first | omega | (simp only [List.length_append, List.length_cons, List.length_nil, numB_len] at q ⊢; omega)) hB40) (L_Mo_173) (CD_Mo_layNumber) CI_Mo D_Mo_writePage_149 rfl rfl (by decide) (Nat.le_of_ble_eq_true rfl) (Nat.le_of_eq (Nat.zero_add _)) (Nat.le_of_eq (Nat.zero_add _)) pic_len ?_
        rintro _ ⟨I41, A41, rfl, hI41, hA41, hB41⟩
        refine ⟨_, rfl, pic_leq, ?_⟩
        have f41 := fIm f40 hI41 (by decide)
        have a41 := fAm a40 hA41 (by decide)
        have w41 := wmM_fr w0 f41 a41
        have t41 : isM (I41 3418) (A41 44) T := by rw [hI41 3418 (by decide), hA41 44 (by decide)]; exact t40
        have v41 : A41 60 4 = (mvS 157 (dn j) (A 60 4) (A 60 5) (cmN n dn j)).2.1 ∧ A41 60 5 = (mvS 157 (dn j) (A 60 4) (A 60 5) (cmN n dn j)).2.2 ∧ A41 60 2 = (mvS 143 (rt j) (A 60 2) (A 60 3) (cmN n rt j)).2.1 ∧ A41 60 3 = (mvS 143 (rt j) (A 60 2) (A 60 3) (cmN n rt j)).2.2 := by rw [hA41 60 (by decide)]; exact v40
        refine xr_aload_n D_Mo_writePage_152 rfl rfl ?_
        refine xr_aload_n D_Mo_writePage_153 rfl rfl ?_
        refine xr_getf F_Mo_51 D_Mo_writePage_154 rfl rfl ?_
        refine xr_iload_n D_Mo_writePage_157 rfl rfl ?_
        refine xr_iald D_Mo_writePage_158 rfl (by exact hb) ?_
        rw [w41.2.2.1, ej]
        refine xr_iconst (v := 4) D_Mo_writePage_159 rfl ?_
        refine xr_cVv (as := [_, _]) (n_Mo_layNumber 4 rfl (by decide) (by have q := l2; first | omega | (simp only [List.length_append, List.length_cons, List.length_nil, numB_len] at q ⊢; omega)) hB41) (L_Mo_173) (CD_Mo_layNumber) CI_Mo D_Mo_writePage_160 rfl rfl (by decide) (Nat.le_of_ble_eq_true rfl) (Nat.le_of_eq (Nat.zero_add _)) (Nat.le_of_eq (Nat.zero_add _)) pic_len ?_
        rintro _ ⟨I42, A42, rfl, hI42, hA42, hB42⟩
        refine ⟨_, rfl, pic_leq, ?_⟩
        have f42 := fIm f41 hI42 (by decide)
        have a42 := fAm a41 hA42 (by decide)
        have w42 := wmM_fr w0 f42 a42
        have t42 : isM (I42 3418) (A42 44) T := by rw [hI42 3418 (by decide), hA42 44 (by decide)]; exact t41
        have v42 : A42 60 4 = (mvS 157 (dn j) (A 60 4) (A 60 5) (cmN n dn j)).2.1 ∧ A42 60 5 = (mvS 157 (dn j) (A 60 4) (A 60 5) (cmN n dn j)).2.2 ∧ A42 60 2 = (mvS 143 (rt j) (A 60 2) (A 60 3) (cmN n rt j)).2.1 ∧ A42 60 3 = (mvS 143 (rt j) (A 60 2) (A 60 3) (cmN n rt j)).2.2 := by rw [hA42 60 (by decide)]; exact v41
        refine xr_goto (tgt := 275) D_Mo_writePage_163 rfl ?_
        refine xr_iinc (c9 := 1) D_Mo_writePage_275 rfl rfl (by decide) ?_
        refine xr_goto (tgt := 87) D_Mo_writePage_278 rfl ?_
        rw [io_succ]
        refine xr_mono (ih (j + 1) _ _ _ _ _ _ _ (by omega) w42 hB42 t42 (by have q := l2; first | omega | (simp only [List.length_append, List.length_cons, List.length_nil, numB_len] at q ⊢; omega))) (pNM_tr f42 a42 ?_ ?_)
        · rw [v42.1, v42.2.1, v42.2.2.1, v42.2.2.2, pgR_r hru]
          simp only [List.append_assoc, List.cons_append, List.nil_append, ruB]
        · rw [v42.1, v42.2.1, v42.2.2.1, v42.2.2.2, pgR_r hru]
