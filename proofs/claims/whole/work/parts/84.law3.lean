theorem frI_rs {I : mI} : frI [2405, 2406, 2408, 2409, 2410, 2411, 3105, 3106, 3110, 3111, 3112, 3113, 2407, 2901, 3107, 3108, 3109] I (rsI I) := (by repeat (first | exact frI_rf | refine frI_u ?_ (by decide)))
theorem frI_cl {I J : mI} (h : frI [2405, 2406, 2408, 2409, 2410, 2411, 3105, 3106, 3110, 3111, 3112, 3113, 2407, 2901, 3107, 3108, 3109] I J) : frI [2405, 2406, 2408, 2409, 2410, 2411, 3105, 3106, 3110, 3111, 3112, 3113, 2407, 2901, 3107, 3108, 3109] I (clI J) := by
  repeat (first | exact h | refine frI_u ?_ (by decide))
theorem RE_z {I : mI} {A : mA} (h : I 2405 = 0 ∧ I 2406 = 0 ∧ I 2407 = 0 ∧ I 2408 = 0 ∧ I 2409 = 0 ∧ I 2410 = 0 ∧ I 2411 = 0 ∧ I 2901 = 0) (m : I 3432 = 0 ∧ I 3434 = 0 ∧ I 3436 = 0 ∧ I 3439 = 0 ∧ I 3440 = 0 ∧ I 3441 = 0 ∧ I 3442 = 0) : RE I A I A := by
  obtain ⟨a1, a2, a3, a4, a5, a6, a7, a8⟩ := h
  obtain ⟨b1, b2, b3, b4, b5, b6, b7⟩ := m
  refine ⟨⟨by rw [a1, b1], by rw [b1]; decide, by rw [b1]; decide, fun i hi => ?_⟩, ⟨by rw [a2, b2], by rw [b2]; decide, by rw [b2]; decide, fun i hi => ?_⟩, ⟨by rw [a3, b3], by rw [b3]; decide, by rw [b3]; decide, fun i hi => ?_, fun i k hi => ?_⟩, by rw [a4, b4], by rw [a5, b5], by rw [a6, b6], by rw [a7, b7], [], by rw [a8]; exact isB_0 _⟩
  · rw [b1, z0] at hi; omega
  · rw [b2, z0] at hi; omega
  · rw [b3, z0] at hi; omega
  · rw [b3, z0] at hi; omega
theorem p_Dv_read {I : mI} {A : mA} {L : mL} (R : RL I A L) : xm m_Dv_read (6, 138) [.ref 0] (pic I A L) 0 0 (cP3 m_Mo_read (7, 156) [.ref 34]) := by
  obtain ⟨r1, r2, r3, r4, r5, r6, r7⟩ := R
  obtain ⟨C, c1, c2⟩ := r6
  have h7 := (RC_e ⟨C, c1, c2⟩).2.2
  obtain ⟨N, hN⟩ := r7.1.2.2.2.2.2.2.2
  have h29 : 0 ≤ I 2901 := i_le.mpr (by rw [z0, hN.1]; omega)
  refine xm_mono (c_Dv_read_0 c1.2.1 c1.1 h29) ?_
  rintro _ ⟨r, I1, A1, hr, hI, hA, hl, N', hN', ho⟩
  have hI1 : frI [2405, 2406, 2408, 2409, 2410, 2411, 3105, 3106, 3110, 3111, 3112, 3113, 2407, 2901, 3107, 3108, 3109] I I1 := frI_tr frI_rs hI (fun _ h => h) (fun _ h => h)
  have fin : ∀ J : mI, frI [2405, 2406, 2408, 2409, 2410, 2411, 3105, 3106, 3110, 3111, 3112, 3113, 2407, 2901, 3107, 3108, 3109] I J → ∀ (v : Int32), (r = 0 → v = 0 ∧ (∀ k ∈ [2405, 2406, 2407, 2408, 2409, 2410, 2411, 2901], J k = I1 k)) → (¬ r = 0 → v = 100000 * r + I1 3107 ∧ J 2405 = 0 ∧ J 2406 = 0 ∧ J 2407 = 0 ∧ J 2408 = 0 ∧ J 2409 = 0 ∧ J 2410 = 0 ∧ J 2411 = 0 ∧ J 2901 = 0) → xm m_Mo_read (7, 156) [.ref 34] (pic J A1 L) 0 0 (mP3 v L) := by
    intro J hJ v hv0 hv1
    refine xm_mono (c_Mo_read_34 (Ic := rsI I) (Ac := A) (C := C) (rsI_0 I) c1 (by rw [hJ 3429 (by decide), hA 53 (by decide)]; exact c2) (by rw [hA 41 (by decide)]; exact r1.2.1) hr) ?_
    rintro _ ⟨v2, I2, A2, rfl, k1, k2, k3, k4, k5⟩
    have hi : frI [2405, 2406, 2408, 2409, 2410, 2411, 3105, 3106, 3110, 3111, 3112, 3113, 2407, 2901, 3107, 3108, 3109, 3400, 3445, 3432, 3434, 3436, 3439, 3440, 3441, 3442, 3443, 3444, 3446, 3447, 3448, 3449, 3450] I I2 := frI_tr hJ k1 (by decide) (by decide)
    have ha : frA [25, 26, 32, 33, 27, 28, 30, 54, 55, 56, 57, 58, 59, 60] A A2 := frA_tr hA k2 (by decide) (by decide)
    have h4 : I2 3445 ≤ 70000 := by rw [k4, hJ 3429 (by decide)]; exact h7
    have go : ∀ q : RE I2 A2 I2 A2, RL I2 A2 L := fun q => ⟨RF_fr ha (by decide) ⟨rfl, rfl⟩ r1, RWf_fr hi (by decide) r2, RWb_fr hi (by decide) ha (by decide) r3, RWt_fr hi (by decide) ha (by decide) r4, RH_fr hi (by decide) ha (by decide) r5, RC_fr hi (by decide) ha (by decide) ⟨C, c1, c2⟩, q, h4⟩
    rcases k5 with ⟨g1, g2, g3⟩ | ⟨g1, g2, g3⟩
    · obtain ⟨w1, w2, w3, w4, w5, w6, w7, w8, w9⟩ := hv1 g1
      rw [w1, ← g2]
      exact ⟨_, _, rfl, go (RE_z ⟨(k1 2405 (by decide)).trans w2, (k1 2406 (by decide)).trans w3, (k1 2407 (by decide)).trans w4, (k1 2408 (by decide)).trans w5, (k1 2409 (by decide)).trans w6, (k1 2410 (by decide)).trans w7, (k1 2411 (by decide)).trans w8, (k1 2901 (by decide)).trans w9⟩ g3)⟩
    · obtain ⟨w1, w2⟩ := hv0 g1
      rw [w1, ← g2]
      exact ⟨_, _, rfl, go (RE_fr (fun k hk => (k1 k (by revert k; decide)).trans (w2 k hk)) (fun k hk => k2 k (by revert k; decide)) (fun _ _ => rfl) (fun _ _ => rfl) g3)⟩
  rcases ho with ⟨e, rfl⟩ | ⟨e, rfl⟩
  · exact ⟨_, _, _, _, rfl, fin I1 hI1 0 (fun _ => ⟨rfl, fun _ _ => rfl⟩) (fun q => absurd e q)⟩
  · exact ⟨_, _, _, _, rfl, fin (clI I1) (frI_cl hI1) _ (fun q => absurd q e) (fun _ => ⟨rfl, rfl, rfl, rfl, rfl, rfl, rfl, rfl, rfl⟩)⟩
theorem isO_0 (f : Nat → Int32) : isO 0 f [] := ⟨rfl, by decide, fun i b h => by cases h⟩
theorem isM_0 (f : Nat → Int32) : isM 0 f [] := ⟨rfl, List.nodup_nil, fun i b h => (by cases h), fun x h => (by cases h)⟩
theorem isT_o {n : Int32} {fl od : Nat → Int32} {T : List Int32} (h : isT n fl od T) : 0 ≤ n ∧ n ≤ 256 ∧ ∀ j : Nat, (j : Int) < n.toInt → 0 ≤ od j ∧ od j ≤ 255 := by
  have hm : isM n od T := ⟨h.1, h.2.1, h.2.2.1, h.2.2.2.1⟩
  refine ⟨(isM_le hm).1, (isM_le hm).2, fun j hj => ?_⟩
  have hl : j < T.length := by have := h.1; omega
  rw [h.2.2.1 j _ (List.getElem?_eq_getElem hl)]
  exact h.2.2.2.1 _ (List.getElem_mem hl)
theorem p_La_begin {I : mI} {A : mA} {L : mL} {c n : Int32} (R : RL I A L) : xmW m_La_begin (7, 112) [.ref 0, .int c, .int n] (pic I A L) 1 6 (cP1 m_Mo_begin (1, 20) [.ref 34, .int c, .int n]) := by
  obtain ⟨e1, e2, e3, e4⟩ := RWb_e R.2.2.1
  obtain ⟨T, t1, t2⟩ := R.2.2.2.1
  have t3 := isT_o t1
  refine xmW_mono (c_La_begin (by rw [e1]; exact e2) t3.1 t3.2.1 t3.2.2) ?_
  rintro _ (⟨hc, rfl⟩ | ⟨hc, rfl⟩)
  · refine ⟨1, I, A, L, rfl, xm_mono c_Mo_begin_34 ?_⟩
    rintro _ (⟨hm, rfl⟩ | ⟨hm, rfl⟩)
    · exact ⟨_, _, rfl, RL_t ⟨rfl, rfl⟩ R, rfl⟩
    · exact absurd hm hc
  · refine ⟨0, _, _, L, rfl, xm_mono c_Mo_begin_34 ?_⟩
    rintro _ (⟨hm, rfl⟩ | ⟨hm, rfl⟩)
    · exact absurd hc hm
    · obtain ⟨r1, r2, r3, r4, r5, r6, r7⟩ := R
      have hi : frI [1401, 1307, 1308, 1309, 1310, 1311, 1312, 1313, 1314, 1101, 3400, 3409, 3420, 3411, 3412, 3413, 3414, 3415, 3416, 3417, 3418] I (upd (upd (upd (upd (upd (upd (upd (upd (upd (upd (upd (upd (upd (upd (upd (upd (upd (upd (upd (upd (upd I 1401 0) 1307 0) 1308 c) 1309 n) 1310 0) 1311 0) 1312 (-1)) 1313 0) 1314 0) 1101 0) 3400 0) 3409 0) 3420 0) 3411 n) 3412 c) 3413 0) 3414 0) 3415 (-1)) 3416 0) 3417 0) 3418 0) := (by repeat (first | exact frI_rf | refine frI_u ?_ (by decide)))
      have ha : frA [20] A (upAf A 20 (clr (A 20) (A 21) ((I 1307).toInt - (0 : Int32).toInt).toNat (0 : Int32).toInt.toNat)) := frA_upf (by decide)
      refine ⟨(upd (upd (upd (upd (upd (upd (upd (upd (upd (upd (upd (upd (upd (upd (upd (upd (upd (upd (upd (upd (upd I 1401 0) 1307 0) 1308 c) 1309 n) 1310 0) 1311 0) 1312 (-1)) 1313 0) 1314 0) 1101 0) 3400 0) 3409 0) 3420 0) 3411 n) 3412 c) 3413 0) 3414 0) 3415 (-1)) 3416 0) 3417 0) 3418 0), (upAf A 20 (clr (A 20) (A 21) ((I 1307).toInt - (0 : Int32).toInt).toNat (0 : Int32).toInt.toNat)), rfl, ⟨RF_fr ha (by decide) ⟨rfl, rfl⟩ r1, ?_, ?_, ?_, ?_, RC_fr hi (by decide) ha (by decide) r6, RD_fr hi (by decide) ha (by decide) r7⟩, rfl⟩
      · exact ⟨rfl, rfl, hc.2, rfl, Or.inl rfl, rfl, rfl, rfl, rfl, r2.2.2.2.2.2.2.2.2.2.1, r2.2.2.2.2.2.2.2.2.2.2⟩
      · exact ⟨[], isB_0 _, isO_0 _, fun _ => by decide⟩
      · exact ⟨[], isT_cut (T := []) (E := T) t1 rfl, isM_0 _⟩
      · exact ⟨rfl, (by decide : (0 : Int32) ≤ 0), (by decide : (0 : Int32) ≤ 500), fun k hk => absurd (show (k : Int) < (0 : Int32).toInt from hk) (by rw [z0]; omega)⟩
theorem ix_16 {x : Int32} {j : Nat} (h0 : 0 ≤ x) (h1 : x ≤ 255) (hj : j ≤ 16) : (16 * x + Int32.ofNat j).toNatClampNeg = 16 * x.toNatClampNeg + j := by
  have g0 := i_le.mp h0
  rw [z0] at g0
  have g1 := i_le.mp h1
  rw [show (255 : Int32).toInt = 255 from rfl] at g1
  have e6 : (16 : Int32).toInt = 16 := rfl
  have em : (16 * x).toInt = 16 * x.toInt := by rw [i_mul (by rw [e6]; omega) (by rw [e6]; omega), e6]
  rw [i_cl, i_cl, i_add (by rw [em, i_of (by omega)]; omega) (by rw [em, i_of (by omega)]; omega), em, i_of (by omega)]
  omega
theorem nwF_o {x : Int32} {a b : Int64} (h0 : 0 ≤ x) (h1 : x ≤ 255) {p : Nat} : ∀ (t j : Nat) (g : Nat → Int32), j + t ≤ 16 → (∀ i, j ≤ i → i < j + t → ¬ p = 16 * x.toNatClampNeg + i) → nwF x a b t j g p = g p := by
  intro t
  induction t with
  | zero => intro j g _ _; rfl
  | succ t ih =>
    intro j g hj hp
    show nwF x a b t (j + 1) (upd g (16 * x + Int32.ofNat j).toNatClampNeg _) p = g p
    rw [ih (j + 1) _ (by omega) (fun i q1 q2 => hp i (by omega) (by omega)), ix_16 h0 h1 (by omega), upd_n (hp j (by omega) (by omega))]
theorem nwF_i {x : Int32} {a b : Int64} (h0 : 0 ≤ x) (h1 : x ≤ 255) {i : Nat} : ∀ (t j : Nat) (g : Nat → Int32), j + t ≤ 16 → j ≤ i → i < j + t → nwF x a b t j g (16 * x.toNatClampNeg + i) = vp_nar .byte (letM a b (Int32.ofNat i)).toInt8.toInt32 := by
  intro t
  induction t with
  | zero => intro j g _ q1 q2; omega
  | succ t ih =>
    intro j g hj q1 q2
    show nwF x a b t (j + 1) (upd g (16 * x + Int32.ofNat j).toNatClampNeg _) _ = _
    by_cases e : i = j
    · subst e
      rw [nwF_o h0 h1 t (i + 1) _ (by omega) (fun i' w1 w2 q => by omega), ix_16 h0 h1 (by omega), upd_s]
    · exact ih (j + 1) _ (by omega) (by omega) (by omega)
theorem nar_255 (x : Int32) : vp_nar .byte x.toInt8.toInt32 &&& 255 = x &&& 255 := by
  have h := isO_add (isO_0 (fun _ => 0)) (by decide) x
  have q := (h.2.2 0 (x &&& 255) rfl).1
  rw [show (0 : Int32).toNatClampNeg = 0 from rfl, upd_s] at q
  exact q
theorem let_255 (a b : Int64) (i : Int32) : letC a b i &&& 255 = letC a b i := by
  unfold letC
  rw [Int32.and_assoc]
  rfl
theorem p_La_font {I : mI} {A : mA} {L : mL} {f x y z : Int32} {a b : Int64} {n : Int32} (R : RL I A L) : xmW m_La_font (7, 119) [.ref 0, .int f, .int x, .int y, .int z, .long a, .long b, .int n] (pic I A L) 1 6 (cP1 m_Mo_font (1, 24) [.ref 34, .int f, .int x, .int y, .int z, .long a, .long b, .int n]) := by
  obtain ⟨T, t1, t2⟩ := R.2.2.2.1
  have t3 := isM_le t2
  have hcc : ((0 ≤ f ∧ f ≤ 255) ∧ ((1 ≤ n ∧ n ≤ 16) ∧ nmB a b n.toInt.toNat 0 = true)) ↔ ((0 ≤ f ∧ f ≤ 255) ∧ ((1 ≤ n ∧ n ≤ 16) ∧ nmV a b n.toInt.toNat 0 = true)) := by
    have q : (1 ≤ n ∧ n ≤ 16) → nmV a b n.toInt.toNat 0 = nmB a b n.toInt.toNat 0 := fun q => nmE a b _ _ (by have := i_le.mp q.2; rw [show (16 : Int32).toInt = 16 from rfl] at this; omega)
    constructor
    · exact fun ⟨u, v, w⟩ => ⟨u, v, (q v).trans w⟩
    · exact fun ⟨u, v, w⟩ => ⟨u, v, (q v).symm.trans w⟩
  have htt : (0 ≤ f ∧ f ≤ 255) → (¬ A 20 f.toNatClampNeg = 0 ↔ cmF (A 44) f (I 3418).toInt.toNat 0 = true) := fun q => (t1.2.2.2.2 f q.1 q.2).trans (isM_mem t2).symm
  refine xmW_mono c_La_font ?_
  rintro _ (⟨hc, rfl⟩ | ⟨⟨hc, hq⟩, rfl⟩ | ⟨⟨hc, hq⟩, rfl⟩)
  · refine ⟨1, I, A, L, rfl, xm_mono (c_Mo_font_34 t3.1 t3.2) ?_⟩
    rintro _ (⟨hm, rfl⟩ | ⟨⟨hm, hq⟩, rfl⟩ | ⟨⟨hm, hq⟩, rfl⟩)
    · exact ⟨_, _, rfl, RL_t ⟨rfl, rfl⟩ R, rfl⟩
    · exact absurd (hcc.mpr hm) hc
    · exact absurd (hcc.mpr hm) hc
  · refine ⟨2, I, A, L, rfl, xm_mono (c_Mo_font_34 t3.1 t3.2) ?_⟩
    rintro _ (⟨hm, rfl⟩ | ⟨⟨hm, hq2⟩, rfl⟩ | ⟨⟨hm, hq2⟩, rfl⟩)
    · exact absurd (hcc.mp hc) hm
    · exact ⟨_, _, rfl, RL_t ⟨rfl, rfl⟩ R, rfl⟩
    · exact absurd ((htt hc.1).mp hq) hq2
  · refine ⟨0, I, (upA (upA (upA (upA A 4 f.toNatClampNeg x) 5 f.toNatClampNeg y) 6 f.toNatClampNeg z) 9 f.toNatClampNeg n), (upL (upL L 7 f.toNatClampNeg a) 8 f.toNatClampNeg b), rfl, xm_mono (c_Mo_font_34 t3.1 t3.2) ?_⟩
    rintro _ (⟨hm, rfl⟩ | ⟨⟨hm, hq2⟩, rfl⟩ | ⟨⟨hm, hq2⟩, rfl⟩)
    · exact absurd (hcc.mp hc) hm
    · exact absurd hq ((htt hc.1).mpr hq2)
    · obtain ⟨r1, r2, r3, r4, r5, r6, r7⟩ := R
      have hi : frI [3400] I (upd I 3400 0) := (by repeat (first | exact frI_rf | refine frI_u ?_ (by decide)))
      have ha : frA [4, 5, 6, 9, 35, 36, 37, 38, 39, 40] A (upAf (upA (upA (upA (upA (upA (upA (upA (upA (upA A 4 f.toNatClampNeg x) 5 f.toNatClampNeg y) 6 f.toNatClampNeg z) 9 f.toNatClampNeg n) 35 f.toNatClampNeg 1) 36 f.toNatClampNeg x) 37 f.toNatClampNeg y) 38 f.toNatClampNeg z) 39 f.toNatClampNeg n) 40 (nwF f a b n.toInt.toNat 0 (A 40))) := (by repeat (first | exact frA_rf | refine frA_u ?_ (by decide) | refine frA_uf ?_ (by decide)))
      obtain ⟨⟨f1, f2⟩, ⟨f3, f4⟩, f5⟩ := hc
      refine ⟨upd I 3400 0, (upAf (upA (upA (upA (upA (upA (upA (upA (upA (upA A 4 f.toNatClampNeg x) 5 f.toNatClampNeg y) 6 f.toNatClampNeg z) 9 f.toNatClampNeg n) 35 f.toNatClampNeg 1) 36 f.toNatClampNeg x) 37 f.toNatClampNeg y) 38 f.toNatClampNeg z) 39 f.toNatClampNeg n) 40 (nwF f a b n.toInt.toNat 0 (A 40))), rfl, ⟨?_, RWf_fr hi (by decide) r2, RWb_fr hi (by decide) ha (by decide) r3, RWt_fr hi (by decide) ha (by decide) r4, RH_fr hi (by decide) ha (by decide) r5, RC_fr hi (by decide) ha (by decide) r6, RD_fr hi (by decide) ha (by decide) r7⟩, rfl⟩
      obtain ⟨⟨a1, a2, a3, a4⟩, a5, a6, a7⟩ := r1
      refine ⟨⟨?_, ?_, ?_, ?_⟩, a5, a6, fun g hg => ?_⟩
      · show upd (A 4) f.toNatClampNeg x = upd (A 36) f.toNatClampNeg x
        rw [a1]
      · show upd (A 5) f.toNatClampNeg y = upd (A 37) f.toNatClampNeg y
        rw [a2]
      · show upd (A 6) f.toNatClampNeg z = upd (A 38) f.toNatClampNeg z
        rw [a3]
      · show upd (A 9) f.toNatClampNeg n = upd (A 39) f.toNatClampNeg n
        rw [a4]
      show 0 ≤ upd (A 9) f.toNatClampNeg n g ∧ upd (A 9) f.toNatClampNeg n g ≤ 16 ∧ (¬ upd (A 35) f.toNatClampNeg 1 g = 0 ↔ 0 < upd (A 9) f.toNatClampNeg n g) ∧ ∀ j : Nat, (j : Int) < (upd (A 9) f.toNatClampNeg n g).toInt → letC (vp_updL (L 7) f.toNatClampNeg a g) (vp_updL (L 8) f.toNatClampNeg b g) (Int32.ofNat j) = nwF f a b n.toInt.toNat 0 (A 40) (16 * g + j) &&& 255
      have g4 := i_le.mp f4
      rw [show (16 : Int32).toInt = 16 from rfl] at g4
      have g3 := i_le.mp f3
      rw [z1] at g3
      by_cases e : g = f.toNatClampNeg
      · subst e
        rw [upd_s, upd_s]
        refine ⟨by grind, f4, ⟨fun _ => by grind, fun _ => by decide⟩, fun j hj => ?_⟩
        rw [nwF_i f1 f2 _ 0 _ (by omega) (by omega) (by omega), nar_255, lt_e a b j (by omega), let_255]
        unfold vp_updL
        rw [if_pos rfl, if_pos rfl]
      · obtain ⟨b1, b2, b3, b4⟩ := a7 g hg
        rw [upd_n e, upd_n e]
        refine ⟨b1, b2, b3, fun j hj => ?_⟩
        have b5 := i_le.mp b2
        rw [show (16 : Int32).toInt = 16 from rfl] at b5
        rw [nwF_o f1 f2 _ 0 _ (by omega) (fun i q1 q2 q => e (by omega))]
        unfold vp_updL
        rw [if_neg e, if_neg e]
        exact b4 j hj
