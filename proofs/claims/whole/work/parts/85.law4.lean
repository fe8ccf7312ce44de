theorem sp_w {m : Int32} {f : Nat → Int32} {k : Nat} (hk : (k : Int) < m.toInt) (hm : m ≤ 500) : sPart m f (Int32.ofNat k) 0 = f (5 * k) ∧ sPart m f (Int32.ofNat k) 1 = f (5 * k + 1) ∧ sPart m f (Int32.ofNat k) 2 = f (5 * k + 2) ∧ sPart m f (Int32.ofNat k) 3 = f (5 * k + 3) ∧ sPart m f (Int32.ofNat k) 4 = f (5 * k + 4) := by
  have g5 := i_le.mp hm
  rw [show (500 : Int32).toInt = 500 from rfl] at g5
  have ek : (Int32.ofNat k).toInt = (k : Int) := i_of (by omega)
  have k0 : 0 ≤ Int32.ofNat k := i_le.mpr (by rw [z0, ek]; omega)
  have k1 : Int32.ofNat k < m := i_lt.mpr (by rw [ek]; exact hk)
  have k5 : Int32.ofNat k < 500 := i_lt.mpr (by rw [ek, show (500 : Int32).toInt = 500 from rfl]; omega)
  obtain ⟨x0, x1, x2, x3, x4⟩ := ix_5 k0 (show Int32.ofNat k ≤ 500 by grind)
  have en : (Int32.ofNat k).toInt.toNat = k := by rw [ek]; omega
  rw [en] at x0 x1 x2 x3 x4
  have q : ∀ w : Int32, 0 ≤ w → w < 5 → sPart m f (Int32.ofNat k) w = f (Int32.ofNat k * 5 + w).toNatClampNeg := fun w w0 w5 => (sPart_t ⟨k0, k1, k5, w0, w5⟩).symm
  refine ⟨?_, ?_, ?_, ?_, ?_⟩
  · rw [q 0 (by decide) (by decide), Int32.add_zero, x0]
  · rw [q 1 (by decide) (by decide), x1]
  · rw [q 2 (by decide) (by decide), x2]
  · rw [q 3 (by decide) (by decide), x3]
  · rw [q 4 (by decide) (by decide), x4]
theorem hP_cg {X G X' G' : Nat → Int32} {n : Nat} (hX : ∀ k, k < n → X k = X' k) (hG : ∀ k, k < n → G k = G' k) : ∀ k, k ≤ n → hP X G k = hP X' G' k := by
  intro k hk
  cases k with
  | zero => rfl
  | succ k =>
    show ((X k).toInt64 + (G k).toInt64).toInt32 = ((X' k).toInt64 + (G' k).toInt64).toInt32
    rw [hX k (by omega), hG k (by omega)]
theorem okP_cg {X G X' G' : Nat → Int32} {n : Nat} (hX : ∀ k, k < n → X k = X' k) (hG : ∀ k, k < n → G k = G' k) {k : Nat} (hk : k < n) : okP X G k ↔ okP X' G' k := by
  unfold okP
  rw [hX k hk, hG k hk, hP_cg hX hG k (by omega)]
theorem rtP_cg {X G X' G' : Nat → Int32} {n : Nat} (hX : ∀ k, k < n → X k = X' k) (hG : ∀ k, k < n → G k = G' k) {k : Nat} (hk : k < n) : rtP X G k = rtP X' G' k := by
  unfold rtP
  rw [hX k hk, hP_cg hX hG k (by omega)]
theorem dnP_cg {Y Y' : Nat → Int32} {n : Nat} (hY : ∀ k, k < n → Y k = Y' k) {k : Nat} (hk : k < n) : dnP Y k = dnP Y' k := by
  unfold dnP
  rw [hY k hk]
  cases k with
  | zero => rfl
  | succ k =>
    show _ - Y k = _ - Y' k
    rw [hY k (by omega)]
theorem mxP_cg {f g : Nat → Int32} {n : Nat} (h : ∀ k, k < n → f k = g k) : ∀ (t s : Nat) (r : Int32), s + t ≤ n → mxP f t s r = mxP g t s r := by
  intro t
  induction t with
  | zero => intro s r _; rfl
  | succ t ih =>
    intro s r hs
    show mxP f t (s + 1) (if r < f s then f s else r) = mxP g t (s + 1) (if r < g s then g s else r)
    rw [h s (by omega), ih (s + 1) _ (by omega)]
theorem dfF_cg {D D' : Int32 → List Int32} {od od' : Nat → Int32} : ∀ n : Nat, (∀ k, k < n → D (od k) = D' (od' k)) → dfF D od n = dfF D' od' n := by
  intro n
  induction n with
  | zero => intro _; rfl
  | succ n ih =>
    intro h
    show D (od n) ++ dfF D od n = D' (od' n) ++ dfF D' od' n
    rw [h n (by omega), ih (fun k hk => h k (by omega))]
theorem nmD_e {a b : Int64} {f : Nat → Int32} {x : Int32} (h0 : 0 ≤ x) (h1 : x ≤ 255) : ∀ (t j : Nat), j + t ≤ 16 → (∀ i, j ≤ i → i < j + t → letC a b (Int32.ofNat i) = f (16 * x.toNatClampNeg + i) &&& 255) → lsB a b t j = nmM f x t j := by
  intro t
  induction t with
  | zero => intro j _ _; rfl
  | succ t ih =>
    intro j hj h
    show (letC a b (Int32.ofNat j) &&& 255) :: lsB a b t (j + 1) = (f (16 * x + Int32.ofNat j).toNatClampNeg &&& 255) :: nmM f x t (j + 1)
    rw [let_255, ih (j + 1) (by omega) (fun i q1 q2 => h i (by omega) (by omega)), ix_16 h0 h1 (by omega), h j (by omega) (by omega)]
theorem def_e {A : mA} {L : mL} {f : Int32} (r : RF A L) (h0 : 0 ≤ f) (h1 : f ≤ 255) : defC A L f = defM A f := by
  obtain ⟨⟨a1, a2, a3, a4⟩, a5, a6, a7⟩ := r
  obtain ⟨b1, b2, b3, b4⟩ := a7 f.toNatClampNeg (cl_256 h0 h1)
  have g2 := i_le.mp b2
  rw [show (16 : Int32).toInt = 16 from rfl] at g2
  have g1 := i_le.mp b1
  rw [z0] at g1
  unfold defC defM
  rw [nmD_e (f := A 40) h0 h1 _ 0 (by omega) (fun i _ q2 => b4 i (by omega)), a1, a2, a3, a4]
theorem defM_fr {ka : List Nat} {A A1 : mA} (hA : frA ka A A1) (da : ∀ k ∈ [36, 37, 38, 39, 40, 41, 42, 45, 46, 47, 48, 49], k ∉ ka) : defM A1 = defM A := by
  funext f
  unfold defM
  rw [hA 36 (da 36 (by decide)), hA 37 (da 37 (by decide)), hA 38 (da 38 (by decide)), hA 39 (da 39 (by decide)), hA 40 (da 40 (by decide))]
theorem pgO_fr {ka : List Nat} {A A1 : mA} {n : Nat} {T : List Int32} (hA : frA ka A A1) (da : ∀ k ∈ [36, 37, 38, 39, 40, 41, 42, 45, 46, 47, 48, 49], k ∉ ka) : pgO A1 n T = pgO A n T := by
  unfold pgO
  rw [defM_fr hA da, hA 41 (da 41 (by decide)), hA 45 (da 45 (by decide)), hA 46 (da 46 (by decide)), hA 47 (da 47 (by decide)), hA 48 (da 48 (by decide)), hA 49 (da 49 (by decide))]
def shE (I : mI) (A : mA) (n : Nat) : Prop := ∀ k, k < n → sPart (I 1101) (A 12) (Int32.ofNat k) 0 = A 45 k ∧ sPart (I 1101) (A 12) (Int32.ofNat k) 1 = A 46 k ∧ sPart (I 1101) (A 12) (Int32.ofNat k) 2 = A 49 k ∧ xsP (I 1101) (A 12) k = A 47 k ∧ ysP (I 1101) (A 12) k = A 48 k ∧ gsP (I 1101) (A 12) (A 2) k = gwM (A 45) (A 46) (A 41) k ∧ (A 45 k = -1 ∨ (0 ≤ A 45 k ∧ A 45 k ≤ 255 ∧ 0 ≤ A 46 k ∧ A 46 k ≤ 255))
theorem sh_e {I : mI} {A : mA} {L : mL} (r1 : RF A L) (r5 : RH I A) : shE I A (I 1101).toInt.toNat := by
  intro k hk
  obtain ⟨h1, h2, h3, h4⟩ := r5
  have hk2 : (k : Int) < (I 1101).toInt := by omega
  obtain ⟨s0, s1, s2, s3, s4⟩ := sp_w (f := A 12) hk2 h3
  obtain ⟨k1, k2, k3, k4, k5, k6⟩ := h4 k hk2
  refine ⟨s0.trans k1, s1.trans k2, s2.trans k3, s3.trans k4, s4.trans k5, ?_, k6⟩
  show gwF (I 1101) (A 12) (A 2) (Int32.ofNat k) = if A 45 k < 0 then 0 else A 41 (256 * A 45 k + A 46 k).toNatClampNeg
  unfold gwF
  rw [s0, s1, k1, k2]
  rcases k6 with e | ⟨e1, e2, e3, e4⟩
  · rw [if_pos e, e]
    rfl
  · rw [if_neg (by grind), if_neg (by grind)]
    unfold wOf
    rw [if_pos ⟨⟨e1, e2⟩, e3, e4⟩, r1.2.1, Int32.mul_comm]
theorem pg_e {I : mI} {A : mA} {L : mL} {n : Nat} {T : List Int32} (r1 : RF A L) (h : shE I A n) : pgC I A L n T = pgO A n T := by
  unfold pgC pgO
  have hX : ∀ k, k < n → xsP (I 1101) (A 12) k = A 47 k := fun k hk => (h k hk).2.2.2.1
  have hY : ∀ k, k < n → ysP (I 1101) (A 12) k = A 48 k := fun k hk => (h k hk).2.2.2.2.1
  have hG : ∀ k, k < n → gsP (I 1101) (A 12) (A 2) k = gwM (A 45) (A 46) (A 41) k := fun k hk => (h k hk).2.2.2.2.2.1
  refine pgR_cg (n := n) (fun k hk => dnP_cg hY hk) (fun k hk => rtP_cg hX hG hk) (fun k hk => cmN_cg (fun j hj => dnP_cg hY hj)) (fun k hk => cmN_cg (fun j hj => rtP_cg hX hG hj)) (fun k hk => (h k hk).1) (fun k hk => (h k hk).2.1) (fun k hk => (h k hk).2.2.1) (fun k hk hf => ?_) n 0 _ _ _ _ _ _ (by omega)
  have e := (h k hk).1
  have q := (h k hk).2.2.2.2.2.2
  show defC A L (sPart (I 1101) (A 12) (Int32.ofNat k) 0) = _
  have hf2 : ¬ A 45 k = -1 := fun w => hf (e.trans w)
  rw [e]
  have q2 := q.resolve_left hf2
  exact def_e r1 q2.1 q2.2.1
theorem app_len {S Y : List Int32} : (60000 < (app S Y).length ↔ 60000 < (S ++ Y).length) ∧ ((S ++ Y).length ≤ 60000 → app S Y = S ++ Y) := by
  constructor
  · unfold app
    rw [List.length_take]
    omega
  · intro h
    rw [List.length_append] at h
    exact app_ok (by omega)
theorem m_ship {I : mI} {A : mA} {L : mL} {ki ka : List Nat} {I1 : mI} {A1 : mA} {L1 : mL} {B T : List Int32} (R : RL I A L) (hB : isO (I 3409) (A 43) B) (hlen : I 1310 = 0 → B.length ≤ 60000) (hT : isM (I 3418) (A 44) T) (hI : frI ki I I1) (di : ∀ k ∈ [3400, 3409, 3411, 3412, 3413, 3414, 3415, 3416, 3417, 3418, 3420], k ∉ ki) (hA : frA ka A A1) (da : ∀ k ∈ [36, 37, 38, 39, 40, 41, 42, 43, 44, 45, 46, 47, 48, 49], k ∉ ka) : xm m_Mo_ship (4, 95) [.ref 34] (pic I1 A1 L1) 0 0 (fun o => (shC1 I ∧ o = (.inl (some (.int 0)), pic (upd I1 3400 1) A1 L1)) ∨ (shC2 I A (I 1101).toInt.toNat ∧ ∃ A', o = (.inl (some (.int 0)), pic (upd I1 3400 2) A' L1) ∧ frA [50, 51, 52] A1 A') ∨ (shC3 I A L (I 1101).toInt.toNat B T ∧ ∃ I' A', o = (.inl (some (.int 0)), pic I' A' L1) ∧ frI [3400, 3409, 3418, 3415] I1 I' ∧ frA [50, 51, 52, 43, 44, 60] A1 A' ∧ isO (I' 3409) (A' 43) B ∧ isM (I' 3418) (A' 44) T ∧ I' 3415 = I 3415 ∧ I' 3400 = 3) ∨ (shC4 I A L (I 1101).toInt.toNat B T ∧ ∃ I' A', o = (.inl (some (.int (I 1311 + 1))), pic I' A' L1) ∧ frI [3400, 3409, 3418, 3415, 3416, 3417, 3420, 3414] I1 I' ∧ frA [50, 51, 52, 43, 44, 60] A1 A' ∧ isO (I' 3409) (A' 43) (app (stW B (I 1308) (I 1309)) (pgY (A 10) (I 1312) (pgC I A L (I 1101).toInt.toNat T).1)) ∧ isM (I' 3418) (A' 44) (pgC I A L (I 1101).toInt.toNat T).2 ∧ I' 3415 = Int32.ofNat (stW B (I 1308) (I 1309)).length ∧ I' 3414 = I 1311 + 1 ∧ I' 3416 = mxP (ysP (I 1101) (A 12)) (I 1101).toInt.toNat 0 (I 1313) ∧ I' 3417 = mxP (fun k => hP (xsP (I 1101) (A 12)) (gsP (I 1101) (A 12) (A 2)) (k + 1)) (I 1101).toInt.toNat 0 (I 1314) ∧ I' 3420 = 0 ∧ I' 3400 = 0)) := by
  obtain ⟨r1, ⟨w1, w2, w3, w4, w5, w6, w7, w8, w9, w10, w11⟩, r3, r4, r5, r6, r7⟩ := R
  have qI : ∀ k ∈ [3400, 3409, 3411, 3412, 3413, 3414, 3415, 3416, 3417, 3418, 3420], I1 k = I k := fun k hk => hI k (di k hk)
  have qA : ∀ k ∈ [36, 37, 38, 39, 40, 41, 42, 43, 44, 45, 46, 47, 48, 49], A1 k = A k := fun k hk => hA k (da k hk)
  have hE := sh_e r1 r5
  have pe := pg_e (T := T) r1 hE
  have g0 := i_le.mp r5.2.1
  rw [z0] at g0
  have g5 := i_le.mp r5.2.2.1
  rw [show (500 : Int32).toInt = 500 from rfl] at g5
  have hn : (I 1101).toInt.toNat ≤ 500 := by omega
  have hmn : (I1 3420).toInt = ((I 1101).toInt.toNat : Int) := by rw [qI 3420 (by decide), ← r5.1]; omega
  have eO : pgO A1 (I 1101).toInt.toNat T = pgC I A L (I 1101).toInt.toNat T := (pgO_fr hA (fun k hk => da k (by revert k; decide))).trans pe.symm
  have eS : stM B (I1 3412) (I1 3411) = stW B (I 1308) (I 1309) := by
    rw [qI 3412 (by decide), qI 3411 (by decide), ← w1, ← w2, stW_ok w3.1 w3.2]
    rfl
  have eY : pgY (A1 42) (I1 3415) (pgO A1 (I 1101).toInt.toNat T).1 = pgY (A 10) (I 1312) (pgC I A L (I 1101).toInt.toNat T).1 := by
    rw [eO, qA 42 (by decide), qI 3415 (by decide), ← w7, ← r1.2.2.1]
  have hX : ∀ k, k < (I 1101).toInt.toNat → xsP (I 1101) (A 12) k = A 47 k := fun k hk => (hE k hk).2.2.2.1
  have hY : ∀ k, k < (I 1101).toInt.toNat → ysP (I 1101) (A 12) k = A 48 k := fun k hk => (hE k hk).2.2.2.2.1
  have hG : ∀ k, k < (I 1101).toInt.toNat → gsP (I 1101) (A 12) (A 2) k = gwM (A 45) (A 46) (A 41) k := fun k hk => (hE k hk).2.2.2.2.2.1
  have hF := fun k hk => (hE k hk).2.2.2.2.2.2
  have hL : ∀ x : Int32, 0 ≤ x → x ≤ 255 → 0 ≤ A1 39 x.toNatClampNeg ∧ A1 39 x.toNatClampNeg ≤ 16 := fun x x0 x1 => by
    rw [qA 39 (by decide), ← r1.1.2.2.2]
    have q := r1.2.2.2 _ (cl_256 x0 x1)
    exact ⟨q.1, q.2.1⟩
  have hlen1 : I1 3413 = 0 → B.length ≤ 60000 := fun q => hlen (by rw [w4, ← qI 3413 (by decide)]; exact q)
  refine xm_mono (c_Mo_ship_34 (n := (I 1101).toInt.toNat) (B := B) (T := T) hn hmn (fun k hk => ?_) (fun k hk hne => ?_) hL (by rw [qI 3411 (by decide), ← w2]; exact w3.1) (by rw [qI 3411 (by decide), ← w2]; exact w3.2) hlen1 (by rw [qI 3409 (by decide), qA 43 (by decide)]; exact hB) (by rw [qI 3418 (by decide), qA 44 (by decide)]; exact hT)) ?_
  · rw [qA 45 (by decide)]
    exact (hF k hk).imp id (fun q => ⟨q.1, q.2.1⟩)
  · rw [qA 45 (by decide)] at hne
    rw [qA 46 (by decide)]
    exact ((hF k hk).resolve_left hne).2.2
  have c0 : I1 3413 = I 1310 := by rw [qI 3413 (by decide), w4]
  have cok : ∀ k, k < (I 1101).toInt.toNat → (okP (xsP (I 1101) (A 12)) (gsP (I 1101) (A 12) (A 2)) k ↔ okP (A1 47) (gwM (A1 45) (A1 46) (A1 41)) k) := fun k hk => by
    rw [qA 47 (by decide), qA 45 (by decide), qA 46 (by decide), qA 41 (by decide)]
    exact okP_cg hX hG hk
  rintro o (⟨hc, ho⟩ | ⟨⟨hc, k, hk, hk2⟩, ho⟩ | ⟨⟨hc, hk, hl⟩, ho⟩ | ⟨⟨hc, hk, hl⟩, ho⟩)
  · exact Or.inl ⟨fun q => hc (c0.trans q), ho⟩
  · exact Or.inr (Or.inl ⟨⟨c0.symm.trans hc, k, hk, fun q => hk2 ((cok k hk).mp q)⟩, ho⟩)
  · rw [eS, eY] at hl
    obtain ⟨I', A', e, f1, f2, f3, f4, f5, f6⟩ := ho
    exact Or.inr (Or.inr (Or.inl ⟨⟨c0.symm.trans hc, fun k q => (cok k q).mpr (hk k q), app_len.1.mpr hl⟩, I', A', e, f1, f2, f3, f4, f5.trans (qI 3415 (by decide)), f6⟩))
  · obtain ⟨I', A', e, f1, f2, f3, f4, f5, f6, f7, f8, f9, f10⟩ := ho
    rw [eS, eY] at hl f3
    rw [eO] at f4
    rw [eS] at f5
    have e14 : I1 3414 = I 1311 := (qI 3414 (by decide)).trans w6.symm
    rw [e14] at e f6
    rw [← app_len.2 hl] at f3
    refine Or.inr (Or.inr (Or.inr ⟨⟨c0.symm.trans hc, fun k q => (cok k q).mpr (hk k q), ?_⟩, I', A', e, f1, f2, f3, f4, f5, f6, ?_, ?_, f9, f10⟩))
    · rw [app_len.2 hl]
      exact hl
    · rw [f7, qI 3416 (by decide), ← w8, qA 48 (by decide)]
      exact (mxP_cg hY _ _ _ (by omega)).symm
    · rw [f8, qI 3417 (by decide), ← w9, qA 47 (by decide), qA 45 (by decide), qA 46 (by decide), qA 41 (by decide)]
      exact (mxP_cg (n := (I 1101).toInt.toNat) (fun k hk => hP_cg hX hG (k + 1) (by omega)) _ _ _ (by omega)).symm
theorem RWf_k {I I2 : mI} (q : ∀ k ∈ [1308, 1309, 1310, 1311, 1312, 1313, 1314, 1600, 1800], I2 k = I k) (q2 : ∀ k ∈ [3411, 3412, 3413, 3414, 3416, 3417], I2 k = I k) (q3 : I2 3415 = I 3415) (h : RWf I) : RWf I2 := by
  unfold RWf at h ⊢
  rw [q 1308 (by decide), q 1309 (by decide), q 1310 (by decide), q 1311 (by decide), q 1312 (by decide), q 1313 (by decide), q 1314 (by decide), q 1600 (by decide), q 1800 (by decide), q2 3411 (by decide), q2 3412 (by decide), q2 3413 (by decide), q2 3414 (by decide), q2 3416 (by decide), q2 3417 (by decide), q3]
  exact h
theorem p_La_ship {I : mI} {A : mA} {L : mL} (R : RL I A L) : xmW m_La_ship (7, 159) [.ref 0, .ref 61] (pic I A L) 1 6 (cP2 m_Mo_ship (4, 95) [.ref 34]) := by
  have R0 := R
  obtain ⟨r1, r2, r3, r4, r5, r6, r7⟩ := R
  obtain ⟨B, b1, b2, b3⟩ := r3
  obtain ⟨T, t1, t2⟩ := r4
  have hE := sh_e r1 r5
  have g0 := i_le.mp r5.2.1
  rw [z0] at g0
  have g5 := i_le.mp r5.2.2.1
  rw [show (500 : Int32).toInt = 500 from rfl] at g5
  have hL : ∀ x : Int32, 0 ≤ x → x ≤ 255 → 0 ≤ A 9 x.toNatClampNeg ∧ A 9 x.toNatClampNeg ≤ 16 := fun x x0 x1 => by
    have q := r1.2.2.2 _ (cl_256 x0 x1)
    exact ⟨q.1, q.2.1⟩
  refine xmW_mono (c_La_ship (n := (I 1101).toInt.toNat) (B := B) (T := T) (by omega) (by omega) (fun k hk => ?_) r2.2.2.2.2.1 r2.2.2.2.2.2.2.2.2.2.1 r2.2.2.2.2.2.2.2.2.2.2 hL r2.2.2.1.1 r2.2.2.1.2 b1 t1) ?_
  · have q := hE k hk
    rw [q.1]
    exact q.2.2.2.2.2.2.imp id (fun w => ⟨w.1, w.2.1⟩)
  rintro _ (⟨hc, rfl⟩ | ⟨hc, I1, A1, rfl, hI, hA⟩ | ⟨hc, I1, A1, rfl, hI, hA, hB, hT⟩ | ⟨hc, I1, A1, rfl, hI, hA, hB, hT, y1, y2, y3, y4, y5⟩)
  · refine ⟨1, I, A, L, rfl, xm_mono (m_ship (ki := []) (ka := []) R0 b2 b3 t2 frI_rf (by decide) frA_rf (by decide)) ?_⟩
    rintro _ (⟨hm, rfl⟩ | ⟨hm, _⟩ | ⟨hm, _⟩ | ⟨hm, _⟩)
    · exact ⟨_, _, _, rfl, RL_t ⟨rfl, rfl⟩ R0, rfl, fun q => absurd q (by decide)⟩
    · exact (sh12 hc hm).elim
    · exact (sh13 hc hm).elim
    · exact (sh14 hc hm).elim
  · refine ⟨2, I1, A1, L, rfl, xm_mono (m_ship R0 b2 b3 t2 hI (by decide) hA (by decide)) ?_⟩
    rintro _ (⟨hm, rfl⟩ | ⟨hm, A2, rfl, hA2⟩ | ⟨hm, _⟩ | ⟨hm, _⟩)
    · exact (sh12 hm hc).elim
    · refine ⟨_, _, _, rfl, RL_fr (ki := [1602, 1603, 1604, 1802, 1803, 1804, 1315, 1316, 3400]) (ka := [17, 19, 50, 51, 52]) (frI_tr hI (frI_up (ks := [3400]) (by decide)) (by decide) (by decide)) (by decide) (frA_tr hA hA2 (by decide) (by decide)) (by decide) ⟨rfl, rfl⟩ R0, rfl, fun q => absurd q (by decide)⟩
    · exact (sh23 hc hm).elim
    · exact (sh24 hc hm).elim
  · refine ⟨3, I1, A1, L, rfl, xm_mono (m_ship R0 b2 b3 t2 hI (by decide) hA (by decide)) ?_⟩
    rintro _ (⟨hm, rfl⟩ | ⟨hm, _⟩ | ⟨hm, I2, A2, rfl, f1, f2, f3, f4, f5, f6⟩ | ⟨hm, _⟩)
    · exact (sh13 hm hc).elim
    · exact (sh23 hm hc).elim
    · have hi : frI [1401, 1602, 1603, 1604, 1802, 1803, 1804, 1315, 1316, 1307, 3400, 3409, 3418, 3415] I I2 := frI_tr hI f1 (by decide) (by decide)
      have ha : frA [15, 17, 19, 20, 21, 50, 51, 52, 43, 44, 60] A A2 := frA_tr hA f2 (by decide) (by decide)
      refine ⟨_, _, _, rfl, ⟨RF_fr ha (by decide) ⟨rfl, rfl⟩ r1, RWf_k (fun k hk => hi k (by revert k; decide)) (fun k hk => hi k (by revert k; decide)) f5 r2, ⟨B, ?_, f3, fun q => b3 (by rw [← hi 1310 (by decide)]; exact q)⟩, ⟨T, ?_, f4⟩, RH_fr hi (by decide) ha (by decide) r5, RC_fr hi (by decide) ha (by decide) r6, RD_fr hi (by decide) ha (by decide) r7⟩, f6, fun q => absurd q (by decide)⟩
      · rw [f1 1401 (by decide), f2 15 (by decide)]
        exact hB
      · rw [f1 1307 (by decide), f2 20 (by decide), f2 21 (by decide)]
        exact hT
    · exact (sh34 hc hm).elim
  · refine ⟨0, I1, A1, _, rfl, xm_mono (m_ship R0 b2 b3 t2 hI (by decide) hA (by decide)) ?_⟩
    rintro _ (⟨hm, rfl⟩ | ⟨hm, _⟩ | ⟨hm, _⟩ | ⟨hm, I2, A2, rfl, f1, f2, f3, f4, f5, f6, f7, f8, f9, f10⟩)
    · exact (sh14 hm hc).elim
    · exact (sh24 hm hc).elim
    · exact (sh34 hm hc).elim
    · have hi : frI [1401, 1602, 1603, 1604, 1802, 1803, 1804, 1315, 1316, 1307, 1311, 1312, 1313, 1314, 1101, 3400, 3409, 3418, 3415, 3416, 3417, 3420, 3414] I I2 := frI_tr hI f1 (by decide) (by decide)
      have ha : frA [15, 17, 19, 20, 21, 50, 51, 52, 43, 44, 60] A A2 := frA_tr hA f2 (by decide) (by decide)
      obtain ⟨w1, w2, w3, w4, w5, w6, w7, w8, w9, w10, w11⟩ := r2
      refine ⟨_, _, _, rfl, ⟨RF_fr ha (by decide) ⟨rfl, rfl⟩ r1, ⟨?_, ?_, ?_, ?_, ?_, ?_, ?_, ?_, ?_, ?_, ?_⟩, ⟨_, ?_, f3, fun _ => hc.2.2⟩, ⟨_, ?_, f4⟩, ?_, RC_fr hi (by decide) ha (by decide) r6, RD_fr hi (by decide) ha (by decide) r7⟩, f10, fun _ => rfl⟩
      · rw [hi 1308 (by decide), hi 3412 (by decide)]; exact w1
      · rw [hi 1309 (by decide), hi 3411 (by decide)]; exact w2
      · rw [hi 1309 (by decide)]; exact w3
      · rw [hi 1310 (by decide), hi 3413 (by decide)]; exact w4
      · rw [hi 1310 (by decide)]; exact w5
      · rw [f1 1311 (by decide), y2, f6]
      · rw [f1 1312 (by decide), f5]
        have hs := stW_len (B := B) (c := I 1308) w3.1 w3.2
        have hb := b1.2.1
        exact i_eq.mpr (by rw [y1, i_of (by omega)])
      · rw [f1 1313 (by decide), y3, f7]
      · rw [f1 1314 (by decide), y4, f8]
      · rw [hi 1600 (by decide)]; exact w10
      · rw [hi 1800 (by decide)]; exact w11
      · rw [f1 1401 (by decide), f2 15 (by decide)]
        exact hB
      · rw [f1 1307 (by decide), f2 20 (by decide), f2 21 (by decide)]
        exact hT
      · have e0 : I2 1101 = 0 := (f1 1101 (by decide)).trans y5
        exact ⟨by rw [e0, f9], by rw [e0]; decide, by rw [e0]; decide, fun k hk => absurd hk (by rw [e0, z0]; omega)⟩
theorem cl_e {I : mI} {A : mA} {L : mL} {ki ka : List Nat} {I1 : mI} {A1 : mA} {B T : List Int32} (R : RL I A L) (hT : isT (I 1307) (A 20) (A 21) T) (hM : isM (I 3418) (A 44) T) (hI : frI ki I I1) (di : ∀ k ∈ [3400, 3409, 3411, 3412, 3413, 3414, 3415, 3416, 3417, 3418, 3420], k ∉ ki) (hA : frA ka A A1) (da : ∀ k ∈ [36, 37, 38, 39, 40, 41, 42, 43, 44, 45, 46, 47, 48, 49], k ∉ ka) : clO I1 A1 B T = clB I A L B T := by
  obtain ⟨r1, ⟨w1, w2, w3, w4, w5, w6, w7, w8, w9, w10, w11⟩, r3, r4, r5, r6, r7⟩ := R
  have qI : ∀ k ∈ [3400, 3409, 3411, 3412, 3413, 3414, 3415, 3416, 3417, 3418, 3420], I1 k = I k := fun k hk => hI k (di k hk)
  have qA : ∀ k ∈ [36, 37, 38, 39, 40, 41, 42, 43, 44, 45, 46, 47, 48, 49], A1 k = A k := fun k hk => hA k (da k hk)
  have eS : stM B (I1 3412) (I1 3411) = stW B (I 1308) (I 1309) := by
    rw [qI 3412 (by decide), qI 3411 (by decide), ← w1, ← w2, stW_ok w3.1 w3.2]
    rfl
  have eD : dfF (defM A1) (A1 44) T.length = dfF (defC A L) (A 21) T.length := by
    rw [defM_fr hA (fun k hk => da k (by revert k; decide)), qA 44 (by decide)]
    refine dfF_cg _ (fun k hk => ?_)
    have e1 := hT.2.2.1 k _ (List.getElem?_eq_getElem hk)
    have e2 := hM.2.2.1 k _ (List.getElem?_eq_getElem hk)
    have e3 := hT.2.2.2.1 _ (List.getElem_mem hk)
    rw [e1, e2]
    exact (def_e r1 e3.1 e3.2).symm
  unfold clO clB
  rw [eS, eD, qI 3415 (by decide), qI 3416 (by decide), qI 3417 (by decide), qI 3414 (by decide), ← w6, ← w7, ← w8, ← w9]
theorem p_La_close {I : mI} {A : mA} {L : mL} (R : RL I A L) : xmW m_La_close (7, 127) [.ref 0, .ref 61] (pic I A L) 1 6 (cP2 m_Mo_close (3, 66) [.ref 34]) := by
  have R0 := R
  obtain ⟨r1, r2, r3, r4, r5, r6, r7⟩ := R
  obtain ⟨B, b1, b2, b3⟩ := r3
  obtain ⟨T, t1, t2⟩ := r4
  have hL : ∀ x : Int32, 0 ≤ x → x ≤ 255 → 0 ≤ A 9 x.toNatClampNeg ∧ A 9 x.toNatClampNeg ≤ 16 := fun x x0 x1 => by
    have q := r1.2.2.2 _ (cl_256 x0 x1)
    exact ⟨q.1, q.2.1⟩
  obtain ⟨w1, w2, w3, w4, w5, w6, w7, w8, w9, w10, w11⟩ := r2
  have hm1 : ∀ (I1 : mI) (A1 : mA) (L1 : mL), frI [1401, 1310] I I1 → frA [15] A A1 → xm m_Mo_close (3, 66) [.ref 34] (pic I1 A1 L1) 0 0 (fun o => (¬ I1 3413 = 0 ∧ o = (.inl (some (.int 0)), pic (upd I1 3400 1) A1 L1)) ∨ (I1 3413 = 0 ∧ clR I1 A1 L1 B T o)) := fun I1 A1 L1 hI hA => c_Mo_close_34 (by rw [hI 3411 (by decide), ← w2]; exact w3.1) (by rw [hI 3411 (by decide), ← w2]; exact w3.2) (fun q => b3 (by rw [w4, ← hI 3413 (by decide)]; exact q)) (by rw [hA 39 (by decide), ← r1.1.2.2.2]; exact hL) (by rw [hI 3409 (by decide), hA 43 (by decide)]; exact b2) (by rw [hI 3418 (by decide), hA 44 (by decide)]; exact t2)
  refine xmW_mono (c_La_close w5 w3.1 w3.2 b3 hL b1 t1) ?_
  rintro _ (⟨hc, rfl⟩ | ⟨hc, I1, A1, rfl, hI, hA, hB, y1⟩)
  · refine ⟨1, I, A, L, rfl, xm_mono (hm1 I A L frI_rf frA_rf) ?_⟩
    rintro _ (⟨hm, rfl⟩ | ⟨hm, _⟩)
    · exact ⟨_, _, _, rfl, RL_t ⟨rfl, rfl⟩ R0, rfl, fun q => absurd q (by decide)⟩
    · exact absurd (w4.trans hm) hc
  · refine ⟨0, I1, A1, _, rfl, xm_mono (hm1 I1 A1 _ hI hA) ?_⟩
    rintro _ (⟨hm, rfl⟩ | ⟨hm, I2, A2, rfl, f1, f2, f3, f4, f5⟩)
    · exact absurd ((hI 3413 (by decide)).trans (w4.symm.trans hc)) hm
    · have hi : frI [1401, 1310, 3400, 3409, 3413] I I2 := frI_tr hI f1 (by decide) (by decide)
      have ha : frA [15, 43] A A2 := frA_tr hA f2 (by decide) (by decide)
      rw [cl_e R0 t1 t2 hI (by decide) hA (by decide)] at f3
      have r9 : RWb I2 A2 := ⟨_, by rw [f1 1401 (by decide), f2 15 (by decide)]; exact hB, f3, fun q => absurd (((f1 1310 (by decide)).trans y1).symm.trans q) (by decide)⟩
      have e9 := (RWb_e r9).1
      refine ⟨_, _, _, rfl, ⟨RF_fr ha (by decide) ⟨rfl, rfl⟩ r1, ⟨?_, ?_, ?_, ?_, ?_, ?_, ?_, ?_, ?_, ?_, ?_⟩, r9, RWt_fr hi (by decide) ha (by decide) ⟨T, t1, t2⟩, RH_fr hi (by decide) ha (by decide) r5, RC_fr hi (by decide) ha (by decide) r6, RD_fr hi (by decide) ha (by decide) r7⟩, f5, fun _ => congrArg Int32.toInt64 ((f1 1401 (by decide)).symm.trans e9)⟩
      · rw [hi 1308 (by decide), hi 3412 (by decide)]; exact w1
      · rw [hi 1309 (by decide), hi 3411 (by decide)]; exact w2
      · rw [hi 1309 (by decide)]; exact w3
      · rw [f1 1310 (by decide), y1, f4]
      · rw [f1 1310 (by decide), y1]; exact Or.inr rfl
      · rw [hi 1311 (by decide), hi 3414 (by decide)]; exact w6
      · rw [hi 1312 (by decide), hi 3415 (by decide)]; exact w7
      · rw [hi 1313 (by decide), hi 3416 (by decide)]; exact w8
      · rw [hi 1314 (by decide), hi 3417 (by decide)]; exact w9
      · rw [hi 1600 (by decide)]; exact w10
      · rw [hi 1800 (by decide)]; exact w11
