theorem xmW_mono {M : xM} {d : Nat × Nat} {as : List Value} {h : List xC} {mc ms : Nat} {P P' : xO → Prop} (hM : xmW M d as h mc ms P) (hp : ∀ o, P o → P' o) : xmW M d as h mc ms P' := by
  intro l hl D cA ad0 p e ha hc hk s m args below hf happ hP hK
  obtain ⟨n, oc, h1, h2, h3, o, h4, h5⟩ := hM l hl D cA ad0 p e ha hc hk s m args below hf happ hP hK
  exact ⟨n, oc, h1, h2, h3, o, hp o h4, h5⟩
def RF (A : mA) (L : mL) : Prop := (A 4 = A 36 ∧ A 5 = A 37 ∧ A 6 = A 38 ∧ A 9 = A 39) ∧ A 2 = A 41 ∧ A 10 = A 42 ∧ ∀ f : Nat, f < 256 → 0 ≤ A 9 f ∧ A 9 f ≤ 16 ∧ (¬ A 35 f = 0 ↔ 0 < A 9 f) ∧ ∀ j : Nat, (j : Int) < (A 9 f).toInt → letC (L 7 f) (L 8 f) (Int32.ofNat j) = A 40 (16 * f + j) &&& 255
def RWf (I : mI) : Prop := I 1308 = I 3412 ∧ I 1309 = I 3411 ∧ (0 ≤ I 1309 ∧ I 1309 ≤ 255) ∧ I 1310 = I 3413 ∧ (I 1310 = 0 ∨ I 1310 = 1) ∧ I 1311 = I 3414 ∧ I 1312 = I 3415 ∧ I 1313 = I 3416 ∧ I 1314 = I 3417 ∧ I 1600 = 143 ∧ I 1800 = 157
def RWb (I : mI) (A : mA) : Prop := ∃ B, isB (I 1401) (A 15) B ∧ isO (I 3409) (A 43) B ∧ (I 1310 = 0 → B.length ≤ 60000)
def RWt (I : mI) (A : mA) : Prop := ∃ T, isT (I 1307) (A 20) (A 21) T ∧ isM (I 3418) (A 44) T
def RH (I : mI) (A : mA) : Prop := I 1101 = I 3420 ∧ 0 ≤ I 1101 ∧ I 1101 ≤ 500 ∧ ∀ k : Nat, (k : Int) < (I 1101).toInt → A 12 (5 * k) = A 45 k ∧ A 12 (5 * k + 1) = A 46 k ∧ A 12 (5 * k + 2) = A 49 k ∧ A 12 (5 * k + 3) = A 47 k ∧ A 12 (5 * k + 4) = A 48 k ∧ (A 45 k = -1 ∨ (0 ≤ A 45 k ∧ A 45 k ≤ 255 ∧ 0 ≤ A 46 k ∧ A 46 k ≤ 255))
def RC (I : mI) (A : mA) : Prop := ∃ C, isB (I 2201) (A 23) C ∧ isB (I 3429) (A 53) C
def RD (I : mI) (A : mA) : Prop := RE I A I A ∧ I 3445 ≤ 70000
def RL (I : mI) (A : mA) (L : mL) : Prop := RF A L ∧ RWf I ∧ RWb I A ∧ RWt I A ∧ RH I A ∧ RC I A ∧ RD I A
theorem RF_fr {ka : List Nat} {A A' : mA} (hA : frA ka A A') (da : ∀ k ∈ [2, 4, 5, 6, 9, 10, 35, 36, 37, 38, 39, 40, 41, 42], k ∉ ka) {L L' : mL} (hL : L' 7 = L 7 ∧ L' 8 = L 8) (h : RF A L) : RF A' L' := by
  unfold RF at h ⊢
  rw [hA 2 (da 2 (by decide)), hA 4 (da 4 (by decide)), hA 5 (da 5 (by decide)), hA 6 (da 6 (by decide)), hA 9 (da 9 (by decide)), hA 10 (da 10 (by decide)), hA 35 (da 35 (by decide)), hA 36 (da 36 (by decide)), hA 37 (da 37 (by decide)), hA 38 (da 38 (by decide)), hA 39 (da 39 (by decide)), hA 40 (da 40 (by decide)), hA 41 (da 41 (by decide)), hA 42 (da 42 (by decide)), hL.1, hL.2]
  exact h
theorem RWf_fr {ki : List Nat} {I I' : mI} (hI : frI ki I I') (di : ∀ k ∈ [1308, 1309, 1310, 1311, 1312, 1313, 1314, 1600, 1800, 3411, 3412, 3413, 3414, 3415, 3416, 3417], k ∉ ki) (h : RWf I) : RWf I' := by
  unfold RWf at h ⊢
  rw [hI 1308 (di 1308 (by decide)), hI 1309 (di 1309 (by decide)), hI 1310 (di 1310 (by decide)), hI 1311 (di 1311 (by decide)), hI 1312 (di 1312 (by decide)), hI 1313 (di 1313 (by decide)), hI 1314 (di 1314 (by decide)), hI 1600 (di 1600 (by decide)), hI 1800 (di 1800 (by decide)), hI 3411 (di 3411 (by decide)), hI 3412 (di 3412 (by decide)), hI 3413 (di 3413 (by decide)), hI 3414 (di 3414 (by decide)), hI 3415 (di 3415 (by decide)), hI 3416 (di 3416 (by decide)), hI 3417 (di 3417 (by decide))]
  exact h
theorem RWb_fr {ki : List Nat} {I I' : mI} (hI : frI ki I I') (di : ∀ k ∈ [1401, 3409, 1310], k ∉ ki) {ka : List Nat} {A A' : mA} (hA : frA ka A A') (da : ∀ k ∈ [15, 43], k ∉ ka) (h : RWb I A) : RWb I' A' := by
  unfold RWb at h ⊢
  rw [hI 1401 (di 1401 (by decide)), hI 3409 (di 3409 (by decide)), hI 1310 (di 1310 (by decide)), hA 15 (da 15 (by decide)), hA 43 (da 43 (by decide))]
  exact h
theorem RWt_fr {ki : List Nat} {I I' : mI} (hI : frI ki I I') (di : ∀ k ∈ [1307, 3418], k ∉ ki) {ka : List Nat} {A A' : mA} (hA : frA ka A A') (da : ∀ k ∈ [20, 21, 44], k ∉ ka) (h : RWt I A) : RWt I' A' := by
  unfold RWt at h ⊢
  rw [hI 1307 (di 1307 (by decide)), hI 3418 (di 3418 (by decide)), hA 20 (da 20 (by decide)), hA 21 (da 21 (by decide)), hA 44 (da 44 (by decide))]
  exact h
theorem RH_fr {ki : List Nat} {I I' : mI} (hI : frI ki I I') (di : ∀ k ∈ [1101, 3420], k ∉ ki) {ka : List Nat} {A A' : mA} (hA : frA ka A A') (da : ∀ k ∈ [12, 45, 46, 47, 48, 49], k ∉ ka) (h : RH I A) : RH I' A' := by
  unfold RH at h ⊢
  rw [hI 1101 (di 1101 (by decide)), hI 3420 (di 3420 (by decide)), hA 12 (da 12 (by decide)), hA 45 (da 45 (by decide)), hA 46 (da 46 (by decide)), hA 47 (da 47 (by decide)), hA 48 (da 48 (by decide)), hA 49 (da 49 (by decide))]
  exact h
theorem RC_fr {ki : List Nat} {I I' : mI} (hI : frI ki I I') (di : ∀ k ∈ [2201, 3429], k ∉ ki) {ka : List Nat} {A A' : mA} (hA : frA ka A A') (da : ∀ k ∈ [23, 53], k ∉ ka) (h : RC I A) : RC I' A' := by
  unfold RC at h ⊢
  rw [hI 2201 (di 2201 (by decide)), hI 3429 (di 3429 (by decide)), hA 23 (da 23 (by decide)), hA 53 (da 53 (by decide))]
  exact h
theorem RE_fr {Ic Ic' I I' : mI} {Ac Ac' A A' : mA} (q1 : ∀ k ∈ [2405, 2406, 2407, 2408, 2409, 2410, 2411, 2901], Ic' k = Ic k) (q2 : ∀ k ∈ [25, 26, 27, 28, 30], Ac' k = Ac k) (q3 : ∀ k ∈ [3432, 3434, 3436, 3439, 3440, 3441, 3442, 3445], I' k = I k) (q4 : ∀ k ∈ [54, 55, 56, 57, 58], A' k = A k) (h : RE Ic Ac I A) : RE Ic' Ac' I' A' := by
  unfold RE RM RP RT rF1 at h ⊢
  rw [q1 2405 (by decide), q1 2406 (by decide), q1 2407 (by decide), q1 2408 (by decide), q1 2409 (by decide), q1 2410 (by decide), q1 2411 (by decide), q1 2901 (by decide), q2 25 (by decide), q2 26 (by decide), q2 27 (by decide), q2 28 (by decide), q2 30 (by decide), q3 3432 (by decide), q3 3434 (by decide), q3 3436 (by decide), q3 3439 (by decide), q3 3440 (by decide), q3 3441 (by decide), q3 3442 (by decide), q3 3445 (by decide), q4 54 (by decide), q4 55 (by decide), q4 56 (by decide), q4 57 (by decide), q4 58 (by decide)]
  exact h
theorem RD_fr {ki : List Nat} {I I' : mI} (hI : frI ki I I') (di : ∀ k ∈ ([2405, 2406, 2407, 2408, 2409, 2410, 2411, 2901] ++ [3432, 3434, 3436, 3439, 3440, 3441, 3442, 3445]), k ∉ ki) {ka : List Nat} {A A' : mA} (hA : frA ka A A') (da : ∀ k ∈ ([25, 26, 27, 28, 30] ++ [54, 55, 56, 57, 58]), k ∉ ka) (h : RD I A) : RD I' A' := by
  refine ⟨RE_fr (fun k hk => hI k (di k (List.mem_append_left _ hk))) (fun k hk => hA k (da k (List.mem_append_left _ hk))) (fun k hk => hI k (di k (List.mem_append_right _ hk))) (fun k hk => hA k (da k (List.mem_append_right _ hk))) h.1, ?_⟩
  rw [hI 3445 (di 3445 (by decide))]
  exact h.2
theorem RL_fr {ki ka : List Nat} {I I' : mI} {A A' : mA} {L L' : mL} (hI : frI ki I I') (di : ∀ k ∈ [1308, 1309, 1310, 1311, 1312, 1313, 1314, 1600, 1800, 3411, 3412, 3413, 3414, 3415, 3416, 3417, 1401, 3409, 1307, 3418, 1101, 3420, 2201, 3429, 2405, 2406, 2407, 2408, 2409, 2410, 2411, 2901, 3432, 3434, 3436, 3439, 3440, 3441, 3442, 3445], k ∉ ki) (hA : frA ka A A') (da : ∀ k ∈ [2, 4, 5, 6, 9, 10, 35, 36, 37, 38, 39, 40, 41, 42, 15, 43, 20, 21, 44, 12, 45, 46, 47, 48, 49, 23, 53, 25, 26, 27, 28, 30, 54, 55, 56, 57, 58], k ∉ ka) (hL : L' 7 = L 7 ∧ L' 8 = L 8) (h : RL I A L) : RL I' A' L' := by
  obtain ⟨r1, r2, r3, r4, r5, r6, r7⟩ := h
  have s1 : ∀ ks : List Nat, (∀ k ∈ ks, k ∈ [1308, 1309, 1310, 1311, 1312, 1313, 1314, 1600, 1800, 3411, 3412, 3413, 3414, 3415, 3416, 3417, 1401, 3409, 1307, 3418, 1101, 3420, 2201, 3429, 2405, 2406, 2407, 2408, 2409, 2410, 2411, 2901, 3432, 3434, 3436, 3439, 3440, 3441, 3442, 3445]) → ∀ k ∈ ks, k ∉ ki := fun ks q k hk => di k (q k hk)
  have s2 : ∀ ks : List Nat, (∀ k ∈ ks, k ∈ [2, 4, 5, 6, 9, 10, 35, 36, 37, 38, 39, 40, 41, 42, 15, 43, 20, 21, 44, 12, 45, 46, 47, 48, 49, 23, 53, 25, 26, 27, 28, 30, 54, 55, 56, 57, 58]) → ∀ k ∈ ks, k ∉ ka := fun ks q k hk => da k (q k hk)
  exact ⟨RF_fr hA (s2 _ (by decide)) hL r1, RWf_fr hI (s1 _ (by decide)) r2, RWb_fr hI (s1 _ (by decide)) hA (s2 _ (by decide)) r3, RWt_fr hI (s1 _ (by decide)) hA (s2 _ (by decide)) r4, RH_fr hI (s1 _ (by decide)) hA (s2 _ (by decide)) r5, RC_fr hI (s1 _ (by decide)) hA (s2 _ (by decide)) r6, RD_fr hI (s1 _ (by decide)) hA (s2 _ (by decide)) r7⟩
theorem RL_t {I : mI} {A : mA} {L L' : mL} {x : Int32} (hL : L' 7 = L 7 ∧ L' 8 = L 8) (h : RL I A L) : RL (upd I 3400 x) A L' := RL_fr (ki := [3400]) (ka := []) (frI_up (by decide)) (by decide) frA_rf (by decide) hL h
def mP1 (k : Int32) (L : mL) : xO → Prop := fun o => ∃ I2 A2, o = (.inl none, pic I2 A2 L) ∧ RL I2 A2 L ∧ I2 3400 = k
def mP2 (k : Int32) (L : mL) : xO → Prop := fun o => ∃ (b : Int32) (I2 : mI) (A2 : mA), o = (.inl (some (.int b)), pic I2 A2 L) ∧ RL I2 A2 L ∧ I2 3400 = k ∧ (k = 0 → L 61 0 = b.toInt64)
def mP3 (v : Int32) (L : mL) : xO → Prop := fun o => ∃ (I2 : mI) (A2 : mA), o = (.inl (some (.int v)), pic I2 A2 L) ∧ RL I2 A2 L
def cP1 (M : xM) (d : Nat × Nat) (as : List Value) : xO → Prop := fun o => ∃ (k : Int32) (I1 : mI) (A1 : mA) (L1 : mL), o = (.inl (some (.int k)), pic I1 A1 L1) ∧ xm M d as (pic I1 A1 L1) 0 0 (mP1 k L1)
def cP2 (M : xM) (d : Nat × Nat) (as : List Value) : xO → Prop := fun o => ∃ (k : Int32) (I1 : mI) (A1 : mA) (L1 : mL), o = (.inl (some (.int k)), pic I1 A1 L1) ∧ xm M d as (pic I1 A1 L1) 0 0 (mP2 k L1)
def cP3 (M : xM) (d : Nat × Nat) (as : List Value) : xO → Prop := fun o => ∃ (v : Int32) (I1 : mI) (A1 : mA) (L1 : mL), o = (.inl (some (.int v)), pic I1 A1 L1) ∧ xm M d as (pic I1 A1 L1) 0 0 (mP3 v L1)
