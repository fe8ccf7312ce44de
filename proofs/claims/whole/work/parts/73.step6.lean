theorem fP {Ic I : mI} {Ac A : mA} {g : Int32 → Int32} {k : Nat} {w : Int32} (rt : RT Ic Ac I A) (hk : (k : Int) < (I 3436).toInt) (hw0 : 0 ≤ w) (hw : w < 5) : fPart (Ic 2407) (Ac 27) (Ac 28) g (Int32.ofNat k) w = Ac 27 (5 * k + w.toNatClampNeg) := by
  obtain ⟨t1, t2, t3, t4, t5⟩ := rt
  have g1 := i_le.mp t3
  rw [show (256 : Int32).toInt = 256 from rfl] at g1
  have ek : (Int32.ofNat k).toInt = k := i_of (by omega)
  have hk0 : 0 ≤ Int32.ofNat k := i_le.mpr (by rw [z0, ek]; omega)
  have hk1 : Int32.ofNat k < Ic 2407 := i_lt.mpr (by rw [t1, ek]; exact hk)
  have hk2 : Int32.ofNat k < 256 := i_lt.mpr (by rw [ek, show (256 : Int32).toInt = 256 from rfl]; omega)
  unfold fPart
  rw [if_neg (by grind), if_pos hw]
  have gw0 := i_le.mp hw0
  rw [z0] at gw0
  have gw := i_lt.mp hw
  rw [show (5 : Int32).toInt = 5 from rfl] at gw
  have ew : w = Int32.ofNat w.toNatClampNeg := i_eq.mpr (by rw [i_of (by rw [i_cl]; omega), i_cl]; omega)
  have := ix_l (m := Int32.ofNat k) (c := 5) (q := 5) (j := w.toNatClampNeg) hk0 (by grind) rfl (by decide) (by rw [i_cl]; omega)
  rw [← ew, ek] at this
  rw [this]
  congr 1
theorem fPn {Ic I : mI} {Ac A : mA} {k j : Nat} (rt : RT Ic Ac I A) (hk : (k : Int) < (I 3436).toInt) (hj : (j : Int) < (nSz (gmt (A 54)) (bQ (gmt (A 54)) (A 58 k))).toInt) (hj5 : j ≤ 510) : fPart (Ic 2407) (Ac 27) (Ac 28) (gat (Ic 2901) (Ac 30)) (Int32.ofNat k) (5 + Int32.ofNat j) = gmt (A 54) (bQ (gmt (A 54)) (A 58 k) + 14 + Int32.ofNat j) := by
  have rt0 := rt
  obtain ⟨t1, t2, t3, t4, t5⟩ := rt
  have g1 := i_le.mp t3
  rw [show (256 : Int32).toInt = 256 from rfl] at g1
  have ek : (Int32.ofNat k).toInt = k := i_of (by omega)
  have ej : (Int32.ofNat j).toInt = j := i_of (by omega)
  have hk0 : 0 ≤ Int32.ofNat k := i_le.mpr (by rw [z0, ek]; omega)
  have hk1 : Int32.ofNat k < Ic 2407 := i_lt.mpr (by rw [t1, ek]; exact hk)
  have hk2 : Int32.ofNat k < 256 := i_lt.mpr (by rw [ek, show (256 : Int32).toInt = 256 from rfl]; omega)
  have hj0 : 0 ≤ Int32.ofNat j := i_le.mpr (by rw [z0, ej]; omega)
  have hj1 : Int32.ofNat j ≤ 510 := i_le.mpr (by rw [ej, show (510 : Int32).toInt = 510 from rfl]; omega)
  obtain ⟨f1, f2, f3, f4, f5, f6, f7, f8, f9⟩ := t4 k hk
  have e4 : (Int32.ofNat k * 5 + 4).toNatClampNeg = 5 * k + 4 := by
    have := ix_l (m := Int32.ofNat k) (c := 5) (q := 5) (j := 4) hk0 (by grind) rfl (by decide) (by decide)
    rw [ek] at this
    exact this
  have es : 5 + Int32.ofNat j - 5 = Int32.ofNat j := by grind
  unfold fPart
  rw [if_neg (by grind), if_neg (by grind), es, e4, f6, if_pos (i_lt.mpr (by rw [ej]; exact hj)), cl_of (by omega)]
  exact f9 j hj
theorem sm_e {Ic I : mI} {Ac A : mA} {m : Int} {k : Nat} (R : RR Ic Ac I A m) (hk : (k : Int) < (I 3436).toInt) (hat : plO (gmt (A 54)) (I 3445) (I 3444)) : sameD Ic Ac (Int32.ofNat k) (bQ (gmt (A 54)) (I 3444)) ↔ smD (gmt (A 54)) (A 58 k) (I 3444) := by
  have hg : ∀ q, 0 ≤ gmt (A 54) q ∧ gmt (A 54) q ≤ 255 := fun q => gm_r
  have r1 := R.1
  have rt := R.2.2.2.2.1
  have h7 := a_7 R
  obtain ⟨q0, q1, n, n5, ne, n7⟩ := plO_q hat r1.2.1
  have pq := hat.2.2.2.2
  rw [ne] at pq
  have ft := rt.2.2.2.1 k hk
  obtain ⟨f1, f2, f3, f4, f5, f6, f7, f8, f9⟩ := ft
  obtain ⟨p0, p1, n2, n25, n2e, n27⟩ := plO_q f2 r1.2.1
  have gq0 := i_le.mp q0
  rw [z0] at gq0
  have gq0 : (0 : Int) ≤ (bQ (gmt (A 54)) (I 3444)).toInt := gq0
  have pq : (bQ (gmt (A 54)) (I 3444)).toInt + 14 + (n : Int) ≤ (I 3445).toInt := pq
  have hq : ∀ (j : Nat), j ≤ 600 → (bQ (gmt (A 54)) (I 3444) + Int32.ofNat j).toInt = (bQ (gmt (A 54)) (I 3444)).toInt + j := fun j hj => by rw [i_add (by rw [i_of (by omega)]; omega) (by rw [i_of (by omega)]; omega), i_of (by omega)]
  have gq : ∀ (j : Nat), j < 14 + n → gat (Ic 2201) (Ac 23) (bQ (gmt (A 54)) (I 3444) + Int32.ofNat j) = gmt (A 54) (bQ (gmt (A 54)) (I 3444) + Int32.ofNat j) := fun j hj => gR r1 (i_le.mpr (by rw [z0, hq j (by omega)]; omega)) (i_lt.mpr (by rw [hq j (by omega)]; omega))
  have nq : ∀ (j : Nat), j + 4 ≤ 14 + n → nrd (gat (Ic 2201) (Ac 23)) (bQ (gmt (A 54)) (I 3444) + Int32.ofNat j) 4 = nrd (gmt (A 54)) (bQ (gmt (A 54)) (I 3444) + Int32.ofNat j) 4 := fun j hj => nrR r1 (i_le.mpr (by rw [z0, hq j (by omega)]; omega)) (by decide) (by rw [hq j (by omega)]; omega)
  have c12 : gat (Ic 2201) (Ac 23) (bQ (gmt (A 54)) (I 3444) + 12) = gmt (A 54) (bQ (gmt (A 54)) (I 3444) + 12) := gq 12 (by omega)
  have c13 : gat (Ic 2201) (Ac 23) (bQ (gmt (A 54)) (I 3444) + 13) = gmt (A 54) (bQ (gmt (A 54)) (I 3444) + 13) := gq 13 (by omega)
  have b0 : nrd (gat (Ic 2201) (Ac 23)) (bQ (gmt (A 54)) (I 3444) + 4 * 0) 4 = nrd (gmt (A 54)) (bQ (gmt (A 54)) (I 3444) + 4 * 0) 4 := nq 0 (by omega)
  have b1 : nrd (gat (Ic 2201) (Ac 23)) (bQ (gmt (A 54)) (I 3444) + 4 * 1) 4 = nrd (gmt (A 54)) (bQ (gmt (A 54)) (I 3444) + 4 * 1) 4 := nq 4 (by omega)
  have b2 : nrd (gat (Ic 2201) (Ac 23)) (bQ (gmt (A 54)) (I 3444) + 4 * 2) 4 = nrd (gmt (A 54)) (bQ (gmt (A 54)) (I 3444) + 4 * 2) 4 := nq 8 (by omega)
  have a0 : fPart (Ic 2407) (Ac 27) (Ac 28) (gat (Ic 2901) (Ac 30)) (Int32.ofNat k) (1 + 0) = nrd (gmt (A 54)) (bQ (gmt (A 54)) (A 58 k) + 4 * 0) 4 := by
    rw [fP rt hk (by decide) (by decide), show bQ (gmt (A 54)) (A 58 k) + 4 * 0 = bQ (gmt (A 54)) (A 58 k) from Int32.add_zero _]
    exact f3
  have a1 : fPart (Ic 2407) (Ac 27) (Ac 28) (gat (Ic 2901) (Ac 30)) (Int32.ofNat k) (1 + 1) = nrd (gmt (A 54)) (bQ (gmt (A 54)) (A 58 k) + 4 * 1) 4 := by
    rw [fP rt hk (by decide) (by decide)]
    exact f4
  have a2 : fPart (Ic 2407) (Ac 27) (Ac 28) (gat (Ic 2901) (Ac 30)) (Int32.ofNat k) (1 + 2) = nrd (gmt (A 54)) (bQ (gmt (A 54)) (A 58 k) + 4 * 2) 4 := by
    rw [fP rt hk (by decide) (by decide)]
    exact f5
  have a4 : fPart (Ic 2407) (Ac 27) (Ac 28) (gat (Ic 2901) (Ac 30)) (Int32.ofNat k) 4 = nSz (gmt (A 54)) (bQ (gmt (A 54)) (A 58 k)) := by
    rw [fP rt hk (by decide) (by decide)]
    exact f6
  unfold sameD smD
  rw [a0, a1, a2, a4, b0, b1, b2, c12, c13, nr3 hg]
  constructor
  · rintro ⟨h1, h2, h3⟩
    refine ⟨h2, h1, ?_⟩
    rw [show (gmt (A 54) (bQ (gmt (A 54)) (I 3444) + 12) + gmt (A 54) (bQ (gmt (A 54)) (I 3444) + 13)).toInt = (n : Int) from ne, Int.toNat_natCast, smR_iff] at h3
    have en : (gmt (A 54) (bQ (gmt (A 54)) (A 58 k) + 12) + gmt (A 54) (bQ (gmt (A 54)) (A 58 k) + 13)).toInt = (n : Int) := by
      rw [← ne]
      exact congrArg Int32.toInt h2
    rw [en, Int.toNat_natCast, smR_iff]
    intro i i0 i1
    have hh := h3 i i0 i1
    rw [fPn rt hk (by show (i : Int) < (gmt (A 54) (bQ (gmt (A 54)) (A 58 k) + 12) + gmt (A 54) (bQ (gmt (A 54)) (A 58 k) + 13)).toInt; rw [en]; omega) (by omega)] at hh
    have e14 : bQ (gmt (A 54)) (I 3444) + 14 + Int32.ofNat i = bQ (gmt (A 54)) (I 3444) + Int32.ofNat (14 + i) := of_a
    rw [e14, gq (14 + i) (by omega), ← e14] at hh
    exact hh
  · rintro ⟨h2, h1, h3⟩
    refine ⟨h1, h2, ?_⟩
    have en : (gmt (A 54) (bQ (gmt (A 54)) (A 58 k) + 12) + gmt (A 54) (bQ (gmt (A 54)) (A 58 k) + 13)).toInt = (n : Int) := by
      rw [← ne]
      exact congrArg Int32.toInt h2
    rw [en, Int.toNat_natCast, smR_iff] at h3
    rw [show (gmt (A 54) (bQ (gmt (A 54)) (I 3444) + 12) + gmt (A 54) (bQ (gmt (A 54)) (I 3444) + 13)).toInt = (n : Int) from ne, Int.toNat_natCast, smR_iff]
    intro i i0 i1
    have hh := h3 i i0 i1
    rw [fPn rt hk (by show (i : Int) < (gmt (A 54) (bQ (gmt (A 54)) (A 58 k) + 12) + gmt (A 54) (bQ (gmt (A 54)) (A 58 k) + 13)).toInt; rw [en]; omega) (by omega)]
    have e14 : bQ (gmt (A 54)) (I 3444) + 14 + Int32.ofNat i = bQ (gmt (A 54)) (I 3444) + Int32.ofNat (14 + i) := of_a
    rw [e14, gq (14 + i) (by omega), ← e14]
    exact hh
