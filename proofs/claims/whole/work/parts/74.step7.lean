theorem RR_mono {Ic I : mI} {Ac A : mA} {m m' : Int} (h : RR Ic Ac I A m) (hm : m ≤ m') : RR Ic Ac I A m' := by
  obtain ⟨r1, r2, rm, rp, rt, ⟨N, n1, n2⟩, rg, ri⟩ := h
  exact ⟨r1, r2, rm, rp, rt, ⟨N, n1, by omega⟩, rg, ri⟩
theorem and_id {x : Int32} (h : 0 ≤ x ∧ x ≤ 255) : x &&& 255 = x := by
  have hb := by_nat h
  apply bv_eq
  show (x.toBitVec &&& 255#32).toNat = _
  rw [BitVec.toNat_and]
  show x.toBitVec.toNat &&& (2 ^ 8 - 1) = _
  rw [Nat.and_two_pow_sub_one_eq_mod]
  omega
theorem nmL_at {G : Nat → Int32} : ∀ (t j i : Nat), i < t → (nmL G t j)[i]? = some (G (j + i) &&& 255) := by
  intro t
  induction t with
  | zero => intro j i h; exact absurd h (by omega)
  | succ t ih =>
    intro j i h
    cases i with
    | zero => rfl
    | succ i =>
      show (nmL G t (j + 1))[i]? = _
      rw [ih (j + 1) i (by omega), show j + 1 + i = j + (i + 1) by omega]
theorem nmL_len {G : Nat → Int32} : ∀ (t j : Nat), (nmL G t j).length = t := by
  intro t
  induction t with
  | zero => intro j; rfl
  | succ t ih => intro j; show (nmL G t (j + 1)).length + 1 = _; rw [ih]
theorem gB_l {N M : List Int32} {i : Int32} (h0 : 0 ≤ i) (h1 : i.toInt < N.length) : gB (N ++ M) i = gB N i := by
  have g0 := i_le.mp h0
  rw [z0] at g0
  unfold gB
  rw [if_neg (by grind), if_neg (by grind), List.getD_eq_getElem?_getD, List.getD_eq_getElem?_getD, List.getElem?_append_left (by rw [i_cl]; omega)]
theorem gB_r {N M : List Int32} {i : Int32} {j : Nat} {b : Int32} (h0 : i.toInt = N.length + j) (hb : M[j]? = some b) : gB (N ++ M) i = b := by
  have hn : ¬ i < 0 := fun q => by have := i_lt.mp q; rw [z0] at this; omega
  unfold gB
  rw [if_neg hn, List.getD_eq_getElem?_getD, List.getElem?_append_right (by rw [i_cl]; omega), show i.toNatClampNeg - N.length = j by rw [i_cl]; omega, hb]
  rfl
theorem i5 {m : Int32} {n r : Nat} {c : Int32} (h0 : 0 ≤ m) (hm : m ≤ 256) (hn : m.toInt = (n : Int)) (hc : c = Int32.ofNat r) (hr : r ≤ 10) : (m * 5 + c).toNatClampNeg = 5 * n + r := by
  rw [hc, ix_l (q := 5) h0 (by grind) rfl (by decide) (by omega), hn, Int.toNat_natCast]
theorem st_def {Ic Ic2 I I2 : mI} {Ac Ac2 A A2 : mA} {m : Int} {f w : Int32} {k : Nat} {N : List Int32} (R : RR Ic Ac I A m) (hs : 1 ≤ I 3443 ∧ I 3443 ≤ 3) (hmA : m ≤ (I 3444).toInt) (hat : plO (gmt (A 54)) (I 3445) (I 3444)) (hnb : Ic 3109 = gmt (A 54) (I 3444) - 243 + 1) (hk : (gmt (A 54) (I 3444) - 243 + 1).toInt = (k : Int)) (hk4 : 1 ≤ k ∧ k ≤ 4) (hN : isB (Ic 2901) (Ac 30) N) (hc : t_Rd_obeyDefinition Ic Ac k N f Ic2 Ac2) (hm : t_Mo_tell I A k w I2 A2) : w = f ∧ (f = 0 → RR Ic2 Ac2 I2 A2 (m + (nSz (gmt (A 54)) (bQ (gmt (A 54)) (I 3444))).toInt)) := by
  have h7 := a_7 R
  have R0 := R
  have hg : ∀ q, 0 ≤ gmt (A 54) q ∧ gmt (A 54) q ≤ 255 := fun q => gm_r
  obtain ⟨q0, q1, n, n5, ne, n7⟩ := plO_q hat R.1.2.1
  have pq := hat.2.2.2.2
  rw [ne] at pq
  have ne : (nSz (gmt (A 54)) (bQ (gmt (A 54)) (I 3444))).toInt = (n : Int) := ne
  have gq0 := i_le.mp q0
  rw [z0] at gq0
  have gq0 : (0 : Int) ≤ (bQ (gmt (A 54)) (I 3444)).toInt := gq0
  have pq : (bQ (gmt (A 54)) (I 3444)).toInt + 14 + (n : Int) ≤ (I 3445).toInt := pq
  have ebq : (bQ (gmt (A 54)) (I 3444)).toInt = (I 3444).toInt + 1 + k := by
    show (I 3444 + 1 + (gmt (A 54) (I 3444) - 243 + 1)).toInt = _
    have e1 : (I 3444 + 1).toInt = (I 3444).toInt + 1 := by rw [i_add (by rw [z1]; omega) (by rw [z1]; omega), z1]
    rw [i_add (by rw [e1, hk]; omega) (by rw [e1, hk]; omega), e1, hk]
  have ex : nrd (gat (Ic 2201) (Ac 23)) (Ic 3107 + 1) k = nrd (gmt (A 54)) (I 3444 + 1) k := nA R (n := 1) rfl (by decide) (by omega) (by omega)
  have eb : Ic 3107 + 1 + Ic 3109 = bQ (gmt (A 54)) (I 3444) := by rw [R.2.1.1, hnb]
  have hq : ∀ (j : Nat), j ≤ 600 → (bQ (gmt (A 54)) (I 3444) + Int32.ofNat j).toInt = (bQ (gmt (A 54)) (I 3444)).toInt + j := fun j hj => by rw [i_add (by rw [i_of (by omega)]; omega) (by rw [i_of (by omega)]; omega), i_of (by omega)]
  have gq : ∀ (j : Nat), j < 14 + n → gat (Ic 2201) (Ac 23) (bQ (gmt (A 54)) (I 3444) + Int32.ofNat j) = gmt (A 54) (bQ (gmt (A 54)) (I 3444) + Int32.ofNat j) := fun j hj => gR R0.1 (i_le.mpr (by rw [z0, hq j (by omega)]; omega)) (i_lt.mpr (by rw [hq j (by omega)]; omega))
  have nq : ∀ (j : Nat), j + 4 ≤ 14 + n → nrd (gat (Ic 2201) (Ac 23)) (bQ (gmt (A 54)) (I 3444) + Int32.ofNat j) 4 = nrd (gmt (A 54)) (bQ (gmt (A 54)) (I 3444) + Int32.ofNat j) 4 := fun j hj => nrR R0.1 (i_le.mpr (by rw [z0, hq j (by omega)]; omega)) (by decide) (by rw [hq j (by omega)]; omega)
  obtain ⟨r1, r2, rm, rp, rt, ⟨N0, u1, u2⟩, rg, ri⟩ := R
  have hNl : (N.length : Int) ≤ m := by
    have := hN.1
    have := u1.1
    omega
  have hRm : RR Ic Ac I A (m + (nSz (gmt (A 54)) (bQ (gmt (A 54)) (I 3444))).toInt) := RR_mono R0 (by rw [ne]; omega)
  unfold t_Rd_obeyDefinition at hc
  rw [ex, eb] at hc
  unfold t_Mo_tell at hm
  have t2 := i_le.mp rt.2.1
  rw [z0] at t2
  have t3 := i_le.mp rt.2.2.1
  rw [show (256 : Int32).toInt = 256 from rfl] at t3
  rcases fnd (x := nrd (gmt (A 54)) (I 3444 + 1) k) rt with ⟨l, a1, a2, a3, a4⟩ | ⟨a1, a3, a4⟩
  · have hn := of_nn (k := l) (by omega)
    rw [a3] at hc
    rw [a4, cl_of (by omega)] at hm
    have hsm := sm_e R0 a1 hat
    rw [hsm] at hc
    rcases hc with ⟨c1, c2, rfl, rfl, rfl⟩ | ⟨c1, c2, rfl, rfl, rfl⟩ | ⟨c1, -⟩ | ⟨c1, -⟩ | ⟨c1, -⟩
    · rcases hm with ⟨n1, rfl, rfl, rfl⟩ | ⟨n1, -⟩ | ⟨n1, -⟩ | ⟨n1, -⟩ | ⟨n1, -⟩
      · exact ⟨rfl, fun _ => hRm⟩
      · exact absurd c2 n1.2
      · exact absurd n1.1 hn.2.2
      · exact absurd n1.1 hn.2.2
      · exact absurd n1.1 hn.2.2
    · rcases hm with ⟨n1, -⟩ | ⟨n1, rfl, rfl, rfl⟩ | ⟨n1, -⟩ | ⟨n1, -⟩ | ⟨n1, -⟩
      · exact absurd n1.2 c2
      · exact ⟨rfl, fun h => absurd h (by decide)⟩
      · exact absurd n1.1 hn.2.2
      · exact absurd n1.1 hn.2.2
      · exact absurd n1.1 hn.2.2
    · exact absurd c1 hn.2.1
    · exact absurd c1 hn.2.1
    · exact absurd c1 hn.2.1
  · rw [a3] at hc
    rw [a4] at hm
    have est : Ic 3106 = I 3443 := r2.2.2.2.1
    rw [est, rt.1] at hc
    rcases hc with ⟨c1, -⟩ | ⟨c1, -⟩ | ⟨-, c2, rfl, rfl, rfl⟩ | ⟨-, c2, c3, rfl, rfl, rfl⟩ | ⟨-, c2, c3, I', rfl, rfl, k1, k2, k3⟩
    · exact absurd rfl c1
    · exact absurd rfl c1
    · rcases hm with ⟨n1, -⟩ | ⟨n1, -⟩ | ⟨n1, rfl, rfl, rfl⟩ | ⟨n1, -⟩ | ⟨n1, -⟩
      · exact absurd n1.1 (by decide)
      · exact absurd n1.1 (by decide)
      · exact ⟨rfl, fun h => absurd h (by decide)⟩
      · exact absurd c2 n1.2.1
      · exact absurd c2 n1.2.1
    · rcases hm with ⟨n1, -⟩ | ⟨n1, -⟩ | ⟨n1, -⟩ | ⟨n1, rfl, rfl, rfl⟩ | ⟨n1, -⟩
      · exact absurd n1.1 (by decide)
      · exact absurd n1.1 (by decide)
      · exact absurd n1.2 c2
      · exact ⟨rfl, fun h => absurd h (by decide)⟩
      · exfalso
        have w1 := n1.2.2
        have w2 := rt.2.2.1
        have w3 := rt.2.1
        grind
    · rcases hm with ⟨n1, -⟩ | ⟨n1, -⟩ | ⟨n1, -⟩ | ⟨n1, -⟩ | ⟨n1, rfl, rfl, rfl⟩
      · exact absurd n1.1 (by decide)
      · exact absurd n1.1 (by decide)
      · exact absurd n1.2 c2
      · exfalso
        have w1 := n1.2.2
        grind
      · have hl0 := c3.1
        have hl1 := c3.2
        have g1 := i_lt.mp hl1
        rw [show (256 : Int32).toInt = 256 from rfl] at g1
        have enn : (I 3436).toInt = ((I 3436).toInt.toNat : Int) := by omega
        generalize hnn : (I 3436).toInt.toNat = nn at *
        have eI : I' 2407 = I 3436 := (k1 2407 (by decide)).trans rt.1
        have cl3 : (I 3436).toNatClampNeg = nn := by rw [i_cl, hnn]
        have j0 : (I 3436 * 5).toNatClampNeg = 5 * nn := by
          have := i5 (c := 0) (r := 0) hl0 rt.2.2.1 enn rfl (by decide)
          rw [Int32.add_zero] at this
          exact this
        have j1 : (I 3436 * 5 + 1 + 0).toNatClampNeg = 5 * nn + 1 := by
          rw [Int32.add_assoc]
          exact i5 hl0 rt.2.2.1 enn rfl (by decide)
        have j2 : (I 3436 * 5 + 1 + 1).toNatClampNeg = 5 * nn + 2 := by
          rw [Int32.add_assoc]
          exact i5 hl0 rt.2.2.1 enn rfl (by decide)
        have j3 : (I 3436 * 5 + 1 + 2).toNatClampNeg = 5 * nn + 3 := by
          rw [Int32.add_assoc]
          exact i5 hl0 rt.2.2.1 enn rfl (by decide)
        have j4 : (I 3436 * 5 + 4).toNatClampNeg = 5 * nn + 4 := i5 hl0 rt.2.2.1 enn rfl (by decide)
        rw [j0, j1, j2, j3, j4, cl3] at k2
        have e12 : gat (Ic 2201) (Ac 23) (bQ (gmt (A 54)) (I 3444) + 12) = gmt (A 54) (bQ (gmt (A 54)) (I 3444) + 12) := gq 12 (by omega)
        have e13 : gat (Ic 2201) (Ac 23) (bQ (gmt (A 54)) (I 3444) + 13) = gmt (A 54) (bQ (gmt (A 54)) (I 3444) + 13) := gq 13 (by omega)
        have b0 : nrd (gat (Ic 2201) (Ac 23)) (bQ (gmt (A 54)) (I 3444) + 4 * 0) 4 = nrd (gmt (A 54)) (bQ (gmt (A 54)) (I 3444)) 4 := by
          rw [show bQ (gmt (A 54)) (I 3444) + 4 * 0 = bQ (gmt (A 54)) (I 3444) + Int32.ofNat 0 from rfl, nq 0 (by omega)]
          rw [show bQ (gmt (A 54)) (I 3444) + Int32.ofNat 0 = bQ (gmt (A 54)) (I 3444) from Int32.add_zero _]
        have b1 : nrd (gat (Ic 2201) (Ac 23)) (bQ (gmt (A 54)) (I 3444) + 4 * 1) 4 = nrd (gmt (A 54)) (bQ (gmt (A 54)) (I 3444) + 4) 4 := nq 4 (by omega)
        have b2 : nrd (gat (Ic 2201) (Ac 23)) (bQ (gmt (A 54)) (I 3444) + 4 * 2) 4 = nrd (gmt (A 54)) (bQ (gmt (A 54)) (I 3444) + 8) 4 := nq 8 (by omega)
        rw [e12, e13, b0, b1, b2] at k2
        have v27 := k2 27 (by decide)
        have v28 := k2 28 (by decide)
        have v27 : Ac2 27 = upd (upd (upd (upd (upd (Ac 27) (5 * nn) (nrd (gmt (A 54)) (I 3444 + 1) k)) (5 * nn + 1) (nrd (gmt (A 54)) (bQ (gmt (A 54)) (I 3444)) 4)) (5 * nn + 2) (nrd (gmt (A 54)) (bQ (gmt (A 54)) (I 3444) + 4) 4)) (5 * nn + 3) (nrd (gmt (A 54)) (bQ (gmt (A 54)) (I 3444) + 8) 4)) (5 * nn + 4) (nSz (gmt (A 54)) (bQ (gmt (A 54)) (I 3444))) := v27
        have v28 : Ac2 28 = upd (Ac 28) nn (Ic 2901) := v28
        rw [e12, e13] at k3
        have ns : (gmt (A 54) (bQ (gmt (A 54)) (I 3444) + 12) + gmt (A 54) (bQ (gmt (A 54)) (I 3444) + 13)).toInt.toNat = n := by
          rw [show (gmt (A 54) (bQ (gmt (A 54)) (I 3444) + 12) + gmt (A 54) (bQ (gmt (A 54)) (I 3444) + 13)).toInt = (n : Int) from ne, Int.toNat_natCast]
        rw [ns, app_ok (by rw [nmL_len]; omega)] at k3
        have hNu := hN.1
        have hku := k3.1
        rw [List.length_append, nmL_len] at hku
        have hnm : ∀ (i : Nat), i < n → (nmL (fun j => gat (Ic 2201) (Ac 23) (bQ (gmt (A 54)) (I 3444) + 14 + Int32.ofNat j)) n 0)[i]? = some (gmt (A 54) (bQ (gmt (A 54)) (I 3444) + 14 + Int32.ofNat i)) := by
          intro i hi
          have e14 : bQ (gmt (A 54)) (I 3444) + 14 + Int32.ofNat i = bQ (gmt (A 54)) (I 3444) + Int32.ofNat (14 + i) := of_a
          rw [nmL_at _ _ _ hi, Nat.zero_add]
          show some (gat (Ic 2201) (Ac 23) (bQ (gmt (A 54)) (I 3444) + 14 + Int32.ofNat i) &&& 255) = _
          rw [e14, gq (14 + i) (by omega), and_id (hg _)]
        have eadd : (I 3436 + 1).toInt = (nn : Int) + 1 := by rw [i_add (by rw [z1]; omega) (by rw [z1]; omega), z1, enn]
        have hold : ∀ j : Nat, j < nn → rF1 (upd I' 2407 (I' 2407 + 1)) Ac2 (upA (upA A 57 nn (nrd (gmt (A 54)) (I 3444 + 1) k)) 58 nn (I 3444)) (I 3445) j := by
          intro j hj
          obtain ⟨f1, f2, f3, f4, f5, f6, f7, f8, f9⟩ := rt.2.2.2.1 j (by omega)
          have w57 : upd (A 57) nn (nrd (gmt (A 54)) (I 3444 + 1) k) j = A 57 j := upd_n (by omega)
          have w58 : upd (A 58) nn (I 3444) j = A 58 j := upd_n (by omega)
          have s27 : ∀ r : Nat, r ≤ 4 → Ac2 27 (5 * j + r) = Ac 27 (5 * j + r) := by
            intro r hr
            rw [v27, upd_n (by omega), upd_n (by omega), upd_n (by omega), upd_n (by omega), upd_n (by omega)]
          have s28 : Ac2 28 j = Ac 28 j := by rw [v28, upd_n (by omega)]
          unfold rF1
          show Ac2 27 (5 * j) = upd (A 57) nn (nrd (gmt (A 54)) (I 3444 + 1) k) j ∧ plO (gmt (A 54)) (I 3445) (upd (A 58) nn (I 3444) j) ∧ Ac2 27 (5 * j + 1) = nrd (gmt (A 54)) (bQ (gmt (A 54)) (upd (A 58) nn (I 3444) j)) 4 ∧ Ac2 27 (5 * j + 2) = nrd (gmt (A 54)) (bQ (gmt (A 54)) (upd (A 58) nn (I 3444) j) + 4) 4 ∧ Ac2 27 (5 * j + 3) = nrd (gmt (A 54)) (bQ (gmt (A 54)) (upd (A 58) nn (I 3444) j) + 8) 4 ∧ Ac2 27 (5 * j + 4) = nSz (gmt (A 54)) (bQ (gmt (A 54)) (upd (A 58) nn (I 3444) j)) ∧ 0 ≤ Ac2 28 j ∧ (Ac2 28 j).toInt + (nSz (gmt (A 54)) (bQ (gmt (A 54)) (upd (A 58) nn (I 3444) j))).toInt ≤ (I' 2901).toInt ∧ ∀ i : Nat, (i : Int) < (nSz (gmt (A 54)) (bQ (gmt (A 54)) (upd (A 58) nn (I 3444) j))).toInt → gat (I' 2901) (Ac2 30) (Ac2 28 j + Int32.ofNat i) = gmt (A 54) (bQ (gmt (A 54)) (upd (A 58) nn (I 3444) j) + 14 + Int32.ofNat i)
          rw [w57, w58, s28, s27 1 (by decide), s27 2 (by decide), s27 3 (by decide), s27 4 (by decide)]
          have s270 := s27 0 (by decide)
          rw [Nat.add_zero] at s270
          have g7 := i_le.mp f7
          rw [z0] at g7
          refine ⟨s270.trans f1, f2, f3, f4, f5, f6, f7, by omega, fun i hi => ?_⟩
          have ei : (Ac 28 j + Int32.ofNat i).toInt = (Ac 28 j).toInt + i := by rw [i_add (by rw [i_of (by omega)]; omega) (by rw [i_of (by omega)]; omega), i_of (by omega)]
          rw [gat_B k3, gB_l (i_le.mpr (by rw [z0, ei]; omega)) (by rw [ei]; omega), ← gat_B hN]
          exact f9 i hi
        have hnew : rF1 (upd I' 2407 (I' 2407 + 1)) Ac2 (upA (upA A 57 nn (nrd (gmt (A 54)) (I 3444 + 1) k)) 58 nn (I 3444)) (I 3445) nn := by
          have w57 : upd (A 57) nn (nrd (gmt (A 54)) (I 3444 + 1) k) nn = nrd (gmt (A 54)) (I 3444 + 1) k := upd_s
          have w58 : upd (A 58) nn (I 3444) nn = I 3444 := upd_s
          have s28 : Ac2 28 nn = Ic 2901 := by rw [v28, upd_s]
          unfold rF1
          show Ac2 27 (5 * nn) = upd (A 57) nn (nrd (gmt (A 54)) (I 3444 + 1) k) nn ∧ plO (gmt (A 54)) (I 3445) (upd (A 58) nn (I 3444) nn) ∧ Ac2 27 (5 * nn + 1) = nrd (gmt (A 54)) (bQ (gmt (A 54)) (upd (A 58) nn (I 3444) nn)) 4 ∧ Ac2 27 (5 * nn + 2) = nrd (gmt (A 54)) (bQ (gmt (A 54)) (upd (A 58) nn (I 3444) nn) + 4) 4 ∧ Ac2 27 (5 * nn + 3) = nrd (gmt (A 54)) (bQ (gmt (A 54)) (upd (A 58) nn (I 3444) nn) + 8) 4 ∧ Ac2 27 (5 * nn + 4) = nSz (gmt (A 54)) (bQ (gmt (A 54)) (upd (A 58) nn (I 3444) nn)) ∧ 0 ≤ Ac2 28 nn ∧ (Ac2 28 nn).toInt + (nSz (gmt (A 54)) (bQ (gmt (A 54)) (upd (A 58) nn (I 3444) nn))).toInt ≤ (I' 2901).toInt ∧ ∀ i : Nat, (i : Int) < (nSz (gmt (A 54)) (bQ (gmt (A 54)) (upd (A 58) nn (I 3444) nn))).toInt → gat (I' 2901) (Ac2 30) (Ac2 28 nn + Int32.ofNat i) = gmt (A 54) (bQ (gmt (A 54)) (upd (A 58) nn (I 3444) nn) + 14 + Int32.ofNat i)
          rw [w57, w58, s28]
          refine ⟨?_, hat, ?_, ?_, ?_, ?_, ?_, ?_, fun i hi => ?_⟩
          · rw [v27, upd_n (by omega), upd_n (by omega), upd_n (by omega), upd_n (by omega), upd_s]
          · rw [v27, upd_n (by omega), upd_n (by omega), upd_n (by omega), upd_s]
          · rw [v27, upd_n (by omega), upd_n (by omega), upd_s]
          · rw [v27, upd_n (by omega), upd_s]
          · rw [v27, upd_s]
          · exact i_le.mpr (by rw [z0, hNu]; omega)
          · rw [ne]; omega
          · rw [ne] at hi
            have ei : (Ic 2901 + Int32.ofNat i).toInt = (N.length : Int) + i := by rw [i_add (by rw [i_of (by omega)]; omega) (by rw [i_of (by omega)]; omega), i_of (by omega), hNu]
            rw [gat_B k3]
            exact gB_r ei (hnm i (by omega))
        rw [cl3]
        refine ⟨rfl, fun _ => ⟨?_, ?_, ?_, ?_, ⟨?_, ?_, ?_, fun j hj => ?_, fun i j hi hj e => ?_⟩, ⟨_, k3, ?_⟩, ?_, ?_⟩⟩
        · refine ⟨(k1 2201 (by decide)).trans r1.1, r1.2.1, ?_, ?_⟩
          · show ∀ p : Int32, 0 ≤ p → p < I 3445 → gat (I' 2201) (Ac2 23) p = gmt (A 54) p
            rw [k1 2201 (by decide), k2 23 (by decide)]
            exact r1.2.2.1
          · rw [k2 2 (by decide)]
            exact r1.2.2.2
        · exact ⟨(k1 3107 (by decide)).trans r2.1, r2.2.1, r2.2.2.1, (k1 3106 (by decide)).trans r2.2.2.2.1, r2.2.2.2.2.1, r2.2.2.2.2.2.1, (k1 3111 (by decide)).trans r2.2.2.2.2.2.2.1, r2.2.2.2.2.2.2.2⟩
        · refine ⟨(k1 2405 (by decide)).trans rm.1, rm.2.1, rm.2.2.1, ?_⟩
          rw [k2 25 (by decide)]
          exact rm.2.2.2
        · refine ⟨(k1 2406 (by decide)).trans rp.1, rp.2.1, rp.2.2.1, ?_⟩
          rw [k2 26 (by decide)]
          exact rp.2.2.2
        · show I' 2407 + 1 = I 3436 + 1
          rw [eI]
        · exact i_le.mpr (show (0 : Int32).toInt ≤ (I 3436 + 1).toInt by rw [z0, eadd]; omega)
        · exact i_le.mpr (show (I 3436 + 1).toInt ≤ (256 : Int32).toInt by rw [eadd, show (256 : Int32).toInt = 256 from rfl]; omega)
        · have hj2 : (j : Int) < (I 3436 + 1).toInt := hj
          rw [eadd] at hj2
          by_cases e : j = nn
          · rw [e]; exact hnew
          · exact hold j (by omega)
        · have hi2 : (i : Int) < (I 3436 + 1).toInt := hi
          have hj2 : (j : Int) < (I 3436 + 1).toInt := hj
          rw [eadd] at hi2 hj2
          have e2 : upd (A 57) nn (nrd (gmt (A 54)) (I 3444 + 1) k) i = upd (A 57) nn (nrd (gmt (A 54)) (I 3444 + 1) k) j := e
          by_cases ei : i = nn
          · by_cases ej : j = nn
            · rw [ei, ej]
            · rw [ei, upd_s, upd_n ej] at e2
              exact absurd e2.symm (a1 j (by omega))
          · by_cases ej : j = nn
            · rw [ej, upd_s, upd_n ei] at e2
              exact absurd e2 (a1 i (by omega))
            · rw [upd_n ei, upd_n ej] at e2
              exact rt.2.2.2.2 i j (by omega) (by omega) e2
        · rw [List.length_append, nmL_len, ne]
          omega
        · exact ⟨(k1 2409 (by decide)).trans rg.1, (k1 2410 (by decide)).trans rg.2.1, (k1 2411 (by decide)).trans rg.2.2.1, fun h => ⟨(k1 3112 (by decide)).trans (rg.2.2.2.1 h).1, (k1 2408 (by decide)).trans (rg.2.2.2.1 h).2⟩, fun h h2 => (k1 2408 (by decide)).trans (rg.2.2.2.2.1 h h2), fun h => (k1 3113 (by decide)).trans (rg.2.2.2.2.2 h)⟩
        · intro h
          obtain ⟨d1, d2, d3, d4, d5, d6⟩ := ri h
          refine ⟨(k1 3105 (by decide)).trans d1, d2, d3, ?_, ?_, ?_⟩
          · rw [k2 33 (by decide)]
            exact d4
          · rw [k2 32 (by decide)]
            exact d5
          · show (I' 3110 = -1 ∧ I 3449 = 0) ∨ (¬ I 3449 = 0 ∧ 0 ≤ I' 3110 ∧ I' 3110 < I 3436 + 1 ∧ upd (A 57) nn (nrd (gmt (A 54)) (I 3444 + 1) k) (I' 3110).toNatClampNeg = I 3448)
            rw [k1 3110 (by decide)]
            rcases d6 with d6 | ⟨y1, y2, y3, y4⟩
            · exact Or.inl d6
            · have z3 := i_lt.mp y3
              refine Or.inr ⟨y1, y2, i_lt.mpr (by rw [eadd]; omega), ?_⟩
              have z2 := i_le.mp y2
              rw [z0] at z2
              rw [upd_n (by rw [i_cl]; omega)]
              exact y4
