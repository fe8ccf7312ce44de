theorem lnX_i {l x : Int32} : lnX l x.toInt64 = if l < x then -1 else x := by
  unfold lnX
  rw [i64_t, i64_32]
  by_cases h : l < x
  · rw [if_pos h, if_pos (i_lt.mp h)]
  · rw [if_neg h, if_neg (fun q => h (i_lt.mpr q))]
theorem l_add {x y : Int64} (h0 : -9223372036854775808 ≤ x.toInt + y.toInt) (h1 : x.toInt + y.toInt < 9223372036854775808) : (x + y).toInt = x.toInt + y.toInt := by
  rw [Int64.toInt_add]
  exact Int.bmod_eq_of_le (by omega) (by omega)
theorem add64 {x y : Int32} (h0 : -2147483648 ≤ x.toInt + y.toInt) (h1 : x.toInt + y.toInt < 2147483648) : x.toInt64 + y.toInt64 = (x + y).toInt64 := by
  apply Int64.toInt_inj.mp
  rw [l_add (by rw [i64_t, i64_t]; omega) (by rw [i64_t, i64_t]; omega), i64_t, i64_t, i64_t, i_add h0 h1]
theorem lnX_a {l x y : Int32} (hx0 : 0 ≤ x) (hx1 : x ≤ 600) (hy : 0 ≤ y) (hl0 : x ≤ l) (hl : l ≤ 70000) : lnX l (x.toInt64 + y.toInt64) = if l - x < y then -1 else x + y := by
  have a1 := i_le.mp hx0
  have a2 := i_le.mp hx1
  have a3 := i_le.mp hy
  have a4 := i_le.mp hl
  have a5 := i_le.mp hl0
  rw [z0] at a1 a3
  rw [show (600 : Int32).toInt = 600 from rfl] at a2
  rw [z7] at a4
  have ry := i_rg y
  have es : (x.toInt64 + y.toInt64).toInt = x.toInt + y.toInt := by rw [l_add (by rw [i64_t, i64_t]; omega) (by rw [i64_t, i64_t]; omega), i64_t, i64_t]
  have ed : (l - x).toInt = l.toInt - x.toInt := i_sub (by omega) (by omega)
  by_cases h : l - x < y
  · rw [if_pos h]
    unfold lnX
    rw [if_pos]
    have := i_lt.mp h
    rw [es]
    omega
  · rw [if_neg h]
    have hn : ¬ (l.toInt < x.toInt + y.toInt) := fun q => h (i_lt.mpr (by rw [ed]; omega))
    have e := add64 (x := x) (y := y) (by omega) (by omega)
    rw [e, lnX_i, if_neg]
    intro q
    have := i_lt.mp q
    rw [i_add (by omega) (by omega)] at this
    exact hn this
theorem bh_no {l x y : Int32} (hl : 0 ≤ l) (hl1 : l ≤ 70000) (hx0 : 0 ≤ x) (hx : x ≤ 600) (hy : y = x) : (if l < x then -1 else x) = (if l < y then -1 else if (0 : Int32) < 0 ∨ l - y < 0 then -1 else y + 0) := by
  subst hy
  by_cases h : l < y
  · rw [if_pos h, if_pos h]
  · rw [if_neg h, if_neg h, if_neg (by grind), Int32.add_zero]
theorem bh_m {l x m : Int32} (hm : ¬ m < 0) : (if l - x < m then -1 else x + m) = (if m < 0 ∨ l - x < m then -1 else x + m) := by
  by_cases h : l - x < m
  · rw [if_pos h, if_pos (Or.inr h)]
  · rw [if_neg h, if_neg (fun z => z.elim hm h)]
theorem bh_t {l z x y : Int32} (h0 : 0 ≤ z) (h1 : z ≤ 30) (hx0 : 0 ≤ x) (hx1 : x ≤ 255) (hy0 : 0 ≤ y) (hy1 : y ≤ 255) (hl : z ≤ l) (hl1 : l ≤ 70000) : (if l < z + x + y then -1 else z + x + y) = (if x + y < 0 ∨ l - z < x + y then -1 else z + (x + y)) := by
  rw [Int32.add_assoc]
  have hs0 : 0 ≤ x + y := by grind
  have hs1 : x + y ≤ 510 := by grind
  generalize x + y = w at *
  by_cases h : l < z + w
  · rw [if_pos h, if_pos (Or.inr (by grind))]
  · rw [if_neg h, if_neg (by grind)]
theorem fx_0 {c : Int32} (h : ¬ (c = 132 ∨ c = 137) ∧ ¬ c = 139 ∧ ¬ c = 247 ∧ ¬ c = 248 ∧ ¬ c = 249 ∧ ¬ (243 ≤ c ∧ c ≤ 246)) : fxF c = 0 := by
  unfold fxF
  rw [if_neg h.1, if_neg h.2.1, if_neg h.2.2.1, if_neg h.2.2.2.1, if_neg h.2.2.2.2.1, if_neg h.2.2.2.2.2]
theorem tx_0 {g : Int32 → Int32} {c n p : Int32} {k : Nat} (h : ¬ (239 ≤ c ∧ c ≤ 242) ∧ ¬ (243 ≤ c ∧ c ≤ 246) ∧ ¬ c = 247) : txF g c n k p = 0 := by
  unfold txF
  rw [if_neg h.1, if_neg h.2.1, if_neg h.2.2]
theorem ln_bh {Ic : mI} {Ac : mA} {I : mI} {A : mA} (h : R1 Ic Ac I A) {s a c : Int32} (hs : I 3445 = s) (h0 : 0 ≤ a) (h1 : a < s) (hc : gmt (A 54) a = c) : lnX (s - a - 1) (lnN (gmt (A 54)) c a (s - a - 1)) = bhF (gat (Ic 2201) (Ac 23)) s a c (nbF c) (nbF c).toInt.toNat := by
  have hc9 := gm_r (f := A 54) (p := a)
  rw [hc] at hc9
  have h7 : s ≤ 70000 := by rw [← hs]; exact h.2.1
  have hl0 : 0 ≤ s - a - 1 := by grind
  have hl1 : s - a - 1 ≤ 70000 := by grind
  unfold bhF
  have hsp : (c < 128 ∨ c = 138 ∨ c = 140 ∨ c = 141 ∨ c = 142 ∨ (170 < c ∧ c < 235) ∨ 249 < c) ∨ (128 ≤ c ∧ c < 132) ∨ (c = 132 ∨ c = 137) ∨ (132 < c ∧ c < 137) ∨ (c = 139) ∨ (142 < c ∧ c < 171) ∨ (234 < c ∧ c < 239) ∨ (238 < c ∧ c < 243) ∨ (242 < c ∧ c < 247) ∨ c = 247 ∨ c = 248 ∨ c = 249 := by grind
  rcases hsp with q | q | q | q | q | q | q | q | q | q | q | q
  · have e1 : nbF c = 0 := nbF_0 (by grind (splits := 40))
    have e2 : fxF c = 0 := fx_0 (by grind (splits := 40))
    have e3 : ∀ k p, txF (gat (Ic 2201) (Ac 23)) c 0 k p = 0 := fun k p => tx_0 (by grind (splits := 40))
    have e4 : lnN (gmt (A 54)) c a (s - a - 1) = (0 : Int32).toInt64 := by unfold lnN; rw [if_neg (by grind), if_neg (by grind), if_neg (by grind), if_neg (by grind), if_neg (by grind), if_neg (by grind), if_neg (by grind), if_neg (by grind), if_neg (by grind), if_neg (by grind), if_neg (by grind)]; rfl
    rw [e4, lnX_i, e1, e2, e3]
    exact bh_no hl0 hl1 (by decide) (by decide) (by decide)
  · have e1 := nbF_A (c := c) q.1 q.2
    have e2 : fxF c = 0 := fx_0 (by grind)
    have e3 : ∀ n k p, txF (gat (Ic 2201) (Ac 23)) c n k p = 0 := fun n k p => tx_0 (by grind)
    have e4 : lnN (gmt (A 54)) c a (s - a - 1) = (c - 128 + 1).toInt64 := by unfold lnN; rw [if_pos (by grind)]
    rw [e4, lnX_i, e2, e3, e1]
    exact bh_no hl0 hl1 (by grind) (by grind) (by grind)
  · have e1 : nbF c = 0 := nbF_0 (by grind)
    have e2 : fxF c = 8 := by unfold fxF; grind
    have e3 : ∀ n k p, txF (gat (Ic 2201) (Ac 23)) c n k p = 0 := fun n k p => tx_0 (by grind)
    have e4 : lnN (gmt (A 54)) c a (s - a - 1) = (8 : Int32).toInt64 := by unfold lnN; rw [if_neg (by grind), if_pos (by grind)]; rfl
    rw [e4, lnX_i, e2, e3, e1]
    exact bh_no hl0 hl1 (by grind) (by grind) (by grind)
  · have e1 := nbF_B (c := c) q.1 q.2
    have e2 : fxF c = 0 := fx_0 (by grind)
    have e3 : ∀ n k p, txF (gat (Ic 2201) (Ac 23)) c n k p = 0 := fun n k p => tx_0 (by grind)
    have e4 : lnN (gmt (A 54)) c a (s - a - 1) = (c - 133 + 1).toInt64 := by unfold lnN; rw [if_neg (by grind), if_neg (by grind), if_pos (by grind)]
    rw [e4, lnX_i, e2, e3, e1]
    exact bh_no hl0 hl1 (by grind) (by grind) (by grind)
  · have e1 : nbF c = 0 := nbF_0 (by grind)
    have e2 : fxF c = 44 := by unfold fxF; grind
    have e3 : ∀ n k p, txF (gat (Ic 2201) (Ac 23)) c n k p = 0 := fun n k p => tx_0 (by grind)
    have e4 : lnN (gmt (A 54)) c a (s - a - 1) = (44 : Int32).toInt64 := by unfold lnN; rw [if_neg (by grind), if_neg (by grind), if_neg (by grind), if_pos (by grind)]; rfl
    rw [e4, lnX_i, e2, e3, e1]
    exact bh_no hl0 hl1 (by grind) (by grind) (by grind)
  · have e1 := nbF_M (c := c) q.1 q.2
    have e0 := nbF_r (c := c)
    have e2 : fxF c = 0 := fx_0 (by grind)
    have e3 : ∀ n k p, txF (gat (Ic 2201) (Ac 23)) c n k p = 0 := fun n k p => tx_0 (by grind)
    have e4 : lnN (gmt (A 54)) c a (s - a - 1) = (mbF c).toInt64 := by unfold lnN; rw [if_neg (by grind), if_neg (by grind), if_neg (by grind), if_neg (by grind), if_pos (by grind)]
    rw [e1] at e0
    rw [e4, lnX_i, e2, e3, e1]
    exact bh_no hl0 hl1 (by grind) (by grind) (by grind)
  · have e1 := nbF_F (c := c) q.1 q.2
    have e2 : fxF c = 0 := fx_0 (by grind)
    have e3 : ∀ n k p, txF (gat (Ic 2201) (Ac 23)) c n k p = 0 := fun n k p => tx_0 (by grind)
    have e4 : lnN (gmt (A 54)) c a (s - a - 1) = (c - 235 + 1).toInt64 := by unfold lnN; rw [if_neg (by grind), if_neg (by grind), if_neg (by grind), if_neg (by grind), if_neg (by grind), if_pos (by grind)]
    rw [e4, lnX_i, e2, e3, e1]
    exact bh_no hl0 hl1 (by grind) (by grind) (by grind)
  · have e1 := nbF_X (c := c) q.1 q.2
    have e2 : fxF c = 0 := fx_0 (by grind)
    have et := sb_t (m := 238) hc9.2 (show 239 ≤ c by grind) (by decide) rfl
    rw [show (238 : Int32).toInt = 238 from rfl] at et
    have ek : (nbF c).toInt.toNat = (c.toInt - 238).toNat := by rw [e1, et]
    have e4 : lnN (gmt (A 54)) c a (s - a - 1) = if s - a - 1 < c - 239 + 1 then (c - 239 + 1).toInt64 else if nrd (gmt (A 54)) (a + 1) (c.toInt - 238).toNat < 0 then 1000000 else (c - 239 + 1).toInt64 + (nrd (gmt (A 54)) (a + 1) (c.toInt - 238).toNat).toInt64 := by
      unfold lnN
      rw [if_neg (by grind), if_neg (by grind), if_neg (by grind), if_neg (by grind), if_neg (by grind), if_neg (by grind), if_pos (by grind)]
    rw [e4, e2, ek]
    by_cases hf : s - a - 1 < c - 239 + 1
    · rw [if_pos hf, lnX_i, if_pos hf, e1, if_pos (by grind)]
    · rw [if_neg hf, e1, if_neg (show ¬ s - a - 1 < c - 239 + 1 + 0 by grind)]
      have e3 : ∀ p, p = a + 1 → txF (gat (Ic 2201) (Ac 23)) c (c - 239 + 1) (c.toInt - 238).toNat (p + (c - 239 + 1 + 0)) = nrd (gmt (A 54)) (a + 1) (c.toInt - 238).toNat := by
        rintro p rfl
        unfold txF
        rw [if_pos (by grind), show a + 1 + (c - 239 + 1 + 0) - (c - 239 + 1) = a + 1 by grind]
        have g0 := i_le.mp h0
        rw [z0] at g0
        have g1 := i_lt.mp h1
        have g7 := i_le.mp h7
        rw [z7] at g7
        have eb : (a + 1).toInt = a.toInt + 1 := by rw [i_add (by rw [z1]; omega) (by rw [z1]; omega), z1]
        have el : (s - a - 1).toInt = s.toInt - a.toInt - 1 := by rw [i_sub (by rw [z1, i_sub (by omega) (by omega)]; omega) (by rw [z1, i_sub (by omega) (by omega)]; omega), z1, i_sub (by omega) (by omega)]
        have hc1 := i_lt.mp q.1
        have hc2 := i_lt.mp q.2
        rw [show (238 : Int32).toInt = 238 from rfl] at hc1
        rw [show (243 : Int32).toInt = 243 from rfl] at hc2
        have hf2 : ¬ ((s - a - 1).toInt < (c - 239 + 1).toInt) := fun w => hf (i_lt.mpr w)
        rw [el, et] at hf2
        exact nrR h (i_le.mpr (by rw [z0, eb]; omega)) (by omega) (by rw [eb, hs]; omega)
      rw [e3 _ rfl]
      generalize nrd (gmt (A 54)) (a + 1) (c.toInt - 238).toNat = more
      by_cases hm : more < 0
      · rw [if_pos hm, if_pos (Or.inl hm)]
        show lnX (s - a - 1) (1000000 : Int32).toInt64 = -1
        rw [lnX_i, if_pos (by grind)]
      · rw [if_neg hm, lnX_a (by grind) (by grind) (by grind) (by grind) hl1, Int32.add_zero]
        exact bh_m hm
  · have e1 := nbF_T (c := c) q.1 q.2
    have e2 : fxF c = 14 := by unfold fxF; grind
    have e4 : lnN (gmt (A 54)) c a (s - a - 1) = if s - a - 1 < c - 243 + 1 + 14 then (c - 243 + 1 + 14).toInt64 else (c - 243 + 1 + 14).toInt64 + (gmt (A 54) (a + (c - 243 + 1 + 14) - 1)).toInt64 + (gmt (A 54) (a + (c - 243 + 1 + 14))).toInt64 := by
      unfold lnN
      rw [if_neg (by grind), if_neg (by grind), if_neg (by grind), if_neg (by grind), if_neg (by grind), if_neg (by grind), if_neg (by grind), if_pos (by grind)]
    rw [e4, e2, e1]
    by_cases hf : s - a - 1 < c - 243 + 1 + 14
    · rw [if_pos hf, lnX_i, if_pos hf, if_pos (by grind)]
    · rw [if_neg hf, if_neg (show ¬ s - a - 1 < c - 243 + 1 + 14 by grind)]
      have e3 : ∀ k p, p = a + 1 → txF (gat (Ic 2201) (Ac 23)) c (c - 243 + 1) k (p + (c - 243 + 1 + 14)) = gmt (A 54) (a + (c - 243 + 1 + 14) - 1) + gmt (A 54) (a + (c - 243 + 1 + 14)) := by
        rintro k p rfl
        unfold txF
        rw [if_neg (by grind), if_pos (by grind), show a + 1 + (c - 243 + 1 + 14) - 2 = a + (c - 243 + 1 + 14) - 1 by grind, show a + 1 + (c - 243 + 1 + 14) - 1 = a + (c - 243 + 1 + 14) by grind, gR h (by grind) (by rw [hs]; grind), gR h (by grind) (by rw [hs]; grind)]
      rw [e3 _ _ rfl]
      have b1 := gm_r (f := A 54) (p := a + (c - 243 + 1 + 14) - 1)
      have b2 := gm_r (f := A 54) (p := a + (c - 243 + 1 + 14))
      generalize gmt (A 54) (a + (c - 243 + 1 + 14) - 1) = x at *
      generalize gmt (A 54) (a + (c - 243 + 1 + 14)) = y at *
      have x1 := i_le.mp b1.1
      have x2 := i_le.mp b1.2
      have y1 := i_le.mp b2.1
      have y2 := i_le.mp b2.2
      rw [z0] at x1 y1
      rw [show (255 : Int32).toInt = 255 from rfl] at x2 y2
      have c1 : 0 ≤ c - 243 + 1 + 14 := by grind
      have c2 : c - 243 + 1 + 14 ≤ 30 := by grind
      have c3 := i_le.mp c1
      have c4 := i_le.mp c2
      rw [z0] at c3
      rw [show (30 : Int32).toInt = 30 from rfl] at c4
      rw [add64 (by omega) (by omega)]
      have c5 : (c - 243 + 1 + 14 + x).toInt = (c - 243 + 1 + 14).toInt + x.toInt := i_add (by omega) (by omega)
      rw [add64 (by rw [c5]; omega) (by rw [c5]; omega), lnX_i]
      exact bh_t c1 c2 b1.1 b1.2 b2.1 b2.2 (by grind) hl1
  · have e1 : nbF c = 0 := nbF_0 (by grind)
    have e2 : fxF c = 14 := by unfold fxF; grind
    have e4 : lnN (gmt (A 54)) c a (s - a - 1) = if s - a - 1 < 14 then 14 else 14 + (gmt (A 54) (a + 14)).toInt64 := by
      unfold lnN
      rw [if_neg (by grind), if_neg (by grind), if_neg (by grind), if_neg (by grind), if_neg (by grind), if_neg (by grind), if_neg (by grind), if_neg (by grind), if_pos (by grind)]
    rw [e4, e2, e1]
    by_cases hf : s - a - 1 < 14
    · rw [if_pos hf, show (14 : Int64) = (14 : Int32).toInt64 from rfl, lnX_i, if_pos hf, if_pos (by grind)]
    · rw [if_neg hf, if_neg (show ¬ s - a - 1 < 0 + 14 by grind)]
      have e3 : ∀ k p, p = a + 1 → txF (gat (Ic 2201) (Ac 23)) c 0 k (p + (0 + 14)) = gmt (A 54) (a + 14) := by
        rintro k p rfl
        unfold txF
        rw [if_neg (by grind), if_neg (by grind), if_pos q, show a + 1 + (0 + 14) - 1 = a + 14 by grind, gR h (by grind) (by rw [hs]; grind)]
      rw [e3 _ _ rfl]
      have b2 := gm_r (f := A 54) (p := a + 14)
      rw [show (14 : Int64) = (14 : Int32).toInt64 from rfl, lnX_a (by decide) (by decide) b2.1 (by grind) hl1, Int32.zero_add]
      exact bh_m (by grind)
  · have e1 : nbF c = 0 := nbF_0 (by grind)
    have e2 : fxF c = 28 := by unfold fxF; grind
    have e3 : ∀ n k p, txF (gat (Ic 2201) (Ac 23)) c n k p = 0 := fun n k p => tx_0 (by grind)
    have e4 : lnN (gmt (A 54)) c a (s - a - 1) = (28 : Int32).toInt64 := by unfold lnN; rw [if_neg (by grind), if_neg (by grind), if_neg (by grind), if_neg (by grind), if_neg (by grind), if_neg (by grind), if_neg (by grind), if_neg (by grind), if_neg (by grind), if_pos (by grind)]; rfl
    rw [e4, lnX_i, e2, e3, e1]
    exact bh_no hl0 hl1 (by grind) (by grind) (by grind)
  · have e1 : nbF c = 0 := nbF_0 (by grind)
    have e2 : fxF c = 5 := by unfold fxF; grind
    have e3 : ∀ n k p, txF (gat (Ic 2201) (Ac 23)) c n k p = 0 := fun n k p => tx_0 (by grind)
    have e4 : lnN (gmt (A 54)) c a (s - a - 1) = (5 : Int32).toInt64 := by unfold lnN; rw [if_neg (by grind), if_neg (by grind), if_neg (by grind), if_neg (by grind), if_neg (by grind), if_neg (by grind), if_neg (by grind), if_neg (by grind), if_neg (by grind), if_neg (by grind), if_pos (by grind)]; rfl
    rw [e4, lnX_i, e2, e3, e1]
    exact bh_no hl0 hl1 (by grind) (by grind) (by grind)
