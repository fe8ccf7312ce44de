theorem ix_l {m c : Int32} {q j : Nat} (h0 : 0 ≤ m) (hm : m ≤ 2000) (hc : c.toInt = (q : Int)) (hq : q ≤ 10) (hj : j ≤ 600) : (m * c + Int32.ofNat j).toNatClampNeg = q * m.toInt.toNat + j := by
  have g0 := i_le.mp h0
  have g1 := i_le.mp hm
  rw [z0] at g0
  rw [show (2000 : Int32).toInt = 2000 from rfl] at g1
  have b : m.toInt * (q : Int) ≤ 2000 * 10 := Int.mul_le_mul g1 (by omega) (by omega) (by decide)
  have b0 : 0 ≤ m.toInt * (q : Int) := Int.mul_nonneg g0 (by omega)
  have em : (m * c).toInt = m.toInt * (q : Int) := by rw [i_mul (by rw [hc]; omega) (by rw [hc]; omega), hc]
  rw [i_cl, i_add (by rw [em, i_of (by omega)]; omega) (by rw [em, i_of (by omega)]; omega), em, i_of (by omega)]
  have e : (m.toInt * (q : Int)) = ((q * m.toInt.toNat : Nat) : Int) := by
    rw [Int.natCast_mul, Int.toNat_of_nonneg g0, Int.mul_comm]
  rw [e]
  omega
theorem ix_r {m c : Int32} {q j : Nat} (h0 : 0 ≤ m) (hm : m ≤ 2000) (hc : c.toInt = (q : Int)) (hq : q ≤ 10) (hj : j ≤ 600) : (c * m + Int32.ofNat j).toNatClampNeg = q * m.toInt.toNat + j := by
  rw [Int32.mul_comm]
  exact ix_l h0 hm hc hq hj
theorem pgF_at {g : Int32 → Int32} {p b : Int32} (h0 : 0 ≤ b) (h1 : b ≤ 1300) : ∀ (t j : Nat) (f : Nat → Int32) (i : Nat), j + t = 10 → pgF g p b t j f i = if 10 * b.toInt.toNat + j ≤ i ∧ i < 10 * b.toInt.toNat + 10 then nrd g (p + 4 * Int32.ofNat (i - 10 * b.toInt.toNat)) 4 else f i := by
  intro t
  induction t with
  | zero =>
    intro j f i hj
    rw [if_neg (by omega)]
    rfl
  | succ t ih =>
    intro j f i hj
    show pgF g p b t (j + 1) _ i = _
    rw [ih (j + 1) _ i (by omega), ix_l (q := 10) h0 (by grind) rfl (by decide) (by omega)]
    by_cases h : i = 10 * b.toInt.toNat + j
    · rw [if_neg (by omega), if_pos (by omega), h, upd_s, Nat.add_sub_cancel_left]
    · rw [upd_n h]
      by_cases h2 : 10 * b.toInt.toNat + (j + 1) ≤ i ∧ i < 10 * b.toInt.toNat + 10
      · rw [if_pos h2, if_pos (by omega)]
      · rw [if_neg h2, if_neg (by omega)]
theorem pgM_at {g : Int32 → Int32} {p b : Int32} (h0 : 0 ≤ b) (h1 : b ≤ 1300) : ∀ (t j : Nat) (f : Nat → Int32) (i : Nat), j + t = 10 → pgM g p b t j f i = if 10 * b.toInt.toNat + j ≤ i ∧ i < 10 * b.toInt.toNat + 10 then nrd g (p + 4 * Int32.ofNat (i - 10 * b.toInt.toNat)) 4 else f i := by
  intro t
  induction t with
  | zero =>
    intro j f i hj
    rw [if_neg (by omega)]
    rfl
  | succ t ih =>
    intro j f i hj
    show pgM g p b t (j + 1) _ i = _
    rw [ih (j + 1) _ i (by omega), ix_r (q := 10) h0 (by grind) rfl (by decide) (by omega)]
    by_cases h : i = 10 * b.toInt.toNat + j
    · rw [if_neg (by omega), if_pos (by omega), h, upd_s, Nat.add_sub_cancel_left]
    · rw [upd_n h]
      by_cases h2 : 10 * b.toInt.toNat + (j + 1) ≤ i ∧ i < 10 * b.toInt.toNat + 10
      · rw [if_pos h2, if_pos (by omega)]
      · rw [if_neg h2, if_neg (by omega)]
theorem lt6 {i : Nat} (h : i < 6) : i = 0 ∨ i = 1 ∨ i = 2 ∨ i = 3 ∨ i = 4 ∨ i = 5 := by omega
theorem st_push {Ic Ic2 I I2 : mI} {Ac Ac2 A A2 : mA} {m : Int} {f w : Int32} (R : RR Ic Ac I A m) (hs : I 3443 = 2) (hc : t_Rd_obeyPush Ic Ac f Ic2 Ac2) (hm : t_Mo_push I A w I2 A2) : w = f ∧ (f = 0 → RR Ic2 Ac2 I2 A2 m) := by
  obtain ⟨r1, r2, rm, rp, rt, rn, rg, ri⟩ := R
  obtain ⟨d1, d2, d3, d4, d5, d6⟩ := ri hs
  have hst : I 3450 < 100 → ∀ i : Nat, (i : Int) < 6 * (I 3450 + 1).toInt → (upd (upd (upd (upd (upd (upd (Ac 33) (Ic 3105 * 6 + 0).toNatClampNeg (Ac 32 0)) (Ic 3105 * 6 + 1).toNatClampNeg (Ac 32 1)) (Ic 3105 * 6 + 2).toNatClampNeg (Ac 32 2)) (Ic 3105 * 6 + 3).toNatClampNeg (Ac 32 3)) (Ic 3105 * 6 + 4).toNatClampNeg (Ac 32 4)) (Ic 3105 * 6 + 5).toNatClampNeg (Ac 32 5)) i = (upd (upd (upd (upd (upd (upd (A 59) (6 * I 3450 + 0).toNatClampNeg (A 60 0)) (6 * I 3450 + 1).toNatClampNeg (A 60 1)) (6 * I 3450 + 2).toNatClampNeg (A 60 2)) (6 * I 3450 + 3).toNatClampNeg (A 60 3)) (6 * I 3450 + 4).toNatClampNeg (A 60 4)) (6 * I 3450 + 5).toNatClampNeg (A 60 5)) i := by
    intro hl
    rw [d5 0 (by decide), d5 1 (by decide), d5 2 (by decide), d5 3 (by decide), d5 4 (by decide), d5 5 (by decide), Int32.add_zero, Int32.add_zero]
    exact upd6 d1 d2 (by grind) d4
  rcases hc with ⟨c1, rfl, rfl, rfl⟩ | ⟨c1, rfl, rfl, rfl⟩
  · rcases hm with ⟨m1, rfl, rfl, rfl⟩ | ⟨m1, rfl, rfl, rfl⟩ | ⟨m1, rfl, rfl, rfl⟩
    · exact ⟨rfl, fun h => absurd h (by decide)⟩
    · exfalso; grind
    · exfalso; grind
  · rcases hm with ⟨m1, rfl, rfl, rfl⟩ | ⟨m1, rfl, rfl, rfl⟩ | ⟨m1, rfl, rfl, rfl⟩
    · exfalso; grind
    · refine ⟨rfl, fun _ => ⟨r1, r2, rm, rp, rt, rn, ⟨rg.1, rg.2.1, ?_, rg.2.2.2.1, rg.2.2.2.2.1, rg.2.2.2.2.2⟩, fun _ => ⟨?_, ?_, ?_, hst (by grind), d5, d6⟩⟩⟩
      · show (if Ic 2411 < Ic 3105 + 1 then Ic 3105 + 1 else Ic 2411) = I 3450 + 1
        rw [d1, rg.2.2.1, if_pos m1.2]
      · show Ic 3105 + 1 = I 3450 + 1
        rw [d1]
      · show 0 ≤ I 3450 + 1
        grind
      · show I 3450 + 1 ≤ 100
        grind
    · refine ⟨rfl, fun _ => ⟨r1, r2, rm, rp, rt, rn, ⟨rg.1, rg.2.1, ?_, rg.2.2.2.1, rg.2.2.2.2.1, rg.2.2.2.2.2⟩, fun _ => ⟨?_, ?_, ?_, hst (by grind), d5, d6⟩⟩⟩
      · show (if Ic 2411 < Ic 3105 + 1 then Ic 3105 + 1 else Ic 2411) = I 3442
        rw [d1, rg.2.2.1, if_neg m1.2]
      · show Ic 3105 + 1 = I 3450 + 1
        rw [d1]
      · show 0 ≤ I 3450 + 1
        grind
      · show I 3450 + 1 ≤ 100
        grind
theorem st_pop {Ic Ic2 I I2 : mI} {Ac Ac2 A A2 : mA} {m : Int} {f w : Int32} (R : RR Ic Ac I A m) (hs : I 3443 = 2) (hc : t_Rd_obeyPop Ic Ac f Ic2 Ac2) (hm : t_Mo_pop I A w I2 A2) : w = f ∧ (f = 0 → RR Ic2 Ac2 I2 A2 m) := by
  obtain ⟨r1, r2, rm, rp, rt, rn, rg, ri⟩ := R
  obtain ⟨d1, d2, d3, d4, d5, d6⟩ := ri hs
  rcases hc with ⟨c1, rfl, rfl, rfl⟩ | ⟨c1, rfl, rfl, rfl⟩
  · rcases hm with ⟨m1, rfl, rfl, rfl⟩ | ⟨m1, rfl, rfl, rfl⟩
    · exact ⟨rfl, fun h => absurd h (by decide)⟩
    · exfalso; grind
  · rcases hm with ⟨m1, rfl, rfl, rfl⟩ | ⟨m1, rfl, rfl, rfl⟩
    · exfalso; grind
    · have k0 : 0 ≤ I 3450 - 1 := by grind
      have k1 : I 3450 - 1 ≤ 99 := by grind
      have q0 := i_le.mp d2
      rw [z0] at q0
      have q1 := i_le.mp d3
      rw [show (100 : Int32).toInt = 100 from rfl] at q1
      have q2 := i_le.mp k0
      have ed : (I 3450 - 1).toInt = (I 3450).toInt - 1 := by rw [i_sub (by rw [z1]; omega) (by rw [z1]; omega), z1]
      rw [z0, ed] at q2
      refine ⟨rfl, fun _ => ⟨r1, r2, rm, rp, rt, rn, rg, fun _ => ⟨?_, k0, ?_, ?_, ?_, d6⟩⟩⟩
      · show Ic 3105 - 1 = I 3450 - 1
        rw [d1]
      · show I 3450 - 1 ≤ 100
        grind
      · intro i hi
        refine d4 i ?_
        have : (i : Int) < 6 * (I 3450 - 1).toInt := hi
        rw [ed] at this
        omega
      · have hx : ∀ j : Nat, j < 6 → Ac 33 ((Ic 3105 - 1) * 6 + Int32.ofNat j).toNatClampNeg = A 59 (6 * (I 3450 - 1) + Int32.ofNat j).toNatClampNeg := by
          intro j hj
          rw [d1, ix_l (q := 6) k0 (by grind) rfl (by decide) (by omega), ix_r (q := 6) k0 (by grind) rfl (by decide) (by omega)]
          refine d4 _ ?_
          rw [ed]
          omega
        intro i hi
        rcases lt6 hi with rfl | rfl | rfl | rfl | rfl | rfl
        · exact hx 0 (by decide)
        · exact hx 1 (by decide)
        · exact hx 2 (by decide)
        · exact hx 3 (by decide)
        · exact hx 4 (by decide)
        · exact hx 5 (by decide)
