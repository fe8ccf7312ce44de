theorem of_a {p : Int32} {a b : Nat} : p + Int32.ofNat a + Int32.ofNat b = p + Int32.ofNat (a + b) := by
  rw [Int32.add_assoc, Int32.ofNat_add]
theorem nr3 {g : Int32 → Int32} (hg : ∀ q, 0 ≤ g q ∧ g q ≤ 255) {p q : Int32} : (nrd g (p + 4 * 0) 4 = nrd g (q + 4 * 0) 4 ∧ nrd g (p + 4 * 1) 4 = nrd g (q + 4 * 1) 4 ∧ nrd g (p + 4 * 2) 4 = nrd g (q + 4 * 2) 4) ↔ smR (fun j => g (p + Int32.ofNat j)) (fun j => g (q + Int32.ofNat j)) 12 0 = true := by
  rw [show (4 * 0 : Int32) = Int32.ofNat 0 from rfl, show (4 * 1 : Int32) = Int32.ofNat 4 from rfl, show (4 * 2 : Int32) = Int32.ofNat 8 from rfl, nrd_i hg, nrd_i hg, nrd_i hg, smR_iff]
  simp only [of_a]
  constructor
  · rintro ⟨h0, h1, h2⟩ i _ hi
    by_cases a : i < 4
    · have := h0 i a
      rw [Nat.zero_add] at this
      exact this
    · by_cases b : i < 8
      · have := h1 (i - 4) (by omega)
        rw [show 4 + (i - 4) = i by omega] at this
        exact this
      · have := h2 (i - 8) (by omega)
        rw [show 8 + (i - 8) = i by omega] at this
        exact this
  · intro h
    exact ⟨fun j hj => h (0 + j) (by omega) (by omega), fun j hj => h (4 + j) (by omega) (by omega), fun j hj => h (8 + j) (by omega) (by omega)⟩
theorem a_c {I : mI} {c : Int32} {n : Nat} (h0 : 0 ≤ I 3444) (h1 : (I 3444).toInt ≤ 70000) (hc : c.toInt = (n : Int)) (hn : n ≤ 1000) : 0 ≤ I 3444 + c ∧ (I 3444 + c).toInt = (I 3444).toInt + n := by
  have g0 := i_le.mp h0
  rw [z0] at g0
  have e : (I 3444 + c).toInt = (I 3444).toInt + n := by rw [i_add (by rw [hc]; omega) (by rw [hc]; omega), hc]
  exact ⟨i_le.mpr (by rw [z0, e]; omega), e⟩
theorem a_7 {Ic : mI} {Ac : mA} {I : mI} {A : mA} {m : Int} (R : RR Ic Ac I A m) : (I 3445).toInt ≤ 70000 ∧ 0 ≤ (I 3444).toInt ∧ (I 3444).toInt ≤ (I 3445).toInt := by
  have g7 := i_le.mp R.1.2.1
  rw [z7] at g7
  have g0 := i_le.mp R.2.1.2.1
  rw [z0] at g0
  exact ⟨g7, g0, i_le.mp R.2.1.2.2.1⟩
theorem nA {Ic : mI} {Ac : mA} {I : mI} {A : mA} {m : Int} (R : RR Ic Ac I A m) {c : Int32} {n k : Nat} (hc : c.toInt = (n : Int)) (hn : n ≤ 1000) (hk : k ≤ 510) (hf : (I 3444).toInt + n + k ≤ (I 3445).toInt) : nrd (gat (Ic 2201) (Ac 23)) (Ic 3107 + c) k = nrd (gmt (A 54)) (I 3444 + c) k := by
  have h7 := a_7 R
  have e := a_c (c := c) R.2.1.2.1 (by omega) hc hn
  rw [R.2.1.1]
  exact nrR R.1 e.1 hk (by rw [e.2]; omega)
theorem gA {Ic : mI} {Ac : mA} {I : mI} {A : mA} {m : Int} (R : RR Ic Ac I A m) {c : Int32} {n : Nat} (hc : c.toInt = (n : Int)) (hn : n ≤ 1000) (hf : (I 3444).toInt + n < (I 3445).toInt) : gat (Ic 2201) (Ac 23) (Ic 3107 + c) = gmt (A 54) (I 3444 + c) := by
  have h7 := a_7 R
  have e := a_c (c := c) R.2.1.2.1 (by omega) hc hn
  rw [R.2.1.1]
  exact gR R.1 e.1 (i_lt.mpr (by rw [e.2]; omega))
theorem st_begin {Ic Ic2 I I2 : mI} {Ac Ac2 A A2 : mA} {m : Int} {f w : Int32} (R : RR Ic Ac I A m) (hs : I 3443 = 1) (hf : (I 3444).toInt + 45 ≤ (I 3445).toInt) (hc : t_Rd_obeyBegin Ic Ac f Ic2 Ac2) (hm : t_Mo_beginPage I A w I2 A2) : w = f ∧ (f = 0 → RR Ic2 Ac2 I2 A2 m) := by
  have e41 : nrd (gat (Ic 2201) (Ac 23)) (Ic 3107 + 1 + 40) 4 = nrd (gmt (A 54)) (I 3444 + 41) 4 := by
    rw [Int32.add_assoc]
    exact nA R (n := 41) rfl (by decide) (by decide) (by omega)
  have h7 := a_7 R
  have R0 := R
  obtain ⟨r1, r2, rm, rp, rt, rn, rg, ri⟩ := R
  obtain ⟨p1, p2, p3, p4⟩ := rp
  have hag : nrd (gat (Ic 2201) (Ac 23)) (Ic 3107 + 1 + 40) 4 = Ic 3111 ↔ nrd (gmt (A 54)) (I 3444 + 41) 4 = I 3446 := by rw [e41, r2.2.2.2.2.2.2.1]
  rcases hc with ⟨c1, rfl, rfl, rfl⟩ | ⟨c1, rfl, rfl, rfl⟩ | ⟨c1, rfl, rfl, rfl⟩
  · rcases hm with ⟨m1, rfl, rfl, rfl⟩ | ⟨m1, rfl, rfl, rfl⟩ | ⟨m1, rfl, rfl, rfl⟩
    · exact ⟨rfl, fun h => absurd h (by decide)⟩
    · exact absurd (hag.mpr m1.1) c1
    · exact absurd (hag.mpr m1.1) c1
  · rcases hm with ⟨m1, rfl, rfl, rfl⟩ | ⟨m1, rfl, rfl, rfl⟩ | ⟨m1, rfl, rfl, rfl⟩
    · exact absurd (hag.mp c1.1) m1
    · exact ⟨rfl, fun h => absurd h (by decide)⟩
    · exfalso
      have := c1.2
      rw [p1] at this
      grind
  · rcases hm with ⟨m1, rfl, rfl, rfl⟩ | ⟨m1, rfl, rfl, rfl⟩ | ⟨m1, rfl, rfl, rfl⟩
    · exact absurd (hag.mp c1.1) m1
    · exfalso
      have := c1.2
      rw [p1] at this
      grind
    · have q0 := i_le.mp p2
      rw [z0] at q0
      have q1 := i_le.mp p3
      rw [show (1300 : Int32).toInt = 1300 from rfl] at q1
      have q3 : I 3434 < 1300 := by grind
      refine ⟨rfl, fun _ => ⟨r1, ⟨r2.1, r2.2.1, r2.2.2.1, rfl, (by decide : (0 : Int32) ≤ 2), (by decide : (2 : Int32) ≤ 4), r2.1, fun h => absurd (show (2 : Int32) = 0 from h) (by decide)⟩, rm, ⟨?_, ?_, ?_, ?_⟩, rt, rn, ⟨rg.1, rg.2.1, rg.2.2.1, fun h => absurd (show (3 : Int32) ≤ 2 from h) (by decide), fun _ _ => rg.2.2.2.2.1 (by rw [hs]; decide) (by rw [hs]; decide), fun _ => rg.2.2.2.2.2 (by rw [hs]; decide)⟩, fun _ => ⟨rfl, (by decide : (0 : Int32) ≤ 0), (by decide : (0 : Int32) ≤ 100), fun i hi => ?_, fun i hi => ?_, Or.inl ⟨rfl, rfl⟩⟩⟩⟩
      · show Ic 2406 + 1 = I 3434 + 1
        rw [p1]
      · show 0 ≤ I 3434 + 1
        grind
      · show I 3434 + 1 ≤ 1300
        grind
      · intro i hi
        have hi2 : (i : Int) < 10 * (I 3434 + 1).toInt := hi
        rw [i_add (by rw [z1]; omega) (by rw [z1]; omega), z1] at hi2
        show pgF (gat (Ic 2201) (Ac 23)) (Ic 3107 + 1) (Ic 2406) 10 0 (Ac 26) i = pgM (gmt (A 54)) (I 3444 + 1) (I 3434) 10 0 (A 56) i
        rw [p1, pgF_at p2 p3 10 0 _ _ rfl, pgM_at p2 p3 10 0 _ _ rfl]
        by_cases hb : 10 * (I 3434).toInt.toNat + 0 ≤ i ∧ i < 10 * (I 3434).toInt.toNat + 10
        · rw [if_pos hb, if_pos hb]
          have e4 : (4 * Int32.ofNat (i - 10 * (I 3434).toInt.toNat)) = Int32.ofNat (4 * (i - 10 * (I 3434).toInt.toNat)) := (Int32.ofNat_mul 4 _).symm
          rw [e4, Int32.add_assoc, Int32.add_assoc]
          have e5 : (1 : Int32) + Int32.ofNat (4 * (i - 10 * (I 3434).toInt.toNat)) = Int32.ofNat (1 + 4 * (i - 10 * (I 3434).toInt.toNat)) := (Int32.ofNat_add 1 _).symm
          rw [e5]
          exact nA R0 (n := 1 + 4 * (i - 10 * (I 3434).toInt.toNat)) (i_of (by omega)) (by omega) (by decide) (by omega)
        · rw [if_neg hb, if_neg hb]
          exact p4 i (by omega)
      · exact absurd (show (i : Int) < 6 * (0 : Int32).toInt from hi) (by rw [z0]; omega)
      · rcases lt6 hi with rfl | rfl | rfl | rfl | rfl | rfl <;> rfl
theorem st_last {Ic Ic2 I I2 : mI} {Ac Ac2 A A2 : mA} {m : Int} {f w : Int32} (R : RR Ic Ac I A m) (hs : I 3443 = 1) (hf : (I 3444).toInt + 29 ≤ (I 3445).toInt) (hc : t_Rd_obeyLast Ic Ac f Ic2 Ac2) (hm : t_Mo_post I A w I2 A2) : w = f ∧ (f = 0 → RR Ic2 Ac2 I2 A2 m) := by
  have hg : ∀ q, 0 ≤ gmt (A 54) q ∧ gmt (A 54) q ≤ 255 := fun q => gm_r
  have h7 := a_7 R
  have e1 := nA R (c := 1) (n := 1) (k := 4) rfl (by decide) (by decide) (by omega)
  have e17 := nA R (c := 17) (n := 17) (k := 4) rfl (by decide) (by decide) (by omega)
  have e21 := nA R (c := 21) (n := 21) (k := 4) rfl (by decide) (by decide) (by omega)
  have e27 : nrd (gat (Ic 2201) (Ac 23)) (Ic 3107 + 27) 2 = nrd (gmt (A 54)) (I 3444 + 26 + 1) 2 := by
    rw [Int32.add_assoc (I 3444) 26 1]
    exact nA R (n := 27) rfl (by decide) (by decide) (by omega)
  have s0 : nrd (gat (Ic 2201) (Ac 23)) (Ic 3107 + 5 + 4 * 0) 4 = nrd (gmt (A 54)) (I 3444 + 5 + 4 * 0) 4 := by
    rw [Int32.add_assoc (Ic 3107), Int32.add_assoc (I 3444)]
    exact nA R (n := 5) rfl (by decide) (by decide) (by omega)
  have s1 : nrd (gat (Ic 2201) (Ac 23)) (Ic 3107 + 5 + 4 * 1) 4 = nrd (gmt (A 54)) (I 3444 + 5 + 4 * 1) 4 := by
    rw [Int32.add_assoc (Ic 3107), Int32.add_assoc (I 3444)]
    exact nA R (n := 9) rfl (by decide) (by decide) (by omega)
  have s2 : nrd (gat (Ic 2201) (Ac 23)) (Ic 3107 + 5 + 4 * 2) 4 = nrd (gmt (A 54)) (I 3444 + 5 + 4 * 2) 4 := by
    rw [Int32.add_assoc (Ic 3107), Int32.add_assoc (I 3444)]
    exact nA R (n := 13) rfl (by decide) (by decide) (by omega)
  have t0 : nrd (gat (Ic 2201) (Ac 23)) (2 + 4 * 0) 4 = nrd (gmt (A 54)) (2 + 4 * 0) 4 := nrR R.1 (by decide) (by decide) (by rw [show ((2 : Int32) + 4 * 0).toInt = 2 from rfl]; omega)
  have t1 : nrd (gat (Ic 2201) (Ac 23)) (2 + 4 * 1) 4 = nrd (gmt (A 54)) (2 + 4 * 1) 4 := nrR R.1 (by decide) (by decide) (by rw [show ((2 : Int32) + 4 * 1).toInt = 6 from rfl]; omega)
  have t2 : nrd (gat (Ic 2201) (Ac 23)) (2 + 4 * 2) 4 = nrd (gmt (A 54)) (2 + 4 * 2) 4 := nrR R.1 (by decide) (by decide) (by rw [show ((2 : Int32) + 4 * 2).toInt = 10 from rfl]; omega)
  obtain ⟨r1, r2, rm, rp, rt, rn, rg, ri⟩ := R
  have hq := nr3 hg (p := I 3444 + 5) (q := 2)
  unfold t_Rd_obeyLast at hc
  rw [e1, e27, s0, s1, s2, t0, t1, t2, e17, e21, r2.2.2.2.2.2.2.1, rp.1] at hc
  unfold t_Mo_post at hm
  rw [← hq] at hm
  rcases hc with ⟨c1, rfl, rfl, rfl⟩ | ⟨c1, rfl, rfl, rfl⟩ | ⟨c1, rfl, rfl, rfl⟩
  · rcases hm with ⟨m1, rfl, rfl, rfl⟩ | ⟨m1, rfl, rfl, rfl⟩ | ⟨m1, rfl, rfl, rfl⟩
    · exact ⟨rfl, fun h => absurd h (by decide)⟩
    · exact absurd m1.1 c1
    · exact absurd m1.1 c1
  · rcases hm with ⟨m1, rfl, rfl, rfl⟩ | ⟨m1, rfl, rfl, rfl⟩ | ⟨m1, rfl, rfl, rfl⟩
    · exact absurd c1.1 m1
    · exact ⟨rfl, fun h => absurd h (by decide)⟩
    · exact absurd ⟨m1.2.2.1, m1.2.2.2.1, m1.2.2.2.2, m1.2.1⟩ c1.2
  · rcases hm with ⟨m1, rfl, rfl, rfl⟩ | ⟨m1, rfl, rfl, rfl⟩ | ⟨m1, rfl, rfl, rfl⟩
    · exact absurd c1.1 m1
    · exact absurd ⟨c1.2.2.2.2, c1.2.1, c1.2.2.1, c1.2.2.2.1⟩ m1.2
    · refine ⟨rfl, fun _ => ⟨r1, ⟨r2.1, r2.2.1, r2.2.2.1, rfl, (by decide : (0 : Int32) ≤ 3), (by decide : (3 : Int32) ≤ 4), r2.2.2.2.2.2.2.1, fun h => absurd (show (3 : Int32) = 0 from h) (by decide)⟩, rm, rp, rt, rn, ⟨rfl, rfl, rg.2.2.1, fun _ => ⟨r2.1, ?_⟩, fun _ h => absurd (show (3 : Int32) ≤ 2 from h) (by decide), fun _ => rg.2.2.2.2.2 (by rw [hs]; decide)⟩, fun h => absurd (show (3 : Int32) = 2 from h) (by decide)⟩⟩
      show Ic 2408 = nrd (gmt (A2 54)) (I 3444 + 13) 4
      rw [rg.2.2.2.2.1 (by rw [hs]; decide) (by rw [hs]; decide)]
      have := c1.2.2.2.1
      rw [Int32.add_assoc] at this
      exact this.symm
theorem st_end {Ic Ic2 I I2 : mI} {Ac Ac2 A A2 : mA} {m : Int} {f w : Int32} (R : RR Ic Ac I A m) (hs : I 3443 = 2) (hc : (0 < Ic 3105 ∧ f = 4 ∧ Ic2 = upd Ic 3106 1 ∧ Ac2 = Ac) ∨ (¬ 0 < Ic 3105 ∧ f = 0 ∧ Ic2 = upd Ic 3106 1 ∧ Ac2 = Ac)) (hm : (0 < I 3450 ∧ w = 4 ∧ I2 = upd I 3443 (I 3443) ∧ A2 = A) ∨ (¬ 0 < I 3450 ∧ w = 0 ∧ I2 = upd I 3443 1 ∧ A2 = A)) : w = f ∧ (f = 0 → RR Ic2 Ac2 I2 A2 m) := by
  obtain ⟨r1, r2, rm, rp, rt, rn, rg, ri⟩ := R
  have d := (ri hs).1
  rcases hc with ⟨c1, rfl, rfl, rfl⟩ | ⟨c1, rfl, rfl, rfl⟩
  · rcases hm with ⟨m1, rfl, rfl, rfl⟩ | ⟨m1, rfl, rfl, rfl⟩
    · exact ⟨rfl, fun h => absurd h (by decide)⟩
    · exact absurd (d ▸ c1) m1
  · rcases hm with ⟨m1, rfl, rfl, rfl⟩ | ⟨m1, rfl, rfl, rfl⟩
    · exact absurd (d ▸ m1) c1
    · exact ⟨rfl, fun _ => ⟨r1, ⟨r2.1, r2.2.1, r2.2.2.1, rfl, (by decide : (0 : Int32) ≤ 1), (by decide : (1 : Int32) ≤ 4), r2.2.2.2.2.2.2.1, fun h => absurd (show (1 : Int32) = 0 from h) (by decide)⟩, rm, rp, rt, rn, ⟨rg.1, rg.2.1, rg.2.2.1, fun h => absurd (show (3 : Int32) ≤ 1 from h) (by decide), fun _ _ => rg.2.2.2.2.1 (by rw [hs]; decide) (by rw [hs]; decide), fun _ => rg.2.2.2.2.2 (by rw [hs]; decide)⟩, fun h => absurd (show (1 : Int32) = 2 from h) (by decide)⟩⟩
theorem st_first {Ic Ic2 I I2 : mI} {Ac Ac2 A A2 : mA} {m : Int} {f w : Int32} (R : RR Ic Ac I A m) (hs : I 3443 = 0) (hf : (I 3444).toInt + 15 ≤ (I 3445).toInt) (hc : f = 0 ∧ Ic2 = upd (upd Ic 3106 1) 2408 (nrd (gat (Ic 2201) (Ac 23)) (Ic 3107 + 10) 4) ∧ Ac2 = Ac) (hm : w = 0 ∧ I2 = upd I 3443 1 ∧ A2 = A) : w = f ∧ (f = 0 → RR Ic2 Ac2 I2 A2 m) := by
  have e := nA R (c := 10) (n := 10) (k := 4) rfl (by decide) (by decide) (by omega)
  obtain ⟨r1, r2, rm, rp, rt, rn, rg, ri⟩ := R
  obtain ⟨rfl, rfl, rfl⟩ := hc
  obtain ⟨rfl, rfl, rfl⟩ := hm
  have h0 := r2.2.2.2.2.2.2.2 hs
  rw [h0, Int32.zero_add] at e
  exact ⟨rfl, fun _ => ⟨r1, ⟨r2.1, r2.2.1, r2.2.2.1, rfl, (by decide : (0 : Int32) ≤ 1), (by decide : (1 : Int32) ≤ 4), r2.2.2.2.2.2.2.1, fun h => absurd (show (1 : Int32) = 0 from h) (by decide)⟩, rm, rp, rt, rn, ⟨rg.1, rg.2.1, rg.2.2.1, fun h => absurd (show (3 : Int32) ≤ 1 from h) (by decide), fun _ _ => e, fun _ => rg.2.2.2.2.2 (by rw [hs]; decide)⟩, fun h => absurd (show (1 : Int32) = 2 from h) (by decide)⟩⟩
theorem st_vlast {Ic Ic2 I I2 : mI} {Ac Ac2 A A2 : mA} {m : Int} {f w : Int32} (R : RR Ic Ac I A m) (hs : I 3443 = 3) (hf : (I 3444).toInt + 6 ≤ (I 3445).toInt) (hc : (nrd (gat (Ic 2201) (Ac 23)) (Ic 3107 + 1) 4 = Ic 3112 ∧ f = 0 ∧ Ic2 = upd Ic 3106 4 ∧ Ac2 = Ac) ∨ (¬ nrd (gat (Ic 2201) (Ac 23)) (Ic 3107 + 1) 4 = Ic 3112 ∧ f = 5 ∧ Ic2 = upd Ic 3106 4 ∧ Ac2 = Ac)) (hm : (nrd (gmt (A 54)) (I 3444 + 1) 4 = I 3447 ∧ w = 0 ∧ I2 = upd I 3443 4 ∧ A2 = A) ∨ (¬ nrd (gmt (A 54)) (I 3444 + 1) 4 = I 3447 ∧ w = 5 ∧ I2 = upd I 3443 4 ∧ A2 = A)) : w = f ∧ (f = 0 → RR Ic2 Ac2 I2 A2 m ∧ Ic2 3113 = 0) := by
  have e := nA R (c := 1) (n := 1) (k := 4) rfl (by decide) (by decide) (by omega)
  obtain ⟨r1, r2, rm, rp, rt, rn, rg, ri⟩ := R
  have d := rg.2.2.2.1 (by rw [hs]; decide)
  rw [e, d.1] at hc
  rcases hc with ⟨c1, rfl, rfl, rfl⟩ | ⟨c1, rfl, rfl, rfl⟩
  · rcases hm with ⟨m1, rfl, rfl, rfl⟩ | ⟨m1, rfl, rfl, rfl⟩
    · exact ⟨rfl, fun _ => ⟨⟨r1, ⟨r2.1, r2.2.1, r2.2.2.1, rfl, (by decide : (0 : Int32) ≤ 4), (by decide : (4 : Int32) ≤ 4), r2.2.2.2.2.2.2.1, fun h => absurd (show (4 : Int32) = 0 from h) (by decide)⟩, rm, rp, rt, rn, ⟨rg.1, rg.2.1, rg.2.2.1, fun _ => d, fun _ h => absurd (show (4 : Int32) ≤ 2 from h) (by decide), fun h => absurd (show (4 : Int32) < 4 from h) (by decide)⟩, fun h => absurd (show (4 : Int32) = 2 from h) (by decide)⟩, rg.2.2.2.2.2 (by rw [hs]; decide)⟩⟩
    · exact absurd c1 m1
  · rcases hm with ⟨m1, rfl, rfl, rfl⟩ | ⟨m1, rfl, rfl, rfl⟩
    · exact absurd m1 c1
    · exact ⟨rfl, fun h => absurd h (by decide)⟩
