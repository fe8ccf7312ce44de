theorem RM_up {Ic Ic' I I' : mI} {Ac Ac' A A' : mA} {x0 x1 x2 x3 x4 x5 : Int32} (h : RM Ic Ac I A) (hl : I 3432 < 2000) (e1 : Ic' 2405 = Ic 2405 + 1) (e2 : I' 3432 = I 3432 + 1) (e3 : Ac' 25 = (upd (upd (upd (upd (upd (upd (Ac 25) (Ic 2405 * 6).toNatClampNeg x0) (Ic 2405 * 6 + 1).toNatClampNeg x1) (Ic 2405 * 6 + 2).toNatClampNeg x2) (Ic 2405 * 6 + 3).toNatClampNeg x3) (Ic 2405 * 6 + 4).toNatClampNeg x4) (Ic 2405 * 6 + 5).toNatClampNeg x5)) (e4 : A' 55 = (upd (upd (upd (upd (upd (upd (A 55) (6 * I 3432).toNatClampNeg x0) (6 * I 3432 + 1).toNatClampNeg x1) (6 * I 3432 + 2).toNatClampNeg x2) (6 * I 3432 + 3).toNatClampNeg x3) (6 * I 3432 + 4).toNatClampNeg x4) (6 * I 3432 + 5).toNatClampNeg x5)) : RM Ic' Ac' I' A' := by
  obtain ⟨h1, h2, h3, h4⟩ := h
  refine ⟨by rw [e1, e2, h1], by rw [e2]; grind, by rw [e2]; grind, ?_⟩
  rw [e2, e3, e4]
  exact upd6 h1 h2 hl h4
theorem six_u {f g : Nat → Int32} {k : Nat} {v : Int32} (h : ∀ i : Nat, i < 6 → f i = g i) : ∀ i : Nat, i < 6 → upd f k v i = upd g k v i := by
  intro i hi
  unfold upd
  rw [h i hi]

theorem st_rule {Ic Ic2 I I2 : mI} {Ac Ac2 A A2 : mA} {m : Int} {f w : Int32} {mv : Int32} (R : RR Ic Ac I A m) (hs : I 3443 = 2) (hf : (I 3444).toInt + 9 ≤ (I 3445).toInt) (hcd : (Ic 3108 = 132 ∧ ¬ mv = 0) ∨ (¬ Ic 3108 = 132 ∧ mv = 0)) (hc : t_Rd_obeyRule Ic Ac f Ic2 Ac2) (hm : t_Mo_setRule I A mv w I2 A2) : w = f ∧ (f = 0 → RR Ic2 Ac2 I2 A2 m) := by
  have e1 := nA R (c := 1) (n := 1) (k := 4) rfl (by decide) (by decide) (by omega)
  have e5 := nA R (c := 5) (n := 5) (k := 4) rfl (by decide) (by decide) (by omega)
  obtain ⟨r1, r2, rm, rp, rt, rn, rg, ri⟩ := R
  obtain ⟨d1, d2, d3, d4, d5, d6⟩ := ri hs
  unfold t_Rd_obeyRule at hc
  unfold t_Mo_setRule at hm
  rw [e1, e5, d5 0 (by decide), d5 1 (by decide), rp.1] at hc
  have m1 := rm.1
  have m2 := rm.2.1
  have m3 := rm.2.2.1
  generalize nrd (gmt (A 54)) (I 3444 + 1) 4 = H at hc hm
  generalize nrd (gmt (A 54)) (I 3444 + 5) 4 = W at hc hm
  rcases hcd with ⟨q1, q2⟩ | ⟨q1, q2⟩
  · rcases hc with ⟨c1, rfl, rfl, rfl⟩ | ⟨c1, rfl, rfl, rfl⟩ | ⟨c1, rfl, rfl, rfl⟩ | ⟨c1, rfl, rfl, rfl⟩ | ⟨c1, rfl, rfl, rfl⟩ | ⟨c1, rfl, rfl, rfl⟩ | ⟨c1, rfl, rfl, rfl⟩
    · rcases hm with ⟨n1, rfl, rfl, rfl⟩ | ⟨n1, rfl, rfl, rfl⟩ | ⟨n1, rfl, rfl, rfl⟩ | ⟨n1, rfl, rfl, rfl⟩ | ⟨n1, rfl, rfl, rfl⟩ | ⟨n1, rfl, rfl, rfl⟩ | ⟨n1, rfl, rfl, rfl⟩
      · exact ⟨rfl, fun h => absurd h (by decide)⟩
      · exfalso; grind
      · exfalso; grind
      · exfalso; grind
      · exfalso; grind
      · exfalso; grind
      · exfalso; grind
    · rcases hm with ⟨n1, rfl, rfl, rfl⟩ | ⟨n1, rfl, rfl, rfl⟩ | ⟨n1, rfl, rfl, rfl⟩ | ⟨n1, rfl, rfl, rfl⟩ | ⟨n1, rfl, rfl, rfl⟩ | ⟨n1, rfl, rfl, rfl⟩ | ⟨n1, rfl, rfl, rfl⟩
      · exfalso; grind
      · exfalso; grind
      · exfalso; grind
      · exact ⟨rfl, fun _ => ⟨r1, r2, rm, rp, rt, rn, rg, fun _ => ⟨d1, d2, d3, d4, six_u d5, d6⟩⟩⟩
      · exfalso; grind
      · exfalso; grind
      · exfalso; grind
    · rcases hm with ⟨n1, rfl, rfl, rfl⟩ | ⟨n1, rfl, rfl, rfl⟩ | ⟨n1, rfl, rfl, rfl⟩ | ⟨n1, rfl, rfl, rfl⟩ | ⟨n1, rfl, rfl, rfl⟩ | ⟨n1, rfl, rfl, rfl⟩ | ⟨n1, rfl, rfl, rfl⟩
      · exfalso; grind
      · exfalso; grind
      · exact ⟨rfl, fun _ => ⟨r1, r2, RM_up rm (by grind) rfl rfl rfl rfl, rp, rt, rn, rg, fun _ => ⟨d1, d2, d3, d4, six_u d5, d6⟩⟩⟩
      · exfalso; grind
      · exfalso; grind
      · exfalso; grind
      · exfalso; grind
    · rcases hm with ⟨n1, rfl, rfl, rfl⟩ | ⟨n1, rfl, rfl, rfl⟩ | ⟨n1, rfl, rfl, rfl⟩ | ⟨n1, rfl, rfl, rfl⟩ | ⟨n1, rfl, rfl, rfl⟩ | ⟨n1, rfl, rfl, rfl⟩ | ⟨n1, rfl, rfl, rfl⟩
      · exfalso; grind
      · exact ⟨rfl, fun h => absurd h (by decide)⟩
      · exfalso; grind
      · exfalso; grind
      · exfalso; grind
      · exfalso; grind
      · exfalso; grind
    · exfalso; grind
    · exfalso; grind
    · exfalso; grind
  · rcases hc with ⟨c1, rfl, rfl, rfl⟩ | ⟨c1, rfl, rfl, rfl⟩ | ⟨c1, rfl, rfl, rfl⟩ | ⟨c1, rfl, rfl, rfl⟩ | ⟨c1, rfl, rfl, rfl⟩ | ⟨c1, rfl, rfl, rfl⟩ | ⟨c1, rfl, rfl, rfl⟩
    · exfalso; grind
    · exfalso; grind
    · exfalso; grind
    · exfalso; grind
    · rcases hm with ⟨n1, rfl, rfl, rfl⟩ | ⟨n1, rfl, rfl, rfl⟩ | ⟨n1, rfl, rfl, rfl⟩ | ⟨n1, rfl, rfl, rfl⟩ | ⟨n1, rfl, rfl, rfl⟩ | ⟨n1, rfl, rfl, rfl⟩ | ⟨n1, rfl, rfl, rfl⟩
      · exfalso; grind
      · exfalso; grind
      · exfalso; grind
      · exfalso; grind
      · exfalso; grind
      · exfalso; grind
      · exact ⟨rfl, fun _ => ⟨r1, r2, rm, rp, rt, rn, rg, fun _ => ⟨d1, d2, d3, d4, d5, d6⟩⟩⟩
    · rcases hm with ⟨n1, rfl, rfl, rfl⟩ | ⟨n1, rfl, rfl, rfl⟩ | ⟨n1, rfl, rfl, rfl⟩ | ⟨n1, rfl, rfl, rfl⟩ | ⟨n1, rfl, rfl, rfl⟩ | ⟨n1, rfl, rfl, rfl⟩ | ⟨n1, rfl, rfl, rfl⟩
      · exfalso; grind
      · exfalso; grind
      · exfalso; grind
      · exfalso; grind
      · exfalso; grind
      · exact ⟨rfl, fun _ => ⟨r1, r2, RM_up rm (by grind) rfl rfl rfl rfl, rp, rt, rn, rg, fun _ => ⟨d1, d2, d3, d4, d5, d6⟩⟩⟩
      · exfalso; grind
    · rcases hm with ⟨n1, rfl, rfl, rfl⟩ | ⟨n1, rfl, rfl, rfl⟩ | ⟨n1, rfl, rfl, rfl⟩ | ⟨n1, rfl, rfl, rfl⟩ | ⟨n1, rfl, rfl, rfl⟩ | ⟨n1, rfl, rfl, rfl⟩ | ⟨n1, rfl, rfl, rfl⟩
      · exfalso; grind
      · exfalso; grind
      · exfalso; grind
      · exfalso; grind
      · exact ⟨rfl, fun h => absurd h (by decide)⟩
      · exfalso; grind
      · exfalso; grind

theorem fP0 {Ic I : mI} {Ac A : mA} {g : Int32 → Int32} {x : Int32} (rt : RT Ic Ac I A) (h0 : 0 ≤ Ic 3110) (h1 : Ic 3110 < I 3436) (h2 : A 57 (Ic 3110).toNatClampNeg = x) : fPart (Ic 2407) (Ac 27) (Ac 28) g (Ic 3110) 0 = x := by
  obtain ⟨t1, t2, t3, t4, t5⟩ := rt
  unfold fPart
  rw [if_neg (by grind), if_pos (by decide)]
  have g0 := i_le.mp h0
  rw [z0] at g0
  have g1 := i_lt.mp h1
  have e : (Ic 3110 * 5 + 0).toNatClampNeg = 5 * (Ic 3110).toInt.toNat := by
    have := ix_l (m := Ic 3110) (c := 5) (q := 5) (j := 0) h0 (by grind) rfl (by decide) (by decide)
    exact this
  rw [e, (t4 (Ic 3110).toInt.toNat (by omega)).1]
  exact h2

set_option maxHeartbeats 2000000 in
theorem st_char {Ic Ic2 I I2 : mI} {Ac Ac2 A A2 : mA} {m : Int} {f w : Int32} {mv ch : Int32} {k : Nat} (R : RR Ic Ac I A m) (hs : I 3443 = 2) (hcd : (Ic 3108 ≤ 131 ∧ ¬ mv = 0) ∨ (¬ Ic 3108 ≤ 131 ∧ mv = 0)) (hch : (0 < Ic 3109 ∧ nrd (gat (Ic 2201) (Ac 23)) (Ic 3107 + 1) k = ch) ∨ (¬ 0 < Ic 3109 ∧ Ic 3108 = ch)) (hc : t_Rd_obeyCharacter Ic Ac k f Ic2 Ac2) (hm : t_Mo_setCharacter I A ch mv w I2 A2) : w = f ∧ (f = 0 → RR Ic2 Ac2 I2 A2 m) := by
  obtain ⟨r1, r2, rm, rp, rt, rn, rg, ri⟩ := R
  obtain ⟨d1, d2, d3, d4, d5, d6⟩ := ri hs
  have m1 := rm.1
  have m2 := rm.2.1
  have m3 := rm.2.2.1
  unfold t_Rd_obeyCharacter at hc
  unfold t_Mo_setCharacter at hm
  by_cases hfn : Ic 3110 = -1
  · have hz : I 3449 = 0 := by grind
    rcases hc with ⟨c1, rfl, rfl, rfl⟩ | ⟨c1, rfl, rfl, rfl⟩ | ⟨c1, rfl, rfl, rfl⟩ | ⟨c1, rfl, rfl, rfl⟩ | ⟨c1, rfl, rfl, rfl⟩ | ⟨c1, rfl, rfl, rfl⟩ | ⟨c1, rfl, rfl, rfl⟩ | ⟨c1, rfl, rfl, rfl⟩ | ⟨c1, rfl, rfl, rfl⟩ | ⟨c1, rfl, rfl, rfl⟩ | ⟨c1, rfl, rfl, rfl⟩
    · rcases hm with ⟨n1, rfl, rfl, rfl⟩ | ⟨n1, rfl, rfl, rfl⟩ | ⟨n1, rfl, rfl, rfl⟩ | ⟨n1, rfl, rfl, rfl⟩ | ⟨n1, rfl, rfl, rfl⟩ | ⟨n1, rfl, rfl, rfl⟩ | ⟨n1, rfl, rfl, rfl⟩ | ⟨n1, rfl, rfl, rfl⟩ | ⟨n1, rfl, rfl, rfl⟩ | ⟨n1, rfl, rfl, rfl⟩ | ⟨n1, rfl, rfl, rfl⟩
      · exact ⟨rfl, fun h => absurd h (by decide)⟩
      · exact absurd hz n1.1.1
      · exact absurd hz n1.1.1
      · exact absurd hz n1.1.1
      · exact absurd hz n1.1.1
      · exact absurd hz n1.1.1
      · exact absurd hz n1.1.1
      · exact absurd hz n1.1.1
      · exact absurd hz n1.1.1
      · exact absurd hz n1.1.1
      · exact absurd hz n1.1.1
    · exact absurd hfn c1.1.1
    · exact absurd hfn c1.1.1.1
    · exact absurd hfn c1.1.1.1
    · exact absurd hfn c1.1.1.1
    · exact absurd hfn c1.1.1.1
    · exact absurd hfn c1.1.1
    · exact absurd hfn c1.1.1.1
    · exact absurd hfn c1.1.1.1
    · exact absurd hfn c1.1.1.1
    · exact absurd hfn c1.1.1.1
  · obtain ⟨y1, y2, y3, y4⟩ := d6.resolve_left (fun q => hfn q.1)
    rw [fP0 rt y2 y3 y4, r1.2.2.2, d5 0 (by decide), d5 1 (by decide), rp.1] at hc
    have hx : ∀ x : Int32, x = ch → wOf (A 41) (I 3448) x = wOf (A 41) (I 3448) ch := fun x hx => by rw [hx]
    rcases hch with ⟨g1, g2⟩ | ⟨g1, g2⟩
    · rw [g2] at hc
      by_cases hb : ((0 ≤ I 3448 ∧ I 3448 ≤ 255) ∧ 0 ≤ ch ∧ ch ≤ 255)
      · have hw : wOf (A 41) (I 3448) ch = A 41 (256 * I 3448 + ch).toNatClampNeg := by rw [← wOf_t hb, Int32.mul_comm]
        rw [hw] at hc
        rcases hc with ⟨c1, rfl, rfl, rfl⟩ | ⟨c1, rfl, rfl, rfl⟩ | ⟨c1, rfl, rfl, rfl⟩ | ⟨c1, rfl, rfl, rfl⟩ | ⟨c1, rfl, rfl, rfl⟩ | ⟨c1, rfl, rfl, rfl⟩ | ⟨c1, rfl, rfl, rfl⟩ | ⟨c1, rfl, rfl, rfl⟩ | ⟨c1, rfl, rfl, rfl⟩ | ⟨c1, rfl, rfl, rfl⟩ | ⟨c1, rfl, rfl, rfl⟩
        · exact absurd c1 hfn
        · rcases hm with ⟨n1, rfl, rfl, rfl⟩ | ⟨n1, rfl, rfl, rfl⟩ | ⟨n1, rfl, rfl, rfl⟩ | ⟨n1, rfl, rfl, rfl⟩ | ⟨n1, rfl, rfl, rfl⟩ | ⟨n1, rfl, rfl, rfl⟩ | ⟨n1, rfl, rfl, rfl⟩ | ⟨n1, rfl, rfl, rfl⟩ | ⟨n1, rfl, rfl, rfl⟩ | ⟨n1, rfl, rfl, rfl⟩ | ⟨n1, rfl, rfl, rfl⟩
          · exact absurd n1 y1
          · exact ⟨rfl, fun h => absurd h (by decide)⟩
          · exfalso; grind
          · exfalso; grind
          · exfalso; grind
          · exfalso; grind
          · exact absurd hb n1.1.2
          · exact absurd hb n1.1.2
          · exact absurd hb n1.1.2
          · exact absurd hb n1.1.2
          · exact absurd hb n1.1.2
        · rcases hm with ⟨n1, rfl, rfl, rfl⟩ | ⟨n1, rfl, rfl, rfl⟩ | ⟨n1, rfl, rfl, rfl⟩ | ⟨n1, rfl, rfl, rfl⟩ | ⟨n1, rfl, rfl, rfl⟩ | ⟨n1, rfl, rfl, rfl⟩ | ⟨n1, rfl, rfl, rfl⟩ | ⟨n1, rfl, rfl, rfl⟩ | ⟨n1, rfl, rfl, rfl⟩ | ⟨n1, rfl, rfl, rfl⟩ | ⟨n1, rfl, rfl, rfl⟩
          · exact absurd n1 y1
          · exfalso; grind
          · exfalso; grind
          · exact ⟨rfl, fun _ => ⟨r1, r2, RM_up rm (by grind) rfl rfl rfl rfl, rp, rt, rn, rg, fun _ => ⟨d1, d2, d3, d4, six_u d5, d6⟩⟩⟩
          · exfalso; grind
          · exfalso; grind
          · exact absurd hb n1.1.2
          · exact absurd hb n1.1.2
          · exact absurd hb n1.1.2
          · exact absurd hb n1.1.2
          · exact absurd hb n1.1.2
        · rcases hm with ⟨n1, rfl, rfl, rfl⟩ | ⟨n1, rfl, rfl, rfl⟩ | ⟨n1, rfl, rfl, rfl⟩ | ⟨n1, rfl, rfl, rfl⟩ | ⟨n1, rfl, rfl, rfl⟩ | ⟨n1, rfl, rfl, rfl⟩ | ⟨n1, rfl, rfl, rfl⟩ | ⟨n1, rfl, rfl, rfl⟩ | ⟨n1, rfl, rfl, rfl⟩ | ⟨n1, rfl, rfl, rfl⟩ | ⟨n1, rfl, rfl, rfl⟩
          · exact absurd n1 y1
          · exfalso; grind
          · exact ⟨rfl, fun h => absurd h (by decide)⟩
          · exfalso; grind
          · exfalso; grind
          · exfalso; grind
          · exact absurd hb n1.1.2
          · exact absurd hb n1.1.2
          · exact absurd hb n1.1.2
          · exact absurd hb n1.1.2
          · exact absurd hb n1.1.2
        · rcases hm with ⟨n1, rfl, rfl, rfl⟩ | ⟨n1, rfl, rfl, rfl⟩ | ⟨n1, rfl, rfl, rfl⟩ | ⟨n1, rfl, rfl, rfl⟩ | ⟨n1, rfl, rfl, rfl⟩ | ⟨n1, rfl, rfl, rfl⟩ | ⟨n1, rfl, rfl, rfl⟩ | ⟨n1, rfl, rfl, rfl⟩ | ⟨n1, rfl, rfl, rfl⟩ | ⟨n1, rfl, rfl, rfl⟩ | ⟨n1, rfl, rfl, rfl⟩
          · exact absurd n1 y1
          · exfalso; grind
          · exfalso; grind
          · exfalso; grind
          · exfalso; grind
          · exact ⟨rfl, fun _ => ⟨r1, r2, RM_up rm (by grind) rfl rfl rfl rfl, rp, rt, rn, rg, fun _ => ⟨d1, d2, d3, d4, d5, d6⟩⟩⟩
          · exact absurd hb n1.1.2
          · exact absurd hb n1.1.2
          · exact absurd hb n1.1.2
          · exact absurd hb n1.1.2
          · exact absurd hb n1.1.2
        · rcases hm with ⟨n1, rfl, rfl, rfl⟩ | ⟨n1, rfl, rfl, rfl⟩ | ⟨n1, rfl, rfl, rfl⟩ | ⟨n1, rfl, rfl, rfl⟩ | ⟨n1, rfl, rfl, rfl⟩ | ⟨n1, rfl, rfl, rfl⟩ | ⟨n1, rfl, rfl, rfl⟩ | ⟨n1, rfl, rfl, rfl⟩ | ⟨n1, rfl, rfl, rfl⟩ | ⟨n1, rfl, rfl, rfl⟩ | ⟨n1, rfl, rfl, rfl⟩
          · exact absurd n1 y1
          · exfalso; grind
          · exfalso; grind
          · exfalso; grind
          · exact ⟨rfl, fun h => absurd h (by decide)⟩
          · exfalso; grind
          · exact absurd hb n1.1.2
          · exact absurd hb n1.1.2
          · exact absurd hb n1.1.2
          · exact absurd hb n1.1.2
          · exact absurd hb n1.1.2
        · exact absurd g1 c1.1.2
        · exact absurd g1 c1.1.1.2
        · exact absurd g1 c1.1.1.2
        · exact absurd g1 c1.1.1.2
        · exact absurd g1 c1.1.1.2
      · have hw : wOf (A 41) (I 3448) ch = 0 := (wOf_f hb).symm
        rw [hw] at hc
        rcases hc with ⟨c1, rfl, rfl, rfl⟩ | ⟨c1, rfl, rfl, rfl⟩ | ⟨c1, rfl, rfl, rfl⟩ | ⟨c1, rfl, rfl, rfl⟩ | ⟨c1, rfl, rfl, rfl⟩ | ⟨c1, rfl, rfl, rfl⟩ | ⟨c1, rfl, rfl, rfl⟩ | ⟨c1, rfl, rfl, rfl⟩ | ⟨c1, rfl, rfl, rfl⟩ | ⟨c1, rfl, rfl, rfl⟩ | ⟨c1, rfl, rfl, rfl⟩
        · exact absurd c1 hfn
        · rcases hm with ⟨n1, rfl, rfl, rfl⟩ | ⟨n1, rfl, rfl, rfl⟩ | ⟨n1, rfl, rfl, rfl⟩ | ⟨n1, rfl, rfl, rfl⟩ | ⟨n1, rfl, rfl, rfl⟩ | ⟨n1, rfl, rfl, rfl⟩ | ⟨n1, rfl, rfl, rfl⟩ | ⟨n1, rfl, rfl, rfl⟩ | ⟨n1, rfl, rfl, rfl⟩ | ⟨n1, rfl, rfl, rfl⟩ | ⟨n1, rfl, rfl, rfl⟩
          · exact absurd n1 y1
          · exact absurd n1.1.2 hb
          · exact absurd n1.1.2 hb
          · exact absurd n1.1.2 hb
          · exact absurd n1.1.2 hb
          · exact absurd n1.1.2 hb
          · exact ⟨rfl, fun h => absurd h (by decide)⟩
          · exfalso; grind
          · exfalso; grind
          · exfalso; grind
          · exfalso; grind
        · rcases hm with ⟨n1, rfl, rfl, rfl⟩ | ⟨n1, rfl, rfl, rfl⟩ | ⟨n1, rfl, rfl, rfl⟩ | ⟨n1, rfl, rfl, rfl⟩ | ⟨n1, rfl, rfl, rfl⟩ | ⟨n1, rfl, rfl, rfl⟩ | ⟨n1, rfl, rfl, rfl⟩ | ⟨n1, rfl, rfl, rfl⟩ | ⟨n1, rfl, rfl, rfl⟩ | ⟨n1, rfl, rfl, rfl⟩ | ⟨n1, rfl, rfl, rfl⟩
          · exact absurd n1 y1
          · exact absurd n1.1.2 hb
          · exact absurd n1.1.2 hb
          · exact absurd n1.1.2 hb
          · exact absurd n1.1.2 hb
          · exact absurd n1.1.2 hb
          · exfalso; grind
          · exfalso; grind
          · exact ⟨rfl, fun _ => ⟨r1, r2, RM_up rm (by grind) rfl rfl rfl rfl, rp, rt, rn, rg, fun _ => ⟨d1, d2, d3, d4, six_u d5, d6⟩⟩⟩
          · exfalso; grind
          · exfalso; grind
        · rcases hm with ⟨n1, rfl, rfl, rfl⟩ | ⟨n1, rfl, rfl, rfl⟩ | ⟨n1, rfl, rfl, rfl⟩ | ⟨n1, rfl, rfl, rfl⟩ | ⟨n1, rfl, rfl, rfl⟩ | ⟨n1, rfl, rfl, rfl⟩ | ⟨n1, rfl, rfl, rfl⟩ | ⟨n1, rfl, rfl, rfl⟩ | ⟨n1, rfl, rfl, rfl⟩ | ⟨n1, rfl, rfl, rfl⟩ | ⟨n1, rfl, rfl, rfl⟩
          · exact absurd n1 y1
          · exact absurd n1.1.2 hb
          · exact absurd n1.1.2 hb
          · exact absurd n1.1.2 hb
          · exact absurd n1.1.2 hb
          · exact absurd n1.1.2 hb
          · exfalso; grind
          · exact ⟨rfl, fun h => absurd h (by decide)⟩
          · exfalso; grind
          · exfalso; grind
          · exfalso; grind
        · rcases hm with ⟨n1, rfl, rfl, rfl⟩ | ⟨n1, rfl, rfl, rfl⟩ | ⟨n1, rfl, rfl, rfl⟩ | ⟨n1, rfl, rfl, rfl⟩ | ⟨n1, rfl, rfl, rfl⟩ | ⟨n1, rfl, rfl, rfl⟩ | ⟨n1, rfl, rfl, rfl⟩ | ⟨n1, rfl, rfl, rfl⟩ | ⟨n1, rfl, rfl, rfl⟩ | ⟨n1, rfl, rfl, rfl⟩ | ⟨n1, rfl, rfl, rfl⟩
          · exact absurd n1 y1
          · exact absurd n1.1.2 hb
          · exact absurd n1.1.2 hb
          · exact absurd n1.1.2 hb
          · exact absurd n1.1.2 hb
          · exact absurd n1.1.2 hb
          · exfalso; grind
          · exfalso; grind
          · exfalso; grind
          · exfalso; grind
          · exact ⟨rfl, fun _ => ⟨r1, r2, RM_up rm (by grind) rfl rfl rfl rfl, rp, rt, rn, rg, fun _ => ⟨d1, d2, d3, d4, d5, d6⟩⟩⟩
        · rcases hm with ⟨n1, rfl, rfl, rfl⟩ | ⟨n1, rfl, rfl, rfl⟩ | ⟨n1, rfl, rfl, rfl⟩ | ⟨n1, rfl, rfl, rfl⟩ | ⟨n1, rfl, rfl, rfl⟩ | ⟨n1, rfl, rfl, rfl⟩ | ⟨n1, rfl, rfl, rfl⟩ | ⟨n1, rfl, rfl, rfl⟩ | ⟨n1, rfl, rfl, rfl⟩ | ⟨n1, rfl, rfl, rfl⟩ | ⟨n1, rfl, rfl, rfl⟩
          · exact absurd n1 y1
          · exact absurd n1.1.2 hb
          · exact absurd n1.1.2 hb
          · exact absurd n1.1.2 hb
          · exact absurd n1.1.2 hb
          · exact absurd n1.1.2 hb
          · exfalso; grind
          · exfalso; grind
          · exfalso; grind
          · exact ⟨rfl, fun h => absurd h (by decide)⟩
          · exfalso; grind
        · exact absurd g1 c1.1.2
        · exact absurd g1 c1.1.1.2
        · exact absurd g1 c1.1.1.2
        · exact absurd g1 c1.1.1.2
        · exact absurd g1 c1.1.1.2
    · subst g2
      by_cases hb : ((0 ≤ I 3448 ∧ I 3448 ≤ 255) ∧ 0 ≤ (Ic 3108) ∧ (Ic 3108) ≤ 255)
      · have hw : wOf (A 41) (I 3448) (Ic 3108) = A 41 (256 * I 3448 + (Ic 3108)).toNatClampNeg := by rw [← wOf_t hb, Int32.mul_comm]
        rw [hw] at hc
        rcases hc with ⟨c1, rfl, rfl, rfl⟩ | ⟨c1, rfl, rfl, rfl⟩ | ⟨c1, rfl, rfl, rfl⟩ | ⟨c1, rfl, rfl, rfl⟩ | ⟨c1, rfl, rfl, rfl⟩ | ⟨c1, rfl, rfl, rfl⟩ | ⟨c1, rfl, rfl, rfl⟩ | ⟨c1, rfl, rfl, rfl⟩ | ⟨c1, rfl, rfl, rfl⟩ | ⟨c1, rfl, rfl, rfl⟩ | ⟨c1, rfl, rfl, rfl⟩
        · exact absurd c1 hfn
        · exact absurd c1.1.2 g1
        · exact absurd c1.1.1.2 g1
        · exact absurd c1.1.1.2 g1
        · exact absurd c1.1.1.2 g1
        · exact absurd c1.1.1.2 g1
        · rcases hm with ⟨n1, rfl, rfl, rfl⟩ | ⟨n1, rfl, rfl, rfl⟩ | ⟨n1, rfl, rfl, rfl⟩ | ⟨n1, rfl, rfl, rfl⟩ | ⟨n1, rfl, rfl, rfl⟩ | ⟨n1, rfl, rfl, rfl⟩ | ⟨n1, rfl, rfl, rfl⟩ | ⟨n1, rfl, rfl, rfl⟩ | ⟨n1, rfl, rfl, rfl⟩ | ⟨n1, rfl, rfl, rfl⟩ | ⟨n1, rfl, rfl, rfl⟩
          · exact absurd n1 y1
          · exact ⟨rfl, fun h => absurd h (by decide)⟩
          · exfalso; grind
          · exfalso; grind
          · exfalso; grind
          · exfalso; grind
          · exact absurd hb n1.1.2
          · exact absurd hb n1.1.2
          · exact absurd hb n1.1.2
          · exact absurd hb n1.1.2
          · exact absurd hb n1.1.2
        · rcases hm with ⟨n1, rfl, rfl, rfl⟩ | ⟨n1, rfl, rfl, rfl⟩ | ⟨n1, rfl, rfl, rfl⟩ | ⟨n1, rfl, rfl, rfl⟩ | ⟨n1, rfl, rfl, rfl⟩ | ⟨n1, rfl, rfl, rfl⟩ | ⟨n1, rfl, rfl, rfl⟩ | ⟨n1, rfl, rfl, rfl⟩ | ⟨n1, rfl, rfl, rfl⟩ | ⟨n1, rfl, rfl, rfl⟩ | ⟨n1, rfl, rfl, rfl⟩
          · exact absurd n1 y1
          · exfalso; grind
          · exfalso; grind
          · exact ⟨rfl, fun _ => ⟨r1, r2, RM_up rm (by grind) rfl rfl rfl rfl, rp, rt, rn, rg, fun _ => ⟨d1, d2, d3, d4, six_u d5, d6⟩⟩⟩
          · exfalso; grind
          · exfalso; grind
          · exact absurd hb n1.1.2
          · exact absurd hb n1.1.2
          · exact absurd hb n1.1.2
          · exact absurd hb n1.1.2
          · exact absurd hb n1.1.2
        · rcases hm with ⟨n1, rfl, rfl, rfl⟩ | ⟨n1, rfl, rfl, rfl⟩ | ⟨n1, rfl, rfl, rfl⟩ | ⟨n1, rfl, rfl, rfl⟩ | ⟨n1, rfl, rfl, rfl⟩ | ⟨n1, rfl, rfl, rfl⟩ | ⟨n1, rfl, rfl, rfl⟩ | ⟨n1, rfl, rfl, rfl⟩ | ⟨n1, rfl, rfl, rfl⟩ | ⟨n1, rfl, rfl, rfl⟩ | ⟨n1, rfl, rfl, rfl⟩
          · exact absurd n1 y1
          · exfalso; grind
          · exact ⟨rfl, fun h => absurd h (by decide)⟩
          · exfalso; grind
          · exfalso; grind
          · exfalso; grind
          · exact absurd hb n1.1.2
          · exact absurd hb n1.1.2
          · exact absurd hb n1.1.2
          · exact absurd hb n1.1.2
          · exact absurd hb n1.1.2
        · rcases hm with ⟨n1, rfl, rfl, rfl⟩ | ⟨n1, rfl, rfl, rfl⟩ | ⟨n1, rfl, rfl, rfl⟩ | ⟨n1, rfl, rfl, rfl⟩ | ⟨n1, rfl, rfl, rfl⟩ | ⟨n1, rfl, rfl, rfl⟩ | ⟨n1, rfl, rfl, rfl⟩ | ⟨n1, rfl, rfl, rfl⟩ | ⟨n1, rfl, rfl, rfl⟩ | ⟨n1, rfl, rfl, rfl⟩ | ⟨n1, rfl, rfl, rfl⟩
          · exact absurd n1 y1
          · exfalso; grind
          · exfalso; grind
          · exfalso; grind
          · exfalso; grind
          · exact ⟨rfl, fun _ => ⟨r1, r2, RM_up rm (by grind) rfl rfl rfl rfl, rp, rt, rn, rg, fun _ => ⟨d1, d2, d3, d4, d5, d6⟩⟩⟩
          · exact absurd hb n1.1.2
          · exact absurd hb n1.1.2
          · exact absurd hb n1.1.2
          · exact absurd hb n1.1.2
          · exact absurd hb n1.1.2
        · rcases hm with ⟨n1, rfl, rfl, rfl⟩ | ⟨n1, rfl, rfl, rfl⟩ | ⟨n1, rfl, rfl, rfl⟩ | ⟨n1, rfl, rfl, rfl⟩ | ⟨n1, rfl, rfl, rfl⟩ | ⟨n1, rfl, rfl, rfl⟩ | ⟨n1, rfl, rfl, rfl⟩ | ⟨n1, rfl, rfl, rfl⟩ | ⟨n1, rfl, rfl, rfl⟩ | ⟨n1, rfl, rfl, rfl⟩ | ⟨n1, rfl, rfl, rfl⟩
          · exact absurd n1 y1
          · exfalso; grind
          · exfalso; grind
          · exfalso; grind
          · exact ⟨rfl, fun h => absurd h (by decide)⟩
          · exfalso; grind
          · exact absurd hb n1.1.2
          · exact absurd hb n1.1.2
          · exact absurd hb n1.1.2
          · exact absurd hb n1.1.2
          · exact absurd hb n1.1.2
      · have hw : wOf (A 41) (I 3448) (Ic 3108) = 0 := (wOf_f hb).symm
        rw [hw] at hc
        rcases hc with ⟨c1, rfl, rfl, rfl⟩ | ⟨c1, rfl, rfl, rfl⟩ | ⟨c1, rfl, rfl, rfl⟩ | ⟨c1, rfl, rfl, rfl⟩ | ⟨c1, rfl, rfl, rfl⟩ | ⟨c1, rfl, rfl, rfl⟩ | ⟨c1, rfl, rfl, rfl⟩ | ⟨c1, rfl, rfl, rfl⟩ | ⟨c1, rfl, rfl, rfl⟩ | ⟨c1, rfl, rfl, rfl⟩ | ⟨c1, rfl, rfl, rfl⟩
        · exact absurd c1 hfn
        · exact absurd c1.1.2 g1
        · exact absurd c1.1.1.2 g1
        · exact absurd c1.1.1.2 g1
        · exact absurd c1.1.1.2 g1
        · exact absurd c1.1.1.2 g1
        · rcases hm with ⟨n1, rfl, rfl, rfl⟩ | ⟨n1, rfl, rfl, rfl⟩ | ⟨n1, rfl, rfl, rfl⟩ | ⟨n1, rfl, rfl, rfl⟩ | ⟨n1, rfl, rfl, rfl⟩ | ⟨n1, rfl, rfl, rfl⟩ | ⟨n1, rfl, rfl, rfl⟩ | ⟨n1, rfl, rfl, rfl⟩ | ⟨n1, rfl, rfl, rfl⟩ | ⟨n1, rfl, rfl, rfl⟩ | ⟨n1, rfl, rfl, rfl⟩
          · exact absurd n1 y1
          · exact absurd n1.1.2 hb
          · exact absurd n1.1.2 hb
          · exact absurd n1.1.2 hb
          · exact absurd n1.1.2 hb
          · exact absurd n1.1.2 hb
          · exact ⟨rfl, fun h => absurd h (by decide)⟩
          · exfalso; grind
          · exfalso; grind
          · exfalso; grind
          · exfalso; grind
        · rcases hm with ⟨n1, rfl, rfl, rfl⟩ | ⟨n1, rfl, rfl, rfl⟩ | ⟨n1, rfl, rfl, rfl⟩ | ⟨n1, rfl, rfl, rfl⟩ | ⟨n1, rfl, rfl, rfl⟩ | ⟨n1, rfl, rfl, rfl⟩ | ⟨n1, rfl, rfl, rfl⟩ | ⟨n1, rfl, rfl, rfl⟩ | ⟨n1, rfl, rfl, rfl⟩ | ⟨n1, rfl, rfl, rfl⟩ | ⟨n1, rfl, rfl, rfl⟩
          · exact absurd n1 y1
          · exact absurd n1.1.2 hb
          · exact absurd n1.1.2 hb
          · exact absurd n1.1.2 hb
          · exact absurd n1.1.2 hb
          · exact absurd n1.1.2 hb
          · exfalso; grind
          · exfalso; grind
          · exact ⟨rfl, fun _ => ⟨r1, r2, RM_up rm (by grind) rfl rfl rfl rfl, rp, rt, rn, rg, fun _ => ⟨d1, d2, d3, d4, six_u d5, d6⟩⟩⟩
          · exfalso; grind
          · exfalso; grind
        · rcases hm with ⟨n1, rfl, rfl, rfl⟩ | ⟨n1, rfl, rfl, rfl⟩ | ⟨n1, rfl, rfl, rfl⟩ | ⟨n1, rfl, rfl, rfl⟩ | ⟨n1, rfl, rfl, rfl⟩ | ⟨n1, rfl, rfl, rfl⟩ | ⟨n1, rfl, rfl, rfl⟩ | ⟨n1, rfl, rfl, rfl⟩ | ⟨n1, rfl, rfl, rfl⟩ | ⟨n1, rfl, rfl, rfl⟩ | ⟨n1, rfl, rfl, rfl⟩
          · exact absurd n1 y1
          · exact absurd n1.1.2 hb
          · exact absurd n1.1.2 hb
          · exact absurd n1.1.2 hb
          · exact absurd n1.1.2 hb
          · exact absurd n1.1.2 hb
          · exfalso; grind
          · exact ⟨rfl, fun h => absurd h (by decide)⟩
          · exfalso; grind
          · exfalso; grind
          · exfalso; grind
        · rcases hm with ⟨n1, rfl, rfl, rfl⟩ | ⟨n1, rfl, rfl, rfl⟩ | ⟨n1, rfl, rfl, rfl⟩ | ⟨n1, rfl, rfl, rfl⟩ | ⟨n1, rfl, rfl, rfl⟩ | ⟨n1, rfl, rfl, rfl⟩ | ⟨n1, rfl, rfl, rfl⟩ | ⟨n1, rfl, rfl, rfl⟩ | ⟨n1, rfl, rfl, rfl⟩ | ⟨n1, rfl, rfl, rfl⟩ | ⟨n1, rfl, rfl, rfl⟩
          · exact absurd n1 y1
          · exact absurd n1.1.2 hb
          · exact absurd n1.1.2 hb
          · exact absurd n1.1.2 hb
          · exact absurd n1.1.2 hb
          · exact absurd n1.1.2 hb
          · exfalso; grind
          · exfalso; grind
          · exfalso; grind
          · exfalso; grind
          · exact ⟨rfl, fun _ => ⟨r1, r2, RM_up rm (by grind) rfl rfl rfl rfl, rp, rt, rn, rg, fun _ => ⟨d1, d2, d3, d4, d5, d6⟩⟩⟩
        · rcases hm with ⟨n1, rfl, rfl, rfl⟩ | ⟨n1, rfl, rfl, rfl⟩ | ⟨n1, rfl, rfl, rfl⟩ | ⟨n1, rfl, rfl, rfl⟩ | ⟨n1, rfl, rfl, rfl⟩ | ⟨n1, rfl, rfl, rfl⟩ | ⟨n1, rfl, rfl, rfl⟩ | ⟨n1, rfl, rfl, rfl⟩ | ⟨n1, rfl, rfl, rfl⟩ | ⟨n1, rfl, rfl, rfl⟩ | ⟨n1, rfl, rfl, rfl⟩
          · exact absurd n1 y1
          · exact absurd n1.1.2 hb
          · exact absurd n1.1.2 hb
          · exact absurd n1.1.2 hb
          · exact absurd n1.1.2 hb
          · exact absurd n1.1.2 hb
          · exfalso; grind
          · exfalso; grind
          · exfalso; grind
          · exact ⟨rfl, fun h => absurd h (by decide)⟩
          · exfalso; grind
