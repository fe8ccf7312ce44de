theorem o5 {j : Nat} (h : j ≤ 400) : (Int32.ofNat j * 5).toNatClampNeg = 5 * j := by
  have e5 : (5 : Int32).toInt = 5 := rfl
  have ej : (Int32.ofNat j).toInt = j := i_of (by omega)
  rw [i_cl, i_mul (by rw [ej, e5]; omega) (by rw [ej, e5]; omega), ej, e5]
  omega
theorem ffR_sp {f : Nat → Int32} {x : Int32} : ∀ (t j : Nat), j + t ≤ 400 → (∃ k : Nat, j ≤ k ∧ k < j + t ∧ f (5 * k) = x ∧ ffR f x t j = Int32.ofNat k) ∨ ((∀ k : Nat, j ≤ k → k < j + t → ¬ f (5 * k) = x) ∧ ffR f x t j = -1) := by
  intro t
  induction t with
  | zero => intro j _; exact Or.inr ⟨fun k a b => absurd a (by omega), rfl⟩
  | succ t ih =>
    intro j hj
    rw [ffR_s, o5 (by omega)]
    by_cases h : f (5 * j) = x
    · rw [if_pos h]
      exact Or.inl ⟨j, Nat.le_refl _, by omega, h, rfl⟩
    · rw [if_neg h]
      rcases ih (j + 1) (by omega) with ⟨k, a, b, c, d⟩ | ⟨a, b⟩
      · exact Or.inl ⟨k, by omega, by omega, c, d⟩
      · refine Or.inr ⟨fun k q1 q2 => ?_, b⟩
        by_cases e : k = j
        · rw [e]; exact h
        · exact a k (by omega) (by omega)
theorem faR_sp {f : Nat → Int32} {x : Int32} : ∀ (t j : Nat) (r : Int32), (∃ k : Nat, j ≤ k ∧ k < j + t ∧ f k = x ∧ faR f x t j r = Int32.ofNat k) ∨ ((∀ k : Nat, j ≤ k → k < j + t → ¬ f k = x) ∧ faR f x t j r = r) := by
  intro t
  induction t with
  | zero => intro j r; exact Or.inr ⟨fun k a b => absurd a (by omega), rfl⟩
  | succ t ih =>
    intro j r
    rw [faR_s]
    rcases ih (j + 1) (if f j = x then Int32.ofNat j else r) with ⟨k, a, b, c, d⟩ | ⟨a, b⟩
    · exact Or.inl ⟨k, by omega, by omega, c, d⟩
    · by_cases h : f j = x
      · rw [if_pos h] at b ⊢
        exact Or.inl ⟨j, Nat.le_refl _, by omega, h, b⟩
      · rw [if_neg h] at b ⊢
        refine Or.inr ⟨fun k q1 q2 => ?_, b⟩
        by_cases e : k = j
        · rw [e]; exact h
        · exact a k (by omega) (by omega)
theorem fnd {Ic I : mI} {Ac A : mA} {x : Int32} (rt : RT Ic Ac I A) : (∃ k : Nat, (k : Int) < (I 3436).toInt ∧ A 57 k = x ∧ ffR (Ac 27) x (Ic 2407).toInt.toNat 0 = Int32.ofNat k ∧ faR (A 57) x (I 3436).toInt.toNat 0 (-1) = Int32.ofNat k) ∨ ((∀ k : Nat, (k : Int) < (I 3436).toInt → ¬ A 57 k = x) ∧ ffR (Ac 27) x (Ic 2407).toInt.toNat 0 = -1 ∧ faR (A 57) x (I 3436).toInt.toNat 0 (-1) = -1) := by
  obtain ⟨t1, t2, t3, t4, t5⟩ := rt
  have g0 := i_le.mp t2
  rw [z0] at g0
  have g1 := i_le.mp t3
  rw [show (256 : Int32).toInt = 256 from rfl] at g1
  rw [t1]
  rcases ffR_sp (f := Ac 27) (x := x) (I 3436).toInt.toNat 0 (by omega) with ⟨k, _, a2, a3, a4⟩ | ⟨a1, a2⟩
  · have b3 : A 57 k = x := (t4 k (by omega)).1 ▸ a3
    rcases faR_sp (f := A 57) (x := x) (I 3436).toInt.toNat 0 (-1) with ⟨l, _, c2, c3, c4⟩ | ⟨c1, _⟩
    · have e : l = k := t5 l k (by omega) (by omega) (c3.trans b3.symm)
      subst e
      exact Or.inl ⟨l, by omega, b3, a4, c4⟩
    · exact absurd b3 (c1 k (by omega) a2)
  · have hno : ∀ k : Nat, (k : Int) < (I 3436).toInt → ¬ A 57 k = x := fun k hk e => a1 k (by omega) (by omega) ((t4 k hk).1.trans e)
    rcases faR_sp (f := A 57) (x := x) (I 3436).toInt.toNat 0 (-1) with ⟨l, _, c2, c3, c4⟩ | ⟨_, c2⟩
    · exact absurd c3 (hno l (by omega))
    · exact Or.inr ⟨hno, a2, c2⟩
theorem of_nn {k : Nat} (h : k < 70000) : 0 ≤ Int32.ofNat k ∧ ¬ Int32.ofNat k = -1 ∧ ¬ Int32.ofNat k < 0 := by
  have e : (Int32.ofNat k).toInt = k := i_of (by omega)
  refine ⟨i_le.mpr (by rw [z0, e]; omega), fun q => ?_, fun q => ?_⟩
  · have := i_eq.mp q
    rw [e, zm1] at this
    omega
  · have := i_lt.mp q
    rw [e, z0] at this
    omega
theorem cl_of {k : Nat} (h : k < 70000) : (Int32.ofNat k).toNatClampNeg = k := by
  rw [i_cl, i_of (by omega)]
  omega
theorem st_take {Ic Ic2 I I2 : mI} {Ac Ac2 A A2 : mA} {m : Int} {f w x : Int32} {k : Nat} (R : RR Ic Ac I A m) (hs : I 3443 = 2) (hx : (0 < Ic 3109 ∧ nrd (gat (Ic 2201) (Ac 23)) (Ic 3107 + 1) k = x) ∨ (¬ 0 < Ic 3109 ∧ Ic 3108 - 171 = x)) (hc : t_Rd_obeyFont Ic Ac k f Ic2 Ac2) (hm : t_Mo_take I A x w I2 A2) : w = f ∧ (f = 0 → RR Ic2 Ac2 I2 A2 m) := by
  obtain ⟨r1, r2, rm, rp, rt, rn, rg, ri⟩ := R
  obtain ⟨d1, d2, d3, d4, d5, d6⟩ := ri hs
  have hc2 : ((ffR (Ac 27) x (Ic 2407).toInt.toNat 0 = -1) ∧ f = 3 ∧ Ic2 = upd Ic 3110 (ffR (Ac 27) x (Ic 2407).toInt.toNat 0) ∧ Ac2 = Ac) ∨ ((¬ ffR (Ac 27) x (Ic 2407).toInt.toNat 0 = -1) ∧ f = 0 ∧ Ic2 = upd Ic 3110 (ffR (Ac 27) x (Ic 2407).toInt.toNat 0) ∧ Ac2 = Ac) := by
    unfold t_Rd_obeyFont at hc
    rcases hx with ⟨g1, g2⟩ | ⟨g1, g2⟩
    · rw [g2] at hc
      rcases hc with ⟨c1, q⟩ | ⟨c1, q⟩ | ⟨c1, q⟩ | ⟨c1, q⟩
      · exact Or.inl ⟨c1.2, q⟩
      · exact Or.inr ⟨c1.2, q⟩
      · exact absurd g1 c1.1
      · exact absurd g1 c1.1
    · rw [g2] at hc
      rcases hc with ⟨c1, q⟩ | ⟨c1, q⟩ | ⟨c1, q⟩ | ⟨c1, q⟩
      · exact absurd c1.1 g1
      · exact absurd c1.1 g1
      · exact Or.inl ⟨c1.2, q⟩
      · exact Or.inr ⟨c1.2, q⟩
  have g1 := i_le.mp rt.2.2.1
  rw [show (256 : Int32).toInt = 256 from rfl] at g1
  rcases fnd (x := x) rt with ⟨n, a1, a2, a3, a4⟩ | ⟨a1, a3, a4⟩
  · have hn := of_nn (k := n) (by omega)
    rw [a3] at hc2
    unfold t_Mo_take at hm
    rw [a4] at hm
    rcases hc2 with ⟨c1, -⟩ | ⟨c1, rfl, rfl, rfl⟩
    · exact absurd c1 hn.2.1
    · rcases hm with ⟨m1, -⟩ | ⟨m1, rfl, rfl, rfl⟩
      · exact absurd m1 hn.2.2
      · refine ⟨rfl, fun _ => ⟨r1, r2, rm, rp, rt, rn, rg, fun _ => ⟨d1, d2, d3, d4, d5, Or.inr ⟨(by decide : ¬ (1 : Int32) = 0), hn.1, ?_, ?_⟩⟩⟩⟩
        · exact i_lt.mpr (show (Int32.ofNat n).toInt < (I 3436).toInt by rw [i_of (by omega)]; exact a1)
        · show A2 57 (Int32.ofNat n).toNatClampNeg = x
          rw [cl_of (by omega)]
          exact a2
  · rw [a3] at hc2
    unfold t_Mo_take at hm
    rw [a4] at hm
    rcases hc2 with ⟨c1, rfl, rfl, rfl⟩ | ⟨c1, -⟩
    · rcases hm with ⟨m1, rfl, rfl, rfl⟩ | ⟨m1, -⟩
      · exact ⟨rfl, fun h => absurd h (by decide)⟩
      · exact absurd (show (-1 : Int32) < 0 by decide) m1
    · exact absurd rfl c1
