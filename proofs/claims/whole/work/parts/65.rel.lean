abbrev bQ (g : Int32 → Int32) (a : Int32) : Int32 := a + 1 + (g a - 243 + 1)
abbrev nSz (g : Int32 → Int32) (q : Int32) : Int32 := g (q + 12) + g (q + 13)
def rF1 (Ic : mI) (Ac : mA) (A : mA) (s : Int32) (k : Nat) : Prop := Ac 27 (5 * k) = A 57 k ∧ plO (gmt (A 54)) s (A 58 k) ∧ Ac 27 (5 * k + 1) = nrd (gmt (A 54)) (bQ (gmt (A 54)) (A 58 k)) 4 ∧ Ac 27 (5 * k + 2) = nrd (gmt (A 54)) (bQ (gmt (A 54)) (A 58 k) + 4) 4 ∧ Ac 27 (5 * k + 3) = nrd (gmt (A 54)) (bQ (gmt (A 54)) (A 58 k) + 8) 4 ∧ Ac 27 (5 * k + 4) = nSz (gmt (A 54)) (bQ (gmt (A 54)) (A 58 k)) ∧ 0 ≤ Ac 28 k ∧ (Ac 28 k).toInt + (nSz (gmt (A 54)) (bQ (gmt (A 54)) (A 58 k))).toInt ≤ (Ic 2901).toInt ∧ ∀ j : Nat, (j : Int) < (nSz (gmt (A 54)) (bQ (gmt (A 54)) (A 58 k))).toInt → gat (Ic 2901) (Ac 30) (Ac 28 k + Int32.ofNat j) = gmt (A 54) (bQ (gmt (A 54)) (A 58 k) + 14 + Int32.ofNat j)
def R1 (Ic : mI) (Ac : mA) (I : mI) (A : mA) : Prop := Ic 2201 = I 3445 ∧ I 3445 ≤ 70000 ∧ (∀ p : Int32, 0 ≤ p → p < I 3445 → gat (Ic 2201) (Ac 23) p = gmt (A 54) p) ∧ Ac 2 = A 41
def R2 (Ic : mI) (I : mI) : Prop := Ic 3107 = I 3444 ∧ 0 ≤ I 3444 ∧ I 3444 ≤ I 3445 ∧ Ic 3106 = I 3443 ∧ 0 ≤ I 3443 ∧ I 3443 ≤ 4 ∧ Ic 3111 = I 3446 ∧ (I 3443 = 0 → I 3444 = 0)
def RM (Ic : mI) (Ac : mA) (I : mI) (A : mA) : Prop := Ic 2405 = I 3432 ∧ 0 ≤ I 3432 ∧ I 3432 ≤ 2000 ∧ ∀ i : Nat, (i : Int) < 6 * (I 3432).toInt → Ac 25 i = A 55 i
def RP (Ic : mI) (Ac : mA) (I : mI) (A : mA) : Prop := Ic 2406 = I 3434 ∧ 0 ≤ I 3434 ∧ I 3434 ≤ 1300 ∧ ∀ i : Nat, (i : Int) < 10 * (I 3434).toInt → Ac 26 i = A 56 i
def RT (Ic : mI) (Ac : mA) (I : mI) (A : mA) : Prop := Ic 2407 = I 3436 ∧ 0 ≤ I 3436 ∧ I 3436 ≤ 256 ∧ (∀ k : Nat, (k : Int) < (I 3436).toInt → rF1 Ic Ac A (I 3445) k) ∧ (∀ j k : Nat, (j : Int) < (I 3436).toInt → (k : Int) < (I 3436).toInt → A 57 j = A 57 k → j = k)
def RN (Ic : mI) (Ac : mA) (m : Int) : Prop := ∃ N, isB (Ic 2901) (Ac 30) N ∧ (N.length : Int) ≤ m
def RG (Ic : mI) (I : mI) (A : mA) : Prop := Ic 2409 = I 3440 ∧ Ic 2410 = I 3441 ∧ Ic 2411 = I 3442 ∧ (3 ≤ I 3443 → Ic 3112 = I 3447 ∧ Ic 2408 = I 3439) ∧ (1 ≤ I 3443 → I 3443 ≤ 2 → Ic 2408 = nrd (gmt (A 54)) 10 4) ∧ (I 3443 < 4 → Ic 3113 = 0)
def RI (Ic : mI) (Ac : mA) (I : mI) (A : mA) : Prop := I 3443 = 2 → Ic 3105 = I 3450 ∧ 0 ≤ I 3450 ∧ I 3450 ≤ 100 ∧ (∀ i : Nat, (i : Int) < 6 * (I 3450).toInt → Ac 33 i = A 59 i) ∧ (∀ i : Nat, i < 6 → Ac 32 i = A 60 i) ∧ ((Ic 3110 = -1 ∧ I 3449 = 0) ∨ (¬ I 3449 = 0 ∧ 0 ≤ Ic 3110 ∧ Ic 3110 < I 3436 ∧ A 57 (Ic 3110).toNatClampNeg = I 3448))
def RR (Ic : mI) (Ac : mA) (I : mI) (A : mA) (m : Int) : Prop := R1 Ic Ac I A ∧ R2 Ic I ∧ RM Ic Ac I A ∧ RP Ic Ac I A ∧ RT Ic Ac I A ∧ RN Ic Ac m ∧ RG Ic I A ∧ RI Ic Ac I A
theorem nrd_cg {g h : Int32 → Int32} {p : Int32} : ∀ k : Nat, (∀ j : Nat, j < k → g (p + Int32.ofNat j) = h (p + Int32.ofNat j)) → nrd g p k = nrd h p k := by
  intro k
  induction k with
  | zero => intro _; rfl
  | succ k ih =>
    intro hj
    show (nrd g p k <<< (8 &&& 31)) ||| g (p + Int32.ofNat k) = (nrd h p k <<< (8 &&& 31)) ||| h (p + Int32.ofNat k)
    rw [ih (fun j q => hj j (by omega)), hj k (by omega)]
theorem nrR {Ic : mI} {Ac : mA} {I : mI} {A : mA} (h : R1 Ic Ac I A) {p : Int32} {k : Nat} (h0 : 0 ≤ p) (hk : k ≤ 510) (h1 : p.toInt + k ≤ (I 3445).toInt) : nrd (gat (Ic 2201) (Ac 23)) p k = nrd (gmt (A 54)) p k := by
  have g0 := i_le.mp h0
  rw [z0] at g0
  have g7 := i_le.mp h.2.1
  rw [z7] at g7
  refine nrd_cg k (fun j hj => h.2.2.1 _ ?_ ?_)
  · exact i_le.mpr (by rw [z0, i_add (by rw [i_of (by omega)]; omega) (by rw [i_of (by omega)]; omega), i_of (by omega)]; omega)
  · exact i_lt.mpr (by rw [i_add (by rw [i_of (by omega)]; omega) (by rw [i_of (by omega)]; omega), i_of (by omega)]; omega)
theorem gR {Ic : mI} {Ac : mA} {I : mI} {A : mA} (h : R1 Ic Ac I A) {p : Int32} (h0 : 0 ≤ p) (h1 : p < I 3445) : gat (Ic 2201) (Ac 23) p = gmt (A 54) p := h.2.2.1 p h0 h1
theorem upd6 {f g : Nat → Int32} {m n : Int32} {x0 x1 x2 x3 x4 x5 : Int32} (hm : m = n) (h0 : 0 ≤ n) (h1 : n < 2000) (h : ∀ i : Nat, (i : Int) < 6 * n.toInt → f i = g i) : ∀ i : Nat, (i : Int) < 6 * (n + 1).toInt → (upd (upd (upd (upd (upd (upd f (m * 6).toNatClampNeg x0) (m * 6 + 1).toNatClampNeg x1) (m * 6 + 2).toNatClampNeg x2) (m * 6 + 3).toNatClampNeg x3) (m * 6 + 4).toNatClampNeg x4) (m * 6 + 5).toNatClampNeg x5) i = (upd (upd (upd (upd (upd (upd g (6 * n).toNatClampNeg x0) (6 * n + 1).toNatClampNeg x1) (6 * n + 2).toNatClampNeg x2) (6 * n + 3).toNatClampNeg x3) (6 * n + 4).toNatClampNeg x4) (6 * n + 5).toNatClampNeg x5) i := by
  subst hm
  intro i hi
  have e : m * 6 = 6 * m := Int32.mul_comm m 6
  rw [e]
  have g0 := i_le.mp h0
  have g1 := i_lt.mp h1
  rw [z0] at g0
  rw [show (2000 : Int32).toInt = 2000 from rfl] at g1
  have e6 : (6 : Int32).toInt = 6 := rfl
  have em : (6 * m).toInt = 6 * m.toInt := by rw [i_mul (by rw [e6]; omega) (by rw [e6]; omega), e6]
  have ea : ∀ c : Int32, 0 ≤ c.toInt → c.toInt ≤ 5 → (6 * m + c).toNatClampNeg = 6 * m.toInt.toNat + c.toInt.toNat := by
    intro c c0 c1
    rw [i_cl, i_add (by rw [em]; omega) (by rw [em]; omega), em]
    omega
  have en : (m + 1).toInt = m.toInt + 1 := by rw [i_add (by rw [z1]; omega) (by rw [z1]; omega), z1]
  rw [en] at hi
  have k0 : (6 * m).toNatClampNeg = 6 * m.toInt.toNat := by rw [i_cl, em]; omega
  rw [k0, ea 1 (by decide) (by decide), ea 2 (by decide) (by decide), ea 3 (by decide) (by decide), ea 4 (by decide) (by decide), ea 5 (by decide) (by decide)]
  have hi2 : ¬ (i : Int) < 6 * m.toInt → i = 6 * m.toInt.toNat ∨ i = 6 * m.toInt.toNat + 1 ∨ i = 6 * m.toInt.toNat + 2 ∨ i = 6 * m.toInt.toNat + 3 ∨ i = 6 * m.toInt.toNat + 4 ∨ i = 6 * m.toInt.toNat + 5 := by omega
  unfold upd
  by_cases hl : (i : Int) < 6 * m.toInt
  · rw [h i hl]
  · repeat' split
    all_goals first | rfl | (exfalso; have := hi2 hl; simp only [show (1 : Int32).toInt.toNat = 1 from rfl, show (2 : Int32).toInt.toNat = 2 from rfl, show (3 : Int32).toInt.toNat = 3 from rfl, show (4 : Int32).toInt.toNat = 4 from rfl, show (5 : Int32).toInt.toNat = 5 from rfl] at *; omega)
