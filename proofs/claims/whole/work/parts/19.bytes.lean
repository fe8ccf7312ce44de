def b2 (p : Prop) [Decidable p] : Int32 := if p then 1 else 0
theorem b2_0 {p : Prop} [Decidable p] : b2 p = 0 ↔ ¬ p := by
  unfold b2
  by_cases h : p
  · rw [if_pos h]; exact ⟨fun q => absurd q (by decide), fun q => absurd h q⟩
  · rw [if_neg h]; exact ⟨fun _ => h, fun _ => rfl⟩
theorem b2_n {p : Prop} [Decidable p] : ¬ b2 p = 0 ↔ p := by
  rw [b2_0]; exact Decidable.not_not
theorem b2_t {p : Prop} [Decidable p] (h : p) : (1 : Int32) = b2 p := (if_pos h).symm
theorem b2_f {p : Prop} [Decidable p] (h : ¬ p) : (0 : Int32) = b2 p := (if_neg h).symm
def byt (x : Int32) : Int32 := x.toInt8.toInt32
def isB (u : Int32) (f : Nat → Int32) (B : List Int32) : Prop := u.toInt = B.length ∧ B.length ≤ 70000 ∧ ∀ (i : Nat) (b : Int32), B[i]? = some b → f i &&& 255 = b ∧ -128 ≤ f i ∧ f i ≤ 127
def gat (u : Int32) (f : Nat → Int32) (i : Int32) : Int32 := if 0 ≤ i ∧ i < u ∧ i < 70000 then f i.toNatClampNeg &&& 255 else 0
def gB (B : List Int32) (i : Int32) : Int32 := if i < 0 then 0 else B.getD i.toNatClampNeg 0
theorem z0 : (0 : Int32).toInt = 0 := rfl
theorem z7 : (70000 : Int32).toInt = 70000 := rfl
theorem gat_B {u : Int32} {f : Nat → Int32} {B : List Int32} (h : isB u f B) (i : Int32) : gat u f i = gB B i := by
  obtain ⟨h1, h2, h3⟩ := h
  unfold gat gB
  simp only [i_le, i_lt, z0, z7, i_cl]
  by_cases hi : i.toInt < 0
  · rw [if_neg (by omega), if_pos hi]
  · rw [if_neg hi]
    by_cases hu : i.toInt < u.toInt
    · rw [if_pos (by omega)]
      have hl : i.toInt.toNat < B.length := by omega
      rw [List.getD_eq_getElem?_getD, List.getElem?_eq_getElem hl]
      exact (h3 _ _ (List.getElem?_eq_getElem hl)).1
    · rw [if_neg (by omega), List.getD_eq_getElem?_getD, List.getElem?_eq_none (by omega)]
      rfl
theorem m255_hi : ∀ j : Fin 32, 8 ≤ j.val → (255#32).getLsbD j.val = false := by decide
theorem byt_m (x : Int32) : byt x &&& 255 = x &&& 255 := by
  apply Int32.toBitVec_inj.mp
  unfold byt
  ext i hi
  simp
  by_cases h8 : i < 8
  · simp [BitVec.getElem_signExtend, h8, hi]
  · have k2 : (255#32)[i] = false := by
      rw [← BitVec.getLsbD_eq_getElem hi]
      exact m255_hi ⟨i, hi⟩ (by show 8 ≤ i; omega)
    rw [k2, Bool.and_false, Bool.and_false]
theorem byt_r (x : Int32) : -128 ≤ byt x ∧ byt x ≤ 127 := by
  unfold byt
  have h1 := Int8.le_toInt x.toInt8
  have h2 := Int8.toInt_lt x.toInt8
  constructor
  · rw [i_le, Int8.toInt_toInt32]; exact h1
  · rw [i_le, Int8.toInt_toInt32]
    have : (127 : Int32).toInt = 127 := rfl
    omega
theorem nar_b (x : Int32) : vp_nar .byte (byt x) = byt x := by
  unfold byt
  show ((x.toInt8.toInt32).toInt8).toInt32 = x.toInt8.toInt32
  simp
def adB (u : Int32) (f : Nat → Int32) (x : Int32) : Int32 × (Nat → Int32) := if 0 ≤ u ∧ u < 70000 then (u + 1, upd f u.toNatClampNeg (byt x)) else (u, f)
theorem adB_B {u : Int32} {f : Nat → Int32} {B : List Int32} (h : isB u f B) (x : Int32) : isB (adB u f x).1 (adB u f x).2 ((B ++ [x &&& 255]).take 70000) := by
  obtain ⟨h1, h2, h3⟩ := h
  unfold adB
  by_cases hu : B.length < 70000
  · rw [if_pos (by rw [i_le, i_lt, z0, z7]; omega)]
    have e1 : (B ++ [x &&& 255]).take 70000 = B ++ [x &&& 255] := List.take_of_length_le (by simp; omega)
    rw [e1]
    refine ⟨?_, by simp; omega, fun i b hb => ?_⟩
    · show (u + 1).toInt = _
      have e2 : (1 : Int32).toInt = 1 := rfl
      rw [i_add (by omega) (by omega), e2, h1]
      simp
    · show upd f u.toNatClampNeg (byt x) i &&& 255 = b ∧ _
      by_cases hi : i = B.length
      · have e3 : u.toNatClampNeg = i := by rw [i_cl, h1, hi]; omega
        rw [e3]
        simp only [upd_s]
        rw [hi] at hb
        simp at hb
        refine ⟨by rw [byt_m, hb], byt_r x⟩
      · have hlt : i < B.length := by
          have := (List.getElem?_eq_some_iff.mp hb).1
          simp at this
          omega
        have e3 : i ≠ u.toNatClampNeg := by rw [i_cl, h1]; omega
        simp only [upd_n e3]
        rw [List.getElem?_append_left hlt] at hb
        exact h3 i b hb
  · rw [if_neg (by rw [i_le, i_lt, z0, z7]; omega)]
    have e1 : (B ++ [x &&& 255]).take 70000 = B := by
      rw [List.take_append_of_le_length (by omega), List.take_of_length_le (by omega)]
    rw [e1]
    exact ⟨h1, h2, h3⟩
