theorem nbF_e (c : Int32) : nbF c = if 128 ≤ c ∧ c < 132 then c - 128 + 1 else if 133 ≤ c ∧ c < 137 then c - 133 + 1 else if 143 ≤ c ∧ c < 147 then c - 143 + 1 else if 148 ≤ c ∧ c < 152 then c - 148 + 1 else if 153 ≤ c ∧ c < 157 then c - 153 + 1 else if 157 ≤ c ∧ c < 161 then c - 157 + 1 else if 162 ≤ c ∧ c < 166 then c - 162 + 1 else if 167 ≤ c ∧ c < 171 then c - 167 + 1 else if 235 ≤ c ∧ c < 239 then c - 235 + 1 else if 239 ≤ c ∧ c < 243 then c - 239 + 1 else if 243 ≤ c ∧ c < 247 then c - 243 + 1 else 0 := rfl
theorem nbF_A {c : Int32} (h1 : 128 ≤ c) (h2 : c < 132) : nbF c = c - 128 + 1 := by rw [nbF_e]; grind (splits := 40)
theorem nbF_B {c : Int32} (h1 : 132 < c) (h2 : c < 137) : nbF c = c - 133 + 1 := by rw [nbF_e]; grind (splits := 40)
theorem nbF_M {c : Int32} (h1 : 142 < c) (h2 : c < 171) : nbF c = mbF c := by rw [nbF_e]; unfold mbF; grind (splits := 40)
theorem nbF_F {c : Int32} (h1 : 234 < c) (h2 : c < 239) : nbF c = c - 235 + 1 := by rw [nbF_e]; grind (splits := 40)
theorem nbF_X {c : Int32} (h1 : 238 < c) (h2 : c < 243) : nbF c = c - 239 + 1 := by rw [nbF_e]; grind (splits := 40)
theorem nbF_T {c : Int32} (h1 : 242 < c) (h2 : c < 247) : nbF c = c - 243 + 1 := by rw [nbF_e]; grind (splits := 40)
theorem nbF_0 {c : Int32} (h : c < 128 ∨ c = 132 ∨ (136 < c ∧ c < 143) ∨ (170 < c ∧ c < 235) ∨ 246 < c) : nbF c = 0 := by rw [nbF_e]; grind (splits := 40)
theorem nbF_r {c : Int32} : 0 ≤ nbF c ∧ nbF c ≤ 4 := by rw [nbF_e]; grind (splits := 40)

def qMo_setCharacter (I : mI) (A : mA) (L : mL) (c : Int32) (mv : Int32) : xO → Prop := fun o => ((I 3449 = 0) ∧ o = (.inl (some (.int 7)), pic I A L)) ∨ (((¬ I 3449 = 0 ∧ ((0 ≤ I 3448 ∧ I 3448 ≤ 255) ∧ 0 ≤ c ∧ c ≤ 255)) ∧ ¬ mv = 0 ∧ ¬ fitL (smG (A 60 0) (A 41 (256 * I 3448 + c).toNatClampNeg))) ∧ o = (.inl (some (.int 8)), pic I A L)) ∨ (((¬ I 3449 = 0 ∧ ((0 ≤ I 3448 ∧ I 3448 ≤ 255) ∧ 0 ≤ c ∧ c ≤ 255)) ∧ (¬ mv = 0 ∧ fitL (smG (A 60 0) (A 41 (256 * I 3448 + c).toNatClampNeg))) ∧ I 3432 = 2000) ∧ o = (.inl (some (.int 9)), pic I A L)) ∨ (((¬ I 3449 = 0 ∧ ((0 ≤ I 3448 ∧ I 3448 ≤ 255) ∧ 0 ≤ c ∧ c ≤ 255)) ∧ (¬ mv = 0 ∧ fitL (smG (A 60 0) (A 41 (256 * I 3448 + c).toNatClampNeg))) ∧ ¬ I 3432 = 2000) ∧ o = (.inl (some (.int 0)), pic (upd I 3432 (I 3432 + 1)) (upA (upA (upA (upA (upA (upA (upA A 55 (6 * I 3432).toNatClampNeg (I 3434 - 1)) 55 (6 * I 3432 + 1).toNatClampNeg (I 3448)) 55 (6 * I 3432 + 2).toNatClampNeg (c)) 55 (6 * I 3432 + 3).toNatClampNeg (A 60 0)) 55 (6 * I 3432 + 4).toNatClampNeg (A 60 1)) 55 (6 * I 3432 + 5).toNatClampNeg (0)) 60 0 (smG (A 60 0) (A 41 (256 * I 3448 + c).toNatClampNeg)).toInt32) L)) ∨ (((¬ I 3449 = 0 ∧ ((0 ≤ I 3448 ∧ I 3448 ≤ 255) ∧ 0 ≤ c ∧ c ≤ 255)) ∧ (mv = 0) ∧ I 3432 = 2000) ∧ o = (.inl (some (.int 9)), pic I A L)) ∨ (((¬ I 3449 = 0 ∧ ((0 ≤ I 3448 ∧ I 3448 ≤ 255) ∧ 0 ≤ c ∧ c ≤ 255)) ∧ (mv = 0) ∧ ¬ I 3432 = 2000) ∧ o = (.inl (some (.int 0)), pic (upd I 3432 (I 3432 + 1)) (upA (upA (upA (upA (upA (upA A 55 (6 * I 3432).toNatClampNeg (I 3434 - 1)) 55 (6 * I 3432 + 1).toNatClampNeg (I 3448)) 55 (6 * I 3432 + 2).toNatClampNeg (c)) 55 (6 * I 3432 + 3).toNatClampNeg (A 60 0)) 55 (6 * I 3432 + 4).toNatClampNeg (A 60 1)) 55 (6 * I 3432 + 5).toNatClampNeg (0)) L)) ∨ (((¬ I 3449 = 0 ∧ ¬ ((0 ≤ I 3448 ∧ I 3448 ≤ 255) ∧ 0 ≤ c ∧ c ≤ 255)) ∧ ¬ mv = 0 ∧ ¬ fitL (smG (A 60 0) (0))) ∧ o = (.inl (some (.int 8)), pic I A L)) ∨ (((¬ I 3449 = 0 ∧ ¬ ((0 ≤ I 3448 ∧ I 3448 ≤ 255) ∧ 0 ≤ c ∧ c ≤ 255)) ∧ (¬ mv = 0 ∧ fitL (smG (A 60 0) (0))) ∧ I 3432 = 2000) ∧ o = (.inl (some (.int 9)), pic I A L)) ∨ (((¬ I 3449 = 0 ∧ ¬ ((0 ≤ I 3448 ∧ I 3448 ≤ 255) ∧ 0 ≤ c ∧ c ≤ 255)) ∧ (¬ mv = 0 ∧ fitL (smG (A 60 0) (0))) ∧ ¬ I 3432 = 2000) ∧ o = (.inl (some (.int 0)), pic (upd I 3432 (I 3432 + 1)) (upA (upA (upA (upA (upA (upA (upA A 55 (6 * I 3432).toNatClampNeg (I 3434 - 1)) 55 (6 * I 3432 + 1).toNatClampNeg (I 3448)) 55 (6 * I 3432 + 2).toNatClampNeg (c)) 55 (6 * I 3432 + 3).toNatClampNeg (A 60 0)) 55 (6 * I 3432 + 4).toNatClampNeg (A 60 1)) 55 (6 * I 3432 + 5).toNatClampNeg (0)) 60 0 (smG (A 60 0) (0)).toInt32) L)) ∨ (((¬ I 3449 = 0 ∧ ¬ ((0 ≤ I 3448 ∧ I 3448 ≤ 255) ∧ 0 ≤ c ∧ c ≤ 255)) ∧ (mv = 0) ∧ I 3432 = 2000) ∧ o = (.inl (some (.int 9)), pic I A L)) ∨ (((¬ I 3449 = 0 ∧ ¬ ((0 ≤ I 3448 ∧ I 3448 ≤ 255) ∧ 0 ≤ c ∧ c ≤ 255)) ∧ (mv = 0) ∧ ¬ I 3432 = 2000) ∧ o = (.inl (some (.int 0)), pic (upd I 3432 (I 3432 + 1)) (upA (upA (upA (upA (upA (upA A 55 (6 * I 3432).toNatClampNeg (I 3434 - 1)) 55 (6 * I 3432 + 1).toNatClampNeg (I 3448)) 55 (6 * I 3432 + 2).toNatClampNeg (c)) 55 (6 * I 3432 + 3).toNatClampNeg (A 60 0)) 55 (6 * I 3432 + 4).toNatClampNeg (A 60 1)) 55 (6 * I 3432 + 5).toNatClampNeg (0)) L))
theorem sh_qMo_setCharacter {I : mI} {A : mA} {L : mL} {c : Int32} {mv : Int32} {o : xO} (h : qMo_setCharacter I A L c mv o) : ∃ (x : Int32) (I' : mI) (A' : mA), o = (.inl (some (.int x)), pic I' A' L) := by
  rcases h with ⟨_, rfl⟩ | ⟨_, rfl⟩ | ⟨_, rfl⟩ | ⟨_, rfl⟩ | ⟨_, rfl⟩ | ⟨_, rfl⟩ | ⟨_, rfl⟩ | ⟨_, rfl⟩ | ⟨_, rfl⟩ | ⟨_, rfl⟩ | ⟨_, rfl⟩
  · exact ⟨_, _, _, rfl⟩
  · exact ⟨_, _, _, rfl⟩
  · exact ⟨_, _, _, rfl⟩
  · exact ⟨_, _, _, rfl⟩
  · exact ⟨_, _, _, rfl⟩
  · exact ⟨_, _, _, rfl⟩
  · exact ⟨_, _, _, rfl⟩
  · exact ⟨_, _, _, rfl⟩
  · exact ⟨_, _, _, rfl⟩
  · exact ⟨_, _, _, rfl⟩
  · exact ⟨_, _, _, rfl⟩
def qMo_setRule (I : mI) (A : mA) (L : mL) (mv : Int32) : xO → Prop := fun o => ((¬ mv = 0 ∧ ¬ fitL (smG (A 60 0) (nrd (gmt (A 54)) (I 3444 + 5) 4))) ∧ o = (.inl (some (.int 8)), pic I A L)) ∨ (((¬ mv = 0 ∧ fitL (smG (A 60 0) (nrd (gmt (A 54)) (I 3444 + 5) 4))) ∧ (0 < nrd (gmt (A 54)) (I 3444 + 1) 4 ∧ 0 < nrd (gmt (A 54)) (I 3444 + 5) 4) ∧ I 3432 = 2000) ∧ o = (.inl (some (.int 9)), pic I A L)) ∨ (((¬ mv = 0 ∧ fitL (smG (A 60 0) (nrd (gmt (A 54)) (I 3444 + 5) 4))) ∧ (0 < nrd (gmt (A 54)) (I 3444 + 1) 4 ∧ 0 < nrd (gmt (A 54)) (I 3444 + 5) 4) ∧ ¬ I 3432 = 2000) ∧ o = (.inl (some (.int 0)), pic (upd I 3432 (I 3432 + 1)) (upA (upA (upA (upA (upA (upA (upA A 55 (6 * I 3432).toNatClampNeg (I 3434 - 1)) 55 (6 * I 3432 + 1).toNatClampNeg (-1)) 55 (6 * I 3432 + 2).toNatClampNeg (nrd (gmt (A 54)) (I 3444 + 5) 4)) 55 (6 * I 3432 + 3).toNatClampNeg (A 60 0)) 55 (6 * I 3432 + 4).toNatClampNeg (A 60 1)) 55 (6 * I 3432 + 5).toNatClampNeg (nrd (gmt (A 54)) (I 3444 + 1) 4)) 60 0 (smG (A 60 0) (nrd (gmt (A 54)) (I 3444 + 5) 4)).toInt32) L)) ∨ (((¬ mv = 0 ∧ fitL (smG (A 60 0) (nrd (gmt (A 54)) (I 3444 + 5) 4))) ∧ ¬ (0 < nrd (gmt (A 54)) (I 3444 + 1) 4 ∧ 0 < nrd (gmt (A 54)) (I 3444 + 5) 4)) ∧ o = (.inl (some (.int 0)), pic I (upA A 60 0 (smG (A 60 0) (nrd (gmt (A 54)) (I 3444 + 5) 4)).toInt32) L)) ∨ (((mv = 0) ∧ (0 < nrd (gmt (A 54)) (I 3444 + 1) 4 ∧ 0 < nrd (gmt (A 54)) (I 3444 + 5) 4) ∧ I 3432 = 2000) ∧ o = (.inl (some (.int 9)), pic I A L)) ∨ (((mv = 0) ∧ (0 < nrd (gmt (A 54)) (I 3444 + 1) 4 ∧ 0 < nrd (gmt (A 54)) (I 3444 + 5) 4) ∧ ¬ I 3432 = 2000) ∧ o = (.inl (some (.int 0)), pic (upd I 3432 (I 3432 + 1)) (upA (upA (upA (upA (upA (upA A 55 (6 * I 3432).toNatClampNeg (I 3434 - 1)) 55 (6 * I 3432 + 1).toNatClampNeg (-1)) 55 (6 * I 3432 + 2).toNatClampNeg (nrd (gmt (A 54)) (I 3444 + 5) 4)) 55 (6 * I 3432 + 3).toNatClampNeg (A 60 0)) 55 (6 * I 3432 + 4).toNatClampNeg (A 60 1)) 55 (6 * I 3432 + 5).toNatClampNeg (nrd (gmt (A 54)) (I 3444 + 1) 4)) L)) ∨ (((mv = 0) ∧ ¬ (0 < nrd (gmt (A 54)) (I 3444 + 1) 4 ∧ 0 < nrd (gmt (A 54)) (I 3444 + 5) 4)) ∧ o = (.inl (some (.int 0)), pic I A L))
theorem sh_qMo_setRule {I : mI} {A : mA} {L : mL} {mv : Int32} {o : xO} (h : qMo_setRule I A L mv o) : ∃ (x : Int32) (I' : mI) (A' : mA), o = (.inl (some (.int x)), pic I' A' L) := by
  rcases h with ⟨_, rfl⟩ | ⟨_, rfl⟩ | ⟨_, rfl⟩ | ⟨_, rfl⟩ | ⟨_, rfl⟩ | ⟨_, rfl⟩ | ⟨_, rfl⟩
  · exact ⟨_, _, _, rfl⟩
  · exact ⟨_, _, _, rfl⟩
  · exact ⟨_, _, _, rfl⟩
  · exact ⟨_, _, _, rfl⟩
  · exact ⟨_, _, _, rfl⟩
  · exact ⟨_, _, _, rfl⟩
  · exact ⟨_, _, _, rfl⟩
def qMo_push (I : mI) (A : mA) (L : mL)  : xO → Prop := fun o => ((I 3450 = 100) ∧ o = (.inl (some (.int 4)), pic I A L)) ∨ ((¬ I 3450 = 100 ∧ I 3442 < I 3450 + 1) ∧ o = (.inl (some (.int 0)), pic (upd (upd I 3450 (I 3450 + 1)) 3442 (I 3450 + 1)) (upA (upA (upA (upA (upA (upA A 59 (6 * I 3450 + 0).toNatClampNeg (A 60 0)) 59 (6 * I 3450 + 1).toNatClampNeg (A 60 1)) 59 (6 * I 3450 + 2).toNatClampNeg (A 60 2)) 59 (6 * I 3450 + 3).toNatClampNeg (A 60 3)) 59 (6 * I 3450 + 4).toNatClampNeg (A 60 4)) 59 (6 * I 3450 + 5).toNatClampNeg (A 60 5)) L)) ∨ ((¬ I 3450 = 100 ∧ ¬ I 3442 < I 3450 + 1) ∧ o = (.inl (some (.int 0)), pic (upd (upd I 3450 (I 3450 + 1)) 3442 (I 3442)) (upA (upA (upA (upA (upA (upA A 59 (6 * I 3450 + 0).toNatClampNeg (A 60 0)) 59 (6 * I 3450 + 1).toNatClampNeg (A 60 1)) 59 (6 * I 3450 + 2).toNatClampNeg (A 60 2)) 59 (6 * I 3450 + 3).toNatClampNeg (A 60 3)) 59 (6 * I 3450 + 4).toNatClampNeg (A 60 4)) 59 (6 * I 3450 + 5).toNatClampNeg (A 60 5)) L))
theorem sh_qMo_push {I : mI} {A : mA} {L : mL}  {o : xO} (h : qMo_push I A L  o) : ∃ (x : Int32) (I' : mI) (A' : mA), o = (.inl (some (.int x)), pic I' A' L) := by
  rcases h with ⟨_, rfl⟩ | ⟨_, rfl⟩ | ⟨_, rfl⟩
  · exact ⟨_, _, _, rfl⟩
  · exact ⟨_, _, _, rfl⟩
  · exact ⟨_, _, _, rfl⟩
def qMo_pop (I : mI) (A : mA) (L : mL)  : xO → Prop := fun o => ((I 3450 = 0) ∧ o = (.inl (some (.int 4)), pic I A L)) ∨ ((¬ I 3450 = 0) ∧ o = (.inl (some (.int 0)), pic (upd I 3450 (I 3450 - 1)) (upAf A 60 (ppM (A 59) (I 3450 - 1) 6 0 (A 60))) L))
theorem sh_qMo_pop {I : mI} {A : mA} {L : mL}  {o : xO} (h : qMo_pop I A L  o) : ∃ (x : Int32) (I' : mI) (A' : mA), o = (.inl (some (.int x)), pic I' A' L) := by
  rcases h with ⟨_, rfl⟩ | ⟨_, rfl⟩
  · exact ⟨_, _, _, rfl⟩
  · exact ⟨_, _, _, rfl⟩
def qMo_moveBy (I : mI) (A : mA) (L : mL) (c : Int32) (k : Nat) : xO → Prop := fun o => ((((c < 147) ∧ 0 < mbF c) ∧ fitL (smG (A 60 0) (if (¬ (1 : Int32) = 0 ∧ mbF c < 4 ∧ 127 < gmt (A 54) (I 3444 + 1)) then nrd (gmt (A 54)) (I 3444 + 1) k - (1 <<< ((8 * mbF c) &&& 31)) else nrd (gmt (A 54)) (I 3444 + 1) k))) ∧ o = (.inl (some (.int 0)), pic I (upA A 60 0 (smG (A 60 0) (if (¬ (1 : Int32) = 0 ∧ mbF c < 4 ∧ 127 < gmt (A 54) (I 3444 + 1)) then nrd (gmt (A 54)) (I 3444 + 1) k - (1 <<< ((8 * mbF c) &&& 31)) else nrd (gmt (A 54)) (I 3444 + 1) k)).toInt32) L)) ∨ ((((c < 147) ∧ 0 < mbF c) ∧ ¬ fitL (smG (A 60 0) (if (¬ (1 : Int32) = 0 ∧ mbF c < 4 ∧ 127 < gmt (A 54) (I 3444 + 1)) then nrd (gmt (A 54)) (I 3444 + 1) k - (1 <<< ((8 * mbF c) &&& 31)) else nrd (gmt (A 54)) (I 3444 + 1) k))) ∧ o = (.inl (some (.int 8)), pic I A L)) ∨ ((((c < 147) ∧ ¬ 0 < mbF c) ∧ fitL (smG (A 60 0) (A 60 0))) ∧ o = (.inl (some (.int 0)), pic I (upA A 60 0 (smG (A 60 0) (A 60 0)).toInt32) L)) ∨ ((((c < 147) ∧ ¬ 0 < mbF c) ∧ ¬ fitL (smG (A 60 0) (A 60 0))) ∧ o = (.inl (some (.int 8)), pic I A L)) ∨ ((((¬ c < 147 ∧ c < 152) ∧ 0 < mbF c) ∧ fitL (smG (A 60 0) (if (¬ (1 : Int32) = 0 ∧ mbF c < 4 ∧ 127 < gmt (A 54) (I 3444 + 1)) then nrd (gmt (A 54)) (I 3444 + 1) k - (1 <<< ((8 * mbF c) &&& 31)) else nrd (gmt (A 54)) (I 3444 + 1) k))) ∧ o = (.inl (some (.int 0)), pic I (upA (upA A 60 0 (smG (A 60 0) (if (¬ (1 : Int32) = 0 ∧ mbF c < 4 ∧ 127 < gmt (A 54) (I 3444 + 1)) then nrd (gmt (A 54)) (I 3444 + 1) k - (1 <<< ((8 * mbF c) &&& 31)) else nrd (gmt (A 54)) (I 3444 + 1) k)).toInt32) 60 2 (if (¬ (1 : Int32) = 0 ∧ mbF c < 4 ∧ 127 < gmt (A 54) (I 3444 + 1)) then nrd (gmt (A 54)) (I 3444 + 1) k - (1 <<< ((8 * mbF c) &&& 31)) else nrd (gmt (A 54)) (I 3444 + 1) k)) L)) ∨ ((((¬ c < 147 ∧ c < 152) ∧ 0 < mbF c) ∧ ¬ fitL (smG (A 60 0) (if (¬ (1 : Int32) = 0 ∧ mbF c < 4 ∧ 127 < gmt (A 54) (I 3444 + 1)) then nrd (gmt (A 54)) (I 3444 + 1) k - (1 <<< ((8 * mbF c) &&& 31)) else nrd (gmt (A 54)) (I 3444 + 1) k))) ∧ o = (.inl (some (.int 8)), pic I A L)) ∨ ((((¬ c < 147 ∧ c < 152) ∧ ¬ 0 < mbF c) ∧ fitL (smG (A 60 0) (A 60 2))) ∧ o = (.inl (some (.int 0)), pic I (upA (upA A 60 0 (smG (A 60 0) (A 60 2)).toInt32) 60 2 (A 60 2)) L)) ∨ ((((¬ c < 147 ∧ c < 152) ∧ ¬ 0 < mbF c) ∧ ¬ fitL (smG (A 60 0) (A 60 2))) ∧ o = (.inl (some (.int 8)), pic I A L)) ∨ ((((¬ c < 152 ∧ c < 157) ∧ 0 < mbF c) ∧ fitL (smG (A 60 0) (if (¬ (1 : Int32) = 0 ∧ mbF c < 4 ∧ 127 < gmt (A 54) (I 3444 + 1)) then nrd (gmt (A 54)) (I 3444 + 1) k - (1 <<< ((8 * mbF c) &&& 31)) else nrd (gmt (A 54)) (I 3444 + 1) k))) ∧ o = (.inl (some (.int 0)), pic I (upA (upA A 60 0 (smG (A 60 0) (if (¬ (1 : Int32) = 0 ∧ mbF c < 4 ∧ 127 < gmt (A 54) (I 3444 + 1)) then nrd (gmt (A 54)) (I 3444 + 1) k - (1 <<< ((8 * mbF c) &&& 31)) else nrd (gmt (A 54)) (I 3444 + 1) k)).toInt32) 60 3 (if (¬ (1 : Int32) = 0 ∧ mbF c < 4 ∧ 127 < gmt (A 54) (I 3444 + 1)) then nrd (gmt (A 54)) (I 3444 + 1) k - (1 <<< ((8 * mbF c) &&& 31)) else nrd (gmt (A 54)) (I 3444 + 1) k)) L)) ∨ ((((¬ c < 152 ∧ c < 157) ∧ 0 < mbF c) ∧ ¬ fitL (smG (A 60 0) (if (¬ (1 : Int32) = 0 ∧ mbF c < 4 ∧ 127 < gmt (A 54) (I 3444 + 1)) then nrd (gmt (A 54)) (I 3444 + 1) k - (1 <<< ((8 * mbF c) &&& 31)) else nrd (gmt (A 54)) (I 3444 + 1) k))) ∧ o = (.inl (some (.int 8)), pic I A L)) ∨ ((((¬ c < 152 ∧ c < 157) ∧ ¬ 0 < mbF c) ∧ fitL (smG (A 60 0) (A 60 3))) ∧ o = (.inl (some (.int 0)), pic I (upA (upA A 60 0 (smG (A 60 0) (A 60 3)).toInt32) 60 3 (A 60 3)) L)) ∨ ((((¬ c < 152 ∧ c < 157) ∧ ¬ 0 < mbF c) ∧ ¬ fitL (smG (A 60 0) (A 60 3))) ∧ o = (.inl (some (.int 8)), pic I A L)) ∨ ((((¬ c < 157 ∧ c < 161) ∧ 0 < mbF c) ∧ fitL (smG (A 60 1) (if (¬ (1 : Int32) = 0 ∧ mbF c < 4 ∧ 127 < gmt (A 54) (I 3444 + 1)) then nrd (gmt (A 54)) (I 3444 + 1) k - (1 <<< ((8 * mbF c) &&& 31)) else nrd (gmt (A 54)) (I 3444 + 1) k))) ∧ o = (.inl (some (.int 0)), pic I (upA A 60 1 (smG (A 60 1) (if (¬ (1 : Int32) = 0 ∧ mbF c < 4 ∧ 127 < gmt (A 54) (I 3444 + 1)) then nrd (gmt (A 54)) (I 3444 + 1) k - (1 <<< ((8 * mbF c) &&& 31)) else nrd (gmt (A 54)) (I 3444 + 1) k)).toInt32) L)) ∨ ((((¬ c < 157 ∧ c < 161) ∧ 0 < mbF c) ∧ ¬ fitL (smG (A 60 1) (if (¬ (1 : Int32) = 0 ∧ mbF c < 4 ∧ 127 < gmt (A 54) (I 3444 + 1)) then nrd (gmt (A 54)) (I 3444 + 1) k - (1 <<< ((8 * mbF c) &&& 31)) else nrd (gmt (A 54)) (I 3444 + 1) k))) ∧ o = (.inl (some (.int 8)), pic I A L)) ∨ ((((¬ c < 157 ∧ c < 161) ∧ ¬ 0 < mbF c) ∧ fitL (smG (A 60 1) (A 60 0))) ∧ o = (.inl (some (.int 0)), pic I (upA A 60 1 (smG (A 60 1) (A 60 0)).toInt32) L)) ∨ ((((¬ c < 157 ∧ c < 161) ∧ ¬ 0 < mbF c) ∧ ¬ fitL (smG (A 60 1) (A 60 0))) ∧ o = (.inl (some (.int 8)), pic I A L)) ∨ ((((¬ c < 161 ∧ c < 166) ∧ 0 < mbF c) ∧ fitL (smG (A 60 1) (if (¬ (1 : Int32) = 0 ∧ mbF c < 4 ∧ 127 < gmt (A 54) (I 3444 + 1)) then nrd (gmt (A 54)) (I 3444 + 1) k - (1 <<< ((8 * mbF c) &&& 31)) else nrd (gmt (A 54)) (I 3444 + 1) k))) ∧ o = (.inl (some (.int 0)), pic I (upA (upA A 60 1 (smG (A 60 1) (if (¬ (1 : Int32) = 0 ∧ mbF c < 4 ∧ 127 < gmt (A 54) (I 3444 + 1)) then nrd (gmt (A 54)) (I 3444 + 1) k - (1 <<< ((8 * mbF c) &&& 31)) else nrd (gmt (A 54)) (I 3444 + 1) k)).toInt32) 60 4 (if (¬ (1 : Int32) = 0 ∧ mbF c < 4 ∧ 127 < gmt (A 54) (I 3444 + 1)) then nrd (gmt (A 54)) (I 3444 + 1) k - (1 <<< ((8 * mbF c) &&& 31)) else nrd (gmt (A 54)) (I 3444 + 1) k)) L)) ∨ ((((¬ c < 161 ∧ c < 166) ∧ 0 < mbF c) ∧ ¬ fitL (smG (A 60 1) (if (¬ (1 : Int32) = 0 ∧ mbF c < 4 ∧ 127 < gmt (A 54) (I 3444 + 1)) then nrd (gmt (A 54)) (I 3444 + 1) k - (1 <<< ((8 * mbF c) &&& 31)) else nrd (gmt (A 54)) (I 3444 + 1) k))) ∧ o = (.inl (some (.int 8)), pic I A L)) ∨ ((((¬ c < 161 ∧ c < 166) ∧ ¬ 0 < mbF c) ∧ fitL (smG (A 60 1) (A 60 4))) ∧ o = (.inl (some (.int 0)), pic I (upA (upA A 60 1 (smG (A 60 1) (A 60 4)).toInt32) 60 4 (A 60 4)) L)) ∨ ((((¬ c < 161 ∧ c < 166) ∧ ¬ 0 < mbF c) ∧ ¬ fitL (smG (A 60 1) (A 60 4))) ∧ o = (.inl (some (.int 8)), pic I A L)) ∨ ((((¬ c < 166) ∧ 0 < mbF c) ∧ fitL (smG (A 60 1) (if (¬ (1 : Int32) = 0 ∧ mbF c < 4 ∧ 127 < gmt (A 54) (I 3444 + 1)) then nrd (gmt (A 54)) (I 3444 + 1) k - (1 <<< ((8 * mbF c) &&& 31)) else nrd (gmt (A 54)) (I 3444 + 1) k))) ∧ o = (.inl (some (.int 0)), pic I (upA (upA A 60 1 (smG (A 60 1) (if (¬ (1 : Int32) = 0 ∧ mbF c < 4 ∧ 127 < gmt (A 54) (I 3444 + 1)) then nrd (gmt (A 54)) (I 3444 + 1) k - (1 <<< ((8 * mbF c) &&& 31)) else nrd (gmt (A 54)) (I 3444 + 1) k)).toInt32) 60 5 (if (¬ (1 : Int32) = 0 ∧ mbF c < 4 ∧ 127 < gmt (A 54) (I 3444 + 1)) then nrd (gmt (A 54)) (I 3444 + 1) k - (1 <<< ((8 * mbF c) &&& 31)) else nrd (gmt (A 54)) (I 3444 + 1) k)) L)) ∨ ((((¬ c < 166) ∧ 0 < mbF c) ∧ ¬ fitL (smG (A 60 1) (if (¬ (1 : Int32) = 0 ∧ mbF c < 4 ∧ 127 < gmt (A 54) (I 3444 + 1)) then nrd (gmt (A 54)) (I 3444 + 1) k - (1 <<< ((8 * mbF c) &&& 31)) else nrd (gmt (A 54)) (I 3444 + 1) k))) ∧ o = (.inl (some (.int 8)), pic I A L)) ∨ ((((¬ c < 166) ∧ ¬ 0 < mbF c) ∧ fitL (smG (A 60 1) (A 60 5))) ∧ o = (.inl (some (.int 0)), pic I (upA (upA A 60 1 (smG (A 60 1) (A 60 5)).toInt32) 60 5 (A 60 5)) L)) ∨ ((((¬ c < 166) ∧ ¬ 0 < mbF c) ∧ ¬ fitL (smG (A 60 1) (A 60 5))) ∧ o = (.inl (some (.int 8)), pic I A L))
theorem sh_qMo_moveBy {I : mI} {A : mA} {L : mL} {c : Int32} {k : Nat} {o : xO} (h : qMo_moveBy I A L c k o) : ∃ (x : Int32) (I' : mI) (A' : mA), o = (.inl (some (.int x)), pic I' A' L) := by
  rcases h with ⟨_, rfl⟩ | ⟨_, rfl⟩ | ⟨_, rfl⟩ | ⟨_, rfl⟩ | ⟨_, rfl⟩ | ⟨_, rfl⟩ | ⟨_, rfl⟩ | ⟨_, rfl⟩ | ⟨_, rfl⟩ | ⟨_, rfl⟩ | ⟨_, rfl⟩ | ⟨_, rfl⟩ | ⟨_, rfl⟩ | ⟨_, rfl⟩ | ⟨_, rfl⟩ | ⟨_, rfl⟩ | ⟨_, rfl⟩ | ⟨_, rfl⟩ | ⟨_, rfl⟩ | ⟨_, rfl⟩ | ⟨_, rfl⟩ | ⟨_, rfl⟩ | ⟨_, rfl⟩ | ⟨_, rfl⟩
  · exact ⟨_, _, _, rfl⟩
  · exact ⟨_, _, _, rfl⟩
  · exact ⟨_, _, _, rfl⟩
  · exact ⟨_, _, _, rfl⟩
  · exact ⟨_, _, _, rfl⟩
  · exact ⟨_, _, _, rfl⟩
  · exact ⟨_, _, _, rfl⟩
  · exact ⟨_, _, _, rfl⟩
  · exact ⟨_, _, _, rfl⟩
  · exact ⟨_, _, _, rfl⟩
  · exact ⟨_, _, _, rfl⟩
  · exact ⟨_, _, _, rfl⟩
  · exact ⟨_, _, _, rfl⟩
  · exact ⟨_, _, _, rfl⟩
  · exact ⟨_, _, _, rfl⟩
  · exact ⟨_, _, _, rfl⟩
  · exact ⟨_, _, _, rfl⟩
  · exact ⟨_, _, _, rfl⟩
  · exact ⟨_, _, _, rfl⟩
  · exact ⟨_, _, _, rfl⟩
  · exact ⟨_, _, _, rfl⟩
  · exact ⟨_, _, _, rfl⟩
  · exact ⟨_, _, _, rfl⟩
  · exact ⟨_, _, _, rfl⟩
def qMo_take (I : mI) (A : mA) (L : mL) (f : Int32) : xO → Prop := fun o => (((faR (A 57) f (I 3436).toInt.toNat 0 (-1)) < 0) ∧ o = (.inl (some (.int 3)), pic I A L)) ∨ ((¬ (faR (A 57) f (I 3436).toInt.toNat 0 (-1)) < 0) ∧ o = (.inl (some (.int 0)), pic (upd (upd I 3448 f) 3449 1) A L))
theorem sh_qMo_take {I : mI} {A : mA} {L : mL} {f : Int32} {o : xO} (h : qMo_take I A L f o) : ∃ (x : Int32) (I' : mI) (A' : mA), o = (.inl (some (.int x)), pic I' A' L) := by
  rcases h with ⟨_, rfl⟩ | ⟨_, rfl⟩
  · exact ⟨_, _, _, rfl⟩
  · exact ⟨_, _, _, rfl⟩
def qMo_tell (I : mI) (A : mA) (L : mL)  (k : Nat) : xO → Prop := fun o => ((0 ≤ (faR (A 57) (nrd (gmt (A 54)) (I 3444 + 1) k) (I 3436).toInt.toNat 0 (-1)) ∧ smD (gmt (A 54)) (A 58 (faR (A 57) (nrd (gmt (A 54)) (I 3444 + 1) k) (I 3436).toInt.toNat 0 (-1)).toNatClampNeg) (I 3444)) ∧ o = (.inl (some (.int 0)), pic I A L)) ∨ ((0 ≤ (faR (A 57) (nrd (gmt (A 54)) (I 3444 + 1) k) (I 3436).toInt.toNat 0 (-1)) ∧ ¬ smD (gmt (A 54)) (A 58 (faR (A 57) (nrd (gmt (A 54)) (I 3444 + 1) k) (I 3436).toInt.toNat 0 (-1)).toNatClampNeg) (I 3444)) ∧ o = (.inl (some (.int 3)), pic I A L)) ∨ (((faR (A 57) (nrd (gmt (A 54)) (I 3444 + 1) k) (I 3436).toInt.toNat 0 (-1)) < 0 ∧ I 3443 = 3) ∧ o = (.inl (some (.int 3)), pic I A L)) ∨ (((faR (A 57) (nrd (gmt (A 54)) (I 3444 + 1) k) (I 3436).toInt.toNat 0 (-1)) < 0 ∧ ¬ I 3443 = 3 ∧ I 3436 = 256) ∧ o = (.inl (some (.int 9)), pic I A L)) ∨ (((faR (A 57) (nrd (gmt (A 54)) (I 3444 + 1) k) (I 3436).toInt.toNat 0 (-1)) < 0 ∧ ¬ I 3443 = 3 ∧ ¬ I 3436 = 256) ∧ o = (.inl (some (.int 0)), pic (upd I 3436 (I 3436 + 1)) (upA (upA A 57 (I 3436).toNatClampNeg (nrd (gmt (A 54)) (I 3444 + 1) k)) 58 (I 3436).toNatClampNeg (I 3444)) L))
theorem sh_qMo_tell {I : mI} {A : mA} {L : mL}  {k : Nat} {o : xO} (h : qMo_tell I A L  k o) : ∃ (x : Int32) (I' : mI) (A' : mA), o = (.inl (some (.int x)), pic I' A' L) := by
  rcases h with ⟨_, rfl⟩ | ⟨_, rfl⟩ | ⟨_, rfl⟩ | ⟨_, rfl⟩ | ⟨_, rfl⟩
  · exact ⟨_, _, _, rfl⟩
  · exact ⟨_, _, _, rfl⟩
  · exact ⟨_, _, _, rfl⟩
  · exact ⟨_, _, _, rfl⟩
  · exact ⟨_, _, _, rfl⟩
def qMo_beginPage (I : mI) (A : mA) (L : mL)  : xO → Prop := fun o => ((¬ nrd (gmt (A 54)) (I 3444 + 41) 4 = I 3446) ∧ o = (.inl (some (.int 5)), pic I A L)) ∨ ((nrd (gmt (A 54)) (I 3444 + 41) 4 = I 3446 ∧ I 3434 = 1300) ∧ o = (.inl (some (.int 9)), pic I A L)) ∨ ((nrd (gmt (A 54)) (I 3444 + 41) 4 = I 3446 ∧ ¬ I 3434 = 1300) ∧ o = (.inl (some (.int 0)), pic (upd (upd (upd (upd (upd I 3446 (I 3444)) 3434 (I 3434 + 1)) 3443 2) 3449 0) 3450 0) (six0 (upAf A 56 (pgM (gmt (A 54)) (I 3444 + 1) (I 3434) 10 0 (A 56)))) L))
theorem sh_qMo_beginPage {I : mI} {A : mA} {L : mL}  {o : xO} (h : qMo_beginPage I A L  o) : ∃ (x : Int32) (I' : mI) (A' : mA), o = (.inl (some (.int x)), pic I' A' L) := by
  rcases h with ⟨_, rfl⟩ | ⟨_, rfl⟩ | ⟨_, rfl⟩
  · exact ⟨_, _, _, rfl⟩
  · exact ⟨_, _, _, rfl⟩
  · exact ⟨_, _, _, rfl⟩
def qMo_post (I : mI) (A : mA) (L : mL)  : xO → Prop := fun o => ((¬ nrd (gmt (A 54)) (I 3444 + 1) 4 = I 3446) ∧ o = (.inl (some (.int 5)), pic I A L)) ∨ ((nrd (gmt (A 54)) (I 3444 + 1) 4 = I 3446 ∧ ¬ (nrd (gmt (A 54)) (I 3444 + 26 + 1) 2 = (I 3434 &&& 65535) ∧ smR (fun j => gmt (A 54) (I 3444 + 5 + Int32.ofNat j)) (fun j => gmt (A 54) (2 + Int32.ofNat j)) 12 0 = true)) ∧ o = (.inl (some (.int 6)), pic I A L)) ∨ ((nrd (gmt (A 54)) (I 3444 + 1) 4 = I 3446 ∧ (nrd (gmt (A 54)) (I 3444 + 26 + 1) 2 = (I 3434 &&& 65535) ∧ smR (fun j => gmt (A 54) (I 3444 + 5 + Int32.ofNat j)) (fun j => gmt (A 54) (2 + Int32.ofNat j)) 12 0 = true)) ∧ o = (.inl (some (.int 0)), pic (upd (upd (upd (upd (upd I 3439 (nrd (gmt (A 54)) (I 3444 + 13) 4)) 3440 (nrd (gmt (A 54)) (I 3444 + 17) 4)) 3441 (nrd (gmt (A 54)) (I 3444 + 21) 4)) 3447 (I 3444)) 3443 3) A L))
theorem sh_qMo_post {I : mI} {A : mA} {L : mL}  {o : xO} (h : qMo_post I A L  o) : ∃ (x : Int32) (I' : mI) (A' : mA), o = (.inl (some (.int x)), pic I' A' L) := by
  rcases h with ⟨_, rfl⟩ | ⟨_, rfl⟩ | ⟨_, rfl⟩
  · exact ⟨_, _, _, rfl⟩
  · exact ⟨_, _, _, rfl⟩
  · exact ⟨_, _, _, rfl⟩
def tlP (I : mI) (A : mA) (k : Nat) : Prop := (gmt (A 54) (I 3444) - 243 + 1).toInt = (k : Int) ∧ (1 ≤ k ∧ k ≤ 4) ∧ (I 3444 + 1).toInt + k ≤ 70000 ∧ I 3444 < 69987 ∧ (¬ (faR (A 57) (nrd (gmt (A 54)) (I 3444 + 1) k) (I 3436).toInt.toNat 0 (-1)) < 0 → vp_in (faR (A 57) (nrd (gmt (A 54)) (I 3444 + 1) k) (I 3436).toInt.toNat 0 (-1)) 256 ∧ plO (gmt (A 54)) (I 3445) (A 58 (faR (A 57) (nrd (gmt (A 54)) (I 3444 + 1) k) (I 3436).toInt.toNat 0 (-1)).toNatClampNeg)) ∧ plO (gmt (A 54)) (I 3445) (I 3444)
set_option maxHeartbeats 4000000 in
theorem c_Mo_within_34 {I : mI} {A : mA} {L : mL} {c : Int32} {k : Nat} (hk : (nbF c).toInt = (k : Int)) (hc0 : 0 ≤ c) (hnb : (128 ≤ c ∧ c < 132) ∨ (132 < c ∧ c < 137) ∨ (234 < c ∧ c < 239) → 1 ≤ k ∧ k ≤ 4 ∧ 0 ≤ I 3444 + 1 ∧ (I 3444 + 1).toInt + k ≤ 70000) (hmv : 0 < mbF c → 142 < c → c < 171 → (mbF c).toInt = (k : Int) ∧ 1 ≤ k ∧ k ≤ 4 ∧ 0 ≤ I 3444 + 1 ∧ (I 3444 + 1).toInt + k ≤ 70000) (hru : c = 132 ∨ c = 137 → I 3444 < 69992) (htl : 242 < c → c < 247 → tlP I A k) (h0 : 0 ≤ I 3444) (hs : I 3445 ≤ 70000) (m0 : 0 ≤ I 3432) (m1 : I 3432 ≤ 2000) (p0 : 0 ≤ I 3450) (p1 : I 3450 ≤ 100) (hf0 : 0 ≤ I 3436) (hf1 : I 3436 ≤ 256) : xm m_Mo_within (5, 112) [.ref 34, .int c] (pic I A L) 0 0 (fun o => ((c < 128) ∧ qMo_setCharacter I A L c 1 o) ∨ ((128 ≤ c ∧ c < 132) ∧ qMo_setCharacter I A L (nrd (gmt (A 54)) (I 3444 + 1) k) 1 o) ∨ ((c = 132) ∧ qMo_setRule I A L 1 o) ∨ ((132 < c ∧ c < 137) ∧ qMo_setCharacter I A L (nrd (gmt (A 54)) (I 3444 + 1) k) 0 o) ∨ ((c = 137) ∧ qMo_setRule I A L 0 o) ∨ ((c = 140 ∧ 0 < I 3450) ∧ o = (.inl (some (.int 4)), pic (upd I 3443 (I 3443)) A L)) ∨ ((c = 140 ∧ ¬ 0 < I 3450) ∧ o = (.inl (some (.int 0)), pic (upd I 3443 1) A L)) ∨ ((c = 141) ∧ qMo_push I A L o) ∨ ((c = 142) ∧ qMo_pop I A L o) ∨ ((142 < c ∧ c < 171) ∧ qMo_moveBy I A L c k o) ∨ ((170 < c ∧ c < 235) ∧ qMo_take I A L (c - 171) o) ∨ ((234 < c ∧ c < 239) ∧ qMo_take I A L (nrd (gmt (A 54)) (I 3444 + 1) k) o) ∨ ((242 < c ∧ c < 247) ∧ qMo_tell I A L k o) ∨ ((c = 138 ∨ c = 139 ∨ (238 < c ∧ c < 243) ∨ 246 < c) ∧ o = (.inl (some (.int 0)), pic I A L))) := by
  refine xm_of rfl (by decide) (Nat.le_of_ble_eq_true rfl) ?_
  have hsp : (c < 128) ∨ (128 ≤ c ∧ c < 132) ∨ (c = 132) ∨ (132 < c ∧ c < 137) ∨ (c = 137) ∨ (c = 138 ∨ c = 139) ∨ (c = 140) ∨ (c = 141) ∨ (c = 142) ∨ (142 < c ∧ c < 171) ∨ (170 < c ∧ c < 235) ∨ (234 < c ∧ c < 239) ∨ (238 < c ∧ c < 243) ∨ (242 < c ∧ c < 247) ∨ (246 < c) := by grind
  rcases hsp with hc | hc | hc | hc | hc | hc | hc | hc | hc | hc | hc | hc | hc | hc | hc
  · refine xr_iload_n D_Mo_within_0 rfl rfl ?_
    refine xr_sipush (v := 128) D_Mo_within_1 rfl ?_
    refine xr_icmp_ge (tgt := 14) D_Mo_within_4 rfl (fun c1 => ?_) (fun c1 => ?_)
    · exfalso; grind
    · refine xr_aload_n D_Mo_within_7 rfl rfl ?_
      refine xr_iload_n D_Mo_within_8 rfl rfl ?_
      refine xr_iconst (v := 1) D_Mo_within_9 rfl ?_
      refine xr_cVx (as := [_, _]) (c_Mo_setCharacter_34 m0 m1) (L_Mo_295) (CD_Mo_setCharacter) CI_Mo D_Mo_within_10 rfl rfl (by decide) (Nat.le_of_ble_eq_true rfl) (Nat.le_of_eq (Nat.zero_add _)) (Nat.le_of_eq (Nat.zero_add _)) pic_len ?_
      intro o9 ho9
      obtain ⟨x9, I9, A9, rfl⟩ := sh_qMo_setCharacter ho9
      refine ⟨_, _, rfl, pic_leq, ?_⟩
      refine xr_iret rfl D_Mo_within_13 ?_
      exact Or.inl ⟨by grind, ho9⟩
  · refine xr_iload_n D_Mo_within_0 rfl rfl ?_
    refine xr_sipush (v := 128) D_Mo_within_1 rfl ?_
    refine xr_icmp_ge (tgt := 14) D_Mo_within_4 rfl (fun c1 => ?_) (fun c1 => ?_)
    · refine xr_iload_n D_Mo_within_14 rfl rfl ?_
      refine xr_sipush (v := 132) D_Mo_within_15 rfl ?_
      refine xr_icmp_ge (tgt := 45) D_Mo_within_18 rfl (fun c2 => ?_) (fun c2 => ?_)
      · exfalso; grind
      · refine xr_aload_n D_Mo_within_21 rfl rfl ?_
        refine xr_aload_n D_Mo_within_22 rfl rfl ?_
        refine xr_aload_n D_Mo_within_23 rfl rfl ?_
        refine xr_getf F_Mo_203 D_Mo_within_24 rfl rfl ?_
        refine xr_iconst (v := 1) D_Mo_within_27 rfl ?_
        refine xr_iadd D_Mo_within_28 ?_
        refine xr_iload_n D_Mo_within_29 rfl rfl ?_
        refine xr_sipush (v := 128) D_Mo_within_30 rfl ?_
        refine xr_cSx (as := [_, _]) (c_Mo_among) (L_Mo_209) (CD_Mo_among) D_Mo_within_33 rfl (by decide) (Nat.le_of_ble_eq_true rfl) (Nat.le_of_eq (Nat.zero_add _)) (Nat.le_of_eq (Nat.zero_add _)) pic_len ?_
        rintro _ rfl
        refine ⟨_, _, rfl, pic_leq, ?_⟩
        refine xr_iconst (v := 0) D_Mo_within_36 rfl ?_
        refine xr_cVx (as := [_, _, _]) (c_Mo_numU k (by rw [← nbF_A (by grind) (by grind)]; exact hk) (hnb (by grind)).1 (hnb (by grind)).2.1 (hnb (by grind)).2.2.1 (hnb (by grind)).2.2.2) (L_Mo_220) (CD_Mo_number) CI_Mo D_Mo_within_37 rfl rfl (by decide) (Nat.le_of_ble_eq_true rfl) (Nat.le_of_eq (Nat.zero_add _)) (Nat.le_of_eq (Nat.zero_add _)) pic_len ?_
        rintro _ rfl
        refine ⟨_, _, rfl, pic_leq, ?_⟩
        refine xr_iconst (v := 1) D_Mo_within_40 rfl ?_
        refine xr_cVx (as := [_, _]) (c_Mo_setCharacter_34 m0 m1) (L_Mo_295) (CD_Mo_setCharacter) CI_Mo D_Mo_within_41 rfl rfl (by decide) (Nat.le_of_ble_eq_true rfl) (Nat.le_of_eq (Nat.zero_add _)) (Nat.le_of_eq (Nat.zero_add _)) pic_len ?_
        intro o9 ho9
        obtain ⟨x9, I9, A9, rfl⟩ := sh_qMo_setCharacter ho9
        refine ⟨_, _, rfl, pic_leq, ?_⟩
        refine xr_iret rfl D_Mo_within_44 ?_
        exact Or.inr (Or.inl ⟨by grind, ho9⟩)
    · exfalso; grind
  · refine xr_iload_n D_Mo_within_0 rfl rfl ?_
    refine xr_sipush (v := 128) D_Mo_within_1 rfl ?_
    refine xr_icmp_ge (tgt := 14) D_Mo_within_4 rfl (fun c1 => ?_) (fun c1 => ?_)
    · refine xr_iload_n D_Mo_within_14 rfl rfl ?_
      refine xr_sipush (v := 132) D_Mo_within_15 rfl ?_
      refine xr_icmp_ge (tgt := 45) D_Mo_within_18 rfl (fun c2 => ?_) (fun c2 => ?_)
      · refine xr_iload_n D_Mo_within_45 rfl rfl ?_
        refine xr_sipush (v := 132) D_Mo_within_46 rfl ?_
        refine xr_icmp_ne (tgt := 58) D_Mo_within_49 rfl (fun c3 => ?_) (fun c3 => ?_)
        · exfalso; grind
        · refine xr_aload_n D_Mo_within_52 rfl rfl ?_
          refine xr_iconst (v := 1) D_Mo_within_53 rfl ?_
          refine xr_cVx (as := [_]) (c_Mo_setRule_34 h0 (hru (by grind)) m0 m1) (L_Mo_299) (CD_Mo_setRule) CI_Mo D_Mo_within_54 rfl rfl (by decide) (Nat.le_of_ble_eq_true rfl) (Nat.le_of_eq (Nat.zero_add _)) (Nat.le_of_eq (Nat.zero_add _)) pic_len ?_
          intro o9 ho9
          obtain ⟨x9, I9, A9, rfl⟩ := sh_qMo_setRule ho9
          refine ⟨_, _, rfl, pic_leq, ?_⟩
          refine xr_iret rfl D_Mo_within_57 ?_
          exact Or.inr (Or.inr (Or.inl ⟨by grind, ho9⟩))
      · exfalso; grind
    · exfalso; grind
  · refine xr_iload_n D_Mo_within_0 rfl rfl ?_
    refine xr_sipush (v := 128) D_Mo_within_1 rfl ?_
    refine xr_icmp_ge (tgt := 14) D_Mo_within_4 rfl (fun c1 => ?_) (fun c1 => ?_)
    · refine xr_iload_n D_Mo_within_14 rfl rfl ?_
      refine xr_sipush (v := 132) D_Mo_within_15 rfl ?_
      refine xr_icmp_ge (tgt := 45) D_Mo_within_18 rfl (fun c2 => ?_) (fun c2 => ?_)
      · refine xr_iload_n D_Mo_within_45 rfl rfl ?_
        refine xr_sipush (v := 132) D_Mo_within_46 rfl ?_
        refine xr_icmp_ne (tgt := 58) D_Mo_within_49 rfl (fun c3 => ?_) (fun c3 => ?_)
        · refine xr_iload_n D_Mo_within_58 rfl rfl ?_
          refine xr_sipush (v := 137) D_Mo_within_59 rfl ?_
          refine xr_icmp_ge (tgt := 89) D_Mo_within_62 rfl (fun c4 => ?_) (fun c4 => ?_)
          · exfalso; grind
          · refine xr_aload_n D_Mo_within_65 rfl rfl ?_
            refine xr_aload_n D_Mo_within_66 rfl rfl ?_
            refine xr_aload_n D_Mo_within_67 rfl rfl ?_
            refine xr_getf F_Mo_203 D_Mo_within_68 rfl rfl ?_
            refine xr_iconst (v := 1) D_Mo_within_71 rfl ?_
            refine xr_iadd D_Mo_within_72 ?_
            refine xr_iload_n D_Mo_within_73 rfl rfl ?_
            refine xr_sipush (v := 133) D_Mo_within_74 rfl ?_
            refine xr_cSx (as := [_, _]) (c_Mo_among) (L_Mo_209) (CD_Mo_among) D_Mo_within_77 rfl (by decide) (Nat.le_of_ble_eq_true rfl) (Nat.le_of_eq (Nat.zero_add _)) (Nat.le_of_eq (Nat.zero_add _)) pic_len ?_
            rintro _ rfl
            refine ⟨_, _, rfl, pic_leq, ?_⟩
            refine xr_iconst (v := 0) D_Mo_within_80 rfl ?_
            refine xr_cVx (as := [_, _, _]) (c_Mo_numU k (by rw [← nbF_B (by grind) (by grind)]; exact hk) (hnb (by grind)).1 (hnb (by grind)).2.1 (hnb (by grind)).2.2.1 (hnb (by grind)).2.2.2) (L_Mo_220) (CD_Mo_number) CI_Mo D_Mo_within_81 rfl rfl (by decide) (Nat.le_of_ble_eq_true rfl) (Nat.le_of_eq (Nat.zero_add _)) (Nat.le_of_eq (Nat.zero_add _)) pic_len ?_
            rintro _ rfl
            refine ⟨_, _, rfl, pic_leq, ?_⟩
            refine xr_iconst (v := 0) D_Mo_within_84 rfl ?_
            refine xr_cVx (as := [_, _]) (c_Mo_setCharacter_34 m0 m1) (L_Mo_295) (CD_Mo_setCharacter) CI_Mo D_Mo_within_85 rfl rfl (by decide) (Nat.le_of_ble_eq_true rfl) (Nat.le_of_eq (Nat.zero_add _)) (Nat.le_of_eq (Nat.zero_add _)) pic_len ?_
            intro o9 ho9
            obtain ⟨x9, I9, A9, rfl⟩ := sh_qMo_setCharacter ho9
            refine ⟨_, _, rfl, pic_leq, ?_⟩
            refine xr_iret rfl D_Mo_within_88 ?_
            exact Or.inr (Or.inr (Or.inr (Or.inl ⟨by grind, ho9⟩)))
        · exfalso; grind
      · exfalso; grind
    · exfalso; grind
  · refine xr_iload_n D_Mo_within_0 rfl rfl ?_
    refine xr_sipush (v := 128) D_Mo_within_1 rfl ?_
    refine xr_icmp_ge (tgt := 14) D_Mo_within_4 rfl (fun c1 => ?_) (fun c1 => ?_)
    · refine xr_iload_n D_Mo_within_14 rfl rfl ?_
      refine xr_sipush (v := 132) D_Mo_within_15 rfl ?_
      refine xr_icmp_ge (tgt := 45) D_Mo_within_18 rfl (fun c2 => ?_) (fun c2 => ?_)
      · refine xr_iload_n D_Mo_within_45 rfl rfl ?_
        refine xr_sipush (v := 132) D_Mo_within_46 rfl ?_
        refine xr_icmp_ne (tgt := 58) D_Mo_within_49 rfl (fun c3 => ?_) (fun c3 => ?_)
        · refine xr_iload_n D_Mo_within_58 rfl rfl ?_
          refine xr_sipush (v := 137) D_Mo_within_59 rfl ?_
          refine xr_icmp_ge (tgt := 89) D_Mo_within_62 rfl (fun c4 => ?_) (fun c4 => ?_)
          · refine xr_iload_n D_Mo_within_89 rfl rfl ?_
            refine xr_sipush (v := 137) D_Mo_within_90 rfl ?_
            refine xr_icmp_ne (tgt := 102) D_Mo_within_93 rfl (fun c5 => ?_) (fun c5 => ?_)
            · exfalso; grind
            · refine xr_aload_n D_Mo_within_96 rfl rfl ?_
              refine xr_iconst (v := 0) D_Mo_within_97 rfl ?_
              refine xr_cVx (as := [_]) (c_Mo_setRule_34 h0 (hru (by grind)) m0 m1) (L_Mo_299) (CD_Mo_setRule) CI_Mo D_Mo_within_98 rfl rfl (by decide) (Nat.le_of_ble_eq_true rfl) (Nat.le_of_eq (Nat.zero_add _)) (Nat.le_of_eq (Nat.zero_add _)) pic_len ?_
              intro o9 ho9
              obtain ⟨x9, I9, A9, rfl⟩ := sh_qMo_setRule ho9
              refine ⟨_, _, rfl, pic_leq, ?_⟩
              refine xr_iret rfl D_Mo_within_101 ?_
              exact Or.inr (Or.inr (Or.inr (Or.inr (Or.inl ⟨by grind, ho9⟩))))
          · exfalso; grind
        · exfalso; grind
      · exfalso; grind
    · exfalso; grind
  · refine xr_iload_n D_Mo_within_0 rfl rfl ?_
    refine xr_sipush (v := 128) D_Mo_within_1 rfl ?_
    refine xr_icmp_ge (tgt := 14) D_Mo_within_4 rfl (fun c1 => ?_) (fun c1 => ?_)
    · refine xr_iload_n D_Mo_within_14 rfl rfl ?_
      refine xr_sipush (v := 132) D_Mo_within_15 rfl ?_
      refine xr_icmp_ge (tgt := 45) D_Mo_within_18 rfl (fun c2 => ?_) (fun c2 => ?_)
      · refine xr_iload_n D_Mo_within_45 rfl rfl ?_
        refine xr_sipush (v := 132) D_Mo_within_46 rfl ?_
        refine xr_icmp_ne (tgt := 58) D_Mo_within_49 rfl (fun c3 => ?_) (fun c3 => ?_)
        · refine xr_iload_n D_Mo_within_58 rfl rfl ?_
          refine xr_sipush (v := 137) D_Mo_within_59 rfl ?_
          refine xr_icmp_ge (tgt := 89) D_Mo_within_62 rfl (fun c4 => ?_) (fun c4 => ?_)
          · refine xr_iload_n D_Mo_within_89 rfl rfl ?_
            refine xr_sipush (v := 137) D_Mo_within_90 rfl ?_
            refine xr_icmp_ne (tgt := 102) D_Mo_within_93 rfl (fun c5 => ?_) (fun c5 => ?_)
            · refine xr_iload_n D_Mo_within_102 rfl rfl ?_
              refine xr_sipush (v := 140) D_Mo_within_103 rfl ?_
              refine xr_icmp_ne (tgt := 141) D_Mo_within_106 rfl (fun c6 => ?_) (fun c6 => ?_)
              · refine xr_iload_n D_Mo_within_141 rfl rfl ?_
                refine xr_sipush (v := 141) D_Mo_within_142 rfl ?_
                refine xr_icmp_ne (tgt := 153) D_Mo_within_145 rfl (fun c7 => ?_) (fun c7 => ?_)
                · refine xr_iload_n D_Mo_within_153 rfl rfl ?_
                  refine xr_sipush (v := 142) D_Mo_within_154 rfl ?_
                  refine xr_icmp_ne (tgt := 165) D_Mo_within_157 rfl (fun c8 => ?_) (fun c8 => ?_)
                  · refine xr_iload_n D_Mo_within_165 rfl rfl ?_
                    refine xr_sipush (v := 142) D_Mo_within_166 rfl ?_
                    refine xr_icmp_le (tgt := 185) D_Mo_within_169 rfl (fun c9 => ?_) (fun c9 => ?_)
                    · refine xr_iload_n D_Mo_within_185 rfl rfl ?_
                      refine xr_sipush (v := 170) D_Mo_within_186 rfl ?_
                      refine xr_icmp_le (tgt := 209) D_Mo_within_189 rfl (fun c10 => ?_) (fun c10 => ?_)
                      · refine xr_iload_n D_Mo_within_209 rfl rfl ?_
                        refine xr_sipush (v := 234) D_Mo_within_210 rfl ?_
                        refine xr_icmp_le (tgt := 246) D_Mo_within_213 rfl (fun c11 => ?_) (fun c11 => ?_)
                        · refine xr_aload_n D_Mo_within_246 rfl rfl ?_
                          refine xr_iload_n D_Mo_within_247 rfl rfl ?_
                          refine xr_cVx (as := [_]) (c_Mo_isFontTold_34) (L_Mo_235) (CD_Mo_isFontTold) CI_Mo D_Mo_within_248 rfl rfl (by decide) (Nat.le_of_ble_eq_true rfl) (Nat.le_of_eq (Nat.zero_add _)) (Nat.le_of_eq (Nat.zero_add _)) pic_len ?_
                          rintro _ rfl
                          refine ⟨_, _, rfl, pic_leq, ?_⟩
                          refine xr_if_eq (tgt := 261) D_Mo_within_251 rfl (fun c12 => ?_) (fun c12 => ?_)
                          · rw [b2_0] at c12
                            refine xr_iconst (v := 0) D_Mo_within_261 rfl ?_
                            refine xr_iret rfl D_Mo_within_262 ?_
                            exact Or.inr (Or.inr (Or.inr (Or.inr (Or.inr (Or.inr (Or.inr (Or.inr (Or.inr (Or.inr (Or.inr (Or.inr (Or.inr (⟨by grind, rfl⟩)))))))))))))
                          · rw [b2_n] at c12
                            exfalso; grind
                        · exfalso; grind
                      · exfalso; grind
                    · exfalso; grind
                  · exfalso; grind
                · exfalso; grind
              · exfalso; grind
            · exfalso; grind
          · exfalso; grind
        · exfalso; grind
      · exfalso; grind
    · exfalso; grind
  · refine xr_iload_n D_Mo_within_0 rfl rfl ?_
    refine xr_sipush (v := 128) D_Mo_within_1 rfl ?_
    refine xr_icmp_ge (tgt := 14) D_Mo_within_4 rfl (fun c1 => ?_) (fun c1 => ?_)
    · refine xr_iload_n D_Mo_within_14 rfl rfl ?_
      refine xr_sipush (v := 132) D_Mo_within_15 rfl ?_
      refine xr_icmp_ge (tgt := 45) D_Mo_within_18 rfl (fun c2 => ?_) (fun c2 => ?_)
      · refine xr_iload_n D_Mo_within_45 rfl rfl ?_
        refine xr_sipush (v := 132) D_Mo_within_46 rfl ?_
        refine xr_icmp_ne (tgt := 58) D_Mo_within_49 rfl (fun c3 => ?_) (fun c3 => ?_)
        · refine xr_iload_n D_Mo_within_58 rfl rfl ?_
          refine xr_sipush (v := 137) D_Mo_within_59 rfl ?_
          refine xr_icmp_ge (tgt := 89) D_Mo_within_62 rfl (fun c4 => ?_) (fun c4 => ?_)
          · refine xr_iload_n D_Mo_within_89 rfl rfl ?_
            refine xr_sipush (v := 137) D_Mo_within_90 rfl ?_
            refine xr_icmp_ne (tgt := 102) D_Mo_within_93 rfl (fun c5 => ?_) (fun c5 => ?_)
            · refine xr_iload_n D_Mo_within_102 rfl rfl ?_
              refine xr_sipush (v := 140) D_Mo_within_103 rfl ?_
              refine xr_icmp_ne (tgt := 141) D_Mo_within_106 rfl (fun c6 => ?_) (fun c6 => ?_)
              · exfalso; grind
              · refine xr_aload_n D_Mo_within_109 rfl rfl ?_
                refine xr_aload_n D_Mo_within_110 rfl rfl ?_
                refine xr_getf F_Mo_263 D_Mo_within_111 rfl rfl ?_
                refine xr_if_le (tgt := 124) D_Mo_within_114 rfl (fun c7 => ?_) (fun c7 => ?_)
                · refine xr_iconst (v := 1) D_Mo_within_124 rfl ?_
                  refine xr_putf F_Mo_232 FT_Mo FN_Mo_43 D_Mo_within_125 rfl (Nat.le_of_ble_eq_true rfl) rfl rfl (pset_34_43) ?_
                  refine xr_aload_n D_Mo_within_128 rfl rfl ?_
                  refine xr_getf F_Mo_263 D_Mo_within_129 rfl rfl ?_
                  refine xr_if_le (tgt := 139) D_Mo_within_132 rfl (fun c8 => ?_) (fun c8 => ?_)
                  · refine xr_iconst (v := 0) D_Mo_within_139 rfl ?_
                    refine xr_iret rfl D_Mo_within_140 ?_
                    exact Or.inr (Or.inr (Or.inr (Or.inr (Or.inr (Or.inr (Or.inl ⟨by grind, rfl⟩))))))
                  · refine xr_iconst (v := 4) D_Mo_within_135 rfl ?_
                    refine xr_goto (tgt := 140) D_Mo_within_136 rfl ?_
                    refine xr_iret rfl D_Mo_within_140 ?_
                    exfalso; grind [upd]
                · refine xr_aload_n D_Mo_within_117 rfl rfl ?_
                  refine xr_getf F_Mo_232 D_Mo_within_118 rfl rfl ?_
                  refine xr_goto (tgt := 125) D_Mo_within_121 rfl ?_
                  refine xr_putf F_Mo_232 FT_Mo FN_Mo_43 D_Mo_within_125 rfl (Nat.le_of_ble_eq_true rfl) rfl rfl (pset_34_43) ?_
                  refine xr_aload_n D_Mo_within_128 rfl rfl ?_
                  refine xr_getf F_Mo_263 D_Mo_within_129 rfl rfl ?_
                  refine xr_if_le (tgt := 139) D_Mo_within_132 rfl (fun c8 => ?_) (fun c8 => ?_)
                  · refine xr_iconst (v := 0) D_Mo_within_139 rfl ?_
                    refine xr_iret rfl D_Mo_within_140 ?_
                    exfalso; grind [upd]
                  · refine xr_iconst (v := 4) D_Mo_within_135 rfl ?_
                    refine xr_goto (tgt := 140) D_Mo_within_136 rfl ?_
                    refine xr_iret rfl D_Mo_within_140 ?_
                    exact Or.inr (Or.inr (Or.inr (Or.inr (Or.inr (Or.inl ⟨by grind, rfl⟩)))))
            · exfalso; grind
          · exfalso; grind
        · exfalso; grind
      · exfalso; grind
    · exfalso; grind
  · refine xr_iload_n D_Mo_within_0 rfl rfl ?_
    refine xr_sipush (v := 128) D_Mo_within_1 rfl ?_
    refine xr_icmp_ge (tgt := 14) D_Mo_within_4 rfl (fun c1 => ?_) (fun c1 => ?_)
    · refine xr_iload_n D_Mo_within_14 rfl rfl ?_
      refine xr_sipush (v := 132) D_Mo_within_15 rfl ?_
      refine xr_icmp_ge (tgt := 45) D_Mo_within_18 rfl (fun c2 => ?_) (fun c2 => ?_)
      · refine xr_iload_n D_Mo_within_45 rfl rfl ?_
        refine xr_sipush (v := 132) D_Mo_within_46 rfl ?_
        refine xr_icmp_ne (tgt := 58) D_Mo_within_49 rfl (fun c3 => ?_) (fun c3 => ?_)
        · refine xr_iload_n D_Mo_within_58 rfl rfl ?_
          refine xr_sipush (v := 137) D_Mo_within_59 rfl ?_
          refine xr_icmp_ge (tgt := 89) D_Mo_within_62 rfl (fun c4 => ?_) (fun c4 => ?_)
          · refine xr_iload_n D_Mo_within_89 rfl rfl ?_
            refine xr_sipush (v := 137) D_Mo_within_90 rfl ?_
            refine xr_icmp_ne (tgt := 102) D_Mo_within_93 rfl (fun c5 => ?_) (fun c5 => ?_)
            · refine xr_iload_n D_Mo_within_102 rfl rfl ?_
              refine xr_sipush (v := 140) D_Mo_within_103 rfl ?_
              refine xr_icmp_ne (tgt := 141) D_Mo_within_106 rfl (fun c6 => ?_) (fun c6 => ?_)
              · refine xr_iload_n D_Mo_within_141 rfl rfl ?_
                refine xr_sipush (v := 141) D_Mo_within_142 rfl ?_
                refine xr_icmp_ne (tgt := 153) D_Mo_within_145 rfl (fun c7 => ?_) (fun c7 => ?_)
                · exfalso; grind
                · refine xr_aload_n D_Mo_within_148 rfl rfl ?_
                  refine xr_cVx (as := []) (c_Mo_push_34 p0 p1) (L_Mo_303) (CD_Mo_push) CI_Mo D_Mo_within_149 rfl rfl (by decide) (Nat.le_of_ble_eq_true rfl) (Nat.le_of_eq (Nat.zero_add _)) (Nat.le_of_eq (Nat.zero_add _)) pic_len ?_
                  intro o9 ho9
                  obtain ⟨x9, I9, A9, rfl⟩ := sh_qMo_push ho9
                  refine ⟨_, _, rfl, pic_leq, ?_⟩
                  refine xr_iret rfl D_Mo_within_152 ?_
                  exact Or.inr (Or.inr (Or.inr (Or.inr (Or.inr (Or.inr (Or.inr (Or.inl ⟨by grind, ho9⟩)))))))
              · exfalso; grind
            · exfalso; grind
          · exfalso; grind
        · exfalso; grind
      · exfalso; grind
    · exfalso; grind
  · refine xr_iload_n D_Mo_within_0 rfl rfl ?_
    refine xr_sipush (v := 128) D_Mo_within_1 rfl ?_
    refine xr_icmp_ge (tgt := 14) D_Mo_within_4 rfl (fun c1 => ?_) (fun c1 => ?_)
    · refine xr_iload_n D_Mo_within_14 rfl rfl ?_
      refine xr_sipush (v := 132) D_Mo_within_15 rfl ?_
      refine xr_icmp_ge (tgt := 45) D_Mo_within_18 rfl (fun c2 => ?_) (fun c2 => ?_)
      · refine xr_iload_n D_Mo_within_45 rfl rfl ?_
        refine xr_sipush (v := 132) D_Mo_within_46 rfl ?_
        refine xr_icmp_ne (tgt := 58) D_Mo_within_49 rfl (fun c3 => ?_) (fun c3 => ?_)
        · refine xr_iload_n D_Mo_within_58 rfl rfl ?_
          refine xr_sipush (v := 137) D_Mo_within_59 rfl ?_
          refine xr_icmp_ge (tgt := 89) D_Mo_within_62 rfl (fun c4 => ?_) (fun c4 => ?_)
          · refine xr_iload_n D_Mo_within_89 rfl rfl ?_
            refine xr_sipush (v := 137) D_Mo_within_90 rfl ?_
            refine xr_icmp_ne (tgt := 102) D_Mo_within_93 rfl (fun c5 => ?_) (fun c5 => ?_)
            · refine xr_iload_n D_Mo_within_102 rfl rfl ?_
              refine xr_sipush (v := 140) D_Mo_within_103 rfl ?_
              refine xr_icmp_ne (tgt := 141) D_Mo_within_106 rfl (fun c6 => ?_) (fun c6 => ?_)
              · refine xr_iload_n D_Mo_within_141 rfl rfl ?_
                refine xr_sipush (v := 141) D_Mo_within_142 rfl ?_
                refine xr_icmp_ne (tgt := 153) D_Mo_within_145 rfl (fun c7 => ?_) (fun c7 => ?_)
                · refine xr_iload_n D_Mo_within_153 rfl rfl ?_
                  refine xr_sipush (v := 142) D_Mo_within_154 rfl ?_
                  refine xr_icmp_ne (tgt := 165) D_Mo_within_157 rfl (fun c8 => ?_) (fun c8 => ?_)
                  · exfalso; grind
                  · refine xr_aload_n D_Mo_within_160 rfl rfl ?_
                    refine xr_cVx (as := []) (c_Mo_pop_34 p0 p1) (L_Mo_307) (CD_Mo_pop) CI_Mo D_Mo_within_161 rfl rfl (by decide) (Nat.le_of_ble_eq_true rfl) (Nat.le_of_eq (Nat.zero_add _)) (Nat.le_of_eq (Nat.zero_add _)) pic_len ?_
                    intro o9 ho9
                    obtain ⟨x9, I9, A9, rfl⟩ := sh_qMo_pop ho9
                    refine ⟨_, _, rfl, pic_leq, ?_⟩
                    refine xr_iret rfl D_Mo_within_164 ?_
                    exact Or.inr (Or.inr (Or.inr (Or.inr (Or.inr (Or.inr (Or.inr (Or.inr (Or.inl ⟨by grind, ho9⟩))))))))
                · exfalso; grind
              · exfalso; grind
            · exfalso; grind
          · exfalso; grind
        · exfalso; grind
      · exfalso; grind
    · exfalso; grind
  · refine xr_iload_n D_Mo_within_0 rfl rfl ?_
    refine xr_sipush (v := 128) D_Mo_within_1 rfl ?_
    refine xr_icmp_ge (tgt := 14) D_Mo_within_4 rfl (fun c1 => ?_) (fun c1 => ?_)
    · refine xr_iload_n D_Mo_within_14 rfl rfl ?_
      refine xr_sipush (v := 132) D_Mo_within_15 rfl ?_
      refine xr_icmp_ge (tgt := 45) D_Mo_within_18 rfl (fun c2 => ?_) (fun c2 => ?_)
      · refine xr_iload_n D_Mo_within_45 rfl rfl ?_
        refine xr_sipush (v := 132) D_Mo_within_46 rfl ?_
        refine xr_icmp_ne (tgt := 58) D_Mo_within_49 rfl (fun c3 => ?_) (fun c3 => ?_)
        · refine xr_iload_n D_Mo_within_58 rfl rfl ?_
          refine xr_sipush (v := 137) D_Mo_within_59 rfl ?_
          refine xr_icmp_ge (tgt := 89) D_Mo_within_62 rfl (fun c4 => ?_) (fun c4 => ?_)
          · refine xr_iload_n D_Mo_within_89 rfl rfl ?_
            refine xr_sipush (v := 137) D_Mo_within_90 rfl ?_
            refine xr_icmp_ne (tgt := 102) D_Mo_within_93 rfl (fun c5 => ?_) (fun c5 => ?_)
            · refine xr_iload_n D_Mo_within_102 rfl rfl ?_
              refine xr_sipush (v := 140) D_Mo_within_103 rfl ?_
              refine xr_icmp_ne (tgt := 141) D_Mo_within_106 rfl (fun c6 => ?_) (fun c6 => ?_)
              · refine xr_iload_n D_Mo_within_141 rfl rfl ?_
                refine xr_sipush (v := 141) D_Mo_within_142 rfl ?_
                refine xr_icmp_ne (tgt := 153) D_Mo_within_145 rfl (fun c7 => ?_) (fun c7 => ?_)
                · refine xr_iload_n D_Mo_within_153 rfl rfl ?_
                  refine xr_sipush (v := 142) D_Mo_within_154 rfl ?_
                  refine xr_icmp_ne (tgt := 165) D_Mo_within_157 rfl (fun c8 => ?_) (fun c8 => ?_)
                  · refine xr_iload_n D_Mo_within_165 rfl rfl ?_
                    refine xr_sipush (v := 142) D_Mo_within_166 rfl ?_
                    refine xr_icmp_le (tgt := 185) D_Mo_within_169 rfl (fun c9 => ?_) (fun c9 => ?_)
                    · exfalso; grind
                    · refine xr_iload_n D_Mo_within_172 rfl rfl ?_
                      refine xr_sipush (v := 171) D_Mo_within_173 rfl ?_
                      refine xr_icmp_ge (tgt := 185) D_Mo_within_176 rfl (fun c10 => ?_) (fun c10 => ?_)
                      · exfalso; grind
                      · refine xr_aload_n D_Mo_within_179 rfl rfl ?_
                        refine xr_iload_n D_Mo_within_180 rfl rfl ?_
                        refine xr_cVx (as := [_]) (c_Mo_moveBy_34 (k := k) (fun z => hmv z (by grind) (by grind))) (L_Mo_310) (CD_Mo_moveBy) CI_Mo D_Mo_within_181 rfl rfl (by decide) (Nat.le_of_ble_eq_true rfl) (Nat.le_of_eq (Nat.zero_add _)) (Nat.le_of_eq (Nat.zero_add _)) pic_len ?_
                        intro o9 ho9
                        obtain ⟨x9, I9, A9, rfl⟩ := sh_qMo_moveBy ho9
                        refine ⟨_, _, rfl, pic_leq, ?_⟩
                        refine xr_iret rfl D_Mo_within_184 ?_
                        exact Or.inr (Or.inr (Or.inr (Or.inr (Or.inr (Or.inr (Or.inr (Or.inr (Or.inr (Or.inl ⟨by grind, ho9⟩)))))))))
                  · exfalso; grind
                · exfalso; grind
              · exfalso; grind
            · exfalso; grind
          · exfalso; grind
        · exfalso; grind
      · exfalso; grind
    · exfalso; grind
  · refine xr_iload_n D_Mo_within_0 rfl rfl ?_
    refine xr_sipush (v := 128) D_Mo_within_1 rfl ?_
    refine xr_icmp_ge (tgt := 14) D_Mo_within_4 rfl (fun c1 => ?_) (fun c1 => ?_)
    · refine xr_iload_n D_Mo_within_14 rfl rfl ?_
      refine xr_sipush (v := 132) D_Mo_within_15 rfl ?_
      refine xr_icmp_ge (tgt := 45) D_Mo_within_18 rfl (fun c2 => ?_) (fun c2 => ?_)
      · refine xr_iload_n D_Mo_within_45 rfl rfl ?_
        refine xr_sipush (v := 132) D_Mo_within_46 rfl ?_
        refine xr_icmp_ne (tgt := 58) D_Mo_within_49 rfl (fun c3 => ?_) (fun c3 => ?_)
        · refine xr_iload_n D_Mo_within_58 rfl rfl ?_
          refine xr_sipush (v := 137) D_Mo_within_59 rfl ?_
          refine xr_icmp_ge (tgt := 89) D_Mo_within_62 rfl (fun c4 => ?_) (fun c4 => ?_)
          · refine xr_iload_n D_Mo_within_89 rfl rfl ?_
            refine xr_sipush (v := 137) D_Mo_within_90 rfl ?_
            refine xr_icmp_ne (tgt := 102) D_Mo_within_93 rfl (fun c5 => ?_) (fun c5 => ?_)
            · refine xr_iload_n D_Mo_within_102 rfl rfl ?_
              refine xr_sipush (v := 140) D_Mo_within_103 rfl ?_
              refine xr_icmp_ne (tgt := 141) D_Mo_within_106 rfl (fun c6 => ?_) (fun c6 => ?_)
              · refine xr_iload_n D_Mo_within_141 rfl rfl ?_
                refine xr_sipush (v := 141) D_Mo_within_142 rfl ?_
                refine xr_icmp_ne (tgt := 153) D_Mo_within_145 rfl (fun c7 => ?_) (fun c7 => ?_)
                · refine xr_iload_n D_Mo_within_153 rfl rfl ?_
                  refine xr_sipush (v := 142) D_Mo_within_154 rfl ?_
                  refine xr_icmp_ne (tgt := 165) D_Mo_within_157 rfl (fun c8 => ?_) (fun c8 => ?_)
                  · refine xr_iload_n D_Mo_within_165 rfl rfl ?_
                    refine xr_sipush (v := 142) D_Mo_within_166 rfl ?_
                    refine xr_icmp_le (tgt := 185) D_Mo_within_169 rfl (fun c9 => ?_) (fun c9 => ?_)
                    · exfalso; grind
                    · refine xr_iload_n D_Mo_within_172 rfl rfl ?_
                      refine xr_sipush (v := 171) D_Mo_within_173 rfl ?_
                      refine xr_icmp_ge (tgt := 185) D_Mo_within_176 rfl (fun c10 => ?_) (fun c10 => ?_)
                      · refine xr_iload_n D_Mo_within_185 rfl rfl ?_
                        refine xr_sipush (v := 170) D_Mo_within_186 rfl ?_
                        refine xr_icmp_le (tgt := 209) D_Mo_within_189 rfl (fun c11 => ?_) (fun c11 => ?_)
                        · exfalso; grind
                        · refine xr_iload_n D_Mo_within_192 rfl rfl ?_
                          refine xr_sipush (v := 235) D_Mo_within_193 rfl ?_
                          refine xr_icmp_ge (tgt := 209) D_Mo_within_196 rfl (fun c12 => ?_) (fun c12 => ?_)
                          · exfalso; grind
                          · refine xr_aload_n D_Mo_within_199 rfl rfl ?_
                            refine xr_iload_n D_Mo_within_200 rfl rfl ?_
                            refine xr_sipush (v := 171) D_Mo_within_201 rfl ?_
                            refine xr_isub D_Mo_within_204 ?_
                            refine xr_cVx (as := [_]) (c_Mo_take_34 hf0 hf1) (L_Mo_313) (CD_Mo_take) CI_Mo D_Mo_within_205 rfl rfl (by decide) (Nat.le_of_ble_eq_true rfl) (Nat.le_of_eq (Nat.zero_add _)) (Nat.le_of_eq (Nat.zero_add _)) pic_len ?_
                            intro o9 ho9
                            obtain ⟨x9, I9, A9, rfl⟩ := sh_qMo_take ho9
                            refine ⟨_, _, rfl, pic_leq, ?_⟩
                            refine xr_iret rfl D_Mo_within_208 ?_
                            exact Or.inr (Or.inr (Or.inr (Or.inr (Or.inr (Or.inr (Or.inr (Or.inr (Or.inr (Or.inr (Or.inl ⟨by grind, ho9⟩))))))))))
                      · exfalso; grind
                  · exfalso; grind
                · exfalso; grind
              · exfalso; grind
            · exfalso; grind
          · exfalso; grind
        · exfalso; grind
      · exfalso; grind
    · exfalso; grind
  · refine xr_iload_n D_Mo_within_0 rfl rfl ?_
    refine xr_sipush (v := 128) D_Mo_within_1 rfl ?_
    refine xr_icmp_ge (tgt := 14) D_Mo_within_4 rfl (fun c1 => ?_) (fun c1 => ?_)
    · refine xr_iload_n D_Mo_within_14 rfl rfl ?_
      refine xr_sipush (v := 132) D_Mo_within_15 rfl ?_
      refine xr_icmp_ge (tgt := 45) D_Mo_within_18 rfl (fun c2 => ?_) (fun c2 => ?_)
      · refine xr_iload_n D_Mo_within_45 rfl rfl ?_
        refine xr_sipush (v := 132) D_Mo_within_46 rfl ?_
        refine xr_icmp_ne (tgt := 58) D_Mo_within_49 rfl (fun c3 => ?_) (fun c3 => ?_)
        · refine xr_iload_n D_Mo_within_58 rfl rfl ?_
          refine xr_sipush (v := 137) D_Mo_within_59 rfl ?_
          refine xr_icmp_ge (tgt := 89) D_Mo_within_62 rfl (fun c4 => ?_) (fun c4 => ?_)
          · refine xr_iload_n D_Mo_within_89 rfl rfl ?_
            refine xr_sipush (v := 137) D_Mo_within_90 rfl ?_
            refine xr_icmp_ne (tgt := 102) D_Mo_within_93 rfl (fun c5 => ?_) (fun c5 => ?_)
            · refine xr_iload_n D_Mo_within_102 rfl rfl ?_
              refine xr_sipush (v := 140) D_Mo_within_103 rfl ?_
              refine xr_icmp_ne (tgt := 141) D_Mo_within_106 rfl (fun c6 => ?_) (fun c6 => ?_)
              · refine xr_iload_n D_Mo_within_141 rfl rfl ?_
                refine xr_sipush (v := 141) D_Mo_within_142 rfl ?_
                refine xr_icmp_ne (tgt := 153) D_Mo_within_145 rfl (fun c7 => ?_) (fun c7 => ?_)
                · refine xr_iload_n D_Mo_within_153 rfl rfl ?_
                  refine xr_sipush (v := 142) D_Mo_within_154 rfl ?_
                  refine xr_icmp_ne (tgt := 165) D_Mo_within_157 rfl (fun c8 => ?_) (fun c8 => ?_)
                  · refine xr_iload_n D_Mo_within_165 rfl rfl ?_
                    refine xr_sipush (v := 142) D_Mo_within_166 rfl ?_
                    refine xr_icmp_le (tgt := 185) D_Mo_within_169 rfl (fun c9 => ?_) (fun c9 => ?_)
                    · exfalso; grind
                    · refine xr_iload_n D_Mo_within_172 rfl rfl ?_
                      refine xr_sipush (v := 171) D_Mo_within_173 rfl ?_
                      refine xr_icmp_ge (tgt := 185) D_Mo_within_176 rfl (fun c10 => ?_) (fun c10 => ?_)
                      · refine xr_iload_n D_Mo_within_185 rfl rfl ?_
                        refine xr_sipush (v := 170) D_Mo_within_186 rfl ?_
                        refine xr_icmp_le (tgt := 209) D_Mo_within_189 rfl (fun c11 => ?_) (fun c11 => ?_)
                        · exfalso; grind
                        · refine xr_iload_n D_Mo_within_192 rfl rfl ?_
                          refine xr_sipush (v := 235) D_Mo_within_193 rfl ?_
                          refine xr_icmp_ge (tgt := 209) D_Mo_within_196 rfl (fun c12 => ?_) (fun c12 => ?_)
                          · refine xr_iload_n D_Mo_within_209 rfl rfl ?_
                            refine xr_sipush (v := 234) D_Mo_within_210 rfl ?_
                            refine xr_icmp_le (tgt := 246) D_Mo_within_213 rfl (fun c13 => ?_) (fun c13 => ?_)
                            · exfalso; grind
                            · refine xr_iload_n D_Mo_within_216 rfl rfl ?_
                              refine xr_sipush (v := 239) D_Mo_within_217 rfl ?_
                              refine xr_icmp_ge (tgt := 246) D_Mo_within_220 rfl (fun c14 => ?_) (fun c14 => ?_)
                              · exfalso; grind
                              · refine xr_aload_n D_Mo_within_223 rfl rfl ?_
                                refine xr_aload_n D_Mo_within_224 rfl rfl ?_
                                refine xr_aload_n D_Mo_within_225 rfl rfl ?_
                                refine xr_getf F_Mo_203 D_Mo_within_226 rfl rfl ?_
                                refine xr_iconst (v := 1) D_Mo_within_229 rfl ?_
                                refine xr_iadd D_Mo_within_230 ?_
                                refine xr_iload_n D_Mo_within_231 rfl rfl ?_
                                refine xr_sipush (v := 235) D_Mo_within_232 rfl ?_
                                refine xr_cSx (as := [_, _]) (c_Mo_among) (L_Mo_209) (CD_Mo_among) D_Mo_within_235 rfl (by decide) (Nat.le_of_ble_eq_true rfl) (Nat.le_of_eq (Nat.zero_add _)) (Nat.le_of_eq (Nat.zero_add _)) pic_len ?_
                                rintro _ rfl
                                refine ⟨_, _, rfl, pic_leq, ?_⟩
                                refine xr_iconst (v := 0) D_Mo_within_238 rfl ?_
                                refine xr_cVx (as := [_, _, _]) (c_Mo_numU k (by rw [← nbF_F (by grind) (by grind)]; exact hk) (hnb (by grind)).1 (hnb (by grind)).2.1 (hnb (by grind)).2.2.1 (hnb (by grind)).2.2.2) (L_Mo_220) (CD_Mo_number) CI_Mo D_Mo_within_239 rfl rfl (by decide) (Nat.le_of_ble_eq_true rfl) (Nat.le_of_eq (Nat.zero_add _)) (Nat.le_of_eq (Nat.zero_add _)) pic_len ?_
                                rintro _ rfl
                                refine ⟨_, _, rfl, pic_leq, ?_⟩
                                refine xr_cVx (as := [_]) (c_Mo_take_34 hf0 hf1) (L_Mo_313) (CD_Mo_take) CI_Mo D_Mo_within_242 rfl rfl (by decide) (Nat.le_of_ble_eq_true rfl) (Nat.le_of_eq (Nat.zero_add _)) (Nat.le_of_eq (Nat.zero_add _)) pic_len ?_
                                intro o9 ho9
                                obtain ⟨x9, I9, A9, rfl⟩ := sh_qMo_take ho9
                                refine ⟨_, _, rfl, pic_leq, ?_⟩
                                refine xr_iret rfl D_Mo_within_245 ?_
                                exact Or.inr (Or.inr (Or.inr (Or.inr (Or.inr (Or.inr (Or.inr (Or.inr (Or.inr (Or.inr (Or.inr (Or.inl ⟨by grind, ho9⟩)))))))))))
                          · exfalso; grind
                      · exfalso; grind
                  · exfalso; grind
                · exfalso; grind
              · exfalso; grind
            · exfalso; grind
          · exfalso; grind
        · exfalso; grind
      · exfalso; grind
    · exfalso; grind
  · refine xr_iload_n D_Mo_within_0 rfl rfl ?_
    refine xr_sipush (v := 128) D_Mo_within_1 rfl ?_
    refine xr_icmp_ge (tgt := 14) D_Mo_within_4 rfl (fun c1 => ?_) (fun c1 => ?_)
    · refine xr_iload_n D_Mo_within_14 rfl rfl ?_
      refine xr_sipush (v := 132) D_Mo_within_15 rfl ?_
      refine xr_icmp_ge (tgt := 45) D_Mo_within_18 rfl (fun c2 => ?_) (fun c2 => ?_)
      · refine xr_iload_n D_Mo_within_45 rfl rfl ?_
        refine xr_sipush (v := 132) D_Mo_within_46 rfl ?_
        refine xr_icmp_ne (tgt := 58) D_Mo_within_49 rfl (fun c3 => ?_) (fun c3 => ?_)
        · refine xr_iload_n D_Mo_within_58 rfl rfl ?_
          refine xr_sipush (v := 137) D_Mo_within_59 rfl ?_
          refine xr_icmp_ge (tgt := 89) D_Mo_within_62 rfl (fun c4 => ?_) (fun c4 => ?_)
          · refine xr_iload_n D_Mo_within_89 rfl rfl ?_
            refine xr_sipush (v := 137) D_Mo_within_90 rfl ?_
            refine xr_icmp_ne (tgt := 102) D_Mo_within_93 rfl (fun c5 => ?_) (fun c5 => ?_)
            · refine xr_iload_n D_Mo_within_102 rfl rfl ?_
              refine xr_sipush (v := 140) D_Mo_within_103 rfl ?_
              refine xr_icmp_ne (tgt := 141) D_Mo_within_106 rfl (fun c6 => ?_) (fun c6 => ?_)
              · refine xr_iload_n D_Mo_within_141 rfl rfl ?_
                refine xr_sipush (v := 141) D_Mo_within_142 rfl ?_
                refine xr_icmp_ne (tgt := 153) D_Mo_within_145 rfl (fun c7 => ?_) (fun c7 => ?_)
                · refine xr_iload_n D_Mo_within_153 rfl rfl ?_
                  refine xr_sipush (v := 142) D_Mo_within_154 rfl ?_
                  refine xr_icmp_ne (tgt := 165) D_Mo_within_157 rfl (fun c8 => ?_) (fun c8 => ?_)
                  · refine xr_iload_n D_Mo_within_165 rfl rfl ?_
                    refine xr_sipush (v := 142) D_Mo_within_166 rfl ?_
                    refine xr_icmp_le (tgt := 185) D_Mo_within_169 rfl (fun c9 => ?_) (fun c9 => ?_)
                    · exfalso; grind
                    · refine xr_iload_n D_Mo_within_172 rfl rfl ?_
                      refine xr_sipush (v := 171) D_Mo_within_173 rfl ?_
                      refine xr_icmp_ge (tgt := 185) D_Mo_within_176 rfl (fun c10 => ?_) (fun c10 => ?_)
                      · refine xr_iload_n D_Mo_within_185 rfl rfl ?_
                        refine xr_sipush (v := 170) D_Mo_within_186 rfl ?_
                        refine xr_icmp_le (tgt := 209) D_Mo_within_189 rfl (fun c11 => ?_) (fun c11 => ?_)
                        · exfalso; grind
                        · refine xr_iload_n D_Mo_within_192 rfl rfl ?_
                          refine xr_sipush (v := 235) D_Mo_within_193 rfl ?_
                          refine xr_icmp_ge (tgt := 209) D_Mo_within_196 rfl (fun c12 => ?_) (fun c12 => ?_)
                          · refine xr_iload_n D_Mo_within_209 rfl rfl ?_
                            refine xr_sipush (v := 234) D_Mo_within_210 rfl ?_
                            refine xr_icmp_le (tgt := 246) D_Mo_within_213 rfl (fun c13 => ?_) (fun c13 => ?_)
                            · exfalso; grind
                            · refine xr_iload_n D_Mo_within_216 rfl rfl ?_
                              refine xr_sipush (v := 239) D_Mo_within_217 rfl ?_
                              refine xr_icmp_ge (tgt := 246) D_Mo_within_220 rfl (fun c14 => ?_) (fun c14 => ?_)
                              · refine xr_aload_n D_Mo_within_246 rfl rfl ?_
                                refine xr_iload_n D_Mo_within_247 rfl rfl ?_
                                refine xr_cVx (as := [_]) (c_Mo_isFontTold_34) (L_Mo_235) (CD_Mo_isFontTold) CI_Mo D_Mo_within_248 rfl rfl (by decide) (Nat.le_of_ble_eq_true rfl) (Nat.le_of_eq (Nat.zero_add _)) (Nat.le_of_eq (Nat.zero_add _)) pic_len ?_
                                rintro _ rfl
                                refine ⟨_, _, rfl, pic_leq, ?_⟩
                                refine xr_if_eq (tgt := 261) D_Mo_within_251 rfl (fun c15 => ?_) (fun c15 => ?_)
                                · rw [b2_0] at c15
                                  refine xr_iconst (v := 0) D_Mo_within_261 rfl ?_
                                  refine xr_iret rfl D_Mo_within_262 ?_
                                  exact Or.inr (Or.inr (Or.inr (Or.inr (Or.inr (Or.inr (Or.inr (Or.inr (Or.inr (Or.inr (Or.inr (Or.inr (Or.inr (⟨by grind, rfl⟩)))))))))))))
                                · rw [b2_n] at c15
                                  exfalso; grind
                              · exfalso; grind
                          · exfalso; grind
                      · exfalso; grind
                  · exfalso; grind
                · exfalso; grind
              · exfalso; grind
            · exfalso; grind
          · exfalso; grind
        · exfalso; grind
      · exfalso; grind
    · exfalso; grind
  · refine xr_iload_n D_Mo_within_0 rfl rfl ?_
    refine xr_sipush (v := 128) D_Mo_within_1 rfl ?_
    refine xr_icmp_ge (tgt := 14) D_Mo_within_4 rfl (fun c1 => ?_) (fun c1 => ?_)
    · refine xr_iload_n D_Mo_within_14 rfl rfl ?_
      refine xr_sipush (v := 132) D_Mo_within_15 rfl ?_
      refine xr_icmp_ge (tgt := 45) D_Mo_within_18 rfl (fun c2 => ?_) (fun c2 => ?_)
      · refine xr_iload_n D_Mo_within_45 rfl rfl ?_
        refine xr_sipush (v := 132) D_Mo_within_46 rfl ?_
        refine xr_icmp_ne (tgt := 58) D_Mo_within_49 rfl (fun c3 => ?_) (fun c3 => ?_)
        · refine xr_iload_n D_Mo_within_58 rfl rfl ?_
          refine xr_sipush (v := 137) D_Mo_within_59 rfl ?_
          refine xr_icmp_ge (tgt := 89) D_Mo_within_62 rfl (fun c4 => ?_) (fun c4 => ?_)
          · refine xr_iload_n D_Mo_within_89 rfl rfl ?_
            refine xr_sipush (v := 137) D_Mo_within_90 rfl ?_
            refine xr_icmp_ne (tgt := 102) D_Mo_within_93 rfl (fun c5 => ?_) (fun c5 => ?_)
            · refine xr_iload_n D_Mo_within_102 rfl rfl ?_
              refine xr_sipush (v := 140) D_Mo_within_103 rfl ?_
              refine xr_icmp_ne (tgt := 141) D_Mo_within_106 rfl (fun c6 => ?_) (fun c6 => ?_)
              · refine xr_iload_n D_Mo_within_141 rfl rfl ?_
                refine xr_sipush (v := 141) D_Mo_within_142 rfl ?_
                refine xr_icmp_ne (tgt := 153) D_Mo_within_145 rfl (fun c7 => ?_) (fun c7 => ?_)
                · refine xr_iload_n D_Mo_within_153 rfl rfl ?_
                  refine xr_sipush (v := 142) D_Mo_within_154 rfl ?_
                  refine xr_icmp_ne (tgt := 165) D_Mo_within_157 rfl (fun c8 => ?_) (fun c8 => ?_)
                  · refine xr_iload_n D_Mo_within_165 rfl rfl ?_
                    refine xr_sipush (v := 142) D_Mo_within_166 rfl ?_
                    refine xr_icmp_le (tgt := 185) D_Mo_within_169 rfl (fun c9 => ?_) (fun c9 => ?_)
                    · exfalso; grind
                    · refine xr_iload_n D_Mo_within_172 rfl rfl ?_
                      refine xr_sipush (v := 171) D_Mo_within_173 rfl ?_
                      refine xr_icmp_ge (tgt := 185) D_Mo_within_176 rfl (fun c10 => ?_) (fun c10 => ?_)
                      · refine xr_iload_n D_Mo_within_185 rfl rfl ?_
                        refine xr_sipush (v := 170) D_Mo_within_186 rfl ?_
                        refine xr_icmp_le (tgt := 209) D_Mo_within_189 rfl (fun c11 => ?_) (fun c11 => ?_)
                        · exfalso; grind
                        · refine xr_iload_n D_Mo_within_192 rfl rfl ?_
                          refine xr_sipush (v := 235) D_Mo_within_193 rfl ?_
                          refine xr_icmp_ge (tgt := 209) D_Mo_within_196 rfl (fun c12 => ?_) (fun c12 => ?_)
                          · refine xr_iload_n D_Mo_within_209 rfl rfl ?_
                            refine xr_sipush (v := 234) D_Mo_within_210 rfl ?_
                            refine xr_icmp_le (tgt := 246) D_Mo_within_213 rfl (fun c13 => ?_) (fun c13 => ?_)
                            · exfalso; grind
                            · refine xr_iload_n D_Mo_within_216 rfl rfl ?_
                              refine xr_sipush (v := 239) D_Mo_within_217 rfl ?_
                              refine xr_icmp_ge (tgt := 246) D_Mo_within_220 rfl (fun c14 => ?_) (fun c14 => ?_)
                              · refine xr_aload_n D_Mo_within_246 rfl rfl ?_
                                refine xr_iload_n D_Mo_within_247 rfl rfl ?_
                                refine xr_cVx (as := [_]) (c_Mo_isFontTold_34) (L_Mo_235) (CD_Mo_isFontTold) CI_Mo D_Mo_within_248 rfl rfl (by decide) (Nat.le_of_ble_eq_true rfl) (Nat.le_of_eq (Nat.zero_add _)) (Nat.le_of_eq (Nat.zero_add _)) pic_len ?_
                                rintro _ rfl
                                refine ⟨_, _, rfl, pic_leq, ?_⟩
                                refine xr_if_eq (tgt := 261) D_Mo_within_251 rfl (fun c15 => ?_) (fun c15 => ?_)
                                · rw [b2_0] at c15
                                  exfalso; grind
                                · rw [b2_n] at c15
                                  refine xr_aload_n D_Mo_within_254 rfl rfl ?_
                                  refine xr_cVx (as := []) (c_Mo_tell_34 (k := k) (htl (by grind) (by grind)).1 (htl (by grind) (by grind)).2.1 (htl (by grind) (by grind)).2.2.1 h0 (htl (by grind) (by grind)).2.2.2.1 hf0 hf1 hs (htl (by grind) (by grind)).2.2.2.2.1 (htl (by grind) (by grind)).2.2.2.2.2) (L_Mo_316) (CD_Mo_tell) CI_Mo D_Mo_within_255 rfl rfl (by decide) (Nat.le_of_ble_eq_true rfl) (Nat.le_of_eq (Nat.zero_add _)) (Nat.le_of_eq (Nat.zero_add _)) pic_len ?_
                                  intro o9 ho9
                                  obtain ⟨x9, I9, A9, rfl⟩ := sh_qMo_tell ho9
                                  refine ⟨_, _, rfl, pic_leq, ?_⟩
                                  refine xr_goto (tgt := 262) D_Mo_within_258 rfl ?_
                                  refine xr_iret rfl D_Mo_within_262 ?_
                                  exact Or.inr (Or.inr (Or.inr (Or.inr (Or.inr (Or.inr (Or.inr (Or.inr (Or.inr (Or.inr (Or.inr (Or.inr (Or.inl ⟨by grind, ho9⟩))))))))))))
                              · exfalso; grind
                          · exfalso; grind
                      · exfalso; grind
                  · exfalso; grind
                · exfalso; grind
              · exfalso; grind
            · exfalso; grind
          · exfalso; grind
        · exfalso; grind
      · exfalso; grind
    · exfalso; grind
  · refine xr_iload_n D_Mo_within_0 rfl rfl ?_
    refine xr_sipush (v := 128) D_Mo_within_1 rfl ?_
    refine xr_icmp_ge (tgt := 14) D_Mo_within_4 rfl (fun c1 => ?_) (fun c1 => ?_)
    · refine xr_iload_n D_Mo_within_14 rfl rfl ?_
      refine xr_sipush (v := 132) D_Mo_within_15 rfl ?_
      refine xr_icmp_ge (tgt := 45) D_Mo_within_18 rfl (fun c2 => ?_) (fun c2 => ?_)
      · refine xr_iload_n D_Mo_within_45 rfl rfl ?_
        refine xr_sipush (v := 132) D_Mo_within_46 rfl ?_
        refine xr_icmp_ne (tgt := 58) D_Mo_within_49 rfl (fun c3 => ?_) (fun c3 => ?_)
        · refine xr_iload_n D_Mo_within_58 rfl rfl ?_
          refine xr_sipush (v := 137) D_Mo_within_59 rfl ?_
          refine xr_icmp_ge (tgt := 89) D_Mo_within_62 rfl (fun c4 => ?_) (fun c4 => ?_)
          · refine xr_iload_n D_Mo_within_89 rfl rfl ?_
            refine xr_sipush (v := 137) D_Mo_within_90 rfl ?_
            refine xr_icmp_ne (tgt := 102) D_Mo_within_93 rfl (fun c5 => ?_) (fun c5 => ?_)
            · refine xr_iload_n D_Mo_within_102 rfl rfl ?_
              refine xr_sipush (v := 140) D_Mo_within_103 rfl ?_
              refine xr_icmp_ne (tgt := 141) D_Mo_within_106 rfl (fun c6 => ?_) (fun c6 => ?_)
              · refine xr_iload_n D_Mo_within_141 rfl rfl ?_
                refine xr_sipush (v := 141) D_Mo_within_142 rfl ?_
                refine xr_icmp_ne (tgt := 153) D_Mo_within_145 rfl (fun c7 => ?_) (fun c7 => ?_)
                · refine xr_iload_n D_Mo_within_153 rfl rfl ?_
                  refine xr_sipush (v := 142) D_Mo_within_154 rfl ?_
                  refine xr_icmp_ne (tgt := 165) D_Mo_within_157 rfl (fun c8 => ?_) (fun c8 => ?_)
                  · refine xr_iload_n D_Mo_within_165 rfl rfl ?_
                    refine xr_sipush (v := 142) D_Mo_within_166 rfl ?_
                    refine xr_icmp_le (tgt := 185) D_Mo_within_169 rfl (fun c9 => ?_) (fun c9 => ?_)
                    · exfalso; grind
                    · refine xr_iload_n D_Mo_within_172 rfl rfl ?_
                      refine xr_sipush (v := 171) D_Mo_within_173 rfl ?_
                      refine xr_icmp_ge (tgt := 185) D_Mo_within_176 rfl (fun c10 => ?_) (fun c10 => ?_)
                      · refine xr_iload_n D_Mo_within_185 rfl rfl ?_
                        refine xr_sipush (v := 170) D_Mo_within_186 rfl ?_
                        refine xr_icmp_le (tgt := 209) D_Mo_within_189 rfl (fun c11 => ?_) (fun c11 => ?_)
                        · exfalso; grind
                        · refine xr_iload_n D_Mo_within_192 rfl rfl ?_
                          refine xr_sipush (v := 235) D_Mo_within_193 rfl ?_
                          refine xr_icmp_ge (tgt := 209) D_Mo_within_196 rfl (fun c12 => ?_) (fun c12 => ?_)
                          · refine xr_iload_n D_Mo_within_209 rfl rfl ?_
                            refine xr_sipush (v := 234) D_Mo_within_210 rfl ?_
                            refine xr_icmp_le (tgt := 246) D_Mo_within_213 rfl (fun c13 => ?_) (fun c13 => ?_)
                            · exfalso; grind
                            · refine xr_iload_n D_Mo_within_216 rfl rfl ?_
                              refine xr_sipush (v := 239) D_Mo_within_217 rfl ?_
                              refine xr_icmp_ge (tgt := 246) D_Mo_within_220 rfl (fun c14 => ?_) (fun c14 => ?_)
                              · refine xr_aload_n D_Mo_within_246 rfl rfl ?_
                                refine xr_iload_n D_Mo_within_247 rfl rfl ?_
                                refine xr_cVx (as := [_]) (c_Mo_isFontTold_34) (L_Mo_235) (CD_Mo_isFontTold) CI_Mo D_Mo_within_248 rfl rfl (by decide) (Nat.le_of_ble_eq_true rfl) (Nat.le_of_eq (Nat.zero_add _)) (Nat.le_of_eq (Nat.zero_add _)) pic_len ?_
                                rintro _ rfl
                                refine ⟨_, _, rfl, pic_leq, ?_⟩
                                refine xr_if_eq (tgt := 261) D_Mo_within_251 rfl (fun c15 => ?_) (fun c15 => ?_)
                                · rw [b2_0] at c15
                                  refine xr_iconst (v := 0) D_Mo_within_261 rfl ?_
                                  refine xr_iret rfl D_Mo_within_262 ?_
                                  exact Or.inr (Or.inr (Or.inr (Or.inr (Or.inr (Or.inr (Or.inr (Or.inr (Or.inr (Or.inr (Or.inr (Or.inr (Or.inr (⟨by grind, rfl⟩)))))))))))))
                                · rw [b2_n] at c15
                                  exfalso; grind
                              · exfalso; grind
                          · exfalso; grind
                      · exfalso; grind
                  · exfalso; grind
                · exfalso; grind
              · exfalso; grind
            · exfalso; grind
          · exfalso; grind
        · exfalso; grind
      · exfalso; grind
    · exfalso; grind

set_option maxHeartbeats 2000000 in
theorem c_Mo_outside_34 {I : mI} {A : mA} {L : mL} {c : Int32} {k : Nat} (hbe : c = 139 → I 3444 < 69956) (hpo : c = 248 → I 3444 < 69972) (hve : c = 249 → I 3444 < 69995) (htl : 242 < c → c < 247 → tlP I A k) (h0 : 0 ≤ I 3444) (hs : I 3445 ≤ 70000) (g0 : 0 ≤ I 3434) (g1 : I 3434 ≤ 1300) (hf0 : 0 ≤ I 3436) (hf1 : I 3436 ≤ 256) : xm m_Mo_outside (5, 112) [.ref 34, .int c] (pic I A L) 0 0 (fun o => ((c = 247) ∧ o = (.inl (some (.int 0)), pic (upd I 3443 1) A L)) ∨ ((c = 139) ∧ qMo_beginPage I A L o) ∨ ((c = 248) ∧ qMo_post I A L o) ∨ ((c = 249 ∧ nrd (gmt (A 54)) (I 3444 + 1) 4 = I 3447) ∧ o = (.inl (some (.int 0)), pic (upd I 3443 4) A L)) ∨ ((c = 249 ∧ ¬ nrd (gmt (A 54)) (I 3444 + 1) 4 = I 3447) ∧ o = (.inl (some (.int 5)), pic (upd I 3443 4) A L)) ∨ ((242 < c ∧ c < 247) ∧ qMo_tell I A L k o) ∨ ((¬ c = 247 ∧ ¬ c = 139 ∧ ¬ c = 248 ∧ ¬ c = 249 ∧ ¬ (242 < c ∧ c < 247)) ∧ o = (.inl (some (.int 0)), pic I A L))) := by
  refine xm_of rfl (by decide) (Nat.le_of_ble_eq_true rfl) ?_
  refine xr_iload_n D_Mo_outside_0 rfl rfl ?_
  refine xr_sipush (v := 247) D_Mo_outside_1 rfl ?_
  refine xr_icmp_ne (tgt := 15) D_Mo_outside_4 rfl (fun c1 => ?_) (fun c1 => ?_)
  · refine xr_iload_n D_Mo_outside_15 rfl rfl ?_
    refine xr_sipush (v := 139) D_Mo_outside_16 rfl ?_
    refine xr_icmp_ne (tgt := 27) D_Mo_outside_19 rfl (fun c2 => ?_) (fun c2 => ?_)
    · refine xr_iload_n D_Mo_outside_27 rfl rfl ?_
      refine xr_sipush (v := 248) D_Mo_outside_28 rfl ?_
      refine xr_icmp_ne (tgt := 39) D_Mo_outside_31 rfl (fun c3 => ?_) (fun c3 => ?_)
      · refine xr_iload_n D_Mo_outside_39 rfl rfl ?_
        refine xr_sipush (v := 249) D_Mo_outside_40 rfl ?_
        refine xr_icmp_ne (tgt := 76) D_Mo_outside_43 rfl (fun c4 => ?_) (fun c4 => ?_)
        · refine xr_aload_n D_Mo_outside_76 rfl rfl ?_
          refine xr_iload_n D_Mo_outside_77 rfl rfl ?_
          refine xr_cVx (as := [_]) (c_Mo_isFontTold_34) (L_Mo_235) (CD_Mo_isFontTold) CI_Mo D_Mo_outside_78 rfl rfl (by decide) (Nat.le_of_ble_eq_true rfl) (Nat.le_of_eq (Nat.zero_add _)) (Nat.le_of_eq (Nat.zero_add _)) pic_len ?_
          rintro _ rfl
          refine ⟨_, _, rfl, pic_leq, ?_⟩
          refine xr_if_eq (tgt := 89) D_Mo_outside_81 rfl (fun c5 => ?_) (fun c5 => ?_)
          · rw [b2_0] at c5
            refine xr_iconst (v := 0) D_Mo_outside_89 rfl ?_
            refine xr_iret rfl D_Mo_outside_90 ?_
            exact Or.inr (Or.inr (Or.inr (Or.inr (Or.inr (Or.inr (⟨by grind, rfl⟩))))))
          · rw [b2_n] at c5
            refine xr_aload_n D_Mo_outside_84 rfl rfl ?_
            refine xr_cVx (as := []) (c_Mo_tell_34 (k := k) (htl (by grind) (by grind)).1 (htl (by grind) (by grind)).2.1 (htl (by grind) (by grind)).2.2.1 h0 (htl (by grind) (by grind)).2.2.2.1 hf0 hf1 hs (htl (by grind) (by grind)).2.2.2.2.1 (htl (by grind) (by grind)).2.2.2.2.2) (L_Mo_316) (CD_Mo_tell) CI_Mo D_Mo_outside_85 rfl rfl (by decide) (Nat.le_of_ble_eq_true rfl) (Nat.le_of_eq (Nat.zero_add _)) (Nat.le_of_eq (Nat.zero_add _)) pic_len ?_
            intro o9 ho9
            obtain ⟨x9, I9, A9, rfl⟩ := sh_qMo_tell ho9
            refine ⟨_, _, rfl, pic_leq, ?_⟩
            refine xr_iret rfl D_Mo_outside_88 ?_
            exact Or.inr (Or.inr (Or.inr (Or.inr (Or.inr (Or.inl ⟨by grind, ho9⟩)))))
        · refine xr_aload_n D_Mo_outside_46 rfl rfl ?_
          refine xr_iconst (v := 4) D_Mo_outside_47 rfl ?_
          refine xr_putf F_Mo_232 FT_Mo FN_Mo_43 D_Mo_outside_48 rfl (Nat.le_of_ble_eq_true rfl) rfl rfl (pset_34_43) ?_
          refine xr_aload_n D_Mo_outside_51 rfl rfl ?_
          refine xr_aload_n D_Mo_outside_52 rfl rfl ?_
          refine xr_getf F_Mo_203 D_Mo_outside_53 rfl rfl ?_
          refine xr_iconst (v := 1) D_Mo_outside_56 rfl ?_
          refine xr_iadd D_Mo_outside_57 ?_
          refine xr_iconst (v := 4) D_Mo_outside_58 rfl ?_
          refine xr_iconst (v := 1) D_Mo_outside_59 rfl ?_
          refine xr_cVx (as := [_, _, _]) (c_Mo_num4 (show 0 ≤ I 3444 + 1 by grind) (show I 3444 + 1 < 69997 by grind)) (L_Mo_220) (CD_Mo_number) CI_Mo D_Mo_outside_60 rfl rfl (by decide) (Nat.le_of_ble_eq_true rfl) (Nat.le_of_eq (Nat.zero_add _)) (Nat.le_of_eq (Nat.zero_add _)) pic_len ?_
          rintro _ rfl
          refine ⟨_, _, rfl, pic_leq, ?_⟩
          refine xr_aload_n D_Mo_outside_63 rfl rfl ?_
          refine xr_getf F_Mo_276 D_Mo_outside_64 rfl rfl ?_
          refine xr_icmp_eq (tgt := 74) D_Mo_outside_67 rfl (fun c5 => ?_) (fun c5 => ?_)
          · refine xr_iconst (v := 0) D_Mo_outside_74 rfl ?_
            refine xr_iret rfl D_Mo_outside_75 ?_
            exact Or.inr (Or.inr (Or.inr (Or.inl ⟨by grind [upd], rfl⟩)))
          · refine xr_iconst (v := 5) D_Mo_outside_70 rfl ?_
            refine xr_goto (tgt := 75) D_Mo_outside_71 rfl ?_
            refine xr_iret rfl D_Mo_outside_75 ?_
            exact Or.inr (Or.inr (Or.inr (Or.inr (Or.inl ⟨by grind [upd], rfl⟩))))
      · refine xr_aload_n D_Mo_outside_34 rfl rfl ?_
        refine xr_cVx (as := []) (c_Mo_post_34 h0 (hpo (by grind))) (L_Mo_322) (CD_Mo_post) CI_Mo D_Mo_outside_35 rfl rfl (by decide) (Nat.le_of_ble_eq_true rfl) (Nat.le_of_eq (Nat.zero_add _)) (Nat.le_of_eq (Nat.zero_add _)) pic_len ?_
        intro o9 ho9
        obtain ⟨x9, I9, A9, rfl⟩ := sh_qMo_post ho9
        refine ⟨_, _, rfl, pic_leq, ?_⟩
        refine xr_iret rfl D_Mo_outside_38 ?_
        exact Or.inr (Or.inr (Or.inl ⟨by grind, ho9⟩))
    · refine xr_aload_n D_Mo_outside_22 rfl rfl ?_
      refine xr_cVx (as := []) (c_Mo_beginPage_34 h0 (hbe (by grind)) g0 g1) (L_Mo_319) (CD_Mo_beginPage) CI_Mo D_Mo_outside_23 rfl rfl (by decide) (Nat.le_of_ble_eq_true rfl) (Nat.le_of_eq (Nat.zero_add _)) (Nat.le_of_eq (Nat.zero_add _)) pic_len ?_
      intro o9 ho9
      obtain ⟨x9, I9, A9, rfl⟩ := sh_qMo_beginPage ho9
      refine ⟨_, _, rfl, pic_leq, ?_⟩
      refine xr_iret rfl D_Mo_outside_26 ?_
      exact Or.inr (Or.inl ⟨by grind, ho9⟩)
  · refine xr_aload_n D_Mo_outside_7 rfl rfl ?_
    refine xr_iconst (v := 1) D_Mo_outside_8 rfl ?_
    refine xr_putf F_Mo_232 FT_Mo FN_Mo_43 D_Mo_outside_9 rfl (Nat.le_of_ble_eq_true rfl) rfl rfl (pset_34_43) ?_
    refine xr_goto (tgt := 89) D_Mo_outside_12 rfl ?_
    refine xr_iconst (v := 0) D_Mo_outside_89 rfl ?_
    refine xr_iret rfl D_Mo_outside_90 ?_
    exact Or.inl ⟨by grind, rfl⟩

def t_Mo_setCharacter (I : mI) (A : mA) (c : Int32) (mv : Int32) (f9 : Int32) (I2 : mI) (A2 : mA) : Prop := ((I 3449 = 0) ∧ f9 = 7 ∧ I2 = I ∧ A2 = A) ∨ (((¬ I 3449 = 0 ∧ ((0 ≤ I 3448 ∧ I 3448 ≤ 255) ∧ 0 ≤ c ∧ c ≤ 255)) ∧ ¬ mv = 0 ∧ ¬ fitL (smG (A 60 0) (A 41 (256 * I 3448 + c).toNatClampNeg))) ∧ f9 = 8 ∧ I2 = I ∧ A2 = A) ∨ (((¬ I 3449 = 0 ∧ ((0 ≤ I 3448 ∧ I 3448 ≤ 255) ∧ 0 ≤ c ∧ c ≤ 255)) ∧ (¬ mv = 0 ∧ fitL (smG (A 60 0) (A 41 (256 * I 3448 + c).toNatClampNeg))) ∧ I 3432 = 2000) ∧ f9 = 9 ∧ I2 = I ∧ A2 = A) ∨ (((¬ I 3449 = 0 ∧ ((0 ≤ I 3448 ∧ I 3448 ≤ 255) ∧ 0 ≤ c ∧ c ≤ 255)) ∧ (¬ mv = 0 ∧ fitL (smG (A 60 0) (A 41 (256 * I 3448 + c).toNatClampNeg))) ∧ ¬ I 3432 = 2000) ∧ f9 = 0 ∧ I2 = (upd I 3432 (I 3432 + 1)) ∧ A2 = (upA (upA (upA (upA (upA (upA (upA A 55 (6 * I 3432).toNatClampNeg (I 3434 - 1)) 55 (6 * I 3432 + 1).toNatClampNeg (I 3448)) 55 (6 * I 3432 + 2).toNatClampNeg (c)) 55 (6 * I 3432 + 3).toNatClampNeg (A 60 0)) 55 (6 * I 3432 + 4).toNatClampNeg (A 60 1)) 55 (6 * I 3432 + 5).toNatClampNeg (0)) 60 0 (smG (A 60 0) (A 41 (256 * I 3448 + c).toNatClampNeg)).toInt32)) ∨ (((¬ I 3449 = 0 ∧ ((0 ≤ I 3448 ∧ I 3448 ≤ 255) ∧ 0 ≤ c ∧ c ≤ 255)) ∧ (mv = 0) ∧ I 3432 = 2000) ∧ f9 = 9 ∧ I2 = I ∧ A2 = A) ∨ (((¬ I 3449 = 0 ∧ ((0 ≤ I 3448 ∧ I 3448 ≤ 255) ∧ 0 ≤ c ∧ c ≤ 255)) ∧ (mv = 0) ∧ ¬ I 3432 = 2000) ∧ f9 = 0 ∧ I2 = (upd I 3432 (I 3432 + 1)) ∧ A2 = (upA (upA (upA (upA (upA (upA A 55 (6 * I 3432).toNatClampNeg (I 3434 - 1)) 55 (6 * I 3432 + 1).toNatClampNeg (I 3448)) 55 (6 * I 3432 + 2).toNatClampNeg (c)) 55 (6 * I 3432 + 3).toNatClampNeg (A 60 0)) 55 (6 * I 3432 + 4).toNatClampNeg (A 60 1)) 55 (6 * I 3432 + 5).toNatClampNeg (0))) ∨ (((¬ I 3449 = 0 ∧ ¬ ((0 ≤ I 3448 ∧ I 3448 ≤ 255) ∧ 0 ≤ c ∧ c ≤ 255)) ∧ ¬ mv = 0 ∧ ¬ fitL (smG (A 60 0) (0))) ∧ f9 = 8 ∧ I2 = I ∧ A2 = A) ∨ (((¬ I 3449 = 0 ∧ ¬ ((0 ≤ I 3448 ∧ I 3448 ≤ 255) ∧ 0 ≤ c ∧ c ≤ 255)) ∧ (¬ mv = 0 ∧ fitL (smG (A 60 0) (0))) ∧ I 3432 = 2000) ∧ f9 = 9 ∧ I2 = I ∧ A2 = A) ∨ (((¬ I 3449 = 0 ∧ ¬ ((0 ≤ I 3448 ∧ I 3448 ≤ 255) ∧ 0 ≤ c ∧ c ≤ 255)) ∧ (¬ mv = 0 ∧ fitL (smG (A 60 0) (0))) ∧ ¬ I 3432 = 2000) ∧ f9 = 0 ∧ I2 = (upd I 3432 (I 3432 + 1)) ∧ A2 = (upA (upA (upA (upA (upA (upA (upA A 55 (6 * I 3432).toNatClampNeg (I 3434 - 1)) 55 (6 * I 3432 + 1).toNatClampNeg (I 3448)) 55 (6 * I 3432 + 2).toNatClampNeg (c)) 55 (6 * I 3432 + 3).toNatClampNeg (A 60 0)) 55 (6 * I 3432 + 4).toNatClampNeg (A 60 1)) 55 (6 * I 3432 + 5).toNatClampNeg (0)) 60 0 (smG (A 60 0) (0)).toInt32)) ∨ (((¬ I 3449 = 0 ∧ ¬ ((0 ≤ I 3448 ∧ I 3448 ≤ 255) ∧ 0 ≤ c ∧ c ≤ 255)) ∧ (mv = 0) ∧ I 3432 = 2000) ∧ f9 = 9 ∧ I2 = I ∧ A2 = A) ∨ (((¬ I 3449 = 0 ∧ ¬ ((0 ≤ I 3448 ∧ I 3448 ≤ 255) ∧ 0 ≤ c ∧ c ≤ 255)) ∧ (mv = 0) ∧ ¬ I 3432 = 2000) ∧ f9 = 0 ∧ I2 = (upd I 3432 (I 3432 + 1)) ∧ A2 = (upA (upA (upA (upA (upA (upA A 55 (6 * I 3432).toNatClampNeg (I 3434 - 1)) 55 (6 * I 3432 + 1).toNatClampNeg (I 3448)) 55 (6 * I 3432 + 2).toNatClampNeg (c)) 55 (6 * I 3432 + 3).toNatClampNeg (A 60 0)) 55 (6 * I 3432 + 4).toNatClampNeg (A 60 1)) 55 (6 * I 3432 + 5).toNatClampNeg (0)))
theorem tq_Mo_setCharacter {I : mI} {A : mA} {L : mL} {c : Int32} {mv : Int32} {o : xO} (h : qMo_setCharacter I A L c mv o) : ∃ (f9 : Int32) (I2 : mI) (A2 : mA), o = (.inl (some (.int f9)), pic I2 A2 L) ∧ t_Mo_setCharacter I A c mv f9 I2 A2 := by
  rcases h with ⟨h, rfl⟩ | ⟨h, rfl⟩ | ⟨h, rfl⟩ | ⟨h, rfl⟩ | ⟨h, rfl⟩ | ⟨h, rfl⟩ | ⟨h, rfl⟩ | ⟨h, rfl⟩ | ⟨h, rfl⟩ | ⟨h, rfl⟩ | ⟨h, rfl⟩
  · exact ⟨_, _, _, rfl, Or.inl ⟨h, rfl, rfl, rfl⟩⟩
  · exact ⟨_, _, _, rfl, Or.inr (Or.inl ⟨h, rfl, rfl, rfl⟩)⟩
  · exact ⟨_, _, _, rfl, Or.inr (Or.inr (Or.inl ⟨h, rfl, rfl, rfl⟩))⟩
  · exact ⟨_, _, _, rfl, Or.inr (Or.inr (Or.inr (Or.inl ⟨h, rfl, rfl, rfl⟩)))⟩
  · exact ⟨_, _, _, rfl, Or.inr (Or.inr (Or.inr (Or.inr (Or.inl ⟨h, rfl, rfl, rfl⟩))))⟩
  · exact ⟨_, _, _, rfl, Or.inr (Or.inr (Or.inr (Or.inr (Or.inr (Or.inl ⟨h, rfl, rfl, rfl⟩)))))⟩
  · exact ⟨_, _, _, rfl, Or.inr (Or.inr (Or.inr (Or.inr (Or.inr (Or.inr (Or.inl ⟨h, rfl, rfl, rfl⟩))))))⟩
  · exact ⟨_, _, _, rfl, Or.inr (Or.inr (Or.inr (Or.inr (Or.inr (Or.inr (Or.inr (Or.inl ⟨h, rfl, rfl, rfl⟩)))))))⟩
  · exact ⟨_, _, _, rfl, Or.inr (Or.inr (Or.inr (Or.inr (Or.inr (Or.inr (Or.inr (Or.inr (Or.inl ⟨h, rfl, rfl, rfl⟩))))))))⟩
  · exact ⟨_, _, _, rfl, Or.inr (Or.inr (Or.inr (Or.inr (Or.inr (Or.inr (Or.inr (Or.inr (Or.inr (Or.inl ⟨h, rfl, rfl, rfl⟩)))))))))⟩
  · exact ⟨_, _, _, rfl, Or.inr (Or.inr (Or.inr (Or.inr (Or.inr (Or.inr (Or.inr (Or.inr (Or.inr (Or.inr (⟨h, rfl, rfl, rfl⟩))))))))))⟩
def t_Mo_setRule (I : mI) (A : mA) (mv : Int32) (f9 : Int32) (I2 : mI) (A2 : mA) : Prop := ((¬ mv = 0 ∧ ¬ fitL (smG (A 60 0) (nrd (gmt (A 54)) (I 3444 + 5) 4))) ∧ f9 = 8 ∧ I2 = I ∧ A2 = A) ∨ (((¬ mv = 0 ∧ fitL (smG (A 60 0) (nrd (gmt (A 54)) (I 3444 + 5) 4))) ∧ (0 < nrd (gmt (A 54)) (I 3444 + 1) 4 ∧ 0 < nrd (gmt (A 54)) (I 3444 + 5) 4) ∧ I 3432 = 2000) ∧ f9 = 9 ∧ I2 = I ∧ A2 = A) ∨ (((¬ mv = 0 ∧ fitL (smG (A 60 0) (nrd (gmt (A 54)) (I 3444 + 5) 4))) ∧ (0 < nrd (gmt (A 54)) (I 3444 + 1) 4 ∧ 0 < nrd (gmt (A 54)) (I 3444 + 5) 4) ∧ ¬ I 3432 = 2000) ∧ f9 = 0 ∧ I2 = (upd I 3432 (I 3432 + 1)) ∧ A2 = (upA (upA (upA (upA (upA (upA (upA A 55 (6 * I 3432).toNatClampNeg (I 3434 - 1)) 55 (6 * I 3432 + 1).toNatClampNeg (-1)) 55 (6 * I 3432 + 2).toNatClampNeg (nrd (gmt (A 54)) (I 3444 + 5) 4)) 55 (6 * I 3432 + 3).toNatClampNeg (A 60 0)) 55 (6 * I 3432 + 4).toNatClampNeg (A 60 1)) 55 (6 * I 3432 + 5).toNatClampNeg (nrd (gmt (A 54)) (I 3444 + 1) 4)) 60 0 (smG (A 60 0) (nrd (gmt (A 54)) (I 3444 + 5) 4)).toInt32)) ∨ (((¬ mv = 0 ∧ fitL (smG (A 60 0) (nrd (gmt (A 54)) (I 3444 + 5) 4))) ∧ ¬ (0 < nrd (gmt (A 54)) (I 3444 + 1) 4 ∧ 0 < nrd (gmt (A 54)) (I 3444 + 5) 4)) ∧ f9 = 0 ∧ I2 = I ∧ A2 = (upA A 60 0 (smG (A 60 0) (nrd (gmt (A 54)) (I 3444 + 5) 4)).toInt32)) ∨ (((mv = 0) ∧ (0 < nrd (gmt (A 54)) (I 3444 + 1) 4 ∧ 0 < nrd (gmt (A 54)) (I 3444 + 5) 4) ∧ I 3432 = 2000) ∧ f9 = 9 ∧ I2 = I ∧ A2 = A) ∨ (((mv = 0) ∧ (0 < nrd (gmt (A 54)) (I 3444 + 1) 4 ∧ 0 < nrd (gmt (A 54)) (I 3444 + 5) 4) ∧ ¬ I 3432 = 2000) ∧ f9 = 0 ∧ I2 = (upd I 3432 (I 3432 + 1)) ∧ A2 = (upA (upA (upA (upA (upA (upA A 55 (6 * I 3432).toNatClampNeg (I 3434 - 1)) 55 (6 * I 3432 + 1).toNatClampNeg (-1)) 55 (6 * I 3432 + 2).toNatClampNeg (nrd (gmt (A 54)) (I 3444 + 5) 4)) 55 (6 * I 3432 + 3).toNatClampNeg (A 60 0)) 55 (6 * I 3432 + 4).toNatClampNeg (A 60 1)) 55 (6 * I 3432 + 5).toNatClampNeg (nrd (gmt (A 54)) (I 3444 + 1) 4))) ∨ (((mv = 0) ∧ ¬ (0 < nrd (gmt (A 54)) (I 3444 + 1) 4 ∧ 0 < nrd (gmt (A 54)) (I 3444 + 5) 4)) ∧ f9 = 0 ∧ I2 = I ∧ A2 = A)
theorem tq_Mo_setRule {I : mI} {A : mA} {L : mL} {mv : Int32} {o : xO} (h : qMo_setRule I A L mv o) : ∃ (f9 : Int32) (I2 : mI) (A2 : mA), o = (.inl (some (.int f9)), pic I2 A2 L) ∧ t_Mo_setRule I A mv f9 I2 A2 := by
  rcases h with ⟨h, rfl⟩ | ⟨h, rfl⟩ | ⟨h, rfl⟩ | ⟨h, rfl⟩ | ⟨h, rfl⟩ | ⟨h, rfl⟩ | ⟨h, rfl⟩
  · exact ⟨_, _, _, rfl, Or.inl ⟨h, rfl, rfl, rfl⟩⟩
  · exact ⟨_, _, _, rfl, Or.inr (Or.inl ⟨h, rfl, rfl, rfl⟩)⟩
  · exact ⟨_, _, _, rfl, Or.inr (Or.inr (Or.inl ⟨h, rfl, rfl, rfl⟩))⟩
  · exact ⟨_, _, _, rfl, Or.inr (Or.inr (Or.inr (Or.inl ⟨h, rfl, rfl, rfl⟩)))⟩
  · exact ⟨_, _, _, rfl, Or.inr (Or.inr (Or.inr (Or.inr (Or.inl ⟨h, rfl, rfl, rfl⟩))))⟩
  · exact ⟨_, _, _, rfl, Or.inr (Or.inr (Or.inr (Or.inr (Or.inr (Or.inl ⟨h, rfl, rfl, rfl⟩)))))⟩
  · exact ⟨_, _, _, rfl, Or.inr (Or.inr (Or.inr (Or.inr (Or.inr (Or.inr (⟨h, rfl, rfl, rfl⟩))))))⟩
def t_Mo_push (I : mI) (A : mA)  (f9 : Int32) (I2 : mI) (A2 : mA) : Prop := ((I 3450 = 100) ∧ f9 = 4 ∧ I2 = I ∧ A2 = A) ∨ ((¬ I 3450 = 100 ∧ I 3442 < I 3450 + 1) ∧ f9 = 0 ∧ I2 = (upd (upd I 3450 (I 3450 + 1)) 3442 (I 3450 + 1)) ∧ A2 = (upA (upA (upA (upA (upA (upA A 59 (6 * I 3450 + 0).toNatClampNeg (A 60 0)) 59 (6 * I 3450 + 1).toNatClampNeg (A 60 1)) 59 (6 * I 3450 + 2).toNatClampNeg (A 60 2)) 59 (6 * I 3450 + 3).toNatClampNeg (A 60 3)) 59 (6 * I 3450 + 4).toNatClampNeg (A 60 4)) 59 (6 * I 3450 + 5).toNatClampNeg (A 60 5))) ∨ ((¬ I 3450 = 100 ∧ ¬ I 3442 < I 3450 + 1) ∧ f9 = 0 ∧ I2 = (upd (upd I 3450 (I 3450 + 1)) 3442 (I 3442)) ∧ A2 = (upA (upA (upA (upA (upA (upA A 59 (6 * I 3450 + 0).toNatClampNeg (A 60 0)) 59 (6 * I 3450 + 1).toNatClampNeg (A 60 1)) 59 (6 * I 3450 + 2).toNatClampNeg (A 60 2)) 59 (6 * I 3450 + 3).toNatClampNeg (A 60 3)) 59 (6 * I 3450 + 4).toNatClampNeg (A 60 4)) 59 (6 * I 3450 + 5).toNatClampNeg (A 60 5)))
theorem tq_Mo_push {I : mI} {A : mA} {L : mL}  {o : xO} (h : qMo_push I A L  o) : ∃ (f9 : Int32) (I2 : mI) (A2 : mA), o = (.inl (some (.int f9)), pic I2 A2 L) ∧ t_Mo_push I A  f9 I2 A2 := by
  rcases h with ⟨h, rfl⟩ | ⟨h, rfl⟩ | ⟨h, rfl⟩
  · exact ⟨_, _, _, rfl, Or.inl ⟨h, rfl, rfl, rfl⟩⟩
  · exact ⟨_, _, _, rfl, Or.inr (Or.inl ⟨h, rfl, rfl, rfl⟩)⟩
  · exact ⟨_, _, _, rfl, Or.inr (Or.inr (⟨h, rfl, rfl, rfl⟩))⟩
def t_Mo_pop (I : mI) (A : mA)  (f9 : Int32) (I2 : mI) (A2 : mA) : Prop := ((I 3450 = 0) ∧ f9 = 4 ∧ I2 = I ∧ A2 = A) ∨ ((¬ I 3450 = 0) ∧ f9 = 0 ∧ I2 = (upd I 3450 (I 3450 - 1)) ∧ A2 = (upAf A 60 (ppM (A 59) (I 3450 - 1) 6 0 (A 60))))
theorem tq_Mo_pop {I : mI} {A : mA} {L : mL}  {o : xO} (h : qMo_pop I A L  o) : ∃ (f9 : Int32) (I2 : mI) (A2 : mA), o = (.inl (some (.int f9)), pic I2 A2 L) ∧ t_Mo_pop I A  f9 I2 A2 := by
  rcases h with ⟨h, rfl⟩ | ⟨h, rfl⟩
  · exact ⟨_, _, _, rfl, Or.inl ⟨h, rfl, rfl, rfl⟩⟩
  · exact ⟨_, _, _, rfl, Or.inr (⟨h, rfl, rfl, rfl⟩)⟩
def t_Mo_moveBy (I : mI) (A : mA) (c : Int32) (k : Nat) (f9 : Int32) (I2 : mI) (A2 : mA) : Prop := ((((c < 147) ∧ 0 < mbF c) ∧ fitL (smG (A 60 0) (if (¬ (1 : Int32) = 0 ∧ mbF c < 4 ∧ 127 < gmt (A 54) (I 3444 + 1)) then nrd (gmt (A 54)) (I 3444 + 1) k - (1 <<< ((8 * mbF c) &&& 31)) else nrd (gmt (A 54)) (I 3444 + 1) k))) ∧ f9 = 0 ∧ I2 = I ∧ A2 = (upA A 60 0 (smG (A 60 0) (if (¬ (1 : Int32) = 0 ∧ mbF c < 4 ∧ 127 < gmt (A 54) (I 3444 + 1)) then nrd (gmt (A 54)) (I 3444 + 1) k - (1 <<< ((8 * mbF c) &&& 31)) else nrd (gmt (A 54)) (I 3444 + 1) k)).toInt32)) ∨ ((((c < 147) ∧ 0 < mbF c) ∧ ¬ fitL (smG (A 60 0) (if (¬ (1 : Int32) = 0 ∧ mbF c < 4 ∧ 127 < gmt (A 54) (I 3444 + 1)) then nrd (gmt (A 54)) (I 3444 + 1) k - (1 <<< ((8 * mbF c) &&& 31)) else nrd (gmt (A 54)) (I 3444 + 1) k))) ∧ f9 = 8 ∧ I2 = I ∧ A2 = A) ∨ ((((c < 147) ∧ ¬ 0 < mbF c) ∧ fitL (smG (A 60 0) (A 60 0))) ∧ f9 = 0 ∧ I2 = I ∧ A2 = (upA A 60 0 (smG (A 60 0) (A 60 0)).toInt32)) ∨ ((((c < 147) ∧ ¬ 0 < mbF c) ∧ ¬ fitL (smG (A 60 0) (A 60 0))) ∧ f9 = 8 ∧ I2 = I ∧ A2 = A) ∨ ((((¬ c < 147 ∧ c < 152) ∧ 0 < mbF c) ∧ fitL (smG (A 60 0) (if (¬ (1 : Int32) = 0 ∧ mbF c < 4 ∧ 127 < gmt (A 54) (I 3444 + 1)) then nrd (gmt (A 54)) (I 3444 + 1) k - (1 <<< ((8 * mbF c) &&& 31)) else nrd (gmt (A 54)) (I 3444 + 1) k))) ∧ f9 = 0 ∧ I2 = I ∧ A2 = (upA (upA A 60 0 (smG (A 60 0) (if (¬ (1 : Int32) = 0 ∧ mbF c < 4 ∧ 127 < gmt (A 54) (I 3444 + 1)) then nrd (gmt (A 54)) (I 3444 + 1) k - (1 <<< ((8 * mbF c) &&& 31)) else nrd (gmt (A 54)) (I 3444 + 1) k)).toInt32) 60 2 (if (¬ (1 : Int32) = 0 ∧ mbF c < 4 ∧ 127 < gmt (A 54) (I 3444 + 1)) then nrd (gmt (A 54)) (I 3444 + 1) k - (1 <<< ((8 * mbF c) &&& 31)) else nrd (gmt (A 54)) (I 3444 + 1) k))) ∨ ((((¬ c < 147 ∧ c < 152) ∧ 0 < mbF c) ∧ ¬ fitL (smG (A 60 0) (if (¬ (1 : Int32) = 0 ∧ mbF c < 4 ∧ 127 < gmt (A 54) (I 3444 + 1)) then nrd (gmt (A 54)) (I 3444 + 1) k - (1 <<< ((8 * mbF c) &&& 31)) else nrd (gmt (A 54)) (I 3444 + 1) k))) ∧ f9 = 8 ∧ I2 = I ∧ A2 = A) ∨ ((((¬ c < 147 ∧ c < 152) ∧ ¬ 0 < mbF c) ∧ fitL (smG (A 60 0) (A 60 2))) ∧ f9 = 0 ∧ I2 = I ∧ A2 = (upA (upA A 60 0 (smG (A 60 0) (A 60 2)).toInt32) 60 2 (A 60 2))) ∨ ((((¬ c < 147 ∧ c < 152) ∧ ¬ 0 < mbF c) ∧ ¬ fitL (smG (A 60 0) (A 60 2))) ∧ f9 = 8 ∧ I2 = I ∧ A2 = A) ∨ ((((¬ c < 152 ∧ c < 157) ∧ 0 < mbF c) ∧ fitL (smG (A 60 0) (if (¬ (1 : Int32) = 0 ∧ mbF c < 4 ∧ 127 < gmt (A 54) (I 3444 + 1)) then nrd (gmt (A 54)) (I 3444 + 1) k - (1 <<< ((8 * mbF c) &&& 31)) else nrd (gmt (A 54)) (I 3444 + 1) k))) ∧ f9 = 0 ∧ I2 = I ∧ A2 = (upA (upA A 60 0 (smG (A 60 0) (if (¬ (1 : Int32) = 0 ∧ mbF c < 4 ∧ 127 < gmt (A 54) (I 3444 + 1)) then nrd (gmt (A 54)) (I 3444 + 1) k - (1 <<< ((8 * mbF c) &&& 31)) else nrd (gmt (A 54)) (I 3444 + 1) k)).toInt32) 60 3 (if (¬ (1 : Int32) = 0 ∧ mbF c < 4 ∧ 127 < gmt (A 54) (I 3444 + 1)) then nrd (gmt (A 54)) (I 3444 + 1) k - (1 <<< ((8 * mbF c) &&& 31)) else nrd (gmt (A 54)) (I 3444 + 1) k))) ∨ ((((¬ c < 152 ∧ c < 157) ∧ 0 < mbF c) ∧ ¬ fitL (smG (A 60 0) (if (¬ (1 : Int32) = 0 ∧ mbF c < 4 ∧ 127 < gmt (A 54) (I 3444 + 1)) then nrd (gmt (A 54)) (I 3444 + 1) k - (1 <<< ((8 * mbF c) &&& 31)) else nrd (gmt (A 54)) (I 3444 + 1) k))) ∧ f9 = 8 ∧ I2 = I ∧ A2 = A) ∨ ((((¬ c < 152 ∧ c < 157) ∧ ¬ 0 < mbF c) ∧ fitL (smG (A 60 0) (A 60 3))) ∧ f9 = 0 ∧ I2 = I ∧ A2 = (upA (upA A 60 0 (smG (A 60 0) (A 60 3)).toInt32) 60 3 (A 60 3))) ∨ ((((¬ c < 152 ∧ c < 157) ∧ ¬ 0 < mbF c) ∧ ¬ fitL (smG (A 60 0) (A 60 3))) ∧ f9 = 8 ∧ I2 = I ∧ A2 = A) ∨ ((((¬ c < 157 ∧ c < 161) ∧ 0 < mbF c) ∧ fitL (smG (A 60 1) (if (¬ (1 : Int32) = 0 ∧ mbF c < 4 ∧ 127 < gmt (A 54) (I 3444 + 1)) then nrd (gmt (A 54)) (I 3444 + 1) k - (1 <<< ((8 * mbF c) &&& 31)) else nrd (gmt (A 54)) (I 3444 + 1) k))) ∧ f9 = 0 ∧ I2 = I ∧ A2 = (upA A 60 1 (smG (A 60 1) (if (¬ (1 : Int32) = 0 ∧ mbF c < 4 ∧ 127 < gmt (A 54) (I 3444 + 1)) then nrd (gmt (A 54)) (I 3444 + 1) k - (1 <<< ((8 * mbF c) &&& 31)) else nrd (gmt (A 54)) (I 3444 + 1) k)).toInt32)) ∨ ((((¬ c < 157 ∧ c < 161) ∧ 0 < mbF c) ∧ ¬ fitL (smG (A 60 1) (if (¬ (1 : Int32) = 0 ∧ mbF c < 4 ∧ 127 < gmt (A 54) (I 3444 + 1)) then nrd (gmt (A 54)) (I 3444 + 1) k - (1 <<< ((8 * mbF c) &&& 31)) else nrd (gmt (A 54)) (I 3444 + 1) k))) ∧ f9 = 8 ∧ I2 = I ∧ A2 = A) ∨ ((((¬ c < 157 ∧ c < 161) ∧ ¬ 0 < mbF c) ∧ fitL (smG (A 60 1) (A 60 0))) ∧ f9 = 0 ∧ I2 = I ∧ A2 = (upA A 60 1 (smG (A 60 1) (A 60 0)).toInt32)) ∨ ((((¬ c < 157 ∧ c < 161) ∧ ¬ 0 < mbF c) ∧ ¬ fitL (smG (A 60 1) (A 60 0))) ∧ f9 = 8 ∧ I2 = I ∧ A2 = A) ∨ ((((¬ c < 161 ∧ c < 166) ∧ 0 < mbF c) ∧ fitL (smG (A 60 1) (if (¬ (1 : Int32) = 0 ∧ mbF c < 4 ∧ 127 < gmt (A 54) (I 3444 + 1)) then nrd (gmt (A 54)) (I 3444 + 1) k - (1 <<< ((8 * mbF c) &&& 31)) else nrd (gmt (A 54)) (I 3444 + 1) k))) ∧ f9 = 0 ∧ I2 = I ∧ A2 = (upA (upA A 60 1 (smG (A 60 1) (if (¬ (1 : Int32) = 0 ∧ mbF c < 4 ∧ 127 < gmt (A 54) (I 3444 + 1)) then nrd (gmt (A 54)) (I 3444 + 1) k - (1 <<< ((8 * mbF c) &&& 31)) else nrd (gmt (A 54)) (I 3444 + 1) k)).toInt32) 60 4 (if (¬ (1 : Int32) = 0 ∧ mbF c < 4 ∧ 127 < gmt (A 54) (I 3444 + 1)) then nrd (gmt (A 54)) (I 3444 + 1) k - (1 <<< ((8 * mbF c) &&& 31)) else nrd (gmt (A 54)) (I 3444 + 1) k))) ∨ ((((¬ c < 161 ∧ c < 166) ∧ 0 < mbF c) ∧ ¬ fitL (smG (A 60 1) (if (¬ (1 : Int32) = 0 ∧ mbF c < 4 ∧ 127 < gmt (A 54) (I 3444 + 1)) then nrd (gmt (A 54)) (I 3444 + 1) k - (1 <<< ((8 * mbF c) &&& 31)) else nrd (gmt (A 54)) (I 3444 + 1) k))) ∧ f9 = 8 ∧ I2 = I ∧ A2 = A) ∨ ((((¬ c < 161 ∧ c < 166) ∧ ¬ 0 < mbF c) ∧ fitL (smG (A 60 1) (A 60 4))) ∧ f9 = 0 ∧ I2 = I ∧ A2 = (upA (upA A 60 1 (smG (A 60 1) (A 60 4)).toInt32) 60 4 (A 60 4))) ∨ ((((¬ c < 161 ∧ c < 166) ∧ ¬ 0 < mbF c) ∧ ¬ fitL (smG (A 60 1) (A 60 4))) ∧ f9 = 8 ∧ I2 = I ∧ A2 = A) ∨ ((((¬ c < 166) ∧ 0 < mbF c) ∧ fitL (smG (A 60 1) (if (¬ (1 : Int32) = 0 ∧ mbF c < 4 ∧ 127 < gmt (A 54) (I 3444 + 1)) then nrd (gmt (A 54)) (I 3444 + 1) k - (1 <<< ((8 * mbF c) &&& 31)) else nrd (gmt (A 54)) (I 3444 + 1) k))) ∧ f9 = 0 ∧ I2 = I ∧ A2 = (upA (upA A 60 1 (smG (A 60 1) (if (¬ (1 : Int32) = 0 ∧ mbF c < 4 ∧ 127 < gmt (A 54) (I 3444 + 1)) then nrd (gmt (A 54)) (I 3444 + 1) k - (1 <<< ((8 * mbF c) &&& 31)) else nrd (gmt (A 54)) (I 3444 + 1) k)).toInt32) 60 5 (if (¬ (1 : Int32) = 0 ∧ mbF c < 4 ∧ 127 < gmt (A 54) (I 3444 + 1)) then nrd (gmt (A 54)) (I 3444 + 1) k - (1 <<< ((8 * mbF c) &&& 31)) else nrd (gmt (A 54)) (I 3444 + 1) k))) ∨ ((((¬ c < 166) ∧ 0 < mbF c) ∧ ¬ fitL (smG (A 60 1) (if (¬ (1 : Int32) = 0 ∧ mbF c < 4 ∧ 127 < gmt (A 54) (I 3444 + 1)) then nrd (gmt (A 54)) (I 3444 + 1) k - (1 <<< ((8 * mbF c) &&& 31)) else nrd (gmt (A 54)) (I 3444 + 1) k))) ∧ f9 = 8 ∧ I2 = I ∧ A2 = A) ∨ ((((¬ c < 166) ∧ ¬ 0 < mbF c) ∧ fitL (smG (A 60 1) (A 60 5))) ∧ f9 = 0 ∧ I2 = I ∧ A2 = (upA (upA A 60 1 (smG (A 60 1) (A 60 5)).toInt32) 60 5 (A 60 5))) ∨ ((((¬ c < 166) ∧ ¬ 0 < mbF c) ∧ ¬ fitL (smG (A 60 1) (A 60 5))) ∧ f9 = 8 ∧ I2 = I ∧ A2 = A)
theorem tq_Mo_moveBy {I : mI} {A : mA} {L : mL} {c : Int32} {k : Nat} {o : xO} (h : qMo_moveBy I A L c k o) : ∃ (f9 : Int32) (I2 : mI) (A2 : mA), o = (.inl (some (.int f9)), pic I2 A2 L) ∧ t_Mo_moveBy I A c k f9 I2 A2 := by
  rcases h with ⟨h, rfl⟩ | ⟨h, rfl⟩ | ⟨h, rfl⟩ | ⟨h, rfl⟩ | ⟨h, rfl⟩ | ⟨h, rfl⟩ | ⟨h, rfl⟩ | ⟨h, rfl⟩ | ⟨h, rfl⟩ | ⟨h, rfl⟩ | ⟨h, rfl⟩ | ⟨h, rfl⟩ | ⟨h, rfl⟩ | ⟨h, rfl⟩ | ⟨h, rfl⟩ | ⟨h, rfl⟩ | ⟨h, rfl⟩ | ⟨h, rfl⟩ | ⟨h, rfl⟩ | ⟨h, rfl⟩ | ⟨h, rfl⟩ | ⟨h, rfl⟩ | ⟨h, rfl⟩ | ⟨h, rfl⟩
  · exact ⟨_, _, _, rfl, Or.inl ⟨h, rfl, rfl, rfl⟩⟩
  · exact ⟨_, _, _, rfl, Or.inr (Or.inl ⟨h, rfl, rfl, rfl⟩)⟩
  · exact ⟨_, _, _, rfl, Or.inr (Or.inr (Or.inl ⟨h, rfl, rfl, rfl⟩))⟩
  · exact ⟨_, _, _, rfl, Or.inr (Or.inr (Or.inr (Or.inl ⟨h, rfl, rfl, rfl⟩)))⟩
  · exact ⟨_, _, _, rfl, Or.inr (Or.inr (Or.inr (Or.inr (Or.inl ⟨h, rfl, rfl, rfl⟩))))⟩
  · exact ⟨_, _, _, rfl, Or.inr (Or.inr (Or.inr (Or.inr (Or.inr (Or.inl ⟨h, rfl, rfl, rfl⟩)))))⟩
  · exact ⟨_, _, _, rfl, Or.inr (Or.inr (Or.inr (Or.inr (Or.inr (Or.inr (Or.inl ⟨h, rfl, rfl, rfl⟩))))))⟩
  · exact ⟨_, _, _, rfl, Or.inr (Or.inr (Or.inr (Or.inr (Or.inr (Or.inr (Or.inr (Or.inl ⟨h, rfl, rfl, rfl⟩)))))))⟩
  · exact ⟨_, _, _, rfl, Or.inr (Or.inr (Or.inr (Or.inr (Or.inr (Or.inr (Or.inr (Or.inr (Or.inl ⟨h, rfl, rfl, rfl⟩))))))))⟩
  · exact ⟨_, _, _, rfl, Or.inr (Or.inr (Or.inr (Or.inr (Or.inr (Or.inr (Or.inr (Or.inr (Or.inr (Or.inl ⟨h, rfl, rfl, rfl⟩)))))))))⟩
  · exact ⟨_, _, _, rfl, Or.inr (Or.inr (Or.inr (Or.inr (Or.inr (Or.inr (Or.inr (Or.inr (Or.inr (Or.inr (Or.inl ⟨h, rfl, rfl, rfl⟩))))))))))⟩
  · exact ⟨_, _, _, rfl, Or.inr (Or.inr (Or.inr (Or.inr (Or.inr (Or.inr (Or.inr (Or.inr (Or.inr (Or.inr (Or.inr (Or.inl ⟨h, rfl, rfl, rfl⟩)))))))))))⟩
  · exact ⟨_, _, _, rfl, Or.inr (Or.inr (Or.inr (Or.inr (Or.inr (Or.inr (Or.inr (Or.inr (Or.inr (Or.inr (Or.inr (Or.inr (Or.inl ⟨h, rfl, rfl, rfl⟩))))))))))))⟩
  · exact ⟨_, _, _, rfl, Or.inr (Or.inr (Or.inr (Or.inr (Or.inr (Or.inr (Or.inr (Or.inr (Or.inr (Or.inr (Or.inr (Or.inr (Or.inr (Or.inl ⟨h, rfl, rfl, rfl⟩)))))))))))))⟩
  · exact ⟨_, _, _, rfl, Or.inr (Or.inr (Or.inr (Or.inr (Or.inr (Or.inr (Or.inr (Or.inr (Or.inr (Or.inr (Or.inr (Or.inr (Or.inr (Or.inr (Or.inl ⟨h, rfl, rfl, rfl⟩))))))))))))))⟩
  · exact ⟨_, _, _, rfl, Or.inr (Or.inr (Or.inr (Or.inr (Or.inr (Or.inr (Or.inr (Or.inr (Or.inr (Or.inr (Or.inr (Or.inr (Or.inr (Or.inr (Or.inr (Or.inl ⟨h, rfl, rfl, rfl⟩)))))))))))))))⟩
  · exact ⟨_, _, _, rfl, Or.inr (Or.inr (Or.inr (Or.inr (Or.inr (Or.inr (Or.inr (Or.inr (Or.inr (Or.inr (Or.inr (Or.inr (Or.inr (Or.inr (Or.inr (Or.inr (Or.inl ⟨h, rfl, rfl, rfl⟩))))))))))))))))⟩
  · exact ⟨_, _, _, rfl, Or.inr (Or.inr (Or.inr (Or.inr (Or.inr (Or.inr (Or.inr (Or.inr (Or.inr (Or.inr (Or.inr (Or.inr (Or.inr (Or.inr (Or.inr (Or.inr (Or.inr (Or.inl ⟨h, rfl, rfl, rfl⟩)))))))))))))))))⟩
  · exact ⟨_, _, _, rfl, Or.inr (Or.inr (Or.inr (Or.inr (Or.inr (Or.inr (Or.inr (Or.inr (Or.inr (Or.inr (Or.inr (Or.inr (Or.inr (Or.inr (Or.inr (Or.inr (Or.inr (Or.inr (Or.inl ⟨h, rfl, rfl, rfl⟩))))))))))))))))))⟩
  · exact ⟨_, _, _, rfl, Or.inr (Or.inr (Or.inr (Or.inr (Or.inr (Or.inr (Or.inr (Or.inr (Or.inr (Or.inr (Or.inr (Or.inr (Or.inr (Or.inr (Or.inr (Or.inr (Or.inr (Or.inr (Or.inr (Or.inl ⟨h, rfl, rfl, rfl⟩)))))))))))))))))))⟩
  · exact ⟨_, _, _, rfl, Or.inr (Or.inr (Or.inr (Or.inr (Or.inr (Or.inr (Or.inr (Or.inr (Or.inr (Or.inr (Or.inr (Or.inr (Or.inr (Or.inr (Or.inr (Or.inr (Or.inr (Or.inr (Or.inr (Or.inr (Or.inl ⟨h, rfl, rfl, rfl⟩))))))))))))))))))))⟩
  · exact ⟨_, _, _, rfl, Or.inr (Or.inr (Or.inr (Or.inr (Or.inr (Or.inr (Or.inr (Or.inr (Or.inr (Or.inr (Or.inr (Or.inr (Or.inr (Or.inr (Or.inr (Or.inr (Or.inr (Or.inr (Or.inr (Or.inr (Or.inr (Or.inl ⟨h, rfl, rfl, rfl⟩)))))))))))))))))))))⟩
  · exact ⟨_, _, _, rfl, Or.inr (Or.inr (Or.inr (Or.inr (Or.inr (Or.inr (Or.inr (Or.inr (Or.inr (Or.inr (Or.inr (Or.inr (Or.inr (Or.inr (Or.inr (Or.inr (Or.inr (Or.inr (Or.inr (Or.inr (Or.inr (Or.inr (Or.inl ⟨h, rfl, rfl, rfl⟩))))))))))))))))))))))⟩
  · exact ⟨_, _, _, rfl, Or.inr (Or.inr (Or.inr (Or.inr (Or.inr (Or.inr (Or.inr (Or.inr (Or.inr (Or.inr (Or.inr (Or.inr (Or.inr (Or.inr (Or.inr (Or.inr (Or.inr (Or.inr (Or.inr (Or.inr (Or.inr (Or.inr (Or.inr (⟨h, rfl, rfl, rfl⟩)))))))))))))))))))))))⟩
def t_Mo_take (I : mI) (A : mA) (f : Int32) (f9 : Int32) (I2 : mI) (A2 : mA) : Prop := (((faR (A 57) f (I 3436).toInt.toNat 0 (-1)) < 0) ∧ f9 = 3 ∧ I2 = I ∧ A2 = A) ∨ ((¬ (faR (A 57) f (I 3436).toInt.toNat 0 (-1)) < 0) ∧ f9 = 0 ∧ I2 = (upd (upd I 3448 f) 3449 1) ∧ A2 = A)
theorem tq_Mo_take {I : mI} {A : mA} {L : mL} {f : Int32} {o : xO} (h : qMo_take I A L f o) : ∃ (f9 : Int32) (I2 : mI) (A2 : mA), o = (.inl (some (.int f9)), pic I2 A2 L) ∧ t_Mo_take I A f f9 I2 A2 := by
  rcases h with ⟨h, rfl⟩ | ⟨h, rfl⟩
  · exact ⟨_, _, _, rfl, Or.inl ⟨h, rfl, rfl, rfl⟩⟩
  · exact ⟨_, _, _, rfl, Or.inr (⟨h, rfl, rfl, rfl⟩)⟩
def t_Mo_tell (I : mI) (A : mA)  (k : Nat) (f9 : Int32) (I2 : mI) (A2 : mA) : Prop := ((0 ≤ (faR (A 57) (nrd (gmt (A 54)) (I 3444 + 1) k) (I 3436).toInt.toNat 0 (-1)) ∧ smD (gmt (A 54)) (A 58 (faR (A 57) (nrd (gmt (A 54)) (I 3444 + 1) k) (I 3436).toInt.toNat 0 (-1)).toNatClampNeg) (I 3444)) ∧ f9 = 0 ∧ I2 = I ∧ A2 = A) ∨ ((0 ≤ (faR (A 57) (nrd (gmt (A 54)) (I 3444 + 1) k) (I 3436).toInt.toNat 0 (-1)) ∧ ¬ smD (gmt (A 54)) (A 58 (faR (A 57) (nrd (gmt (A 54)) (I 3444 + 1) k) (I 3436).toInt.toNat 0 (-1)).toNatClampNeg) (I 3444)) ∧ f9 = 3 ∧ I2 = I ∧ A2 = A) ∨ (((faR (A 57) (nrd (gmt (A 54)) (I 3444 + 1) k) (I 3436).toInt.toNat 0 (-1)) < 0 ∧ I 3443 = 3) ∧ f9 = 3 ∧ I2 = I ∧ A2 = A) ∨ (((faR (A 57) (nrd (gmt (A 54)) (I 3444 + 1) k) (I 3436).toInt.toNat 0 (-1)) < 0 ∧ ¬ I 3443 = 3 ∧ I 3436 = 256) ∧ f9 = 9 ∧ I2 = I ∧ A2 = A) ∨ (((faR (A 57) (nrd (gmt (A 54)) (I 3444 + 1) k) (I 3436).toInt.toNat 0 (-1)) < 0 ∧ ¬ I 3443 = 3 ∧ ¬ I 3436 = 256) ∧ f9 = 0 ∧ I2 = (upd I 3436 (I 3436 + 1)) ∧ A2 = (upA (upA A 57 (I 3436).toNatClampNeg (nrd (gmt (A 54)) (I 3444 + 1) k)) 58 (I 3436).toNatClampNeg (I 3444)))
theorem tq_Mo_tell {I : mI} {A : mA} {L : mL}  {k : Nat} {o : xO} (h : qMo_tell I A L  k o) : ∃ (f9 : Int32) (I2 : mI) (A2 : mA), o = (.inl (some (.int f9)), pic I2 A2 L) ∧ t_Mo_tell I A  k f9 I2 A2 := by
  rcases h with ⟨h, rfl⟩ | ⟨h, rfl⟩ | ⟨h, rfl⟩ | ⟨h, rfl⟩ | ⟨h, rfl⟩
  · exact ⟨_, _, _, rfl, Or.inl ⟨h, rfl, rfl, rfl⟩⟩
  · exact ⟨_, _, _, rfl, Or.inr (Or.inl ⟨h, rfl, rfl, rfl⟩)⟩
  · exact ⟨_, _, _, rfl, Or.inr (Or.inr (Or.inl ⟨h, rfl, rfl, rfl⟩))⟩
  · exact ⟨_, _, _, rfl, Or.inr (Or.inr (Or.inr (Or.inl ⟨h, rfl, rfl, rfl⟩)))⟩
  · exact ⟨_, _, _, rfl, Or.inr (Or.inr (Or.inr (Or.inr (⟨h, rfl, rfl, rfl⟩))))⟩
def t_Mo_beginPage (I : mI) (A : mA)  (f9 : Int32) (I2 : mI) (A2 : mA) : Prop := ((¬ nrd (gmt (A 54)) (I 3444 + 41) 4 = I 3446) ∧ f9 = 5 ∧ I2 = I ∧ A2 = A) ∨ ((nrd (gmt (A 54)) (I 3444 + 41) 4 = I 3446 ∧ I 3434 = 1300) ∧ f9 = 9 ∧ I2 = I ∧ A2 = A) ∨ ((nrd (gmt (A 54)) (I 3444 + 41) 4 = I 3446 ∧ ¬ I 3434 = 1300) ∧ f9 = 0 ∧ I2 = (upd (upd (upd (upd (upd I 3446 (I 3444)) 3434 (I 3434 + 1)) 3443 2) 3449 0) 3450 0) ∧ A2 = (six0 (upAf A 56 (pgM (gmt (A 54)) (I 3444 + 1) (I 3434) 10 0 (A 56)))))
theorem tq_Mo_beginPage {I : mI} {A : mA} {L : mL}  {o : xO} (h : qMo_beginPage I A L  o) : ∃ (f9 : Int32) (I2 : mI) (A2 : mA), o = (.inl (some (.int f9)), pic I2 A2 L) ∧ t_Mo_beginPage I A  f9 I2 A2 := by
  rcases h with ⟨h, rfl⟩ | ⟨h, rfl⟩ | ⟨h, rfl⟩
  · exact ⟨_, _, _, rfl, Or.inl ⟨h, rfl, rfl, rfl⟩⟩
  · exact ⟨_, _, _, rfl, Or.inr (Or.inl ⟨h, rfl, rfl, rfl⟩)⟩
  · exact ⟨_, _, _, rfl, Or.inr (Or.inr (⟨h, rfl, rfl, rfl⟩))⟩
def t_Mo_post (I : mI) (A : mA)  (f9 : Int32) (I2 : mI) (A2 : mA) : Prop := ((¬ nrd (gmt (A 54)) (I 3444 + 1) 4 = I 3446) ∧ f9 = 5 ∧ I2 = I ∧ A2 = A) ∨ ((nrd (gmt (A 54)) (I 3444 + 1) 4 = I 3446 ∧ ¬ (nrd (gmt (A 54)) (I 3444 + 26 + 1) 2 = (I 3434 &&& 65535) ∧ smR (fun j => gmt (A 54) (I 3444 + 5 + Int32.ofNat j)) (fun j => gmt (A 54) (2 + Int32.ofNat j)) 12 0 = true)) ∧ f9 = 6 ∧ I2 = I ∧ A2 = A) ∨ ((nrd (gmt (A 54)) (I 3444 + 1) 4 = I 3446 ∧ (nrd (gmt (A 54)) (I 3444 + 26 + 1) 2 = (I 3434 &&& 65535) ∧ smR (fun j => gmt (A 54) (I 3444 + 5 + Int32.ofNat j)) (fun j => gmt (A 54) (2 + Int32.ofNat j)) 12 0 = true)) ∧ f9 = 0 ∧ I2 = (upd (upd (upd (upd (upd I 3439 (nrd (gmt (A 54)) (I 3444 + 13) 4)) 3440 (nrd (gmt (A 54)) (I 3444 + 17) 4)) 3441 (nrd (gmt (A 54)) (I 3444 + 21) 4)) 3447 (I 3444)) 3443 3) ∧ A2 = A)
theorem tq_Mo_post {I : mI} {A : mA} {L : mL}  {o : xO} (h : qMo_post I A L  o) : ∃ (f9 : Int32) (I2 : mI) (A2 : mA), o = (.inl (some (.int f9)), pic I2 A2 L) ∧ t_Mo_post I A  f9 I2 A2 := by
  rcases h with ⟨h, rfl⟩ | ⟨h, rfl⟩ | ⟨h, rfl⟩
  · exact ⟨_, _, _, rfl, Or.inl ⟨h, rfl, rfl, rfl⟩⟩
  · exact ⟨_, _, _, rfl, Or.inr (Or.inl ⟨h, rfl, rfl, rfl⟩)⟩
  · exact ⟨_, _, _, rfl, Or.inr (Or.inr (⟨h, rfl, rfl, rfl⟩))⟩
def t_within (I : mI) (A : mA) (c : Int32) (k : Nat) (f9 : Int32) (I2 : mI) (A2 : mA) : Prop := ((c < 128) ∧ t_Mo_setCharacter I A c 1  f9 I2 A2) ∨ ((128 ≤ c ∧ c < 132) ∧ t_Mo_setCharacter I A (nrd (gmt (A 54)) (I 3444 + 1) k) 1  f9 I2 A2) ∨ ((c = 132) ∧ t_Mo_setRule I A 1  f9 I2 A2) ∨ ((132 < c ∧ c < 137) ∧ t_Mo_setCharacter I A (nrd (gmt (A 54)) (I 3444 + 1) k) 0  f9 I2 A2) ∨ ((c = 137) ∧ t_Mo_setRule I A 0  f9 I2 A2) ∨ ((c = 140 ∧ 0 < I 3450) ∧ (f9 = 4 ∧ I2 = (upd I 3443 (I 3443)) ∧ A2 = A)) ∨ ((c = 140 ∧ ¬ 0 < I 3450) ∧ (f9 = 0 ∧ I2 = (upd I 3443 1) ∧ A2 = A)) ∨ ((c = 141) ∧ t_Mo_push I A  f9 I2 A2) ∨ ((c = 142) ∧ t_Mo_pop I A  f9 I2 A2) ∨ ((142 < c ∧ c < 171) ∧ t_Mo_moveBy I A c k  f9 I2 A2) ∨ ((170 < c ∧ c < 235) ∧ t_Mo_take I A (c - 171)  f9 I2 A2) ∨ ((234 < c ∧ c < 239) ∧ t_Mo_take I A (nrd (gmt (A 54)) (I 3444 + 1) k)  f9 I2 A2) ∨ ((242 < c ∧ c < 247) ∧ t_Mo_tell I A k  f9 I2 A2) ∨ ((c = 138 ∨ c = 139 ∨ (238 < c ∧ c < 243) ∨ 246 < c) ∧ (f9 = 0 ∧ I2 = I ∧ A2 = A))
theorem tq_within {I : mI} {A : mA} {L : mL} {c : Int32} {k : Nat} {o : xO} (h : ((c < 128) ∧ qMo_setCharacter I A L c 1 o) ∨ ((128 ≤ c ∧ c < 132) ∧ qMo_setCharacter I A L (nrd (gmt (A 54)) (I 3444 + 1) k) 1 o) ∨ ((c = 132) ∧ qMo_setRule I A L 1 o) ∨ ((132 < c ∧ c < 137) ∧ qMo_setCharacter I A L (nrd (gmt (A 54)) (I 3444 + 1) k) 0 o) ∨ ((c = 137) ∧ qMo_setRule I A L 0 o) ∨ ((c = 140 ∧ 0 < I 3450) ∧ o = (.inl (some (.int 4)), pic (upd I 3443 (I 3443)) A L)) ∨ ((c = 140 ∧ ¬ 0 < I 3450) ∧ o = (.inl (some (.int 0)), pic (upd I 3443 1) A L)) ∨ ((c = 141) ∧ qMo_push I A L o) ∨ ((c = 142) ∧ qMo_pop I A L o) ∨ ((142 < c ∧ c < 171) ∧ qMo_moveBy I A L c k o) ∨ ((170 < c ∧ c < 235) ∧ qMo_take I A L (c - 171) o) ∨ ((234 < c ∧ c < 239) ∧ qMo_take I A L (nrd (gmt (A 54)) (I 3444 + 1) k) o) ∨ ((242 < c ∧ c < 247) ∧ qMo_tell I A L k o) ∨ ((c = 138 ∨ c = 139 ∨ (238 < c ∧ c < 243) ∨ 246 < c) ∧ o = (.inl (some (.int 0)), pic I A L))) : ∃ (f9 : Int32) (I2 : mI) (A2 : mA), o = (.inl (some (.int f9)), pic I2 A2 L) ∧ t_within I A c k f9 I2 A2 := by
  rcases h with ⟨h1, h2⟩ | ⟨h1, h2⟩ | ⟨h1, h2⟩ | ⟨h1, h2⟩ | ⟨h1, h2⟩ | ⟨h1, h2⟩ | ⟨h1, h2⟩ | ⟨h1, h2⟩ | ⟨h1, h2⟩ | ⟨h1, h2⟩ | ⟨h1, h2⟩ | ⟨h1, h2⟩ | ⟨h1, h2⟩ | ⟨h1, h2⟩
  · obtain ⟨f, I2, A2, e, h3⟩ := tq_Mo_setCharacter h2
    exact ⟨f, I2, A2, e, Or.inl ⟨h1, h3⟩⟩
  · obtain ⟨f, I2, A2, e, h3⟩ := tq_Mo_setCharacter h2
    exact ⟨f, I2, A2, e, Or.inr (Or.inl ⟨h1, h3⟩)⟩
  · obtain ⟨f, I2, A2, e, h3⟩ := tq_Mo_setRule h2
    exact ⟨f, I2, A2, e, Or.inr (Or.inr (Or.inl ⟨h1, h3⟩))⟩
  · obtain ⟨f, I2, A2, e, h3⟩ := tq_Mo_setCharacter h2
    exact ⟨f, I2, A2, e, Or.inr (Or.inr (Or.inr (Or.inl ⟨h1, h3⟩)))⟩
  · obtain ⟨f, I2, A2, e, h3⟩ := tq_Mo_setRule h2
    exact ⟨f, I2, A2, e, Or.inr (Or.inr (Or.inr (Or.inr (Or.inl ⟨h1, h3⟩))))⟩
  · exact ⟨_, _, _, h2, Or.inr (Or.inr (Or.inr (Or.inr (Or.inr (Or.inl ⟨h1, rfl, rfl, rfl⟩)))))⟩
  · exact ⟨_, _, _, h2, Or.inr (Or.inr (Or.inr (Or.inr (Or.inr (Or.inr (Or.inl ⟨h1, rfl, rfl, rfl⟩))))))⟩
  · obtain ⟨f, I2, A2, e, h3⟩ := tq_Mo_push h2
    exact ⟨f, I2, A2, e, Or.inr (Or.inr (Or.inr (Or.inr (Or.inr (Or.inr (Or.inr (Or.inl ⟨h1, h3⟩)))))))⟩
  · obtain ⟨f, I2, A2, e, h3⟩ := tq_Mo_pop h2
    exact ⟨f, I2, A2, e, Or.inr (Or.inr (Or.inr (Or.inr (Or.inr (Or.inr (Or.inr (Or.inr (Or.inl ⟨h1, h3⟩))))))))⟩
  · obtain ⟨f, I2, A2, e, h3⟩ := tq_Mo_moveBy h2
    exact ⟨f, I2, A2, e, Or.inr (Or.inr (Or.inr (Or.inr (Or.inr (Or.inr (Or.inr (Or.inr (Or.inr (Or.inl ⟨h1, h3⟩)))))))))⟩
  · obtain ⟨f, I2, A2, e, h3⟩ := tq_Mo_take h2
    exact ⟨f, I2, A2, e, Or.inr (Or.inr (Or.inr (Or.inr (Or.inr (Or.inr (Or.inr (Or.inr (Or.inr (Or.inr (Or.inl ⟨h1, h3⟩))))))))))⟩
  · obtain ⟨f, I2, A2, e, h3⟩ := tq_Mo_take h2
    exact ⟨f, I2, A2, e, Or.inr (Or.inr (Or.inr (Or.inr (Or.inr (Or.inr (Or.inr (Or.inr (Or.inr (Or.inr (Or.inr (Or.inl ⟨h1, h3⟩)))))))))))⟩
  · obtain ⟨f, I2, A2, e, h3⟩ := tq_Mo_tell h2
    exact ⟨f, I2, A2, e, Or.inr (Or.inr (Or.inr (Or.inr (Or.inr (Or.inr (Or.inr (Or.inr (Or.inr (Or.inr (Or.inr (Or.inr (Or.inl ⟨h1, h3⟩))))))))))))⟩
  · exact ⟨_, _, _, h2, Or.inr (Or.inr (Or.inr (Or.inr (Or.inr (Or.inr (Or.inr (Or.inr (Or.inr (Or.inr (Or.inr (Or.inr (Or.inr (⟨h1, rfl, rfl, rfl⟩)))))))))))))⟩
def t_outside (I : mI) (A : mA) (c : Int32) (k : Nat) (f9 : Int32) (I2 : mI) (A2 : mA) : Prop := ((c = 247) ∧ (f9 = 0 ∧ I2 = (upd I 3443 1) ∧ A2 = A)) ∨ ((c = 139) ∧ t_Mo_beginPage I A  f9 I2 A2) ∨ ((c = 248) ∧ t_Mo_post I A  f9 I2 A2) ∨ ((c = 249 ∧ nrd (gmt (A 54)) (I 3444 + 1) 4 = I 3447) ∧ (f9 = 0 ∧ I2 = (upd I 3443 4) ∧ A2 = A)) ∨ ((c = 249 ∧ ¬ nrd (gmt (A 54)) (I 3444 + 1) 4 = I 3447) ∧ (f9 = 5 ∧ I2 = (upd I 3443 4) ∧ A2 = A)) ∨ ((242 < c ∧ c < 247) ∧ t_Mo_tell I A k  f9 I2 A2) ∨ ((¬ c = 247 ∧ ¬ c = 139 ∧ ¬ c = 248 ∧ ¬ c = 249 ∧ ¬ (242 < c ∧ c < 247)) ∧ (f9 = 0 ∧ I2 = I ∧ A2 = A))
theorem tq_outside {I : mI} {A : mA} {L : mL} {c : Int32} {k : Nat} {o : xO} (h : ((c = 247) ∧ o = (.inl (some (.int 0)), pic (upd I 3443 1) A L)) ∨ ((c = 139) ∧ qMo_beginPage I A L o) ∨ ((c = 248) ∧ qMo_post I A L o) ∨ ((c = 249 ∧ nrd (gmt (A 54)) (I 3444 + 1) 4 = I 3447) ∧ o = (.inl (some (.int 0)), pic (upd I 3443 4) A L)) ∨ ((c = 249 ∧ ¬ nrd (gmt (A 54)) (I 3444 + 1) 4 = I 3447) ∧ o = (.inl (some (.int 5)), pic (upd I 3443 4) A L)) ∨ ((242 < c ∧ c < 247) ∧ qMo_tell I A L k o) ∨ ((¬ c = 247 ∧ ¬ c = 139 ∧ ¬ c = 248 ∧ ¬ c = 249 ∧ ¬ (242 < c ∧ c < 247)) ∧ o = (.inl (some (.int 0)), pic I A L))) : ∃ (f9 : Int32) (I2 : mI) (A2 : mA), o = (.inl (some (.int f9)), pic I2 A2 L) ∧ t_outside I A c k f9 I2 A2 := by
  rcases h with ⟨h1, h2⟩ | ⟨h1, h2⟩ | ⟨h1, h2⟩ | ⟨h1, h2⟩ | ⟨h1, h2⟩ | ⟨h1, h2⟩ | ⟨h1, h2⟩
  · exact ⟨_, _, _, h2, Or.inl ⟨h1, rfl, rfl, rfl⟩⟩
  · obtain ⟨f, I2, A2, e, h3⟩ := tq_Mo_beginPage h2
    exact ⟨f, I2, A2, e, Or.inr (Or.inl ⟨h1, h3⟩)⟩
  · obtain ⟨f, I2, A2, e, h3⟩ := tq_Mo_post h2
    exact ⟨f, I2, A2, e, Or.inr (Or.inr (Or.inl ⟨h1, h3⟩))⟩
  · exact ⟨_, _, _, h2, Or.inr (Or.inr (Or.inr (Or.inl ⟨h1, rfl, rfl, rfl⟩)))⟩
  · exact ⟨_, _, _, h2, Or.inr (Or.inr (Or.inr (Or.inr (Or.inl ⟨h1, rfl, rfl, rfl⟩))))⟩
  · obtain ⟨f, I2, A2, e, h3⟩ := tq_Mo_tell h2
    exact ⟨f, I2, A2, e, Or.inr (Or.inr (Or.inr (Or.inr (Or.inr (Or.inl ⟨h1, h3⟩)))))⟩
  · exact ⟨_, _, _, h2, Or.inr (Or.inr (Or.inr (Or.inr (Or.inr (Or.inr (⟨h1, rfl, rfl, rfl⟩))))))⟩