theorem sg24 {x : Int32} (h : x.toBitVec.toNat < 256) : ((x <<< (24 : Int32)) >>> (24 : Int32)) = if 128 ≤ x.toBitVec.toNat then x - 256 else x := by
  apply i_eq.mpr
  have e1 : (x <<< (24 : Int32)).toBitVec = x.toBitVec <<< 24 := rfl
  have e2 : ((x <<< (24 : Int32)) >>> (24 : Int32)).toInt = (x.toBitVec <<< 24).toInt >>> 24 := by
    show ((x <<< (24 : Int32)).toBitVec.sshiftRight 24).toInt = _
    rw [BitVec.toInt_sshiftRight, e1]
  have e3 : (x.toBitVec <<< 24).toInt = ((x.toBitVec.toNat * 16777216 : Nat) : Int).bmod 4294967296 := by
    rw [BitVec.toInt_shiftLeft, Nat.shiftLeft_eq]
  have e4 : x.toInt = (x.toBitVec.toNat : Int) := by
    show x.toBitVec.toInt = _
    exact BitVec.toInt_eq_toNat_of_lt (by omega)
  have ec : (256 : Int32).toInt = 256 := rfl
  rw [e2, e3, Int.shiftRight_eq_div_pow]
  by_cases hq : 128 ≤ x.toBitVec.toNat
  · rw [if_pos hq, i_sub (by rw [e4, ec]; omega) (by rw [e4, ec]; omega), e4, ec]
    have e5 : ((x.toBitVec.toNat * 16777216 : Nat) : Int).bmod 4294967296 = (x.toBitVec.toNat : Int) * 16777216 - 4294967296 := by
      unfold Int.bmod
      dsimp only
      split <;> omega
    rw [e5]
    show ((x.toBitVec.toNat : Int) * 16777216 - 4294967296) / 16777216 = _
    omega
  · rw [if_neg hq, e4]
    have e5 : ((x.toBitVec.toNat * 16777216 : Nat) : Int).bmod 4294967296 = (x.toBitVec.toNat : Int) * 16777216 := by
      unfold Int.bmod
      dsimp only
      split <;> omega
    rw [e5]
    show ((x.toBitVec.toNat : Int) * 16777216) / 16777216 = _
    omega
theorem sg16 {x : Int32} (h : x.toBitVec.toNat < 65536) : ((x <<< (16 : Int32)) >>> (16 : Int32)) = if 32768 ≤ x.toBitVec.toNat then x - 65536 else x := by
  apply i_eq.mpr
  have e1 : (x <<< (16 : Int32)).toBitVec = x.toBitVec <<< 16 := rfl
  have e2 : ((x <<< (16 : Int32)) >>> (16 : Int32)).toInt = (x.toBitVec <<< 16).toInt >>> 16 := by
    show ((x <<< (16 : Int32)).toBitVec.sshiftRight 16).toInt = _
    rw [BitVec.toInt_sshiftRight, e1]
  have e3 : (x.toBitVec <<< 16).toInt = ((x.toBitVec.toNat * 65536 : Nat) : Int).bmod 4294967296 := by
    rw [BitVec.toInt_shiftLeft, Nat.shiftLeft_eq]
  have e4 : x.toInt = (x.toBitVec.toNat : Int) := by
    show x.toBitVec.toInt = _
    exact BitVec.toInt_eq_toNat_of_lt (by omega)
  have ec : (65536 : Int32).toInt = 65536 := rfl
  rw [e2, e3, Int.shiftRight_eq_div_pow]
  by_cases hq : 32768 ≤ x.toBitVec.toNat
  · rw [if_pos hq, i_sub (by rw [e4, ec]; omega) (by rw [e4, ec]; omega), e4, ec]
    have e5 : ((x.toBitVec.toNat * 65536 : Nat) : Int).bmod 4294967296 = (x.toBitVec.toNat : Int) * 65536 - 4294967296 := by
      unfold Int.bmod
      dsimp only
      split <;> omega
    rw [e5]
    show ((x.toBitVec.toNat : Int) * 65536 - 4294967296) / 65536 = _
    omega
  · rw [if_neg hq, e4]
    have e5 : ((x.toBitVec.toNat * 65536 : Nat) : Int).bmod 4294967296 = (x.toBitVec.toNat : Int) * 65536 := by
      unfold Int.bmod
      dsimp only
      split <;> omega
    rw [e5]
    show ((x.toBitVec.toNat : Int) * 65536) / 65536 = _
    omega
theorem sg8 {x : Int32} (h : x.toBitVec.toNat < 16777216) : ((x <<< (8 : Int32)) >>> (8 : Int32)) = if 8388608 ≤ x.toBitVec.toNat then x - 16777216 else x := by
  apply i_eq.mpr
  have e1 : (x <<< (8 : Int32)).toBitVec = x.toBitVec <<< 8 := rfl
  have e2 : ((x <<< (8 : Int32)) >>> (8 : Int32)).toInt = (x.toBitVec <<< 8).toInt >>> 8 := by
    show ((x <<< (8 : Int32)).toBitVec.sshiftRight 8).toInt = _
    rw [BitVec.toInt_sshiftRight, e1]
  have e3 : (x.toBitVec <<< 8).toInt = ((x.toBitVec.toNat * 256 : Nat) : Int).bmod 4294967296 := by
    rw [BitVec.toInt_shiftLeft, Nat.shiftLeft_eq]
  have e4 : x.toInt = (x.toBitVec.toNat : Int) := by
    show x.toBitVec.toInt = _
    exact BitVec.toInt_eq_toNat_of_lt (by omega)
  have ec : (16777216 : Int32).toInt = 16777216 := rfl
  rw [e2, e3, Int.shiftRight_eq_div_pow]
  by_cases hq : 8388608 ≤ x.toBitVec.toNat
  · rw [if_pos hq, i_sub (by rw [e4, ec]; omega) (by rw [e4, ec]; omega), e4, ec]
    have e5 : ((x.toBitVec.toNat * 256 : Nat) : Int).bmod 4294967296 = (x.toBitVec.toNat : Int) * 256 - 4294967296 := by
      unfold Int.bmod
      dsimp only
      split <;> omega
    rw [e5]
    show ((x.toBitVec.toNat : Int) * 256 - 4294967296) / 256 = _
    omega
  · rw [if_neg hq, e4]
    have e5 : ((x.toBitVec.toNat * 256 : Nat) : Int).bmod 4294967296 = (x.toBitVec.toNat : Int) * 256 := by
      unfold Int.bmod
      dsimp only
      split <;> omega
    rw [e5]
    show ((x.toBitVec.toNat : Int) * 256) / 256 = _
    omega
theorem by_gt {x : Int32} (h : 0 ≤ x ∧ x ≤ 255) : 127 < x ↔ 128 ≤ x.toBitVec.toNat := by
  have e := i_nat h.1
  rw [i_lt, show (127 : Int32).toInt = 127 from rfl]
  omega
theorem sgE {g : Int32 → Int32} {p w : Int32} {k : Nat} (hg : ∀ q, 0 ≤ g q ∧ g q ≤ 255) (hw : w.toInt = (k : Int)) (h1 : 1 ≤ k) (h4 : k ≤ 4) : ((nrd g p k <<< ((32 - 8 * w) &&& 31)) >>> ((32 - 8 * w) &&& 31)) = (if (¬ (1 : Int32) = 0 ∧ w < 4 ∧ 127 < g p) then nrd g p k - (1 <<< ((8 * w) &&& 31)) else nrd g p k) := by
  have hn := nrd_n (p := p) hg k h4
  have b := fun z => by_nat (hg z)
  have e0 : p + Int32.ofNat 0 = p := Int32.add_zero p
  have hk : k = 1 ∨ k = 2 ∨ k = 3 ∨ k = 4 := by omega
  rcases hk with rfl | rfl | rfl | rfl
  · have ew : w = 1 := i_eq.mpr (by rw [hw]; rfl)
    subst ew
    have e : nrN g p 1 = (g p).toBitVec.toNat := by show 0 * 256 + (g (p + Int32.ofNat 0)).toBitVec.toNat = _; rw [e0, Nat.zero_mul, Nat.zero_add]
    show (nrd g p 1 <<< (24 : Int32)) >>> (24 : Int32) = if (¬ (1 : Int32) = 0 ∧ (1 : Int32) < 4 ∧ 127 < g p) then nrd g p 1 - 256 else nrd g p 1
    rw [sg24 (by rw [hn.1]; exact hn.2)]
    by_cases hq : 127 < g p
    · rw [if_pos (show 128 ≤ (nrd g p 1).toBitVec.toNat by rw [hn.1, e]; exact (by_gt (hg p)).mp hq), if_pos ⟨by decide, by decide, hq⟩]
    · rw [if_neg (show ¬ 128 ≤ (nrd g p 1).toBitVec.toNat by rw [hn.1, e]; exact fun z => hq ((by_gt (hg p)).mpr z)), if_neg (fun z => hq z.2.2)]
  · have ew : w = 2 := i_eq.mpr (by rw [hw]; rfl)
    subst ew
    have b1 := b (p + Int32.ofNat 1)
    have e : nrN g p 2 = (g p).toBitVec.toNat * 256 + (g (p + Int32.ofNat 1)).toBitVec.toNat := by simp only [nrN]; rw [e0]; omega
    have hh := by_gt (hg p)
    show (nrd g p 2 <<< (16 : Int32)) >>> (16 : Int32) = if (¬ (1 : Int32) = 0 ∧ (2 : Int32) < 4 ∧ 127 < g p) then nrd g p 2 - 65536 else nrd g p 2
    rw [sg16 (by rw [hn.1]; exact hn.2)]
    by_cases hq : 127 < g p
    · have := hh.mp hq
      rw [if_pos (show 32768 ≤ (nrd g p 2).toBitVec.toNat by rw [hn.1, e]; omega), if_pos ⟨by decide, by decide, hq⟩]
    · have : ¬ 128 ≤ (g p).toBitVec.toNat := fun z => hq (hh.mpr z)
      rw [if_neg (show ¬ 32768 ≤ (nrd g p 2).toBitVec.toNat by rw [hn.1, e]; omega), if_neg (fun z => hq z.2.2)]
  · have ew : w = 3 := i_eq.mpr (by rw [hw]; rfl)
    subst ew
    have b1 := b (p + Int32.ofNat 1)
    have b2 := b (p + Int32.ofNat 2)
    have e : nrN g p 3 = ((g p).toBitVec.toNat * 256 + (g (p + Int32.ofNat 1)).toBitVec.toNat) * 256 + (g (p + Int32.ofNat 2)).toBitVec.toNat := by simp only [nrN]; rw [e0]; omega
    have hh := by_gt (hg p)
    show (nrd g p 3 <<< (8 : Int32)) >>> (8 : Int32) = if (¬ (1 : Int32) = 0 ∧ (3 : Int32) < 4 ∧ 127 < g p) then nrd g p 3 - 16777216 else nrd g p 3
    rw [sg8 (by rw [hn.1]; exact hn.2)]
    by_cases hq : 127 < g p
    · have := hh.mp hq
      rw [if_pos (show 8388608 ≤ (nrd g p 3).toBitVec.toNat by rw [hn.1, e]; omega), if_pos ⟨by decide, by decide, hq⟩]
    · have : ¬ 128 ≤ (g p).toBitVec.toNat := fun z => hq (hh.mpr z)
      rw [if_neg (show ¬ 8388608 ≤ (nrd g p 3).toBitVec.toNat by rw [hn.1, e]; omega), if_neg (fun z => hq z.2.2)]
  · have ew : w = 4 := i_eq.mpr (by rw [hw]; rfl)
    subst ew
    rw [if_neg (fun z => absurd z.2.1 (by decide))]
    show (nrd g p 4 <<< (0 : Int32)) >>> (0 : Int32) = _
    apply Int32.toBitVec_inj.mp
    show ((nrd g p 4).toBitVec <<< 0).sshiftRight 0 = _
    simp
theorem six_c {f g : Nat → Int32} {k l : Nat} {d v : Int32} (h : ∀ i : Nat, i < 6 → f i = g i) (hkl : k ≠ l) : ∀ i : Nat, i < 6 → upd (upd f k d) l v i = upd (upd g l v) k d i := by
  intro i hi
  unfold upd
  by_cases h1 : i = l
  · rw [if_pos h1, if_neg (fun e => hkl (e.symm.trans h1)), if_pos h1]
  · rw [if_neg h1, if_neg h1, h i hi]
theorem mb_p {c : Int32} (h : (142 < c ∧ c < 147) ∨ (¬ c < 157 ∧ c < 161)) : 0 < mbF c := by unfold mbF; grind

set_option maxHeartbeats 2000000 in
theorem st_move {Ic Ic2 I I2 : mI} {Ac Ac2 A A2 : mA} {m : Int} {f w : Int32} {c : Int32} {k : Nat} (R : RR Ic Ac I A m) (hs : I 3443 = 2) (hcd : Ic 3108 = c) (hnb : Ic 3109 = mbF c) (hc1 : 142 < c) (hc2 : c < 171) (hk : (mbF c).toInt = (k : Int)) (hk4 : k ≤ 4) (hf : (I 3444).toInt + 1 + k ≤ (I 3445).toInt) (hc : t_Rd_obeyMove Ic Ac k f Ic2 Ac2) (hm : t_Mo_moveBy I A c k w I2 A2) : w = f ∧ (f = 0 → RR Ic2 Ac2 I2 A2 m) := by
  have e1 := nA R (c := 1) (n := 1) (k := k) rfl (by decide) (by omega) (by omega)
  obtain ⟨r1, r2, rm, rp, rt, rn, rg, ri⟩ := R
  obtain ⟨d1, d2, d3, d4, d5, d6⟩ := ri hs
  unfold t_Rd_obeyMove at hc
  unfold t_Mo_moveBy at hm
  rw [e1, hcd, hnb, d5 0 (by decide), d5 1 (by decide), d5 2 (by decide), d5 3 (by decide), d5 4 (by decide), d5 5 (by decide)] at hc
  by_cases hn : 0 < mbF c
  · have kp : 1 ≤ k := by have := i_lt.mp hn; rw [z0] at this; omega
    rw [sgE (fun q => gm_r) hk kp hk4] at hc
    generalize (if (¬ (1 : Int32) = 0 ∧ mbF c < 4 ∧ 127 < gmt (A 54) (I 3444 + 1)) then nrd (gmt (A 54)) (I 3444 + 1) k - (1 <<< ((8 * mbF c) &&& 31)) else nrd (gmt (A 54)) (I 3444 + 1) k) = dd at hc hm
    rcases hc with ⟨c1, rfl, rfl, rfl⟩ | ⟨c1, rfl, rfl, rfl⟩ | ⟨c1, rfl, rfl, rfl⟩ | ⟨c1, rfl, rfl, rfl⟩ | ⟨c1, rfl, rfl, rfl⟩ | ⟨c1, rfl, rfl, rfl⟩ | ⟨c1, rfl, rfl, rfl⟩ | ⟨c1, rfl, rfl, rfl⟩ | ⟨c1, rfl, rfl, rfl⟩ | ⟨c1, rfl, rfl, rfl⟩ | ⟨c1, rfl, rfl, rfl⟩ | ⟨c1, rfl, rfl, rfl⟩ | ⟨c1, rfl, rfl, rfl⟩ | ⟨c1, rfl, rfl, rfl⟩ | ⟨c1, rfl, rfl, rfl⟩ | ⟨c1, rfl, rfl, rfl⟩ | ⟨c1, rfl, rfl, rfl⟩ | ⟨c1, rfl, rfl, rfl⟩ | ⟨c1, rfl, rfl, rfl⟩ | ⟨c1, rfl, rfl, rfl⟩ | ⟨c1, rfl, rfl, rfl⟩ | ⟨c1, rfl, rfl, rfl⟩ | ⟨c1, rfl, rfl, rfl⟩ | ⟨c1, rfl, rfl, rfl⟩
    · have q1 := c1.1
      have q2 := c1.2.1
      have h147 : c < 147 := by grind
      have h152 : c < 152 := by grind
      have h157 : c < 157 := by grind
      have h161 : c < 161 := by grind
      have h166 : c < 166 := by grind
      rcases hm with ⟨n1, rfl, rfl, rfl⟩ | ⟨n1, rfl, rfl, rfl⟩ | ⟨n1, rfl, rfl, rfl⟩ | ⟨n1, rfl, rfl, rfl⟩ | ⟨n1, rfl, rfl, rfl⟩ | ⟨n1, rfl, rfl, rfl⟩ | ⟨n1, rfl, rfl, rfl⟩ | ⟨n1, rfl, rfl, rfl⟩ | ⟨n1, rfl, rfl, rfl⟩ | ⟨n1, rfl, rfl, rfl⟩ | ⟨n1, rfl, rfl, rfl⟩ | ⟨n1, rfl, rfl, rfl⟩ | ⟨n1, rfl, rfl, rfl⟩ | ⟨n1, rfl, rfl, rfl⟩ | ⟨n1, rfl, rfl, rfl⟩ | ⟨n1, rfl, rfl, rfl⟩ | ⟨n1, rfl, rfl, rfl⟩ | ⟨n1, rfl, rfl, rfl⟩ | ⟨n1, rfl, rfl, rfl⟩ | ⟨n1, rfl, rfl, rfl⟩ | ⟨n1, rfl, rfl, rfl⟩ | ⟨n1, rfl, rfl, rfl⟩ | ⟨n1, rfl, rfl, rfl⟩ | ⟨n1, rfl, rfl, rfl⟩
      · exact ⟨rfl, fun _ => ⟨r1, r2, rm, rp, rt, rn, rg, fun _ => ⟨d1, d2, d3, d4, six_u d5, d6⟩⟩⟩
      · exact absurd c1.2.2.2 n1.2
      · exact absurd hn n1.1.2
      · exact absurd hn n1.1.2
      · exact absurd h147 n1.1.1.1
      · exact absurd h147 n1.1.1.1
      · exact absurd hn n1.1.2
      · exact absurd hn n1.1.2
      · exact absurd h152 n1.1.1.1
      · exact absurd h152 n1.1.1.1
      · exact absurd hn n1.1.2
      · exact absurd hn n1.1.2
      · exact absurd h157 n1.1.1.1
      · exact absurd h157 n1.1.1.1
      · exact absurd hn n1.1.2
      · exact absurd hn n1.1.2
      · exact absurd h161 n1.1.1.1
      · exact absurd h161 n1.1.1.1
      · exact absurd hn n1.1.2
      · exact absurd hn n1.1.2
      · exact absurd h166 n1.1.1
      · exact absurd h166 n1.1.1
      · exact absurd hn n1.1.2
      · exact absurd hn n1.1.2
    · have q1 := c1.1
      have q2 := c1.2.1
      have h147 : c < 147 := by grind
      have h152 : c < 152 := by grind
      have h157 : c < 157 := by grind
      have h161 : c < 161 := by grind
      have h166 : c < 166 := by grind
      rcases hm with ⟨n1, rfl, rfl, rfl⟩ | ⟨n1, rfl, rfl, rfl⟩ | ⟨n1, rfl, rfl, rfl⟩ | ⟨n1, rfl, rfl, rfl⟩ | ⟨n1, rfl, rfl, rfl⟩ | ⟨n1, rfl, rfl, rfl⟩ | ⟨n1, rfl, rfl, rfl⟩ | ⟨n1, rfl, rfl, rfl⟩ | ⟨n1, rfl, rfl, rfl⟩ | ⟨n1, rfl, rfl, rfl⟩ | ⟨n1, rfl, rfl, rfl⟩ | ⟨n1, rfl, rfl, rfl⟩ | ⟨n1, rfl, rfl, rfl⟩ | ⟨n1, rfl, rfl, rfl⟩ | ⟨n1, rfl, rfl, rfl⟩ | ⟨n1, rfl, rfl, rfl⟩ | ⟨n1, rfl, rfl, rfl⟩ | ⟨n1, rfl, rfl, rfl⟩ | ⟨n1, rfl, rfl, rfl⟩ | ⟨n1, rfl, rfl, rfl⟩ | ⟨n1, rfl, rfl, rfl⟩ | ⟨n1, rfl, rfl, rfl⟩ | ⟨n1, rfl, rfl, rfl⟩ | ⟨n1, rfl, rfl, rfl⟩
      · exact absurd n1.2 c1.2.2.2
      · exact ⟨rfl, fun h => absurd h (by decide)⟩
      · exact absurd hn n1.1.2
      · exact absurd hn n1.1.2
      · exact absurd h147 n1.1.1.1
      · exact absurd h147 n1.1.1.1
      · exact absurd hn n1.1.2
      · exact absurd hn n1.1.2
      · exact absurd h152 n1.1.1.1
      · exact absurd h152 n1.1.1.1
      · exact absurd hn n1.1.2
      · exact absurd hn n1.1.2
      · exact absurd h157 n1.1.1.1
      · exact absurd h157 n1.1.1.1
      · exact absurd hn n1.1.2
      · exact absurd hn n1.1.2
      · exact absurd h161 n1.1.1.1
      · exact absurd h161 n1.1.1.1
      · exact absurd hn n1.1.2
      · exact absurd hn n1.1.2
      · exact absurd h166 n1.1.1
      · exact absurd h166 n1.1.1
      · exact absurd hn n1.1.2
      · exact absurd hn n1.1.2
    · exact absurd hn c1.2.2.1
    · exact absurd hn c1.2.2.1
    · have q1 := c1.1
      have q2 := c1.2.1
      have h147 : ¬ c < 147 := by grind
      have h152 : c < 152 := by grind
      have h157 : c < 157 := by grind
      have h161 : c < 161 := by grind
      have h166 : c < 166 := by grind
      rcases hm with ⟨n1, rfl, rfl, rfl⟩ | ⟨n1, rfl, rfl, rfl⟩ | ⟨n1, rfl, rfl, rfl⟩ | ⟨n1, rfl, rfl, rfl⟩ | ⟨n1, rfl, rfl, rfl⟩ | ⟨n1, rfl, rfl, rfl⟩ | ⟨n1, rfl, rfl, rfl⟩ | ⟨n1, rfl, rfl, rfl⟩ | ⟨n1, rfl, rfl, rfl⟩ | ⟨n1, rfl, rfl, rfl⟩ | ⟨n1, rfl, rfl, rfl⟩ | ⟨n1, rfl, rfl, rfl⟩ | ⟨n1, rfl, rfl, rfl⟩ | ⟨n1, rfl, rfl, rfl⟩ | ⟨n1, rfl, rfl, rfl⟩ | ⟨n1, rfl, rfl, rfl⟩ | ⟨n1, rfl, rfl, rfl⟩ | ⟨n1, rfl, rfl, rfl⟩ | ⟨n1, rfl, rfl, rfl⟩ | ⟨n1, rfl, rfl, rfl⟩ | ⟨n1, rfl, rfl, rfl⟩ | ⟨n1, rfl, rfl, rfl⟩ | ⟨n1, rfl, rfl, rfl⟩ | ⟨n1, rfl, rfl, rfl⟩
      · exact absurd n1.1.1 h147
      · exact absurd n1.1.1 h147
      · exact absurd hn n1.1.2
      · exact absurd hn n1.1.2
      · exact ⟨rfl, fun _ => ⟨r1, r2, rm, rp, rt, rn, rg, fun _ => ⟨d1, d2, d3, d4, six_c d5 (by decide), d6⟩⟩⟩
      · exact absurd c1.2.2.2 n1.2
      · exact absurd hn n1.1.2
      · exact absurd hn n1.1.2
      · exact absurd h152 n1.1.1.1
      · exact absurd h152 n1.1.1.1
      · exact absurd hn n1.1.2
      · exact absurd hn n1.1.2
      · exact absurd h157 n1.1.1.1
      · exact absurd h157 n1.1.1.1
      · exact absurd hn n1.1.2
      · exact absurd hn n1.1.2
      · exact absurd h161 n1.1.1.1
      · exact absurd h161 n1.1.1.1
      · exact absurd hn n1.1.2
      · exact absurd hn n1.1.2
      · exact absurd h166 n1.1.1
      · exact absurd h166 n1.1.1
      · exact absurd hn n1.1.2
      · exact absurd hn n1.1.2
    · have q1 := c1.1
      have q2 := c1.2.1
      have h147 : ¬ c < 147 := by grind
      have h152 : c < 152 := by grind
      have h157 : c < 157 := by grind
      have h161 : c < 161 := by grind
      have h166 : c < 166 := by grind
      rcases hm with ⟨n1, rfl, rfl, rfl⟩ | ⟨n1, rfl, rfl, rfl⟩ | ⟨n1, rfl, rfl, rfl⟩ | ⟨n1, rfl, rfl, rfl⟩ | ⟨n1, rfl, rfl, rfl⟩ | ⟨n1, rfl, rfl, rfl⟩ | ⟨n1, rfl, rfl, rfl⟩ | ⟨n1, rfl, rfl, rfl⟩ | ⟨n1, rfl, rfl, rfl⟩ | ⟨n1, rfl, rfl, rfl⟩ | ⟨n1, rfl, rfl, rfl⟩ | ⟨n1, rfl, rfl, rfl⟩ | ⟨n1, rfl, rfl, rfl⟩ | ⟨n1, rfl, rfl, rfl⟩ | ⟨n1, rfl, rfl, rfl⟩ | ⟨n1, rfl, rfl, rfl⟩ | ⟨n1, rfl, rfl, rfl⟩ | ⟨n1, rfl, rfl, rfl⟩ | ⟨n1, rfl, rfl, rfl⟩ | ⟨n1, rfl, rfl, rfl⟩ | ⟨n1, rfl, rfl, rfl⟩ | ⟨n1, rfl, rfl, rfl⟩ | ⟨n1, rfl, rfl, rfl⟩ | ⟨n1, rfl, rfl, rfl⟩
      · exact absurd n1.1.1 h147
      · exact absurd n1.1.1 h147
      · exact absurd hn n1.1.2
      · exact absurd hn n1.1.2
      · exact absurd n1.2 c1.2.2.2
      · exact ⟨rfl, fun h => absurd h (by decide)⟩
      · exact absurd hn n1.1.2
      · exact absurd hn n1.1.2
      · exact absurd h152 n1.1.1.1
      · exact absurd h152 n1.1.1.1
      · exact absurd hn n1.1.2
      · exact absurd hn n1.1.2
      · exact absurd h157 n1.1.1.1
      · exact absurd h157 n1.1.1.1
      · exact absurd hn n1.1.2
      · exact absurd hn n1.1.2
      · exact absurd h161 n1.1.1.1
      · exact absurd h161 n1.1.1.1
      · exact absurd hn n1.1.2
      · exact absurd hn n1.1.2
      · exact absurd h166 n1.1.1
      · exact absurd h166 n1.1.1
      · exact absurd hn n1.1.2
      · exact absurd hn n1.1.2
    · exact absurd hn c1.2.2.1
    · exact absurd hn c1.2.2.1
    · have q1 := c1.1
      have q2 := c1.2.1
      have h147 : ¬ c < 147 := by grind
      have h152 : ¬ c < 152 := by grind
      have h157 : c < 157 := by grind
      have h161 : c < 161 := by grind
      have h166 : c < 166 := by grind
      rcases hm with ⟨n1, rfl, rfl, rfl⟩ | ⟨n1, rfl, rfl, rfl⟩ | ⟨n1, rfl, rfl, rfl⟩ | ⟨n1, rfl, rfl, rfl⟩ | ⟨n1, rfl, rfl, rfl⟩ | ⟨n1, rfl, rfl, rfl⟩ | ⟨n1, rfl, rfl, rfl⟩ | ⟨n1, rfl, rfl, rfl⟩ | ⟨n1, rfl, rfl, rfl⟩ | ⟨n1, rfl, rfl, rfl⟩ | ⟨n1, rfl, rfl, rfl⟩ | ⟨n1, rfl, rfl, rfl⟩ | ⟨n1, rfl, rfl, rfl⟩ | ⟨n1, rfl, rfl, rfl⟩ | ⟨n1, rfl, rfl, rfl⟩ | ⟨n1, rfl, rfl, rfl⟩ | ⟨n1, rfl, rfl, rfl⟩ | ⟨n1, rfl, rfl, rfl⟩ | ⟨n1, rfl, rfl, rfl⟩ | ⟨n1, rfl, rfl, rfl⟩ | ⟨n1, rfl, rfl, rfl⟩ | ⟨n1, rfl, rfl, rfl⟩ | ⟨n1, rfl, rfl, rfl⟩ | ⟨n1, rfl, rfl, rfl⟩
      · exact absurd n1.1.1 h147
      · exact absurd n1.1.1 h147
      · exact absurd hn n1.1.2
      · exact absurd hn n1.1.2
      · exact absurd n1.1.1.2 h152
      · exact absurd n1.1.1.2 h152
      · exact absurd hn n1.1.2
      · exact absurd hn n1.1.2
      · exact ⟨rfl, fun _ => ⟨r1, r2, rm, rp, rt, rn, rg, fun _ => ⟨d1, d2, d3, d4, six_c d5 (by decide), d6⟩⟩⟩
      · exact absurd c1.2.2.2 n1.2
      · exact absurd hn n1.1.2
      · exact absurd hn n1.1.2
      · exact absurd h157 n1.1.1.1
      · exact absurd h157 n1.1.1.1
      · exact absurd hn n1.1.2
      · exact absurd hn n1.1.2
      · exact absurd h161 n1.1.1.1
      · exact absurd h161 n1.1.1.1
      · exact absurd hn n1.1.2
      · exact absurd hn n1.1.2
      · exact absurd h166 n1.1.1
      · exact absurd h166 n1.1.1
      · exact absurd hn n1.1.2
      · exact absurd hn n1.1.2
    · have q1 := c1.1
      have q2 := c1.2.1
      have h147 : ¬ c < 147 := by grind
      have h152 : ¬ c < 152 := by grind
      have h157 : c < 157 := by grind
      have h161 : c < 161 := by grind
      have h166 : c < 166 := by grind
      rcases hm with ⟨n1, rfl, rfl, rfl⟩ | ⟨n1, rfl, rfl, rfl⟩ | ⟨n1, rfl, rfl, rfl⟩ | ⟨n1, rfl, rfl, rfl⟩ | ⟨n1, rfl, rfl, rfl⟩ | ⟨n1, rfl, rfl, rfl⟩ | ⟨n1, rfl, rfl, rfl⟩ | ⟨n1, rfl, rfl, rfl⟩ | ⟨n1, rfl, rfl, rfl⟩ | ⟨n1, rfl, rfl, rfl⟩ | ⟨n1, rfl, rfl, rfl⟩ | ⟨n1, rfl, rfl, rfl⟩ | ⟨n1, rfl, rfl, rfl⟩ | ⟨n1, rfl, rfl, rfl⟩ | ⟨n1, rfl, rfl, rfl⟩ | ⟨n1, rfl, rfl, rfl⟩ | ⟨n1, rfl, rfl, rfl⟩ | ⟨n1, rfl, rfl, rfl⟩ | ⟨n1, rfl, rfl, rfl⟩ | ⟨n1, rfl, rfl, rfl⟩ | ⟨n1, rfl, rfl, rfl⟩ | ⟨n1, rfl, rfl, rfl⟩ | ⟨n1, rfl, rfl, rfl⟩ | ⟨n1, rfl, rfl, rfl⟩
      · exact absurd n1.1.1 h147
      · exact absurd n1.1.1 h147
      · exact absurd hn n1.1.2
      · exact absurd hn n1.1.2
      · exact absurd n1.1.1.2 h152
      · exact absurd n1.1.1.2 h152
      · exact absurd hn n1.1.2
      · exact absurd hn n1.1.2
      · exact absurd n1.2 c1.2.2.2
      · exact ⟨rfl, fun h => absurd h (by decide)⟩
      · exact absurd hn n1.1.2
      · exact absurd hn n1.1.2
      · exact absurd h157 n1.1.1.1
      · exact absurd h157 n1.1.1.1
      · exact absurd hn n1.1.2
      · exact absurd hn n1.1.2
      · exact absurd h161 n1.1.1.1
      · exact absurd h161 n1.1.1.1
      · exact absurd hn n1.1.2
      · exact absurd hn n1.1.2
      · exact absurd h166 n1.1.1
      · exact absurd h166 n1.1.1
      · exact absurd hn n1.1.2
      · exact absurd hn n1.1.2
    · exact absurd hn c1.2.2.1
    · exact absurd hn c1.2.2.1
    · have q1 := c1.1
      have q2 := c1.2.1
      have h147 : ¬ c < 147 := by grind
      have h152 : ¬ c < 152 := by grind
      have h157 : ¬ c < 157 := by grind
      have h161 : c < 161 := by grind
      have h166 : c < 166 := by grind
      rcases hm with ⟨n1, rfl, rfl, rfl⟩ | ⟨n1, rfl, rfl, rfl⟩ | ⟨n1, rfl, rfl, rfl⟩ | ⟨n1, rfl, rfl, rfl⟩ | ⟨n1, rfl, rfl, rfl⟩ | ⟨n1, rfl, rfl, rfl⟩ | ⟨n1, rfl, rfl, rfl⟩ | ⟨n1, rfl, rfl, rfl⟩ | ⟨n1, rfl, rfl, rfl⟩ | ⟨n1, rfl, rfl, rfl⟩ | ⟨n1, rfl, rfl, rfl⟩ | ⟨n1, rfl, rfl, rfl⟩ | ⟨n1, rfl, rfl, rfl⟩ | ⟨n1, rfl, rfl, rfl⟩ | ⟨n1, rfl, rfl, rfl⟩ | ⟨n1, rfl, rfl, rfl⟩ | ⟨n1, rfl, rfl, rfl⟩ | ⟨n1, rfl, rfl, rfl⟩ | ⟨n1, rfl, rfl, rfl⟩ | ⟨n1, rfl, rfl, rfl⟩ | ⟨n1, rfl, rfl, rfl⟩ | ⟨n1, rfl, rfl, rfl⟩ | ⟨n1, rfl, rfl, rfl⟩ | ⟨n1, rfl, rfl, rfl⟩
      · exact absurd n1.1.1 h147
      · exact absurd n1.1.1 h147
      · exact absurd hn n1.1.2
      · exact absurd hn n1.1.2
      · exact absurd n1.1.1.2 h152
      · exact absurd n1.1.1.2 h152
      · exact absurd hn n1.1.2
      · exact absurd hn n1.1.2
      · exact absurd n1.1.1.2 h157
      · exact absurd n1.1.1.2 h157
      · exact absurd hn n1.1.2
      · exact absurd hn n1.1.2
      · exact ⟨rfl, fun _ => ⟨r1, r2, rm, rp, rt, rn, rg, fun _ => ⟨d1, d2, d3, d4, six_u d5, d6⟩⟩⟩
      · exact absurd c1.2.2.2 n1.2
      · exact absurd hn n1.1.2
      · exact absurd hn n1.1.2
      · exact absurd h161 n1.1.1.1
      · exact absurd h161 n1.1.1.1
      · exact absurd hn n1.1.2
      · exact absurd hn n1.1.2
      · exact absurd h166 n1.1.1
      · exact absurd h166 n1.1.1
      · exact absurd hn n1.1.2
      · exact absurd hn n1.1.2
    · have q1 := c1.1
      have q2 := c1.2.1
      have h147 : ¬ c < 147 := by grind
      have h152 : ¬ c < 152 := by grind
      have h157 : ¬ c < 157 := by grind
      have h161 : c < 161 := by grind
      have h166 : c < 166 := by grind
      rcases hm with ⟨n1, rfl, rfl, rfl⟩ | ⟨n1, rfl, rfl, rfl⟩ | ⟨n1, rfl, rfl, rfl⟩ | ⟨n1, rfl, rfl, rfl⟩ | ⟨n1, rfl, rfl, rfl⟩ | ⟨n1, rfl, rfl, rfl⟩ | ⟨n1, rfl, rfl, rfl⟩ | ⟨n1, rfl, rfl, rfl⟩ | ⟨n1, rfl, rfl, rfl⟩ | ⟨n1, rfl, rfl, rfl⟩ | ⟨n1, rfl, rfl, rfl⟩ | ⟨n1, rfl, rfl, rfl⟩ | ⟨n1, rfl, rfl, rfl⟩ | ⟨n1, rfl, rfl, rfl⟩ | ⟨n1, rfl, rfl, rfl⟩ | ⟨n1, rfl, rfl, rfl⟩ | ⟨n1, rfl, rfl, rfl⟩ | ⟨n1, rfl, rfl, rfl⟩ | ⟨n1, rfl, rfl, rfl⟩ | ⟨n1, rfl, rfl, rfl⟩ | ⟨n1, rfl, rfl, rfl⟩ | ⟨n1, rfl, rfl, rfl⟩ | ⟨n1, rfl, rfl, rfl⟩ | ⟨n1, rfl, rfl, rfl⟩
      · exact absurd n1.1.1 h147
      · exact absurd n1.1.1 h147
      · exact absurd hn n1.1.2
      · exact absurd hn n1.1.2
      · exact absurd n1.1.1.2 h152
      · exact absurd n1.1.1.2 h152
      · exact absurd hn n1.1.2
      · exact absurd hn n1.1.2
      · exact absurd n1.1.1.2 h157
      · exact absurd n1.1.1.2 h157
      · exact absurd hn n1.1.2
      · exact absurd hn n1.1.2
      · exact absurd n1.2 c1.2.2.2
      · exact ⟨rfl, fun h => absurd h (by decide)⟩
      · exact absurd hn n1.1.2
      · exact absurd hn n1.1.2
      · exact absurd h161 n1.1.1.1
      · exact absurd h161 n1.1.1.1
      · exact absurd hn n1.1.2
      · exact absurd hn n1.1.2
      · exact absurd h166 n1.1.1
      · exact absurd h166 n1.1.1
      · exact absurd hn n1.1.2
      · exact absurd hn n1.1.2
    · exact absurd hn c1.2.2.1
    · exact absurd hn c1.2.2.1
    · have q1 := c1.1
      have q2 := c1.2.1
      have h147 : ¬ c < 147 := by grind
      have h152 : ¬ c < 152 := by grind
      have h157 : ¬ c < 157 := by grind
      have h161 : ¬ c < 161 := by grind
      have h166 : c < 166 := by grind
      rcases hm with ⟨n1, rfl, rfl, rfl⟩ | ⟨n1, rfl, rfl, rfl⟩ | ⟨n1, rfl, rfl, rfl⟩ | ⟨n1, rfl, rfl, rfl⟩ | ⟨n1, rfl, rfl, rfl⟩ | ⟨n1, rfl, rfl, rfl⟩ | ⟨n1, rfl, rfl, rfl⟩ | ⟨n1, rfl, rfl, rfl⟩ | ⟨n1, rfl, rfl, rfl⟩ | ⟨n1, rfl, rfl, rfl⟩ | ⟨n1, rfl, rfl, rfl⟩ | ⟨n1, rfl, rfl, rfl⟩ | ⟨n1, rfl, rfl, rfl⟩ | ⟨n1, rfl, rfl, rfl⟩ | ⟨n1, rfl, rfl, rfl⟩ | ⟨n1, rfl, rfl, rfl⟩ | ⟨n1, rfl, rfl, rfl⟩ | ⟨n1, rfl, rfl, rfl⟩ | ⟨n1, rfl, rfl, rfl⟩ | ⟨n1, rfl, rfl, rfl⟩ | ⟨n1, rfl, rfl, rfl⟩ | ⟨n1, rfl, rfl, rfl⟩ | ⟨n1, rfl, rfl, rfl⟩ | ⟨n1, rfl, rfl, rfl⟩
      · exact absurd n1.1.1 h147
      · exact absurd n1.1.1 h147
      · exact absurd hn n1.1.2
      · exact absurd hn n1.1.2
      · exact absurd n1.1.1.2 h152
      · exact absurd n1.1.1.2 h152
      · exact absurd hn n1.1.2
      · exact absurd hn n1.1.2
      · exact absurd n1.1.1.2 h157
      · exact absurd n1.1.1.2 h157
      · exact absurd hn n1.1.2
      · exact absurd hn n1.1.2
      · exact absurd n1.1.1.2 h161
      · exact absurd n1.1.1.2 h161
      · exact absurd hn n1.1.2
      · exact absurd hn n1.1.2
      · exact ⟨rfl, fun _ => ⟨r1, r2, rm, rp, rt, rn, rg, fun _ => ⟨d1, d2, d3, d4, six_c d5 (by decide), d6⟩⟩⟩
      · exact absurd c1.2.2.2 n1.2
      · exact absurd hn n1.1.2
      · exact absurd hn n1.1.2
      · exact absurd h166 n1.1.1
      · exact absurd h166 n1.1.1
      · exact absurd hn n1.1.2
      · exact absurd hn n1.1.2
    · have q1 := c1.1
      have q2 := c1.2.1
      have h147 : ¬ c < 147 := by grind
      have h152 : ¬ c < 152 := by grind
      have h157 : ¬ c < 157 := by grind
      have h161 : ¬ c < 161 := by grind
      have h166 : c < 166 := by grind
      rcases hm with ⟨n1, rfl, rfl, rfl⟩ | ⟨n1, rfl, rfl, rfl⟩ | ⟨n1, rfl, rfl, rfl⟩ | ⟨n1, rfl, rfl, rfl⟩ | ⟨n1, rfl, rfl, rfl⟩ | ⟨n1, rfl, rfl, rfl⟩ | ⟨n1, rfl, rfl, rfl⟩ | ⟨n1, rfl, rfl, rfl⟩ | ⟨n1, rfl, rfl, rfl⟩ | ⟨n1, rfl, rfl, rfl⟩ | ⟨n1, rfl, rfl, rfl⟩ | ⟨n1, rfl, rfl, rfl⟩ | ⟨n1, rfl, rfl, rfl⟩ | ⟨n1, rfl, rfl, rfl⟩ | ⟨n1, rfl, rfl, rfl⟩ | ⟨n1, rfl, rfl, rfl⟩ | ⟨n1, rfl, rfl, rfl⟩ | ⟨n1, rfl, rfl, rfl⟩ | ⟨n1, rfl, rfl, rfl⟩ | ⟨n1, rfl, rfl, rfl⟩ | ⟨n1, rfl, rfl, rfl⟩ | ⟨n1, rfl, rfl, rfl⟩ | ⟨n1, rfl, rfl, rfl⟩ | ⟨n1, rfl, rfl, rfl⟩
      · exact absurd n1.1.1 h147
      · exact absurd n1.1.1 h147
      · exact absurd hn n1.1.2
      · exact absurd hn n1.1.2
      · exact absurd n1.1.1.2 h152
      · exact absurd n1.1.1.2 h152
      · exact absurd hn n1.1.2
      · exact absurd hn n1.1.2
      · exact absurd n1.1.1.2 h157
      · exact absurd n1.1.1.2 h157
      · exact absurd hn n1.1.2
      · exact absurd hn n1.1.2
      · exact absurd n1.1.1.2 h161
      · exact absurd n1.1.1.2 h161
      · exact absurd hn n1.1.2
      · exact absurd hn n1.1.2
      · exact absurd n1.2 c1.2.2.2
      · exact ⟨rfl, fun h => absurd h (by decide)⟩
      · exact absurd hn n1.1.2
      · exact absurd hn n1.1.2
      · exact absurd h166 n1.1.1
      · exact absurd h166 n1.1.1
      · exact absurd hn n1.1.2
      · exact absurd hn n1.1.2
    · exact absurd hn c1.2.2.1
    · exact absurd hn c1.2.2.1
    · have q1 := c1.1
      have q2 := c1.2.1
      have h147 : ¬ c < 147 := by grind
      have h152 : ¬ c < 152 := by grind
      have h157 : ¬ c < 157 := by grind
      have h161 : ¬ c < 161 := by grind
      have h166 : ¬ c < 166 := by grind
      rcases hm with ⟨n1, rfl, rfl, rfl⟩ | ⟨n1, rfl, rfl, rfl⟩ | ⟨n1, rfl, rfl, rfl⟩ | ⟨n1, rfl, rfl, rfl⟩ | ⟨n1, rfl, rfl, rfl⟩ | ⟨n1, rfl, rfl, rfl⟩ | ⟨n1, rfl, rfl, rfl⟩ | ⟨n1, rfl, rfl, rfl⟩ | ⟨n1, rfl, rfl, rfl⟩ | ⟨n1, rfl, rfl, rfl⟩ | ⟨n1, rfl, rfl, rfl⟩ | ⟨n1, rfl, rfl, rfl⟩ | ⟨n1, rfl, rfl, rfl⟩ | ⟨n1, rfl, rfl, rfl⟩ | ⟨n1, rfl, rfl, rfl⟩ | ⟨n1, rfl, rfl, rfl⟩ | ⟨n1, rfl, rfl, rfl⟩ | ⟨n1, rfl, rfl, rfl⟩ | ⟨n1, rfl, rfl, rfl⟩ | ⟨n1, rfl, rfl, rfl⟩ | ⟨n1, rfl, rfl, rfl⟩ | ⟨n1, rfl, rfl, rfl⟩ | ⟨n1, rfl, rfl, rfl⟩ | ⟨n1, rfl, rfl, rfl⟩
      · exact absurd n1.1.1 h147
      · exact absurd n1.1.1 h147
      · exact absurd hn n1.1.2
      · exact absurd hn n1.1.2
      · exact absurd n1.1.1.2 h152
      · exact absurd n1.1.1.2 h152
      · exact absurd hn n1.1.2
      · exact absurd hn n1.1.2
      · exact absurd n1.1.1.2 h157
      · exact absurd n1.1.1.2 h157
      · exact absurd hn n1.1.2
      · exact absurd hn n1.1.2
      · exact absurd n1.1.1.2 h161
      · exact absurd n1.1.1.2 h161
      · exact absurd hn n1.1.2
      · exact absurd hn n1.1.2
      · exact absurd n1.1.1.2 h166
      · exact absurd n1.1.1.2 h166
      · exact absurd hn n1.1.2
      · exact absurd hn n1.1.2
      · exact ⟨rfl, fun _ => ⟨r1, r2, rm, rp, rt, rn, rg, fun _ => ⟨d1, d2, d3, d4, six_c d5 (by decide), d6⟩⟩⟩
      · exact absurd c1.2.2.2 n1.2
      · exact absurd hn n1.1.2
      · exact absurd hn n1.1.2
    · have q1 := c1.1
      have q2 := c1.2.1
      have h147 : ¬ c < 147 := by grind
      have h152 : ¬ c < 152 := by grind
      have h157 : ¬ c < 157 := by grind
      have h161 : ¬ c < 161 := by grind
      have h166 : ¬ c < 166 := by grind
      rcases hm with ⟨n1, rfl, rfl, rfl⟩ | ⟨n1, rfl, rfl, rfl⟩ | ⟨n1, rfl, rfl, rfl⟩ | ⟨n1, rfl, rfl, rfl⟩ | ⟨n1, rfl, rfl, rfl⟩ | ⟨n1, rfl, rfl, rfl⟩ | ⟨n1, rfl, rfl, rfl⟩ | ⟨n1, rfl, rfl, rfl⟩ | ⟨n1, rfl, rfl, rfl⟩ | ⟨n1, rfl, rfl, rfl⟩ | ⟨n1, rfl, rfl, rfl⟩ | ⟨n1, rfl, rfl, rfl⟩ | ⟨n1, rfl, rfl, rfl⟩ | ⟨n1, rfl, rfl, rfl⟩ | ⟨n1, rfl, rfl, rfl⟩ | ⟨n1, rfl, rfl, rfl⟩ | ⟨n1, rfl, rfl, rfl⟩ | ⟨n1, rfl, rfl, rfl⟩ | ⟨n1, rfl, rfl, rfl⟩ | ⟨n1, rfl, rfl, rfl⟩ | ⟨n1, rfl, rfl, rfl⟩ | ⟨n1, rfl, rfl, rfl⟩ | ⟨n1, rfl, rfl, rfl⟩ | ⟨n1, rfl, rfl, rfl⟩
      · exact absurd n1.1.1 h147
      · exact absurd n1.1.1 h147
      · exact absurd hn n1.1.2
      · exact absurd hn n1.1.2
      · exact absurd n1.1.1.2 h152
      · exact absurd n1.1.1.2 h152
      · exact absurd hn n1.1.2
      · exact absurd hn n1.1.2
      · exact absurd n1.1.1.2 h157
      · exact absurd n1.1.1.2 h157
      · exact absurd hn n1.1.2
      · exact absurd hn n1.1.2
      · exact absurd n1.1.1.2 h161
      · exact absurd n1.1.1.2 h161
      · exact absurd hn n1.1.2
      · exact absurd hn n1.1.2
      · exact absurd n1.1.1.2 h166
      · exact absurd n1.1.1.2 h166
      · exact absurd hn n1.1.2
      · exact absurd hn n1.1.2
      · exact absurd n1.2 c1.2.2.2
      · exact ⟨rfl, fun h => absurd h (by decide)⟩
      · exact absurd hn n1.1.2
      · exact absurd hn n1.1.2
    · exact absurd hn c1.2.2.1
    · exact absurd hn c1.2.2.1
  · skip
    rcases hc with ⟨c1, rfl, rfl, rfl⟩ | ⟨c1, rfl, rfl, rfl⟩ | ⟨c1, rfl, rfl, rfl⟩ | ⟨c1, rfl, rfl, rfl⟩ | ⟨c1, rfl, rfl, rfl⟩ | ⟨c1, rfl, rfl, rfl⟩ | ⟨c1, rfl, rfl, rfl⟩ | ⟨c1, rfl, rfl, rfl⟩ | ⟨c1, rfl, rfl, rfl⟩ | ⟨c1, rfl, rfl, rfl⟩ | ⟨c1, rfl, rfl, rfl⟩ | ⟨c1, rfl, rfl, rfl⟩ | ⟨c1, rfl, rfl, rfl⟩ | ⟨c1, rfl, rfl, rfl⟩ | ⟨c1, rfl, rfl, rfl⟩ | ⟨c1, rfl, rfl, rfl⟩ | ⟨c1, rfl, rfl, rfl⟩ | ⟨c1, rfl, rfl, rfl⟩ | ⟨c1, rfl, rfl, rfl⟩ | ⟨c1, rfl, rfl, rfl⟩ | ⟨c1, rfl, rfl, rfl⟩ | ⟨c1, rfl, rfl, rfl⟩ | ⟨c1, rfl, rfl, rfl⟩ | ⟨c1, rfl, rfl, rfl⟩
    · exact absurd c1.2.2.1 hn
    · exact absurd c1.2.2.1 hn
    · exact absurd (mb_p (by have q1 := c1.1; have q2 := c1.2.1; grind)) hn
    · exact absurd (mb_p (by have q1 := c1.1; have q2 := c1.2.1; grind)) hn
    · exact absurd c1.2.2.1 hn
    · exact absurd c1.2.2.1 hn
    · have q1 := c1.1
      have q2 := c1.2.1
      have h147 : ¬ c < 147 := by grind
      have h152 : c < 152 := by grind
      have h157 : c < 157 := by grind
      have h161 : c < 161 := by grind
      have h166 : c < 166 := by grind
      rcases hm with ⟨n1, rfl, rfl, rfl⟩ | ⟨n1, rfl, rfl, rfl⟩ | ⟨n1, rfl, rfl, rfl⟩ | ⟨n1, rfl, rfl, rfl⟩ | ⟨n1, rfl, rfl, rfl⟩ | ⟨n1, rfl, rfl, rfl⟩ | ⟨n1, rfl, rfl, rfl⟩ | ⟨n1, rfl, rfl, rfl⟩ | ⟨n1, rfl, rfl, rfl⟩ | ⟨n1, rfl, rfl, rfl⟩ | ⟨n1, rfl, rfl, rfl⟩ | ⟨n1, rfl, rfl, rfl⟩ | ⟨n1, rfl, rfl, rfl⟩ | ⟨n1, rfl, rfl, rfl⟩ | ⟨n1, rfl, rfl, rfl⟩ | ⟨n1, rfl, rfl, rfl⟩ | ⟨n1, rfl, rfl, rfl⟩ | ⟨n1, rfl, rfl, rfl⟩ | ⟨n1, rfl, rfl, rfl⟩ | ⟨n1, rfl, rfl, rfl⟩ | ⟨n1, rfl, rfl, rfl⟩ | ⟨n1, rfl, rfl, rfl⟩ | ⟨n1, rfl, rfl, rfl⟩ | ⟨n1, rfl, rfl, rfl⟩
      · exact absurd n1.1.2 hn
      · exact absurd n1.1.2 hn
      · exact absurd n1.1.1 h147
      · exact absurd n1.1.1 h147
      · exact absurd n1.1.2 hn
      · exact absurd n1.1.2 hn
      · exact ⟨rfl, fun _ => ⟨r1, r2, rm, rp, rt, rn, rg, fun _ => ⟨d1, d2, d3, d4, six_c d5 (by decide), d6⟩⟩⟩
      · exact absurd c1.2.2.2 n1.2
      · exact absurd n1.1.2 hn
      · exact absurd n1.1.2 hn
      · exact absurd h152 n1.1.1.1
      · exact absurd h152 n1.1.1.1
      · exact absurd n1.1.2 hn
      · exact absurd n1.1.2 hn
      · exact absurd h157 n1.1.1.1
      · exact absurd h157 n1.1.1.1
      · exact absurd n1.1.2 hn
      · exact absurd n1.1.2 hn
      · exact absurd h161 n1.1.1.1
      · exact absurd h161 n1.1.1.1
      · exact absurd n1.1.2 hn
      · exact absurd n1.1.2 hn
      · exact absurd h166 n1.1.1
      · exact absurd h166 n1.1.1
    · have q1 := c1.1
      have q2 := c1.2.1
      have h147 : ¬ c < 147 := by grind
      have h152 : c < 152 := by grind
      have h157 : c < 157 := by grind
      have h161 : c < 161 := by grind
      have h166 : c < 166 := by grind
      rcases hm with ⟨n1, rfl, rfl, rfl⟩ | ⟨n1, rfl, rfl, rfl⟩ | ⟨n1, rfl, rfl, rfl⟩ | ⟨n1, rfl, rfl, rfl⟩ | ⟨n1, rfl, rfl, rfl⟩ | ⟨n1, rfl, rfl, rfl⟩ | ⟨n1, rfl, rfl, rfl⟩ | ⟨n1, rfl, rfl, rfl⟩ | ⟨n1, rfl, rfl, rfl⟩ | ⟨n1, rfl, rfl, rfl⟩ | ⟨n1, rfl, rfl, rfl⟩ | ⟨n1, rfl, rfl, rfl⟩ | ⟨n1, rfl, rfl, rfl⟩ | ⟨n1, rfl, rfl, rfl⟩ | ⟨n1, rfl, rfl, rfl⟩ | ⟨n1, rfl, rfl, rfl⟩ | ⟨n1, rfl, rfl, rfl⟩ | ⟨n1, rfl, rfl, rfl⟩ | ⟨n1, rfl, rfl, rfl⟩ | ⟨n1, rfl, rfl, rfl⟩ | ⟨n1, rfl, rfl, rfl⟩ | ⟨n1, rfl, rfl, rfl⟩ | ⟨n1, rfl, rfl, rfl⟩ | ⟨n1, rfl, rfl, rfl⟩
      · exact absurd n1.1.2 hn
      · exact absurd n1.1.2 hn
      · exact absurd n1.1.1 h147
      · exact absurd n1.1.1 h147
      · exact absurd n1.1.2 hn
      · exact absurd n1.1.2 hn
      · exact absurd n1.2 c1.2.2.2
      · exact ⟨rfl, fun h => absurd h (by decide)⟩
      · exact absurd n1.1.2 hn
      · exact absurd n1.1.2 hn
      · exact absurd h152 n1.1.1.1
      · exact absurd h152 n1.1.1.1
      · exact absurd n1.1.2 hn
      · exact absurd n1.1.2 hn
      · exact absurd h157 n1.1.1.1
      · exact absurd h157 n1.1.1.1
      · exact absurd n1.1.2 hn
      · exact absurd n1.1.2 hn
      · exact absurd h161 n1.1.1.1
      · exact absurd h161 n1.1.1.1
      · exact absurd n1.1.2 hn
      · exact absurd n1.1.2 hn
      · exact absurd h166 n1.1.1
      · exact absurd h166 n1.1.1
    · exact absurd c1.2.2.1 hn
    · exact absurd c1.2.2.1 hn
    · have q1 := c1.1
      have q2 := c1.2.1
      have h147 : ¬ c < 147 := by grind
      have h152 : ¬ c < 152 := by grind
      have h157 : c < 157 := by grind
      have h161 : c < 161 := by grind
      have h166 : c < 166 := by grind
      rcases hm with ⟨n1, rfl, rfl, rfl⟩ | ⟨n1, rfl, rfl, rfl⟩ | ⟨n1, rfl, rfl, rfl⟩ | ⟨n1, rfl, rfl, rfl⟩ | ⟨n1, rfl, rfl, rfl⟩ | ⟨n1, rfl, rfl, rfl⟩ | ⟨n1, rfl, rfl, rfl⟩ | ⟨n1, rfl, rfl, rfl⟩ | ⟨n1, rfl, rfl, rfl⟩ | ⟨n1, rfl, rfl, rfl⟩ | ⟨n1, rfl, rfl, rfl⟩ | ⟨n1, rfl, rfl, rfl⟩ | ⟨n1, rfl, rfl, rfl⟩ | ⟨n1, rfl, rfl, rfl⟩ | ⟨n1, rfl, rfl, rfl⟩ | ⟨n1, rfl, rfl, rfl⟩ | ⟨n1, rfl, rfl, rfl⟩ | ⟨n1, rfl, rfl, rfl⟩ | ⟨n1, rfl, rfl, rfl⟩ | ⟨n1, rfl, rfl, rfl⟩ | ⟨n1, rfl, rfl, rfl⟩ | ⟨n1, rfl, rfl, rfl⟩ | ⟨n1, rfl, rfl, rfl⟩ | ⟨n1, rfl, rfl, rfl⟩
      · exact absurd n1.1.2 hn
      · exact absurd n1.1.2 hn
      · exact absurd n1.1.1 h147
      · exact absurd n1.1.1 h147
      · exact absurd n1.1.2 hn
      · exact absurd n1.1.2 hn
      · exact absurd n1.1.1.2 h152
      · exact absurd n1.1.1.2 h152
      · exact absurd n1.1.2 hn
      · exact absurd n1.1.2 hn
      · exact ⟨rfl, fun _ => ⟨r1, r2, rm, rp, rt, rn, rg, fun _ => ⟨d1, d2, d3, d4, six_c d5 (by decide), d6⟩⟩⟩
      · exact absurd c1.2.2.2 n1.2
      · exact absurd n1.1.2 hn
      · exact absurd n1.1.2 hn
      · exact absurd h157 n1.1.1.1
      · exact absurd h157 n1.1.1.1
      · exact absurd n1.1.2 hn
      · exact absurd n1.1.2 hn
      · exact absurd h161 n1.1.1.1
      · exact absurd h161 n1.1.1.1
      · exact absurd n1.1.2 hn
      · exact absurd n1.1.2 hn
      · exact absurd h166 n1.1.1
      · exact absurd h166 n1.1.1
    · have q1 := c1.1
      have q2 := c1.2.1
      have h147 : ¬ c < 147 := by grind
      have h152 : ¬ c < 152 := by grind
      have h157 : c < 157 := by grind
      have h161 : c < 161 := by grind
      have h166 : c < 166 := by grind
      rcases hm with ⟨n1, rfl, rfl, rfl⟩ | ⟨n1, rfl, rfl, rfl⟩ | ⟨n1, rfl, rfl, rfl⟩ | ⟨n1, rfl, rfl, rfl⟩ | ⟨n1, rfl, rfl, rfl⟩ | ⟨n1, rfl, rfl, rfl⟩ | ⟨n1, rfl, rfl, rfl⟩ | ⟨n1, rfl, rfl, rfl⟩ | ⟨n1, rfl, rfl, rfl⟩ | ⟨n1, rfl, rfl, rfl⟩ | ⟨n1, rfl, rfl, rfl⟩ | ⟨n1, rfl, rfl, rfl⟩ | ⟨n1, rfl, rfl, rfl⟩ | ⟨n1, rfl, rfl, rfl⟩ | ⟨n1, rfl, rfl, rfl⟩ | ⟨n1, rfl, rfl, rfl⟩ | ⟨n1, rfl, rfl, rfl⟩ | ⟨n1, rfl, rfl, rfl⟩ | ⟨n1, rfl, rfl, rfl⟩ | ⟨n1, rfl, rfl, rfl⟩ | ⟨n1, rfl, rfl, rfl⟩ | ⟨n1, rfl, rfl, rfl⟩ | ⟨n1, rfl, rfl, rfl⟩ | ⟨n1, rfl, rfl, rfl⟩
      · exact absurd n1.1.2 hn
      · exact absurd n1.1.2 hn
      · exact absurd n1.1.1 h147
      · exact absurd n1.1.1 h147
      · exact absurd n1.1.2 hn
      · exact absurd n1.1.2 hn
      · exact absurd n1.1.1.2 h152
      · exact absurd n1.1.1.2 h152
      · exact absurd n1.1.2 hn
      · exact absurd n1.1.2 hn
      · exact absurd n1.2 c1.2.2.2
      · exact ⟨rfl, fun h => absurd h (by decide)⟩
      · exact absurd n1.1.2 hn
      · exact absurd n1.1.2 hn
      · exact absurd h157 n1.1.1.1
      · exact absurd h157 n1.1.1.1
      · exact absurd n1.1.2 hn
      · exact absurd n1.1.2 hn
      · exact absurd h161 n1.1.1.1
      · exact absurd h161 n1.1.1.1
      · exact absurd n1.1.2 hn
      · exact absurd n1.1.2 hn
      · exact absurd h166 n1.1.1
      · exact absurd h166 n1.1.1
    · exact absurd c1.2.2.1 hn
    · exact absurd c1.2.2.1 hn
    · exact absurd (mb_p (by have q1 := c1.1; have q2 := c1.2.1; grind)) hn
    · exact absurd (mb_p (by have q1 := c1.1; have q2 := c1.2.1; grind)) hn
    · exact absurd c1.2.2.1 hn
    · exact absurd c1.2.2.1 hn
    · have q1 := c1.1
      have q2 := c1.2.1
      have h147 : ¬ c < 147 := by grind
      have h152 : ¬ c < 152 := by grind
      have h157 : ¬ c < 157 := by grind
      have h161 : ¬ c < 161 := by grind
      have h166 : c < 166 := by grind
      rcases hm with ⟨n1, rfl, rfl, rfl⟩ | ⟨n1, rfl, rfl, rfl⟩ | ⟨n1, rfl, rfl, rfl⟩ | ⟨n1, rfl, rfl, rfl⟩ | ⟨n1, rfl, rfl, rfl⟩ | ⟨n1, rfl, rfl, rfl⟩ | ⟨n1, rfl, rfl, rfl⟩ | ⟨n1, rfl, rfl, rfl⟩ | ⟨n1, rfl, rfl, rfl⟩ | ⟨n1, rfl, rfl, rfl⟩ | ⟨n1, rfl, rfl, rfl⟩ | ⟨n1, rfl, rfl, rfl⟩ | ⟨n1, rfl, rfl, rfl⟩ | ⟨n1, rfl, rfl, rfl⟩ | ⟨n1, rfl, rfl, rfl⟩ | ⟨n1, rfl, rfl, rfl⟩ | ⟨n1, rfl, rfl, rfl⟩ | ⟨n1, rfl, rfl, rfl⟩ | ⟨n1, rfl, rfl, rfl⟩ | ⟨n1, rfl, rfl, rfl⟩ | ⟨n1, rfl, rfl, rfl⟩ | ⟨n1, rfl, rfl, rfl⟩ | ⟨n1, rfl, rfl, rfl⟩ | ⟨n1, rfl, rfl, rfl⟩
      · exact absurd n1.1.2 hn
      · exact absurd n1.1.2 hn
      · exact absurd n1.1.1 h147
      · exact absurd n1.1.1 h147
      · exact absurd n1.1.2 hn
      · exact absurd n1.1.2 hn
      · exact absurd n1.1.1.2 h152
      · exact absurd n1.1.1.2 h152
      · exact absurd n1.1.2 hn
      · exact absurd n1.1.2 hn
      · exact absurd n1.1.1.2 h157
      · exact absurd n1.1.1.2 h157
      · exact absurd n1.1.2 hn
      · exact absurd n1.1.2 hn
      · exact absurd n1.1.1.2 h161
      · exact absurd n1.1.1.2 h161
      · exact absurd n1.1.2 hn
      · exact absurd n1.1.2 hn
      · exact ⟨rfl, fun _ => ⟨r1, r2, rm, rp, rt, rn, rg, fun _ => ⟨d1, d2, d3, d4, six_c d5 (by decide), d6⟩⟩⟩
      · exact absurd c1.2.2.2 n1.2
      · exact absurd n1.1.2 hn
      · exact absurd n1.1.2 hn
      · exact absurd h166 n1.1.1
      · exact absurd h166 n1.1.1
    · have q1 := c1.1
      have q2 := c1.2.1
      have h147 : ¬ c < 147 := by grind
      have h152 : ¬ c < 152 := by grind
      have h157 : ¬ c < 157 := by grind
      have h161 : ¬ c < 161 := by grind
      have h166 : c < 166 := by grind
      rcases hm with ⟨n1, rfl, rfl, rfl⟩ | ⟨n1, rfl, rfl, rfl⟩ | ⟨n1, rfl, rfl, rfl⟩ | ⟨n1, rfl, rfl, rfl⟩ | ⟨n1, rfl, rfl, rfl⟩ | ⟨n1, rfl, rfl, rfl⟩ | ⟨n1, rfl, rfl, rfl⟩ | ⟨n1, rfl, rfl, rfl⟩ | ⟨n1, rfl, rfl, rfl⟩ | ⟨n1, rfl, rfl, rfl⟩ | ⟨n1, rfl, rfl, rfl⟩ | ⟨n1, rfl, rfl, rfl⟩ | ⟨n1, rfl, rfl, rfl⟩ | ⟨n1, rfl, rfl, rfl⟩ | ⟨n1, rfl, rfl, rfl⟩ | ⟨n1, rfl, rfl, rfl⟩ | ⟨n1, rfl, rfl, rfl⟩ | ⟨n1, rfl, rfl, rfl⟩ | ⟨n1, rfl, rfl, rfl⟩ | ⟨n1, rfl, rfl, rfl⟩ | ⟨n1, rfl, rfl, rfl⟩ | ⟨n1, rfl, rfl, rfl⟩ | ⟨n1, rfl, rfl, rfl⟩ | ⟨n1, rfl, rfl, rfl⟩
      · exact absurd n1.1.2 hn
      · exact absurd n1.1.2 hn
      · exact absurd n1.1.1 h147
      · exact absurd n1.1.1 h147
      · exact absurd n1.1.2 hn
      · exact absurd n1.1.2 hn
      · exact absurd n1.1.1.2 h152
      · exact absurd n1.1.1.2 h152
      · exact absurd n1.1.2 hn
      · exact absurd n1.1.2 hn
      · exact absurd n1.1.1.2 h157
      · exact absurd n1.1.1.2 h157
      · exact absurd n1.1.2 hn
      · exact absurd n1.1.2 hn
      · exact absurd n1.1.1.2 h161
      · exact absurd n1.1.1.2 h161
      · exact absurd n1.1.2 hn
      · exact absurd n1.1.2 hn
      · exact absurd n1.2 c1.2.2.2
      · exact ⟨rfl, fun h => absurd h (by decide)⟩
      · exact absurd n1.1.2 hn
      · exact absurd n1.1.2 hn
      · exact absurd h166 n1.1.1
      · exact absurd h166 n1.1.1
    · exact absurd c1.2.2.1 hn
    · exact absurd c1.2.2.1 hn
    · have q1 := c1.1
      have q2 := c1.2.1
      have h147 : ¬ c < 147 := by grind
      have h152 : ¬ c < 152 := by grind
      have h157 : ¬ c < 157 := by grind
      have h161 : ¬ c < 161 := by grind
      have h166 : ¬ c < 166 := by grind
      rcases hm with ⟨n1, rfl, rfl, rfl⟩ | ⟨n1, rfl, rfl, rfl⟩ | ⟨n1, rfl, rfl, rfl⟩ | ⟨n1, rfl, rfl, rfl⟩ | ⟨n1, rfl, rfl, rfl⟩ | ⟨n1, rfl, rfl, rfl⟩ | ⟨n1, rfl, rfl, rfl⟩ | ⟨n1, rfl, rfl, rfl⟩ | ⟨n1, rfl, rfl, rfl⟩ | ⟨n1, rfl, rfl, rfl⟩ | ⟨n1, rfl, rfl, rfl⟩ | ⟨n1, rfl, rfl, rfl⟩ | ⟨n1, rfl, rfl, rfl⟩ | ⟨n1, rfl, rfl, rfl⟩ | ⟨n1, rfl, rfl, rfl⟩ | ⟨n1, rfl, rfl, rfl⟩ | ⟨n1, rfl, rfl, rfl⟩ | ⟨n1, rfl, rfl, rfl⟩ | ⟨n1, rfl, rfl, rfl⟩ | ⟨n1, rfl, rfl, rfl⟩ | ⟨n1, rfl, rfl, rfl⟩ | ⟨n1, rfl, rfl, rfl⟩ | ⟨n1, rfl, rfl, rfl⟩ | ⟨n1, rfl, rfl, rfl⟩
      · exact absurd n1.1.2 hn
      · exact absurd n1.1.2 hn
      · exact absurd n1.1.1 h147
      · exact absurd n1.1.1 h147
      · exact absurd n1.1.2 hn
      · exact absurd n1.1.2 hn
      · exact absurd n1.1.1.2 h152
      · exact absurd n1.1.1.2 h152
      · exact absurd n1.1.2 hn
      · exact absurd n1.1.2 hn
      · exact absurd n1.1.1.2 h157
      · exact absurd n1.1.1.2 h157
      · exact absurd n1.1.2 hn
      · exact absurd n1.1.2 hn
      · exact absurd n1.1.1.2 h161
      · exact absurd n1.1.1.2 h161
      · exact absurd n1.1.2 hn
      · exact absurd n1.1.2 hn
      · exact absurd n1.1.1.2 h166
      · exact absurd n1.1.1.2 h166
      · exact absurd n1.1.2 hn
      · exact absurd n1.1.2 hn
      · exact ⟨rfl, fun _ => ⟨r1, r2, rm, rp, rt, rn, rg, fun _ => ⟨d1, d2, d3, d4, six_c d5 (by decide), d6⟩⟩⟩
      · exact absurd c1.2.2.2 n1.2
    · have q1 := c1.1
      have q2 := c1.2.1
      have h147 : ¬ c < 147 := by grind
      have h152 : ¬ c < 152 := by grind
      have h157 : ¬ c < 157 := by grind
      have h161 : ¬ c < 161 := by grind
      have h166 : ¬ c < 166 := by grind
      rcases hm with ⟨n1, rfl, rfl, rfl⟩ | ⟨n1, rfl, rfl, rfl⟩ | ⟨n1, rfl, rfl, rfl⟩ | ⟨n1, rfl, rfl, rfl⟩ | ⟨n1, rfl, rfl, rfl⟩ | ⟨n1, rfl, rfl, rfl⟩ | ⟨n1, rfl, rfl, rfl⟩ | ⟨n1, rfl, rfl, rfl⟩ | ⟨n1, rfl, rfl, rfl⟩ | ⟨n1, rfl, rfl, rfl⟩ | ⟨n1, rfl, rfl, rfl⟩ | ⟨n1, rfl, rfl, rfl⟩ | ⟨n1, rfl, rfl, rfl⟩ | ⟨n1, rfl, rfl, rfl⟩ | ⟨n1, rfl, rfl, rfl⟩ | ⟨n1, rfl, rfl, rfl⟩ | ⟨n1, rfl, rfl, rfl⟩ | ⟨n1, rfl, rfl, rfl⟩ | ⟨n1, rfl, rfl, rfl⟩ | ⟨n1, rfl, rfl, rfl⟩ | ⟨n1, rfl, rfl, rfl⟩ | ⟨n1, rfl, rfl, rfl⟩ | ⟨n1, rfl, rfl, rfl⟩ | ⟨n1, rfl, rfl, rfl⟩
      · exact absurd n1.1.2 hn
      · exact absurd n1.1.2 hn
      · exact absurd n1.1.1 h147
      · exact absurd n1.1.1 h147
      · exact absurd n1.1.2 hn
      · exact absurd n1.1.2 hn
      · exact absurd n1.1.1.2 h152
      · exact absurd n1.1.1.2 h152
      · exact absurd n1.1.2 hn
      · exact absurd n1.1.2 hn
      · exact absurd n1.1.1.2 h157
      · exact absurd n1.1.1.2 h157
      · exact absurd n1.1.2 hn
      · exact absurd n1.1.2 hn
      · exact absurd n1.1.1.2 h161
      · exact absurd n1.1.1.2 h161
      · exact absurd n1.1.2 hn
      · exact absurd n1.1.2 hn
      · exact absurd n1.1.1.2 h166
      · exact absurd n1.1.1.2 h166
      · exact absurd n1.1.2 hn
      · exact absurd n1.1.2 hn
      · exact absurd n1.2 c1.2.2.2
      · exact ⟨rfl, fun h => absurd h (by decide)⟩
