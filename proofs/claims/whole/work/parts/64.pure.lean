theorem i_nat {x : Int32} (h : 0 ≤ x) : (x.toBitVec.toNat : Int) = x.toInt := by
  rw [i_le, z0] at h
  have e : x.toInt = x.toBitVec.toInt := rfl
  rw [e] at h ⊢
  rw [BitVec.toInt_eq_toNat_cond] at h ⊢
  split at h
  · next q => rw [if_pos q]
  · next q =>
    have := x.toBitVec.isLt
    omega
theorem by_nat {x : Int32} (h : 0 ≤ x ∧ x ≤ 255) : x.toBitVec.toNat < 256 := by
  have e := i_nat h.1
  have h2 := i_le.mp h.2
  rw [show (255 : Int32).toInt = 255 from rfl] at h2
  omega
def nrN (g : Int32 → Int32) (p : Int32) : Nat → Nat
  | 0 => 0
  | k + 1 => nrN g p k * 256 + (g (p + Int32.ofNat k)).toBitVec.toNat
theorem nrd_n {g : Int32 → Int32} {p : Int32} (hg : ∀ q, 0 ≤ g q ∧ g q ≤ 255) : ∀ k : Nat, k ≤ 4 → (nrd g p k).toBitVec.toNat = nrN g p k ∧ nrN g p k < 256 ^ k := by
  intro k
  induction k with
  | zero => intro _; exact ⟨rfl, Nat.zero_lt_one⟩
  | succ k ih =>
    intro hk
    obtain ⟨h1, h2⟩ := ih (by omega)
    have hb := by_nat (hg (p + Int32.ofNat k))
    have hp : 256 ^ k ≤ 256 ^ 3 := Nat.pow_le_pow_right (by decide) (by omega)
    have e3 : 256 ^ 3 = 16777216 := rfl
    have e1 : ((nrd g p k <<< ((8 : Int32) &&& 31)) ||| g (p + Int32.ofNat k)).toBitVec = (nrd g p k).toBitVec <<< 8 ||| (g (p + Int32.ofNat k)).toBitVec := rfl
    constructor
    · show ((nrd g p k <<< ((8 : Int32) &&& 31)) ||| g (p + Int32.ofNat k)).toBitVec.toNat = _
      rw [e1, BitVec.toNat_or, BitVec.toNat_shiftLeft, h1, Nat.shiftLeft_eq, Nat.mod_eq_of_lt (by omega)]
      show nrN g p k * 2 ^ 8 ||| _ = nrN g p k * 256 + _
      rw [← Nat.shiftLeft_eq, ← Nat.shiftLeft_add_eq_or_of_lt (by omega), Nat.shiftLeft_eq]
    · show nrN g p k * 256 + _ < 256 ^ k * 256
      omega
theorem bv_eq {x y : Int32} (h : x.toBitVec.toNat = y.toBitVec.toNat) : x = y := Int32.toBitVec_inj.mp (BitVec.eq_of_toNat_eq h)
theorem nrd_i {g : Int32 → Int32} {p q : Int32} (hg : ∀ q, 0 ≤ g q ∧ g q ≤ 255) : nrd g p 4 = nrd g q 4 ↔ ∀ j : Nat, j < 4 → g (p + Int32.ofNat j) = g (q + Int32.ofNat j) := by
  have hp := nrd_n (p := p) hg 4 (by decide)
  have hq := nrd_n (p := q) hg 4 (by decide)
  have b := fun z => by_nat (hg z)
  constructor
  · intro h
    have e : nrN g p 4 = nrN g q 4 := by rw [← hp.1, ← hq.1, h]
    simp only [nrN] at e
    have p0 := b (p + Int32.ofNat 0)
    have p1 := b (p + Int32.ofNat 1)
    have p2 := b (p + Int32.ofNat 2)
    have p3 := b (p + Int32.ofNat 3)
    have q0 := b (q + Int32.ofNat 0)
    have q1 := b (q + Int32.ofNat 1)
    have q2 := b (q + Int32.ofNat 2)
    have q3 := b (q + Int32.ofNat 3)
    intro j hj
    have hj : j = 0 ∨ j = 1 ∨ j = 2 ∨ j = 3 := by omega
    rcases hj with rfl | rfl | rfl | rfl
    · exact bv_eq (by omega)
    · exact bv_eq (by omega)
    · exact bv_eq (by omega)
    · exact bv_eq (by omega)
  · intro h
    have e : nrN g p 4 = nrN g q 4 := by
      simp only [nrN]
      rw [h 0 (by decide), h 1 (by decide), h 2 (by decide), h 3 (by decide)]
    exact bv_eq (by rw [hp.1, hq.1, e])
theorem smR_iff {F G : Nat → Int32} : ∀ (t j : Nat), smR F G t j = true ↔ ∀ i, j ≤ i → i < j + t → F i = G i := by
  intro t
  induction t with
  | zero => intro j; exact ⟨fun _ i h1 h2 => absurd h1 (by omega), fun _ => rfl⟩
  | succ t ih =>
    intro j
    rw [smR_s, Bool.and_eq_true, ih (j + 1), decide_eq_true_eq]
    constructor
    · rintro ⟨h1, h2⟩ i q1 q2
      by_cases e : i = j
      · rw [e]; exact h1
      · exact h2 i (by omega) (by omega)
    · intro h
      exact ⟨h j (by omega) (by omega), fun i q1 q2 => h i (by omega) (by omega)⟩
theorem bvlo (v : BitVec 64) (s : Nat) (hs : s ≤ 56) : (v.sshiftRight s).setWidth 32 &&& 255#32 = (v >>> s).setWidth 32 &&& 255#32 := by
  apply BitVec.eq_of_getLsbD_eq
  intro i hi
  rw [BitVec.getLsbD_and, BitVec.getLsbD_and]
  by_cases h8 : i < 8
  · have e : (BitVec.setWidth 32 (v.sshiftRight s)).getLsbD i = (BitVec.setWidth 32 (v >>> s)).getLsbD i := by
      rw [BitVec.getLsbD_setWidth, BitVec.getLsbD_setWidth, BitVec.getLsbD_sshiftRight, BitVec.getLsbD_ushiftRight, if_pos (by omega)]
      have : ¬ 64 ≤ i := by omega
      simp [this]
    rw [e]
  · have e : (255#32).getLsbD i = false := m255_hi ⟨i, hi⟩ (by show 8 ≤ i; omega)
    rw [e, Bool.and_false, Bool.and_false]
theorem lo_b (a : Int64) (s : Nat) (hs : s ≤ 56) {c : Int64} {d : UInt64} (hc : (a >>> c).toBitVec = a.toBitVec.sshiftRight s) (hd : (a.toUInt64 >>> d).toInt64.toBitVec = a.toBitVec >>> s) : (a >>> c).toInt32 &&& 255 = (a.toUInt64 >>> d).toInt64.toInt32 &&& 255 := by
  apply Int32.toBitVec_inj.mp
  have t : ∀ x : Int64, x.toInt32.toBitVec = x.toBitVec.setWidth 32 := fun x => BitVec.signExtend_eq_setWidth_of_le _ (by decide)
  show (a >>> c).toInt32.toBitVec &&& 255#32 = (a.toUInt64 >>> d).toInt64.toInt32.toBitVec &&& 255#32
  rw [t, t, hc, hd]
  exact bvlo _ _ hs
theorem lo_c (x : Int64) : (x &&& 255).toInt32 = x.toInt32 &&& 255 := Int64.toInt32_and x 255
theorem fd_e (w : Int64) : ∀ k : Nat, k ≤ 8 → fdM w k = fdB w k := by
  intro k
  induction k with
  | zero => intro _; rfl
  | succ k ih =>
    intro hk
    show _ :: fdM w k = _ :: fdB w k
    rw [ih (by omega)]
    congr 1
    have h : k = 0 ∨ k = 1 ∨ k = 2 ∨ k = 3 ∨ k = 4 ∨ k = 5 ∨ k = 6 ∨ k = 7 := by omega
    rcases h with rfl | rfl | rfl | rfl | rfl | rfl | rfl | rfl
    · exact lo_b w 0 (by decide) rfl rfl
    · exact lo_b w 8 (by decide) rfl rfl
    · exact lo_b w 16 (by decide) rfl rfl
    · exact lo_b w 24 (by decide) rfl rfl
    · exact lo_b w 32 (by decide) rfl rfl
    · exact lo_b w 40 (by decide) rfl rfl
    · exact lo_b w 48 (by decide) rfl rfl
    · exact lo_b w 56 (by decide) rfl rfl
theorem lt_e (a b : Int64) (k : Nat) (hk : k < 16) : letM a b (Int32.ofNat k) = letC a b (Int32.ofNat k) := by
  have h : k = 0 ∨ k = 1 ∨ k = 2 ∨ k = 3 ∨ k = 4 ∨ k = 5 ∨ k = 6 ∨ k = 7 ∨ k = 8 ∨ k = 9 ∨ k = 10 ∨ k = 11 ∨ k = 12 ∨ k = 13 ∨ k = 14 ∨ k = 15 := by omega
  unfold letM letC
  rw [lo_c]
  rcases h with rfl | rfl | rfl | rfl | rfl | rfl | rfl | rfl | rfl | rfl | rfl | rfl | rfl | rfl | rfl | rfl
  · rw [if_pos (by decide), if_pos (by decide)]; exact lo_b a 0 (by decide) rfl rfl
  · rw [if_pos (by decide), if_pos (by decide)]; exact lo_b a 8 (by decide) rfl rfl
  · rw [if_pos (by decide), if_pos (by decide)]; exact lo_b a 16 (by decide) rfl rfl
  · rw [if_pos (by decide), if_pos (by decide)]; exact lo_b a 24 (by decide) rfl rfl
  · rw [if_pos (by decide), if_pos (by decide)]; exact lo_b a 32 (by decide) rfl rfl
  · rw [if_pos (by decide), if_pos (by decide)]; exact lo_b a 40 (by decide) rfl rfl
  · rw [if_pos (by decide), if_pos (by decide)]; exact lo_b a 48 (by decide) rfl rfl
  · rw [if_pos (by decide), if_pos (by decide)]; exact lo_b a 56 (by decide) rfl rfl
  · rw [if_neg (by decide), if_neg (by decide)]; exact lo_b b 0 (by decide) rfl rfl
  · rw [if_neg (by decide), if_neg (by decide)]; exact lo_b b 8 (by decide) rfl rfl
  · rw [if_neg (by decide), if_neg (by decide)]; exact lo_b b 16 (by decide) rfl rfl
  · rw [if_neg (by decide), if_neg (by decide)]; exact lo_b b 24 (by decide) rfl rfl
  · rw [if_neg (by decide), if_neg (by decide)]; exact lo_b b 32 (by decide) rfl rfl
  · rw [if_neg (by decide), if_neg (by decide)]; exact lo_b b 40 (by decide) rfl rfl
  · rw [if_neg (by decide), if_neg (by decide)]; exact lo_b b 48 (by decide) rfl rfl
  · rw [if_neg (by decide), if_neg (by decide)]; exact lo_b b 56 (by decide) rfl rfl
theorem nmE (a b : Int64) : ∀ (n s : Nat), s + n ≤ 16 → nmV a b n s = nmB a b n s := by
  intro n
  induction n with
  | zero => intro s _; rfl
  | succ n ih =>
    intro s h
    rw [nmV_s, nmB_s, ih (s + 1) (by omega), lt_e a b s (by omega)]
