theorem p_La_width {I : mI} {A : mA} {L : mL} {f c w : Int32} (R : RL I A L) : xmW m_La_width (7, 113) [.ref 0, .int f, .int c, .int w] (pic I A L) 1 6 (cP1 m_Mo_width (1, 20) [.ref 34, .int f, .int c, .int w]) := by
  refine xmW_mono c_La_width ?_
  rintro _ (⟨hc, rfl⟩ | ⟨hc, rfl⟩)
  · refine ⟨1, I, A, L, rfl, xm_mono c_Mo_width_34 ?_⟩
    rintro _ (⟨hm, rfl⟩ | ⟨hm, rfl⟩)
    · exact ⟨_, _, rfl, RL_t ⟨rfl, rfl⟩ R, rfl⟩
    · exact absurd hm hc
  · refine ⟨0, I, _, L, rfl, xm_mono c_Mo_width_34 ?_⟩
    rintro _ (⟨hm, rfl⟩ | ⟨hm, rfl⟩)
    · exact absurd hc hm
    · obtain ⟨r1, r2, r3, r4, r5, r6, r7⟩ := R
      have e : upd (A 2) (f * 256 + c).toNatClampNeg w = upd (A 41) (256 * f + c).toNatClampNeg w := by rw [r1.2.1, Int32.mul_comm f 256]
      exact ⟨_, _, rfl, ⟨⟨r1.1, e, r1.2.2.1, r1.2.2.2⟩, RWf_fr (show frI [3400] I (upd I 3400 0) from (by repeat (first | exact frI_rf | refine frI_u ?_ (by decide)))) (by decide) r2, RWb_fr (show frI [3400] I (upd I 3400 0) from (by repeat (first | exact frI_rf | refine frI_u ?_ (by decide)))) (by decide) (show frA [2, 41] A (upA (upA A 2 (f * 256 + c).toNatClampNeg w) 41 (256 * f + c).toNatClampNeg w) from (by repeat (first | exact frA_rf | refine frA_u ?_ (by decide) | refine frA_uf ?_ (by decide)))) (by decide) r3, RWt_fr (show frI [3400] I (upd I 3400 0) from (by repeat (first | exact frI_rf | refine frI_u ?_ (by decide)))) (by decide) (show frA [2, 41] A (upA (upA A 2 (f * 256 + c).toNatClampNeg w) 41 (256 * f + c).toNatClampNeg w) from (by repeat (first | exact frA_rf | refine frA_u ?_ (by decide) | refine frA_uf ?_ (by decide)))) (by decide) r4, RH_fr (show frI [3400] I (upd I 3400 0) from (by repeat (first | exact frI_rf | refine frI_u ?_ (by decide)))) (by decide) (show frA [2, 41] A (upA (upA A 2 (f * 256 + c).toNatClampNeg w) 41 (256 * f + c).toNatClampNeg w) from (by repeat (first | exact frA_rf | refine frA_u ?_ (by decide) | refine frA_uf ?_ (by decide)))) (by decide) r5, RC_fr (show frI [3400] I (upd I 3400 0) from (by repeat (first | exact frI_rf | refine frI_u ?_ (by decide)))) (by decide) (show frA [2, 41] A (upA (upA A 2 (f * 256 + c).toNatClampNeg w) 41 (256 * f + c).toNatClampNeg w) from (by repeat (first | exact frA_rf | refine frA_u ?_ (by decide) | refine frA_uf ?_ (by decide)))) (by decide) r6, RD_fr (show frI [3400] I (upd I 3400 0) from (by repeat (first | exact frI_rf | refine frI_u ?_ (by decide)))) (by decide) (show frA [2, 41] A (upA (upA A 2 (f * 256 + c).toNatClampNeg w) 41 (256 * f + c).toNatClampNeg w) from (by repeat (first | exact frA_rf | refine frA_u ?_ (by decide) | refine frA_uf ?_ (by decide)))) (by decide) r7⟩, rfl⟩
theorem p_La_count {I : mI} {A : mA} {L : mL} {i v : Int32} (R : RL I A L) : xmW m_La_count (7, 112) [.ref 0, .int i, .int v] (pic I A L) 1 6 (cP1 m_Mo_count (0, 0) [.ref 34, .int i, .int v]) := by
  refine xmW_mono c_La_count ?_
  rintro _ (⟨hc, rfl⟩ | ⟨hc, rfl⟩)
  · refine ⟨1, I, A, L, rfl, xm_mono c_Mo_count_34 ?_⟩
    rintro _ (⟨hm, rfl⟩ | ⟨hm, rfl⟩)
    · exact ⟨_, _, rfl, RL_t ⟨rfl, rfl⟩ R, rfl⟩
    · exact absurd (show 0 ≤ i ∧ i < 10 by grind) hc
  · refine ⟨0, I, _, L, rfl, xm_mono c_Mo_count_34 ?_⟩
    rintro _ (⟨hm, rfl⟩ | ⟨hm, rfl⟩)
    · exact absurd (show 0 ≤ i ∧ i ≤ 9 by grind) hm
    · obtain ⟨r1, r2, r3, r4, r5, r6, r7⟩ := R
      have e : upd (A 10) i.toNatClampNeg v = upd (A 42) i.toNatClampNeg v := by rw [r1.2.2.1]
      exact ⟨_, _, rfl, ⟨⟨r1.1, r1.2.1, e, r1.2.2.2⟩, RWf_fr (show frI [3400] I (upd I 3400 0) from (by repeat (first | exact frI_rf | refine frI_u ?_ (by decide)))) (by decide) r2, RWb_fr (show frI [3400] I (upd I 3400 0) from (by repeat (first | exact frI_rf | refine frI_u ?_ (by decide)))) (by decide) (show frA [10, 42] A (upA (upA A 10 i.toNatClampNeg v) 42 i.toNatClampNeg v) from (by repeat (first | exact frA_rf | refine frA_u ?_ (by decide) | refine frA_uf ?_ (by decide)))) (by decide) r3, RWt_fr (show frI [3400] I (upd I 3400 0) from (by repeat (first | exact frI_rf | refine frI_u ?_ (by decide)))) (by decide) (show frA [10, 42] A (upA (upA A 10 i.toNatClampNeg v) 42 i.toNatClampNeg v) from (by repeat (first | exact frA_rf | refine frA_u ?_ (by decide) | refine frA_uf ?_ (by decide)))) (by decide) r4, RH_fr (show frI [3400] I (upd I 3400 0) from (by repeat (first | exact frI_rf | refine frI_u ?_ (by decide)))) (by decide) (show frA [10, 42] A (upA (upA A 10 i.toNatClampNeg v) 42 i.toNatClampNeg v) from (by repeat (first | exact frA_rf | refine frA_u ?_ (by decide) | refine frA_uf ?_ (by decide)))) (by decide) r5, RC_fr (show frI [3400] I (upd I 3400 0) from (by repeat (first | exact frI_rf | refine frI_u ?_ (by decide)))) (by decide) (show frA [10, 42] A (upA (upA A 10 i.toNatClampNeg v) 42 i.toNatClampNeg v) from (by repeat (first | exact frA_rf | refine frA_u ?_ (by decide) | refine frA_uf ?_ (by decide)))) (by decide) r6, RD_fr (show frI [3400] I (upd I 3400 0) from (by repeat (first | exact frI_rf | refine frI_u ?_ (by decide)))) (by decide) (show frA [10, 42] A (upA (upA A 10 i.toNatClampNeg v) 42 i.toNatClampNeg v) from (by repeat (first | exact frA_rf | refine frA_u ?_ (by decide) | refine frA_uf ?_ (by decide)))) (by decide) r7⟩, rfl⟩
theorem ix_5 {m : Int32} (h0 : 0 ≤ m) (h1 : m ≤ 500) : (m * 5).toNatClampNeg = 5 * m.toInt.toNat ∧ (m * 5 + 1).toNatClampNeg = 5 * m.toInt.toNat + 1 ∧ (m * 5 + 2).toNatClampNeg = 5 * m.toInt.toNat + 2 ∧ (m * 5 + 3).toNatClampNeg = 5 * m.toInt.toNat + 3 ∧ (m * 5 + 4).toNatClampNeg = 5 * m.toInt.toNat + 4 := by
  have h2 : m ≤ 2000 := by grind
  have q := fun j (hj : j ≤ 600) => ix_l (m := m) (c := 5) (q := 5) (j := j) h0 h2 rfl (by decide) hj
  have q0 := q 0 (by decide)
  rw [show Int32.ofNat 0 = 0 from rfl, Int32.add_zero] at q0
  exact ⟨q0, q 1 (by decide), q 2 (by decide), q 3 (by decide), q 4 (by decide)⟩
theorem RH_add {I I' : mI} {A A' : mA} {f c t x y : Int32} (h : RH I A) (hn : I 1101 < 500) (e1 : I' 1101 = I 1101 + 1) (e2 : I' 3420 = I 3420 + 1) (a12 : A' 12 = upd (upd (upd (upd (upd (A 12) (I 1101 * 5).toNatClampNeg f) (I 1101 * 5 + 1).toNatClampNeg c) (I 1101 * 5 + 2).toNatClampNeg t) (I 1101 * 5 + 3).toNatClampNeg x) (I 1101 * 5 + 4).toNatClampNeg y) (a45 : A' 45 = upd (A 45) (I 3420).toNatClampNeg f) (a46 : A' 46 = upd (A 46) (I 3420).toNatClampNeg c) (a47 : A' 47 = upd (A 47) (I 3420).toNatClampNeg x) (a48 : A' 48 = upd (A 48) (I 3420).toNatClampNeg y) (a49 : A' 49 = upd (A 49) (I 3420).toNatClampNeg t) (hf : f = -1 ∨ (0 ≤ f ∧ f ≤ 255 ∧ 0 ≤ c ∧ c ≤ 255)) : RH I' A' := by
  obtain ⟨h1, h2, h3, h4⟩ := h
  obtain ⟨x0, x1, x2, x3, x4⟩ := ix_5 h2 h3
  rw [x0, x1, x2, x3, x4] at a12
  have en : (I 3420).toNatClampNeg = (I 1101).toInt.toNat := by rw [← h1]; rfl
  rw [en] at a45 a46 a47 a48 a49
  have g0 := i_le.mp h2
  rw [z0] at g0
  have g1 := i_lt.mp hn
  rw [show (500 : Int32).toInt = 500 from rfl] at g1
  have ea : (I 1101 + 1).toInt = (I 1101).toInt + 1 := by rw [i_add (by rw [z1]; omega) (by rw [z1]; omega), z1]
  refine ⟨by rw [e1, e2, h1], by rw [e1]; exact i_le.mpr (by rw [z0, ea]; omega), by rw [e1]; exact i_le.mpr (by rw [ea, show (500 : Int32).toInt = 500 from rfl]; omega), fun k hk => ?_⟩
  rw [e1, ea] at hk
  generalize (I 1101).toInt.toNat = n at a12 a45 a46 a47 a48 a49 en
  rw [a12, a45, a46, a47, a48, a49]
  have hn2 : ((I 3420).toNatClampNeg : Int) = (I 1101).toInt := by rw [← h1, i_cl]; omega
  by_cases hl : (k : Int) < (I 1101).toInt
  · have hkn : k < n := by omega
    obtain ⟨k1, k2, k3, k4, k5, k6⟩ := h4 k hl
    have w : ∀ j, j < 5 → upd (upd (upd (upd (upd (A 12) (5 * n) f) (5 * n + 1) c) (5 * n + 2) t) (5 * n + 3) x) (5 * n + 4) y (5 * k + j) = A 12 (5 * k + j) := fun j hj => by rw [upd_n (by omega), upd_n (by omega), upd_n (by omega), upd_n (by omega), upd_n (by omega)]
    have w0 : upd (upd (upd (upd (upd (A 12) (5 * n) f) (5 * n + 1) c) (5 * n + 2) t) (5 * n + 3) x) (5 * n + 4) y (5 * k) = A 12 (5 * k) := w 0 (by decide)
    rw [w0, w 1 (by decide), w 2 (by decide), w 3 (by decide), w 4 (by decide), upd_n (by omega), upd_n (by omega), upd_n (by omega), upd_n (by omega), upd_n (by omega)]
    exact ⟨k1, k2, k3, k4, k5, k6⟩
  · have hkn : k = n := by omega
    subst hkn
    refine ⟨?_, ?_, ?_, ?_, ?_, ?_⟩
    · rw [upd_n (by omega), upd_n (by omega), upd_n (by omega), upd_n (by omega), upd_s, upd_s]
    · rw [upd_n (by omega), upd_n (by omega), upd_n (by omega), upd_s, upd_s]
    · rw [upd_n (by omega), upd_n (by omega), upd_s, upd_s]
    · rw [upd_n (by omega), upd_s, upd_s]
    · rw [upd_s, upd_s]
    · rw [upd_s, upd_s]; exact hf
theorem cl_256 {f : Int32} (h0 : 0 ≤ f) (h1 : f ≤ 255) : f.toNatClampNeg < 256 := by
  have g0 := i_le.mp h0
  rw [z0] at g0
  have g1 := i_le.mp h1
  rw [show (255 : Int32).toInt = 255 from rfl] at g1
  rw [i_cl]
  omega
theorem p_La_put {I : mI} {A : mA} {L : mL} {f c x y : Int32} (R : RL I A L) : xmW m_La_put (7, 114) [.ref 0, .int f, .int c, .int x, .int y, .ref 61] (pic I A L) 1 6 (cP2 m_Mo_put (1, 25) [.ref 34, .int f, .int c, .int x, .int y]) := by
  have h5 := R.2.2.2.2.1
  have e5 := h5.1
  have u0 : 0 ≤ I 3420 := by rw [← e5]; exact h5.2.1
  have u1 : I 3420 ≤ 500 := by rw [← e5]; exact h5.2.2.1
  have hcc : (((0 ≤ f ∧ f ≤ 255) ∧ 0 < A 9 f.toNatClampNeg) ∧ (0 ≤ c ∧ c ≤ 255) ∧ (-1000000000 ≤ x ∧ x ≤ 1000000000) ∧ (-1000000000 ≤ y ∧ y ≤ 1000000000)) ↔ (((0 ≤ f ∧ f ≤ 255) ∧ ¬ A 35 f.toNatClampNeg = 0) ∧ (0 ≤ c ∧ c ≤ 255) ∧ (-1000000000 ≤ x ∧ x ≤ 1000000000) ∧ (-1000000000 ≤ y ∧ y ≤ 1000000000)) := by
    have q : (0 ≤ f ∧ f ≤ 255) → (¬ A 35 f.toNatClampNeg = 0 ↔ 0 < A 9 f.toNatClampNeg) := fun q => (R.1.2.2.2 f.toNatClampNeg (cl_256 q.1 q.2)).2.2.1
    constructor
    · exact fun ⟨⟨a, b⟩, c⟩ => ⟨⟨a, (q a).mpr b⟩, c⟩
    · exact fun ⟨⟨a, b⟩, c⟩ => ⟨⟨a, (q a).mp b⟩, c⟩
  refine xmW_mono (c_La_put h5.2.1) ?_
  rintro _ (⟨hc, rfl⟩ | ⟨⟨hc, hq⟩, rfl⟩ | ⟨⟨hc, hq⟩, rfl⟩)
  · refine ⟨1, I, A, L, rfl, xm_mono (c_Mo_put_34 u0 u1) ?_⟩
    rintro _ (⟨hm, rfl⟩ | ⟨⟨hm, hq⟩, rfl⟩ | ⟨⟨hm, hq⟩, rfl⟩)
    · exact ⟨_, _, _, rfl, RL_t ⟨rfl, rfl⟩ R, rfl, fun q => absurd q (by decide)⟩
    · exact absurd (hcc.mpr hm) hc
    · exact absurd (hcc.mpr hm) hc
  · refine ⟨2, I, A, L, rfl, xm_mono (c_Mo_put_34 u0 u1) ?_⟩
    rintro _ (⟨hm, rfl⟩ | ⟨⟨hm, hq2⟩, rfl⟩ | ⟨⟨hm, hq2⟩, rfl⟩)
    · exact absurd (hcc.mp hc) hm
    · exact ⟨_, _, _, rfl, RL_t ⟨rfl, rfl⟩ R, rfl, fun q => absurd q (by decide)⟩
    · exact absurd (show I 3420 = 500 by grind) hq2
  · refine ⟨0, _, _, _, rfl, xm_mono (c_Mo_put_34 (I := upd I 1101 (I 1101 + 1)) u0 u1) ?_⟩
    rintro _ (⟨hm, rfl⟩ | ⟨⟨hm, hq2⟩, rfl⟩ | ⟨⟨hm, hq2⟩, rfl⟩)
    · exact absurd (hcc.mp hc) hm
    · exact absurd (show I 3420 < 500 by rw [← e5]; exact hq) (by rw [show I 3420 = 500 from hq2]; decide)
    · obtain ⟨r1, r2, r3, r4, r5, r6, r7⟩ := R
      have h9 : RH (upd (upd (upd I 1101 (I 1101 + 1)) 3400 0) 3420 (I 3420 + 1)) (upA (upA (upA (upA (upA (upA (upA (upA (upA (upA A 12 (I 1101 * 5).toNatClampNeg f) 12 (I 1101 * 5 + 1).toNatClampNeg c) 12 (I 1101 * 5 + 2).toNatClampNeg 0) 12 (I 1101 * 5 + 3).toNatClampNeg x) 12 (I 1101 * 5 + 4).toNatClampNeg y) 45 (I 3420).toNatClampNeg f) 46 (I 3420).toNatClampNeg c) 47 (I 3420).toNatClampNeg x) 48 (I 3420).toNatClampNeg y) 49 (I 3420).toNatClampNeg 0) := RH_add r5 hq rfl rfl rfl rfl rfl rfl rfl rfl (Or.inr ⟨hc.1.1.1, hc.1.1.2, hc.2.1.1, hc.2.1.2⟩)
      exact ⟨_, _, _, rfl, ⟨RF_fr (show frA [12, 45, 46, 47, 48, 49] A (upA (upA (upA (upA (upA (upA (upA (upA (upA (upA A 12 (I 1101 * 5).toNatClampNeg f) 12 (I 1101 * 5 + 1).toNatClampNeg c) 12 (I 1101 * 5 + 2).toNatClampNeg 0) 12 (I 1101 * 5 + 3).toNatClampNeg x) 12 (I 1101 * 5 + 4).toNatClampNeg y) 45 (I 3420).toNatClampNeg f) 46 (I 3420).toNatClampNeg c) 47 (I 3420).toNatClampNeg x) 48 (I 3420).toNatClampNeg y) 49 (I 3420).toNatClampNeg 0) from (by repeat (first | exact frA_rf | refine frA_u ?_ (by decide) | refine frA_uf ?_ (by decide)))) (by decide) ⟨rfl, rfl⟩ r1, RWf_fr (show frI [3400, 1101, 3420] I (upd (upd (upd I 1101 (I 1101 + 1)) 3400 0) 3420 (I 3420 + 1)) from (by repeat (first | exact frI_rf | refine frI_u ?_ (by decide)))) (by decide) r2, RWb_fr (show frI [3400, 1101, 3420] I (upd (upd (upd I 1101 (I 1101 + 1)) 3400 0) 3420 (I 3420 + 1)) from (by repeat (first | exact frI_rf | refine frI_u ?_ (by decide)))) (by decide) (show frA [12, 45, 46, 47, 48, 49] A (upA (upA (upA (upA (upA (upA (upA (upA (upA (upA A 12 (I 1101 * 5).toNatClampNeg f) 12 (I 1101 * 5 + 1).toNatClampNeg c) 12 (I 1101 * 5 + 2).toNatClampNeg 0) 12 (I 1101 * 5 + 3).toNatClampNeg x) 12 (I 1101 * 5 + 4).toNatClampNeg y) 45 (I 3420).toNatClampNeg f) 46 (I 3420).toNatClampNeg c) 47 (I 3420).toNatClampNeg x) 48 (I 3420).toNatClampNeg y) 49 (I 3420).toNatClampNeg 0) from (by repeat (first | exact frA_rf | refine frA_u ?_ (by decide) | refine frA_uf ?_ (by decide)))) (by decide) r3, RWt_fr (show frI [3400, 1101, 3420] I (upd (upd (upd I 1101 (I 1101 + 1)) 3400 0) 3420 (I 3420 + 1)) from (by repeat (first | exact frI_rf | refine frI_u ?_ (by decide)))) (by decide) (show frA [12, 45, 46, 47, 48, 49] A (upA (upA (upA (upA (upA (upA (upA (upA (upA (upA A 12 (I 1101 * 5).toNatClampNeg f) 12 (I 1101 * 5 + 1).toNatClampNeg c) 12 (I 1101 * 5 + 2).toNatClampNeg 0) 12 (I 1101 * 5 + 3).toNatClampNeg x) 12 (I 1101 * 5 + 4).toNatClampNeg y) 45 (I 3420).toNatClampNeg f) 46 (I 3420).toNatClampNeg c) 47 (I 3420).toNatClampNeg x) 48 (I 3420).toNatClampNeg y) 49 (I 3420).toNatClampNeg 0) from (by repeat (first | exact frA_rf | refine frA_u ?_ (by decide) | refine frA_uf ?_ (by decide)))) (by decide) r4, h9, RC_fr (show frI [3400, 1101, 3420] I (upd (upd (upd I 1101 (I 1101 + 1)) 3400 0) 3420 (I 3420 + 1)) from (by repeat (first | exact frI_rf | refine frI_u ?_ (by decide)))) (by decide) (show frA [12, 45, 46, 47, 48, 49] A (upA (upA (upA (upA (upA (upA (upA (upA (upA (upA A 12 (I 1101 * 5).toNatClampNeg f) 12 (I 1101 * 5 + 1).toNatClampNeg c) 12 (I 1101 * 5 + 2).toNatClampNeg 0) 12 (I 1101 * 5 + 3).toNatClampNeg x) 12 (I 1101 * 5 + 4).toNatClampNeg y) 45 (I 3420).toNatClampNeg f) 46 (I 3420).toNatClampNeg c) 47 (I 3420).toNatClampNeg x) 48 (I 3420).toNatClampNeg y) 49 (I 3420).toNatClampNeg 0) from (by repeat (first | exact frA_rf | refine frA_u ?_ (by decide) | refine frA_uf ?_ (by decide)))) (by decide) r6, RD_fr (show frI [3400, 1101, 3420] I (upd (upd (upd I 1101 (I 1101 + 1)) 3400 0) 3420 (I 3420 + 1)) from (by repeat (first | exact frI_rf | refine frI_u ?_ (by decide)))) (by decide) (show frA [12, 45, 46, 47, 48, 49] A (upA (upA (upA (upA (upA (upA (upA (upA (upA (upA A 12 (I 1101 * 5).toNatClampNeg f) 12 (I 1101 * 5 + 1).toNatClampNeg c) 12 (I 1101 * 5 + 2).toNatClampNeg 0) 12 (I 1101 * 5 + 3).toNatClampNeg x) 12 (I 1101 * 5 + 4).toNatClampNeg y) 45 (I 3420).toNatClampNeg f) 46 (I 3420).toNatClampNeg c) 47 (I 3420).toNatClampNeg x) 48 (I 3420).toNatClampNeg y) 49 (I 3420).toNatClampNeg 0) from (by repeat (first | exact frA_rf | refine frA_u ?_ (by decide) | refine frA_uf ?_ (by decide)))) (by decide) r7⟩, rfl, fun _ => congrArg (fun z : Int32 => (z + 1).toInt64) e5⟩
theorem p_La_rule {I : mI} {A : mA} {L : mL} {x y w t : Int32} (R : RL I A L) : xmW m_La_rule (7, 114) [.ref 0, .int x, .int y, .int w, .int t, .ref 61] (pic I A L) 1 6 (cP2 m_Mo_rule (1, 25) [.ref 34, .int x, .int y, .int w, .int t]) := by
  have h5 := R.2.2.2.2.1
  have e5 := h5.1
  have u0 : 0 ≤ I 3420 := by rw [← e5]; exact h5.2.1
  have u1 : I 3420 ≤ 500 := by rw [← e5]; exact h5.2.2.1
  have hcc : ((-1000000000 ≤ x ∧ x ≤ 1000000000) ∧ (-1000000000 ≤ y ∧ y ≤ 1000000000) ∧ (1 ≤ w ∧ w ≤ 1000000000) ∧ (1 ≤ t ∧ t ≤ 1000000000)) ↔ ((-1000000000 ≤ x ∧ x ≤ 1000000000) ∧ (-1000000000 ≤ y ∧ y ≤ 1000000000) ∧ (1 ≤ w ∧ w ≤ 1000000000) ∧ (1 ≤ t ∧ t ≤ 1000000000)) := Iff.rfl
  refine xmW_mono (c_La_rule h5.2.1) ?_
  rintro _ (⟨hc, rfl⟩ | ⟨⟨hc, hq⟩, rfl⟩ | ⟨⟨hc, hq⟩, rfl⟩)
  · refine ⟨1, I, A, L, rfl, xm_mono (c_Mo_rule_34 u0 u1) ?_⟩
    rintro _ (⟨hm, rfl⟩ | ⟨⟨hm, hq⟩, rfl⟩ | ⟨⟨hm, hq⟩, rfl⟩)
    · exact ⟨_, _, _, rfl, RL_t ⟨rfl, rfl⟩ R, rfl, fun q => absurd q (by decide)⟩
    · exact absurd (hcc.mpr hm) hc
    · exact absurd (hcc.mpr hm) hc
  · refine ⟨2, I, A, L, rfl, xm_mono (c_Mo_rule_34 u0 u1) ?_⟩
    rintro _ (⟨hm, rfl⟩ | ⟨⟨hm, hq2⟩, rfl⟩ | ⟨⟨hm, hq2⟩, rfl⟩)
    · exact absurd (hcc.mp hc) hm
    · exact ⟨_, _, _, rfl, RL_t ⟨rfl, rfl⟩ R, rfl, fun q => absurd q (by decide)⟩
    · exact absurd (show I 3420 = 500 by grind) hq2
  · refine ⟨0, _, _, _, rfl, xm_mono (c_Mo_rule_34 (I := upd I 1101 (I 1101 + 1)) u0 u1) ?_⟩
    rintro _ (⟨hm, rfl⟩ | ⟨⟨hm, hq2⟩, rfl⟩ | ⟨⟨hm, hq2⟩, rfl⟩)
    · exact absurd (hcc.mp hc) hm
    · exact absurd (show I 3420 < 500 by rw [← e5]; exact hq) (by rw [show I 3420 = 500 from hq2]; decide)
    · obtain ⟨r1, r2, r3, r4, r5, r6, r7⟩ := R
      have h9 : RH (upd (upd (upd I 1101 (I 1101 + 1)) 3400 0) 3420 (I 3420 + 1)) (upA (upA (upA (upA (upA (upA (upA (upA (upA (upA A 12 (I 1101 * 5).toNatClampNeg (-1)) 12 (I 1101 * 5 + 1).toNatClampNeg w) 12 (I 1101 * 5 + 2).toNatClampNeg t) 12 (I 1101 * 5 + 3).toNatClampNeg x) 12 (I 1101 * 5 + 4).toNatClampNeg y) 45 (I 3420).toNatClampNeg (-1)) 46 (I 3420).toNatClampNeg w) 47 (I 3420).toNatClampNeg x) 48 (I 3420).toNatClampNeg y) 49 (I 3420).toNatClampNeg t) := RH_add r5 hq rfl rfl rfl rfl rfl rfl rfl rfl (Or.inl rfl)
      exact ⟨_, _, _, rfl, ⟨RF_fr (show frA [12, 45, 46, 47, 48, 49] A (upA (upA (upA (upA (upA (upA (upA (upA (upA (upA A 12 (I 1101 * 5).toNatClampNeg (-1)) 12 (I 1101 * 5 + 1).toNatClampNeg w) 12 (I 1101 * 5 + 2).toNatClampNeg t) 12 (I 1101 * 5 + 3).toNatClampNeg x) 12 (I 1101 * 5 + 4).toNatClampNeg y) 45 (I 3420).toNatClampNeg (-1)) 46 (I 3420).toNatClampNeg w) 47 (I 3420).toNatClampNeg x) 48 (I 3420).toNatClampNeg y) 49 (I 3420).toNatClampNeg t) from (by repeat (first | exact frA_rf | refine frA_u ?_ (by decide) | refine frA_uf ?_ (by decide)))) (by decide) ⟨rfl, rfl⟩ r1, RWf_fr (show frI [3400, 1101, 3420] I (upd (upd (upd I 1101 (I 1101 + 1)) 3400 0) 3420 (I 3420 + 1)) from (by repeat (first | exact frI_rf | refine frI_u ?_ (by decide)))) (by decide) r2, RWb_fr (show frI [3400, 1101, 3420] I (upd (upd (upd I 1101 (I 1101 + 1)) 3400 0) 3420 (I 3420 + 1)) from (by repeat (first | exact frI_rf | refine frI_u ?_ (by decide)))) (by decide) (show frA [12, 45, 46, 47, 48, 49] A (upA (upA (upA (upA (upA (upA (upA (upA (upA (upA A 12 (I 1101 * 5).toNatClampNeg (-1)) 12 (I 1101 * 5 + 1).toNatClampNeg w) 12 (I 1101 * 5 + 2).toNatClampNeg t) 12 (I 1101 * 5 + 3).toNatClampNeg x) 12 (I 1101 * 5 + 4).toNatClampNeg y) 45 (I 3420).toNatClampNeg (-1)) 46 (I 3420).toNatClampNeg w) 47 (I 3420).toNatClampNeg x) 48 (I 3420).toNatClampNeg y) 49 (I 3420).toNatClampNeg t) from (by repeat (first | exact frA_rf | refine frA_u ?_ (by decide) | refine frA_uf ?_ (by decide)))) (by decide) r3, RWt_fr (show frI [3400, 1101, 3420] I (upd (upd (upd I 1101 (I 1101 + 1)) 3400 0) 3420 (I 3420 + 1)) from (by repeat (first | exact frI_rf | refine frI_u ?_ (by decide)))) (by decide) (show frA [12, 45, 46, 47, 48, 49] A (upA (upA (upA (upA (upA (upA (upA (upA (upA (upA A 12 (I 1101 * 5).toNatClampNeg (-1)) 12 (I 1101 * 5 + 1).toNatClampNeg w) 12 (I 1101 * 5 + 2).toNatClampNeg t) 12 (I 1101 * 5 + 3).toNatClampNeg x) 12 (I 1101 * 5 + 4).toNatClampNeg y) 45 (I 3420).toNatClampNeg (-1)) 46 (I 3420).toNatClampNeg w) 47 (I 3420).toNatClampNeg x) 48 (I 3420).toNatClampNeg y) 49 (I 3420).toNatClampNeg t) from (by repeat (first | exact frA_rf | refine frA_u ?_ (by decide) | refine frA_uf ?_ (by decide)))) (by decide) r4, h9, RC_fr (show frI [3400, 1101, 3420] I (upd (upd (upd I 1101 (I 1101 + 1)) 3400 0) 3420 (I 3420 + 1)) from (by repeat (first | exact frI_rf | refine frI_u ?_ (by decide)))) (by decide) (show frA [12, 45, 46, 47, 48, 49] A (upA (upA (upA (upA (upA (upA (upA (upA (upA (upA A 12 (I 1101 * 5).toNatClampNeg (-1)) 12 (I 1101 * 5 + 1).toNatClampNeg w) 12 (I 1101 * 5 + 2).toNatClampNeg t) 12 (I 1101 * 5 + 3).toNatClampNeg x) 12 (I 1101 * 5 + 4).toNatClampNeg y) 45 (I 3420).toNatClampNeg (-1)) 46 (I 3420).toNatClampNeg w) 47 (I 3420).toNatClampNeg x) 48 (I 3420).toNatClampNeg y) 49 (I 3420).toNatClampNeg t) from (by repeat (first | exact frA_rf | refine frA_u ?_ (by decide) | refine frA_uf ?_ (by decide)))) (by decide) r6, RD_fr (show frI [3400, 1101, 3420] I (upd (upd (upd I 1101 (I 1101 + 1)) 3400 0) 3420 (I 3420 + 1)) from (by repeat (first | exact frI_rf | refine frI_u ?_ (by decide)))) (by decide) (show frA [12, 45, 46, 47, 48, 49] A (upA (upA (upA (upA (upA (upA (upA (upA (upA (upA A 12 (I 1101 * 5).toNatClampNeg (-1)) 12 (I 1101 * 5 + 1).toNatClampNeg w) 12 (I 1101 * 5 + 2).toNatClampNeg t) 12 (I 1101 * 5 + 3).toNatClampNeg x) 12 (I 1101 * 5 + 4).toNatClampNeg y) 45 (I 3420).toNatClampNeg (-1)) 46 (I 3420).toNatClampNeg w) 47 (I 3420).toNatClampNeg x) 48 (I 3420).toNatClampNeg y) 49 (I 3420).toNatClampNeg t) from (by repeat (first | exact frA_rf | refine frA_u ?_ (by decide) | refine frA_uf ?_ (by decide)))) (by decide) r7⟩, rfl, fun _ => congrArg (fun z : Int32 => (z + 1).toInt64) e5⟩
theorem RWb_e {I : mI} {A : mA} (h : RWb I A) : I 1401 = I 3409 ∧ 0 ≤ I 3409 ∧ I 3409 ≤ 70000 ∧ ∀ i : Int32, 0 ≤ i → i < I 1401 → gat (I 1401) (A 15) i = A 43 i.toNatClampNeg &&& 255 := by
  obtain ⟨B, h1, h2, h3⟩ := h
  have a := h1.1
  have b := h2.1
  have c := h1.2.1
  refine ⟨i_eq.mpr (by rw [a, b]), i_le.mpr (by rw [z0]; omega), i_le.mpr (by rw [z7]; omega), fun i i0 i1 => ?_⟩
  have q := isB_gat h1 i0 i1
  exact (h2.2.2 _ _ q).1.symm
theorem RC_e {I : mI} {A : mA} (h : RC I A) : I 2201 = I 3429 ∧ 0 ≤ I 3429 ∧ I 3429 ≤ 70000 := by
  obtain ⟨C, h1, h2⟩ := h
  have a := h1.1
  have b := h2.1
  have c := h1.2.1
  exact ⟨i_eq.mpr (by rw [a, b]), i_le.mpr (by rw [z0]; omega), i_le.mpr (by rw [z7]; omega)⟩
theorem p_La_out {I : mI} {A : mA} {L : mL} {i : Int32} (R : RL I A L) : xmW m_La_out (7, 111) [.ref 0, .int i, .ref 61] (pic I A L) 1 6 (cP2 m_Mo_out (0, 0) [.ref 34, .int i]) := by
  obtain ⟨e1, e2, e3, e4⟩ := RWb_e R.2.2.1
  have h1 : I 3409 ≤ 131072 := by grind
  refine xmW_mono c_La_out ?_
  rintro _ (⟨hc, rfl⟩ | ⟨hc, rfl⟩)
  · refine ⟨1, I, A, L, rfl, xm_mono (c_Mo_out_34 h1) ?_⟩
    rintro _ (⟨hm, rfl⟩ | ⟨hm, rfl⟩)
    · exact ⟨_, _, _, rfl, RL_t ⟨rfl, rfl⟩ R, rfl, fun q => absurd q (by decide)⟩
    · exact absurd (by rw [e1]; exact hm) hc
  · refine ⟨0, I, A, _, rfl, xm_mono (c_Mo_out_34 h1) ?_⟩
    rintro _ (⟨hm, rfl⟩ | ⟨hm, rfl⟩)
    · exact absurd (by rw [← e1]; exact hc) hm
    · exact ⟨_, _, _, rfl, RL_t ⟨rfl, rfl⟩ R, rfl, fun _ => congrArg Int32.toInt64 (e4 i hc.1 hc.2)⟩
theorem p_Dv_size {I : mI} {A : mA} {L : mL} (R : RL I A L) : xm m_Dv_size (1, 20) [.ref 0] (pic I A L) 0 0 (cP3 m_Mo_size (0, 0) [.ref 34]) := by
  obtain ⟨e1, e2, e3, e4⟩ := RWb_e R.2.2.1
  refine xm_mono c_Dv_size_0 ?_
  rintro _ rfl
  refine ⟨I 1401, I, A, L, rfl, xm_mono c_Mo_size_34 ?_⟩
  rintro _ rfl
  rw [e1]
  exact ⟨_, _, rfl, RL_t ⟨rfl, rfl⟩ R⟩
theorem p_Dv_keep {I : mI} {A : mA} {L : mL} {n : Int32} (R : RL I A L) : xm m_Dv_keep (1, 21) [.ref 0, .int n] (pic I A L) 0 0 (cP3 m_Mo_keep (0, 0) [.ref 34, .int n]) := by
  obtain ⟨e1, e2, e3⟩ := RC_e R.2.2.2.2.2.1
  refine xm_mono c_Dv_keep_0 ?_
  rintro _ (⟨hc, rfl⟩ | ⟨hc, rfl⟩)
  · refine ⟨0, I, A, L, rfl, xm_mono c_Mo_keep_34 ?_⟩
    rintro _ (⟨hm, rfl⟩ | ⟨hm, rfl⟩)
    · exact ⟨_, _, rfl, RL_t ⟨rfl, rfl⟩ R⟩
    · exact absurd (by rw [e1]; exact hm) hc
  · refine ⟨1, _, A, L, rfl, xm_mono c_Mo_keep_34 ?_⟩
    rintro _ (⟨hm, rfl⟩ | ⟨hm, rfl⟩)
    · exact absurd (show 0 ≤ n ∧ n ≤ I 3429 by rw [← e1]; exact hc) hm
    · obtain ⟨r1, r2, r3, r4, r5, r6, r7⟩ := R
      obtain ⟨C, c1, c2⟩ := r6
      have r9 : RC (upd (upd (upd I 2201 n) 3400 0) 3429 n) A := ⟨_, isB_cut c1 hc.1 hc.2, isB_cut c2 hc.1 (by rw [← e1]; exact hc.2)⟩
      exact ⟨_, _, rfl, ⟨RF_fr (show frA [] A A from (by repeat (first | exact frA_rf | refine frA_u ?_ (by decide) | refine frA_uf ?_ (by decide)))) (by decide) ⟨rfl, rfl⟩ r1, RWf_fr (show frI [2201, 3400, 3429] I (upd (upd (upd I 2201 n) 3400 0) 3429 n) from (by repeat (first | exact frI_rf | refine frI_u ?_ (by decide)))) (by decide) r2, RWb_fr (show frI [2201, 3400, 3429] I (upd (upd (upd I 2201 n) 3400 0) 3429 n) from (by repeat (first | exact frI_rf | refine frI_u ?_ (by decide)))) (by decide) (show frA [] A A from (by repeat (first | exact frA_rf | refine frA_u ?_ (by decide) | refine frA_uf ?_ (by decide)))) (by decide) r3, RWt_fr (show frI [2201, 3400, 3429] I (upd (upd (upd I 2201 n) 3400 0) 3429 n) from (by repeat (first | exact frI_rf | refine frI_u ?_ (by decide)))) (by decide) (show frA [] A A from (by repeat (first | exact frA_rf | refine frA_u ?_ (by decide) | refine frA_uf ?_ (by decide)))) (by decide) r4, RH_fr (show frI [2201, 3400, 3429] I (upd (upd (upd I 2201 n) 3400 0) 3429 n) from (by repeat (first | exact frI_rf | refine frI_u ?_ (by decide)))) (by decide) (show frA [] A A from (by repeat (first | exact frA_rf | refine frA_u ?_ (by decide) | refine frA_uf ?_ (by decide)))) (by decide) r5, r9, RD_fr (show frI [2201, 3400, 3429] I (upd (upd (upd I 2201 n) 3400 0) 3429 n) from (by repeat (first | exact frI_rf | refine frI_u ?_ (by decide)))) (by decide) (show frA [] A A from (by repeat (first | exact frA_rf | refine frA_u ?_ (by decide) | refine frA_uf ?_ (by decide)))) (by decide) r7⟩⟩
theorem p_Dv_copy {I : mI} {A : mA} {L : mL} (R : RL I A L) : xm m_Dv_copy (2, 82) [.ref 0] (pic I A L) 0 0 (cP3 m_Mo_copy (0, 0) [.ref 34]) := by
  obtain ⟨r1, r2, r3, r4, r5, r6, r7⟩ := R
  obtain ⟨e1, e2, e3, e4⟩ := RWb_e r3
  obtain ⟨B, b1, b2, b3⟩ := r3
  refine xm_mono (c_Dv_copy b1) ?_
  rintro _ ⟨A1, rfl, hA, hB⟩
  refine ⟨_, _, _, L, rfl, xm_mono (c_Mo_copy_34 (I := upd I 2201 (I 1401)) b1.2.1 (by rw [hA 43 (by decide)]; exact b2)) ?_⟩
  rintro _ ⟨A2, rfl, hA2, hB2⟩
  have hh : frA [23, 53] A A2 := frA_tr hA hA2 (by decide) (by decide)
  have hi : frI [2201, 3400, 3429] I (upd (upd (upd I 2201 (I 1401)) 3400 0) 3429 (I 3409)) := (by repeat (first | exact frI_rf | refine frI_u ?_ (by decide)))
  have r9 : RC (upd (upd (upd I 2201 (I 1401)) 3400 0) 3429 (I 3409)) A2 := ⟨B, by rw [hA2 23 (by decide)]; exact hB, hB2⟩
  have r3 : RWb I A := ⟨B, b1, b2, b3⟩
  refine ⟨_, _, ?_, RF_fr hh (by decide) ⟨rfl, rfl⟩ r1, RWf_fr hi (by decide) r2, RWb_fr hi (by decide) hh (by decide) r3, RWt_fr hi (by decide) hh (by decide) r4, RH_fr hi (by decide) hh (by decide) r5, r9, RD_fr hi (by decide) hh (by decide) r7⟩
  rw [e1]
  rfl
theorem p_Dv_feed {I : mI} {A : mA} {L : mL} {w : Int64} {n : Int32} (R : RL I A L) : xm m_Dv_feed (1, 21) [.ref 0, .long w, .int n] (pic I A L) 0 0 (cP3 m_Mo_feed (0, 0) [.ref 34, .long w, .int n]) := by
  obtain ⟨e1, e2, e3⟩ := RC_e R.2.2.2.2.2.1
  obtain ⟨C, c1, c2⟩ := R.2.2.2.2.2.1
  have hcc : (1 ≤ n ∧ n ≤ 8 ∧ n ≤ 70000 - I 2201) ↔ (1 ≤ n ∧ n ≤ 8 ∧ I 3429 + n ≤ 70000) := by
    rw [e1]
    generalize I 3429 = u at e2 e3
    grind
  refine xm_mono (c_Dv_feed c1) ?_
  rintro _ (⟨hc, rfl⟩ | ⟨hc, I1, A1, rfl, hI, hA, hB⟩)
  · refine ⟨0, I, A, L, rfl, xm_mono (c_Mo_feed_34 c2) ?_⟩
    rintro _ (⟨hm, rfl⟩ | ⟨hm, I2, A2, rfl, hI2, ht, hA2, hB2⟩)
    · exact ⟨_, _, rfl, RL_t ⟨rfl, rfl⟩ R⟩
    · exact absurd (hcc.mpr hm) hc
  · refine ⟨1, I1, A1, L, rfl, xm_mono (c_Mo_feed_34 (B := C) (by rw [hI 3429 (by decide), hA 53 (by decide)]; exact c2)) ?_⟩
    rintro _ (⟨hm, rfl⟩ | ⟨hm, I2, A2, rfl, hI2, ht, hA2, hB2⟩)
    · exact absurd (by rw [hI 3429 (by decide)]; exact hcc.mp hc) hm
    · obtain ⟨r1, r2, r3, r4, r5, r6, r7⟩ := R
      have hh : frA [23, 53] A A2 := frA_tr hA hA2 (by decide) (by decide)
      have hi : frI [2201, 3400, 3429] I I2 := frI_tr hI hI2 (by decide) (by decide)
      have g8 := i_le.mp hc.2.1
      rw [show (8 : Int32).toInt = 8 from rfl] at g8
      have r9 : RC I2 A2 := ⟨app C (fdB w n.toInt.toNat), by rw [hI2 2201 (by decide), hA2 23 (by decide)]; exact hB, by rw [← fd_e w n.toInt.toNat (by omega)]; exact hB2⟩
      exact ⟨_, _, rfl, RF_fr hh (by decide) ⟨rfl, rfl⟩ r1, RWf_fr hi (by decide) r2, RWb_fr hi (by decide) hh (by decide) r3, RWt_fr hi (by decide) hh (by decide) r4, RH_fr hi (by decide) hh (by decide) r5, r9, RD_fr hi (by decide) hh (by decide) r7⟩
theorem p_La_about {I : mI} {A : mA} {L : mL} {w : Int32} (R : RL I A L) : xmW m_La_about (7, 111) [.ref 0, .int w, .ref 61] (pic I A L) 1 6 (cP2 m_Mo_about (0, 0) [.ref 34, .int w]) := by
  obtain ⟨hm, hp, ht, h8, h9, h10, h11, hN⟩ := R.2.2.2.2.2.2.1
  refine xmW_mono c_La_about ?_
  rintro _ (⟨hc, rfl⟩ | ⟨rfl, rfl⟩ | ⟨rfl, rfl⟩ | ⟨rfl, rfl⟩ | ⟨rfl, rfl⟩ | ⟨rfl, rfl⟩ | ⟨rfl, rfl⟩ | ⟨rfl, rfl⟩)
  · refine ⟨1, I, A, L, rfl, xm_mono c_Mo_about_34 ?_⟩
    rintro _ (⟨hm, rfl⟩ | ⟨rfl, rfl⟩ | ⟨rfl, rfl⟩ | ⟨rfl, rfl⟩ | ⟨rfl, rfl⟩ | ⟨rfl, rfl⟩ | ⟨rfl, rfl⟩ | ⟨rfl, rfl⟩)
    · exact ⟨_, _, _, rfl, RL_t ⟨rfl, rfl⟩ R, rfl, fun q => absurd q (by decide)⟩
    all_goals exact absurd (by decide) hc
  · refine ⟨0, I, A, _, rfl, xm_mono c_Mo_about_34 ?_⟩
    rintro _ (⟨hx, rfl⟩ | ⟨hx, rfl⟩ | ⟨hx, rfl⟩ | ⟨hx, rfl⟩ | ⟨hx, rfl⟩ | ⟨hx, rfl⟩ | ⟨hx, rfl⟩ | ⟨hx, rfl⟩)
    all_goals first | exact absurd (by decide) hx | exact absurd hx (by decide) | exact ⟨_, _, _, rfl, RL_t ⟨rfl, rfl⟩ R, rfl, fun _ => congrArg Int32.toInt64 hm.1⟩
  · refine ⟨0, I, A, _, rfl, xm_mono c_Mo_about_34 ?_⟩
    rintro _ (⟨hx, rfl⟩ | ⟨hx, rfl⟩ | ⟨hx, rfl⟩ | ⟨hx, rfl⟩ | ⟨hx, rfl⟩ | ⟨hx, rfl⟩ | ⟨hx, rfl⟩ | ⟨hx, rfl⟩)
    all_goals first | exact absurd (by decide) hx | exact absurd hx (by decide) | exact ⟨_, _, _, rfl, RL_t ⟨rfl, rfl⟩ R, rfl, fun _ => congrArg Int32.toInt64 hp.1⟩
  · refine ⟨0, I, A, _, rfl, xm_mono c_Mo_about_34 ?_⟩
    rintro _ (⟨hx, rfl⟩ | ⟨hx, rfl⟩ | ⟨hx, rfl⟩ | ⟨hx, rfl⟩ | ⟨hx, rfl⟩ | ⟨hx, rfl⟩ | ⟨hx, rfl⟩ | ⟨hx, rfl⟩)
    all_goals first | exact absurd (by decide) hx | exact absurd hx (by decide) | exact ⟨_, _, _, rfl, RL_t ⟨rfl, rfl⟩ R, rfl, fun _ => congrArg Int32.toInt64 ht.1⟩
  · refine ⟨0, I, A, _, rfl, xm_mono c_Mo_about_34 ?_⟩
    rintro _ (⟨hx, rfl⟩ | ⟨hx, rfl⟩ | ⟨hx, rfl⟩ | ⟨hx, rfl⟩ | ⟨hx, rfl⟩ | ⟨hx, rfl⟩ | ⟨hx, rfl⟩ | ⟨hx, rfl⟩)
    all_goals first | exact absurd (by decide) hx | exact absurd hx (by decide) | exact ⟨_, _, _, rfl, RL_t ⟨rfl, rfl⟩ R, rfl, fun _ => congrArg Int32.toInt64 h8⟩
  · refine ⟨0, I, A, _, rfl, xm_mono c_Mo_about_34 ?_⟩
    rintro _ (⟨hx, rfl⟩ | ⟨hx, rfl⟩ | ⟨hx, rfl⟩ | ⟨hx, rfl⟩ | ⟨hx, rfl⟩ | ⟨hx, rfl⟩ | ⟨hx, rfl⟩ | ⟨hx, rfl⟩)
    all_goals first | exact absurd (by decide) hx | exact absurd hx (by decide) | exact ⟨_, _, _, rfl, RL_t ⟨rfl, rfl⟩ R, rfl, fun _ => congrArg Int32.toInt64 h9⟩
  · refine ⟨0, I, A, _, rfl, xm_mono c_Mo_about_34 ?_⟩
    rintro _ (⟨hx, rfl⟩ | ⟨hx, rfl⟩ | ⟨hx, rfl⟩ | ⟨hx, rfl⟩ | ⟨hx, rfl⟩ | ⟨hx, rfl⟩ | ⟨hx, rfl⟩ | ⟨hx, rfl⟩)
    all_goals first | exact absurd (by decide) hx | exact absurd hx (by decide) | exact ⟨_, _, _, rfl, RL_t ⟨rfl, rfl⟩ R, rfl, fun _ => congrArg Int32.toInt64 h10⟩
  · refine ⟨0, I, A, _, rfl, xm_mono c_Mo_about_34 ?_⟩
    rintro _ (⟨hx, rfl⟩ | ⟨hx, rfl⟩ | ⟨hx, rfl⟩ | ⟨hx, rfl⟩ | ⟨hx, rfl⟩ | ⟨hx, rfl⟩ | ⟨hx, rfl⟩ | ⟨hx, rfl⟩)
    all_goals first | exact absurd (by decide) hx | exact absurd hx (by decide) | exact ⟨_, _, _, rfl, RL_t ⟨rfl, rfl⟩ R, rfl, fun _ => congrArg Int32.toInt64 h11⟩
theorem p_La_mark {I : mI} {A : mA} {L : mL} {i w : Int32} (R : RL I A L) : xmW m_La_mark (7, 112) [.ref 0, .int i, .int w, .ref 61] (pic I A L) 1 6 (cP2 m_Mo_mark2 (0, 0) [.ref 34, .int i, .int w]) := by
  obtain ⟨m1, m2, m3, m4⟩ := R.2.2.2.2.2.2.1.1
  have hcc : (0 ≤ i ∧ i < I 2405 ∧ 0 ≤ w ∧ w < 6) ↔ (0 ≤ i ∧ i < I 3432 ∧ 0 ≤ w ∧ w ≤ 5) := by rw [m1]; grind
  refine xmW_mono c_La_mark ?_
  rintro _ (⟨hc, rfl⟩ | ⟨hc, rfl⟩)
  · refine ⟨1, I, A, L, rfl, xm_mono (c_Mo_mark2_34 m3) ?_⟩
    rintro _ (⟨hm, rfl⟩ | ⟨hm, rfl⟩)
    · exact ⟨_, _, _, rfl, RL_t ⟨rfl, rfl⟩ R, rfl, fun q => absurd q (by decide)⟩
    · exact absurd (hcc.mpr hm) hc
  · refine ⟨0, I, A, _, rfl, xm_mono (c_Mo_mark2_34 m3) ?_⟩
    rintro _ (⟨hm, rfl⟩ | ⟨hm, rfl⟩)
    · exact absurd (hcc.mp hc) hm
    · refine ⟨_, _, _, rfl, RL_t ⟨rfl, rfl⟩ R, rfl, fun _ => congrArg Int32.toInt64 ?_⟩
      rw [← rPart_t (by rw [m1]; grind)]
      have g1 := i_le.mp hm.1
      rw [z0] at g1
      have g2 := i_lt.mp hm.2.1
      have g3 := i_le.mp hm.2.2.1
      rw [z0] at g3
      have g4 := i_lt.mp hc.2.2.2
      rw [show (6 : Int32).toInt = 6 from rfl] at g4
      have ew : w = Int32.ofNat w.toInt.toNat := i_eq.mpr (by rw [i_of (by omega)]; omega)
      have ei : (i * 6 + w).toNatClampNeg = 6 * i.toInt.toNat + w.toInt.toNat := by
        have := ix_l (m := i) (c := 6) (q := 6) (j := w.toInt.toNat) hm.1 (by grind) rfl (by decide) (by omega)
        rw [← ew] at this
        exact this
      rw [Int32.mul_comm 6 i, ei]
      exact m4 _ (by omega)
theorem p_La_page {I : mI} {A : mA} {L : mL} {p i : Int32} (R : RL I A L) : xmW m_La_page (7, 112) [.ref 0, .int p, .int i, .ref 61] (pic I A L) 1 6 (cP2 m_Mo_page (0, 0) [.ref 34, .int p, .int i]) := by
  obtain ⟨m1, m2, m3, m4⟩ := R.2.2.2.2.2.2.1.2.1
  have hcc : (0 ≤ p ∧ p < I 2406 ∧ 0 ≤ i ∧ i < 10) ↔ (0 ≤ p ∧ p < I 3434 ∧ 0 ≤ i ∧ i ≤ 9) := by rw [m1]; grind
  refine xmW_mono c_La_page ?_
  rintro _ (⟨hc, rfl⟩ | ⟨hc, rfl⟩)
  · refine ⟨1, I, A, L, rfl, xm_mono (c_Mo_page_34 m3) ?_⟩
    rintro _ (⟨hm, rfl⟩ | ⟨hm, rfl⟩)
    · exact ⟨_, _, _, rfl, RL_t ⟨rfl, rfl⟩ R, rfl, fun q => absurd q (by decide)⟩
    · exact absurd (hcc.mpr hm) hc
  · refine ⟨0, I, A, _, rfl, xm_mono (c_Mo_page_34 m3) ?_⟩
    rintro _ (⟨hm, rfl⟩ | ⟨hm, rfl⟩)
    · exact absurd (hcc.mp hc) hm
    · refine ⟨_, _, _, rfl, RL_t ⟨rfl, rfl⟩ R, rfl, fun _ => congrArg Int32.toInt64 ?_⟩
      rw [← rPart_t (by rw [m1]; grind)]
      have g1 := i_le.mp hm.1
      rw [z0] at g1
      have g2 := i_lt.mp hm.2.1
      have g3 := i_le.mp hm.2.2.1
      rw [z0] at g3
      have g4 := i_lt.mp hc.2.2.2
      rw [show (10 : Int32).toInt = 10 from rfl] at g4
      have ew : i = Int32.ofNat i.toInt.toNat := i_eq.mpr (by rw [i_of (by omega)]; omega)
      have ei : (p * 10 + i).toNatClampNeg = 10 * p.toInt.toNat + i.toInt.toNat := by
        have := ix_l (m := p) (c := 10) (q := 10) (j := i.toInt.toNat) hm.1 (by grind) rfl (by decide) (by omega)
        rw [← ew] at this
        exact this
      rw [Int32.mul_comm 10 p, ei]
      exact m4 _ (by omega)
theorem p_La_told {I : mI} {A : mA} {L : mL} {k w : Int32} (R : RL I A L) : xmW m_La_told (7, 112) [.ref 0, .int k, .int w, .ref 61] (pic I A L) 1 6 (cP2 m_Mo_told (3, 64) [.ref 34, .int k, .int w]) := by
  have rt := R.2.2.2.2.2.2.1.2.2.1
  have h7 := R.2.2.2.2.2.2.2
  have hp : ∀ j : Nat, (j : Int) < (I 3436).toInt → plO (gmt (A 54)) (I 3445) (A 58 j) := fun j hj => (rt.2.2.2.1 j hj).2.1
  have hcc : (0 ≤ k ∧ k < I 2407 ∧ 0 ≤ w) ↔ (0 ≤ k ∧ k < I 3436 ∧ 0 ≤ w) := by rw [rt.1]
  refine xmW_mono c_La_told ?_
  rintro _ (⟨hc, rfl⟩ | ⟨hc, rfl⟩)
  · refine ⟨1, I, A, L, rfl, xm_mono (c_Mo_told_34 hp h7 rt.2.2.1) ?_⟩
    rintro _ (⟨hm, rfl⟩ | ⟨hm, rfl⟩)
    · exact ⟨_, _, _, rfl, RL_t ⟨rfl, rfl⟩ R, rfl, fun q => absurd q (by decide)⟩
    · exact absurd (hcc.mpr hm) hc
  · refine ⟨0, I, A, _, rfl, xm_mono (c_Mo_told_34 hp h7 rt.2.2.1) ?_⟩
    rintro _ (⟨hm, rfl⟩ | ⟨hm, rfl⟩)
    · exact absurd (hcc.mp hc) hm
    · exact ⟨_, _, _, rfl, RL_t ⟨rfl, rfl⟩ R, rfl, fun _ => congrArg Int32.toInt64 (to_e rt h7 hm)⟩
