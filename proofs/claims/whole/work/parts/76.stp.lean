theorem bh_ge {g : Int32 → Int32} {s a c nb : Int32} {k : Nat} (h : ¬ bhF g s a c nb k < 0) : bhF g s a c nb k = nb + fxF c + txF g c nb k (a + 1 + (nb + fxF c)) ∧ ¬ s - a - 1 < nb + fxF c ∧ ¬ txF g c nb k (a + 1 + (nb + fxF c)) < 0 ∧ ¬ s - a - 1 - (nb + fxF c) < txF g c nb k (a + 1 + (nb + fxF c)) := by
  unfold bhF at h ⊢
  by_cases h1 : s - a - 1 < nb + fxF c
  · rw [if_pos h1] at h
    exact absurd (by decide) h
  · rw [if_neg h1] at h ⊢
    by_cases h2 : txF g c nb k (a + 1 + (nb + fxF c)) < 0 ∨ s - a - 1 - (nb + fxF c) < txF g c nb k (a + 1 + (nb + fxF c))
    · rw [if_pos h2] at h
      exact absurd (by decide) h
    · rw [if_neg h2]
      exact ⟨rfl, h1, fun q => h2 (Or.inl q), fun q => h2 (Or.inr q)⟩
theorem fx_r {c : Int32} : 0 ≤ fxF c ∧ fxF c ≤ 44 := by
  unfold fxF
  grind
theorem bh_fit {g : Int32 → Int32} {s a c nb : Int32} {k : Nat} (h0 : 0 ≤ a) (h1 : a < s) (h7 : s ≤ 70000) (hb : 0 ≤ nb ∧ nb ≤ 4) (h : ¬ bhF g s a c nb k < 0) : (bhF g s a c nb k).toInt = nb.toInt + (fxF c).toInt + (txF g c nb k (a + 1 + (nb + fxF c))).toInt ∧ a.toInt + 1 + (bhF g s a c nb k).toInt ≤ s.toInt ∧ 0 ≤ (fxF c).toInt ∧ 0 ≤ (txF g c nb k (a + 1 + (nb + fxF c))).toInt := by
  obtain ⟨e, q1, q2, q3⟩ := bh_ge h
  have hx := fx_r (c := c)
  rw [e]
  generalize txF g c nb k (a + 1 + (nb + fxF c)) = t at *
  generalize fxF c = x at *
  have a0 := i_le.mp h0
  have a1 := i_lt.mp h1
  have a7 := i_le.mp h7
  have b0 := i_le.mp hb.1
  have b1 := i_le.mp hb.2
  have x0 := i_le.mp hx.1
  have x1 := i_le.mp hx.2
  rw [z0] at a0 b0 x0
  rw [z7] at a7
  rw [show (4 : Int32).toInt = 4 from rfl] at b1
  rw [show (44 : Int32).toInt = 44 from rfl] at x1
  have el : (s - a - 1).toInt = s.toInt - a.toInt - 1 := by rw [i_sub (by rw [z1, i_sub (by omega) (by omega)]; omega) (by rw [z1, i_sub (by omega) (by omega)]; omega), z1, i_sub (by omega) (by omega)]
  have en : (nb + x).toInt = nb.toInt + x.toInt := i_add (by omega) (by omega)
  have p1 : ¬ ((s - a - 1).toInt < (nb + x).toInt) := fun w => q1 (i_lt.mpr w)
  have p2 : ¬ (t.toInt < 0) := fun w => q2 (i_lt.mpr (by rw [z0]; exact w))
  rw [el, en] at p1
  have ed : (s - a - 1 - (nb + x)).toInt = s.toInt - a.toInt - 1 - (nb.toInt + x.toInt) := by rw [i_sub (by rw [el, en]; omega) (by rw [el, en]; omega), el, en]
  have p3 : ¬ ((s - a - 1 - (nb + x)).toInt < t.toInt) := fun w => q3 (i_lt.mpr w)
  rw [ed] at p3
  have ee : (nb + x + t).toInt = nb.toInt + x.toInt + t.toInt := by rw [i_add (by rw [en]; omega) (by rw [en]; omega), en]
  rw [ee]
  exact ⟨rfl, by omega, x0, by omega⟩
theorem adv {Ic I : mI} {Ac A : mA} {m : Int} {b : Int32} (R : RR Ic Ac I A m) (hb : 0 ≤ b) (hf : (I 3444).toInt + 1 + b.toInt ≤ (I 3445).toInt) (hz : ¬ I 3443 = 0) (hm : m ≤ (I 3444).toInt + 1 + b.toInt) : RR (upd Ic 3107 (Ic 3107 + (1 + b))) Ac (upd I 3444 (I 3444 + 1 + b)) A (I 3444 + 1 + b).toInt := by
  have h7 := a_7 R
  have g0 := i_le.mp hb
  rw [z0] at g0
  have e1 : (I 3444 + 1).toInt = (I 3444).toInt + 1 := by rw [i_add (by rw [z1]; omega) (by rw [z1]; omega), z1]
  have e : (I 3444 + 1 + b).toInt = (I 3444).toInt + 1 + b.toInt := by rw [i_add (by rw [e1]; omega) (by rw [e1]; omega), e1]
  have R2 := RR_mono R hm
  rw [← e] at R2
  obtain ⟨r1, r2, rm, rp, rt, rn, rg, ri⟩ := R2
  refine ⟨r1, ⟨?_, ?_, ?_, r2.2.2.2.1, r2.2.2.2.2.1, r2.2.2.2.2.2.1, r2.2.2.2.2.2.2.1, fun q => absurd q hz⟩, rm, rp, rt, rn, rg, ri⟩
  · show Ic 3107 + (1 + b) = I 3444 + 1 + b
    rw [r2.1, Int32.add_assoc]
  · exact i_le.mpr (show (0 : Int32).toInt ≤ (I 3444 + 1 + b).toInt by rw [z0, e]; omega)
  · exact i_le.mpr (show (I 3444 + 1 + b).toInt ≤ (I 3445).toInt by rw [e]; omega)
section QC
variable {c : Int32}
theorem q_def (h : 242 < c ∧ c < 247) : 243 ≤ c ∧ c ≤ 246 := by grind
theorem q_c0 (h : c < 128) : (c ≤ 136 ∧ ¬ c = 132) ∧ c ≤ 131 := by grind
theorem q_c1 (h : 128 ≤ c ∧ c < 132) : (c ≤ 136 ∧ ¬ c = 132) ∧ c ≤ 131 := by grind
theorem q_c2 (h : 132 < c ∧ c < 137) : (c ≤ 136 ∧ ¬ c = 132) ∧ ¬ c ≤ 131 := by grind
theorem q_137 (h : c = 137) : ¬ c = 132 := by grind
theorem q_nop (h : c = 138 ∨ (238 < c ∧ c < 243)) : c = 138 ∨ (239 ≤ c ∧ c ≤ 242) := by grind
theorem q_mv (h : 142 < c ∧ c < 171) : 143 ≤ c ∧ c < 171 := by grind
theorem q_f0 (h : 170 < c ∧ c < 235) : 171 ≤ c ∧ c ≤ 238 := by grind
theorem q_f1 (h : 234 < c ∧ c < 239) : 171 ≤ c ∧ c ≤ 238 := by grind
theorem q_pA (h : 128 ≤ c ∧ c < 132) : 0 < nbF c := by rw [nbF_A h.1 h.2]; grind
theorem q_pB (h : 132 < c ∧ c < 137) : 0 < nbF c := by rw [nbF_B h.1 h.2]; grind
theorem q_pF (h : 234 < c ∧ c < 239) : 0 < nbF c := by rw [nbF_F h.1 h.2]; grind
theorem q_pT (h : 242 < c ∧ c < 247) : 1 ≤ nbF c := by rw [nbF_T h.1 h.2]; grind
theorem q_fx14 (h : (242 < c ∧ c < 247) ∨ c = 247) : fxF c = 14 := by unfold fxF; grind
theorem q_fx44 (h : c = 139) : fxF c = 44 := by unfold fxF; grind
theorem q_fx28 (h : c = 248) : fxF c = 28 := by unfold fxF; grind
theorem q_fx5 (h : c = 249) : fxF c = 5 := by unfold fxF; grind
theorem q_fx8 (h : c = 132 ∨ c = 137) : fxF c = 8 := by unfold fxF; grind
theorem q_all (h0 : 0 ≤ c) (h1 : c < 247) (h2 : ¬ c = 139) : c < 128 ∨ (128 ≤ c ∧ c < 132) ∨ c = 132 ∨ (132 < c ∧ c < 137) ∨ c = 137 ∨ (c = 138 ∨ (238 < c ∧ c < 243)) ∨ c = 140 ∨ c = 141 ∨ c = 142 ∨ (142 < c ∧ c < 171) ∨ (170 < c ∧ c < 235) ∨ (234 < c ∧ c < 239) ∨ (242 < c ∧ c < 247) := by grind
theorem q_tx {x : Int32} (h : 242 < c ∧ c < 247) : ¬ (239 ≤ c ∧ c ≤ 242) ∧ (243 ≤ c ∧ c ≤ 246) ∧ x + 1 + (c - 243 + 1 + 14) - 2 = x + 1 + (c - 243 + 1) + 12 ∧ x + 1 + (c - 243 + 1 + 14) - 1 = x + 1 + (c - 243 + 1) + 13 := by grind
variable {g : Int32 → Int32} {s a : Int32}
theorem cs_0 (h : s = 0) (hs : csF g s c a) : c = 247 ∧ g (a + 1) = 2 := by
  subst h
  rcases hs with ⟨_, q⟩ | ⟨h, _⟩ | ⟨h, _⟩ | ⟨h, _⟩ | ⟨h, _⟩
  · exact q
  all_goals exact absurd h (by decide)
theorem cs_1 (h : s = 1) (hs : csF g s c a) : c = 138 ∨ (242 < c ∧ c < 247) ∨ c = 139 ∨ c = 248 := by
  subst h
  rcases hs with ⟨h, _⟩ | ⟨_, q⟩ | ⟨h, _⟩ | ⟨h, _⟩ | ⟨h, _⟩
  · exact absurd h (by decide)
  · grind
  all_goals exact absurd h (by decide)
theorem cs_2 (h : s = 2) (hs : csF g s c a) : c < 247 ∧ ¬ c = 139 := by
  subst h
  rcases hs with ⟨h, _⟩ | ⟨h, _⟩ | ⟨_, q⟩ | ⟨h, _⟩ | ⟨h, _⟩
  · exact absurd h (by decide)
  · exact absurd h (by decide)
  · exact q
  all_goals exact absurd h (by decide)
theorem cs_3 (h : s = 3) (hs : csF g s c a) : c = 138 ∨ (242 < c ∧ c < 247) ∨ (c = 249 ∧ g (a + 5) = 2) := by
  subst h
  rcases hs with ⟨h, _⟩ | ⟨h, _⟩ | ⟨h, _⟩ | ⟨_, q⟩ | ⟨h, _⟩
  · exact absurd h (by decide)
  · exact absurd h (by decide)
  · exact absurd h (by decide)
  · grind
  · exact absurd h (by decide)
theorem q_st (h0 : 0 ≤ s) (h1 : s < 4) : s = 0 ∨ s = 1 ∨ s = 2 ∨ s = 3 := by grind
end QC
theorem stp {Ic Ic2 I I2 : mI} {Ac Ac2 A A2 : mA} {f w c b : Int32} {k : Nat} {N : List Int32} (R : RR Ic Ac I A (I 3444).toInt) (hlt : I 3444 < I 3445) (h4 : I 3443 < 4) (hc : gmt (A 54) (I 3444) = c) (hk : (nbF c).toInt = (k : Int)) (hbd : bhF (gat (Ic 2201) (Ac 23)) (I 3445) (I 3444) c (nbF c) k = b) (hb : ¬ b < 0) (hs : csF (gat (Ic 2201) (Ac 23)) (I 3443) c (I 3444)) (hN : isB (Ic 2901) (Ac 30) N) (ho : t_obey (upd (upd Ic 3108 c) 3109 (nbF c)) Ac k N f Ic2 Ac2) (hm : (I 3443 = 2 ∧ t_within I A c k w I2 A2) ∨ (¬ I 3443 = 2 ∧ t_outside I A c k w I2 A2)) : w = f ∧ (f = 0 → RR Ic2 Ac2 I2 A2 ((I 3444).toInt + 1 + b.toInt) ∧ ¬ I2 3443 = 0 ∧ I2 3444 = I 3444 ∧ I2 3445 = I 3445 ∧ (I2 3443 = 4 → Ic2 3113 = 0)) := by
  have RJ : RR (upd (upd Ic 3108 c) 3109 (nbF c)) Ac I A (I 3444).toInt := R
  have hJ4 : ¬ (upd (upd Ic 3108 c) 3109 (nbF c)) 3106 = 4 := by
    show ¬ Ic 3106 = 4
    rw [R.2.1.2.2.2.1]
    intro q
    rw [q] at h4
    exact absurd h4 (by decide)
  have h7 := a_7 R
  have hnr := nbF_r (c := c)
  have hcr := gm_r (f := A 54) (p := I 3444)
  rw [hc] at hcr
  obtain ⟨e1, e2, e3, e4⟩ := bh_fit R.2.1.2.1 hlt R.1.2.1 hnr (by rw [hbd]; exact hb)
  rw [hbd, hk] at e1
  rw [hbd] at e2
  have hk4 : k ≤ 4 := by
    have := i_le.mp hnr.2
    rw [hk, show (4 : Int32).toInt = 4 from rfl] at this
    omega
  have b0 : 0 ≤ b.toInt := by omega
  have eb : (k : Int) + (fxF c).toInt ≤ b.toInt := by omega
  have hsp : I 3443 = 0 ∨ I 3443 = 1 ∨ I 3443 = 2 ∨ I 3443 = 3 := q_st R.2.1.2.2.2.2.1 h4
  have defs : 1 ≤ I 3443 ∧ I 3443 ≤ 3 → 242 < c ∧ c < 247 → t_Rd_obeyDefinition (upd (upd Ic 3108 c) 3109 (nbF c)) Ac k N f Ic2 Ac2 → t_Mo_tell I A k w I2 A2 → w = f ∧ (f = 0 → RR Ic2 Ac2 I2 A2 ((I 3444).toInt + 1 + b.toInt) ∧ ¬ I2 3443 = 0 ∧ I2 3444 = I 3444 ∧ I2 3445 = I 3445 ∧ (I2 3443 = 4 → Ic2 3113 = 0)) := by
    intro hst hq d1 d2
    have en := nbF_T (c := c) hq.1 hq.2
    have efx := q_fx14 (Or.inl hq)
    rw [efx] at e1 e3 e4
    rw [show (14 : Int32).toInt = 14 from rfl] at e1
    have hkp : 1 ≤ k := by
      have := i_le.mp (q_pT hq)
      rw [hk, z1] at this
      omega
    have ekc : (c - 243 + 1).toInt = (k : Int) := by rw [← en]; exact hk
    have ebq : (bQ (gmt (A 54)) (I 3444)).toInt = (I 3444).toInt + 1 + k := by
      show (I 3444 + 1 + (gmt (A 54) (I 3444) - 243 + 1)).toInt = _
      rw [hc]
      have e1 : (I 3444 + 1).toInt = (I 3444).toInt + 1 := by rw [i_add (by rw [z1]; omega) (by rw [z1]; omega), z1]
      rw [i_add (by rw [e1, ekc]; omega) (by rw [e1, ekc]; omega), e1, ekc]
    have hq12 : ∀ (j : Nat), j < 14 → gat (Ic 2201) (Ac 23) (bQ (gmt (A 54)) (I 3444) + Int32.ofNat j) = gmt (A 54) (bQ (gmt (A 54)) (I 3444) + Int32.ofNat j) := by
      intro j hj
      have ej : (bQ (gmt (A 54)) (I 3444) + Int32.ofNat j).toInt = (bQ (gmt (A 54)) (I 3444)).toInt + j := by rw [i_add (by rw [i_of (by omega)]; omega) (by rw [i_of (by omega)]; omega), i_of (by omega)]
      exact gR R.1 (i_le.mpr (by rw [z0, ej]; omega)) (i_lt.mpr (by rw [ej]; omega))
    have etx : txF (gat (Ic 2201) (Ac 23)) c (nbF c) k (I 3444 + 1 + (nbF c + 14)) = nSz (gmt (A 54)) (bQ (gmt (A 54)) (I 3444)) := by
      obtain ⟨y1, y2, y3, y4⟩ := q_tx (x := I 3444) hq
      unfold txF
      rw [if_neg y1, if_pos y2, en, y3, y4]
      show gat (Ic 2201) (Ac 23) (I 3444 + 1 + (c - 243 + 1) + 12) + gat (Ic 2201) (Ac 23) (I 3444 + 1 + (c - 243 + 1) + 13) = gmt (A 54) (I 3444 + 1 + (gmt (A 54) (I 3444) - 243 + 1) + 12) + gmt (A 54) (I 3444 + 1 + (gmt (A 54) (I 3444) - 243 + 1) + 13)
      have g12 : gat (Ic 2201) (Ac 23) (I 3444 + 1 + (gmt (A 54) (I 3444) - 243 + 1) + 12) = gmt (A 54) (I 3444 + 1 + (gmt (A 54) (I 3444) - 243 + 1) + 12) := hq12 12 (by decide)
      have g13 : gat (Ic 2201) (Ac 23) (I 3444 + 1 + (gmt (A 54) (I 3444) - 243 + 1) + 13) = gmt (A 54) (I 3444 + 1 + (gmt (A 54) (I 3444) - 243 + 1) + 13) := hq12 13 (by decide)
      rw [← g12, ← g13, hc]
    rw [etx] at e1 e4
    have hat : plO (gmt (A 54)) (I 3445) (I 3444) := by
      refine ⟨R.2.1.2.1, i_lt.mpr (by rw [z7]; have := i_lt.mp hlt; omega), by rw [hc]; exact (q_def hq).1, by rw [hc]; exact (q_def hq).2, ?_⟩
      show (bQ (gmt (A 54)) (I 3444)).toInt + 14 + (nSz (gmt (A 54)) (bQ (gmt (A 54)) (I 3444))).toInt ≤ (I 3445).toInt
      rw [ebq]
      omega
    have z := st_def RJ hst (Int.le_refl _) hat (show nbF c = gmt (A 54) (I 3444) - 243 + 1 by rw [hc]; exact en) (by rw [hc]; exact ekc) ⟨hkp, hk4⟩ hN d1 d2
    obtain ⟨s1, s2, s3⟩ := fs_Mo_tell d2
    refine ⟨z.1, fun q => ⟨RR_mono (z.2 q) (by omega), fun e => ?_, s2, s3, fun e => ?_⟩⟩
    · rw [s1] at e
      rw [e] at hst
      exact absurd hst.1 (by decide)
    · rw [s1] at e
      rw [e] at hst
      exact absurd hst.2 (by decide)
  rcases hsp with hst | hst | hst | hst
  · have hq : c = 247 := (cs_0 hst hs).1
    have hm2 := hm.resolve_left (fun q => by rw [hst] at q; exact absurd q.1 (by decide))
    rw [q_fx14 (Or.inr hq), show (14 : Int32).toInt = 14 from rfl] at eb
    have m1 := ou_first hq hm2.2
    have z := st_first RJ hst (by omega) (oc_first hJ4 rfl hq ho) m1
    refine ⟨z.1, fun q => ⟨RR_mono (z.2 q) (by omega), ?_, ?_, ?_, ?_⟩⟩
    · rw [m1.2.1]; exact (by decide : ¬ (1 : Int32) = 0)
    · rw [m1.2.1]; rfl
    · rw [m1.2.1]; rfl
    · rw [m1.2.1]; exact fun e => absurd (show (1 : Int32) = 4 from e) (by decide)
  · have hm2 := (hm.resolve_left (fun q => by rw [hst] at q; exact absurd q.1 (by decide))).2
    have hq := cs_1 hst hs
    rcases hq with hq | hq | hq | hq
    · obtain ⟨rfl, rfl, rfl⟩ := oc_nop hJ4 rfl (Or.inl hq) ho
      obtain ⟨rfl, rfl, rfl⟩ := ou_nop hq hm2
      exact ⟨rfl, fun _ => ⟨RR_mono RJ (by omega), by rw [hst]; decide, rfl, rfl, fun e => by rw [hst] at e; exact absurd e (by decide)⟩⟩
    · exact defs (by rw [hst]; decide) hq (oc_defi hJ4 rfl (q_def hq) ho) (ou_defi hq hm2)
    · have eb2 := eb
      rw [q_fx44 hq, show (44 : Int32).toInt = 44 from rfl] at eb2
      have m1 := ou_beg hq hm2
      obtain ⟨s1, s2, s3⟩ := fs_Mo_beginPage m1
      have z := st_begin RJ hst (by omega) (oc_beg hJ4 rfl hq ho) m1
      refine ⟨z.1, fun q => ⟨RR_mono (z.2 q) (by omega), ?_, s2, s3, ?_⟩⟩
      · rw [s1 (z.1.trans q)]; decide
      · rw [s1 (z.1.trans q)]; exact fun e => absurd e (by decide)
    · have eb2 := eb
      rw [q_fx28 hq, show (28 : Int32).toInt = 28 from rfl] at eb2
      have m1 := ou_last hq hm2
      obtain ⟨s1, s2, s3⟩ := fs_Mo_post m1
      have z := st_last RJ hst (by omega) (oc_last hJ4 rfl hq ho) m1
      refine ⟨z.1, fun q => ⟨RR_mono (z.2 q) (by omega), ?_, s2, s3, ?_⟩⟩
      · rw [s1 (z.1.trans q)]; decide
      · rw [s1 (z.1.trans q)]; exact fun e => absurd e (by decide)
  · have hm2 := (hm.resolve_right (fun q => absurd hst q.1)).2
    have hq := q_all hcr.1 (cs_2 hst hs).1 (cs_2 hst hs).2
    have fin : ∀ {P : Prop}, (I2 3443 = I 3443 ∧ I2 3444 = I 3444 ∧ I2 3445 = I 3445) → (w = f ∧ (f = 0 → RR Ic2 Ac2 I2 A2 (I 3444).toInt)) → w = f ∧ (f = 0 → RR Ic2 Ac2 I2 A2 ((I 3444).toInt + 1 + b.toInt) ∧ ¬ I2 3443 = 0 ∧ I2 3444 = I 3444 ∧ I2 3445 = I 3445 ∧ (I2 3443 = 4 → Ic2 3113 = 0)) := by
      intro _ s z
      refine ⟨z.1, fun q => ⟨RR_mono (z.2 q) (by omega), by rw [s.1, hst]; decide, s.2.1, s.2.2, fun e => by rw [s.1, hst] at e; exact absurd e (by decide)⟩⟩
    have hnn : 0 < nbF c → nrd (gat ((upd (upd Ic 3108 c) 3109 (nbF c)) 2201) (Ac 23)) ((upd (upd Ic 3108 c) 3109 (nbF c)) 3107 + 1) k = nrd (gmt (A 54)) (I 3444 + 1) k := fun _ => nA RJ (n := 1) rfl (by decide) (by omega) (by omega)
    rcases hq with hq | hq | hq | hq | hq | hq | hq | hq | hq | hq | hq | hq | hq
    · have m1 := wi_chr0 hq hm2
      exact fin (P := True) (fs_Mo_setCharacter m1) (st_char RJ hst (Or.inl ⟨(q_c0 hq).2, by decide⟩) (Or.inr ⟨show ¬ 0 < nbF c by rw [nbF_0 (Or.inl hq)]; decide, rfl⟩) (oc_chr hJ4 rfl (q_c0 hq).1 ho) m1)
    · have m1 := wi_chr1 hq hm2
      have hp := q_pA hq
      exact fin (P := True) (fs_Mo_setCharacter m1) (st_char RJ hst (Or.inl ⟨(q_c1 hq).2, by decide⟩) (Or.inl ⟨hp, hnn hp⟩) (oc_chr hJ4 rfl (q_c1 hq).1 ho) m1)
    · have m1 := wi_rul1 hq hm2
      rw [q_fx8 (Or.inl hq), show (8 : Int32).toInt = 8 from rfl] at eb
      exact fin (P := True) (fs_Mo_setRule m1) (st_rule RJ hst (by omega) (Or.inl ⟨hq, by decide⟩) (oc_rule hJ4 rfl (Or.inl hq) ho) m1)
    · have m1 := wi_chr2 hq hm2
      have hp := q_pB hq
      exact fin (P := True) (fs_Mo_setCharacter m1) (st_char RJ hst (Or.inr ⟨(q_c2 hq).2, rfl⟩) (Or.inl ⟨hp, hnn hp⟩) (oc_chr hJ4 rfl (q_c2 hq).1 ho) m1)
    · have m1 := wi_rul0 hq hm2
      rw [q_fx8 (Or.inr hq), show (8 : Int32).toInt = 8 from rfl] at eb
      exact fin (P := True) (fs_Mo_setRule m1) (st_rule RJ hst (by omega) (Or.inr ⟨q_137 hq, rfl⟩) (oc_rule hJ4 rfl (Or.inr hq) ho) m1)
    · obtain ⟨rfl, rfl, rfl⟩ := oc_nop hJ4 rfl (q_nop hq) ho
      obtain ⟨rfl, rfl, rfl⟩ := wi_nop hq hm2
      exact fin (P := True) ⟨rfl, rfl, rfl⟩ ⟨rfl, fun _ => RJ⟩
    · have m1 := wi_end hq hm2
      have z := st_end RJ hst (oc_end hJ4 rfl hq ho) m1
      refine ⟨z.1, fun q => ?_⟩
      have q2 := z.1.trans q
      rcases m1 with ⟨_, y, _⟩ | ⟨_, _, y, _⟩
      · rw [q2] at y
        exact absurd y (by decide)
      · refine ⟨RR_mono (z.2 q) (by omega), ?_, ?_, ?_, ?_⟩
        · rw [y]; exact (by decide : ¬ (1 : Int32) = 0)
        · rw [y]; rfl
        · rw [y]; rfl
        · rw [y]; exact fun e => absurd (show (1 : Int32) = 4 from e) (by decide)
    · have m1 := wi_push hq hm2
      exact fin (P := True) (fs_Mo_push m1) (st_push RJ hst (oc_push hJ4 rfl hq ho) m1)
    · have m1 := wi_pop hq hm2
      exact fin (P := True) (fs_Mo_pop m1) (st_pop RJ hst (oc_pop hJ4 rfl hq ho) m1)
    · have m1 := wi_move hq hm2
      have en := nbF_M (c := c) hq.1 hq.2
      exact fin (P := True) (fs_Mo_moveBy m1) (st_move (c := c) RJ hst rfl en hq.1 hq.2 (by rw [← en]; exact hk) hk4 (by omega) (oc_move hJ4 rfl (q_mv hq) ho) m1)
    · have m1 := wi_fon0 hq hm2
      exact fin (P := True) (fs_Mo_take m1) (st_take RJ hst (Or.inr ⟨show ¬ 0 < nbF c by rw [nbF_0 (Or.inr (Or.inr (Or.inr (Or.inl hq))))]; decide, rfl⟩) (oc_font hJ4 rfl (q_f0 hq) ho) m1)
    · have m1 := wi_fon1 hq hm2
      have hp := q_pF hq
      exact fin (P := True) (fs_Mo_take m1) (st_take RJ hst (Or.inl ⟨hp, hnn hp⟩) (oc_font hJ4 rfl (q_f1 hq) ho) m1)
    · exact defs (by rw [hst]; decide) hq (oc_defi hJ4 rfl (q_def hq) ho) (wi_defi hq hm2)
  · have hm2 := (hm.resolve_left (fun q => by rw [hst] at q; exact absurd q.1 (by decide))).2
    have hq := cs_3 hst hs
    rcases hq with hq | hq | ⟨hq, -⟩
    · obtain ⟨rfl, rfl, rfl⟩ := oc_nop hJ4 rfl (Or.inl hq) ho
      obtain ⟨rfl, rfl, rfl⟩ := ou_nop hq hm2
      exact ⟨rfl, fun _ => ⟨RR_mono RJ (by omega), by rw [hst]; decide, rfl, rfl, fun e => by rw [hst] at e; exact absurd e (by decide)⟩⟩
    · exact defs (by rw [hst]; decide) hq (oc_defi hJ4 rfl (q_def hq) ho) (ou_defi hq hm2)
    · have eb2 := eb
      rw [q_fx5 hq, show (5 : Int32).toInt = 5 from rfl] at eb2
      have m1 := ou_vlast hq hm2
      have z := st_vlast RJ hst (by omega) (oc_vlast hJ4 rfl hq ho) m1
      refine ⟨z.1, fun q => ?_⟩
      have q2 := z.1.trans q
      have z2 := z.2 q
      rcases m1 with ⟨_, _, y, _⟩ | ⟨_, y, _⟩
      · refine ⟨RR_mono z2.1 (by omega), ?_, ?_, ?_, fun _ => z2.2⟩
        · rw [y]; exact (by decide : ¬ (4 : Int32) = 0)
        · rw [y]; rfl
        · rw [y]; rfl
      · rw [q2] at y
        exact absurd y (by decide)
