theorem sh12 {I : mI} {A : mA} {n : Nat} (a : shC1 I) (b : shC2 I A n) : False := a b.1
theorem sh13 {I : mI} {A : mA} {L : mL} {n : Nat} {B T : List Int32} (a : shC1 I) (b : shC3 I A L n B T) : False := a b.1
theorem sh14 {I : mI} {A : mA} {L : mL} {n : Nat} {B T : List Int32} (a : shC1 I) (b : shC4 I A L n B T) : False := a b.1
theorem sh23 {I : mI} {A : mA} {L : mL} {n : Nat} {B T : List Int32} (a : shC2 I A n) (b : shC3 I A L n B T) : False := by
  obtain ⟨_, k, h1, h2⟩ := a
  exact h2 (b.2.1 k h1)
theorem sh24 {I : mI} {A : mA} {L : mL} {n : Nat} {B T : List Int32} (a : shC2 I A n) (b : shC4 I A L n B T) : False := by
  obtain ⟨_, k, h1, h2⟩ := a
  exact h2 (b.2.1 k h1)
theorem sh34 {I : mI} {A : mA} {L : mL} {n : Nat} {B T : List Int32} (a : shC3 I A L n B T) (b : shC4 I A L n B T) : False := absurd a.2.2 (Nat.not_lt.mpr b.2.2)

section SH9
variable (I : mI) (A : mA) (L : mL) (n : Nat) (B T : List Int32)
def shL1 : xO → Prop := fun o => o = (.inl (some (.int 1)), pic I A L)
def shL2 : xO → Prop := fun o => ∃ I' A', o = (.inl (some (.int 2)), pic I' A' L) ∧ frI [1602, 1603, 1604, 1802, 1803, 1804, 1315, 1316] I I' ∧ frA [17, 19] A A'
def shL3 : xO → Prop := fun o => ∃ I' A', o = (.inl (some (.int 3)), pic I' A' L) ∧ frI [1401, 1602, 1603, 1604, 1802, 1803, 1804, 1315, 1316, 1307] I I' ∧ frA [15, 17, 19, 20, 21] A A' ∧ isB (I' 1401) (A' 15) B ∧ isT (I' 1307) (A' 20) (A' 21) T
def shL4 : xO → Prop := fun o => ∃ I' A', o = (.inl (some (.int 0)), pic I' A' (upL L 61 0 (I 1311 + 1).toInt64)) ∧ frI [1401, 1602, 1603, 1604, 1802, 1803, 1804, 1315, 1316, 1307, 1311, 1312, 1313, 1314, 1101] I I' ∧ frA [15, 17, 19, 20, 21] A A' ∧ isB (I' 1401) (A' 15) (app (stW B (I 1308) (I 1309)) (pgY (A 10) (I 1312) (pgC I A L n T).1)) ∧ isT (I' 1307) (A' 20) (A' 21) (pgC I A L n T).2 ∧ (I' 1312).toInt = (stW B (I 1308) (I 1309)).length ∧ I' 1311 = I 1311 + 1 ∧ I' 1313 = mxP (ysP (I 1101) (A 12)) n 0 (I 1313) ∧ I' 1314 = mxP (fun k => hP (xsP (I 1101) (A 12)) (gsP (I 1101) (A 12) (A 2)) (k + 1)) n 0 (I 1314) ∧ I' 1101 = 0
end SH9
theorem c_La_ship {I : mI} {A : mA} {L : mL} {n : Nat} {B T : List Int32} (hn : n ≤ 500) (hmn : (I 1101).toInt = (n : Int)) (hF : ∀ k, k < n → sPart (I 1101) (A 12) (Int32.ofNat k) 0 = -1 ∨ (0 ≤ sPart (I 1101) (A 12) (Int32.ofNat k) 0 ∧ sPart (I 1101) (A 12) (Int32.ofNat k) 0 ≤ 255)) (hz : I 1310 = 0 ∨ I 1310 = 1) (hw16 : I 1600 = 143) (hw18 : I 1800 = 157) (hL : ∀ x : Int32, 0 ≤ x → x ≤ 255 → 0 ≤ A 9 x.toNatClampNeg ∧ A 9 x.toNatClampNeg ≤ 16) (hs0 : 0 ≤ I 1309) (hs1 : I 1309 ≤ 255) (hB : isB (I 1401) (A 15) B) (hT : isT (I 1307) (A 20) (A 21) T) : xmW m_La_ship (7, 159) [.ref 0, .ref 61] (pic I A L) 1 6 (fun o => (shC1 I ∧ shL1 I A L o) ∨ (shC2 I A n ∧ shL2 I A L o) ∨ (shC3 I A L n B T ∧ shL3 I A L B T o) ∨ (shC4 I A L n B T ∧ shL4 I A L n B T o)) := by
  refine xmW_of (by decide) (Nat.le_of_ble_eq_true rfl) ?_
  refine xr_aload_n D_La_ship_0 rfl rfl ?_
  refine xr_iconst (v := 0) D_La_ship_1 rfl ?_
  refine xr_aload_n D_La_ship_2 rfl rfl ?_
  have hC := c_Dv_ship_0 (L := L) hn hmn hF hz hw16 hw18 hL hs0 hs1 hB hT
  rcases (shO : shC1 I ∨ shC2 I A n ∨ shC3 I A L n B T ∨ shC4 I A L n B T) with hc | hc | hc | hc
  · refine xr_callVT (as := []) (len := 0) (i := 0) (xm_mono (P' := shQ1 I A L) hC (by
      rintro _ (⟨_, q⟩ | ⟨hx, _⟩ | ⟨hx, _⟩ | ⟨hx, _⟩)
      · exact q
      · exact (sh12 hc hx).elim
      · exact (sh13 hc hx).elim
      · exact (sh14 hc hx).elim)) (by rintro _ rfl; exact ⟨_, rfl⟩) L_La_37 CD_Dv_ship rfl D_La_ship_3.1 rfl CI_Dv (by decide) (Nat.le_of_ble_eq_true rfl) (rc' := 0) (rs' := 0) (Nat.le_refl _) (Nat.le_refl _) ?_
    rintro E h' he
    cases he
    refine ⟨pic_leq, 11, 2, ⟨[], (0, 8, 11, 15), [(0, 8, 14, 41), (0, 8, 17, 32)], rfl, rfl, ⟨by decide, by decide, by decide, _, LC_15, rfl, XI_84⟩, by intro y hy; cases hy⟩, by decide, ?_⟩
    refine Or.inl ⟨2, rfl, D_La_ship_11.1, ?_⟩
    refine xr_iconst (v := 1) D_La_ship_12 rfl ?_
    exact xr_iret rfl D_La_ship_13 (Or.inl ⟨hc, rfl⟩)
  · refine xr_callVT (as := []) (len := 0) (i := 0) (xm_mono (P' := shQ2 I A L) hC (by
      rintro _ (⟨hx, _⟩ | ⟨_, q⟩ | ⟨hx, _⟩ | ⟨hx, _⟩)
      · exact (sh12 hx hc).elim
      · exact q
      · exact (sh23 hc hx).elim
      · exact (sh24 hc hx).elim)) (by rintro _ ⟨I1, A1, rfl, _⟩; exact ⟨_, rfl⟩) L_La_37 CD_Dv_ship rfl D_La_ship_3.1 rfl CI_Dv (by decide) (Nat.le_of_ble_eq_true rfl) (rc' := 0) (rs' := 0) (Nat.le_refl _) (Nat.le_refl _) ?_
    rintro E h' he
    obtain ⟨I1, A1, he1, hr⟩ := he
    cases he1
    refine ⟨pic_leq, 14, 2, ⟨[(0, 8, 11, 15)], (0, 8, 14, 41), [(0, 8, 17, 32)], rfl, rfl, ⟨by decide, by decide, by decide, _, LC_41, rfl, XI_149⟩, by intro y hy; cases List.mem_singleton.mp hy; exact ⟨by decide, by decide, by decide, _, LC_15, by decide +kernel⟩⟩, by decide, ?_⟩
    refine Or.inl ⟨2, rfl, D_La_ship_14.1, ?_⟩
    refine xr_iconst (v := 2) D_La_ship_15 rfl ?_
    exact xr_iret rfl D_La_ship_16 (Or.inr (Or.inl ⟨hc, I1, A1, rfl, hr⟩))
  · refine xr_callVT (as := []) (len := 0) (i := 0) (xm_mono (P' := shQ3 I A L B T) hC (by
      rintro _ (⟨hx, _⟩ | ⟨hx, _⟩ | ⟨_, q⟩ | ⟨hx, _⟩)
      · exact (sh13 hx hc).elim
      · exact (sh23 hx hc).elim
      · exact q
      · exact (sh34 hc hx).elim)) (by rintro _ ⟨I1, A1, rfl, _⟩; exact ⟨_, rfl⟩) L_La_37 CD_Dv_ship rfl D_La_ship_3.1 rfl CI_Dv (by decide) (Nat.le_of_ble_eq_true rfl) (rc' := 0) (rs' := 0) (Nat.le_refl _) (Nat.le_refl _) ?_
    rintro E h' he
    obtain ⟨I1, A1, he1, hr⟩ := he
    cases he1
    refine ⟨pic_leq, 17, 2, ⟨[(0, 8, 11, 15), (0, 8, 14, 41)], (0, 8, 17, 32), [], rfl, rfl, ⟨by decide, by decide, by decide, _, LC_32, rfl, XI_126⟩, by intro y hy; exact (List.mem_cons.mp hy).elim (fun e => by subst e; exact ⟨by decide, by decide, by decide, _, LC_15, by decide +kernel⟩) (fun hy => by cases List.mem_singleton.mp hy; exact ⟨by decide, by decide, by decide, _, LC_41, by decide +kernel⟩)⟩, by decide, ?_⟩
    refine Or.inl ⟨2, rfl, D_La_ship_17.1, ?_⟩
    refine xr_iconst (v := 3) D_La_ship_18 rfl ?_
    exact xr_iret rfl D_La_ship_19 (Or.inr (Or.inr (Or.inl ⟨hc, I1, A1, rfl, hr⟩)))
  · refine xr_cVx (as := []) (xm_mono (P' := shQ4 I A L n B T) hC (by
      rintro _ (⟨hx, _⟩ | ⟨hx, _⟩ | ⟨hx, _⟩ | ⟨_, q⟩)
      · exact (sh14 hx hc).elim
      · exact (sh24 hx hc).elim
      · exact (sh34 hx hc).elim
      · exact q)) L_La_37 CD_Dv_ship CI_Dv D_La_ship_3 rfl rfl (by decide) (Nat.le_of_ble_eq_true rfl) (rc' := 0) (rs' := 0) (Nat.le_refl _) (Nat.le_refl _) pic_len ?_
    rintro _ ⟨I1, A1, rfl, hr⟩
    refine ⟨_, _, rfl, pic_leq, ?_⟩
    refine xr_i2l D_La_ship_6 ?_
    refine xr_last D_La_ship_7 rfl (by exact i_in2 1 (by grind) (by grind) rfl) (aset_61) ?_
    refine xr_goto (tgt := 20) D_La_ship_8 rfl ?_
    refine xr_iconst (v := 0) D_La_ship_20 rfl ?_
    refine xr_iret rfl D_La_ship_21 ?_
    exact Or.inr (Or.inr (Or.inr ⟨hc, I1, A1, rfl, hr⟩))

def clL (I : mI) (A : mA) (L : mL) (B T : List Int32) : xO → Prop := fun o => ∃ I' A', o = (.inl (some (.int 0)), pic I' A' (upL L 61 0 (I' 1401).toInt64)) ∧ frI [1401, 1310] I I' ∧ frA [15] A A' ∧ isB (I' 1401) (A' 15) (clB I A L B T) ∧ I' 1310 = 1
theorem c_La_close {I : mI} {A : mA} {L : mL} {B T : List Int32} (hz : I 1310 = 0 ∨ I 1310 = 1) (hs0 : 0 ≤ I 1309) (hs1 : I 1309 ≤ 255) (hlen : I 1310 = 0 → B.length ≤ 60000) (hL : ∀ x : Int32, 0 ≤ x → x ≤ 255 → 0 ≤ A 9 x.toNatClampNeg ∧ A 9 x.toNatClampNeg ≤ 16) (hB : isB (I 1401) (A 15) B) (hT : isT (I 1307) (A 20) (A 21) T) : xmW m_La_close (7, 127) [.ref 0, .ref 61] (pic I A L) 1 6 (fun o => (shC1 I ∧ shL1 I A L o) ∨ (I 1310 = 0 ∧ clL I A L B T o)) := by
  refine xmW_of (by decide) (Nat.le_of_ble_eq_true rfl) ?_
  refine xr_aload_n D_La_close_0 rfl rfl ?_
  refine xr_iconst (v := 0) D_La_close_1 rfl ?_
  refine xr_aload_n D_La_close_2 rfl rfl ?_
  have hC := c_Dv_close_0 (L := L) hz hs0 hs1 hlen hL hB hT
  by_cases hc : I 1310 = 0
  · refine xr_cVx (as := []) (xm_mono (P' := clQ I A L B T) hC (by
      rintro _ (⟨hx, _⟩ | ⟨_, q⟩)
      · exact absurd hc hx
      · exact q)) L_La_43 CD_Dv_close CI_Dv D_La_close_3 rfl rfl (by decide) (Nat.le_of_ble_eq_true rfl) (rc' := 0) (rs' := 0) (Nat.le_refl _) (Nat.le_refl _) pic_len ?_
    rintro _ ⟨I1, A1, rfl, hr⟩
    refine ⟨_, _, rfl, pic_leq, ?_⟩
    refine xr_i2l D_La_close_6 ?_
    refine xr_last D_La_close_7 rfl (by exact i_in2 1 (by grind) (by grind) rfl) (aset_61) ?_
    refine xr_goto (tgt := 14) D_La_close_8 rfl ?_
    refine xr_iconst (v := 0) D_La_close_14 rfl ?_
    refine xr_iret rfl D_La_close_15 ?_
    exact Or.inr ⟨hc, I1, A1, rfl, hr⟩
  · refine xr_callVT (as := []) (len := 0) (i := 0) (xm_mono (P' := shQ1 I A L) hC (by
      rintro _ (⟨_, q⟩ | ⟨hx, _⟩)
      · exact q
      · exact absurd hx hc)) (by rintro _ rfl; exact ⟨_, rfl⟩) L_La_43 CD_Dv_close rfl D_La_close_3.1 rfl CI_Dv (by decide) (Nat.le_of_ble_eq_true rfl) (rc' := 0) (rs' := 0) (Nat.le_refl _) (Nat.le_refl _) ?_
    rintro E h' he
    cases he
    refine ⟨pic_leq, 11, 2, ⟨[], (0, 8, 11, 15), [], rfl, rfl, ⟨by decide, by decide, by decide, _, LC_15, rfl, XI_84⟩, by intro y hy; cases hy⟩, by decide, ?_⟩
    refine Or.inl ⟨2, rfl, D_La_close_11.1, ?_⟩
    refine xr_iconst (v := 1) D_La_close_12 rfl ?_
    exact xr_iret rfl D_La_close_13 (Or.inl ⟨hc, rfl⟩)
