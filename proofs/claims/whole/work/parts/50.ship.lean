abbrev cmN (n : Nat) (f : Nat → Int32) (k : Nat) : Int32 → Bool := fun z => decide (¬ z = 0 ∧ cmF f z (n - (k + 1)) (k + 1) = true)
theorem cmF_cg {f g : Nat → Int32} {x : Int32} : ∀ (n s : Nat), (∀ j, s ≤ j → j < s + n → f j = g j) → cmF f x n s = cmF g x n s := by
  intro n
  induction n with
  | zero => intro s _; rfl
  | succ n ih =>
    intro s h
    rw [cmF_s, cmF_s, h s (by omega) (by omega), ih (s + 1) (fun j a b => h j (by omega) (by omega))]
theorem cmK_N {m : Int32} {n k : Nat} {f g : Nat → Int32} (hm : m.toInt = (n : Int)) (hn : n ≤ 500) (hk : k < n) (h : ∀ j, j < n → f j = g j) : cmK m f k = cmN n g k := by
  funext z
  have e1 : (Int32.ofNat k).toInt = (k : Int) := i_of (by omega)
  have e2 : (m.toInt - ((Int32.ofNat k).toInt + 1)).toNat = n - (k + 1) := by rw [e1, hm]; omega
  have e3 : ((Int32.ofNat k).toInt + 1).toNat = k + 1 := by rw [e1]; omega
  show decide (¬ z = 0 ∧ cmF f z (m.toInt - ((Int32.ofNat k).toInt + 1)).toNat ((Int32.ofNat k).toInt + 1).toNat = true) = _
  rw [e2, e3, cmF_cg (g := g) _ _ (fun j a b => h j (by omega))]
theorem pgR_cg {dn rt dn' rt' : Nat → Int32} {cd cr cd' cr' : Nat → Int32 → Bool} {F C H F' C' H' : Nat → Int32} {D D' : Int32 → List Int32} {n : Nat} (hd : ∀ k, k < n → dn k = dn' k) (hr : ∀ k, k < n → rt k = rt' k) (hcd : ∀ k, k < n → cd k = cd' k) (hcr : ∀ k, k < n → cr k = cr' k) (hF : ∀ k, k < n → F k = F' k) (hC : ∀ k, k < n → C k = C' k) (hH : ∀ k, k < n → H k = H' k) (hD : ∀ k, k < n → ¬ F k = -1 → D (F k) = D' (F k)) : ∀ (t k : Nat) (a b c d h : Int32) (T : List Int32), k + t = n → pgR dn rt cd cr F C H D t k a b c d h T = pgR dn' rt' cd' cr' F' C' H' D' t k a b c d h T := by
  intro t
  induction t with
  | zero => intro k a b c d h T _; rfl
  | succ t ih =>
    intro k a b c d h T hk
    have hk9 : k < n := by omega
    by_cases e : F k = -1
    · rw [pgR_r e, pgR_r ((hF k hk9).symm.trans e), hd k hk9, hr k hk9, hcd k hk9, hcr k hk9, hC k hk9, hH k hk9]
      rw [ih (k + 1) _ _ _ _ _ _ (by omega)]
    · have e' : ¬ F' k = -1 := fun q => e ((hF k hk9).trans q)
      have ef : fnS D h T (F k) = fnS D' h T (F' k) := by
        unfold fnS
        rw [hD k hk9 e, hF k hk9]
      rw [pgR_c e, pgR_c e', hd k hk9, hr k hk9, hcd k hk9, hcr k hk9, hC k hk9, ef, hF k hk9]
      rw [ih (k + 1) _ _ _ _ _ _ (by omega)]

def pgC (I : mI) (A : mA) (L : mL) (n : Nat) (T : List Int32) : List Int32 × List Int32 := pgR (dnP (ysP (I 1101) (A 12))) (rtP (xsP (I 1101) (A 12)) (gsP (I 1101) (A 12) (A 2))) (cmN n (dnP (ysP (I 1101) (A 12)))) (cmN n (rtP (xsP (I 1101) (A 12)) (gsP (I 1101) (A 12) (A 2)))) (fun k => sPart (I 1101) (A 12) (Int32.ofNat k) 0) (fun k => sPart (I 1101) (A 12) (Int32.ofNat k) 1) (fun k => sPart (I 1101) (A 12) (Int32.ofNat k) 2) (defC A L) n 0 0 0 0 0 (-1) T
section SH9
variable (I : mI) (A : mA) (L : mL) (n : Nat) (B T : List Int32)
def shQ1 : xO → Prop := fun o => o = (.inr "java/lang/IllegalStateException", pic I A L)
def shC1 : Prop := ¬ I 1310 = 0
def shQ2 : xO → Prop := fun o => ∃ I' A', o = (.inr "java/lang/ArithmeticException", pic I' A' L) ∧ frI [1602, 1603, 1604, 1802, 1803, 1804, 1315, 1316] I I' ∧ frA [17, 19] A A'
def shC2 : Prop := I 1310 = 0 ∧ (∃ k, k < n ∧ ¬ okP (xsP (I 1101) (A 12)) (gsP (I 1101) (A 12) (A 2)) k)
def shQ3 : xO → Prop := fun o => ∃ I' A', o = (.inr "java/lang/UnsupportedOperationException", pic I' A' L) ∧ frI [1401, 1602, 1603, 1604, 1802, 1803, 1804, 1315, 1316, 1307] I I' ∧ frA [15, 17, 19, 20, 21] A A' ∧ isB (I' 1401) (A' 15) B ∧ isT (I' 1307) (A' 20) (A' 21) T
def shC3 : Prop := I 1310 = 0 ∧ (∀ k, k < n → okP (xsP (I 1101) (A 12)) (gsP (I 1101) (A 12) (A 2)) k) ∧ 60000 < (app (stW B (I 1308) (I 1309)) (pgY (A 10) (I 1312) (pgC I A L n T).1)).length
def shQ4 : xO → Prop := fun o => ∃ I' A', o = (.inl (some (.int (I 1311 + 1))), pic I' A' L) ∧ frI [1401, 1602, 1603, 1604, 1802, 1803, 1804, 1315, 1316, 1307, 1311, 1312, 1313, 1314, 1101] I I' ∧ frA [15, 17, 19, 20, 21] A A' ∧ isB (I' 1401) (A' 15) (app (stW B (I 1308) (I 1309)) (pgY (A 10) (I 1312) (pgC I A L n T).1)) ∧ isT (I' 1307) (A' 20) (A' 21) (pgC I A L n T).2 ∧ (I' 1312).toInt = (stW B (I 1308) (I 1309)).length ∧ I' 1311 = I 1311 + 1 ∧ I' 1313 = mxP (ysP (I 1101) (A 12)) n 0 (I 1313) ∧ I' 1314 = mxP (fun k => hP (xsP (I 1101) (A 12)) (gsP (I 1101) (A 12) (A 2)) (k + 1)) n 0 (I 1314) ∧ I' 1101 = 0
def shC4 : Prop := I 1310 = 0 ∧ (∀ k, k < n → okP (xsP (I 1101) (A 12)) (gsP (I 1101) (A 12) (A 2)) k) ∧ (app (stW B (I 1308) (I 1309)) (pgY (A 10) (I 1312) (pgC I A L n T).1)).length ≤ 60000
end SH9
theorem shO {I : mI} {A : mA} {L : mL} {n : Nat} {B T : List Int32} : shC1 I ∨ shC2 I A n ∨ shC3 I A L n B T ∨ shC4 I A L n B T := by
  unfold shC1 shC2 shC3 shC4
  by_cases h1 : I 1310 = 0
  · by_cases h2 : (∃ k, k < n ∧ ¬ okP (xsP (I 1101) (A 12)) (gsP (I 1101) (A 12) (A 2)) k)
    · exact Or.inr (Or.inl ⟨h1, h2⟩)
    · have h3 : (∀ k, k < n → okP (xsP (I 1101) (A 12)) (gsP (I 1101) (A 12) (A 2)) k) := fun k hk => Decidable.byContradiction (fun q => h2 ⟨k, hk, q⟩)
      by_cases h4 : 60000 < (app (stW B (I 1308) (I 1309)) (pgY (A 10) (I 1312) (pgC I A L n T).1)).length
      · exact Or.inr (Or.inr (Or.inl ⟨h1, h3, h4⟩))
      · exact Or.inr (Or.inr (Or.inr ⟨h1, h3, Nat.le_of_not_lt h4⟩))
  · exact Or.inl h1
set_option maxHeartbeats 1000000 in
theorem c_Dv_ship_0 {I : mI} {A : mA} {L : mL} {n : Nat} {B T : List Int32} (hn : n ≤ 500) (hmn : (I 1101).toInt = (n : Int)) (hF : ∀ k, k < n → sPart (I 1101) (A 12) (Int32.ofNat k) 0 = -1 ∨ (0 ≤ sPart (I 1101) (A 12) (Int32.ofNat k) 0 ∧ sPart (I 1101) (A 12) (Int32.ofNat k) 0 ≤ 255)) (hz : I 1310 = 0 ∨ I 1310 = 1) (hw16 : I 1600 = 143) (hw18 : I 1800 = 157) (hL : ∀ x : Int32, 0 ≤ x → x ≤ 255 → 0 ≤ A 9 x.toNatClampNeg ∧ A 9 x.toNatClampNeg ≤ 16) (hs0 : 0 ≤ I 1309) (hs1 : I 1309 ≤ 255) (hB : isB (I 1401) (A 15) B) (hT : isT (I 1307) (A 20) (A 21) T) : xm m_Dv_ship (6, 139) [.ref 0] (pic I A L) 1 6 (fun o => (shC1 I ∧ shQ1 I A L o) ∨ (shC2 I A n ∧ shQ2 I A L o) ∨ (shC3 I A L n B T ∧ shQ3 I A L B T o) ∨ (shC4 I A L n B T ∧ shQ4 I A L n B T o)) := by
  refine xm_of rfl (by decide) (Nat.le_of_ble_eq_true rfl) ?_
  refine xr_aload_n D_Dv_ship_0 rfl rfl ?_
  refine xr_getf F_Dv_39 D_Dv_ship_1 rfl rfl ?_
  refine xr_cVx (as := []) (c_Wr_isClosed_13 hz) (L_Dv_140) (CD_Wr_isClosed) CI_Wr D_Dv_ship_4 rfl rfl (by decide) (Nat.le_of_ble_eq_true rfl) (Nat.le_of_eq (Nat.zero_add _)) (Nat.le_of_eq (Nat.zero_add _)) pic_len ?_
  rintro _ rfl
  refine ⟨_, _, rfl, pic_leq, ?_⟩
  refine xr_if_eq (tgt := 20) D_Dv_ship_7 rfl (fun c1 => ?_) (fun c1 => ?_)
  · refine xr_aload_n D_Dv_ship_20 rfl rfl ?_
    refine xr_getf F_Dv_39 D_Dv_ship_21 rfl rfl ?_
    refine xr_aload_n D_Dv_ship_24 rfl rfl ?_
    refine xr_getf F_Dv_30 D_Dv_ship_25 rfl rfl ?_
    refine xr_cVx (as := [_]) (c_Wr_planPage_13 hn hmn) (L_Dv_145) (CD_Wr_planPage) CI_Wr D_Dv_ship_28 rfl rfl (by decide) (Nat.le_of_ble_eq_true rfl) (Nat.le_of_eq (Nat.zero_add _)) (Nat.le_of_eq (Nat.zero_add _)) pic_len ?_
    rintro _ (⟨hb, I1, A1, rfl, hI1, hA1⟩ | ⟨hb, I1, A1, rfl, hI1, hA1, e1, e2, e3, e4, e5, e6, e7, e8, e9⟩)
    · refine ⟨_, _, rfl, pic_leq, ?_⟩
      refine xr_if_ne (tgt := 44) D_Dv_ship_31 rfl (fun c2 => ?_) (fun c2 => ?_)
      · exact absurd (show (0 : Int32) = (0 : Int32) by decide) c2
      · refine xr_throwS (TH_149_151) rfl D_Dv_ship_34.1 D_Dv_ship_37.1 D_Dv_ship_38.1 D_Dv_ship_40.1 D_Dv_ship_43.1 (by decide) (by decide) (Nat.le_of_ble_eq_true rfl) (Nat.le_refl _) (Nat.le_refl _) ?_
        exact Or.inr (Or.inl ⟨⟨c1, hb⟩, I1, A1, rfl, hI1, hA1⟩)
    · refine ⟨_, _, rfl, pic_leq, ?_⟩
      refine xr_if_ne (tgt := 44) D_Dv_ship_31 rfl (fun c3 => ?_) (fun c3 => ?_)
      · have ofm : Int32.ofNat n = I 1101 := i_eq.mpr (by rw [i_of (by omega), hmn])
        have w0 : wmI I1 A1 L (I 1101) (A 12) (A1 17) (A1 19) (defC A1 L) := ⟨hI1 1101 (by decide), hA1 12 (by decide), rfl, rfl, e1.trans ofm, e2.trans ofm, (hI1 1600 (by decide)).trans hw16, (hI1 1800 (by decide)).trans hw18, fun _ => rfl, by rw [hA1 9 (by decide)]; exact hL⟩
        have hB1 : isB (I1 1401) (A1 15) B := by rw [hI1 1401 (by decide), hA1 15 (by decide)]; exact hB
        have t1 : isT (I1 1307) (A1 20) (A1 21) T := by rw [hI1 1307 (by decide), hA1 20 (by decide), hA1 21 (by decide)]; exact hT
        have hP1 : (pgR (A1 19) (A1 17) (cmK (I 1101) (A1 19)) (cmK (I 1101) (A1 17)) (fun k => sPart (I 1101) (A 12) (Int32.ofNat k) 0) (fun k => sPart (I 1101) (A 12) (Int32.ofNat k) 1) (fun k => sPart (I 1101) (A 12) (Int32.ofNat k) 2) (defC A1 L) n 0 (I1 1803) (I1 1804) (I1 1603) (I1 1604) (-1) T) = pgC I A L n T := by
          rw [e3, e4, e5, e6]
          unfold pgC
          refine pgR_cg (n := n) (fun k hk => (e7 k hk).2) (fun k hk => (e7 k hk).1) (fun k hk => cmK_N hmn hn hk (fun j hj => (e7 j hj).2)) (fun k hk => cmK_N hmn hn hk (fun j hj => (e7 j hj).1)) (fun _ _ => rfl) (fun _ _ => rfl) (fun _ _ => rfl) (fun k _ _ => ?_) n 0 _ _ _ _ _ _ (by omega)
          show defC A1 L _ = defC A L _
          unfold defC
          rw [hA1 4 (by decide), hA1 5 (by decide), hA1 6 (by decide), hA1 9 (by decide)]
        have hW := c_Wr_writePage_13 hn hmn hF w0 (by rw [hI1 1309 (by decide)]; exact hs0) (by rw [hI1 1309 (by decide)]; exact hs1) hB1 t1
        rw [hP1, hI1 1308 (by decide), hI1 1309 (by decide), hI1 1312 (by decide), hA1 10 (by decide)] at hW
        refine xr_aload_n D_Dv_ship_44 rfl rfl ?_
        refine xr_getf F_Dv_39 D_Dv_ship_45 rfl rfl ?_
        refine xr_aload_n D_Dv_ship_48 rfl rfl ?_
        refine xr_getf F_Dv_30 D_Dv_ship_49 rfl rfl ?_
        refine xr_aload_n D_Dv_ship_52 rfl rfl ?_
        refine xr_getf F_Dv_23 D_Dv_ship_53 rfl rfl ?_
        refine xr_cVx (as := [_, _]) (hW) (L_Dv_154) (CD_Wr_writePage) CI_Wr D_Dv_ship_56 rfl rfl (by decide) (Nat.le_of_ble_eq_true rfl) (Nat.le_of_eq (Nat.zero_add _)) (Nat.le_of_eq (Nat.zero_add _)) pic_len ?_
        rintro _ (⟨hl, I2, A2, rfl, hI2, hA2, hB2, hT2⟩ | ⟨hl, I2, A2, rfl, hI2, hA2, hB2, hT2, g1, g2, g3, g4⟩)
        · refine ⟨_, _, rfl, pic_leq, ?_⟩
          refine xr_if_ne (tgt := 72) D_Dv_ship_59 rfl (fun c4 => ?_) (fun c4 => ?_)
          · exact absurd (show (0 : Int32) = (0 : Int32) by decide) c4
          · refine xr_throwS (TH_126_158) rfl D_Dv_ship_62.1 D_Dv_ship_65.1 D_Dv_ship_66.1 D_Dv_ship_68.1 D_Dv_ship_71.1 (by decide) (by decide) (Nat.le_of_ble_eq_true rfl) (Nat.le_refl _) (Nat.le_refl _) ?_
            refine Or.inr (Or.inr (Or.inl ⟨⟨c1, hb, hl⟩, I2, A2, rfl, frI_tr hI1 hI2 (by decide) (by decide), frA_tr hA1 hA2 (by decide) (by decide), hB2, hT2⟩))
        · refine ⟨_, _, rfl, pic_leq, ?_⟩
          refine xr_if_ne (tgt := 72) D_Dv_ship_59 rfl (fun c5 => ?_) (fun c5 => ?_)
          · refine xr_aload_n D_Dv_ship_72 rfl rfl ?_
            refine xr_getf F_Dv_30 D_Dv_ship_73 rfl rfl ?_
            refine xr_cVv (as := []) (c_Sh_clear_11) (L_Dv_111) (CD_Sh_clear) CI_Sh D_Dv_ship_76 rfl rfl (by decide) (Nat.le_of_ble_eq_true rfl) (Nat.le_of_eq (Nat.zero_add _)) (Nat.le_of_eq (Nat.zero_add _)) pic_len ?_
            rintro _ rfl
            refine ⟨_, rfl, pic_leq, ?_⟩
            refine xr_aload_n D_Dv_ship_79 rfl rfl ?_
            refine xr_getf F_Dv_39 D_Dv_ship_80 rfl rfl ?_
            refine xr_cVx (as := []) (c_Wr_pageCount_13) (L_Dv_160) (CD_Wr_pageCount) CI_Wr D_Dv_ship_83 rfl rfl (by decide) (Nat.le_of_ble_eq_true rfl) (Nat.le_of_eq (Nat.zero_add _)) (Nat.le_of_eq (Nat.zero_add _)) pic_len ?_
            rintro _ rfl
            refine ⟨_, _, rfl, pic_leq, ?_⟩
            refine xr_iret rfl D_Dv_ship_86 ?_
            rw [hI1 1311 (by decide)] at g2
            refine Or.inr (Or.inr (Or.inr ⟨⟨c1, hb, hl⟩, upd I2 1101 0, A2, ?_, frI_tr (frI_tr (ks := [1401, 1602, 1603, 1604, 1802, 1803, 1804, 1315, 1316, 1307, 1311, 1312, 1313, 1314, 1101]) hI1 hI2 (by decide) (by decide)) (frI_up (ks := [1101]) (by decide)) (fun _ h => h) (by decide), frA_tr hA1 hA2 (by decide) (by decide), hB2, hT2, g1, g2, g3.trans e8, g4.trans e9, rfl⟩))
            exact oi g2
          · exact absurd (show (1 : Int32) = (0 : Int32) from c5) (by decide)
      · exact absurd (show (1 : Int32) = (0 : Int32) from c3) (by decide)
  · refine xr_throwS (TH_84_143) rfl D_Dv_ship_10.1 D_Dv_ship_13.1 D_Dv_ship_14.1 D_Dv_ship_16.1 D_Dv_ship_19.1 (by decide) (by decide) (Nat.le_of_ble_eq_true rfl) (Nat.le_refl _) (Nat.le_refl _) ?_
    exact Or.inl ⟨c1, rfl⟩

def clB (I : mI) (A : mA) (L : mL) (B T : List Int32) : List Int32 := ((stW B (I 1308) (I 1309)) ++ (edB (I 1312) (I 1313) (I 1314) (I 1311) (Int32.ofNat (stW B (I 1308) (I 1309)).length) (dfF (defC A L) (A 21) T.length))) ++ List.replicate (flN ((stW B (I 1308) (I 1309)) ++ (edB (I 1312) (I 1313) (I 1314) (I 1311) (Int32.ofNat (stW B (I 1308) (I 1309)).length) (dfF (defC A L) (A 21) T.length))).length) (223 &&& 255)
def clQ (I : mI) (A : mA) (L : mL) (B T : List Int32) : xO → Prop := fun o => ∃ I' A', o = (.inl (some (.int (I' 1401))), pic I' A' L) ∧ frI [1401, 1310] I I' ∧ frA [15] A A' ∧ isB (I' 1401) (A' 15) (clB I A L B T) ∧ I' 1310 = 1
theorem c_Dv_close_0 {I : mI} {A : mA} {L : mL} {B T : List Int32} (hz : I 1310 = 0 ∨ I 1310 = 1) (hs0 : 0 ≤ I 1309) (hs1 : I 1309 ≤ 255) (hlen : I 1310 = 0 → B.length ≤ 60000) (hL : ∀ x : Int32, 0 ≤ x → x ≤ 255 → 0 ≤ A 9 x.toNatClampNeg ∧ A 9 x.toNatClampNeg ≤ 16) (hB : isB (I 1401) (A 15) B) (hT : isT (I 1307) (A 20) (A 21) T) : xm m_Dv_close (6, 107) [.ref 0] (pic I A L) 1 6 (fun o => (shC1 I ∧ shQ1 I A L o) ∨ (I 1310 = 0 ∧ clQ I A L B T o)) := by
  refine xm_of rfl (by decide) (Nat.le_of_ble_eq_true rfl) ?_
  refine xr_aload_n D_Dv_close_0 rfl rfl ?_
  refine xr_getf F_Dv_39 D_Dv_close_1 rfl rfl ?_
  refine xr_cVx (as := []) (c_Wr_isClosed_13 hz) (L_Dv_140) (CD_Wr_isClosed) CI_Wr D_Dv_close_4 rfl rfl (by decide) (Nat.le_of_ble_eq_true rfl) (Nat.le_of_eq (Nat.zero_add _)) (Nat.le_of_eq (Nat.zero_add _)) pic_len ?_
  rintro _ rfl
  refine ⟨_, _, rfl, pic_leq, ?_⟩
  refine xr_if_eq (tgt := 20) D_Dv_close_7 rfl (fun c1 => ?_) (fun c1 => ?_)
  · refine xr_aload_n D_Dv_close_20 rfl rfl ?_
    refine xr_getf F_Dv_39 D_Dv_close_21 rfl rfl ?_
    refine xr_cVx (as := []) (c_Wr_writeEnd_13 hs0 hs1 (hlen c1) hL hB hT) (L_Dv_164) (CD_Wr_writeEnd) CI_Wr D_Dv_close_24 rfl rfl (by decide) (Nat.le_of_ble_eq_true rfl) (Nat.le_of_eq (Nat.zero_add _)) (Nat.le_of_eq (Nat.zero_add _)) pic_len ?_
    rintro _ ⟨I2, A2, rfl, hI2, hA2, hB2, g2⟩
    refine ⟨_, _, rfl, pic_leq, ?_⟩
    refine xr_iret rfl D_Dv_close_27 ?_
    exact Or.inr ⟨c1, I2, A2, rfl, hI2, hA2, hB2, g2⟩
  · refine xr_throwS (TH_84_143) rfl D_Dv_close_10.1 D_Dv_close_13.1 D_Dv_close_14.1 D_Dv_close_16.1 D_Dv_close_19.1 (by decide) (by decide) (Nat.le_of_ble_eq_true rfl) (Nat.le_refl _) (Nat.le_refl _) ?_
    exact Or.inl ⟨c1, rfl⟩
