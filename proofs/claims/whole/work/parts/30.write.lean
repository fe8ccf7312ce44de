def pW (I : mI) (A : mA) (L : mL) (B : List Int32) : xO → Prop := fun o => ∃ u g, o = (.inl none, pic (upd I 1401 u) (upAf A 15 g) L) ∧ isB u g B
theorem upd_upd {I : mI} {k : Nat} {x y : Int32} : upd (upd I k x) k y = upd I k y := by
  funext j
  unfold upd
  by_cases h : j = k
  · rw [if_pos h, if_pos h]
  · rw [if_neg h, if_neg h, if_neg h]
theorem upd_comm {I : mI} {k q : Nat} {x y : Int32} (h : k ≠ q) : upd (upd I k x) q y = upd (upd I q y) k x := by
  funext j
  unfold upd
  by_cases h1 : j = q
  · rw [if_pos h1, if_neg (by omega), if_pos h1]
  · rw [if_neg h1]
    by_cases h2 : j = k
    · rw [if_pos h2, if_pos h2]
    · rw [if_neg h2, if_neg h2, if_neg h1]
theorem upd_self {I : mI} {k : Nat} : upd I k (I k) = I := by
  funext j
  unfold upd
  by_cases h : j = k
  · rw [if_pos h, h]
  · rw [if_neg h]
theorem upA_upAf {A : mA} {k q i : Nat} {x : Int32} {g : Nat → Int32} (h : k ≠ q) : upA (upAf A k g) q i x = upAf (upA A q i x) k g := by
  funext j
  have hq : ¬ q = k := fun e => h e.symm
  simp only [upA, upAf]
  by_cases h1 : j = q
  · subst h1
    simp [hq]
  · by_cases h2 : j = k <;> simp [h1, h2, h]
theorem upAf_upAf {A : mA} {k : Nat} {f g : Nat → Int32} : upAf (upAf A k f) k g = upAf A k g := by
  funext j
  unfold upAf
  by_cases h : j = k
  · rw [if_pos h, if_pos h]
  · rw [if_neg h, if_neg h, if_neg h]
theorem frI_eq {I I' : mI} {k : Nat} (h : frI [k] I I') : I' = upd I k (I' k) := by
  funext j
  unfold upd
  by_cases h1 : j = k
  · rw [if_pos h1, h1]
  · rw [if_neg h1]; exact h j (by simp [h1])
theorem frA_eq {A A' : mA} {k : Nat} (h : frA [k] A A') : A' = upAf A k (A' k) := by
  funext j
  unfold upAf
  by_cases h1 : j = k
  · rw [if_pos h1, h1]
  · rw [if_neg h1]; exact h j (by simp [h1])
theorem pB_W {I : mI} {A : mA} {L : mL} {u : Int32} {g : Nat → Int32} {B : List Int32} : ∀ o, pB (upd I 1401 u) (upAf A 15 g) L 1401 15 B o → pW I A L B o := by
  rintro _ ⟨I', A', rfl, h1, h2, h3⟩
  refine ⟨I' 1401, A' 15, ?_, h3⟩
  rw [frI_eq h1, frA_eq h2, upd_upd, upAf_upAf]
  rfl
theorem pW_app {I : mI} {A : mA} {L : mL} {B xs ys : List Int32} : ∀ o, pW I A L (app (app B xs) ys) o → pW I A L (app B (xs ++ ys)) o := by
  intro o ho
  rw [app_app] at ho
  exact ho
def scl : List Int32 := numB 25400000 4 ++ (numB 473628672 4 ++ numB 1000 4)
def lsB (a b : Int64) : Nat → Nat → List Int32
  | 0, _ => []
  | n + 1, s => (letC a b (Int32.ofNat s) &&& 255) :: lsB a b n (s + 1)
def defC (A : mA) (L : mL) (f : Int32) : List Int32 := (243 &&& 255) :: (f &&& 255) :: (numB (A 4 f.toNatClampNeg) 4 ++ (numB (A 5 f.toNatClampNeg) 4 ++ (numB (A 6 f.toNatClampNeg) 4 ++ ((0 &&& 255) :: (A 9 f.toNatClampNeg &&& 255) :: lsB (L 7 f.toNatClampNeg) (L 8 f.toNatClampNeg) (A 9 f.toNatClampNeg).toInt.toNat 0))))
def stB (c n : Int32) : List Int32 := (247 &&& 255) :: (2 &&& 255) :: (scl ++ ((n &&& 255) :: List.replicate n.toInt.toNat (c &&& 255)))
def fsel (f : Int32) : List Int32 := if f < 64 then [(171 + f) &&& 255] else [235 &&& 255, f &&& 255]
def csel (c : Int32) : List Int32 := if 128 ≤ c then [128 &&& 255, c &&& 255] else [c &&& 255]

theorem w_add {I : mI} {A : mA} {L : mL} {u : Int32} {g : Nat → Int32} {B : List Int32} {x : Int32} (hB : isB u g B) : xm m_By_add (0, 0) [.ref 14, .int x] (pic (upd I 1401 u) (upAf A 15 g) L) 0 0 (pW I A L (app B [x &&& 255])) := xm_mono (c_By_add_14 hB) pB_W
theorem w_addNumber {I : mI} {A : mA} {L : mL} {u : Int32} {g : Nat → Int32} {B : List Int32} {n w : Int32} (k : Nat) (hw : w.toInt = (k : Int)) (hk : k ≤ 4) (hB : isB u g B) : xm m_By_addNumber (1, 21) [.ref 14, .int n, .int w] (pic (upd I 1401 u) (upAf A 15 g) L) 0 0 (pW I A L (app B (numB n k))) := xm_mono (c_By_addNumber_14 k hw hk hB) pB_W
theorem w_addShortest {I : mI} {A : mA} {L : mL} {u : Int32} {g : Nat → Int32} {B : List Int32} {c n : Int32} (hB : isB u g B) : xm m_By_addShortest (2, 44) [.ref 14, .int c, .int n] (pic (upd I 1401 u) (upAf A 15 g) L) 0 0 (pW I A L (app B (((c + Int32.ofNat (bfN n) - 1) &&& 255) :: numB n (bfN n)))) := xm_mono (c_By_addShortest_14 hB) pB_W
theorem w_length {I : mI} {A : mA} {L : mL} {u : Int32} {g : Nat → Int32} : xm m_By_length (0, 0) [.ref 14] (pic (upd I 1401 u) (upAf A 15 g) L) 0 0 (fun o => o = (.inl (some (.int u)), pic (upd I 1401 u) (upAf A 15 g) L)) := c_By_length_14
theorem w_hasTold {I : mI} {A : mA} {L : mL} {u : Int32} {g : Nat → Int32} {f : Int32} : xm m_Wr_hasTold (1, 20) [.ref 13, .int f] (pic (upd I 1401 u) (upAf A 15 g) L) 0 0 (fun o => o = (.inl (some (.int (b2 ((0 ≤ f ∧ f ≤ 255) ∧ ¬ A 20 f.toNatClampNeg = 0)))), pic (upd I 1401 u) (upAf A 15 g) L)) := c_Wr_hasTold_13
theorem w_Wr_writeScale {I : mI} {A : mA} {L : mL} {u : Int32} {g : Nat → Int32} {B : List Int32}   (hB : isB u g B) : xm m_Wr_writeScale (2, 44) [.ref 13] (pic (upd I 1401 u) (upAf A 15 g) L) 0 0 (pW I A L (app B scl)) := by
  refine xm_of rfl (by decide) (Nat.le_of_ble_eq_true rfl) ?_
  refine xr_aload_n D_Wr_writeScale_0 rfl rfl ?_
  refine xr_getf F_Wr_12 D_Wr_writeScale_1 rfl rfl ?_
  refine xr_ldc (v := 25400000) D_Wr_writeScale_4 K_Wr_154 ?_
  refine xr_iconst (v := 4) D_Wr_writeScale_6 rfl ?_
  refine xr_cVv (as := [_, _]) (w_addNumber 4 rfl (by decide) hB) (L_Wr_143) (CD_By_addNumber) CI_By D_Wr_writeScale_7 rfl rfl (by decide) (Nat.le_of_ble_eq_true rfl) (Nat.le_of_eq (Nat.zero_add _)) (Nat.le_of_eq (Nat.zero_add _)) pic_len ?_
  rintro _ ⟨u1, g1, rfl, hB1⟩
  refine ⟨_, rfl, rfl, ?_⟩
  refine xr_aload_n D_Wr_writeScale_10 rfl rfl ?_
  refine xr_getf F_Wr_12 D_Wr_writeScale_11 rfl rfl ?_
  refine xr_ldc (v := 473628672) D_Wr_writeScale_14 K_Wr_155 ?_
  refine xr_iconst (v := 4) D_Wr_writeScale_16 rfl ?_
  refine xr_cVv (as := [_, _]) (w_addNumber 4 rfl (by decide) hB1) (L_Wr_143) (CD_By_addNumber) CI_By D_Wr_writeScale_17 rfl rfl (by decide) (Nat.le_of_ble_eq_true rfl) (Nat.le_of_eq (Nat.zero_add _)) (Nat.le_of_eq (Nat.zero_add _)) pic_len ?_
  rintro _ ⟨u2, g2, rfl, hB2⟩
  refine ⟨_, rfl, rfl, ?_⟩
  refine xr_aload_n D_Wr_writeScale_20 rfl rfl ?_
  refine xr_getf F_Wr_12 D_Wr_writeScale_21 rfl rfl ?_
  refine xr_sipush (v := 1000) D_Wr_writeScale_24 rfl ?_
  refine xr_iconst (v := 4) D_Wr_writeScale_27 rfl ?_
  refine xr_cVv (as := [_, _]) (w_addNumber 4 rfl (by decide) hB2) (L_Wr_143) (CD_By_addNumber) CI_By D_Wr_writeScale_28 rfl rfl (by decide) (Nat.le_of_ble_eq_true rfl) (Nat.le_of_eq (Nat.zero_add _)) (Nat.le_of_eq (Nat.zero_add _)) pic_len ?_
  rintro _ ⟨u3, g3, rfl, hB3⟩
  refine ⟨_, rfl, rfl, ?_⟩
  refine xr_vret rfl D_Wr_writeScale_31 ?_
  simp only [app_app, List.append_assoc] at hB3
  exact ⟨_, _, rfl, hB3⟩

theorem w_Wr_writeCharacter {I : mI} {A : mA} {L : mL} {u : Int32} {g : Nat → Int32} {B : List Int32} {c : Int32}  (hB : isB u g B) : xm m_Wr_writeCharacter (1, 21) [.ref 13, .int c] (pic (upd I 1401 u) (upAf A 15 g) L) 0 0 (pW I A L (app B (csel c))) := by
  refine xm_of rfl (by decide) (Nat.le_of_ble_eq_true rfl) ?_
  refine xr_iload_n D_Wr_writeCharacter_0 rfl rfl ?_
  refine xr_sipush (v := 128) D_Wr_writeCharacter_1 rfl ?_
  refine xr_icmp_lt (tgt := 17) D_Wr_writeCharacter_4 rfl (fun c1 => ?_) (fun c1 => ?_)
  · refine xr_aload_n D_Wr_writeCharacter_17 rfl rfl ?_
    refine xr_getf F_Wr_12 D_Wr_writeCharacter_18 rfl rfl ?_
    refine xr_iload_n D_Wr_writeCharacter_21 rfl rfl ?_
    refine xr_cVv (as := [_]) (w_add hB) (L_Wr_140) (CD_By_add) CI_By D_Wr_writeCharacter_22 rfl rfl (by decide) (Nat.le_of_ble_eq_true rfl) (Nat.le_of_eq (Nat.zero_add _)) (Nat.le_of_eq (Nat.zero_add _)) pic_len ?_
    rintro _ ⟨u1, g1, rfl, hB1⟩
    refine ⟨_, rfl, rfl, ?_⟩
    refine xr_vret rfl D_Wr_writeCharacter_25 ?_
    exact ⟨_, _, rfl, by unfold csel; rw [if_neg (by grind)]; exact hB1⟩
  · refine xr_aload_n D_Wr_writeCharacter_7 rfl rfl ?_
    refine xr_getf F_Wr_12 D_Wr_writeCharacter_8 rfl rfl ?_
    refine xr_sipush (v := 128) D_Wr_writeCharacter_11 rfl ?_
    refine xr_cVv (as := [_]) (w_add hB) (L_Wr_140) (CD_By_add) CI_By D_Wr_writeCharacter_14 rfl rfl (by decide) (Nat.le_of_ble_eq_true rfl) (Nat.le_of_eq (Nat.zero_add _)) (Nat.le_of_eq (Nat.zero_add _)) pic_len ?_
    rintro _ ⟨u2, g2, rfl, hB2⟩
    refine ⟨_, rfl, rfl, ?_⟩
    refine xr_aload_n D_Wr_writeCharacter_17 rfl rfl ?_
    refine xr_getf F_Wr_12 D_Wr_writeCharacter_18 rfl rfl ?_
    refine xr_iload_n D_Wr_writeCharacter_21 rfl rfl ?_
    refine xr_cVv (as := [_]) (w_add hB2) (L_Wr_140) (CD_By_add) CI_By D_Wr_writeCharacter_22 rfl rfl (by decide) (Nat.le_of_ble_eq_true rfl) (Nat.le_of_eq (Nat.zero_add _)) (Nat.le_of_eq (Nat.zero_add _)) pic_len ?_
    rintro _ ⟨u3, g3, rfl, hB3⟩
    refine ⟨_, rfl, rfl, ?_⟩
    refine xr_vret rfl D_Wr_writeCharacter_25 ?_
    simp only [app_app, List.append_assoc] at hB3
    exact ⟨_, _, rfl, by unfold csel; rw [if_pos (by grind)]; exact hB3⟩

theorem l_Fo_wd {I : mI} {A : mA} {L : mL} {f : Int32} (hf : 0 ≤ f ∧ f ≤ 255) (hl : A 9 f.toNatClampNeg ≤ 16) : ∀ (t j : Nat) (u : Int32) (g : Nat → Int32) (B : List Int32), (j : Int) + t = (A 9 f.toNatClampNeg).toInt → isB u g B → xr m_Fo_writeDefinition none (2, 44) 70 [some (.ref 3), some (.int f), some (.ref 14), some (.int (Int32.ofNat j))] [] (pic (upd I 1401 u) (upAf A 15 g) L) 0 0 (pW I A L (app B (lsB (L 7 f.toNatClampNeg) (L 8 f.toNatClampNeg) t j))) := by
  have hl9 := i_le.mp hl
  have e16 : (16 : Int32).toInt = 16 := rfl
  intro t
  induction t with
  | zero =>
    intro j u g B hj hB
    refine xr_iload_n D_Fo_writeDefinition_70 rfl rfl ?_
    refine xr_aload_n D_Fo_writeDefinition_71 rfl rfl ?_
    refine xr_getf F_Fo_28 D_Fo_writeDefinition_72 rfl rfl ?_
    refine xr_iload_n D_Fo_writeDefinition_75 rfl rfl ?_
    refine xr_iald D_Fo_writeDefinition_76 rfl (by exact i_in2 256 (by grind) (by grind) rfl) ?_
    refine xr_icmp_ge (tgt := 112) D_Fo_writeDefinition_77 rfl (fun c1 => ?_) (fun c1 => ?_)
    · refine xr_vret rfl D_Fo_writeDefinition_112 ?_
      exact ⟨u, g, rfl, by rw [show lsB (L 7 f.toNatClampNeg) (L 8 f.toNatClampNeg) 0 j = [] from rfl, app_nil hB.2.1]; exact hB⟩
    · exact absurd (show A 9 f.toNatClampNeg ≤ Int32.ofNat j from i_le.mpr (by rw [i_of (by omega)]; omega)) c1
  | succ t ih =>
    intro j u g B hj hB
    refine xr_iload_n D_Fo_writeDefinition_70 rfl rfl ?_
    refine xr_aload_n D_Fo_writeDefinition_71 rfl rfl ?_
    refine xr_getf F_Fo_28 D_Fo_writeDefinition_72 rfl rfl ?_
    refine xr_iload_n D_Fo_writeDefinition_75 rfl rfl ?_
    refine xr_iald D_Fo_writeDefinition_76 rfl (by exact i_in2 256 (by grind) (by grind) rfl) ?_
    refine xr_icmp_ge (tgt := 112) D_Fo_writeDefinition_77 rfl (fun c1 => ?_) (fun c1 => ?_)
    · exact absurd (show A 9 f.toNatClampNeg ≤ Int32.ofNat j from c1) (fun q => by rw [i_le, i_of (by omega)] at q; omega)
    · refine xr_iload_n D_Fo_writeDefinition_80 rfl rfl ?_
      refine xr_bipush (v := 16) D_Fo_writeDefinition_81 rfl ?_
      refine xr_icmp_ge (tgt := 112) D_Fo_writeDefinition_83 rfl (fun c2 => ?_) (fun c2 => ?_)
      · exact absurd c2 (fun q => by rw [i_le, i_of (by omega)] at q; omega)
      · refine xr_aload_n D_Fo_writeDefinition_86 rfl rfl ?_
        refine xr_aload_n D_Fo_writeDefinition_87 rfl rfl ?_
        refine xr_getf F_Fo_21 D_Fo_writeDefinition_88 rfl rfl ?_
        refine xr_iload_n D_Fo_writeDefinition_91 rfl rfl ?_
        refine xr_lald D_Fo_writeDefinition_92 rfl (by exact i_in2 256 (by grind) (by grind) rfl) ?_
        refine xr_aload_n D_Fo_writeDefinition_93 rfl rfl ?_
        refine xr_getf F_Fo_25 D_Fo_writeDefinition_94 rfl rfl ?_
        refine xr_iload_n D_Fo_writeDefinition_97 rfl rfl ?_
        refine xr_lald D_Fo_writeDefinition_98 rfl (by exact i_in2 256 (by grind) (by grind) rfl) ?_
        refine xr_iload_n D_Fo_writeDefinition_99 rfl rfl ?_
        refine xr_cSx (as := [_, _, _]) (c_Dv_letterOf) (L_Fo_45) (CD_Dv_letterOf) D_Fo_writeDefinition_100 rfl (by decide) (Nat.le_of_ble_eq_true rfl) (Nat.le_of_eq (Nat.zero_add _)) (Nat.le_of_eq (Nat.zero_add _)) pic_len ?_
        rintro _ rfl
        refine ⟨_, _, rfl, rfl, ?_⟩
        refine xr_cVv (as := [_]) (w_add hB) (L_Fo_35) (CD_By_add) CI_By D_Fo_writeDefinition_103 rfl rfl (by decide) (Nat.le_of_ble_eq_true rfl) (Nat.le_of_eq (Nat.zero_add _)) (Nat.le_of_eq (Nat.zero_add _)) pic_len ?_
        rintro _ ⟨u2, g2, rfl, hB2⟩
        refine ⟨_, rfl, rfl, ?_⟩
        refine xr_iinc (c9 := 1) D_Fo_writeDefinition_106 rfl rfl (by decide) ?_
        refine xr_goto (tgt := 70) D_Fo_writeDefinition_109 rfl ?_
        rw [io_succ]
        exact xr_mono (ih (j + 1) _ _ _ (by omega) hB2) pW_app

theorem w_Fo_writeDefinition {I : mI} {A : mA} {L : mL} {u : Int32} {g : Nat → Int32} {B : List Int32} {f : Int32} (hf : 0 ≤ f ∧ f ≤ 255) (h0 : 0 ≤ A 9 f.toNatClampNeg) (hl : A 9 f.toNatClampNeg ≤ 16) (hB : isB u g B) : xm m_Fo_writeDefinition (2, 44) [.ref 3, .int f, .ref 14] (pic (upd I 1401 u) (upAf A 15 g) L) 0 0 (pW I A L (app B (defC A L f))) := by
  refine xm_of rfl (by decide) (Nat.le_of_ble_eq_true rfl) ?_
  refine xr_iload_n D_Fo_writeDefinition_0 rfl rfl ?_
  refine xr_cSx (as := [_]) (c_Dv_isByte) (L_Fo_31) (CD_Dv_isByte) D_Fo_writeDefinition_1 rfl (by decide) (Nat.le_of_ble_eq_true rfl) (Nat.le_of_eq (Nat.zero_add _)) (Nat.le_of_eq (Nat.zero_add _)) pic_len ?_
  rintro _ rfl
  refine ⟨_, _, rfl, rfl, ?_⟩
  refine xr_if_ne (tgt := 8) D_Fo_writeDefinition_4 rfl (fun c1 => ?_) (fun c1 => ?_)
  · rw [b2_n] at c1
    refine xr_aload_n D_Fo_writeDefinition_8 rfl rfl ?_
    refine xr_sipush (v := 243) D_Fo_writeDefinition_9 rfl ?_
    refine xr_cVv (as := [_]) (w_add hB) (L_Fo_35) (CD_By_add) CI_By D_Fo_writeDefinition_12 rfl rfl (by decide) (Nat.le_of_ble_eq_true rfl) (Nat.le_of_eq (Nat.zero_add _)) (Nat.le_of_eq (Nat.zero_add _)) pic_len ?_
    rintro _ ⟨u2, g2, rfl, hB2⟩
    refine ⟨_, rfl, rfl, ?_⟩
    refine xr_aload_n D_Fo_writeDefinition_15 rfl rfl ?_
    refine xr_iload_n D_Fo_writeDefinition_16 rfl rfl ?_
    refine xr_cVv (as := [_]) (w_add hB2) (L_Fo_35) (CD_By_add) CI_By D_Fo_writeDefinition_17 rfl rfl (by decide) (Nat.le_of_ble_eq_true rfl) (Nat.le_of_eq (Nat.zero_add _)) (Nat.le_of_eq (Nat.zero_add _)) pic_len ?_
    rintro _ ⟨u3, g3, rfl, hB3⟩
    refine ⟨_, rfl, rfl, ?_⟩
    refine xr_aload_n D_Fo_writeDefinition_20 rfl rfl ?_
    refine xr_aload_n D_Fo_writeDefinition_21 rfl rfl ?_
    refine xr_getf F_Fo_9 D_Fo_writeDefinition_22 rfl rfl ?_
    refine xr_iload_n D_Fo_writeDefinition_25 rfl rfl ?_
    refine xr_iald D_Fo_writeDefinition_26 rfl (by exact i_in2 256 (by grind) (by grind) rfl) ?_
    refine xr_iconst (v := 4) D_Fo_writeDefinition_27 rfl ?_
    refine xr_cVv (as := [_, _]) (w_addNumber 4 rfl (by decide) hB3) (L_Fo_41) (CD_By_addNumber) CI_By D_Fo_writeDefinition_28 rfl rfl (by decide) (Nat.le_of_ble_eq_true rfl) (Nat.le_of_eq (Nat.zero_add _)) (Nat.le_of_eq (Nat.zero_add _)) pic_len ?_
    rintro _ ⟨u4, g4, rfl, hB4⟩
    refine ⟨_, rfl, rfl, ?_⟩
    refine xr_aload_n D_Fo_writeDefinition_31 rfl rfl ?_
    refine xr_aload_n D_Fo_writeDefinition_32 rfl rfl ?_
    refine xr_getf F_Fo_15 D_Fo_writeDefinition_33 rfl rfl ?_
    refine xr_iload_n D_Fo_writeDefinition_36 rfl rfl ?_
    refine xr_iald D_Fo_writeDefinition_37 rfl (by exact i_in2 256 (by grind) (by grind) rfl) ?_
    refine xr_iconst (v := 4) D_Fo_writeDefinition_38 rfl ?_
    refine xr_cVv (as := [_, _]) (w_addNumber 4 rfl (by decide) hB4) (L_Fo_41) (CD_By_addNumber) CI_By D_Fo_writeDefinition_39 rfl rfl (by decide) (Nat.le_of_ble_eq_true rfl) (Nat.le_of_eq (Nat.zero_add _)) (Nat.le_of_eq (Nat.zero_add _)) pic_len ?_
    rintro _ ⟨u5, g5, rfl, hB5⟩
    refine ⟨_, rfl, rfl, ?_⟩
    refine xr_aload_n D_Fo_writeDefinition_42 rfl rfl ?_
    refine xr_aload_n D_Fo_writeDefinition_43 rfl rfl ?_
    refine xr_getf F_Fo_18 D_Fo_writeDefinition_44 rfl rfl ?_
    refine xr_iload_n D_Fo_writeDefinition_47 rfl rfl ?_
    refine xr_iald D_Fo_writeDefinition_48 rfl (by exact i_in2 256 (by grind) (by grind) rfl) ?_
    refine xr_iconst (v := 4) D_Fo_writeDefinition_49 rfl ?_
    refine xr_cVv (as := [_, _]) (w_addNumber 4 rfl (by decide) hB5) (L_Fo_41) (CD_By_addNumber) CI_By D_Fo_writeDefinition_50 rfl rfl (by decide) (Nat.le_of_ble_eq_true rfl) (Nat.le_of_eq (Nat.zero_add _)) (Nat.le_of_eq (Nat.zero_add _)) pic_len ?_
    rintro _ ⟨u6, g6, rfl, hB6⟩
    refine ⟨_, rfl, rfl, ?_⟩
    refine xr_aload_n D_Fo_writeDefinition_53 rfl rfl ?_
    refine xr_iconst (v := 0) D_Fo_writeDefinition_54 rfl ?_
    refine xr_cVv (as := [_]) (w_add hB6) (L_Fo_35) (CD_By_add) CI_By D_Fo_writeDefinition_55 rfl rfl (by decide) (Nat.le_of_ble_eq_true rfl) (Nat.le_of_eq (Nat.zero_add _)) (Nat.le_of_eq (Nat.zero_add _)) pic_len ?_
    rintro _ ⟨u7, g7, rfl, hB7⟩
    refine ⟨_, rfl, rfl, ?_⟩
    refine xr_aload_n D_Fo_writeDefinition_58 rfl rfl ?_
    refine xr_aload_n D_Fo_writeDefinition_59 rfl rfl ?_
    refine xr_getf F_Fo_28 D_Fo_writeDefinition_60 rfl rfl ?_
    refine xr_iload_n D_Fo_writeDefinition_63 rfl rfl ?_
    refine xr_iald D_Fo_writeDefinition_64 rfl (by exact i_in2 256 (by grind) (by grind) rfl) ?_
    refine xr_cVv (as := [_]) (w_add hB7) (L_Fo_35) (CD_By_add) CI_By D_Fo_writeDefinition_65 rfl rfl (by decide) (Nat.le_of_ble_eq_true rfl) (Nat.le_of_eq (Nat.zero_add _)) (Nat.le_of_eq (Nat.zero_add _)) pic_len ?_
    rintro _ ⟨u8, g8, rfl, hB8⟩
    refine ⟨_, rfl, rfl, ?_⟩
    refine xr_iconst (v := 0) D_Fo_writeDefinition_68 rfl ?_
    refine xr_istore_n D_Fo_writeDefinition_69 rfl (by decide) ?_
    have g0 := i_le.mp h0
    rw [z0] at g0
    refine xr_mono (l_Fo_wd hf hl (A 9 f.toNatClampNeg).toInt.toNat 0 _ _ _ (by omega) hB8) ?_
    rintro _ ⟨u9, g9, rfl, h9⟩
    simp only [app_app, List.append_assoc] at h9
    exact ⟨_, _, rfl, h9⟩
  · rw [b2_0] at c1
    refine xr_vret rfl D_Fo_writeDefinition_7 ?_
    exfalso; grind

theorem l_Wr_ws {I : mI} {A : mA} {L : mL} (hn : I 1309 ≤ 255) : ∀ (t j : Nat) (u : Int32) (g : Nat → Int32) (B : List Int32), (j : Int) + t = (I 1309).toInt → isB u g B → xr m_Wr_writeStart none (3, 64) 46 [some (.ref 13), some (.int (Int32.ofNat j))] [] (pic (upd I 1401 u) (upAf A 15 g) L) 0 0 (pW I A L (app B (List.replicate t (I 1308 &&& 255)))) := by
  have hl9 := i_le.mp hn
  have e255 : (255 : Int32).toInt = 255 := rfl
  intro t
  induction t with
  | zero =>
    intro j u g B hj hB
    refine xr_iload_n D_Wr_writeStart_46 rfl rfl ?_
    refine xr_aload_n D_Wr_writeStart_47 rfl rfl ?_
    refine xr_getf F_Wr_68 D_Wr_writeStart_48 rfl rfl ?_
    refine xr_icmp_ge (tgt := 71) D_Wr_writeStart_51 rfl (fun c1 => ?_) (fun c1 => ?_)
    · refine xr_vret rfl D_Wr_writeStart_71 ?_
      exact ⟨u, g, rfl, by rw [List.replicate_zero, app_nil hB.2.1]; exact hB⟩
    · exact absurd (show I 1309 ≤ Int32.ofNat j from i_le.mpr (by rw [i_of (by omega)]; omega)) c1
  | succ t ih =>
    intro j u g B hj hB
    refine xr_iload_n D_Wr_writeStart_46 rfl rfl ?_
    refine xr_aload_n D_Wr_writeStart_47 rfl rfl ?_
    refine xr_getf F_Wr_68 D_Wr_writeStart_48 rfl rfl ?_
    refine xr_icmp_ge (tgt := 71) D_Wr_writeStart_51 rfl (fun c1 => ?_) (fun c1 => ?_)
    · exact absurd (show I 1309 ≤ Int32.ofNat j from c1) (fun q => by rw [i_le, i_of (by omega)] at q; omega)
    · refine xr_aload_n D_Wr_writeStart_54 rfl rfl ?_
      refine xr_getf F_Wr_12 D_Wr_writeStart_55 rfl rfl ?_
      refine xr_aload_n D_Wr_writeStart_58 rfl rfl ?_
      refine xr_getf F_Wr_65 D_Wr_writeStart_59 rfl rfl ?_
      refine xr_cVv (as := [_]) (w_add hB) (L_Wr_140) (CD_By_add) CI_By D_Wr_writeStart_62 rfl rfl (by decide) (Nat.le_of_ble_eq_true rfl) (Nat.le_of_eq (Nat.zero_add _)) (Nat.le_of_eq (Nat.zero_add _)) pic_len ?_
      rintro _ ⟨u1, g1, rfl, hB1⟩
      refine ⟨_, rfl, rfl, ?_⟩
      refine xr_iinc (c9 := 1) D_Wr_writeStart_65 rfl rfl (by decide) ?_
      refine xr_goto (tgt := 46) D_Wr_writeStart_68 rfl ?_
      rw [io_succ]
      exact xr_mono (ih (j + 1) _ _ _ (by omega) hB1) pW_app

theorem w_Wr_writeStart {I : mI} {A : mA} {L : mL} {u : Int32} {g : Nat → Int32} {B : List Int32}  (h0 : 0 ≤ I 1309) (hn : I 1309 ≤ 255) (hB : isB u g B) : xm m_Wr_writeStart (3, 64) [.ref 13] (pic (upd I 1401 u) (upAf A 15 g) L) 0 0 (pW I A L (if B = [] then app B (stB (I 1308) (I 1309)) else B)) := by
  refine xm_of rfl (by decide) (Nat.le_of_ble_eq_true rfl) ?_
  refine xr_aload_n D_Wr_writeStart_0 rfl rfl ?_
  refine xr_getf F_Wr_12 D_Wr_writeStart_1 rfl rfl ?_
  refine xr_cVx (as := []) (w_length) (L_Wr_136) (CD_By_length) CI_By D_Wr_writeStart_4 rfl rfl (by decide) (Nat.le_of_ble_eq_true rfl) (Nat.le_of_eq (Nat.zero_add _)) (Nat.le_of_eq (Nat.zero_add _)) pic_len ?_
  rintro _ rfl
  refine ⟨_, _, rfl, rfl, ?_⟩
  refine xr_if_le (tgt := 11) D_Wr_writeStart_7 rfl (fun c1 => ?_) (fun c1 => ?_)
  · refine xr_aload_n D_Wr_writeStart_11 rfl rfl ?_
    refine xr_getf F_Wr_12 D_Wr_writeStart_12 rfl rfl ?_
    refine xr_sipush (v := 247) D_Wr_writeStart_15 rfl ?_
    refine xr_cVv (as := [_]) (w_add hB) (L_Wr_140) (CD_By_add) CI_By D_Wr_writeStart_18 rfl rfl (by decide) (Nat.le_of_ble_eq_true rfl) (Nat.le_of_eq (Nat.zero_add _)) (Nat.le_of_eq (Nat.zero_add _)) pic_len ?_
    rintro _ ⟨u2, g2, rfl, hB2⟩
    refine ⟨_, rfl, rfl, ?_⟩
    refine xr_aload_n D_Wr_writeStart_21 rfl rfl ?_
    refine xr_getf F_Wr_12 D_Wr_writeStart_22 rfl rfl ?_
    refine xr_iconst (v := 2) D_Wr_writeStart_25 rfl ?_
    refine xr_cVv (as := [_]) (w_add hB2) (L_Wr_140) (CD_By_add) CI_By D_Wr_writeStart_26 rfl rfl (by decide) (Nat.le_of_ble_eq_true rfl) (Nat.le_of_eq (Nat.zero_add _)) (Nat.le_of_eq (Nat.zero_add _)) pic_len ?_
    rintro _ ⟨u3, g3, rfl, hB3⟩
    refine ⟨_, rfl, rfl, ?_⟩
    refine xr_aload_n D_Wr_writeStart_29 rfl rfl ?_
    refine xr_cVv (as := []) (w_Wr_writeScale hB3) (L_Wr_151) (CD_Wr_writeScale) CI_Wr D_Wr_writeStart_30 rfl rfl (by decide) (Nat.le_of_ble_eq_true rfl) (Nat.le_of_eq (Nat.zero_add _)) (Nat.le_of_eq (Nat.zero_add _)) pic_len ?_
    rintro _ ⟨u4, g4, rfl, hB4⟩
    refine ⟨_, rfl, rfl, ?_⟩
    refine xr_aload_n D_Wr_writeStart_33 rfl rfl ?_
    refine xr_getf F_Wr_12 D_Wr_writeStart_34 rfl rfl ?_
    refine xr_aload_n D_Wr_writeStart_37 rfl rfl ?_
    refine xr_getf F_Wr_68 D_Wr_writeStart_38 rfl rfl ?_
    refine xr_cVv (as := [_]) (w_add hB4) (L_Wr_140) (CD_By_add) CI_By D_Wr_writeStart_41 rfl rfl (by decide) (Nat.le_of_ble_eq_true rfl) (Nat.le_of_eq (Nat.zero_add _)) (Nat.le_of_eq (Nat.zero_add _)) pic_len ?_
    rintro _ ⟨u5, g5, rfl, hB5⟩
    refine ⟨_, rfl, rfl, ?_⟩
    refine xr_iconst (v := 0) D_Wr_writeStart_44 rfl ?_
    refine xr_istore_n D_Wr_writeStart_45 rfl (by decide) ?_
    have g0 := i_le.mp h0
    rw [z0] at g0
    have eB : B = [] := by
      have q := i_le.mp c1
      rw [hB.1, z0] at q
      exact List.eq_nil_of_length_eq_zero (by omega)
    refine xr_mono (l_Wr_ws hn (I 1309).toInt.toNat 0 _ _ _ (by omega) hB5) ?_
    rintro _ ⟨u9, g9, rfl, h9⟩
    simp only [app_app, List.append_assoc] at h9
    exact ⟨_, _, rfl, by rw [if_pos eB]; exact h9⟩
  · refine xr_vret rfl D_Wr_writeStart_10 ?_
    exact ⟨u, g, rfl, by rw [if_neg (fun e => c1 (i_le.mpr (by rw [hB.1, e, z0]; decide)))]; exact hB⟩

theorem w_Wr_remember {I : mI} {A : mA} {L : mL} {u : Int32} {g : Nat → Int32} {f : Int32} (hf : 0 ≤ f ∧ f ≤ 255) (h0 : 0 ≤ I 1307) (h1 : I 1307 < 256) : xm m_Wr_remember (1, 20) [.ref 13, .int f] (pic (upd I 1401 u) (upAf A 15 g) L) 0 0 (fun o => o = (.inl none, pic (upd (upd I 1307 (I 1307 + 1)) 1401 u) (upAf (upA (upA A 20 f.toNatClampNeg 1) 21 (I 1307).toNatClampNeg f) 15 g) L)) := by
  have e1 : ((.inl none, pic (upd (upd I 1401 u) 1307 (I 1307 + 1)) (upA (upA (upAf A 15 g) 20 f.toNatClampNeg 1) 21 (I 1307).toNatClampNeg f) L) : xO) = (.inl none, pic (upd (upd I 1307 (I 1307 + 1)) 1401 u) (upAf (upA (upA A 20 f.toNatClampNeg 1) 21 (I 1307).toNatClampNeg f) 15 g) L) := by rw [upd_comm (by decide), upA_upAf (by decide), upA_upAf (by decide)]
  refine xm_of rfl (by decide) (Nat.le_of_ble_eq_true rfl) ?_
  refine xr_iload_n D_Wr_remember_0 rfl rfl ?_
  refine xr_cSx (as := [_]) (c_Dv_isByte) (L_Wr_57) (CD_Dv_isByte) D_Wr_remember_1 rfl (by decide) (Nat.le_of_ble_eq_true rfl) (Nat.le_of_eq (Nat.zero_add _)) (Nat.le_of_eq (Nat.zero_add _)) pic_len ?_
  rintro _ rfl
  refine ⟨_, _, rfl, rfl, ?_⟩
  refine xr_if_eq (tgt := 53) D_Wr_remember_4 rfl (fun c1 => ?_) (fun c1 => ?_)
  · rw [b2_0] at c1
    refine xr_vret rfl D_Wr_remember_53 ?_
    first | exact e1 | (exfalso; grind [upd])
  · rw [b2_n] at c1
    refine xr_aload_n D_Wr_remember_7 rfl rfl ?_
    refine xr_getf F_Wr_80 D_Wr_remember_8 rfl rfl ?_
    refine xr_if_lt (tgt := 53) D_Wr_remember_11 rfl (fun c2 => ?_) (fun c2 => ?_)
    · refine xr_vret rfl D_Wr_remember_53 ?_
      first | exact e1 | (exfalso; grind [upd])
    · refine xr_aload_n D_Wr_remember_14 rfl rfl ?_
      refine xr_getf F_Wr_80 D_Wr_remember_15 rfl rfl ?_
      refine xr_aload_n D_Wr_remember_18 rfl rfl ?_
      refine xr_getf F_Wr_34 D_Wr_remember_19 rfl rfl ?_
      refine xr_alen (v := 256) D_Wr_remember_22 rfl (by simp [xtok]) rfl ?_
      refine xr_icmp_ge (tgt := 53) D_Wr_remember_23 rfl (fun c3 => ?_) (fun c3 => ?_)
      · refine xr_vret rfl D_Wr_remember_53 ?_
        first | exact e1 | (exfalso; grind [upd])
      · refine xr_aload_n D_Wr_remember_26 rfl rfl ?_
        refine xr_getf F_Wr_30 D_Wr_remember_27 rfl rfl ?_
        refine xr_iload_n D_Wr_remember_30 rfl rfl ?_
        refine xr_iconst (v := 1) D_Wr_remember_31 rfl ?_
        refine xr_zast D_Wr_remember_32 rfl (by exact i_in2 256 (by grind [upd]) (by grind [upd]) rfl) (aset_20) ?_
        refine xr_aload_n D_Wr_remember_33 rfl rfl ?_
        refine xr_getf F_Wr_34 D_Wr_remember_34 rfl rfl ?_
        refine xr_aload_n D_Wr_remember_37 rfl rfl ?_
        refine xr_getf F_Wr_80 D_Wr_remember_38 rfl rfl ?_
        refine xr_iload_n D_Wr_remember_41 rfl rfl ?_
        refine xr_iast D_Wr_remember_42 rfl (by exact i_in2 256 (by grind [upd]) (by grind [upd]) rfl) (aset_21) ?_
        refine xr_aload_n D_Wr_remember_43 rfl rfl ?_
        refine xr_dup D_Wr_remember_44 rfl ?_
        refine xr_getf F_Wr_80 D_Wr_remember_45 rfl rfl ?_
        refine xr_iconst (v := 1) D_Wr_remember_48 rfl ?_
        refine xr_iadd D_Wr_remember_49 ?_
        refine xr_putf F_Wr_80 FT_Wr FN_Wr_7 D_Wr_remember_50 rfl (Nat.le_of_ble_eq_true rfl) rfl rfl (pset_13_7) ?_
        refine xr_vret rfl D_Wr_remember_53 ?_
        first | exact e1 | (exfalso; grind [upd])

theorem w_Wr_writeFont {I : mI} {A : mA} {L : mL} {u : Int32} {g : Nat → Int32} {B : List Int32} {f : Int32} (hf : 0 ≤ f ∧ f ≤ 255) (ht : ¬ ((0 ≤ f ∧ f ≤ 255) ∧ ¬ A 20 f.toNatClampNeg = 0) → 0 ≤ I 1307 ∧ I 1307 < 256) (hl0 : 0 ≤ A 9 f.toNatClampNeg) (hl1 : A 9 f.toNatClampNeg ≤ 16) (hB : isB u g B) : xm m_Wr_writeFont (3, 67) [.ref 13, .int f] (pic (upd I 1401 u) (upAf A 15 g) L) 0 0 (fun o => (A 20 f.toNatClampNeg = 0 ∧ pW (upd I 1307 (I 1307 + 1)) (upA (upA A 20 f.toNatClampNeg 1) 21 (I 1307).toNatClampNeg f) L (app B (defC A L f ++ fsel f)) o) ∨ (¬ A 20 f.toNatClampNeg = 0 ∧ pW I A L (app B (fsel f)) o)) := by
  refine xm_of rfl (by decide) (Nat.le_of_ble_eq_true rfl) ?_
  refine xr_aload_n D_Wr_writeFont_0 rfl rfl ?_
  refine xr_iload_n D_Wr_writeFont_1 rfl rfl ?_
  refine xr_cVx (as := [_]) (w_hasTold) (L_Wr_169) (CD_Wr_hasTold) CI_Wr D_Wr_writeFont_2 rfl rfl (by decide) (Nat.le_of_ble_eq_true rfl) (Nat.le_of_eq (Nat.zero_add _)) (Nat.le_of_eq (Nat.zero_add _)) pic_len ?_
  rintro _ rfl
  refine ⟨_, _, rfl, rfl, ?_⟩
  refine xr_if_ne (tgt := 25) D_Wr_writeFont_5 rfl (fun c1 => ?_) (fun c1 => ?_)
  · rw [b2_n] at c1
    refine xr_iload_n D_Wr_writeFont_25 rfl rfl ?_
    refine xr_bipush (v := 64) D_Wr_writeFont_26 rfl ?_
    refine xr_icmp_ge (tgt := 46) D_Wr_writeFont_28 rfl (fun c2 => ?_) (fun c2 => ?_)
    · refine xr_aload_n D_Wr_writeFont_46 rfl rfl ?_
      refine xr_getf F_Wr_12 D_Wr_writeFont_47 rfl rfl ?_
      refine xr_sipush (v := 235) D_Wr_writeFont_50 rfl ?_
      refine xr_cVv (as := [_]) (w_add hB) (L_Wr_140) (CD_By_add) CI_By D_Wr_writeFont_53 rfl rfl (by decide) (Nat.le_of_ble_eq_true rfl) (Nat.le_of_eq (Nat.zero_add _)) (Nat.le_of_eq (Nat.zero_add _)) pic_len ?_
      rintro _ ⟨u2, g2, rfl, hB2⟩
      refine ⟨_, rfl, rfl, ?_⟩
      refine xr_aload_n D_Wr_writeFont_56 rfl rfl ?_
      refine xr_getf F_Wr_12 D_Wr_writeFont_57 rfl rfl ?_
      refine xr_iload_n D_Wr_writeFont_60 rfl rfl ?_
      refine xr_cVv (as := [_]) (w_add hB2) (L_Wr_140) (CD_By_add) CI_By D_Wr_writeFont_61 rfl rfl (by decide) (Nat.le_of_ble_eq_true rfl) (Nat.le_of_eq (Nat.zero_add _)) (Nat.le_of_eq (Nat.zero_add _)) pic_len ?_
      rintro _ ⟨u3, g3, rfl, hB3⟩
      refine ⟨_, rfl, rfl, ?_⟩
      refine xr_vret rfl D_Wr_writeFont_64 ?_
      simp only [app_app, List.append_assoc] at hB3
      first | exact Or.inl ⟨by grind, _, _, rfl, by unfold fsel; first | (rw [if_pos (by grind)]; exact hB3) | (rw [if_neg (by grind)]; exact hB3)⟩ | exact Or.inr ⟨by grind, _, _, rfl, by unfold fsel; first | (rw [if_pos (by grind)]; exact hB3) | (rw [if_neg (by grind)]; exact hB3)⟩
    · refine xr_aload_n D_Wr_writeFont_31 rfl rfl ?_
      refine xr_getf F_Wr_12 D_Wr_writeFont_32 rfl rfl ?_
      refine xr_sipush (v := 171) D_Wr_writeFont_35 rfl ?_
      refine xr_iload_n D_Wr_writeFont_38 rfl rfl ?_
      refine xr_iadd D_Wr_writeFont_39 ?_
      refine xr_cVv (as := [_]) (w_add hB) (L_Wr_140) (CD_By_add) CI_By D_Wr_writeFont_40 rfl rfl (by decide) (Nat.le_of_ble_eq_true rfl) (Nat.le_of_eq (Nat.zero_add _)) (Nat.le_of_eq (Nat.zero_add _)) pic_len ?_
      rintro _ ⟨u4, g4, rfl, hB4⟩
      refine ⟨_, rfl, rfl, ?_⟩
      refine xr_goto (tgt := 64) D_Wr_writeFont_43 rfl ?_
      refine xr_vret rfl D_Wr_writeFont_64 ?_
      first | exact Or.inl ⟨by grind, _, _, rfl, by unfold fsel; first | (rw [if_pos (by grind)]; exact hB4) | (rw [if_neg (by grind)]; exact hB4)⟩ | exact Or.inr ⟨by grind, _, _, rfl, by unfold fsel; first | (rw [if_pos (by grind)]; exact hB4) | (rw [if_neg (by grind)]; exact hB4)⟩
  · rw [b2_0] at c1
    refine xr_aload_n D_Wr_writeFont_8 rfl rfl ?_
    refine xr_getf F_Wr_42 D_Wr_writeFont_9 rfl rfl ?_
    refine xr_iload_n D_Wr_writeFont_12 rfl rfl ?_
    refine xr_aload_n D_Wr_writeFont_13 rfl rfl ?_
    refine xr_getf F_Wr_12 D_Wr_writeFont_14 rfl rfl ?_
    refine xr_cVv (as := [_, _]) (w_Fo_writeDefinition hf hl0 hl1 hB) (L_Wr_172) (CD_Fo_writeDefinition) CI_Fo D_Wr_writeFont_17 rfl rfl (by decide) (Nat.le_of_ble_eq_true rfl) (Nat.le_of_eq (Nat.zero_add _)) (Nat.le_of_eq (Nat.zero_add _)) pic_len ?_
    rintro _ ⟨u5, g5, rfl, hB5⟩
    refine ⟨_, rfl, rfl, ?_⟩
    refine xr_aload_n D_Wr_writeFont_20 rfl rfl ?_
    refine xr_iload_n D_Wr_writeFont_21 rfl rfl ?_
    refine xr_cVv (as := [_]) (w_Wr_remember hf (ht c1).1 (ht c1).2) (L_Wr_177) (CD_Wr_remember) CI_Wr D_Wr_writeFont_22 rfl rfl (by decide) (Nat.le_of_ble_eq_true rfl) (Nat.le_of_eq (Nat.zero_add _)) (Nat.le_of_eq (Nat.zero_add _)) pic_len ?_
    rintro _ rfl
    refine ⟨_, rfl, rfl, ?_⟩
    refine xr_iload_n D_Wr_writeFont_25 rfl rfl ?_
    refine xr_bipush (v := 64) D_Wr_writeFont_26 rfl ?_
    refine xr_icmp_ge (tgt := 46) D_Wr_writeFont_28 rfl (fun c2 => ?_) (fun c2 => ?_)
    · refine xr_aload_n D_Wr_writeFont_46 rfl rfl ?_
      refine xr_getf F_Wr_12 D_Wr_writeFont_47 rfl rfl ?_
      refine xr_sipush (v := 235) D_Wr_writeFont_50 rfl ?_
      refine xr_cVv (as := [_]) (w_add hB5) (L_Wr_140) (CD_By_add) CI_By D_Wr_writeFont_53 rfl rfl (by decide) (Nat.le_of_ble_eq_true rfl) (Nat.le_of_eq (Nat.zero_add _)) (Nat.le_of_eq (Nat.zero_add _)) pic_len ?_
      rintro _ ⟨u7, g7, rfl, hB7⟩
      refine ⟨_, rfl, rfl, ?_⟩
      refine xr_aload_n D_Wr_writeFont_56 rfl rfl ?_
      refine xr_getf F_Wr_12 D_Wr_writeFont_57 rfl rfl ?_
      refine xr_iload_n D_Wr_writeFont_60 rfl rfl ?_
      refine xr_cVv (as := [_]) (w_add hB7) (L_Wr_140) (CD_By_add) CI_By D_Wr_writeFont_61 rfl rfl (by decide) (Nat.le_of_ble_eq_true rfl) (Nat.le_of_eq (Nat.zero_add _)) (Nat.le_of_eq (Nat.zero_add _)) pic_len ?_
      rintro _ ⟨u8, g8, rfl, hB8⟩
      refine ⟨_, rfl, rfl, ?_⟩
      refine xr_vret rfl D_Wr_writeFont_64 ?_
      simp only [app_app, List.append_assoc] at hB8
      first | exact Or.inl ⟨by grind, _, _, rfl, by unfold fsel; first | (rw [if_pos (by grind)]; exact hB8) | (rw [if_neg (by grind)]; exact hB8)⟩ | exact Or.inr ⟨by grind, _, _, rfl, by unfold fsel; first | (rw [if_pos (by grind)]; exact hB8) | (rw [if_neg (by grind)]; exact hB8)⟩
    · refine xr_aload_n D_Wr_writeFont_31 rfl rfl ?_
      refine xr_getf F_Wr_12 D_Wr_writeFont_32 rfl rfl ?_
      refine xr_sipush (v := 171) D_Wr_writeFont_35 rfl ?_
      refine xr_iload_n D_Wr_writeFont_38 rfl rfl ?_
      refine xr_iadd D_Wr_writeFont_39 ?_
      refine xr_cVv (as := [_]) (w_add hB5) (L_Wr_140) (CD_By_add) CI_By D_Wr_writeFont_40 rfl rfl (by decide) (Nat.le_of_ble_eq_true rfl) (Nat.le_of_eq (Nat.zero_add _)) (Nat.le_of_eq (Nat.zero_add _)) pic_len ?_
      rintro _ ⟨u9, g9, rfl, hB9⟩
      refine ⟨_, rfl, rfl, ?_⟩
      refine xr_goto (tgt := 64) D_Wr_writeFont_43 rfl ?_
      refine xr_vret rfl D_Wr_writeFont_64 ?_
      simp only [app_app, List.append_assoc] at hB9
      first | exact Or.inl ⟨by grind, _, _, rfl, by unfold fsel; first | (rw [if_pos (by grind)]; exact hB9) | (rw [if_neg (by grind)]; exact hB9)⟩ | exact Or.inr ⟨by grind, _, _, rfl, by unfold fsel; first | (rw [if_pos (by grind)]; exact hB9) | (rw [if_neg (by grind)]; exact hB9)⟩
