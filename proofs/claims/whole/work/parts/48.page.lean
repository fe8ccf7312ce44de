theorem clr_0 {t : Nat → Int32} {x : Nat} : ∀ (n s : Nat) (g : Nat → Int32), g x = 0 → clr g t n s x = 0 := by
  intro n
  induction n with
  | zero => intro s g h; exact h
  | succ n ih =>
    intro s g h
    refine ih (s + 1) _ ?_
    unfold upd
    split
    · rfl
    · exact h
theorem clr_z {t : Nat → Int32} {x : Nat} : ∀ (n s : Nat) (g : Nat → Int32), (∃ i, s ≤ i ∧ i < s + n ∧ (t i).toNatClampNeg = x) → clr g t n s x = 0 := by
  intro n
  induction n with
  | zero => rintro s g ⟨i, h1, h2, _⟩; omega
  | succ n ih =>
    rintro s g ⟨i, h1, h2, h3⟩
    by_cases e : i = s
    · subst e
      refine clr_0 n (i + 1) _ ?_
      rw [h3, upd_s]
    · exact ih (s + 1) _ ⟨i, by omega, by omega, h3⟩
theorem clr_n {t : Nat → Int32} {x : Nat} : ∀ (n s : Nat) (g : Nat → Int32), (∀ i, s ≤ i → i < s + n → (t i).toNatClampNeg ≠ x) → clr g t n s x = g x := by
  intro n
  induction n with
  | zero => intro s g _; rfl
  | succ n ih =>
    intro s g h
    have h1 := ih (s + 1) (upd g (t s).toNatClampNeg 0) (fun i a b => h i (by omega) (by omega))
    have h2 := h s (by omega) (by omega)
    exact h1.trans (upd_n (fun e => h2 e.symm))
theorem isT_cut {n k : Int32} {fl od : Nat → Int32} {T E : List Int32} (h : isT n fl od (T ++ E)) (hk : k.toInt = T.length) : isT k (clr fl od (n.toInt - k.toInt).toNat k.toInt.toNat) od T := by
  obtain ⟨h1, h2, h3, h4, h5⟩ := h
  rw [List.length_append] at h1
  have hn := List.nodup_append.mp h2
  refine ⟨hk, hn.1, fun i x hx => h3 i x ?_, fun x hx => h4 x (List.mem_append.mpr (Or.inl hx)), fun x q0 q1 => ?_⟩
  · rw [List.getElem?_append_left (List.getElem?_eq_some_iff.mp hx).1]; exact hx
  · have h6 := h5 x q0 q1
    rw [List.mem_append] at h6
    by_cases hE : x ∈ E
    · obtain ⟨i, hi, e⟩ := List.getElem_of_mem hE
      have h7 : od (T.length + i) = x := h3 _ _ (by rw [List.getElem?_append_right (by omega), Nat.add_sub_cancel_left, List.getElem?_eq_getElem hi, e])
      rw [clr_z _ _ _ ⟨T.length + i, by omega, by omega, by rw [h7]⟩]
      exact ⟨fun q => absurd rfl q, fun q => absurd rfl (hn.2.2 x q x hE)⟩
    · rw [clr_n _ _ _ (fun i a b e => ?_)]
      · exact ⟨fun q => (h6.mp q).resolve_right hE, fun q => h6.mpr (Or.inl q)⟩
      · have hi : i < (T ++ E).length := by rw [List.length_append]; omega
        have h7 := h3 i _ (List.getElem?_eq_getElem hi)
        have h8 : (T ++ E)[i] ∈ E := by
          rw [List.getElem_append_right (by omega)]
          exact List.getElem_mem _
        have h9 := h4 _ (List.getElem_mem hi)
        rw [h7] at e
        rw [cl_inj h9.1 q0 e] at h8
        exact hE h8
theorem pgR_ext {dn rt : Nat → Int32} {cd cr : Nat → Int32 → Bool} {F C H : Nat → Int32} {D : Int32 → List Int32} : ∀ (t k : Nat) (a b c d hd : Int32) (T : List Int32), ∃ E, (pgR dn rt cd cr F C H D t k a b c d hd T).2 = T ++ E := by
  intro t
  induction t with
  | zero => intro k a b c d hd T; exact ⟨[], (List.append_nil _).symm⟩
  | succ t ih =>
    intro k a b c d hd T
    by_cases hF : F k = -1
    · rw [pgR_r hF]
      exact ih _ _ _ _ _ _ _
    · rw [pgR_c hF]
      obtain ⟨E, hE⟩ := ih (k + 1) (mvS 157 (dn k) a b (cd k)).2.1 (mvS 157 (dn k) a b (cd k)).2.2 (mvS 143 (rt k) c d (cr k)).2.1 (mvS 143 (rt k) c d (cr k)).2.2 (F k) (fnS D hd T (F k)).2
      have hx : ∃ X, (fnS D hd T (F k)).2 = T ++ X := by
        unfold fnS
        split
        · exact ⟨[], (List.append_nil _).symm⟩
        · split
          · exact ⟨[], (List.append_nil _).symm⟩
          · exact ⟨[F k], rfl⟩
      obtain ⟨X, hX⟩ := hx
      exact ⟨X ++ E, by rw [hE, hX, List.append_assoc]⟩
theorem app_tk {B xs : List Int32} (h : B.length ≤ 70000) : (app B xs).take B.length = B := by
  unfold app
  rw [List.take_take, Nat.min_eq_left h, List.take_append_of_le_length (Nat.le_refl _), List.take_length]
def stW (B : List Int32) (c n : Int32) : List Int32 := if B = [] then app B (stB c n) else B
theorem stW_tk {B xs : List Int32} {c n : Int32} (h : B.length ≤ 70000) : (app (stW B c n) xs).take B.length = B := by
  unfold stW
  split
  · next e => rw [e]; rfl
  · exact app_tk h
def cntB (f : Nat → Int32) : Nat → Nat → List Int32
  | 0, _ => []
  | t + 1, j => numB (f j) 4 ++ cntB f t (j + 1)
def pgY (f : Nat → Int32) (lp : Int32) (pb : List Int32) : List Int32 := (139 &&& 255) :: (cntB f 10 0 ++ (numB lp 4 ++ ((141 &&& 255) :: (pb ++ [142 &&& 255, 140 &&& 255]))))
theorem bk_ok {u u' n n' : Int32} {g g' fl od fl' od' : Nat → Int32} {B B' T E : List Int32} (hB : isB u g B) (hT : isT n fl od T) (hB' : isB u' g' B') (hp : B'.take B.length = B) (hT' : isT n' fl' od' (T ++ E)) : (0 ≤ u ∧ u ≤ u' ∧ 0 ≤ n ∧ n ≤ n' ∧ n' ≤ 256 ∧ ∀ j : Nat, (j : Int) < n'.toInt → 0 ≤ od' j ∧ od' j ≤ 255) ∧ isB u g' B ∧ isT n (clr fl' od' (n'.toInt - n.toInt).toNat n.toInt.toNat) od' T := by
  have q1 := hB.1
  have q2 := hB'.1
  have q3 := hT.1
  have q4 := hT'.1
  rw [List.length_append] at q4
  have q5 : B.length ≤ B'.length := by
    have := congrArg List.length hp
    rw [List.length_take] at this
    omega
  have h0 : 0 ≤ u := i_le.mpr (by rw [z0]; omega)
  have h1 : u ≤ u' := i_le.mpr (by omega)
  have q6 := nd_len hT'.2.1 hT'.2.2.2.1
  rw [List.length_append] at q6
  refine ⟨⟨h0, h1, i_le.mpr (by rw [z0]; omega), i_le.mpr (by omega), i_le.mpr (by rw [show (256 : Int32).toInt = 256 from rfl]; omega), fun j hj => ?_⟩, ?_, isT_cut hT' q3⟩
  · have hl : j < (T ++ E).length := by rw [List.length_append]; omega
    rw [hT'.2.2.1 j _ (List.getElem?_eq_getElem hl)]
    exact hT'.2.2.2.1 _ (List.getElem_mem hl)
  · have := isB_cut hB' h0 h1
    rw [i_cl, q1, Int.toNat_natCast, hp] at this
    exact this
def wpE (I : mI) (A : mA) (L : mL) (B T B1 B2 T2 : List Int32) : xO → Prop := fun o =>
  (60000 < B2.length ∧ ∃ I' A', o = (.inl (some (.int 0)), pic I' A' L) ∧ frI [1401, 1603, 1604, 1803, 1804, 1307] I I' ∧ frA [15, 20, 21] A A' ∧ isB (I' 1401) (A' 15) B ∧ isT (I' 1307) (A' 20) (A' 21) T) ∨
  (B2.length ≤ 60000 ∧ ∃ I' A', o = (.inl (some (.int 1)), pic I' A' L) ∧ frI [1401, 1603, 1604, 1803, 1804, 1307, 1311, 1312, 1313, 1314] I I' ∧ frA [15, 20, 21] A A' ∧ isB (I' 1401) (A' 15) B2 ∧ isT (I' 1307) (A' 20) (A' 21) T2 ∧ (I' 1312).toInt = B1.length ∧ I' 1311 = I 1311 + 1 ∧ I' 1313 = I 1315 ∧ I' 1314 = I 1316)

theorem l_Wr_wp {L : mL} {l3 l4 l5 : Int32} {Q : xO → Prop} : ∀ (t j : Nat) (I : mI) (A : mA) (B : List Int32), j + t = 10 → isB (I 1401) (A 15) B → (∀ I' A', frI [1401] I I' → frA [15] A A' → isB (I' 1401) (A' 15) (app B (cntB (A 10) t j)) → xr m_Wr_writePage none (5, 113) 65 [some (.ref 13), some (.ref 11), some (.ref 10), some (.int l3), some (.int l4), some (.int l5), some (.int (Int32.ofNat 10))] [] (pic I' A' L) 0 0 Q) → xr m_Wr_writePage none (5, 113) 40 [some (.ref 13), some (.ref 11), some (.ref 10), some (.int l3), some (.int l4), some (.int l5), some (.int (Int32.ofNat j))] [] (pic I A L) 0 0 Q := by
  have e10 : (10 : Int32).toInt = 10 := rfl
  intro t
  induction t with
  | zero =>
    intro j I A B hj hB K
    have hj : j = 10 := by omega
    subst hj
    refine xr_iload D_Wr_writePage_40 rfl ?_
    refine xr_aload_n D_Wr_writePage_42 rfl rfl ?_
    refine xr_alen (v := 10) D_Wr_writePage_43 rfl (by simp [xtok]) rfl ?_
    refine xr_icmp_ge (tgt := 65) D_Wr_writePage_44 rfl (fun c1 => ?_) (fun c1 => ?_)
    · exact K I A frI_rf frA_rf (by rw [show cntB (A 10) 0 10 = [] from rfl, app_nil hB.2.1]; exact hB)
    · exact absurd (show (10 : Int32) ≤ Int32.ofNat 10 by decide) c1
  | succ t ih =>
    intro j I A B hj hB K
    have hj1 : Int32.ofNat j < 10 := i_lt.mpr (by rw [i_of (by omega), e10]; omega)
    have hj0 : 0 ≤ Int32.ofNat j := i_le.mpr (by rw [i_of (by omega), z0]; omega)
    have ej : (Int32.ofNat j).toNatClampNeg = j := by rw [i_cl, i_of (by omega)]; omega
    have f0 : frI [1401, 1603, 1604, 1803, 1804, 1307] I I := frI_rf
    have a0 : frA [15, 20, 21] A A := frA_rf
    refine xr_iload D_Wr_writePage_40 rfl ?_
    refine xr_aload_n D_Wr_writePage_42 rfl rfl ?_
    refine xr_alen (v := 10) D_Wr_writePage_43 rfl (by simp [xtok]) rfl ?_
    refine xr_icmp_ge (tgt := 65) D_Wr_writePage_44 rfl (fun c1 => ?_) (fun c1 => ?_)
    · exact absurd c1 (by grind)
    · refine xr_aload_n D_Wr_writePage_47 rfl rfl ?_
      refine xr_getf F_Wr_12 D_Wr_writePage_48 rfl rfl ?_
      refine xr_aload_n D_Wr_writePage_51 rfl rfl ?_
      refine xr_iload D_Wr_writePage_52 rfl ?_
      refine xr_iald D_Wr_writePage_54 rfl (by exact i_in2 10 (by grind) (by grind) rfl) ?_
      refine xr_iconst (v := 4) D_Wr_writePage_55 rfl ?_
      refine xr_cVv (as := [_, _]) (c_By_addNumber_14 4 rfl (by decide) hB) (L_Wr_143) (CD_By_addNumber) CI_By D_Wr_writePage_56 rfl rfl (by decide) (Nat.le_of_ble_eq_true rfl) (Nat.le_of_eq (Nat.zero_add _)) (Nat.le_of_eq (Nat.zero_add _)) pic_len ?_
      rintro _ ⟨I1, A1, rfl, hI1, hA1, hB1⟩
      refine ⟨_, rfl, pic_leq, ?_⟩
      refine xr_iinc (c9 := 1) D_Wr_writePage_59 rfl rfl (by decide) ?_
      refine xr_goto (tgt := 40) D_Wr_writePage_62 rfl ?_
      rw [io_succ]
      rw [ej] at hB1
      refine ih (j + 1) _ _ _ (by omega) hB1 (fun I9 A9 q1 q2 q3 => K I9 A9 (frI_tr hI1 q1 (fun _ h => h) (fun _ h => h)) (frA_tr hA1 q2 (fun _ h => h) (fun _ h => h)) ?_)
      rw [app_app, hA1 10 (by decide)] at q3
      exact q3

set_option maxHeartbeats 2000000 in
theorem c_Wr_writePage_13 {I : mI} {A : mA} {L : mL} {m : Int32} {f rt dn : Nat → Int32} {D : Int32 → List Int32} {n : Nat} {B T : List Int32} (hn : n ≤ 500) (hmn : m.toInt = (n : Int)) (hF : ∀ k, k < n → sPart m f (Int32.ofNat k) 0 = -1 ∨ (0 ≤ sPart m f (Int32.ofNat k) 0 ∧ sPart m f (Int32.ofNat k) 0 ≤ 255)) (w0 : wmI I A L m f rt dn D) (hs0 : 0 ≤ I 1309) (hs1 : I 1309 ≤ 255) (hB : isB (I 1401) (A 15) B) (hT : isT (I 1307) (A 20) (A 21) T) : xm m_Wr_writePage (5, 113) [.ref 13, .ref 11, .ref 10] (pic I A L) 0 0 (wpE I A L B T (stW B (I 1308) (I 1309)) (app (stW B (I 1308) (I 1309)) (pgY (A 10) (I 1312) (pgR dn rt (cmK m dn) (cmK m rt) (fun k => sPart m f (Int32.ofNat k) 0) (fun k => sPart m f (Int32.ofNat k) 1) (fun k => sPart m f (Int32.ofNat k) 2) D n 0 (I 1803) (I 1804) (I 1603) (I 1604) (-1) T).1)) (pgR dn rt (cmK m dn) (cmK m rt) (fun k => sPart m f (Int32.ofNat k) 0) (fun k => sPart m f (Int32.ofNat k) 1) (fun k => sPart m f (Int32.ofNat k) 2) D n 0 (I 1803) (I 1804) (I 1603) (I 1604) (-1) T).2) := by
  have f0 : frI [1401, 1603, 1604, 1803, 1804, 1307] I I := frI_rf
  have a0 : frA [15, 20, 21] A A := frA_rf
  have t0 := hT
  have p0 : I 1803 = I 1803 ∧ I 1804 = I 1804 ∧ I 1603 = I 1603 ∧ I 1604 = I 1604 := ⟨rfl, rfl, rfl, rfl⟩
  refine xm_of rfl (by decide) (Nat.le_of_ble_eq_true rfl) ?_
  refine xr_aload_n D_Wr_writePage_0 rfl rfl ?_
  refine xr_getf F_Wr_12 D_Wr_writePage_1 rfl rfl ?_
  refine xr_cVx (as := []) (c_By_length_14) (L_Wr_136) (CD_By_length) CI_By D_Wr_writePage_4 rfl rfl (by decide) (Nat.le_of_ble_eq_true rfl) (Nat.le_of_eq (Nat.zero_add _)) (Nat.le_of_eq (Nat.zero_add _)) pic_len ?_
  rintro _ rfl
  refine ⟨_, _, rfl, pic_leq, ?_⟩
  refine xr_istore_n D_Wr_writePage_7 rfl (by decide) ?_
  refine xr_aload_n D_Wr_writePage_8 rfl rfl ?_
  refine xr_getf F_Wr_80 D_Wr_writePage_9 rfl rfl ?_
  refine xr_istore D_Wr_writePage_12 (by decide) ?_
  refine xr_aload_n D_Wr_writePage_14 rfl rfl ?_
  refine xr_cVv (as := []) (n_Wr_writeStart hs0 hs1 hB) (L_Wr_137) (CD_Wr_writeStart) CI_Wr D_Wr_writePage_15 rfl rfl (by decide) (Nat.le_of_ble_eq_true rfl) (Nat.le_of_eq (Nat.zero_add _)) (Nat.le_of_eq (Nat.zero_add _)) pic_len ?_
  rintro _ ⟨I2, A2, rfl, hI2, hA2, hB2⟩
  refine ⟨_, rfl, pic_leq, ?_⟩
  have f2 := fI_t f0 hI2 (by decide)
  have a2 := fA_t a0 hA2 (by decide)
  have t2 : isT (I2 1307) (A2 20) (A2 21) T := by rw [hI2 1307 (by decide), hA2 20 (by decide), hA2 21 (by decide)]; exact t0
  have p2 : I2 1803 = I 1803 ∧ I2 1804 = I 1804 ∧ I2 1603 = I 1603 ∧ I2 1604 = I 1604 := ⟨(hI2 1803 (by decide)).trans p0.1, (hI2 1804 (by decide)).trans p0.2.1, (hI2 1603 (by decide)).trans p0.2.2.1, (hI2 1604 (by decide)).trans p0.2.2.2⟩
  refine xr_aload_n D_Wr_writePage_18 rfl rfl ?_
  refine xr_getf F_Wr_12 D_Wr_writePage_19 rfl rfl ?_
  refine xr_cVx (as := []) (c_By_length_14) (L_Wr_136) (CD_By_length) CI_By D_Wr_writePage_22 rfl rfl (by decide) (Nat.le_of_ble_eq_true rfl) (Nat.le_of_eq (Nat.zero_add _)) (Nat.le_of_eq (Nat.zero_add _)) pic_len ?_
  rintro _ rfl
  refine ⟨_, _, rfl, pic_leq, ?_⟩
  refine xr_istore D_Wr_writePage_25 (by decide) ?_
  refine xr_aload_n D_Wr_writePage_27 rfl rfl ?_
  refine xr_getf F_Wr_12 D_Wr_writePage_28 rfl rfl ?_
  refine xr_sipush (v := 139) D_Wr_writePage_31 rfl ?_
  refine xr_cVv (as := [_]) (c_By_add_14 hB2) (L_Wr_140) (CD_By_add) CI_By D_Wr_writePage_34 rfl rfl (by decide) (Nat.le_of_ble_eq_true rfl) (Nat.le_of_eq (Nat.zero_add _)) (Nat.le_of_eq (Nat.zero_add _)) pic_len ?_
  rintro _ ⟨I4, A4, rfl, hI4, hA4, hB4⟩
  refine ⟨_, rfl, pic_leq, ?_⟩
  have f4 := fI_t f2 hI4 (by decide)
  have a4 := fA_t a2 hA4 (by decide)
  have t4 : isT (I4 1307) (A4 20) (A4 21) T := by rw [hI4 1307 (by decide), hA4 20 (by decide), hA4 21 (by decide)]; exact t2
  have p4 : I4 1803 = I 1803 ∧ I4 1804 = I 1804 ∧ I4 1603 = I 1603 ∧ I4 1604 = I 1604 := ⟨(hI4 1803 (by decide)).trans p2.1, (hI4 1804 (by decide)).trans p2.2.1, (hI4 1603 (by decide)).trans p2.2.2.1, (hI4 1604 (by decide)).trans p2.2.2.2⟩
  refine xr_iconst (v := 0) D_Wr_writePage_37 rfl ?_
  refine xr_istore D_Wr_writePage_38 (by decide) ?_
  refine l_Wr_wp 10 0 _ _ _ rfl hB4 ?_
  intro I90 A90 hI90 hA90 hB90
  have f90 := fI_t f4 hI90 (by decide)
  have a90 := fA_t a4 hA90 (by decide)
  have t90 : isT (I90 1307) (A90 20) (A90 21) T := by rw [hI90 1307 (by decide), hA90 20 (by decide), hA90 21 (by decide)]; exact t4
  have p90 : I90 1803 = I 1803 ∧ I90 1804 = I 1804 ∧ I90 1603 = I 1603 ∧ I90 1604 = I 1604 := ⟨(hI90 1803 (by decide)).trans p4.1, (hI90 1804 (by decide)).trans p4.2.1, (hI90 1603 (by decide)).trans p4.2.2.1, (hI90 1604 (by decide)).trans p4.2.2.2⟩
  rw [a4 10 (by decide)] at hB90
  refine xr_aload_n D_Wr_writePage_65 rfl rfl ?_
  refine xr_getf F_Wr_12 D_Wr_writePage_66 rfl rfl ?_
  refine xr_aload_n D_Wr_writePage_69 rfl rfl ?_
  refine xr_getf F_Wr_38 D_Wr_writePage_70 rfl rfl ?_
  refine xr_iconst (v := 4) D_Wr_writePage_73 rfl ?_
  refine xr_cVv (as := [_, _]) (c_By_addNumber_14 4 rfl (by decide) hB90) (L_Wr_143) (CD_By_addNumber) CI_By D_Wr_writePage_74 rfl rfl (by decide) (Nat.le_of_ble_eq_true rfl) (Nat.le_of_eq (Nat.zero_add _)) (Nat.le_of_eq (Nat.zero_add _)) pic_len ?_
  rintro _ ⟨I5, A5, rfl, hI5, hA5, hB5⟩
  refine ⟨_, rfl, pic_leq, ?_⟩
  have f5 := fI_t f90 hI5 (by decide)
  have a5 := fA_t a90 hA5 (by decide)
  have t5 : isT (I5 1307) (A5 20) (A5 21) T := by rw [hI5 1307 (by decide), hA5 20 (by decide), hA5 21 (by decide)]; exact t90
  have p5 : I5 1803 = I 1803 ∧ I5 1804 = I 1804 ∧ I5 1603 = I 1603 ∧ I5 1604 = I 1604 := ⟨(hI5 1803 (by decide)).trans p90.1, (hI5 1804 (by decide)).trans p90.2.1, (hI5 1603 (by decide)).trans p90.2.2.1, (hI5 1604 (by decide)).trans p90.2.2.2⟩
  refine xr_aload_n D_Wr_writePage_77 rfl rfl ?_
  refine xr_getf F_Wr_12 D_Wr_writePage_78 rfl rfl ?_
  refine xr_sipush (v := 141) D_Wr_writePage_81 rfl ?_
  refine xr_cVv (as := [_]) (c_By_add_14 hB5) (L_Wr_140) (CD_By_add) CI_By D_Wr_writePage_84 rfl rfl (by decide) (Nat.le_of_ble_eq_true rfl) (Nat.le_of_eq (Nat.zero_add _)) (Nat.le_of_eq (Nat.zero_add _)) pic_len ?_
  rintro _ ⟨I6, A6, rfl, hI6, hA6, hB6⟩
  refine ⟨_, rfl, pic_leq, ?_⟩
  have f6 := fI_t f5 hI6 (by decide)
  have a6 := fA_t a5 hA6 (by decide)
  have t6 : isT (I6 1307) (A6 20) (A6 21) T := by rw [hI6 1307 (by decide), hA6 20 (by decide), hA6 21 (by decide)]; exact t5
  have p6 : I6 1803 = I 1803 ∧ I6 1804 = I 1804 ∧ I6 1603 = I 1603 ∧ I6 1604 = I 1604 := ⟨(hI6 1803 (by decide)).trans p5.1, (hI6 1804 (by decide)).trans p5.2.1, (hI6 1603 (by decide)).trans p5.2.2.1, (hI6 1604 (by decide)).trans p5.2.2.2⟩
  refine xr_aload_n D_Wr_writePage_87 rfl rfl ?_
  refine xr_aload_n D_Wr_writePage_88 rfl rfl ?_
  refine xr_cVv (as := [_]) (c_Wr_writeMarks_13 hn hmn hF (wmI_fr w0 f6 a6) hB6 t6) (L_Wr_146) (CD_Wr_writeMarks) CI_Wr D_Wr_writePage_89 rfl rfl (by decide) (Nat.le_of_ble_eq_true rfl) (Nat.le_of_eq (Nat.zero_add _)) (Nat.le_of_eq (Nat.zero_add _)) pic_len ?_
  rintro _ ⟨I7, A7, rfl, hI7, hA7, hB7, t7⟩
  refine ⟨_, rfl, pic_leq, ?_⟩
  have f7 := fI_t f6 hI7 (by decide)
  have a7 := fA_t a6 hA7 (by decide)
  rw [p6.1, p6.2.1, p6.2.2.1, p6.2.2.2] at t7 hB7
  refine xr_aload_n D_Wr_writePage_92 rfl rfl ?_
  refine xr_getf F_Wr_12 D_Wr_writePage_93 rfl rfl ?_
  refine xr_sipush (v := 142) D_Wr_writePage_96 rfl ?_
  refine xr_cVv (as := [_]) (c_By_add_14 hB7) (L_Wr_140) (CD_By_add) CI_By D_Wr_writePage_99 rfl rfl (by decide) (Nat.le_of_ble_eq_true rfl) (Nat.le_of_eq (Nat.zero_add _)) (Nat.le_of_eq (Nat.zero_add _)) pic_len ?_
  rintro _ ⟨I8, A8, rfl, hI8, hA8, hB8⟩
  refine ⟨_, rfl, pic_leq, ?_⟩
  have f8 := fI_t f7 hI8 (by decide)
  have a8 := fA_t a7 hA8 (by decide)
  have t8 : isT (I8 1307) (A8 20) (A8 21) (pgR dn rt (cmK m dn) (cmK m rt) (fun k => sPart m f (Int32.ofNat k) 0) (fun k => sPart m f (Int32.ofNat k) 1) (fun k => sPart m f (Int32.ofNat k) 2) D n 0 (I 1803) (I 1804) (I 1603) (I 1604) (-1) T).2 := by rw [hI8 1307 (by decide), hA8 20 (by decide), hA8 21 (by decide)]; exact t7
  refine xr_aload_n D_Wr_writePage_102 rfl rfl ?_
  refine xr_getf F_Wr_12 D_Wr_writePage_103 rfl rfl ?_
  refine xr_sipush (v := 140) D_Wr_writePage_106 rfl ?_
  refine xr_cVv (as := [_]) (c_By_add_14 hB8) (L_Wr_140) (CD_By_add) CI_By D_Wr_writePage_109 rfl rfl (by decide) (Nat.le_of_ble_eq_true rfl) (Nat.le_of_eq (Nat.zero_add _)) (Nat.le_of_eq (Nat.zero_add _)) pic_len ?_
  rintro _ ⟨I9, A9, rfl, hI9, hA9, hB9⟩
  refine ⟨_, rfl, pic_leq, ?_⟩
  have f9 := fI_t f8 hI9 (by decide)
  have a9 := fA_t a8 hA9 (by decide)
  have t9 : isT (I9 1307) (A9 20) (A9 21) (pgR dn rt (cmK m dn) (cmK m rt) (fun k => sPart m f (Int32.ofNat k) 0) (fun k => sPart m f (Int32.ofNat k) 1) (fun k => sPart m f (Int32.ofNat k) 2) D n 0 (I 1803) (I 1804) (I 1603) (I 1604) (-1) T).2 := by rw [hI9 1307 (by decide), hA9 20 (by decide), hA9 21 (by decide)]; exact t8
  have hBz : isB (I9 1401) (A9 15) (app (stW B (I 1308) (I 1309)) (pgY (A 10) (I 1312) (pgR dn rt (cmK m dn) (cmK m rt) (fun k => sPart m f (Int32.ofNat k) 0) (fun k => sPart m f (Int32.ofNat k) 1) (fun k => sPart m f (Int32.ofNat k) 2) D n 0 (I 1803) (I 1804) (I 1603) (I 1604) (-1) T).1)) := by
    have hz := hB9
    simp only [app_app, List.append_assoc, List.cons_append, List.nil_append] at hz
    rw [f90 1312 (by decide)] at hz
    exact hz
  refine xr_aload_n D_Wr_writePage_112 rfl rfl ?_
  refine xr_getf F_Wr_12 D_Wr_writePage_113 rfl rfl ?_
  refine xr_cVx (as := []) (c_By_length_14) (L_Wr_136) (CD_By_length) CI_By D_Wr_writePage_116 rfl rfl (by decide) (Nat.le_of_ble_eq_true rfl) (Nat.le_of_eq (Nat.zero_add _)) (Nat.le_of_eq (Nat.zero_add _)) pic_len ?_
  rintro _ rfl
  refine ⟨_, _, rfl, pic_leq, ?_⟩
  refine xr_ldc (v := 60000) D_Wr_writePage_119 K_Wr_150 ?_
  refine xr_icmp_le (tgt := 133) D_Wr_writePage_121 rfl (fun c1 => ?_) (fun c1 => ?_)
  · refine xr_aload_n D_Wr_writePage_133 rfl rfl ?_
    refine xr_iload D_Wr_writePage_134 rfl ?_
    refine xr_putf F_Wr_38 FT_Wr FN_Wr_12 D_Wr_writePage_136 rfl (Nat.le_of_ble_eq_true rfl) rfl rfl (pset_13_12) ?_
    refine xr_aload_n D_Wr_writePage_139 rfl rfl ?_
    refine xr_dup D_Wr_writePage_140 rfl ?_
    refine xr_getf F_Wr_54 D_Wr_writePage_141 rfl rfl ?_
    refine xr_iconst (v := 1) D_Wr_writePage_144 rfl ?_
    refine xr_iadd D_Wr_writePage_145 ?_
    refine xr_putf F_Wr_54 FT_Wr FN_Wr_11 D_Wr_writePage_146 rfl (Nat.le_of_ble_eq_true rfl) rfl rfl (pset_13_11) ?_
    refine xr_aload_n D_Wr_writePage_149 rfl rfl ?_
    refine xr_aload_n D_Wr_writePage_150 rfl rfl ?_
    refine xr_getf F_Wr_86 D_Wr_writePage_151 rfl rfl ?_
    refine xr_putf F_Wr_71 FT_Wr FN_Wr_13 D_Wr_writePage_154 rfl (Nat.le_of_ble_eq_true rfl) rfl rfl (pset_13_13) ?_
    refine xr_aload_n D_Wr_writePage_157 rfl rfl ?_
    refine xr_aload_n D_Wr_writePage_158 rfl rfl ?_
    refine xr_getf F_Wr_89 D_Wr_writePage_159 rfl rfl ?_
    refine xr_putf F_Wr_74 FT_Wr FN_Wr_14 D_Wr_writePage_162 rfl (Nat.le_of_ble_eq_true rfl) rfl rfl (pset_13_14) ?_
    refine xr_iconst (v := 1) D_Wr_writePage_165 rfl ?_
    refine xr_zret rfl (by first | rfl | exact nar_b2 | exact nar_z hz) D_Wr_writePage_166 ?_
    refine Or.inr ⟨?_, _, _, rfl, fun q hq => ?_, a9, hBz, t9, hB2.1, ?_, ?_, ?_⟩
    · have q9 := hBz.1
      rw [i_le, show (60000 : Int32).toInt = 60000 from rfl] at c1
      omega
    · simp only [List.mem_cons, List.not_mem_nil, not_or, or_false] at hq
      obtain ⟨q1, q2, q3, q4, q5, q6, q7, q8, q9, q10⟩ := hq
      rw [upd_n q10, upd_n q9, upd_n q7, upd_n q8]
      exact f9 q (by simp only [List.mem_cons, List.not_mem_nil, not_or, or_false]; exact ⟨q1, q2, q3, q4, q5, q6⟩)
    · exact congrArg (· + 1) (f9 1311 (by decide))
    · exact f9 1315 (by decide)
    · exact f9 1316 (by decide)
  · obtain ⟨E, hE⟩ := pgR_ext (dn := dn) (rt := rt) (cd := cmK m dn) (cr := cmK m rt) (F := fun k => sPart m f (Int32.ofNat k) 0) (C := fun k => sPart m f (Int32.ofNat k) 1) (H := fun k => sPart m f (Int32.ofNat k) 2) (D := D) n 0 (I 1803) (I 1804) (I 1603) (I 1604) (-1) T
    rw [hE] at t9
    have bk := bk_ok hB hT hBz (stW_tk hB.2.1) t9
    refine xr_aload_n D_Wr_writePage_124 rfl rfl ?_
    refine xr_iload_n D_Wr_writePage_125 rfl rfl ?_
    refine xr_iload D_Wr_writePage_126 rfl ?_
    refine xr_cVv (as := [_, _]) (c_Wr_goBack_13 bk.1.1 bk.1.2.1 bk.1.2.2.1 bk.1.2.2.2.1 bk.1.2.2.2.2.1 bk.1.2.2.2.2.2) (L_Wr_61) (CD_Wr_goBack) CI_Wr D_Wr_writePage_128 rfl rfl (by decide) (Nat.le_of_ble_eq_true rfl) (Nat.le_of_eq (Nat.zero_add _)) (Nat.le_of_eq (Nat.zero_add _)) pic_len ?_
    rintro _ rfl
    refine ⟨_, rfl, pic_leq, ?_⟩
    refine xr_iconst (v := 0) D_Wr_writePage_131 rfl ?_
    refine xr_zret rfl (by first | rfl | exact nar_b2 | exact nar_z hz) D_Wr_writePage_132 ?_
    refine Or.inl ⟨?_, _, _, rfl, fun q hq => ?_, fun q hq => ?_, bk.2.1, bk.2.2⟩
    · have q9 := hBz.1
      rw [i_le, show (60000 : Int32).toInt = 60000 from rfl] at c1
      omega
    · have hq2 := hq
      simp only [List.mem_cons, List.not_mem_nil, not_or, or_false] at hq2
      rw [upd_n hq2.2.2.2.2.2, upd_n hq2.1]
      exact f9 q hq
    · have hq2 := hq
      simp only [List.mem_cons, List.not_mem_nil, not_or, or_false] at hq2
      show upAf _ 20 _ q = _
      unfold upAf
      rw [if_neg hq2.2.1]
      exact a9 q hq
