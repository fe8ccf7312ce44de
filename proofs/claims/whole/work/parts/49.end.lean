theorem rem4 {x : Int32} (h : 0 ≤ x) : x - x / 4 * 4 = 0 ↔ x.toInt % 4 = 0 := by
  have h0 := i_le.mp h
  rw [z0] at h0
  have hr := i_rg x
  have e4 : (4 : Int32).toInt = 4 := rfl
  have e : (x / 4).toInt = x.toInt / 4 := by
    rw [Int32.toInt_div, e4, Int.tdiv_eq_ediv_of_nonneg h0]
    exact Int.bmod_eq_of_le (by omega) (by omega)
  have e2 : (x / 4 * 4).toInt = x.toInt / 4 * 4 := by
    rw [i_mul (by rw [e, e4]; omega) (by rw [e, e4]; omega), e, e4]
  have e3 : (x - x / 4 * 4).toInt = x.toInt - x.toInt / 4 * 4 := by
    rw [i_sub (by rw [e2]; omega) (by rw [e2]; omega), e2]
  rw [i_eq, e3, z0]
  omega
def dfF (D : Int32 → List Int32) (od : Nat → Int32) : Nat → List Int32
  | 0 => []
  | k + 1 => D (od k) ++ dfF D od k
def flN (n : Nat) : Nat := 4 + (4 - n % 4) % 4
def edB (lp gv gh pg pl : Int32) (df : List Int32) : List Int32 := (248 &&& 255) :: (numB lp 4 ++ (scl ++ (numB gv 4 ++ (numB gh 4 ++ (numB (if 0 < pg then 1 else 0) 2 ++ (numB pg 2 ++ (df ++ ((249 &&& 255) :: (numB pl 4 ++ [2 &&& 255])))))))))
theorem numB_len {n : Int32} : ∀ k, (numB n k).length = k := by
  intro k
  induction k with
  | zero => rfl
  | succ k ih => show (numB n k).length + 1 = _; rw [ih]
theorem app_ok {B xs : List Int32} (h : B.length + xs.length ≤ 70000) : app B xs = B ++ xs := by
  unfold app
  exact List.take_of_length_le (by rw [List.length_append]; exact h)
theorem lsB_len {a b : Int64} : ∀ (n s : Nat), (lsB a b n s).length = n := by
  intro n
  induction n with
  | zero => intro s; rfl
  | succ n ih => intro s; show (lsB a b n (s + 1)).length + 1 = _; rw [ih]
theorem scl_len : scl.length = 12 := rfl
theorem stB_len {c n : Int32} (h0 : 0 ≤ n) (h1 : n ≤ 255) : (stB c n).length ≤ 270 := by
  rw [i_le] at h0 h1
  rw [z0] at h0
  rw [show (255 : Int32).toInt = 255 from rfl] at h1
  unfold stB
  simp only [List.length_cons, List.length_append, List.length_replicate, scl_len]
  omega
theorem stW_len {B : List Int32} {c n : Int32} (h0 : 0 ≤ n) (h1 : n ≤ 255) : (stW B c n).length ≤ B.length + 270 := by
  unfold stW
  split
  · unfold app
    rw [List.length_take, List.length_append]
    have := stB_len (c := c) h0 h1
    omega
  · omega
theorem stW_ok {B : List Int32} {c n : Int32} (h0 : 0 ≤ n) (h1 : n ≤ 255) : stW B c n = if B = [] then stB c n else B := by
  unfold stW
  split
  · next e =>
    rw [e, app_ok (by have := stB_len (c := c) h0 h1; simp; omega)]
    rfl
  · rfl
theorem defC_len {A : mA} {L : mL} {f : Int32} (h0 : 0 ≤ A 9 f.toNatClampNeg) (h1 : A 9 f.toNatClampNeg ≤ 16) : (defC A L f).length ≤ 32 := by
  rw [i_le] at h0 h1
  rw [z0] at h0
  rw [show (16 : Int32).toInt = 16 from rfl] at h1
  unfold defC
  simp only [List.length_cons, List.length_append, numB_len, lsB_len]
  omega
theorem dfF_len {D : Int32 → List Int32} {od : Nat → Int32} : ∀ (n : Nat), (∀ k, k < n → (D (od k)).length ≤ 32) → (dfF D od n).length ≤ 32 * n := by
  intro n
  induction n with
  | zero => intro _; exact Nat.le_refl _
  | succ n ih =>
    intro h
    have h1 := ih (fun k hk => h k (by omega))
    have h2 := h n (by omega)
    show (D (od n) ++ dfF D od n).length ≤ _
    rw [List.length_append]
    omega
theorem edB_len {lp gv gh pg pl : Int32} {df : List Int32} : (edB lp gv gh pg pl df).length = 35 + df.length := by
  unfold edB
  simp only [List.length_cons, List.length_append, numB_len, scl_len, List.length_nil]
  omega

theorem l_Wr_we1 {L : mL} {l1 : Int32} {n : Nat} {Q : xO → Prop} (hn : n ≤ 256) : ∀ (k : Nat) (i : Int32) (I : mI) (A : mA) (B : List Int32), i.toInt = (k : Int) - 1 → k ≤ n → (∀ k, k < n → (0 ≤ A 21 k ∧ A 21 k ≤ 255) ∧ 0 ≤ A 9 (A 21 k).toNatClampNeg ∧ A 9 (A 21 k).toNatClampNeg ≤ 16) → isB (I 1401) (A 15) B → (∀ I' A' (i9 : Int32), frI [1401] I I' → frA [15] A A' → isB (I' 1401) (A' 15) (app B (dfF (defC A L) (A 21) k)) → xr m_Wr_writeEnd none (4, 85) 137 [some (.ref 13), some (.int l1), some (.int i9)] [] (pic I' A' L) 0 0 Q) → xr m_Wr_writeEnd none (4, 85) 101 [some (.ref 13), some (.int l1), some (.int i)] [] (pic I A L) 0 0 Q := by
  intro k
  induction k with
  | zero =>
    intro i I A B hi hk hO hB K
    refine xr_iload_n D_Wr_writeEnd_101 rfl rfl ?_
    refine xr_if_lt (tgt := 137) D_Wr_writeEnd_102 rfl (fun c1 => ?_) (fun c1 => ?_)
    · exact K I A _ frI_rf frA_rf (by rw [show dfF (defC A L) (A 21) 0 = [] from rfl, app_nil hB.2.1]; exact hB)
    · exact absurd (i_lt.mpr (by rw [hi, z0]; omega)) c1
  | succ k ih =>
    intro i I A B hi hk hO hB K
    have ei : i.toNatClampNeg = k := by rw [i_cl, hi]; omega
    have q0 : 0 ≤ i := i_le.mpr (by rw [hi, z0]; omega)
    have q1 : i < 256 := i_lt.mpr (by rw [hi, show (256 : Int32).toInt = 256 from rfl]; omega)
    refine xr_iload_n D_Wr_writeEnd_101 rfl rfl ?_
    refine xr_if_lt (tgt := 137) D_Wr_writeEnd_102 rfl (fun c1 => ?_) (fun c1 => ?_)
    · exact absurd (i_le.mp q0) (fun z => by have := i_lt.mp c1; omega)
    · refine xr_iload_n D_Wr_writeEnd_105 rfl rfl ?_
      refine xr_aload_n D_Wr_writeEnd_106 rfl rfl ?_
      refine xr_getf F_Wr_34 D_Wr_writeEnd_107 rfl rfl ?_
      refine xr_alen (v := 256) D_Wr_writeEnd_110 rfl (by simp [xtok]) rfl ?_
      refine xr_icmp_ge (tgt := 137) D_Wr_writeEnd_111 rfl (fun c2 => ?_) (fun c2 => ?_)
      · exact absurd (i_lt.mp q1) (fun z => by have := i_le.mp c2; omega)
      · refine xr_aload_n D_Wr_writeEnd_114 rfl rfl ?_
        refine xr_getf F_Wr_42 D_Wr_writeEnd_115 rfl rfl ?_
        refine xr_aload_n D_Wr_writeEnd_118 rfl rfl ?_
        refine xr_getf F_Wr_34 D_Wr_writeEnd_119 rfl rfl ?_
        refine xr_iload_n D_Wr_writeEnd_122 rfl rfl ?_
        refine xr_iald D_Wr_writeEnd_123 rfl (by exact i_in2 256 q0 q1 rfl) ?_
        refine xr_aload_n D_Wr_writeEnd_124 rfl rfl ?_
        refine xr_getf F_Wr_12 D_Wr_writeEnd_125 rfl rfl ?_
        refine xr_cVv (as := [_, _]) (n_Fo_writeDefinition (show 0 ≤ A 21 i.toNatClampNeg ∧ A 21 i.toNatClampNeg ≤ 255 by rw [ei]; exact (hO k (by omega)).1) (by rw [ei]; exact (hO k (by omega)).2.1) (by rw [ei]; exact (hO k (by omega)).2.2) hB) (L_Wr_172) (CD_Fo_writeDefinition) CI_Fo D_Wr_writeEnd_128 rfl rfl (by decide) (Nat.le_of_ble_eq_true rfl) (Nat.le_of_eq (Nat.zero_add _)) (Nat.le_of_eq (Nat.zero_add _)) pic_len ?_
        rintro _ ⟨I1, A1, rfl, hI1, hA1, hB1⟩
        refine ⟨_, rfl, pic_leq, ?_⟩
        refine xr_iinc (c9 := (-1)) D_Wr_writeEnd_131 rfl rfl (by decide) ?_
        refine xr_goto (tgt := 101) D_Wr_writeEnd_134 rfl ?_
        rw [ei] at hB1
        refine ih _ _ _ _ ?_ (by omega) (fun j hj => ?_) hB1 (fun I9 A9 i9 q1 q2 q3 => K I9 A9 i9 (frI_tr hI1 q1 (fun _ h => h) (fun _ h => h)) (frA_tr hA1 q2 (fun _ h => h) (fun _ h => h)) ?_)
        · rw [i_add (by rw [zm1, hi]; omega) (by rw [zm1, hi]; omega), zm1, hi]; omega
        · rw [hA1 21 (by decide), hA1 9 (by decide)]; exact hO j hj
        · have ed : defC A1 L = defC A L := by
            funext x
            unfold defC
            rw [hA1 4 (by decide), hA1 5 (by decide), hA1 6 (by decide), hA1 9 (by decide)]
          rw [app_app, hA1 21 (by decide), ed] at q3
          exact q3

theorem l_Wr_we2 {L : mL} {l1 : Int32} {n : Nat} (hn : n + 7 ≤ 70000) : ∀ (t j : Nat) (I : mI) (A : mA) (B : List Int32), j + t = flN n → B.length = n + j → isB (I 1401) (A 15) B → xr m_Wr_writeEnd none (4, 85) 166 [some (.ref 13), some (.int l1), some (.int (Int32.ofNat j))] [] (pic I A L) 0 0 (fun o => ∃ I' A', o = (.inl (some (.int (I' 1401))), pic I' A' L) ∧ frI [1401, 1310] I I' ∧ frA [15] A A' ∧ isB (I' 1401) (A' 15) (B ++ List.replicate t (223 &&& 255)) ∧ I' 1310 = 1) := by
  have e4 : (4 : Int32).toInt = 4 := rfl
  have e7 : (7 : Int32).toInt = 7 := rfl
  have hf : flN n = 4 + (4 - n % 4) % 4 := rfl
  intro t
  induction t with
  | zero =>
    intro j I A B hj hl hB
    have hu := hB.1
    have hu0 : 0 ≤ I 1401 := i_le.mpr (by rw [z0]; omega)
    refine xr_iload_n D_Wr_writeEnd_166 rfl rfl ?_
    refine xr_bipush (v := 7) D_Wr_writeEnd_167 rfl ?_
    refine xr_icmp_ge (tgt := 205) D_Wr_writeEnd_169 rfl (fun c1 => ?_) (fun c1 => ?_)
    · refine xr_aload_n D_Wr_writeEnd_205 rfl rfl ?_
      refine xr_iconst (v := 1) D_Wr_writeEnd_206 rfl ?_
      refine xr_putf F_Wr_50 FT_Wr FN_Wr_10 D_Wr_writeEnd_207 rfl (Nat.le_of_ble_eq_true rfl) rfl rfl (pset_13_10) ?_
      refine xr_aload_n D_Wr_writeEnd_210 rfl rfl ?_
      refine xr_getf F_Wr_12 D_Wr_writeEnd_211 rfl rfl ?_
      refine xr_cVx (as := []) (c_By_length_14) (L_Wr_136) (CD_By_length) CI_By D_Wr_writeEnd_214 rfl rfl (by decide) (Nat.le_of_ble_eq_true rfl) (Nat.le_of_eq (Nat.zero_add _)) (Nat.le_of_eq (Nat.zero_add _)) pic_len ?_
      rintro _ rfl
      refine ⟨_, _, rfl, pic_leq, ?_⟩
      refine xr_iret rfl D_Wr_writeEnd_217 ?_
      exact ⟨_, _, rfl, frI_up (by decide), frA_rf, by rw [List.replicate_zero, List.append_nil]; exact hB, rfl⟩
    · refine xr_iload_n D_Wr_writeEnd_172 rfl rfl ?_
      refine xr_iconst (v := 4) D_Wr_writeEnd_173 rfl ?_
      refine xr_icmp_lt (tgt := 189) D_Wr_writeEnd_174 rfl (fun c2 => ?_) (fun c2 => ?_)
      · exact absurd c2 (fun q => by rw [i_lt, i_of (by omega), e4] at q; omega)
      · refine xr_aload_n D_Wr_writeEnd_177 rfl rfl ?_
        refine xr_getf F_Wr_12 D_Wr_writeEnd_178 rfl rfl ?_
        refine xr_cVx (as := []) (c_By_length_14) (L_Wr_136) (CD_By_length) CI_By D_Wr_writeEnd_181 rfl rfl (by decide) (Nat.le_of_ble_eq_true rfl) (Nat.le_of_eq (Nat.zero_add _)) (Nat.le_of_eq (Nat.zero_add _)) pic_len ?_
        rintro _ rfl
        refine ⟨_, _, rfl, pic_leq, ?_⟩
        refine xr_iconst (v := 4) D_Wr_writeEnd_184 rfl ?_
        refine xr_irem D_Wr_writeEnd_185 (by decide) ?_
        refine xr_if_eq (tgt := 205) D_Wr_writeEnd_186 rfl (fun c3 => ?_) (fun c3 => ?_)
        · refine xr_aload_n D_Wr_writeEnd_205 rfl rfl ?_
          refine xr_iconst (v := 1) D_Wr_writeEnd_206 rfl ?_
          refine xr_putf F_Wr_50 FT_Wr FN_Wr_10 D_Wr_writeEnd_207 rfl (Nat.le_of_ble_eq_true rfl) rfl rfl (pset_13_10) ?_
          refine xr_aload_n D_Wr_writeEnd_210 rfl rfl ?_
          refine xr_getf F_Wr_12 D_Wr_writeEnd_211 rfl rfl ?_
          refine xr_cVx (as := []) (c_By_length_14) (L_Wr_136) (CD_By_length) CI_By D_Wr_writeEnd_214 rfl rfl (by decide) (Nat.le_of_ble_eq_true rfl) (Nat.le_of_eq (Nat.zero_add _)) (Nat.le_of_eq (Nat.zero_add _)) pic_len ?_
          rintro _ rfl
          refine ⟨_, _, rfl, pic_leq, ?_⟩
          refine xr_iret rfl D_Wr_writeEnd_217 ?_
          exact ⟨_, _, rfl, frI_up (by decide), frA_rf, by rw [List.replicate_zero, List.append_nil]; exact hB, rfl⟩
        · exact absurd ((rem4 hu0).mpr (by omega)) c3
  | succ t ih =>
    intro j I A B hj hl hB
    have hu := hB.1
    have hu0 : 0 ≤ I 1401 := i_le.mpr (by rw [z0]; omega)
    refine xr_iload_n D_Wr_writeEnd_166 rfl rfl ?_
    refine xr_bipush (v := 7) D_Wr_writeEnd_167 rfl ?_
    refine xr_icmp_ge (tgt := 205) D_Wr_writeEnd_169 rfl (fun c1 => ?_) (fun c1 => ?_)
    · exact absurd c1 (fun q => by rw [i_le, i_of (by omega), e7] at q; omega)
    · refine xr_iload_n D_Wr_writeEnd_172 rfl rfl ?_
      refine xr_iconst (v := 4) D_Wr_writeEnd_173 rfl ?_
      refine xr_icmp_lt (tgt := 189) D_Wr_writeEnd_174 rfl (fun c2 => ?_) (fun c2 => ?_)
      · refine xr_aload_n D_Wr_writeEnd_189 rfl rfl ?_
        refine xr_getf F_Wr_12 D_Wr_writeEnd_190 rfl rfl ?_
        refine xr_sipush (v := 223) D_Wr_writeEnd_193 rfl ?_
        refine xr_cVv (as := [_]) (c_By_add_14 hB) (L_Wr_140) (CD_By_add) CI_By D_Wr_writeEnd_196 rfl rfl (by decide) (Nat.le_of_ble_eq_true rfl) (Nat.le_of_eq (Nat.zero_add _)) (Nat.le_of_eq (Nat.zero_add _)) pic_len ?_
        rintro _ ⟨I1, A1, rfl, hI1, hA1, hB1⟩
        refine ⟨_, rfl, pic_leq, ?_⟩
        refine xr_iinc (c9 := 1) D_Wr_writeEnd_199 rfl rfl (by decide) ?_
        refine xr_goto (tgt := 166) D_Wr_writeEnd_202 rfl ?_
        rw [io_succ]
        rw [app_ok (by rw [hl]; simp; omega)] at hB1
        refine xr_mono (ih (j + 1) _ _ _ (by omega) (by rw [List.length_append, hl]; simp; omega) hB1) ?_
        rintro _ ⟨I9, A9, rfl, q1, q2, q3, q4⟩
        refine ⟨I9, A9, rfl, frI_tr hI1 q1 (fun _ h => List.mem_cons.mpr (Or.inl (List.mem_singleton.mp h))) (fun _ h => h), frA_tr hA1 q2 (fun _ h => h) (fun _ h => h), ?_, q4⟩
        rw [List.append_assoc] at q3
        exact q3
      · refine xr_aload_n D_Wr_writeEnd_177 rfl rfl ?_
        refine xr_getf F_Wr_12 D_Wr_writeEnd_178 rfl rfl ?_
        refine xr_cVx (as := []) (c_By_length_14) (L_Wr_136) (CD_By_length) CI_By D_Wr_writeEnd_181 rfl rfl (by decide) (Nat.le_of_ble_eq_true rfl) (Nat.le_of_eq (Nat.zero_add _)) (Nat.le_of_eq (Nat.zero_add _)) pic_len ?_
        rintro _ rfl
        refine ⟨_, _, rfl, pic_leq, ?_⟩
        refine xr_iconst (v := 4) D_Wr_writeEnd_184 rfl ?_
        refine xr_irem D_Wr_writeEnd_185 (by decide) ?_
        refine xr_if_eq (tgt := 205) D_Wr_writeEnd_186 rfl (fun c3 => ?_) (fun c3 => ?_)
        · exact absurd ((rem4 hu0).mp c3) (fun q => by rw [i_lt, i_of (by omega), e4] at c2; omega)
        · refine xr_aload_n D_Wr_writeEnd_189 rfl rfl ?_
          refine xr_getf F_Wr_12 D_Wr_writeEnd_190 rfl rfl ?_
          refine xr_sipush (v := 223) D_Wr_writeEnd_193 rfl ?_
          refine xr_cVv (as := [_]) (c_By_add_14 hB) (L_Wr_140) (CD_By_add) CI_By D_Wr_writeEnd_196 rfl rfl (by decide) (Nat.le_of_ble_eq_true rfl) (Nat.le_of_eq (Nat.zero_add _)) (Nat.le_of_eq (Nat.zero_add _)) pic_len ?_
          rintro _ ⟨I3, A3, rfl, hI3, hA3, hB3⟩
          refine ⟨_, rfl, pic_leq, ?_⟩
          refine xr_iinc (c9 := 1) D_Wr_writeEnd_199 rfl rfl (by decide) ?_
          refine xr_goto (tgt := 166) D_Wr_writeEnd_202 rfl ?_
          rw [io_succ]
          rw [app_ok (by rw [hl]; simp; omega)] at hB3
          refine xr_mono (ih (j + 1) _ _ _ (by omega) (by rw [List.length_append, hl]; simp; omega) hB3) ?_
          rintro _ ⟨I9, A9, rfl, q1, q2, q3, q4⟩
          refine ⟨I9, A9, rfl, frI_tr hI3 q1 (fun _ h => List.mem_cons.mpr (Or.inl (List.mem_singleton.mp h))) (fun _ h => h), frA_tr hA3 q2 (fun _ h => h) (fun _ h => h), ?_, q4⟩
          rw [List.append_assoc] at q3
          exact q3

set_option maxHeartbeats 2000000 in
theorem c_Wr_writeEnd_13 {I : mI} {A : mA} {L : mL} {B T : List Int32} (hs0 : 0 ≤ I 1309) (hs1 : I 1309 ≤ 255) (hlen : B.length ≤ 60000) (hL : ∀ x : Int32, 0 ≤ x → x ≤ 255 → 0 ≤ A 9 x.toNatClampNeg ∧ A 9 x.toNatClampNeg ≤ 16) (hB : isB (I 1401) (A 15) B) (hT : isT (I 1307) (A 20) (A 21) T) : xm m_Wr_writeEnd (4, 85) [.ref 13] (pic I A L) 0 0 (fun o => ∃ I' A', o = (.inl (some (.int (I' 1401))), pic I' A' L) ∧ frI [1401, 1310] I I' ∧ frA [15] A A' ∧ isB (I' 1401) (A' 15) (((stW B (I 1308) (I 1309)) ++ (edB (I 1312) (I 1313) (I 1314) (I 1311) (Int32.ofNat (stW B (I 1308) (I 1309)).length) (dfF (defC A L) (A 21) T.length))) ++ List.replicate (flN ((stW B (I 1308) (I 1309)) ++ (edB (I 1312) (I 1313) (I 1314) (I 1311) (Int32.ofNat (stW B (I 1308) (I 1309)).length) (dfF (defC A L) (A 21) T.length))).length) (223 &&& 255)) ∧ I' 1310 = 1) := by
  have f0 : frI [1401] I I := frI_rf
  have a0 : frA [15] A A := frA_rf
  refine xm_of rfl (by decide) (Nat.le_of_ble_eq_true rfl) ?_
  refine xr_aload_n D_Wr_writeEnd_0 rfl rfl ?_
  refine xr_cVv (as := []) (n_Wr_writeStart hs0 hs1 hB) (L_Wr_137) (CD_Wr_writeStart) CI_Wr D_Wr_writeEnd_1 rfl rfl (by decide) (Nat.le_of_ble_eq_true rfl) (Nat.le_of_eq (Nat.zero_add _)) (Nat.le_of_eq (Nat.zero_add _)) pic_len ?_
  rintro _ ⟨I1, A1, rfl, hI1, hA1, hB1⟩
  refine ⟨_, rfl, pic_leq, ?_⟩
  have f1 := frI_tr (ks := [1401]) f0 hI1 (fun _ h => h) (fun _ h => h)
  have a1 := frA_tr (ks := [15]) a0 hA1 (fun _ h => h) (fun _ h => h)
  change isB _ _ (stW B (I 1308) (I 1309)) at hB1
  refine xr_aload_n D_Wr_writeEnd_4 rfl rfl ?_
  refine xr_getf F_Wr_12 D_Wr_writeEnd_5 rfl rfl ?_
  refine xr_cVx (as := []) (c_By_length_14) (L_Wr_136) (CD_By_length) CI_By D_Wr_writeEnd_8 rfl rfl (by decide) (Nat.le_of_ble_eq_true rfl) (Nat.le_of_eq (Nat.zero_add _)) (Nat.le_of_eq (Nat.zero_add _)) pic_len ?_
  rintro _ rfl
  refine ⟨_, _, rfl, pic_leq, ?_⟩
  refine xr_istore_n D_Wr_writeEnd_11 rfl (by decide) ?_
  refine xr_aload_n D_Wr_writeEnd_12 rfl rfl ?_
  refine xr_getf F_Wr_12 D_Wr_writeEnd_13 rfl rfl ?_
  refine xr_sipush (v := 248) D_Wr_writeEnd_16 rfl ?_
  refine xr_cVv (as := [_]) (c_By_add_14 hB1) (L_Wr_140) (CD_By_add) CI_By D_Wr_writeEnd_19 rfl rfl (by decide) (Nat.le_of_ble_eq_true rfl) (Nat.le_of_eq (Nat.zero_add _)) (Nat.le_of_eq (Nat.zero_add _)) pic_len ?_
  rintro _ ⟨I3, A3, rfl, hI3, hA3, hB3⟩
  refine ⟨_, rfl, pic_leq, ?_⟩
  have f3 := frI_tr (ks := [1401]) f1 hI3 (fun _ h => h) (fun _ h => h)
  have a3 := frA_tr (ks := [15]) a1 hA3 (fun _ h => h) (fun _ h => h)
  refine xr_aload_n D_Wr_writeEnd_22 rfl rfl ?_
  refine xr_getf F_Wr_12 D_Wr_writeEnd_23 rfl rfl ?_
  refine xr_aload_n D_Wr_writeEnd_26 rfl rfl ?_
  refine xr_getf F_Wr_38 D_Wr_writeEnd_27 rfl rfl ?_
  refine xr_iconst (v := 4) D_Wr_writeEnd_30 rfl ?_
  refine xr_cVv (as := [_, _]) (c_By_addNumber_14 4 rfl (by decide) hB3) (L_Wr_143) (CD_By_addNumber) CI_By D_Wr_writeEnd_31 rfl rfl (by decide) (Nat.le_of_ble_eq_true rfl) (Nat.le_of_eq (Nat.zero_add _)) (Nat.le_of_eq (Nat.zero_add _)) pic_len ?_
  rintro _ ⟨I4, A4, rfl, hI4, hA4, hB4⟩
  refine ⟨_, rfl, pic_leq, ?_⟩
  have f4 := frI_tr (ks := [1401]) f3 hI4 (fun _ h => h) (fun _ h => h)
  have a4 := frA_tr (ks := [15]) a3 hA4 (fun _ h => h) (fun _ h => h)
  rw [f3 1312 (by decide)] at hB4
  refine xr_aload_n D_Wr_writeEnd_34 rfl rfl ?_
  refine xr_cVv (as := []) (n_Wr_writeScale hB4) (L_Wr_151) (CD_Wr_writeScale) CI_Wr D_Wr_writeEnd_35 rfl rfl (by decide) (Nat.le_of_ble_eq_true rfl) (Nat.le_of_eq (Nat.zero_add _)) (Nat.le_of_eq (Nat.zero_add _)) pic_len ?_
  rintro _ ⟨I5, A5, rfl, hI5, hA5, hB5⟩
  refine ⟨_, rfl, pic_leq, ?_⟩
  have f5 := frI_tr (ks := [1401]) f4 hI5 (fun _ h => h) (fun _ h => h)
  have a5 := frA_tr (ks := [15]) a4 hA5 (fun _ h => h) (fun _ h => h)
  refine xr_aload_n D_Wr_writeEnd_38 rfl rfl ?_
  refine xr_getf F_Wr_12 D_Wr_writeEnd_39 rfl rfl ?_
  refine xr_aload_n D_Wr_writeEnd_42 rfl rfl ?_
  refine xr_getf F_Wr_71 D_Wr_writeEnd_43 rfl rfl ?_
  refine xr_iconst (v := 4) D_Wr_writeEnd_46 rfl ?_
  refine xr_cVv (as := [_, _]) (c_By_addNumber_14 4 rfl (by decide) hB5) (L_Wr_143) (CD_By_addNumber) CI_By D_Wr_writeEnd_47 rfl rfl (by decide) (Nat.le_of_ble_eq_true rfl) (Nat.le_of_eq (Nat.zero_add _)) (Nat.le_of_eq (Nat.zero_add _)) pic_len ?_
  rintro _ ⟨I6, A6, rfl, hI6, hA6, hB6⟩
  refine ⟨_, rfl, pic_leq, ?_⟩
  have f6 := frI_tr (ks := [1401]) f5 hI6 (fun _ h => h) (fun _ h => h)
  have a6 := frA_tr (ks := [15]) a5 hA6 (fun _ h => h) (fun _ h => h)
  rw [f5 1313 (by decide)] at hB6
  refine xr_aload_n D_Wr_writeEnd_50 rfl rfl ?_
  refine xr_getf F_Wr_12 D_Wr_writeEnd_51 rfl rfl ?_
  refine xr_aload_n D_Wr_writeEnd_54 rfl rfl ?_
  refine xr_getf F_Wr_74 D_Wr_writeEnd_55 rfl rfl ?_
  refine xr_iconst (v := 4) D_Wr_writeEnd_58 rfl ?_
  refine xr_cVv (as := [_, _]) (c_By_addNumber_14 4 rfl (by decide) hB6) (L_Wr_143) (CD_By_addNumber) CI_By D_Wr_writeEnd_59 rfl rfl (by decide) (Nat.le_of_ble_eq_true rfl) (Nat.le_of_eq (Nat.zero_add _)) (Nat.le_of_eq (Nat.zero_add _)) pic_len ?_
  rintro _ ⟨I7, A7, rfl, hI7, hA7, hB7⟩
  refine ⟨_, rfl, pic_leq, ?_⟩
  have f7 := frI_tr (ks := [1401]) f6 hI7 (fun _ h => h) (fun _ h => h)
  have a7 := frA_tr (ks := [15]) a6 hA7 (fun _ h => h) (fun _ h => h)
  rw [f6 1314 (by decide)] at hB7
  refine xr_aload_n D_Wr_writeEnd_62 rfl rfl ?_
  refine xr_getf F_Wr_12 D_Wr_writeEnd_63 rfl rfl ?_
  refine xr_aload_n D_Wr_writeEnd_66 rfl rfl ?_
  refine xr_getf F_Wr_54 D_Wr_writeEnd_67 rfl rfl ?_
  refine xr_if_le (tgt := 77) D_Wr_writeEnd_70 rfl (fun c1 => ?_) (fun c1 => ?_)
  · have hpg : ¬ 0 < I 1311 := by rw [← f7 1311 (by decide)]; exact fun z => by have := i_le.mp c1; have := i_lt.mp z; omega
    refine xr_iconst (v := 0) D_Wr_writeEnd_77 rfl ?_
    refine xr_iconst (v := 2) D_Wr_writeEnd_78 rfl ?_
    refine xr_cVv (as := [_, _]) (c_By_addNumber_14 2 rfl (by decide) hB7) (L_Wr_143) (CD_By_addNumber) CI_By D_Wr_writeEnd_79 rfl rfl (by decide) (Nat.le_of_ble_eq_true rfl) (Nat.le_of_eq (Nat.zero_add _)) (Nat.le_of_eq (Nat.zero_add _)) pic_len ?_
    rintro _ ⟨I8, A8, rfl, hI8, hA8, hB8⟩
    refine ⟨_, rfl, pic_leq, ?_⟩
    have f8 := frI_tr (ks := [1401]) f7 hI8 (fun _ h => h) (fun _ h => h)
    have a8 := frA_tr (ks := [15]) a7 hA8 (fun _ h => h) (fun _ h => h)
    refine xr_aload_n D_Wr_writeEnd_82 rfl rfl ?_
    refine xr_getf F_Wr_12 D_Wr_writeEnd_83 rfl rfl ?_
    refine xr_aload_n D_Wr_writeEnd_86 rfl rfl ?_
    refine xr_getf F_Wr_54 D_Wr_writeEnd_87 rfl rfl ?_
    refine xr_iconst (v := 2) D_Wr_writeEnd_90 rfl ?_
    refine xr_cVv (as := [_, _]) (c_By_addNumber_14 2 rfl (by decide) hB8) (L_Wr_143) (CD_By_addNumber) CI_By D_Wr_writeEnd_91 rfl rfl (by decide) (Nat.le_of_ble_eq_true rfl) (Nat.le_of_eq (Nat.zero_add _)) (Nat.le_of_eq (Nat.zero_add _)) pic_len ?_
    rintro _ ⟨I9, A9, rfl, hI9, hA9, hB9⟩
    refine ⟨_, rfl, pic_leq, ?_⟩
    have f9 := frI_tr (ks := [1401]) f8 hI9 (fun _ h => h) (fun _ h => h)
    have a9 := frA_tr (ks := [15]) a8 hA9 (fun _ h => h) (fun _ h => h)
    rw [f8 1311 (by decide)] at hB9
    refine xr_aload_n D_Wr_writeEnd_94 rfl rfl ?_
    refine xr_getf F_Wr_80 D_Wr_writeEnd_95 rfl rfl ?_
    refine xr_iconst (v := 1) D_Wr_writeEnd_98 rfl ?_
    refine xr_isub D_Wr_writeEnd_99 ?_
    refine xr_istore_n D_Wr_writeEnd_100 rfl (by decide) ?_
    have hq := hT.1
    have hq2 := nd_len hT.2.1 hT.2.2.2.1
    refine l_Wr_we1 hq2 T.length _ _ _ _ ?_ (Nat.le_refl _) ?_ hB9 ?_
    · show (I9 1307 - 1).toInt = _
      rw [f9 1307 (by decide), i_sub (by rw [z1]; omega) (by rw [z1]; omega), z1, hq]
    · intro k hk
      rw [a9 21 (by decide), a9 9 (by decide), hT.2.2.1 k _ (List.getElem?_eq_getElem hk)]
      have hr := hT.2.2.2.1 _ (List.getElem_mem hk)
      exact ⟨hr, hL _ hr.1 hr.2⟩
    intro I90 A90 i90 hI90 hA90 hB90
    have f90 := frI_tr (ks := [1401]) f9 hI90 (fun _ h => h) (fun _ h => h)
    have a90 := frA_tr (ks := [15]) a9 hA90 (fun _ h => h) (fun _ h => h)
    have ed : defC A9 L = defC A L := by
      funext x
      unfold defC
      rw [a9 4 (by decide), a9 5 (by decide), a9 6 (by decide), a9 9 (by decide)]
    rw [ed, a9 21 (by decide)] at hB90
    refine xr_aload_n D_Wr_writeEnd_137 rfl rfl ?_
    refine xr_getf F_Wr_12 D_Wr_writeEnd_138 rfl rfl ?_
    refine xr_sipush (v := 249) D_Wr_writeEnd_141 rfl ?_
    refine xr_cVv (as := [_]) (c_By_add_14 hB90) (L_Wr_140) (CD_By_add) CI_By D_Wr_writeEnd_144 rfl rfl (by decide) (Nat.le_of_ble_eq_true rfl) (Nat.le_of_eq (Nat.zero_add _)) (Nat.le_of_eq (Nat.zero_add _)) pic_len ?_
    rintro _ ⟨I10, A10, rfl, hI10, hA10, hB10⟩
    refine ⟨_, rfl, pic_leq, ?_⟩
    have f10 := frI_tr (ks := [1401]) f90 hI10 (fun _ h => h) (fun _ h => h)
    have a10 := frA_tr (ks := [15]) a90 hA10 (fun _ h => h) (fun _ h => h)
    refine xr_aload_n D_Wr_writeEnd_147 rfl rfl ?_
    refine xr_getf F_Wr_12 D_Wr_writeEnd_148 rfl rfl ?_
    refine xr_iload_n D_Wr_writeEnd_151 rfl rfl ?_
    refine xr_iconst (v := 4) D_Wr_writeEnd_152 rfl ?_
    refine xr_cVv (as := [_, _]) (c_By_addNumber_14 4 rfl (by decide) hB10) (L_Wr_143) (CD_By_addNumber) CI_By D_Wr_writeEnd_153 rfl rfl (by decide) (Nat.le_of_ble_eq_true rfl) (Nat.le_of_eq (Nat.zero_add _)) (Nat.le_of_eq (Nat.zero_add _)) pic_len ?_
    rintro _ ⟨I11, A11, rfl, hI11, hA11, hB11⟩
    refine ⟨_, rfl, pic_leq, ?_⟩
    have f11 := frI_tr (ks := [1401]) f10 hI11 (fun _ h => h) (fun _ h => h)
    have a11 := frA_tr (ks := [15]) a10 hA11 (fun _ h => h) (fun _ h => h)
    refine xr_aload_n D_Wr_writeEnd_156 rfl rfl ?_
    refine xr_getf F_Wr_12 D_Wr_writeEnd_157 rfl rfl ?_
    refine xr_iconst (v := 2) D_Wr_writeEnd_160 rfl ?_
    refine xr_cVv (as := [_]) (c_By_add_14 hB11) (L_Wr_140) (CD_By_add) CI_By D_Wr_writeEnd_161 rfl rfl (by decide) (Nat.le_of_ble_eq_true rfl) (Nat.le_of_eq (Nat.zero_add _)) (Nat.le_of_eq (Nat.zero_add _)) pic_len ?_
    rintro _ ⟨I12, A12, rfl, hI12, hA12, hB12⟩
    refine ⟨_, rfl, pic_leq, ?_⟩
    have f12 := frI_tr (ks := [1401]) f11 hI12 (fun _ h => h) (fun _ h => h)
    have a12 := frA_tr (ks := [15]) a11 hA12 (fun _ h => h) (fun _ h => h)
    refine xr_iconst (v := 0) D_Wr_writeEnd_164 rfl ?_
    refine xr_istore_n D_Wr_writeEnd_165 rfl (by decide) ?_
    have hq3 : ∀ k, k < T.length → (defC A L (A 21 k)).length ≤ 32 := by
      intro k hk
      rw [hT.2.2.1 k _ (List.getElem?_eq_getElem hk)]
      have hr := hT.2.2.2.1 _ (List.getElem_mem hk)
      exact defC_len (hL _ hr.1 hr.2).1 (hL _ hr.1 hr.2).2
    have hq4 := dfF_len (D := defC A L) (od := A 21) T.length hq3
    have hq5 := stW_len (B := B) (c := I 1308) hs0 hs1
    have ep : I1 1401 = Int32.ofNat (stW B (I 1308) (I 1309)).length := i_eq.mpr (by rw [hB1.1, i_of (by omega)])
    have hBz : isB (I12 1401) (A12 15) ((stW B (I 1308) (I 1309)) ++ (edB (I 1312) (I 1313) (I 1314) (I 1311) (Int32.ofNat (stW B (I 1308) (I 1309)).length) (dfF (defC A L) (A 21) T.length))) := by
      have hz : isB (I12 1401) (A12 15) (app (stW B (I 1308) (I 1309)) (edB (I 1312) (I 1313) (I 1314) (I 1311) (Int32.ofNat (stW B (I 1308) (I 1309)).length) (dfF (defC A L) (A 21) T.length))) := by
        have hz := hB12
        simp only [app_app, List.append_assoc, List.cons_append, List.nil_append] at hz
        rw [ep] at hz
        unfold edB
        rw [if_neg hpg]
        exact hz
      rw [app_ok (by rw [edB_len]; omega)] at hz
      exact hz
    have hlz : ((stW B (I 1308) (I 1309)) ++ (edB (I 1312) (I 1313) (I 1314) (I 1311) (Int32.ofNat (stW B (I 1308) (I 1309)).length) (dfF (defC A L) (A 21) T.length))).length + 7 ≤ 70000 := by rw [List.length_append, edB_len]; omega
    refine xr_mono (l_Wr_we2 hlz (flN ((stW B (I 1308) (I 1309)) ++ (edB (I 1312) (I 1313) (I 1314) (I 1311) (Int32.ofNat (stW B (I 1308) (I 1309)).length) (dfF (defC A L) (A 21) T.length))).length) 0 _ _ _ (by omega) rfl hBz) ?_
    rintro _ ⟨I9z, A9z, rfl, q1, q2, q3, q4⟩
    exact ⟨I9z, A9z, rfl, frI_tr f12 q1 (fun _ h => List.mem_cons.mpr (Or.inl (List.mem_singleton.mp h))) (fun _ h => h), frA_tr a12 q2 (fun _ h => h) (fun _ h => h), q3, q4⟩
  · have hpg : 0 < I 1311 := by rw [← f7 1311 (by decide)]; exact i_lt.mpr (by have := c1; rw [i_le] at this; omega)
    refine xr_iconst (v := 1) D_Wr_writeEnd_73 rfl ?_
    refine xr_goto (tgt := 78) D_Wr_writeEnd_74 rfl ?_
    refine xr_iconst (v := 2) D_Wr_writeEnd_78 rfl ?_
    refine xr_cVv (as := [_, _]) (c_By_addNumber_14 2 rfl (by decide) hB7) (L_Wr_143) (CD_By_addNumber) CI_By D_Wr_writeEnd_79 rfl rfl (by decide) (Nat.le_of_ble_eq_true rfl) (Nat.le_of_eq (Nat.zero_add _)) (Nat.le_of_eq (Nat.zero_add _)) pic_len ?_
    rintro _ ⟨I13, A13, rfl, hI13, hA13, hB13⟩
    refine ⟨_, rfl, pic_leq, ?_⟩
    have f13 := frI_tr (ks := [1401]) f7 hI13 (fun _ h => h) (fun _ h => h)
    have a13 := frA_tr (ks := [15]) a7 hA13 (fun _ h => h) (fun _ h => h)
    refine xr_aload_n D_Wr_writeEnd_82 rfl rfl ?_
    refine xr_getf F_Wr_12 D_Wr_writeEnd_83 rfl rfl ?_
    refine xr_aload_n D_Wr_writeEnd_86 rfl rfl ?_
    refine xr_getf F_Wr_54 D_Wr_writeEnd_87 rfl rfl ?_
    refine xr_iconst (v := 2) D_Wr_writeEnd_90 rfl ?_
    refine xr_cVv (as := [_, _]) (c_By_addNumber_14 2 rfl (by decide) hB13) (L_Wr_143) (CD_By_addNumber) CI_By D_Wr_writeEnd_91 rfl rfl (by decide) (Nat.le_of_ble_eq_true rfl) (Nat.le_of_eq (Nat.zero_add _)) (Nat.le_of_eq (Nat.zero_add _)) pic_len ?_
    rintro _ ⟨I14, A14, rfl, hI14, hA14, hB14⟩
    refine ⟨_, rfl, pic_leq, ?_⟩
    have f14 := frI_tr (ks := [1401]) f13 hI14 (fun _ h => h) (fun _ h => h)
    have a14 := frA_tr (ks := [15]) a13 hA14 (fun _ h => h) (fun _ h => h)
    rw [f13 1311 (by decide)] at hB14
    refine xr_aload_n D_Wr_writeEnd_94 rfl rfl ?_
    refine xr_getf F_Wr_80 D_Wr_writeEnd_95 rfl rfl ?_
    refine xr_iconst (v := 1) D_Wr_writeEnd_98 rfl ?_
    refine xr_isub D_Wr_writeEnd_99 ?_
    refine xr_istore_n D_Wr_writeEnd_100 rfl (by decide) ?_
    have hq := hT.1
    have hq2 := nd_len hT.2.1 hT.2.2.2.1
    refine l_Wr_we1 hq2 T.length _ _ _ _ ?_ (Nat.le_refl _) ?_ hB14 ?_
    · show (I14 1307 - 1).toInt = _
      rw [f14 1307 (by decide), i_sub (by rw [z1]; omega) (by rw [z1]; omega), z1, hq]
    · intro k hk
      rw [a14 21 (by decide), a14 9 (by decide), hT.2.2.1 k _ (List.getElem?_eq_getElem hk)]
      have hr := hT.2.2.2.1 _ (List.getElem_mem hk)
      exact ⟨hr, hL _ hr.1 hr.2⟩
    intro I90 A90 i90 hI90 hA90 hB90
    have f90 := frI_tr (ks := [1401]) f14 hI90 (fun _ h => h) (fun _ h => h)
    have a90 := frA_tr (ks := [15]) a14 hA90 (fun _ h => h) (fun _ h => h)
    have ed : defC A14 L = defC A L := by
      funext x
      unfold defC
      rw [a14 4 (by decide), a14 5 (by decide), a14 6 (by decide), a14 9 (by decide)]
    rw [ed, a14 21 (by decide)] at hB90
    refine xr_aload_n D_Wr_writeEnd_137 rfl rfl ?_
    refine xr_getf F_Wr_12 D_Wr_writeEnd_138 rfl rfl ?_
    refine xr_sipush (v := 249) D_Wr_writeEnd_141 rfl ?_
    refine xr_cVv (as := [_]) (c_By_add_14 hB90) (L_Wr_140) (CD_By_add) CI_By D_Wr_writeEnd_144 rfl rfl (by decide) (Nat.le_of_ble_eq_true rfl) (Nat.le_of_eq (Nat.zero_add _)) (Nat.le_of_eq (Nat.zero_add _)) pic_len ?_
    rintro _ ⟨I15, A15, rfl, hI15, hA15, hB15⟩
    refine ⟨_, rfl, pic_leq, ?_⟩
    have f15 := frI_tr (ks := [1401]) f90 hI15 (fun _ h => h) (fun _ h => h)
    have a15 := frA_tr (ks := [15]) a90 hA15 (fun _ h => h) (fun _ h => h)
    refine xr_aload_n D_Wr_writeEnd_147 rfl rfl ?_
    refine xr_getf F_Wr_12 D_Wr_writeEnd_148 rfl rfl ?_
    refine xr_iload_n D_Wr_writeEnd_151 rfl rfl ?_
    refine xr_iconst (v := 4) D_Wr_writeEnd_152 rfl ?_
    refine xr_cVv (as := [_, _]) (c_By_addNumber_14 4 rfl (by decide) hB15) (L_Wr_143) (CD_By_addNumber) CI_By D_Wr_writeEnd_153 rfl rfl (by decide) (Nat.le_of_ble_eq_true rfl) (Nat.le_of_eq (Nat.zero_add _)) (Nat.le_of_eq (Nat.zero_add _)) pic_len ?_
    rintro _ ⟨I16, A16, rfl, hI16, hA16, hB16⟩
    refine ⟨_, rfl, pic_leq, ?_⟩
    have f16 := frI_tr (ks := [1401]) f15 hI16 (fun _ h => h) (fun _ h => h)
    have a16 := frA_tr (ks := [15]) a15 hA16 (fun _ h => h) (fun _ h => h)
    refine xr_aload_n D_Wr_writeEnd_156 rfl rfl ?_
    refine xr_getf F_Wr_12 D_Wr_writeEnd_157 rfl rfl ?_
    refine xr_iconst (v := 2) D_Wr_writeEnd_160 rfl ?_
    refine xr_cVv (as := [_]) (c_By_add_14 hB16) (L_Wr_140) (CD_By_add) CI_By D_Wr_writeEnd_161 rfl rfl (by decide) (Nat.le_of_ble_eq_true rfl) (Nat.le_of_eq (Nat.zero_add _)) (Nat.le_of_eq (Nat.zero_add _)) pic_len ?_
    rintro _ ⟨I17, A17, rfl, hI17, hA17, hB17⟩
    refine ⟨_, rfl, pic_leq, ?_⟩
    have f17 := frI_tr (ks := [1401]) f16 hI17 (fun _ h => h) (fun _ h => h)
    have a17 := frA_tr (ks := [15]) a16 hA17 (fun _ h => h) (fun _ h => h)
    refine xr_iconst (v := 0) D_Wr_writeEnd_164 rfl ?_
    refine xr_istore_n D_Wr_writeEnd_165 rfl (by decide) ?_
    have hq3 : ∀ k, k < T.length → (defC A L (A 21 k)).length ≤ 32 := by
      intro k hk
      rw [hT.2.2.1 k _ (List.getElem?_eq_getElem hk)]
      have hr := hT.2.2.2.1 _ (List.getElem_mem hk)
      exact defC_len (hL _ hr.1 hr.2).1 (hL _ hr.1 hr.2).2
    have hq4 := dfF_len (D := defC A L) (od := A 21) T.length hq3
    have hq5 := stW_len (B := B) (c := I 1308) hs0 hs1
    have ep : I1 1401 = Int32.ofNat (stW B (I 1308) (I 1309)).length := i_eq.mpr (by rw [hB1.1, i_of (by omega)])
    have hBz : isB (I17 1401) (A17 15) ((stW B (I 1308) (I 1309)) ++ (edB (I 1312) (I 1313) (I 1314) (I 1311) (Int32.ofNat (stW B (I 1308) (I 1309)).length) (dfF (defC A L) (A 21) T.length))) := by
      have hz : isB (I17 1401) (A17 15) (app (stW B (I 1308) (I 1309)) (edB (I 1312) (I 1313) (I 1314) (I 1311) (Int32.ofNat (stW B (I 1308) (I 1309)).length) (dfF (defC A L) (A 21) T.length))) := by
        have hz := hB17
        simp only [app_app, List.append_assoc, List.cons_append, List.nil_append] at hz
        rw [ep] at hz
        unfold edB
        rw [if_pos hpg]
        exact hz
      rw [app_ok (by rw [edB_len]; omega)] at hz
      exact hz
    have hlz : ((stW B (I 1308) (I 1309)) ++ (edB (I 1312) (I 1313) (I 1314) (I 1311) (Int32.ofNat (stW B (I 1308) (I 1309)).length) (dfF (defC A L) (A 21) T.length))).length + 7 ≤ 70000 := by rw [List.length_append, edB_len]; omega
    refine xr_mono (l_Wr_we2 hlz (flN ((stW B (I 1308) (I 1309)) ++ (edB (I 1312) (I 1313) (I 1314) (I 1311) (Int32.ofNat (stW B (I 1308) (I 1309)).length) (dfF (defC A L) (A 21) T.length))).length) 0 _ _ _ (by omega) rfl hBz) ?_
    rintro _ ⟨I9z, A9z, rfl, q1, q2, q3, q4⟩
    exact ⟨I9z, A9z, rfl, frI_tr f17 q1 (fun _ h => List.mem_cons.mpr (Or.inl (List.mem_singleton.mp h))) (fun _ h => h), frA_tr a17 q2 (fun _ h => h) (fun _ h => h), q3, q4⟩
