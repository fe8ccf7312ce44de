theorem io_succ {j : Nat} : Int32.ofNat j + 1 = Int32.ofNat (j + 1) := (Int32.ofNat_add j 1).symm
theorem z1 : (1 : Int32).toInt = 1 := rfl
theorem zm1 : (-1 : Int32).toInt = -1 := rfl
theorem isB_cut {u n : Int32} {f : Nat → Int32} {B : List Int32} (h : isB u f B) (h0 : 0 ≤ n) (h1 : n ≤ u) : isB n f (B.take n.toNatClampNeg) := by
  obtain ⟨a1, a2, a3⟩ := h
  rw [i_le, z0] at h0
  rw [i_le] at h1
  refine ⟨?_, ?_, fun i b hb => ?_⟩
  · rw [List.length_take, i_cl]; omega
  · rw [List.length_take]; omega
  · have hl := (List.getElem?_eq_some_iff.mp hb).1
    rw [List.length_take] at hl
    rw [List.getElem?_take] at hb
    split at hb
    · exact a3 i b hb
    · cases hb
def bfN (n : Int32) : Nat := if -128 ≤ n ∧ n < 128 then 1 else if -32768 ≤ n ∧ n < 32768 then 2 else if -8388608 ≤ n ∧ n < 8388608 then 3 else 4
theorem bfN_1 {n : Int32} (h : -128 ≤ n ∧ n < 128) : (1 : Int32) = Int32.ofNat (bfN n) := by unfold bfN; rw [if_pos h]; rfl
theorem bfN_2 {n : Int32} (h0 : ¬ (-128 ≤ n ∧ n < 128)) (h : -32768 ≤ n ∧ n < 32768) : (2 : Int32) = Int32.ofNat (bfN n) := by unfold bfN; rw [if_neg h0, if_pos h]; rfl
theorem bfN_3 {n : Int32} (h0 : ¬ (-128 ≤ n ∧ n < 128)) (h1 : ¬ (-32768 ≤ n ∧ n < 32768)) (h : -8388608 ≤ n ∧ n < 8388608) : (3 : Int32) = Int32.ofNat (bfN n) := by unfold bfN; rw [if_neg h0, if_neg h1, if_pos h]; rfl
theorem bfN_4 {n : Int32} (h0 : ¬ (-128 ≤ n ∧ n < 128)) (h1 : ¬ (-32768 ≤ n ∧ n < 32768)) (h : ¬ (-8388608 ≤ n ∧ n < 8388608)) : (4 : Int32) = Int32.ofNat (bfN n) := by unfold bfN; rw [if_neg h0, if_neg h1, if_neg h]; rfl
theorem bfN_le {n : Int32} : 1 ≤ bfN n ∧ bfN n ≤ 4 := by
  unfold bfN
  split
  · exact ⟨by decide, by decide⟩
  · split
    · exact ⟨by decide, by decide⟩
    · split <;> exact ⟨by decide, by decide⟩
theorem bfN_t {n : Int32} : (Int32.ofNat (bfN n)).toInt = (bfN n : Int) := i_of (by have := bfN_le (n := n); omega)
def nrd (g : Int32 → Int32) (p : Int32) : Nat → Int32
  | 0 => 0
  | k + 1 => (nrd g p k <<< (8 &&& 31)) ||| g (p + Int32.ofNat k)
def pB (I : mI) (A : mA) (L : mL) (u a : Nat) (B : List Int32) : xO → Prop := fun o => ∃ I' A', o = (.inl none, pic I' A' L) ∧ frI [u] I I' ∧ frA [a] A A' ∧ isB (I' u) (A' a) B
theorem pB_tr {I I1 : mI} {A A1 : mA} {L : mL} {u a : Nat} {B B' : List Int32} (h1 : frI [u] I I1) (h2 : frA [a] A A1) (e : B = B') : ∀ o, pB I1 A1 L u a B o → pB I A L u a B' o := by
  rintro o ⟨I2, A2, rfl, k1, k2, k3⟩
  subst e
  exact ⟨I2, A2, rfl, frI_tr h1 k1 (fun _ h => h) (fun _ h => h), frA_tr h2 k2 (fun _ h => h) (fun _ h => h), k3⟩

theorem c_By_bytesFor {h : List xC} {n : Int32} : xm m_By_bytesFor (0, 0) [.int n] h 0 0 (fun o => o = (.inl (some (.int (Int32.ofNat (bfN n)))), h)) := by
  refine xm_of rfl (by decide) (Nat.le_of_ble_eq_true rfl) ?_
  refine xr_iload_n D_By_bytesFor_0 rfl rfl ?_
  refine xr_bipush (v := (-128)) D_By_bytesFor_1 rfl ?_
  refine xr_icmp_lt (tgt := 15) D_By_bytesFor_3 rfl (fun c1 => ?_) (fun c1 => ?_)
  · refine xr_iload_n D_By_bytesFor_15 rfl rfl ?_
    refine xr_sipush (v := (-32768)) D_By_bytesFor_16 rfl ?_
    refine xr_icmp_lt (tgt := 30) D_By_bytesFor_19 rfl (fun c2 => ?_) (fun c2 => ?_)
    · refine xr_iload_n D_By_bytesFor_30 rfl rfl ?_
      refine xr_ldc (v := (-8388608)) D_By_bytesFor_31 K_By_33 ?_
      refine xr_icmp_lt (tgt := 46) D_By_bytesFor_33 rfl (fun c3 => ?_) (fun c3 => ?_)
      · refine xr_iconst (v := 4) D_By_bytesFor_46 rfl ?_
        refine xr_iret rfl D_By_bytesFor_47 ?_
        first | exact oi (bfN_1 (by grind)) | exact oi (bfN_2 (by grind) (by grind)) | exact oi (bfN_3 (by grind) (by grind) (by grind)) | exact oi (bfN_4 (by grind) (by grind) (by grind))
      · refine xr_iload_n D_By_bytesFor_36 rfl rfl ?_
        refine xr_ldc (v := 8388608) D_By_bytesFor_37 K_By_34 ?_
        refine xr_icmp_ge (tgt := 46) D_By_bytesFor_39 rfl (fun c4 => ?_) (fun c4 => ?_)
        · refine xr_iconst (v := 4) D_By_bytesFor_46 rfl ?_
          refine xr_iret rfl D_By_bytesFor_47 ?_
          first | exact oi (bfN_1 (by grind)) | exact oi (bfN_2 (by grind) (by grind)) | exact oi (bfN_3 (by grind) (by grind) (by grind)) | exact oi (bfN_4 (by grind) (by grind) (by grind))
        · refine xr_iconst (v := 3) D_By_bytesFor_42 rfl ?_
          refine xr_goto (tgt := 47) D_By_bytesFor_43 rfl ?_
          refine xr_iret rfl D_By_bytesFor_47 ?_
          first | exact oi (bfN_1 (by grind)) | exact oi (bfN_2 (by grind) (by grind)) | exact oi (bfN_3 (by grind) (by grind) (by grind)) | exact oi (bfN_4 (by grind) (by grind) (by grind))
    · refine xr_iload_n D_By_bytesFor_22 rfl rfl ?_
      refine xr_ldc (v := 32768) D_By_bytesFor_23 K_By_32 ?_
      refine xr_icmp_ge (tgt := 30) D_By_bytesFor_25 rfl (fun c3 => ?_) (fun c3 => ?_)
      · refine xr_iload_n D_By_bytesFor_30 rfl rfl ?_
        refine xr_ldc (v := (-8388608)) D_By_bytesFor_31 K_By_33 ?_
        refine xr_icmp_lt (tgt := 46) D_By_bytesFor_33 rfl (fun c4 => ?_) (fun c4 => ?_)
        · refine xr_iconst (v := 4) D_By_bytesFor_46 rfl ?_
          refine xr_iret rfl D_By_bytesFor_47 ?_
          first | exact oi (bfN_1 (by grind)) | exact oi (bfN_2 (by grind) (by grind)) | exact oi (bfN_3 (by grind) (by grind) (by grind)) | exact oi (bfN_4 (by grind) (by grind) (by grind))
        · refine xr_iload_n D_By_bytesFor_36 rfl rfl ?_
          refine xr_ldc (v := 8388608) D_By_bytesFor_37 K_By_34 ?_
          refine xr_icmp_ge (tgt := 46) D_By_bytesFor_39 rfl (fun c5 => ?_) (fun c5 => ?_)
          · refine xr_iconst (v := 4) D_By_bytesFor_46 rfl ?_
            refine xr_iret rfl D_By_bytesFor_47 ?_
            first | exact oi (bfN_1 (by grind)) | exact oi (bfN_2 (by grind) (by grind)) | exact oi (bfN_3 (by grind) (by grind) (by grind)) | exact oi (bfN_4 (by grind) (by grind) (by grind))
          · refine xr_iconst (v := 3) D_By_bytesFor_42 rfl ?_
            refine xr_goto (tgt := 47) D_By_bytesFor_43 rfl ?_
            refine xr_iret rfl D_By_bytesFor_47 ?_
            first | exact oi (bfN_1 (by grind)) | exact oi (bfN_2 (by grind) (by grind)) | exact oi (bfN_3 (by grind) (by grind) (by grind)) | exact oi (bfN_4 (by grind) (by grind) (by grind))
      · refine xr_iconst (v := 2) D_By_bytesFor_28 rfl ?_
        refine xr_iret rfl D_By_bytesFor_29 ?_
        first | exact oi (bfN_1 (by grind)) | exact oi (bfN_2 (by grind) (by grind)) | exact oi (bfN_3 (by grind) (by grind) (by grind)) | exact oi (bfN_4 (by grind) (by grind) (by grind))
  · refine xr_iload_n D_By_bytesFor_6 rfl rfl ?_
    refine xr_sipush (v := 128) D_By_bytesFor_7 rfl ?_
    refine xr_icmp_ge (tgt := 15) D_By_bytesFor_10 rfl (fun c2 => ?_) (fun c2 => ?_)
    · refine xr_iload_n D_By_bytesFor_15 rfl rfl ?_
      refine xr_sipush (v := (-32768)) D_By_bytesFor_16 rfl ?_
      refine xr_icmp_lt (tgt := 30) D_By_bytesFor_19 rfl (fun c3 => ?_) (fun c3 => ?_)
      · refine xr_iload_n D_By_bytesFor_30 rfl rfl ?_
        refine xr_ldc (v := (-8388608)) D_By_bytesFor_31 K_By_33 ?_
        refine xr_icmp_lt (tgt := 46) D_By_bytesFor_33 rfl (fun c4 => ?_) (fun c4 => ?_)
        · refine xr_iconst (v := 4) D_By_bytesFor_46 rfl ?_
          refine xr_iret rfl D_By_bytesFor_47 ?_
          first | exact oi (bfN_1 (by grind)) | exact oi (bfN_2 (by grind) (by grind)) | exact oi (bfN_3 (by grind) (by grind) (by grind)) | exact oi (bfN_4 (by grind) (by grind) (by grind))
        · refine xr_iload_n D_By_bytesFor_36 rfl rfl ?_
          refine xr_ldc (v := 8388608) D_By_bytesFor_37 K_By_34 ?_
          refine xr_icmp_ge (tgt := 46) D_By_bytesFor_39 rfl (fun c5 => ?_) (fun c5 => ?_)
          · refine xr_iconst (v := 4) D_By_bytesFor_46 rfl ?_
            refine xr_iret rfl D_By_bytesFor_47 ?_
            first | exact oi (bfN_1 (by grind)) | exact oi (bfN_2 (by grind) (by grind)) | exact oi (bfN_3 (by grind) (by grind) (by grind)) | exact oi (bfN_4 (by grind) (by grind) (by grind))
          · refine xr_iconst (v := 3) D_By_bytesFor_42 rfl ?_
            refine xr_goto (tgt := 47) D_By_bytesFor_43 rfl ?_
            refine xr_iret rfl D_By_bytesFor_47 ?_
            first | exact oi (bfN_1 (by grind)) | exact oi (bfN_2 (by grind) (by grind)) | exact oi (bfN_3 (by grind) (by grind) (by grind)) | exact oi (bfN_4 (by grind) (by grind) (by grind))
      · refine xr_iload_n D_By_bytesFor_22 rfl rfl ?_
        refine xr_ldc (v := 32768) D_By_bytesFor_23 K_By_32 ?_
        refine xr_icmp_ge (tgt := 30) D_By_bytesFor_25 rfl (fun c4 => ?_) (fun c4 => ?_)
        · refine xr_iload_n D_By_bytesFor_30 rfl rfl ?_
          refine xr_ldc (v := (-8388608)) D_By_bytesFor_31 K_By_33 ?_
          refine xr_icmp_lt (tgt := 46) D_By_bytesFor_33 rfl (fun c5 => ?_) (fun c5 => ?_)
          · refine xr_iconst (v := 4) D_By_bytesFor_46 rfl ?_
            refine xr_iret rfl D_By_bytesFor_47 ?_
            first | exact oi (bfN_1 (by grind)) | exact oi (bfN_2 (by grind) (by grind)) | exact oi (bfN_3 (by grind) (by grind) (by grind)) | exact oi (bfN_4 (by grind) (by grind) (by grind))
          · refine xr_iload_n D_By_bytesFor_36 rfl rfl ?_
            refine xr_ldc (v := 8388608) D_By_bytesFor_37 K_By_34 ?_
            refine xr_icmp_ge (tgt := 46) D_By_bytesFor_39 rfl (fun c6 => ?_) (fun c6 => ?_)
            · refine xr_iconst (v := 4) D_By_bytesFor_46 rfl ?_
              refine xr_iret rfl D_By_bytesFor_47 ?_
              first | exact oi (bfN_1 (by grind)) | exact oi (bfN_2 (by grind) (by grind)) | exact oi (bfN_3 (by grind) (by grind) (by grind)) | exact oi (bfN_4 (by grind) (by grind) (by grind))
            · refine xr_iconst (v := 3) D_By_bytesFor_42 rfl ?_
              refine xr_goto (tgt := 47) D_By_bytesFor_43 rfl ?_
              refine xr_iret rfl D_By_bytesFor_47 ?_
              first | exact oi (bfN_1 (by grind)) | exact oi (bfN_2 (by grind) (by grind)) | exact oi (bfN_3 (by grind) (by grind) (by grind)) | exact oi (bfN_4 (by grind) (by grind) (by grind))
        · refine xr_iconst (v := 2) D_By_bytesFor_28 rfl ?_
          refine xr_iret rfl D_By_bytesFor_29 ?_
          first | exact oi (bfN_1 (by grind)) | exact oi (bfN_2 (by grind) (by grind)) | exact oi (bfN_3 (by grind) (by grind) (by grind)) | exact oi (bfN_4 (by grind) (by grind) (by grind))
    · refine xr_iconst (v := 1) D_By_bytesFor_13 rfl ?_
      refine xr_iret rfl D_By_bytesFor_14 ?_
      first | exact oi (bfN_1 (by grind)) | exact oi (bfN_2 (by grind) (by grind)) | exact oi (bfN_3 (by grind) (by grind) (by grind)) | exact oi (bfN_4 (by grind) (by grind) (by grind))

theorem c_By_add_14 {I : mI} {A : mA} {L : mL} {B : List Int32} {x : Int32} (hB : isB (I 1401) (A 15) B) : xm m_By_add (0, 0) [.ref 14, .int x] (pic I A L) 0 0 (pB I A L 1401 15 (app B [x &&& 255])) := by
  refine xm_of rfl (by decide) (Nat.le_of_ble_eq_true rfl) ?_
  refine xr_aload_n D_By_add_0 rfl rfl ?_
  refine xr_getf F_By_16 D_By_add_1 rfl rfl ?_
  refine xr_if_lt (tgt := 40) D_By_add_4 rfl (fun c1 => ?_) (fun c1 => ?_)
  · refine xr_vret rfl D_By_add_40 ?_
    first | exact ⟨I, A, rfl, frI_rf, frA_rf, adB_no hB (by grind)⟩ | exact ⟨_, _, rfl, frI_up List.mem_cons_self, frA_up List.mem_cons_self, adB_ok hB (by grind) (by grind)⟩
  · refine xr_aload_n D_By_add_7 rfl rfl ?_
    refine xr_getf F_By_16 D_By_add_8 rfl rfl ?_
    refine xr_aload_n D_By_add_11 rfl rfl ?_
    refine xr_getf F_By_10 D_By_add_12 rfl rfl ?_
    refine xr_alen (v := 70000) D_By_add_15 rfl (by simp [xtok]) rfl ?_
    refine xr_icmp_ge (tgt := 40) D_By_add_16 rfl (fun c2 => ?_) (fun c2 => ?_)
    · refine xr_vret rfl D_By_add_40 ?_
      first | exact ⟨I, A, rfl, frI_rf, frA_rf, adB_no hB (by grind)⟩ | exact ⟨_, _, rfl, frI_up List.mem_cons_self, frA_up List.mem_cons_self, adB_ok hB (by grind) (by grind)⟩
    · refine xr_aload_n D_By_add_19 rfl rfl ?_
      refine xr_getf F_By_10 D_By_add_20 rfl rfl ?_
      refine xr_aload_n D_By_add_23 rfl rfl ?_
      refine xr_getf F_By_16 D_By_add_24 rfl rfl ?_
      refine xr_iload_n D_By_add_27 rfl rfl ?_
      refine xr_i2b D_By_add_28 ?_
      refine xr_bast D_By_add_29 rfl (by exact i_in2 70000 (by grind) (by grind) rfl) (aset_15) ?_
      refine xr_aload_n D_By_add_30 rfl rfl ?_
      refine xr_dup D_By_add_31 rfl ?_
      refine xr_getf F_By_16 D_By_add_32 rfl rfl ?_
      refine xr_iconst (v := 1) D_By_add_35 rfl ?_
      refine xr_iadd D_By_add_36 ?_
      refine xr_putf F_By_16 FT_By FN_By_1 D_By_add_37 rfl (Nat.le_of_ble_eq_true rfl) rfl rfl (pset_14_1) ?_
      refine xr_vret rfl D_By_add_40 ?_
      first | exact ⟨I, A, rfl, frI_rf, frA_rf, adB_no hB (by grind)⟩ | exact ⟨_, _, rfl, frI_up List.mem_cons_self, frA_up List.mem_cons_self, adB_ok hB (by grind) (by grind)⟩

theorem l_By_addNumber_14 {L : mL} {n w : Int32} : ∀ (k : Nat) (i : Int32) (I : mI) (A : mA) (B : List Int32), i.toInt = (k : Int) - 1 → k ≤ 4 → isB (I 1401) (A 15) B → xr m_By_addNumber none (1, 21) 4 [some (.ref 14), some (.int n), some (.int w), some (.int i)] [] (pic I A L) 0 0 (pB I A L 1401 15 (app B (numB n k))) := by
  intro k
  induction k with
  | zero =>
    intro i I A B hi hk hB
    refine xr_iload_n D_By_addNumber_4 rfl rfl ?_
    refine xr_if_lt (tgt := 24) D_By_addNumber_5 rfl (fun c1 => ?_) (fun c1 => ?_)
    · refine xr_vret rfl D_By_addNumber_24 ?_
      exact ⟨I, A, rfl, frI_rf, frA_rf, by rw [show numB n 0 = [] from rfl, app_nil hB.2.1]; exact hB⟩
    · exact absurd (i_lt.mpr (by rw [hi, z0]; decide)) c1
  | succ k ih =>
    intro i I A B hi hk hB
    have ei : i = Int32.ofNat k := i_eq.mpr (by rw [i_of (by omega)]; omega)
    subst ei
    refine xr_iload_n D_By_addNumber_4 rfl rfl ?_
    refine xr_if_lt (tgt := 24) D_By_addNumber_5 rfl (fun c1 => ?_) (fun c1 => ?_)
    · exact absurd c1 (fun q => by rw [i_lt, hi, z0] at q; omega)
    · refine xr_aload_n D_By_addNumber_8 rfl rfl ?_
      refine xr_iload_n D_By_addNumber_9 rfl rfl ?_
      refine xr_bipush (v := 8) D_By_addNumber_10 rfl ?_
      refine xr_iload_n D_By_addNumber_12 rfl rfl ?_
      refine xr_imul D_By_addNumber_13 ?_
      refine xr_ishr D_By_addNumber_14 ?_
      refine xr_cVv (as := [_]) (c_By_add_14 hB) (L_By_20) (CD_By_add) CI_By D_By_addNumber_15 rfl rfl (by decide) (Nat.le_of_ble_eq_true rfl) (Nat.le_of_eq (Nat.zero_add _)) (Nat.le_of_eq (Nat.zero_add _)) pic_len ?_
      rintro _ ⟨I1, A1, rfl, hI1, hA1, hB1⟩
      refine ⟨_, rfl, rfl, ?_⟩
      refine xr_iinc (c9 := (-1)) D_By_addNumber_18 rfl rfl (by decide) ?_
      refine xr_goto (tgt := 4) D_By_addNumber_21 rfl ?_
      refine xr_mono (ih _ I1 A1 _ ?_ (by omega) hB1) (pB_tr hI1 hA1 (by rw [app_app]; rfl))
      rw [i_add (by rw [zm1, i_of (by omega)]; omega) (by rw [zm1, i_of (by omega)]; omega), zm1, i_of (by omega)]; omega

theorem c_By_addNumber_14 {I : mI} {A : mA} {L : mL} {B : List Int32} {n w : Int32} (k : Nat) (hw : w.toInt = (k : Int)) (hk : k ≤ 4) (hB : isB (I 1401) (A 15) B) : xm m_By_addNumber (1, 21) [.ref 14, .int n, .int w] (pic I A L) 0 0 (pB I A L 1401 15 (app B (numB n k))) := by
  refine xm_of rfl (by decide) (Nat.le_of_ble_eq_true rfl) ?_
  refine xr_iload_n D_By_addNumber_0 rfl rfl ?_
  refine xr_iconst (v := 1) D_By_addNumber_1 rfl ?_
  refine xr_isub D_By_addNumber_2 ?_
  refine xr_istore_n D_By_addNumber_3 rfl (by decide) ?_
  exact l_By_addNumber_14 k _ I A B (by rw [i_sub (by rw [hw, z1]; omega) (by rw [hw, z1]; omega), hw, z1]) hk hB

theorem c_By_addShortest_14 {I : mI} {A : mA} {L : mL} {B : List Int32} {c n : Int32} (hB : isB (I 1401) (A 15) B) : xm m_By_addShortest (2, 44) [.ref 14, .int c, .int n] (pic I A L) 0 0 (pB I A L 1401 15 (app B (((c + Int32.ofNat (bfN n) - 1) &&& 255) :: numB n (bfN n)))) := by
  refine xm_of rfl (by decide) (Nat.le_of_ble_eq_true rfl) ?_
  refine xr_iload_n D_By_addShortest_0 rfl rfl ?_
  refine xr_cSx (as := [_]) (c_By_bytesFor) (L_By_24) (CD_By_bytesFor) D_By_addShortest_1 rfl (by decide) (Nat.le_of_ble_eq_true rfl) (Nat.le_of_eq (Nat.zero_add _)) (Nat.le_of_eq (Nat.zero_add _)) pic_len ?_
  rintro _ rfl
  refine ⟨_, _, rfl, rfl, ?_⟩
  refine xr_istore_n D_By_addShortest_4 rfl (by decide) ?_
  refine xr_aload_n D_By_addShortest_5 rfl rfl ?_
  refine xr_iload_n D_By_addShortest_6 rfl rfl ?_
  refine xr_iload_n D_By_addShortest_7 rfl rfl ?_
  refine xr_iadd D_By_addShortest_8 ?_
  refine xr_iconst (v := 1) D_By_addShortest_9 rfl ?_
  refine xr_isub D_By_addShortest_10 ?_
  refine xr_cVv (as := [_]) (c_By_add_14 hB) (L_By_20) (CD_By_add) CI_By D_By_addShortest_11 rfl rfl (by decide) (Nat.le_of_ble_eq_true rfl) (Nat.le_of_eq (Nat.zero_add _)) (Nat.le_of_eq (Nat.zero_add _)) pic_len ?_
  rintro _ ⟨I2, A2, rfl, hI2, hA2, hB2⟩
  refine ⟨_, rfl, rfl, ?_⟩
  refine xr_aload_n D_By_addShortest_14 rfl rfl ?_
  refine xr_iload_n D_By_addShortest_15 rfl rfl ?_
  refine xr_iload_n D_By_addShortest_16 rfl rfl ?_
  refine xr_cVv (as := [_, _]) (c_By_addNumber_14 _ bfN_t bfN_le.2 hB2) (L_By_28) (CD_By_addNumber) CI_By D_By_addShortest_17 rfl rfl (by decide) (Nat.le_of_ble_eq_true rfl) (Nat.le_of_eq (Nat.zero_add _)) (Nat.le_of_eq (Nat.zero_add _)) pic_len ?_
  rintro _ ⟨I3, A3, rfl, hI3, hA3, hB3⟩
  refine ⟨_, rfl, rfl, ?_⟩
  refine xr_vret rfl D_By_addShortest_20 ?_
  exact ⟨_, _, rfl, frI_tr hI2 hI3 (fun _ h => h) (fun _ h => h), frA_tr hA2 hA3 (fun _ h => h) (fun _ h => h), by rw [app_app] at hB3; exact hB3⟩

theorem l_By_number_14 {I : mI} {A : mA} {L : mL} {p w : Int32} {k : Nat} (hw : w.toInt = (k : Int)) (hk : k ≤ 4) : ∀ (t j : Nat), j + t = k → xr m_By_number none (1, 21) 5 [some (.ref 14), some (.int p), some (.int w), some (.int (nrd (gat (I 1401) (A 15)) p j)), some (.int (Int32.ofNat j))] [] (pic I A L) 0 0 (fun o => o = (.inl (some (.int (nrd (gat (I 1401) (A 15)) p k))), pic I A L)) := by
  intro t
  induction t with
  | zero =>
    intro j hj
    have hj : j = k := by omega
    subst hj
    refine xr_iload D_By_number_5 rfl ?_
    refine xr_iload_n D_By_number_7 rfl rfl ?_
    refine xr_icmp_ge (tgt := 31) D_By_number_8 rfl (fun c1 => ?_) (fun c1 => ?_)
    · refine xr_iload_n D_By_number_31 rfl rfl ?_
      refine xr_iret rfl D_By_number_32 ?_
      exact rfl
    · exact absurd (i_le.mpr (by rw [hw, i_of (by omega)]; omega)) c1
  | succ t ih =>
    intro j hj
    refine xr_iload D_By_number_5 rfl ?_
    refine xr_iload_n D_By_number_7 rfl rfl ?_
    refine xr_icmp_ge (tgt := 31) D_By_number_8 rfl (fun c1 => ?_) (fun c1 => ?_)
    · exact absurd c1 (fun q => by rw [i_le, hw, i_of (by omega)] at q; omega)
    · refine xr_iload_n D_By_number_11 rfl rfl ?_
      refine xr_bipush (v := 8) D_By_number_12 rfl ?_
      refine xr_ishl D_By_number_14 ?_
      refine xr_aload_n D_By_number_15 rfl rfl ?_
      refine xr_iload_n D_By_number_16 rfl rfl ?_
      refine xr_iload D_By_number_17 rfl ?_
      refine xr_iadd D_By_number_19 ?_
      refine xr_cVx (as := [_]) (c_By_at_14) (L_By_35) (CD_By_at) CI_By D_By_number_20 rfl rfl (by decide) (Nat.le_of_ble_eq_true rfl) (Nat.le_of_eq (Nat.zero_add _)) (Nat.le_of_eq (Nat.zero_add _)) pic_len ?_
      rintro _ rfl
      refine ⟨_, _, rfl, rfl, ?_⟩
      refine xr_ior D_By_number_23 ?_
      refine xr_istore_n D_By_number_24 rfl (by decide) ?_
      refine xr_iinc (c9 := 1) D_By_number_25 rfl rfl (by decide) ?_
      refine xr_goto (tgt := 5) D_By_number_28 rfl ?_
      rw [io_succ]
      exact ih (j + 1) (by omega)

theorem c_By_number_14 {I : mI} {A : mA} {L : mL} {p w : Int32} (k : Nat) (hw : w.toInt = (k : Int)) (hk : k ≤ 4) : xm m_By_number (1, 21) [.ref 14, .int p, .int w] (pic I A L) 0 0 (fun o => o = (.inl (some (.int (nrd (gat (I 1401) (A 15)) p k))), pic I A L)) := by
  refine xm_of rfl (by decide) (Nat.le_of_ble_eq_true rfl) ?_
  refine xr_iconst (v := 0) D_By_number_0 rfl ?_
  refine xr_istore_n D_By_number_1 rfl (by decide) ?_
  refine xr_iconst (v := 0) D_By_number_2 rfl ?_
  refine xr_istore D_By_number_3 (by decide) ?_
  exact l_By_number_14 hw hk k 0 (by omega)

theorem c_By_signedNumber_14 {I : mI} {A : mA} {L : mL} {p w : Int32} (k : Nat) (hw : w.toInt = (k : Int)) (hk : k ≤ 4) : xm m_By_signedNumber (2, 45) [.ref 14, .int p, .int w] (pic I A L) 0 0 (fun o => o = (.inl (some (.int ((nrd (gat (I 1401) (A 15)) p k <<< ((32 - 8 * w) &&& 31)) >>> ((32 - 8 * w) &&& 31)))), pic I A L)) := by
  refine xm_of rfl (by decide) (Nat.le_of_ble_eq_true rfl) ?_
  refine xr_bipush (v := 32) D_By_signedNumber_0 rfl ?_
  refine xr_bipush (v := 8) D_By_signedNumber_2 rfl ?_
  refine xr_iload_n D_By_signedNumber_4 rfl rfl ?_
  refine xr_imul D_By_signedNumber_5 ?_
  refine xr_isub D_By_signedNumber_6 ?_
  refine xr_istore_n D_By_signedNumber_7 rfl (by decide) ?_
  refine xr_aload_n D_By_signedNumber_8 rfl rfl ?_
  refine xr_iload_n D_By_signedNumber_9 rfl rfl ?_
  refine xr_iload_n D_By_signedNumber_10 rfl rfl ?_
  refine xr_cVx (as := [_, _]) (c_By_number_14 _ hw hk) (L_By_38) (CD_By_number) CI_By D_By_signedNumber_11 rfl rfl (by decide) (Nat.le_of_ble_eq_true rfl) (Nat.le_of_eq (Nat.zero_add _)) (Nat.le_of_eq (Nat.zero_add _)) pic_len ?_
  rintro _ rfl
  refine ⟨_, _, rfl, rfl, ?_⟩
  refine xr_iload_n D_By_signedNumber_14 rfl rfl ?_
  refine xr_ishl D_By_signedNumber_15 ?_
  refine xr_iload_n D_By_signedNumber_16 rfl rfl ?_
  refine xr_ishr D_By_signedNumber_17 ?_
  refine xr_iret rfl D_By_signedNumber_18 ?_
  exact rfl

theorem c_By_cut_14 {I : mI} {A : mA} {L : mL} {n : Int32} (h0 : 0 ≤ n) (h1 : n ≤ I 1401) : xm m_By_cut (0, 0) [.ref 14, .int n] (pic I A L) 0 0 (fun o => o = (.inl none, pic (upd I 1401 n) A L)) := by
  refine xm_of rfl (by decide) (Nat.le_of_ble_eq_true rfl) ?_
  refine xr_iload_n D_By_cut_0 rfl rfl ?_
  refine xr_if_lt (tgt := 17) D_By_cut_1 rfl (fun c1 => ?_) (fun c1 => ?_)
  · refine xr_vret rfl D_By_cut_17 ?_
    first | exact rfl | (exfalso; grind)
  · refine xr_iload_n D_By_cut_4 rfl rfl ?_
    refine xr_aload_n D_By_cut_5 rfl rfl ?_
    refine xr_getf F_By_16 D_By_cut_6 rfl rfl ?_
    refine xr_icmp_gt (tgt := 17) D_By_cut_9 rfl (fun c2 => ?_) (fun c2 => ?_)
    · refine xr_vret rfl D_By_cut_17 ?_
      first | exact rfl | (exfalso; grind)
    · refine xr_aload_n D_By_cut_12 rfl rfl ?_
      refine xr_iload_n D_By_cut_13 rfl rfl ?_
      refine xr_putf F_By_16 FT_By FN_By_1 D_By_cut_14 rfl (Nat.le_of_ble_eq_true rfl) rfl rfl (pset_14_1) ?_
      refine xr_vret rfl D_By_cut_17 ?_
      first | exact rfl | (exfalso; grind)

theorem c_By_add_22 {I : mI} {A : mA} {L : mL} {B : List Int32} {x : Int32} (hB : isB (I 2201) (A 23) B) : xm m_By_add (0, 0) [.ref 22, .int x] (pic I A L) 0 0 (pB I A L 2201 23 (app B [x &&& 255])) := by
  refine xm_of rfl (by decide) (Nat.le_of_ble_eq_true rfl) ?_
  refine xr_aload_n D_By_add_0 rfl rfl ?_
  refine xr_getf F_By_16 D_By_add_1 rfl rfl ?_
  refine xr_if_lt (tgt := 40) D_By_add_4 rfl (fun c1 => ?_) (fun c1 => ?_)
  · refine xr_vret rfl D_By_add_40 ?_
    first | exact ⟨I, A, rfl, frI_rf, frA_rf, adB_no hB (by grind)⟩ | exact ⟨_, _, rfl, frI_up List.mem_cons_self, frA_up List.mem_cons_self, adB_ok hB (by grind) (by grind)⟩
  · refine xr_aload_n D_By_add_7 rfl rfl ?_
    refine xr_getf F_By_16 D_By_add_8 rfl rfl ?_
    refine xr_aload_n D_By_add_11 rfl rfl ?_
    refine xr_getf F_By_10 D_By_add_12 rfl rfl ?_
    refine xr_alen (v := 70000) D_By_add_15 rfl (by simp [xtok]) rfl ?_
    refine xr_icmp_ge (tgt := 40) D_By_add_16 rfl (fun c2 => ?_) (fun c2 => ?_)
    · refine xr_vret rfl D_By_add_40 ?_
      first | exact ⟨I, A, rfl, frI_rf, frA_rf, adB_no hB (by grind)⟩ | exact ⟨_, _, rfl, frI_up List.mem_cons_self, frA_up List.mem_cons_self, adB_ok hB (by grind) (by grind)⟩
    · refine xr_aload_n D_By_add_19 rfl rfl ?_
      refine xr_getf F_By_10 D_By_add_20 rfl rfl ?_
      refine xr_aload_n D_By_add_23 rfl rfl ?_
      refine xr_getf F_By_16 D_By_add_24 rfl rfl ?_
      refine xr_iload_n D_By_add_27 rfl rfl ?_
      refine xr_i2b D_By_add_28 ?_
      refine xr_bast D_By_add_29 rfl (by exact i_in2 70000 (by grind) (by grind) rfl) (aset_23) ?_
      refine xr_aload_n D_By_add_30 rfl rfl ?_
      refine xr_dup D_By_add_31 rfl ?_
      refine xr_getf F_By_16 D_By_add_32 rfl rfl ?_
      refine xr_iconst (v := 1) D_By_add_35 rfl ?_
      refine xr_iadd D_By_add_36 ?_
      refine xr_putf F_By_16 FT_By FN_By_1 D_By_add_37 rfl (Nat.le_of_ble_eq_true rfl) rfl rfl (pset_22_1) ?_
      refine xr_vret rfl D_By_add_40 ?_
      first | exact ⟨I, A, rfl, frI_rf, frA_rf, adB_no hB (by grind)⟩ | exact ⟨_, _, rfl, frI_up List.mem_cons_self, frA_up List.mem_cons_self, adB_ok hB (by grind) (by grind)⟩

theorem l_By_addNumber_22 {L : mL} {n w : Int32} : ∀ (k : Nat) (i : Int32) (I : mI) (A : mA) (B : List Int32), i.toInt = (k : Int) - 1 → k ≤ 4 → isB (I 2201) (A 23) B → xr m_By_addNumber none (1, 21) 4 [some (.ref 22), some (.int n), some (.int w), some (.int i)] [] (pic I A L) 0 0 (pB I A L 2201 23 (app B (numB n k))) := by
  intro k
  induction k with
  | zero =>
    intro i I A B hi hk hB
    refine xr_iload_n D_By_addNumber_4 rfl rfl ?_
    refine xr_if_lt (tgt := 24) D_By_addNumber_5 rfl (fun c1 => ?_) (fun c1 => ?_)
    · refine xr_vret rfl D_By_addNumber_24 ?_
      exact ⟨I, A, rfl, frI_rf, frA_rf, by rw [show numB n 0 = [] from rfl, app_nil hB.2.1]; exact hB⟩
    · exact absurd (i_lt.mpr (by rw [hi, z0]; decide)) c1
  | succ k ih =>
    intro i I A B hi hk hB
    have ei : i = Int32.ofNat k := i_eq.mpr (by rw [i_of (by omega)]; omega)
    subst ei
    refine xr_iload_n D_By_addNumber_4 rfl rfl ?_
    refine xr_if_lt (tgt := 24) D_By_addNumber_5 rfl (fun c1 => ?_) (fun c1 => ?_)
    · exact absurd c1 (fun q => by rw [i_lt, hi, z0] at q; omega)
    · refine xr_aload_n D_By_addNumber_8 rfl rfl ?_
      refine xr_iload_n D_By_addNumber_9 rfl rfl ?_
      refine xr_bipush (v := 8) D_By_addNumber_10 rfl ?_
      refine xr_iload_n D_By_addNumber_12 rfl rfl ?_
      refine xr_imul D_By_addNumber_13 ?_
      refine xr_ishr D_By_addNumber_14 ?_
      refine xr_cVv (as := [_]) (c_By_add_22 hB) (L_By_20) (CD_By_add) CI_By D_By_addNumber_15 rfl rfl (by decide) (Nat.le_of_ble_eq_true rfl) (Nat.le_of_eq (Nat.zero_add _)) (Nat.le_of_eq (Nat.zero_add _)) pic_len ?_
      rintro _ ⟨I1, A1, rfl, hI1, hA1, hB1⟩
      refine ⟨_, rfl, rfl, ?_⟩
      refine xr_iinc (c9 := (-1)) D_By_addNumber_18 rfl rfl (by decide) ?_
      refine xr_goto (tgt := 4) D_By_addNumber_21 rfl ?_
      refine xr_mono (ih _ I1 A1 _ ?_ (by omega) hB1) (pB_tr hI1 hA1 (by rw [app_app]; rfl))
      rw [i_add (by rw [zm1, i_of (by omega)]; omega) (by rw [zm1, i_of (by omega)]; omega), zm1, i_of (by omega)]; omega

theorem c_By_addNumber_22 {I : mI} {A : mA} {L : mL} {B : List Int32} {n w : Int32} (k : Nat) (hw : w.toInt = (k : Int)) (hk : k ≤ 4) (hB : isB (I 2201) (A 23) B) : xm m_By_addNumber (1, 21) [.ref 22, .int n, .int w] (pic I A L) 0 0 (pB I A L 2201 23 (app B (numB n k))) := by
  refine xm_of rfl (by decide) (Nat.le_of_ble_eq_true rfl) ?_
  refine xr_iload_n D_By_addNumber_0 rfl rfl ?_
  refine xr_iconst (v := 1) D_By_addNumber_1 rfl ?_
  refine xr_isub D_By_addNumber_2 ?_
  refine xr_istore_n D_By_addNumber_3 rfl (by decide) ?_
  exact l_By_addNumber_22 k _ I A B (by rw [i_sub (by rw [hw, z1]; omega) (by rw [hw, z1]; omega), hw, z1]) hk hB

theorem c_By_addShortest_22 {I : mI} {A : mA} {L : mL} {B : List Int32} {c n : Int32} (hB : isB (I 2201) (A 23) B) : xm m_By_addShortest (2, 44) [.ref 22, .int c, .int n] (pic I A L) 0 0 (pB I A L 2201 23 (app B (((c + Int32.ofNat (bfN n) - 1) &&& 255) :: numB n (bfN n)))) := by
  refine xm_of rfl (by decide) (Nat.le_of_ble_eq_true rfl) ?_
  refine xr_iload_n D_By_addShortest_0 rfl rfl ?_
  refine xr_cSx (as := [_]) (c_By_bytesFor) (L_By_24) (CD_By_bytesFor) D_By_addShortest_1 rfl (by decide) (Nat.le_of_ble_eq_true rfl) (Nat.le_of_eq (Nat.zero_add _)) (Nat.le_of_eq (Nat.zero_add _)) pic_len ?_
  rintro _ rfl
  refine ⟨_, _, rfl, rfl, ?_⟩
  refine xr_istore_n D_By_addShortest_4 rfl (by decide) ?_
  refine xr_aload_n D_By_addShortest_5 rfl rfl ?_
  refine xr_iload_n D_By_addShortest_6 rfl rfl ?_
  refine xr_iload_n D_By_addShortest_7 rfl rfl ?_
  refine xr_iadd D_By_addShortest_8 ?_
  refine xr_iconst (v := 1) D_By_addShortest_9 rfl ?_
  refine xr_isub D_By_addShortest_10 ?_
  refine xr_cVv (as := [_]) (c_By_add_22 hB) (L_By_20) (CD_By_add) CI_By D_By_addShortest_11 rfl rfl (by decide) (Nat.le_of_ble_eq_true rfl) (Nat.le_of_eq (Nat.zero_add _)) (Nat.le_of_eq (Nat.zero_add _)) pic_len ?_
  rintro _ ⟨I2, A2, rfl, hI2, hA2, hB2⟩
  refine ⟨_, rfl, rfl, ?_⟩
  refine xr_aload_n D_By_addShortest_14 rfl rfl ?_
  refine xr_iload_n D_By_addShortest_15 rfl rfl ?_
  refine xr_iload_n D_By_addShortest_16 rfl rfl ?_
  refine xr_cVv (as := [_, _]) (c_By_addNumber_22 _ bfN_t bfN_le.2 hB2) (L_By_28) (CD_By_addNumber) CI_By D_By_addShortest_17 rfl rfl (by decide) (Nat.le_of_ble_eq_true rfl) (Nat.le_of_eq (Nat.zero_add _)) (Nat.le_of_eq (Nat.zero_add _)) pic_len ?_
  rintro _ ⟨I3, A3, rfl, hI3, hA3, hB3⟩
  refine ⟨_, rfl, rfl, ?_⟩
  refine xr_vret rfl D_By_addShortest_20 ?_
  exact ⟨_, _, rfl, frI_tr hI2 hI3 (fun _ h => h) (fun _ h => h), frA_tr hA2 hA3 (fun _ h => h) (fun _ h => h), by rw [app_app] at hB3; exact hB3⟩

theorem l_By_number_22 {I : mI} {A : mA} {L : mL} {p w : Int32} {k : Nat} (hw : w.toInt = (k : Int)) (hk : k ≤ 4) : ∀ (t j : Nat), j + t = k → xr m_By_number none (1, 21) 5 [some (.ref 22), some (.int p), some (.int w), some (.int (nrd (gat (I 2201) (A 23)) p j)), some (.int (Int32.ofNat j))] [] (pic I A L) 0 0 (fun o => o = (.inl (some (.int (nrd (gat (I 2201) (A 23)) p k))), pic I A L)) := by
  intro t
  induction t with
  | zero =>
    intro j hj
    have hj : j = k := by omega
    subst hj
    refine xr_iload D_By_number_5 rfl ?_
    refine xr_iload_n D_By_number_7 rfl rfl ?_
    refine xr_icmp_ge (tgt := 31) D_By_number_8 rfl (fun c1 => ?_) (fun c1 => ?_)
    · refine xr_iload_n D_By_number_31 rfl rfl ?_
      refine xr_iret rfl D_By_number_32 ?_
      exact rfl
    · exact absurd (i_le.mpr (by rw [hw, i_of (by omega)]; omega)) c1
  | succ t ih =>
    intro j hj
    refine xr_iload D_By_number_5 rfl ?_
    refine xr_iload_n D_By_number_7 rfl rfl ?_
    refine xr_icmp_ge (tgt := 31) D_By_number_8 rfl (fun c1 => ?_) (fun c1 => ?_)
    · exact absurd c1 (fun q => by rw [i_le, hw, i_of (by omega)] at q; omega)
    · refine xr_iload_n D_By_number_11 rfl rfl ?_
      refine xr_bipush (v := 8) D_By_number_12 rfl ?_
      refine xr_ishl D_By_number_14 ?_
      refine xr_aload_n D_By_number_15 rfl rfl ?_
      refine xr_iload_n D_By_number_16 rfl rfl ?_
      refine xr_iload D_By_number_17 rfl ?_
      refine xr_iadd D_By_number_19 ?_
      refine xr_cVx (as := [_]) (c_By_at_22) (L_By_35) (CD_By_at) CI_By D_By_number_20 rfl rfl (by decide) (Nat.le_of_ble_eq_true rfl) (Nat.le_of_eq (Nat.zero_add _)) (Nat.le_of_eq (Nat.zero_add _)) pic_len ?_
      rintro _ rfl
      refine ⟨_, _, rfl, rfl, ?_⟩
      refine xr_ior D_By_number_23 ?_
      refine xr_istore_n D_By_number_24 rfl (by decide) ?_
      refine xr_iinc (c9 := 1) D_By_number_25 rfl rfl (by decide) ?_
      refine xr_goto (tgt := 5) D_By_number_28 rfl ?_
      rw [io_succ]
      exact ih (j + 1) (by omega)

theorem c_By_number_22 {I : mI} {A : mA} {L : mL} {p w : Int32} (k : Nat) (hw : w.toInt = (k : Int)) (hk : k ≤ 4) : xm m_By_number (1, 21) [.ref 22, .int p, .int w] (pic I A L) 0 0 (fun o => o = (.inl (some (.int (nrd (gat (I 2201) (A 23)) p k))), pic I A L)) := by
  refine xm_of rfl (by decide) (Nat.le_of_ble_eq_true rfl) ?_
  refine xr_iconst (v := 0) D_By_number_0 rfl ?_
  refine xr_istore_n D_By_number_1 rfl (by decide) ?_
  refine xr_iconst (v := 0) D_By_number_2 rfl ?_
  refine xr_istore D_By_number_3 (by decide) ?_
  exact l_By_number_22 hw hk k 0 (by omega)

theorem c_By_signedNumber_22 {I : mI} {A : mA} {L : mL} {p w : Int32} (k : Nat) (hw : w.toInt = (k : Int)) (hk : k ≤ 4) : xm m_By_signedNumber (2, 45) [.ref 22, .int p, .int w] (pic I A L) 0 0 (fun o => o = (.inl (some (.int ((nrd (gat (I 2201) (A 23)) p k <<< ((32 - 8 * w) &&& 31)) >>> ((32 - 8 * w) &&& 31)))), pic I A L)) := by
  refine xm_of rfl (by decide) (Nat.le_of_ble_eq_true rfl) ?_
  refine xr_bipush (v := 32) D_By_signedNumber_0 rfl ?_
  refine xr_bipush (v := 8) D_By_signedNumber_2 rfl ?_
  refine xr_iload_n D_By_signedNumber_4 rfl rfl ?_
  refine xr_imul D_By_signedNumber_5 ?_
  refine xr_isub D_By_signedNumber_6 ?_
  refine xr_istore_n D_By_signedNumber_7 rfl (by decide) ?_
  refine xr_aload_n D_By_signedNumber_8 rfl rfl ?_
  refine xr_iload_n D_By_signedNumber_9 rfl rfl ?_
  refine xr_iload_n D_By_signedNumber_10 rfl rfl ?_
  refine xr_cVx (as := [_, _]) (c_By_number_22 _ hw hk) (L_By_38) (CD_By_number) CI_By D_By_signedNumber_11 rfl rfl (by decide) (Nat.le_of_ble_eq_true rfl) (Nat.le_of_eq (Nat.zero_add _)) (Nat.le_of_eq (Nat.zero_add _)) pic_len ?_
  rintro _ rfl
  refine ⟨_, _, rfl, rfl, ?_⟩
  refine xr_iload_n D_By_signedNumber_14 rfl rfl ?_
  refine xr_ishl D_By_signedNumber_15 ?_
  refine xr_iload_n D_By_signedNumber_16 rfl rfl ?_
  refine xr_ishr D_By_signedNumber_17 ?_
  refine xr_iret rfl D_By_signedNumber_18 ?_
  exact rfl

theorem c_By_cut_22 {I : mI} {A : mA} {L : mL} {n : Int32} (h0 : 0 ≤ n) (h1 : n ≤ I 2201) : xm m_By_cut (0, 0) [.ref 22, .int n] (pic I A L) 0 0 (fun o => o = (.inl none, pic (upd I 2201 n) A L)) := by
  refine xm_of rfl (by decide) (Nat.le_of_ble_eq_true rfl) ?_
  refine xr_iload_n D_By_cut_0 rfl rfl ?_
  refine xr_if_lt (tgt := 17) D_By_cut_1 rfl (fun c1 => ?_) (fun c1 => ?_)
  · refine xr_vret rfl D_By_cut_17 ?_
    first | exact rfl | (exfalso; grind)
  · refine xr_iload_n D_By_cut_4 rfl rfl ?_
    refine xr_aload_n D_By_cut_5 rfl rfl ?_
    refine xr_getf F_By_16 D_By_cut_6 rfl rfl ?_
    refine xr_icmp_gt (tgt := 17) D_By_cut_9 rfl (fun c2 => ?_) (fun c2 => ?_)
    · refine xr_vret rfl D_By_cut_17 ?_
      first | exact rfl | (exfalso; grind)
    · refine xr_aload_n D_By_cut_12 rfl rfl ?_
      refine xr_iload_n D_By_cut_13 rfl rfl ?_
      refine xr_putf F_By_16 FT_By FN_By_1 D_By_cut_14 rfl (Nat.le_of_ble_eq_true rfl) rfl rfl (pset_22_1) ?_
      refine xr_vret rfl D_By_cut_17 ?_
      first | exact rfl | (exfalso; grind)

theorem c_By_add_29 {I : mI} {A : mA} {L : mL} {B : List Int32} {x : Int32} (hB : isB (I 2901) (A 30) B) : xm m_By_add (0, 0) [.ref 29, .int x] (pic I A L) 0 0 (pB I A L 2901 30 (app B [x &&& 255])) := by
  refine xm_of rfl (by decide) (Nat.le_of_ble_eq_true rfl) ?_
  refine xr_aload_n D_By_add_0 rfl rfl ?_
  refine xr_getf F_By_16 D_By_add_1 rfl rfl ?_
  refine xr_if_lt (tgt := 40) D_By_add_4 rfl (fun c1 => ?_) (fun c1 => ?_)
  · refine xr_vret rfl D_By_add_40 ?_
    first | exact ⟨I, A, rfl, frI_rf, frA_rf, adB_no hB (by grind)⟩ | exact ⟨_, _, rfl, frI_up List.mem_cons_self, frA_up List.mem_cons_self, adB_ok hB (by grind) (by grind)⟩
  · refine xr_aload_n D_By_add_7 rfl rfl ?_
    refine xr_getf F_By_16 D_By_add_8 rfl rfl ?_
    refine xr_aload_n D_By_add_11 rfl rfl ?_
    refine xr_getf F_By_10 D_By_add_12 rfl rfl ?_
    refine xr_alen (v := 70000) D_By_add_15 rfl (by simp [xtok]) rfl ?_
    refine xr_icmp_ge (tgt := 40) D_By_add_16 rfl (fun c2 => ?_) (fun c2 => ?_)
    · refine xr_vret rfl D_By_add_40 ?_
      first | exact ⟨I, A, rfl, frI_rf, frA_rf, adB_no hB (by grind)⟩ | exact ⟨_, _, rfl, frI_up List.mem_cons_self, frA_up List.mem_cons_self, adB_ok hB (by grind) (by grind)⟩
    · refine xr_aload_n D_By_add_19 rfl rfl ?_
      refine xr_getf F_By_10 D_By_add_20 rfl rfl ?_
      refine xr_aload_n D_By_add_23 rfl rfl ?_
      refine xr_getf F_By_16 D_By_add_24 rfl rfl ?_
      refine xr_iload_n D_By_add_27 rfl rfl ?_
      refine xr_i2b D_By_add_28 ?_
      refine xr_bast D_By_add_29 rfl (by exact i_in2 70000 (by grind) (by grind) rfl) (aset_30) ?_
      refine xr_aload_n D_By_add_30 rfl rfl ?_
      refine xr_dup D_By_add_31 rfl ?_
      refine xr_getf F_By_16 D_By_add_32 rfl rfl ?_
      refine xr_iconst (v := 1) D_By_add_35 rfl ?_
      refine xr_iadd D_By_add_36 ?_
      refine xr_putf F_By_16 FT_By FN_By_1 D_By_add_37 rfl (Nat.le_of_ble_eq_true rfl) rfl rfl (pset_29_1) ?_
      refine xr_vret rfl D_By_add_40 ?_
      first | exact ⟨I, A, rfl, frI_rf, frA_rf, adB_no hB (by grind)⟩ | exact ⟨_, _, rfl, frI_up List.mem_cons_self, frA_up List.mem_cons_self, adB_ok hB (by grind) (by grind)⟩

theorem l_By_addNumber_29 {L : mL} {n w : Int32} : ∀ (k : Nat) (i : Int32) (I : mI) (A : mA) (B : List Int32), i.toInt = (k : Int) - 1 → k ≤ 4 → isB (I 2901) (A 30) B → xr m_By_addNumber none (1, 21) 4 [some (.ref 29), some (.int n), some (.int w), some (.int i)] [] (pic I A L) 0 0 (pB I A L 2901 30 (app B (numB n k))) := by
  intro k
  induction k with
  | zero =>
    intro i I A B hi hk hB
    refine xr_iload_n D_By_addNumber_4 rfl rfl ?_
    refine xr_if_lt (tgt := 24) D_By_addNumber_5 rfl (fun c1 => ?_) (fun c1 => ?_)
    · refine xr_vret rfl D_By_addNumber_24 ?_
      exact ⟨I, A, rfl, frI_rf, frA_rf, by rw [show numB n 0 = [] from rfl, app_nil hB.2.1]; exact hB⟩
    · exact absurd (i_lt.mpr (by rw [hi, z0]; decide)) c1
  | succ k ih =>
    intro i I A B hi hk hB
    have ei : i = Int32.ofNat k := i_eq.mpr (by rw [i_of (by omega)]; omega)
    subst ei
    refine xr_iload_n D_By_addNumber_4 rfl rfl ?_
    refine xr_if_lt (tgt := 24) D_By_addNumber_5 rfl (fun c1 => ?_) (fun c1 => ?_)
    · exact absurd c1 (fun q => by rw [i_lt, hi, z0] at q; omega)
    · refine xr_aload_n D_By_addNumber_8 rfl rfl ?_
      refine xr_iload_n D_By_addNumber_9 rfl rfl ?_
      refine xr_bipush (v := 8) D_By_addNumber_10 rfl ?_
      refine xr_iload_n D_By_addNumber_12 rfl rfl ?_
      refine xr_imul D_By_addNumber_13 ?_
      refine xr_ishr D_By_addNumber_14 ?_
      refine xr_cVv (as := [_]) (c_By_add_29 hB) (L_By_20) (CD_By_add) CI_By D_By_addNumber_15 rfl rfl (by decide) (Nat.le_of_ble_eq_true rfl) (Nat.le_of_eq (Nat.zero_add _)) (Nat.le_of_eq (Nat.zero_add _)) pic_len ?_
      rintro _ ⟨I1, A1, rfl, hI1, hA1, hB1⟩
      refine ⟨_, rfl, rfl, ?_⟩
      refine xr_iinc (c9 := (-1)) D_By_addNumber_18 rfl rfl (by decide) ?_
      refine xr_goto (tgt := 4) D_By_addNumber_21 rfl ?_
      refine xr_mono (ih _ I1 A1 _ ?_ (by omega) hB1) (pB_tr hI1 hA1 (by rw [app_app]; rfl))
      rw [i_add (by rw [zm1, i_of (by omega)]; omega) (by rw [zm1, i_of (by omega)]; omega), zm1, i_of (by omega)]; omega

theorem c_By_addNumber_29 {I : mI} {A : mA} {L : mL} {B : List Int32} {n w : Int32} (k : Nat) (hw : w.toInt = (k : Int)) (hk : k ≤ 4) (hB : isB (I 2901) (A 30) B) : xm m_By_addNumber (1, 21) [.ref 29, .int n, .int w] (pic I A L) 0 0 (pB I A L 2901 30 (app B (numB n k))) := by
  refine xm_of rfl (by decide) (Nat.le_of_ble_eq_true rfl) ?_
  refine xr_iload_n D_By_addNumber_0 rfl rfl ?_
  refine xr_iconst (v := 1) D_By_addNumber_1 rfl ?_
  refine xr_isub D_By_addNumber_2 ?_
  refine xr_istore_n D_By_addNumber_3 rfl (by decide) ?_
  exact l_By_addNumber_29 k _ I A B (by rw [i_sub (by rw [hw, z1]; omega) (by rw [hw, z1]; omega), hw, z1]) hk hB

theorem c_By_addShortest_29 {I : mI} {A : mA} {L : mL} {B : List Int32} {c n : Int32} (hB : isB (I 2901) (A 30) B) : xm m_By_addShortest (2, 44) [.ref 29, .int c, .int n] (pic I A L) 0 0 (pB I A L 2901 30 (app B (((c + Int32.ofNat (bfN n) - 1) &&& 255) :: numB n (bfN n)))) := by
  refine xm_of rfl (by decide) (Nat.le_of_ble_eq_true rfl) ?_
  refine xr_iload_n D_By_addShortest_0 rfl rfl ?_
  refine xr_cSx (as := [_]) (c_By_bytesFor) (L_By_24) (CD_By_bytesFor) D_By_addShortest_1 rfl (by decide) (Nat.le_of_ble_eq_true rfl) (Nat.le_of_eq (Nat.zero_add _)) (Nat.le_of_eq (Nat.zero_add _)) pic_len ?_
  rintro _ rfl
  refine ⟨_, _, rfl, rfl, ?_⟩
  refine xr_istore_n D_By_addShortest_4 rfl (by decide) ?_
  refine xr_aload_n D_By_addShortest_5 rfl rfl ?_
  refine xr_iload_n D_By_addShortest_6 rfl rfl ?_
  refine xr_iload_n D_By_addShortest_7 rfl rfl ?_
  refine xr_iadd D_By_addShortest_8 ?_
  refine xr_iconst (v := 1) D_By_addShortest_9 rfl ?_
  refine xr_isub D_By_addShortest_10 ?_
  refine xr_cVv (as := [_]) (c_By_add_29 hB) (L_By_20) (CD_By_add) CI_By D_By_addShortest_11 rfl rfl (by decide) (Nat.le_of_ble_eq_true rfl) (Nat.le_of_eq (Nat.zero_add _)) (Nat.le_of_eq (Nat.zero_add _)) pic_len ?_
  rintro _ ⟨I2, A2, rfl, hI2, hA2, hB2⟩
  refine ⟨_, rfl, rfl, ?_⟩
  refine xr_aload_n D_By_addShortest_14 rfl rfl ?_
  refine xr_iload_n D_By_addShortest_15 rfl rfl ?_
  refine xr_iload_n D_By_addShortest_16 rfl rfl ?_
  refine xr_cVv (as := [_, _]) (c_By_addNumber_29 _ bfN_t bfN_le.2 hB2) (L_By_28) (CD_By_addNumber) CI_By D_By_addShortest_17 rfl rfl (by decide) (Nat.le_of_ble_eq_true rfl) (Nat.le_of_eq (Nat.zero_add _)) (Nat.le_of_eq (Nat.zero_add _)) pic_len ?_
  rintro _ ⟨I3, A3, rfl, hI3, hA3, hB3⟩
  refine ⟨_, rfl, rfl, ?_⟩
  refine xr_vret rfl D_By_addShortest_20 ?_
  exact ⟨_, _, rfl, frI_tr hI2 hI3 (fun _ h => h) (fun _ h => h), frA_tr hA2 hA3 (fun _ h => h) (fun _ h => h), by rw [app_app] at hB3; exact hB3⟩

theorem l_By_number_29 {I : mI} {A : mA} {L : mL} {p w : Int32} {k : Nat} (hw : w.toInt = (k : Int)) (hk : k ≤ 4) : ∀ (t j : Nat), j + t = k → xr m_By_number none (1, 21) 5 [some (.ref 29), some (.int p), some (.int w), some (.int (nrd (gat (I 2901) (A 30)) p j)), some (.int (Int32.ofNat j))] [] (pic I A L) 0 0 (fun o => o = (.inl (some (.int (nrd (gat (I 2901) (A 30)) p k))), pic I A L)) := by
  intro t
  induction t with
  | zero =>
    intro j hj
    have hj : j = k := by omega
    subst hj
    refine xr_iload D_By_number_5 rfl ?_
    refine xr_iload_n D_By_number_7 rfl rfl ?_
    refine xr_icmp_ge (tgt := 31) D_By_number_8 rfl (fun c1 => ?_) (fun c1 => ?_)
    · refine xr_iload_n D_By_number_31 rfl rfl ?_
      refine xr_iret rfl D_By_number_32 ?_
      exact rfl
    · exact absurd (i_le.mpr (by rw [hw, i_of (by omega)]; omega)) c1
  | succ t ih =>
    intro j hj
    refine xr_iload D_By_number_5 rfl ?_
    refine xr_iload_n D_By_number_7 rfl rfl ?_
    refine xr_icmp_ge (tgt := 31) D_By_number_8 rfl (fun c1 => ?_) (fun c1 => ?_)
    · exact absurd c1 (fun q => by rw [i_le, hw, i_of (by omega)] at q; omega)
    · refine xr_iload_n D_By_number_11 rfl rfl ?_
      refine xr_bipush (v := 8) D_By_number_12 rfl ?_
      refine xr_ishl D_By_number_14 ?_
      refine xr_aload_n D_By_number_15 rfl rfl ?_
      refine xr_iload_n D_By_number_16 rfl rfl ?_
      refine xr_iload D_By_number_17 rfl ?_
      refine xr_iadd D_By_number_19 ?_
      refine xr_cVx (as := [_]) (c_By_at_29) (L_By_35) (CD_By_at) CI_By D_By_number_20 rfl rfl (by decide) (Nat.le_of_ble_eq_true rfl) (Nat.le_of_eq (Nat.zero_add _)) (Nat.le_of_eq (Nat.zero_add _)) pic_len ?_
      rintro _ rfl
      refine ⟨_, _, rfl, rfl, ?_⟩
      refine xr_ior D_By_number_23 ?_
      refine xr_istore_n D_By_number_24 rfl (by decide) ?_
      refine xr_iinc (c9 := 1) D_By_number_25 rfl rfl (by decide) ?_
      refine xr_goto (tgt := 5) D_By_number_28 rfl ?_
      rw [io_succ]
      exact ih (j + 1) (by omega)

theorem c_By_number_29 {I : mI} {A : mA} {L : mL} {p w : Int32} (k : Nat) (hw : w.toInt = (k : Int)) (hk : k ≤ 4) : xm m_By_number (1, 21) [.ref 29, .int p, .int w] (pic I A L) 0 0 (fun o => o = (.inl (some (.int (nrd (gat (I 2901) (A 30)) p k))), pic I A L)) := by
  refine xm_of rfl (by decide) (Nat.le_of_ble_eq_true rfl) ?_
  refine xr_iconst (v := 0) D_By_number_0 rfl ?_
  refine xr_istore_n D_By_number_1 rfl (by decide) ?_
  refine xr_iconst (v := 0) D_By_number_2 rfl ?_
  refine xr_istore D_By_number_3 (by decide) ?_
  exact l_By_number_29 hw hk k 0 (by omega)

theorem c_By_signedNumber_29 {I : mI} {A : mA} {L : mL} {p w : Int32} (k : Nat) (hw : w.toInt = (k : Int)) (hk : k ≤ 4) : xm m_By_signedNumber (2, 45) [.ref 29, .int p, .int w] (pic I A L) 0 0 (fun o => o = (.inl (some (.int ((nrd (gat (I 2901) (A 30)) p k <<< ((32 - 8 * w) &&& 31)) >>> ((32 - 8 * w) &&& 31)))), pic I A L)) := by
  refine xm_of rfl (by decide) (Nat.le_of_ble_eq_true rfl) ?_
  refine xr_bipush (v := 32) D_By_signedNumber_0 rfl ?_
  refine xr_bipush (v := 8) D_By_signedNumber_2 rfl ?_
  refine xr_iload_n D_By_signedNumber_4 rfl rfl ?_
  refine xr_imul D_By_signedNumber_5 ?_
  refine xr_isub D_By_signedNumber_6 ?_
  refine xr_istore_n D_By_signedNumber_7 rfl (by decide) ?_
  refine xr_aload_n D_By_signedNumber_8 rfl rfl ?_
  refine xr_iload_n D_By_signedNumber_9 rfl rfl ?_
  refine xr_iload_n D_By_signedNumber_10 rfl rfl ?_
  refine xr_cVx (as := [_, _]) (c_By_number_29 _ hw hk) (L_By_38) (CD_By_number) CI_By D_By_signedNumber_11 rfl rfl (by decide) (Nat.le_of_ble_eq_true rfl) (Nat.le_of_eq (Nat.zero_add _)) (Nat.le_of_eq (Nat.zero_add _)) pic_len ?_
  rintro _ rfl
  refine ⟨_, _, rfl, rfl, ?_⟩
  refine xr_iload_n D_By_signedNumber_14 rfl rfl ?_
  refine xr_ishl D_By_signedNumber_15 ?_
  refine xr_iload_n D_By_signedNumber_16 rfl rfl ?_
  refine xr_ishr D_By_signedNumber_17 ?_
  refine xr_iret rfl D_By_signedNumber_18 ?_
  exact rfl

theorem c_By_cut_29 {I : mI} {A : mA} {L : mL} {n : Int32} (h0 : 0 ≤ n) (h1 : n ≤ I 2901) : xm m_By_cut (0, 0) [.ref 29, .int n] (pic I A L) 0 0 (fun o => o = (.inl none, pic (upd I 2901 n) A L)) := by
  refine xm_of rfl (by decide) (Nat.le_of_ble_eq_true rfl) ?_
  refine xr_iload_n D_By_cut_0 rfl rfl ?_
  refine xr_if_lt (tgt := 17) D_By_cut_1 rfl (fun c1 => ?_) (fun c1 => ?_)
  · refine xr_vret rfl D_By_cut_17 ?_
    first | exact rfl | (exfalso; grind)
  · refine xr_iload_n D_By_cut_4 rfl rfl ?_
    refine xr_aload_n D_By_cut_5 rfl rfl ?_
    refine xr_getf F_By_16 D_By_cut_6 rfl rfl ?_
    refine xr_icmp_gt (tgt := 17) D_By_cut_9 rfl (fun c2 => ?_) (fun c2 => ?_)
    · refine xr_vret rfl D_By_cut_17 ?_
      first | exact rfl | (exfalso; grind)
    · refine xr_aload_n D_By_cut_12 rfl rfl ?_
      refine xr_iload_n D_By_cut_13 rfl rfl ?_
      refine xr_putf F_By_16 FT_By FN_By_1 D_By_cut_14 rfl (Nat.le_of_ble_eq_true rfl) rfl rfl (pset_29_1) ?_
      refine xr_vret rfl D_By_cut_17 ?_
      first | exact rfl | (exfalso; grind)
