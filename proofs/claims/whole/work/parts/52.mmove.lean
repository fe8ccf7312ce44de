def pM (I : mI) (A : mA) (L : mL) (B : List Int32) : xO → Prop := fun o => ∃ I' A', o = (.inl none, pic I' A' L) ∧ frI [3409] I I' ∧ frA [43] A A' ∧ isO (I' 3409) (A' 43) B
theorem pO_M {I : mI} {A : mA} {L : mL} {B : List Int32} : ∀ o, pO I A L B o → pM I A L B o := by
  rintro _ ⟨u, g, rfl, h⟩
  exact ⟨_, _, rfl, frI_up List.mem_cons_self, frA_upf List.mem_cons_self, h⟩
theorem pM_tr {I I1 : mI} {A A1 : mA} {L : mL} {B B' : List Int32} (h1 : frI [3409] I I1) (h2 : frA [43] A A1) (e : B = B') : ∀ o, pM I1 A1 L B o → pM I A L B' o := by
  rintro o ⟨I2, A2, rfl, k1, k2, k3⟩
  subst e
  exact ⟨I2, A2, rfl, frI_tr h1 k1 (fun _ h => h) (fun _ h => h), frA_tr h2 k2 (fun _ h => h) (fun _ h => h), k3⟩
theorem cmF_mem {od : Nat → Int32} {x : Int32} : ∀ (T : List Int32) (s : Nat), (∀ (i : Nat) (y : Int32), T[i]? = some y → od (s + i) = y) → (cmF od x T.length s = true ↔ x ∈ T) := by
  intro T
  induction T with
  | nil => intro s _; exact ⟨fun h => by simp [cmF] at h, fun h => absurd h List.not_mem_nil⟩
  | cons y T ih =>
    intro s h
    have h0 : od s = y := h 0 y rfl
    have h1 := ih (s + 1) (fun i z hz => by
      have := h (i + 1) z (by rw [List.getElem?_cons_succ]; exact hz)
      rw [← this]
      congr 1
      omega)
    rw [List.length_cons, cmF_s, h0, Bool.or_eq_true, h1, List.mem_cons, beq_iff_eq]
    exact ⟨fun q => q.imp Eq.symm id, fun q => q.imp Eq.symm id⟩
theorem cmN_T {n k : Nat} {f : Nat → Int32} {z : Int32} (h0 : ¬ z = 0) (h : cmF f z (n - (k + 1)) (k + 1) = true) : cmN n f k z = true := decide_eq_true ⟨h0, h⟩
theorem cmN_F {n k : Nat} {f : Nat → Int32} {z : Int32} (h : ¬ cmF f z (n - (k + 1)) (k + 1) = true) : cmN n f k z = false := decide_eq_false (fun q => h q.2)
theorem cmN_0 {n k : Nat} {f : Nat → Int32} {z : Int32} (h : z = 0) : cmN n f k z = false := decide_eq_false (fun q => q.1 h)
theorem mvS_len {p d a b : Int32} {c : Int32 → Bool} : (mvS p d a b c).1.length ≤ 5 := by
  have h : (numB d (bfN d)).length ≤ 4 := by rw [numB_len]; exact bfN_le.2
  unfold mvS shB
  repeat' split
  all_goals simp only [List.length_cons, List.length_nil]
  all_goals omega
def nmM (f : Nat → Int32) (x : Int32) : Nat → Nat → List Int32
  | 0, _ => []
  | t + 1, j => (f (16 * x + Int32.ofNat j).toNatClampNeg &&& 255) :: nmM f x t (j + 1)
theorem nmM_len {f : Nat → Int32} {x : Int32} : ∀ (t j : Nat), (nmM f x t j).length = t := by
  intro t
  induction t with
  | zero => intro j; rfl
  | succ t ih => intro j; show (nmM f x t (j + 1)).length + 1 = _; rw [ih]
def defM (A : mA) (f : Int32) : List Int32 := (243 &&& 255) :: (f &&& 255) :: (numB (A 36 f.toNatClampNeg) 4 ++ (numB (A 37 f.toNatClampNeg) 4 ++ (numB (A 38 f.toNatClampNeg) 4 ++ ((0 &&& 255) :: (A 39 f.toNatClampNeg &&& 255) :: nmM (A 40) f (A 39 f.toNatClampNeg).toInt.toNat 0))))
theorem defM_len {A : mA} {f : Int32} (h0 : 0 ≤ A 39 f.toNatClampNeg) (h1 : A 39 f.toNatClampNeg ≤ 16) : (defM A f).length ≤ 32 := by
  rw [i_le] at h0 h1
  rw [z0] at h0
  rw [show (16 : Int32).toInt = 16 from rfl] at h1
  unfold defM
  simp only [List.length_cons, List.length_append, numB_len, nmM_len]
  omega

theorem n_Mo_lay {I : mI} {A : mA} {L : mL} {B : List Int32} {x : Int32} (hl : B.length < 131072) (hB : isO (I 3409) (A 43) B) : xm m_Mo_lay (0, 0) [.ref 34, .int x] (pic I A L) 0 0 (pM I A L (B ++ [x &&& 255])) := by
  have h := w_Mo_lay (I := I) (A := A) (L := L) (u := I 3409) (g := A 43) (x := x) hl hB
  rw [upd_self, upAf_self2] at h
  exact xm_mono h pO_M
theorem n_Mo_layNumber {I : mI} {A : mA} {L : mL} {B : List Int32} {n w : Int32} (k : Nat) (hw : w.toInt = (k : Int)) (hk : k ≤ 4) (hl : B.length + k ≤ 131072) (hB : isO (I 3409) (A 43) B) : xm m_Mo_layNumber (1, 21) [.ref 34, .int n, .int w] (pic I A L) 0 0 (pM I A L (B ++ numB n k)) := by
  have h := w_Mo_layNumber (I := I) (A := A) (L := L) (u := I 3409) (g := A 43) (n := n) k hw hk hl hB
  rw [upd_self, upAf_self2] at h
  exact xm_mono h pO_M
theorem l_Mo_it {I : mI} {A : mA} {L : mL} {x : Int32} (hm : I 3418 ≤ 256) : ∀ (t j : Nat) (hs : Int32), (hs = 0 ∨ hs = 1) → (j : Int) + t = (I 3418).toInt → xr m_Mo_isTold none (0, 0) 4 [some (.ref 34), some (.int x), some (.int hs), some (.int (Int32.ofNat j))] [] (pic I A L) 0 0 (fun o => o = (.inl (some (.int (b2 (¬ hs = 0 ∨ cmF (A 44) x t j = true)))), pic I A L)) := by
  have hm9 := i_le.mp hm
  have em : (256 : Int32).toInt = 256 := rfl
  intro t
  induction t with
  | zero =>
    intro j hs hz hj
    refine xr_iload_n D_Mo_isTold_4 rfl rfl ?_
    refine xr_aload_n D_Mo_isTold_5 rfl rfl ?_
    refine xr_getf F_Mo_100 D_Mo_isTold_6 rfl rfl ?_
    refine xr_icmp_ge (tgt := 38) D_Mo_isTold_9 rfl (fun c1 => ?_) (fun c1 => ?_)
    · refine xr_iload_n D_Mo_isTold_38 rfl rfl ?_
      refine xr_zret rfl (by first | rfl | exact nar_b2 | exact nar_z hz) D_Mo_isTold_39 ?_
      rcases hz with rfl | rfl
      · exact ob_f (by rintro (q | q); exact q rfl; exact absurd q (by simp [cmF]))
      · exact ob_t (Or.inl (by decide))
    · exact absurd (i_le.mpr (by rw [i_of (by omega)]; omega)) c1
  | succ t ih =>
    intro j hs hz hj
    have ej : (Int32.ofNat j).toNatClampNeg = j := by rw [i_cl, i_of (by omega)]; omega
    refine xr_iload_n D_Mo_isTold_4 rfl rfl ?_
    refine xr_aload_n D_Mo_isTold_5 rfl rfl ?_
    refine xr_getf F_Mo_100 D_Mo_isTold_6 rfl rfl ?_
    refine xr_icmp_ge (tgt := 38) D_Mo_isTold_9 rfl (fun c1 => ?_) (fun c1 => ?_)
    · exact absurd c1 (fun q => by rw [i_le, i_of (by omega)] at q; omega)
    · refine xr_iload_n D_Mo_isTold_12 rfl rfl ?_
      refine xr_if_ne (tgt := 26) D_Mo_isTold_13 rfl (fun c2 => ?_) (fun c2 => ?_)
      · refine xr_iconst (v := 1) D_Mo_isTold_26 rfl ?_
        refine xr_goto (tgt := 31) D_Mo_isTold_27 rfl ?_
        refine xr_istore_n D_Mo_isTold_31 rfl (by decide) ?_
        refine xr_iinc (c9 := 1) D_Mo_isTold_32 rfl rfl (by decide) ?_
        refine xr_goto (tgt := 4) D_Mo_isTold_35 rfl ?_
        rw [io_succ]
        refine xr_mono (ih (j + 1) 1 (Or.inr rfl) (by omega)) ?_
        rintro _ rfl
        exact ob_iff ⟨fun _ => Or.inl c2, fun _ => Or.inl (by decide)⟩
      · refine xr_aload_n D_Mo_isTold_16 rfl rfl ?_
        refine xr_getf F_Mo_45 D_Mo_isTold_17 rfl rfl ?_
        refine xr_iload_n D_Mo_isTold_20 rfl rfl ?_
        refine xr_iald D_Mo_isTold_21 rfl (by exact i_in (by rw [i_of (by omega)]; omega) (by rw [i_of (by omega)]; omega)) ?_
        refine xr_iload_n D_Mo_isTold_22 rfl rfl ?_
        refine xr_icmp_ne (tgt := 30) D_Mo_isTold_23 rfl (fun c3 => ?_) (fun c3 => ?_)
        · refine xr_iconst (v := 0) D_Mo_isTold_30 rfl ?_
          refine xr_istore_n D_Mo_isTold_31 rfl (by decide) ?_
          refine xr_iinc (c9 := 1) D_Mo_isTold_32 rfl rfl (by decide) ?_
          refine xr_goto (tgt := 4) D_Mo_isTold_35 rfl ?_
          rw [ej] at c3
          rw [io_succ]
          refine xr_mono (ih (j + 1) 0 (Or.inl rfl) (by omega)) ?_
          rintro _ rfl
          refine ob_iff ?_
          rw [cmF_s, beq_eq_false_iff_ne.mpr c3, Bool.false_or]
          exact ⟨fun q => q.elim (fun z => absurd rfl z) Or.inr, fun q => q.elim (fun z => absurd c2 (fun w => z w)) Or.inr⟩
        · refine xr_iconst (v := 1) D_Mo_isTold_26 rfl ?_
          refine xr_goto (tgt := 31) D_Mo_isTold_27 rfl ?_
          refine xr_istore_n D_Mo_isTold_31 rfl (by decide) ?_
          refine xr_iinc (c9 := 1) D_Mo_isTold_32 rfl rfl (by decide) ?_
          refine xr_goto (tgt := 4) D_Mo_isTold_35 rfl ?_
          rw [ej] at c3
          rw [io_succ]
          refine xr_mono (ih (j + 1) 1 (Or.inr rfl) (by omega)) ?_
          rintro _ rfl
          exact ob_iff ⟨fun _ => Or.inr (by rw [cmF_s, c3, beq_self_eq_true, Bool.true_or]), fun _ => Or.inl (by decide)⟩

theorem c_Mo_isTold_34 {I : mI} {A : mA} {L : mL} {x : Int32} (h0 : 0 ≤ I 3418) (h1 : I 3418 ≤ 256) : xm m_Mo_isTold (0, 0) [.ref 34, .int x] (pic I A L) 0 0 (fun o => o = (.inl (some (.int (b2 (cmF (A 44) x (I 3418).toInt.toNat 0 = true)))), pic I A L)) := by
  have g0 := i_le.mp h0
  rw [z0] at g0
  refine xm_of rfl (by decide) (Nat.le_of_ble_eq_true rfl) ?_
  refine xr_iconst (v := 0) D_Mo_isTold_0 rfl ?_
  refine xr_istore_n D_Mo_isTold_1 rfl (by decide) ?_
  refine xr_iconst (v := 0) D_Mo_isTold_2 rfl ?_
  refine xr_istore_n D_Mo_isTold_3 rfl (by decide) ?_
  refine xr_mono (l_Mo_it h1 (I 3418).toInt.toNat 0 0 (Or.inl rfl) (by omega)) ?_
  rintro _ rfl
  exact ob_iff ⟨fun q => q.elim (fun z => absurd rfl z) id, Or.inr⟩

theorem l_Mo_co_50 {I : mI} {A : mA} {L : mL} {x : Int32} {k9 : Int32} (hm : I 3420 ≤ 500) : ∀ (t j : Nat) (hs : Int32), (hs = 0 ∨ hs = 1) → (j : Int) + t = (I 3420).toInt → xr m_Mo_comes none (0, 0) 8 [some (.ref 34), some (.ref 50), some (.int k9), some (.int x), some (.int hs), some (.int (Int32.ofNat j))] [] (pic I A L) 0 0 (fun o => o = (.inl (some (.int (b2 (¬ hs = 0 ∨ cmF (A 50) x t j = true)))), pic I A L)) := by
  have hm9 := i_le.mp hm
  have em : (500 : Int32).toInt = 500 := rfl
  intro t
  induction t with
  | zero =>
    intro j hs hz hj
    refine xr_iload D_Mo_comes_8 rfl ?_
    refine xr_aload_n D_Mo_comes_10 rfl rfl ?_
    refine xr_getf F_Mo_119 D_Mo_comes_11 rfl rfl ?_
    refine xr_icmp_ge (tgt := 43) D_Mo_comes_14 rfl (fun c1 => ?_) (fun c1 => ?_)
    · refine xr_iload D_Mo_comes_43 rfl ?_
      refine xr_zret rfl (by first | rfl | exact nar_b2 | exact nar_z hz) D_Mo_comes_45 ?_
      rcases hz with rfl | rfl
      · exact ob_f (by rintro (q | q); exact q rfl; exact absurd q (by simp [cmF]))
      · exact ob_t (Or.inl (by decide))
    · exact absurd (i_le.mpr (by rw [i_of (by omega)]; omega)) c1
  | succ t ih =>
    intro j hs hz hj
    have ej : (Int32.ofNat j).toNatClampNeg = j := by rw [i_cl, i_of (by omega)]; omega
    refine xr_iload D_Mo_comes_8 rfl ?_
    refine xr_aload_n D_Mo_comes_10 rfl rfl ?_
    refine xr_getf F_Mo_119 D_Mo_comes_11 rfl rfl ?_
    refine xr_icmp_ge (tgt := 43) D_Mo_comes_14 rfl (fun c1 => ?_) (fun c1 => ?_)
    · exact absurd c1 (fun q => by rw [i_le, i_of (by omega)] at q; omega)
    · refine xr_iload D_Mo_comes_17 rfl ?_
      refine xr_if_ne (tgt := 30) D_Mo_comes_19 rfl (fun c2 => ?_) (fun c2 => ?_)
      · refine xr_iconst (v := 1) D_Mo_comes_30 rfl ?_
        refine xr_goto (tgt := 35) D_Mo_comes_31 rfl ?_
        refine xr_istore D_Mo_comes_35 (by decide) ?_
        refine xr_iinc (c9 := 1) D_Mo_comes_37 rfl rfl (by decide) ?_
        refine xr_goto (tgt := 8) D_Mo_comes_40 rfl ?_
        rw [io_succ]
        refine xr_mono (ih (j + 1) 1 (Or.inr rfl) (by omega)) ?_
        rintro _ rfl
        exact ob_iff ⟨fun _ => Or.inl c2, fun _ => Or.inl (by decide)⟩
      · refine xr_aload_n D_Mo_comes_22 rfl rfl ?_
        refine xr_iload D_Mo_comes_23 rfl ?_
        refine xr_iald D_Mo_comes_25 rfl (by exact i_in (by rw [i_of (by omega)]; omega) (by rw [i_of (by omega)]; omega)) ?_
        refine xr_iload_n D_Mo_comes_26 rfl rfl ?_
        refine xr_icmp_ne (tgt := 34) D_Mo_comes_27 rfl (fun c3 => ?_) (fun c3 => ?_)
        · refine xr_iconst (v := 0) D_Mo_comes_34 rfl ?_
          refine xr_istore D_Mo_comes_35 (by decide) ?_
          refine xr_iinc (c9 := 1) D_Mo_comes_37 rfl rfl (by decide) ?_
          refine xr_goto (tgt := 8) D_Mo_comes_40 rfl ?_
          rw [ej] at c3
          rw [io_succ]
          refine xr_mono (ih (j + 1) 0 (Or.inl rfl) (by omega)) ?_
          rintro _ rfl
          refine ob_iff ?_
          rw [cmF_s, beq_eq_false_iff_ne.mpr c3, Bool.false_or]
          exact ⟨fun q => q.elim (fun z => absurd rfl z) Or.inr, fun q => q.elim (fun z => absurd c2 (fun w => z w)) Or.inr⟩
        · refine xr_iconst (v := 1) D_Mo_comes_30 rfl ?_
          refine xr_goto (tgt := 35) D_Mo_comes_31 rfl ?_
          refine xr_istore D_Mo_comes_35 (by decide) ?_
          refine xr_iinc (c9 := 1) D_Mo_comes_37 rfl rfl (by decide) ?_
          refine xr_goto (tgt := 8) D_Mo_comes_40 rfl ?_
          rw [ej] at c3
          rw [io_succ]
          refine xr_mono (ih (j + 1) 1 (Or.inr rfl) (by omega)) ?_
          rintro _ rfl
          exact ob_iff ⟨fun _ => Or.inr (by rw [cmF_s, c3, beq_self_eq_true, Bool.true_or]), fun _ => Or.inl (by decide)⟩

theorem c_Mo_comes_50 {I : mI} {A : mA} {L : mL} {x : Int32} {n k : Nat} (hn : n ≤ 500) (hm : (I 3420).toInt = (n : Int)) (hk : k < n) : xm m_Mo_comes (0, 0) [.ref 34, .ref 50, .int (Int32.ofNat k), .int x] (pic I A L) 0 0 (fun o => o = (.inl (some (.int (b2 (cmF (A 50) x (n - (k + 1)) (k + 1) = true)))), pic I A L)) := by
  refine xm_of rfl (by decide) (Nat.le_of_ble_eq_true rfl) ?_
  refine xr_iconst (v := 0) D_Mo_comes_0 rfl ?_
  refine xr_istore D_Mo_comes_1 (by decide) ?_
  refine xr_iload_n D_Mo_comes_3 rfl rfl ?_
  refine xr_iconst (v := 1) D_Mo_comes_4 rfl ?_
  refine xr_iadd D_Mo_comes_5 ?_
  refine xr_istore D_Mo_comes_6 (by decide) ?_
  rw [io_succ]
  refine xr_mono (l_Mo_co_50 (i_le.mpr (by rw [hm, show (500 : Int32).toInt = 500 from rfl]; omega)) (n - (k + 1)) (k + 1) 0 (Or.inl rfl) (by omega)) ?_
  rintro _ rfl
  exact ob_iff ⟨fun q => q.elim (fun z => absurd rfl z) id, Or.inr⟩

theorem l_Mo_co_51 {I : mI} {A : mA} {L : mL} {x : Int32} {k9 : Int32} (hm : I 3420 ≤ 500) : ∀ (t j : Nat) (hs : Int32), (hs = 0 ∨ hs = 1) → (j : Int) + t = (I 3420).toInt → xr m_Mo_comes none (0, 0) 8 [some (.ref 34), some (.ref 51), some (.int k9), some (.int x), some (.int hs), some (.int (Int32.ofNat j))] [] (pic I A L) 0 0 (fun o => o = (.inl (some (.int (b2 (¬ hs = 0 ∨ cmF (A 51) x t j = true)))), pic I A L)) := by
  have hm9 := i_le.mp hm
  have em : (500 : Int32).toInt = 500 := rfl
  intro t
  induction t with
  | zero =>
    intro j hs hz hj
    refine xr_iload D_Mo_comes_8 rfl ?_
    refine xr_aload_n D_Mo_comes_10 rfl rfl ?_
    refine xr_getf F_Mo_119 D_Mo_comes_11 rfl rfl ?_
    refine xr_icmp_ge (tgt := 43) D_Mo_comes_14 rfl (fun c1 => ?_) (fun c1 => ?_)
    · refine xr_iload D_Mo_comes_43 rfl ?_
      refine xr_zret rfl (by first | rfl | exact nar_b2 | exact nar_z hz) D_Mo_comes_45 ?_
      rcases hz with rfl | rfl
      · exact ob_f (by rintro (q | q); exact q rfl; exact absurd q (by simp [cmF]))
      · exact ob_t (Or.inl (by decide))
    · exact absurd (i_le.mpr (by rw [i_of (by omega)]; omega)) c1
  | succ t ih =>
    intro j hs hz hj
    have ej : (Int32.ofNat j).toNatClampNeg = j := by rw [i_cl, i_of (by omega)]; omega
    refine xr_iload D_Mo_comes_8 rfl ?_
    refine xr_aload_n D_Mo_comes_10 rfl rfl ?_
    refine xr_getf F_Mo_119 D_Mo_comes_11 rfl rfl ?_
    refine xr_icmp_ge (tgt := 43) D_Mo_comes_14 rfl (fun c1 => ?_) (fun c1 => ?_)
    · exact absurd c1 (fun q => by rw [i_le, i_of (by omega)] at q; omega)
    · refine xr_iload D_Mo_comes_17 rfl ?_
      refine xr_if_ne (tgt := 30) D_Mo_comes_19 rfl (fun c2 => ?_) (fun c2 => ?_)
      · refine xr_iconst (v := 1) D_Mo_comes_30 rfl ?_
        refine xr_goto (tgt := 35) D_Mo_comes_31 rfl ?_
        refine xr_istore D_Mo_comes_35 (by decide) ?_
        refine xr_iinc (c9 := 1) D_Mo_comes_37 rfl rfl (by decide) ?_
        refine xr_goto (tgt := 8) D_Mo_comes_40 rfl ?_
        rw [io_succ]
        refine xr_mono (ih (j + 1) 1 (Or.inr rfl) (by omega)) ?_
        rintro _ rfl
        exact ob_iff ⟨fun _ => Or.inl c2, fun _ => Or.inl (by decide)⟩
      · refine xr_aload_n D_Mo_comes_22 rfl rfl ?_
        refine xr_iload D_Mo_comes_23 rfl ?_
        refine xr_iald D_Mo_comes_25 rfl (by exact i_in (by rw [i_of (by omega)]; omega) (by rw [i_of (by omega)]; omega)) ?_
        refine xr_iload_n D_Mo_comes_26 rfl rfl ?_
        refine xr_icmp_ne (tgt := 34) D_Mo_comes_27 rfl (fun c3 => ?_) (fun c3 => ?_)
        · refine xr_iconst (v := 0) D_Mo_comes_34 rfl ?_
          refine xr_istore D_Mo_comes_35 (by decide) ?_
          refine xr_iinc (c9 := 1) D_Mo_comes_37 rfl rfl (by decide) ?_
          refine xr_goto (tgt := 8) D_Mo_comes_40 rfl ?_
          rw [ej] at c3
          rw [io_succ]
          refine xr_mono (ih (j + 1) 0 (Or.inl rfl) (by omega)) ?_
          rintro _ rfl
          refine ob_iff ?_
          rw [cmF_s, beq_eq_false_iff_ne.mpr c3, Bool.false_or]
          exact ⟨fun q => q.elim (fun z => absurd rfl z) Or.inr, fun q => q.elim (fun z => absurd c2 (fun w => z w)) Or.inr⟩
        · refine xr_iconst (v := 1) D_Mo_comes_30 rfl ?_
          refine xr_goto (tgt := 35) D_Mo_comes_31 rfl ?_
          refine xr_istore D_Mo_comes_35 (by decide) ?_
          refine xr_iinc (c9 := 1) D_Mo_comes_37 rfl rfl (by decide) ?_
          refine xr_goto (tgt := 8) D_Mo_comes_40 rfl ?_
          rw [ej] at c3
          rw [io_succ]
          refine xr_mono (ih (j + 1) 1 (Or.inr rfl) (by omega)) ?_
          rintro _ rfl
          exact ob_iff ⟨fun _ => Or.inr (by rw [cmF_s, c3, beq_self_eq_true, Bool.true_or]), fun _ => Or.inl (by decide)⟩

theorem c_Mo_comes_51 {I : mI} {A : mA} {L : mL} {x : Int32} {n k : Nat} (hn : n ≤ 500) (hm : (I 3420).toInt = (n : Int)) (hk : k < n) : xm m_Mo_comes (0, 0) [.ref 34, .ref 51, .int (Int32.ofNat k), .int x] (pic I A L) 0 0 (fun o => o = (.inl (some (.int (b2 (cmF (A 51) x (n - (k + 1)) (k + 1) = true)))), pic I A L)) := by
  refine xm_of rfl (by decide) (Nat.le_of_ble_eq_true rfl) ?_
  refine xr_iconst (v := 0) D_Mo_comes_0 rfl ?_
  refine xr_istore D_Mo_comes_1 (by decide) ?_
  refine xr_iload_n D_Mo_comes_3 rfl rfl ?_
  refine xr_iconst (v := 1) D_Mo_comes_4 rfl ?_
  refine xr_iadd D_Mo_comes_5 ?_
  refine xr_istore D_Mo_comes_6 (by decide) ?_
  rw [io_succ]
  refine xr_mono (l_Mo_co_51 (i_le.mpr (by rw [hm, show (500 : Int32).toInt = 500 from rfl]; omega)) (n - (k + 1)) (k + 1) 0 (Or.inl rfl) (by omega)) ?_
  rintro _ rfl
  exact ob_iff ⟨fun q => q.elim (fun z => absurd rfl z) id, Or.inr⟩

set_option maxHeartbeats 2000000 in
theorem c_Mo_move_51 {I : mI} {A : mA} {L : mL} {B : List Int32} {n k : Nat} (hn : n ≤ 500) (hm : (I 3420).toInt = (n : Int)) (hk : k < n) (hl : B.length + 5 ≤ 131072) (hB : isO (I 3409) (A 43) B) : xm m_Mo_move (2, 44) [.ref 34, .ref 51, .int (Int32.ofNat k), .int 157, .int 4] (pic I A L) 0 0 (fun o => ∃ I' A', o = (.inl none, pic I' A' L) ∧ frI [3409] I I' ∧ frA [43, 60] A A' ∧ isO (I' 3409) (A' 43) (B ++ (mvS 157 (A 51 k) (A 60 4) (A 60 5) (cmN n (A 51) k)).1) ∧ A' 60 4 = (mvS 157 (A 51 k) (A 60 4) (A 60 5) (cmN n (A 51) k)).2.1 ∧ A' 60 5 = (mvS 157 (A 51 k) (A 60 4) (A 60 5) (cmN n (A 51) k)).2.2 ∧ (∀ i, i ≠ 4 → i ≠ 5 → A' 60 i = A 60 i)) := by
  have ek : (Int32.ofNat k).toNatClampNeg = k := by rw [i_cl, i_of (by omega)]; omega
  refine xm_of rfl (by decide) (Nat.le_of_ble_eq_true rfl) ?_
  refine xr_aload_n D_Mo_move_0 rfl rfl ?_
  refine xr_iload_n D_Mo_move_1 rfl rfl ?_
  refine xr_iald D_Mo_move_2 rfl (by exact i_in (by rw [i_of (by omega)]; omega) (by rw [i_of (by omega)]; omega)) ?_
  rw [ek]
  refine xr_istore D_Mo_move_3 (by decide) ?_
  refine xr_iload D_Mo_move_5 rfl ?_
  refine xr_iconst (v := 1) D_Mo_move_7 rfl ?_
  refine xr_iadd D_Mo_move_8 ?_
  rw [show (4 : Int32) + 1 = 5 from rfl]
  refine xr_istore D_Mo_move_9 (by decide) ?_
  refine xr_iload D_Mo_move_11 rfl ?_
  refine xr_cSx (as := [_]) (c_Mo_bytesOf) (L_Mo_165) (CD_Mo_bytesOf) D_Mo_move_13 rfl (by decide) (Nat.le_of_ble_eq_true rfl) (Nat.le_of_eq (Nat.zero_add _)) (Nat.le_of_eq (Nat.zero_add _)) pic_len ?_
  rintro _ rfl
  refine ⟨_, _, rfl, pic_leq, ?_⟩
  refine xr_istore D_Mo_move_16 (by decide) ?_
  refine xr_iload D_Mo_move_18 rfl ?_
  refine xr_if_ne (tgt := 24) D_Mo_move_20 rfl (fun c1 => ?_) (fun c1 => ?_)
  · refine xr_aload_n D_Mo_move_24 rfl rfl ?_
    refine xr_getf F_Mo_94 D_Mo_move_25 rfl rfl ?_
    refine xr_iload D_Mo_move_28 rfl ?_
    refine xr_iald D_Mo_move_30 rfl (by exact i_in2 6 (by decide) (by decide) rfl) ?_
    refine xr_iload D_Mo_move_31 rfl ?_
    refine xr_icmp_ne (tgt := 46) D_Mo_move_33 rfl (fun c2 => ?_) (fun c2 => ?_)
    · refine xr_aload_n D_Mo_move_46 rfl rfl ?_
      refine xr_getf F_Mo_94 D_Mo_move_47 rfl rfl ?_
      refine xr_iload D_Mo_move_50 rfl ?_
      refine xr_iald D_Mo_move_52 rfl (by exact i_in2 6 (by decide) (by decide) rfl) ?_
      refine xr_iload D_Mo_move_53 rfl ?_
      refine xr_icmp_ne (tgt := 69) D_Mo_move_55 rfl (fun c3 => ?_) (fun c3 => ?_)
      · refine xr_aload_n D_Mo_move_69 rfl rfl ?_
        refine xr_aload_n D_Mo_move_70 rfl rfl ?_
        refine xr_iload_n D_Mo_move_71 rfl rfl ?_
        refine xr_iload D_Mo_move_72 rfl ?_
        refine xr_cVx (as := [_, _, _]) (c_Mo_comes_51 hn hm hk) (L_Mo_169) (CD_Mo_comes) CI_Mo D_Mo_move_74 rfl rfl (by decide) (Nat.le_of_ble_eq_true rfl) (Nat.le_of_eq (Nat.zero_add _)) (Nat.le_of_eq (Nat.zero_add _)) pic_len ?_
        rintro _ rfl
        refine ⟨_, _, rfl, pic_leq, ?_⟩
        refine xr_if_eq (tgt := 136) D_Mo_move_77 rfl (fun c4 => ?_) (fun c4 => ?_)
        · rw [b2_0] at c4
          refine xr_aload_n D_Mo_move_136 rfl rfl ?_
          refine xr_aload_n D_Mo_move_137 rfl rfl ?_
          refine xr_iload_n D_Mo_move_138 rfl rfl ?_
          refine xr_iload D_Mo_move_139 rfl ?_
          refine xr_cVx (as := [_, _, _]) (c_Mo_comes_51 hn hm hk) (L_Mo_169) (CD_Mo_comes) CI_Mo D_Mo_move_141 rfl rfl (by decide) (Nat.le_of_ble_eq_true rfl) (Nat.le_of_eq (Nat.zero_add _)) (Nat.le_of_eq (Nat.zero_add _)) pic_len ?_
          rintro _ rfl
          refine ⟨_, _, rfl, pic_leq, ?_⟩
          refine xr_if_eq (tgt := 204) D_Mo_move_144 rfl (fun c5 => ?_) (fun c5 => ?_)
          · rw [b2_0] at c5
            refine xr_aload_n D_Mo_move_204 rfl rfl ?_
            refine xr_iload_n D_Mo_move_205 rfl rfl ?_
            refine xr_iload D_Mo_move_206 rfl ?_
            refine xr_iadd D_Mo_move_208 ?_
            refine xr_iconst (v := 1) D_Mo_move_209 rfl ?_
            refine xr_isub D_Mo_move_210 ?_
            refine xr_cVv (as := [_]) (n_Mo_lay (by omega) hB) (L_Mo_150) (CD_Mo_lay) CI_Mo D_Mo_move_211 rfl rfl (by decide) (Nat.le_of_ble_eq_true rfl) (Nat.le_of_eq (Nat.zero_add _)) (Nat.le_of_eq (Nat.zero_add _)) pic_len ?_
            rintro _ ⟨I4, A4, rfl, hI4, hA4, hB4⟩
            refine ⟨_, rfl, pic_leq, ?_⟩
            refine xr_aload_n D_Mo_move_214 rfl rfl ?_
            refine xr_iload D_Mo_move_215 rfl ?_
            refine xr_iload D_Mo_move_217 rfl ?_
            refine xr_cVv (as := [_, _]) (n_Mo_layNumber _ bfN_t bfN_le.2 (by have := bfN_le (n := A 51 k); simp only [List.length_append, List.length_cons, List.length_nil, numB_len]; omega) hB4) (L_Mo_173) (CD_Mo_layNumber) CI_Mo D_Mo_move_219 rfl rfl (by decide) (Nat.le_of_ble_eq_true rfl) (Nat.le_of_eq (Nat.zero_add _)) (Nat.le_of_eq (Nat.zero_add _)) pic_len ?_
            rintro _ ⟨I5, A5, rfl, hI5, hA5, hB5⟩
            refine ⟨_, rfl, pic_leq, ?_⟩
            refine xr_vret rfl D_Mo_move_222 ?_
            have hI9 : frI [3409] I I5 := frI_tr (ks := [3409]) hI4 hI5 (fun _ h => h) (fun _ h => h)
            have hA9 : frA [43] A A5 := frA_tr (ks := [43]) hA4 hA5 (fun _ h => h) (fun _ h => h)
            rw [mv3 (p := 157) (d := A 51 k) (a := A 60 4) (b := A 60 5) (c := cmN n (A 51) k) c1 (fun q => c2 q.symm) (fun q => c3 q.symm) (cmN_F c4)]
            refine ⟨_, _, rfl, hI9, frA_tr hA9 (frA_rf (ks := [43])) (by decide) (by decide), ?_, by rw [hA9 60 (by decide)], by rw [hA9 60 (by decide)], fun i _ _ => by rw [hA9 60 (by decide)]⟩
            have hz := hB5
            simp only [List.append_assoc, List.cons_append, List.nil_append] at hz
            exact hz
          · rw [b2_n] at c5
            refine xr_aload_n D_Mo_move_147 rfl rfl ?_
            refine xr_getf F_Mo_94 D_Mo_move_148 rfl rfl ?_
            refine xr_iload D_Mo_move_151 rfl ?_
            refine xr_iald D_Mo_move_153 rfl (by exact i_in2 6 (by decide) (by decide) rfl) ?_
            refine xr_if_eq (tgt := 173) D_Mo_move_154 rfl (fun c6 => ?_) (fun c6 => ?_)
            · refine xr_aload_n D_Mo_move_173 rfl rfl ?_
              refine xr_iload_n D_Mo_move_174 rfl rfl ?_
              refine xr_bipush (v := 9) D_Mo_move_175 rfl ?_
              refine xr_iadd D_Mo_move_177 ?_
              refine xr_iload D_Mo_move_178 rfl ?_
              refine xr_iadd D_Mo_move_180 ?_
              refine xr_cVv (as := [_]) (n_Mo_lay (by omega) hB) (L_Mo_150) (CD_Mo_lay) CI_Mo D_Mo_move_181 rfl rfl (by decide) (Nat.le_of_ble_eq_true rfl) (Nat.le_of_eq (Nat.zero_add _)) (Nat.le_of_eq (Nat.zero_add _)) pic_len ?_
              rintro _ ⟨I6, A6, rfl, hI6, hA6, hB6⟩
              refine ⟨_, rfl, pic_leq, ?_⟩
              refine xr_aload_n D_Mo_move_184 rfl rfl ?_
              refine xr_iload D_Mo_move_185 rfl ?_
              refine xr_iload D_Mo_move_187 rfl ?_
              refine xr_cVv (as := [_, _]) (n_Mo_layNumber _ bfN_t bfN_le.2 (by have := bfN_le (n := A 51 k); simp only [List.length_append, List.length_cons, List.length_nil, numB_len]; omega) hB6) (L_Mo_173) (CD_Mo_layNumber) CI_Mo D_Mo_move_189 rfl rfl (by decide) (Nat.le_of_ble_eq_true rfl) (Nat.le_of_eq (Nat.zero_add _)) (Nat.le_of_eq (Nat.zero_add _)) pic_len ?_
              rintro _ ⟨I7, A7, rfl, hI7, hA7, hB7⟩
              refine ⟨_, rfl, pic_leq, ?_⟩
              refine xr_aload_n D_Mo_move_192 rfl rfl ?_
              refine xr_getf F_Mo_94 D_Mo_move_193 rfl rfl ?_
              refine xr_iload D_Mo_move_196 rfl ?_
              refine xr_iload D_Mo_move_198 rfl ?_
              refine xr_iast D_Mo_move_200 rfl (by exact i_in2 6 (by decide) (by decide) rfl) (aset_60) ?_
              refine xr_goto (tgt := 222) D_Mo_move_201 rfl ?_
              refine xr_vret rfl D_Mo_move_222 ?_
              exact absurd c5 c4
            · refine xr_aload_n D_Mo_move_157 rfl rfl ?_
              refine xr_aload_n D_Mo_move_158 rfl rfl ?_
              refine xr_iload_n D_Mo_move_159 rfl rfl ?_
              refine xr_aload_n D_Mo_move_160 rfl rfl ?_
              refine xr_getf F_Mo_94 D_Mo_move_161 rfl rfl ?_
              refine xr_iload D_Mo_move_164 rfl ?_
              refine xr_iald D_Mo_move_166 rfl (by exact i_in2 6 (by decide) (by decide) rfl) ?_
              refine xr_cVx (as := [_, _, _]) (c_Mo_comes_51 hn hm hk) (L_Mo_169) (CD_Mo_comes) CI_Mo D_Mo_move_167 rfl rfl (by decide) (Nat.le_of_ble_eq_true rfl) (Nat.le_of_eq (Nat.zero_add _)) (Nat.le_of_eq (Nat.zero_add _)) pic_len ?_
              rintro _ rfl
              refine ⟨_, _, rfl, pic_leq, ?_⟩
              refine xr_if_ne (tgt := 204) D_Mo_move_170 rfl (fun c7 => ?_) (fun c7 => ?_)
              · rw [b2_n] at c7
                refine xr_aload_n D_Mo_move_204 rfl rfl ?_
                refine xr_iload_n D_Mo_move_205 rfl rfl ?_
                refine xr_iload D_Mo_move_206 rfl ?_
                refine xr_iadd D_Mo_move_208 ?_
                refine xr_iconst (v := 1) D_Mo_move_209 rfl ?_
                refine xr_isub D_Mo_move_210 ?_
                refine xr_cVv (as := [_]) (n_Mo_lay (by omega) hB) (L_Mo_150) (CD_Mo_lay) CI_Mo D_Mo_move_211 rfl rfl (by decide) (Nat.le_of_ble_eq_true rfl) (Nat.le_of_eq (Nat.zero_add _)) (Nat.le_of_eq (Nat.zero_add _)) pic_len ?_
                rintro _ ⟨I9, A9, rfl, hI9, hA9, hB9⟩
                refine ⟨_, rfl, pic_leq, ?_⟩
                refine xr_aload_n D_Mo_move_214 rfl rfl ?_
                refine xr_iload D_Mo_move_215 rfl ?_
                refine xr_iload D_Mo_move_217 rfl ?_
                refine xr_cVv (as := [_, _]) (n_Mo_layNumber _ bfN_t bfN_le.2 (by have := bfN_le (n := A 51 k); simp only [List.length_append, List.length_cons, List.length_nil, numB_len]; omega) hB9) (L_Mo_173) (CD_Mo_layNumber) CI_Mo D_Mo_move_219 rfl rfl (by decide) (Nat.le_of_ble_eq_true rfl) (Nat.le_of_eq (Nat.zero_add _)) (Nat.le_of_eq (Nat.zero_add _)) pic_len ?_
                rintro _ ⟨I10, A10, rfl, hI10, hA10, hB10⟩
                refine ⟨_, rfl, pic_leq, ?_⟩
                refine xr_vret rfl D_Mo_move_222 ?_
                exact absurd c5 c4
              · rw [b2_0] at c7
                refine xr_aload_n D_Mo_move_173 rfl rfl ?_
                refine xr_iload_n D_Mo_move_174 rfl rfl ?_
                refine xr_bipush (v := 9) D_Mo_move_175 rfl ?_
                refine xr_iadd D_Mo_move_177 ?_
                refine xr_iload D_Mo_move_178 rfl ?_
                refine xr_iadd D_Mo_move_180 ?_
                refine xr_cVv (as := [_]) (n_Mo_lay (by omega) hB) (L_Mo_150) (CD_Mo_lay) CI_Mo D_Mo_move_181 rfl rfl (by decide) (Nat.le_of_ble_eq_true rfl) (Nat.le_of_eq (Nat.zero_add _)) (Nat.le_of_eq (Nat.zero_add _)) pic_len ?_
                rintro _ ⟨I11, A11, rfl, hI11, hA11, hB11⟩
                refine ⟨_, rfl, pic_leq, ?_⟩
                refine xr_aload_n D_Mo_move_184 rfl rfl ?_
                refine xr_iload D_Mo_move_185 rfl ?_
                refine xr_iload D_Mo_move_187 rfl ?_
                refine xr_cVv (as := [_, _]) (n_Mo_layNumber _ bfN_t bfN_le.2 (by have := bfN_le (n := A 51 k); simp only [List.length_append, List.length_cons, List.length_nil, numB_len]; omega) hB11) (L_Mo_173) (CD_Mo_layNumber) CI_Mo D_Mo_move_189 rfl rfl (by decide) (Nat.le_of_ble_eq_true rfl) (Nat.le_of_eq (Nat.zero_add _)) (Nat.le_of_eq (Nat.zero_add _)) pic_len ?_
                rintro _ ⟨I12, A12, rfl, hI12, hA12, hB12⟩
                refine ⟨_, rfl, pic_leq, ?_⟩
                refine xr_aload_n D_Mo_move_192 rfl rfl ?_
                refine xr_getf F_Mo_94 D_Mo_move_193 rfl rfl ?_
                refine xr_iload D_Mo_move_196 rfl ?_
                refine xr_iload D_Mo_move_198 rfl ?_
                refine xr_iast D_Mo_move_200 rfl (by exact i_in2 6 (by decide) (by decide) rfl) (aset_60) ?_
                refine xr_goto (tgt := 222) D_Mo_move_201 rfl ?_
                refine xr_vret rfl D_Mo_move_222 ?_
                exact absurd c5 c4
        · rw [b2_n] at c4
          refine xr_aload_n D_Mo_move_80 rfl rfl ?_
          refine xr_getf F_Mo_94 D_Mo_move_81 rfl rfl ?_
          refine xr_iload D_Mo_move_84 rfl ?_
          refine xr_iald D_Mo_move_86 rfl (by exact i_in2 6 (by decide) (by decide) rfl) ?_
          refine xr_if_eq (tgt := 106) D_Mo_move_87 rfl (fun c5 => ?_) (fun c5 => ?_)
          · refine xr_aload_n D_Mo_move_106 rfl rfl ?_
            refine xr_iload_n D_Mo_move_107 rfl rfl ?_
            refine xr_iconst (v := 4) D_Mo_move_108 rfl ?_
            refine xr_iadd D_Mo_move_109 ?_
            refine xr_iload D_Mo_move_110 rfl ?_
            refine xr_iadd D_Mo_move_112 ?_
            refine xr_cVv (as := [_]) (n_Mo_lay (by omega) hB) (L_Mo_150) (CD_Mo_lay) CI_Mo D_Mo_move_113 rfl rfl (by decide) (Nat.le_of_ble_eq_true rfl) (Nat.le_of_eq (Nat.zero_add _)) (Nat.le_of_eq (Nat.zero_add _)) pic_len ?_
            rintro _ ⟨I13, A13, rfl, hI13, hA13, hB13⟩
            refine ⟨_, rfl, pic_leq, ?_⟩
            refine xr_aload_n D_Mo_move_116 rfl rfl ?_
            refine xr_iload D_Mo_move_117 rfl ?_
            refine xr_iload D_Mo_move_119 rfl ?_
            refine xr_cVv (as := [_, _]) (n_Mo_layNumber _ bfN_t bfN_le.2 (by have := bfN_le (n := A 51 k); simp only [List.length_append, List.length_cons, List.length_nil, numB_len]; omega) hB13) (L_Mo_173) (CD_Mo_layNumber) CI_Mo D_Mo_move_121 rfl rfl (by decide) (Nat.le_of_ble_eq_true rfl) (Nat.le_of_eq (Nat.zero_add _)) (Nat.le_of_eq (Nat.zero_add _)) pic_len ?_
            rintro _ ⟨I14, A14, rfl, hI14, hA14, hB14⟩
            refine ⟨_, rfl, pic_leq, ?_⟩
            refine xr_aload_n D_Mo_move_124 rfl rfl ?_
            refine xr_getf F_Mo_94 D_Mo_move_125 rfl rfl ?_
            refine xr_iload D_Mo_move_128 rfl ?_
            refine xr_iload D_Mo_move_130 rfl ?_
            refine xr_iast D_Mo_move_132 rfl (by exact i_in2 6 (by decide) (by decide) rfl) (aset_60) ?_
            refine xr_goto (tgt := 222) D_Mo_move_133 rfl ?_
            refine xr_vret rfl D_Mo_move_222 ?_
            have hI9 : frI [3409] I I14 := frI_tr (ks := [3409]) hI13 hI14 (fun _ h => h) (fun _ h => h)
            have hA9 : frA [43] A A14 := frA_tr (ks := [43]) hA13 hA14 (fun _ h => h) (fun _ h => h)
            rw [mv4 (p := 157) (d := A 51 k) (a := A 60 4) (b := A 60 5) (c := cmN n (A 51) k) c1 (fun q => c2 q.symm) (fun q => c3 q.symm) (cmN_T c1 c4) (cmN_0 c5)]
            refine ⟨_, _, rfl, hI9, frA_tr hA9 (frA_up (ks := [60]) (by decide)) (by decide) (by decide), ?_, rfl, by rw [← hA9 60 (by decide)]; rfl, fun i q1 q2 => ?_⟩
            · have hz := hB14
              simp only [List.append_assoc, List.cons_append, List.nil_append] at hz
              unfold shB
              rw [show ((157 : Int32) + 5 + Int32.ofNat (bfN (A 51 k)) - 1) = 157 + 4 + Int32.ofNat (bfN (A 51 k)) by grind]
              exact hz
            · show upd (A14 60) 4 _ i = A 60 i
              rw [upd_n q1, hA9 60 (by decide)]
          · refine xr_aload_n D_Mo_move_90 rfl rfl ?_
            refine xr_aload_n D_Mo_move_91 rfl rfl ?_
            refine xr_iload_n D_Mo_move_92 rfl rfl ?_
            refine xr_aload_n D_Mo_move_93 rfl rfl ?_
            refine xr_getf F_Mo_94 D_Mo_move_94 rfl rfl ?_
            refine xr_iload D_Mo_move_97 rfl ?_
            refine xr_iald D_Mo_move_99 rfl (by exact i_in2 6 (by decide) (by decide) rfl) ?_
            refine xr_cVx (as := [_, _, _]) (c_Mo_comes_51 hn hm hk) (L_Mo_169) (CD_Mo_comes) CI_Mo D_Mo_move_100 rfl rfl (by decide) (Nat.le_of_ble_eq_true rfl) (Nat.le_of_eq (Nat.zero_add _)) (Nat.le_of_eq (Nat.zero_add _)) pic_len ?_
            rintro _ rfl
            refine ⟨_, _, rfl, pic_leq, ?_⟩
            refine xr_if_ne (tgt := 136) D_Mo_move_103 rfl (fun c6 => ?_) (fun c6 => ?_)
            · rw [b2_n] at c6
              refine xr_aload_n D_Mo_move_136 rfl rfl ?_
              refine xr_aload_n D_Mo_move_137 rfl rfl ?_
              refine xr_iload_n D_Mo_move_138 rfl rfl ?_
              refine xr_iload D_Mo_move_139 rfl ?_
              refine xr_cVx (as := [_, _, _]) (c_Mo_comes_51 hn hm hk) (L_Mo_169) (CD_Mo_comes) CI_Mo D_Mo_move_141 rfl rfl (by decide) (Nat.le_of_ble_eq_true rfl) (Nat.le_of_eq (Nat.zero_add _)) (Nat.le_of_eq (Nat.zero_add _)) pic_len ?_
              rintro _ rfl
              refine ⟨_, _, rfl, pic_leq, ?_⟩
              refine xr_if_eq (tgt := 204) D_Mo_move_144 rfl (fun c7 => ?_) (fun c7 => ?_)
              · rw [b2_0] at c7
                refine xr_aload_n D_Mo_move_204 rfl rfl ?_
                refine xr_iload_n D_Mo_move_205 rfl rfl ?_
                refine xr_iload D_Mo_move_206 rfl ?_
                refine xr_iadd D_Mo_move_208 ?_
                refine xr_iconst (v := 1) D_Mo_move_209 rfl ?_
                refine xr_isub D_Mo_move_210 ?_
                refine xr_cVv (as := [_]) (n_Mo_lay (by omega) hB) (L_Mo_150) (CD_Mo_lay) CI_Mo D_Mo_move_211 rfl rfl (by decide) (Nat.le_of_ble_eq_true rfl) (Nat.le_of_eq (Nat.zero_add _)) (Nat.le_of_eq (Nat.zero_add _)) pic_len ?_
                rintro _ ⟨I17, A17, rfl, hI17, hA17, hB17⟩
                refine ⟨_, rfl, pic_leq, ?_⟩
                refine xr_aload_n D_Mo_move_214 rfl rfl ?_
                refine xr_iload D_Mo_move_215 rfl ?_
                refine xr_iload D_Mo_move_217 rfl ?_
                refine xr_cVv (as := [_, _]) (n_Mo_layNumber _ bfN_t bfN_le.2 (by have := bfN_le (n := A 51 k); simp only [List.length_append, List.length_cons, List.length_nil, numB_len]; omega) hB17) (L_Mo_173) (CD_Mo_layNumber) CI_Mo D_Mo_move_219 rfl rfl (by decide) (Nat.le_of_ble_eq_true rfl) (Nat.le_of_eq (Nat.zero_add _)) (Nat.le_of_eq (Nat.zero_add _)) pic_len ?_
                rintro _ ⟨I18, A18, rfl, hI18, hA18, hB18⟩
                refine ⟨_, rfl, pic_leq, ?_⟩
                refine xr_vret rfl D_Mo_move_222 ?_
                exact absurd c4 c7
              · rw [b2_n] at c7
                refine xr_aload_n D_Mo_move_147 rfl rfl ?_
                refine xr_getf F_Mo_94 D_Mo_move_148 rfl rfl ?_
                refine xr_iload D_Mo_move_151 rfl ?_
                refine xr_iald D_Mo_move_153 rfl (by exact i_in2 6 (by decide) (by decide) rfl) ?_
                refine xr_if_eq (tgt := 173) D_Mo_move_154 rfl (fun c8 => ?_) (fun c8 => ?_)
                · refine xr_aload_n D_Mo_move_173 rfl rfl ?_
                  refine xr_iload_n D_Mo_move_174 rfl rfl ?_
                  refine xr_bipush (v := 9) D_Mo_move_175 rfl ?_
                  refine xr_iadd D_Mo_move_177 ?_
                  refine xr_iload D_Mo_move_178 rfl ?_
                  refine xr_iadd D_Mo_move_180 ?_
                  refine xr_cVv (as := [_]) (n_Mo_lay (by omega) hB) (L_Mo_150) (CD_Mo_lay) CI_Mo D_Mo_move_181 rfl rfl (by decide) (Nat.le_of_ble_eq_true rfl) (Nat.le_of_eq (Nat.zero_add _)) (Nat.le_of_eq (Nat.zero_add _)) pic_len ?_
                  rintro _ ⟨I19, A19, rfl, hI19, hA19, hB19⟩
                  refine ⟨_, rfl, pic_leq, ?_⟩
                  refine xr_aload_n D_Mo_move_184 rfl rfl ?_
                  refine xr_iload D_Mo_move_185 rfl ?_
                  refine xr_iload D_Mo_move_187 rfl ?_
                  refine xr_cVv (as := [_, _]) (n_Mo_layNumber _ bfN_t bfN_le.2 (by have := bfN_le (n := A 51 k); simp only [List.length_append, List.length_cons, List.length_nil, numB_len]; omega) hB19) (L_Mo_173) (CD_Mo_layNumber) CI_Mo D_Mo_move_189 rfl rfl (by decide) (Nat.le_of_ble_eq_true rfl) (Nat.le_of_eq (Nat.zero_add _)) (Nat.le_of_eq (Nat.zero_add _)) pic_len ?_
                  rintro _ ⟨I20, A20, rfl, hI20, hA20, hB20⟩
                  refine ⟨_, rfl, pic_leq, ?_⟩
                  refine xr_aload_n D_Mo_move_192 rfl rfl ?_
                  refine xr_getf F_Mo_94 D_Mo_move_193 rfl rfl ?_
                  refine xr_iload D_Mo_move_196 rfl ?_
                  refine xr_iload D_Mo_move_198 rfl ?_
                  refine xr_iast D_Mo_move_200 rfl (by exact i_in2 6 (by decide) (by decide) rfl) (aset_60) ?_
                  refine xr_goto (tgt := 222) D_Mo_move_201 rfl ?_
                  refine xr_vret rfl D_Mo_move_222 ?_
                  have hI9 : frI [3409] I I20 := frI_tr (ks := [3409]) hI19 hI20 (fun _ h => h) (fun _ h => h)
                  have hA9 : frA [43] A A20 := frA_tr (ks := [43]) hA19 hA20 (fun _ h => h) (fun _ h => h)
                  rw [mv5 (p := 157) (d := A 51 k) (a := A 60 4) (b := A 60 5) (c := cmN n (A 51) k) c1 (fun q => c2 q.symm) (fun q => c3 q.symm) (cmN_T c1 c4) (cmN_T c5 c6) (cmN_0 c8)]
                  refine ⟨_, _, rfl, hI9, frA_tr hA9 (frA_up (ks := [60]) (by decide)) (by decide) (by decide), ?_, by rw [← hA9 60 (by decide)]; rfl, rfl, fun i q1 q2 => ?_⟩
                  · have hz := hB20
                    simp only [List.append_assoc, List.cons_append, List.nil_append] at hz
                    unfold shB
                    rw [show ((157 : Int32) + 10 + Int32.ofNat (bfN (A 51 k)) - 1) = 157 + 9 + Int32.ofNat (bfN (A 51 k)) by grind]
                    exact hz
                  · show upd (A20 60) 5 _ i = A 60 i
                    rw [upd_n q2, hA9 60 (by decide)]
                · refine xr_aload_n D_Mo_move_157 rfl rfl ?_
                  refine xr_aload_n D_Mo_move_158 rfl rfl ?_
                  refine xr_iload_n D_Mo_move_159 rfl rfl ?_
                  refine xr_aload_n D_Mo_move_160 rfl rfl ?_
                  refine xr_getf F_Mo_94 D_Mo_move_161 rfl rfl ?_
                  refine xr_iload D_Mo_move_164 rfl ?_
                  refine xr_iald D_Mo_move_166 rfl (by exact i_in2 6 (by decide) (by decide) rfl) ?_
                  refine xr_cVx (as := [_, _, _]) (c_Mo_comes_51 hn hm hk) (L_Mo_169) (CD_Mo_comes) CI_Mo D_Mo_move_167 rfl rfl (by decide) (Nat.le_of_ble_eq_true rfl) (Nat.le_of_eq (Nat.zero_add _)) (Nat.le_of_eq (Nat.zero_add _)) pic_len ?_
                  rintro _ rfl
                  refine ⟨_, _, rfl, pic_leq, ?_⟩
                  refine xr_if_ne (tgt := 204) D_Mo_move_170 rfl (fun c9 => ?_) (fun c9 => ?_)
                  · rw [b2_n] at c9
                    refine xr_aload_n D_Mo_move_204 rfl rfl ?_
                    refine xr_iload_n D_Mo_move_205 rfl rfl ?_
                    refine xr_iload D_Mo_move_206 rfl ?_
                    refine xr_iadd D_Mo_move_208 ?_
                    refine xr_iconst (v := 1) D_Mo_move_209 rfl ?_
                    refine xr_isub D_Mo_move_210 ?_
                    refine xr_cVv (as := [_]) (n_Mo_lay (by omega) hB) (L_Mo_150) (CD_Mo_lay) CI_Mo D_Mo_move_211 rfl rfl (by decide) (Nat.le_of_ble_eq_true rfl) (Nat.le_of_eq (Nat.zero_add _)) (Nat.le_of_eq (Nat.zero_add _)) pic_len ?_
                    rintro _ ⟨I22, A22, rfl, hI22, hA22, hB22⟩
                    refine ⟨_, rfl, pic_leq, ?_⟩
                    refine xr_aload_n D_Mo_move_214 rfl rfl ?_
                    refine xr_iload D_Mo_move_215 rfl ?_
                    refine xr_iload D_Mo_move_217 rfl ?_
                    refine xr_cVv (as := [_, _]) (n_Mo_layNumber _ bfN_t bfN_le.2 (by have := bfN_le (n := A 51 k); simp only [List.length_append, List.length_cons, List.length_nil, numB_len]; omega) hB22) (L_Mo_173) (CD_Mo_layNumber) CI_Mo D_Mo_move_219 rfl rfl (by decide) (Nat.le_of_ble_eq_true rfl) (Nat.le_of_eq (Nat.zero_add _)) (Nat.le_of_eq (Nat.zero_add _)) pic_len ?_
                    rintro _ ⟨I23, A23, rfl, hI23, hA23, hB23⟩
                    refine ⟨_, rfl, pic_leq, ?_⟩
                    refine xr_vret rfl D_Mo_move_222 ?_
                    have hI9 : frI [3409] I I23 := frI_tr (ks := [3409]) hI22 hI23 (fun _ h => h) (fun _ h => h)
                    have hA9 : frA [43] A A23 := frA_tr (ks := [43]) hA22 hA23 (fun _ h => h) (fun _ h => h)
                    rw [mv6 (p := 157) (d := A 51 k) (a := A 60 4) (b := A 60 5) (c := cmN n (A 51) k) c1 (fun q => c2 q.symm) (fun q => c3 q.symm) (cmN_T c1 c4) (cmN_T c5 c6) (cmN_T c8 c9)]
                    refine ⟨_, _, rfl, hI9, frA_tr hA9 (frA_rf (ks := [43])) (by decide) (by decide), ?_, by rw [hA9 60 (by decide)], by rw [hA9 60 (by decide)], fun i _ _ => by rw [hA9 60 (by decide)]⟩
                    have hz := hB23
                    simp only [List.append_assoc, List.cons_append, List.nil_append] at hz
                    exact hz
                  · rw [b2_0] at c9
                    refine xr_aload_n D_Mo_move_173 rfl rfl ?_
                    refine xr_iload_n D_Mo_move_174 rfl rfl ?_
                    refine xr_bipush (v := 9) D_Mo_move_175 rfl ?_
                    refine xr_iadd D_Mo_move_177 ?_
                    refine xr_iload D_Mo_move_178 rfl ?_
                    refine xr_iadd D_Mo_move_180 ?_
                    refine xr_cVv (as := [_]) (n_Mo_lay (by omega) hB) (L_Mo_150) (CD_Mo_lay) CI_Mo D_Mo_move_181 rfl rfl (by decide) (Nat.le_of_ble_eq_true rfl) (Nat.le_of_eq (Nat.zero_add _)) (Nat.le_of_eq (Nat.zero_add _)) pic_len ?_
                    rintro _ ⟨I24, A24, rfl, hI24, hA24, hB24⟩
                    refine ⟨_, rfl, pic_leq, ?_⟩
                    refine xr_aload_n D_Mo_move_184 rfl rfl ?_
                    refine xr_iload D_Mo_move_185 rfl ?_
                    refine xr_iload D_Mo_move_187 rfl ?_
                    refine xr_cVv (as := [_, _]) (n_Mo_layNumber _ bfN_t bfN_le.2 (by have := bfN_le (n := A 51 k); simp only [List.length_append, List.length_cons, List.length_nil, numB_len]; omega) hB24) (L_Mo_173) (CD_Mo_layNumber) CI_Mo D_Mo_move_189 rfl rfl (by decide) (Nat.le_of_ble_eq_true rfl) (Nat.le_of_eq (Nat.zero_add _)) (Nat.le_of_eq (Nat.zero_add _)) pic_len ?_
                    rintro _ ⟨I25, A25, rfl, hI25, hA25, hB25⟩
                    refine ⟨_, rfl, pic_leq, ?_⟩
                    refine xr_aload_n D_Mo_move_192 rfl rfl ?_
                    refine xr_getf F_Mo_94 D_Mo_move_193 rfl rfl ?_
                    refine xr_iload D_Mo_move_196 rfl ?_
                    refine xr_iload D_Mo_move_198 rfl ?_
                    refine xr_iast D_Mo_move_200 rfl (by exact i_in2 6 (by decide) (by decide) rfl) (aset_60) ?_
                    refine xr_goto (tgt := 222) D_Mo_move_201 rfl ?_
                    refine xr_vret rfl D_Mo_move_222 ?_
                    have hI9 : frI [3409] I I25 := frI_tr (ks := [3409]) hI24 hI25 (fun _ h => h) (fun _ h => h)
                    have hA9 : frA [43] A A25 := frA_tr (ks := [43]) hA24 hA25 (fun _ h => h) (fun _ h => h)
                    rw [mv5 (p := 157) (d := A 51 k) (a := A 60 4) (b := A 60 5) (c := cmN n (A 51) k) c1 (fun q => c2 q.symm) (fun q => c3 q.symm) (cmN_T c1 c4) (cmN_T c5 c6) (cmN_F c9)]
                    refine ⟨_, _, rfl, hI9, frA_tr hA9 (frA_up (ks := [60]) (by decide)) (by decide) (by decide), ?_, by rw [← hA9 60 (by decide)]; rfl, rfl, fun i q1 q2 => ?_⟩
                    · have hz := hB25
                      simp only [List.append_assoc, List.cons_append, List.nil_append] at hz
                      unfold shB
                      rw [show ((157 : Int32) + 10 + Int32.ofNat (bfN (A 51 k)) - 1) = 157 + 9 + Int32.ofNat (bfN (A 51 k)) by grind]
                      exact hz
                    · show upd (A25 60) 5 _ i = A 60 i
                      rw [upd_n q2, hA9 60 (by decide)]
            · rw [b2_0] at c6
              refine xr_aload_n D_Mo_move_106 rfl rfl ?_
              refine xr_iload_n D_Mo_move_107 rfl rfl ?_
              refine xr_iconst (v := 4) D_Mo_move_108 rfl ?_
              refine xr_iadd D_Mo_move_109 ?_
              refine xr_iload D_Mo_move_110 rfl ?_
              refine xr_iadd D_Mo_move_112 ?_
              refine xr_cVv (as := [_]) (n_Mo_lay (by omega) hB) (L_Mo_150) (CD_Mo_lay) CI_Mo D_Mo_move_113 rfl rfl (by decide) (Nat.le_of_ble_eq_true rfl) (Nat.le_of_eq (Nat.zero_add _)) (Nat.le_of_eq (Nat.zero_add _)) pic_len ?_
              rintro _ ⟨I26, A26, rfl, hI26, hA26, hB26⟩
              refine ⟨_, rfl, pic_leq, ?_⟩
              refine xr_aload_n D_Mo_move_116 rfl rfl ?_
              refine xr_iload D_Mo_move_117 rfl ?_
              refine xr_iload D_Mo_move_119 rfl ?_
              refine xr_cVv (as := [_, _]) (n_Mo_layNumber _ bfN_t bfN_le.2 (by have := bfN_le (n := A 51 k); simp only [List.length_append, List.length_cons, List.length_nil, numB_len]; omega) hB26) (L_Mo_173) (CD_Mo_layNumber) CI_Mo D_Mo_move_121 rfl rfl (by decide) (Nat.le_of_ble_eq_true rfl) (Nat.le_of_eq (Nat.zero_add _)) (Nat.le_of_eq (Nat.zero_add _)) pic_len ?_
              rintro _ ⟨I27, A27, rfl, hI27, hA27, hB27⟩
              refine ⟨_, rfl, pic_leq, ?_⟩
              refine xr_aload_n D_Mo_move_124 rfl rfl ?_
              refine xr_getf F_Mo_94 D_Mo_move_125 rfl rfl ?_
              refine xr_iload D_Mo_move_128 rfl ?_
              refine xr_iload D_Mo_move_130 rfl ?_
              refine xr_iast D_Mo_move_132 rfl (by exact i_in2 6 (by decide) (by decide) rfl) (aset_60) ?_
              refine xr_goto (tgt := 222) D_Mo_move_133 rfl ?_
              refine xr_vret rfl D_Mo_move_222 ?_
              have hI9 : frI [3409] I I27 := frI_tr (ks := [3409]) hI26 hI27 (fun _ h => h) (fun _ h => h)
              have hA9 : frA [43] A A27 := frA_tr (ks := [43]) hA26 hA27 (fun _ h => h) (fun _ h => h)
              rw [mv4 (p := 157) (d := A 51 k) (a := A 60 4) (b := A 60 5) (c := cmN n (A 51) k) c1 (fun q => c2 q.symm) (fun q => c3 q.symm) (cmN_T c1 c4) (cmN_F c6)]
              refine ⟨_, _, rfl, hI9, frA_tr hA9 (frA_up (ks := [60]) (by decide)) (by decide) (by decide), ?_, rfl, by rw [← hA9 60 (by decide)]; rfl, fun i q1 q2 => ?_⟩
              · have hz := hB27
                simp only [List.append_assoc, List.cons_append, List.nil_append] at hz
                unfold shB
                rw [show ((157 : Int32) + 5 + Int32.ofNat (bfN (A 51 k)) - 1) = 157 + 4 + Int32.ofNat (bfN (A 51 k)) by grind]
                exact hz
              · show upd (A27 60) 4 _ i = A 60 i
                rw [upd_n q1, hA9 60 (by decide)]
      · refine xr_aload_n D_Mo_move_58 rfl rfl ?_
        refine xr_iload_n D_Mo_move_59 rfl rfl ?_
        refine xr_bipush (v := 9) D_Mo_move_60 rfl ?_
        refine xr_iadd D_Mo_move_62 ?_
        refine xr_cVv (as := [_]) (n_Mo_lay (by omega) hB) (L_Mo_150) (CD_Mo_lay) CI_Mo D_Mo_move_63 rfl rfl (by decide) (Nat.le_of_ble_eq_true rfl) (Nat.le_of_eq (Nat.zero_add _)) (Nat.le_of_eq (Nat.zero_add _)) pic_len ?_
        rintro _ ⟨I28, A28, rfl, hI28, hA28, hB28⟩
        refine ⟨_, rfl, pic_leq, ?_⟩
        refine xr_goto (tgt := 222) D_Mo_move_66 rfl ?_
        refine xr_vret rfl D_Mo_move_222 ?_
        have hI9 : frI [3409] I I28 := hI28
        have hA9 : frA [43] A A28 := hA28
        rw [mv2 (p := 157) (d := A 51 k) (a := A 60 4) (b := A 60 5) (c := cmN n (A 51) k) c1 (fun q => c2 q.symm) c3.symm]
        refine ⟨_, _, rfl, hI9, frA_tr hA9 (frA_rf (ks := [43])) (by decide) (by decide), ?_, by rw [hA9 60 (by decide)], by rw [hA9 60 (by decide)], fun i _ _ => by rw [hA9 60 (by decide)]⟩
        exact hB28
    · refine xr_aload_n D_Mo_move_36 rfl rfl ?_
      refine xr_iload_n D_Mo_move_37 rfl rfl ?_
      refine xr_iconst (v := 4) D_Mo_move_38 rfl ?_
      refine xr_iadd D_Mo_move_39 ?_
      refine xr_cVv (as := [_]) (n_Mo_lay (by omega) hB) (L_Mo_150) (CD_Mo_lay) CI_Mo D_Mo_move_40 rfl rfl (by decide) (Nat.le_of_ble_eq_true rfl) (Nat.le_of_eq (Nat.zero_add _)) (Nat.le_of_eq (Nat.zero_add _)) pic_len ?_
      rintro _ ⟨I29, A29, rfl, hI29, hA29, hB29⟩
      refine ⟨_, rfl, pic_leq, ?_⟩
      refine xr_goto (tgt := 222) D_Mo_move_43 rfl ?_
      refine xr_vret rfl D_Mo_move_222 ?_
      have hI9 : frI [3409] I I29 := hI29
      have hA9 : frA [43] A A29 := hA29
      rw [mv1 (p := 157) (d := A 51 k) (a := A 60 4) (b := A 60 5) (c := cmN n (A 51) k) c1 c2.symm]
      refine ⟨_, _, rfl, hI9, frA_tr hA9 (frA_rf (ks := [43])) (by decide) (by decide), ?_, by rw [hA9 60 (by decide)], by rw [hA9 60 (by decide)], fun i _ _ => by rw [hA9 60 (by decide)]⟩
      exact hB29
  · refine xr_vret rfl D_Mo_move_23 ?_
    rw [mv0 (p := 157) (d := A 51 k) (a := A 60 4) (b := A 60 5) (c := cmN n (A 51) k) c1]
    exact ⟨I, A, rfl, frI_rf, frA_rf, by rw [List.append_nil]; exact hB, rfl, rfl, fun _ _ _ => rfl⟩

set_option maxHeartbeats 2000000 in
theorem c_Mo_move_50 {I : mI} {A : mA} {L : mL} {B : List Int32} {n k : Nat} (hn : n ≤ 500) (hm : (I 3420).toInt = (n : Int)) (hk : k < n) (hl : B.length + 5 ≤ 131072) (hB : isO (I 3409) (A 43) B) : xm m_Mo_move (2, 44) [.ref 34, .ref 50, .int (Int32.ofNat k), .int 143, .int 2] (pic I A L) 0 0 (fun o => ∃ I' A', o = (.inl none, pic I' A' L) ∧ frI [3409] I I' ∧ frA [43, 60] A A' ∧ isO (I' 3409) (A' 43) (B ++ (mvS 143 (A 50 k) (A 60 2) (A 60 3) (cmN n (A 50) k)).1) ∧ A' 60 2 = (mvS 143 (A 50 k) (A 60 2) (A 60 3) (cmN n (A 50) k)).2.1 ∧ A' 60 3 = (mvS 143 (A 50 k) (A 60 2) (A 60 3) (cmN n (A 50) k)).2.2 ∧ (∀ i, i ≠ 2 → i ≠ 3 → A' 60 i = A 60 i)) := by
  have ek : (Int32.ofNat k).toNatClampNeg = k := by rw [i_cl, i_of (by omega)]; omega
  refine xm_of rfl (by decide) (Nat.le_of_ble_eq_true rfl) ?_
  refine xr_aload_n D_Mo_move_0 rfl rfl ?_
  refine xr_iload_n D_Mo_move_1 rfl rfl ?_
  refine xr_iald D_Mo_move_2 rfl (by exact i_in (by rw [i_of (by omega)]; omega) (by rw [i_of (by omega)]; omega)) ?_
  rw [ek]
  refine xr_istore D_Mo_move_3 (by decide) ?_
  refine xr_iload D_Mo_move_5 rfl ?_
  refine xr_iconst (v := 1) D_Mo_move_7 rfl ?_
  refine xr_iadd D_Mo_move_8 ?_
  rw [show (2 : Int32) + 1 = 3 from rfl]
  refine xr_istore D_Mo_move_9 (by decide) ?_
  refine xr_iload D_Mo_move_11 rfl ?_
  refine xr_cSx (as := [_]) (c_Mo_bytesOf) (L_Mo_165) (CD_Mo_bytesOf) D_Mo_move_13 rfl (by decide) (Nat.le_of_ble_eq_true rfl) (Nat.le_of_eq (Nat.zero_add _)) (Nat.le_of_eq (Nat.zero_add _)) pic_len ?_
  rintro _ rfl
  refine ⟨_, _, rfl, pic_leq, ?_⟩
  refine xr_istore D_Mo_move_16 (by decide) ?_
  refine xr_iload D_Mo_move_18 rfl ?_
  refine xr_if_ne (tgt := 24) D_Mo_move_20 rfl (fun c1 => ?_) (fun c1 => ?_)
  · refine xr_aload_n D_Mo_move_24 rfl rfl ?_
    refine xr_getf F_Mo_94 D_Mo_move_25 rfl rfl ?_
    refine xr_iload D_Mo_move_28 rfl ?_
    refine xr_iald D_Mo_move_30 rfl (by exact i_in2 6 (by decide) (by decide) rfl) ?_
    refine xr_iload D_Mo_move_31 rfl ?_
    refine xr_icmp_ne (tgt := 46) D_Mo_move_33 rfl (fun c2 => ?_) (fun c2 => ?_)
    · refine xr_aload_n D_Mo_move_46 rfl rfl ?_
      refine xr_getf F_Mo_94 D_Mo_move_47 rfl rfl ?_
      refine xr_iload D_Mo_move_50 rfl ?_
      refine xr_iald D_Mo_move_52 rfl (by exact i_in2 6 (by decide) (by decide) rfl) ?_
      refine xr_iload D_Mo_move_53 rfl ?_
      refine xr_icmp_ne (tgt := 69) D_Mo_move_55 rfl (fun c3 => ?_) (fun c3 => ?_)
      · refine xr_aload_n D_Mo_move_69 rfl rfl ?_
        refine xr_aload_n D_Mo_move_70 rfl rfl ?_
        refine xr_iload_n D_Mo_move_71 rfl rfl ?_
        refine xr_iload D_Mo_move_72 rfl ?_
        refine xr_cVx (as := [_, _, _]) (c_Mo_comes_50 hn hm hk) (L_Mo_169) (CD_Mo_comes) CI_Mo D_Mo_move_74 rfl rfl (by decide) (Nat.le_of_ble_eq_true rfl) (Nat.le_of_eq (Nat.zero_add _)) (Nat.le_of_eq (Nat.zero_add _)) pic_len ?_
        rintro _ rfl
        refine ⟨_, _, rfl, pic_leq, ?_⟩
        refine xr_if_eq (tgt := 136) D_Mo_move_77 rfl (fun c4 => ?_) (fun c4 => ?_)
        · rw [b2_0] at c4
          refine xr_aload_n D_Mo_move_136 rfl rfl ?_
          refine xr_aload_n D_Mo_move_137 rfl rfl ?_
          refine xr_iload_n D_Mo_move_138 rfl rfl ?_
          refine xr_iload D_Mo_move_139 rfl ?_
          refine xr_cVx (as := [_, _, _]) (c_Mo_comes_50 hn hm hk) (L_Mo_169) (CD_Mo_comes) CI_Mo D_Mo_move_141 rfl rfl (by decide) (Nat.le_of_ble_eq_true rfl) (Nat.le_of_eq (Nat.zero_add _)) (Nat.le_of_eq (Nat.zero_add _)) pic_len ?_
          rintro _ rfl
          refine ⟨_, _, rfl, pic_leq, ?_⟩
          refine xr_if_eq (tgt := 204) D_Mo_move_144 rfl (fun c5 => ?_) (fun c5 => ?_)
          · rw [b2_0] at c5
            refine xr_aload_n D_Mo_move_204 rfl rfl ?_
            refine xr_iload_n D_Mo_move_205 rfl rfl ?_
            refine xr_iload D_Mo_move_206 rfl ?_
            refine xr_iadd D_Mo_move_208 ?_
            refine xr_iconst (v := 1) D_Mo_move_209 rfl ?_
            refine xr_isub D_Mo_move_210 ?_
            refine xr_cVv (as := [_]) (n_Mo_lay (by omega) hB) (L_Mo_150) (CD_Mo_lay) CI_Mo D_Mo_move_211 rfl rfl (by decide) (Nat.le_of_ble_eq_true rfl) (Nat.le_of_eq (Nat.zero_add _)) (Nat.le_of_eq (Nat.zero_add _)) pic_len ?_
            rintro _ ⟨I4, A4, rfl, hI4, hA4, hB4⟩
            refine ⟨_, rfl, pic_leq, ?_⟩
            refine xr_aload_n D_Mo_move_214 rfl rfl ?_
            refine xr_iload D_Mo_move_215 rfl ?_
            refine xr_iload D_Mo_move_217 rfl ?_
            refine xr_cVv (as := [_, _]) (n_Mo_layNumber _ bfN_t bfN_le.2 (by have := bfN_le (n := A 50 k); simp only [List.length_append, List.length_cons, List.length_nil, numB_len]; omega) hB4) (L_Mo_173) (CD_Mo_layNumber) CI_Mo D_Mo_move_219 rfl rfl (by decide) (Nat.le_of_ble_eq_true rfl) (Nat.le_of_eq (Nat.zero_add _)) (Nat.le_of_eq (Nat.zero_add _)) pic_len ?_
            rintro _ ⟨I5, A5, rfl, hI5, hA5, hB5⟩
            refine ⟨_, rfl, pic_leq, ?_⟩
            refine xr_vret rfl D_Mo_move_222 ?_
            have hI9 : frI [3409] I I5 := frI_tr (ks := [3409]) hI4 hI5 (fun _ h => h) (fun _ h => h)
            have hA9 : frA [43] A A5 := frA_tr (ks := [43]) hA4 hA5 (fun _ h => h) (fun _ h => h)
            rw [mv3 (p := 143) (d := A 50 k) (a := A 60 2) (b := A 60 3) (c := cmN n (A 50) k) c1 (fun q => c2 q.symm) (fun q => c3 q.symm) (cmN_F c4)]
            refine ⟨_, _, rfl, hI9, frA_tr hA9 (frA_rf (ks := [43])) (by decide) (by decide), ?_, by rw [hA9 60 (by decide)], by rw [hA9 60 (by decide)], fun i _ _ => by rw [hA9 60 (by decide)]⟩
            have hz := hB5
            simp only [List.append_assoc, List.cons_append, List.nil_append] at hz
            exact hz
          · rw [b2_n] at c5
            refine xr_aload_n D_Mo_move_147 rfl rfl ?_
            refine xr_getf F_Mo_94 D_Mo_move_148 rfl rfl ?_
            refine xr_iload D_Mo_move_151 rfl ?_
            refine xr_iald D_Mo_move_153 rfl (by exact i_in2 6 (by decide) (by decide) rfl) ?_
            refine xr_if_eq (tgt := 173) D_Mo_move_154 rfl (fun c6 => ?_) (fun c6 => ?_)
            · refine xr_aload_n D_Mo_move_173 rfl rfl ?_
              refine xr_iload_n D_Mo_move_174 rfl rfl ?_
              refine xr_bipush (v := 9) D_Mo_move_175 rfl ?_
              refine xr_iadd D_Mo_move_177 ?_
              refine xr_iload D_Mo_move_178 rfl ?_
              refine xr_iadd D_Mo_move_180 ?_
              refine xr_cVv (as := [_]) (n_Mo_lay (by omega) hB) (L_Mo_150) (CD_Mo_lay) CI_Mo D_Mo_move_181 rfl rfl (by decide) (Nat.le_of_ble_eq_true rfl) (Nat.le_of_eq (Nat.zero_add _)) (Nat.le_of_eq (Nat.zero_add _)) pic_len ?_
              rintro _ ⟨I6, A6, rfl, hI6, hA6, hB6⟩
              refine ⟨_, rfl, pic_leq, ?_⟩
              refine xr_aload_n D_Mo_move_184 rfl rfl ?_
              refine xr_iload D_Mo_move_185 rfl ?_
              refine xr_iload D_Mo_move_187 rfl ?_
              refine xr_cVv (as := [_, _]) (n_Mo_layNumber _ bfN_t bfN_le.2 (by have := bfN_le (n := A 50 k); simp only [List.length_append, List.length_cons, List.length_nil, numB_len]; omega) hB6) (L_Mo_173) (CD_Mo_layNumber) CI_Mo D_Mo_move_189 rfl rfl (by decide) (Nat.le_of_ble_eq_true rfl) (Nat.le_of_eq (Nat.zero_add _)) (Nat.le_of_eq (Nat.zero_add _)) pic_len ?_
              rintro _ ⟨I7, A7, rfl, hI7, hA7, hB7⟩
              refine ⟨_, rfl, pic_leq, ?_⟩
              refine xr_aload_n D_Mo_move_192 rfl rfl ?_
              refine xr_getf F_Mo_94 D_Mo_move_193 rfl rfl ?_
              refine xr_iload D_Mo_move_196 rfl ?_
              refine xr_iload D_Mo_move_198 rfl ?_
              refine xr_iast D_Mo_move_200 rfl (by exact i_in2 6 (by decide) (by decide) rfl) (aset_60) ?_
              refine xr_goto (tgt := 222) D_Mo_move_201 rfl ?_
              refine xr_vret rfl D_Mo_move_222 ?_
              exact absurd c5 c4
            · refine xr_aload_n D_Mo_move_157 rfl rfl ?_
              refine xr_aload_n D_Mo_move_158 rfl rfl ?_
              refine xr_iload_n D_Mo_move_159 rfl rfl ?_
              refine xr_aload_n D_Mo_move_160 rfl rfl ?_
              refine xr_getf F_Mo_94 D_Mo_move_161 rfl rfl ?_
              refine xr_iload D_Mo_move_164 rfl ?_
              refine xr_iald D_Mo_move_166 rfl (by exact i_in2 6 (by decide) (by decide) rfl) ?_
              refine xr_cVx (as := [_, _, _]) (c_Mo_comes_50 hn hm hk) (L_Mo_169) (CD_Mo_comes) CI_Mo D_Mo_move_167 rfl rfl (by decide) (Nat.le_of_ble_eq_true rfl) (Nat.le_of_eq (Nat.zero_add _)) (Nat.le_of_eq (Nat.zero_add _)) pic_len ?_
              rintro _ rfl
              refine ⟨_, _, rfl, pic_leq, ?_⟩
              refine xr_if_ne (tgt := 204) D_Mo_move_170 rfl (fun c7 => ?_) (fun c7 => ?_)
              · rw [b2_n] at c7
                refine xr_aload_n D_Mo_move_204 rfl rfl ?_
                refine xr_iload_n D_Mo_move_205 rfl rfl ?_
                refine xr_iload D_Mo_move_206 rfl ?_
                refine xr_iadd D_Mo_move_208 ?_
                refine xr_iconst (v := 1) D_Mo_move_209 rfl ?_
                refine xr_isub D_Mo_move_210 ?_
                refine xr_cVv (as := [_]) (n_Mo_lay (by omega) hB) (L_Mo_150) (CD_Mo_lay) CI_Mo D_Mo_move_211 rfl rfl (by decide) (Nat.le_of_ble_eq_true rfl) (Nat.le_of_eq (Nat.zero_add _)) (Nat.le_of_eq (Nat.zero_add _)) pic_len ?_
                rintro _ ⟨I9, A9, rfl, hI9, hA9, hB9⟩
                refine ⟨_, rfl, pic_leq, ?_⟩
                refine xr_aload_n D_Mo_move_214 rfl rfl ?_
                refine xr_iload D_Mo_move_215 rfl ?_
                refine xr_iload D_Mo_move_217 rfl ?_
                refine xr_cVv (as := [_, _]) (n_Mo_layNumber _ bfN_t bfN_le.2 (by have := bfN_le (n := A 50 k); simp only [List.length_append, List.length_cons, List.length_nil, numB_len]; omega) hB9) (L_Mo_173) (CD_Mo_layNumber) CI_Mo D_Mo_move_219 rfl rfl (by decide) (Nat.le_of_ble_eq_true rfl) (Nat.le_of_eq (Nat.zero_add _)) (Nat.le_of_eq (Nat.zero_add _)) pic_len ?_
                rintro _ ⟨I10, A10, rfl, hI10, hA10, hB10⟩
                refine ⟨_, rfl, pic_leq, ?_⟩
                refine xr_vret rfl D_Mo_move_222 ?_
                exact absurd c5 c4
              · rw [b2_0] at c7
                refine xr_aload_n D_Mo_move_173 rfl rfl ?_
                refine xr_iload_n D_Mo_move_174 rfl rfl ?_
                refine xr_bipush (v := 9) D_Mo_move_175 rfl ?_
                refine xr_iadd D_Mo_move_177 ?_
                refine xr_iload D_Mo_move_178 rfl ?_
                refine xr_iadd D_Mo_move_180 ?_
                refine xr_cVv (as := [_]) (n_Mo_lay (by omega) hB) (L_Mo_150) (CD_Mo_lay) CI_Mo D_Mo_move_181 rfl rfl (by decide) (Nat.le_of_ble_eq_true rfl) (Nat.le_of_eq (Nat.zero_add _)) (Nat.le_of_eq (Nat.zero_add _)) pic_len ?_
                rintro _ ⟨I11, A11, rfl, hI11, hA11, hB11⟩
                refine ⟨_, rfl, pic_leq, ?_⟩
                refine xr_aload_n D_Mo_move_184 rfl rfl ?_
                refine xr_iload D_Mo_move_185 rfl ?_
                refine xr_iload D_Mo_move_187 rfl ?_
                refine xr_cVv (as := [_, _]) (n_Mo_layNumber _ bfN_t bfN_le.2 (by have := bfN_le (n := A 50 k); simp only [List.length_append, List.length_cons, List.length_nil, numB_len]; omega) hB11) (L_Mo_173) (CD_Mo_layNumber) CI_Mo D_Mo_move_189 rfl rfl (by decide) (Nat.le_of_ble_eq_true rfl) (Nat.le_of_eq (Nat.zero_add _)) (Nat.le_of_eq (Nat.zero_add _)) pic_len ?_
                rintro _ ⟨I12, A12, rfl, hI12, hA12, hB12⟩
                refine ⟨_, rfl, pic_leq, ?_⟩
                refine xr_aload_n D_Mo_move_192 rfl rfl ?_
                refine xr_getf F_Mo_94 D_Mo_move_193 rfl rfl ?_
                refine xr_iload D_Mo_move_196 rfl ?_
                refine xr_iload D_Mo_move_198 rfl ?_
                refine xr_iast D_Mo_move_200 rfl (by exact i_in2 6 (by decide) (by decide) rfl) (aset_60) ?_
                refine xr_goto (tgt := 222) D_Mo_move_201 rfl ?_
                refine xr_vret rfl D_Mo_move_222 ?_
                exact absurd c5 c4
        · rw [b2_n] at c4
          refine xr_aload_n D_Mo_move_80 rfl rfl ?_
          refine xr_getf F_Mo_94 D_Mo_move_81 rfl rfl ?_
          refine xr_iload D_Mo_move_84 rfl ?_
          refine xr_iald D_Mo_move_86 rfl (by exact i_in2 6 (by decide) (by decide) rfl) ?_
          refine xr_if_eq (tgt := 106) D_Mo_move_87 rfl (fun c5 => ?_) (fun c5 => ?_)
          · refine xr_aload_n D_Mo_move_106 rfl rfl ?_
            refine xr_iload_n D_Mo_move_107 rfl rfl ?_
            refine xr_iconst (v := 4) D_Mo_move_108 rfl ?_
            refine xr_iadd D_Mo_move_109 ?_
            refine xr_iload D_Mo_move_110 rfl ?_
            refine xr_iadd D_Mo_move_112 ?_
            refine xr_cVv (as := [_]) (n_Mo_lay (by omega) hB) (L_Mo_150) (CD_Mo_lay) CI_Mo D_Mo_move_113 rfl rfl (by decide) (Nat.le_of_ble_eq_true rfl) (Nat.le_of_eq (Nat.zero_add _)) (Nat.le_of_eq (Nat.zero_add _)) pic_len ?_
            rintro _ ⟨I13, A13, rfl, hI13, hA13, hB13⟩
            refine ⟨_, rfl, pic_leq, ?_⟩
            refine xr_aload_n D_Mo_move_116 rfl rfl ?_
            refine xr_iload D_Mo_move_117 rfl ?_
            refine xr_iload D_Mo_move_119 rfl ?_
            refine xr_cVv (as := [_, _]) (n_Mo_layNumber _ bfN_t bfN_le.2 (by have := bfN_le (n := A 50 k); simp only [List.length_append, List.length_cons, List.length_nil, numB_len]; omega) hB13) (L_Mo_173) (CD_Mo_layNumber) CI_Mo D_Mo_move_121 rfl rfl (by decide) (Nat.le_of_ble_eq_true rfl) (Nat.le_of_eq (Nat.zero_add _)) (Nat.le_of_eq (Nat.zero_add _)) pic_len ?_
            rintro _ ⟨I14, A14, rfl, hI14, hA14, hB14⟩
            refine ⟨_, rfl, pic_leq, ?_⟩
            refine xr_aload_n D_Mo_move_124 rfl rfl ?_
            refine xr_getf F_Mo_94 D_Mo_move_125 rfl rfl ?_
            refine xr_iload D_Mo_move_128 rfl ?_
            refine xr_iload D_Mo_move_130 rfl ?_
            refine xr_iast D_Mo_move_132 rfl (by exact i_in2 6 (by decide) (by decide) rfl) (aset_60) ?_
            refine xr_goto (tgt := 222) D_Mo_move_133 rfl ?_
            refine xr_vret rfl D_Mo_move_222 ?_
            have hI9 : frI [3409] I I14 := frI_tr (ks := [3409]) hI13 hI14 (fun _ h => h) (fun _ h => h)
            have hA9 : frA [43] A A14 := frA_tr (ks := [43]) hA13 hA14 (fun _ h => h) (fun _ h => h)
            rw [mv4 (p := 143) (d := A 50 k) (a := A 60 2) (b := A 60 3) (c := cmN n (A 50) k) c1 (fun q => c2 q.symm) (fun q => c3 q.symm) (cmN_T c1 c4) (cmN_0 c5)]
            refine ⟨_, _, rfl, hI9, frA_tr hA9 (frA_up (ks := [60]) (by decide)) (by decide) (by decide), ?_, rfl, by rw [← hA9 60 (by decide)]; rfl, fun i q1 q2 => ?_⟩
            · have hz := hB14
              simp only [List.append_assoc, List.cons_append, List.nil_append] at hz
              unfold shB
              rw [show ((143 : Int32) + 5 + Int32.ofNat (bfN (A 50 k)) - 1) = 143 + 4 + Int32.ofNat (bfN (A 50 k)) by grind]
              exact hz
            · show upd (A14 60) 2 _ i = A 60 i
              rw [upd_n q1, hA9 60 (by decide)]
          · refine xr_aload_n D_Mo_move_90 rfl rfl ?_
            refine xr_aload_n D_Mo_move_91 rfl rfl ?_
            refine xr_iload_n D_Mo_move_92 rfl rfl ?_
            refine xr_aload_n D_Mo_move_93 rfl rfl ?_
            refine xr_getf F_Mo_94 D_Mo_move_94 rfl rfl ?_
            refine xr_iload D_Mo_move_97 rfl ?_
            refine xr_iald D_Mo_move_99 rfl (by exact i_in2 6 (by decide) (by decide) rfl) ?_
            refine xr_cVx (as := [_, _, _]) (c_Mo_comes_50 hn hm hk) (L_Mo_169) (CD_Mo_comes) CI_Mo D_Mo_move_100 rfl rfl (by decide) (Nat.le_of_ble_eq_true rfl) (Nat.le_of_eq (Nat.zero_add _)) (Nat.le_of_eq (Nat.zero_add _)) pic_len ?_
            rintro _ rfl
            refine ⟨_, _, rfl, pic_leq, ?_⟩
            refine xr_if_ne (tgt := 136) D_Mo_move_103 rfl (fun c6 => ?_) (fun c6 => ?_)
            · rw [b2_n] at c6
              refine xr_aload_n D_Mo_move_136 rfl rfl ?_
              refine xr_aload_n D_Mo_move_137 rfl rfl ?_
              refine xr_iload_n D_Mo_move_138 rfl rfl ?_
              refine xr_iload D_Mo_move_139 rfl ?_
              refine xr_cVx (as := [_, _, _]) (c_Mo_comes_50 hn hm hk) (L_Mo_169) (CD_Mo_comes) CI_Mo D_Mo_move_141 rfl rfl (by decide) (Nat.le_of_ble_eq_true rfl) (Nat.le_of_eq (Nat.zero_add _)) (Nat.le_of_eq (Nat.zero_add _)) pic_len ?_
              rintro _ rfl
              refine ⟨_, _, rfl, pic_leq, ?_⟩
              refine xr_if_eq (tgt := 204) D_Mo_move_144 rfl (fun c7 => ?_) (fun c7 => ?_)
              · rw [b2_0] at c7
                refine xr_aload_n D_Mo_move_204 rfl rfl ?_
                refine xr_iload_n D_Mo_move_205 rfl rfl ?_
                refine xr_iload D_Mo_move_206 rfl ?_
                refine xr_iadd D_Mo_move_208 ?_
                refine xr_iconst (v := 1) D_Mo_move_209 rfl ?_
                refine xr_isub D_Mo_move_210 ?_
                refine xr_cVv (as := [_]) (n_Mo_lay (by omega) hB) (L_Mo_150) (CD_Mo_lay) CI_Mo D_Mo_move_211 rfl rfl (by decide) (Nat.le_of_ble_eq_true rfl) (Nat.le_of_eq (Nat.zero_add _)) (Nat.le_of_eq (Nat.zero_add _)) pic_len ?_
                rintro _ ⟨I17, A17, rfl, hI17, hA17, hB17⟩
                refine ⟨_, rfl, pic_leq, ?_⟩
                refine xr_aload_n D_Mo_move_214 rfl rfl ?_
                refine xr_iload D_Mo_move_215 rfl ?_
                refine xr_iload D_Mo_move_217 rfl ?_
                refine xr_cVv (as := [_, _]) (n_Mo_layNumber _ bfN_t bfN_le.2 (by have := bfN_le (n := A 50 k); simp only [List.length_append, List.length_cons, List.length_nil, numB_len]; omega) hB17) (L_Mo_173) (CD_Mo_layNumber) CI_Mo D_Mo_move_219 rfl rfl (by decide) (Nat.le_of_ble_eq_true rfl) (Nat.le_of_eq (Nat.zero_add _)) (Nat.le_of_eq (Nat.zero_add _)) pic_len ?_
                rintro _ ⟨I18, A18, rfl, hI18, hA18, hB18⟩
                refine ⟨_, rfl, pic_leq, ?_⟩
                refine xr_vret rfl D_Mo_move_222 ?_
                exact absurd c4 c7
              · rw [b2_n] at c7
                refine xr_aload_n D_Mo_move_147 rfl rfl ?_
                refine xr_getf F_Mo_94 D_Mo_move_148 rfl rfl ?_
                refine xr_iload D_Mo_move_151 rfl ?_
                refine xr_iald D_Mo_move_153 rfl (by exact i_in2 6 (by decide) (by decide) rfl) ?_
                refine xr_if_eq (tgt := 173) D_Mo_move_154 rfl (fun c8 => ?_) (fun c8 => ?_)
                · refine xr_aload_n D_Mo_move_173 rfl rfl ?_
                  refine xr_iload_n D_Mo_move_174 rfl rfl ?_
                  refine xr_bipush (v := 9) D_Mo_move_175 rfl ?_
                  refine xr_iadd D_Mo_move_177 ?_
                  refine xr_iload D_Mo_move_178 rfl ?_
                  refine xr_iadd D_Mo_move_180 ?_
                  refine xr_cVv (as := [_]) (n_Mo_lay (by omega) hB) (L_Mo_150) (CD_Mo_lay) CI_Mo D_Mo_move_181 rfl rfl (by decide) (Nat.le_of_ble_eq_true rfl) (Nat.le_of_eq (Nat.zero_add _)) (Nat.le_of_eq (Nat.zero_add _)) pic_len ?_
                  rintro _ ⟨I19, A19, rfl, hI19, hA19, hB19⟩
                  refine ⟨_, rfl, pic_leq, ?_⟩
                  refine xr_aload_n D_Mo_move_184 rfl rfl ?_
                  refine xr_iload D_Mo_move_185 rfl ?_
                  refine xr_iload D_Mo_move_187 rfl ?_
                  refine xr_cVv (as := [_, _]) (n_Mo_layNumber _ bfN_t bfN_le.2 (by have := bfN_le (n := A 50 k); simp only [List.length_append, List.length_cons, List.length_nil, numB_len]; omega) hB19) (L_Mo_173) (CD_Mo_layNumber) CI_Mo D_Mo_move_189 rfl rfl (by decide) (Nat.le_of_ble_eq_true rfl) (Nat.le_of_eq (Nat.zero_add _)) (Nat.le_of_eq (Nat.zero_add _)) pic_len ?_
                  rintro _ ⟨I20, A20, rfl, hI20, hA20, hB20⟩
                  refine ⟨_, rfl, pic_leq, ?_⟩
                  refine xr_aload_n D_Mo_move_192 rfl rfl ?_
                  refine xr_getf F_Mo_94 D_Mo_move_193 rfl rfl ?_
                  refine xr_iload D_Mo_move_196 rfl ?_
                  refine xr_iload D_Mo_move_198 rfl ?_
                  refine xr_iast D_Mo_move_200 rfl (by exact i_in2 6 (by decide) (by decide) rfl) (aset_60) ?_
                  refine xr_goto (tgt := 222) D_Mo_move_201 rfl ?_
                  refine xr_vret rfl D_Mo_move_222 ?_
                  have hI9 : frI [3409] I I20 := frI_tr (ks := [3409]) hI19 hI20 (fun _ h => h) (fun _ h => h)
                  have hA9 : frA [43] A A20 := frA_tr (ks := [43]) hA19 hA20 (fun _ h => h) (fun _ h => h)
                  rw [mv5 (p := 143) (d := A 50 k) (a := A 60 2) (b := A 60 3) (c := cmN n (A 50) k) c1 (fun q => c2 q.symm) (fun q => c3 q.symm) (cmN_T c1 c4) (cmN_T c5 c6) (cmN_0 c8)]
                  refine ⟨_, _, rfl, hI9, frA_tr hA9 (frA_up (ks := [60]) (by decide)) (by decide) (by decide), ?_, by rw [← hA9 60 (by decide)]; rfl, rfl, fun i q1 q2 => ?_⟩
                  · have hz := hB20
                    simp only [List.append_assoc, List.cons_append, List.nil_append] at hz
                    unfold shB
                    rw [show ((143 : Int32) + 10 + Int32.ofNat (bfN (A 50 k)) - 1) = 143 + 9 + Int32.ofNat (bfN (A 50 k)) by grind]
                    exact hz
                  · show upd (A20 60) 3 _ i = A 60 i
                    rw [upd_n q2, hA9 60 (by decide)]
                · refine xr_aload_n D_Mo_move_157 rfl rfl ?_
                  refine xr_aload_n D_Mo_move_158 rfl rfl ?_
                  refine xr_iload_n D_Mo_move_159 rfl rfl ?_
                  refine xr_aload_n D_Mo_move_160 rfl rfl ?_
                  refine xr_getf F_Mo_94 D_Mo_move_161 rfl rfl ?_
                  refine xr_iload D_Mo_move_164 rfl ?_
                  refine xr_iald D_Mo_move_166 rfl (by exact i_in2 6 (by decide) (by decide) rfl) ?_
                  refine xr_cVx (as := [_, _, _]) (c_Mo_comes_50 hn hm hk) (L_Mo_169) (CD_Mo_comes) CI_Mo D_Mo_move_167 rfl rfl (by decide) (Nat.le_of_ble_eq_true rfl) (Nat.le_of_eq (Nat.zero_add _)) (Nat.le_of_eq (Nat.zero_add _)) pic_len ?_
                  rintro _ rfl
                  refine ⟨_, _, rfl, pic_leq, ?_⟩
                  refine xr_if_ne (tgt := 204) D_Mo_move_170 rfl (fun c9 => ?_) (fun c9 => ?_)
                  · rw [b2_n] at c9
                    refine xr_aload_n D_Mo_move_204 rfl rfl ?_
                    refine xr_iload_n D_Mo_move_205 rfl rfl ?_
                    refine xr_iload D_Mo_move_206 rfl ?_
                    refine xr_iadd D_Mo_move_208 ?_
                    refine xr_iconst (v := 1) D_Mo_move_209 rfl ?_
                    refine xr_isub D_Mo_move_210 ?_
                    refine xr_cVv (as := [_]) (n_Mo_lay (by omega) hB) (L_Mo_150) (CD_Mo_lay) CI_Mo D_Mo_move_211 rfl rfl (by decide) (Nat.le_of_ble_eq_true rfl) (Nat.le_of_eq (Nat.zero_add _)) (Nat.le_of_eq (Nat.zero_add _)) pic_len ?_
                    rintro _ ⟨I22, A22, rfl, hI22, hA22, hB22⟩
                    refine ⟨_, rfl, pic_leq, ?_⟩
                    refine xr_aload_n D_Mo_move_214 rfl rfl ?_
                    refine xr_iload D_Mo_move_215 rfl ?_
                    refine xr_iload D_Mo_move_217 rfl ?_
                    refine xr_cVv (as := [_, _]) (n_Mo_layNumber _ bfN_t bfN_le.2 (by have := bfN_le (n := A 50 k); simp only [List.length_append, List.length_cons, List.length_nil, numB_len]; omega) hB22) (L_Mo_173) (CD_Mo_layNumber) CI_Mo D_Mo_move_219 rfl rfl (by decide) (Nat.le_of_ble_eq_true rfl) (Nat.le_of_eq (Nat.zero_add _)) (Nat.le_of_eq (Nat.zero_add _)) pic_len ?_
                    rintro _ ⟨I23, A23, rfl, hI23, hA23, hB23⟩
                    refine ⟨_, rfl, pic_leq, ?_⟩
                    refine xr_vret rfl D_Mo_move_222 ?_
                    have hI9 : frI [3409] I I23 := frI_tr (ks := [3409]) hI22 hI23 (fun _ h => h) (fun _ h => h)
                    have hA9 : frA [43] A A23 := frA_tr (ks := [43]) hA22 hA23 (fun _ h => h) (fun _ h => h)
                    rw [mv6 (p := 143) (d := A 50 k) (a := A 60 2) (b := A 60 3) (c := cmN n (A 50) k) c1 (fun q => c2 q.symm) (fun q => c3 q.symm) (cmN_T c1 c4) (cmN_T c5 c6) (cmN_T c8 c9)]
                    refine ⟨_, _, rfl, hI9, frA_tr hA9 (frA_rf (ks := [43])) (by decide) (by decide), ?_, by rw [hA9 60 (by decide)], by rw [hA9 60 (by decide)], fun i _ _ => by rw [hA9 60 (by decide)]⟩
                    have hz := hB23
                    simp only [List.append_assoc, List.cons_append, List.nil_append] at hz
                    exact hz
                  · rw [b2_0] at c9
                    refine xr_aload_n D_Mo_move_173 rfl rfl ?_
                    refine xr_iload_n D_Mo_move_174 rfl rfl ?_
                    refine xr_bipush (v := 9) D_Mo_move_175 rfl ?_
                    refine xr_iadd D_Mo_move_177 ?_
                    refine xr_iload D_Mo_move_178 rfl ?_
                    refine xr_iadd D_Mo_move_180 ?_
                    refine xr_cVv (as := [_]) (n_Mo_lay (by omega) hB) (L_Mo_150) (CD_Mo_lay) CI_Mo D_Mo_move_181 rfl rfl (by decide) (Nat.le_of_ble_eq_true rfl) (Nat.le_of_eq (Nat.zero_add _)) (Nat.le_of_eq (Nat.zero_add _)) pic_len ?_
                    rintro _ ⟨I24, A24, rfl, hI24, hA24, hB24⟩
                    refine ⟨_, rfl, pic_leq, ?_⟩
                    refine xr_aload_n D_Mo_move_184 rfl rfl ?_
                    refine xr_iload D_Mo_move_185 rfl ?_
                    refine xr_iload D_Mo_move_187 rfl ?_
                    refine xr_cVv (as := [_, _]) (n_Mo_layNumber _ bfN_t bfN_le.2 (by have := bfN_le (n := A 50 k); simp only [List.length_append, List.length_cons, List.length_nil, numB_len]; omega) hB24) (L_Mo_173) (CD_Mo_layNumber) CI_Mo D_Mo_move_189 rfl rfl (by decide) (Nat.le_of_ble_eq_true rfl) (Nat.le_of_eq (Nat.zero_add _)) (Nat.le_of_eq (Nat.zero_add _)) pic_len ?_
                    rintro _ ⟨I25, A25, rfl, hI25, hA25, hB25⟩
                    refine ⟨_, rfl, pic_leq, ?_⟩
                    refine xr_aload_n D_Mo_move_192 rfl rfl ?_
                    refine xr_getf F_Mo_94 D_Mo_move_193 rfl rfl ?_
                    refine xr_iload D_Mo_move_196 rfl ?_
                    refine xr_iload D_Mo_move_198 rfl ?_
                    refine xr_iast D_Mo_move_200 rfl (by exact i_in2 6 (by decide) (by decide) rfl) (aset_60) ?_
                    refine xr_goto (tgt := 222) D_Mo_move_201 rfl ?_
                    refine xr_vret rfl D_Mo_move_222 ?_
                    have hI9 : frI [3409] I I25 := frI_tr (ks := [3409]) hI24 hI25 (fun _ h => h) (fun _ h => h)
                    have hA9 : frA [43] A A25 := frA_tr (ks := [43]) hA24 hA25 (fun _ h => h) (fun _ h => h)
                    rw [mv5 (p := 143) (d := A 50 k) (a := A 60 2) (b := A 60 3) (c := cmN n (A 50) k) c1 (fun q => c2 q.symm) (fun q => c3 q.symm) (cmN_T c1 c4) (cmN_T c5 c6) (cmN_F c9)]
                    refine ⟨_, _, rfl, hI9, frA_tr hA9 (frA_up (ks := [60]) (by decide)) (by decide) (by decide), ?_, by rw [← hA9 60 (by decide)]; rfl, rfl, fun i q1 q2 => ?_⟩
                    · have hz := hB25
                      simp only [List.append_assoc, List.cons_append, List.nil_append] at hz
                      unfold shB
                      rw [show ((143 : Int32) + 10 + Int32.ofNat (bfN (A 50 k)) - 1) = 143 + 9 + Int32.ofNat (bfN (A 50 k)) by grind]
                      exact hz
                    · show upd (A25 60) 3 _ i = A 60 i
                      rw [upd_n q2, hA9 60 (by decide)]
            · rw [b2_0] at c6
              refine xr_aload_n D_Mo_move_106 rfl rfl ?_
              refine xr_iload_n D_Mo_move_107 rfl rfl ?_
              refine xr_iconst (v := 4) D_Mo_move_108 rfl ?_
              refine xr_iadd D_Mo_move_109 ?_
              refine xr_iload D_Mo_move_110 rfl ?_
              refine xr_iadd D_Mo_move_112 ?_
              refine xr_cVv (as := [_]) (n_Mo_lay (by omega) hB) (L_Mo_150) (CD_Mo_lay) CI_Mo D_Mo_move_113 rfl rfl (by decide) (Nat.le_of_ble_eq_true rfl) (Nat.le_of_eq (Nat.zero_add _)) (Nat.le_of_eq (Nat.zero_add _)) pic_len ?_
              rintro _ ⟨I26, A26, rfl, hI26, hA26, hB26⟩
              refine ⟨_, rfl, pic_leq, ?_⟩
              refine xr_aload_n D_Mo_move_116 rfl rfl ?_
              refine xr_iload D_Mo_move_117 rfl ?_
              refine xr_iload D_Mo_move_119 rfl ?_
              refine xr_cVv (as := [_, _]) (n_Mo_layNumber _ bfN_t bfN_le.2 (by have := bfN_le (n := A 50 k); simp only [List.length_append, List.length_cons, List.length_nil, numB_len]; omega) hB26) (L_Mo_173) (CD_Mo_layNumber) CI_Mo D_Mo_move_121 rfl rfl (by decide) (Nat.le_of_ble_eq_true rfl) (Nat.le_of_eq (Nat.zero_add _)) (Nat.le_of_eq (Nat.zero_add _)) pic_len ?_
              rintro _ ⟨I27, A27, rfl, hI27, hA27, hB27⟩
              refine ⟨_, rfl, pic_leq, ?_⟩
              refine xr_aload_n D_Mo_move_124 rfl rfl ?_
              refine xr_getf F_Mo_94 D_Mo_move_125 rfl rfl ?_
              refine xr_iload D_Mo_move_128 rfl ?_
              refine xr_iload D_Mo_move_130 rfl ?_
              refine xr_iast D_Mo_move_132 rfl (by exact i_in2 6 (by decide) (by decide) rfl) (aset_60) ?_
              refine xr_goto (tgt := 222) D_Mo_move_133 rfl ?_
              refine xr_vret rfl D_Mo_move_222 ?_
              have hI9 : frI [3409] I I27 := frI_tr (ks := [3409]) hI26 hI27 (fun _ h => h) (fun _ h => h)
              have hA9 : frA [43] A A27 := frA_tr (ks := [43]) hA26 hA27 (fun _ h => h) (fun _ h => h)
              rw [mv4 (p := 143) (d := A 50 k) (a := A 60 2) (b := A 60 3) (c := cmN n (A 50) k) c1 (fun q => c2 q.symm) (fun q => c3 q.symm) (cmN_T c1 c4) (cmN_F c6)]
              refine ⟨_, _, rfl, hI9, frA_tr hA9 (frA_up (ks := [60]) (by decide)) (by decide) (by decide), ?_, rfl, by rw [← hA9 60 (by decide)]; rfl, fun i q1 q2 => ?_⟩
              · have hz := hB27
                simp only [List.append_assoc, List.cons_append, List.nil_append] at hz
                unfold shB
                rw [show ((143 : Int32) + 5 + Int32.ofNat (bfN (A 50 k)) - 1) = 143 + 4 + Int32.ofNat (bfN (A 50 k)) by grind]
                exact hz
              · show upd (A27 60) 2 _ i = A 60 i
                rw [upd_n q1, hA9 60 (by decide)]
      · refine xr_aload_n D_Mo_move_58 rfl rfl ?_
        refine xr_iload_n D_Mo_move_59 rfl rfl ?_
        refine xr_bipush (v := 9) D_Mo_move_60 rfl ?_
        refine xr_iadd D_Mo_move_62 ?_
        refine xr_cVv (as := [_]) (n_Mo_lay (by omega) hB) (L_Mo_150) (CD_Mo_lay) CI_Mo D_Mo_move_63 rfl rfl (by decide) (Nat.le_of_ble_eq_true rfl) (Nat.le_of_eq (Nat.zero_add _)) (Nat.le_of_eq (Nat.zero_add _)) pic_len ?_
        rintro _ ⟨I28, A28, rfl, hI28, hA28, hB28⟩
        refine ⟨_, rfl, pic_leq, ?_⟩
        refine xr_goto (tgt := 222) D_Mo_move_66 rfl ?_
        refine xr_vret rfl D_Mo_move_222 ?_
        have hI9 : frI [3409] I I28 := hI28
        have hA9 : frA [43] A A28 := hA28
        rw [mv2 (p := 143) (d := A 50 k) (a := A 60 2) (b := A 60 3) (c := cmN n (A 50) k) c1 (fun q => c2 q.symm) c3.symm]
        refine ⟨_, _, rfl, hI9, frA_tr hA9 (frA_rf (ks := [43])) (by decide) (by decide), ?_, by rw [hA9 60 (by decide)], by rw [hA9 60 (by decide)], fun i _ _ => by rw [hA9 60 (by decide)]⟩
        exact hB28
    · refine xr_aload_n D_Mo_move_36 rfl rfl ?_
      refine xr_iload_n D_Mo_move_37 rfl rfl ?_
      refine xr_iconst (v := 4) D_Mo_move_38 rfl ?_
      refine xr_iadd D_Mo_move_39 ?_
      refine xr_cVv (as := [_]) (n_Mo_lay (by omega) hB) (L_Mo_150) (CD_Mo_lay) CI_Mo D_Mo_move_40 rfl rfl (by decide) (Nat.le_of_ble_eq_true rfl) (Nat.le_of_eq (Nat.zero_add _)) (Nat.le_of_eq (Nat.zero_add _)) pic_len ?_
      rintro _ ⟨I29, A29, rfl, hI29, hA29, hB29⟩
      refine ⟨_, rfl, pic_leq, ?_⟩
      refine xr_goto (tgt := 222) D_Mo_move_43 rfl ?_
      refine xr_vret rfl D_Mo_move_222 ?_
      have hI9 : frI [3409] I I29 := hI29
      have hA9 : frA [43] A A29 := hA29
      rw [mv1 (p := 143) (d := A 50 k) (a := A 60 2) (b := A 60 3) (c := cmN n (A 50) k) c1 c2.symm]
      refine ⟨_, _, rfl, hI9, frA_tr hA9 (frA_rf (ks := [43])) (by decide) (by decide), ?_, by rw [hA9 60 (by decide)], by rw [hA9 60 (by decide)], fun i _ _ => by rw [hA9 60 (by decide)]⟩
      exact hB29
  · refine xr_vret rfl D_Mo_move_23 ?_
    rw [mv0 (p := 143) (d := A 50 k) (a := A 60 2) (b := A 60 3) (c := cmN n (A 50) k) c1]
    exact ⟨I, A, rfl, frI_rf, frA_rf, by rw [List.append_nil]; exact hB, rfl, rfl, fun _ _ _ => rfl⟩
