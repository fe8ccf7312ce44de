def pgO (A : mA) (n : Nat) (T : List Int32) : List Int32 × List Int32 := pgR (dnP (A 48)) (rtP (A 47) (gwM (A 45) (A 46) (A 41))) (cmN n (dnP (A 48))) (cmN n (rtP (A 47) (gwM (A 45) (A 46) (A 41)))) (A 45) (A 46) (A 49) (defM A) n 0 0 0 0 0 (-1) T
def stM (B : List Int32) (c n : Int32) : List Int32 := if B = [] then stB c n else B
theorem cmN_cg {n k : Nat} {f g : Nat → Int32} (h : ∀ j, j < n → f j = g j) : cmN n f k = cmN n g k := by
  funext z
  show decide (¬ z = 0 ∧ cmF f z (n - (k + 1)) (k + 1) = true) = _
  rw [cmF_cg (g := g) _ _ (fun j a b => h j (by omega))]

section SH9
variable (I : mI) (A : mA) (L : mL) (n : Nat) (B T : List Int32)
def smQ1 : xO → Prop := fun o => o = (.inl (some (.int 0)), pic (upd I 3400 1) A L)
def smC1 : Prop := ¬ I 3413 = 0
def smQ2 : xO → Prop := fun o => ∃ A', o = (.inl (some (.int 0)), pic (upd I 3400 2) A' L) ∧ frA [50, 51, 52] A A'
def smC2 : Prop := I 3413 = 0 ∧ (∃ k, k < n ∧ ¬ okP (A 47) (gwM (A 45) (A 46) (A 41)) k)
def smQ3 : xO → Prop := fun o => ∃ I' A', o = (.inl (some (.int 0)), pic I' A' L) ∧ frI [3400, 3409, 3418, 3415] I I' ∧ frA [50, 51, 52, 43, 44, 60] A A' ∧ isO (I' 3409) (A' 43) B ∧ isM (I' 3418) (A' 44) T ∧ I' 3415 = I 3415 ∧ I' 3400 = 3
def smC3 : Prop := I 3413 = 0 ∧ (∀ k, k < n → okP (A 47) (gwM (A 45) (A 46) (A 41)) k) ∧ 60000 < ((stM B (I 3412) (I 3411)) ++ pgY (A 42) (I 3415) (pgO A n T).1).length
def smQ4 : xO → Prop := fun o => ∃ I' A', o = (.inl (some (.int (I 3414 + 1))), pic I' A' L) ∧ frI [3400, 3409, 3418, 3415, 3416, 3417, 3420, 3414] I I' ∧ frA [50, 51, 52, 43, 44, 60] A A' ∧ isO (I' 3409) (A' 43) ((stM B (I 3412) (I 3411)) ++ pgY (A 42) (I 3415) (pgO A n T).1) ∧ isM (I' 3418) (A' 44) (pgO A n T).2 ∧ I' 3415 = Int32.ofNat (stM B (I 3412) (I 3411)).length ∧ I' 3414 = I 3414 + 1 ∧ I' 3416 = mxP (A 48) n 0 (I 3416) ∧ I' 3417 = mxP (fun k => hP (A 47) (gwM (A 45) (A 46) (A 41)) (k + 1)) n 0 (I 3417) ∧ I' 3420 = 0 ∧ I' 3400 = 0
def smC4 : Prop := I 3413 = 0 ∧ (∀ k, k < n → okP (A 47) (gwM (A 45) (A 46) (A 41)) k) ∧ ((stM B (I 3412) (I 3411)) ++ pgY (A 42) (I 3415) (pgO A n T).1).length ≤ 60000
end SH9
theorem l_Mo_gr {L : mL} {n : Nat} {Y H : Nat → Int32} {l1 l2 l3 : Int32} (hn : n ≤ 500) : ∀ (t j : Nat) (I : mI) (A : mA), j + t = n → (I 3420).toInt = (n : Int) → A 48 = Y → (∀ k, k < n → A 52 k = H k) → xr m_Mo_ship none (4, 95) 89 [some (.ref 34), some (.int l1), some (.int l2), some (.int l3), some (.int (Int32.ofNat j))] [] (pic I A L) 0 0 (fun o => ∃ I', o = (.inl (some (.int (I 3414 + 1))), pic I' A L) ∧ frI [3416, 3417, 3420, 3414] I I' ∧ I' 3414 = I 3414 + 1 ∧ I' 3416 = mxP Y t j (I 3416) ∧ I' 3417 = mxP H t j (I 3417) ∧ I' 3420 = 0) := by
  intro t
  induction t with
  | zero =>
    intro j I A hj hm e48 e52
    refine xr_iload D_Mo_ship_89 rfl ?_
    refine xr_aload_n D_Mo_ship_91 rfl rfl ?_
    refine xr_getf F_Mo_119 D_Mo_ship_92 rfl rfl ?_
    refine xr_icmp_ge (tgt := 168) D_Mo_ship_95 rfl (fun c1 => ?_) (fun c1 => ?_)
    · refine xr_aload_n D_Mo_ship_168 rfl rfl ?_
      refine xr_iconst (v := 0) D_Mo_ship_169 rfl ?_
      refine xr_putf F_Mo_119 FT_Mo FN_Mo_20 D_Mo_ship_170 rfl (Nat.le_of_ble_eq_true rfl) rfl rfl (pset_34_20) ?_
      refine xr_aload_n D_Mo_ship_173 rfl rfl ?_
      refine xr_dup D_Mo_ship_174 rfl ?_
      refine xr_getf F_Mo_132 D_Mo_ship_175 rfl rfl ?_
      refine xr_iconst (v := 1) D_Mo_ship_178 rfl ?_
      refine xr_iadd D_Mo_ship_179 ?_
      refine xr_putf F_Mo_132 FT_Mo FN_Mo_14 D_Mo_ship_180 rfl (Nat.le_of_ble_eq_true rfl) rfl rfl (pset_34_14) ?_
      refine xr_aload_n D_Mo_ship_183 rfl rfl ?_
      refine xr_getf F_Mo_132 D_Mo_ship_184 rfl rfl ?_
      refine xr_iret rfl D_Mo_ship_187 ?_
      refine ⟨_, rfl, fun k hk => ?_, rfl, rfl, rfl, rfl⟩
      simp only [List.mem_cons, List.not_mem_nil, not_or, or_false] at hk
      rw [upd_n hk.2.2.2, upd_n hk.2.2.1]
    · exact absurd (show I 3420 ≤ Int32.ofNat j from i_le.mpr (by rw [hm, i_of (by omega)]; omega)) c1
  | succ t ih =>
    intro j I A hj hm e48 e52
    have ej : (Int32.ofNat j).toNatClampNeg = j := by rw [i_cl, i_of (by omega)]; omega
    have hb : vp_in (Int32.ofNat j) 500 := i_in (by rw [i_of (by omega)]; omega) (by rw [i_of (by omega)]; omega)
    have e52j := e52 j (by omega)
    refine xr_iload D_Mo_ship_89 rfl ?_
    refine xr_aload_n D_Mo_ship_91 rfl rfl ?_
    refine xr_getf F_Mo_119 D_Mo_ship_92 rfl rfl ?_
    refine xr_icmp_ge (tgt := 168) D_Mo_ship_95 rfl (fun c1 => ?_) (fun c1 => ?_)
    · exact absurd (show I 3420 ≤ Int32.ofNat j from c1) (fun q => by rw [i_le, hm, i_of (by omega)] at q; omega)
    · refine xr_aload_n D_Mo_ship_98 rfl rfl ?_
      refine xr_aload_n D_Mo_ship_99 rfl rfl ?_
      refine xr_getf F_Mo_57 D_Mo_ship_100 rfl rfl ?_
      refine xr_iload D_Mo_ship_103 rfl ?_
      refine xr_iald D_Mo_ship_105 rfl (by exact hb) ?_
      refine xr_aload_n D_Mo_ship_106 rfl rfl ?_
      refine xr_getf F_Mo_135 D_Mo_ship_107 rfl rfl ?_
      refine xr_icmp_le (tgt := 123) D_Mo_ship_110 rfl (fun c2 => ?_) (fun c2 => ?_)
      · refine xr_aload_n D_Mo_ship_123 rfl rfl ?_
        refine xr_getf F_Mo_135 D_Mo_ship_124 rfl rfl ?_
        refine xr_putf F_Mo_135 FT_Mo FN_Mo_16 D_Mo_ship_127 rfl (Nat.le_of_ble_eq_true rfl) rfl rfl (pset_34_16) ?_
        refine xr_aload_n D_Mo_ship_130 rfl rfl ?_
        refine xr_aload_n D_Mo_ship_131 rfl rfl ?_
        refine xr_getf F_Mo_69 D_Mo_ship_132 rfl rfl ?_
        refine xr_iload D_Mo_ship_135 rfl ?_
        refine xr_iald D_Mo_ship_137 rfl (by exact hb) ?_
        refine xr_aload_n D_Mo_ship_138 rfl rfl ?_
        refine xr_getf F_Mo_138 D_Mo_ship_139 rfl rfl ?_
        refine xr_icmp_le (tgt := 155) D_Mo_ship_142 rfl (fun c3 => ?_) (fun c3 => ?_)
        · refine xr_aload_n D_Mo_ship_155 rfl rfl ?_
          refine xr_getf F_Mo_138 D_Mo_ship_156 rfl rfl ?_
          refine xr_putf F_Mo_138 FT_Mo FN_Mo_17 D_Mo_ship_159 rfl (Nat.le_of_ble_eq_true rfl) rfl rfl (pset_34_17) ?_
          refine xr_iinc (c9 := 1) D_Mo_ship_162 rfl rfl (by decide) ?_
          refine xr_goto (tgt := 89) D_Mo_ship_165 rfl ?_
          rw [io_succ]
          refine xr_mono (ih (j + 1) _ _ (by omega) hm e48 e52) ?_
          rintro _ ⟨I9, rfl, q1, q2, q3, q4, q5⟩
          have c2z : A 48 j ≤ I 3416 := by rw [ej] at c2; exact c2
          have c3z : A 52 j ≤ I 3417 := by rw [ej] at c3; exact c3
          refine ⟨I9, rfl, fun k hk => ?_, q2, ?_, ?_, q5⟩
          · rw [q1 k hk]
            simp only [List.mem_cons, List.not_mem_nil, not_or, or_false] at hk
            rw [upd_n hk.2.1, upd_n hk.1]
          · rw [q3]
            show mxP Y t (j + 1) (I 3416) = mxP Y t (j + 1) (if I 3416 < Y j then Y j else I 3416)
            rw [if_neg (fun z => by rw [← e48] at z; grind)]
          · rw [q4]
            show mxP H t (j + 1) (I 3417) = mxP H t (j + 1) (if I 3417 < H j then H j else I 3417)
            rw [if_neg (fun z => by rw [← e52j] at z; grind)]
        · refine xr_aload_n D_Mo_ship_145 rfl rfl ?_
          refine xr_getf F_Mo_69 D_Mo_ship_146 rfl rfl ?_
          refine xr_iload D_Mo_ship_149 rfl ?_
          refine xr_iald D_Mo_ship_151 rfl (by exact hb) ?_
          refine xr_goto (tgt := 159) D_Mo_ship_152 rfl ?_
          refine xr_putf F_Mo_138 FT_Mo FN_Mo_17 D_Mo_ship_159 rfl (Nat.le_of_ble_eq_true rfl) rfl rfl (pset_34_17) ?_
          refine xr_iinc (c9 := 1) D_Mo_ship_162 rfl rfl (by decide) ?_
          refine xr_goto (tgt := 89) D_Mo_ship_165 rfl ?_
          rw [io_succ]
          refine xr_mono (ih (j + 1) _ _ (by omega) hm e48 e52) ?_
          rintro _ ⟨I9, rfl, q1, q2, q3, q4, q5⟩
          have c2z : A 48 j ≤ I 3416 := by rw [ej] at c2; exact c2
          have c3z : ¬ A 52 j ≤ I 3417 := by rw [ej] at c3; exact c3
          refine ⟨I9, rfl, fun k hk => ?_, q2, ?_, ?_, q5⟩
          · rw [q1 k hk]
            simp only [List.mem_cons, List.not_mem_nil, not_or, or_false] at hk
            rw [upd_n hk.2.1, upd_n hk.1]
          · rw [q3]
            show mxP Y t (j + 1) (I 3416) = mxP Y t (j + 1) (if I 3416 < Y j then Y j else I 3416)
            rw [if_neg (fun z => by rw [← e48] at z; grind)]
          · rw [q4]
            show mxP H t (j + 1) (A 52 (Int32.ofNat j).toNatClampNeg) = mxP H t (j + 1) (if I 3417 < H j then H j else I 3417)
            rw [if_pos (by rw [← e52j]; grind), ej, e52j]
      · refine xr_aload_n D_Mo_ship_113 rfl rfl ?_
        refine xr_getf F_Mo_57 D_Mo_ship_114 rfl rfl ?_
        refine xr_iload D_Mo_ship_117 rfl ?_
        refine xr_iald D_Mo_ship_119 rfl (by exact hb) ?_
        refine xr_goto (tgt := 127) D_Mo_ship_120 rfl ?_
        refine xr_putf F_Mo_135 FT_Mo FN_Mo_16 D_Mo_ship_127 rfl (Nat.le_of_ble_eq_true rfl) rfl rfl (pset_34_16) ?_
        refine xr_aload_n D_Mo_ship_130 rfl rfl ?_
        refine xr_aload_n D_Mo_ship_131 rfl rfl ?_
        refine xr_getf F_Mo_69 D_Mo_ship_132 rfl rfl ?_
        refine xr_iload D_Mo_ship_135 rfl ?_
        refine xr_iald D_Mo_ship_137 rfl (by exact hb) ?_
        refine xr_aload_n D_Mo_ship_138 rfl rfl ?_
        refine xr_getf F_Mo_138 D_Mo_ship_139 rfl rfl ?_
        refine xr_icmp_le (tgt := 155) D_Mo_ship_142 rfl (fun c3 => ?_) (fun c3 => ?_)
        · refine xr_aload_n D_Mo_ship_155 rfl rfl ?_
          refine xr_getf F_Mo_138 D_Mo_ship_156 rfl rfl ?_
          refine xr_putf F_Mo_138 FT_Mo FN_Mo_17 D_Mo_ship_159 rfl (Nat.le_of_ble_eq_true rfl) rfl rfl (pset_34_17) ?_
          refine xr_iinc (c9 := 1) D_Mo_ship_162 rfl rfl (by decide) ?_
          refine xr_goto (tgt := 89) D_Mo_ship_165 rfl ?_
          rw [io_succ]
          refine xr_mono (ih (j + 1) _ _ (by omega) hm e48 e52) ?_
          rintro _ ⟨I9, rfl, q1, q2, q3, q4, q5⟩
          have c2z : ¬ A 48 j ≤ I 3416 := by rw [ej] at c2; exact c2
          have c3z : A 52 j ≤ I 3417 := by rw [ej] at c3; exact c3
          refine ⟨I9, rfl, fun k hk => ?_, q2, ?_, ?_, q5⟩
          · rw [q1 k hk]
            simp only [List.mem_cons, List.not_mem_nil, not_or, or_false] at hk
            rw [upd_n hk.2.1, upd_n hk.1]
          · rw [q3]
            show mxP Y t (j + 1) (A 48 (Int32.ofNat j).toNatClampNeg) = mxP Y t (j + 1) (if I 3416 < Y j then Y j else I 3416)
            rw [if_pos (by rw [← e48]; grind), ej, e48]
          · rw [q4]
            show mxP H t (j + 1) (I 3417) = mxP H t (j + 1) (if I 3417 < H j then H j else I 3417)
            rw [if_neg (fun z => by rw [← e52j] at z; grind)]
        · refine xr_aload_n D_Mo_ship_145 rfl rfl ?_
          refine xr_getf F_Mo_69 D_Mo_ship_146 rfl rfl ?_
          refine xr_iload D_Mo_ship_149 rfl ?_
          refine xr_iald D_Mo_ship_151 rfl (by exact hb) ?_
          refine xr_goto (tgt := 159) D_Mo_ship_152 rfl ?_
          refine xr_putf F_Mo_138 FT_Mo FN_Mo_17 D_Mo_ship_159 rfl (Nat.le_of_ble_eq_true rfl) rfl rfl (pset_34_17) ?_
          refine xr_iinc (c9 := 1) D_Mo_ship_162 rfl rfl (by decide) ?_
          refine xr_goto (tgt := 89) D_Mo_ship_165 rfl ?_
          rw [io_succ]
          refine xr_mono (ih (j + 1) _ _ (by omega) hm e48 e52) ?_
          rintro _ ⟨I9, rfl, q1, q2, q3, q4, q5⟩
          have c2z : ¬ A 48 j ≤ I 3416 := by rw [ej] at c2; exact c2
          have c3z : ¬ A 52 j ≤ I 3417 := by rw [ej] at c3; exact c3
          refine ⟨I9, rfl, fun k hk => ?_, q2, ?_, ?_, q5⟩
          · rw [q1 k hk]
            simp only [List.mem_cons, List.not_mem_nil, not_or, or_false] at hk
            rw [upd_n hk.2.1, upd_n hk.1]
          · rw [q3]
            show mxP Y t (j + 1) (A 48 (Int32.ofNat j).toNatClampNeg) = mxP Y t (j + 1) (if I 3416 < Y j then Y j else I 3416)
            rw [if_pos (by rw [← e48]; grind), ej, e48]
          · rw [q4]
            show mxP H t (j + 1) (A 52 (Int32.ofNat j).toNatClampNeg) = mxP H t (j + 1) (if I 3417 < H j then H j else I 3417)
            rw [if_pos (by rw [← e52j]; grind), ej, e52j]

theorem stM_pre {B xs : List Int32} {c n : Int32} : ∃ ys, (if B = [] then stB c n else B) ++ xs = B ++ ys := by
  split
  · next e => exact ⟨stB c n ++ xs, by rw [e]; rfl⟩
  · exact ⟨xs, rfl⟩
theorem isO_pre {u u' : Int32} {g g' : Nat → Int32} {B B' : List Int32} (h : isO u g B) (h' : isO u' g' B') (hp : ∃ ys, B' = B ++ ys) : isO u g' B := by
  obtain ⟨ys, rfl⟩ := hp
  refine ⟨h.1, h.2.1, fun i b hb => h'.2.2 i b ?_⟩
  rw [List.getElem?_append_left (List.getElem?_eq_some_iff.mp hb).1]
  exact hb
theorem isM_pre {n n' : Int32} {od od' : Nat → Int32} {T E : List Int32} (h : isM n od T) (h' : isM n' od' (T ++ E)) : isM n od' T := by
  refine ⟨h.1, h.2.1, fun i b hb => h'.2.2.1 i b ?_, h.2.2.2⟩
  rw [List.getElem?_append_left (List.getElem?_eq_some_iff.mp hb).1]
  exact hb

set_option maxHeartbeats 2000000 in
theorem c_Mo_ship_34 {I : mI} {A : mA} {L : mL} {n : Nat} {B T : List Int32} (hn : n ≤ 500) (hmn : (I 3420).toInt = (n : Int)) (hF : ∀ k, k < n → A 45 k = -1 ∨ (0 ≤ A 45 k ∧ A 45 k ≤ 255)) (hC : ∀ k, k < n → ¬ A 45 k = -1 → 0 ≤ A 46 k ∧ A 46 k ≤ 255) (hL : ∀ x : Int32, 0 ≤ x → x ≤ 255 → 0 ≤ A 39 x.toNatClampNeg ∧ A 39 x.toNatClampNeg ≤ 16) (h0 : 0 ≤ I 3411) (h1 : I 3411 ≤ 255) (hlen : I 3413 = 0 → B.length ≤ 60000) (hB : isO (I 3409) (A 43) B) (hT : isM (I 3418) (A 44) T) : xm m_Mo_ship (4, 95) [.ref 34] (pic I A L) 0 0 (fun o => (smC1 I ∧ smQ1 I A L o) ∨ (smC2 I A n ∧ smQ2 I A L o) ∨ (smC3 I A n B T ∧ smQ3 I A L B T o) ∨ (smC4 I A n B T ∧ smQ4 I A L n B T o)) := by
  have hFF : ∀ k, k < n → A 45 k < 0 ∨ ((0 ≤ A 45 k ∧ A 45 k ≤ 255) ∧ 0 ≤ A 46 k ∧ A 46 k ≤ 255) := by
    intro k hk
    by_cases e : A 45 k = -1
    · exact Or.inl (by rw [e]; decide)
    · exact Or.inr ⟨(hF k hk).resolve_left e, hC k hk e⟩
  refine xm_of rfl (by decide) (Nat.le_of_ble_eq_true rfl) ?_
  refine xr_aload_n D_Mo_ship_0 rfl rfl ?_
  refine xr_aload_n D_Mo_ship_1 rfl rfl ?_
  refine xr_getf F_Mo_128 D_Mo_ship_2 rfl rfl ?_
  refine xr_if_eq (tgt := 12) D_Mo_ship_5 rfl (fun c1 => ?_) (fun c1 => ?_)
  · refine xr_aload_n D_Mo_ship_12 rfl rfl ?_
    refine xr_cVx (as := []) (c_Mo_findMoves_34 hn hmn hFF) (L_Mo_189) (CD_Mo_findMoves) CI_Mo D_Mo_ship_13 rfl rfl (by decide) (Nat.le_of_ble_eq_true rfl) (Nat.le_of_eq (Nat.zero_add _)) (Nat.le_of_eq (Nat.zero_add _)) pic_len ?_
    rintro _ (⟨hb, A1, rfl, hA1⟩ | ⟨hb, A1, rfl, hA1, e7⟩)
    · refine ⟨_, _, rfl, pic_leq, ?_⟩
      refine xr_if_eq (tgt := 23) D_Mo_ship_16 rfl (fun c2 => ?_) (fun c2 => ?_)
      · refine xr_iconst (v := 2) D_Mo_ship_23 rfl ?_
        refine xr_putf F_Mo_97 FT_Mo FN_Mo_0 D_Mo_ship_24 rfl (Nat.le_of_ble_eq_true rfl) rfl rfl (pset_34_0) ?_
        refine xr_aload_n D_Mo_ship_27 rfl rfl ?_
        refine xr_getf F_Mo_97 D_Mo_ship_28 rfl rfl ?_
        refine xr_if_le (tgt := 36) D_Mo_ship_31 rfl (fun c3 => ?_) (fun c3 => ?_)
        · exact absurd (show (2 : Int32) ≤ (0 : Int32) from c3) (by decide)
        · refine xr_iconst (v := 0) D_Mo_ship_34 rfl ?_
          refine xr_iret rfl D_Mo_ship_35 ?_
          exact Or.inr (Or.inl ⟨⟨c1, hb⟩, A1, rfl, hA1⟩)
      · exact absurd (show (0 : Int32) = (0 : Int32) by decide) c2
    · refine ⟨_, _, rfl, pic_leq, ?_⟩
      refine xr_if_eq (tgt := 23) D_Mo_ship_16 rfl (fun c3 => ?_) (fun c3 => ?_)
      · exact absurd (show (1 : Int32) = (0 : Int32) from c3) (by decide)
      · refine xr_iconst (v := 0) D_Mo_ship_19 rfl ?_
        refine xr_goto (tgt := 24) D_Mo_ship_20 rfl ?_
        refine xr_putf F_Mo_97 FT_Mo FN_Mo_0 D_Mo_ship_24 rfl (Nat.le_of_ble_eq_true rfl) rfl rfl (pset_34_0) ?_
        refine xr_aload_n D_Mo_ship_27 rfl rfl ?_
        refine xr_getf F_Mo_97 D_Mo_ship_28 rfl rfl ?_
        refine xr_if_le (tgt := 36) D_Mo_ship_31 rfl (fun c4 => ?_) (fun c4 => ?_)
        · have w0 : wmM (upd I 3400 0) A1 (I 3420) (A1 45) (A1 46) (A1 49) (A1 50) (A1 51) (defM A1) := ⟨rfl, rfl, rfl, rfl, rfl, rfl, fun _ => rfl, by rw [hA1 39 (by decide)]; exact hL⟩
          have hB1 : isO ((upd I 3400 0) 3409) (A1 43) B := by rw [hA1 43 (by decide)]; exact hB
          have t1 : isM ((upd I 3400 0) 3418) (A1 44) T := by rw [hA1 44 (by decide)]; exact hT
          have hP1 : (pgR (A1 51) (A1 50) (cmN n (A1 51)) (cmN n (A1 50)) (A1 45) (A1 46) (A1 49) (defM A1) n 0 0 0 0 0 (-1) T) = pgO A n T := by
            unfold pgO
            refine pgR_cg (n := n) (fun k hk => (e7 k hk).2.1) (fun k hk => (e7 k hk).1) (fun k hk => cmN_cg (fun j hj => (e7 j hj).2.1)) (fun k hk => cmN_cg (fun j hj => (e7 j hj).1)) (fun k _ => by rw [hA1 45 (by decide)]) (fun k _ => by rw [hA1 46 (by decide)]) (fun k _ => by rw [hA1 49 (by decide)]) (fun k _ _ => ?_) n 0 _ _ _ _ _ _ (by omega)
            unfold defM
            rw [hA1 36 (by decide), hA1 37 (by decide), hA1 38 (by decide), hA1 39 (by decide), hA1 40 (by decide)]
          have hW := c_Mo_writePage_34 (L := L) hn hmn (by rw [hA1 45 (by decide)]; exact hF) (fun x q1 q2 => defM_len (by rw [hA1 39 (by decide)]; exact (hL x q1 q2).1) (by rw [hA1 39 (by decide)]; exact (hL x q1 q2).2)) w0 h0 h1 (hlen c1) hB1 t1
          rw [hP1, hA1 42 (by decide)] at hW
          refine xr_aload_n D_Mo_ship_36 rfl rfl ?_
          refine xr_getf F_Mo_116 D_Mo_ship_37 rfl rfl ?_
          refine xr_istore_n D_Mo_ship_40 rfl (by decide) ?_
          refine xr_aload_n D_Mo_ship_41 rfl rfl ?_
          refine xr_getf F_Mo_100 D_Mo_ship_42 rfl rfl ?_
          refine xr_istore_n D_Mo_ship_45 rfl (by decide) ?_
          refine xr_aload_n D_Mo_ship_46 rfl rfl ?_
          refine xr_getf F_Mo_41 D_Mo_ship_47 rfl rfl ?_
          refine xr_istore_n D_Mo_ship_50 rfl (by decide) ?_
          refine xr_aload_n D_Mo_ship_51 rfl rfl ?_
          refine xr_cVv (as := []) (hW) (L_Mo_193) (CD_Mo_writePage) CI_Mo D_Mo_ship_52 rfl rfl (by decide) (Nat.le_of_ble_eq_true rfl) (Nat.le_of_eq (Nat.zero_add _)) (Nat.le_of_eq (Nat.zero_add _)) pic_len ?_
          rintro _ ⟨I2, A2, rfl, hI2, hA2, hB2, hT2, g2⟩
          refine ⟨_, rfl, pic_leq, ?_⟩
          refine xr_aload_n D_Mo_ship_55 rfl rfl ?_
          refine xr_getf F_Mo_116 D_Mo_ship_56 rfl rfl ?_
          refine xr_ldc (v := 60000) D_Mo_ship_59 K_Mo_196 ?_
          refine xr_icmp_le (tgt := 86) D_Mo_ship_61 rfl (fun c5 => ?_) (fun c5 => ?_)
          · refine xr_iconst (v := 0) D_Mo_ship_86 rfl ?_
            refine xr_istore D_Mo_ship_87 (by decide) ?_
            refine xr_mono (l_Mo_gr (H := fun k => hP (A 47) (gwM (A 45) (A 46) (A 41)) (k + 1)) hn n 0 _ _ (by omega) (show (I2 3420).toInt = (n : Int) by rw [hI2 3420 (by decide)]; exact hmn) (hA2 48 (by decide)) (fun k hk => by rw [hA2 52 (by decide)]; exact (e7 k hk).2.2)) ?_
            rintro _ ⟨I9, rfl, q1, q2, q3, q4, q5⟩
            have e14 : I2 3414 = I 3414 := hI2 3414 (by decide)
            refine Or.inr (Or.inr (Or.inr ⟨⟨c1, hb, ?_⟩, I9, A2, by rw [e14], fun q hq => ?_, frA_tr hA1 hA2 (by decide) (by decide), ?_, ?_, ?_, by rw [q2, e14], ?_, ?_, q5, ?_⟩))
            · have q9 : (I2 3409).toInt = (((stM B (I 3412) (I 3411)) ++ pgY (A 42) (I 3415) (pgO A n T).1).length : Int) := hB2.1
              have c9 : I2 3409 ≤ 60000 := by assumption
              rw [i_le, show (60000 : Int32).toInt = 60000 from rfl] at c9
              omega
            · simp only [List.mem_cons, List.not_mem_nil, not_or, or_false] at hq
              obtain ⟨z1, z2, z3, z4, z5, z6, z7, z8⟩ := hq
              rw [q1 q (by simp only [List.mem_cons, List.not_mem_nil, not_or, or_false]; exact ⟨z5, z6, z7, z8⟩), hI2 q (by simp only [List.mem_cons, List.not_mem_nil, not_or, or_false]; exact ⟨z2, z3, z4⟩), upd_n z1]
            · rw [q1 3409 (by decide)]; exact hB2
            · rw [q1 3418 (by decide)]; exact hT2
            · rw [q1 3415 (by decide)]; exact g2
            · rw [q3, hI2 3416 (by decide), hA1 48 (by decide)]; rfl
            · rw [q4, hI2 3417 (by decide)]; rfl
            · rw [q1 3400 (by decide), hI2 3400 (by decide)]; rfl
          · refine xr_aload_n D_Mo_ship_64 rfl rfl ?_
            refine xr_iload_n D_Mo_ship_65 rfl rfl ?_
            refine xr_putf F_Mo_116 FT_Mo FN_Mo_9 D_Mo_ship_66 rfl (Nat.le_of_ble_eq_true rfl) rfl rfl (pset_34_9) ?_
            refine xr_aload_n D_Mo_ship_69 rfl rfl ?_
            refine xr_iload_n D_Mo_ship_70 rfl rfl ?_
            refine xr_putf F_Mo_100 FT_Mo FN_Mo_18 D_Mo_ship_71 rfl (Nat.le_of_ble_eq_true rfl) rfl rfl (pset_34_18) ?_
            refine xr_aload_n D_Mo_ship_74 rfl rfl ?_
            refine xr_iload_n D_Mo_ship_75 rfl rfl ?_
            refine xr_putf F_Mo_41 FT_Mo FN_Mo_15 D_Mo_ship_76 rfl (Nat.le_of_ble_eq_true rfl) rfl rfl (pset_34_15) ?_
            refine xr_aload_n D_Mo_ship_79 rfl rfl ?_
            refine xr_iconst (v := 3) D_Mo_ship_80 rfl ?_
            refine xr_putf F_Mo_97 FT_Mo FN_Mo_0 D_Mo_ship_81 rfl (Nat.le_of_ble_eq_true rfl) rfl rfl (pset_34_0) ?_
            refine xr_iconst (v := 0) D_Mo_ship_84 rfl ?_
            refine xr_iret rfl D_Mo_ship_85 ?_
            obtain ⟨E, hE⟩ := pgR_ext (dn := dnP (A 48)) (rt := rtP (A 47) (gwM (A 45) (A 46) (A 41))) (cd := cmN n (dnP (A 48))) (cr := cmN n (rtP (A 47) (gwM (A 45) (A 46) (A 41)))) (F := A 45) (C := A 46) (H := A 49) (D := defM A) n 0 0 0 0 0 (-1) T
            have hT3 : isM (I2 3418) (A2 44) (T ++ E) := by rw [← hE]; exact hT2
            refine Or.inr (Or.inr (Or.inl ⟨⟨c1, hb, ?_⟩, _, _, rfl, fun q hq => ?_, frA_tr hA1 hA2 (by decide) (by decide), ?_, ?_, rfl, rfl⟩))
            · have q9 : (I2 3409).toInt = (((stM B (I 3412) (I 3411)) ++ pgY (A 42) (I 3415) (pgO A n T).1).length : Int) := hB2.1
              have c9 : ¬ I2 3409 ≤ 60000 := by assumption
              rw [i_le, show (60000 : Int32).toInt = 60000 from rfl] at c9
              omega
            · simp only [List.mem_cons, List.not_mem_nil, not_or, or_false] at hq
              rw [upd_n hq.1, upd_n hq.2.2.2, upd_n hq.2.2.1, upd_n hq.2.1, hI2 q (by simp only [List.mem_cons, List.not_mem_nil, not_or, or_false]; exact ⟨hq.2.1, hq.2.2.1, hq.2.2.2⟩), upd_n hq.1]
            · exact isO_pre hB hB2 (stM_pre)
            · exact isM_pre hT hT3
        · exact absurd (show (0 : Int32) ≤ (0 : Int32) by decide) c4
  · refine xr_iconst (v := 1) D_Mo_ship_8 rfl ?_
    refine xr_goto (tgt := 24) D_Mo_ship_9 rfl ?_
    refine xr_putf F_Mo_97 FT_Mo FN_Mo_0 D_Mo_ship_24 rfl (Nat.le_of_ble_eq_true rfl) rfl rfl (pset_34_0) ?_
    refine xr_aload_n D_Mo_ship_27 rfl rfl ?_
    refine xr_getf F_Mo_97 D_Mo_ship_28 rfl rfl ?_
    refine xr_if_le (tgt := 36) D_Mo_ship_31 rfl (fun c2 => ?_) (fun c2 => ?_)
    · exact absurd (show (1 : Int32) ≤ (0 : Int32) from c2) (by decide)
    · refine xr_iconst (v := 0) D_Mo_ship_34 rfl ?_
      refine xr_iret rfl D_Mo_ship_35 ?_
      exact Or.inl ⟨c1, rfl⟩
