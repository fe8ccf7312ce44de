theorem pgn : ∀ (n : Nat) (T : List Nat), T.Nodup → (∀ x ∈ T, x < n) → T.length ≤ n := by
  intro n
  induction n with
  | zero =>
    intro T _ h
    cases T with
    | nil => exact Nat.le_refl _
    | cons x r => exact absurd (h x List.mem_cons_self) (by omega)
  | succ n ih =>
    intro T hn h
    have h1 : (T.erase n).length ≤ n := by
      refine ih _ (hn.erase n) (fun x hx => ?_)
      have h2 := (List.Nodup.mem_erase_iff hn).mp hx
      have h3 := h x h2.2
      omega
    have h4 := List.length_erase (a := n) (l := T)
    split at h4 <;> omega
def isT (n : Int32) (fl od : Nat → Int32) (T : List Int32) : Prop := n.toInt = T.length ∧ T.Nodup ∧ (∀ (i : Nat) (x : Int32), T[i]? = some x → od i = x) ∧ (∀ x ∈ T, 0 ≤ x ∧ x ≤ 255) ∧ (∀ x : Int32, 0 ≤ x → x ≤ 255 → (¬ fl x.toNatClampNeg = 0 ↔ x ∈ T))
theorem cl_inj {x y : Int32} (hx : 0 ≤ x) (hy : 0 ≤ y) (h : x.toNatClampNeg = y.toNatClampNeg) : x = y := by
  rw [i_le, z0] at hx hy
  rw [i_cl, i_cl] at h
  exact i_eq.mpr (by omega)
theorem nd_len {T : List Int32} (hn : T.Nodup) (hr : ∀ x ∈ T, 0 ≤ x ∧ x ≤ 255) : T.length ≤ 256 := by
  have h1 : (T.map fun x => x.toNatClampNeg).Nodup := by
    unfold List.Nodup
    rw [List.pairwise_map]
    exact List.Pairwise.imp_of_mem (fun ha hb hab e => hab (cl_inj (hr _ ha).1 (hr _ hb).1 e)) hn
  have h2 := pgn 256 _ h1 (fun x hx => by
    obtain ⟨y, hy, rfl⟩ := List.mem_map.mp hx
    have h3 := hr y hy
    rw [i_le, i_le, z0, show (255 : Int32).toInt = 255 from rfl] at h3
    rw [i_cl]
    omega)
  rw [List.length_map] at h2
  exact h2
theorem isT_lt {n : Int32} {fl od : Nat → Int32} {T : List Int32} {f : Int32} (h : isT n fl od T) (hf : 0 ≤ f ∧ f ≤ 255) (hm : f ∉ T) : 0 ≤ n ∧ n < 256 := by
  obtain ⟨h1, h2, h3, h4, h5⟩ := h
  have h6 : (f :: T).length ≤ 256 := nd_len (List.nodup_cons.mpr ⟨hm, h2⟩) (fun x hx => by
    rcases List.mem_cons.mp hx with rfl | hx
    · exact hf
    · exact h4 x hx)
  rw [List.length_cons] at h6
  rw [i_le, i_lt, z0, show (256 : Int32).toInt = 256 from rfl]
  omega
theorem isT_add {n : Int32} {fl od : Nat → Int32} {T : List Int32} {f : Int32} (h : isT n fl od T) (hf : 0 ≤ f ∧ f ≤ 255) (hm : f ∉ T) : isT (n + 1) (upd fl f.toNatClampNeg 1) (upd od n.toNatClampNeg f) (T ++ [f]) := by
  have hlt := isT_lt h hf hm
  obtain ⟨h1, h2, h3, h4, h5⟩ := h
  rw [i_le, i_lt, z0, show (256 : Int32).toInt = 256 from rfl] at hlt
  refine ⟨?_, ?_, fun i x hx => ?_, fun x hx => ?_, fun x q0 q1 => ?_⟩
  · rw [i_add (by rw [z1]; omega) (by rw [z1]; omega), z1, h1]; simp
  · rw [List.nodup_append]
    refine ⟨h2, by simp, fun a ha b hb e => ?_⟩
    rw [List.mem_singleton] at hb
    rw [e, hb] at ha
    exact hm ha
  · by_cases hi : i = T.length
    · have e3 : n.toNatClampNeg = i := by rw [i_cl, h1, hi]; omega
      rw [e3, upd_s]
      rw [hi] at hx
      simp at hx
      exact hx
    · have hlt2 : i < T.length := by
        have := (List.getElem?_eq_some_iff.mp hx).1
        simp at this
        omega
      have e3 : i ≠ n.toNatClampNeg := by rw [i_cl, h1]; omega
      rw [upd_n e3]
      rw [List.getElem?_append_left hlt2] at hx
      exact h3 i x hx
  · rcases List.mem_append.mp hx with hx | hx
    · exact h4 x hx
    · rw [List.mem_singleton] at hx
      rw [hx]; exact hf
  · by_cases e : x = f
    · rw [e, upd_s]
      exact ⟨fun _ => List.mem_append.mpr (Or.inr (List.mem_singleton.mpr rfl)), fun _ => by decide⟩
    · rw [upd_n (fun q => e (cl_inj q0 hf.1 q)), h5 x q0 q1, List.mem_append, List.mem_singleton]
      exact ⟨Or.inl, fun q => q.resolve_right e⟩
def fnS (D : Int32 → List Int32) (hd : Int32) (T : List Int32) (f : Int32) : List Int32 × List Int32 := if f = hd then ([], T) else if f ∈ T then (fsel f, T) else (D f ++ fsel f, T ++ [f])
def ruB (h w : Int32) : List Int32 := (137 &&& 255) :: (numB h 4 ++ numB w 4)
def pgR (dn rt : Nat → Int32) (cd cr : Nat → Int32 → Bool) (F C H : Nat → Int32) (D : Int32 → List Int32) : Nat → Nat → Int32 → Int32 → Int32 → Int32 → Int32 → List Int32 → List Int32 × List Int32
  | 0, _, _, _, _, _, _, T => ([], T)
  | t + 1, k, a, b, c, d, hd, T =>
    if F k = -1 then
      ((mvS 157 (dn k) a b (cd k)).1 ++ ((mvS 143 (rt k) c d (cr k)).1 ++ (ruB (H k) (C k) ++ (pgR dn rt cd cr F C H D t (k + 1) (mvS 157 (dn k) a b (cd k)).2.1 (mvS 157 (dn k) a b (cd k)).2.2 (mvS 143 (rt k) c d (cr k)).2.1 (mvS 143 (rt k) c d (cr k)).2.2 hd T).1)), (pgR dn rt cd cr F C H D t (k + 1) (mvS 157 (dn k) a b (cd k)).2.1 (mvS 157 (dn k) a b (cd k)).2.2 (mvS 143 (rt k) c d (cr k)).2.1 (mvS 143 (rt k) c d (cr k)).2.2 hd T).2)
    else
      ((mvS 157 (dn k) a b (cd k)).1 ++ ((mvS 143 (rt k) c d (cr k)).1 ++ ((fnS D hd T (F k)).1 ++ (csel (C k) ++ (pgR dn rt cd cr F C H D t (k + 1) (mvS 157 (dn k) a b (cd k)).2.1 (mvS 157 (dn k) a b (cd k)).2.2 (mvS 143 (rt k) c d (cr k)).2.1 (mvS 143 (rt k) c d (cr k)).2.2 (F k) (fnS D hd T (F k)).2).1))), (pgR dn rt cd cr F C H D t (k + 1) (mvS 157 (dn k) a b (cd k)).2.1 (mvS 157 (dn k) a b (cd k)).2.2 (mvS 143 (rt k) c d (cr k)).2.1 (mvS 143 (rt k) c d (cr k)).2.2 (F k) (fnS D hd T (F k)).2).2)
section PG
variable {dn rt : Nat → Int32} {cd cr : Nat → Int32 → Bool} {F C H : Nat → Int32} {D : Int32 → List Int32} {t k : Nat} {a b c d hd : Int32} {T : List Int32}
theorem pgR_r (h : F k = -1) : pgR dn rt cd cr F C H D (t + 1) k a b c d hd T = ((mvS 157 (dn k) a b (cd k)).1 ++ ((mvS 143 (rt k) c d (cr k)).1 ++ (ruB (H k) (C k) ++ (pgR dn rt cd cr F C H D t (k + 1) (mvS 157 (dn k) a b (cd k)).2.1 (mvS 157 (dn k) a b (cd k)).2.2 (mvS 143 (rt k) c d (cr k)).2.1 (mvS 143 (rt k) c d (cr k)).2.2 hd T).1)), (pgR dn rt cd cr F C H D t (k + 1) (mvS 157 (dn k) a b (cd k)).2.1 (mvS 157 (dn k) a b (cd k)).2.2 (mvS 143 (rt k) c d (cr k)).2.1 (mvS 143 (rt k) c d (cr k)).2.2 hd T).2) := if_pos h
theorem pgR_c (h : ¬ F k = -1) : pgR dn rt cd cr F C H D (t + 1) k a b c d hd T = ((mvS 157 (dn k) a b (cd k)).1 ++ ((mvS 143 (rt k) c d (cr k)).1 ++ ((fnS D hd T (F k)).1 ++ (csel (C k) ++ (pgR dn rt cd cr F C H D t (k + 1) (mvS 157 (dn k) a b (cd k)).2.1 (mvS 157 (dn k) a b (cd k)).2.2 (mvS 143 (rt k) c d (cr k)).2.1 (mvS 143 (rt k) c d (cr k)).2.2 (F k) (fnS D hd T (F k)).2).1))), (pgR dn rt cd cr F C H D t (k + 1) (mvS 157 (dn k) a b (cd k)).2.1 (mvS 157 (dn k) a b (cd k)).2.2 (mvS 143 (rt k) c d (cr k)).2.1 (mvS 143 (rt k) c d (cr k)).2.2 (F k) (fnS D hd T (F k)).2).2) := if_neg h
end PG
abbrev cmK (m : Int32) (f : Nat → Int32) (j : Nat) : Int32 → Bool := fun z => decide (cmD m f (Int32.ofNat j) z)
theorem upAf_self2 {A : mA} {k : Nat} : upAf A k (A k) = A := by
  funext j
  unfold upAf
  by_cases h : j = k
  · rw [if_pos h, h]
  · rw [if_neg h]
theorem pW_B {I : mI} {A : mA} {L : mL} {B : List Int32} : ∀ o, pW I A L B o → pB I A L 1401 15 B o := by
  rintro _ ⟨u, g, rfl, h⟩
  exact ⟨_, _, rfl, frI_up List.mem_cons_self, frA_upf List.mem_cons_self, h⟩

theorem n_Wr_writeCharacter {I : mI} {A : mA} {L : mL} {B : List Int32} {c : Int32} (hB : isB (I 1401) (A 15) B) : xm m_Wr_writeCharacter (1, 21) [.ref 13, .int c] (pic I A L) 0 0 (pB I A L 1401 15 (app B (csel c))) := by
  have h := w_Wr_writeCharacter (I := I) (A := A) (L := L) (u := I 1401) (g := A 15) (c := c) hB
  rw [upd_self, upAf_self2] at h
  exact xm_mono h pW_B
theorem n_Wr_writeStart {I : mI} {A : mA} {L : mL} {B : List Int32} (h0 : 0 ≤ I 1309) (hn : I 1309 ≤ 255) (hB : isB (I 1401) (A 15) B) : xm m_Wr_writeStart (3, 64) [.ref 13] (pic I A L) 0 0 (pB I A L 1401 15 (if B = [] then app B (stB (I 1308) (I 1309)) else B)) := by
  have h := w_Wr_writeStart (I := I) (A := A) (L := L) (u := I 1401) (g := A 15) h0 hn hB
  rw [upd_self, upAf_self2] at h
  exact xm_mono h pW_B
theorem n_Wr_writeScale {I : mI} {A : mA} {L : mL} {B : List Int32} (hB : isB (I 1401) (A 15) B) : xm m_Wr_writeScale (2, 44) [.ref 13] (pic I A L) 0 0 (pB I A L 1401 15 (app B scl)) := by
  have h := w_Wr_writeScale (I := I) (A := A) (L := L) (u := I 1401) (g := A 15) hB
  rw [upd_self, upAf_self2] at h
  exact xm_mono h pW_B
theorem n_Fo_writeDefinition {I : mI} {A : mA} {L : mL} {B : List Int32} {f : Int32} (hf : 0 ≤ f ∧ f ≤ 255) (h0 : 0 ≤ A 9 f.toNatClampNeg) (hl : A 9 f.toNatClampNeg ≤ 16) (hB : isB (I 1401) (A 15) B) : xm m_Fo_writeDefinition (2, 44) [.ref 3, .int f, .ref 14] (pic I A L) 0 0 (pB I A L 1401 15 (app B (defC A L f))) := by
  have h := w_Fo_writeDefinition (I := I) (A := A) (L := L) (u := I 1401) (g := A 15) (f := f) hf h0 hl hB
  rw [upd_self, upAf_self2] at h
  exact xm_mono h pW_B
theorem n_Wr_writeFont {I : mI} {A : mA} {L : mL} {B T : List Int32} {f : Int32} (hf : 0 ≤ f ∧ f ≤ 255) (hT : isT (I 1307) (A 20) (A 21) T) (hl0 : 0 ≤ A 9 f.toNatClampNeg) (hl1 : A 9 f.toNatClampNeg ≤ 16) (hB : isB (I 1401) (A 15) B) : xm m_Wr_writeFont (3, 67) [.ref 13, .int f] (pic I A L) 0 0 (fun o => ∃ I' A', o = (.inl none, pic I' A' L) ∧ frI [1401, 1307] I I' ∧ frA [15, 20, 21] A A' ∧ isB (I' 1401) (A' 15) (app B (if f ∈ T then fsel f else defC A L f ++ fsel f)) ∧ isT (I' 1307) (A' 20) (A' 21) (if f ∈ T then T else T ++ [f])) := by
  have hm := hT.2.2.2.2 f hf.1 hf.2
  have h := w_Wr_writeFont (I := I) (A := A) (L := L) (u := I 1401) (g := A 15) (f := f) hf (fun q => isT_lt hT hf (fun z => q ⟨hf, hm.mpr z⟩)) hl0 hl1 hB
  rw [upd_self, upAf_self2] at h
  refine xm_mono h ?_
  rintro o (⟨e, u, g, rfl, hb⟩ | ⟨e, u, g, rfl, hb⟩)
  · have hn : f ∉ T := fun z => (hm.mpr z) e
    rw [if_neg hn, if_neg hn]
    refine ⟨_, _, rfl, ?_, ?_, hb, isT_add hT hf hn⟩
    · intro k hk
      simp only [List.mem_cons, List.not_mem_nil, not_or, or_false] at hk
      rw [upd_n hk.1, upd_n hk.2]
    · intro k hk
      simp only [List.mem_cons, List.not_mem_nil, not_or, or_false] at hk
      show upAf _ 15 g k = _
      unfold upAf
      rw [if_neg hk.1, upA_n hk.2.2, upA_n hk.2.1]
  · have hy : f ∈ T := hm.mp e
    rw [if_pos hy, if_pos hy]
    exact ⟨_, _, rfl, frI_up List.mem_cons_self, frA_upf List.mem_cons_self, hb, hT⟩
theorem n_Wa_write_18 {I : mI} {A : mA} {L : mL} {B : List Int32} {m : Int32} {dn : Nat → Int32} {n j : Nat} (hn : n ≤ 500) (hj : j < n) (hmn : m.toInt = (n : Int)) (e1 : I 1800 = 157) (e2 : I 1802 = m) (e3 : A 19 = dn) (hB : isB (I 1401) (A 15) B) : xm m_Wa_write (3, 67) [.ref 18, .int (Int32.ofNat j), .ref 14] (pic I A L) 0 0 (fun o => ∃ I' A', o = (.inl none, pic I' A' L) ∧ frI [1401, 1803, 1804] I I' ∧ frA [15] A A' ∧ isB (I' 1401) (A' 15) (app B (mvS 157 (dn j) (I 1803) (I 1804) (cmK m dn j)).1) ∧ I' 1803 = (mvS 157 (dn j) (I 1803) (I 1804) (cmK m dn j)).2.1 ∧ I' 1804 = (mvS 157 (dn j) (I 1803) (I 1804) (cmK m dn j)).2.2) := by
  subst e2 e3
  have ej : (Int32.ofNat j).toNatClampNeg = j := by rw [i_cl, i_of (by omega)]; omega
  have h := c_Wa_write_18 (I := I) (A := A) (L := L) (i := Int32.ofNat j) (i_le.mpr (by rw [z0, i_of (by omega)]; omega)) (i_lt.mpr (by rw [hmn, i_of (by omega)]; omega)) (i_le.mpr (by rw [hmn, show (500 : Int32).toInt = 500 from rfl]; omega)) hB
  rw [e1, ej] at h
  refine xm_mono h ?_
  rintro _ ⟨I', A', rfl, h1, h2, h3⟩
  refine ⟨I', A', rfl, fun k hk => ?_, h2, h3, h1 1803 (by decide), h1 1804 (by decide)⟩
  simp only [List.mem_cons, List.not_mem_nil, not_or, or_false] at hk
  rw [h1 k (by simp only [List.mem_cons, List.not_mem_nil, not_or, or_false]; exact hk.1), upd_n hk.2.2, upd_n hk.2.1]
theorem n_Wa_write_16 {I : mI} {A : mA} {L : mL} {B : List Int32} {m : Int32} {rt : Nat → Int32} {n j : Nat} (hn : n ≤ 500) (hj : j < n) (hmn : m.toInt = (n : Int)) (e1 : I 1600 = 143) (e2 : I 1602 = m) (e3 : A 17 = rt) (hB : isB (I 1401) (A 15) B) : xm m_Wa_write (3, 67) [.ref 16, .int (Int32.ofNat j), .ref 14] (pic I A L) 0 0 (fun o => ∃ I' A', o = (.inl none, pic I' A' L) ∧ frI [1401, 1603, 1604] I I' ∧ frA [15] A A' ∧ isB (I' 1401) (A' 15) (app B (mvS 143 (rt j) (I 1603) (I 1604) (cmK m rt j)).1) ∧ I' 1603 = (mvS 143 (rt j) (I 1603) (I 1604) (cmK m rt j)).2.1 ∧ I' 1604 = (mvS 143 (rt j) (I 1603) (I 1604) (cmK m rt j)).2.2) := by
  subst e2 e3
  have ej : (Int32.ofNat j).toNatClampNeg = j := by rw [i_cl, i_of (by omega)]; omega
  have h := c_Wa_write_16 (I := I) (A := A) (L := L) (i := Int32.ofNat j) (i_le.mpr (by rw [z0, i_of (by omega)]; omega)) (i_lt.mpr (by rw [hmn, i_of (by omega)]; omega)) (i_le.mpr (by rw [hmn, show (500 : Int32).toInt = 500 from rfl]; omega)) hB
  rw [e1, ej] at h
  refine xm_mono h ?_
  rintro _ ⟨I', A', rfl, h1, h2, h3⟩
  refine ⟨I', A', rfl, fun k hk => ?_, h2, h3, h1 1603 (by decide), h1 1604 (by decide)⟩
  simp only [List.mem_cons, List.not_mem_nil, not_or, or_false] at hk
  rw [h1 k (by simp only [List.mem_cons, List.not_mem_nil, not_or, or_false]; exact hk.1), upd_n hk.2.2, upd_n hk.2.1]
abbrev wmI (I : mI) (A : mA) (L : mL) (m : Int32) (f rt dn : Nat → Int32) (D : Int32 → List Int32) : Prop := I 1101 = m ∧ A 12 = f ∧ A 17 = rt ∧ A 19 = dn ∧ I 1602 = m ∧ I 1802 = m ∧ I 1600 = 143 ∧ I 1800 = 157 ∧ (∀ x, defC A L x = D x) ∧ (∀ x : Int32, 0 ≤ x → x ≤ 255 → 0 ≤ A 9 x.toNatClampNeg ∧ A 9 x.toNatClampNeg ≤ 16)
theorem wmI_fr {I I' : mI} {A A' : mA} {L : mL} {m : Int32} {f rt dn : Nat → Int32} {D : Int32 → List Int32} (h : wmI I A L m f rt dn D) (hI : frI [1401, 1603, 1604, 1803, 1804, 1307] I I') (hA : frA [15, 20, 21] A A') : wmI I' A' L m f rt dn D := by
  obtain ⟨h1, h2, h3, h4, h5, h6, h7, h8, h9, h10⟩ := h
  refine ⟨(hI 1101 (by decide)).trans h1, (hA 12 (by decide)).trans h2, (hA 17 (by decide)).trans h3, (hA 19 (by decide)).trans h4, (hI 1602 (by decide)).trans h5, (hI 1802 (by decide)).trans h6, (hI 1600 (by decide)).trans h7, (hI 1800 (by decide)).trans h8, fun x => ?_, fun x => ?_⟩
  · rw [← h9 x]
    unfold defC
    rw [hA 4 (by decide), hA 5 (by decide), hA 6 (by decide), hA 9 (by decide)]
  · rw [hA 9 (by decide)]; exact h10 x
def pN (I : mI) (A : mA) (L : mL) (B T : List Int32) : xO → Prop := fun o => ∃ I' A', o = (.inl none, pic I' A' L) ∧ frI [1401, 1603, 1604, 1803, 1804, 1307] I I' ∧ frA [15, 20, 21] A A' ∧ isB (I' 1401) (A' 15) B ∧ isT (I' 1307) (A' 20) (A' 21) T
theorem fI_t {l : List Nat} {I I1 I2 : mI} (h : frI [1401, 1603, 1604, 1803, 1804, 1307] I I1) (k : frI l I1 I2) (hl : ∀ x ∈ l, x ∈ ([1401, 1603, 1604, 1803, 1804, 1307] : List Nat)) : frI [1401, 1603, 1604, 1803, 1804, 1307] I I2 := frI_tr h k (fun _ h => h) hl
theorem fA_t {l : List Nat} {A A1 A2 : mA} (h : frA [15, 20, 21] A A1) (k : frA l A1 A2) (hl : ∀ x ∈ l, x ∈ ([15, 20, 21] : List Nat)) : frA [15, 20, 21] A A2 := frA_tr h k (fun _ h => h) hl
theorem pN_tr {I I1 : mI} {A A1 : mA} {L : mL} {B B' T T' : List Int32} (h1 : frI [1401, 1603, 1604, 1803, 1804, 1307] I I1) (h2 : frA [15, 20, 21] A A1) (e : B = B') (e2 : T = T') : ∀ o, pN I1 A1 L B T o → pN I A L B' T' o := by
  rintro o ⟨I2, A2, rfl, k1, k2, k3, k4⟩
  subst e e2
  exact ⟨I2, A2, rfl, fI_t h1 k1 (fun _ h => h), fA_t h2 k2 (fun _ h => h), k3, k4⟩

set_option maxHeartbeats 2000000 in
theorem l_Wr_wm {L : mL} {m : Int32} {f rt dn : Nat → Int32} {D : Int32 → List Int32} {n : Nat} (hn : n ≤ 500) (hmn : m.toInt = (n : Int)) (hF : ∀ k, k < n → sPart m f (Int32.ofNat k) 0 = -1 ∨ (0 ≤ sPart m f (Int32.ofNat k) 0 ∧ sPart m f (Int32.ofNat k) 0 ≤ 255)) : ∀ (t j : Nat) (I : mI) (A : mA) (B T : List Int32) (hd : Int32), j + t = n → wmI I A L m f rt dn D → isB (I 1401) (A 15) B → isT (I 1307) (A 20) (A 21) T → xr m_Wr_writeMarks none (4, 90) 4 [some (.ref 13), some (.ref 11), some (.int hd), some (.int (Int32.ofNat j))] [] (pic I A L) 0 0 (pN I A L (app B (pgR dn rt (cmK m dn) (cmK m rt) (fun k => sPart m f (Int32.ofNat k) 0) (fun k => sPart m f (Int32.ofNat k) 1) (fun k => sPart m f (Int32.ofNat k) 2) D t j (I 1803) (I 1804) (I 1603) (I 1604) hd T).1) (pgR dn rt (cmK m dn) (cmK m rt) (fun k => sPart m f (Int32.ofNat k) 0) (fun k => sPart m f (Int32.ofNat k) 1) (fun k => sPart m f (Int32.ofNat k) 2) D t j (I 1803) (I 1804) (I 1603) (I 1604) hd T).2) := by
  intro t
  induction t with
  | zero =>
    intro j I A B T hd hj w0 hB hT
    refine xr_iload_n D_Wr_writeMarks_4 rfl rfl ?_
    refine xr_aload_n D_Wr_writeMarks_5 rfl rfl ?_
    refine xr_cVx (as := []) (c_Sh_length_11) (L_Wr_92) (CD_Sh_length) CI_Sh D_Wr_writeMarks_6 rfl rfl (by decide) (Nat.le_of_ble_eq_true rfl) (Nat.le_of_eq (Nat.zero_add _)) (Nat.le_of_eq (Nat.zero_add _)) pic_len ?_
    rintro _ rfl
    refine ⟨_, _, rfl, rfl, ?_⟩
    rw [w0.1]
    refine xr_icmp_ge (tgt := 118) D_Wr_writeMarks_9 rfl (fun c1 => ?_) (fun c1 => ?_)
    · refine xr_vret rfl D_Wr_writeMarks_118 ?_
      exact ⟨I, A, rfl, frI_rf, frA_rf, by rw [show (pgR dn rt (cmK m dn) (cmK m rt) (fun k => sPart m f (Int32.ofNat k) 0) (fun k => sPart m f (Int32.ofNat k) 1) (fun k => sPart m f (Int32.ofNat k) 2) D 0 j (I 1803) (I 1804) (I 1603) (I 1604) hd T).1 = [] from rfl, app_nil hB.2.1]; exact hB, hT⟩
    · exact absurd (i_le.mpr (by rw [hmn, i_of (by omega)]; omega)) c1
  | succ t ih =>
    intro j I A B T hd hj w0 hB hT
    have f0 : frI [1401, 1603, 1604, 1803, 1804, 1307] I I := frI_rf
    have a0 : frA [15, 20, 21] A A := frA_rf
    refine xr_iload_n D_Wr_writeMarks_4 rfl rfl ?_
    refine xr_aload_n D_Wr_writeMarks_5 rfl rfl ?_
    refine xr_cVx (as := []) (c_Sh_length_11) (L_Wr_92) (CD_Sh_length) CI_Sh D_Wr_writeMarks_6 rfl rfl (by decide) (Nat.le_of_ble_eq_true rfl) (Nat.le_of_eq (Nat.zero_add _)) (Nat.le_of_eq (Nat.zero_add _)) pic_len ?_
    rintro _ rfl
    refine ⟨_, _, rfl, rfl, ?_⟩
    rw [w0.1]
    refine xr_icmp_ge (tgt := 118) D_Wr_writeMarks_9 rfl (fun c1 => ?_) (fun c1 => ?_)
    · exact absurd c1 (fun q => by rw [i_le, hmn, i_of (by omega)] at q; omega)
    · refine xr_aload_n D_Wr_writeMarks_12 rfl rfl ?_
      refine xr_getf F_Wr_27 D_Wr_writeMarks_13 rfl rfl ?_
      refine xr_iload_n D_Wr_writeMarks_16 rfl rfl ?_
      refine xr_aload_n D_Wr_writeMarks_17 rfl rfl ?_
      refine xr_getf F_Wr_12 D_Wr_writeMarks_18 rfl rfl ?_
      refine xr_cVv (as := [_, _]) (n_Wa_write_18 hn (show j < n by omega) hmn w0.2.2.2.2.2.2.2.1 w0.2.2.2.2.2.1 w0.2.2.2.1 hB) (L_Wr_156) (CD_Wa_write) CI_Wa D_Wr_writeMarks_21 rfl rfl (by decide) (Nat.le_of_ble_eq_true rfl) (Nat.le_of_eq (Nat.zero_add _)) (Nat.le_of_eq (Nat.zero_add _)) pic_len ?_
      rintro _ ⟨I2, A2, rfl, hI2, hA2, hB2, y2, z2⟩
      refine ⟨_, rfl, pic_leq, ?_⟩
      have f2 := fI_t f0 hI2 (by decide)
      have a2 := fA_t a0 hA2 (by decide)
      have w2 := wmI_fr w0 f2 a2
      have t2 : isT (I2 1307) (A2 20) (A2 21) T := by rw [hI2 1307 (by decide), hA2 20 (by decide), hA2 21 (by decide)]; exact hT
      refine xr_aload_n D_Wr_writeMarks_24 rfl rfl ?_
      refine xr_getf F_Wr_23 D_Wr_writeMarks_25 rfl rfl ?_
      refine xr_iload_n D_Wr_writeMarks_28 rfl rfl ?_
      refine xr_aload_n D_Wr_writeMarks_29 rfl rfl ?_
      refine xr_getf F_Wr_12 D_Wr_writeMarks_30 rfl rfl ?_
      refine xr_cVv (as := [_, _]) (n_Wa_write_16 hn (show j < n by omega) hmn w2.2.2.2.2.2.2.1 w2.2.2.2.2.1 w2.2.2.1 hB2) (L_Wr_156) (CD_Wa_write) CI_Wa D_Wr_writeMarks_33 rfl rfl (by decide) (Nat.le_of_ble_eq_true rfl) (Nat.le_of_eq (Nat.zero_add _)) (Nat.le_of_eq (Nat.zero_add _)) pic_len ?_
      rintro _ ⟨I3, A3, rfl, hI3, hA3, hB3, y3, z3⟩
      refine ⟨_, rfl, pic_leq, ?_⟩
      have f3 := fI_t f2 hI3 (by decide)
      have a3 := fA_t a2 hA3 (by decide)
      have w3 := wmI_fr w0 f3 a3
      have t3 : isT (I3 1307) (A3 20) (A3 21) T := by rw [hI3 1307 (by decide), hA3 20 (by decide), hA3 21 (by decide)]; exact t2
      rw [hI2 1603 (by decide), hI2 1604 (by decide)] at y3 z3 hB3
      have v3 : I3 1803 = (mvS 157 (dn j) (I 1803) (I 1804) (cmK m dn j)).2.1 ∧ I3 1804 = (mvS 157 (dn j) (I 1803) (I 1804) (cmK m dn j)).2.2 ∧ I3 1603 = (mvS 143 (rt j) (I 1603) (I 1604) (cmK m rt j)).2.1 ∧ I3 1604 = (mvS 143 (rt j) (I 1603) (I 1604) (cmK m rt j)).2.2 := ⟨(hI3 1803 (by decide)).trans y2, (hI3 1804 (by decide)).trans z2, y3, z3⟩
      refine xr_aload_n D_Wr_writeMarks_36 rfl rfl ?_
      refine xr_iload_n D_Wr_writeMarks_37 rfl rfl ?_
      refine xr_cVx (as := [_]) (c_Sh_isRule_11) (L_Wr_122) (CD_Sh_isRule) CI_Sh D_Wr_writeMarks_38 rfl rfl (by decide) (Nat.le_of_ble_eq_true rfl) (Nat.le_of_eq (Nat.zero_add _)) (Nat.le_of_eq (Nat.zero_add _)) pic_len ?_
      rintro _ rfl
      refine ⟨_, _, rfl, rfl, ?_⟩
      rw [w3.1, w3.2.1]
      refine xr_if_eq (tgt := 83) D_Wr_writeMarks_41 rfl (fun c2 => ?_) (fun c2 => ?_)
      · rw [b2_0] at c2
        have hfr : 0 ≤ (sPart m f (Int32.ofNat j) 0) ∧ (sPart m f (Int32.ofNat j) 0) ≤ 255 := (hF j (by omega)).resolve_left c2
        refine xr_aload_n D_Wr_writeMarks_83 rfl rfl ?_
        refine xr_iload_n D_Wr_writeMarks_84 rfl rfl ?_
        refine xr_cVx (as := [_]) (c_Sh_fontOf_11) (L_Wr_125) (CD_Sh_fontOf) CI_Sh D_Wr_writeMarks_85 rfl rfl (by decide) (Nat.le_of_ble_eq_true rfl) (Nat.le_of_eq (Nat.zero_add _)) (Nat.le_of_eq (Nat.zero_add _)) pic_len ?_
        rintro _ rfl
        refine ⟨_, _, rfl, rfl, ?_⟩
        rw [w3.1, w3.2.1]
        refine xr_iload_n D_Wr_writeMarks_88 rfl rfl ?_
        refine xr_icmp_eq (tgt := 103) D_Wr_writeMarks_89 rfl (fun c3 => ?_) (fun c3 => ?_)
        · refine xr_aload_n D_Wr_writeMarks_103 rfl rfl ?_
          refine xr_aload_n D_Wr_writeMarks_104 rfl rfl ?_
          refine xr_iload_n D_Wr_writeMarks_105 rfl rfl ?_
          refine xr_cVx (as := [_]) (c_Sh_characterOrWidth_11) (L_Wr_128) (CD_Sh_characterOrWidth) CI_Sh D_Wr_writeMarks_106 rfl rfl (by decide) (Nat.le_of_ble_eq_true rfl) (Nat.le_of_eq (Nat.zero_add _)) (Nat.le_of_eq (Nat.zero_add _)) pic_len ?_
          rintro _ rfl
          refine ⟨_, _, rfl, rfl, ?_⟩
          rw [w3.1, w3.2.1]
          refine xr_cVv (as := [_]) (n_Wr_writeCharacter hB3) (L_Wr_166) (CD_Wr_writeCharacter) CI_Wr D_Wr_writeMarks_109 rfl rfl (by decide) (Nat.le_of_ble_eq_true rfl) (Nat.le_of_eq (Nat.zero_add _)) (Nat.le_of_eq (Nat.zero_add _)) pic_len ?_
          rintro _ ⟨I7, A7, rfl, hI7, hA7, hB7⟩
          refine ⟨_, rfl, pic_leq, ?_⟩
          have f7 := fI_t f3 hI7 (by decide)
          have a7 := fA_t a3 hA7 (by decide)
          have w7 := wmI_fr w0 f7 a7
          have t7 : isT (I7 1307) (A7 20) (A7 21) T := by rw [hI7 1307 (by decide), hA7 20 (by decide), hA7 21 (by decide)]; exact t3
          have v7 : I7 1803 = (mvS 157 (dn j) (I 1803) (I 1804) (cmK m dn j)).2.1 ∧ I7 1804 = (mvS 157 (dn j) (I 1803) (I 1804) (cmK m dn j)).2.2 ∧ I7 1603 = (mvS 143 (rt j) (I 1603) (I 1604) (cmK m rt j)).2.1 ∧ I7 1604 = (mvS 143 (rt j) (I 1603) (I 1604) (cmK m rt j)).2.2 := ⟨(hI7 1803 (by decide)).trans v3.1, (hI7 1804 (by decide)).trans v3.2.1, (hI7 1603 (by decide)).trans v3.2.2.1, (hI7 1604 (by decide)).trans v3.2.2.2⟩
          refine xr_iinc (c9 := 1) D_Wr_writeMarks_112 rfl rfl (by decide) ?_
          refine xr_goto (tgt := 4) D_Wr_writeMarks_115 rfl ?_
          rw [io_succ]
          refine xr_mono (ih (j + 1) _ _ _ _ _ (by omega) w7 hB7 t7) (pN_tr f7 a7 ?_ ?_)
          · rw [v7.1, v7.2.1, v7.2.2.1, v7.2.2.2, pgR_c c2]
            simp only [app_app, List.append_assoc, fnS, c3, if_true, List.nil_append]
          · rw [v7.1, v7.2.1, v7.2.2.1, v7.2.2.2, pgR_c c2]
            simp only [fnS, c3, if_true]
        · refine xr_aload_n D_Wr_writeMarks_92 rfl rfl ?_
          refine xr_iload_n D_Wr_writeMarks_93 rfl rfl ?_
          refine xr_cVx (as := [_]) (c_Sh_fontOf_11) (L_Wr_125) (CD_Sh_fontOf) CI_Sh D_Wr_writeMarks_94 rfl rfl (by decide) (Nat.le_of_ble_eq_true rfl) (Nat.le_of_eq (Nat.zero_add _)) (Nat.le_of_eq (Nat.zero_add _)) pic_len ?_
          rintro _ rfl
          refine ⟨_, _, rfl, rfl, ?_⟩
          rw [w3.1, w3.2.1]
          refine xr_istore_n D_Wr_writeMarks_97 rfl (by decide) ?_
          refine xr_aload_n D_Wr_writeMarks_98 rfl rfl ?_
          refine xr_iload_n D_Wr_writeMarks_99 rfl rfl ?_
          refine xr_cVv (as := [_]) (n_Wr_writeFont hfr t3 (w3.2.2.2.2.2.2.2.2.2 _ hfr.1 hfr.2).1 (w3.2.2.2.2.2.2.2.2.2 _ hfr.1 hfr.2).2 hB3) (L_Wr_163) (CD_Wr_writeFont) CI_Wr D_Wr_writeMarks_100 rfl rfl (by decide) (Nat.le_of_ble_eq_true rfl) (Nat.le_of_eq (Nat.zero_add _)) (Nat.le_of_eq (Nat.zero_add _)) pic_len ?_
          rintro _ ⟨I9, A9, rfl, hI9, hA9, hB9, t9⟩
          refine ⟨_, rfl, pic_leq, ?_⟩
          have f9 := fI_t f3 hI9 (by decide)
          have a9 := fA_t a3 hA9 (by decide)
          have w9 := wmI_fr w0 f9 a9
          rw [w3.2.2.2.2.2.2.2.2.1] at hB9
          have v9 : I9 1803 = (mvS 157 (dn j) (I 1803) (I 1804) (cmK m dn j)).2.1 ∧ I9 1804 = (mvS 157 (dn j) (I 1803) (I 1804) (cmK m dn j)).2.2 ∧ I9 1603 = (mvS 143 (rt j) (I 1603) (I 1604) (cmK m rt j)).2.1 ∧ I9 1604 = (mvS 143 (rt j) (I 1603) (I 1604) (cmK m rt j)).2.2 := ⟨(hI9 1803 (by decide)).trans v3.1, (hI9 1804 (by decide)).trans v3.2.1, (hI9 1603 (by decide)).trans v3.2.2.1, (hI9 1604 (by decide)).trans v3.2.2.2⟩
          refine xr_aload_n D_Wr_writeMarks_103 rfl rfl ?_
          refine xr_aload_n D_Wr_writeMarks_104 rfl rfl ?_
          refine xr_iload_n D_Wr_writeMarks_105 rfl rfl ?_
          refine xr_cVx (as := [_]) (c_Sh_characterOrWidth_11) (L_Wr_128) (CD_Sh_characterOrWidth) CI_Sh D_Wr_writeMarks_106 rfl rfl (by decide) (Nat.le_of_ble_eq_true rfl) (Nat.le_of_eq (Nat.zero_add _)) (Nat.le_of_eq (Nat.zero_add _)) pic_len ?_
          rintro _ rfl
          refine ⟨_, _, rfl, rfl, ?_⟩
          rw [w9.1, w9.2.1]
          refine xr_cVv (as := [_]) (n_Wr_writeCharacter hB9) (L_Wr_166) (CD_Wr_writeCharacter) CI_Wr D_Wr_writeMarks_109 rfl rfl (by decide) (Nat.le_of_ble_eq_true rfl) (Nat.le_of_eq (Nat.zero_add _)) (Nat.le_of_eq (Nat.zero_add _)) pic_len ?_
          rintro _ ⟨I11, A11, rfl, hI11, hA11, hB11⟩
          refine ⟨_, rfl, pic_leq, ?_⟩
          have f11 := fI_t f9 hI11 (by decide)
          have a11 := fA_t a9 hA11 (by decide)
          have w11 := wmI_fr w0 f11 a11
          have t11 : isT (I11 1307) (A11 20) (A11 21) (if (sPart m f (Int32.ofNat j) 0) ∈ T then T else T ++ [(sPart m f (Int32.ofNat j) 0)]) := by rw [hI11 1307 (by decide), hA11 20 (by decide), hA11 21 (by decide)]; exact t9
          have v11 : I11 1803 = (mvS 157 (dn j) (I 1803) (I 1804) (cmK m dn j)).2.1 ∧ I11 1804 = (mvS 157 (dn j) (I 1803) (I 1804) (cmK m dn j)).2.2 ∧ I11 1603 = (mvS 143 (rt j) (I 1603) (I 1604) (cmK m rt j)).2.1 ∧ I11 1604 = (mvS 143 (rt j) (I 1603) (I 1604) (cmK m rt j)).2.2 := ⟨(hI11 1803 (by decide)).trans v9.1, (hI11 1804 (by decide)).trans v9.2.1, (hI11 1603 (by decide)).trans v9.2.2.1, (hI11 1604 (by decide)).trans v9.2.2.2⟩
          refine xr_iinc (c9 := 1) D_Wr_writeMarks_112 rfl rfl (by decide) ?_
          refine xr_goto (tgt := 4) D_Wr_writeMarks_115 rfl ?_
          rw [io_succ]
          refine xr_mono (ih (j + 1) _ _ _ _ _ (by omega) w11 hB11 t11) (pN_tr f11 a11 ?_ ?_)
          · rw [v11.1, v11.2.1, v11.2.2.1, v11.2.2.2, pgR_c c2]
            simp only [app_app, List.append_assoc, fnS, if_neg c3]
            by_cases hm : (sPart m f (Int32.ofNat j) 0) ∈ T
            · simp only [if_pos hm]
            · simp only [if_neg hm, List.append_assoc]
          · rw [v11.1, v11.2.1, v11.2.2.1, v11.2.2.2, pgR_c c2]
            simp only [fnS, if_neg c3]
            by_cases hm : (sPart m f (Int32.ofNat j) 0) ∈ T
            · simp only [if_pos hm]
            · simp only [if_neg hm]
      · rw [b2_n] at c2
        refine xr_aload_n D_Wr_writeMarks_44 rfl rfl ?_
        refine xr_getf F_Wr_12 D_Wr_writeMarks_45 rfl rfl ?_
        refine xr_sipush (v := 137) D_Wr_writeMarks_48 rfl ?_
        refine xr_cVv (as := [_]) (c_By_add_14 hB3) (L_Wr_140) (CD_By_add) CI_By D_Wr_writeMarks_51 rfl rfl (by decide) (Nat.le_of_ble_eq_true rfl) (Nat.le_of_eq (Nat.zero_add _)) (Nat.le_of_eq (Nat.zero_add _)) pic_len ?_
        rintro _ ⟨I12, A12, rfl, hI12, hA12, hB12⟩
        refine ⟨_, rfl, pic_leq, ?_⟩
        have f12 := fI_t f3 hI12 (by decide)
        have a12 := fA_t a3 hA12 (by decide)
        have w12 := wmI_fr w0 f12 a12
        have t12 : isT (I12 1307) (A12 20) (A12 21) T := by rw [hI12 1307 (by decide), hA12 20 (by decide), hA12 21 (by decide)]; exact t3
        have v12 : I12 1803 = (mvS 157 (dn j) (I 1803) (I 1804) (cmK m dn j)).2.1 ∧ I12 1804 = (mvS 157 (dn j) (I 1803) (I 1804) (cmK m dn j)).2.2 ∧ I12 1603 = (mvS 143 (rt j) (I 1603) (I 1604) (cmK m rt j)).2.1 ∧ I12 1604 = (mvS 143 (rt j) (I 1603) (I 1604) (cmK m rt j)).2.2 := ⟨(hI12 1803 (by decide)).trans v3.1, (hI12 1804 (by decide)).trans v3.2.1, (hI12 1603 (by decide)).trans v3.2.2.1, (hI12 1604 (by decide)).trans v3.2.2.2⟩
        refine xr_aload_n D_Wr_writeMarks_54 rfl rfl ?_
        refine xr_getf F_Wr_12 D_Wr_writeMarks_55 rfl rfl ?_
        refine xr_aload_n D_Wr_writeMarks_58 rfl rfl ?_
        refine xr_iload_n D_Wr_writeMarks_59 rfl rfl ?_
        refine xr_cVx (as := [_]) (c_Sh_height_11) (L_Wr_160) (CD_Sh_height) CI_Sh D_Wr_writeMarks_60 rfl rfl (by decide) (Nat.le_of_ble_eq_true rfl) (Nat.le_of_eq (Nat.zero_add _)) (Nat.le_of_eq (Nat.zero_add _)) pic_len ?_
        rintro _ rfl
        refine ⟨_, _, rfl, rfl, ?_⟩
        rw [w12.1, w12.2.1]
        refine xr_iconst (v := 4) D_Wr_writeMarks_63 rfl ?_
        refine xr_cVv (as := [_, _]) (c_By_addNumber_14 4 rfl (by decide) hB12) (L_Wr_143) (CD_By_addNumber) CI_By D_Wr_writeMarks_64 rfl rfl (by decide) (Nat.le_of_ble_eq_true rfl) (Nat.le_of_eq (Nat.zero_add _)) (Nat.le_of_eq (Nat.zero_add _)) pic_len ?_
        rintro _ ⟨I14, A14, rfl, hI14, hA14, hB14⟩
        refine ⟨_, rfl, pic_leq, ?_⟩
        have f14 := fI_t f12 hI14 (by decide)
        have a14 := fA_t a12 hA14 (by decide)
        have w14 := wmI_fr w0 f14 a14
        have t14 : isT (I14 1307) (A14 20) (A14 21) T := by rw [hI14 1307 (by decide), hA14 20 (by decide), hA14 21 (by decide)]; exact t12
        have v14 : I14 1803 = (mvS 157 (dn j) (I 1803) (I 1804) (cmK m dn j)).2.1 ∧ I14 1804 = (mvS 157 (dn j) (I 1803) (I 1804) (cmK m dn j)).2.2 ∧ I14 1603 = (mvS 143 (rt j) (I 1603) (I 1604) (cmK m rt j)).2.1 ∧ I14 1604 = (mvS 143 (rt j) (I 1603) (I 1604) (cmK m rt j)).2.2 := ⟨(hI14 1803 (by decide)).trans v12.1, (hI14 1804 (by decide)).trans v12.2.1, (hI14 1603 (by decide)).trans v12.2.2.1, (hI14 1604 (by decide)).trans v12.2.2.2⟩
        refine xr_aload_n D_Wr_writeMarks_67 rfl rfl ?_
        refine xr_getf F_Wr_12 D_Wr_writeMarks_68 rfl rfl ?_
        refine xr_aload_n D_Wr_writeMarks_71 rfl rfl ?_
        refine xr_iload_n D_Wr_writeMarks_72 rfl rfl ?_
        refine xr_cVx (as := [_]) (c_Sh_characterOrWidth_11) (L_Wr_128) (CD_Sh_characterOrWidth) CI_Sh D_Wr_writeMarks_73 rfl rfl (by decide) (Nat.le_of_ble_eq_true rfl) (Nat.le_of_eq (Nat.zero_add _)) (Nat.le_of_eq (Nat.zero_add _)) pic_len ?_
        rintro _ rfl
        refine ⟨_, _, rfl, rfl, ?_⟩
        rw [w14.1, w14.2.1]
        refine xr_iconst (v := 4) D_Wr_writeMarks_76 rfl ?_
        refine xr_cVv (as := [_, _]) (c_By_addNumber_14 4 rfl (by decide) hB14) (L_Wr_143) (CD_By_addNumber) CI_By D_Wr_writeMarks_77 rfl rfl (by decide) (Nat.le_of_ble_eq_true rfl) (Nat.le_of_eq (Nat.zero_add _)) (Nat.le_of_eq (Nat.zero_add _)) pic_len ?_
        rintro _ ⟨I16, A16, rfl, hI16, hA16, hB16⟩
        refine ⟨_, rfl, pic_leq, ?_⟩
        have f16 := fI_t f14 hI16 (by decide)
        have a16 := fA_t a14 hA16 (by decide)
        have w16 := wmI_fr w0 f16 a16
        have t16 : isT (I16 1307) (A16 20) (A16 21) T := by rw [hI16 1307 (by decide), hA16 20 (by decide), hA16 21 (by decide)]; exact t14
        have v16 : I16 1803 = (mvS 157 (dn j) (I 1803) (I 1804) (cmK m dn j)).2.1 ∧ I16 1804 = (mvS 157 (dn j) (I 1803) (I 1804) (cmK m dn j)).2.2 ∧ I16 1603 = (mvS 143 (rt j) (I 1603) (I 1604) (cmK m rt j)).2.1 ∧ I16 1604 = (mvS 143 (rt j) (I 1603) (I 1604) (cmK m rt j)).2.2 := ⟨(hI16 1803 (by decide)).trans v14.1, (hI16 1804 (by decide)).trans v14.2.1, (hI16 1603 (by decide)).trans v14.2.2.1, (hI16 1604 (by decide)).trans v14.2.2.2⟩
        refine xr_goto (tgt := 112) D_Wr_writeMarks_80 rfl ?_
        refine xr_iinc (c9 := 1) D_Wr_writeMarks_112 rfl rfl (by decide) ?_
        refine xr_goto (tgt := 4) D_Wr_writeMarks_115 rfl ?_
        rw [io_succ]
        refine xr_mono (ih (j + 1) _ _ _ _ _ (by omega) w16 hB16 t16) (pN_tr f16 a16 ?_ ?_)
        · rw [v16.1, v16.2.1, v16.2.2.1, v16.2.2.2, pgR_r c2]
          simp only [app_app, List.append_assoc, ruB, List.cons_append, List.nil_append]
        · rw [v16.1, v16.2.1, v16.2.2.1, v16.2.2.2, pgR_r c2]

theorem c_Wr_writeMarks_13 {I : mI} {A : mA} {L : mL} {m : Int32} {f rt dn : Nat → Int32} {D : Int32 → List Int32} {n : Nat} {B T : List Int32} (hn : n ≤ 500) (hmn : m.toInt = (n : Int)) (hF : ∀ k, k < n → sPart m f (Int32.ofNat k) 0 = -1 ∨ (0 ≤ sPart m f (Int32.ofNat k) 0 ∧ sPart m f (Int32.ofNat k) 0 ≤ 255)) (w0 : wmI I A L m f rt dn D) (hB : isB (I 1401) (A 15) B) (hT : isT (I 1307) (A 20) (A 21) T) : xm m_Wr_writeMarks (4, 90) [.ref 13, .ref 11] (pic I A L) 0 0 (pN I A L (app B (pgR dn rt (cmK m dn) (cmK m rt) (fun k => sPart m f (Int32.ofNat k) 0) (fun k => sPart m f (Int32.ofNat k) 1) (fun k => sPart m f (Int32.ofNat k) 2) D n 0 (I 1803) (I 1804) (I 1603) (I 1604) (-1) T).1) (pgR dn rt (cmK m dn) (cmK m rt) (fun k => sPart m f (Int32.ofNat k) 0) (fun k => sPart m f (Int32.ofNat k) 1) (fun k => sPart m f (Int32.ofNat k) 2) D n 0 (I 1803) (I 1804) (I 1603) (I 1604) (-1) T).2) := by
  refine xm_of rfl (by decide) (Nat.le_of_ble_eq_true rfl) ?_
  refine xr_iconst (v := (-1)) D_Wr_writeMarks_0 rfl ?_
  refine xr_istore_n D_Wr_writeMarks_1 rfl (by decide) ?_
  refine xr_iconst (v := 0) D_Wr_writeMarks_2 rfl ?_
  refine xr_istore_n D_Wr_writeMarks_3 rfl (by decide) ?_
  exact l_Wr_wm hn hmn hF n 0 I A B T (-1) (by omega) w0 hB hT
