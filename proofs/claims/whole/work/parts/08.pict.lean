abbrev xC : Type := (Nat × List Value) ⊕ (FieldType × vp_A)
abbrev xO : Type := (Option Value ⊕ String) × List xC
def xv (ad : Nat → Nat) (v : Value) : Value := match v with
  | .ref k => .ref (ad k)
  | w => w
theorem xv_int (ad : Nat → Nat) (x : Int32) : xv ad (.int x) = .int x := rfl
theorem xv_long (ad : Nat → Nat) (x : Int64) : xv ad (.long x) = .long x := rfl
theorem xv_ref (ad : Nat → Nat) (k : Nat) : xv ad (.ref k) = .ref (ad k) := rfl
theorem xv_null (ad : Nat → Nat) : xv ad .null = .null := rfl
theorem xv_cat (ad : Nat → Nat) (v : Value) : (xv ad v).category = v.category := by cases v <;> rfl
def xe (cA : FieldType → ClassId) (ad : Nat → Nat) (c : xC) : va_E := match c with
  | .inl o => .inr (o.1, o.2.map (xv ad))
  | .inr a => .inl (cA a.1, a.2)
def xw (cA : FieldType → ClassId) (ad : Nat → Nat) (h : List xC) : va_W := h.mapIdx (fun k c => (ad k, xe cA ad c))
abbrev xT (cA : FieldType → ClassId) : List (ClassId × FieldType) := [(cA .int, .int), (cA .byte, .byte), (cA .boolean, .boolean), (cA .long, .long)]
def xA (ad0 : Nat → Nat) (N0 sz : Nat) : Nat → Prop := fun q => (∃ k, k < N0 ∧ q = ad0 k) ∨ sz ≤ q
theorem xw_at {cA : FieldType → ClassId} {ad : Nat → Nat} {h : List xC} {k : Nat} {c : xC} (hk : h[k]? = some c) : (xw cA ad h)[k]? = some (ad k, xe cA ad c) := by
  unfold xw
  rw [List.getElem?_mapIdx, hk]
  rfl
theorem xw_len {cA : FieldType → ClassId} {ad : Nat → Nat} {h : List xC} : (xw cA ad h).length = h.length := by
  unfold xw
  exact List.length_mapIdx
theorem xw_set {cA : FieldType → ClassId} {ad : Nat → Nat} {h : List xC} {k : Nat} {c : xC} : (xw cA ad h).set k (ad k, xe cA ad c) = xw cA ad (h.set k c) := by
  apply List.ext_getElem?
  intro i
  unfold xw
  rw [List.getElem?_mapIdx, List.getElem?_set, List.getElem?_set, List.length_mapIdx, List.getElem?_mapIdx]
  by_cases hi : k = i
  · subst hi
    by_cases hl : k < h.length
    · simp [hl]
    · simp [hl]
  · simp [hi]
theorem xw_of {cA : FieldType → ClassId} {ad : Nat → Nat} {h : List xC} {k : Nat} {q : Nat × va_E} (hq : (xw cA ad h)[k]? = some q) : ∃ c, h[k]? = some c ∧ q = (ad k, xe cA ad c) := by
  unfold xw at hq
  rw [List.getElem?_mapIdx] at hq
  cases hc : h[k]? with
  | none => rw [hc] at hq; cases hq
  | some c => rw [hc] at hq; exact ⟨c, rfl, (Option.some.inj hq).symm⟩
theorem xw_app {cA : FieldType → ClassId} {ad : Nat → Nat} {h : List xC} {c : xC} : xw cA ad (h ++ [c]) = xw cA ad h ++ [(ad h.length, xe cA ad c)] := by
  unfold xw
  rw [List.mapIdx_append]
  simp
abbrev xL : Type := List (Option Value)
def xlv (ad : Nat → Nat) (lo : xL) : List (Nat × Value) := lo.zipIdx.filterMap (fun q => q.1.map (fun v => (q.2, xv ad v)))
theorem xlv_mem {ad : Nat → Nat} {lo : xL} {q : Nat × Value} : q ∈ xlv ad lo ↔ ∃ v, lo[q.1]? = some (some v) ∧ q.2 = xv ad v := by
  unfold xlv
  rw [List.mem_filterMap]
  constructor
  · rintro ⟨⟨o, i⟩, hm, he⟩
    have hi := List.mem_zipIdx_iff_getElem?.mp hm
    cases o with
    | none => cases he
    | some v =>
      cases he
      exact ⟨v, hi, rfl⟩
  · rintro ⟨v, h1, h2⟩
    refine ⟨(some v, q.1), List.mem_zipIdx_iff_getElem?.mpr h1, ?_⟩
    show some (q.1, xv ad v) = some q
    rw [← h2]
def xhalf (a : Option Value) : Option Value := match a with
  | some (.long _) => none
  | some (.double _) => none
  | a => a
def xst : xL → Nat → Value → xL
  | [], _, _ => []
  | _ :: lo, 0, v => some v :: lo
  | a :: lo, 1, v => xhalf a :: (match lo with
    | [] => []
    | _ :: r => some v :: r)
  | a :: lo, i + 2, v => a :: xst lo (i + 1) v
def xst2 (lo : xL) (i : Nat) (v : Value) : xL := (xst lo i v).set (i + 1) none
def xhas (ls : Array Slot) (nL : Nat) (ad : Nat → Nat) (lo : xL) : Prop := lv_has ls nL (xlv ad lo)
theorem xhas_at {ls : Array Slot} {nL : Nat} {ad : Nat → Nat} {lo : xL} (h : xhas ls nL ad lo) {i : Nat} {v : Value} (hi : lo[i]? = some (some v)) : ls[i]? = some (.val (xv ad v)) := h.2.2 (i, xv ad v) (xlv_mem.mpr ⟨v, hi, rfl⟩)
theorem xhalf_get {a : Option Value} {w : Value} (h : xhalf a = some w) : a = some w ∧ ¬ w.category = 2 := by
  cases a with
  | none => cases h
  | some x =>
    cases x with
    | long y => cases h
    | double y => cases h
    | _ => cases h; exact ⟨rfl, fun q => by cases q⟩
theorem xst_get : ∀ {lo : xL} {i j : Nat} {v w : Value}, (xst lo i v)[j]? = some (some w) → (j = i ∧ w = v) ∨ (j ≠ i ∧ lo[j]? = some (some w) ∧ ¬ (j + 1 = i ∧ w.category = 2))
  | [], i, j, v, w, h => by
    unfold xst at h
    cases h
  | a :: lo, 0, 0, v, w, h => by
    unfold xst at h
    cases h
    exact Or.inl ⟨rfl, rfl⟩
  | a :: lo, 0, j + 1, v, w, h => by
    unfold xst at h
    exact Or.inr ⟨by omega, h, fun q => by omega⟩
  | a :: lo, 1, 0, v, w, h => by
    unfold xst at h
    have h1 : xhalf a = some w := Option.some.inj h
    obtain ⟨h2, h3⟩ := xhalf_get h1
    exact Or.inr ⟨by omega, by rw [h2]; rfl, fun q => h3 q.2⟩
  | a :: [], 1, j + 1, v, w, h => by
    unfold xst at h
    cases h
  | a :: b :: r, 1, 1, v, w, h => by
    unfold xst at h
    cases h
    exact Or.inl ⟨rfl, rfl⟩
  | a :: b :: r, 1, j + 2, v, w, h => by
    unfold xst at h
    exact Or.inr ⟨by omega, h, fun q => by omega⟩
  | a :: lo, i + 2, 0, v, w, h => by
    unfold xst at h
    exact Or.inr ⟨by omega, h, fun q => by omega⟩
  | a :: lo, i + 2, j + 1, v, w, h => by
    unfold xst at h
    rcases xst_get (lo := lo) (i := i + 1) (j := j) h with ⟨e1, e2⟩ | ⟨e1, e2, e3⟩
    · exact Or.inl ⟨by omega, e2⟩
    · exact Or.inr ⟨by omega, e2, fun q => e3 ⟨by omega, q.2⟩⟩
theorem xhas_st {ls' : Array Slot} {nL : Nat} {ad : Nat → Nat} {lo : xL} {i : Nat} {v : Value} (h : lv_has ls' nL ((i, xv ad v) :: (xlv ad lo).filter (fun q => !(q.1 == i) && !(q.1 + 1 == i && q.2.category == 2)))) : xhas ls' nL ad (xst lo i v) := by
  refine ⟨h.1, h.2.1, fun q hq => ?_⟩
  obtain ⟨w, h1, h2⟩ := xlv_mem.mp hq
  rcases xst_get h1 with ⟨e1, e2⟩ | ⟨e1, e2, e3⟩
  · refine h.2.2 q (List.mem_cons.mpr (Or.inl ?_))
    rw [← e1, ← e2, ← h2]
  · refine h.2.2 q (List.mem_cons.mpr (Or.inr (List.mem_filter.mpr ⟨xlv_mem.mpr ⟨w, e2, h2⟩, ?_⟩)))
    rw [h2, xv_cat]
    simp only [Bool.and_eq_true, Bool.not_eq_true', beq_eq_false_iff_ne, ne_eq, Bool.and_eq_false_iff]
    refine ⟨e1, ?_⟩
    by_cases hj : q.1 + 1 = i
    · exact Or.inr (fun hc => e3 ⟨hj, hc⟩)
    · exact Or.inl hj
theorem xst2_get {lo : xL} {i j : Nat} {v w : Value} (h : (xst2 lo i v)[j]? = some (some w)) : (j = i ∧ w = v) ∨ (j ≠ i ∧ j ≠ i + 1 ∧ lo[j]? = some (some w) ∧ ¬ (j + 1 = i ∧ w.category = 2)) := by
  unfold xst2 at h
  rw [List.getElem?_set] at h
  by_cases hj : i + 1 = j
  · subst hj
    rw [if_pos rfl] at h
    split at h <;> cases h
  · rw [if_neg hj] at h
    rcases xst_get h with ⟨e1, e2⟩ | ⟨e1, e2, e3⟩
    · exact Or.inl ⟨e1, e2⟩
    · exact Or.inr ⟨e1, fun q => hj q.symm, e2, e3⟩
theorem xhas_st2 {ls' : Array Slot} {nL : Nat} {ad : Nat → Nat} {lo : xL} {i : Nat} {v : Value} (h : lv_has ls' nL ((i, xv ad v) :: (xlv ad lo).filter (fun q => !(q.1 == i) && (!(q.1 == i + 1) && !(q.1 + 1 == i && q.2.category == 2))))) : xhas ls' nL ad (xst2 lo i v) := by
  refine ⟨h.1, h.2.1, fun q hq => ?_⟩
  obtain ⟨w, h1, h2⟩ := xlv_mem.mp hq
  rcases xst2_get h1 with ⟨e1, e2⟩ | ⟨e1, e1', e2, e3⟩
  · refine h.2.2 q (List.mem_cons.mpr (Or.inl ?_))
    rw [← e1, ← e2, ← h2]
  · refine h.2.2 q (List.mem_cons.mpr (Or.inr (List.mem_filter.mpr ⟨xlv_mem.mpr ⟨w, e2, h2⟩, ?_⟩)))
    rw [h2, xv_cat]
    simp only [Bool.and_eq_true, Bool.not_eq_true', beq_eq_false_iff_ne, ne_eq, Bool.and_eq_false_iff]
    refine ⟨e1, e1', ?_⟩
    by_cases hj : q.1 + 1 = i
    · exact Or.inr (fun hc => e3 ⟨hj, hc⟩)
    · exact Or.inl hj
