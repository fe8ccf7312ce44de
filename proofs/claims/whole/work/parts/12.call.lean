section XCALL
variable {M M' : xM} {sc : xSc} {d d' : Nat × Nat} {pc idx mc' ms' : Nat} {lo : xL} {st as : List Value} {h h' : List xC} {rc rs rc' rs' : Nat} {P Q : xO → Prop}
theorem xA_sub {D : va_G} {cA : FieldType → ClassId} {ad ad0 : Nat → Nat} {N0 sz sz2 : Nat} (hD : va_D (xA ad0 N0 sz) (xw cA ad h)) (hz : sz ≤ sz2) : ∀ q, xA ad h.length sz2 q → xA ad0 N0 sz q := by
  intro q hq
  rcases hq with ⟨k, hk, rfl⟩ | hq
  · exact hD.2 k _ (xw_at (List.getElem?_eq_getElem hk))
  · exact Or.inr (Nat.le_trans hz hq)
theorem xcontA {p : Program} {l : Launch} {e : Env} {s : State} {m : MethodId} {args : Array Value} {below : List Frame} {meth : Method} {c : Code} {mc ms cells slots : Nat} {H : Heap} {locs : List Loc} {ls : Array Slot} {D : va_G} {cA : FieldType → ClassId} {ad ad0 : Nat → Nat} {N0 : Nat} {st0 : List Value} {aa : Array Value}
    (C : xC0 M sc rc rs h p l e s m args meth c mc ms cells slots H locs D cA ad ad0 N0) (hl : xhas ls M.2.2.1 ad lo)
    (hr : va_Run p l e (xrm d mc ms) s m args below meth c H locs cells slots mc' ms' (F0 m pc ls st0) (st.map (xv ad)) (fun st oc t => (∃ o : xO, P o ∧ xE D cA ad h.length o st mc' ms' oc t) ∧ st.heap.size = H.size) (xA ad h.length H.size))
    (hrc : mc' + rc' ≤ rc) (hrs : ms' + rs' ≤ rs)
    (kk : ∀ (v : Option Value) (h' : List xC), P (.inl v, h') → h'.length ≤ 1000000 ∧ (∀ ad ad' : Nat → Nat, (∀ k, k < h.length ∨ h'.length ≤ k → ad' k = ad k) → st.map (xv ad') = st.map (xv ad) ∧ xlv ad' lo = xlv ad lo) ∧ xr M sc d (pc + 3) lo (v.toList ++ st) h' rc' rs' Q) : W p l e (xrm d mc ms) s m args below meth c H locs cells slots (xQ below D cA ad0 N0 Q s mc ms) (F0 m pc ls st0) := by
  intro T hT X
  obtain ⟨v9, st₀, t, T', L, h0, X', hL, e1, e2, ⟨⟨⟨r9, h'⟩, hPo, hE⟩, hsz⟩, gs⟩ := hr T hT X
  obtain ⟨-, hN', hFr, ad', hag', hP', hD', hoc⟩ := hE
  cases r9 with
  | inr E =>
    obtain ⟨q, ce, hq, -⟩ := hoc
    cases hq
  | inl v =>
  have hoc : Outcome.returned v9 = Outcome.returned (v.map (xv ad')) := hoc
  cases hoc
  obtain ⟨hlen, hw1, kk⟩ := kk v h' hPo
  obtain ⟨⟨hx, hb, hml, hr, hlo, hown, hnm, htb, hll⟩, hts, hF, hcs, hK, ⟨hN, hag, hpl, hln⟩, hP, hD, hS⟩ := C
  have hN' : h.length ≤ h'.length := hN'
  have hag' : ∀ k, k < h.length ∨ h'.length ≤ k → ad' k = ad k := hag'
  obtain ⟨hw2, hw3⟩ := hw1 ad ad' hag'
  have hsub := xA_sub (D := D) (sz2 := H.size) hD hS.1
  rw [hsz] at hFr hD'
  unfold va_F at hFr
  rw [h0] at hFr
  have hS' : va_S (xA ad0 N0 s.heap.size) s.heap T'.heap (locs ++ L) := by
    refine ⟨?_, ?_, ?_⟩
    · rw [e1]; exact Nat.le_trans hS.1 hFr.1
    · intro q h1 h2
      rw [e1, hFr.2 q (Nat.lt_of_lt_of_le h1 hS.1) (fun z => h2 (hsub q z))]
      exact hS.2.1 q h1 h2
    · intro q hq
      rcases List.mem_append.mp hq with h9 | h9
      · exact hS.2.2 q h9
      · exact hsub _ (hL q h9)
  have hl' : xhas ls M.2.2.1 ad' lo := by unfold xhas; rw [hw3]; exact hl
  have C' : xC0 M sc rc' rs' h' p l e s m args meth c mc ms (cells + mc') (slots + ms') T'.heap (locs ++ L) D cA ad' ad0 N0 :=
    ⟨⟨hx, hb, hml, hr, hlo, hown, hnm, htb, hll⟩, hts, hF, ⟨by omega, by omega⟩, hK, ⟨Nat.le_trans hN hN', fun k hk => (hag' k (by omega)).trans (hag k (by omega)), hpl, hlen⟩, by rw [e1]; exact hP', hD'.weaken (fun q _ _ hq => hsub _ hq), hS'⟩
  obtain ⟨t2, a1, b1⟩ := kk () C' hl' (below := below) T' rfl X'
  refine ⟨t2, gs t2 ?_, b1⟩
  have e5 : (v.toList ++ st).map (xv ad') = (v.map (xv ad')).toList ++ st.map (xv ad) := by
    rw [List.map_append, hw2]
    cases v <;> rfl
  rw [e5] at a1
  exact a1
theorem xsame {h h' : List xC} (hlen : h'.length = h.length) {ad ad' : Nat → Nat} (hag : ∀ k, k < h.length ∨ h'.length ≤ k → ad' k = ad k) : ad' = ad := by
  funext k
  exact hag k (by omega)
theorem xcat {ad : Nat → Nat} (st : List Value) : ((st.map (xv ad)).map fun v => v.category).sum = (st.map fun v => v.category).sum := by
  rw [List.map_map]
  congr 1
  exact List.map_congr_left fun v _ => xv_cat ad v
def xwfv (a b : Nat) : Value → Bool
  | .ref k => decide (k < a) || decide (b ≤ k)
  | _ => true
theorem xwfv_ok {a b : Nat} {ad ad' : Nat → Nat} (hag : ∀ k, k < a ∨ b ≤ k → ad' k = ad k) {v : Value} (hv : xwfv a b v = true) : xv ad' v = xv ad v := by
  cases v with
  | ref k =>
    have h1 : k < a ∨ b ≤ k := by
      simp only [xwfv, Bool.or_eq_true, decide_eq_true_eq] at hv
      exact hv
    show Value.ref (ad' k) = Value.ref (ad k)
    rw [hag k h1]
  | _ => rfl
theorem xwfs_ok {a b : Nat} {ad ad' : Nat → Nat} (hag : ∀ k, k < a ∨ b ≤ k → ad' k = ad k) {st : List Value} (hv : st.all (xwfv a b) = true) : st.map (xv ad') = st.map (xv ad) :=
  List.map_congr_left fun v hm => xwfv_ok hag (List.all_eq_true.mp hv v hm)
theorem xfm_congr {α β : Type} {f g : α → Option β} : ∀ {l : List α}, (∀ x ∈ l, f x = g x) → l.filterMap f = l.filterMap g
  | [], _ => rfl
  | x :: l, hx => by
    rw [List.filterMap_cons, List.filterMap_cons, hx x List.mem_cons_self, xfm_congr (fun y hy => hx y (List.mem_cons_of_mem _ hy))]
theorem xwfl_ok {a b : Nat} {ad ad' : Nat → Nat} (hag : ∀ k, k < a ∨ b ≤ k → ad' k = ad k) {lo : xL} (hv : lo.all (fun q => match q with | none => true | some v => xwfv a b v) = true) : xlv ad' lo = xlv ad lo := by
  unfold xlv
  apply xfm_congr
  intro q hq
  cases hq1 : q.1 with
  | none => rfl
  | some v =>
    have hm : q.1 ∈ lo := List.mem_of_getElem? (List.mem_zipIdx_iff_getElem?.mp hq)
    have h1 := List.all_eq_true.mp hv q.1 hm
    rw [hq1] at h1
    show some (q.2, xv ad' v) = some (q.2, xv ad v)
    rw [xwfv_ok hag h1]
theorem xstart {p : Program} {l : Launch} {e : Env} {s : State} {m : MethodId} {args : Array Value} {meth : Method} {c : Code} {mc ms cells slots : Nat} {H : Heap} {locs : List Loc} {D : va_G} {cA : FieldType → ClassId} {ad ad0 : Nat → Nat} {N0 : Nat}
    (C : xC0 M sc rc rs h p l e s m args meth c mc ms cells slots H locs D cA ad ad0 N0) : ∀ U : State, U.heap = H → s.WarmedH U.vm → xPc D cA ad as h (as.map (xv ad)).toArray U ∧ U.heap.size = H.size := by
  intro U hU hW
  obtain ⟨⟨hx, hb, hml, hr, hlo, hown, hnm, htb, hll⟩, hts, hF, hcs, hK, ⟨hN, hag, hpl, hln⟩, hP, hD, hS⟩ := C
  refine ⟨⟨rfl, va_K.moved hW.alike hK, ?_, by rw [hU]; exact hP, hD.weaken (fun _ _ _ _ => trivial), hln⟩, by rw [hU]⟩
  rw [hU]
  exact xG_call hW hU (n := h.length) (fun k hk => hag k (Or.inr hk)) hln hS (xA_sub (D := D) (sz2 := H.size) hD hS.1) hF
theorem xrm_ok {d d' : Nat × Nat} {nL mc ms mc' ms' : Nat} (hd : d'.1 + 1 ≤ d.1 ∧ nL + 19 + d'.2 ≤ d.2) : (xrm d' mc' ms').frames + 1 ≤ (xrm d mc ms).frames ∧ 8 + (nL + 11) + (xrm d' mc' ms').locals ≤ (xrm d mc ms).locals := by
  refine ⟨hd.1, ?_⟩
  show 8 + (nL + 11) + d'.2 ≤ d.2
  omega
theorem xr_callVA {n b ci : Nat} {fs : List Value} (hM : xm M' d' (.ref b :: as) h mc' ms' P) (hno : ∀ o, P o → ∃ v, o.1 = .inl v) (hlk : xlV M.1.cls idx M'.1 n) (hcd : xcd M') (hn : as.length = n) {q9 : Nat} (hd : xd M pc (.invokevirtual idx) 3 q9) (hb0 : h[b]? = some (.inl (ci, fs))) (hci : ∃ (T : u_T) (N : Nat), vwCl[ci]? = some (M'.1.cls, T, N))
    (hdd : d'.1 + 1 ≤ d.1 ∧ M'.2.2.1 + 19 + d'.2 ≤ d.2) (hcat : (st.map fun v => v.category).sum ≤ 8) (hrc : mc' + rc' ≤ rc) (hrs : ms' + rs' ≤ rs) 
    (kk : ∀ (v : Option Value) (h' : List xC), P (.inl v, h') → h'.length ≤ 1000000 ∧ (∀ ad ad' : Nat → Nat, (∀ k, k < h.length ∨ h'.length ≤ k → ad' k = ad k) → st.map (xv ad') = st.map (xv ad) ∧ xlv ad' lo = xlv ad lo) ∧ xr M sc d q9 lo (v.toList ++ st) h' rc' rs' Q) : xr M sc d pc lo (as.reverse ++ .ref b :: st) h rc rs Q := by
  obtain ⟨hd, rfl⟩ := hd
  intro u9 p l e s m args below meth c mc ms cells slots H locs ls D cA ad ad0 N0 C hl
  have hst := xstart (as := .ref b :: as) C
  have C9 := C
  obtain ⟨⟨hx, hb, hml, hr, hlo, hown, hnm, htb, hll⟩, hts, hF, hcs, hK, ⟨hN, hag, hpl, hln⟩, hP, hD, hS⟩ := C
  obtain ⟨T, N, hci⟩ := hci
  obtain ⟨hl1, hl2, hl3, hl4, hl5⟩ := hlk
  have hmet := xmet hM hno hll D cA ad H.size
  have hrecv := va_recv (a := ad b) hK hP hci (q0 := b) (fs := fs.map (xv ad)) (xw_at hb0)
  have hstk : (F0 m pc ls ((as.reverse ++ .ref b :: st).map (xv ad))).stack = (as.map (xv ad)).reverse ++ .ref (ad b) :: st.map (xv ad) := by
    show (as.reverse ++ .ref b :: st).map (xv ad) = _
    rw [List.map_append, List.map_reverse]; rfl
  have hroom := lv_room (m := m) (pc := pc) (ls := ls) (rest := (as.reverse ++ .ref b :: st).map (xv ad)) (st := st.map (xv ad)) (by rw [xcat]; exact hcat)
  have hcells : cells + mc' ≤ (xrm d mc ms).cells ∧ slots + ms' ≤ (xrm d mc ms).slots := ⟨by show cells + mc' ≤ mc; omega, by show slots + ms' ≤ ms; omega⟩
  have hlen2 : (as.map (xv ad)).length = n := by rw [List.length_map]; exact hn
  rcases hl1 with hl1 | ⟨host, hl1⟩
  · have cw : CallW (xrm d mc ms) s args M.1.cls M'.1.cls idx M'.1 M'.2.1 M'.2.2.1 M'.2.2.2.1 (xws M') (xrm d' mc' ms') mc' ms' n :=
      ⟨callB_of n hts (xgood hcd) rfl rfl rfl (hts _ hl4) (hts _ hl1) hl5 (xrm_ok hdd), hts _ hl2, hts _ hl3⟩
    exact xcontA (aa := args) C9 hl (va_runV ⟨hx, hb, hml, hown, hts⟩ hmet cw ⟨xblind, hrecv, hst⟩ rfl hlen2 hl.1 hstk hroom hd hcells) hrc hrs kk
  · have cw : va_CN (xrm d mc ms) s args M.1.cls idx M'.1 host M'.2.1 M'.2.2.1 M'.2.2.2.1 (xws M') (xrm d' mc' ms') mc' ms' n := va_cnB n hts (xgood hcd) rfl rfl rfl (hF.1 _ hl1) (hts _ hl4) hl5 (xrm_ok hdd)
    exact xcontA (aa := args) C9 hl (va_runVN ⟨hx, hb, hml, hown, hts⟩ hmet ⟨cw, hts _ hl2, hts _ hl3⟩ ⟨xblind, hrecv, hst⟩ rfl hlen2 hl.1 hstk hroom hd hcells) hrc hrs kk
theorem xr_callSA {n : Nat} (hM : xm M' d' as h mc' ms' P) (hno : ∀ o, P o → ∃ v, o.1 = .inl v) (hlk : xlS M.1.cls idx M'.1 n) (hcd : xcd M') (hn : as.length = n) {q9 : Nat} (hd : xd M pc (.invokestatic idx) 3 q9)
    (hdd : d'.1 + 1 ≤ d.1 ∧ M'.2.2.1 + 19 + d'.2 ≤ d.2) (hcat : (st.map fun v => v.category).sum ≤ 8) (hrc : mc' + rc' ≤ rc) (hrs : ms' + rs' ≤ rs) 
    (kk : ∀ (v : Option Value) (h' : List xC), P (.inl v, h') → h'.length ≤ 1000000 ∧ (∀ ad ad' : Nat → Nat, (∀ k, k < h.length ∨ h'.length ≤ k → ad' k = ad k) → st.map (xv ad') = st.map (xv ad) ∧ xlv ad' lo = xlv ad lo) ∧ xr M sc d q9 lo (v.toList ++ st) h' rc' rs' Q) : xr M sc d pc lo (as.reverse ++ st) h rc rs Q := by
  obtain ⟨hd, rfl⟩ := hd
  intro u9 p l e s m args below meth c mc ms cells slots H locs ls D cA ad ad0 N0 C hl
  have hst := xstart (as := as) C
  have C9 := C
  obtain ⟨⟨hx, hb, hml, hr, hlo, hown, hnm, htb, hll⟩, hts, hF, hcs, hK, ⟨hN, hag, hpl, hln⟩, hP, hD, hS⟩ := C
  obtain ⟨hl1, hl2, hl4, hl5⟩ := hlk
  have hmet := xmet hM hno hll D cA ad H.size
  have hstk : (F0 m pc ls ((as.reverse ++ st).map (xv ad))).stack = (as.map (xv ad)).reverse ++ st.map (xv ad) := by
    show (as.reverse ++ st).map (xv ad) = _
    rw [List.map_append, List.map_reverse]
  have hroom := lv_room (m := m) (pc := pc) (ls := ls) (rest := (as.reverse ++ st).map (xv ad)) (st := st.map (xv ad)) (by rw [xcat]; exact hcat)
  have hcells : cells + mc' ≤ (xrm d mc ms).cells ∧ slots + ms' ≤ (xrm d mc ms).slots := ⟨by show cells + mc' ≤ mc; omega, by show slots + ms' ≤ ms; omega⟩
  have hlen2 : (as.map (xv ad)).length = n := by rw [List.length_map]; exact hn
  rcases hl1 with hl1 | ⟨host, hl1⟩
  · have cw : CallB (xrm d mc ms) s args M.1.cls idx M'.1 M'.2.1 M'.2.2.1 M'.2.2.2.1 (xws M') (xrm d' mc' ms') mc' ms' n :=
      callB_of n hts (xgood hcd) rfl rfl rfl (hts _ hl4) (hts _ hl1) hl5 (xrm_ok hdd)
    exact xcontA (aa := args) C9 hl (va_runS ⟨hx, hb, hml, hown, hts⟩ hmet ⟨cw, hts _ hl2⟩ ⟨xblind, hst⟩ rfl hlen2 hl.1 hstk hroom hd hcells) hrc hrs kk
  · have cw : va_CN (xrm d mc ms) s args M.1.cls idx M'.1 host M'.2.1 M'.2.2.1 M'.2.2.2.1 (xws M') (xrm d' mc' ms') mc' ms' n := va_cnB n hts (xgood hcd) rfl rfl rfl (hF.1 _ hl1) (hts _ hl4) hl5 (xrm_ok hdd)
    exact xcontA (aa := args) C9 hl (va_runSN ⟨hx, hb, hml, hown, hts⟩ hmet ⟨cw, hts _ hl2, trivial⟩ ⟨xblind, hst⟩ rfl hlen2 hl.1 hstk hroom hd hcells) hrc hrs kk
theorem xr_callIA {n b : Nat} (hM : xm M' d' (.ref b :: as) h mc' ms' P) (hno : ∀ o, P o → ∃ v, o.1 = .inl v) (hrn : M'.2.2.2.1 = none) (hlk : xlI M.1.cls idx M'.1 n) (hcd : xcd M') (hn : as.length = n) {q9 : Nat} (hd : xd M pc (.invokespecial idx) 3 q9)
    (hdd : d'.1 + 1 ≤ d.1 ∧ M'.2.2.1 + 19 + d'.2 ≤ d.2) (hcat : (st.map fun v => v.category).sum ≤ 8) (hrc : mc' + rc' ≤ rc) (hrs : ms' + rs' ≤ rs) 
    (kk : ∀ (v : Option Value) (h' : List xC), P (.inl v, h') → h'.length ≤ 1000000 ∧ (∀ ad ad' : Nat → Nat, (∀ k, k < h.length ∨ h'.length ≤ k → ad' k = ad k) → st.map (xv ad') = st.map (xv ad) ∧ xlv ad' lo = xlv ad lo) ∧ xr M sc d q9 lo (v.toList ++ st) h' rc' rs' Q) : xr M sc d pc lo (as.reverse ++ .ref b :: st) h rc rs Q := by
  obtain ⟨hd, rfl⟩ := hd
  intro u9 p l e s m args below meth c mc ms cells slots H locs ls D cA ad ad0 N0 C hl
  have hst := xstart (as := .ref b :: as) C
  have C9 := C
  obtain ⟨⟨hx, hb, hml, hr, hlo, hown, hnm, htb, hll⟩, hts, hF, hcs, hK, ⟨hN, hag, hpl, hln⟩, hP, hD, hS⟩ := C
  obtain ⟨hl1, hl2, hl4, hl5, hl6⟩ := hlk
  have hmet := xmet hM hno hll D cA ad H.size
  have hstk : (F0 m pc ls ((as.reverse ++ .ref b :: st).map (xv ad))).stack = (as.map (xv ad)).reverse ++ .ref (ad b) :: st.map (xv ad) := by
    show (as.reverse ++ .ref b :: st).map (xv ad) = _
    rw [List.map_append, List.map_reverse]; rfl
  have hroom := lv_room (m := m) (pc := pc) (ls := ls) (rest := (as.reverse ++ .ref b :: st).map (xv ad)) (st := st.map (xv ad)) (by rw [xcat]; exact hcat)
  have hcells : cells + mc' ≤ (xrm d mc ms).cells ∧ slots + ms' ≤ (xrm d mc ms).slots := ⟨by show cells + mc' ≤ mc; omega, by show slots + ms' ≤ ms; omega⟩
  have hlen2 : (as.map (xv ad)).length = n := by rw [List.length_map]; exact hn
  rcases hl1 with hl1 | ⟨host, hl1⟩
  · have cw : CallB (xrm d mc ms) s args M.1.cls idx M'.1 M'.2.1 M'.2.2.1 none (xws M') (xrm d' mc' ms') mc' ms' n :=
      callB_of n hts (xgood hcd) (by unfold xws; rw [hrn]) rfl rfl (hts _ hl4) (hts _ hl1) hl5 (xrm_ok hdd)
    exact xcontA (aa := args) C9 hl (va_runI ⟨hx, hb, hml, hown, hts⟩ hmet ⟨cw, hl6, hts _ hl2⟩ ⟨xblind, hst⟩ rfl hlen2 hl.1 hstk hroom hd hcells) hrc hrs kk
  · have cw : va_CN (xrm d mc ms) s args M.1.cls idx M'.1 host M'.2.1 M'.2.2.1 none (xws M') (xrm d' mc' ms') mc' ms' n := va_cnB n hts (xgood hcd) (by unfold xws; rw [hrn]) rfl rfl (hF.1 _ hl1) (hts _ hl4) hl5 (xrm_ok hdd)
    exact xcontA (aa := args) C9 hl (va_runIN ⟨hx, hb, hml, hown, hts⟩ hmet ⟨cw, hl6, hts _ hl2⟩ ⟨xblind, hst⟩ rfl hlen2 hl.1 hstk hroom hd hcells) hrc hrs kk
theorem xw1_same (hlen : h'.length = h.length) : ∀ ad ad' : Nat → Nat, (∀ k, k < h.length ∨ h'.length ≤ k → ad' k = ad k) → st.map (xv ad') = st.map (xv ad) ∧ xlv ad' lo = xlv ad lo := by
  intro ad ad' hag
  rw [xsame hlen hag]
  exact ⟨rfl, rfl⟩
theorem xw1_wf (h1 : st.all (xwfv h.length h'.length) = true) (h2 : lo.all (fun q => match q with | none => true | some v => xwfv h.length h'.length v) = true) : ∀ ad ad' : Nat → Nat, (∀ k, k < h.length ∨ h'.length ≤ k → ad' k = ad k) → st.map (xv ad') = st.map (xv ad) ∧ xlv ad' lo = xlv ad lo :=
  fun _ _ hag => ⟨xwfs_ok hag h1, xwfl_ok hag h2⟩
end XCALL
