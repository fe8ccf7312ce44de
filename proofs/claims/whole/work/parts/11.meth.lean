section XRET
variable {M : xM} {sc : xSc} {d : Nat × Nat} {pc : Nat} {lo : xL} {h : List xC} {rc rs : Nat} {Q : xO → Prop}
theorem xE_ret {D : va_G} {cA : FieldType → ClassId} {ad ad0 : Nat → Nat} {N0 mc ms : Nat} {s t : State} {H : Heap} {locs L : List Loc} {v : Option Value}
    (hN : N0 ≤ h.length) (hag : ∀ k, k < N0 ∨ h.length ≤ k → ad k = ad0 k) (hP : va_P D vwCl (xw cA ad h) H) (hD : va_D (xA ad0 N0 s.heap.size) (xw cA ad h)) (hS : va_S (xA ad0 N0 s.heap.size) s.heap H locs)
    (ht : t.heap = H) (hW : s.WarmedH t.vm) (hsm : s.sameButNew ({ t with vm := s.vm } : State) L mc ms) (hL : ∀ q ∈ L, xA ad0 N0 s.heap.size q.base) :
    xE D cA ad0 N0 (.inl v, h) s mc ms (.returned (v.map (xv ad))) t :=
  ⟨⟨L, hW, hsm, hL⟩, hN, hS.F ht, ad, hag, by rw [ht]; exact hP, hD, rfl⟩
theorem xr_zret {v : Int32} {ty : FieldType} (hrt : M.2.2.2.1 = some ty) (hn : narrow ty (.int v) = .int v) {q9 : Nat} (hd : xd M pc (.ireturn) 1 q9) (hq : Q (.inl (some (.int v)), h)) : xr M sc d pc lo [.int v] h rc rs Q := by
  obtain ⟨hd, rfl⟩ := hd
  intro u9 p l e s m args below meth c mc ms cells slots H locs ls D cA ad ad0 N0 C hl
  obtain ⟨⟨hx, hb, hml, hr, hlo, hown, hnm, htb, hll⟩, hts, hF, hcs, hK, hN, hP, hD, hS⟩ := C
  refine W.widen (k := mc) (n := ms) (by omega) (by omega) ?_
  refine W.mono ?_ (W.zret (Qc := fun _ _ oc t => oc = .returned (some (.int v)) ∧ t.heap = H) (free := xA ad0 N0 s.heap.size) (v := v) hx hb (hr.trans hrt) hn (fun t ht hW => ⟨rfl, ht⟩) hS.2.2 hd hlo)
  rintro t ⟨oc, h1, h2, ⟨rfl, ht⟩, L, ⟨-, hW, hsm⟩, hL⟩
  exact ⟨_, _, hq, h1, h2, xE_ret (v := some (.int v)) hN.1 hN.2.1 hP hD hS ht hW hsm hL⟩
theorem xr_iret {v : Int32} (hrt : M.2.2.2.1 = some .int) {q9 : Nat} (hd : xd M pc (.ireturn) 1 q9) (hq : Q (.inl (some (.int v)), h)) : xr M sc d pc lo [.int v] h rc rs Q := xr_zret hrt rfl hd hq
theorem xr_vret (hrt : M.2.2.2.1 = none) {q9 : Nat} (hd : xd M pc (.return_) 1 q9) (hq : Q (.inl none, h)) : xr M sc d pc lo [] h rc rs Q := by
  obtain ⟨hd, rfl⟩ := hd
  intro u9 p l e s m args below meth c mc ms cells slots H locs ls D cA ad ad0 N0 C hl
  obtain ⟨⟨hx, hb, hml, hr, hlo, hown, hnm, htb, hll⟩, hts, hF, hcs, hK, hN, hP, hD, hS⟩ := C
  refine W.widen (k := mc) (n := ms) (by omega) (by omega) ?_
  refine W.mono ?_ (W.vret (Qc := fun _ _ oc t => oc = .returned none ∧ t.heap = H) (free := xA ad0 N0 s.heap.size) hx hb (hr.trans hrt) (fun t ht hW => ⟨rfl, ht⟩) hS.2.2 hd hlo)
  rintro t ⟨oc, h1, h2, ⟨rfl, ht⟩, L, ⟨-, hW, hsm⟩, hL⟩
  exact ⟨_, _, hq, h1, h2, xE_ret (v := none) hN.1 hN.2.1 hP hD hS ht hW hsm hL⟩
theorem xr_aret {a : Nat} {rt : FieldType} (hrt : M.2.2.2.1 = some rt) (hrf : (∃ n, rt = .object n) ∨ ∃ t, rt = .array t) {q9 : Nat} (hd : xd M pc (.areturn) 1 q9) (hq : Q (.inl (some (.ref a)), h)) : xr M sc d pc lo [.ref a] h rc rs Q := by
  obtain ⟨hd, rfl⟩ := hd
  intro u9 p l e s m args below meth c mc ms cells slots H locs ls D cA ad ad0 N0 C hl
  obtain ⟨⟨hx, hb, hml, hr, hlo, hown, hnm, htb, hll⟩, hts, hF, hcs, hK, hN, hP, hD, hS⟩ := C
  refine W.widen (k := mc) (n := ms) (by omega) (by omega) ?_
  refine W.mono ?_ (W.aret (Qc := fun _ _ oc t => oc = .returned (some (.ref (ad a))) ∧ t.heap = H) (free := xA ad0 N0 s.heap.size) (v := .ref (ad a)) hx hb (hr.trans hrt) hrf (Or.inr ⟨_, rfl⟩) (fun t ht hW => ⟨rfl, ht⟩) hS.2.2 hd hlo)
  rintro t ⟨oc, h1, h2, ⟨rfl, ht⟩, L, ⟨-, hW, hsm⟩, hL⟩
  exact ⟨_, _, hq, h1, h2, xE_ret (v := some (.ref a)) hN.1 hN.2.1 hP hD hS ht hW hsm hL⟩
end XRET
def xen (n : Nat) (as : List Value) : xL := (as.flatMap (fun v => if v.category = 2 then [some v, none] else [some v])) ++ List.replicate (n - (lg_sl as).length) none
theorem xen_go {ad : Nat → Nat} : ∀ (as : List Value) (i j : Nat) (v : Value) (k : Nat), ((as.flatMap (fun v => if v.category = 2 then [some v, none] else [some v])) ++ List.replicate k (none : Option Value))[j]? = some (some v) → (i + j, xv ad v) ∈ lv_args i (as.map (xv ad))
  | [], i, j, v, k, h => by
    simp only [List.flatMap_nil, List.nil_append] at h
    rw [List.getElem?_replicate] at h
    split at h <;> cases h
  | w :: as, i, j, v, k, h => by
    rw [List.flatMap_cons] at h
    show _ ∈ (i, xv ad w) :: lv_args (if (xv ad w).category = 2 then i + 2 else i + 1) (as.map (xv ad))
    rw [xv_cat]
    by_cases hc : w.category = 2
    · rw [if_pos hc] at h
      rw [if_pos hc]
      match j, h with
      | 0, h => cases h; exact List.mem_cons_self
      | 1, h => cases h
      | j + 2, h =>
        have := xen_go (ad := ad) as (i + 2) j v k h
        rw [show i + 2 + j = i + (j + 2) by omega] at this
        exact List.mem_cons_of_mem _ this
    · rw [if_neg hc] at h
      rw [if_neg hc]
      match j, h with
      | 0, h => cases h; exact List.mem_cons_self
      | j + 1, h =>
        have := xen_go (ad := ad) as (i + 1) j v k h
        rw [show i + 1 + j = i + (j + 1) by omega] at this
        exact List.mem_cons_of_mem _ this
theorem lg_sl_map {ad : Nat → Nat} (as : List Value) : (lg_sl (as.map (xv ad))).length = (lg_sl as).length := by
  induction as with
  | nil => rfl
  | cons v as ih =>
    simp only [lg_sl, List.map_cons, List.flatMap_cons, List.length_append] at ih ⊢
    rw [ih, xv_cat]
    by_cases hc : v.category = 2 <;> simp [hc]
def xws (M : xM) : List Cond := Cond.code M.1 M.2.1 M.2.2.1 M.2.2.2.1 :: xtb
def xPc (D : va_G) (cA : FieldType → ClassId) (ad0 : Nat → Nat) (as : List Value) (h : List xC) : Array Value → State → Prop := fun a U =>
  a = (as.map (xv ad0)).toArray ∧ va_K D vwCl (xT cA) U ∧ xG none ad0 (xA ad0 h.length U.heap.size) U ∧ va_P D vwCl (xw cA ad0 h) U.heap ∧ va_D (fun _ => True) (xw cA ad0 h) ∧ h.length ≤ 1000000
def xm (M : xM) (d : Nat × Nat) (as : List Value) (h : List xC) (mc ms : Nat) (P : xO → Prop) : Prop :=
  ∀ (l : Launch), xl l → ∀ (D : va_G) (cA : FieldType → ClassId) (ad0 : Nat → Nat), MetFree l M.1 (headSpec (xws M) (xrm d mc ms)) (xPc D cA ad0 as h) (fun _ _ _ _ _ => True) (fun _ st oc t => ∃ o : xO, P o ∧ xE D cA ad0 h.length o st mc ms oc t)
theorem xplain {D : va_G} {cA : FieldType → ClassId} {ad : Nat → Nat} {h : List xC} {H : Heap} (hP : va_P D vwCl (xw cA ad h) H) : ∀ k, k < h.length → ∀ ce, H[ad k]? = some ce → ce.vm.isStatics = false := by
  intro k hk ce hce
  have hc : h[k]? = some h[k] := List.getElem?_eq_getElem hk
  have h1 := hP k _ (xw_at hc)
  cases hx : h[k] with
  | inl q =>
    rw [hx] at h1
    obtain ⟨r, -, cell, g1, -, g3, -⟩ := h1
    cases Option.some.inj (hce.symm.trans g1)
    rw [g3]; rfl
  | inr q =>
    rw [hx] at h1
    have h2 : H[ad k]? = some (vp_cell (cA q.1) q.2) := h1
    cases Option.some.inj (hce.symm.trans h2)
    obtain ⟨ty, n, f | f | f | f | f⟩ := q <;> rfl
theorem xd_self {D : va_G} {cA : FieldType → ClassId} {ad : Nat → Nat} {h : List xC} {sz : Nat} {A : Nat → Prop} (hD : va_D A (xw cA ad h)) : va_D (xA ad h.length sz) (xw cA ad h) := by
  refine ⟨hD.1, fun k q hq => ?_⟩
  obtain ⟨c, hc, rfl⟩ := xw_of hq
  exact Or.inl ⟨k, (List.getElem?_eq_some_iff.mp hc).1, rfl⟩
theorem xm_of {M : xM} {d : Nat × Nat} {as : List Value} {h : List xC} {mc ms : Nat} {P : xO → Prop} (hw : M.2.2.2.2 = []) (hpl : plainName M.1.cls = true) (hsz : (lg_sl as).length ≤ M.2.2.1) (k : xr M none d 0 (xen M.2.2.1 as) [] h mc ms P) : xm M d as h mc ms P := by
  intro l hll D cA ad0
  refine MetFree.of_bodyS (code := M.2.1) (maxLocals := M.2.2.1) (ret := M.2.2.2.1) hpl ?_ ?_
  · intro args s m h9 hn
    obtain ⟨meth, c, h1, h2, h3, h4, h5, h6, -, -⟩ := Cond.code_spec hn (atoms_spec (ws := xws M) h9 _ List.mem_cons_self)
    exact ⟨meth, c, h1, h2, h3, h4, h5, h6⟩
  · intro p e s m args below meth c s₁ B hml hP9 _
    obtain ⟨rfl, hK, hF, hP, hD, hlen⟩ := hP9
    have hh0 : s₁.heap = s.heap := by rw [B.state]; rfl
    have hts0 := atoms_spec (ws := xws M) B.pre
    have hown : s.vm.findClass M.1.cls = some m.cls := findClass_of_methodNamed B.named
    have hin : meth.name = M.1.name := (name_of_methodNamed B.named B.method).1
    have hempty := B.noHandlers (hts0 _ List.mem_cons_self)
    have htb : c.exceptionTable.toList.map (fun h => (h.startPc, h.endPc, h.handlerPc, h.catchType)) = M.2.2.2.2 := by
      rw [hw]
      have h0 : c.exceptionTable.size = 0 := by simpa [Array.isEmpty] using hempty
      have h1 : c.exceptionTable.toList = [] := List.eq_nil_of_length_eq_zero (by simpa using h0)
      rw [h1]; rfl
    have hl := lv_entry (as.map (xv ad0)) (n := M.2.2.1) (by rw [lg_sl_map]; exact hsz)
    have hxl : xhas ((lg_sl (as.map (xv ad0)) ++ List.replicate (M.2.2.1 - (lg_sl (as.map (xv ad0))).length) Slot.unset).toArray) M.2.2.1 ad0 (xen M.2.2.1 as) := by
      refine ⟨hl.1, hl.2.1, fun q hq => ?_⟩
      obtain ⟨v, h1, h2⟩ := xlv_mem.mp hq
      have h3 := xen_go (ad := ad0) as 0 q.1 v _ h1
      refine hl.2.2 q ?_
      rw [Nat.zero_add, ← h2] at h3
      exact h3
    have C : xC0 M none mc ms h p l e s m (as.map (xv ad0)).toArray meth c mc ms 0 0 s.heap [] D cA ad0 ad0 h.length :=
      ⟨⟨B.exec, B.bytes, hml, B.returns, B.notSynchronized, hown, hin, htb, hll⟩, fun w hw => hts0 w (List.mem_cons_of_mem _ hw), hF, ⟨by omega, by omega⟩, hK, ⟨Nat.le_refl _, fun _ _ => rfl, xplain hP, hlen⟩, hP, xd_self (D := D) hD, va_S.rf⟩
    have K := k () C hxl (below := below)
    rw [List.map_nil, ← lg_entry_eq] at K
    obtain ⟨t, a1, oc, o, b0, b1, b2, b3⟩ := K s₁ hh0 (Stand.of_body B)
    exact ⟨t, oc, a1, b1, b2, o, b0, b3⟩
theorem xmet {M : xM} {d : Nat × Nat} {as : List Value} {h : List xC} {mc ms : Nat} {P : xO → Prop} (hM : xm M d as h mc ms P) (hno : ∀ o, P o → ∃ v, o.1 = .inl v) {l : Launch} (hl : xl l) (D : va_G) (cA : FieldType → ClassId) (ad0 : Nat → Nat) (sz : Nat) :
    Met l M.1 (xws M) (xrm d mc ms) (fun a U => xPc D cA ad0 as h a U ∧ U.heap.size = sz) (fun _ st oc t => (∃ o : xO, P o ∧ xE D cA ad0 h.length o st mc ms oc t) ∧ st.heap.size = sz) mc ms (xA ad0 h.length sz) := by
  intro p e ha hc hk s m args below hf happ hP hK
  obtain ⟨n, oc, h1, h2, h3, o, h4, h5⟩ := hM l hl D cA ad0 p e ha hc hk s m args below hf happ hP.1 hK
  refine ⟨n, oc, h1, h2, h3, ⟨⟨o, h4, h5⟩, hP.2⟩, ?_⟩
  obtain ⟨v, hv⟩ := hno o h4
  obtain ⟨⟨L, q1, q2, q3⟩, -, -, ad', -, -, -, q4⟩ := h5
  rw [hv] at q4
  have q4 : oc = .returned (v.map (xv ad')) := q4
  exact ⟨L, ⟨⟨_, q4⟩, q1, q2⟩, by rw [← hP.2]; exact q3⟩
theorem xgood {M : xM} (hc : xcd M) : GoodIn xtb (xws M) := by
  intro w hw
  have hm : w ∈ xtb := by
    rcases List.mem_cons.mp hw with rfl | h
    · exact hc
    · exact h
  exact ⟨hm, good_of_word (List.mem_filter.mp hm).2⟩
theorem xblind {D : va_G} {cA : FieldType → ClassId} {ad0 : Nat → Nat} {as : List Value} {h : List xC} {sz : Nat} : FrameBlind (fun a U => xPc D cA ad0 as h a U ∧ U.heap.size = sz) := by
  intro a U g mk hp
  obtain ⟨⟨h1, h2, h3, h4, h5, h6⟩, h7⟩ := hp
  exact ⟨⟨h1, va_K.moved (u := U) (U := U.calling g mk a) (Vm.Alike.refl U.vm) h2, xG_same (u := U) (U := U.calling g mk a) rfl rfl h3, h4, h5, h6⟩, h7⟩
