def xwsW (M : xM) : List Cond := Cond.codeWith M.1 M.2.1 M.2.2.1 M.2.2.2.1 M.2.2.2.2 :: xtb
def xmW (M : xM) (d : Nat × Nat) (as : List Value) (h : List xC) (mc ms : Nat) (P : xO → Prop) : Prop :=
  ∀ (l : Launch), xl l → ∀ (D : va_G) (cA : FieldType → ClassId) (ad0 : Nat → Nat), MetFree l M.1 (headSpec (xwsW M) (xrm d mc ms)) (xPc D cA ad0 as h) (fun _ _ _ _ _ => True) (fun _ st oc t => ∃ o : xO, P o ∧ xE D cA ad0 h.length o st mc ms oc t)
theorem xmW_of {M : xM} {d : Nat × Nat} {as : List Value} {h : List xC} {mc ms : Nat} {P : xO → Prop} (hpl : plainName M.1.cls = true) (hsz : (lg_sl as).length ≤ M.2.2.1) (k : xr M none d 0 (xen M.2.2.1 as) [] h mc ms P) : xmW M d as h mc ms P := by
  intro l hll D cA ad0
  refine MetFree.of_bodyS (code := M.2.1) (maxLocals := M.2.2.1) (ret := M.2.2.2.1) hpl ?_ ?_
  · intro args s m h9 hn
    obtain ⟨m9, meth, c, hn9, h1, h2, h3, h4, -, h5, h6, -⟩ := Cond.codeWith_spec (atoms_spec (ws := xwsW M) h9 _ List.mem_cons_self)
    cases hn.symm.trans hn9
    exact ⟨meth, c, h1, h2, h3, h4, h5, h6⟩
  · intro p e s m args below meth c s₁ B hml hP9 _
    obtain ⟨rfl, hK, hF, hP, hD, hlen⟩ := hP9
    have hh0 : s₁.heap = s.heap := by rw [B.state]; rfl
    have hts0 := atoms_spec (ws := xwsW M) B.pre
    have hown : s.vm.findClass M.1.cls = some m.cls := findClass_of_methodNamed B.named
    have hin : meth.name = M.1.name := (name_of_methodNamed B.named B.method).1
    have htb : c.exceptionTable.toList.map (fun h => (h.startPc, h.endPc, h.handlerPc, h.catchType)) = M.2.2.2.2 := by
      obtain ⟨m9, meth9, c9, hn9, h1, h2, h3, h4, hh9, -⟩ := Cond.codeWith_spec (hts0 _ List.mem_cons_self)
      cases B.named.symm.trans hn9
      cases B.method.symm.trans h1
      cases (Stand.of_body B).code.symm.trans h2
      exact hh9
    have hl := lv_entry (as.map (xv ad0)) (n := M.2.2.1) (by rw [lg_sl_map]; exact hsz)
    have hxl : xhas ((lg_sl (as.map (xv ad0)) ++ List.replicate (M.2.2.1 - (lg_sl (as.map (xv ad0))).length) Slot.unset).toArray) M.2.2.1 ad0 (xen M.2.2.1 as) := by
      refine ⟨hl.1, hl.2.1, fun q hq => ?_⟩
      obtain ⟨v, h1, h2⟩ := xlv_mem.mp hq
      have h3 := xen_go (ad := ad0) as 0 q.1 v _ h1
      refine hl.2.2 q ?_
      rw [Nat.zero_add, ← h2] at h3
      exact h3
    have C : xC0 M none mc ms h p l e s m (as.map (xv ad0)).toArray meth c mc ms 0 0 s.heap [] D cA ad0 ad0 h.length :=
      ⟨⟨B.exec, B.bytes, hml, B.returns, B.notSynchronized, hown, hin, htb, hll⟩, fun w hw => hts0 w (List.mem_cons_of_mem _ hw), hF, ⟨by omega, by omega⟩, hK, ⟨Nat.le_refl _, fun _ _ => rfl, xplain hP, hlen⟩, hP, xd_self (D := D) hD, va_S.rf⟩
    have K := k () C hxl (below := below)
    rw [List.map_nil, ← lg_entry_eq] at K
    obtain ⟨t, a1, oc, o, b0, b1, b2, b3⟩ := K s₁ hh0 (Stand.of_body B)
    exact ⟨t, oc, a1, b1, b2, o, b0, b3⟩
theorem xmetW {M : xM} {d : Nat × Nat} {as : List Value} {h : List xC} {mc ms : Nat} {P : xO → Prop} (hM : xmW M d as h mc ms P) (hno : ∀ o, P o → ∃ v, o.1 = .inl v) {l : Launch} (hl : xl l) (D : va_G) (cA : FieldType → ClassId) (ad0 : Nat → Nat) (sz : Nat) :
    Met l M.1 (xwsW M) (xrm d mc ms) (fun a U => xPc D cA ad0 as h a U ∧ U.heap.size = sz) (fun _ st oc t => (∃ o : xO, P o ∧ xE D cA ad0 h.length o st mc ms oc t) ∧ st.heap.size = sz) mc ms (xA ad0 h.length sz) := by
  intro p e ha hc hk s m args below hf happ hP hK
  obtain ⟨n, oc, h1, h2, h3, o, h4, h5⟩ := hM l hl D cA ad0 p e ha hc hk s m args below hf happ hP.1 hK
  refine ⟨n, oc, h1, h2, h3, ⟨⟨o, h4, h5⟩, hP.2⟩, ?_⟩
  obtain ⟨v, hv⟩ := hno o h4
  obtain ⟨⟨L, q1, q2, q3⟩, -, -, ad', -, -, -, q4⟩ := h5
  rw [hv] at q4
  have q4 : oc = .returned (v.map (xv ad')) := q4
  exact ⟨L, ⟨⟨_, q4⟩, q1, q2⟩, by rw [← hP.2]; exact q3⟩
def xcdW (M : xM) : Prop := Cond.codeWith M.1 M.2.1 M.2.2.1 M.2.2.2.1 M.2.2.2.2 ∈ xtb
theorem xgoodW {M : xM} (hc : xcdW M) : GoodIn xtb (xwsW M) := by
  intro w hw
  have hm : w ∈ xtb := by
    rcases List.mem_cons.mp hw with rfl | h
    · exact hc
    · exact h
  exact ⟨hm, good_of_word (List.mem_filter.mp hm).2⟩
theorem xr_callSW {M M' : xM} {sc : xSc} {d d' : Nat × Nat} {pc idx mc' ms' : Nat} {lo : xL} {st as : List Value} {h : List xC} {rc rs rc' rs' : Nat} {P Q : xO → Prop} {n q9 : Nat} (hM : xmW M' d' as h mc' ms' P) (hlk : xlS M.1.cls idx M'.1 n) (hlk2 : Cond.methodLink M.1.cls idx M'.1 ∈ xtb) (hcd : xcdW M') (hd : xd M pc (.invokestatic idx) 3 q9) (hn : as.length = n)
    (hdd : d'.1 + 1 ≤ d.1 ∧ M'.2.2.1 + 19 + d'.2 ≤ d.2) (hcat : (st.map fun v => v.category).sum ≤ 8) (hrc : mc' + rc' ≤ rc) (hrs : ms' + rs' ≤ rs) (hl9 : h.length ≤ 1000000)
    (kk : ∀ o, P o → ∃ v h', o = (.inl (some v), h') ∧ h'.length = h.length ∧ xr M sc d q9 lo (v :: st) h' rc' rs' Q) : xr M sc d pc lo (as.reverse ++ st) h rc rs Q := by
  obtain ⟨hd, rfl⟩ := hd
  intro u9 p l e s m args below meth c mc ms cells slots H locs ls D cA ad ad0 N0 C hl
  have hno : ∀ o, P o → ∃ v, o.1 = .inl v := fun o ho => by
    obtain ⟨v, h', rfl, -, -⟩ := kk o ho
    exact ⟨some v, rfl⟩
  have hst := xstart (as := as) C
  have C9 := C
  obtain ⟨⟨hx, hb, hml, hr, hlo, hown, hnm, htb, hll⟩, hts, hF, hcs, hK, ⟨hN, hag, hpl, hln⟩, hP, hD, hS⟩ := C
  obtain ⟨-, hl2, hl4, hl5⟩ := hlk
  have hmet := xmetW hM hno hll D cA ad H.size
  have hstk : (F0 m pc ls ((as.reverse ++ st).map (xv ad))).stack = (as.map (xv ad)).reverse ++ st.map (xv ad) := by
    show (as.reverse ++ st).map (xv ad) = _
    rw [List.map_append, List.map_reverse]
  have hroom := lv_room (m := m) (pc := pc) (ls := ls) (rest := (as.reverse ++ st).map (xv ad)) (st := st.map (xv ad)) (by rw [xcat]; exact hcat)
  have hlen2 : (as.map (xv ad)).length = n := by rw [List.length_map]; exact hn
  have hK9 : Back l (xrm d mc ms) p e below s args M'.1 3 8 (PreOf (xrm d mc ms) mc' ms' (fun a U => xPc D cA ad as h a U ∧ U.heap.size = H.size)) (PostOf (fun _ st oc t => (∃ o : xO, P o ∧ xE D cA ad h.length o st mc' ms' oc t) ∧ st.heap.size = H.size) mc' ms' (xA ad h.length H.size)) :=
    va_backW (hh := M'.2.2.2.2) (bytes := M'.2.1) (maxL := M'.2.2.1) (ret := M'.2.2.2.1) hmet xblind rfl rfl (xrm_ok (d := d) (d' := d') (nL := M'.2.2.1) (mc := mc) (ms := ms) (mc' := mc') (ms' := ms') hdd).1 (xrm_ok (d := d) (d' := d') (nL := M'.2.2.1) (mc := mc) (ms := ms) (mc' := mc') (ms' := ms') hdd).2 (fun w hw a' U hW => pay_in hts (xgoodW hcd) w hw a' U hW) List.mem_cons_self (fun a' U hW => word_at hW (good_of_word (List.mem_filter.mp hl4).2) (hts _ hl4))
  have hrun : va_Run p l e (xrm d mc ms) s m args below meth c H locs cells slots mc' ms' (F0 m pc ls ((as.reverse ++ st).map (xv ad))) (st.map (xv ad)) (fun st oc t => (∃ o : xO, P o ∧ xE D cA ad h.length o st mc' ms' oc t) ∧ st.heap.size = H.size) (xA ad h.length H.size) := by
    intro T hT X
    obtain ⟨mk, methM, cM, hnamed, hmethM, -, -, -, -, -, -, hsigM⟩ := Cond.codeWith_spec (hts _ hcd)
    have hstatic : methM.isStatic = true := Cond.static_spec hnamed hmethM (hts _ hl2)
    obtain ⟨kP, hkP, -⟩ := className_of_methodNamed hnamed
    have hinitP : kP.init = .initialized := Cond.initialized_spec (findClass_of_methodNamed hnamed) hkP (hts _ hl4)
    have hlenP : (as.map (xv ad)).length = methM.sig.parameters.length := by
      have h2 := hl5.2.2
      rw [hsigM] at h2
      rw [hlen2]
      exact (Option.some.inj h2).symm
    obtain ⟨vm₁, X₁, hstep₁⟩ := X.invokestatic hx hown (hts _ hlk2) hnamed hmethM hstatic hkP hinitP ⟨hl5.1, hl5.2.1⟩ (g := F0 m pc ls ((as.reverse ++ st).map (xv ad))) rfl (argsL := as.map (xv ad)) (rest := st.map (xv ad)) hlenP hstk (by rw [hb]; exact hd)
    obtain ⟨v, ⟨U', l2, c2, s2⟩, X', ⟨g', mk', t, L, e1, e2, hq, h1, hL, h2, h3⟩, hsteps⟩ := hK9 m meth c ⟨T.setVm vm₁, locs, cells, slots⟩ (F0 m pc ls (st.map (xv ad))) (.invokestatic idx) mk (as.map (xv ad)).toArray X₁ rfl (by rw [hml]; exact hl.1) (by rw [hb]; exact hd) hroom (X₁.named hnamed) ⟨by show cells + mc' ≤ mc; omega, by show slots + ms' ≤ ms; omega, hst (T.setVm vm₁) hT X₁.warmed⟩
    dsimp only [Pt.U, Pt.locs, Pt.cells, Pt.slots] at X' e1 e2 h1 h2 h3 hsteps
    subst h1; subst h2; subst h3
    exact ⟨v, (T.setVm vm₁).calling g' mk' (as.map (xv ad)).toArray, t, U', L, hT, X', hL, e1, e2, hq, fun target h9 => hstep₁ _ fun acts => by rw [doInvoke_state]; exact hsteps.trans h9⟩
  exact xcontA (aa := args) C9 hl hrun hrc hrs (fun v h' hP9 => by
    obtain ⟨v2, h2, he, hlen, hk⟩ := kk _ hP9
    cases he
    exact ⟨by omega, xw1_same hlen, hk⟩)
