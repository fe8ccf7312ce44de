section XCT
variable {M M' : xM} {sc : xSc} {d d' : Nat × Nat} {pc idx mc' ms' : Nat} {lo : xL} {st as : List Value} {h : List xC} {rc rs rc' rs' : Nat} {P Q : xO → Prop}
def xkill (lo : xL) (i : Nat) : xL := (xst lo i .null).set i none
theorem xhas_kill {ls' : Array Slot} {nL : Nat} {ad : Nat → Nat} {lo : xL} {i : Nat} {v : Value} (h : lv_has ls' nL ((i, v) :: (xlv ad lo).filter (fun q => !(q.1 == i) && !(q.1 + 1 == i && q.2.category == 2)))) : xhas ls' nL ad (xkill lo i) := by
  refine ⟨h.1, h.2.1, fun q hq => ?_⟩
  obtain ⟨w, h1, h2⟩ := xlv_mem.mp hq
  unfold xkill at h1
  rw [List.getElem?_set] at h1
  by_cases hi : i = q.1
  · rw [if_pos hi] at h1
    split at h1 <;> cases h1
  · rw [if_neg hi] at h1
    rcases xst_get h1 with ⟨e1, e2⟩ | ⟨e1, e2, e3⟩
    · exact absurd e1.symm hi
    · refine h.2.2 q (List.mem_cons.mpr (Or.inr (List.mem_filter.mpr ⟨xlv_mem.mpr ⟨w, e2, h2⟩, ?_⟩)))
      rw [h2, xv_cat]
      simp only [Bool.and_eq_true, Bool.not_eq_true', beq_eq_false_iff_ne, ne_eq, Bool.and_eq_false_iff]
      refine ⟨e1, ?_⟩
      by_cases hj : q.1 + 1 = i
      · exact Or.inr (fun hc => e3 ⟨hj, hc⟩)
      · exact Or.inl hj
def xcat9 (own : String) (hs : List (Nat × Nat × Nat × Nat)) (pc : Nat) (E : String) (hpc : Nat) : Prop :=
  ∃ (pre : List (Nat × Nat × Nat × Nat)) (x : Nat × Nat × Nat × Nat) (suf : List (Nat × Nat × Nat × Nat)), hs = pre ++ x :: suf ∧ x.2.2.1 = hpc ∧
    (x.1 ≤ pc ∧ pc < x.2.1 ∧ x.2.2.2 ≠ 0 ∧ ∃ nm, Cond.classLink own x.2.2.2 nm ∈ xtb ∧ (nm = E ∧ Cond.initialized E ∈ xtb)) ∧
    ∀ y ∈ pre, y.1 ≤ pc ∧ pc < y.2.1 ∧ y.2.2.2 ≠ 0 ∧ ∃ nm, Cond.classLink own y.2.2.2 nm ∈ xtb ∧ (E, nm) ∈ xnc
set_option maxHeartbeats 1000000 in
theorem xr_callVT {n b ci i len : Nat} {fs : List Value} (hM : xm M' d' (.ref b :: as) h mc' ms' P) (hth : ∀ o, P o → ∃ E, o.1 = .inr E) (hlk : xlV M.1.cls idx M'.1 n) (hcd : xcd M') (hn : as.length = n) (hd : decode M.2.1 pc = .ok (.invokevirtual idx, 3)) (hb0 : h[b]? = some (.inl (ci, fs))) (hci : ∃ (T : u_T) (N : Nat), vwCl[ci]? = some (M'.1.cls, T, N))
    (hdd : d'.1 + 1 ≤ d.1 ∧ M'.2.2.1 + 19 + d'.2 ≤ d.2) (hcat : (st.map fun v => v.category).sum ≤ 8) (hrc : mc' + rc' ≤ rc) (hrs : ms' + rs' ≤ rs)
    (kk : ∀ (E : String) (h' : List xC), P (.inr E, h') → h'.length = h.length ∧ ∃ (hpc i : Nat), xcat9 M.1.cls M.2.2.2.2 pc E hpc ∧ i < M.2.2.1 ∧ ((∃ k9 : Fin 4, (k9 : Nat) = i ∧ decode M.2.1 hpc = .ok (.astore_n k9, 1) ∧ xr M sc d (hpc + 1) (xkill lo i) [] h' rc' rs' Q) ∨ (decode M.2.1 hpc = .ok (.astore i, 2) ∧ xr M sc d (hpc + 2) (xkill lo i) [] h' rc' rs' Q))) :
    xr M sc d pc lo (as.reverse ++ .ref b :: st) h rc rs Q := by
  intro u9 p l e s m args below meth c mc ms cells slots H locs ls D cA ad ad0 N0 C hl
  have hstart := xstart (as := .ref b :: as) C
  have C9 := C
  obtain ⟨⟨hx, hb, hml, hr, hlo, hown, hnm, htb, hll⟩, hts, hF, hcs, hK, ⟨hN, hag, hpl, hln⟩, hP, hD, hS⟩ := C
  obtain ⟨T9, N9, hci⟩ := hci
  obtain ⟨hl1, hl2, hl3, hl4, hl5⟩ := hlk
  obtain ⟨cellB, hcB, hoB, hclB⟩ := va_recv (a := ad b) hK hP hci (q0 := b) (fs := fs.map (xv ad)) (xw_at hb0)
  have hclB : s.vm.findClass M'.1.cls = some cellB.cls := hclB
  intro T hT X
  have hcode := hts _ hcd
  obtain ⟨mk, methM, hnamed, hmethM, hstM, habM⟩ := Cond.instanceMethod_spec (hts _ hl2)
  obtain ⟨methM', cM, hmethM', hcM, -, hlM, -, -, -, hsigM⟩ := Cond.code_spec hnamed hcode
  cases hmethM.symm.trans hmethM'
  have hy : M'.1.cls ≠ "java/lang/invoke/MethodHandle" ∧ M'.1.cls ≠ "java/lang/invoke/VarHandle" := ⟨hl5.1, hl5.2.1⟩
  obtain ⟨c2, r2, m2, q1, q2, q3, q4, kP, hkP, hkPi⟩ := Cond.selects_spec (hts _ hl3)
  cases hclB.symm.trans q1
  cases (State.methodFound?_of_named hnamed hy).symm.trans q2
  cases hnamed.symm.trans q3
  have hselP : selectMethod e.platform s.vm cellB.cls mk = .method mk := by rw [Launch.admits_selectMethod X.admits]; exact q4
  have hlen9 : (as.map (xv ad)).length = methM.sig.parameters.length := by
    have h2 := hl5.2.2
    rw [hsigM] at h2
    rw [List.length_map, hn]
    exact (Option.some.inj h2).symm
  have hstk : (F0 m pc ls ((as.reverse ++ .ref b :: st).map (xv ad))).stack = (as.map (xv ad)).reverse ++ .ref (ad b) :: st.map (xv ad) := by
    show (as.reverse ++ .ref b :: st).map (xv ad) = _
    rw [List.map_append, List.map_reverse]; rfl
  have hinv : ∃ vm₁, Stand p l e (xrm d mc ms) s m args below meth c (T.setVm vm₁) locs cells slots ∧ ∀ target, (∀ acts, Steps p.tables e below (doInvoke e ((T.setVm vm₁).setTop (F0 m pc ls (st.map (xv ad)))) acts mk (Value.ref (ad b) :: as.map (xv ad)).toArray).1 target) → Steps p.tables e below (T.setTop (F0 m pc ls ((as.reverse ++ .ref b :: st).map (xv ad)))) target := by
    rcases hl1 with hl1 | ⟨host, hl1⟩
    · exact X.invokevirtual hx hown (hts _ hl1) hnamed hmethM hstM hkP hkPi hy (a := ad b) (cell := cellB) (by rw [hT]; exact hcB) (fun z h => by rw [h] at hoB; cases hoB) hselP hmethM habM hkP hkPi (g := F0 m pc ls ((as.reverse ++ .ref b :: st).map (xv ad))) rfl (argsL := as.map (xv ad)) (rest := st.map (xv ad)) hlen9 hstk (by rw [hb]; exact hd)
    · exact X.invokevirtualNest hx hown (va_Nw.use rfl (hF.1 _ hl1)) hnamed hmethM hstM hkP hkPi hy (a := ad b) (cell := cellB) (by rw [hT]; exact hcB) (fun z h => by rw [h] at hoB; cases hoB) hselP hmethM habM hkP hkPi (g := F0 m pc ls ((as.reverse ++ .ref b :: st).map (xv ad))) rfl (argsL := as.map (xv ad)) (rest := st.map (xv ad)) hlen9 hstk (by rw [hb]; exact hd)
  obtain ⟨vm₁, X₁, hstep₁⟩ := hinv
  have hW₁ := X₁.warmed
  have hgood := xgood hcd
  have hpre : (headSpec (xws M') (xrm d' mc' ms')).pre.before (Value.ref (ad b) :: as.map (xv ad)).toArray (T.setVm vm₁) = true := atoms_intro fun w hw => pay_in hts hgood w hw _ _ hW₁
  have hini : (Cond.initialized M'.1.cls).before (Value.ref (ad b) :: as.map (xv ad)).toArray (T.setVm vm₁) = true := word_at hW₁ (good_of_word (List.mem_filter.mp hl4).2) (hts _ hl4)
  have hn₁ : (T.setVm vm₁).methodNamed? M'.1 = some mk := X₁.named hnamed
  obtain ⟨kY, hkY, -⟩ := className_of_methodNamed hn₁
  have hinitY : kY.init = .initialized := Cond.initialized_spec (findClass_of_methodNamed hn₁) hkY hini
  have hmY : (T.setVm vm₁).vm.method? mk = some methM := by rw [hW₁.alike.method?]; exact hmethM
  have hdg : decode c.code pc = .ok (.invokevirtual idx, 3) := by rw [hb]; exact hd
  have hat : At (T.setVm vm₁) m c below := X₁.here
  generalize hgd : F0 m pc ls (st.map (xv ad)) = g at hstep₁
  have hgm : g.method = m := by rw [← hgd]
  have hgp : g.pc = pc := by rw [← hgd]
  have hsz : g.locals.size = c.maxLocals := by rw [← hgd, hml]; exact hl.1
  have hgw : 2 * g.monitorRoom + (g.stack.map fun v => v.category).sum ≤ 8 := by
    rw [← hgd]
    exact lv_room (m := m) (pc := pc) (ls := ls) (rest := st.map (xv ad)) (st := st.map (xv ad)) (by rw [xcat]; exact hcat)
  have hat' : At (T.setVm vm₁) g.method c below := by rw [hgm]; exact hat
  have happ : (headSpec (xws M') (xrm d' mc' ms')).appliesLoose M'.1 e.platform ((T.setVm vm₁).calling g mk (Value.ref (ad b) :: as.map (xv ad)).toArray) = true :=
    Spec.appliesLoose_calling (g := g) hat' (by rw [hgp]; exact hdg) hn₁ hkY hinitY
      (X₁.room_calling (g := g) (R' := (headSpec (xws M') (xrm d' mc' ms')).room) hsz hmY hcM (by show d'.1 + 1 ≤ d.1; exact hdd.1) (by rw [hlM]; show _ + _ + (_ + 11) + d'.2 ≤ d.2; omega) (by show cells + mc' ≤ mc; omega) (by show slots + ms' ≤ ms; omega)) hpre
  obtain ⟨mid, hmid⟩ := hat'.above
  have hfr : ((T.setVm vm₁).setTop g).frames = (.java g :: mid) ++ below := by rw [State.frames_setTop' g hat'.top, hmid]; rfl
  have hPc : xPc D cA ad (.ref b :: as) h (Value.ref (ad b) :: as.map (xv ad)).toArray ((T.setVm vm₁).calling g mk (Value.ref (ad b) :: as.map (xv ad)).toArray) := (xblind (sz := H.size) _ _ g mk (hstart (T.setVm vm₁) hT hW₁)).1
  obtain ⟨oc, s₂, hsteps, -, hend, o, hPo, hE⟩ := Steps.callFree (hM l hll D cA ad) p X.admits X.cas X.clock (acts := []) hfr happ hPc trivial
  have hE : xE D cA ad h.length o ((T.setVm vm₁).calling g mk (Value.ref (ad b) :: as.map (xv ad)).toArray) mc' ms' oc s₂ := hE
  obtain ⟨r9, h'⟩ := o
  obtain ⟨E, hE1⟩ := hth _ hPo
  have hE1 : r9 = .inr E := hE1
  subst hE1
  obtain ⟨⟨L, hW₂, hsm, hL⟩, hN', hFr, ad', hag', hP', hD', q, ce, rfl, hce, hcv, hcl⟩ := hE
  obtain ⟨hlen', hpc, i, hcat9, hin, hrest⟩ := kk E h' hPo
  have hade : ad' = ad := xsame hlen' hag'
  subst hade
  rw [State.frames_setTop' g hat'.top] at hend
  obtain ⟨g₀, hg0⟩ := Option.isSome_iff_exists.mp hat'.top
  obtain ⟨r, hr9⟩ := State.topJava?_eq_some.mp hg0
  obtain ⟨e2, z2, z3, z4, z5, z6⟩ := hsm
  have hW' : (T.setVm vm₁).WarmedH s₂.vm := hW₂
  have hU0 : (({ (T.setVm vm₁) with heap := s₂.heap, slotsUsed := s₂.slotsUsed } : State).setVm s₂.vm).frames = .java g₀ :: r := hr9
  have e3 : s₂ = ({ ((T.setVm vm₁).calling g mk (Value.ref (ad' b) :: as.map (xv ad')).toArray).setFrames s₂.frames with heap := s₂.heap, slotsUsed := s₂.slotsUsed } : State).setVm s₂.vm := by
    have : s₂ = ({ s₂ with vm := ((T.setVm vm₁).calling g mk (Value.ref (ad' b) :: as.map (xv ad')).toArray).vm } : State).setVm s₂.vm := rfl
    rw [e2] at this
    exact this
  have hend : s₂.frames = .throwing q :: .java g :: (T.setVm vm₁).frames.tail := hend
  have hs₂ : s₂ = ((({ (T.setVm vm₁) with heap := s₂.heap, slotsUsed := s₂.slotsUsed } : State).setVm s₂.vm).setTop g).pushFrame (.throwing q) := by
    refine e3.trans ?_
    rw [hend, State.calling_eq hat'.top, State.setFrames_setFrames, State.pushFrame, State.setTop_of_frames _ hU0, State.setFrames_setFrames, hr9]
    have hU1 : ((({ (T.setVm vm₁) with heap := s₂.heap, slotsUsed := s₂.slotsUsed } : State).setVm s₂.vm).setFrames (.java g :: r)).frames = .java g :: r := State.frames_setFrames _ (State.cur_lt_of_frames hU0)
    rw [hU1]
    rfl
  have hsame : (T.setVm vm₁).sameButNew ({ (T.setVm vm₁) with heap := s₂.heap, slotsUsed := s₂.slotsUsed } : State) L mc' ms' := by
    refine ⟨?_, z2, z3, z4, z5, z6⟩
    obtain ⟨t, ht, -⟩ := State.frames_cons hr9
    show ({ (T.setVm vm₁) with heap := s₂.heap, slotsUsed := s₂.slotsUsed } : State) = { (T.setVm vm₁).setFrames (T.setVm vm₁).frames with heap := s₂.heap, slotsUsed := s₂.slotsUsed }
    rw [State.setFrames_self ht]
  have X₂ : Stand p l e (xrm d mc ms) s m args below meth c (({ (T.setVm vm₁) with heap := s₂.heap, slotsUsed := s₂.slotsUsed } : State).setVm s₂.vm) (locs ++ L) (cells + mc') (slots + ms') :=
    ⟨X₁.admits, X₁.cas, X₁.clock, X₁.frames, X₁.room, X₁.hears, X₁.method, X₁.code, (X₁.here.setHeapUsed s₂.heap s₂.slotsUsed).setVm hW'.alike, X₁.tail, State.WarmedH.trans X₁.warmed hW', X₁.limits, X₁.bytes, X₁.same.trans (hsame.setVm s.vm)⟩
  generalize hU : (({ (T.setVm vm₁) with heap := s₂.heap, slotsUsed := s₂.slotsUsed } : State).setVm s₂.vm) = U at X₂ hs₂
  have hUh : U.heap = s₂.heap := by rw [← hU]; rfl
  have hclE : s.vm.findClass E = some ce.cls := by
    have : (T.setVm vm₁).vm.findClass E = some ce.cls := hcl
    rw [hW₁.alike.findClass] at this
    exact this
  obtain ⟨kE, hkE, -⟩ := Vm.findClass_spec hclE
  obtain ⟨pre9, x9, suf9, hhs, hxp, ⟨hx1, hx2, hx3, nm, hx4, hx5, hx6⟩, hpre9⟩ := hcat9
  subst hx5
  rw [hhs] at htb
  obtain ⟨preE, restE, hsp1, hsp2, hsp3⟩ := List.map_eq_append_iff.mp htb
  obtain ⟨xE9, sufE, hsp4, hsp5, hsp6⟩ := List.map_eq_cons_iff.mp hsp3
  subst hsp4
  have hplt : e.platform.magicAccessors = ({} : Platform).magicAccessors := by rw [X.admits.platform]
  have hxe : xE9.startPc = x9.1 ∧ xE9.endPc = x9.2.1 ∧ xE9.handlerPc = x9.2.2.1 ∧ xE9.catchType = x9.2.2.2 := by rw [← hsp5]; exact ⟨rfl, rfl, rfl, rfl⟩
  have hcovx : covers xE9 g.pc = true := by
    rw [hgp]
    simp only [covers, Bool.and_eq_true, decide_eq_true_eq]
    omega
  have hrowx : xrow s e.platform g.method.cls ce.cls xE9 true := by
    rw [hgm]
    refine ⟨by rw [hxe.2.2.2]; exact hx3, ?_⟩
    have := hts _ hx4
    rw [← hxe.2.2.2] at this
    obtain ⟨c5, hc5, hcl5⟩ := Cond.classLink_spec hown this e.platform hplt
    cases Option.some.inj (hc5.symm.trans hclE)
    exact ⟨_, hcl5, va_asg _ _⟩
  have hrowp : ∀ y ∈ preE, covers y g.pc = true ∧ xrow s e.platform g.method.cls ce.cls y false := by
    intro y hy9
    have hym : (y.startPc, y.endPc, y.handlerPc, y.catchType) ∈ pre9 := by
      rw [← hsp2]
      exact List.mem_map.mpr ⟨y, hy9, rfl⟩
    obtain ⟨w1, w2, w3, nm9, w4, w5⟩ := hpre9 _ hym
    dsimp only at w1 w2 w3 w4
    refine ⟨?_, ?_⟩
    · rw [hgp]
      simp only [covers, Bool.and_eq_true, decide_eq_true_eq]
      exact ⟨w1, w2⟩
    · rw [hgm]
      refine ⟨w3, ?_⟩
      obtain ⟨c6, hc6, hcl6⟩ := Cond.classLink_spec hown (hts _ w4) e.platform hplt
      obtain ⟨a8, b8, n1, n2, n3⟩ := hF.2.2.2.2.2.1 _ w5
      cases Option.some.inj (n1.symm.trans hclE)
      cases Option.some.inj (n2.symm.trans hc6)
      exact ⟨_, hcl6, n3⟩
  obtain ⟨vm', hW9, hfnd⟩ := xfind (e := e) (s₀ := s) (f := g) (a := q) (cell := ce) (VmData.ne_statics_of (by rw [hcv]; rfl)) ⟨kE, hkE⟩ (rest := sufE) hcovx hrowx preE ((U.setTop g).pushFrame (.throwing q)) X₂.warmed (by show U.heap[q]? = some ce; rw [hUh]; exact hce) hrowp
  rw [← hsp1] at hfnd
  have hAt2 : At U g.method c below := by rw [hgm]; exact X₂.here
  have X₃ := X₂.noted hW9
  have hsub := xA_sub (D := D) (sz2 := H.size) hD hS.1
  have hsz9 : ((T.setVm vm₁).calling g mk (Value.ref (ad' b) :: as.map (xv ad')).toArray).heap = H := hT
  rw [hsz9] at hFr hD' hL
  have hFr2 : H.size ≤ s₂.heap.size ∧ ∀ q : Nat, q < H.size → ¬ xA ad' h.length H.size q → s₂.heap[q]? = H[q]? := by
    have := hFr
    unfold va_F at this
    rw [hsz9] at this
    exact this
  have hS' : va_S (xA ad0 N0 s.heap.size) s.heap s₂.heap (locs ++ L) := by
    refine ⟨Nat.le_trans hS.1 hFr2.1, ?_, ?_⟩
    · intro q9 h1 h2
      rw [hFr2.2 q9 (Nat.lt_of_lt_of_le h1 hS.1) (fun z => h2 (hsub q9 z))]
      exact hS.2.1 q9 h1 h2
    · intro q9 hq9
      rcases List.mem_append.mp hq9 with h9 | h9
      · exact hS.2.2 q9 h9
      · exact hsub _ (hL q9 h9)
  have C' : xC0 M sc rc' rs' h' p l e s m args meth c mc ms (cells + mc') (slots + ms') s₂.heap (locs ++ L) D cA ad' ad0 N0 :=
    ⟨⟨hx, hb, hml, hr, hlo, hown, hnm, by rw [hhs]; exact htb, hll⟩, hts, hF, ⟨by omega, by omega⟩, hK, ⟨by rw [hlen']; exact hN, fun k hk => hag k (by rw [← hlen']; exact hk), hpl, by rw [hlen']; exact hln⟩, hP', hD'.weaken (fun q9 _ _ hq9 => hsub _ hq9), hS'⟩
  have K : W p l e (xrm d mc ms) s m args below meth c s₂.heap (locs ++ L) (cells + mc') (slots + ms') (xQ below D cA ad0 N0 Q s mc ms) (F0 m hpc ls [.ref q]) := by
    rcases hrest with ⟨k9, hk9, hdh, hr⟩ | ⟨hdh, hr⟩
    · exact lv_astore_n hx hb hdh hk9 hl hin rfl (fun ls' hl' => hr u9 C' (xhas_kill hl'))
    · exact lv_astore hx hb hdh hl hin rfl (fun ls' hl' => hr u9 C' (xhas_kill hl'))
  obtain ⟨t2, a1, b1⟩ := K (U.setVm vm') hUh X₃
  refine ⟨t2, hstep₁ _ fun acts => ?_, b1⟩
  rw [doInvoke_state]
  refine hsteps.trans ?_
  rw [hs₂]
  refine xcaught (meth := meth) hAt2 (by rw [hgm]; exact X₂.method') X₂.code hfnd ?_
  rw [hxe.2.2.1, hxp, ← hgd]
  exact a1
end XCT
