section XTH
variable {M : xM} {sc : xSc} {d : Nat × Nat} {pc : Nat} {lo : xL} {st : List Value} {h : List xC} {rc rs : Nat} {Q : xO → Prop}
theorem xbase {p : Program} {l : Launch} {e : Env} {R : Room} {s : State} {m : MethodId} {args : Array Value} {below : List Frame} {meth : Method} {c : Code} {T : State} {locs : List Loc} {cells slots : Nat} (X : Stand p l e R s m args below meth c T locs cells slots) {R' : Room} (hf : R'.frames ≤ R.frames) (hl : R'.locals ≤ R.locals) (hc : cells + R'.cells ≤ R.cells) (hs : slots + R'.slots ≤ R.slots) :
    Stand p l e R' ((T.setVm s.vm).setFrames (.invoking m args :: below)) m args below meth c T [] 0 0 := by
  have ht : (T.setVm s.vm).topJava?.isSome := X.here.top
  have hF : ((T.setVm s.vm).setFrames (.invoking m args :: below)).frames = .invoking m args :: below := State.frames_setFrames _ (State.cur_lt_of_top ht)
  obtain ⟨g₀, hg0⟩ := Option.isSome_iff_exists.mp ht
  obtain ⟨r, hr⟩ := State.topJava?_eq_some.mp hg0
  have hlim : e.platform.stackLimits (T.setVm s.vm).me = e.platform.stackLimits s.me := X.limits
  have hby : (T.setVm s.vm).me.stackBytes = s.me.stackBytes := X.bytes
  have hnil : T.heap.toList.drop T.heap.size = [] := List.drop_eq_nil_of_le (Nat.le_of_eq Array.length_toList)
  have hroom : ((T.setVm s.vm).setFrames (.invoking m args :: below)).hasRoom e.platform R' = true := by
    have h := X.room
    have hU : ((T.setVm s.vm).setFrames (.invoking m args :: below)).localsInUse = s.localsInUse := by
      rw [State.localsInUse_invoking hF (meth := meth) (c := c) X.method X.code, State.localsInUse_invoking X.frames X.method X.code]
    have q1 := X.heapSize
    have q2 := X.used
    simp only [State.hasRoom, Bool.and_eq_true, decide_eq_true_eq] at h ⊢
    obtain ⟨⟨⟨⟨h1, h2, h3, h4, h5, h6⟩, h7⟩, h8⟩, h9⟩ := h
    rw [X.frames, List.length_cons] at h2 h3
    simp only [hF, hU, List.length_cons, State.stackLimits_setFrames, State.stackBytes_setFrames, hlim, hby]
    exact ⟨⟨⟨⟨by omega, by omega, by omega, by omega, by omega, h6⟩, (by show T.heap.size + R'.cells ≤ e.platform.maxCells; omega)⟩, (by show T.slotsUsed + R'.slots ≤ e.platform.maxSlots; omega)⟩, X.book⟩
  have hsame : ((T.setVm s.vm).setFrames (.invoking m args :: below)).sameButNew (T.setVm s.vm) [] 0 0 := by
    refine ⟨?_, Nat.le_refl _, Nat.le_refl _, ?_, ?_, fun a c9 h9 => ⟨c9, h9, rfl, rfl, fun _ _ => rfl⟩⟩
    · obtain ⟨t, h1, -⟩ := State.frames_cons hr
      show T.setVm s.vm = { ((T.setVm s.vm).setFrames (.invoking m args :: below)).setFrames (T.setVm s.vm).frames with heap := T.heap, slotsUsed := T.slotsUsed }
      rw [State.setFrames_setFrames, State.setFrames_self h1]
      rfl
    · show T.slotsUsed = T.slotsUsed + ((T.heap.toList.drop T.heap.size).map (·.slots.size)).sum
      rw [hnil]; rfl
    · show ((T.heap.toList.drop T.heap.size).map (·.slots.size)).sum ≤ 0
      rw [hnil]; exact Nat.le_refl _
  exact ⟨X.admits, X.cas, X.clock, hF, hroom, X.hears, X.method, X.code, X.here, X.tail, X.warmed, by rw [State.stackLimits_setFrames]; rfl, by rw [State.stackBytes_setFrames]; rfl, hsame⟩
theorem xsame_frames {X0 U : State} {fs : List Frame} {k n : Nat} (h : (X0.setFrames fs).sameButNew U [] k n) : X0.sameButNew U [] k n := by
  obtain ⟨h1, h2⟩ := h
  refine ⟨?_, h2⟩
  rw [State.setFrames_setFrames] at h1
  exact h1
theorem xisRef {args : Array Value} {C n d : String} {A : Nat → Prop} {s : State} (h : va_Zq C n d A s s.heap) : (Cond.isRef (.static C n d)).before args s = true := by
  rcases h with ⟨cf, kf, fi, f, a, cell, h1, h2, h3, h4, h5, h6, h7, h8⟩ | ⟨t, cf, kf, fi, f, a, cell, h1, h2, h3, h4, h5, h6, h7, h8⟩ <;>
    simp [Cond.before, Cond.holds, Cond.value, Term.eval, State.fieldNamed?, h1, h2, h4, h5, h6, h7]
def xno (w : Cond) : Prop := w = .isRef (.static Bundle.tN "UNASSIGNED_STACK" Bundle.steD) ∨ w = .isRef (.static Bundle.tN "SUPPRESSED_SENTINEL" Bundle.listD) ∨ w = .laysStatic Bundle.tN "UNASSIGNED_STACK" Bundle.steD ∨ w = .laysStatic Bundle.tN "SUPPRESSED_SENTINEL" Bundle.listD
def xtw (own : String) (ik is ic : Nat) (E : String) (names : List String) : Prop :=
  Bundle.fit E = true ∧ (∀ n ∈ names, Bundle.fit n = true) ∧ Cond.classLink own ik E ∈ xtb ∧ Cond.initialized E ∈ xtb ∧ (∃ tx, (own, is, tx) ∈ xstrs) ∧ (∀ w ∈ Bundle.ownAtoms own ic E names, w ∈ xtb ∨ w ∈ xdcl ∨ xno w) ∧ names.length ≤ 4
set_option maxHeartbeats 1000000 in
theorem xr_throwS {ik is ic : Nat} {E : String} {names : List String} (hw : xtw M.1.cls ik is ic E names) (hM0 : M.2.2.2.2 = [])
    (d0 : decode M.2.1 pc = .ok (.new ik, 3)) (d3 : decode M.2.1 (pc + 3) = .ok (.dup, 1)) (d4 : decode M.2.1 (pc + 4) = .ok (.ldc is, 2)) (d6 : decode M.2.1 (pc + 6) = .ok (.invokespecial ic, 3)) (d9 : decode M.2.1 (pc + 9) = .ok (.athrow, 1))
    (hd : names.length + 3 < d.1) (hd2 : 9 + (13 * (names.length + 1) + 42) ≤ d.2) (hcat : (st.map fun v => v.category).sum ≤ 8) (hrc : 1 ≤ rc) (hrs : 6 ≤ rs) (hq : Q (.inr E, h)) : xr M sc d pc lo st h rc rs Q := by
  intro u9 p l e s m args below meth c mc ms cells slots H locs ls D cA ad ad0 N0 C hl
  obtain ⟨⟨hx, hb, hml, hr, hlo, hown, hnm, htb, hll⟩, hts, hF, hcs, hK, ⟨hN, hag, hpl, hln⟩, hP, hD, hS⟩ := C
  obtain ⟨hfE, hfn, hw1, hw2, ⟨tx, hw3⟩, hw4, hnl⟩ := hw
  intro T hT X
  have X' := xbase X (R' := { frames := d.1, cells := 1, slots := 6, locals := d.2 }) (Nat.le_refl _) (Nat.le_refl _) (by show cells + 1 ≤ mc; omega) (by show slots + 6 ≤ ms; omega)
  have hWs : ((T.setVm s.vm).setFrames (.invoking m args :: below)).WarmedH s.vm := State.WarmedH.refl _
  generalize hs' : (T.setVm s.vm).setFrames (.invoking m args :: below) = s' at X' hWs
  have hvm : s'.vm = s.vm := by rw [← hs']; rfl
  have hhp : s'.heap = H := by rw [← hs', ← hT]; rfl
  have hown' : s'.vm.findClass M.1.cls = some m.cls := by rw [hvm]; exact hown
  have hWm : s.WarmedH s'.vm := by rw [hvm]; exact State.WarmedH.refl s
  have hts' : ∀ w ∈ xtb, w.before args s' = true := fun w hw => word_at hWm (good_of_word (List.mem_filter.mp hw).2) (hts w hw)
  have hzU : va_Zq Bundle.tN "UNASSIGNED_STACK" Bundle.steD (xA ad0 N0 s.heap.size) s' s'.heap := by
    rw [hhp]
    exact (va_Zq.moved hWm.alike (hF.2.2.2.1 (Bundle.tN, "UNASSIGNED_STACK", Bundle.steD) xzq_U)).kept hS.2.1
  have hzS : va_Zq Bundle.tN "SUPPRESSED_SENTINEL" Bundle.listD (xA ad0 N0 s.heap.size) s' s'.heap := by
    rw [hhp]
    exact (va_Zq.moved hWm.alike (hF.2.2.2.1 (Bundle.tN, "SUPPRESSED_SENTINEL", Bundle.listD) xzq_S)).kept hS.2.1
  have hlU : xls Bundle.tN "UNASSIGNED_STACK" Bundle.steD (xA ad0 N0 s.heap.size) s' s'.heap := by
    rw [hhp]
    exact xls_kept (xls_moved hWm.alike (hF.2.2.2.2.2.2.2 (Bundle.tN, "UNASSIGNED_STACK", Bundle.steD) xzq_U)) hS.2.1
  have hlS : xls Bundle.tN "SUPPRESSED_SENTINEL" Bundle.listD (xA ad0 N0 s.heap.size) s' s'.heap := by
    rw [hhp]
    exact xls_kept (xls_moved hWm.alike (hF.2.2.2.2.2.2.2 (Bundle.tN, "SUPPRESSED_SENTINEL", Bundle.listD) xzq_S)) hS.2.1
  have hat : ∀ w ∈ Bundle.ownAtoms M.1.cls ic E names, w.before args s' = true := by
    intro w hw
    rcases hw4 w hw with h1 | h1 | rfl | rfl | rfl | rfl
    · exact hts' w h1
    · have h9 : va_Nw w s' := xD_same (List.mem_filter.mp h1).2 hvm (hF.2.2.2.2.2.2.1 w h1)
      exact xD_use (List.mem_filter.mp h1).2 h9
    · exact xisRef hzU
    · exact xisRef hzS
    · exact xls_use hlU
    · exact xls_use hlS
  obtain ⟨aS, hvR⟩ := hF.2.1 _ hw3
  have hvR' := vk_R.warm hWm hvR
  have hins : (Cond.instantiable E 6).before args s' = true := hat _ (by simp [Bundle.ownAtoms])
  have htr : e.platform.stackTraces = false := xl_off hll X.admits
  have hout : ∀ x ∈ c.exceptionTable.toList, covers x (pc + 9) = false := by
    rw [hM0] at htb
    have : c.exceptionTable.toList = [] := List.map_eq_nil_iff.mp htb
    rw [this]
    intro x hx; cases hx
  have K : W p l e { frames := d.1, cells := 1, slots := 6, locals := d.2 } s' m args below meth c H [] 0 0 (fun U => U.status = .running ∧ Ended U below (.threw H.size) ∧ s'.WarmedH U.vm ∧ s'.sameButNew ({ U with vm := s'.vm } : State) [] 1 6 ∧ ∃ ce, U.heap[H.size]? = some ce ∧ ce.vm = .none ∧ s'.vm.findClass E = some ce.cls) (F0 m pc ls (st.map (xv ad))) := by
    refine W.newc hx hb hown' (hts' _ hw1) hins (hts' _ hw2) rfl d0 (Nat.le_refl _) (Nat.le_refl _) (fun cC kC h1 h2 h3 h4 => ?_)
    refine lv_dup hx hb d3 rfl ?_
    refine va_ldcS hx hb hown' hvR' d4 ?_
    intro T2 hT2 X2
    have hcell : T2.heap[H.size]? = some (freshCell cC kC) := by
      rw [hT2]
      simp [freshCell]
    obtain ⟨U, q1, q2, q3, q4, q5, ce, q6, q7⟩ := X2.ctorThrowS hx htr hown' hfE hfn hat (fun x hx => by cases hx) h1 h2 hcell (by rw [hhp]; exact Nat.le_refl _) (msg := .ref aS) rfl (g := F0 m (pc + 6) ls (.ref aS :: .ref H.size :: .ref H.size :: st.map (xv ad))) rfl (by rw [hml]; exact hl.1) rfl rfl (rest := st.map (xv ad)) rfl (by rw [hb]; exact d6) (by rw [hb]; exact d9) hout (by show names.length + 3 < d.1; exact hd)
      (by
        show 2 * 0 + ((Value.ref H.size :: st.map (xv ad)).map fun v => v.category).sum + (13 * (names.length + 1) + 42) ≤ d.2
        rw [List.map_cons, List.sum_cons, xcat]
        show 2 * 0 + (1 + _) + _ ≤ _
        omega) hlo
    exact ⟨U, q1, q2, q3, q4, q5, ce, q6, q7.vm, q7.cls⟩
  obtain ⟨U, a1, b1, b2, b3, b4, ce, b5, b6, b7⟩ := K T hT X'
  refine ⟨U, a1, .threw H.size, (.inr E, h), hq, b1, b2, ?_⟩
  have hWU : s.WarmedH U.vm := State.WarmedH.of_rootvm hvm.symm b3
  have hsm : (T.setVm s.vm).sameButNew ({ U with vm := s.vm } : State) [] 1 6 := by
    rw [hvm, ← hs'] at b4
    exact xsame_frames b4
  have hsm2 : s.sameButNew ({ U with vm := s.vm } : State) locs mc ms := by
    have := X.same.trans hsm
    rw [List.append_nil] at this
    exact this.mono (by omega) (by omega)
  have hkeep : ∀ q : Nat, q < H.size → U.heap[q]? = H[q]? := by
    intro q hq9
    have hc1 : (T.setVm s.vm).heap[q]? = some H[q] := by
      show T.heap[q]? = _
      rw [hT]; exact Array.getElem?_eq_getElem hq9
    have := State.sameButNew.old_cell hsm hc1
    rw [Array.getElem?_eq_getElem hq9]
    exact this
  have hszU : H.size ≤ U.heap.size := by
    have := hsm.2.1
    have e1 : (T.setVm s.vm).heap.size = H.size := by rw [← hT]; rfl
    rw [e1] at this
    exact this
  refine ⟨⟨locs, hWU, hsm2, hS.2.2⟩, hN, ⟨Nat.le_trans hS.1 hszU, fun q h1 h2 => ?_⟩, ad, hag, ?_, hD, H.size, ce, rfl, b5, b6, by rw [← hvm]; exact b7⟩
  · rw [hkeep q (Nat.lt_of_lt_of_le h1 hS.1)]
    exact hS.2.1 q h1 h2
  · exact hP.kept (fun k q hq9 => hkeep _ ((hP k q hq9).lt))
end XTH
