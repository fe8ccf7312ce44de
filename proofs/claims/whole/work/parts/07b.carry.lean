def xisD : Cond → Bool
  | .declares .. => true
  | .castable .. => true
  | _ => false
def xdcl : List Cond := lw_tbl.filter xisD
theorem xD_same {w : Cond} (hw : xisD w = true) {u U : State} (hv : U.vm = u.vm) (h : va_Nw w u) : va_Nw w U := by
  cases w with
  | declares x => exact va_Nw.same rfl hv.symm h
  | castable a b => exact va_Nw.same rfl hv.symm h
  | _ => cases hw
theorem xD_warm {w : Cond} (hw : xisD w = true) {s U : State} (hW : s.WarmedH U.vm) (h : va_Nw w s) : va_Nw w U := by
  have h2 : va_Nw w (s.setVm U.vm) := by
    cases w with
    | declares x =>
      show (Cond.declares x).before #[] (s.setVm U.vm) = true
      rw [Cond.declares_setVm hW.alike]; exact h
    | castable a b =>
      show (Cond.castable a b).before #[] (s.setVm U.vm) = true
      rw [Cond.castable_setVm hW.alike]; exact h
    | _ => cases hw
  exact xD_same hw (u := s.setVm U.vm) (U := U) rfl h2
theorem xD_use {w : Cond} (hw : xisD w = true) {A : Array Value} {U : State} (h : va_Nw w U) : w.before A U = true := by
  cases w with
  | declares x => exact va_Nw.use rfl h
  | castable a b => exact va_Nw.use rfl h
  | _ => cases hw
def xls (C n d : String) (A : Nat → Prop) (U : State) (H : Heap) : Prop := ∃ (c : ClassId) (kf : Class) (fi : Nat) (f : Field) (a : Nat) (cell : Cell), U.vm.findClass C = some c ∧ U.fieldFound? C n d = some (c, kf, fi, f) ∧ f.isStatic = true ∧ kf.statics = some a ∧ H[a]? = some cell ∧ cell.vm.isStatics = true ∧ cell.cls = c ∧ f.slot < cell.slots.size ∧ kf.staticTypes[f.slot]? = some f.type ∧ ¬ A a
theorem xls_moved {C n d : String} {A : Nat → Prop} {u U : State} {H : Heap} (hvm : u.vm.Alike U.vm) (h : xls C n d A u H) : xls C n d A U H := by
  obtain ⟨c, kf, fi, f, a, cell, h0, h1, h2, h3, h4, h5, h6, h7, h8, h9⟩ := h
  obtain ⟨k', hi', he⟩ := State.fieldFound?_setVm hvm h1
  exact ⟨c, k', fi, f, a, cell, by rw [hvm.findClass]; exact h0, hi', h2, by rw [he]; exact h3, h4, h5, h6, h7, by rw [he]; exact h8, h9⟩
theorem xls_kept {C n d : String} {A : Nat → Prop} {U : State} {H H1 : Heap} (h : xls C n d A U H) (hq : ∀ a : Nat, a < H.size → ¬ A a → H1[a]? = H[a]?) : xls C n d A U H1 := by
  obtain ⟨c, kf, fi, f, a, cell, h0, h1, h2, h3, h4, h5, h6, h7, h8, h9⟩ := h
  exact ⟨c, kf, fi, f, a, cell, h0, h1, h2, h3, by rw [hq a (Array.getElem?_eq_some_iff.mp h4).1 h9]; exact h4, h5, h6, h7, h8, h9⟩
theorem xls_narrow {C n d : String} {A B : Nat → Prop} {U : State} {H : Heap} (h : xls C n d A U H) (hAB : ∀ q, B q → A q) : xls C n d B U H := by
  obtain ⟨c, kf, fi, f, a, cell, h0, h1, h2, h3, h4, h5, h6, h7, h8, h9⟩ := h
  exact ⟨c, kf, fi, f, a, cell, h0, h1, h2, h3, h4, h5, h6, h7, h8, fun z => h9 (hAB a z)⟩
theorem xls_of {args : Array Value} {s : State} {C n d : String} {A : Nat → Prop} (hl : (Cond.laysStatic C n d).before args s = true) (hA : ∀ a : Nat, a < s.heap.size → ¬ A a) : xls C n d A s s.heap := by
  obtain ⟨c, k, i, f, a, cell, hc, hi, hst, ha, hcell, hs, hcls, hlt, hty⟩ := Cond.laysStatic_spec hl
  exact ⟨c, k, i, f, a, cell, hc, hi, hst, ha, hcell, hs, hcls, hlt, hty, hA a (Array.getElem?_eq_some_iff.mp hcell).1⟩
theorem xls_use {args : Array Value} {s : State} {C n d : String} {A : Nat → Prop} (h : xls C n d A s s.heap) : (Cond.laysStatic C n d).before args s = true := by
  obtain ⟨c, kf, fi, f, a, cell, h0, h1, h2, h3, h4, h5, h6, h7, h8, h9⟩ := h
  simp [Cond.before, Cond.holds, Cond.value, h0, h1, h2, h3, h4, h5, h6, h7, h8]
def xG (sc : xSc) (ad0 : Nat → Nat) (A : Nat → Prop) (s : State) : Prop :=
  (∀ w ∈ xnest, va_Nw w s) ∧ (∀ q ∈ xstrs, ∃ a, vk_R q.1 q.2.1 q.2.2 a s) ∧
  (∀ q : Nat × (Nat → Int32), sc = some q → va_X (ad0 1000000) q.1 q.2 s s.heap ∧ ad0 1000000 < s.heap.size ∧ ¬ A (ad0 1000000)) ∧
  (∀ q ∈ xzq, va_Zq q.1 q.2.1 q.2.2 A s s.heap) ∧
  (∀ q ∈ xsa, va_Z q.1 q.2.1 q.2.2.1 (.ref (ad0 q.2.2.2.1)) A s s.heap ∧ va_T .int (ad0 q.2.2.2.1) q.2.2.2.2.1 (fun j => .int (q.2.2.2.2.2 j)) A s s.heap ∧ 1000000 ≤ q.2.2.2.1) ∧
  ((∀ q ∈ xnc, va_Nc q.1 q.2 s) ∧ (∀ w ∈ xdcl, va_Nw w s) ∧ ∀ q ∈ xzq, xls q.1 q.2.1 q.2.2 A s s.heap)
theorem xG_of {sc : xSc} {ad0 : Nat → Nat} {A : Nat → Prop} {s : State} (h : xF sc ad0 A s) (h2 : ∀ w ∈ xdcl, va_Nw w s) (h3 : ∀ q ∈ xzq, xls q.1 q.2.1 q.2.2 A s s.heap) : xG sc ad0 A s := ⟨h.1, h.2.1, h.2.2.1, h.2.2.2.1, h.2.2.2.2.1, h.2.2.2.2.2, h2, h3⟩
theorem xG_F {sc : xSc} {ad0 : Nat → Nat} {A : Nat → Prop} {s : State} (h : xG sc ad0 A s) : xF sc ad0 A s := ⟨h.1, h.2.1, h.2.2.1, h.2.2.2.1, h.2.2.2.2.1, h.2.2.2.2.2.1⟩
theorem xG_same {sc : xSc} {ad0 : Nat → Nat} {A : Nat → Prop} {u U : State} (hv : U.vm = u.vm) (hh : U.heap = u.heap) (h : xG sc ad0 A u) : xG sc ad0 A U :=
  xG_of (xF_same hv hh (xG_F h)) (fun w hw => xD_same (List.mem_filter.mp hw).2 hv (h.2.2.2.2.2.2.1 w hw)) (fun q hq => by
    have hal : u.vm.Alike U.vm := by rw [hv]; exact Vm.Alike.refl u.vm
    rw [hh]; exact xls_moved hal (h.2.2.2.2.2.2.2 q hq))
theorem xG_call {sc : xSc} {ad ad0 : Nat → Nat} {A B : Nat → Prop} {s U : State} {H : Heap} {locs : List Loc} {n : Nat} (hW : s.WarmedH U.vm) (hU : U.heap = H) (hag : ∀ k, n ≤ k → ad k = ad0 k) (hn : n ≤ 1000000) (hS : va_S A s.heap H locs) (hBA : ∀ q, B q → A q) (h : xG sc ad0 A s) : xG none ad B U :=
  xG_of (xF_call hW hU hag hn hS hBA (xG_F h)) (fun w hw => xD_warm (List.mem_filter.mp hw).2 hW (h.2.2.2.2.2.2.1 w hw)) (fun q hq => by
    rw [hU]
    exact xls_narrow (xls_kept (xls_moved hW.alike (h.2.2.2.2.2.2.2 q hq)) hS.2.1) hBA)
