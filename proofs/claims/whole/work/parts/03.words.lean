def xtb : List Cond := lw_tbl.filter goodWord
def xisN : Cond → Bool
  | .fieldLinkNest .. => true
  | .methodLinkNest .. => true
  | _ => false
def xnest : List Cond := lw_tbl.filter xisN
theorem xnest_tab : ∀ w ∈ xnest, w.onTables = true := by decide +kernel
theorem xtb_in {w : Cond} (h : w ∈ lw_tbl) (hg : goodWord w = true) : w ∈ xtb := List.mem_filter.mpr ⟨h, hg⟩
theorem xnest_warm {s U : State} (hW : s.WarmedH U.vm) {w : Cond} (hw : xisN w = true) (h : va_Nw w s) : va_Nw w U := by
  cases w <;> first | exact va_Nw.warmF hW h | exact va_Nw.warmM hW h | (exact absurd hw (by decide)) | cases hw
abbrev xSc : Type := Option (Nat × (Nat → Int32))
def xF (sc : xSc) (ad0 : Nat → Nat) (A : Nat → Prop) (s : State) : Prop :=
  (∀ w ∈ xnest, va_Nw w s) ∧ (∀ q ∈ xstrs, ∃ a, vk_R q.1 q.2.1 q.2.2 a s) ∧
  (∀ q : Nat × (Nat → Int32), sc = some q → va_X (ad0 1000000) q.1 q.2 s s.heap ∧ ad0 1000000 < s.heap.size ∧ ¬ A (ad0 1000000)) ∧
  (∀ q ∈ xzq, va_Zq q.1 q.2.1 q.2.2 A s s.heap) ∧
  (∀ q ∈ xsa, va_Z q.1 q.2.1 q.2.2.1 (.ref (ad0 q.2.2.2.1)) A s s.heap ∧ va_T .int (ad0 q.2.2.2.1) q.2.2.2.2.1 (fun j => .int (q.2.2.2.2.2 j)) A s s.heap ∧ 1000000 ≤ q.2.2.2.1) ∧
  (∀ q ∈ xnc, va_Nc q.1 q.2 s)
theorem xF_same {sc : xSc} {ad0 : Nat → Nat} {A : Nat → Prop} {u U : State} (hv : U.vm = u.vm) (hh : U.heap = u.heap) (h : xF sc ad0 A u) : xF sc ad0 A U := by
  obtain ⟨h1, h2, h3, h4, h5, h6⟩ := h
  have hal : u.vm.Alike U.vm := by rw [hv]; exact Vm.Alike.refl u.vm
  refine ⟨fun w hw => ?_, fun q hq => ?_, fun q hq => ?_, fun q hq => ?_, fun q hq => ?_, fun q hq => va_Nc.moved hal (h6 q hq)⟩
  · exact va_Nw.same (xnest_tab w hw) hv.symm (h1 w hw)
  · obtain ⟨a, ha⟩ := h2 q hq
    exact ⟨a, vk_R.same hv ha⟩
  · obtain ⟨q1, q2, q3⟩ := h3 q hq
    rw [hh]
    exact ⟨va_X.moved hal q1, q2, q3⟩
  · rw [hh]; exact va_Zq.moved hal (h4 q hq)
  · obtain ⟨q1, q2, q3⟩ := h5 q hq
    rw [hh]
    exact ⟨va_Z.moved hal q1, va_T.moved hal q2, q3⟩
theorem xF_call {sc : xSc} {ad ad0 : Nat → Nat} {A B : Nat → Prop} {s U : State} {H : Heap} {locs : List Loc} {n : Nat} (hW : s.WarmedH U.vm) (hU : U.heap = H) (hag : ∀ k, n ≤ k → ad k = ad0 k) (hn : n ≤ 1000000) (hS : va_S A s.heap H locs) (hBA : ∀ q, B q → A q) (h : xF sc ad0 A s) : xF none ad B U := by
  obtain ⟨h1, h2, h3, h4, h5, h6⟩ := h
  refine ⟨fun w hw => ?_, fun q hq => ?_, fun q hq => (by cases hq), fun q hq => ?_, fun q hq => ?_, fun q hq => va_Nc.moved hW.alike (h6 q hq)⟩
  · exact xnest_warm hW (List.mem_filter.mp hw).2 (h1 w hw)
  · obtain ⟨a, ha⟩ := h2 q hq
    exact ⟨a, vk_R.warm hW ha⟩
  · rw [hU]
    exact ((va_Zq.moved hW.alike (h4 q hq)).kept hS.2.1).narrow hBA
  · obtain ⟨q1, q2, q3⟩ := h5 q hq
    rw [hU, hag _ (Nat.le_trans hn q3)]
    exact ⟨((va_Z.moved hW.alike q1).kept hS.2.1).narrow hBA, ((va_T.moved hW.alike q2).kept hS.2.1).narrow hBA, q3⟩
