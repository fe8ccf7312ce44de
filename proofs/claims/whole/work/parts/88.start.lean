theorem IN_By : Cond.instantiable "DviBytes$Bytes" 2 ∈ xtb := xtb_at 148 (by decide +kernel) (by decide +kernel)
theorem IN_Fo : Cond.instantiable "DviBytes$Fonts" 6 ∈ xtb := xtb_at 103 (by decide +kernel) (by decide +kernel)
theorem IN_Rd : Cond.instantiable "DviBytes$Reader" 14 ∈ xtb := xtb_at 297 (by decide +kernel) (by decide +kernel)
theorem IN_Rg : Cond.instantiable "DviBytes$Reading" 12 ∈ xtb := xtb_at 240 (by decide +kernel) (by decide +kernel)
theorem IN_Sh : Cond.instantiable "DviBytes$Sheet" 2 ∈ xtb := xtb_at 129 (by decide +kernel) (by decide +kernel)
theorem IN_Wa : Cond.instantiable "DviBytes$Way" 5 ∈ xtb := xtb_at 163 (by decide +kernel) (by decide +kernel)
theorem IN_Wi : Cond.instantiable "DviBytes$Widths" 1 ∈ xtb := xtb_at 91 (by decide +kernel) (by decide +kernel)
theorem IN_Wr : Cond.instantiable "DviBytes$Writer" 17 ∈ xtb := xtb_at 142 (by decide +kernel) (by decide +kernel)
theorem IN_Dv : Cond.instantiable "DviBytes" 8 ∈ xtb := xtb_at 83 (by decide +kernel) (by decide +kernel)
theorem IN_Mo : Cond.instantiable "DviBytesModel" 53 ∈ xtb := xtb_at 1007 (by decide +kernel) (by decide +kernel)
theorem st_cl {s : State} {args : Array Value} (hts : ∀ w ∈ xtb, w.before args s = true) : ∃ D : va_G, ∀ (c : Nat) (q : vw_C), vwCl[c]? = some q → u_Kn s q.1 q.2.1 q.2.2 (D.1 c) (D.2 c) := by
  have h : ∀ c : Nat, ∃ x : ClassId × (Nat → Nat), ∀ q : vw_C, vwCl[c]? = some q → u_Kn s q.1 q.2.1 q.2.2 x.1 x.2 := by
    intro c
    match c with
    | 0 =>
      obtain ⟨a, b, k⟩ := u_known hts in_By (hts _ IN_By)
      exact ⟨(a, b), fun q hq => by cases hq; exact k⟩
    | 1 =>
      obtain ⟨a, b, k⟩ := u_known hts in_Fo (hts _ IN_Fo)
      exact ⟨(a, b), fun q hq => by cases hq; exact k⟩
    | 2 =>
      obtain ⟨a, b, k⟩ := u_known hts in_Rd (hts _ IN_Rd)
      exact ⟨(a, b), fun q hq => by cases hq; exact k⟩
    | 3 =>
      obtain ⟨a, b, k⟩ := u_known hts in_Rg (hts _ IN_Rg)
      exact ⟨(a, b), fun q hq => by cases hq; exact k⟩
    | 4 =>
      obtain ⟨a, b, k⟩ := u_known hts in_Sh (hts _ IN_Sh)
      exact ⟨(a, b), fun q hq => by cases hq; exact k⟩
    | 5 =>
      obtain ⟨a, b, k⟩ := u_known hts in_Wa (hts _ IN_Wa)
      exact ⟨(a, b), fun q hq => by cases hq; exact k⟩
    | 6 =>
      obtain ⟨a, b, k⟩ := u_known hts in_Wi (hts _ IN_Wi)
      exact ⟨(a, b), fun q hq => by cases hq; exact k⟩
    | 7 =>
      obtain ⟨a, b, k⟩ := u_known hts in_Wr (hts _ IN_Wr)
      exact ⟨(a, b), fun q hq => by cases hq; exact k⟩
    | 8 =>
      obtain ⟨a, b, k⟩ := u_known hts in_Dv (hts _ IN_Dv)
      exact ⟨(a, b), fun q hq => by cases hq; exact k⟩
    | 9 =>
      obtain ⟨a, b, k⟩ := u_known hts in_Mo (hts _ IN_Mo)
      exact ⟨(a, b), fun q hq => by cases hq; exact k⟩
    | n + 10 =>
      refine ⟨(0, fun _ => 0), fun q hq => ?_⟩
      rw [List.getElem?_eq_none (by show 10 ≤ n + 10; omega)] at hq
      cases hq
  exact ⟨(fun c => (Classical.choose (h c)).1, fun c => (Classical.choose (h c)).2), fun c q hq => Classical.choose_spec (h c) q hq⟩
theorem st_ar {ty : FieldType} {s : State} {args : Array Value} (h : (Cond.arrayClass ty).before args s = true) : ∃ c : ClassId, ArrOfT s c ty ∧ s.vm.findClass ("[" ++ ty.toString) = some c := by
  obtain ⟨c, k, comp, h1, h2, h3⟩ := Cond.arrayClass_spec h
  exact ⟨c, fun n z => ⟨fun k h => (by cases h), k, h2, comp, h3⟩, h1⟩
theorem st_K {s : State} {args : Array Value} (hts : ∀ w ∈ xtb, w.before args s = true) : ∃ (D : va_G) (cA : FieldType → ClassId), va_K D vwCl (xT cA) s := by
  obtain ⟨D, hD⟩ := st_cl hts
  obtain ⟨c1, a1, b1⟩ := st_ar (hts _ AC_int)
  obtain ⟨c2, a2, b2⟩ := st_ar (hts _ AC_byte)
  obtain ⟨c3, a3, b3⟩ := st_ar (hts _ AC_boolean)
  obtain ⟨c4, a4, b4⟩ := st_ar (hts _ AC_long)
  refine ⟨D, fun ty => match ty with | .int => c1 | .byte => c2 | .boolean => c3 | .long => c4 | _ => c1, hD, fun k q hq => ?_⟩
  match k, hq with
  | 0, hq => cases hq; exact ⟨a1, b1⟩
  | 1, hq => cases hq; exact ⟨a2, b2⟩
  | 2, hq => cases hq; exact ⟨a3, b3⟩
  | 3, hq => cases hq; exact ⟨a4, b4⟩
  | n + 4, hq =>
    rw [List.getElem?_eq_none (by show 4 ≤ n + 4; omega)] at hq
    cases hq
theorem st_s1 : ∀ q ∈ xstrs, Cond.stringRef q.1 q.2.1 q.2.2 ∈ lw_tbl := by decide +kernel
theorem st_s2 : ∀ q ∈ xstrs, Cond.exactly (.string q.1 q.2.1) "java/lang/String" ∈ flatC (Jvm.Cond.and given_1 narrow_1) := by decide +kernel
theorem st_z1 : ∀ q ∈ xzq, Cond.laysStatic q.1 q.2.1 q.2.2 ∈ lw_tbl ∧ Cond.initialized q.1 ∈ lw_tbl := by decide +kernel
theorem st_z2 : ∀ q ∈ xzq, Cond.isRef (.static q.1 q.2.1 q.2.2) ∈ flatC (Jvm.Cond.and given_1 narrow_1) := by decide +kernel
theorem st_nc : ∀ q ∈ xnc, Cond.not (.castable q.1 q.2) ∈ flatC (Jvm.Cond.and given_1 narrow_1) := by decide +kernel
theorem st_f1 : Cond.laysStatic "DviBytes$Reader" "FAMILIES" "[I" ∈ lw_tbl ∧ Cond.initialized "DviBytes$Reader" ∈ lw_tbl := by decide +kernel
theorem st_f2 : Cond.arrayOf (Term.static "DviBytes$Reader" "FAMILIES" "[I") .int ∈ flatC (Jvm.Cond.and given_1 narrow_1) ∧ Cond.eq (.length (Term.static "DviBytes$Reader" "FAMILIES" "[I")) (.int 11) ∈ flatC (Jvm.Cond.and given_1 narrow_1) := by decide +kernel
theorem st_f3 : ∀ j : Nat, j < 11 → Cond.eq (.elem (Term.static "DviBytes$Reader" "FAMILIES" "[I") (.int (Int32.ofNat j))) (.int (xfam j)) ∈ flatC (Jvm.Cond.and given_1 narrow_1) := by decide +kernel
theorem st_G {s : State} {b L : Nat} {xs : Nat → Int32} (hts : ∀ w ∈ lw_tbl, w.before #[Value.ref b] s = true) (hgv : (Jvm.Cond.and given_1 narrow_1).before #[Value.ref b] s = true) (hX : va_X b L xs s s.heap) (hb : b < s.heap.size) : ∃ ad0 : Nat → Nat, ad0 1000000 = b ∧ xG (some (L, xs)) ad0 (xA ad0 0 s.heap.size) s := by
  have hs := flat_of_before _ hgv
  have hA0 : ∀ a : Nat, a < s.heap.size → ¬ (fun q => s.heap.size ≤ q) a := fun a h1 h2 => absurd h1 (Nat.not_lt.mpr h2)
  obtain ⟨t, e1, e2⟩ := va_Tof (A := fun q => s.heap.size ≤ q) (tm := (Term.static "DviBytes$Reader" "FAMILIES" "[I")) (ty := .int) (N := 11) (f := fun j => .int (xfam j)) (by decide) (hs _ st_f2.1) (va_eqt (hs _ st_f2.2)) (fun j hj => va_eqt (hs _ (st_f3 j hj))) hA0
  have hA : ∀ a : Nat, a < s.heap.size → ¬ xA (fun k => if k = 1000001 then t else b) 0 s.heap.size a := by
    rintro a h1 (⟨k, hk, _⟩ | h2)
    · exact absurd hk (Nat.not_lt_zero _)
    · exact absurd h1 (Nat.not_lt.mpr h2)
  have hAB : ∀ q, xA (fun k => if k = 1000001 then t else b) 0 s.heap.size q → s.heap.size ≤ q := by
    rintro q (⟨k, hk, _⟩ | h2)
    · exact absurd hk (Nat.not_lt_zero _)
    · exact h2
  refine ⟨fun k => if k = 1000001 then t else b, rfl, fun w hw => va_Nw.of (xnest_tab w hw) (hts w (List.mem_filter.mp hw).1), fun q hq => ?_, fun q hq => ?_, fun q hq => va_Zqof (hts _ (st_z1 q hq).1) (hts _ (st_z1 q hq).2) (hs _ (st_z2 q hq)) hA, fun q hq => ?_, fun q hq => va_Nc.of (hs _ (st_nc q hq)), fun w hw => ?_, fun q hq => xls_of (hts _ (st_z1 q hq).1) hA⟩
  · obtain ⟨a, c, cA, kA, q1, -⟩ := Cond.exactly_spec (args := #[Value.ref b]) (first := s) (o := none) (s := s) (idx := []) (t := .string q.1 q.2.1) (cls := "java/lang/String") (hs _ (st_s2 q hq))
    exact ⟨a, vk_R.of (hts _ (st_s1 q hq)) q1⟩
  · cases hq
    exact ⟨hX, hb, hA b hb⟩
  · rcases List.mem_cons.mp hq with rfl | hq
    · exact ⟨va_Zof (hts _ st_f1.1) (hts _ st_f1.2) e1 hA, va_T.narrow e2 hAB, by decide⟩
    · cases hq
  · have h1 := hts w (List.mem_filter.mp hw).1
    have h2 : xisD w = true := (List.mem_filter.mp hw).2
    cases w with
    | declares x => exact va_Nw.of rfl h1
    | castable a b => exact va_Nw.of rfl h1
    | _ => cases h2
