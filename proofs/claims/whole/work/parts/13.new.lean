section XNEW
variable {M : xM} {sc : xSc} {d : Nat × Nat} {pc : Nat} {lo : xL} {st : List Value} {h : List xC} {rc rs : Nat} {Q : xO → Prop}
def xwfc (a b : Nat) : xC → Bool
  | .inl q => q.2.all (xwfv a b)
  | .inr _ => true
theorem xwfh_ok {cA : FieldType → ClassId} {b : Nat} {ad ad' : Nat → Nat} (hag : ∀ k, k < h.length ∨ b ≤ k → ad' k = ad k) (hv : h.all (xwfc h.length b) = true) : xw cA ad' h = xw cA ad h := by
  apply List.ext_getElem?
  intro i
  unfold xw
  rw [List.getElem?_mapIdx, List.getElem?_mapIdx]
  cases hc : h[i]? with
  | none => rfl
  | some c =>
    have hi : i < h.length := (List.getElem?_eq_some_iff.mp hc).1
    have h1 := List.all_eq_true.mp hv c (List.mem_of_getElem? hc)
    show some (ad' i, xe cA ad' c) = some (ad i, xe cA ad c)
    rw [hag i (Or.inl hi)]
    cases c with
    | inl q =>
      have h2 : q.2.all (xwfv h.length b) = true := h1
      show some (ad i, Sum.inr (q.1, q.2.map (xv ad'))) = some (ad i, Sum.inr (q.1, q.2.map (xv ad)))
      rw [xwfs_ok hag h2]
    | inr q => rfl
def xad (ad : Nat → Nat) (n q : Nat) : Nat → Nat := fun k => if k = n then q else ad k
theorem xad_ag {ad : Nat → Nat} {n q : Nat} : ∀ k, k < n ∨ n + 1 ≤ k → xad ad n q k = ad k := by
  intro k hk
  unfold xad
  rw [if_neg (by omega)]
theorem xad_self {ad : Nat → Nat} {n q : Nat} : xad ad n q n = q := by unfold xad; rw [if_pos rfl]
theorem xgrow {p : Program} {l : Launch} {e : Env} {s : State} {m : MethodId} {args : Array Value} {below : List Frame} {meth : Method} {c : Code} {mc ms cells slots : Nat} {H H1 : Heap} {locs : List Loc} {ls : Array Slot} {D : va_G} {cA : FieldType → ClassId} {ad ad0 : Nat → Nat} {N0 n rc' rs' len q : Nat} {cl : xC}
    (C : xC0 M sc rc rs h p l e s m args meth c mc ms cells slots H locs D cA ad ad0 N0) (hl : xhas ls M.2.2.1 ad lo) (hrc : 1 + rc' ≤ rc) (hrs : n + rs' ≤ rs) (hlen : h.length + 1 ≤ 1000000)
    (hwh : h.all (xwfc h.length (h.length + 1)) = true) (hws : st.all (xwfv h.length (h.length + 1)) = true) (hwl : lo.all (fun q => match q with | none => true | some v => xwfv h.length (h.length + 1) v) = true)
    (hcl : ∀ ad' : Nat → Nat, xe cA ad' cl = xe cA ad cl)
    (hP : va_P D vwCl (xw cA ad h ++ [(q, xe cA ad cl)]) H1) (hD : va_D (xA ad0 N0 s.heap.size) (xw cA ad h ++ [(q, xe cA ad cl)])) (hS : va_S (xA ad0 N0 s.heap.size) s.heap H1 locs)
    (kk : xr M sc d (pc + len) lo (.ref h.length :: st) (h ++ [cl]) rc' rs' Q) : W p l e (xrm d mc ms) s m args below meth c H1 locs (cells + 1) (slots + n) (xQ below D cA ad0 N0 Q s mc ms) (F0 m (pc + len) ls (.ref q :: st.map (xv ad))) := by
  obtain ⟨⟨hx, hb, hml, hr, hlo, hown, hnm, htb, hll⟩, hts, hF, hcs, hK, ⟨hN, hag, hpl, hln⟩, -, -, -⟩ := C
  have hag' : ∀ k, k < h.length ∨ h.length + 1 ≤ k → xad ad h.length q k = ad k := xad_ag
  have e1 : xw cA (xad ad h.length q) (h ++ [cl]) = xw cA ad h ++ [(q, xe cA ad cl)] := by
    rw [xw_app, xwfh_ok hag' hwh, xad_self, hcl]
  have hl' : xhas ls M.2.2.1 (xad ad h.length q) lo := by unfold xhas; rw [xwfl_ok hag' hwl]; exact hl
  have hlen2 : (h ++ [cl]).length = h.length + 1 := by rw [List.length_append]; rfl
  have C' : xC0 M sc rc' rs' (h ++ [cl]) p l e s m args meth c mc ms (cells + 1) (slots + n) H1 locs D cA (xad ad h.length q) ad0 N0 :=
    ⟨⟨hx, hb, hml, hr, hlo, hown, hnm, htb, hll⟩, hts, hF, ⟨by omega, by omega⟩, hK, ⟨by omega, fun k hk => (hag' k (by omega)).trans (hag k (by omega)), hpl, by omega⟩, by rw [e1]; exact hP, by rw [e1]; exact hD, hS⟩
  have K := kk () C' hl' (below := below)
  have e2 : (Value.ref h.length :: st).map (xv (xad ad h.length q)) = .ref q :: st.map (xv ad) := by
    show Value.ref (xad ad h.length q h.length) :: st.map (xv (xad ad h.length q)) = _
    rw [xad_self, xwfs_ok hag' hws]
  rw [e2] at K
  exact K
def xnw (own : String) (idx ci : Nat) (fs : List Value) : Prop := ∃ (C : String) (T : u_T) (N : Nat) (ty : Nat → FieldType), vwCl[ci]? = some (C, T, N) ∧ fs.length = N ∧ (∀ w ∈ u_ws C T N, w ∈ xtb) ∧ (∀ k, k < N → parseFieldDescriptor (T k).2.2.1 = some (ty k)) ∧ Cond.classLink own idx C ∈ xtb ∧ Cond.instantiable C N ∈ xtb ∧ Cond.initialized C ∈ xtb ∧ (∀ j, j < N → defaultValue (ty j) = vp_V fs j) ∧ fs.all (fun v => match v with | .ref _ => false | _ => true) = true
theorem xr_new {idx ci rc' rs' : Nat} {fs : List Value} (hw : xnw M.1.cls idx ci fs) {q9 : Nat} (hd : xd M pc (.new idx) 3 q9) (hrc : 1 + rc' ≤ rc) (hrs : fs.length + rs' ≤ rs) (hlen : h.length + 1 ≤ 1000000)
    (hwh : h.all (xwfc h.length (h.length + 1)) = true) (hws : st.all (xwfv h.length (h.length + 1)) = true) (hwl : lo.all (fun q => match q with | none => true | some v => xwfv h.length (h.length + 1) v) = true)
    (kk : xr M sc d q9 lo (.ref h.length :: st) (h ++ [.inl (ci, fs)]) rc' rs' Q) : xr M sc d pc lo st h rc rs Q := by
  obtain ⟨hd, rfl⟩ := hd
  intro u9 p l e s m args below meth c mc ms cells slots H locs ls D cA ad ad0 N0 C hl
  have C9 := C
  obtain ⟨⟨hx, hb, hml, hr, hlo, hown, hnm, htb, hll⟩, hts, hF, hcs, hK, ⟨hN, hag, hpl, hln⟩, hP, hD, hS⟩ := C
  obtain ⟨C1, T, N, ty, hc, rfl, hin, hty, hw1, hw2, hw3, hfs, hnr⟩ := hw
  have hfm : ∀ ad' : Nat → Nat, fs.map (xv ad') = fs := by
    intro ad'
    have : fs.map (xv ad') = fs.map id := List.map_congr_left fun v hv => by
      have h1 := List.all_eq_true.mp hnr v hv
      cases v with
      | ref k => cases h1
      | _ => rfl
    rw [this, List.map_id]
  refine va_new (D := D) (ci := ci) (fs := fs) (C := C1) (T := T) (N := fs.length) hx hb hts hin ty hty hown (hts _ hw1) (hts _ hw2) (hts _ hw3) hK hP hD hS (fun q hq => Or.inr hq) hc hfs (by show cells + 1 ≤ mc; omega) (by show slots + fs.length ≤ ms; omega) hd (fun q H1 hP1 hD1 hS1 => ?_)
  have e1 : ∀ ad' : Nat → Nat, xe cA ad' (.inl (ci, fs)) = .inr (ci, fs) := fun ad' => by
    show Sum.inr (ci, fs.map (xv ad')) = _
    rw [hfm]
  exact xgrow (cl := .inl (ci, fs)) C9 hl hrc hrs hlen hwh hws hwl (fun ad' => (e1 ad').trans (e1 ad).symm) (by rw [e1]; exact hP1) (by rw [e1]; exact hD1) hS1 kk
theorem xr_newa {at9 : ArrayType} {ty : FieldType} {n : Int32} {N rc' rs' : Nat} {a0 : vp_A} {q9 : Nat} (hd : xd M pc (.newarray at9) 2 q9) (hty : newarray.typeOf at9 = ty) (htk : xtok ty) (hw : Cond.arrayClass ty ∈ xtb) (ha : ∀ c9 : ClassId, vp_cell c9 a0 = arrV c9 N (fun _ => defaultValue ty)) (hn : ¬ n < 0) (hN0 : n.toNatClampNeg = N) (hby : N * componentBytes ty ≤ 536870912) (hrc : 1 + rc' ≤ rc) (hrs : N + rs' ≤ rs) (hlen : h.length + 1 ≤ 1000000)
    (hwh : h.all (xwfc h.length (h.length + 1)) = true) (hws : st.all (xwfv h.length (h.length + 1)) = true) (hwl : lo.all (fun q => match q with | none => true | some v => xwfv h.length (h.length + 1) v) = true)
    (kk : xr M sc d q9 lo (.ref h.length :: st) (h ++ [.inr (ty, a0)]) rc' rs' Q) : xr M sc d pc lo (.int n :: st) h rc rs Q := by
  obtain ⟨hd, rfl⟩ := hd
  intro u9 p l e s m args below meth c mc ms cells slots H locs ls D cA ad ad0 N0 C hl
  have C9 := C
  obtain ⟨⟨hx, hb, hml, hr, hlo, hown, hnm, htb, hll⟩, hts, hF, hcs, hK, ⟨hN, hag, hpl, hln⟩, hP, hD, hS⟩ := C
  refine va_newa (D := D) (a0 := a0) (ty := ty) (N' := N) hx hb (by rw [hty]; exact hts _ hw) hty hK hP hD hS (fun q hq => Or.inr hq) ha hn hN0 hby (by show cells + 1 ≤ mc; omega) (by show slots + N ≤ ms; omega) hd (fun q c9 H1 hK1 hP1 hD1 hS1 => ?_)
  have hc9 : c9 = cA ty := by
    have h1 := (hK1.2 4 (c9, ty) rfl).2
    have h2 := (hK.2 (xti ty) _ (xt_at htk)).2
    rcases htk with rfl | rfl | rfl | rfl
    · exact Option.some.inj ((va_nm_int h1).symm.trans (va_nm_int h2))
    · exact Option.some.inj ((va_nm_byte h1).symm.trans (va_nm_byte h2))
    · exact Option.some.inj ((va_nm_boolean h1).symm.trans (va_nm_boolean h2))
    · exact Option.some.inj ((va_nm_long h1).symm.trans (va_nm_long h2))
  subst hc9
  exact xgrow (cl := .inr (ty, a0)) C9 hl hrc hrs hlen hwh hws hwl (fun _ => rfl) hP1 hD1 hS1 kk
theorem xr_objInit {idx a : Nat} {q9 : Nat} (hd : xd M pc (.invokespecial idx) 3 q9) (hw1 : Cond.methodLink M.1.cls idx objectInit ∈ xtb) (hw2 : Cond.instanceMethod objectInit ∈ xtb) (hw3 : Cond.code objectInit ⟨#[0xb1]⟩ 1 none ∈ xtb) (hdd : 1 ≤ d.1 ∧ 20 ≤ d.2) (hcat : (st.map fun v => v.category).sum ≤ 8)
    (kk : xr M sc d q9 lo st h rc rs Q) : xr M sc d pc lo (.ref a :: st) h rc rs Q := by
  obtain ⟨hd, rfl⟩ := hd
  intro u9 p l e s m args below meth c mc ms cells slots H locs ls D cA ad ad0 N0 C hl
  have hk2 := kk u9 C hl (below := below)
  obtain ⟨⟨hx, hb, hml, hr, hlo, hown, hnm, htb, hll⟩, hts, hF, hcs, hK, ⟨hN, hag, hpl, hln⟩, hP, hD, hS⟩ := C
  refine W.objInit hx hb hown (hts _ hw1) (hts _ hw2) (hts _ hw3) rfl (by rw [hml]; exact hl.1) rfl hd hdd.1 ?_ ?_
  · show 2 * 0 + ((st.map (xv ad)).map fun v => v.category).sum + (1 + 11) ≤ d.2
    rw [xcat]; omega
  · exact hk2
end XNEW
