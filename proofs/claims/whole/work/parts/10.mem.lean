theorem xv_narrow {ad : Nat → Nat} {ty : FieldType} {v : Value} (h : narrow ty v = v) : narrow ty (xv ad v) = xv ad v := by
  cases v with
  | ref k => cases ty <;> rfl
  | _ => exact h
theorem xv_fits {ad : Nat → Nat} {ty : FieldType} {v : Value} (h : fits ty v = true) : fits ty (xv ad v) = true := by
  cases v with
  | ref k => cases ty <;> first | rfl | exact h
  | _ => exact h
section XH
variable {M : xM} {sc : xSc} {d : Nat × Nat} {pc : Nat} {lo : xL} {st : List Value} {h : List xC} {rc rs : Nat} {Q : xO → Prop}
theorem xr_getf {idx ci k a : Nat} {fs : List Value} {v : Value} (hf : xfl M.1.cls idx ci k) {q9 : Nat} (hd : xd M pc (.getfield idx) 3 q9) (ha : h[a]? = some (.inl (ci, fs))) (hv : fs[k]? = some v)
    (kk : xr M sc d q9 lo (v :: st) h rc rs Q) : xr M sc d pc lo (.ref a :: st) h rc rs Q := by
  obtain ⟨hd, rfl⟩ := hd
  intro u9 p l e s m args below meth c mc ms cells slots H locs ls D cA ad ad0 N0 C hl
  obtain ⟨C1, T, N, hc, hk, hin, hlk⟩ := hf
  have hk2 := kk u9 C hl (below := below)
  obtain ⟨⟨hx, hb, hml, hr, hlo, hown, hnm, htb, hll⟩, hts, hF, hcs, hK, hN, hP, hD, hS⟩ := C
  have hat := xw_at (cA := cA) (ad := ad) ha
  have hv2 : (fs.map (xv ad))[k]? = some (xv ad v) := by rw [List.getElem?_map, hv]; rfl
  rcases hlk with hlk | ⟨host, hlk⟩
  · exact va_get (D := D) (ci := ci) (v := xv ad v) (C := C1) (T := T) (N := N) hx hb hts hin hown hK hP a hat hc k hk (hts _ hlk) (fun _ h9 => h9) hv2 hd hk2
  · exact va_getN (D := D) (ci := ci) (v := xv ad v) (C := C1) (T := T) (N := N) hx hb hts hin hown hK hP a hat hc k hk (va_Nw.use rfl (hF.1 _ hlk)) (fun _ h9 => h9) hv2 hd hk2
theorem xr_putf {idx ci k a : Nat} {fs : List Value} {v : Value} {h' : List xC} {ty0 : Nat → FieldType} (hf : xfl M.1.cls idx ci k) (hty : xft ci ty0) (hfin : xfin ci k false) {q9 : Nat} (hd : xd M pc (.putfield idx) 3 q9) (ha : h[a]? = some (.inl (ci, fs))) (hl0 : k < fs.length)
    (hn : narrow (ty0 k) v = v) (hfit : fits (ty0 k) v = true) (hh : h.set a (.inl (ci, fs.set k v)) = h')
    (kk : xr M sc d q9 lo st h' rc rs Q) : xr M sc d pc lo (v :: .ref a :: st) h rc rs Q := by
  obtain ⟨hd, rfl⟩ := hd
  intro u9 p l e s m args below meth c mc ms cells slots H locs ls D cA ad ad0 N0 C hl
  subst hh
  obtain ⟨C1, T, N, hc, hk, hin, hlk⟩ := hf
  obtain ⟨C2, T2, N2, hc2, ht1, ht2⟩ := hty
  cases Option.some.inj (hc.symm.trans hc2)
  obtain ⟨C3, T3, N3, hc3, ht3, -⟩ := hfin
  cases Option.some.inj (hc.symm.trans hc3)
  obtain ⟨⟨hx, hb, hml, hr, hlo, hown, hnm, htb, hll⟩, hts, hF, hcs, hK, hN, hP, hD, hS⟩ := C
  have hat := xw_at (cA := cA) (ad := ad) ha
  have hset : (xw cA ad h).set a (ad a, .inr (ci, (fs.map (xv ad)).set k (xv ad v))) = xw cA ad (h.set a (.inl (ci, fs.set k v))) := by
    rw [← xw_set]
    show _ = (xw cA ad h).set a (ad a, .inr (ci, (fs.set k v).map (xv ad)))
    rw [List.map_set]
  have key : ∀ (H1 : Heap) (locs1 : List Loc), va_P D vwCl ((xw cA ad h).set a (ad a, .inr (ci, (fs.map (xv ad)).set k (xv ad v)))) H1 → va_D (xA ad0 N0 s.heap.size) ((xw cA ad h).set a (ad a, .inr (ci, (fs.map (xv ad)).set k (xv ad v)))) → va_S (xA ad0 N0 s.heap.size) s.heap H1 locs1 → W p l e (xrm d mc ms) s m args below meth c H1 locs1 cells slots (xQ below D cA ad0 N0 Q s mc ms) (F0 m (pc + 3) ls (st.map (xv ad))) := by
    intro H1 locs1 hP1 hD1 hS1
    rw [hset] at hP1 hD1
    exact kk u9 ⟨⟨hx, hb, hml, hr, hlo, hown, hnm, htb, hll⟩, hts, hF, hcs, hK, by rw [List.length_set]; exact hN, hP1, hD1, hS1⟩ hl
  have hlen : k < (fs.map (xv ad)).length := by rw [List.length_map]; exact hl0
  rcases hlk with hlk | ⟨host, hlk⟩
  · exact va_put (D := D) (ci := ci) (v := xv ad v) (C := C1) (T := T) (N := N) hx hb hts hin ty0 ht1 ht2 hown hK hP hD hS a hat hc k hk (hts _ hlk) (fun _ h9 => h9) ht3 (ht1 k hk) (xv_narrow hn) (xv_fits hfit) hlen hd key
  · exact va_putN (D := D) (ci := ci) (v := xv ad v) (C := C1) (T := T) (N := N) hx hb hts hin ty0 ht1 ht2 hown hK hP hD hS a hat hc k hk (va_Nw.use rfl (hF.1 _ hlk)) (fun _ h9 => h9) ht3 (ht1 k hk) (xv_narrow hn) (xv_fits hfit) hlen hd key
theorem xr_putF {idx ci k a : Nat} {fs : List Value} {v : Value} {h' : List xC} {ty0 : Nat → FieldType} (hf : xfl M.1.cls idx ci k) (hty : xft ci ty0) (hfin : xfin ci k true) (hcl : ∃ (T : u_T) (N : Nat), vwCl[ci]? = some (M.1.cls, T, N)) (hnn : M.1.name = "<init>") (hlf : ∃ (C : String) (T : u_T) (N : Nat), vwCl[ci]? = some (C, T, N) ∧ Cond.fieldLink M.1.cls idx (T k).1 (T k).2.1 (T k).2.2.1 ∈ xtb) {q9 : Nat} (hd : xd M pc (.putfield idx) 3 q9) (ha : h[a]? = some (.inl (ci, fs))) (hl0 : k < fs.length)
    (hn : narrow (ty0 k) v = v) (hfit : fits (ty0 k) v = true) (hh : h.set a (.inl (ci, fs.set k v)) = h')
    (kk : xr M sc d q9 lo st h' rc rs Q) : xr M sc d pc lo (v :: .ref a :: st) h rc rs Q := by
  obtain ⟨hd, rfl⟩ := hd
  intro u9 p l e s m args below meth c mc ms cells slots H locs ls D cA ad ad0 N0 C hl
  subst hh
  obtain ⟨C1, T, N, hc, hk, hin, -⟩ := hf
  obtain ⟨C2, T2, N2, hc2, ht1, ht2⟩ := hty
  cases Option.some.inj (hc.symm.trans hc2)
  obtain ⟨C3, T3, N3, hc3, ht3, ht4⟩ := hfin
  cases Option.some.inj (hc.symm.trans hc3)
  obtain ⟨T4, N4, hc4⟩ := hcl
  obtain ⟨C5, T5, N5, hc5, hlk⟩ := hlf
  cases Option.some.inj (hc.symm.trans hc5)
  have hC1 : C1 = M.1.cls := congrArg Prod.fst (Option.some.inj (hc.symm.trans hc4))
  obtain ⟨⟨hx, hb, hml, hr, hlo, hown, hnm, htb, hll⟩, hts, hF, hcs, hK, hN, hP, hD, hS⟩ := C
  have hat := xw_at (cA := cA) (ad := ad) ha
  have hset : (xw cA ad h).set a (ad a, .inr (ci, (fs.map (xv ad)).set k (xv ad v))) = xw cA ad (h.set a (.inl (ci, fs.set k v))) := by
    rw [← xw_set]
    show _ = (xw cA ad h).set a (ad a, .inr (ci, (fs.set k v).map (xv ad)))
    rw [List.map_set]
  have key : ∀ (H1 : Heap) (locs1 : List Loc), va_P D vwCl ((xw cA ad h).set a (ad a, .inr (ci, (fs.map (xv ad)).set k (xv ad v)))) H1 → va_D (xA ad0 N0 s.heap.size) ((xw cA ad h).set a (ad a, .inr (ci, (fs.map (xv ad)).set k (xv ad v)))) → va_S (xA ad0 N0 s.heap.size) s.heap H1 locs1 → W p l e (xrm d mc ms) s m args below meth c H1 locs1 cells slots (xQ below D cA ad0 N0 Q s mc ms) (F0 m (pc + 3) ls (st.map (xv ad))) := by
    intro H1 locs1 hP1 hD1 hS1
    rw [hset] at hP1 hD1
    exact kk u9 ⟨⟨hx, hb, hml, hr, hlo, hown, hnm, htb, hll⟩, hts, hF, hcs, hK, by rw [List.length_set]; exact hN, hP1, hD1, hS1⟩ hl
  have hlen : k < (fs.map (xv ad)).length := by rw [List.length_map]; exact hl0
  exact va_putF (D := D) (ci := ci) (v := xv ad v) (C := C1) (T := T) (N := N) hx hb hts hin ty0 ht1 ht2 hown hK hP hD hS a hat hc k hk (hts _ hlk) (fun _ h9 => h9) ht3 (hnm.trans hnn) (ht4.trans hC1) (ht1 k hk) (xv_narrow hn) (xv_fits hfit) hlen hd key
def xti (ty : FieldType) : Nat := match ty with
  | .int => 0
  | .byte => 1
  | .boolean => 2
  | _ => 3
def xtok (ty : FieldType) : Prop := ty = .int ∨ ty = .byte ∨ ty = .boolean ∨ ty = .long
theorem xt_at {cA : FieldType → ClassId} {ty : FieldType} (h : xtok ty) : (xT cA)[xti ty]? = some (cA ty, ty) := by
  rcases h with rfl | rfl | rfl | rfl <;> rfl
theorem xr_iald {a n : Nat} {f : Nat → Int32} {i : Int32} {q9 : Nat} (hd : xd M pc (.iaload) 1 q9) (ha : h[a]? = some (.inr (.int, n, .inl f))) (hin : vp_in i n)
    (kk : xr M sc d q9 lo (.int (f i.toNatClampNeg) :: st) h rc rs Q) : xr M sc d pc lo (.int i :: .ref a :: st) h rc rs Q := by
  obtain ⟨hd, rfl⟩ := hd
  intro u9 p l e s m args below meth c mc ms cells slots H locs ls D cA ad ad0 N0 C hl
  have hk2 := kk u9 C hl (below := below)
  obtain ⟨⟨hx, hb, hml, hr, hlo, hown, hnm, htb, hll⟩, hts, hF, hcs, hK, hN, hP, hD, hS⟩ := C
  exact va_iald hx hb hK hP a (xti .int) (xw_at (cA := cA) (ad := ad) ha) rfl hin hd hk2
theorem xr_bald {a n : Nat} {f : Nat → Int32} {i : Int32} {q9 : Nat} (hd : xd M pc (.baload) 1 q9) (ha : h[a]? = some (.inr (.byte, n, .inl f))) (hin : vp_in i n)
    (kk : xr M sc d q9 lo (.int (f i.toNatClampNeg) :: st) h rc rs Q) : xr M sc d pc lo (.int i :: .ref a :: st) h rc rs Q := by
  obtain ⟨hd, rfl⟩ := hd
  intro u9 p l e s m args below meth c mc ms cells slots H locs ls D cA ad ad0 N0 C hl
  have hk2 := kk u9 C hl (below := below)
  obtain ⟨⟨hx, hb, hml, hr, hlo, hown, hnm, htb, hll⟩, hts, hF, hcs, hK, hN, hP, hD, hS⟩ := C
  exact va_bald hx hb hK hP a (xti .byte) (xw_at (cA := cA) (ad := ad) ha) rfl hin hd hk2
theorem xr_zald {a n : Nat} {f : Nat → Int32} {i : Int32} {q9 : Nat} (hd : xd M pc (.baload) 1 q9) (ha : h[a]? = some (.inr (.boolean, n, .inl f))) (hin : vp_in i n)
    (kk : xr M sc d q9 lo (.int (f i.toNatClampNeg) :: st) h rc rs Q) : xr M sc d pc lo (.int i :: .ref a :: st) h rc rs Q := by
  obtain ⟨hd, rfl⟩ := hd
  intro u9 p l e s m args below meth c mc ms cells slots H locs ls D cA ad ad0 N0 C hl
  have hk2 := kk u9 C hl (below := below)
  obtain ⟨⟨hx, hb, hml, hr, hlo, hown, hnm, htb, hll⟩, hts, hF, hcs, hK, hN, hP, hD, hS⟩ := C
  exact va_zald hx hb hK hP a (xti .boolean) (xw_at (cA := cA) (ad := ad) ha) rfl hin hd hk2
theorem xr_lald {a n : Nat} {f : Nat → Int64} {i : Int32} {q9 : Nat} (hd : xd M pc (.laload) 1 q9) (ha : h[a]? = some (.inr (.long, n, .inr (.inl f)))) (hin : vp_in i n)
    (kk : xr M sc d q9 lo (.long (f i.toNatClampNeg) :: st) h rc rs Q) : xr M sc d pc lo (.int i :: .ref a :: st) h rc rs Q := by
  obtain ⟨hd, rfl⟩ := hd
  intro u9 p l e s m args below meth c mc ms cells slots H locs ls D cA ad ad0 N0 C hl
  have hk2 := kk u9 C hl (below := below)
  obtain ⟨⟨hx, hb, hml, hr, hlo, hown, hnm, htb, hll⟩, hts, hF, hcs, hK, hN, hP, hD, hS⟩ := C
  exact va_lald hx hb hK hP a (xti .long) (xw_at (cA := cA) (ad := ad) ha) rfl hin hd hk2
theorem xr_iast {a n : Nat} {f : Nat → Int32} {i : Int32} {x : Int32} {h' : List xC} {q9 : Nat} (hd : xd M pc (.iastore) 1 q9) (ha : h[a]? = some (.inr (.int, n, .inl f))) (hin : vp_in i n) (hh : h.set a (.inr (.int, n, .inl (upd f i.toNatClampNeg x))) = h')
    (kk : xr M sc d q9 lo st h' rc rs Q) : xr M sc d pc lo (.int x :: .int i :: .ref a :: st) h rc rs Q := by
  obtain ⟨hd, rfl⟩ := hd
  intro u9 p l e s m args below meth c mc ms cells slots H locs ls D cA ad ad0 N0 C hl
  subst hh
  obtain ⟨⟨hx, hb, hml, hr, hlo, hown, hnm, htb, hll⟩, hts, hF, hcs, hK, hN, hP, hD, hS⟩ := C
  refine va_iast hx hb hK hP hD hS a (xti .int) (xw_at (cA := cA) (ad := ad) ha) rfl hin hd (fun H1 locs1 hP1 hD1 hS1 => ?_)
  have hset : (xw cA ad h).set a (ad a, .inl (cA .int, n, .inl (upd f i.toNatClampNeg x))) = xw cA ad (h.set a (.inr (.int, n, .inl (upd f i.toNatClampNeg x)))) := xw_set (c := (.inr (.int, n, .inl (upd f i.toNatClampNeg x))))
  rw [hset] at hP1 hD1
  exact kk u9 ⟨⟨hx, hb, hml, hr, hlo, hown, hnm, htb, hll⟩, hts, hF, hcs, hK, by rw [List.length_set]; exact hN, hP1, hD1, hS1⟩ hl
theorem xr_bast {a n : Nat} {f : Nat → Int32} {i : Int32} {x : Int32} {h' : List xC} {q9 : Nat} (hd : xd M pc (.bastore) 1 q9) (ha : h[a]? = some (.inr (.byte, n, .inl f))) (hin : vp_in i n) (hh : h.set a (.inr (.byte, n, .inl (upd f i.toNatClampNeg (vp_nar .byte x)))) = h')
    (kk : xr M sc d q9 lo st h' rc rs Q) : xr M sc d pc lo (.int x :: .int i :: .ref a :: st) h rc rs Q := by
  obtain ⟨hd, rfl⟩ := hd
  intro u9 p l e s m args below meth c mc ms cells slots H locs ls D cA ad ad0 N0 C hl
  subst hh
  obtain ⟨⟨hx, hb, hml, hr, hlo, hown, hnm, htb, hll⟩, hts, hF, hcs, hK, hN, hP, hD, hS⟩ := C
  refine va_bast hx hb hK hP hD hS a (xti .byte) (xw_at (cA := cA) (ad := ad) ha) rfl hin hd (fun H1 locs1 hP1 hD1 hS1 => ?_)
  have hset : (xw cA ad h).set a (ad a, .inl (cA .byte, n, .inl (upd f i.toNatClampNeg (vp_nar .byte x)))) = xw cA ad (h.set a (.inr (.byte, n, .inl (upd f i.toNatClampNeg (vp_nar .byte x))))) := xw_set (c := (.inr (.byte, n, .inl (upd f i.toNatClampNeg (vp_nar .byte x)))))
  rw [hset] at hP1 hD1
  exact kk u9 ⟨⟨hx, hb, hml, hr, hlo, hown, hnm, htb, hll⟩, hts, hF, hcs, hK, by rw [List.length_set]; exact hN, hP1, hD1, hS1⟩ hl
theorem xr_zast {a n : Nat} {f : Nat → Int32} {i : Int32} {x : Int32} {h' : List xC} {q9 : Nat} (hd : xd M pc (.bastore) 1 q9) (ha : h[a]? = some (.inr (.boolean, n, .inl f))) (hin : vp_in i n) (hh : h.set a (.inr (.boolean, n, .inl (upd f i.toNatClampNeg (vp_nar .boolean x)))) = h')
    (kk : xr M sc d q9 lo st h' rc rs Q) : xr M sc d pc lo (.int x :: .int i :: .ref a :: st) h rc rs Q := by
  obtain ⟨hd, rfl⟩ := hd
  intro u9 p l e s m args below meth c mc ms cells slots H locs ls D cA ad ad0 N0 C hl
  subst hh
  obtain ⟨⟨hx, hb, hml, hr, hlo, hown, hnm, htb, hll⟩, hts, hF, hcs, hK, hN, hP, hD, hS⟩ := C
  refine va_zast hx hb hK hP hD hS a (xti .boolean) (xw_at (cA := cA) (ad := ad) ha) rfl hin hd (fun H1 locs1 hP1 hD1 hS1 => ?_)
  have hset : (xw cA ad h).set a (ad a, .inl (cA .boolean, n, .inl (upd f i.toNatClampNeg (vp_nar .boolean x)))) = xw cA ad (h.set a (.inr (.boolean, n, .inl (upd f i.toNatClampNeg (vp_nar .boolean x))))) := xw_set (c := (.inr (.boolean, n, .inl (upd f i.toNatClampNeg (vp_nar .boolean x)))))
  rw [hset] at hP1 hD1
  exact kk u9 ⟨⟨hx, hb, hml, hr, hlo, hown, hnm, htb, hll⟩, hts, hF, hcs, hK, by rw [List.length_set]; exact hN, hP1, hD1, hS1⟩ hl
theorem xr_last {a n : Nat} {f : Nat → Int64} {i : Int32} {x : Int64} {h' : List xC} {q9 : Nat} (hd : xd M pc (.lastore) 1 q9) (ha : h[a]? = some (.inr (.long, n, .inr (.inl f)))) (hin : vp_in i n) (hh : h.set a (.inr (.long, n, .inr (.inl (vp_updL f i.toNatClampNeg x)))) = h')
    (kk : xr M sc d q9 lo st h' rc rs Q) : xr M sc d pc lo (.long x :: .int i :: .ref a :: st) h rc rs Q := by
  obtain ⟨hd, rfl⟩ := hd
  intro u9 p l e s m args below meth c mc ms cells slots H locs ls D cA ad ad0 N0 C hl
  subst hh
  obtain ⟨⟨hx, hb, hml, hr, hlo, hown, hnm, htb, hll⟩, hts, hF, hcs, hK, hN, hP, hD, hS⟩ := C
  refine va_last hx hb hK hP hD hS a (xti .long) (xw_at (cA := cA) (ad := ad) ha) rfl hin hd (fun H1 locs1 hP1 hD1 hS1 => ?_)
  have hset : (xw cA ad h).set a (ad a, .inl (cA .long, n, .inr (.inl (vp_updL f i.toNatClampNeg x)))) = xw cA ad (h.set a (.inr (.long, n, .inr (.inl (vp_updL f i.toNatClampNeg x))))) := xw_set (c := (.inr (.long, n, .inr (.inl (vp_updL f i.toNatClampNeg x)))))
  rw [hset] at hP1 hD1
  exact kk u9 ⟨⟨hx, hb, hml, hr, hlo, hown, hnm, htb, hll⟩, hts, hF, hcs, hK, by rw [List.length_set]; exact hN, hP1, hD1, hS1⟩ hl
theorem xr_alen {a : Nat} {ty : FieldType} {x : vp_A} {v : Int32} {q9 : Nat} (hd : xd M pc (.arraylength) 1 q9) (ha : h[a]? = some (.inr (ty, x))) (hty : xtok ty) (hv : Int32.ofNat x.1 = v)
    (kk : xr M sc d q9 lo (.int v :: st) h rc rs Q) : xr M sc d pc lo (.ref a :: st) h rc rs Q := by
  obtain ⟨hd, rfl⟩ := hd
  intro u9 p l e s m args below meth c mc ms cells slots H locs ls D cA ad ad0 N0 C hl
  have hk2 := kk u9 C hl (below := below)
  obtain ⟨⟨hx, hb, hml, hr, hlo, hown, hnm, htb, hll⟩, hts, hF, hcs, hK, hN, hP, hD, hS⟩ := C
  exact va_alen hx hb hK hP a (xti ty) (xw_at (cA := cA) (ad := ad) ha) (xt_at hty) hv hd hk2
theorem xr_sld {n : Nat} {f : Nat → Int32} {i : Int32} {q9 : Nat} (hd : xd M pc (.iaload) 1 q9) (hsc : sc = some (n, f)) (hin : vp_in i n)
    (kk : xr M sc d q9 lo (.int (f i.toNatClampNeg) :: st) h rc rs Q) : xr M sc d pc lo (.int i :: .ref 1000000 :: st) h rc rs Q := by
  obtain ⟨hd, rfl⟩ := hd
  intro u9 p l e s m args below meth c mc ms cells slots H locs ls D cA ad ad0 N0 C hl
  have hk2 := kk u9 C hl (below := below)
  obtain ⟨⟨hx, hb, hml, hr, hlo, hown, hnm, htb, hll⟩, hts, hF, hcs, hK, hN, hP, hD, hS⟩ := C
  obtain ⟨hX, hbl, hbA⟩ := hF.2.2.1 _ hsc
  have e9 : ad 1000000 = ad0 1000000 := hN.2.1 _ (Or.inr hN.2.2.2)
  show W p l e _ s m args below meth c H locs cells slots _ (F0 m pc ls (.int i :: .ref (ad 1000000) :: st.map (xv ad)))
  rw [e9]
  exact va_sld hx hb hX hbl hbA hS hin hd hk2
theorem xr_slen {n : Nat} {f : Nat → Int32} {q9 : Nat} (hd : xd M pc (.arraylength) 1 q9) (hsc : sc = some (n, f))
    (kk : xr M sc d q9 lo (.int (Int32.ofNat n) :: st) h rc rs Q) : xr M sc d pc lo (.ref 1000000 :: st) h rc rs Q := by
  obtain ⟨hd, rfl⟩ := hd
  intro u9 p l e s m args below meth c mc ms cells slots H locs ls D cA ad ad0 N0 C hl
  have hk2 := kk u9 C hl (below := below)
  obtain ⟨⟨hx, hb, hml, hr, hlo, hown, hnm, htb, hll⟩, hts, hF, hcs, hK, hN, hP, hD, hS⟩ := C
  obtain ⟨hX, hbl, hbA⟩ := hF.2.2.1 _ hsc
  have e9 : ad 1000000 = ad0 1000000 := hN.2.1 _ (Or.inr hN.2.2.2)
  show W p l e _ s m args below meth c H locs cells slots _ (F0 m pc ls (.ref (ad 1000000) :: st.map (xv ad)))
  rw [e9]
  exact va_slen hx hb hX hbl hbA hS hd hk2
end XH
