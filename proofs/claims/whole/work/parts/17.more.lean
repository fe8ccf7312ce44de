section XJ
variable {M M' : xM} {sc : xSc} {d d' : Nat × Nat} {pc idx mc' ms' : Nat} {lo : xL} {st as : List Value} {h : List xC} {rc rs rc' rs' : Nat} {P Q : xO → Prop}
theorem xr_ldc {v : Int32} {q9 : Nat} (hd : xd M pc (.ldc idx) 2 q9) (hw : Cond.constant M.1.cls idx v ∈ xtb) (k : xr M sc d q9 lo (.int v :: st) h rc rs Q) : xr M sc d pc lo st h rc rs Q := by
  obtain ⟨hd, rfl⟩ := hd
  intro u9 p l e s m args below meth c mc ms cells slots H locs ls D cA ad ad0 N0 C hl
  exact lv_ldc C.1.1 C.1.2.1 C.1.2.2.2.2.2.1 (C.2.1 _ hw) hd (k u9 C hl)
theorem xr_ldcw {v : Int32} {q9 : Nat} (hd : xd M pc (.ldc_w idx) 3 q9) (hw : Cond.constant M.1.cls idx v ∈ xtb) (k : xr M sc d q9 lo (.int v :: st) h rc rs Q) : xr M sc d pc lo st h rc rs Q := by
  obtain ⟨hd, rfl⟩ := hd
  intro u9 p l e s m args below meth c mc ms cells slots H locs ls D cA ad ad0 N0 C hl
  exact lv_ldcw C.1.1 C.1.2.1 C.1.2.2.2.2.2.1 (C.2.1 _ hw) hd (k u9 C hl)
theorem xr_ldc2 {v : Int64} {q9 : Nat} (hd : xd M pc (.ldc2_w idx) 3 q9) (hw : Cond.constantLong M.1.cls idx v ∈ xtb) (k : xr M sc d q9 lo (.long v :: st) h rc rs Q) : xr M sc d pc lo st h rc rs Q := by
  obtain ⟨hd, rfl⟩ := hd
  intro u9 p l e s m args below meth c mc ms cells slots H locs ls D cA ad ad0 N0 C hl
  exact lv_ldc2 C.1.1 C.1.2.1 C.1.2.2.2.2.2.1 (C.2.1 _ hw) hd (k u9 C hl)
theorem xr_mmax {x y : Int32} {q9 : Nat} (hd : xd M pc (.invokestatic idx) 3 q9) (hw : xwmax M.1.cls idx) (hdd : 1 ≤ d.1 ∧ 21 ≤ d.2) (hcat : (st.map fun v => v.category).sum ≤ 8) (k : xr M sc d q9 lo (.int (if x < y then y else x) :: st) h rc rs Q) : xr M sc d pc lo (.int y :: .int x :: st) h rc rs Q := by
  obtain ⟨hd, rfl⟩ := hd
  intro u9 p l e s m args below meth c mc ms cells slots H locs ls D cA ad ad0 N0 C hl
  have hk := k u9 C hl (below := below)
  obtain ⟨⟨hx, hb, hml, hr, hlo, hown, hnm, htb, hll⟩, hts, hF, hcs, hK, hN, hP, hD, hS⟩ := C
  exact va_mmax hx hb (hml.trans hl.1.symm) hown (hts _ hw.1) (hts _ hw.2.1) (hts _ hw.2.2.1) (hts _ hw.2.2.2) hdd.1 (by rw [xcat]; show _ + 13 ≤ d.2; omega) (by show cells ≤ mc; omega) (by show slots ≤ ms; omega) hd hk
theorem xr_mmin {x y : Int32} {q9 : Nat} (hd : xd M pc (.invokestatic idx) 3 q9) (hw : xwmin M.1.cls idx) (hdd : 1 ≤ d.1 ∧ 21 ≤ d.2) (hcat : (st.map fun v => v.category).sum ≤ 8) (k : xr M sc d q9 lo (.int (if y < x then y else x) :: st) h rc rs Q) : xr M sc d pc lo (.int y :: .int x :: st) h rc rs Q := by
  obtain ⟨hd, rfl⟩ := hd
  intro u9 p l e s m args below meth c mc ms cells slots H locs ls D cA ad ad0 N0 C hl
  have hk := k u9 C hl (below := below)
  obtain ⟨⟨hx, hb, hml, hr, hlo, hown, hnm, htb, hll⟩, hts, hF, hcs, hK, hN, hP, hD, hS⟩ := C
  exact va_mmin hx hb (hml.trans hl.1.symm) hown (hts _ hw.1) (hts _ hw.2.1) (hts _ hw.2.2.1) (hts _ hw.2.2.2) hdd.1 (by rw [xcat]; show _ + 13 ≤ d.2; omega) (by show cells ≤ mc; omega) (by show slots ≤ ms; omega) hd hk
theorem xr_copyi {a0 a1 n0 n1 : Nat} {f g : Nat → Int32} {ty : FieldType} {sp dp n : Int32} {h' : List xC} {q9 : Nat} (hd : xd M pc (.invokestatic idx) 3 q9) (hw : xwcopy M.1.cls idx) (hty : xtok ty) (hprim : refKind ty = false) (ha0 : h[a0]? = some (.inr (ty, n0, .inl f))) (ha1 : h[a1]? = some (.inr (ty, n1, .inl g)))
    (h1 : ¬ sp < 0) (h2 : ¬ dp < 0) (h3 : ¬ n < 0) (h4 : sp.toNatClampNeg + n.toNatClampNeg ≤ n0) (h5 : dp.toNatClampNeg + n.toNatClampNeg ≤ n1) (hfit : ∀ i, i < n.toNatClampNeg → fits ty (.int (f (sp.toNatClampNeg + i))) = true)
    (hdd : 1 ≤ d.1) (hnw : 8 + (nativeFrameWords "java/lang/System" "arraycopy" 5 + 11) ≤ d.2) (hcat : (st.map fun v => v.category).sum ≤ 8) (hh : h.set a1 (.inr (ty, n1, .inl (va_cpy f g sp.toNatClampNeg dp.toNatClampNeg n.toNatClampNeg))) = h')
    (kk : xr M sc d q9 lo st h' rc rs Q) : xr M sc d pc lo (.int n :: .int dp :: .ref a1 :: .int sp :: .ref a0 :: st) h rc rs Q := by
  obtain ⟨hd, rfl⟩ := hd
  intro u9 p l e s m args below meth c mc ms cells slots H locs ls D cA ad ad0 N0 C hl
  subst hh
  obtain ⟨⟨hx, hb, hml, hr, hlo, hown, hnm, htb, hll⟩, hts, hF, hcs, hK, hN, hP, hD, hS⟩ := C
  refine va_copyi hx hb (hml.trans hl.1.symm) hown (hts _ hw.1) (hts _ hw.2.1) (hts _ hw.2.2.1) (hts _ hw.2.2.2) hK hP hD hS a0 a1 (xti ty) (xti ty) (xw_at (cA := cA) (ad := ad) ha0) (xw_at (cA := cA) (ad := ad) ha1) (xt_at hty) (xt_at hty) hprim h1 h2 h3 h4 h5 hfit hdd (by rw [xcat]; show _ ≤ d.2; omega) hd (fun H1 locs1 hP1 hD1 hS1 => ?_)
  have hset : (xw cA ad h).set a1 (ad a1, .inl (cA ty, n1, .inl (va_cpy f g sp.toNatClampNeg dp.toNatClampNeg n.toNatClampNeg))) = xw cA ad (h.set a1 (.inr (ty, n1, .inl (va_cpy f g sp.toNatClampNeg dp.toNatClampNeg n.toNatClampNeg)))) := xw_set (c := (.inr (ty, n1, .inl (va_cpy f g sp.toNatClampNeg dp.toNatClampNeg n.toNatClampNeg))))
  rw [hset] at hP1 hD1
  exact kk u9 ⟨⟨hx, hb, hml, hr, hlo, hown, hnm, htb, hll⟩, hts, hF, hcs, hK, by rw [List.length_set]; exact hN, hP1, hD1, hS1⟩ hl
theorem xr_getsA {C n ds : String} {t N : Nat} {f : Nat → Int32} {q9 : Nat} (hd : xd M pc (.getstatic idx) 3 q9) (hq : (C, n, ds, t, N, f) ∈ xsa) (hlk : Cond.fieldLink M.1.cls idx C n ds ∈ xtb) (k : xr M sc d q9 lo (.ref t :: st) h rc rs Q) : xr M sc d pc lo st h rc rs Q := by
  obtain ⟨hd, rfl⟩ := hd
  intro u9 p l e s m args below meth c mc ms cells slots H locs ls D cA ad ad0 N0 C9 hl
  have hk := k u9 C9 hl (below := below)
  obtain ⟨⟨hx, hb, hml, hr, hlo, hown, hnm, htb, hll⟩, hts, hF, hcs, hK, hN, hP, hD, hS⟩ := C9
  obtain ⟨hZ, hT, ht⟩ := hF.2.2.2.2.1 _ hq
  dsimp only at hZ hT ht
  have e9 : ad t = ad0 t := hN.2.1 _ (Or.inr (Nat.le_trans hN.2.2.2 ht))
  have hk : W p l e (xrm d mc ms) s m args below meth c H locs cells slots (xQ below D cA ad0 N0 Q s mc ms) (F0 m (pc + 3) ls (.ref (ad t) :: st.map (xv ad))) := hk
  rw [e9] at hk
  exact va_gets hx hb hZ hS hown (hts _ hlk) (fun _ h9 => h9) hd hk
theorem xr_tald {C n ds : String} {t N : Nat} {f : Nat → Int32} {i : Int32} {q9 : Nat} (hd : xd M pc (.iaload) 1 q9) (hq : (C, n, ds, t, N, f) ∈ xsa) (hin : vp_in i N) (k : xr M sc d q9 lo (.int (f i.toNatClampNeg) :: st) h rc rs Q) : xr M sc d pc lo (.int i :: .ref t :: st) h rc rs Q := by
  obtain ⟨hd, rfl⟩ := hd
  intro u9 p l e s m args below meth c mc ms cells slots H locs ls D cA ad ad0 N0 C9 hl
  have hk := k u9 C9 hl (below := below)
  obtain ⟨⟨hx, hb, hml, hr, hlo, hown, hnm, htb, hll⟩, hts, hF, hcs, hK, hN, hP, hD, hS⟩ := C9
  obtain ⟨hZ, hT, ht⟩ := hF.2.2.2.2.1 _ hq
  dsimp only at hZ hT ht
  have e9 : ad t = ad0 t := hN.2.1 _ (Or.inr (Nat.le_trans hN.2.2.2 ht))
  show W p l e _ s m args below meth c H locs cells slots _ (F0 m pc ls (.int i :: .ref (ad t) :: st.map (xv ad)))
  rw [e9]
  exact va_ti hx hb hT hS hin rfl hd hk
theorem xr_tlen {C n ds : String} {t N : Nat} {f : Nat → Int32} {v : Int32} {q9 : Nat} (hd : xd M pc (.arraylength) 1 q9) (hq : (C, n, ds, t, N, f) ∈ xsa) (hv : Int32.ofNat N = v) (k : xr M sc d q9 lo (.int v :: st) h rc rs Q) : xr M sc d pc lo (.ref t :: st) h rc rs Q := by
  obtain ⟨hd, rfl⟩ := hd
  intro u9 p l e s m args below meth c mc ms cells slots H locs ls D cA ad ad0 N0 C9 hl
  have hk := k u9 C9 hl (below := below)
  obtain ⟨⟨hx, hb, hml, hr, hlo, hown, hnm, htb, hll⟩, hts, hF, hcs, hK, hN, hP, hD, hS⟩ := C9
  obtain ⟨hZ, hT, ht⟩ := hF.2.2.2.2.1 _ hq
  dsimp only at hZ hT ht
  have e9 : ad t = ad0 t := hN.2.1 _ (Or.inr (Nat.le_trans hN.2.2.2 ht))
  show W p l e _ s m args below meth c H locs cells slots _ (F0 m pc ls (.ref (ad t) :: st.map (xv ad)))
  rw [e9]
  exact va_tlen hx hb hT hS hv hd hk
theorem xr_lret {v : Int64} {q9 : Nat} (hrt : M.2.2.2.1 = some .long) (hd : xd M pc (.lreturn) 1 q9) (hq : Q (.inl (some (.long v)), h)) : xr M sc d pc lo [.long v] h rc rs Q := by
  obtain ⟨hd, rfl⟩ := hd
  intro u9 p l e s m args below meth c mc ms cells slots H locs ls D cA ad ad0 N0 C hl
  obtain ⟨⟨hx, hb, hml, hr, hlo, hown, hnm, htb, hll⟩, hts, hF, hcs, hK, hN, hP, hD, hS⟩ := C
  refine W.widen (k := mc) (n := ms) (by omega) (by omega) ?_
  refine W.mono ?_ (W.lret (Qc := fun _ _ oc t => oc = .returned (some (.long v)) ∧ t.heap = H) (free := xA ad0 N0 s.heap.size) (v := v) hx hb (hr.trans hrt) (fun t ht hW => ⟨rfl, ht⟩) hS.2.2 hd hlo)
  rintro t ⟨oc, h1, h2, ⟨rfl, ht⟩, L, ⟨-, hW, hsm⟩, hL⟩
  exact ⟨_, _, hq, h1, h2, xE_ret (v := some (.long v)) hN.1 hN.2.1 hP hD hS ht hW hsm hL⟩
theorem xr_cV {n b ci q9 : Nat} {fs : List Value} (hM : xm M' d' (.ref b :: as) h mc' ms' P) (hlk : xlV M.1.cls idx M'.1 n) (hcd : xcd M') (hci : ∃ (T : u_T) (N : Nat), vwCl[ci]? = some (M'.1.cls, T, N)) (hd : xd M pc (.invokevirtual idx) 3 q9) (hn : as.length = n) (hb0 : h[b]? = some (.inl (ci, fs)))
    (hdd : d'.1 + 1 ≤ d.1 ∧ M'.2.2.1 + 19 + d'.2 ≤ d.2) (hcat : (st.map fun v => v.category).sum ≤ 8) (hrc : mc' + rc' ≤ rc) (hrs : ms' + rs' ≤ rs) (hl9 : h.length ≤ 1000000)
    (kk : ∀ o, P o → ∃ v h', o = (.inl v, h') ∧ h'.length = h.length ∧ xr M sc d q9 lo (v.toList ++ st) h' rc' rs' Q) : xr M sc d pc lo (as.reverse ++ .ref b :: st) h rc rs Q := by
  refine xr_callVA hM (fun o ho => ?_) hlk hcd hn hd hb0 hci hdd hcat hrc hrs (fun v h' hP => ?_)
  · obtain ⟨v, h', rfl, -, -⟩ := kk o ho
    exact ⟨v, rfl⟩
  · obtain ⟨v2, h2, he, hlen, hk⟩ := kk _ hP
    cases he
    exact ⟨by omega, xw1_same hlen, hk⟩
theorem xr_cS {n q9 : Nat} (hM : xm M' d' as h mc' ms' P) (hlk : xlS M.1.cls idx M'.1 n) (hcd : xcd M') (hd : xd M pc (.invokestatic idx) 3 q9) (hn : as.length = n)
    (hdd : d'.1 + 1 ≤ d.1 ∧ M'.2.2.1 + 19 + d'.2 ≤ d.2) (hcat : (st.map fun v => v.category).sum ≤ 8) (hrc : mc' + rc' ≤ rc) (hrs : ms' + rs' ≤ rs) (hl9 : h.length ≤ 1000000)
    (kk : ∀ o, P o → ∃ v h', o = (.inl v, h') ∧ h'.length = h.length ∧ xr M sc d q9 lo (v.toList ++ st) h' rc' rs' Q) : xr M sc d pc lo (as.reverse ++ st) h rc rs Q := by
  refine xr_callSA hM (fun o ho => ?_) hlk hcd hn hd hdd hcat hrc hrs (fun v h' hP => ?_)
  · obtain ⟨v, h', rfl, -, -⟩ := kk o ho
    exact ⟨v, rfl⟩
  · obtain ⟨v2, h2, he, hlen, hk⟩ := kk _ hP
    cases he
    exact ⟨by omega, xw1_same hlen, hk⟩
end XJ
theorem xm_mono {M : xM} {d : Nat × Nat} {as : List Value} {h : List xC} {mc ms : Nat} {P P' : xO → Prop} (hM : xm M d as h mc ms P) (hp : ∀ o, P o → P' o) : xm M d as h mc ms P' := by
  intro l hl D cA ad0 p e ha hc hk s m args below hf happ hP hK
  obtain ⟨n, oc, h1, h2, h3, o, h4, h5⟩ := hM l hl D cA ad0 p e ha hc hk s m args below hf happ hP hK
  exact ⟨n, oc, h1, h2, h3, o, hp o h4, h5⟩
theorem xr_mono {M : xM} {sc : xSc} {d : Nat × Nat} {pc : Nat} {lo : xL} {st : List Value} {h : List xC} {rc rs : Nat} {Q Q' : xO → Prop} (hk : xr M sc d pc lo st h rc rs Q) (hq : ∀ o, Q o → Q' o) : xr M sc d pc lo st h rc rs Q' := by
  intro u9 p l e s m args below meth c mc ms cells slots H locs ls D cA ad ad0 N0 C hl
  refine W.mono ?_ (hk u9 C hl)
  rintro t ⟨oc, o, h1, h2, h3, h4⟩
  exact ⟨oc, o, hq o h1, h2, h3, h4⟩
theorem xr_lo {M : xM} {sc : xSc} {d : Nat × Nat} {pc : Nat} {lo lo' : xL} {st : List Value} {h : List xC} {rc rs : Nat} {Q : xO → Prop} (hs : ∀ (i : Nat) (v : Value), lo'[i]? = some (some v) → lo[i]? = some (some v)) (hk : xr M sc d pc lo' st h rc rs Q) : xr M sc d pc lo st h rc rs Q := by
  intro u9 p l e s m args below meth c mc ms cells slots H locs ls D cA ad ad0 N0 C hl
  refine hk u9 C ⟨hl.1, hl.2.1, fun q hq => ?_⟩
  obtain ⟨v, h1, h2⟩ := xlv_mem.mp hq
  exact hl.2.2 q (xlv_mem.mpr ⟨v, hs _ _ h1, h2⟩)
theorem xr_room {M : xM} {sc : xSc} {d : Nat × Nat} {pc : Nat} {lo : xL} {st : List Value} {h : List xC} {rc rs rc' rs' : Nat} {Q : xO → Prop} (h1 : rc' ≤ rc) (h2 : rs' ≤ rs) (hk : xr M sc d pc lo st h rc' rs' Q) : xr M sc d pc lo st h rc rs Q := by
  intro u9 p l e s m args below meth c mc ms cells slots H locs ls D cA ad ad0 N0 C hl
  obtain ⟨c1, c2, c3, c4, c5⟩ := C
  exact hk u9 ⟨c1, c2, c3, ⟨by omega, by omega⟩, c5⟩ hl
