def xC0 (M : xM) (sc : xSc) (rc rs : Nat) (h : List xC) (p : Program) (l : Launch) (e : Env) (s : State) (m : MethodId) (args : Array Value) (meth : Method) (c : Code) (mc ms cells slots : Nat) (H : Heap) (locs : List Loc) (D : va_G) (cA : FieldType → ClassId) (ad ad0 : Nat → Nat) (N0 : Nat) : Prop :=
  (p.tables.exec = Jvm.exec ∧ c.code = M.2.1 ∧ c.maxLocals = M.2.2.1 ∧ meth.sig.returnType = M.2.2.2.1 ∧ meth.locks = false ∧ s.vm.findClass M.1.cls = some m.cls ∧ meth.name = M.1.name ∧ c.exceptionTable.toList.map (fun h => (h.startPc, h.endPc, h.handlerPc, h.catchType)) = M.2.2.2.2 ∧ xl l) ∧
  (∀ w ∈ xtb, w.before args s = true) ∧ xG sc ad0 (xA ad0 N0 s.heap.size) s ∧
  (cells + rc ≤ mc ∧ slots + rs ≤ ms) ∧ va_K D vwCl (xT cA) s ∧
  (N0 ≤ h.length ∧ (∀ k, k < N0 ∨ h.length ≤ k → ad k = ad0 k) ∧ (∀ k, k < N0 → ∀ ce, s.heap[ad0 k]? = some ce → ce.vm.isStatics = false) ∧ h.length ≤ 1000000) ∧
  va_P D vwCl (xw cA ad h) H ∧ va_D (xA ad0 N0 s.heap.size) (xw cA ad h) ∧ va_S (xA ad0 N0 s.heap.size) s.heap H locs
def xrm (d : Nat × Nat) (mc ms : Nat) : Room := { frames := d.1, cells := mc, slots := ms, locals := d.2 }
def xE (D : va_G) (cA : FieldType → ClassId) (ad0 : Nat → Nat) (N0 : Nat) (o : xO) (s : State) (mc ms : Nat) (oc : Outcome) (t : State) : Prop :=
  (∃ L : List Loc, s.WarmedH t.vm ∧ s.sameButNew ({ t with vm := s.vm } : State) L mc ms ∧ ∀ q ∈ L, xA ad0 N0 s.heap.size q.base) ∧
  N0 ≤ o.2.length ∧ va_F (xA ad0 N0 s.heap.size) s t ∧
  ∃ ad' : Nat → Nat, (∀ k, k < N0 ∨ o.2.length ≤ k → ad' k = ad0 k) ∧ va_P D vwCl (xw cA ad' o.2) t.heap ∧ va_D (xA ad0 N0 s.heap.size) (xw cA ad' o.2) ∧
    match o.1 with
    | .inl v => oc = .returned (v.map (xv ad'))
    | .inr E => ∃ (q : Addr) (ce : Cell), oc = .threw q ∧ t.heap[q]? = some ce ∧ ce.vm = .none ∧ s.vm.findClass E = some ce.cls
def xQ (below : List Frame) (D : va_G) (cA : FieldType → ClassId) (ad0 : Nat → Nat) (N0 : Nat) (Q : xO → Prop) (s : State) (mc ms : Nat) : State → Prop := fun t => ∃ (oc : Outcome) (o : xO), Q o ∧ t.status = .running ∧ Ended t below oc ∧ xE D cA ad0 N0 o s mc ms oc t
def xr (M : xM) (sc : xSc) (d : Nat × Nat) (pc : Nat) (lo : xL) (st : List Value) (h : List xC) (rc rs : Nat) (Q : xO → Prop) : Prop :=
  ∀ (_ : Unit) {p : Program} {l : Launch} {e : Env} {s : State} {m : MethodId} {args : Array Value} {below : List Frame} {meth : Method} {c : Code} {mc ms cells slots : Nat} {H : Heap} {locs : List Loc} {ls : Array Slot} {D : va_G} {cA : FieldType → ClassId} {ad ad0 : Nat → Nat} {N0 : Nat},
    xC0 M sc rc rs h p l e s m args meth c mc ms cells slots H locs D cA ad ad0 N0 → xhas ls M.2.2.1 ad lo →
    W p l e (xrm d mc ms) s m args below meth c H locs cells slots (xQ below D cA ad0 N0 Q s mc ms) (F0 m pc ls (st.map (xv ad)))
theorem W.mono {p : Program} {l : Launch} {e : Env} {R : Room} {s : State} {m : MethodId} {args : Array Value} {below : List Frame} {meth : Method} {c : Code} {H : Heap} {locs : List Loc} {cells slots : Nat} {Q Q' : State → Prop} {g : JFrame} (h : ∀ t, Q t → Q' t) (k : W p l e R s m args below meth c H locs cells slots Q g) : W p l e R s m args below meth c H locs cells slots Q' g := by
  intro T hT X
  obtain ⟨t, a, b⟩ := k T hT X
  exact ⟨t, a, h t b⟩
section XR
variable {M : xM} {sc : xSc} {d : Nat × Nat} {pc : Nat} {lo : xL} {st : List Value} {h : List xC} {rc rs : Nat} {Q : xO → Prop}
theorem xr_iadd {x y : Int32} {q9 : Nat} (hd : xd M pc (.iadd) 1 q9) (k : xr M sc d q9 lo (.int (x + y) :: st) h rc rs Q) : xr M sc d pc lo (.int y :: .int x :: st) h rc rs Q := by
  obtain ⟨hd, rfl⟩ := hd
  intro u9 p l e s m args below meth c mc ms cells slots H locs ls D cA ad ad0 N0 C hl
  exact lv_iadd C.1.1 C.1.2.1 hd (k u9 C hl)
theorem xr_isub {x y : Int32} {q9 : Nat} (hd : xd M pc (.isub) 1 q9) (k : xr M sc d q9 lo (.int (x - y) :: st) h rc rs Q) : xr M sc d pc lo (.int y :: .int x :: st) h rc rs Q := by
  obtain ⟨hd, rfl⟩ := hd
  intro u9 p l e s m args below meth c mc ms cells slots H locs ls D cA ad ad0 N0 C hl
  exact lv_isub C.1.1 C.1.2.1 hd (k u9 C hl)
theorem xr_imul {x y : Int32} {q9 : Nat} (hd : xd M pc (.imul) 1 q9) (k : xr M sc d q9 lo (.int (x * y) :: st) h rc rs Q) : xr M sc d pc lo (.int y :: .int x :: st) h rc rs Q := by
  obtain ⟨hd, rfl⟩ := hd
  intro u9 p l e s m args below meth c mc ms cells slots H locs ls D cA ad ad0 N0 C hl
  exact lv_imul C.1.1 C.1.2.1 hd (k u9 C hl)
theorem xr_iand {x y : Int32} {q9 : Nat} (hd : xd M pc (.iand) 1 q9) (k : xr M sc d q9 lo (.int (x &&& y) :: st) h rc rs Q) : xr M sc d pc lo (.int y :: .int x :: st) h rc rs Q := by
  obtain ⟨hd, rfl⟩ := hd
  intro u9 p l e s m args below meth c mc ms cells slots H locs ls D cA ad ad0 N0 C hl
  exact lv_iand C.1.1 C.1.2.1 hd (k u9 C hl)
theorem xr_ior {x y : Int32} {q9 : Nat} (hd : xd M pc (.ior) 1 q9) (k : xr M sc d q9 lo (.int (x ||| y) :: st) h rc rs Q) : xr M sc d pc lo (.int y :: .int x :: st) h rc rs Q := by
  obtain ⟨hd, rfl⟩ := hd
  intro u9 p l e s m args below meth c mc ms cells slots H locs ls D cA ad ad0 N0 C hl
  exact lv_ior C.1.1 C.1.2.1 hd (k u9 C hl)
theorem xr_ixor {x y : Int32} {q9 : Nat} (hd : xd M pc (.ixor) 1 q9) (k : xr M sc d q9 lo (.int (x ^^^ y) :: st) h rc rs Q) : xr M sc d pc lo (.int y :: .int x :: st) h rc rs Q := by
  obtain ⟨hd, rfl⟩ := hd
  intro u9 p l e s m args below meth c mc ms cells slots H locs ls D cA ad ad0 N0 C hl
  exact lv_ixor C.1.1 C.1.2.1 hd (k u9 C hl)
theorem xr_ishl {x y : Int32} {q9 : Nat} (hd : xd M pc (.ishl) 1 q9) (k : xr M sc d q9 lo (.int (x <<< (y &&& 31)) :: st) h rc rs Q) : xr M sc d pc lo (.int y :: .int x :: st) h rc rs Q := by
  obtain ⟨hd, rfl⟩ := hd
  intro u9 p l e s m args below meth c mc ms cells slots H locs ls D cA ad ad0 N0 C hl
  exact lv_ishl C.1.1 C.1.2.1 hd (k u9 C hl)
theorem xr_ishr {x y : Int32} {q9 : Nat} (hd : xd M pc (.ishr) 1 q9) (k : xr M sc d q9 lo (.int (x >>> (y &&& 31)) :: st) h rc rs Q) : xr M sc d pc lo (.int y :: .int x :: st) h rc rs Q := by
  obtain ⟨hd, rfl⟩ := hd
  intro u9 p l e s m args below meth c mc ms cells slots H locs ls D cA ad ad0 N0 C hl
  exact lv_ishr C.1.1 C.1.2.1 hd (k u9 C hl)
theorem xr_idiv {x y : Int32} {q9 : Nat} (hd : xd M pc (.idiv) 1 q9) (hne : ¬ y = 0) (k : xr M sc d q9 lo (.int (x / y) :: st) h rc rs Q) : xr M sc d pc lo (.int y :: .int x :: st) h rc rs Q := by
  obtain ⟨hd, rfl⟩ := hd
  intro u9 p l e s m args below meth c mc ms cells slots H locs ls D cA ad ad0 N0 C hl
  exact lv_idiv C.1.1 C.1.2.1 hd hne (k u9 C hl)
theorem xr_irem {x y : Int32} {q9 : Nat} (hd : xd M pc (.irem) 1 q9) (hne : ¬ y = 0) (k : xr M sc d q9 lo (.int (x - x / y * y) :: st) h rc rs Q) : xr M sc d pc lo (.int y :: .int x :: st) h rc rs Q := by
  obtain ⟨hd, rfl⟩ := hd
  intro u9 p l e s m args below meth c mc ms cells slots H locs ls D cA ad ad0 N0 C hl
  exact lv_irem C.1.1 C.1.2.1 hd hne (k u9 C hl)
theorem xr_iushr {x y : Int32} {q9 : Nat} (hd : xd M pc (.iushr) 1 q9) (k : xr M sc d q9 lo (.int ((x.toUInt32 >>> (y.toUInt32 &&& Int32.toUInt32 31)).toInt32) :: st) h rc rs Q) : xr M sc d pc lo (.int y :: .int x :: st) h rc rs Q := by
  obtain ⟨hd, rfl⟩ := hd
  intro u9 p l e s m args below meth c mc ms cells slots H locs ls D cA ad ad0 N0 C hl
  exact lv_iushr C.1.1 C.1.2.1 hd rfl (k u9 C hl)
theorem xr_ineg {x : Int32} {q9 : Nat} (hd : xd M pc (.ineg) 1 q9) (k : xr M sc d q9 lo (.int (-x) :: st) h rc rs Q) : xr M sc d pc lo (.int x :: st) h rc rs Q := by
  obtain ⟨hd, rfl⟩ := hd
  intro u9 p l e s m args below meth c mc ms cells slots H locs ls D cA ad ad0 N0 C hl
  exact lv_ineg C.1.1 C.1.2.1 hd (k u9 C hl)
theorem xr_ladd {x y : Int64} {q9 : Nat} (hd : xd M pc (.ladd) 1 q9) (k : xr M sc d q9 lo (.long (x + y) :: st) h rc rs Q) : xr M sc d pc lo (.long y :: .long x :: st) h rc rs Q := by
  obtain ⟨hd, rfl⟩ := hd
  intro u9 p l e s m args below meth c mc ms cells slots H locs ls D cA ad ad0 N0 C hl
  exact lv_ladd C.1.1 C.1.2.1 hd (k u9 C hl)
theorem xr_lsub {x y : Int64} {q9 : Nat} (hd : xd M pc (.lsub) 1 q9) (k : xr M sc d q9 lo (.long (x - y) :: st) h rc rs Q) : xr M sc d pc lo (.long y :: .long x :: st) h rc rs Q := by
  obtain ⟨hd, rfl⟩ := hd
  intro u9 p l e s m args below meth c mc ms cells slots H locs ls D cA ad ad0 N0 C hl
  exact lv_lsub C.1.1 C.1.2.1 hd (k u9 C hl)
theorem xr_lmul {x y : Int64} {q9 : Nat} (hd : xd M pc (.lmul) 1 q9) (k : xr M sc d q9 lo (.long (x * y) :: st) h rc rs Q) : xr M sc d pc lo (.long y :: .long x :: st) h rc rs Q := by
  obtain ⟨hd, rfl⟩ := hd
  intro u9 p l e s m args below meth c mc ms cells slots H locs ls D cA ad ad0 N0 C hl
  exact lv_lmul C.1.1 C.1.2.1 hd (k u9 C hl)
theorem xr_land {x y : Int64} {q9 : Nat} (hd : xd M pc (.land) 1 q9) (k : xr M sc d q9 lo (.long (x &&& y) :: st) h rc rs Q) : xr M sc d pc lo (.long y :: .long x :: st) h rc rs Q := by
  obtain ⟨hd, rfl⟩ := hd
  intro u9 p l e s m args below meth c mc ms cells slots H locs ls D cA ad ad0 N0 C hl
  exact lv_land C.1.1 C.1.2.1 hd (k u9 C hl)
theorem xr_lor {x y : Int64} {q9 : Nat} (hd : xd M pc (.lor) 1 q9) (k : xr M sc d q9 lo (.long (x ||| y) :: st) h rc rs Q) : xr M sc d pc lo (.long y :: .long x :: st) h rc rs Q := by
  obtain ⟨hd, rfl⟩ := hd
  intro u9 p l e s m args below meth c mc ms cells slots H locs ls D cA ad ad0 N0 C hl
  exact lv_lor C.1.1 C.1.2.1 hd (k u9 C hl)
theorem xr_lxor {x y : Int64} {q9 : Nat} (hd : xd M pc (.lxor) 1 q9) (k : xr M sc d q9 lo (.long (x ^^^ y) :: st) h rc rs Q) : xr M sc d pc lo (.long y :: .long x :: st) h rc rs Q := by
  obtain ⟨hd, rfl⟩ := hd
  intro u9 p l e s m args below meth c mc ms cells slots H locs ls D cA ad ad0 N0 C hl
  exact lv_lxor C.1.1 C.1.2.1 hd (k u9 C hl)
theorem xr_lushr {x : Int64} {y : Int32} {q9 : Nat} (hd : xd M pc (.lushr) 1 q9) (k : xr M sc d q9 lo (.long ((x.toUInt64 >>> (y.toInt64.toUInt64 &&& Int64.toUInt64 63)).toInt64) :: st) h rc rs Q) : xr M sc d pc lo (.int y :: .long x :: st) h rc rs Q := by
  obtain ⟨hd, rfl⟩ := hd
  intro u9 p l e s m args below meth c mc ms cells slots H locs ls D cA ad ad0 N0 C hl
  exact lv_lushr C.1.1 C.1.2.1 hd rfl (k u9 C hl)
theorem xr_lshl {x : Int64} {y : Int32} {q9 : Nat} (hd : xd M pc (.lshl) 1 q9) (k : xr M sc d q9 lo (.long (x <<< (y.toInt64 &&& 63)) :: st) h rc rs Q) : xr M sc d pc lo (.int y :: .long x :: st) h rc rs Q := by
  obtain ⟨hd, rfl⟩ := hd
  intro u9 p l e s m args below meth c mc ms cells slots H locs ls D cA ad ad0 N0 C hl
  exact lv_lshl C.1.1 C.1.2.1 hd rfl (k u9 C hl)
theorem xr_lshr {x : Int64} {y : Int32} {q9 : Nat} (hd : xd M pc (.lshr) 1 q9) (k : xr M sc d q9 lo (.long (x >>> (y.toInt64 &&& 63)) :: st) h rc rs Q) : xr M sc d pc lo (.int y :: .long x :: st) h rc rs Q := by
  obtain ⟨hd, rfl⟩ := hd
  intro u9 p l e s m args below meth c mc ms cells slots H locs ls D cA ad ad0 N0 C hl
  exact lv_lshr C.1.1 C.1.2.1 hd rfl (k u9 C hl)
theorem xr_i2l {x : Int32} {q9 : Nat} (hd : xd M pc (.i2l) 1 q9) (k : xr M sc d q9 lo (.long x.toInt64 :: st) h rc rs Q) : xr M sc d pc lo (.int x :: st) h rc rs Q := by
  obtain ⟨hd, rfl⟩ := hd
  intro u9 p l e s m args below meth c mc ms cells slots H locs ls D cA ad ad0 N0 C hl
  exact lv_i2l C.1.1 C.1.2.1 hd rfl (k u9 C hl)
theorem xr_l2i {x : Int64} {q9 : Nat} (hd : xd M pc (.l2i) 1 q9) (k : xr M sc d q9 lo (.int x.toInt32 :: st) h rc rs Q) : xr M sc d pc lo (.long x :: st) h rc rs Q := by
  obtain ⟨hd, rfl⟩ := hd
  intro u9 p l e s m args below meth c mc ms cells slots H locs ls D cA ad ad0 N0 C hl
  exact lv_l2i C.1.1 C.1.2.1 hd rfl (k u9 C hl)
theorem xr_i2b {x : Int32} {q9 : Nat} (hd : xd M pc (.i2b) 1 q9) (k : xr M sc d q9 lo (.int x.toInt8.toInt32 :: st) h rc rs Q) : xr M sc d pc lo (.int x :: st) h rc rs Q := by
  obtain ⟨hd, rfl⟩ := hd
  intro u9 p l e s m args below meth c mc ms cells slots H locs ls D cA ad ad0 N0 C hl
  exact lv_i2b C.1.1 C.1.2.1 hd rfl (k u9 C hl)
theorem xr_lcmp {x y : Int64} {q9 : Nat} (hd : xd M pc (.lcmp) 1 q9) (k : xr M sc d q9 lo (.int (lg_cmp x y) :: st) h rc rs Q) : xr M sc d pc lo (.long y :: .long x :: st) h rc rs Q := by
  obtain ⟨hd, rfl⟩ := hd
  intro u9 p l e s m args below meth c mc ms cells slots H locs ls D cA ad ad0 N0 C hl
  exact W.lcmp C.1.1 C.1.2.1 hd (k u9 C hl)
theorem xr_iconst {n : Int} {v : Int32} {q9 : Nat} (hd : xd M pc (.iconst n) 1 q9) (hv : Int32.ofInt n = v) (k : xr M sc d q9 lo (.int v :: st) h rc rs Q) : xr M sc d pc lo (st) h rc rs Q := by
  obtain ⟨hd, rfl⟩ := hd
  intro u9 p l e s m args below meth c mc ms cells slots H locs ls D cA ad ad0 N0 C hl
  exact lv_iconst C.1.1 C.1.2.1 hd hv (k u9 C hl)
theorem xr_bipush {n : Int} {v : Int32} {q9 : Nat} (hd : xd M pc (.bipush n) 2 q9) (hv : (Int8.ofInt n).toInt32 = v) (k : xr M sc d q9 lo (.int v :: st) h rc rs Q) : xr M sc d pc lo (st) h rc rs Q := by
  obtain ⟨hd, rfl⟩ := hd
  intro u9 p l e s m args below meth c mc ms cells slots H locs ls D cA ad ad0 N0 C hl
  exact lv_bipush C.1.1 C.1.2.1 hd hv (k u9 C hl)
theorem xr_sipush {n : Int} {v : Int32} {q9 : Nat} (hd : xd M pc (.sipush n) 3 q9) (hv : (Int16.ofInt n).toInt32 = v) (k : xr M sc d q9 lo (.int v :: st) h rc rs Q) : xr M sc d pc lo (st) h rc rs Q := by
  obtain ⟨hd, rfl⟩ := hd
  intro u9 p l e s m args below meth c mc ms cells slots H locs ls D cA ad ad0 N0 C hl
  exact lv_sipush C.1.1 C.1.2.1 hd hv (k u9 C hl)
theorem xr_lconst {n : Fin 2} {v : Int64} {q9 : Nat} (hd : xd M pc (.lconst n) 1 q9) (hv : Int64.ofNat (n : Nat) = v) (k : xr M sc d q9 lo (.long v :: st) h rc rs Q) : xr M sc d pc lo (st) h rc rs Q := by
  obtain ⟨hd, rfl⟩ := hd
  intro u9 p l e s m args below meth c mc ms cells slots H locs ls D cA ad ad0 N0 C hl
  exact lv_lconst C.1.1 C.1.2.1 hd hv (k u9 C hl)
theorem xr_null {q9 : Nat} (hd : xd M pc (.aconst_null) 1 q9) (k : xr M sc d q9 lo (.null :: st) h rc rs Q) : xr M sc d pc lo (st) h rc rs Q := by
  obtain ⟨hd, rfl⟩ := hd
  intro u9 p l e s m args below meth c mc ms cells slots H locs ls D cA ad ad0 N0 C hl
  exact lv_null C.1.1 C.1.2.1 hd (k u9 C hl)
theorem xr_iload {i : Nat} {x : Int32} {q9 : Nat} (hd : xd M pc (.iload i) 2 q9) (hl0 : lo[i]? = some (some (.int x))) (k : xr M sc d q9 lo (.int x :: st) h rc rs Q) : xr M sc d pc lo (st) h rc rs Q := by
  obtain ⟨hd, rfl⟩ := hd
  intro u9 p l e s m args below meth c mc ms cells slots H locs ls D cA ad ad0 N0 C hl
  exact lv_iload C.1.1 C.1.2.1 hd (xhas_at hl hl0) (k u9 C hl)
theorem xr_iload_n {k9 : Fin 4} {i : Nat} {x : Int32} {q9 : Nat} (hd : xd M pc (.iload_n k9) 1 q9) (hi : (k9 : Nat) = i) (hl0 : lo[i]? = some (some (.int x))) (k : xr M sc d q9 lo (.int x :: st) h rc rs Q) : xr M sc d pc lo (st) h rc rs Q := by
  obtain ⟨hd, rfl⟩ := hd
  intro u9 p l e s m args below meth c mc ms cells slots H locs ls D cA ad ad0 N0 C hl
  exact lv_iload_n C.1.1 C.1.2.1 hd hi (xhas_at hl hl0) (k u9 C hl)
theorem xr_lload {i : Nat} {x : Int64} {q9 : Nat} (hd : xd M pc (.lload i) 2 q9) (hl0 : lo[i]? = some (some (.long x))) (k : xr M sc d q9 lo (.long x :: st) h rc rs Q) : xr M sc d pc lo (st) h rc rs Q := by
  obtain ⟨hd, rfl⟩ := hd
  intro u9 p l e s m args below meth c mc ms cells slots H locs ls D cA ad ad0 N0 C hl
  exact lv_lload C.1.1 C.1.2.1 hd (xhas_at hl hl0) (k u9 C hl)
theorem xr_lload_n {k9 : Fin 4} {i : Nat} {x : Int64} {q9 : Nat} (hd : xd M pc (.lload_n k9) 1 q9) (hi : (k9 : Nat) = i) (hl0 : lo[i]? = some (some (.long x))) (k : xr M sc d q9 lo (.long x :: st) h rc rs Q) : xr M sc d pc lo (st) h rc rs Q := by
  obtain ⟨hd, rfl⟩ := hd
  intro u9 p l e s m args below meth c mc ms cells slots H locs ls D cA ad ad0 N0 C hl
  exact lv_lload_n C.1.1 C.1.2.1 hd hi (xhas_at hl hl0) (k u9 C hl)
theorem xr_aload {i : Nat} {x : Nat} {q9 : Nat} (hd : xd M pc (.aload i) 2 q9) (hl0 : lo[i]? = some (some (.ref x))) (k : xr M sc d q9 lo (.ref x :: st) h rc rs Q) : xr M sc d pc lo (st) h rc rs Q := by
  obtain ⟨hd, rfl⟩ := hd
  intro u9 p l e s m args below meth c mc ms cells slots H locs ls D cA ad ad0 N0 C hl
  exact lv_aload C.1.1 C.1.2.1 hd (xhas_at hl hl0) (k u9 C hl)
theorem xr_aload_n {k9 : Fin 4} {i : Nat} {x : Nat} {q9 : Nat} (hd : xd M pc (.aload_n k9) 1 q9) (hi : (k9 : Nat) = i) (hl0 : lo[i]? = some (some (.ref x))) (k : xr M sc d q9 lo (.ref x :: st) h rc rs Q) : xr M sc d pc lo (st) h rc rs Q := by
  obtain ⟨hd, rfl⟩ := hd
  intro u9 p l e s m args below meth c mc ms cells slots H locs ls D cA ad ad0 N0 C hl
  exact lv_aload_n C.1.1 C.1.2.1 hd hi (xhas_at hl hl0) (k u9 C hl)
theorem xr_istore {i : Nat} {x : Int32} {q9 : Nat} (hd : xd M pc (.istore i) 2 q9) (hn : i < M.2.2.1) (k : xr M sc d q9 (xst lo i (.int x)) st h rc rs Q) : xr M sc d pc lo (.int x :: st) h rc rs Q := by
  obtain ⟨hd, rfl⟩ := hd
  intro u9 p l e s m args below meth c mc ms cells slots H locs ls D cA ad ad0 N0 C hl
  exact lv_istore C.1.1 C.1.2.1 hd hl hn rfl (fun ls' hl' => k u9 C (xhas_st hl'))
theorem xr_istore_n {k9 : Fin 4} {i : Nat} {x : Int32} {q9 : Nat} (hd : xd M pc (.istore_n k9) 1 q9) (hi : (k9 : Nat) = i) (hn : i < M.2.2.1) (k : xr M sc d q9 (xst lo i (.int x)) st h rc rs Q) : xr M sc d pc lo (.int x :: st) h rc rs Q := by
  obtain ⟨hd, rfl⟩ := hd
  intro u9 p l e s m args below meth c mc ms cells slots H locs ls D cA ad ad0 N0 C hl
  exact lv_istore_n C.1.1 C.1.2.1 hd hi hl hn rfl (fun ls' hl' => k u9 C (xhas_st hl'))
theorem xr_astore {i : Nat} {x : Nat} {q9 : Nat} (hd : xd M pc (.astore i) 2 q9) (hn : i < M.2.2.1) (k : xr M sc d q9 (xst lo i (.ref x)) st h rc rs Q) : xr M sc d pc lo (.ref x :: st) h rc rs Q := by
  obtain ⟨hd, rfl⟩ := hd
  intro u9 p l e s m args below meth c mc ms cells slots H locs ls D cA ad ad0 N0 C hl
  exact lv_astore C.1.1 C.1.2.1 hd hl hn rfl (fun ls' hl' => k u9 C (xhas_st hl'))
theorem xr_astore_n {k9 : Fin 4} {i : Nat} {x : Nat} {q9 : Nat} (hd : xd M pc (.astore_n k9) 1 q9) (hi : (k9 : Nat) = i) (hn : i < M.2.2.1) (k : xr M sc d q9 (xst lo i (.ref x)) st h rc rs Q) : xr M sc d pc lo (.ref x :: st) h rc rs Q := by
  obtain ⟨hd, rfl⟩ := hd
  intro u9 p l e s m args below meth c mc ms cells slots H locs ls D cA ad ad0 N0 C hl
  exact lv_astore_n C.1.1 C.1.2.1 hd hi hl hn rfl (fun ls' hl' => k u9 C (xhas_st hl'))
theorem xr_lstore {i : Nat} {x : Int64} {q9 : Nat} (hd : xd M pc (.lstore i) 2 q9) (hn : i + 1 < M.2.2.1) (k : xr M sc d q9 (xst2 lo i (.long x)) st h rc rs Q) : xr M sc d pc lo (.long x :: st) h rc rs Q := by
  obtain ⟨hd, rfl⟩ := hd
  intro u9 p l e s m args below meth c mc ms cells slots H locs ls D cA ad ad0 N0 C hl
  exact lv_lstore C.1.1 C.1.2.1 hd hl hn rfl (fun ls' hl' => k u9 C (xhas_st2 hl'))
theorem xr_lstore_n {k9 : Fin 4} {i : Nat} {x : Int64} {q9 : Nat} (hd : xd M pc (.lstore_n k9) 1 q9) (hi : (k9 : Nat) = i) (hn : i + 1 < M.2.2.1) (k : xr M sc d q9 (xst2 lo i (.long x)) st h rc rs Q) : xr M sc d pc lo (.long x :: st) h rc rs Q := by
  obtain ⟨hd, rfl⟩ := hd
  intro u9 p l e s m args below meth c mc ms cells slots H locs ls D cA ad ad0 N0 C hl
  exact lv_lstore_n C.1.1 C.1.2.1 hd hi hl hn rfl (fun ls' hl' => k u9 C (xhas_st2 hl'))
theorem xlv_idx {ad : Nat → Nat} {lo : xL} {i : Nat} {v : Value} (h : lo[i]? = some (some v)) : ∃ k : Nat, (xlv ad lo)[k]? = some (i, xv ad v) := List.mem_iff_getElem?.mp (xlv_mem.mpr ⟨v, h, rfl⟩)
theorem xr_iinc {i : Nat} {n : Int} {x c9 : Int32} {q9 : Nat} (hd : xd M pc (.iinc i n) 3 q9) (hc : Int32.ofInt n = c9) (hl0 : lo[i]? = some (some (.int x))) (hn : i < M.2.2.1) (k : xr M sc d q9 (xst lo i (.int (x + c9))) st h rc rs Q) : xr M sc d pc lo st h rc rs Q := by
  obtain ⟨hd, rfl⟩ := hd
  subst hc
  intro u9 p l e s m args below meth c mc ms cells slots H locs ls D cA ad ad0 N0 C hl
  obtain ⟨k9, hk9⟩ := xlv_idx (ad := ad) hl0
  exact lv_iinc C.1.1 C.1.2.1 hd hl hk9 rfl hn rfl (fun ls' hl' => k u9 C (xhas_st (v := .int (x + Int32.ofInt n)) hl'))
theorem xr_dup {v : Value} {q9 : Nat} (hd : xd M pc (.dup) 1 q9) (hv : v.category = 1) (k : xr M sc d q9 lo (v :: v :: st) h rc rs Q) : xr M sc d pc lo (v :: st) h rc rs Q := by
  obtain ⟨hd, rfl⟩ := hd
  intro u9 p l e s m args below meth c mc ms cells slots H locs ls D cA ad ad0 N0 C hl
  exact lv_dup C.1.1 C.1.2.1 hd ((xv_cat ad v).trans hv) (k u9 C hl)
theorem xr_dup2_11 {v w : Value} {q9 : Nat} (hd : xd M pc (.dup2) 1 q9) (hv : v.category = 1) (hw : w.category = 1) (k : xr M sc d q9 lo (v :: w :: v :: w :: st) h rc rs Q) : xr M sc d pc lo (v :: w :: st) h rc rs Q := by
  obtain ⟨hd, rfl⟩ := hd
  intro u9 p l e s m args below meth c mc ms cells slots H locs ls D cA ad ad0 N0 C hl
  exact lv_dup2_11 C.1.1 C.1.2.1 hd ((xv_cat ad v).trans hv) ((xv_cat ad w).trans hw) (k u9 C hl)
theorem xr_dup_x1 {v w : Value} {q9 : Nat} (hd : xd M pc (.dup_x1) 1 q9) (hv : v.category = 1) (hw : w.category = 1) (k : xr M sc d q9 lo (v :: w :: v :: st) h rc rs Q) : xr M sc d pc lo (v :: w :: st) h rc rs Q := by
  obtain ⟨hd, rfl⟩ := hd
  intro u9 p l e s m args below meth c mc ms cells slots H locs ls D cA ad ad0 N0 C hl
  exact lv_dup_x1 C.1.1 C.1.2.1 hd ((xv_cat ad v).trans hv) ((xv_cat ad w).trans hw) (k u9 C hl)
theorem xr_dup_x2 {v w z : Value} {q9 : Nat} (hd : xd M pc (.dup_x2) 1 q9) (hv : v.category = 1) (hw : w.category = 1) (hz : z.category = 1) (k : xr M sc d q9 lo (v :: w :: z :: v :: st) h rc rs Q) : xr M sc d pc lo (v :: w :: z :: st) h rc rs Q := by
  obtain ⟨hd, rfl⟩ := hd
  intro u9 p l e s m args below meth c mc ms cells slots H locs ls D cA ad ad0 N0 C hl
  exact lv_dup_x2 C.1.1 C.1.2.1 hd ((xv_cat ad v).trans hv) ((xv_cat ad w).trans hw) ((xv_cat ad z).trans hz) (k u9 C hl)
theorem xr_pop {v : Value} {q9 : Nat} (hd : xd M pc (.pop) 1 q9) (hv : v.category = 1) (k : xr M sc d q9 lo st h rc rs Q) : xr M sc d pc lo (v :: st) h rc rs Q := by
  obtain ⟨hd, rfl⟩ := hd
  intro u9 p l e s m args below meth c mc ms cells slots H locs ls D cA ad ad0 N0 C hl
  exact lv_pop C.1.1 C.1.2.1 hd ((xv_cat ad v).trans hv) (k u9 C hl)
theorem xr_if_eq {x : Int32} {off : Int} {tgt : Nat} {q9 : Nat} (hd : xd M pc (.ifCond .eq off) 3 q9) (ht : (pc : Int) + off = (tgt : Int)) (kt : x = 0 → xr M sc d tgt lo st h rc rs Q) (kf : ¬ x = 0 → xr M sc d q9 lo st h rc rs Q) : xr M sc d pc lo (.int x :: st) h rc rs Q := by
  obtain ⟨hd, rfl⟩ := hd
  intro u9 p l e s m args below meth c mc ms cells slots H locs ls D cA ad ad0 N0 C hl
  exact lv_if_eq C.1.1 C.1.2.1 hd ht (fun q => kt q u9 C hl) (fun q => kf q u9 C hl)
theorem xr_icmp_eq {x y : Int32} {off : Int} {tgt : Nat} {q9 : Nat} (hd : xd M pc (.if_icmp .eq off) 3 q9) (ht : (pc : Int) + off = (tgt : Int)) (kt : x = y → xr M sc d tgt lo st h rc rs Q) (kf : ¬ x = y → xr M sc d q9 lo st h rc rs Q) : xr M sc d pc lo (.int y :: .int x :: st) h rc rs Q := by
  obtain ⟨hd, rfl⟩ := hd
  intro u9 p l e s m args below meth c mc ms cells slots H locs ls D cA ad ad0 N0 C hl
  exact lv_icmp_eq C.1.1 C.1.2.1 hd ht (fun q => kt q u9 C hl) (fun q => kf q u9 C hl)
theorem xr_if_ne {x : Int32} {off : Int} {tgt : Nat} {q9 : Nat} (hd : xd M pc (.ifCond .ne off) 3 q9) (ht : (pc : Int) + off = (tgt : Int)) (kt : ¬ x = 0 → xr M sc d tgt lo st h rc rs Q) (kf : x = 0 → xr M sc d q9 lo st h rc rs Q) : xr M sc d pc lo (.int x :: st) h rc rs Q := by
  obtain ⟨hd, rfl⟩ := hd
  intro u9 p l e s m args below meth c mc ms cells slots H locs ls D cA ad ad0 N0 C hl
  exact lv_if_ne C.1.1 C.1.2.1 hd ht (fun q => kt q u9 C hl) (fun q => kf q u9 C hl)
theorem xr_icmp_ne {x y : Int32} {off : Int} {tgt : Nat} {q9 : Nat} (hd : xd M pc (.if_icmp .ne off) 3 q9) (ht : (pc : Int) + off = (tgt : Int)) (kt : ¬ x = y → xr M sc d tgt lo st h rc rs Q) (kf : x = y → xr M sc d q9 lo st h rc rs Q) : xr M sc d pc lo (.int y :: .int x :: st) h rc rs Q := by
  obtain ⟨hd, rfl⟩ := hd
  intro u9 p l e s m args below meth c mc ms cells slots H locs ls D cA ad ad0 N0 C hl
  exact lv_icmp_ne C.1.1 C.1.2.1 hd ht (fun q => kt q u9 C hl) (fun q => kf q u9 C hl)
theorem xr_if_lt {x : Int32} {off : Int} {tgt : Nat} {q9 : Nat} (hd : xd M pc (.ifCond .lt off) 3 q9) (ht : (pc : Int) + off = (tgt : Int)) (kt : x < 0 → xr M sc d tgt lo st h rc rs Q) (kf : ¬ x < 0 → xr M sc d q9 lo st h rc rs Q) : xr M sc d pc lo (.int x :: st) h rc rs Q := by
  obtain ⟨hd, rfl⟩ := hd
  intro u9 p l e s m args below meth c mc ms cells slots H locs ls D cA ad ad0 N0 C hl
  exact lv_if_lt C.1.1 C.1.2.1 hd ht (fun q => kt q u9 C hl) (fun q => kf q u9 C hl)
theorem xr_icmp_lt {x y : Int32} {off : Int} {tgt : Nat} {q9 : Nat} (hd : xd M pc (.if_icmp .lt off) 3 q9) (ht : (pc : Int) + off = (tgt : Int)) (kt : x < y → xr M sc d tgt lo st h rc rs Q) (kf : ¬ x < y → xr M sc d q9 lo st h rc rs Q) : xr M sc d pc lo (.int y :: .int x :: st) h rc rs Q := by
  obtain ⟨hd, rfl⟩ := hd
  intro u9 p l e s m args below meth c mc ms cells slots H locs ls D cA ad ad0 N0 C hl
  exact lv_icmp_lt C.1.1 C.1.2.1 hd ht (fun q => kt q u9 C hl) (fun q => kf q u9 C hl)
theorem xr_if_ge {x : Int32} {off : Int} {tgt : Nat} {q9 : Nat} (hd : xd M pc (.ifCond .ge off) 3 q9) (ht : (pc : Int) + off = (tgt : Int)) (kt : 0 ≤ x → xr M sc d tgt lo st h rc rs Q) (kf : ¬ 0 ≤ x → xr M sc d q9 lo st h rc rs Q) : xr M sc d pc lo (.int x :: st) h rc rs Q := by
  obtain ⟨hd, rfl⟩ := hd
  intro u9 p l e s m args below meth c mc ms cells slots H locs ls D cA ad ad0 N0 C hl
  exact lv_if_ge C.1.1 C.1.2.1 hd ht (fun q => kt q u9 C hl) (fun q => kf q u9 C hl)
theorem xr_icmp_ge {x y : Int32} {off : Int} {tgt : Nat} {q9 : Nat} (hd : xd M pc (.if_icmp .ge off) 3 q9) (ht : (pc : Int) + off = (tgt : Int)) (kt : y ≤ x → xr M sc d tgt lo st h rc rs Q) (kf : ¬ y ≤ x → xr M sc d q9 lo st h rc rs Q) : xr M sc d pc lo (.int y :: .int x :: st) h rc rs Q := by
  obtain ⟨hd, rfl⟩ := hd
  intro u9 p l e s m args below meth c mc ms cells slots H locs ls D cA ad ad0 N0 C hl
  exact lv_icmp_ge C.1.1 C.1.2.1 hd ht (fun q => kt q u9 C hl) (fun q => kf q u9 C hl)
theorem xr_if_gt {x : Int32} {off : Int} {tgt : Nat} {q9 : Nat} (hd : xd M pc (.ifCond .gt off) 3 q9) (ht : (pc : Int) + off = (tgt : Int)) (kt : 0 < x → xr M sc d tgt lo st h rc rs Q) (kf : ¬ 0 < x → xr M sc d q9 lo st h rc rs Q) : xr M sc d pc lo (.int x :: st) h rc rs Q := by
  obtain ⟨hd, rfl⟩ := hd
  intro u9 p l e s m args below meth c mc ms cells slots H locs ls D cA ad ad0 N0 C hl
  exact lv_if_gt C.1.1 C.1.2.1 hd ht (fun q => kt q u9 C hl) (fun q => kf q u9 C hl)
theorem xr_icmp_gt {x y : Int32} {off : Int} {tgt : Nat} {q9 : Nat} (hd : xd M pc (.if_icmp .gt off) 3 q9) (ht : (pc : Int) + off = (tgt : Int)) (kt : y < x → xr M sc d tgt lo st h rc rs Q) (kf : ¬ y < x → xr M sc d q9 lo st h rc rs Q) : xr M sc d pc lo (.int y :: .int x :: st) h rc rs Q := by
  obtain ⟨hd, rfl⟩ := hd
  intro u9 p l e s m args below meth c mc ms cells slots H locs ls D cA ad ad0 N0 C hl
  exact lv_icmp_gt C.1.1 C.1.2.1 hd ht (fun q => kt q u9 C hl) (fun q => kf q u9 C hl)
theorem xr_if_le {x : Int32} {off : Int} {tgt : Nat} {q9 : Nat} (hd : xd M pc (.ifCond .le off) 3 q9) (ht : (pc : Int) + off = (tgt : Int)) (kt : x ≤ 0 → xr M sc d tgt lo st h rc rs Q) (kf : ¬ x ≤ 0 → xr M sc d q9 lo st h rc rs Q) : xr M sc d pc lo (.int x :: st) h rc rs Q := by
  obtain ⟨hd, rfl⟩ := hd
  intro u9 p l e s m args below meth c mc ms cells slots H locs ls D cA ad ad0 N0 C hl
  exact lv_if_le C.1.1 C.1.2.1 hd ht (fun q => kt q u9 C hl) (fun q => kf q u9 C hl)
theorem xr_icmp_le {x y : Int32} {off : Int} {tgt : Nat} {q9 : Nat} (hd : xd M pc (.if_icmp .le off) 3 q9) (ht : (pc : Int) + off = (tgt : Int)) (kt : x ≤ y → xr M sc d tgt lo st h rc rs Q) (kf : ¬ x ≤ y → xr M sc d q9 lo st h rc rs Q) : xr M sc d pc lo (.int y :: .int x :: st) h rc rs Q := by
  obtain ⟨hd, rfl⟩ := hd
  intro u9 p l e s m args below meth c mc ms cells slots H locs ls D cA ad ad0 N0 C hl
  exact lv_icmp_le C.1.1 C.1.2.1 hd ht (fun q => kt q u9 C hl) (fun q => kf q u9 C hl)
theorem xr_goto {off : Int} {tgt : Nat} {q9 : Nat} (hd : xd M pc (.goto off) 3 q9) (ht : (pc : Int) + off = (tgt : Int)) (k : xr M sc d tgt lo st h rc rs Q) : xr M sc d pc lo st h rc rs Q := by
  obtain ⟨hd, rfl⟩ := hd
  intro u9 p l e s m args below meth c mc ms cells slots H locs ls D cA ad ad0 N0 C hl
  exact lv_goto C.1.1 C.1.2.1 hd ht (k u9 C hl)
theorem xr_tableOut {dflt lw hi : Int} {offs : Array Int} {len : Nat} {x : Int32} {tgt : Nat} {q9 : Nat} (hd : xd M pc (.tableswitch dflt lw hi offs) len q9) (hx : x.toInt < lw ∨ hi < x.toInt) (ht : (pc : Int) + dflt = (tgt : Int)) (k : xr M sc d tgt lo st h rc rs Q) : xr M sc d pc lo (.int x :: st) h rc rs Q := by
  obtain ⟨hd, rfl⟩ := hd
  intro u9 p l e s m args below meth c mc ms cells slots H locs ls D cA ad ad0 N0 C hl
  exact lv_tableOut C.1.1 C.1.2.1 hd hx ht (k u9 C hl)
theorem xr_tableIn {dflt lw hi : Int} {offs : Array Int} {len : Nat} {x : Int32} {off : Int} {tgt : Nat} {q9 : Nat} (hd : xd M pc (.tableswitch dflt lw hi offs) len q9) (h1 : ¬ x.toInt < lw) (h2 : ¬ hi < x.toInt) (ho : offs[(x.toInt - lw).toNat]? = some off) (ht : (pc : Int) + off = (tgt : Int)) (k : xr M sc d tgt lo st h rc rs Q) : xr M sc d pc lo (.int x :: st) h rc rs Q := by
  obtain ⟨hd, rfl⟩ := hd
  intro u9 p l e s m args below meth c mc ms cells slots H locs ls D cA ad ad0 N0 C hl
  exact lv_tableIn C.1.1 C.1.2.1 hd h1 h2 ho ht (k u9 C hl)
theorem xr_lookup {dflt : Int} {ps : Array (Int × Int)} {len : Nat} {x : Int32} {off : Int} {tgt : Nat} {q9 : Nat} (hd : xd M pc (.lookupswitch dflt ps) len q9) (hp : (ps.toList.zip (ps.toList.drop 1)).all (fun (a, next) => a.1 < next.1) = true) (ho : Op.lookupswitch.offset ps.toList dflt x.toInt = off) (ht : (pc : Int) + off = (tgt : Int)) (k : xr M sc d tgt lo st h rc rs Q) : xr M sc d pc lo (.int x :: st) h rc rs Q := by
  obtain ⟨hd, rfl⟩ := hd
  intro u9 p l e s m args below meth c mc ms cells slots H locs ls D cA ad ad0 N0 C hl
  exact lv_lookup C.1.1 C.1.2.1 hd hp ho ht (k u9 C hl)
end XR
