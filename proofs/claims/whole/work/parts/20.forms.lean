section XF9
variable {M M' : xM} {sc : xSc} {d d' : Nat × Nat} {pc idx mc' ms' : Nat} {lo : xL} {st as : List Value} {h : List xC} {rc rs rc' rs' : Nat} {P Q : xO → Prop}
theorem xr_cVx {n b ci q9 : Nat} {fs : List Value} (hM : xm M' d' (.ref b :: as) h mc' ms' P) (hlk : xlV M.1.cls idx M'.1 n) (hcd : xcd M') (hci : ∃ (T : u_T) (N : Nat), vwCl[ci]? = some (M'.1.cls, T, N)) (hd : xd M pc (.invokevirtual idx) 3 q9) (hn : as.length = n) (hb0 : h[b]? = some (.inl (ci, fs)))
    (hdd : d'.1 + 1 ≤ d.1 ∧ M'.2.2.1 + 19 + d'.2 ≤ d.2) (hcat : (st.map fun v => v.category).sum ≤ 8) (hrc : mc' + rc' ≤ rc) (hrs : ms' + rs' ≤ rs) (hl9 : h.length ≤ 1000000)
    (kk : ∀ o, P o → ∃ v h', o = (.inl (some v), h') ∧ h'.length = h.length ∧ xr M sc d q9 lo (v :: st) h' rc' rs' Q) : xr M sc d pc lo (as.reverse ++ .ref b :: st) h rc rs Q :=
  xr_cV hM hlk hcd hci hd hn hb0 hdd hcat hrc hrs hl9 (fun o ho => by
    obtain ⟨v, h', e1, e2, e3⟩ := kk o ho
    exact ⟨some v, h', e1, e2, e3⟩)
theorem xr_cVv {n b ci q9 : Nat} {fs : List Value} (hM : xm M' d' (.ref b :: as) h mc' ms' P) (hlk : xlV M.1.cls idx M'.1 n) (hcd : xcd M') (hci : ∃ (T : u_T) (N : Nat), vwCl[ci]? = some (M'.1.cls, T, N)) (hd : xd M pc (.invokevirtual idx) 3 q9) (hn : as.length = n) (hb0 : h[b]? = some (.inl (ci, fs)))
    (hdd : d'.1 + 1 ≤ d.1 ∧ M'.2.2.1 + 19 + d'.2 ≤ d.2) (hcat : (st.map fun v => v.category).sum ≤ 8) (hrc : mc' + rc' ≤ rc) (hrs : ms' + rs' ≤ rs) (hl9 : h.length ≤ 1000000)
    (kk : ∀ o, P o → ∃ h', o = (.inl none, h') ∧ h'.length = h.length ∧ xr M sc d q9 lo st h' rc' rs' Q) : xr M sc d pc lo (as.reverse ++ .ref b :: st) h rc rs Q :=
  xr_cV hM hlk hcd hci hd hn hb0 hdd hcat hrc hrs hl9 (fun o ho => by
    obtain ⟨h', e1, e2, e3⟩ := kk o ho
    exact ⟨none, h', e1, e2, e3⟩)
theorem xr_cSx {n q9 : Nat} (hM : xm M' d' as h mc' ms' P) (hlk : xlS M.1.cls idx M'.1 n) (hcd : xcd M') (hd : xd M pc (.invokestatic idx) 3 q9) (hn : as.length = n)
    (hdd : d'.1 + 1 ≤ d.1 ∧ M'.2.2.1 + 19 + d'.2 ≤ d.2) (hcat : (st.map fun v => v.category).sum ≤ 8) (hrc : mc' + rc' ≤ rc) (hrs : ms' + rs' ≤ rs) (hl9 : h.length ≤ 1000000)
    (kk : ∀ o, P o → ∃ v h', o = (.inl (some v), h') ∧ h'.length = h.length ∧ xr M sc d q9 lo (v :: st) h' rc' rs' Q) : xr M sc d pc lo (as.reverse ++ st) h rc rs Q :=
  xr_cS hM hlk hcd hd hn hdd hcat hrc hrs hl9 (fun o ho => by
    obtain ⟨v, h', e1, e2, e3⟩ := kk o ho
    exact ⟨some v, h', e1, e2, e3⟩)
theorem xr_cSv {n q9 : Nat} (hM : xm M' d' as h mc' ms' P) (hlk : xlS M.1.cls idx M'.1 n) (hcd : xcd M') (hd : xd M pc (.invokestatic idx) 3 q9) (hn : as.length = n)
    (hdd : d'.1 + 1 ≤ d.1 ∧ M'.2.2.1 + 19 + d'.2 ≤ d.2) (hcat : (st.map fun v => v.category).sum ≤ 8) (hrc : mc' + rc' ≤ rc) (hrs : ms' + rs' ≤ rs) (hl9 : h.length ≤ 1000000)
    (kk : ∀ o, P o → ∃ h', o = (.inl none, h') ∧ h'.length = h.length ∧ xr M sc d q9 lo st h' rc' rs' Q) : xr M sc d pc lo (as.reverse ++ st) h rc rs Q :=
  xr_cS hM hlk hcd hd hn hdd hcat hrc hrs hl9 (fun o ho => by
    obtain ⟨h', e1, e2, e3⟩ := kk o ho
    exact ⟨none, h', e1, e2, e3⟩)
end XF9
theorem ob_t {p : Prop} [Decidable p] {h : List xC} (hp : p) : ((.inl (some (.int 1)), h) : xO) = (.inl (some (.int (b2 p))), h) := by rw [← b2_t hp]
theorem ob_f {p : Prop} [Decidable p] {h : List xC} (hp : ¬ p) : ((.inl (some (.int 0)), h) : xO) = (.inl (some (.int (b2 p))), h) := by rw [← b2_f hp]
theorem oi {x y : Int32} {h : List xC} (e : x = y) : ((.inl (some (.int x)), h) : xO) = (.inl (some (.int y)), h) := by rw [e]
theorem nar_z {x : Int32} (h : x = 0 ∨ x = 1) : narrow .boolean (.int x) = .int x := by
  rcases h with rfl | rfl <;> decide
theorem nar_b2 {p : Prop} [Decidable p] : narrow .boolean (.int (b2 p)) = .int (b2 p) := by
  apply nar_z
  unfold b2
  by_cases h : p
  · rw [if_pos h]; exact Or.inr rfl
  · rw [if_neg h]; exact Or.inl rfl
theorem gat_t {u : Int32} {f : Nat → Int32} {i : Int32} (h : 0 ≤ i ∧ i < u ∧ i < 70000) : f i.toNatClampNeg &&& 255 = gat u f i := (if_pos h).symm
theorem gat_f {u : Int32} {f : Nat → Int32} {i : Int32} (h : ¬ (0 ≤ i ∧ i < u ∧ i < 70000)) : 0 = gat u f i := (if_neg h).symm
def app (B xs : List Int32) : List Int32 := (B ++ xs).take 70000
theorem app_app (B xs ys : List Int32) : app (app B xs) ys = app B (xs ++ ys) := by
  unfold app
  rw [← List.append_assoc, List.take_append, List.take_take, List.take_append (l₁ := B ++ xs)]
  congr 1
  rw [List.length_take]
  congr 1
  omega
theorem app_nil {B : List Int32} (h : B.length ≤ 70000) : app B [] = B := by
  unfold app
  rw [List.append_nil, List.take_of_length_le h]
theorem adB_ok {u : Int32} {f : Nat → Int32} {B : List Int32} {x : Int32} (h : isB u f B) (h0 : 0 ≤ u) (h1 : u < 70000) : isB (u + 1) (upd f u.toNatClampNeg (vp_nar .byte (x.toInt8.toInt32))) (app B [x &&& 255]) := by
  have := adB_B h x
  unfold adB at this
  rw [if_pos ⟨h0, h1⟩] at this
  rw [show vp_nar .byte (x.toInt8.toInt32) = byt x from nar_b x]
  exact this
theorem adB_no {u : Int32} {f : Nat → Int32} {B : List Int32} {x : Int32} (h : isB u f B) (h0 : ¬ (0 ≤ u ∧ u < 70000)) : isB u f (app B [x &&& 255]) := by
  have := adB_B h x
  unfold adB at this
  rw [if_neg h0] at this
  exact this
def numB (n : Int32) : Nat → List Int32
  | 0 => []
  | k + 1 => ((n >>> ((8 * Int32.ofNat k) &&& 31)) &&& 255) :: numB n k
