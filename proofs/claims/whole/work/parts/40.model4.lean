theorem c_Mo_num4 {I : mI} {A : mA} {L : mL} {p sg : Int32} (h0 : 0 ≤ p) (h1 : p < 69997) : xm m_Mo_number (1, 21) [.ref 34, .int p, .int 4, .int sg] (pic I A L) 0 0 (fun o => o = (.inl (some (.int (nrd (gmt (A 54)) p 4))), pic I A L)) := by
  refine xm_mono (c_Mo_number_34 4 rfl (by decide) (by decide) h0 (by have := i_lt.mp h1; have e : (69997 : Int32).toInt = 69997 := rfl; omega)) ?_
  rintro _ rfl
  exact oi (if_neg (fun z => absurd z.2.1 (by decide)))
theorem c_Mo_numU {I : mI} {A : mA} {L : mL} {p w : Int32} (k : Nat) (hw : w.toInt = (k : Int)) (hk0 : 1 ≤ k) (hk : k ≤ 4) (h0 : 0 ≤ p) (h1 : p.toInt + k ≤ 70000) : xm m_Mo_number (1, 21) [.ref 34, .int p, .int w, .int 0] (pic I A L) 0 0 (fun o => o = (.inl (some (.int (nrd (gmt (A 54)) p k))), pic I A L)) := by
  refine xm_mono (c_Mo_number_34 k hw hk0 hk h0 h1) ?_
  rintro _ rfl
  exact oi (if_neg (fun z => z.1 rfl))