theorem frA_6 {ks : List Nat} {A B : mA} (h : frA ks A B) (hk : 60 ∈ ks) : frA ks A (six0 B) := frA_u (frA_u (frA_u (frA_u (frA_u (frA_u h hk) hk) hk) hk) hk) hk
abbrev fmT (I : mI) (A : mA) (w : Int32) (I2 : mI) (A2 : mA) : Prop := frI [3432, 3434, 3436, 3439, 3440, 3441, 3442, 3443, 3444, 3446, 3447, 3448, 3449, 3450] I I2 ∧ frA [55, 56, 57, 58, 59, 60] A A2 ∧ (w = 0 ∨ (0 < w ∧ w ≤ 9))
theorem fm_Mo_setCharacter {I I2 : mI} {A A2 : mA} {w9 : Int32} {c : Int32} {mv : Int32} (h : t_Mo_setCharacter I A c mv w9 I2 A2) : fmT I A w9 I2 A2 := by
  rcases h with ⟨-, rfl, rfl, rfl⟩ | ⟨-, rfl, rfl, rfl⟩ | ⟨-, rfl, rfl, rfl⟩ | ⟨-, rfl, rfl, rfl⟩ | ⟨-, rfl, rfl, rfl⟩ | ⟨-, rfl, rfl, rfl⟩ | ⟨-, rfl, rfl, rfl⟩ | ⟨-, rfl, rfl, rfl⟩ | ⟨-, rfl, rfl, rfl⟩ | ⟨-, rfl, rfl, rfl⟩ | ⟨-, rfl, rfl, rfl⟩
  · exact ⟨(by repeat (first | exact frI_rf | refine frI_u ?_ (by decide))), (by repeat (first | exact frA_rf | refine frA_u ?_ (by decide) | refine frA_uf ?_ (by decide))), Or.inr (by decide)⟩
  · exact ⟨(by repeat (first | exact frI_rf | refine frI_u ?_ (by decide))), (by repeat (first | exact frA_rf | refine frA_u ?_ (by decide) | refine frA_uf ?_ (by decide))), Or.inr (by decide)⟩
  · exact ⟨(by repeat (first | exact frI_rf | refine frI_u ?_ (by decide))), (by repeat (first | exact frA_rf | refine frA_u ?_ (by decide) | refine frA_uf ?_ (by decide))), Or.inr (by decide)⟩
  · exact ⟨(by repeat (first | exact frI_rf | refine frI_u ?_ (by decide))), (by repeat (first | exact frA_rf | refine frA_u ?_ (by decide) | refine frA_uf ?_ (by decide))), Or.inl rfl⟩
  · exact ⟨(by repeat (first | exact frI_rf | refine frI_u ?_ (by decide))), (by repeat (first | exact frA_rf | refine frA_u ?_ (by decide) | refine frA_uf ?_ (by decide))), Or.inr (by decide)⟩
  · exact ⟨(by repeat (first | exact frI_rf | refine frI_u ?_ (by decide))), (by repeat (first | exact frA_rf | refine frA_u ?_ (by decide) | refine frA_uf ?_ (by decide))), Or.inl rfl⟩
  · exact ⟨(by repeat (first | exact frI_rf | refine frI_u ?_ (by decide))), (by repeat (first | exact frA_rf | refine frA_u ?_ (by decide) | refine frA_uf ?_ (by decide))), Or.inr (by decide)⟩
  · exact ⟨(by repeat (first | exact frI_rf | refine frI_u ?_ (by decide))), (by repeat (first | exact frA_rf | refine frA_u ?_ (by decide) | refine frA_uf ?_ (by decide))), Or.inr (by decide)⟩
  · exact ⟨(by repeat (first | exact frI_rf | refine frI_u ?_ (by decide))), (by repeat (first | exact frA_rf | refine frA_u ?_ (by decide) | refine frA_uf ?_ (by decide))), Or.inl rfl⟩
  · exact ⟨(by repeat (first | exact frI_rf | refine frI_u ?_ (by decide))), (by repeat (first | exact frA_rf | refine frA_u ?_ (by decide) | refine frA_uf ?_ (by decide))), Or.inr (by decide)⟩
  · exact ⟨(by repeat (first | exact frI_rf | refine frI_u ?_ (by decide))), (by repeat (first | exact frA_rf | refine frA_u ?_ (by decide) | refine frA_uf ?_ (by decide))), Or.inl rfl⟩
theorem fm_Mo_setRule {I I2 : mI} {A A2 : mA} {w9 : Int32} {mv : Int32} (h : t_Mo_setRule I A mv w9 I2 A2) : fmT I A w9 I2 A2 := by
  rcases h with ⟨-, rfl, rfl, rfl⟩ | ⟨-, rfl, rfl, rfl⟩ | ⟨-, rfl, rfl, rfl⟩ | ⟨-, rfl, rfl, rfl⟩ | ⟨-, rfl, rfl, rfl⟩ | ⟨-, rfl, rfl, rfl⟩ | ⟨-, rfl, rfl, rfl⟩
  · exact ⟨(by repeat (first | exact frI_rf | refine frI_u ?_ (by decide))), (by repeat (first | exact frA_rf | refine frA_u ?_ (by decide) | refine frA_uf ?_ (by decide))), Or.inr (by decide)⟩
  · exact ⟨(by repeat (first | exact frI_rf | refine frI_u ?_ (by decide))), (by repeat (first | exact frA_rf | refine frA_u ?_ (by decide) | refine frA_uf ?_ (by decide))), Or.inr (by decide)⟩
  · exact ⟨(by repeat (first | exact frI_rf | refine frI_u ?_ (by decide))), (by repeat (first | exact frA_rf | refine frA_u ?_ (by decide) | refine frA_uf ?_ (by decide))), Or.inl rfl⟩
  · exact ⟨(by repeat (first | exact frI_rf | refine frI_u ?_ (by decide))), (by repeat (first | exact frA_rf | refine frA_u ?_ (by decide) | refine frA_uf ?_ (by decide))), Or.inl rfl⟩
  · exact ⟨(by repeat (first | exact frI_rf | refine frI_u ?_ (by decide))), (by repeat (first | exact frA_rf | refine frA_u ?_ (by decide) | refine frA_uf ?_ (by decide))), Or.inr (by decide)⟩
  · exact ⟨(by repeat (first | exact frI_rf | refine frI_u ?_ (by decide))), (by repeat (first | exact frA_rf | refine frA_u ?_ (by decide) | refine frA_uf ?_ (by decide))), Or.inl rfl⟩
  · exact ⟨(by repeat (first | exact frI_rf | refine frI_u ?_ (by decide))), (by repeat (first | exact frA_rf | refine frA_u ?_ (by decide) | refine frA_uf ?_ (by decide))), Or.inl rfl⟩
theorem fm_Mo_push {I I2 : mI} {A A2 : mA} {w9 : Int32}  (h : t_Mo_push I A  w9 I2 A2) : fmT I A w9 I2 A2 := by
  rcases h with ⟨-, rfl, rfl, rfl⟩ | ⟨-, rfl, rfl, rfl⟩ | ⟨-, rfl, rfl, rfl⟩
  · exact ⟨(by repeat (first | exact frI_rf | refine frI_u ?_ (by decide))), (by repeat (first | exact frA_rf | refine frA_u ?_ (by decide) | refine frA_uf ?_ (by decide))), Or.inr (by decide)⟩
  · exact ⟨(by repeat (first | exact frI_rf | refine frI_u ?_ (by decide))), (by repeat (first | exact frA_rf | refine frA_u ?_ (by decide) | refine frA_uf ?_ (by decide))), Or.inl rfl⟩
  · exact ⟨(by repeat (first | exact frI_rf | refine frI_u ?_ (by decide))), (by repeat (first | exact frA_rf | refine frA_u ?_ (by decide) | refine frA_uf ?_ (by decide))), Or.inl rfl⟩
theorem fm_Mo_pop {I I2 : mI} {A A2 : mA} {w9 : Int32}  (h : t_Mo_pop I A  w9 I2 A2) : fmT I A w9 I2 A2 := by
  rcases h with ⟨-, rfl, rfl, rfl⟩ | ⟨-, rfl, rfl, rfl⟩
  · exact ⟨(by repeat (first | exact frI_rf | refine frI_u ?_ (by decide))), (by repeat (first | exact frA_rf | refine frA_u ?_ (by decide) | refine frA_uf ?_ (by decide))), Or.inr (by decide)⟩
  · exact ⟨(by repeat (first | exact frI_rf | refine frI_u ?_ (by decide))), (by repeat (first | exact frA_rf | refine frA_u ?_ (by decide) | refine frA_uf ?_ (by decide))), Or.inl rfl⟩
theorem fm_Mo_moveBy {I I2 : mI} {A A2 : mA} {w9 : Int32} {c : Int32} {k : Nat} (h : t_Mo_moveBy I A c k w9 I2 A2) : fmT I A w9 I2 A2 := by
  rcases h with ⟨-, rfl, rfl, rfl⟩ | ⟨-, rfl, rfl, rfl⟩ | ⟨-, rfl, rfl, rfl⟩ | ⟨-, rfl, rfl, rfl⟩ | ⟨-, rfl, rfl, rfl⟩ | ⟨-, rfl, rfl, rfl⟩ | ⟨-, rfl, rfl, rfl⟩ | ⟨-, rfl, rfl, rfl⟩ | ⟨-, rfl, rfl, rfl⟩ | ⟨-, rfl, rfl, rfl⟩ | ⟨-, rfl, rfl, rfl⟩ | ⟨-, rfl, rfl, rfl⟩ | ⟨-, rfl, rfl, rfl⟩ | ⟨-, rfl, rfl, rfl⟩ | ⟨-, rfl, rfl, rfl⟩ | ⟨-, rfl, rfl, rfl⟩ | ⟨-, rfl, rfl, rfl⟩ | ⟨-, rfl, rfl, rfl⟩ | ⟨-, rfl, rfl, rfl⟩ | ⟨-, rfl, rfl, rfl⟩ | ⟨-, rfl, rfl, rfl⟩ | ⟨-, rfl, rfl, rfl⟩ | ⟨-, rfl, rfl, rfl⟩ | ⟨-, rfl, rfl, rfl⟩
  · exact ⟨(by repeat (first | exact frI_rf | refine frI_u ?_ (by decide))), (by repeat (first | exact frA_rf | refine frA_u ?_ (by decide) | refine frA_uf ?_ (by decide))), Or.inl rfl⟩
  · exact ⟨(by repeat (first | exact frI_rf | refine frI_u ?_ (by decide))), (by repeat (first | exact frA_rf | refine frA_u ?_ (by decide) | refine frA_uf ?_ (by decide))), Or.inr (by decide)⟩
  · exact ⟨(by repeat (first | exact frI_rf | refine frI_u ?_ (by decide))), (by repeat (first | exact frA_rf | refine frA_u ?_ (by decide) | refine frA_uf ?_ (by decide))), Or.inl rfl⟩
  · exact ⟨(by repeat (first | exact frI_rf | refine frI_u ?_ (by decide))), (by repeat (first | exact frA_rf | refine frA_u ?_ (by decide) | refine frA_uf ?_ (by decide))), Or.inr (by decide)⟩
  · exact ⟨(by repeat (first | exact frI_rf | refine frI_u ?_ (by decide))), (by repeat (first | exact frA_rf | refine frA_u ?_ (by decide) | refine frA_uf ?_ (by decide))), Or.inl rfl⟩
  · exact ⟨(by repeat (first | exact frI_rf | refine frI_u ?_ (by decide))), (by repeat (first | exact frA_rf | refine frA_u ?_ (by decide) | refine frA_uf ?_ (by decide))), Or.inr (by decide)⟩
  · exact ⟨(by repeat (first | exact frI_rf | refine frI_u ?_ (by decide))), (by repeat (first | exact frA_rf | refine frA_u ?_ (by decide) | refine frA_uf ?_ (by decide))), Or.inl rfl⟩
  · exact ⟨(by repeat (first | exact frI_rf | refine frI_u ?_ (by decide))), (by repeat (first | exact frA_rf | refine frA_u ?_ (by decide) | refine frA_uf ?_ (by decide))), Or.inr (by decide)⟩
  · exact ⟨(by repeat (first | exact frI_rf | refine frI_u ?_ (by decide))), (by repeat (first | exact frA_rf | refine frA_u ?_ (by decide) | refine frA_uf ?_ (by decide))), Or.inl rfl⟩
  · exact ⟨(by repeat (first | exact frI_rf | refine frI_u ?_ (by decide))), (by repeat (first | exact frA_rf | refine frA_u ?_ (by decide) | refine frA_uf ?_ (by decide))), Or.inr (by decide)⟩
  · exact ⟨(by repeat (first | exact frI_rf | refine frI_u ?_ (by decide))), (by repeat (first | exact frA_rf | refine frA_u ?_ (by decide) | refine frA_uf ?_ (by decide))), Or.inl rfl⟩
  · exact ⟨(by repeat (first | exact frI_rf | refine frI_u ?_ (by decide))), (by repeat (first | exact frA_rf | refine frA_u ?_ (by decide) | refine frA_uf ?_ (by decide))), Or.inr (by decide)⟩
  · exact ⟨(by repeat (first | exact frI_rf | refine frI_u ?_ (by decide))), (by repeat (first | exact frA_rf | refine frA_u ?_ (by decide) | refine frA_uf ?_ (by decide))), Or.inl rfl⟩
  · exact ⟨(by repeat (first | exact frI_rf | refine frI_u ?_ (by decide))), (by repeat (first | exact frA_rf | refine frA_u ?_ (by decide) | refine frA_uf ?_ (by decide))), Or.inr (by decide)⟩
  · exact ⟨(by repeat (first | exact frI_rf | refine frI_u ?_ (by decide))), (by repeat (first | exact frA_rf | refine frA_u ?_ (by decide) | refine frA_uf ?_ (by decide))), Or.inl rfl⟩
  · exact ⟨(by repeat (first | exact frI_rf | refine frI_u ?_ (by decide))), (by repeat (first | exact frA_rf | refine frA_u ?_ (by decide) | refine frA_uf ?_ (by decide))), Or.inr (by decide)⟩
  · exact ⟨(by repeat (first | exact frI_rf | refine frI_u ?_ (by decide))), (by repeat (first | exact frA_rf | refine frA_u ?_ (by decide) | refine frA_uf ?_ (by decide))), Or.inl rfl⟩
  · exact ⟨(by repeat (first | exact frI_rf | refine frI_u ?_ (by decide))), (by repeat (first | exact frA_rf | refine frA_u ?_ (by decide) | refine frA_uf ?_ (by decide))), Or.inr (by decide)⟩
  · exact ⟨(by repeat (first | exact frI_rf | refine frI_u ?_ (by decide))), (by repeat (first | exact frA_rf | refine frA_u ?_ (by decide) | refine frA_uf ?_ (by decide))), Or.inl rfl⟩
  · exact ⟨(by repeat (first | exact frI_rf | refine frI_u ?_ (by decide))), (by repeat (first | exact frA_rf | refine frA_u ?_ (by decide) | refine frA_uf ?_ (by decide))), Or.inr (by decide)⟩
  · exact ⟨(by repeat (first | exact frI_rf | refine frI_u ?_ (by decide))), (by repeat (first | exact frA_rf | refine frA_u ?_ (by decide) | refine frA_uf ?_ (by decide))), Or.inl rfl⟩
  · exact ⟨(by repeat (first | exact frI_rf | refine frI_u ?_ (by decide))), (by repeat (first | exact frA_rf | refine frA_u ?_ (by decide) | refine frA_uf ?_ (by decide))), Or.inr (by decide)⟩
  · exact ⟨(by repeat (first | exact frI_rf | refine frI_u ?_ (by decide))), (by repeat (first | exact frA_rf | refine frA_u ?_ (by decide) | refine frA_uf ?_ (by decide))), Or.inl rfl⟩
  · exact ⟨(by repeat (first | exact frI_rf | refine frI_u ?_ (by decide))), (by repeat (first | exact frA_rf | refine frA_u ?_ (by decide) | refine frA_uf ?_ (by decide))), Or.inr (by decide)⟩
theorem fm_Mo_take {I I2 : mI} {A A2 : mA} {w9 : Int32} {f : Int32} (h : t_Mo_take I A f w9 I2 A2) : fmT I A w9 I2 A2 := by
  rcases h with ⟨-, rfl, rfl, rfl⟩ | ⟨-, rfl, rfl, rfl⟩
  · exact ⟨(by repeat (first | exact frI_rf | refine frI_u ?_ (by decide))), (by repeat (first | exact frA_rf | refine frA_u ?_ (by decide) | refine frA_uf ?_ (by decide))), Or.inr (by decide)⟩
  · exact ⟨(by repeat (first | exact frI_rf | refine frI_u ?_ (by decide))), (by repeat (first | exact frA_rf | refine frA_u ?_ (by decide) | refine frA_uf ?_ (by decide))), Or.inl rfl⟩
theorem fm_Mo_tell {I I2 : mI} {A A2 : mA} {w9 : Int32}  {k : Nat} (h : t_Mo_tell I A  k w9 I2 A2) : fmT I A w9 I2 A2 := by
  rcases h with ⟨-, rfl, rfl, rfl⟩ | ⟨-, rfl, rfl, rfl⟩ | ⟨-, rfl, rfl, rfl⟩ | ⟨-, rfl, rfl, rfl⟩ | ⟨-, rfl, rfl, rfl⟩
  · exact ⟨(by repeat (first | exact frI_rf | refine frI_u ?_ (by decide))), (by repeat (first | exact frA_rf | refine frA_u ?_ (by decide) | refine frA_uf ?_ (by decide))), Or.inl rfl⟩
  · exact ⟨(by repeat (first | exact frI_rf | refine frI_u ?_ (by decide))), (by repeat (first | exact frA_rf | refine frA_u ?_ (by decide) | refine frA_uf ?_ (by decide))), Or.inr (by decide)⟩
  · exact ⟨(by repeat (first | exact frI_rf | refine frI_u ?_ (by decide))), (by repeat (first | exact frA_rf | refine frA_u ?_ (by decide) | refine frA_uf ?_ (by decide))), Or.inr (by decide)⟩
  · exact ⟨(by repeat (first | exact frI_rf | refine frI_u ?_ (by decide))), (by repeat (first | exact frA_rf | refine frA_u ?_ (by decide) | refine frA_uf ?_ (by decide))), Or.inr (by decide)⟩
  · exact ⟨(by repeat (first | exact frI_rf | refine frI_u ?_ (by decide))), (by repeat (first | exact frA_rf | refine frA_u ?_ (by decide) | refine frA_uf ?_ (by decide))), Or.inl rfl⟩
theorem fm_Mo_beginPage {I I2 : mI} {A A2 : mA} {w9 : Int32}  (h : t_Mo_beginPage I A  w9 I2 A2) : fmT I A w9 I2 A2 := by
  rcases h with ⟨-, rfl, rfl, rfl⟩ | ⟨-, rfl, rfl, rfl⟩ | ⟨-, rfl, rfl, rfl⟩
  · exact ⟨(by repeat (first | exact frI_rf | refine frI_u ?_ (by decide))), (by repeat (first | exact frA_rf | refine frA_u ?_ (by decide) | refine frA_uf ?_ (by decide))), Or.inr (by decide)⟩
  · exact ⟨(by repeat (first | exact frI_rf | refine frI_u ?_ (by decide))), (by repeat (first | exact frA_rf | refine frA_u ?_ (by decide) | refine frA_uf ?_ (by decide))), Or.inr (by decide)⟩
  · exact ⟨(by repeat (first | exact frI_rf | refine frI_u ?_ (by decide))), frA_6 (frA_uf frA_rf (by decide)) (by decide), Or.inl rfl⟩
theorem fm_Mo_post {I I2 : mI} {A A2 : mA} {w9 : Int32}  (h : t_Mo_post I A  w9 I2 A2) : fmT I A w9 I2 A2 := by
  rcases h with ⟨-, rfl, rfl, rfl⟩ | ⟨-, rfl, rfl, rfl⟩ | ⟨-, rfl, rfl, rfl⟩
  · exact ⟨(by repeat (first | exact frI_rf | refine frI_u ?_ (by decide))), (by repeat (first | exact frA_rf | refine frA_u ?_ (by decide) | refine frA_uf ?_ (by decide))), Or.inr (by decide)⟩
  · exact ⟨(by repeat (first | exact frI_rf | refine frI_u ?_ (by decide))), (by repeat (first | exact frA_rf | refine frA_u ?_ (by decide) | refine frA_uf ?_ (by decide))), Or.inr (by decide)⟩
  · exact ⟨(by repeat (first | exact frI_rf | refine frI_u ?_ (by decide))), (by repeat (first | exact frA_rf | refine frA_u ?_ (by decide) | refine frA_uf ?_ (by decide))), Or.inl rfl⟩
theorem fm_within {I I2 : mI} {A A2 : mA} {w9 c : Int32} {k : Nat} (h : t_within I A c k w9 I2 A2) : fmT I A w9 I2 A2 := by
  rcases h with ⟨-, h⟩ | ⟨-, h⟩ | ⟨-, h⟩ | ⟨-, h⟩ | ⟨-, h⟩ | ⟨-, h⟩ | ⟨-, h⟩ | ⟨-, h⟩ | ⟨-, h⟩ | ⟨-, h⟩ | ⟨-, h⟩ | ⟨-, h⟩ | ⟨-, h⟩ | ⟨-, h⟩
  · exact fm_Mo_setCharacter h
  · exact fm_Mo_setCharacter h
  · exact fm_Mo_setRule h
  · exact fm_Mo_setCharacter h
  · exact fm_Mo_setRule h
  · obtain ⟨rfl, rfl, rfl⟩ := h
    exact ⟨(by repeat (first | exact frI_rf | refine frI_u ?_ (by decide))), frA_rf, Or.inr (by decide)⟩
  · obtain ⟨rfl, rfl, rfl⟩ := h
    exact ⟨(by repeat (first | exact frI_rf | refine frI_u ?_ (by decide))), frA_rf, Or.inl rfl⟩
  · exact fm_Mo_push h
  · exact fm_Mo_pop h
  · exact fm_Mo_moveBy h
  · exact fm_Mo_take h
  · exact fm_Mo_take h
  · exact fm_Mo_tell h
  · obtain ⟨rfl, rfl, rfl⟩ := h
    exact ⟨(by repeat (first | exact frI_rf | refine frI_u ?_ (by decide))), frA_rf, Or.inl rfl⟩
theorem fm_outside {I I2 : mI} {A A2 : mA} {w9 c : Int32} {k : Nat} (h : t_outside I A c k w9 I2 A2) : fmT I A w9 I2 A2 := by
  rcases h with ⟨-, h⟩ | ⟨-, h⟩ | ⟨-, h⟩ | ⟨-, h⟩ | ⟨-, h⟩ | ⟨-, h⟩ | ⟨-, h⟩
  · obtain ⟨rfl, rfl, rfl⟩ := h
    exact ⟨(by repeat (first | exact frI_rf | refine frI_u ?_ (by decide))), frA_rf, Or.inl rfl⟩
  · exact fm_Mo_beginPage h
  · exact fm_Mo_post h
  · obtain ⟨rfl, rfl, rfl⟩ := h
    exact ⟨(by repeat (first | exact frI_rf | refine frI_u ?_ (by decide))), frA_rf, Or.inl rfl⟩
  · obtain ⟨rfl, rfl, rfl⟩ := h
    exact ⟨(by repeat (first | exact frI_rf | refine frI_u ?_ (by decide))), frA_rf, Or.inr (by decide)⟩
  · exact fm_Mo_tell h
  · obtain ⟨rfl, rfl, rfl⟩ := h
    exact ⟨(by repeat (first | exact frI_rf | refine frI_u ?_ (by decide))), frA_rf, Or.inl rfl⟩
theorem fs_within {I I2 : mI} {A A2 : mA} {w9 c : Int32} {k : Nat} (h : t_within I A c k w9 I2 A2) : I2 3444 = I 3444 ∧ I2 3445 = I 3445 := by
  rcases h with ⟨-, h⟩ | ⟨-, h⟩ | ⟨-, h⟩ | ⟨-, h⟩ | ⟨-, h⟩ | ⟨-, h⟩ | ⟨-, h⟩ | ⟨-, h⟩ | ⟨-, h⟩ | ⟨-, h⟩ | ⟨-, h⟩ | ⟨-, h⟩ | ⟨-, h⟩ | ⟨-, h⟩
  · exact (fs_Mo_setCharacter h).2
  · exact (fs_Mo_setCharacter h).2
  · exact (fs_Mo_setRule h).2
  · exact (fs_Mo_setCharacter h).2
  · exact (fs_Mo_setRule h).2
  · obtain ⟨-, rfl, -⟩ := h
    exact ⟨rfl, rfl⟩
  · obtain ⟨-, rfl, -⟩ := h
    exact ⟨rfl, rfl⟩
  · exact (fs_Mo_push h).2
  · exact (fs_Mo_pop h).2
  · exact (fs_Mo_moveBy h).2
  · exact (fs_Mo_take h).2
  · exact (fs_Mo_take h).2
  · exact (fs_Mo_tell h).2
  · obtain ⟨-, rfl, -⟩ := h
    exact ⟨rfl, rfl⟩
theorem fs_outside {I I2 : mI} {A A2 : mA} {w9 c : Int32} {k : Nat} (h : t_outside I A c k w9 I2 A2) : I2 3444 = I 3444 ∧ I2 3445 = I 3445 := by
  rcases h with ⟨-, h⟩ | ⟨-, h⟩ | ⟨-, h⟩ | ⟨-, h⟩ | ⟨-, h⟩ | ⟨-, h⟩ | ⟨-, h⟩
  · obtain ⟨-, rfl, -⟩ := h
    exact ⟨rfl, rfl⟩
  · exact (fs_Mo_beginPage h).2
  · exact (fs_Mo_post h).2
  · obtain ⟨-, rfl, -⟩ := h
    exact ⟨rfl, rfl⟩
  · obtain ⟨-, rfl, -⟩ := h
    exact ⟨rfl, rfl⟩
  · exact (fs_Mo_tell h).2
  · obtain ⟨-, rfl, -⟩ := h
    exact ⟨rfl, rfl⟩
theorem ft_all {Ic I : mI} {Ac A : mA} {m : Int} {c b : Int32} {k : Nat} (R : RR Ic Ac I A m) (hlt : I 3444 < I 3445) (hc : gmt (A 54) (I 3444) = c) (hk : (nbF c).toInt = (k : Int)) (hbd : bhF (gat (Ic 2201) (Ac 23)) (I 3445) (I 3444) c (nbF c) k = b) (hb : ¬ b < 0) : (k : Int) + (fxF c).toInt ≤ b.toInt ∧ (I 3444).toInt + 1 + b.toInt ≤ (I 3445).toInt ∧ (I 3445).toInt ≤ 70000 ∧ 0 ≤ (I 3444).toInt ∧ k ≤ 4 ∧ 0 ≤ (fxF c).toInt ∧ 0 ≤ I 3444 + 1 ∧ (I 3444 + 1).toInt = (I 3444).toInt + 1 := by
  have h7 := a_7 R
  have hnr := nbF_r (c := c)
  obtain ⟨e1, e2, e3, e4⟩ := bh_fit R.2.1.2.1 hlt R.1.2.1 hnr (by rw [hbd]; exact hb)
  rw [hbd, hk] at e1
  rw [hbd] at e2
  have hk4 := i_le.mp hnr.2
  rw [hk, show (4 : Int32).toInt = 4 from rfl] at hk4
  have ea := a_c (c := 1) (n := 1) R.2.1.2.1 (by omega) rfl (by decide)
  exact ⟨by omega, e2, h7.1, h7.2.1, by omega, e3, ea.1, ea.2⟩
theorem hatD {Ic I : mI} {Ac A : mA} {m : Int} {c b : Int32} {k : Nat} (R : RR Ic Ac I A m) (hlt : I 3444 < I 3445) (hc : gmt (A 54) (I 3444) = c) (hk : (nbF c).toInt = (k : Int)) (hbd : bhF (gat (Ic 2201) (Ac 23)) (I 3445) (I 3444) c (nbF c) k = b) (hb : ¬ b < 0) (hq : 242 < c ∧ c < 247) : plO (gmt (A 54)) (I 3445) (I 3444) ∧ 1 ≤ k ∧ (gmt (A 54) (I 3444) - 243 + 1).toInt = (k : Int) := by
  have h7 := a_7 R
  have hnr := nbF_r (c := c)
  obtain ⟨e1, e2, e3, e4⟩ := bh_fit R.2.1.2.1 hlt R.1.2.1 hnr (by rw [hbd]; exact hb)
  rw [hbd, hk] at e1
  rw [hbd] at e2
  have hk4 := i_le.mp hnr.2
  rw [hk, show (4 : Int32).toInt = 4 from rfl] at hk4
  have en := nbF_T (c := c) hq.1 hq.2
  have efx := q_fx14 (Or.inl hq)
  rw [efx] at e1 e3 e4
  rw [show (14 : Int32).toInt = 14 from rfl] at e1
  have hkp := i_le.mp (q_pT hq)
  rw [hk, z1] at hkp
  have ekc : (c - 243 + 1).toInt = (k : Int) := by rw [← en]; exact hk
  have ebq : (bQ (gmt (A 54)) (I 3444)).toInt = (I 3444).toInt + 1 + k := by
    show (I 3444 + 1 + (gmt (A 54) (I 3444) - 243 + 1)).toInt = _
    rw [hc]
    have e1 : (I 3444 + 1).toInt = (I 3444).toInt + 1 := by rw [i_add (by rw [z1]; omega) (by rw [z1]; omega), z1]
    rw [i_add (by rw [e1, ekc]; omega) (by rw [e1, ekc]; omega), e1, ekc]
  have hq12 : ∀ (j : Nat), j < 14 → gat (Ic 2201) (Ac 23) (bQ (gmt (A 54)) (I 3444) + Int32.ofNat j) = gmt (A 54) (bQ (gmt (A 54)) (I 3444) + Int32.ofNat j) := by
    intro j hj
    have ej : (bQ (gmt (A 54)) (I 3444) + Int32.ofNat j).toInt = (bQ (gmt (A 54)) (I 3444)).toInt + j := by rw [i_add (by rw [i_of (by omega)]; omega) (by rw [i_of (by omega)]; omega), i_of (by omega)]
    exact gR R.1 (i_le.mpr (by rw [z0, ej]; omega)) (i_lt.mpr (by rw [ej]; omega))
  have etx : txF (gat (Ic 2201) (Ac 23)) c (nbF c) k (I 3444 + 1 + (nbF c + 14)) = nSz (gmt (A 54)) (bQ (gmt (A 54)) (I 3444)) := by
    obtain ⟨y1, y2, y3, y4⟩ := q_tx (x := I 3444) hq
    unfold txF
    rw [if_neg y1, if_pos y2, en, y3, y4]
    show gat (Ic 2201) (Ac 23) (I 3444 + 1 + (c - 243 + 1) + 12) + gat (Ic 2201) (Ac 23) (I 3444 + 1 + (c - 243 + 1) + 13) = gmt (A 54) (I 3444 + 1 + (gmt (A 54) (I 3444) - 243 + 1) + 12) + gmt (A 54) (I 3444 + 1 + (gmt (A 54) (I 3444) - 243 + 1) + 13)
    have g12 : gat (Ic 2201) (Ac 23) (I 3444 + 1 + (gmt (A 54) (I 3444) - 243 + 1) + 12) = gmt (A 54) (I 3444 + 1 + (gmt (A 54) (I 3444) - 243 + 1) + 12) := hq12 12 (by decide)
    have g13 : gat (Ic 2201) (Ac 23) (I 3444 + 1 + (gmt (A 54) (I 3444) - 243 + 1) + 13) = gmt (A 54) (I 3444 + 1 + (gmt (A 54) (I 3444) - 243 + 1) + 13) := hq12 13 (by decide)
    rw [← g12, ← g13, hc]
  rw [etx] at e1 e4
  refine ⟨⟨R.2.1.2.1, i_lt.mpr (by rw [z7]; have := i_lt.mp hlt; omega), by rw [hc]; exact (q_def hq).1, by rw [hc]; exact (q_def hq).2, ?_⟩, by omega, by rw [hc]; exact ekc⟩
  show (bQ (gmt (A 54)) (I 3444)).toInt + 14 + (nSz (gmt (A 54)) (bQ (gmt (A 54)) (I 3444))).toInt ≤ (I 3445).toInt
  rw [ebq]
  omega
theorem tl_ok {Ic I : mI} {Ac A : mA} {m : Int} {c b : Int32} {k : Nat} (R : RR Ic Ac I A m) (hlt : I 3444 < I 3445) (hc : gmt (A 54) (I 3444) = c) (hk : (nbF c).toInt = (k : Int)) (hbd : bhF (gat (Ic 2201) (Ac 23)) (I 3445) (I 3444) c (nbF c) k = b) (hb : ¬ b < 0) (hq : 242 < c ∧ c < 247) : tlP I A k := by
  obtain ⟨f1, f2, f3, f4, f5, f6, f7, f8⟩ := ft_all R hlt hc hk hbd hb
  obtain ⟨d1, d2, d3⟩ := hatD R hlt hc hk hbd hb hq
  rw [q_fx14 (Or.inl hq), show (14 : Int32).toInt = 14 from rfl] at f1
  have rt := R.2.2.2.2.1
  have t3 := i_le.mp rt.2.2.1
  rw [show (256 : Int32).toInt = 256 from rfl] at t3
  refine ⟨d3, ⟨d2, f5⟩, by rw [f8]; omega, i_lt.mpr (by rw [show (69987 : Int32).toInt = 69987 from rfl]; omega), fun hn => ?_, d1⟩
  rcases fnd (x := nrd (gmt (A 54)) (I 3444 + 1) k) rt with ⟨l, a1, a2, a3, a4⟩ | ⟨a1, a3, a4⟩
  · rw [a4, cl_of (by omega)]
    exact ⟨i_in (by rw [i_of (by omega)]; omega) (by rw [i_of (by omega)]; omega), (rt.2.2.2.1 l a1).2.1⟩
  · rw [a4] at hn
    exact absurd (by decide) hn

def miT (I : mI) (A : mA) (L : mL) (c : Int32) (k : Nat) : xO → Prop := fun o => ∃ (w : Int32) (I2 : mI) (A2 : mA), o = (.inl (some (.int w)), pic I2 A2 L) ∧ t_within I A c k w I2 A2
def moT (I : mI) (A : mA) (L : mL) (c : Int32) (k : Nat) : xO → Prop := fun o => ∃ (w : Int32) (I2 : mI) (A2 : mA), o = (.inl (some (.int w)), pic I2 A2 L) ∧ t_outside I A c k w I2 A2
theorem m_within {Ic I : mI} {Ac A : mA} {L : mL} {m : Int} {c b : Int32} {k : Nat} (R : RR Ic Ac I A m) (hlt : I 3444 < I 3445) (hc : gmt (A 54) (I 3444) = c) (hk : (nbF c).toInt = (k : Int)) (hbd : bhF (gat (Ic 2201) (Ac 23)) (I 3445) (I 3444) c (nbF c) k = b) (hb : ¬ b < 0) (hst : I 3443 = 2) : xm m_Mo_within (5, 112) [.ref 34, .int c] (pic I A L) 0 0 (miT I A L c k) := by
  obtain ⟨f1, f2, f3, f4, f5, f6, f7, f8⟩ := ft_all R hlt hc hk hbd hb
  have hcr := gm_r (f := A 54) (p := I 3444)
  rw [hc] at hcr
  have rm := R.2.2.1
  have ri := R.2.2.2.2.2.2.2 hst
  have rt := R.2.2.2.2.1
  refine xm_mono (c_Mo_within_34 (k := k) hk hcr.1 (fun h => ?_) (fun h1 h2 h3 => ?_) (fun h => ?_) (fun h1 h2 => tl_ok R hlt hc hk hbd hb ⟨h1, h2⟩) R.2.1.2.1 R.1.2.1 rm.2.1 rm.2.2.1 ri.2.1 ri.2.2.1 rt.2.1 rt.2.2.1) (fun _ h => tq_within h)
  · have hp : 0 < nbF c := by
      rcases h with h | h | h
      · exact q_pA h
      · exact q_pB h
      · exact q_pF h
    have := i_lt.mp hp
    rw [z0, hk] at this
    exact ⟨by omega, f5, f7, by rw [f8]; omega⟩
  · have en := nbF_M (c := c) h2 h3
    rw [← en] at h1 ⊢
    have := i_lt.mp h1
    rw [z0, hk] at this
    exact ⟨hk, by omega, f5, f7, by rw [f8]; omega⟩
  · rw [q_fx8 h, show (8 : Int32).toInt = 8 from rfl] at f1
    exact i_lt.mpr (by rw [show (69992 : Int32).toInt = 69992 from rfl]; omega)
theorem m_outside {Ic I : mI} {Ac A : mA} {L : mL} {m : Int} {c b : Int32} {k : Nat} (R : RR Ic Ac I A m) (hlt : I 3444 < I 3445) (hc : gmt (A 54) (I 3444) = c) (hk : (nbF c).toInt = (k : Int)) (hbd : bhF (gat (Ic 2201) (Ac 23)) (I 3445) (I 3444) c (nbF c) k = b) (hb : ¬ b < 0) : xm m_Mo_outside (5, 112) [.ref 34, .int c] (pic I A L) 0 0 (moT I A L c k) := by
  obtain ⟨f1, f2, f3, f4, f5, f6, f7, f8⟩ := ft_all R hlt hc hk hbd hb
  have rp := R.2.2.2.1
  have rt := R.2.2.2.2.1
  refine xm_mono (c_Mo_outside_34 (k := k) (fun h => ?_) (fun h => ?_) (fun h => ?_) (fun h1 h2 => tl_ok R hlt hc hk hbd hb ⟨h1, h2⟩) R.2.1.2.1 R.1.2.1 rp.2.1 rp.2.2.1 rt.2.1 rt.2.2.1) (fun _ h => tq_outside h)
  · rw [q_fx44 h, show (44 : Int32).toInt = 44 from rfl] at f1
    exact i_lt.mpr (by rw [show (69956 : Int32).toInt = 69956 from rfl]; omega)
  · rw [q_fx28 h, show (28 : Int32).toInt = 28 from rfl] at f1
    exact i_lt.mpr (by rw [show (69972 : Int32).toInt = 69972 from rfl]; omega)
  · rw [q_fx5 h, show (5 : Int32).toInt = 5 from rfl] at f1
    exact i_lt.mpr (by rw [show (69995 : Int32).toInt = 69995 from rfl]; omega)
theorem m_may {Ic I : mI} {Ac A : mA} {L : mL} {m : Int} {c b : Int32} {k : Nat} (R : RR Ic Ac I A m) (hlt : I 3444 < I 3445) (hc : gmt (A 54) (I 3444) = c) (hk : (nbF c).toInt = (k : Int)) (hbd : bhF (gat (Ic 2201) (Ac 23)) (I 3445) (I 3444) c (nbF c) k = b) (hb : ¬ b < 0) : xm m_Mo_mayStand (1, 21) [.ref 34, .int c] (pic I A L) 0 0 (fun o => o = (.inl (some (.int (b2 (msF (gmt (A 54)) (I 3443) c (I 3444))))), pic I A L)) := by
  obtain ⟨f1, f2, f3, f4, f5, f6, f7, f8⟩ := ft_all R hlt hc hk hbd hb
  refine c_Mo_mayStand_34 R.2.1.2.1 (fun h => ?_) (fun h => ?_)
  · rw [q_fx14 (Or.inr h), show (14 : Int32).toInt = 14 from rfl] at f1
    exact i_lt.mpr (by rw [show (69986 : Int32).toInt = 69986 from rfl]; omega)
  · rw [q_fx5 h, show (5 : Int32).toInt = 5 from rfl] at f1
    exact i_lt.mpr (by rw [show (69995 : Int32).toInt = 69995 from rfl]; omega)
theorem ms_pure {g h : Int32 → Int32} {s c a : Int32} (h0 : 0 ≤ s) (h4 : s < 4) (h1 : c = 247 → g (a + 1) = h (a + 1)) (h5 : c = 249 → g (a + 5) = h (a + 5)) : msF h s c a ↔ csF g s c a := by
  rcases q_st h0 h4 with rfl | rfl | rfl | rfl
  · grind
  · grind
  · grind
  · grind
theorem ms_cs {Ic I : mI} {Ac A : mA} {m : Int} {c b : Int32} {k : Nat} (R : RR Ic Ac I A m) (hlt : I 3444 < I 3445) (hc : gmt (A 54) (I 3444) = c) (hk : (nbF c).toInt = (k : Int)) (hbd : bhF (gat (Ic 2201) (Ac 23)) (I 3445) (I 3444) c (nbF c) k = b) (hb : ¬ b < 0) (h4 : I 3443 < 4) : msF (gmt (A 54)) (I 3443) c (I 3444) ↔ csF (gat (Ic 2201) (Ac 23)) (I 3443) c (I 3444) := by
  obtain ⟨f1, f2, f3, f4, f5, f6, f7, f8⟩ := ft_all R hlt hc hk hbd hb
  refine ms_pure R.2.1.2.2.2.2.1 h4 (fun h => ?_) (fun h => ?_)
  · rw [q_fx14 (Or.inr h), show (14 : Int32).toInt = 14 from rfl] at f1
    have := gA R (c := 1) (n := 1) rfl (by decide) (by omega)
    rw [R.2.1.1] at this
    exact this
  · rw [q_fx5 h, show (5 : Int32).toInt = 5 from rfl] at f1
    have := gA R (c := 5) (n := 5) rfl (by decide) (by omega)
    rw [R.2.1.1] at this
    exact this

