theorem oc_move {J I2 : mI} {A A2 : mA} {k : Nat} {N : List Int32} {f c : Int32} (h4 : ¬ J 3106 = 4) (hc : J 3108 = c) (hq : 143 ≤ c ∧ c < 171) (h : t_obey J A k N f I2 A2) : t_Rd_obeyMove J A k f I2 A2 := by
  subst hc
  rcases h with ⟨h1, h2⟩ | ⟨h1, h2⟩ | ⟨h1, h2⟩ | ⟨h1, h2⟩ | ⟨h1, h2⟩ | ⟨h1, h2⟩ | ⟨h1, h2⟩ | ⟨h1, h2⟩ | ⟨h1, h2⟩ | ⟨h1, h2⟩ | ⟨h1, h2⟩ | ⟨h1, h2⟩ | ⟨h1, h2⟩ | ⟨h1, h2⟩ | ⟨h1, h2⟩ | ⟨h1, h2⟩
  · exfalso; grind
  · exact h2
  · exfalso; grind
  · exfalso; grind
  · exfalso; grind
  · exfalso; grind
  · exfalso; grind
  · exfalso; grind
  · exfalso; grind
  · exfalso; grind
  · exfalso; grind
  · exfalso; grind
  · exfalso; grind
  · exfalso; grind
  · exfalso; grind
  · exfalso; grind
theorem oc_font {J I2 : mI} {A A2 : mA} {k : Nat} {N : List Int32} {f c : Int32} (h4 : ¬ J 3106 = 4) (hc : J 3108 = c) (hq : 171 ≤ c ∧ c ≤ 238) (h : t_obey J A k N f I2 A2) : t_Rd_obeyFont J A k f I2 A2 := by
  subst hc
  rcases h with ⟨h1, h2⟩ | ⟨h1, h2⟩ | ⟨h1, h2⟩ | ⟨h1, h2⟩ | ⟨h1, h2⟩ | ⟨h1, h2⟩ | ⟨h1, h2⟩ | ⟨h1, h2⟩ | ⟨h1, h2⟩ | ⟨h1, h2⟩ | ⟨h1, h2⟩ | ⟨h1, h2⟩ | ⟨h1, h2⟩ | ⟨h1, h2⟩ | ⟨h1, h2⟩ | ⟨h1, h2⟩
  · exfalso; grind
  · exfalso; grind
  · exact h2
  · exfalso; grind
  · exfalso; grind
  · exfalso; grind
  · exfalso; grind
  · exfalso; grind
  · exfalso; grind
  · exfalso; grind
  · exfalso; grind
  · exfalso; grind
  · exfalso; grind
  · exfalso; grind
  · exfalso; grind
  · exfalso; grind
theorem oc_defi {J I2 : mI} {A A2 : mA} {k : Nat} {N : List Int32} {f c : Int32} (h4 : ¬ J 3106 = 4) (hc : J 3108 = c) (hq : 243 ≤ c ∧ c ≤ 246) (h : t_obey J A k N f I2 A2) : t_Rd_obeyDefinition J A k N f I2 A2 := by
  subst hc
  rcases h with ⟨h1, h2⟩ | ⟨h1, h2⟩ | ⟨h1, h2⟩ | ⟨h1, h2⟩ | ⟨h1, h2⟩ | ⟨h1, h2⟩ | ⟨h1, h2⟩ | ⟨h1, h2⟩ | ⟨h1, h2⟩ | ⟨h1, h2⟩ | ⟨h1, h2⟩ | ⟨h1, h2⟩ | ⟨h1, h2⟩ | ⟨h1, h2⟩ | ⟨h1, h2⟩ | ⟨h1, h2⟩
  · exfalso; grind
  · exfalso; grind
  · exfalso; grind
  · exact h2
  · exfalso; grind
  · exfalso; grind
  · exfalso; grind
  · exfalso; grind
  · exfalso; grind
  · exfalso; grind
  · exfalso; grind
  · exfalso; grind
  · exfalso; grind
  · exfalso; grind
  · exfalso; grind
  · exfalso; grind
theorem oc_rule {J I2 : mI} {A A2 : mA} {k : Nat} {N : List Int32} {f c : Int32} (h4 : ¬ J 3106 = 4) (hc : J 3108 = c) (hq : c = 132 ∨ c = 137) (h : t_obey J A k N f I2 A2) : t_Rd_obeyRule J A f I2 A2 := by
  subst hc
  rcases h with ⟨h1, h2⟩ | ⟨h1, h2⟩ | ⟨h1, h2⟩ | ⟨h1, h2⟩ | ⟨h1, h2⟩ | ⟨h1, h2⟩ | ⟨h1, h2⟩ | ⟨h1, h2⟩ | ⟨h1, h2⟩ | ⟨h1, h2⟩ | ⟨h1, h2⟩ | ⟨h1, h2⟩ | ⟨h1, h2⟩ | ⟨h1, h2⟩ | ⟨h1, h2⟩ | ⟨h1, h2⟩
  · exfalso; grind
  · exfalso; grind
  · exfalso; grind
  · exfalso; grind
  · exact h2
  · exfalso; grind
  · exfalso; grind
  · exfalso; grind
  · exfalso; grind
  · exfalso; grind
  · exfalso; grind
  · exfalso; grind
  · exfalso; grind
  · exfalso; grind
  · exfalso; grind
  · exfalso; grind
theorem oc_beg {J I2 : mI} {A A2 : mA} {k : Nat} {N : List Int32} {f c : Int32} (h4 : ¬ J 3106 = 4) (hc : J 3108 = c) (hq : c = 139) (h : t_obey J A k N f I2 A2) : t_Rd_obeyBegin J A f I2 A2 := by
  subst hc
  rcases h with ⟨h1, h2⟩ | ⟨h1, h2⟩ | ⟨h1, h2⟩ | ⟨h1, h2⟩ | ⟨h1, h2⟩ | ⟨h1, h2⟩ | ⟨h1, h2⟩ | ⟨h1, h2⟩ | ⟨h1, h2⟩ | ⟨h1, h2⟩ | ⟨h1, h2⟩ | ⟨h1, h2⟩ | ⟨h1, h2⟩ | ⟨h1, h2⟩ | ⟨h1, h2⟩ | ⟨h1, h2⟩
  · exfalso; grind
  · exfalso; grind
  · exfalso; grind
  · exfalso; grind
  · exfalso; grind
  · exact h2
  · exfalso; grind
  · exfalso; grind
  · exfalso; grind
  · exfalso; grind
  · exfalso; grind
  · exfalso; grind
  · exfalso; grind
  · exfalso; grind
  · exfalso; grind
  · exfalso; grind
theorem oc_push {J I2 : mI} {A A2 : mA} {k : Nat} {N : List Int32} {f c : Int32} (h4 : ¬ J 3106 = 4) (hc : J 3108 = c) (hq : c = 141) (h : t_obey J A k N f I2 A2) : t_Rd_obeyPush J A f I2 A2 := by
  subst hc
  rcases h with ⟨h1, h2⟩ | ⟨h1, h2⟩ | ⟨h1, h2⟩ | ⟨h1, h2⟩ | ⟨h1, h2⟩ | ⟨h1, h2⟩ | ⟨h1, h2⟩ | ⟨h1, h2⟩ | ⟨h1, h2⟩ | ⟨h1, h2⟩ | ⟨h1, h2⟩ | ⟨h1, h2⟩ | ⟨h1, h2⟩ | ⟨h1, h2⟩ | ⟨h1, h2⟩ | ⟨h1, h2⟩
  · exfalso; grind
  · exfalso; grind
  · exfalso; grind
  · exfalso; grind
  · exfalso; grind
  · exfalso; grind
  · exfalso; grind
  · exfalso; grind
  · exact h2
  · exfalso; grind
  · exfalso; grind
  · exfalso; grind
  · exfalso; grind
  · exfalso; grind
  · exfalso; grind
  · exfalso; grind
theorem oc_pop {J I2 : mI} {A A2 : mA} {k : Nat} {N : List Int32} {f c : Int32} (h4 : ¬ J 3106 = 4) (hc : J 3108 = c) (hq : c = 142) (h : t_obey J A k N f I2 A2) : t_Rd_obeyPop J A f I2 A2 := by
  subst hc
  rcases h with ⟨h1, h2⟩ | ⟨h1, h2⟩ | ⟨h1, h2⟩ | ⟨h1, h2⟩ | ⟨h1, h2⟩ | ⟨h1, h2⟩ | ⟨h1, h2⟩ | ⟨h1, h2⟩ | ⟨h1, h2⟩ | ⟨h1, h2⟩ | ⟨h1, h2⟩ | ⟨h1, h2⟩ | ⟨h1, h2⟩ | ⟨h1, h2⟩ | ⟨h1, h2⟩ | ⟨h1, h2⟩
  · exfalso; grind
  · exfalso; grind
  · exfalso; grind
  · exfalso; grind
  · exfalso; grind
  · exfalso; grind
  · exfalso; grind
  · exfalso; grind
  · exfalso; grind
  · exact h2
  · exfalso; grind
  · exfalso; grind
  · exfalso; grind
  · exfalso; grind
  · exfalso; grind
  · exfalso; grind
theorem oc_last {J I2 : mI} {A A2 : mA} {k : Nat} {N : List Int32} {f c : Int32} (h4 : ¬ J 3106 = 4) (hc : J 3108 = c) (hq : c = 248) (h : t_obey J A k N f I2 A2) : t_Rd_obeyLast J A f I2 A2 := by
  subst hc
  rcases h with ⟨h1, h2⟩ | ⟨h1, h2⟩ | ⟨h1, h2⟩ | ⟨h1, h2⟩ | ⟨h1, h2⟩ | ⟨h1, h2⟩ | ⟨h1, h2⟩ | ⟨h1, h2⟩ | ⟨h1, h2⟩ | ⟨h1, h2⟩ | ⟨h1, h2⟩ | ⟨h1, h2⟩ | ⟨h1, h2⟩ | ⟨h1, h2⟩ | ⟨h1, h2⟩ | ⟨h1, h2⟩
  · exfalso; grind
  · exfalso; grind
  · exfalso; grind
  · exfalso; grind
  · exfalso; grind
  · exfalso; grind
  · exfalso; grind
  · exfalso; grind
  · exfalso; grind
  · exfalso; grind
  · exfalso; grind
  · exact h2
  · exfalso; grind
  · exfalso; grind
  · exfalso; grind
  · exfalso; grind
theorem oc_chr {J I2 : mI} {A A2 : mA} {k : Nat} {N : List Int32} {f c : Int32} (h4 : ¬ J 3106 = 4) (hc : J 3108 = c) (hq : c ≤ 136 ∧ ¬ c = 132) (h : t_obey J A k N f I2 A2) : t_Rd_obeyCharacter J A k f I2 A2 := by
  subst hc
  rcases h with ⟨h1, h2⟩ | ⟨h1, h2⟩ | ⟨h1, h2⟩ | ⟨h1, h2⟩ | ⟨h1, h2⟩ | ⟨h1, h2⟩ | ⟨h1, h2⟩ | ⟨h1, h2⟩ | ⟨h1, h2⟩ | ⟨h1, h2⟩ | ⟨h1, h2⟩ | ⟨h1, h2⟩ | ⟨h1, h2⟩ | ⟨h1, h2⟩ | ⟨h1, h2⟩ | ⟨h1, h2⟩
  · exfalso; grind
  · exfalso; grind
  · exfalso; grind
  · exfalso; grind
  · exfalso; grind
  · exfalso; grind
  · exfalso; grind
  · exfalso; grind
  · exfalso; grind
  · exfalso; grind
  · exfalso; grind
  · exfalso; grind
  · exfalso; grind
  · exfalso; grind
  · exact h2
  · exfalso; grind
theorem oc_end {J I2 : mI} {A A2 : mA} {k : Nat} {N : List Int32} {f c : Int32} (h4 : ¬ J 3106 = 4) (hc : J 3108 = c) (hq : c = 140) (h : t_obey J A k N f I2 A2) : (0 < J 3105 ∧ f = 4 ∧ I2 = upd J 3106 1 ∧ A2 = A) ∨ (¬ 0 < J 3105 ∧ f = 0 ∧ I2 = upd J 3106 1 ∧ A2 = A) := by
  subst hc
  rcases h with ⟨h1, h2⟩ | ⟨h1, h2⟩ | ⟨h1, h2⟩ | ⟨h1, h2⟩ | ⟨h1, h2⟩ | ⟨h1, h2⟩ | ⟨h1, h2⟩ | ⟨h1, h2⟩ | ⟨h1, h2⟩ | ⟨h1, h2⟩ | ⟨h1, h2⟩ | ⟨h1, h2⟩ | ⟨h1, h2⟩ | ⟨h1, h2⟩ | ⟨h1, h2⟩ | ⟨h1, h2⟩
  · exfalso; grind
  · exfalso; grind
  · exfalso; grind
  · exfalso; grind
  · exfalso; grind
  · exfalso; grind
  · exact Or.inl ⟨h1.2.2, h2⟩
  · exact Or.inr ⟨h1.2.2, h2⟩
  · exfalso; grind
  · exfalso; grind
  · exfalso; grind
  · exfalso; grind
  · exfalso; grind
  · exfalso; grind
  · exfalso; grind
  · exfalso; grind
theorem oc_first {J I2 : mI} {A A2 : mA} {k : Nat} {N : List Int32} {f c : Int32} (h4 : ¬ J 3106 = 4) (hc : J 3108 = c) (hq : c = 247) (h : t_obey J A k N f I2 A2) : f = 0 ∧ I2 = upd (upd J 3106 1) 2408 (nrd (gat (J 2201) (A 23)) (J 3107 + 10) 4) ∧ A2 = A := by
  subst hc
  rcases h with ⟨h1, h2⟩ | ⟨h1, h2⟩ | ⟨h1, h2⟩ | ⟨h1, h2⟩ | ⟨h1, h2⟩ | ⟨h1, h2⟩ | ⟨h1, h2⟩ | ⟨h1, h2⟩ | ⟨h1, h2⟩ | ⟨h1, h2⟩ | ⟨h1, h2⟩ | ⟨h1, h2⟩ | ⟨h1, h2⟩ | ⟨h1, h2⟩ | ⟨h1, h2⟩ | ⟨h1, h2⟩
  · exfalso; grind
  · exfalso; grind
  · exfalso; grind
  · exfalso; grind
  · exfalso; grind
  · exfalso; grind
  · exfalso; grind
  · exfalso; grind
  · exfalso; grind
  · exfalso; grind
  · exact h2
  · exfalso; grind
  · exfalso; grind
  · exfalso; grind
  · exfalso; grind
  · exfalso; grind
theorem oc_vlast {J I2 : mI} {A A2 : mA} {k : Nat} {N : List Int32} {f c : Int32} (h4 : ¬ J 3106 = 4) (hc : J 3108 = c) (hq : c = 249) (h : t_obey J A k N f I2 A2) : (nrd (gat (J 2201) (A 23)) (J 3107 + 1) 4 = J 3112 ∧ f = 0 ∧ I2 = upd J 3106 4 ∧ A2 = A) ∨ (¬ nrd (gat (J 2201) (A 23)) (J 3107 + 1) 4 = J 3112 ∧ f = 5 ∧ I2 = upd J 3106 4 ∧ A2 = A) := by
  subst hc
  rcases h with ⟨h1, h2⟩ | ⟨h1, h2⟩ | ⟨h1, h2⟩ | ⟨h1, h2⟩ | ⟨h1, h2⟩ | ⟨h1, h2⟩ | ⟨h1, h2⟩ | ⟨h1, h2⟩ | ⟨h1, h2⟩ | ⟨h1, h2⟩ | ⟨h1, h2⟩ | ⟨h1, h2⟩ | ⟨h1, h2⟩ | ⟨h1, h2⟩ | ⟨h1, h2⟩ | ⟨h1, h2⟩
  · exfalso; grind
  · exfalso; grind
  · exfalso; grind
  · exfalso; grind
  · exfalso; grind
  · exfalso; grind
  · exfalso; grind
  · exfalso; grind
  · exfalso; grind
  · exfalso; grind
  · exfalso; grind
  · exfalso; grind
  · exact Or.inl ⟨h1.2.2, h2⟩
  · exact Or.inr ⟨h1.2.2, h2⟩
  · exfalso; grind
  · exfalso; grind
theorem oc_nop {J I2 : mI} {A A2 : mA} {k : Nat} {N : List Int32} {f c : Int32} (h4 : ¬ J 3106 = 4) (hc : J 3108 = c) (hq : c = 138 ∨ (239 ≤ c ∧ c ≤ 242)) (h : t_obey J A k N f I2 A2) : f = 0 ∧ I2 = J ∧ A2 = A := by
  subst hc
  rcases h with ⟨h1, h2⟩ | ⟨h1, h2⟩ | ⟨h1, h2⟩ | ⟨h1, h2⟩ | ⟨h1, h2⟩ | ⟨h1, h2⟩ | ⟨h1, h2⟩ | ⟨h1, h2⟩ | ⟨h1, h2⟩ | ⟨h1, h2⟩ | ⟨h1, h2⟩ | ⟨h1, h2⟩ | ⟨h1, h2⟩ | ⟨h1, h2⟩ | ⟨h1, h2⟩ | ⟨h1, h2⟩
  · exfalso; grind
  · exfalso; grind
  · exfalso; grind
  · exfalso; grind
  · exfalso; grind
  · exfalso; grind
  · exfalso; grind
  · exfalso; grind
  · exfalso; grind
  · exfalso; grind
  · exfalso; grind
  · exfalso; grind
  · exfalso; grind
  · exfalso; grind
  · exfalso; grind
  · exact h2
theorem oc_fill {J I2 : mI} {A A2 : mA} {k : Nat} {N : List Int32} {f : Int32} (h4 : J 3106 = 4) (h : t_obey J A k N f I2 A2) : f = 0 ∧ I2 = upd J 3113 (J 3113 + 1) ∧ A2 = A := by
  rcases h with ⟨h1, h2⟩ | ⟨h1, h2⟩ | ⟨h1, h2⟩ | ⟨h1, h2⟩ | ⟨h1, h2⟩ | ⟨h1, h2⟩ | ⟨h1, h2⟩ | ⟨h1, h2⟩ | ⟨h1, h2⟩ | ⟨h1, h2⟩ | ⟨h1, h2⟩ | ⟨h1, h2⟩ | ⟨h1, h2⟩ | ⟨h1, h2⟩ | ⟨h1, h2⟩ | ⟨h1, h2⟩
  · exact h2
  · exact absurd h4 h1.1
  · exact absurd h4 h1.1
  · exact absurd h4 h1.1
  · exact absurd h4 h1.1
  · exact absurd h4 h1.1
  · exact absurd h4 h1.1
  · exact absurd h4 h1.1
  · exact absurd h4 h1.1
  · exact absurd h4 h1.1
  · exact absurd h4 h1.1
  · exact absurd h4 h1.1
  · exact absurd h4 h1.1
  · exact absurd h4 h1.1
  · exact absurd h4 h1.1
  · exact absurd h4 h1.1
theorem wi_chr0 {I I2 : mI} {A A2 : mA} {k : Nat} {w c : Int32} (hq : c < 128) (h : t_within I A c k w I2 A2) : t_Mo_setCharacter I A c 1 w I2 A2 := by
  rcases h with ⟨h1, h2⟩ | ⟨h1, h2⟩ | ⟨h1, h2⟩ | ⟨h1, h2⟩ | ⟨h1, h2⟩ | ⟨h1, h2⟩ | ⟨h1, h2⟩ | ⟨h1, h2⟩ | ⟨h1, h2⟩ | ⟨h1, h2⟩ | ⟨h1, h2⟩ | ⟨h1, h2⟩ | ⟨h1, h2⟩ | ⟨h1, h2⟩
  · exact h2
  · exfalso; grind
  · exfalso; grind
  · exfalso; grind
  · exfalso; grind
  · exfalso; grind
  · exfalso; grind
  · exfalso; grind
  · exfalso; grind
  · exfalso; grind
  · exfalso; grind
  · exfalso; grind
  · exfalso; grind
  · exfalso; grind
theorem wi_chr1 {I I2 : mI} {A A2 : mA} {k : Nat} {w c : Int32} (hq : 128 ≤ c ∧ c < 132) (h : t_within I A c k w I2 A2) : t_Mo_setCharacter I A (nrd (gmt (A 54)) (I 3444 + 1) k) 1 w I2 A2 := by
  rcases h with ⟨h1, h2⟩ | ⟨h1, h2⟩ | ⟨h1, h2⟩ | ⟨h1, h2⟩ | ⟨h1, h2⟩ | ⟨h1, h2⟩ | ⟨h1, h2⟩ | ⟨h1, h2⟩ | ⟨h1, h2⟩ | ⟨h1, h2⟩ | ⟨h1, h2⟩ | ⟨h1, h2⟩ | ⟨h1, h2⟩ | ⟨h1, h2⟩
  · exfalso; grind
  · exact h2
  · exfalso; grind
  · exfalso; grind
  · exfalso; grind
  · exfalso; grind
  · exfalso; grind
  · exfalso; grind
  · exfalso; grind
  · exfalso; grind
  · exfalso; grind
  · exfalso; grind
  · exfalso; grind
  · exfalso; grind
theorem wi_rul1 {I I2 : mI} {A A2 : mA} {k : Nat} {w c : Int32} (hq : c = 132) (h : t_within I A c k w I2 A2) : t_Mo_setRule I A 1 w I2 A2 := by
  rcases h with ⟨h1, h2⟩ | ⟨h1, h2⟩ | ⟨h1, h2⟩ | ⟨h1, h2⟩ | ⟨h1, h2⟩ | ⟨h1, h2⟩ | ⟨h1, h2⟩ | ⟨h1, h2⟩ | ⟨h1, h2⟩ | ⟨h1, h2⟩ | ⟨h1, h2⟩ | ⟨h1, h2⟩ | ⟨h1, h2⟩ | ⟨h1, h2⟩
  · exfalso; grind
  · exfalso; grind
  · exact h2
  · exfalso; grind
  · exfalso; grind
  · exfalso; grind
  · exfalso; grind
  · exfalso; grind
  · exfalso; grind
  · exfalso; grind
  · exfalso; grind
  · exfalso; grind
  · exfalso; grind
  · exfalso; grind
theorem wi_chr2 {I I2 : mI} {A A2 : mA} {k : Nat} {w c : Int32} (hq : 132 < c ∧ c < 137) (h : t_within I A c k w I2 A2) : t_Mo_setCharacter I A (nrd (gmt (A 54)) (I 3444 + 1) k) 0 w I2 A2 := by
  rcases h with ⟨h1, h2⟩ | ⟨h1, h2⟩ | ⟨h1, h2⟩ | ⟨h1, h2⟩ | ⟨h1, h2⟩ | ⟨h1, h2⟩ | ⟨h1, h2⟩ | ⟨h1, h2⟩ | ⟨h1, h2⟩ | ⟨h1, h2⟩ | ⟨h1, h2⟩ | ⟨h1, h2⟩ | ⟨h1, h2⟩ | ⟨h1, h2⟩
  · exfalso; grind
  · exfalso; grind
  · exfalso; grind
  · exact h2
  · exfalso; grind
  · exfalso; grind
  · exfalso; grind
  · exfalso; grind
  · exfalso; grind
  · exfalso; grind
  · exfalso; grind
  · exfalso; grind
  · exfalso; grind
  · exfalso; grind
theorem wi_rul0 {I I2 : mI} {A A2 : mA} {k : Nat} {w c : Int32} (hq : c = 137) (h : t_within I A c k w I2 A2) : t_Mo_setRule I A 0 w I2 A2 := by
  rcases h with ⟨h1, h2⟩ | ⟨h1, h2⟩ | ⟨h1, h2⟩ | ⟨h1, h2⟩ | ⟨h1, h2⟩ | ⟨h1, h2⟩ | ⟨h1, h2⟩ | ⟨h1, h2⟩ | ⟨h1, h2⟩ | ⟨h1, h2⟩ | ⟨h1, h2⟩ | ⟨h1, h2⟩ | ⟨h1, h2⟩ | ⟨h1, h2⟩
  · exfalso; grind
  · exfalso; grind
  · exfalso; grind
  · exfalso; grind
  · exact h2
  · exfalso; grind
  · exfalso; grind
  · exfalso; grind
  · exfalso; grind
  · exfalso; grind
  · exfalso; grind
  · exfalso; grind
  · exfalso; grind
  · exfalso; grind
theorem wi_push {I I2 : mI} {A A2 : mA} {k : Nat} {w c : Int32} (hq : c = 141) (h : t_within I A c k w I2 A2) : t_Mo_push I A w I2 A2 := by
  rcases h with ⟨h1, h2⟩ | ⟨h1, h2⟩ | ⟨h1, h2⟩ | ⟨h1, h2⟩ | ⟨h1, h2⟩ | ⟨h1, h2⟩ | ⟨h1, h2⟩ | ⟨h1, h2⟩ | ⟨h1, h2⟩ | ⟨h1, h2⟩ | ⟨h1, h2⟩ | ⟨h1, h2⟩ | ⟨h1, h2⟩ | ⟨h1, h2⟩
  · exfalso; grind
  · exfalso; grind
  · exfalso; grind
  · exfalso; grind
  · exfalso; grind
  · exfalso; grind
  · exfalso; grind
  · exact h2
  · exfalso; grind
  · exfalso; grind
  · exfalso; grind
  · exfalso; grind
  · exfalso; grind
  · exfalso; grind
theorem wi_pop {I I2 : mI} {A A2 : mA} {k : Nat} {w c : Int32} (hq : c = 142) (h : t_within I A c k w I2 A2) : t_Mo_pop I A w I2 A2 := by
  rcases h with ⟨h1, h2⟩ | ⟨h1, h2⟩ | ⟨h1, h2⟩ | ⟨h1, h2⟩ | ⟨h1, h2⟩ | ⟨h1, h2⟩ | ⟨h1, h2⟩ | ⟨h1, h2⟩ | ⟨h1, h2⟩ | ⟨h1, h2⟩ | ⟨h1, h2⟩ | ⟨h1, h2⟩ | ⟨h1, h2⟩ | ⟨h1, h2⟩
  · exfalso; grind
  · exfalso; grind
  · exfalso; grind
  · exfalso; grind
  · exfalso; grind
  · exfalso; grind
  · exfalso; grind
  · exfalso; grind
  · exact h2
  · exfalso; grind
  · exfalso; grind
  · exfalso; grind
  · exfalso; grind
  · exfalso; grind
theorem wi_move {I I2 : mI} {A A2 : mA} {k : Nat} {w c : Int32} (hq : 142 < c ∧ c < 171) (h : t_within I A c k w I2 A2) : t_Mo_moveBy I A c k w I2 A2 := by
  rcases h with ⟨h1, h2⟩ | ⟨h1, h2⟩ | ⟨h1, h2⟩ | ⟨h1, h2⟩ | ⟨h1, h2⟩ | ⟨h1, h2⟩ | ⟨h1, h2⟩ | ⟨h1, h2⟩ | ⟨h1, h2⟩ | ⟨h1, h2⟩ | ⟨h1, h2⟩ | ⟨h1, h2⟩ | ⟨h1, h2⟩ | ⟨h1, h2⟩
  · exfalso; grind
  · exfalso; grind
  · exfalso; grind
  · exfalso; grind
  · exfalso; grind
  · exfalso; grind
  · exfalso; grind
  · exfalso; grind
  · exfalso; grind
  · exact h2
  · exfalso; grind
  · exfalso; grind
  · exfalso; grind
  · exfalso; grind
theorem wi_fon0 {I I2 : mI} {A A2 : mA} {k : Nat} {w c : Int32} (hq : 170 < c ∧ c < 235) (h : t_within I A c k w I2 A2) : t_Mo_take I A (c - 171) w I2 A2 := by
  rcases h with ⟨h1, h2⟩ | ⟨h1, h2⟩ | ⟨h1, h2⟩ | ⟨h1, h2⟩ | ⟨h1, h2⟩ | ⟨h1, h2⟩ | ⟨h1, h2⟩ | ⟨h1, h2⟩ | ⟨h1, h2⟩ | ⟨h1, h2⟩ | ⟨h1, h2⟩ | ⟨h1, h2⟩ | ⟨h1, h2⟩ | ⟨h1, h2⟩
  · exfalso; grind
  · exfalso; grind
  · exfalso; grind
  · exfalso; grind
  · exfalso; grind
  · exfalso; grind
  · exfalso; grind
  · exfalso; grind
  · exfalso; grind
  · exfalso; grind
  · exact h2
  · exfalso; grind
  · exfalso; grind
  · exfalso; grind
theorem wi_fon1 {I I2 : mI} {A A2 : mA} {k : Nat} {w c : Int32} (hq : 234 < c ∧ c < 239) (h : t_within I A c k w I2 A2) : t_Mo_take I A (nrd (gmt (A 54)) (I 3444 + 1) k) w I2 A2 := by
  rcases h with ⟨h1, h2⟩ | ⟨h1, h2⟩ | ⟨h1, h2⟩ | ⟨h1, h2⟩ | ⟨h1, h2⟩ | ⟨h1, h2⟩ | ⟨h1, h2⟩ | ⟨h1, h2⟩ | ⟨h1, h2⟩ | ⟨h1, h2⟩ | ⟨h1, h2⟩ | ⟨h1, h2⟩ | ⟨h1, h2⟩ | ⟨h1, h2⟩
  · exfalso; grind
  · exfalso; grind
  · exfalso; grind
  · exfalso; grind
  · exfalso; grind
  · exfalso; grind
  · exfalso; grind
  · exfalso; grind
  · exfalso; grind
  · exfalso; grind
  · exfalso; grind
  · exact h2
  · exfalso; grind
  · exfalso; grind
theorem wi_defi {I I2 : mI} {A A2 : mA} {k : Nat} {w c : Int32} (hq : 242 < c ∧ c < 247) (h : t_within I A c k w I2 A2) : t_Mo_tell I A k w I2 A2 := by
  rcases h with ⟨h1, h2⟩ | ⟨h1, h2⟩ | ⟨h1, h2⟩ | ⟨h1, h2⟩ | ⟨h1, h2⟩ | ⟨h1, h2⟩ | ⟨h1, h2⟩ | ⟨h1, h2⟩ | ⟨h1, h2⟩ | ⟨h1, h2⟩ | ⟨h1, h2⟩ | ⟨h1, h2⟩ | ⟨h1, h2⟩ | ⟨h1, h2⟩
  · exfalso; grind
  · exfalso; grind
  · exfalso; grind
  · exfalso; grind
  · exfalso; grind
  · exfalso; grind
  · exfalso; grind
  · exfalso; grind
  · exfalso; grind
  · exfalso; grind
  · exfalso; grind
  · exfalso; grind
  · exact h2
  · exfalso; grind
theorem wi_nop {I I2 : mI} {A A2 : mA} {k : Nat} {w c : Int32} (hq : c = 138 ∨ (238 < c ∧ c < 243)) (h : t_within I A c k w I2 A2) : w = 0 ∧ I2 = I ∧ A2 = A := by
  rcases h with ⟨h1, h2⟩ | ⟨h1, h2⟩ | ⟨h1, h2⟩ | ⟨h1, h2⟩ | ⟨h1, h2⟩ | ⟨h1, h2⟩ | ⟨h1, h2⟩ | ⟨h1, h2⟩ | ⟨h1, h2⟩ | ⟨h1, h2⟩ | ⟨h1, h2⟩ | ⟨h1, h2⟩ | ⟨h1, h2⟩ | ⟨h1, h2⟩
  · exfalso; grind
  · exfalso; grind
  · exfalso; grind
  · exfalso; grind
  · exfalso; grind
  · exfalso; grind
  · exfalso; grind
  · exfalso; grind
  · exfalso; grind
  · exfalso; grind
  · exfalso; grind
  · exfalso; grind
  · exfalso; grind
  · exact h2
theorem wi_end {I I2 : mI} {A A2 : mA} {k : Nat} {w c : Int32} (hq : c = 140) (h : t_within I A c k w I2 A2) : (0 < I 3450 ∧ w = 4 ∧ I2 = upd I 3443 (I 3443) ∧ A2 = A) ∨ (¬ 0 < I 3450 ∧ w = 0 ∧ I2 = upd I 3443 1 ∧ A2 = A) := by
  rcases h with ⟨h1, h2⟩ | ⟨h1, h2⟩ | ⟨h1, h2⟩ | ⟨h1, h2⟩ | ⟨h1, h2⟩ | ⟨h1, h2⟩ | ⟨h1, h2⟩ | ⟨h1, h2⟩ | ⟨h1, h2⟩ | ⟨h1, h2⟩ | ⟨h1, h2⟩ | ⟨h1, h2⟩ | ⟨h1, h2⟩ | ⟨h1, h2⟩
  · exfalso; grind
  · exfalso; grind
  · exfalso; grind
  · exfalso; grind
  · exfalso; grind
  · exact Or.inl ⟨h1.2, h2⟩
  · exact Or.inr ⟨h1.2, h2⟩
  · exfalso; grind
  · exfalso; grind
  · exfalso; grind
  · exfalso; grind
  · exfalso; grind
  · exfalso; grind
  · exfalso; grind
theorem ou_first {I I2 : mI} {A A2 : mA} {k : Nat} {w c : Int32} (hq : c = 247) (h : t_outside I A c k w I2 A2) : w = 0 ∧ I2 = upd I 3443 1 ∧ A2 = A := by
  rcases h with ⟨h1, h2⟩ | ⟨h1, h2⟩ | ⟨h1, h2⟩ | ⟨h1, h2⟩ | ⟨h1, h2⟩ | ⟨h1, h2⟩ | ⟨h1, h2⟩
  · exact h2
  · exfalso; grind
  · exfalso; grind
  · exfalso; grind
  · exfalso; grind
  · exfalso; grind
  · exfalso; grind
theorem ou_beg {I I2 : mI} {A A2 : mA} {k : Nat} {w c : Int32} (hq : c = 139) (h : t_outside I A c k w I2 A2) : t_Mo_beginPage I A w I2 A2 := by
  rcases h with ⟨h1, h2⟩ | ⟨h1, h2⟩ | ⟨h1, h2⟩ | ⟨h1, h2⟩ | ⟨h1, h2⟩ | ⟨h1, h2⟩ | ⟨h1, h2⟩
  · exfalso; grind
  · exact h2
  · exfalso; grind
  · exfalso; grind
  · exfalso; grind
  · exfalso; grind
  · exfalso; grind
theorem ou_last {I I2 : mI} {A A2 : mA} {k : Nat} {w c : Int32} (hq : c = 248) (h : t_outside I A c k w I2 A2) : t_Mo_post I A w I2 A2 := by
  rcases h with ⟨h1, h2⟩ | ⟨h1, h2⟩ | ⟨h1, h2⟩ | ⟨h1, h2⟩ | ⟨h1, h2⟩ | ⟨h1, h2⟩ | ⟨h1, h2⟩
  · exfalso; grind
  · exfalso; grind
  · exact h2
  · exfalso; grind
  · exfalso; grind
  · exfalso; grind
  · exfalso; grind
theorem ou_defi {I I2 : mI} {A A2 : mA} {k : Nat} {w c : Int32} (hq : 242 < c ∧ c < 247) (h : t_outside I A c k w I2 A2) : t_Mo_tell I A k w I2 A2 := by
  rcases h with ⟨h1, h2⟩ | ⟨h1, h2⟩ | ⟨h1, h2⟩ | ⟨h1, h2⟩ | ⟨h1, h2⟩ | ⟨h1, h2⟩ | ⟨h1, h2⟩
  · exfalso; grind
  · exfalso; grind
  · exfalso; grind
  · exfalso; grind
  · exfalso; grind
  · exact h2
  · exfalso; grind
theorem ou_nop {I I2 : mI} {A A2 : mA} {k : Nat} {w c : Int32} (hq : c = 138) (h : t_outside I A c k w I2 A2) : w = 0 ∧ I2 = I ∧ A2 = A := by
  rcases h with ⟨h1, h2⟩ | ⟨h1, h2⟩ | ⟨h1, h2⟩ | ⟨h1, h2⟩ | ⟨h1, h2⟩ | ⟨h1, h2⟩ | ⟨h1, h2⟩
  · exfalso; grind
  · exfalso; grind
  · exfalso; grind
  · exfalso; grind
  · exfalso; grind
  · exfalso; grind
  · exact h2
theorem ou_vlast {I I2 : mI} {A A2 : mA} {k : Nat} {w c : Int32} (hq : c = 249) (h : t_outside I A c k w I2 A2) : (nrd (gmt (A 54)) (I 3444 + 1) 4 = I 3447 ∧ w = 0 ∧ I2 = upd I 3443 4 ∧ A2 = A) ∨ (¬ nrd (gmt (A 54)) (I 3444 + 1) 4 = I 3447 ∧ w = 5 ∧ I2 = upd I 3443 4 ∧ A2 = A) := by
  rcases h with ⟨h1, h2⟩ | ⟨h1, h2⟩ | ⟨h1, h2⟩ | ⟨h1, h2⟩ | ⟨h1, h2⟩ | ⟨h1, h2⟩ | ⟨h1, h2⟩
  · exfalso; grind
  · exfalso; grind
  · exfalso; grind
  · exact Or.inl ⟨h1.2, h2⟩
  · exact Or.inr ⟨h1.2, h2⟩
  · exfalso; grind
  · exfalso; grind
theorem fs_Mo_setCharacter {I I2 : mI} {A A2 : mA} {w9 : Int32} {c : Int32} {mv : Int32} (h : t_Mo_setCharacter I A c mv w9 I2 A2) : I2 3443 = I 3443 ∧ I2 3444 = I 3444 ∧ I2 3445 = I 3445 := by
  rcases h with ⟨-, -, rfl, -⟩ | ⟨-, -, rfl, -⟩ | ⟨-, -, rfl, -⟩ | ⟨-, -, rfl, -⟩ | ⟨-, -, rfl, -⟩ | ⟨-, -, rfl, -⟩ | ⟨-, -, rfl, -⟩ | ⟨-, -, rfl, -⟩ | ⟨-, -, rfl, -⟩ | ⟨-, -, rfl, -⟩ | ⟨-, -, rfl, -⟩
  · exact ⟨rfl, rfl, rfl⟩
  · exact ⟨rfl, rfl, rfl⟩
  · exact ⟨rfl, rfl, rfl⟩
  · exact ⟨rfl, rfl, rfl⟩
  · exact ⟨rfl, rfl, rfl⟩
  · exact ⟨rfl, rfl, rfl⟩
  · exact ⟨rfl, rfl, rfl⟩
  · exact ⟨rfl, rfl, rfl⟩
  · exact ⟨rfl, rfl, rfl⟩
  · exact ⟨rfl, rfl, rfl⟩
  · exact ⟨rfl, rfl, rfl⟩
theorem fs_Mo_setRule {I I2 : mI} {A A2 : mA} {w9 : Int32} {mv : Int32} (h : t_Mo_setRule I A mv w9 I2 A2) : I2 3443 = I 3443 ∧ I2 3444 = I 3444 ∧ I2 3445 = I 3445 := by
  rcases h with ⟨-, -, rfl, -⟩ | ⟨-, -, rfl, -⟩ | ⟨-, -, rfl, -⟩ | ⟨-, -, rfl, -⟩ | ⟨-, -, rfl, -⟩ | ⟨-, -, rfl, -⟩ | ⟨-, -, rfl, -⟩
  · exact ⟨rfl, rfl, rfl⟩
  · exact ⟨rfl, rfl, rfl⟩
  · exact ⟨rfl, rfl, rfl⟩
  · exact ⟨rfl, rfl, rfl⟩
  · exact ⟨rfl, rfl, rfl⟩
  · exact ⟨rfl, rfl, rfl⟩
  · exact ⟨rfl, rfl, rfl⟩
theorem fs_Mo_push {I I2 : mI} {A A2 : mA} {w9 : Int32}  (h : t_Mo_push I A  w9 I2 A2) : I2 3443 = I 3443 ∧ I2 3444 = I 3444 ∧ I2 3445 = I 3445 := by
  rcases h with ⟨-, -, rfl, -⟩ | ⟨-, -, rfl, -⟩ | ⟨-, -, rfl, -⟩
  · exact ⟨rfl, rfl, rfl⟩
  · exact ⟨rfl, rfl, rfl⟩
  · exact ⟨rfl, rfl, rfl⟩
theorem fs_Mo_pop {I I2 : mI} {A A2 : mA} {w9 : Int32}  (h : t_Mo_pop I A  w9 I2 A2) : I2 3443 = I 3443 ∧ I2 3444 = I 3444 ∧ I2 3445 = I 3445 := by
  rcases h with ⟨-, -, rfl, -⟩ | ⟨-, -, rfl, -⟩
  · exact ⟨rfl, rfl, rfl⟩
  · exact ⟨rfl, rfl, rfl⟩
theorem fs_Mo_moveBy {I I2 : mI} {A A2 : mA} {w9 : Int32} {c : Int32} {k : Nat} (h : t_Mo_moveBy I A c k w9 I2 A2) : I2 3443 = I 3443 ∧ I2 3444 = I 3444 ∧ I2 3445 = I 3445 := by
  rcases h with ⟨-, -, rfl, -⟩ | ⟨-, -, rfl, -⟩ | ⟨-, -, rfl, -⟩ | ⟨-, -, rfl, -⟩ | ⟨-, -, rfl, -⟩ | ⟨-, -, rfl, -⟩ | ⟨-, -, rfl, -⟩ | ⟨-, -, rfl, -⟩ | ⟨-, -, rfl, -⟩ | ⟨-, -, rfl, -⟩ | ⟨-, -, rfl, -⟩ | ⟨-, -, rfl, -⟩ | ⟨-, -, rfl, -⟩ | ⟨-, -, rfl, -⟩ | ⟨-, -, rfl, -⟩ | ⟨-, -, rfl, -⟩ | ⟨-, -, rfl, -⟩ | ⟨-, -, rfl, -⟩ | ⟨-, -, rfl, -⟩ | ⟨-, -, rfl, -⟩ | ⟨-, -, rfl, -⟩ | ⟨-, -, rfl, -⟩ | ⟨-, -, rfl, -⟩ | ⟨-, -, rfl, -⟩
  · exact ⟨rfl, rfl, rfl⟩
  · exact ⟨rfl, rfl, rfl⟩
  · exact ⟨rfl, rfl, rfl⟩
  · exact ⟨rfl, rfl, rfl⟩
  · exact ⟨rfl, rfl, rfl⟩
  · exact ⟨rfl, rfl, rfl⟩
  · exact ⟨rfl, rfl, rfl⟩
  · exact ⟨rfl, rfl, rfl⟩
  · exact ⟨rfl, rfl, rfl⟩
  · exact ⟨rfl, rfl, rfl⟩
  · exact ⟨rfl, rfl, rfl⟩
  · exact ⟨rfl, rfl, rfl⟩
  · exact ⟨rfl, rfl, rfl⟩
  · exact ⟨rfl, rfl, rfl⟩
  · exact ⟨rfl, rfl, rfl⟩
  · exact ⟨rfl, rfl, rfl⟩
  · exact ⟨rfl, rfl, rfl⟩
  · exact ⟨rfl, rfl, rfl⟩
  · exact ⟨rfl, rfl, rfl⟩
  · exact ⟨rfl, rfl, rfl⟩
  · exact ⟨rfl, rfl, rfl⟩
  · exact ⟨rfl, rfl, rfl⟩
  · exact ⟨rfl, rfl, rfl⟩
  · exact ⟨rfl, rfl, rfl⟩
theorem fs_Mo_take {I I2 : mI} {A A2 : mA} {w9 : Int32} {f : Int32} (h : t_Mo_take I A f w9 I2 A2) : I2 3443 = I 3443 ∧ I2 3444 = I 3444 ∧ I2 3445 = I 3445 := by
  rcases h with ⟨-, -, rfl, -⟩ | ⟨-, -, rfl, -⟩
  · exact ⟨rfl, rfl, rfl⟩
  · exact ⟨rfl, rfl, rfl⟩
theorem fs_Mo_tell {I I2 : mI} {A A2 : mA} {w9 : Int32}  {k : Nat} (h : t_Mo_tell I A  k w9 I2 A2) : I2 3443 = I 3443 ∧ I2 3444 = I 3444 ∧ I2 3445 = I 3445 := by
  rcases h with ⟨-, -, rfl, -⟩ | ⟨-, -, rfl, -⟩ | ⟨-, -, rfl, -⟩ | ⟨-, -, rfl, -⟩ | ⟨-, -, rfl, -⟩
  · exact ⟨rfl, rfl, rfl⟩
  · exact ⟨rfl, rfl, rfl⟩
  · exact ⟨rfl, rfl, rfl⟩
  · exact ⟨rfl, rfl, rfl⟩
  · exact ⟨rfl, rfl, rfl⟩
theorem fs_Mo_beginPage {I I2 : mI} {A A2 : mA} {w9 : Int32} (h : t_Mo_beginPage I A w9 I2 A2) : (w9 = 0 → I2 3443 = 2) ∧ I2 3444 = I 3444 ∧ I2 3445 = I 3445 := by
  rcases h with ⟨-, rfl, rfl, -⟩ | ⟨-, rfl, rfl, -⟩ | ⟨-, rfl, rfl, -⟩
  · exact ⟨fun q => absurd q (by decide), rfl, rfl⟩
  · exact ⟨fun q => absurd q (by decide), rfl, rfl⟩
  · exact ⟨fun _ => rfl, rfl, rfl⟩
theorem fs_Mo_post {I I2 : mI} {A A2 : mA} {w9 : Int32} (h : t_Mo_post I A w9 I2 A2) : (w9 = 0 → I2 3443 = 3) ∧ I2 3444 = I 3444 ∧ I2 3445 = I 3445 := by
  rcases h with ⟨-, rfl, rfl, -⟩ | ⟨-, rfl, rfl, -⟩ | ⟨-, rfl, rfl, -⟩
  · exact ⟨fun q => absurd q (by decide), rfl, rfl⟩
  · exact ⟨fun q => absurd q (by decide), rfl, rfl⟩
  · exact ⟨fun _ => rfl, rfl, rfl⟩
