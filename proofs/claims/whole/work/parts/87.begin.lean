theorem NW_La_8 : xnw "DviBytesLaw" 8 8 [.null, .null, .null, .null, .null, .null, .null, .null] := ⟨_, _, _, y_Dv, rfl, rfl, in_Dv, by decide +kernel, xtb_at 82 (by decide +kernel) (by decide +kernel), xtb_at 83 (by decide +kernel) (by decide +kernel), xtb_at 62 (by decide +kernel) (by decide +kernel), by decide +kernel, rfl⟩
theorem NW_La_66 : xnw "DviBytesLaw" 66 9 [.int 0, .null, .null, .null, .null, .null, .null, .null, .null, .int 0, .null, .int 0, .int 0, .int 0, .int 0, .int 0, .int 0, .int 0, .int 0, .null, .int 0, .null, .null, .null, .null, .null, .null, .null, .null, .int 0, .null, .null, .int 0, .null, .int 0, .null, .int 0, .null, .null, .int 0, .int 0, .int 0, .int 0, .int 0, .int 0, .int 0, .int 0, .int 0, .int 0, .int 0, .int 0, .null, .null] := ⟨_, _, _, y_Mo, rfl, rfl, in_Mo, by decide +kernel, xtb_at 1006 (by decide +kernel) (by decide +kernel), xtb_at 1007 (by decide +kernel) (by decide +kernel), xtb_at 71 (by decide +kernel) (by decide +kernel), by decide +kernel, rfl⟩
theorem RL0 : RL I00 (fun _ _ => 0) (fun _ _ => 0) := by
  refine ⟨⟨⟨rfl, rfl, rfl, rfl⟩, rfl, rfl, fun f _ => ⟨(by decide : (0 : Int32) ≤ 0), (by decide : (0 : Int32) ≤ 16), ⟨fun q => absurd rfl q, fun q => absurd (show (0 : Int32) < 0 from q) (by decide)⟩, fun j hj => absurd hj (by show ¬ ((j : Int) < (0 : Int32).toInt); rw [z0]; omega)⟩⟩, ⟨rfl, rfl, ⟨by decide, by decide⟩, rfl, Or.inl rfl, rfl, rfl, rfl, rfl, rfl, rfl⟩, ⟨[], isB_0 _, isO_0 _, fun _ => by decide⟩, ⟨[], ⟨rfl, List.nodup_nil, fun i b h => (by cases h), fun x h => (by cases h), fun x _ _ => ⟨fun q => absurd rfl q, fun h => (by cases h)⟩⟩, isM_0 _⟩, ⟨rfl, by decide, by decide, fun k hk => absurd hk (by show ¬ ((k : Int) < (0 : Int32).toInt); rw [z0]; omega)⟩, ⟨[], isB_0 _, isB_0 _⟩, RE_z ⟨rfl, rfl, rfl, rfl, rfl, rfl, rfl, rfl⟩ ⟨rfl, rfl, rfl, rfl, rfl, rfl, rfl⟩, by decide⟩
set_option maxHeartbeats 2000000 in
theorem c_law {f : Nat → Int32} {n : Nat} (hn : n ≤ 5120) : xr m_La_law (some (n, f)) (10, 382) 0 [some (.ref 1000000), none, none, none, none, none, none] [] [] 601024 7293034 (fun o : xO => ∃ h, o = (.inl (some (.int 1)), h)) := by
  refine xr_new (rc' := 601023) (rs' := 7293026) NW_La_8 D_La_law_0 (Nat.le_of_ble_eq_true rfl) (Nat.le_of_ble_eq_true rfl) (Nat.le_of_ble_eq_true rfl) rfl rfl rfl ?_
  refine xr_dup D_La_law_3 rfl ?_
  refine xr_callIA (as := []) (c_Dv_init_0) (by rintro _ rfl; exact ⟨_, rfl⟩) rfl (L_La_65) (CD_Dv_init) rfl D_La_law_4 (by decide) (Nat.le_of_ble_eq_true rfl) (rc' := 600990) (rs' := 6984722) (Nat.le_of_ble_eq_true rfl) (Nat.le_of_ble_eq_true rfl) ?_
  intro v9 h9 e9
  cases e9
  refine ⟨Nat.le_of_ble_eq_true rfl, xw1_wf rfl rfl, ?_⟩
  refine xr_astore_n D_La_law_7 rfl (by decide) ?_
  refine xr_new (rc' := 600989) (rs' := 6984669) NW_La_66 D_La_law_8 (Nat.le_of_ble_eq_true rfl) (Nat.le_of_ble_eq_true rfl) (Nat.le_of_ble_eq_true rfl) rfl rfl rfl ?_
  refine xr_dup D_La_law_11 rfl ?_
  refine xr_callIA (as := []) (c_Mo_init_34) (by rintro _ rfl; exact ⟨_, rfl⟩) rfl (L_La_68) (CD_Mo_init) rfl D_La_law_12 (by decide) (Nat.le_of_ble_eq_true rfl) (rc' := 600963) (rs' := 6612295) (Nat.le_of_ble_eq_true rfl) (Nat.le_of_ble_eq_true rfl) ?_
  intro v9 h9 e9
  cases e9
  refine ⟨Nat.le_of_ble_eq_true rfl, xw1_wf rfl rfl, ?_⟩
  refine xr_astore_n D_La_law_15 rfl (by decide) ?_
  refine xr_iconst (v := 1) D_La_law_16 rfl ?_
  refine xr_newa (ty := .long) (a0 := (1, .inr (.inl (fun _ => 0)))) (N := 1) (rc' := 600962) (rs' := 6612294) D_La_law_17 rfl (by simp [xtok]) AC_long (fun _ => rfl) (by decide) rfl (Nat.le_of_ble_eq_true rfl) (Nat.le_of_ble_eq_true rfl) (Nat.le_of_ble_eq_true rfl) (Nat.le_of_ble_eq_true rfl) rfl rfl rfl ?_
  refine xr_astore_n D_La_law_19 rfl (by decide) ?_
  refine xr_iconst (v := 0) D_La_law_20 rfl ?_
  refine xr_istore D_La_law_21 (by decide) ?_
  exact xr_room (by decide) (by decide) (l_law hn 512 0 0 I00 (fun _ _ => 0) (fun _ _ => 0) none none rfl (by decide) (by omega) RL0)
