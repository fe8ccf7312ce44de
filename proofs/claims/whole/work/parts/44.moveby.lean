set_option maxHeartbeats 4000000 in
theorem c_Mo_moveBy_34 {I : mI} {A : mA} {L : mL} {c : Int32} {k : Nat} (hw : 0 < mbF c → (mbF c).toInt = (k : Int) ∧ 1 ≤ k ∧ k ≤ 4 ∧ 0 ≤ I 3444 + 1 ∧ (I 3444 + 1).toInt + k ≤ 70000) : xm m_Mo_moveBy (2, 46) [.ref 34, .int c] (pic I A L) 0 0 (fun o => ((((c < 147) ∧ 0 < mbF c) ∧ fitL (smG (A 60 0) (if (¬ (1 : Int32) = 0 ∧ mbF c < 4 ∧ 127 < gmt (A 54) (I 3444 + 1)) then nrd (gmt (A 54)) (I 3444 + 1) k - (1 <<< ((8 * mbF c) &&& 31)) else nrd (gmt (A 54)) (I 3444 + 1) k))) ∧ o = (.inl (some (.int 0)), pic I (upA A 60 0 (smG (A 60 0) (if (¬ (1 : Int32) = 0 ∧ mbF c < 4 ∧ 127 < gmt (A 54) (I 3444 + 1)) then nrd (gmt (A 54)) (I 3444 + 1) k - (1 <<< ((8 * mbF c) &&& 31)) else nrd (gmt (A 54)) (I 3444 + 1) k)).toInt32) L)) ∨ ((((c < 147) ∧ 0 < mbF c) ∧ ¬ fitL (smG (A 60 0) (if (¬ (1 : Int32) = 0 ∧ mbF c < 4 ∧ 127 < gmt (A 54) (I 3444 + 1)) then nrd (gmt (A 54)) (I 3444 + 1) k - (1 <<< ((8 * mbF c) &&& 31)) else nrd (gmt (A 54)) (I 3444 + 1) k))) ∧ o = (.inl (some (.int 8)), pic I A L)) ∨ ((((c < 147) ∧ ¬ 0 < mbF c) ∧ fitL (smG (A 60 0) (A 60 0))) ∧ o = (.inl (some (.int 0)), pic I (upA A 60 0 (smG (A 60 0) (A 60 0)).toInt32) L)) ∨ ((((c < 147) ∧ ¬ 0 < mbF c) ∧ ¬ fitL (smG (A 60 0) (A 60 0))) ∧ o = (.inl (some (.int 8)), pic I A L)) ∨ ((((¬ c < 147 ∧ c < 152) ∧ 0 < mbF c) ∧ fitL (smG (A 60 0) (if (¬ (1 : Int32) = 0 ∧ mbF c < 4 ∧ 127 < gmt (A 54) (I 3444 + 1)) then nrd (gmt (A 54)) (I 3444 + 1) k - (1 <<< ((8 * mbF c) &&& 31)) else nrd (gmt (A 54)) (I 3444 + 1) k))) ∧ o = (.inl (some (.int 0)), pic I (upA (upA A 60 0 (smG (A 60 0) (if (¬ (1 : Int32) = 0 ∧ mbF c < 4 ∧ 127 < gmt (A 54) (I 3444 + 1)) then nrd (gmt (A 54)) (I 3444 + 1) k - (1 <<< ((8 * mbF c) &&& 31)) else nrd (gmt (A 54)) (I 3444 + 1) k)).toInt32) 60 2 (if (¬ (1 : Int32) = 0 ∧ mbF c < 4 ∧ 127 < gmt (A 54) (I 3444 + 1)) then nrd (gmt (A 54)) (I 3444 + 1) k - (1 <<< ((8 * mbF c) &&& 31)) else nrd (gmt (A 54)) (I 3444 + 1) k)) L)) ∨ ((((¬ c < 147 ∧ c < 152) ∧ 0 < mbF c) ∧ ¬ fitL (smG (A 60 0) (if (¬ (1 : Int32) = 0 ∧ mbF c < 4 ∧ 127 < gmt (A 54) (I 3444 + 1)) then nrd (gmt (A 54)) (I 3444 + 1) k - (1 <<< ((8 * mbF c) &&& 31)) else nrd (gmt (A 54)) (I 3444 + 1) k))) ∧ o = (.inl (some (.int 8)), pic I A L)) ∨ ((((¬ c < 147 ∧ c < 152) ∧ ¬ 0 < mbF c) ∧ fitL (smG (A 60 0) (A 60 2))) ∧ o = (.inl (some (.int 0)), pic I (upA (upA A 60 0 (smG (A 60 0) (A 60 2)).toInt32) 60 2 (A 60 2)) L)) ∨ ((((¬ c < 147 ∧ c < 152) ∧ ¬ 0 < mbF c) ∧ ¬ fitL (smG (A 60 0) (A 60 2))) ∧ o = (.inl (some (.int 8)), pic I A L)) ∨ ((((¬ c < 152 ∧ c < 157) ∧ 0 < mbF c) ∧ fitL (smG (A 60 0) (if (¬ (1 : Int32) = 0 ∧ mbF c < 4 ∧ 127 < gmt (A 54) (I 3444 + 1)) then nrd (gmt (A 54)) (I 3444 + 1) k - (1 <<< ((8 * mbF c) &&& 31)) else nrd (gmt (A 54)) (I 3444 + 1) k))) ∧ o = (.inl (some (.int 0)), pic I (upA (upA A 60 0 (smG (A 60 0) (if (¬ (1 : Int32) = 0 ∧ mbF c < 4 ∧ 127 < gmt (A 54) (I 3444 + 1)) then nrd (gmt (A 54)) (I 3444 + 1) k - (1 <<< ((8 * mbF c) &&& 31)) else nrd (gmt (A 54)) (I 3444 + 1) k)).toInt32) 60 3 (if (¬ (1 : Int32) = 0 ∧ mbF c < 4 ∧ 127 < gmt (A 54) (I 3444 + 1)) then nrd (gmt (A 54)) (I 3444 + 1) k - (1 <<< ((8 * mbF c) &&& 31)) else nrd (gmt (A 54)) (I 3444 + 1) k)) L)) ∨ ((((¬ c < 152 ∧ c < 157) ∧ 0 < mbF c) ∧ ¬ fitL (smG (A 60 0) (if (¬ (1 : Int32) = 0 ∧ mbF c < 4 ∧ 127 < gmt (A 54) (I 3444 + 1)) then nrd (gmt (A 54)) (I 3444 + 1) k - (1 <<< ((8 * mbF c) &&& 31)) else nrd (gmt (A 54)) (I 3444 + 1) k))) ∧ o = (.inl (some (.int 8)), pic I A L)) ∨ ((((¬ c < 152 ∧ c < 157) ∧ ¬ 0 < mbF c) ∧ fitL (smG (A 60 0) (A 60 3))) ∧ o = (.inl (some (.int 0)), pic I (upA (upA A 60 0 (smG (A 60 0) (A 60 3)).toInt32) 60 3 (A 60 3)) L)) ∨ ((((¬ c < 152 ∧ c < 157) ∧ ¬ 0 < mbF c) ∧ ¬ fitL (smG (A 60 0) (A 60 3))) ∧ o = (.inl (some (.int 8)), pic I A L)) ∨ ((((¬ c < 157 ∧ c < 161) ∧ 0 < mbF c) ∧ fitL (smG (A 60 1) (if (¬ (1 : Int32) = 0 ∧ mbF c < 4 ∧ 127 < gmt (A 54) (I 3444 + 1)) then nrd (gmt (A 54)) (I 3444 + 1) k - (1 <<< ((8 * mbF c) &&& 31)) else nrd (gmt (A 54)) (I 3444 + 1) k))) ∧ o = (.inl (some (.int 0)), pic I (upA A 60 1 (smG (A 60 1) (if (¬ (1 : Int32) = 0 ∧ mbF c < 4 ∧ 127 < gmt (A 54) (I 3444 + 1)) then nrd (gmt (A 54)) (I 3444 + 1) k - (1 <<< ((8 * mbF c) &&& 31)) else nrd (gmt (A 54)) (I 3444 + 1) k)).toInt32) L)) ∨ ((((¬ c < 157 ∧ c < 161) ∧ 0 < mbF c) ∧ ¬ fitL (smG (A 60 1) (if (¬ (1 : Int32) = 0 ∧ mbF c < 4 ∧ 127 < gmt (A 54) (I 3444 + 1)) then nrd (gmt (A 54)) (I 3444 + 1) k - (1 <<< ((8 * mbF c) &&& 31)) else nrd (gmt (A 54)) (I 3444 + 1) k))) ∧ o = (.inl (some (.int 8)), pic I A L)) ∨ ((((¬ c < 157 ∧ c < 161) ∧ ¬ 0 < mbF c) ∧ fitL (smG (A 60 1) (A 60 0))) ∧ o = (.inl (some (.int 0)), pic I (upA A 60 1 (smG (A 60 1) (A 60 0)).toInt32) L)) ∨ ((((¬ c < 157 ∧ c < 161) ∧ ¬ 0 < mbF c) ∧ ¬ fitL (smG (A 60 1) (A 60 0))) ∧ o = (.inl (some (.int 8)), pic I A L)) ∨ ((((¬ c < 161 ∧ c < 166) ∧ 0 < mbF c) ∧ fitL (smG (A 60 1) (if (¬ (1 : Int32) = 0 ∧ mbF c < 4 ∧ 127 < gmt (A 54) (I 3444 + 1)) then nrd (gmt (A 54)) (I 3444 + 1) k - (1 <<< ((8 * mbF c) &&& 31)) else nrd (gmt (A 54)) (I 3444 + 1) k))) ∧ o = (.inl (some (.int 0)), pic I (upA (upA A 60 1 (smG (A 60 1) (if (¬ (1 : Int32) = 0 ∧ mbF c < 4 ∧ 127 < gmt (A 54) (I 3444 + 1)) then nrd (gmt (A 54)) (I 3444 + 1) k - (1 <<< ((8 * mbF c) &&& 31)) else nrd (gmt (A 54)) (I 3444 + 1) k)).toInt32) 60 4 (if (¬ (1 : Int32) = 0 ∧ mbF c < 4 ∧ 127 < gmt (A 54) (I 3444 + 1)) then nrd (gmt (A 54)) (I 3444 + 1) k - (1 <<< ((8 * mbF c) &&& 31)) else nrd (gmt (A 54)) (I 3444 + 1) k)) L)) ∨ ((((¬ c < 161 ∧ c < 166) ∧ 0 < mbF c) ∧ ¬ fitL (smG (A 60 1) (if (¬ (1 : Int32) = 0 ∧ mbF c < 4 ∧ 127 < gmt (A 54) (I 3444 + 1)) then nrd (gmt (A 54)) (I 3444 + 1) k - (1 <<< ((8 * mbF c) &&& 31)) else nrd (gmt (A 54)) (I 3444 + 1) k))) ∧ o = (.inl (some (.int 8)), pic I A L)) ∨ ((((¬ c < 161 ∧ c < 166) ∧ ¬ 0 < mbF c) ∧ fitL (smG (A 60 1) (A 60 4))) ∧ o = (.inl (some (.int 0)), pic I (upA (upA A 60 1 (smG (A 60 1) (A 60 4)).toInt32) 60 4 (A 60 4)) L)) ∨ ((((¬ c < 161 ∧ c < 166) ∧ ¬ 0 < mbF c) ∧ ¬ fitL (smG (A 60 1) (A 60 4))) ∧ o = (.inl (some (.int 8)), pic I A L)) ∨ ((((¬ c < 166) ∧ 0 < mbF c) ∧ fitL (smG (A 60 1) (if (¬ (1 : Int32) = 0 ∧ mbF c < 4 ∧ 127 < gmt (A 54) (I 3444 + 1)) then nrd (gmt (A 54)) (I 3444 + 1) k - (1 <<< ((8 * mbF c) &&& 31)) else nrd (gmt (A 54)) (I 3444 + 1) k))) ∧ o = (.inl (some (.int 0)), pic I (upA (upA A 60 1 (smG (A 60 1) (if (¬ (1 : Int32) = 0 ∧ mbF c < 4 ∧ 127 < gmt (A 54) (I 3444 + 1)) then nrd (gmt (A 54)) (I 3444 + 1) k - (1 <<< ((8 * mbF c) &&& 31)) else nrd (gmt (A 54)) (I 3444 + 1) k)).toInt32) 60 5 (if (¬ (1 : Int32) = 0 ∧ mbF c < 4 ∧ 127 < gmt (A 54) (I 3444 + 1)) then nrd (gmt (A 54)) (I 3444 + 1) k - (1 <<< ((8 * mbF c) &&& 31)) else nrd (gmt (A 54)) (I 3444 + 1) k)) L)) ∨ ((((¬ c < 166) ∧ 0 < mbF c) ∧ ¬ fitL (smG (A 60 1) (if (¬ (1 : Int32) = 0 ∧ mbF c < 4 ∧ 127 < gmt (A 54) (I 3444 + 1)) then nrd (gmt (A 54)) (I 3444 + 1) k - (1 <<< ((8 * mbF c) &&& 31)) else nrd (gmt (A 54)) (I 3444 + 1) k))) ∧ o = (.inl (some (.int 8)), pic I A L)) ∨ ((((¬ c < 166) ∧ ¬ 0 < mbF c) ∧ fitL (smG (A 60 1) (A 60 5))) ∧ o = (.inl (some (.int 0)), pic I (upA (upA A 60 1 (smG (A 60 1) (A 60 5)).toInt32) 60 5 (A 60 5)) L)) ∨ ((((¬ c < 166) ∧ ¬ 0 < mbF c) ∧ ¬ fitL (smG (A 60 1) (A 60 5))) ∧ o = (.inl (some (.int 8)), pic I A L))) := by
  refine xm_of rfl (by decide) (Nat.le_of_ble_eq_true rfl) ?_
  refine xr_iload_n D_Mo_moveBy_0 rfl rfl ?_
  refine xr_cSx (as := [_]) (c_Mo_moveBytes) (L_Mo_217) (CD_Mo_moveBytes) D_Mo_moveBy_1 rfl (by decide) (Nat.le_of_ble_eq_true rfl) (Nat.le_of_eq (Nat.zero_add _)) (Nat.le_of_eq (Nat.zero_add _)) pic_len ?_
  rintro _ rfl
  refine ⟨_, _, rfl, pic_leq, ?_⟩
  refine xr_istore_n D_Mo_moveBy_4 rfl (by decide) ?_
  refine xr_iload_n D_Mo_moveBy_5 rfl rfl ?_
  refine xr_sipush (v := 157) D_Mo_moveBy_6 rfl ?_
  refine xr_icmp_ge (tgt := 16) D_Mo_moveBy_9 rfl (fun c1 => ?_) (fun c1 => ?_)
  · refine xr_iconst (v := 1) D_Mo_moveBy_16 rfl ?_
    refine xr_istore_n D_Mo_moveBy_17 rfl (by decide) ?_
    refine xr_iload_n D_Mo_moveBy_18 rfl rfl ?_
    refine xr_sipush (v := 147) D_Mo_moveBy_19 rfl ?_
    refine xr_icmp_ge (tgt := 29) D_Mo_moveBy_22 rfl (fun c2 => ?_) (fun c2 => ?_)
    · refine xr_iload_n D_Mo_moveBy_29 rfl rfl ?_
      refine xr_sipush (v := 152) D_Mo_moveBy_30 rfl ?_
      refine xr_icmp_ge (tgt := 40) D_Mo_moveBy_33 rfl (fun c3 => ?_) (fun c3 => ?_)
      · refine xr_iload_n D_Mo_moveBy_40 rfl rfl ?_
        refine xr_sipush (v := 157) D_Mo_moveBy_41 rfl ?_
        refine xr_icmp_ge (tgt := 51) D_Mo_moveBy_44 rfl (fun c4 => ?_) (fun c4 => ?_)
        · refine xr_iload_n D_Mo_moveBy_51 rfl rfl ?_
          refine xr_sipush (v := 161) D_Mo_moveBy_52 rfl ?_
          refine xr_icmp_ge (tgt := 62) D_Mo_moveBy_55 rfl (fun c5 => ?_) (fun c5 => ?_)
          · refine xr_iload_n D_Mo_moveBy_62 rfl rfl ?_
            refine xr_sipush (v := 166) D_Mo_moveBy_63 rfl ?_
            refine xr_icmp_ge (tgt := 73) D_Mo_moveBy_66 rfl (fun c6 => ?_) (fun c6 => ?_)
            · refine xr_iconst (v := 5) D_Mo_moveBy_73 rfl ?_
              refine xr_istore D_Mo_moveBy_74 (by decide) ?_
              refine xr_iload_n D_Mo_moveBy_76 rfl rfl ?_
              refine xr_if_le (tgt := 95) D_Mo_moveBy_77 rfl (fun c7 => ?_) (fun c7 => ?_)
              · refine xr_aload_n D_Mo_moveBy_95 rfl rfl ?_
                refine xr_getf F_Mo_94 D_Mo_moveBy_96 rfl rfl ?_
                refine xr_iload D_Mo_moveBy_99 rfl ?_
                refine xr_iald D_Mo_moveBy_101 rfl (by exact i_in2 6 (by decide) (by decide) rfl) ?_
                refine xr_istore D_Mo_moveBy_102 (by decide) ?_
                refine xr_aload_n D_Mo_moveBy_104 rfl rfl ?_
                refine xr_iload_n D_Mo_moveBy_105 rfl rfl ?_
                refine xr_iload D_Mo_moveBy_106 rfl ?_
                refine xr_cVx (as := [_, _]) (c_Mo_add_34 (by decide) (by decide)) (L_Mo_289) (CD_Mo_add) CI_Mo D_Mo_moveBy_108 rfl rfl (by decide) (Nat.le_of_ble_eq_true rfl) (Nat.le_of_eq (Nat.zero_add _)) (Nat.le_of_eq (Nat.zero_add _)) pic_len ?_
                rintro _ (⟨hg2, rfl⟩ | ⟨hg2, rfl⟩)
                · refine ⟨_, _, rfl, pic_leq, ?_⟩
                  refine xr_istore D_Mo_moveBy_111 (by decide) ?_
                  refine xr_iload D_Mo_moveBy_113 rfl ?_
                  refine xr_if_ne (tgt := 132) D_Mo_moveBy_115 rfl (fun c8 => ?_) (fun c8 => ?_)
                  · refine xr_iload D_Mo_moveBy_132 rfl ?_
                    refine xr_iret rfl D_Mo_moveBy_134 ?_
                    exact Or.inr (Or.inr (Or.inr (Or.inr (Or.inr (Or.inr (Or.inr (Or.inr (Or.inr (Or.inr (Or.inr (Or.inr (Or.inr (Or.inr (Or.inr (Or.inr (Or.inr (Or.inr (Or.inr (Or.inr (Or.inr (Or.inr (Or.inr (⟨⟨by grind, by assumption⟩, rfl⟩)))))))))))))))))))))))
                  · exact absurd (show (8 : Int32) = (0 : Int32) from c8) (by decide)
                · refine ⟨_, _, rfl, pic_leq, ?_⟩
                  refine xr_istore D_Mo_moveBy_111 (by decide) ?_
                  refine xr_iload D_Mo_moveBy_113 rfl ?_
                  refine xr_if_ne (tgt := 132) D_Mo_moveBy_115 rfl (fun c9 => ?_) (fun c9 => ?_)
                  · exact absurd (show (0 : Int32) = (0 : Int32) by decide) c9
                  · refine xr_iload D_Mo_moveBy_118 rfl ?_
                    refine xr_if_le (tgt := 132) D_Mo_moveBy_120 rfl (fun c10 => ?_) (fun c10 => ?_)
                    · exact absurd (show (5 : Int32) ≤ (0 : Int32) from c10) (by decide)
                    · refine xr_aload_n D_Mo_moveBy_123 rfl rfl ?_
                      refine xr_getf F_Mo_94 D_Mo_moveBy_124 rfl rfl ?_
                      refine xr_iload D_Mo_moveBy_127 rfl ?_
                      refine xr_iload D_Mo_moveBy_129 rfl ?_
                      refine xr_iast D_Mo_moveBy_131 rfl (by exact i_in2 6 (by decide) (by decide) rfl) (aset_60) ?_
                      refine xr_iload D_Mo_moveBy_132 rfl ?_
                      refine xr_iret rfl D_Mo_moveBy_134 ?_
                      exact Or.inr (Or.inr (Or.inr (Or.inr (Or.inr (Or.inr (Or.inr (Or.inr (Or.inr (Or.inr (Or.inr (Or.inr (Or.inr (Or.inr (Or.inr (Or.inr (Or.inr (Or.inr (Or.inr (Or.inr (Or.inr (Or.inr (Or.inl ⟨⟨by grind, by assumption⟩, rfl⟩))))))))))))))))))))))
              · refine xr_aload_n D_Mo_moveBy_80 rfl rfl ?_
                refine xr_aload_n D_Mo_moveBy_81 rfl rfl ?_
                refine xr_getf F_Mo_203 D_Mo_moveBy_82 rfl rfl ?_
                refine xr_iconst (v := 1) D_Mo_moveBy_85 rfl ?_
                refine xr_iadd D_Mo_moveBy_86 ?_
                refine xr_iload_n D_Mo_moveBy_87 rfl rfl ?_
                refine xr_iconst (v := 1) D_Mo_moveBy_88 rfl ?_
                refine xr_cVx (as := [_, _, _]) (c_Mo_number_34 k (hw (by grind)).1 (hw (by grind)).2.1 (hw (by grind)).2.2.1 (hw (by grind)).2.2.2.1 (hw (by grind)).2.2.2.2) (L_Mo_220) (CD_Mo_number) CI_Mo D_Mo_moveBy_89 rfl rfl (by decide) (Nat.le_of_ble_eq_true rfl) (Nat.le_of_eq (Nat.zero_add _)) (Nat.le_of_eq (Nat.zero_add _)) pic_len ?_
                rintro _ rfl
                refine ⟨_, _, rfl, pic_leq, ?_⟩
                refine xr_goto (tgt := 102) D_Mo_moveBy_92 rfl ?_
                refine xr_istore D_Mo_moveBy_102 (by decide) ?_
                refine xr_aload_n D_Mo_moveBy_104 rfl rfl ?_
                refine xr_iload_n D_Mo_moveBy_105 rfl rfl ?_
                refine xr_iload D_Mo_moveBy_106 rfl ?_
                refine xr_cVx (as := [_, _]) (c_Mo_add_34 (by decide) (by decide)) (L_Mo_289) (CD_Mo_add) CI_Mo D_Mo_moveBy_108 rfl rfl (by decide) (Nat.le_of_ble_eq_true rfl) (Nat.le_of_eq (Nat.zero_add _)) (Nat.le_of_eq (Nat.zero_add _)) pic_len ?_
                rintro _ (⟨hg4, rfl⟩ | ⟨hg4, rfl⟩)
                · refine ⟨_, _, rfl, pic_leq, ?_⟩
                  refine xr_istore D_Mo_moveBy_111 (by decide) ?_
                  refine xr_iload D_Mo_moveBy_113 rfl ?_
                  refine xr_if_ne (tgt := 132) D_Mo_moveBy_115 rfl (fun c8 => ?_) (fun c8 => ?_)
                  · refine xr_iload D_Mo_moveBy_132 rfl ?_
                    refine xr_iret rfl D_Mo_moveBy_134 ?_
                    exact Or.inr (Or.inr (Or.inr (Or.inr (Or.inr (Or.inr (Or.inr (Or.inr (Or.inr (Or.inr (Or.inr (Or.inr (Or.inr (Or.inr (Or.inr (Or.inr (Or.inr (Or.inr (Or.inr (Or.inr (Or.inr (Or.inl ⟨⟨by grind, by assumption⟩, rfl⟩)))))))))))))))))))))
                  · exact absurd (show (8 : Int32) = (0 : Int32) from c8) (by decide)
                · refine ⟨_, _, rfl, pic_leq, ?_⟩
                  refine xr_istore D_Mo_moveBy_111 (by decide) ?_
                  refine xr_iload D_Mo_moveBy_113 rfl ?_
                  refine xr_if_ne (tgt := 132) D_Mo_moveBy_115 rfl (fun c9 => ?_) (fun c9 => ?_)
                  · exact absurd (show (0 : Int32) = (0 : Int32) by decide) c9
                  · refine xr_iload D_Mo_moveBy_118 rfl ?_
                    refine xr_if_le (tgt := 132) D_Mo_moveBy_120 rfl (fun c10 => ?_) (fun c10 => ?_)
                    · exact absurd (show (5 : Int32) ≤ (0 : Int32) from c10) (by decide)
                    · refine xr_aload_n D_Mo_moveBy_123 rfl rfl ?_
                      refine xr_getf F_Mo_94 D_Mo_moveBy_124 rfl rfl ?_
                      refine xr_iload D_Mo_moveBy_127 rfl ?_
                      refine xr_iload D_Mo_moveBy_129 rfl ?_
                      refine xr_iast D_Mo_moveBy_131 rfl (by exact i_in2 6 (by decide) (by decide) rfl) (aset_60) ?_
                      refine xr_iload D_Mo_moveBy_132 rfl ?_
                      refine xr_iret rfl D_Mo_moveBy_134 ?_
                      exact Or.inr (Or.inr (Or.inr (Or.inr (Or.inr (Or.inr (Or.inr (Or.inr (Or.inr (Or.inr (Or.inr (Or.inr (Or.inr (Or.inr (Or.inr (Or.inr (Or.inr (Or.inr (Or.inr (Or.inr (Or.inl ⟨⟨by grind, by assumption⟩, rfl⟩))))))))))))))))))))
            · refine xr_iconst (v := 4) D_Mo_moveBy_69 rfl ?_
              refine xr_goto (tgt := 74) D_Mo_moveBy_70 rfl ?_
              refine xr_istore D_Mo_moveBy_74 (by decide) ?_
              refine xr_iload_n D_Mo_moveBy_76 rfl rfl ?_
              refine xr_if_le (tgt := 95) D_Mo_moveBy_77 rfl (fun c7 => ?_) (fun c7 => ?_)
              · refine xr_aload_n D_Mo_moveBy_95 rfl rfl ?_
                refine xr_getf F_Mo_94 D_Mo_moveBy_96 rfl rfl ?_
                refine xr_iload D_Mo_moveBy_99 rfl ?_
                refine xr_iald D_Mo_moveBy_101 rfl (by exact i_in2 6 (by decide) (by decide) rfl) ?_
                refine xr_istore D_Mo_moveBy_102 (by decide) ?_
                refine xr_aload_n D_Mo_moveBy_104 rfl rfl ?_
                refine xr_iload_n D_Mo_moveBy_105 rfl rfl ?_
                refine xr_iload D_Mo_moveBy_106 rfl ?_
                refine xr_cVx (as := [_, _]) (c_Mo_add_34 (by decide) (by decide)) (L_Mo_289) (CD_Mo_add) CI_Mo D_Mo_moveBy_108 rfl rfl (by decide) (Nat.le_of_ble_eq_true rfl) (Nat.le_of_eq (Nat.zero_add _)) (Nat.le_of_eq (Nat.zero_add _)) pic_len ?_
                rintro _ (⟨hg5, rfl⟩ | ⟨hg5, rfl⟩)
                · refine ⟨_, _, rfl, pic_leq, ?_⟩
                  refine xr_istore D_Mo_moveBy_111 (by decide) ?_
                  refine xr_iload D_Mo_moveBy_113 rfl ?_
                  refine xr_if_ne (tgt := 132) D_Mo_moveBy_115 rfl (fun c8 => ?_) (fun c8 => ?_)
                  · refine xr_iload D_Mo_moveBy_132 rfl ?_
                    refine xr_iret rfl D_Mo_moveBy_134 ?_
                    exact Or.inr (Or.inr (Or.inr (Or.inr (Or.inr (Or.inr (Or.inr (Or.inr (Or.inr (Or.inr (Or.inr (Or.inr (Or.inr (Or.inr (Or.inr (Or.inr (Or.inr (Or.inr (Or.inr (Or.inl ⟨⟨by grind, by assumption⟩, rfl⟩)))))))))))))))))))
                  · exact absurd (show (8 : Int32) = (0 : Int32) from c8) (by decide)
                · refine ⟨_, _, rfl, pic_leq, ?_⟩
                  refine xr_istore D_Mo_moveBy_111 (by decide) ?_
                  refine xr_iload D_Mo_moveBy_113 rfl ?_
                  refine xr_if_ne (tgt := 132) D_Mo_moveBy_115 rfl (fun c9 => ?_) (fun c9 => ?_)
                  · exact absurd (show (0 : Int32) = (0 : Int32) by decide) c9
                  · refine xr_iload D_Mo_moveBy_118 rfl ?_
                    refine xr_if_le (tgt := 132) D_Mo_moveBy_120 rfl (fun c10 => ?_) (fun c10 => ?_)
                    · exact absurd (show (4 : Int32) ≤ (0 : Int32) from c10) (by decide)
                    · refine xr_aload_n D_Mo_moveBy_123 rfl rfl ?_
                      refine xr_getf F_Mo_94 D_Mo_moveBy_124 rfl rfl ?_
                      refine xr_iload D_Mo_moveBy_127 rfl ?_
                      refine xr_iload D_Mo_moveBy_129 rfl ?_
                      refine xr_iast D_Mo_moveBy_131 rfl (by exact i_in2 6 (by decide) (by decide) rfl) (aset_60) ?_
                      refine xr_iload D_Mo_moveBy_132 rfl ?_
                      refine xr_iret rfl D_Mo_moveBy_134 ?_
                      exact Or.inr (Or.inr (Or.inr (Or.inr (Or.inr (Or.inr (Or.inr (Or.inr (Or.inr (Or.inr (Or.inr (Or.inr (Or.inr (Or.inr (Or.inr (Or.inr (Or.inr (Or.inr (Or.inl ⟨⟨by grind, by assumption⟩, rfl⟩))))))))))))))))))
              · refine xr_aload_n D_Mo_moveBy_80 rfl rfl ?_
                refine xr_aload_n D_Mo_moveBy_81 rfl rfl ?_
                refine xr_getf F_Mo_203 D_Mo_moveBy_82 rfl rfl ?_
                refine xr_iconst (v := 1) D_Mo_moveBy_85 rfl ?_
                refine xr_iadd D_Mo_moveBy_86 ?_
                refine xr_iload_n D_Mo_moveBy_87 rfl rfl ?_
                refine xr_iconst (v := 1) D_Mo_moveBy_88 rfl ?_
                refine xr_cVx (as := [_, _, _]) (c_Mo_number_34 k (hw (by grind)).1 (hw (by grind)).2.1 (hw (by grind)).2.2.1 (hw (by grind)).2.2.2.1 (hw (by grind)).2.2.2.2) (L_Mo_220) (CD_Mo_number) CI_Mo D_Mo_moveBy_89 rfl rfl (by decide) (Nat.le_of_ble_eq_true rfl) (Nat.le_of_eq (Nat.zero_add _)) (Nat.le_of_eq (Nat.zero_add _)) pic_len ?_
                rintro _ rfl
                refine ⟨_, _, rfl, pic_leq, ?_⟩
                refine xr_goto (tgt := 102) D_Mo_moveBy_92 rfl ?_
                refine xr_istore D_Mo_moveBy_102 (by decide) ?_
                refine xr_aload_n D_Mo_moveBy_104 rfl rfl ?_
                refine xr_iload_n D_Mo_moveBy_105 rfl rfl ?_
                refine xr_iload D_Mo_moveBy_106 rfl ?_
                refine xr_cVx (as := [_, _]) (c_Mo_add_34 (by decide) (by decide)) (L_Mo_289) (CD_Mo_add) CI_Mo D_Mo_moveBy_108 rfl rfl (by decide) (Nat.le_of_ble_eq_true rfl) (Nat.le_of_eq (Nat.zero_add _)) (Nat.le_of_eq (Nat.zero_add _)) pic_len ?_
                rintro _ (⟨hg7, rfl⟩ | ⟨hg7, rfl⟩)
                · refine ⟨_, _, rfl, pic_leq, ?_⟩
                  refine xr_istore D_Mo_moveBy_111 (by decide) ?_
                  refine xr_iload D_Mo_moveBy_113 rfl ?_
                  refine xr_if_ne (tgt := 132) D_Mo_moveBy_115 rfl (fun c8 => ?_) (fun c8 => ?_)
                  · refine xr_iload D_Mo_moveBy_132 rfl ?_
                    refine xr_iret rfl D_Mo_moveBy_134 ?_
                    exact Or.inr (Or.inr (Or.inr (Or.inr (Or.inr (Or.inr (Or.inr (Or.inr (Or.inr (Or.inr (Or.inr (Or.inr (Or.inr (Or.inr (Or.inr (Or.inr (Or.inr (Or.inl ⟨⟨by grind, by assumption⟩, rfl⟩)))))))))))))))))
                  · exact absurd (show (8 : Int32) = (0 : Int32) from c8) (by decide)
                · refine ⟨_, _, rfl, pic_leq, ?_⟩
                  refine xr_istore D_Mo_moveBy_111 (by decide) ?_
                  refine xr_iload D_Mo_moveBy_113 rfl ?_
                  refine xr_if_ne (tgt := 132) D_Mo_moveBy_115 rfl (fun c9 => ?_) (fun c9 => ?_)
                  · exact absurd (show (0 : Int32) = (0 : Int32) by decide) c9
                  · refine xr_iload D_Mo_moveBy_118 rfl ?_
                    refine xr_if_le (tgt := 132) D_Mo_moveBy_120 rfl (fun c10 => ?_) (fun c10 => ?_)
                    · exact absurd (show (4 : Int32) ≤ (0 : Int32) from c10) (by decide)
                    · refine xr_aload_n D_Mo_moveBy_123 rfl rfl ?_
                      refine xr_getf F_Mo_94 D_Mo_moveBy_124 rfl rfl ?_
                      refine xr_iload D_Mo_moveBy_127 rfl ?_
                      refine xr_iload D_Mo_moveBy_129 rfl ?_
                      refine xr_iast D_Mo_moveBy_131 rfl (by exact i_in2 6 (by decide) (by decide) rfl) (aset_60) ?_
                      refine xr_iload D_Mo_moveBy_132 rfl ?_
                      refine xr_iret rfl D_Mo_moveBy_134 ?_
                      exact Or.inr (Or.inr (Or.inr (Or.inr (Or.inr (Or.inr (Or.inr (Or.inr (Or.inr (Or.inr (Or.inr (Or.inr (Or.inr (Or.inr (Or.inr (Or.inr (Or.inl ⟨⟨by grind, by assumption⟩, rfl⟩))))))))))))))))
          · refine xr_iconst (v := 0) D_Mo_moveBy_58 rfl ?_
            refine xr_goto (tgt := 74) D_Mo_moveBy_59 rfl ?_
            refine xr_istore D_Mo_moveBy_74 (by decide) ?_
            refine xr_iload_n D_Mo_moveBy_76 rfl rfl ?_
            refine xr_if_le (tgt := 95) D_Mo_moveBy_77 rfl (fun c6 => ?_) (fun c6 => ?_)
            · refine xr_aload_n D_Mo_moveBy_95 rfl rfl ?_
              refine xr_getf F_Mo_94 D_Mo_moveBy_96 rfl rfl ?_
              refine xr_iload D_Mo_moveBy_99 rfl ?_
              refine xr_iald D_Mo_moveBy_101 rfl (by exact i_in2 6 (by decide) (by decide) rfl) ?_
              refine xr_istore D_Mo_moveBy_102 (by decide) ?_
              refine xr_aload_n D_Mo_moveBy_104 rfl rfl ?_
              refine xr_iload_n D_Mo_moveBy_105 rfl rfl ?_
              refine xr_iload D_Mo_moveBy_106 rfl ?_
              refine xr_cVx (as := [_, _]) (c_Mo_add_34 (by decide) (by decide)) (L_Mo_289) (CD_Mo_add) CI_Mo D_Mo_moveBy_108 rfl rfl (by decide) (Nat.le_of_ble_eq_true rfl) (Nat.le_of_eq (Nat.zero_add _)) (Nat.le_of_eq (Nat.zero_add _)) pic_len ?_
              rintro _ (⟨hg8, rfl⟩ | ⟨hg8, rfl⟩)
              · refine ⟨_, _, rfl, pic_leq, ?_⟩
                refine xr_istore D_Mo_moveBy_111 (by decide) ?_
                refine xr_iload D_Mo_moveBy_113 rfl ?_
                refine xr_if_ne (tgt := 132) D_Mo_moveBy_115 rfl (fun c7 => ?_) (fun c7 => ?_)
                · refine xr_iload D_Mo_moveBy_132 rfl ?_
                  refine xr_iret rfl D_Mo_moveBy_134 ?_
                  exact Or.inr (Or.inr (Or.inr (Or.inr (Or.inr (Or.inr (Or.inr (Or.inr (Or.inr (Or.inr (Or.inr (Or.inr (Or.inr (Or.inr (Or.inr (Or.inl ⟨⟨by grind, by assumption⟩, rfl⟩)))))))))))))))
                · exact absurd (show (8 : Int32) = (0 : Int32) from c7) (by decide)
              · refine ⟨_, _, rfl, pic_leq, ?_⟩
                refine xr_istore D_Mo_moveBy_111 (by decide) ?_
                refine xr_iload D_Mo_moveBy_113 rfl ?_
                refine xr_if_ne (tgt := 132) D_Mo_moveBy_115 rfl (fun c8 => ?_) (fun c8 => ?_)
                · exact absurd (show (0 : Int32) = (0 : Int32) by decide) c8
                · refine xr_iload D_Mo_moveBy_118 rfl ?_
                  refine xr_if_le (tgt := 132) D_Mo_moveBy_120 rfl (fun c9 => ?_) (fun c9 => ?_)
                  · refine xr_iload D_Mo_moveBy_132 rfl ?_
                    refine xr_iret rfl D_Mo_moveBy_134 ?_
                    exact Or.inr (Or.inr (Or.inr (Or.inr (Or.inr (Or.inr (Or.inr (Or.inr (Or.inr (Or.inr (Or.inr (Or.inr (Or.inr (Or.inr (Or.inl ⟨⟨by grind, by assumption⟩, rfl⟩))))))))))))))
                  · exact absurd (show (0 : Int32) ≤ (0 : Int32) by decide) c9
            · refine xr_aload_n D_Mo_moveBy_80 rfl rfl ?_
              refine xr_aload_n D_Mo_moveBy_81 rfl rfl ?_
              refine xr_getf F_Mo_203 D_Mo_moveBy_82 rfl rfl ?_
              refine xr_iconst (v := 1) D_Mo_moveBy_85 rfl ?_
              refine xr_iadd D_Mo_moveBy_86 ?_
              refine xr_iload_n D_Mo_moveBy_87 rfl rfl ?_
              refine xr_iconst (v := 1) D_Mo_moveBy_88 rfl ?_
              refine xr_cVx (as := [_, _, _]) (c_Mo_number_34 k (hw (by grind)).1 (hw (by grind)).2.1 (hw (by grind)).2.2.1 (hw (by grind)).2.2.2.1 (hw (by grind)).2.2.2.2) (L_Mo_220) (CD_Mo_number) CI_Mo D_Mo_moveBy_89 rfl rfl (by decide) (Nat.le_of_ble_eq_true rfl) (Nat.le_of_eq (Nat.zero_add _)) (Nat.le_of_eq (Nat.zero_add _)) pic_len ?_
              rintro _ rfl
              refine ⟨_, _, rfl, pic_leq, ?_⟩
              refine xr_goto (tgt := 102) D_Mo_moveBy_92 rfl ?_
              refine xr_istore D_Mo_moveBy_102 (by decide) ?_
              refine xr_aload_n D_Mo_moveBy_104 rfl rfl ?_
              refine xr_iload_n D_Mo_moveBy_105 rfl rfl ?_
              refine xr_iload D_Mo_moveBy_106 rfl ?_
              refine xr_cVx (as := [_, _]) (c_Mo_add_34 (by decide) (by decide)) (L_Mo_289) (CD_Mo_add) CI_Mo D_Mo_moveBy_108 rfl rfl (by decide) (Nat.le_of_ble_eq_true rfl) (Nat.le_of_eq (Nat.zero_add _)) (Nat.le_of_eq (Nat.zero_add _)) pic_len ?_
              rintro _ (⟨hg10, rfl⟩ | ⟨hg10, rfl⟩)
              · refine ⟨_, _, rfl, pic_leq, ?_⟩
                refine xr_istore D_Mo_moveBy_111 (by decide) ?_
                refine xr_iload D_Mo_moveBy_113 rfl ?_
                refine xr_if_ne (tgt := 132) D_Mo_moveBy_115 rfl (fun c7 => ?_) (fun c7 => ?_)
                · refine xr_iload D_Mo_moveBy_132 rfl ?_
                  refine xr_iret rfl D_Mo_moveBy_134 ?_
                  exact Or.inr (Or.inr (Or.inr (Or.inr (Or.inr (Or.inr (Or.inr (Or.inr (Or.inr (Or.inr (Or.inr (Or.inr (Or.inr (Or.inl ⟨⟨by grind, by assumption⟩, rfl⟩)))))))))))))
                · exact absurd (show (8 : Int32) = (0 : Int32) from c7) (by decide)
              · refine ⟨_, _, rfl, pic_leq, ?_⟩
                refine xr_istore D_Mo_moveBy_111 (by decide) ?_
                refine xr_iload D_Mo_moveBy_113 rfl ?_
                refine xr_if_ne (tgt := 132) D_Mo_moveBy_115 rfl (fun c8 => ?_) (fun c8 => ?_)
                · exact absurd (show (0 : Int32) = (0 : Int32) by decide) c8
                · refine xr_iload D_Mo_moveBy_118 rfl ?_
                  refine xr_if_le (tgt := 132) D_Mo_moveBy_120 rfl (fun c9 => ?_) (fun c9 => ?_)
                  · refine xr_iload D_Mo_moveBy_132 rfl ?_
                    refine xr_iret rfl D_Mo_moveBy_134 ?_
                    exact Or.inr (Or.inr (Or.inr (Or.inr (Or.inr (Or.inr (Or.inr (Or.inr (Or.inr (Or.inr (Or.inr (Or.inr (Or.inl ⟨⟨by grind, by assumption⟩, rfl⟩))))))))))))
                  · exact absurd (show (0 : Int32) ≤ (0 : Int32) by decide) c9
        · refine xr_iconst (v := 3) D_Mo_moveBy_47 rfl ?_
          refine xr_goto (tgt := 74) D_Mo_moveBy_48 rfl ?_
          refine xr_istore D_Mo_moveBy_74 (by decide) ?_
          refine xr_iload_n D_Mo_moveBy_76 rfl rfl ?_
          refine xr_if_le (tgt := 95) D_Mo_moveBy_77 rfl (fun c5 => ?_) (fun c5 => ?_)
          · refine xr_aload_n D_Mo_moveBy_95 rfl rfl ?_
            refine xr_getf F_Mo_94 D_Mo_moveBy_96 rfl rfl ?_
            refine xr_iload D_Mo_moveBy_99 rfl ?_
            refine xr_iald D_Mo_moveBy_101 rfl (by exact i_in2 6 (by decide) (by decide) rfl) ?_
            refine xr_istore D_Mo_moveBy_102 (by decide) ?_
            refine xr_aload_n D_Mo_moveBy_104 rfl rfl ?_
            refine xr_iload_n D_Mo_moveBy_105 rfl rfl ?_
            refine xr_iload D_Mo_moveBy_106 rfl ?_
            refine xr_cVx (as := [_, _]) (c_Mo_add_34 (by decide) (by decide)) (L_Mo_289) (CD_Mo_add) CI_Mo D_Mo_moveBy_108 rfl rfl (by decide) (Nat.le_of_ble_eq_true rfl) (Nat.le_of_eq (Nat.zero_add _)) (Nat.le_of_eq (Nat.zero_add _)) pic_len ?_
            rintro _ (⟨hg11, rfl⟩ | ⟨hg11, rfl⟩)
            · refine ⟨_, _, rfl, pic_leq, ?_⟩
              refine xr_istore D_Mo_moveBy_111 (by decide) ?_
              refine xr_iload D_Mo_moveBy_113 rfl ?_
              refine xr_if_ne (tgt := 132) D_Mo_moveBy_115 rfl (fun c6 => ?_) (fun c6 => ?_)
              · refine xr_iload D_Mo_moveBy_132 rfl ?_
                refine xr_iret rfl D_Mo_moveBy_134 ?_
                exfalso; grind
              · exact absurd (show (8 : Int32) = (0 : Int32) from c6) (by decide)
            · refine ⟨_, _, rfl, pic_leq, ?_⟩
              refine xr_istore D_Mo_moveBy_111 (by decide) ?_
              refine xr_iload D_Mo_moveBy_113 rfl ?_
              refine xr_if_ne (tgt := 132) D_Mo_moveBy_115 rfl (fun c7 => ?_) (fun c7 => ?_)
              · exact absurd (show (0 : Int32) = (0 : Int32) by decide) c7
              · refine xr_iload D_Mo_moveBy_118 rfl ?_
                refine xr_if_le (tgt := 132) D_Mo_moveBy_120 rfl (fun c8 => ?_) (fun c8 => ?_)
                · exact absurd (show (3 : Int32) ≤ (0 : Int32) from c8) (by decide)
                · refine xr_aload_n D_Mo_moveBy_123 rfl rfl ?_
                  refine xr_getf F_Mo_94 D_Mo_moveBy_124 rfl rfl ?_
                  refine xr_iload D_Mo_moveBy_127 rfl ?_
                  refine xr_iload D_Mo_moveBy_129 rfl ?_
                  refine xr_iast D_Mo_moveBy_131 rfl (by exact i_in2 6 (by decide) (by decide) rfl) (aset_60) ?_
                  refine xr_iload D_Mo_moveBy_132 rfl ?_
                  refine xr_iret rfl D_Mo_moveBy_134 ?_
                  exfalso; grind
          · refine xr_aload_n D_Mo_moveBy_80 rfl rfl ?_
            refine xr_aload_n D_Mo_moveBy_81 rfl rfl ?_
            refine xr_getf F_Mo_203 D_Mo_moveBy_82 rfl rfl ?_
            refine xr_iconst (v := 1) D_Mo_moveBy_85 rfl ?_
            refine xr_iadd D_Mo_moveBy_86 ?_
            refine xr_iload_n D_Mo_moveBy_87 rfl rfl ?_
            refine xr_iconst (v := 1) D_Mo_moveBy_88 rfl ?_
            refine xr_cVx (as := [_, _, _]) (c_Mo_number_34 k (hw (by grind)).1 (hw (by grind)).2.1 (hw (by grind)).2.2.1 (hw (by grind)).2.2.2.1 (hw (by grind)).2.2.2.2) (L_Mo_220) (CD_Mo_number) CI_Mo D_Mo_moveBy_89 rfl rfl (by decide) (Nat.le_of_ble_eq_true rfl) (Nat.le_of_eq (Nat.zero_add _)) (Nat.le_of_eq (Nat.zero_add _)) pic_len ?_
            rintro _ rfl
            refine ⟨_, _, rfl, pic_leq, ?_⟩
            refine xr_goto (tgt := 102) D_Mo_moveBy_92 rfl ?_
            refine xr_istore D_Mo_moveBy_102 (by decide) ?_
            refine xr_aload_n D_Mo_moveBy_104 rfl rfl ?_
            refine xr_iload_n D_Mo_moveBy_105 rfl rfl ?_
            refine xr_iload D_Mo_moveBy_106 rfl ?_
            refine xr_cVx (as := [_, _]) (c_Mo_add_34 (by decide) (by decide)) (L_Mo_289) (CD_Mo_add) CI_Mo D_Mo_moveBy_108 rfl rfl (by decide) (Nat.le_of_ble_eq_true rfl) (Nat.le_of_eq (Nat.zero_add _)) (Nat.le_of_eq (Nat.zero_add _)) pic_len ?_
            rintro _ (⟨hg13, rfl⟩ | ⟨hg13, rfl⟩)
            · refine ⟨_, _, rfl, pic_leq, ?_⟩
              refine xr_istore D_Mo_moveBy_111 (by decide) ?_
              refine xr_iload D_Mo_moveBy_113 rfl ?_
              refine xr_if_ne (tgt := 132) D_Mo_moveBy_115 rfl (fun c6 => ?_) (fun c6 => ?_)
              · refine xr_iload D_Mo_moveBy_132 rfl ?_
                refine xr_iret rfl D_Mo_moveBy_134 ?_
                exfalso; grind
              · exact absurd (show (8 : Int32) = (0 : Int32) from c6) (by decide)
            · refine ⟨_, _, rfl, pic_leq, ?_⟩
              refine xr_istore D_Mo_moveBy_111 (by decide) ?_
              refine xr_iload D_Mo_moveBy_113 rfl ?_
              refine xr_if_ne (tgt := 132) D_Mo_moveBy_115 rfl (fun c7 => ?_) (fun c7 => ?_)
              · exact absurd (show (0 : Int32) = (0 : Int32) by decide) c7
              · refine xr_iload D_Mo_moveBy_118 rfl ?_
                refine xr_if_le (tgt := 132) D_Mo_moveBy_120 rfl (fun c8 => ?_) (fun c8 => ?_)
                · exact absurd (show (3 : Int32) ≤ (0 : Int32) from c8) (by decide)
                · refine xr_aload_n D_Mo_moveBy_123 rfl rfl ?_
                  refine xr_getf F_Mo_94 D_Mo_moveBy_124 rfl rfl ?_
                  refine xr_iload D_Mo_moveBy_127 rfl ?_
                  refine xr_iload D_Mo_moveBy_129 rfl ?_
                  refine xr_iast D_Mo_moveBy_131 rfl (by exact i_in2 6 (by decide) (by decide) rfl) (aset_60) ?_
                  refine xr_iload D_Mo_moveBy_132 rfl ?_
                  refine xr_iret rfl D_Mo_moveBy_134 ?_
                  exfalso; grind
      · refine xr_iconst (v := 2) D_Mo_moveBy_36 rfl ?_
        refine xr_goto (tgt := 74) D_Mo_moveBy_37 rfl ?_
        refine xr_istore D_Mo_moveBy_74 (by decide) ?_
        refine xr_iload_n D_Mo_moveBy_76 rfl rfl ?_
        refine xr_if_le (tgt := 95) D_Mo_moveBy_77 rfl (fun c4 => ?_) (fun c4 => ?_)
        · refine xr_aload_n D_Mo_moveBy_95 rfl rfl ?_
          refine xr_getf F_Mo_94 D_Mo_moveBy_96 rfl rfl ?_
          refine xr_iload D_Mo_moveBy_99 rfl ?_
          refine xr_iald D_Mo_moveBy_101 rfl (by exact i_in2 6 (by decide) (by decide) rfl) ?_
          refine xr_istore D_Mo_moveBy_102 (by decide) ?_
          refine xr_aload_n D_Mo_moveBy_104 rfl rfl ?_
          refine xr_iload_n D_Mo_moveBy_105 rfl rfl ?_
          refine xr_iload D_Mo_moveBy_106 rfl ?_
          refine xr_cVx (as := [_, _]) (c_Mo_add_34 (by decide) (by decide)) (L_Mo_289) (CD_Mo_add) CI_Mo D_Mo_moveBy_108 rfl rfl (by decide) (Nat.le_of_ble_eq_true rfl) (Nat.le_of_eq (Nat.zero_add _)) (Nat.le_of_eq (Nat.zero_add _)) pic_len ?_
          rintro _ (⟨hg14, rfl⟩ | ⟨hg14, rfl⟩)
          · refine ⟨_, _, rfl, pic_leq, ?_⟩
            refine xr_istore D_Mo_moveBy_111 (by decide) ?_
            refine xr_iload D_Mo_moveBy_113 rfl ?_
            refine xr_if_ne (tgt := 132) D_Mo_moveBy_115 rfl (fun c5 => ?_) (fun c5 => ?_)
            · refine xr_iload D_Mo_moveBy_132 rfl ?_
              refine xr_iret rfl D_Mo_moveBy_134 ?_
              exfalso; grind
            · exact absurd (show (8 : Int32) = (0 : Int32) from c5) (by decide)
          · refine ⟨_, _, rfl, pic_leq, ?_⟩
            refine xr_istore D_Mo_moveBy_111 (by decide) ?_
            refine xr_iload D_Mo_moveBy_113 rfl ?_
            refine xr_if_ne (tgt := 132) D_Mo_moveBy_115 rfl (fun c6 => ?_) (fun c6 => ?_)
            · exact absurd (show (0 : Int32) = (0 : Int32) by decide) c6
            · refine xr_iload D_Mo_moveBy_118 rfl ?_
              refine xr_if_le (tgt := 132) D_Mo_moveBy_120 rfl (fun c7 => ?_) (fun c7 => ?_)
              · exact absurd (show (2 : Int32) ≤ (0 : Int32) from c7) (by decide)
              · refine xr_aload_n D_Mo_moveBy_123 rfl rfl ?_
                refine xr_getf F_Mo_94 D_Mo_moveBy_124 rfl rfl ?_
                refine xr_iload D_Mo_moveBy_127 rfl ?_
                refine xr_iload D_Mo_moveBy_129 rfl ?_
                refine xr_iast D_Mo_moveBy_131 rfl (by exact i_in2 6 (by decide) (by decide) rfl) (aset_60) ?_
                refine xr_iload D_Mo_moveBy_132 rfl ?_
                refine xr_iret rfl D_Mo_moveBy_134 ?_
                exfalso; grind
        · refine xr_aload_n D_Mo_moveBy_80 rfl rfl ?_
          refine xr_aload_n D_Mo_moveBy_81 rfl rfl ?_
          refine xr_getf F_Mo_203 D_Mo_moveBy_82 rfl rfl ?_
          refine xr_iconst (v := 1) D_Mo_moveBy_85 rfl ?_
          refine xr_iadd D_Mo_moveBy_86 ?_
          refine xr_iload_n D_Mo_moveBy_87 rfl rfl ?_
          refine xr_iconst (v := 1) D_Mo_moveBy_88 rfl ?_
          refine xr_cVx (as := [_, _, _]) (c_Mo_number_34 k (hw (by grind)).1 (hw (by grind)).2.1 (hw (by grind)).2.2.1 (hw (by grind)).2.2.2.1 (hw (by grind)).2.2.2.2) (L_Mo_220) (CD_Mo_number) CI_Mo D_Mo_moveBy_89 rfl rfl (by decide) (Nat.le_of_ble_eq_true rfl) (Nat.le_of_eq (Nat.zero_add _)) (Nat.le_of_eq (Nat.zero_add _)) pic_len ?_
          rintro _ rfl
          refine ⟨_, _, rfl, pic_leq, ?_⟩
          refine xr_goto (tgt := 102) D_Mo_moveBy_92 rfl ?_
          refine xr_istore D_Mo_moveBy_102 (by decide) ?_
          refine xr_aload_n D_Mo_moveBy_104 rfl rfl ?_
          refine xr_iload_n D_Mo_moveBy_105 rfl rfl ?_
          refine xr_iload D_Mo_moveBy_106 rfl ?_
          refine xr_cVx (as := [_, _]) (c_Mo_add_34 (by decide) (by decide)) (L_Mo_289) (CD_Mo_add) CI_Mo D_Mo_moveBy_108 rfl rfl (by decide) (Nat.le_of_ble_eq_true rfl) (Nat.le_of_eq (Nat.zero_add _)) (Nat.le_of_eq (Nat.zero_add _)) pic_len ?_
          rintro _ (⟨hg16, rfl⟩ | ⟨hg16, rfl⟩)
          · refine ⟨_, _, rfl, pic_leq, ?_⟩
            refine xr_istore D_Mo_moveBy_111 (by decide) ?_
            refine xr_iload D_Mo_moveBy_113 rfl ?_
            refine xr_if_ne (tgt := 132) D_Mo_moveBy_115 rfl (fun c5 => ?_) (fun c5 => ?_)
            · refine xr_iload D_Mo_moveBy_132 rfl ?_
              refine xr_iret rfl D_Mo_moveBy_134 ?_
              exfalso; grind
            · exact absurd (show (8 : Int32) = (0 : Int32) from c5) (by decide)
          · refine ⟨_, _, rfl, pic_leq, ?_⟩
            refine xr_istore D_Mo_moveBy_111 (by decide) ?_
            refine xr_iload D_Mo_moveBy_113 rfl ?_
            refine xr_if_ne (tgt := 132) D_Mo_moveBy_115 rfl (fun c6 => ?_) (fun c6 => ?_)
            · exact absurd (show (0 : Int32) = (0 : Int32) by decide) c6
            · refine xr_iload D_Mo_moveBy_118 rfl ?_
              refine xr_if_le (tgt := 132) D_Mo_moveBy_120 rfl (fun c7 => ?_) (fun c7 => ?_)
              · exact absurd (show (2 : Int32) ≤ (0 : Int32) from c7) (by decide)
              · refine xr_aload_n D_Mo_moveBy_123 rfl rfl ?_
                refine xr_getf F_Mo_94 D_Mo_moveBy_124 rfl rfl ?_
                refine xr_iload D_Mo_moveBy_127 rfl ?_
                refine xr_iload D_Mo_moveBy_129 rfl ?_
                refine xr_iast D_Mo_moveBy_131 rfl (by exact i_in2 6 (by decide) (by decide) rfl) (aset_60) ?_
                refine xr_iload D_Mo_moveBy_132 rfl ?_
                refine xr_iret rfl D_Mo_moveBy_134 ?_
                exfalso; grind
    · refine xr_iconst (v := 0) D_Mo_moveBy_25 rfl ?_
      refine xr_goto (tgt := 74) D_Mo_moveBy_26 rfl ?_
      refine xr_istore D_Mo_moveBy_74 (by decide) ?_
      refine xr_iload_n D_Mo_moveBy_76 rfl rfl ?_
      refine xr_if_le (tgt := 95) D_Mo_moveBy_77 rfl (fun c3 => ?_) (fun c3 => ?_)
      · refine xr_aload_n D_Mo_moveBy_95 rfl rfl ?_
        refine xr_getf F_Mo_94 D_Mo_moveBy_96 rfl rfl ?_
        refine xr_iload D_Mo_moveBy_99 rfl ?_
        refine xr_iald D_Mo_moveBy_101 rfl (by exact i_in2 6 (by decide) (by decide) rfl) ?_
        refine xr_istore D_Mo_moveBy_102 (by decide) ?_
        refine xr_aload_n D_Mo_moveBy_104 rfl rfl ?_
        refine xr_iload_n D_Mo_moveBy_105 rfl rfl ?_
        refine xr_iload D_Mo_moveBy_106 rfl ?_
        refine xr_cVx (as := [_, _]) (c_Mo_add_34 (by decide) (by decide)) (L_Mo_289) (CD_Mo_add) CI_Mo D_Mo_moveBy_108 rfl rfl (by decide) (Nat.le_of_ble_eq_true rfl) (Nat.le_of_eq (Nat.zero_add _)) (Nat.le_of_eq (Nat.zero_add _)) pic_len ?_
        rintro _ (⟨hg17, rfl⟩ | ⟨hg17, rfl⟩)
        · refine ⟨_, _, rfl, pic_leq, ?_⟩
          refine xr_istore D_Mo_moveBy_111 (by decide) ?_
          refine xr_iload D_Mo_moveBy_113 rfl ?_
          refine xr_if_ne (tgt := 132) D_Mo_moveBy_115 rfl (fun c4 => ?_) (fun c4 => ?_)
          · refine xr_iload D_Mo_moveBy_132 rfl ?_
            refine xr_iret rfl D_Mo_moveBy_134 ?_
            exfalso; grind
          · exact absurd (show (8 : Int32) = (0 : Int32) from c4) (by decide)
        · refine ⟨_, _, rfl, pic_leq, ?_⟩
          refine xr_istore D_Mo_moveBy_111 (by decide) ?_
          refine xr_iload D_Mo_moveBy_113 rfl ?_
          refine xr_if_ne (tgt := 132) D_Mo_moveBy_115 rfl (fun c5 => ?_) (fun c5 => ?_)
          · exact absurd (show (0 : Int32) = (0 : Int32) by decide) c5
          · refine xr_iload D_Mo_moveBy_118 rfl ?_
            refine xr_if_le (tgt := 132) D_Mo_moveBy_120 rfl (fun c6 => ?_) (fun c6 => ?_)
            · refine xr_iload D_Mo_moveBy_132 rfl ?_
              refine xr_iret rfl D_Mo_moveBy_134 ?_
              exfalso; grind
            · exact absurd (show (0 : Int32) ≤ (0 : Int32) by decide) c6
      · refine xr_aload_n D_Mo_moveBy_80 rfl rfl ?_
        refine xr_aload_n D_Mo_moveBy_81 rfl rfl ?_
        refine xr_getf F_Mo_203 D_Mo_moveBy_82 rfl rfl ?_
        refine xr_iconst (v := 1) D_Mo_moveBy_85 rfl ?_
        refine xr_iadd D_Mo_moveBy_86 ?_
        refine xr_iload_n D_Mo_moveBy_87 rfl rfl ?_
        refine xr_iconst (v := 1) D_Mo_moveBy_88 rfl ?_
        refine xr_cVx (as := [_, _, _]) (c_Mo_number_34 k (hw (by grind)).1 (hw (by grind)).2.1 (hw (by grind)).2.2.1 (hw (by grind)).2.2.2.1 (hw (by grind)).2.2.2.2) (L_Mo_220) (CD_Mo_number) CI_Mo D_Mo_moveBy_89 rfl rfl (by decide) (Nat.le_of_ble_eq_true rfl) (Nat.le_of_eq (Nat.zero_add _)) (Nat.le_of_eq (Nat.zero_add _)) pic_len ?_
        rintro _ rfl
        refine ⟨_, _, rfl, pic_leq, ?_⟩
        refine xr_goto (tgt := 102) D_Mo_moveBy_92 rfl ?_
        refine xr_istore D_Mo_moveBy_102 (by decide) ?_
        refine xr_aload_n D_Mo_moveBy_104 rfl rfl ?_
        refine xr_iload_n D_Mo_moveBy_105 rfl rfl ?_
        refine xr_iload D_Mo_moveBy_106 rfl ?_
        refine xr_cVx (as := [_, _]) (c_Mo_add_34 (by decide) (by decide)) (L_Mo_289) (CD_Mo_add) CI_Mo D_Mo_moveBy_108 rfl rfl (by decide) (Nat.le_of_ble_eq_true rfl) (Nat.le_of_eq (Nat.zero_add _)) (Nat.le_of_eq (Nat.zero_add _)) pic_len ?_
        rintro _ (⟨hg19, rfl⟩ | ⟨hg19, rfl⟩)
        · refine ⟨_, _, rfl, pic_leq, ?_⟩
          refine xr_istore D_Mo_moveBy_111 (by decide) ?_
          refine xr_iload D_Mo_moveBy_113 rfl ?_
          refine xr_if_ne (tgt := 132) D_Mo_moveBy_115 rfl (fun c4 => ?_) (fun c4 => ?_)
          · refine xr_iload D_Mo_moveBy_132 rfl ?_
            refine xr_iret rfl D_Mo_moveBy_134 ?_
            exfalso; grind
          · exact absurd (show (8 : Int32) = (0 : Int32) from c4) (by decide)
        · refine ⟨_, _, rfl, pic_leq, ?_⟩
          refine xr_istore D_Mo_moveBy_111 (by decide) ?_
          refine xr_iload D_Mo_moveBy_113 rfl ?_
          refine xr_if_ne (tgt := 132) D_Mo_moveBy_115 rfl (fun c5 => ?_) (fun c5 => ?_)
          · exact absurd (show (0 : Int32) = (0 : Int32) by decide) c5
          · refine xr_iload D_Mo_moveBy_118 rfl ?_
            refine xr_if_le (tgt := 132) D_Mo_moveBy_120 rfl (fun c6 => ?_) (fun c6 => ?_)
            · refine xr_iload D_Mo_moveBy_132 rfl ?_
              refine xr_iret rfl D_Mo_moveBy_134 ?_
              exfalso; grind
            · exact absurd (show (0 : Int32) ≤ (0 : Int32) by decide) c6
  · refine xr_iconst (v := 0) D_Mo_moveBy_12 rfl ?_
    refine xr_goto (tgt := 17) D_Mo_moveBy_13 rfl ?_
    refine xr_istore_n D_Mo_moveBy_17 rfl (by decide) ?_
    refine xr_iload_n D_Mo_moveBy_18 rfl rfl ?_
    refine xr_sipush (v := 147) D_Mo_moveBy_19 rfl ?_
    refine xr_icmp_ge (tgt := 29) D_Mo_moveBy_22 rfl (fun c2 => ?_) (fun c2 => ?_)
    · refine xr_iload_n D_Mo_moveBy_29 rfl rfl ?_
      refine xr_sipush (v := 152) D_Mo_moveBy_30 rfl ?_
      refine xr_icmp_ge (tgt := 40) D_Mo_moveBy_33 rfl (fun c3 => ?_) (fun c3 => ?_)
      · refine xr_iload_n D_Mo_moveBy_40 rfl rfl ?_
        refine xr_sipush (v := 157) D_Mo_moveBy_41 rfl ?_
        refine xr_icmp_ge (tgt := 51) D_Mo_moveBy_44 rfl (fun c4 => ?_) (fun c4 => ?_)
        · refine xr_iload_n D_Mo_moveBy_51 rfl rfl ?_
          refine xr_sipush (v := 161) D_Mo_moveBy_52 rfl ?_
          refine xr_icmp_ge (tgt := 62) D_Mo_moveBy_55 rfl (fun c5 => ?_) (fun c5 => ?_)
          · refine xr_iload_n D_Mo_moveBy_62 rfl rfl ?_
            refine xr_sipush (v := 166) D_Mo_moveBy_63 rfl ?_
            refine xr_icmp_ge (tgt := 73) D_Mo_moveBy_66 rfl (fun c6 => ?_) (fun c6 => ?_)
            · refine xr_iconst (v := 5) D_Mo_moveBy_73 rfl ?_
              refine xr_istore D_Mo_moveBy_74 (by decide) ?_
              refine xr_iload_n D_Mo_moveBy_76 rfl rfl ?_
              refine xr_if_le (tgt := 95) D_Mo_moveBy_77 rfl (fun c7 => ?_) (fun c7 => ?_)
              · refine xr_aload_n D_Mo_moveBy_95 rfl rfl ?_
                refine xr_getf F_Mo_94 D_Mo_moveBy_96 rfl rfl ?_
                refine xr_iload D_Mo_moveBy_99 rfl ?_
                refine xr_iald D_Mo_moveBy_101 rfl (by exact i_in2 6 (by decide) (by decide) rfl) ?_
                refine xr_istore D_Mo_moveBy_102 (by decide) ?_
                refine xr_aload_n D_Mo_moveBy_104 rfl rfl ?_
                refine xr_iload_n D_Mo_moveBy_105 rfl rfl ?_
                refine xr_iload D_Mo_moveBy_106 rfl ?_
                refine xr_cVx (as := [_, _]) (c_Mo_add_34 (by decide) (by decide)) (L_Mo_289) (CD_Mo_add) CI_Mo D_Mo_moveBy_108 rfl rfl (by decide) (Nat.le_of_ble_eq_true rfl) (Nat.le_of_eq (Nat.zero_add _)) (Nat.le_of_eq (Nat.zero_add _)) pic_len ?_
                rintro _ (⟨hg20, rfl⟩ | ⟨hg20, rfl⟩)
                · refine ⟨_, _, rfl, pic_leq, ?_⟩
                  refine xr_istore D_Mo_moveBy_111 (by decide) ?_
                  refine xr_iload D_Mo_moveBy_113 rfl ?_
                  refine xr_if_ne (tgt := 132) D_Mo_moveBy_115 rfl (fun c8 => ?_) (fun c8 => ?_)
                  · refine xr_iload D_Mo_moveBy_132 rfl ?_
                    refine xr_iret rfl D_Mo_moveBy_134 ?_
                    exfalso; grind
                  · exact absurd (show (8 : Int32) = (0 : Int32) from c8) (by decide)
                · refine ⟨_, _, rfl, pic_leq, ?_⟩
                  refine xr_istore D_Mo_moveBy_111 (by decide) ?_
                  refine xr_iload D_Mo_moveBy_113 rfl ?_
                  refine xr_if_ne (tgt := 132) D_Mo_moveBy_115 rfl (fun c9 => ?_) (fun c9 => ?_)
                  · exact absurd (show (0 : Int32) = (0 : Int32) by decide) c9
                  · refine xr_iload D_Mo_moveBy_118 rfl ?_
                    refine xr_if_le (tgt := 132) D_Mo_moveBy_120 rfl (fun c10 => ?_) (fun c10 => ?_)
                    · exact absurd (show (5 : Int32) ≤ (0 : Int32) from c10) (by decide)
                    · refine xr_aload_n D_Mo_moveBy_123 rfl rfl ?_
                      refine xr_getf F_Mo_94 D_Mo_moveBy_124 rfl rfl ?_
                      refine xr_iload D_Mo_moveBy_127 rfl ?_
                      refine xr_iload D_Mo_moveBy_129 rfl ?_
                      refine xr_iast D_Mo_moveBy_131 rfl (by exact i_in2 6 (by decide) (by decide) rfl) (aset_60) ?_
                      refine xr_iload D_Mo_moveBy_132 rfl ?_
                      refine xr_iret rfl D_Mo_moveBy_134 ?_
                      exfalso; grind
              · refine xr_aload_n D_Mo_moveBy_80 rfl rfl ?_
                refine xr_aload_n D_Mo_moveBy_81 rfl rfl ?_
                refine xr_getf F_Mo_203 D_Mo_moveBy_82 rfl rfl ?_
                refine xr_iconst (v := 1) D_Mo_moveBy_85 rfl ?_
                refine xr_iadd D_Mo_moveBy_86 ?_
                refine xr_iload_n D_Mo_moveBy_87 rfl rfl ?_
                refine xr_iconst (v := 1) D_Mo_moveBy_88 rfl ?_
                refine xr_cVx (as := [_, _, _]) (c_Mo_number_34 k (hw (by grind)).1 (hw (by grind)).2.1 (hw (by grind)).2.2.1 (hw (by grind)).2.2.2.1 (hw (by grind)).2.2.2.2) (L_Mo_220) (CD_Mo_number) CI_Mo D_Mo_moveBy_89 rfl rfl (by decide) (Nat.le_of_ble_eq_true rfl) (Nat.le_of_eq (Nat.zero_add _)) (Nat.le_of_eq (Nat.zero_add _)) pic_len ?_
                rintro _ rfl
                refine ⟨_, _, rfl, pic_leq, ?_⟩
                refine xr_goto (tgt := 102) D_Mo_moveBy_92 rfl ?_
                refine xr_istore D_Mo_moveBy_102 (by decide) ?_
                refine xr_aload_n D_Mo_moveBy_104 rfl rfl ?_
                refine xr_iload_n D_Mo_moveBy_105 rfl rfl ?_
                refine xr_iload D_Mo_moveBy_106 rfl ?_
                refine xr_cVx (as := [_, _]) (c_Mo_add_34 (by decide) (by decide)) (L_Mo_289) (CD_Mo_add) CI_Mo D_Mo_moveBy_108 rfl rfl (by decide) (Nat.le_of_ble_eq_true rfl) (Nat.le_of_eq (Nat.zero_add _)) (Nat.le_of_eq (Nat.zero_add _)) pic_len ?_
                rintro _ (⟨hg22, rfl⟩ | ⟨hg22, rfl⟩)
                · refine ⟨_, _, rfl, pic_leq, ?_⟩
                  refine xr_istore D_Mo_moveBy_111 (by decide) ?_
                  refine xr_iload D_Mo_moveBy_113 rfl ?_
                  refine xr_if_ne (tgt := 132) D_Mo_moveBy_115 rfl (fun c8 => ?_) (fun c8 => ?_)
                  · refine xr_iload D_Mo_moveBy_132 rfl ?_
                    refine xr_iret rfl D_Mo_moveBy_134 ?_
                    exfalso; grind
                  · exact absurd (show (8 : Int32) = (0 : Int32) from c8) (by decide)
                · refine ⟨_, _, rfl, pic_leq, ?_⟩
                  refine xr_istore D_Mo_moveBy_111 (by decide) ?_
                  refine xr_iload D_Mo_moveBy_113 rfl ?_
                  refine xr_if_ne (tgt := 132) D_Mo_moveBy_115 rfl (fun c9 => ?_) (fun c9 => ?_)
                  · exact absurd (show (0 : Int32) = (0 : Int32) by decide) c9
                  · refine xr_iload D_Mo_moveBy_118 rfl ?_
                    refine xr_if_le (tgt := 132) D_Mo_moveBy_120 rfl (fun c10 => ?_) (fun c10 => ?_)
                    · exact absurd (show (5 : Int32) ≤ (0 : Int32) from c10) (by decide)
                    · refine xr_aload_n D_Mo_moveBy_123 rfl rfl ?_
                      refine xr_getf F_Mo_94 D_Mo_moveBy_124 rfl rfl ?_
                      refine xr_iload D_Mo_moveBy_127 rfl ?_
                      refine xr_iload D_Mo_moveBy_129 rfl ?_
                      refine xr_iast D_Mo_moveBy_131 rfl (by exact i_in2 6 (by decide) (by decide) rfl) (aset_60) ?_
                      refine xr_iload D_Mo_moveBy_132 rfl ?_
                      refine xr_iret rfl D_Mo_moveBy_134 ?_
                      exfalso; grind
            · refine xr_iconst (v := 4) D_Mo_moveBy_69 rfl ?_
              refine xr_goto (tgt := 74) D_Mo_moveBy_70 rfl ?_
              refine xr_istore D_Mo_moveBy_74 (by decide) ?_
              refine xr_iload_n D_Mo_moveBy_76 rfl rfl ?_
              refine xr_if_le (tgt := 95) D_Mo_moveBy_77 rfl (fun c7 => ?_) (fun c7 => ?_)
              · refine xr_aload_n D_Mo_moveBy_95 rfl rfl ?_
                refine xr_getf F_Mo_94 D_Mo_moveBy_96 rfl rfl ?_
                refine xr_iload D_Mo_moveBy_99 rfl ?_
                refine xr_iald D_Mo_moveBy_101 rfl (by exact i_in2 6 (by decide) (by decide) rfl) ?_
                refine xr_istore D_Mo_moveBy_102 (by decide) ?_
                refine xr_aload_n D_Mo_moveBy_104 rfl rfl ?_
                refine xr_iload_n D_Mo_moveBy_105 rfl rfl ?_
                refine xr_iload D_Mo_moveBy_106 rfl ?_
                refine xr_cVx (as := [_, _]) (c_Mo_add_34 (by decide) (by decide)) (L_Mo_289) (CD_Mo_add) CI_Mo D_Mo_moveBy_108 rfl rfl (by decide) (Nat.le_of_ble_eq_true rfl) (Nat.le_of_eq (Nat.zero_add _)) (Nat.le_of_eq (Nat.zero_add _)) pic_len ?_
                rintro _ (⟨hg23, rfl⟩ | ⟨hg23, rfl⟩)
                · refine ⟨_, _, rfl, pic_leq, ?_⟩
                  refine xr_istore D_Mo_moveBy_111 (by decide) ?_
                  refine xr_iload D_Mo_moveBy_113 rfl ?_
                  refine xr_if_ne (tgt := 132) D_Mo_moveBy_115 rfl (fun c8 => ?_) (fun c8 => ?_)
                  · refine xr_iload D_Mo_moveBy_132 rfl ?_
                    refine xr_iret rfl D_Mo_moveBy_134 ?_
                    exfalso; grind
                  · exact absurd (show (8 : Int32) = (0 : Int32) from c8) (by decide)
                · refine ⟨_, _, rfl, pic_leq, ?_⟩
                  refine xr_istore D_Mo_moveBy_111 (by decide) ?_
                  refine xr_iload D_Mo_moveBy_113 rfl ?_
                  refine xr_if_ne (tgt := 132) D_Mo_moveBy_115 rfl (fun c9 => ?_) (fun c9 => ?_)
                  · exact absurd (show (0 : Int32) = (0 : Int32) by decide) c9
                  · refine xr_iload D_Mo_moveBy_118 rfl ?_
                    refine xr_if_le (tgt := 132) D_Mo_moveBy_120 rfl (fun c10 => ?_) (fun c10 => ?_)
                    · exact absurd (show (4 : Int32) ≤ (0 : Int32) from c10) (by decide)
                    · refine xr_aload_n D_Mo_moveBy_123 rfl rfl ?_
                      refine xr_getf F_Mo_94 D_Mo_moveBy_124 rfl rfl ?_
                      refine xr_iload D_Mo_moveBy_127 rfl ?_
                      refine xr_iload D_Mo_moveBy_129 rfl ?_
                      refine xr_iast D_Mo_moveBy_131 rfl (by exact i_in2 6 (by decide) (by decide) rfl) (aset_60) ?_
                      refine xr_iload D_Mo_moveBy_132 rfl ?_
                      refine xr_iret rfl D_Mo_moveBy_134 ?_
                      exfalso; grind
              · refine xr_aload_n D_Mo_moveBy_80 rfl rfl ?_
                refine xr_aload_n D_Mo_moveBy_81 rfl rfl ?_
                refine xr_getf F_Mo_203 D_Mo_moveBy_82 rfl rfl ?_
                refine xr_iconst (v := 1) D_Mo_moveBy_85 rfl ?_
                refine xr_iadd D_Mo_moveBy_86 ?_
                refine xr_iload_n D_Mo_moveBy_87 rfl rfl ?_
                refine xr_iconst (v := 1) D_Mo_moveBy_88 rfl ?_
                refine xr_cVx (as := [_, _, _]) (c_Mo_number_34 k (hw (by grind)).1 (hw (by grind)).2.1 (hw (by grind)).2.2.1 (hw (by grind)).2.2.2.1 (hw (by grind)).2.2.2.2) (L_Mo_220) (CD_Mo_number) CI_Mo D_Mo_moveBy_89 rfl rfl (by decide) (Nat.le_of_ble_eq_true rfl) (Nat.le_of_eq (Nat.zero_add _)) (Nat.le_of_eq (Nat.zero_add _)) pic_len ?_
                rintro _ rfl
                refine ⟨_, _, rfl, pic_leq, ?_⟩
                refine xr_goto (tgt := 102) D_Mo_moveBy_92 rfl ?_
                refine xr_istore D_Mo_moveBy_102 (by decide) ?_
                refine xr_aload_n D_Mo_moveBy_104 rfl rfl ?_
                refine xr_iload_n D_Mo_moveBy_105 rfl rfl ?_
                refine xr_iload D_Mo_moveBy_106 rfl ?_
                refine xr_cVx (as := [_, _]) (c_Mo_add_34 (by decide) (by decide)) (L_Mo_289) (CD_Mo_add) CI_Mo D_Mo_moveBy_108 rfl rfl (by decide) (Nat.le_of_ble_eq_true rfl) (Nat.le_of_eq (Nat.zero_add _)) (Nat.le_of_eq (Nat.zero_add _)) pic_len ?_
                rintro _ (⟨hg25, rfl⟩ | ⟨hg25, rfl⟩)
                · refine ⟨_, _, rfl, pic_leq, ?_⟩
                  refine xr_istore D_Mo_moveBy_111 (by decide) ?_
                  refine xr_iload D_Mo_moveBy_113 rfl ?_
                  refine xr_if_ne (tgt := 132) D_Mo_moveBy_115 rfl (fun c8 => ?_) (fun c8 => ?_)
                  · refine xr_iload D_Mo_moveBy_132 rfl ?_
                    refine xr_iret rfl D_Mo_moveBy_134 ?_
                    exfalso; grind
                  · exact absurd (show (8 : Int32) = (0 : Int32) from c8) (by decide)
                · refine ⟨_, _, rfl, pic_leq, ?_⟩
                  refine xr_istore D_Mo_moveBy_111 (by decide) ?_
                  refine xr_iload D_Mo_moveBy_113 rfl ?_
                  refine xr_if_ne (tgt := 132) D_Mo_moveBy_115 rfl (fun c9 => ?_) (fun c9 => ?_)
                  · exact absurd (show (0 : Int32) = (0 : Int32) by decide) c9
                  · refine xr_iload D_Mo_moveBy_118 rfl ?_
                    refine xr_if_le (tgt := 132) D_Mo_moveBy_120 rfl (fun c10 => ?_) (fun c10 => ?_)
                    · exact absurd (show (4 : Int32) ≤ (0 : Int32) from c10) (by decide)
                    · refine xr_aload_n D_Mo_moveBy_123 rfl rfl ?_
                      refine xr_getf F_Mo_94 D_Mo_moveBy_124 rfl rfl ?_
                      refine xr_iload D_Mo_moveBy_127 rfl ?_
                      refine xr_iload D_Mo_moveBy_129 rfl ?_
                      refine xr_iast D_Mo_moveBy_131 rfl (by exact i_in2 6 (by decide) (by decide) rfl) (aset_60) ?_
                      refine xr_iload D_Mo_moveBy_132 rfl ?_
                      refine xr_iret rfl D_Mo_moveBy_134 ?_
                      exfalso; grind
          · refine xr_iconst (v := 0) D_Mo_moveBy_58 rfl ?_
            refine xr_goto (tgt := 74) D_Mo_moveBy_59 rfl ?_
            refine xr_istore D_Mo_moveBy_74 (by decide) ?_
            refine xr_iload_n D_Mo_moveBy_76 rfl rfl ?_
            refine xr_if_le (tgt := 95) D_Mo_moveBy_77 rfl (fun c6 => ?_) (fun c6 => ?_)
            · refine xr_aload_n D_Mo_moveBy_95 rfl rfl ?_
              refine xr_getf F_Mo_94 D_Mo_moveBy_96 rfl rfl ?_
              refine xr_iload D_Mo_moveBy_99 rfl ?_
              refine xr_iald D_Mo_moveBy_101 rfl (by exact i_in2 6 (by decide) (by decide) rfl) ?_
              refine xr_istore D_Mo_moveBy_102 (by decide) ?_
              refine xr_aload_n D_Mo_moveBy_104 rfl rfl ?_
              refine xr_iload_n D_Mo_moveBy_105 rfl rfl ?_
              refine xr_iload D_Mo_moveBy_106 rfl ?_
              refine xr_cVx (as := [_, _]) (c_Mo_add_34 (by decide) (by decide)) (L_Mo_289) (CD_Mo_add) CI_Mo D_Mo_moveBy_108 rfl rfl (by decide) (Nat.le_of_ble_eq_true rfl) (Nat.le_of_eq (Nat.zero_add _)) (Nat.le_of_eq (Nat.zero_add _)) pic_len ?_
              rintro _ (⟨hg26, rfl⟩ | ⟨hg26, rfl⟩)
              · refine ⟨_, _, rfl, pic_leq, ?_⟩
                refine xr_istore D_Mo_moveBy_111 (by decide) ?_
                refine xr_iload D_Mo_moveBy_113 rfl ?_
                refine xr_if_ne (tgt := 132) D_Mo_moveBy_115 rfl (fun c7 => ?_) (fun c7 => ?_)
                · refine xr_iload D_Mo_moveBy_132 rfl ?_
                  refine xr_iret rfl D_Mo_moveBy_134 ?_
                  exfalso; grind
                · exact absurd (show (8 : Int32) = (0 : Int32) from c7) (by decide)
              · refine ⟨_, _, rfl, pic_leq, ?_⟩
                refine xr_istore D_Mo_moveBy_111 (by decide) ?_
                refine xr_iload D_Mo_moveBy_113 rfl ?_
                refine xr_if_ne (tgt := 132) D_Mo_moveBy_115 rfl (fun c8 => ?_) (fun c8 => ?_)
                · exact absurd (show (0 : Int32) = (0 : Int32) by decide) c8
                · refine xr_iload D_Mo_moveBy_118 rfl ?_
                  refine xr_if_le (tgt := 132) D_Mo_moveBy_120 rfl (fun c9 => ?_) (fun c9 => ?_)
                  · refine xr_iload D_Mo_moveBy_132 rfl ?_
                    refine xr_iret rfl D_Mo_moveBy_134 ?_
                    exfalso; grind
                  · exact absurd (show (0 : Int32) ≤ (0 : Int32) by decide) c9
            · refine xr_aload_n D_Mo_moveBy_80 rfl rfl ?_
              refine xr_aload_n D_Mo_moveBy_81 rfl rfl ?_
              refine xr_getf F_Mo_203 D_Mo_moveBy_82 rfl rfl ?_
              refine xr_iconst (v := 1) D_Mo_moveBy_85 rfl ?_
              refine xr_iadd D_Mo_moveBy_86 ?_
              refine xr_iload_n D_Mo_moveBy_87 rfl rfl ?_
              refine xr_iconst (v := 1) D_Mo_moveBy_88 rfl ?_
              refine xr_cVx (as := [_, _, _]) (c_Mo_number_34 k (hw (by grind)).1 (hw (by grind)).2.1 (hw (by grind)).2.2.1 (hw (by grind)).2.2.2.1 (hw (by grind)).2.2.2.2) (L_Mo_220) (CD_Mo_number) CI_Mo D_Mo_moveBy_89 rfl rfl (by decide) (Nat.le_of_ble_eq_true rfl) (Nat.le_of_eq (Nat.zero_add _)) (Nat.le_of_eq (Nat.zero_add _)) pic_len ?_
              rintro _ rfl
              refine ⟨_, _, rfl, pic_leq, ?_⟩
              refine xr_goto (tgt := 102) D_Mo_moveBy_92 rfl ?_
              refine xr_istore D_Mo_moveBy_102 (by decide) ?_
              refine xr_aload_n D_Mo_moveBy_104 rfl rfl ?_
              refine xr_iload_n D_Mo_moveBy_105 rfl rfl ?_
              refine xr_iload D_Mo_moveBy_106 rfl ?_
              refine xr_cVx (as := [_, _]) (c_Mo_add_34 (by decide) (by decide)) (L_Mo_289) (CD_Mo_add) CI_Mo D_Mo_moveBy_108 rfl rfl (by decide) (Nat.le_of_ble_eq_true rfl) (Nat.le_of_eq (Nat.zero_add _)) (Nat.le_of_eq (Nat.zero_add _)) pic_len ?_
              rintro _ (⟨hg28, rfl⟩ | ⟨hg28, rfl⟩)
              · refine ⟨_, _, rfl, pic_leq, ?_⟩
                refine xr_istore D_Mo_moveBy_111 (by decide) ?_
                refine xr_iload D_Mo_moveBy_113 rfl ?_
                refine xr_if_ne (tgt := 132) D_Mo_moveBy_115 rfl (fun c7 => ?_) (fun c7 => ?_)
                · refine xr_iload D_Mo_moveBy_132 rfl ?_
                  refine xr_iret rfl D_Mo_moveBy_134 ?_
                  exfalso; grind
                · exact absurd (show (8 : Int32) = (0 : Int32) from c7) (by decide)
              · refine ⟨_, _, rfl, pic_leq, ?_⟩
                refine xr_istore D_Mo_moveBy_111 (by decide) ?_
                refine xr_iload D_Mo_moveBy_113 rfl ?_
                refine xr_if_ne (tgt := 132) D_Mo_moveBy_115 rfl (fun c8 => ?_) (fun c8 => ?_)
                · exact absurd (show (0 : Int32) = (0 : Int32) by decide) c8
                · refine xr_iload D_Mo_moveBy_118 rfl ?_
                  refine xr_if_le (tgt := 132) D_Mo_moveBy_120 rfl (fun c9 => ?_) (fun c9 => ?_)
                  · refine xr_iload D_Mo_moveBy_132 rfl ?_
                    refine xr_iret rfl D_Mo_moveBy_134 ?_
                    exfalso; grind
                  · exact absurd (show (0 : Int32) ≤ (0 : Int32) by decide) c9
        · refine xr_iconst (v := 3) D_Mo_moveBy_47 rfl ?_
          refine xr_goto (tgt := 74) D_Mo_moveBy_48 rfl ?_
          refine xr_istore D_Mo_moveBy_74 (by decide) ?_
          refine xr_iload_n D_Mo_moveBy_76 rfl rfl ?_
          refine xr_if_le (tgt := 95) D_Mo_moveBy_77 rfl (fun c5 => ?_) (fun c5 => ?_)
          · refine xr_aload_n D_Mo_moveBy_95 rfl rfl ?_
            refine xr_getf F_Mo_94 D_Mo_moveBy_96 rfl rfl ?_
            refine xr_iload D_Mo_moveBy_99 rfl ?_
            refine xr_iald D_Mo_moveBy_101 rfl (by exact i_in2 6 (by decide) (by decide) rfl) ?_
            refine xr_istore D_Mo_moveBy_102 (by decide) ?_
            refine xr_aload_n D_Mo_moveBy_104 rfl rfl ?_
            refine xr_iload_n D_Mo_moveBy_105 rfl rfl ?_
            refine xr_iload D_Mo_moveBy_106 rfl ?_
            refine xr_cVx (as := [_, _]) (c_Mo_add_34 (by decide) (by decide)) (L_Mo_289) (CD_Mo_add) CI_Mo D_Mo_moveBy_108 rfl rfl (by decide) (Nat.le_of_ble_eq_true rfl) (Nat.le_of_eq (Nat.zero_add _)) (Nat.le_of_eq (Nat.zero_add _)) pic_len ?_
            rintro _ (⟨hg29, rfl⟩ | ⟨hg29, rfl⟩)
            · refine ⟨_, _, rfl, pic_leq, ?_⟩
              refine xr_istore D_Mo_moveBy_111 (by decide) ?_
              refine xr_iload D_Mo_moveBy_113 rfl ?_
              refine xr_if_ne (tgt := 132) D_Mo_moveBy_115 rfl (fun c6 => ?_) (fun c6 => ?_)
              · refine xr_iload D_Mo_moveBy_132 rfl ?_
                refine xr_iret rfl D_Mo_moveBy_134 ?_
                exact Or.inr (Or.inr (Or.inr (Or.inr (Or.inr (Or.inr (Or.inr (Or.inr (Or.inr (Or.inr (Or.inr (Or.inl ⟨⟨by grind, by assumption⟩, rfl⟩)))))))))))
              · exact absurd (show (8 : Int32) = (0 : Int32) from c6) (by decide)
            · refine ⟨_, _, rfl, pic_leq, ?_⟩
              refine xr_istore D_Mo_moveBy_111 (by decide) ?_
              refine xr_iload D_Mo_moveBy_113 rfl ?_
              refine xr_if_ne (tgt := 132) D_Mo_moveBy_115 rfl (fun c7 => ?_) (fun c7 => ?_)
              · exact absurd (show (0 : Int32) = (0 : Int32) by decide) c7
              · refine xr_iload D_Mo_moveBy_118 rfl ?_
                refine xr_if_le (tgt := 132) D_Mo_moveBy_120 rfl (fun c8 => ?_) (fun c8 => ?_)
                · exact absurd (show (3 : Int32) ≤ (0 : Int32) from c8) (by decide)
                · refine xr_aload_n D_Mo_moveBy_123 rfl rfl ?_
                  refine xr_getf F_Mo_94 D_Mo_moveBy_124 rfl rfl ?_
                  refine xr_iload D_Mo_moveBy_127 rfl ?_
                  refine xr_iload D_Mo_moveBy_129 rfl ?_
                  refine xr_iast D_Mo_moveBy_131 rfl (by exact i_in2 6 (by decide) (by decide) rfl) (aset_60) ?_
                  refine xr_iload D_Mo_moveBy_132 rfl ?_
                  refine xr_iret rfl D_Mo_moveBy_134 ?_
                  exact Or.inr (Or.inr (Or.inr (Or.inr (Or.inr (Or.inr (Or.inr (Or.inr (Or.inr (Or.inr (Or.inl ⟨⟨by grind, by assumption⟩, rfl⟩))))))))))
          · refine xr_aload_n D_Mo_moveBy_80 rfl rfl ?_
            refine xr_aload_n D_Mo_moveBy_81 rfl rfl ?_
            refine xr_getf F_Mo_203 D_Mo_moveBy_82 rfl rfl ?_
            refine xr_iconst (v := 1) D_Mo_moveBy_85 rfl ?_
            refine xr_iadd D_Mo_moveBy_86 ?_
            refine xr_iload_n D_Mo_moveBy_87 rfl rfl ?_
            refine xr_iconst (v := 1) D_Mo_moveBy_88 rfl ?_
            refine xr_cVx (as := [_, _, _]) (c_Mo_number_34 k (hw (by grind)).1 (hw (by grind)).2.1 (hw (by grind)).2.2.1 (hw (by grind)).2.2.2.1 (hw (by grind)).2.2.2.2) (L_Mo_220) (CD_Mo_number) CI_Mo D_Mo_moveBy_89 rfl rfl (by decide) (Nat.le_of_ble_eq_true rfl) (Nat.le_of_eq (Nat.zero_add _)) (Nat.le_of_eq (Nat.zero_add _)) pic_len ?_
            rintro _ rfl
            refine ⟨_, _, rfl, pic_leq, ?_⟩
            refine xr_goto (tgt := 102) D_Mo_moveBy_92 rfl ?_
            refine xr_istore D_Mo_moveBy_102 (by decide) ?_
            refine xr_aload_n D_Mo_moveBy_104 rfl rfl ?_
            refine xr_iload_n D_Mo_moveBy_105 rfl rfl ?_
            refine xr_iload D_Mo_moveBy_106 rfl ?_
            refine xr_cVx (as := [_, _]) (c_Mo_add_34 (by decide) (by decide)) (L_Mo_289) (CD_Mo_add) CI_Mo D_Mo_moveBy_108 rfl rfl (by decide) (Nat.le_of_ble_eq_true rfl) (Nat.le_of_eq (Nat.zero_add _)) (Nat.le_of_eq (Nat.zero_add _)) pic_len ?_
            rintro _ (⟨hg31, rfl⟩ | ⟨hg31, rfl⟩)
            · refine ⟨_, _, rfl, pic_leq, ?_⟩
              refine xr_istore D_Mo_moveBy_111 (by decide) ?_
              refine xr_iload D_Mo_moveBy_113 rfl ?_
              refine xr_if_ne (tgt := 132) D_Mo_moveBy_115 rfl (fun c6 => ?_) (fun c6 => ?_)
              · refine xr_iload D_Mo_moveBy_132 rfl ?_
                refine xr_iret rfl D_Mo_moveBy_134 ?_
                exact Or.inr (Or.inr (Or.inr (Or.inr (Or.inr (Or.inr (Or.inr (Or.inr (Or.inr (Or.inl ⟨⟨by grind, by assumption⟩, rfl⟩)))))))))
              · exact absurd (show (8 : Int32) = (0 : Int32) from c6) (by decide)
            · refine ⟨_, _, rfl, pic_leq, ?_⟩
              refine xr_istore D_Mo_moveBy_111 (by decide) ?_
              refine xr_iload D_Mo_moveBy_113 rfl ?_
              refine xr_if_ne (tgt := 132) D_Mo_moveBy_115 rfl (fun c7 => ?_) (fun c7 => ?_)
              · exact absurd (show (0 : Int32) = (0 : Int32) by decide) c7
              · refine xr_iload D_Mo_moveBy_118 rfl ?_
                refine xr_if_le (tgt := 132) D_Mo_moveBy_120 rfl (fun c8 => ?_) (fun c8 => ?_)
                · exact absurd (show (3 : Int32) ≤ (0 : Int32) from c8) (by decide)
                · refine xr_aload_n D_Mo_moveBy_123 rfl rfl ?_
                  refine xr_getf F_Mo_94 D_Mo_moveBy_124 rfl rfl ?_
                  refine xr_iload D_Mo_moveBy_127 rfl ?_
                  refine xr_iload D_Mo_moveBy_129 rfl ?_
                  refine xr_iast D_Mo_moveBy_131 rfl (by exact i_in2 6 (by decide) (by decide) rfl) (aset_60) ?_
                  refine xr_iload D_Mo_moveBy_132 rfl ?_
                  refine xr_iret rfl D_Mo_moveBy_134 ?_
                  exact Or.inr (Or.inr (Or.inr (Or.inr (Or.inr (Or.inr (Or.inr (Or.inr (Or.inl ⟨⟨by grind, by assumption⟩, rfl⟩))))))))
      · refine xr_iconst (v := 2) D_Mo_moveBy_36 rfl ?_
        refine xr_goto (tgt := 74) D_Mo_moveBy_37 rfl ?_
        refine xr_istore D_Mo_moveBy_74 (by decide) ?_
        refine xr_iload_n D_Mo_moveBy_76 rfl rfl ?_
        refine xr_if_le (tgt := 95) D_Mo_moveBy_77 rfl (fun c4 => ?_) (fun c4 => ?_)
        · refine xr_aload_n D_Mo_moveBy_95 rfl rfl ?_
          refine xr_getf F_Mo_94 D_Mo_moveBy_96 rfl rfl ?_
          refine xr_iload D_Mo_moveBy_99 rfl ?_
          refine xr_iald D_Mo_moveBy_101 rfl (by exact i_in2 6 (by decide) (by decide) rfl) ?_
          refine xr_istore D_Mo_moveBy_102 (by decide) ?_
          refine xr_aload_n D_Mo_moveBy_104 rfl rfl ?_
          refine xr_iload_n D_Mo_moveBy_105 rfl rfl ?_
          refine xr_iload D_Mo_moveBy_106 rfl ?_
          refine xr_cVx (as := [_, _]) (c_Mo_add_34 (by decide) (by decide)) (L_Mo_289) (CD_Mo_add) CI_Mo D_Mo_moveBy_108 rfl rfl (by decide) (Nat.le_of_ble_eq_true rfl) (Nat.le_of_eq (Nat.zero_add _)) (Nat.le_of_eq (Nat.zero_add _)) pic_len ?_
          rintro _ (⟨hg32, rfl⟩ | ⟨hg32, rfl⟩)
          · refine ⟨_, _, rfl, pic_leq, ?_⟩
            refine xr_istore D_Mo_moveBy_111 (by decide) ?_
            refine xr_iload D_Mo_moveBy_113 rfl ?_
            refine xr_if_ne (tgt := 132) D_Mo_moveBy_115 rfl (fun c5 => ?_) (fun c5 => ?_)
            · refine xr_iload D_Mo_moveBy_132 rfl ?_
              refine xr_iret rfl D_Mo_moveBy_134 ?_
              exact Or.inr (Or.inr (Or.inr (Or.inr (Or.inr (Or.inr (Or.inr (Or.inl ⟨⟨by grind, by assumption⟩, rfl⟩)))))))
            · exact absurd (show (8 : Int32) = (0 : Int32) from c5) (by decide)
          · refine ⟨_, _, rfl, pic_leq, ?_⟩
            refine xr_istore D_Mo_moveBy_111 (by decide) ?_
            refine xr_iload D_Mo_moveBy_113 rfl ?_
            refine xr_if_ne (tgt := 132) D_Mo_moveBy_115 rfl (fun c6 => ?_) (fun c6 => ?_)
            · exact absurd (show (0 : Int32) = (0 : Int32) by decide) c6
            · refine xr_iload D_Mo_moveBy_118 rfl ?_
              refine xr_if_le (tgt := 132) D_Mo_moveBy_120 rfl (fun c7 => ?_) (fun c7 => ?_)
              · exact absurd (show (2 : Int32) ≤ (0 : Int32) from c7) (by decide)
              · refine xr_aload_n D_Mo_moveBy_123 rfl rfl ?_
                refine xr_getf F_Mo_94 D_Mo_moveBy_124 rfl rfl ?_
                refine xr_iload D_Mo_moveBy_127 rfl ?_
                refine xr_iload D_Mo_moveBy_129 rfl ?_
                refine xr_iast D_Mo_moveBy_131 rfl (by exact i_in2 6 (by decide) (by decide) rfl) (aset_60) ?_
                refine xr_iload D_Mo_moveBy_132 rfl ?_
                refine xr_iret rfl D_Mo_moveBy_134 ?_
                exact Or.inr (Or.inr (Or.inr (Or.inr (Or.inr (Or.inr (Or.inl ⟨⟨by grind, by assumption⟩, rfl⟩))))))
        · refine xr_aload_n D_Mo_moveBy_80 rfl rfl ?_
          refine xr_aload_n D_Mo_moveBy_81 rfl rfl ?_
          refine xr_getf F_Mo_203 D_Mo_moveBy_82 rfl rfl ?_
          refine xr_iconst (v := 1) D_Mo_moveBy_85 rfl ?_
          refine xr_iadd D_Mo_moveBy_86 ?_
          refine xr_iload_n D_Mo_moveBy_87 rfl rfl ?_
          refine xr_iconst (v := 1) D_Mo_moveBy_88 rfl ?_
          refine xr_cVx (as := [_, _, _]) (c_Mo_number_34 k (hw (by grind)).1 (hw (by grind)).2.1 (hw (by grind)).2.2.1 (hw (by grind)).2.2.2.1 (hw (by grind)).2.2.2.2) (L_Mo_220) (CD_Mo_number) CI_Mo D_Mo_moveBy_89 rfl rfl (by decide) (Nat.le_of_ble_eq_true rfl) (Nat.le_of_eq (Nat.zero_add _)) (Nat.le_of_eq (Nat.zero_add _)) pic_len ?_
          rintro _ rfl
          refine ⟨_, _, rfl, pic_leq, ?_⟩
          refine xr_goto (tgt := 102) D_Mo_moveBy_92 rfl ?_
          refine xr_istore D_Mo_moveBy_102 (by decide) ?_
          refine xr_aload_n D_Mo_moveBy_104 rfl rfl ?_
          refine xr_iload_n D_Mo_moveBy_105 rfl rfl ?_
          refine xr_iload D_Mo_moveBy_106 rfl ?_
          refine xr_cVx (as := [_, _]) (c_Mo_add_34 (by decide) (by decide)) (L_Mo_289) (CD_Mo_add) CI_Mo D_Mo_moveBy_108 rfl rfl (by decide) (Nat.le_of_ble_eq_true rfl) (Nat.le_of_eq (Nat.zero_add _)) (Nat.le_of_eq (Nat.zero_add _)) pic_len ?_
          rintro _ (⟨hg34, rfl⟩ | ⟨hg34, rfl⟩)
          · refine ⟨_, _, rfl, pic_leq, ?_⟩
            refine xr_istore D_Mo_moveBy_111 (by decide) ?_
            refine xr_iload D_Mo_moveBy_113 rfl ?_
            refine xr_if_ne (tgt := 132) D_Mo_moveBy_115 rfl (fun c5 => ?_) (fun c5 => ?_)
            · refine xr_iload D_Mo_moveBy_132 rfl ?_
              refine xr_iret rfl D_Mo_moveBy_134 ?_
              exact Or.inr (Or.inr (Or.inr (Or.inr (Or.inr (Or.inl ⟨⟨by grind, by assumption⟩, rfl⟩)))))
            · exact absurd (show (8 : Int32) = (0 : Int32) from c5) (by decide)
          · refine ⟨_, _, rfl, pic_leq, ?_⟩
            refine xr_istore D_Mo_moveBy_111 (by decide) ?_
            refine xr_iload D_Mo_moveBy_113 rfl ?_
            refine xr_if_ne (tgt := 132) D_Mo_moveBy_115 rfl (fun c6 => ?_) (fun c6 => ?_)
            · exact absurd (show (0 : Int32) = (0 : Int32) by decide) c6
            · refine xr_iload D_Mo_moveBy_118 rfl ?_
              refine xr_if_le (tgt := 132) D_Mo_moveBy_120 rfl (fun c7 => ?_) (fun c7 => ?_)
              · exact absurd (show (2 : Int32) ≤ (0 : Int32) from c7) (by decide)
              · refine xr_aload_n D_Mo_moveBy_123 rfl rfl ?_
                refine xr_getf F_Mo_94 D_Mo_moveBy_124 rfl rfl ?_
                refine xr_iload D_Mo_moveBy_127 rfl ?_
                refine xr_iload D_Mo_moveBy_129 rfl ?_
                refine xr_iast D_Mo_moveBy_131 rfl (by exact i_in2 6 (by decide) (by decide) rfl) (aset_60) ?_
                refine xr_iload D_Mo_moveBy_132 rfl ?_
                refine xr_iret rfl D_Mo_moveBy_134 ?_
                exact Or.inr (Or.inr (Or.inr (Or.inr (Or.inl ⟨⟨by grind, by assumption⟩, rfl⟩))))
    · refine xr_iconst (v := 0) D_Mo_moveBy_25 rfl ?_
      refine xr_goto (tgt := 74) D_Mo_moveBy_26 rfl ?_
      refine xr_istore D_Mo_moveBy_74 (by decide) ?_
      refine xr_iload_n D_Mo_moveBy_76 rfl rfl ?_
      refine xr_if_le (tgt := 95) D_Mo_moveBy_77 rfl (fun c3 => ?_) (fun c3 => ?_)
      · refine xr_aload_n D_Mo_moveBy_95 rfl rfl ?_
        refine xr_getf F_Mo_94 D_Mo_moveBy_96 rfl rfl ?_
        refine xr_iload D_Mo_moveBy_99 rfl ?_
        refine xr_iald D_Mo_moveBy_101 rfl (by exact i_in2 6 (by decide) (by decide) rfl) ?_
        refine xr_istore D_Mo_moveBy_102 (by decide) ?_
        refine xr_aload_n D_Mo_moveBy_104 rfl rfl ?_
        refine xr_iload_n D_Mo_moveBy_105 rfl rfl ?_
        refine xr_iload D_Mo_moveBy_106 rfl ?_
        refine xr_cVx (as := [_, _]) (c_Mo_add_34 (by decide) (by decide)) (L_Mo_289) (CD_Mo_add) CI_Mo D_Mo_moveBy_108 rfl rfl (by decide) (Nat.le_of_ble_eq_true rfl) (Nat.le_of_eq (Nat.zero_add _)) (Nat.le_of_eq (Nat.zero_add _)) pic_len ?_
        rintro _ (⟨hg35, rfl⟩ | ⟨hg35, rfl⟩)
        · refine ⟨_, _, rfl, pic_leq, ?_⟩
          refine xr_istore D_Mo_moveBy_111 (by decide) ?_
          refine xr_iload D_Mo_moveBy_113 rfl ?_
          refine xr_if_ne (tgt := 132) D_Mo_moveBy_115 rfl (fun c4 => ?_) (fun c4 => ?_)
          · refine xr_iload D_Mo_moveBy_132 rfl ?_
            refine xr_iret rfl D_Mo_moveBy_134 ?_
            exact Or.inr (Or.inr (Or.inr (Or.inl ⟨⟨by grind, by assumption⟩, rfl⟩)))
          · exact absurd (show (8 : Int32) = (0 : Int32) from c4) (by decide)
        · refine ⟨_, _, rfl, pic_leq, ?_⟩
          refine xr_istore D_Mo_moveBy_111 (by decide) ?_
          refine xr_iload D_Mo_moveBy_113 rfl ?_
          refine xr_if_ne (tgt := 132) D_Mo_moveBy_115 rfl (fun c5 => ?_) (fun c5 => ?_)
          · exact absurd (show (0 : Int32) = (0 : Int32) by decide) c5
          · refine xr_iload D_Mo_moveBy_118 rfl ?_
            refine xr_if_le (tgt := 132) D_Mo_moveBy_120 rfl (fun c6 => ?_) (fun c6 => ?_)
            · refine xr_iload D_Mo_moveBy_132 rfl ?_
              refine xr_iret rfl D_Mo_moveBy_134 ?_
              exact Or.inr (Or.inr (Or.inl ⟨⟨by grind, by assumption⟩, rfl⟩))
            · exact absurd (show (0 : Int32) ≤ (0 : Int32) by decide) c6
      · refine xr_aload_n D_Mo_moveBy_80 rfl rfl ?_
        refine xr_aload_n D_Mo_moveBy_81 rfl rfl ?_
        refine xr_getf F_Mo_203 D_Mo_moveBy_82 rfl rfl ?_
        refine xr_iconst (v := 1) D_Mo_moveBy_85 rfl ?_
        refine xr_iadd D_Mo_moveBy_86 ?_
        refine xr_iload_n D_Mo_moveBy_87 rfl rfl ?_
        refine xr_iconst (v := 1) D_Mo_moveBy_88 rfl ?_
        refine xr_cVx (as := [_, _, _]) (c_Mo_number_34 k (hw (by grind)).1 (hw (by grind)).2.1 (hw (by grind)).2.2.1 (hw (by grind)).2.2.2.1 (hw (by grind)).2.2.2.2) (L_Mo_220) (CD_Mo_number) CI_Mo D_Mo_moveBy_89 rfl rfl (by decide) (Nat.le_of_ble_eq_true rfl) (Nat.le_of_eq (Nat.zero_add _)) (Nat.le_of_eq (Nat.zero_add _)) pic_len ?_
        rintro _ rfl
        refine ⟨_, _, rfl, pic_leq, ?_⟩
        refine xr_goto (tgt := 102) D_Mo_moveBy_92 rfl ?_
        refine xr_istore D_Mo_moveBy_102 (by decide) ?_
        refine xr_aload_n D_Mo_moveBy_104 rfl rfl ?_
        refine xr_iload_n D_Mo_moveBy_105 rfl rfl ?_
        refine xr_iload D_Mo_moveBy_106 rfl ?_
        refine xr_cVx (as := [_, _]) (c_Mo_add_34 (by decide) (by decide)) (L_Mo_289) (CD_Mo_add) CI_Mo D_Mo_moveBy_108 rfl rfl (by decide) (Nat.le_of_ble_eq_true rfl) (Nat.le_of_eq (Nat.zero_add _)) (Nat.le_of_eq (Nat.zero_add _)) pic_len ?_
        rintro _ (⟨hg37, rfl⟩ | ⟨hg37, rfl⟩)
        · refine ⟨_, _, rfl, pic_leq, ?_⟩
          refine xr_istore D_Mo_moveBy_111 (by decide) ?_
          refine xr_iload D_Mo_moveBy_113 rfl ?_
          refine xr_if_ne (tgt := 132) D_Mo_moveBy_115 rfl (fun c4 => ?_) (fun c4 => ?_)
          · refine xr_iload D_Mo_moveBy_132 rfl ?_
            refine xr_iret rfl D_Mo_moveBy_134 ?_
            exact Or.inr (Or.inl ⟨⟨by grind, by assumption⟩, rfl⟩)
          · exact absurd (show (8 : Int32) = (0 : Int32) from c4) (by decide)
        · refine ⟨_, _, rfl, pic_leq, ?_⟩
          refine xr_istore D_Mo_moveBy_111 (by decide) ?_
          refine xr_iload D_Mo_moveBy_113 rfl ?_
          refine xr_if_ne (tgt := 132) D_Mo_moveBy_115 rfl (fun c5 => ?_) (fun c5 => ?_)
          · exact absurd (show (0 : Int32) = (0 : Int32) by decide) c5
          · refine xr_iload D_Mo_moveBy_118 rfl ?_
            refine xr_if_le (tgt := 132) D_Mo_moveBy_120 rfl (fun c6 => ?_) (fun c6 => ?_)
            · refine xr_iload D_Mo_moveBy_132 rfl ?_
              refine xr_iret rfl D_Mo_moveBy_134 ?_
              exact Or.inl ⟨⟨by grind, by assumption⟩, rfl⟩
            · exact absurd (show (0 : Int32) ≤ (0 : Int32) by decide) c6
