set_option maxHeartbeats 8000000 in
theorem c_Rd_obeyMove_31 {I : mI} {A : mA} {L : mL}  {k : Nat} (hw : (I 3109).toInt = (k : Int)) (hk : k ≤ 4) : xm m_Rd_obeyMove (3, 68) [.ref 31] (pic I A L) 0 0 (fun o => (((I 3108 < 157) ∧ ((I 3108 - 143) < 4) ∧ (0 < I 3109) ∧ fitL (smG (A 32 0) ((nrd (gat (I 2201) (A 23)) (I 3107 + 1) k <<< ((32 - 8 * I 3109) &&& 31)) >>> ((32 - 8 * I 3109) &&& 31)))) ∧ o = (.inl (some (.int 0)), pic I (upA A 32 0 (smG (A 32 0) ((nrd (gat (I 2201) (A 23)) (I 3107 + 1) k <<< ((32 - 8 * I 3109) &&& 31)) >>> ((32 - 8 * I 3109) &&& 31))).toInt32) L)) ∨ (((I 3108 < 157) ∧ ((I 3108 - 143) < 4) ∧ (0 < I 3109) ∧ ¬ fitL (smG (A 32 0) ((nrd (gat (I 2201) (A 23)) (I 3107 + 1) k <<< ((32 - 8 * I 3109) &&& 31)) >>> ((32 - 8 * I 3109) &&& 31)))) ∧ o = (.inl (some (.int 8)), pic I A L)) ∨ (((I 3108 < 157) ∧ ((I 3108 - 143) < 4) ∧ (¬ 0 < I 3109) ∧ fitL (smG (A 32 0) (A 32 2))) ∧ o = (.inl (some (.int 0)), pic I (upA A 32 0 (smG (A 32 0) (A 32 2)).toInt32) L)) ∨ (((I 3108 < 157) ∧ ((I 3108 - 143) < 4) ∧ (¬ 0 < I 3109) ∧ ¬ fitL (smG (A 32 0) (A 32 2))) ∧ o = (.inl (some (.int 8)), pic I A L)) ∨ (((I 3108 < 157) ∧ (¬ (I 3108 - 143) < 4 ∧ (I 3108 - 143) < 9) ∧ (0 < I 3109) ∧ fitL (smG (A 32 0) ((nrd (gat (I 2201) (A 23)) (I 3107 + 1) k <<< ((32 - 8 * I 3109) &&& 31)) >>> ((32 - 8 * I 3109) &&& 31)))) ∧ o = (.inl (some (.int 0)), pic I (upA (upA A 32 2 ((nrd (gat (I 2201) (A 23)) (I 3107 + 1) k <<< ((32 - 8 * I 3109) &&& 31)) >>> ((32 - 8 * I 3109) &&& 31))) 32 0 (smG (A 32 0) ((nrd (gat (I 2201) (A 23)) (I 3107 + 1) k <<< ((32 - 8 * I 3109) &&& 31)) >>> ((32 - 8 * I 3109) &&& 31))).toInt32) L)) ∨ (((I 3108 < 157) ∧ (¬ (I 3108 - 143) < 4 ∧ (I 3108 - 143) < 9) ∧ (0 < I 3109) ∧ ¬ fitL (smG (A 32 0) ((nrd (gat (I 2201) (A 23)) (I 3107 + 1) k <<< ((32 - 8 * I 3109) &&& 31)) >>> ((32 - 8 * I 3109) &&& 31)))) ∧ o = (.inl (some (.int 8)), pic I (upA A 32 2 ((nrd (gat (I 2201) (A 23)) (I 3107 + 1) k <<< ((32 - 8 * I 3109) &&& 31)) >>> ((32 - 8 * I 3109) &&& 31))) L)) ∨ (((I 3108 < 157) ∧ (¬ (I 3108 - 143) < 4 ∧ (I 3108 - 143) < 9) ∧ (¬ 0 < I 3109) ∧ fitL (smG (A 32 0) (A 32 2))) ∧ o = (.inl (some (.int 0)), pic I (upA (upA A 32 2 (A 32 2)) 32 0 (smG (A 32 0) (A 32 2)).toInt32) L)) ∨ (((I 3108 < 157) ∧ (¬ (I 3108 - 143) < 4 ∧ (I 3108 - 143) < 9) ∧ (¬ 0 < I 3109) ∧ ¬ fitL (smG (A 32 0) (A 32 2))) ∧ o = (.inl (some (.int 8)), pic I (upA A 32 2 (A 32 2)) L)) ∨ (((I 3108 < 157) ∧ (¬ (I 3108 - 143) < 9) ∧ (0 < I 3109) ∧ fitL (smG (A 32 0) ((nrd (gat (I 2201) (A 23)) (I 3107 + 1) k <<< ((32 - 8 * I 3109) &&& 31)) >>> ((32 - 8 * I 3109) &&& 31)))) ∧ o = (.inl (some (.int 0)), pic I (upA (upA A 32 3 ((nrd (gat (I 2201) (A 23)) (I 3107 + 1) k <<< ((32 - 8 * I 3109) &&& 31)) >>> ((32 - 8 * I 3109) &&& 31))) 32 0 (smG (A 32 0) ((nrd (gat (I 2201) (A 23)) (I 3107 + 1) k <<< ((32 - 8 * I 3109) &&& 31)) >>> ((32 - 8 * I 3109) &&& 31))).toInt32) L)) ∨ (((I 3108 < 157) ∧ (¬ (I 3108 - 143) < 9) ∧ (0 < I 3109) ∧ ¬ fitL (smG (A 32 0) ((nrd (gat (I 2201) (A 23)) (I 3107 + 1) k <<< ((32 - 8 * I 3109) &&& 31)) >>> ((32 - 8 * I 3109) &&& 31)))) ∧ o = (.inl (some (.int 8)), pic I (upA A 32 3 ((nrd (gat (I 2201) (A 23)) (I 3107 + 1) k <<< ((32 - 8 * I 3109) &&& 31)) >>> ((32 - 8 * I 3109) &&& 31))) L)) ∨ (((I 3108 < 157) ∧ (¬ (I 3108 - 143) < 9) ∧ (¬ 0 < I 3109) ∧ fitL (smG (A 32 0) (A 32 3))) ∧ o = (.inl (some (.int 0)), pic I (upA (upA A 32 3 (A 32 3)) 32 0 (smG (A 32 0) (A 32 3)).toInt32) L)) ∨ (((I 3108 < 157) ∧ (¬ (I 3108 - 143) < 9) ∧ (¬ 0 < I 3109) ∧ ¬ fitL (smG (A 32 0) (A 32 3))) ∧ o = (.inl (some (.int 8)), pic I (upA A 32 3 (A 32 3)) L)) ∨ (((¬ I 3108 < 157) ∧ ((I 3108 - 157) < 4) ∧ (0 < I 3109) ∧ fitL (smG (A 32 1) ((nrd (gat (I 2201) (A 23)) (I 3107 + 1) k <<< ((32 - 8 * I 3109) &&& 31)) >>> ((32 - 8 * I 3109) &&& 31)))) ∧ o = (.inl (some (.int 0)), pic I (upA A 32 1 (smG (A 32 1) ((nrd (gat (I 2201) (A 23)) (I 3107 + 1) k <<< ((32 - 8 * I 3109) &&& 31)) >>> ((32 - 8 * I 3109) &&& 31))).toInt32) L)) ∨ (((¬ I 3108 < 157) ∧ ((I 3108 - 157) < 4) ∧ (0 < I 3109) ∧ ¬ fitL (smG (A 32 1) ((nrd (gat (I 2201) (A 23)) (I 3107 + 1) k <<< ((32 - 8 * I 3109) &&& 31)) >>> ((32 - 8 * I 3109) &&& 31)))) ∧ o = (.inl (some (.int 8)), pic I A L)) ∨ (((¬ I 3108 < 157) ∧ ((I 3108 - 157) < 4) ∧ (¬ 0 < I 3109) ∧ fitL (smG (A 32 1) (A 32 4))) ∧ o = (.inl (some (.int 0)), pic I (upA A 32 1 (smG (A 32 1) (A 32 4)).toInt32) L)) ∨ (((¬ I 3108 < 157) ∧ ((I 3108 - 157) < 4) ∧ (¬ 0 < I 3109) ∧ ¬ fitL (smG (A 32 1) (A 32 4))) ∧ o = (.inl (some (.int 8)), pic I A L)) ∨ (((¬ I 3108 < 157) ∧ (¬ (I 3108 - 157) < 4 ∧ (I 3108 - 157) < 9) ∧ (0 < I 3109) ∧ fitL (smG (A 32 1) ((nrd (gat (I 2201) (A 23)) (I 3107 + 1) k <<< ((32 - 8 * I 3109) &&& 31)) >>> ((32 - 8 * I 3109) &&& 31)))) ∧ o = (.inl (some (.int 0)), pic I (upA (upA A 32 4 ((nrd (gat (I 2201) (A 23)) (I 3107 + 1) k <<< ((32 - 8 * I 3109) &&& 31)) >>> ((32 - 8 * I 3109) &&& 31))) 32 1 (smG (A 32 1) ((nrd (gat (I 2201) (A 23)) (I 3107 + 1) k <<< ((32 - 8 * I 3109) &&& 31)) >>> ((32 - 8 * I 3109) &&& 31))).toInt32) L)) ∨ (((¬ I 3108 < 157) ∧ (¬ (I 3108 - 157) < 4 ∧ (I 3108 - 157) < 9) ∧ (0 < I 3109) ∧ ¬ fitL (smG (A 32 1) ((nrd (gat (I 2201) (A 23)) (I 3107 + 1) k <<< ((32 - 8 * I 3109) &&& 31)) >>> ((32 - 8 * I 3109) &&& 31)))) ∧ o = (.inl (some (.int 8)), pic I (upA A 32 4 ((nrd (gat (I 2201) (A 23)) (I 3107 + 1) k <<< ((32 - 8 * I 3109) &&& 31)) >>> ((32 - 8 * I 3109) &&& 31))) L)) ∨ (((¬ I 3108 < 157) ∧ (¬ (I 3108 - 157) < 4 ∧ (I 3108 - 157) < 9) ∧ (¬ 0 < I 3109) ∧ fitL (smG (A 32 1) (A 32 4))) ∧ o = (.inl (some (.int 0)), pic I (upA (upA A 32 4 (A 32 4)) 32 1 (smG (A 32 1) (A 32 4)).toInt32) L)) ∨ (((¬ I 3108 < 157) ∧ (¬ (I 3108 - 157) < 4 ∧ (I 3108 - 157) < 9) ∧ (¬ 0 < I 3109) ∧ ¬ fitL (smG (A 32 1) (A 32 4))) ∧ o = (.inl (some (.int 8)), pic I (upA A 32 4 (A 32 4)) L)) ∨ (((¬ I 3108 < 157) ∧ (¬ (I 3108 - 157) < 9) ∧ (0 < I 3109) ∧ fitL (smG (A 32 1) ((nrd (gat (I 2201) (A 23)) (I 3107 + 1) k <<< ((32 - 8 * I 3109) &&& 31)) >>> ((32 - 8 * I 3109) &&& 31)))) ∧ o = (.inl (some (.int 0)), pic I (upA (upA A 32 5 ((nrd (gat (I 2201) (A 23)) (I 3107 + 1) k <<< ((32 - 8 * I 3109) &&& 31)) >>> ((32 - 8 * I 3109) &&& 31))) 32 1 (smG (A 32 1) ((nrd (gat (I 2201) (A 23)) (I 3107 + 1) k <<< ((32 - 8 * I 3109) &&& 31)) >>> ((32 - 8 * I 3109) &&& 31))).toInt32) L)) ∨ (((¬ I 3108 < 157) ∧ (¬ (I 3108 - 157) < 9) ∧ (0 < I 3109) ∧ ¬ fitL (smG (A 32 1) ((nrd (gat (I 2201) (A 23)) (I 3107 + 1) k <<< ((32 - 8 * I 3109) &&& 31)) >>> ((32 - 8 * I 3109) &&& 31)))) ∧ o = (.inl (some (.int 8)), pic I (upA A 32 5 ((nrd (gat (I 2201) (A 23)) (I 3107 + 1) k <<< ((32 - 8 * I 3109) &&& 31)) >>> ((32 - 8 * I 3109) &&& 31))) L)) ∨ (((¬ I 3108 < 157) ∧ (¬ (I 3108 - 157) < 9) ∧ (¬ 0 < I 3109) ∧ fitL (smG (A 32 1) (A 32 5))) ∧ o = (.inl (some (.int 0)), pic I (upA (upA A 32 5 (A 32 5)) 32 1 (smG (A 32 1) (A 32 5)).toInt32) L)) ∨ (((¬ I 3108 < 157) ∧ (¬ (I 3108 - 157) < 9) ∧ (¬ 0 < I 3109) ∧ ¬ fitL (smG (A 32 1) (A 32 5))) ∧ o = (.inl (some (.int 8)), pic I (upA A 32 5 (A 32 5)) L))) := by
  refine xm_of rfl (by decide) (Nat.le_of_ble_eq_true rfl) ?_
  refine xr_aload_n D_Rd_obeyMove_0 rfl rfl ?_
  refine xr_getf F_Rd_57 D_Rd_obeyMove_1 rfl rfl ?_
  refine xr_sipush (v := 157) D_Rd_obeyMove_4 rfl ?_
  refine xr_icmp_ge (tgt := 14) D_Rd_obeyMove_7 rfl (fun c1 => ?_) (fun c1 => ?_)
  · refine xr_iconst (v := 0) D_Rd_obeyMove_14 rfl ?_
    refine xr_istore_n D_Rd_obeyMove_15 rfl (by decide) ?_
    refine xr_aload_n D_Rd_obeyMove_16 rfl rfl ?_
    refine xr_getf F_Rd_57 D_Rd_obeyMove_17 rfl rfl ?_
    refine xr_iload_n D_Rd_obeyMove_20 rfl rfl ?_
    refine xr_if_eq (tgt := 30) D_Rd_obeyMove_21 rfl (fun c2 => ?_) (fun c2 => ?_)
    · refine xr_sipush (v := 157) D_Rd_obeyMove_30 rfl ?_
      refine xr_isub D_Rd_obeyMove_33 ?_
      refine xr_istore_n D_Rd_obeyMove_34 rfl (by decide) ?_
      refine xr_iload_n D_Rd_obeyMove_35 rfl rfl ?_
      refine xr_bipush (v := 9) D_Rd_obeyMove_36 rfl ?_
      refine xr_icmp_lt (tgt := 45) D_Rd_obeyMove_38 rfl (fun c3 => ?_) (fun c3 => ?_)
      · refine xr_iconst (v := 0) D_Rd_obeyMove_45 rfl ?_
        refine xr_istore_n D_Rd_obeyMove_46 rfl (by decide) ?_
        refine xr_iload_n D_Rd_obeyMove_47 rfl rfl ?_
        refine xr_if_eq (tgt := 63) D_Rd_obeyMove_48 rfl (fun c4 => ?_) (fun c4 => ?_)
        · refine xr_iload_n D_Rd_obeyMove_63 rfl rfl ?_
          refine xr_if_eq (tgt := 71) D_Rd_obeyMove_64 rfl (fun c5 => ?_) (fun c5 => ?_)
          · refine xr_iconst (v := 4) D_Rd_obeyMove_71 rfl ?_
            refine xr_istore D_Rd_obeyMove_72 (by decide) ?_
            refine xr_aload_n D_Rd_obeyMove_74 rfl rfl ?_
            refine xr_getf F_Rd_63 D_Rd_obeyMove_75 rfl rfl ?_
            refine xr_if_le (tgt := 101) D_Rd_obeyMove_78 rfl (fun c6 => ?_) (fun c6 => ?_)
            · refine xr_aload_n D_Rd_obeyMove_101 rfl rfl ?_
              refine xr_getf F_Rd_11 D_Rd_obeyMove_102 rfl rfl ?_
              refine xr_iload D_Rd_obeyMove_105 rfl ?_
              refine xr_iald D_Rd_obeyMove_107 rfl (by exact i_in2 6 (by grind) (by grind) rfl) ?_
              refine xr_istore D_Rd_obeyMove_108 (by decide) ?_
              refine xr_iload_n D_Rd_obeyMove_110 rfl rfl ?_
              refine xr_iconst (v := 4) D_Rd_obeyMove_111 rfl ?_
              refine xr_icmp_lt (tgt := 124) D_Rd_obeyMove_112 rfl (fun c7 => ?_) (fun c7 => ?_)
              · refine xr_aload_n D_Rd_obeyMove_124 rfl rfl ?_
                refine xr_iload_n D_Rd_obeyMove_125 rfl rfl ?_
                refine xr_if_eq (tgt := 133) D_Rd_obeyMove_126 rfl (fun c8 => ?_) (fun c8 => ?_)
                · refine xr_iconst (v := 1) D_Rd_obeyMove_133 rfl ?_
                  refine xr_iload D_Rd_obeyMove_134 rfl ?_
                  refine xr_cVx (as := [_, _]) (c_Rd_grow_31 (by decide) (by decide)) (L_Rd_139) (CD_Rd_grow) CI_Rd D_Rd_obeyMove_136 rfl rfl (by decide) (Nat.le_of_ble_eq_true rfl) (Nat.le_of_eq (Nat.zero_add _)) (Nat.le_of_eq (Nat.zero_add _)) pic_len ?_
                  rintro _ (⟨hg1, rfl⟩ | ⟨hg1, rfl⟩)
                  · refine ⟨_, _, rfl, rfl, ?_⟩
                    refine xr_if_eq (tgt := 146) D_Rd_obeyMove_139 rfl (fun c9 => ?_) (fun c9 => ?_)
                    · refine xr_bipush (v := 8) D_Rd_obeyMove_146 rfl ?_
                      refine xr_iret rfl D_Rd_obeyMove_148 ?_
                      skip
                      exact Or.inr (Or.inr (Or.inr (Or.inr (Or.inr (Or.inr (Or.inr (Or.inr (Or.inr (Or.inr (Or.inr (Or.inr (Or.inr (Or.inr (Or.inr (Or.inl ⟨⟨by grind, by grind, by grind, by assumption⟩, rfl⟩)))))))))))))))
                    · exact absurd (show (0 : Int32) = (0 : Int32) by decide) c9
                  · refine ⟨_, _, rfl, rfl, ?_⟩
                    refine xr_if_eq (tgt := 146) D_Rd_obeyMove_139 rfl (fun c10 => ?_) (fun c10 => ?_)
                    · exact absurd (show (1 : Int32) = (0 : Int32) from c10) (by decide)
                    · refine xr_iconst (v := 0) D_Rd_obeyMove_142 rfl ?_
                      refine xr_goto (tgt := 148) D_Rd_obeyMove_143 rfl ?_
                      refine xr_iret rfl D_Rd_obeyMove_148 ?_
                      skip
                      exact Or.inr (Or.inr (Or.inr (Or.inr (Or.inr (Or.inr (Or.inr (Or.inr (Or.inr (Or.inr (Or.inr (Or.inr (Or.inr (Or.inr (Or.inl ⟨⟨by grind, by grind, by grind, by assumption⟩, rfl⟩))))))))))))))
                · exact absurd (show (0 : Int32) = (0 : Int32) by decide) c8
              · refine xr_aload_n D_Rd_obeyMove_115 rfl rfl ?_
                refine xr_getf F_Rd_11 D_Rd_obeyMove_116 rfl rfl ?_
                refine xr_iload D_Rd_obeyMove_119 rfl ?_
                refine xr_iload D_Rd_obeyMove_121 rfl ?_
                refine xr_iast D_Rd_obeyMove_123 rfl (by exact i_in2 6 (by grind) (by grind) rfl) (aset_32) ?_
                refine xr_aload_n D_Rd_obeyMove_124 rfl rfl ?_
                refine xr_iload_n D_Rd_obeyMove_125 rfl rfl ?_
                refine xr_if_eq (tgt := 133) D_Rd_obeyMove_126 rfl (fun c8 => ?_) (fun c8 => ?_)
                · refine xr_iconst (v := 1) D_Rd_obeyMove_133 rfl ?_
                  refine xr_iload D_Rd_obeyMove_134 rfl ?_
                  refine xr_cVx (as := [_, _]) (c_Rd_grow_31 (by decide) (by decide)) (L_Rd_139) (CD_Rd_grow) CI_Rd D_Rd_obeyMove_136 rfl rfl (by decide) (Nat.le_of_ble_eq_true rfl) (Nat.le_of_eq (Nat.zero_add _)) (Nat.le_of_eq (Nat.zero_add _)) pic_len ?_
                  rintro _ (⟨hg2, rfl⟩ | ⟨hg2, rfl⟩)
                  · refine ⟨_, _, rfl, rfl, ?_⟩
                    refine xr_if_eq (tgt := 146) D_Rd_obeyMove_139 rfl (fun c9 => ?_) (fun c9 => ?_)
                    · refine xr_bipush (v := 8) D_Rd_obeyMove_146 rfl ?_
                      refine xr_iret rfl D_Rd_obeyMove_148 ?_
                      skip
                      exact Or.inr (Or.inr (Or.inr (Or.inr (Or.inr (Or.inr (Or.inr (Or.inr (Or.inr (Or.inr (Or.inr (Or.inr (Or.inr (Or.inr (Or.inr (Or.inr (Or.inr (Or.inr (Or.inr (Or.inl ⟨⟨by grind, by grind, by grind, by assumption⟩, rfl⟩)))))))))))))))))))
                    · exact absurd (show (0 : Int32) = (0 : Int32) by decide) c9
                  · refine ⟨_, _, rfl, rfl, ?_⟩
                    refine xr_if_eq (tgt := 146) D_Rd_obeyMove_139 rfl (fun c10 => ?_) (fun c10 => ?_)
                    · exact absurd (show (1 : Int32) = (0 : Int32) from c10) (by decide)
                    · refine xr_iconst (v := 0) D_Rd_obeyMove_142 rfl ?_
                      refine xr_goto (tgt := 148) D_Rd_obeyMove_143 rfl ?_
                      refine xr_iret rfl D_Rd_obeyMove_148 ?_
                      skip
                      exact Or.inr (Or.inr (Or.inr (Or.inr (Or.inr (Or.inr (Or.inr (Or.inr (Or.inr (Or.inr (Or.inr (Or.inr (Or.inr (Or.inr (Or.inr (Or.inr (Or.inr (Or.inr (Or.inl ⟨⟨by grind, by grind, by grind, by assumption⟩, rfl⟩))))))))))))))))))
                · exact absurd (show (0 : Int32) = (0 : Int32) by decide) c8
            · refine xr_aload_n D_Rd_obeyMove_81 rfl rfl ?_
              refine xr_getf F_Rd_18 D_Rd_obeyMove_82 rfl rfl ?_
              refine xr_aload_n D_Rd_obeyMove_85 rfl rfl ?_
              refine xr_getf F_Rd_39 D_Rd_obeyMove_86 rfl rfl ?_
              refine xr_iconst (v := 1) D_Rd_obeyMove_89 rfl ?_
              refine xr_iadd D_Rd_obeyMove_90 ?_
              refine xr_aload_n D_Rd_obeyMove_91 rfl rfl ?_
              refine xr_getf F_Rd_63 D_Rd_obeyMove_92 rfl rfl ?_
              refine xr_cVx (as := [_, _]) (c_By_signedNumber_22 k hw hk) (L_Rd_151) (CD_By_signedNumber) CI_By D_Rd_obeyMove_95 rfl rfl (by decide) (Nat.le_of_ble_eq_true rfl) (Nat.le_of_eq (Nat.zero_add _)) (Nat.le_of_eq (Nat.zero_add _)) pic_len ?_
              rintro _ rfl
              refine ⟨_, _, rfl, rfl, ?_⟩
              refine xr_goto (tgt := 108) D_Rd_obeyMove_98 rfl ?_
              refine xr_istore D_Rd_obeyMove_108 (by decide) ?_
              refine xr_iload_n D_Rd_obeyMove_110 rfl rfl ?_
              refine xr_iconst (v := 4) D_Rd_obeyMove_111 rfl ?_
              refine xr_icmp_lt (tgt := 124) D_Rd_obeyMove_112 rfl (fun c7 => ?_) (fun c7 => ?_)
              · refine xr_aload_n D_Rd_obeyMove_124 rfl rfl ?_
                refine xr_iload_n D_Rd_obeyMove_125 rfl rfl ?_
                refine xr_if_eq (tgt := 133) D_Rd_obeyMove_126 rfl (fun c8 => ?_) (fun c8 => ?_)
                · refine xr_iconst (v := 1) D_Rd_obeyMove_133 rfl ?_
                  refine xr_iload D_Rd_obeyMove_134 rfl ?_
                  refine xr_cVx (as := [_, _]) (c_Rd_grow_31 (by decide) (by decide)) (L_Rd_139) (CD_Rd_grow) CI_Rd D_Rd_obeyMove_136 rfl rfl (by decide) (Nat.le_of_ble_eq_true rfl) (Nat.le_of_eq (Nat.zero_add _)) (Nat.le_of_eq (Nat.zero_add _)) pic_len ?_
                  rintro _ (⟨hg4, rfl⟩ | ⟨hg4, rfl⟩)
                  · refine ⟨_, _, rfl, rfl, ?_⟩
                    refine xr_if_eq (tgt := 146) D_Rd_obeyMove_139 rfl (fun c9 => ?_) (fun c9 => ?_)
                    · refine xr_bipush (v := 8) D_Rd_obeyMove_146 rfl ?_
                      refine xr_iret rfl D_Rd_obeyMove_148 ?_
                      skip
                      exact Or.inr (Or.inr (Or.inr (Or.inr (Or.inr (Or.inr (Or.inr (Or.inr (Or.inr (Or.inr (Or.inr (Or.inr (Or.inr (Or.inl ⟨⟨by grind, by grind, by grind, by assumption⟩, rfl⟩)))))))))))))
                    · exact absurd (show (0 : Int32) = (0 : Int32) by decide) c9
                  · refine ⟨_, _, rfl, rfl, ?_⟩
                    refine xr_if_eq (tgt := 146) D_Rd_obeyMove_139 rfl (fun c10 => ?_) (fun c10 => ?_)
                    · exact absurd (show (1 : Int32) = (0 : Int32) from c10) (by decide)
                    · refine xr_iconst (v := 0) D_Rd_obeyMove_142 rfl ?_
                      refine xr_goto (tgt := 148) D_Rd_obeyMove_143 rfl ?_
                      refine xr_iret rfl D_Rd_obeyMove_148 ?_
                      skip
                      exact Or.inr (Or.inr (Or.inr (Or.inr (Or.inr (Or.inr (Or.inr (Or.inr (Or.inr (Or.inr (Or.inr (Or.inr (Or.inl ⟨⟨by grind, by grind, by grind, by assumption⟩, rfl⟩))))))))))))
                · exact absurd (show (0 : Int32) = (0 : Int32) by decide) c8
              · refine xr_aload_n D_Rd_obeyMove_115 rfl rfl ?_
                refine xr_getf F_Rd_11 D_Rd_obeyMove_116 rfl rfl ?_
                refine xr_iload D_Rd_obeyMove_119 rfl ?_
                refine xr_iload D_Rd_obeyMove_121 rfl ?_
                refine xr_iast D_Rd_obeyMove_123 rfl (by exact i_in2 6 (by grind) (by grind) rfl) (aset_32) ?_
                refine xr_aload_n D_Rd_obeyMove_124 rfl rfl ?_
                refine xr_iload_n D_Rd_obeyMove_125 rfl rfl ?_
                refine xr_if_eq (tgt := 133) D_Rd_obeyMove_126 rfl (fun c8 => ?_) (fun c8 => ?_)
                · refine xr_iconst (v := 1) D_Rd_obeyMove_133 rfl ?_
                  refine xr_iload D_Rd_obeyMove_134 rfl ?_
                  refine xr_cVx (as := [_, _]) (c_Rd_grow_31 (by decide) (by decide)) (L_Rd_139) (CD_Rd_grow) CI_Rd D_Rd_obeyMove_136 rfl rfl (by decide) (Nat.le_of_ble_eq_true rfl) (Nat.le_of_eq (Nat.zero_add _)) (Nat.le_of_eq (Nat.zero_add _)) pic_len ?_
                  rintro _ (⟨hg5, rfl⟩ | ⟨hg5, rfl⟩)
                  · refine ⟨_, _, rfl, rfl, ?_⟩
                    refine xr_if_eq (tgt := 146) D_Rd_obeyMove_139 rfl (fun c9 => ?_) (fun c9 => ?_)
                    · refine xr_bipush (v := 8) D_Rd_obeyMove_146 rfl ?_
                      refine xr_iret rfl D_Rd_obeyMove_148 ?_
                      skip
                      exact Or.inr (Or.inr (Or.inr (Or.inr (Or.inr (Or.inr (Or.inr (Or.inr (Or.inr (Or.inr (Or.inr (Or.inr (Or.inr (Or.inr (Or.inr (Or.inr (Or.inr (Or.inl ⟨⟨by grind, by grind, by grind, by assumption⟩, rfl⟩)))))))))))))))))
                    · exact absurd (show (0 : Int32) = (0 : Int32) by decide) c9
                  · refine ⟨_, _, rfl, rfl, ?_⟩
                    refine xr_if_eq (tgt := 146) D_Rd_obeyMove_139 rfl (fun c10 => ?_) (fun c10 => ?_)
                    · exact absurd (show (1 : Int32) = (0 : Int32) from c10) (by decide)
                    · refine xr_iconst (v := 0) D_Rd_obeyMove_142 rfl ?_
                      refine xr_goto (tgt := 148) D_Rd_obeyMove_143 rfl ?_
                      refine xr_iret rfl D_Rd_obeyMove_148 ?_
                      skip
                      exact Or.inr (Or.inr (Or.inr (Or.inr (Or.inr (Or.inr (Or.inr (Or.inr (Or.inr (Or.inr (Or.inr (Or.inr (Or.inr (Or.inr (Or.inr (Or.inr (Or.inl ⟨⟨by grind, by grind, by grind, by assumption⟩, rfl⟩))))))))))))))))
                · exact absurd (show (0 : Int32) = (0 : Int32) by decide) c8
          · exact absurd (show (0 : Int32) = (0 : Int32) by decide) c5
        · exact absurd (show (0 : Int32) = (0 : Int32) by decide) c4
      · refine xr_iconst (v := 1) D_Rd_obeyMove_41 rfl ?_
        refine xr_goto (tgt := 46) D_Rd_obeyMove_42 rfl ?_
        refine xr_istore_n D_Rd_obeyMove_46 rfl (by decide) ?_
        refine xr_iload_n D_Rd_obeyMove_47 rfl rfl ?_
        refine xr_if_eq (tgt := 63) D_Rd_obeyMove_48 rfl (fun c4 => ?_) (fun c4 => ?_)
        · refine xr_iload_n D_Rd_obeyMove_63 rfl rfl ?_
          refine xr_if_eq (tgt := 71) D_Rd_obeyMove_64 rfl (fun c5 => ?_) (fun c5 => ?_)
          · exact absurd (show (1 : Int32) = (0 : Int32) from c5) (by decide)
          · refine xr_iconst (v := 5) D_Rd_obeyMove_67 rfl ?_
            refine xr_goto (tgt := 72) D_Rd_obeyMove_68 rfl ?_
            refine xr_istore D_Rd_obeyMove_72 (by decide) ?_
            refine xr_aload_n D_Rd_obeyMove_74 rfl rfl ?_
            refine xr_getf F_Rd_63 D_Rd_obeyMove_75 rfl rfl ?_
            refine xr_if_le (tgt := 101) D_Rd_obeyMove_78 rfl (fun c6 => ?_) (fun c6 => ?_)
            · refine xr_aload_n D_Rd_obeyMove_101 rfl rfl ?_
              refine xr_getf F_Rd_11 D_Rd_obeyMove_102 rfl rfl ?_
              refine xr_iload D_Rd_obeyMove_105 rfl ?_
              refine xr_iald D_Rd_obeyMove_107 rfl (by exact i_in2 6 (by grind) (by grind) rfl) ?_
              refine xr_istore D_Rd_obeyMove_108 (by decide) ?_
              refine xr_iload_n D_Rd_obeyMove_110 rfl rfl ?_
              refine xr_iconst (v := 4) D_Rd_obeyMove_111 rfl ?_
              refine xr_icmp_lt (tgt := 124) D_Rd_obeyMove_112 rfl (fun c7 => ?_) (fun c7 => ?_)
              · refine xr_aload_n D_Rd_obeyMove_124 rfl rfl ?_
                refine xr_iload_n D_Rd_obeyMove_125 rfl rfl ?_
                refine xr_if_eq (tgt := 133) D_Rd_obeyMove_126 rfl (fun c8 => ?_) (fun c8 => ?_)
                · refine xr_iconst (v := 1) D_Rd_obeyMove_133 rfl ?_
                  refine xr_iload D_Rd_obeyMove_134 rfl ?_
                  refine xr_cVx (as := [_, _]) (c_Rd_grow_31 (by decide) (by decide)) (L_Rd_139) (CD_Rd_grow) CI_Rd D_Rd_obeyMove_136 rfl rfl (by decide) (Nat.le_of_ble_eq_true rfl) (Nat.le_of_eq (Nat.zero_add _)) (Nat.le_of_eq (Nat.zero_add _)) pic_len ?_
                  rintro _ (⟨hg6, rfl⟩ | ⟨hg6, rfl⟩)
                  · refine ⟨_, _, rfl, rfl, ?_⟩
                    refine xr_if_eq (tgt := 146) D_Rd_obeyMove_139 rfl (fun c9 => ?_) (fun c9 => ?_)
                    · refine xr_bipush (v := 8) D_Rd_obeyMove_146 rfl ?_
                      refine xr_iret rfl D_Rd_obeyMove_148 ?_
                      exfalso; grind
                    · exact absurd (show (0 : Int32) = (0 : Int32) by decide) c9
                  · refine ⟨_, _, rfl, rfl, ?_⟩
                    refine xr_if_eq (tgt := 146) D_Rd_obeyMove_139 rfl (fun c10 => ?_) (fun c10 => ?_)
                    · exact absurd (show (1 : Int32) = (0 : Int32) from c10) (by decide)
                    · refine xr_iconst (v := 0) D_Rd_obeyMove_142 rfl ?_
                      refine xr_goto (tgt := 148) D_Rd_obeyMove_143 rfl ?_
                      refine xr_iret rfl D_Rd_obeyMove_148 ?_
                      exfalso; grind
                · exact absurd (show (0 : Int32) = (0 : Int32) by decide) c8
              · refine xr_aload_n D_Rd_obeyMove_115 rfl rfl ?_
                refine xr_getf F_Rd_11 D_Rd_obeyMove_116 rfl rfl ?_
                refine xr_iload D_Rd_obeyMove_119 rfl ?_
                refine xr_iload D_Rd_obeyMove_121 rfl ?_
                refine xr_iast D_Rd_obeyMove_123 rfl (by exact i_in2 6 (by grind) (by grind) rfl) (aset_32) ?_
                refine xr_aload_n D_Rd_obeyMove_124 rfl rfl ?_
                refine xr_iload_n D_Rd_obeyMove_125 rfl rfl ?_
                refine xr_if_eq (tgt := 133) D_Rd_obeyMove_126 rfl (fun c8 => ?_) (fun c8 => ?_)
                · refine xr_iconst (v := 1) D_Rd_obeyMove_133 rfl ?_
                  refine xr_iload D_Rd_obeyMove_134 rfl ?_
                  refine xr_cVx (as := [_, _]) (c_Rd_grow_31 (by decide) (by decide)) (L_Rd_139) (CD_Rd_grow) CI_Rd D_Rd_obeyMove_136 rfl rfl (by decide) (Nat.le_of_ble_eq_true rfl) (Nat.le_of_eq (Nat.zero_add _)) (Nat.le_of_eq (Nat.zero_add _)) pic_len ?_
                  rintro _ (⟨hg7, rfl⟩ | ⟨hg7, rfl⟩)
                  · refine ⟨_, _, rfl, rfl, ?_⟩
                    refine xr_if_eq (tgt := 146) D_Rd_obeyMove_139 rfl (fun c9 => ?_) (fun c9 => ?_)
                    · refine xr_bipush (v := 8) D_Rd_obeyMove_146 rfl ?_
                      refine xr_iret rfl D_Rd_obeyMove_148 ?_
                      skip
                      exact Or.inr (Or.inr (Or.inr (Or.inr (Or.inr (Or.inr (Or.inr (Or.inr (Or.inr (Or.inr (Or.inr (Or.inr (Or.inr (Or.inr (Or.inr (Or.inr (Or.inr (Or.inr (Or.inr (Or.inr (Or.inr (Or.inr (Or.inr (⟨⟨by grind, by grind, by grind, by assumption⟩, rfl⟩)))))))))))))))))))))))
                    · exact absurd (show (0 : Int32) = (0 : Int32) by decide) c9
                  · refine ⟨_, _, rfl, rfl, ?_⟩
                    refine xr_if_eq (tgt := 146) D_Rd_obeyMove_139 rfl (fun c10 => ?_) (fun c10 => ?_)
                    · exact absurd (show (1 : Int32) = (0 : Int32) from c10) (by decide)
                    · refine xr_iconst (v := 0) D_Rd_obeyMove_142 rfl ?_
                      refine xr_goto (tgt := 148) D_Rd_obeyMove_143 rfl ?_
                      refine xr_iret rfl D_Rd_obeyMove_148 ?_
                      skip
                      exact Or.inr (Or.inr (Or.inr (Or.inr (Or.inr (Or.inr (Or.inr (Or.inr (Or.inr (Or.inr (Or.inr (Or.inr (Or.inr (Or.inr (Or.inr (Or.inr (Or.inr (Or.inr (Or.inr (Or.inr (Or.inr (Or.inr (Or.inl ⟨⟨by grind, by grind, by grind, by assumption⟩, rfl⟩))))))))))))))))))))))
                · exact absurd (show (0 : Int32) = (0 : Int32) by decide) c8
            · refine xr_aload_n D_Rd_obeyMove_81 rfl rfl ?_
              refine xr_getf F_Rd_18 D_Rd_obeyMove_82 rfl rfl ?_
              refine xr_aload_n D_Rd_obeyMove_85 rfl rfl ?_
              refine xr_getf F_Rd_39 D_Rd_obeyMove_86 rfl rfl ?_
              refine xr_iconst (v := 1) D_Rd_obeyMove_89 rfl ?_
              refine xr_iadd D_Rd_obeyMove_90 ?_
              refine xr_aload_n D_Rd_obeyMove_91 rfl rfl ?_
              refine xr_getf F_Rd_63 D_Rd_obeyMove_92 rfl rfl ?_
              refine xr_cVx (as := [_, _]) (c_By_signedNumber_22 k hw hk) (L_Rd_151) (CD_By_signedNumber) CI_By D_Rd_obeyMove_95 rfl rfl (by decide) (Nat.le_of_ble_eq_true rfl) (Nat.le_of_eq (Nat.zero_add _)) (Nat.le_of_eq (Nat.zero_add _)) pic_len ?_
              rintro _ rfl
              refine ⟨_, _, rfl, rfl, ?_⟩
              refine xr_goto (tgt := 108) D_Rd_obeyMove_98 rfl ?_
              refine xr_istore D_Rd_obeyMove_108 (by decide) ?_
              refine xr_iload_n D_Rd_obeyMove_110 rfl rfl ?_
              refine xr_iconst (v := 4) D_Rd_obeyMove_111 rfl ?_
              refine xr_icmp_lt (tgt := 124) D_Rd_obeyMove_112 rfl (fun c7 => ?_) (fun c7 => ?_)
              · refine xr_aload_n D_Rd_obeyMove_124 rfl rfl ?_
                refine xr_iload_n D_Rd_obeyMove_125 rfl rfl ?_
                refine xr_if_eq (tgt := 133) D_Rd_obeyMove_126 rfl (fun c8 => ?_) (fun c8 => ?_)
                · refine xr_iconst (v := 1) D_Rd_obeyMove_133 rfl ?_
                  refine xr_iload D_Rd_obeyMove_134 rfl ?_
                  refine xr_cVx (as := [_, _]) (c_Rd_grow_31 (by decide) (by decide)) (L_Rd_139) (CD_Rd_grow) CI_Rd D_Rd_obeyMove_136 rfl rfl (by decide) (Nat.le_of_ble_eq_true rfl) (Nat.le_of_eq (Nat.zero_add _)) (Nat.le_of_eq (Nat.zero_add _)) pic_len ?_
                  rintro _ (⟨hg9, rfl⟩ | ⟨hg9, rfl⟩)
                  · refine ⟨_, _, rfl, rfl, ?_⟩
                    refine xr_if_eq (tgt := 146) D_Rd_obeyMove_139 rfl (fun c9 => ?_) (fun c9 => ?_)
                    · refine xr_bipush (v := 8) D_Rd_obeyMove_146 rfl ?_
                      refine xr_iret rfl D_Rd_obeyMove_148 ?_
                      exfalso; grind
                    · exact absurd (show (0 : Int32) = (0 : Int32) by decide) c9
                  · refine ⟨_, _, rfl, rfl, ?_⟩
                    refine xr_if_eq (tgt := 146) D_Rd_obeyMove_139 rfl (fun c10 => ?_) (fun c10 => ?_)
                    · exact absurd (show (1 : Int32) = (0 : Int32) from c10) (by decide)
                    · refine xr_iconst (v := 0) D_Rd_obeyMove_142 rfl ?_
                      refine xr_goto (tgt := 148) D_Rd_obeyMove_143 rfl ?_
                      refine xr_iret rfl D_Rd_obeyMove_148 ?_
                      exfalso; grind
                · exact absurd (show (0 : Int32) = (0 : Int32) by decide) c8
              · refine xr_aload_n D_Rd_obeyMove_115 rfl rfl ?_
                refine xr_getf F_Rd_11 D_Rd_obeyMove_116 rfl rfl ?_
                refine xr_iload D_Rd_obeyMove_119 rfl ?_
                refine xr_iload D_Rd_obeyMove_121 rfl ?_
                refine xr_iast D_Rd_obeyMove_123 rfl (by exact i_in2 6 (by grind) (by grind) rfl) (aset_32) ?_
                refine xr_aload_n D_Rd_obeyMove_124 rfl rfl ?_
                refine xr_iload_n D_Rd_obeyMove_125 rfl rfl ?_
                refine xr_if_eq (tgt := 133) D_Rd_obeyMove_126 rfl (fun c8 => ?_) (fun c8 => ?_)
                · refine xr_iconst (v := 1) D_Rd_obeyMove_133 rfl ?_
                  refine xr_iload D_Rd_obeyMove_134 rfl ?_
                  refine xr_cVx (as := [_, _]) (c_Rd_grow_31 (by decide) (by decide)) (L_Rd_139) (CD_Rd_grow) CI_Rd D_Rd_obeyMove_136 rfl rfl (by decide) (Nat.le_of_ble_eq_true rfl) (Nat.le_of_eq (Nat.zero_add _)) (Nat.le_of_eq (Nat.zero_add _)) pic_len ?_
                  rintro _ (⟨hg10, rfl⟩ | ⟨hg10, rfl⟩)
                  · refine ⟨_, _, rfl, rfl, ?_⟩
                    refine xr_if_eq (tgt := 146) D_Rd_obeyMove_139 rfl (fun c9 => ?_) (fun c9 => ?_)
                    · refine xr_bipush (v := 8) D_Rd_obeyMove_146 rfl ?_
                      refine xr_iret rfl D_Rd_obeyMove_148 ?_
                      skip
                      exact Or.inr (Or.inr (Or.inr (Or.inr (Or.inr (Or.inr (Or.inr (Or.inr (Or.inr (Or.inr (Or.inr (Or.inr (Or.inr (Or.inr (Or.inr (Or.inr (Or.inr (Or.inr (Or.inr (Or.inr (Or.inr (Or.inl ⟨⟨by grind, by grind, by grind, by assumption⟩, rfl⟩)))))))))))))))))))))
                    · exact absurd (show (0 : Int32) = (0 : Int32) by decide) c9
                  · refine ⟨_, _, rfl, rfl, ?_⟩
                    refine xr_if_eq (tgt := 146) D_Rd_obeyMove_139 rfl (fun c10 => ?_) (fun c10 => ?_)
                    · exact absurd (show (1 : Int32) = (0 : Int32) from c10) (by decide)
                    · refine xr_iconst (v := 0) D_Rd_obeyMove_142 rfl ?_
                      refine xr_goto (tgt := 148) D_Rd_obeyMove_143 rfl ?_
                      refine xr_iret rfl D_Rd_obeyMove_148 ?_
                      skip
                      exact Or.inr (Or.inr (Or.inr (Or.inr (Or.inr (Or.inr (Or.inr (Or.inr (Or.inr (Or.inr (Or.inr (Or.inr (Or.inr (Or.inr (Or.inr (Or.inr (Or.inr (Or.inr (Or.inr (Or.inr (Or.inl ⟨⟨by grind, by grind, by grind, by assumption⟩, rfl⟩))))))))))))))))))))
                · exact absurd (show (0 : Int32) = (0 : Int32) by decide) c8
        · exact absurd (show (0 : Int32) = (0 : Int32) by decide) c4
    · exact absurd (show (0 : Int32) = (0 : Int32) by decide) c2
  · refine xr_iconst (v := 1) D_Rd_obeyMove_10 rfl ?_
    refine xr_goto (tgt := 15) D_Rd_obeyMove_11 rfl ?_
    refine xr_istore_n D_Rd_obeyMove_15 rfl (by decide) ?_
    refine xr_aload_n D_Rd_obeyMove_16 rfl rfl ?_
    refine xr_getf F_Rd_57 D_Rd_obeyMove_17 rfl rfl ?_
    refine xr_iload_n D_Rd_obeyMove_20 rfl rfl ?_
    refine xr_if_eq (tgt := 30) D_Rd_obeyMove_21 rfl (fun c2 => ?_) (fun c2 => ?_)
    · exact absurd (show (1 : Int32) = (0 : Int32) from c2) (by decide)
    · refine xr_sipush (v := 143) D_Rd_obeyMove_24 rfl ?_
      refine xr_goto (tgt := 33) D_Rd_obeyMove_27 rfl ?_
      refine xr_isub D_Rd_obeyMove_33 ?_
      refine xr_istore_n D_Rd_obeyMove_34 rfl (by decide) ?_
      refine xr_iload_n D_Rd_obeyMove_35 rfl rfl ?_
      refine xr_bipush (v := 9) D_Rd_obeyMove_36 rfl ?_
      refine xr_icmp_lt (tgt := 45) D_Rd_obeyMove_38 rfl (fun c3 => ?_) (fun c3 => ?_)
      · refine xr_iconst (v := 0) D_Rd_obeyMove_45 rfl ?_
        refine xr_istore_n D_Rd_obeyMove_46 rfl (by decide) ?_
        refine xr_iload_n D_Rd_obeyMove_47 rfl rfl ?_
        refine xr_if_eq (tgt := 63) D_Rd_obeyMove_48 rfl (fun c4 => ?_) (fun c4 => ?_)
        · exact absurd (show (1 : Int32) = (0 : Int32) from c4) (by decide)
        · refine xr_iload_n D_Rd_obeyMove_51 rfl rfl ?_
          refine xr_if_eq (tgt := 59) D_Rd_obeyMove_52 rfl (fun c5 => ?_) (fun c5 => ?_)
          · refine xr_iconst (v := 2) D_Rd_obeyMove_59 rfl ?_
            refine xr_goto (tgt := 72) D_Rd_obeyMove_60 rfl ?_
            refine xr_istore D_Rd_obeyMove_72 (by decide) ?_
            refine xr_aload_n D_Rd_obeyMove_74 rfl rfl ?_
            refine xr_getf F_Rd_63 D_Rd_obeyMove_75 rfl rfl ?_
            refine xr_if_le (tgt := 101) D_Rd_obeyMove_78 rfl (fun c6 => ?_) (fun c6 => ?_)
            · refine xr_aload_n D_Rd_obeyMove_101 rfl rfl ?_
              refine xr_getf F_Rd_11 D_Rd_obeyMove_102 rfl rfl ?_
              refine xr_iload D_Rd_obeyMove_105 rfl ?_
              refine xr_iald D_Rd_obeyMove_107 rfl (by exact i_in2 6 (by grind) (by grind) rfl) ?_
              refine xr_istore D_Rd_obeyMove_108 (by decide) ?_
              refine xr_iload_n D_Rd_obeyMove_110 rfl rfl ?_
              refine xr_iconst (v := 4) D_Rd_obeyMove_111 rfl ?_
              refine xr_icmp_lt (tgt := 124) D_Rd_obeyMove_112 rfl (fun c7 => ?_) (fun c7 => ?_)
              · refine xr_aload_n D_Rd_obeyMove_124 rfl rfl ?_
                refine xr_iload_n D_Rd_obeyMove_125 rfl rfl ?_
                refine xr_if_eq (tgt := 133) D_Rd_obeyMove_126 rfl (fun c8 => ?_) (fun c8 => ?_)
                · exact absurd (show (1 : Int32) = (0 : Int32) from c8) (by decide)
                · refine xr_iconst (v := 0) D_Rd_obeyMove_129 rfl ?_
                  refine xr_goto (tgt := 134) D_Rd_obeyMove_130 rfl ?_
                  refine xr_iload D_Rd_obeyMove_134 rfl ?_
                  refine xr_cVx (as := [_, _]) (c_Rd_grow_31 (by decide) (by decide)) (L_Rd_139) (CD_Rd_grow) CI_Rd D_Rd_obeyMove_136 rfl rfl (by decide) (Nat.le_of_ble_eq_true rfl) (Nat.le_of_eq (Nat.zero_add _)) (Nat.le_of_eq (Nat.zero_add _)) pic_len ?_
                  rintro _ (⟨hg11, rfl⟩ | ⟨hg11, rfl⟩)
                  · refine ⟨_, _, rfl, rfl, ?_⟩
                    refine xr_if_eq (tgt := 146) D_Rd_obeyMove_139 rfl (fun c9 => ?_) (fun c9 => ?_)
                    · refine xr_bipush (v := 8) D_Rd_obeyMove_146 rfl ?_
                      refine xr_iret rfl D_Rd_obeyMove_148 ?_
                      skip
                      exact Or.inr (Or.inr (Or.inr (Or.inl ⟨⟨by grind, by grind, by grind, by assumption⟩, rfl⟩)))
                    · exact absurd (show (0 : Int32) = (0 : Int32) by decide) c9
                  · refine ⟨_, _, rfl, rfl, ?_⟩
                    refine xr_if_eq (tgt := 146) D_Rd_obeyMove_139 rfl (fun c10 => ?_) (fun c10 => ?_)
                    · exact absurd (show (1 : Int32) = (0 : Int32) from c10) (by decide)
                    · refine xr_iconst (v := 0) D_Rd_obeyMove_142 rfl ?_
                      refine xr_goto (tgt := 148) D_Rd_obeyMove_143 rfl ?_
                      refine xr_iret rfl D_Rd_obeyMove_148 ?_
                      skip
                      exact Or.inr (Or.inr (Or.inl ⟨⟨by grind, by grind, by grind, by assumption⟩, rfl⟩))
              · refine xr_aload_n D_Rd_obeyMove_115 rfl rfl ?_
                refine xr_getf F_Rd_11 D_Rd_obeyMove_116 rfl rfl ?_
                refine xr_iload D_Rd_obeyMove_119 rfl ?_
                refine xr_iload D_Rd_obeyMove_121 rfl ?_
                refine xr_iast D_Rd_obeyMove_123 rfl (by exact i_in2 6 (by grind) (by grind) rfl) (aset_32) ?_
                refine xr_aload_n D_Rd_obeyMove_124 rfl rfl ?_
                refine xr_iload_n D_Rd_obeyMove_125 rfl rfl ?_
                refine xr_if_eq (tgt := 133) D_Rd_obeyMove_126 rfl (fun c8 => ?_) (fun c8 => ?_)
                · exact absurd (show (1 : Int32) = (0 : Int32) from c8) (by decide)
                · refine xr_iconst (v := 0) D_Rd_obeyMove_129 rfl ?_
                  refine xr_goto (tgt := 134) D_Rd_obeyMove_130 rfl ?_
                  refine xr_iload D_Rd_obeyMove_134 rfl ?_
                  refine xr_cVx (as := [_, _]) (c_Rd_grow_31 (by decide) (by decide)) (L_Rd_139) (CD_Rd_grow) CI_Rd D_Rd_obeyMove_136 rfl rfl (by decide) (Nat.le_of_ble_eq_true rfl) (Nat.le_of_eq (Nat.zero_add _)) (Nat.le_of_eq (Nat.zero_add _)) pic_len ?_
                  rintro _ (⟨hg12, rfl⟩ | ⟨hg12, rfl⟩)
                  · refine ⟨_, _, rfl, rfl, ?_⟩
                    refine xr_if_eq (tgt := 146) D_Rd_obeyMove_139 rfl (fun c9 => ?_) (fun c9 => ?_)
                    · refine xr_bipush (v := 8) D_Rd_obeyMove_146 rfl ?_
                      refine xr_iret rfl D_Rd_obeyMove_148 ?_
                      skip
                      exact Or.inr (Or.inr (Or.inr (Or.inr (Or.inr (Or.inr (Or.inr (Or.inl ⟨⟨by grind, by grind, by grind, by assumption⟩, rfl⟩)))))))
                    · exact absurd (show (0 : Int32) = (0 : Int32) by decide) c9
                  · refine ⟨_, _, rfl, rfl, ?_⟩
                    refine xr_if_eq (tgt := 146) D_Rd_obeyMove_139 rfl (fun c10 => ?_) (fun c10 => ?_)
                    · exact absurd (show (1 : Int32) = (0 : Int32) from c10) (by decide)
                    · refine xr_iconst (v := 0) D_Rd_obeyMove_142 rfl ?_
                      refine xr_goto (tgt := 148) D_Rd_obeyMove_143 rfl ?_
                      refine xr_iret rfl D_Rd_obeyMove_148 ?_
                      skip
                      exact Or.inr (Or.inr (Or.inr (Or.inr (Or.inr (Or.inr (Or.inl ⟨⟨by grind, by grind, by grind, by assumption⟩, rfl⟩))))))
            · refine xr_aload_n D_Rd_obeyMove_81 rfl rfl ?_
              refine xr_getf F_Rd_18 D_Rd_obeyMove_82 rfl rfl ?_
              refine xr_aload_n D_Rd_obeyMove_85 rfl rfl ?_
              refine xr_getf F_Rd_39 D_Rd_obeyMove_86 rfl rfl ?_
              refine xr_iconst (v := 1) D_Rd_obeyMove_89 rfl ?_
              refine xr_iadd D_Rd_obeyMove_90 ?_
              refine xr_aload_n D_Rd_obeyMove_91 rfl rfl ?_
              refine xr_getf F_Rd_63 D_Rd_obeyMove_92 rfl rfl ?_
              refine xr_cVx (as := [_, _]) (c_By_signedNumber_22 k hw hk) (L_Rd_151) (CD_By_signedNumber) CI_By D_Rd_obeyMove_95 rfl rfl (by decide) (Nat.le_of_ble_eq_true rfl) (Nat.le_of_eq (Nat.zero_add _)) (Nat.le_of_eq (Nat.zero_add _)) pic_len ?_
              rintro _ rfl
              refine ⟨_, _, rfl, rfl, ?_⟩
              refine xr_goto (tgt := 108) D_Rd_obeyMove_98 rfl ?_
              refine xr_istore D_Rd_obeyMove_108 (by decide) ?_
              refine xr_iload_n D_Rd_obeyMove_110 rfl rfl ?_
              refine xr_iconst (v := 4) D_Rd_obeyMove_111 rfl ?_
              refine xr_icmp_lt (tgt := 124) D_Rd_obeyMove_112 rfl (fun c7 => ?_) (fun c7 => ?_)
              · refine xr_aload_n D_Rd_obeyMove_124 rfl rfl ?_
                refine xr_iload_n D_Rd_obeyMove_125 rfl rfl ?_
                refine xr_if_eq (tgt := 133) D_Rd_obeyMove_126 rfl (fun c8 => ?_) (fun c8 => ?_)
                · exact absurd (show (1 : Int32) = (0 : Int32) from c8) (by decide)
                · refine xr_iconst (v := 0) D_Rd_obeyMove_129 rfl ?_
                  refine xr_goto (tgt := 134) D_Rd_obeyMove_130 rfl ?_
                  refine xr_iload D_Rd_obeyMove_134 rfl ?_
                  refine xr_cVx (as := [_, _]) (c_Rd_grow_31 (by decide) (by decide)) (L_Rd_139) (CD_Rd_grow) CI_Rd D_Rd_obeyMove_136 rfl rfl (by decide) (Nat.le_of_ble_eq_true rfl) (Nat.le_of_eq (Nat.zero_add _)) (Nat.le_of_eq (Nat.zero_add _)) pic_len ?_
                  rintro _ (⟨hg14, rfl⟩ | ⟨hg14, rfl⟩)
                  · refine ⟨_, _, rfl, rfl, ?_⟩
                    refine xr_if_eq (tgt := 146) D_Rd_obeyMove_139 rfl (fun c9 => ?_) (fun c9 => ?_)
                    · refine xr_bipush (v := 8) D_Rd_obeyMove_146 rfl ?_
                      refine xr_iret rfl D_Rd_obeyMove_148 ?_
                      skip
                      exact Or.inr (Or.inl ⟨⟨by grind, by grind, by grind, by assumption⟩, rfl⟩)
                    · exact absurd (show (0 : Int32) = (0 : Int32) by decide) c9
                  · refine ⟨_, _, rfl, rfl, ?_⟩
                    refine xr_if_eq (tgt := 146) D_Rd_obeyMove_139 rfl (fun c10 => ?_) (fun c10 => ?_)
                    · exact absurd (show (1 : Int32) = (0 : Int32) from c10) (by decide)
                    · refine xr_iconst (v := 0) D_Rd_obeyMove_142 rfl ?_
                      refine xr_goto (tgt := 148) D_Rd_obeyMove_143 rfl ?_
                      refine xr_iret rfl D_Rd_obeyMove_148 ?_
                      skip
                      exact Or.inl ⟨⟨by grind, by grind, by grind, by assumption⟩, rfl⟩
              · refine xr_aload_n D_Rd_obeyMove_115 rfl rfl ?_
                refine xr_getf F_Rd_11 D_Rd_obeyMove_116 rfl rfl ?_
                refine xr_iload D_Rd_obeyMove_119 rfl ?_
                refine xr_iload D_Rd_obeyMove_121 rfl ?_
                refine xr_iast D_Rd_obeyMove_123 rfl (by exact i_in2 6 (by grind) (by grind) rfl) (aset_32) ?_
                refine xr_aload_n D_Rd_obeyMove_124 rfl rfl ?_
                refine xr_iload_n D_Rd_obeyMove_125 rfl rfl ?_
                refine xr_if_eq (tgt := 133) D_Rd_obeyMove_126 rfl (fun c8 => ?_) (fun c8 => ?_)
                · exact absurd (show (1 : Int32) = (0 : Int32) from c8) (by decide)
                · refine xr_iconst (v := 0) D_Rd_obeyMove_129 rfl ?_
                  refine xr_goto (tgt := 134) D_Rd_obeyMove_130 rfl ?_
                  refine xr_iload D_Rd_obeyMove_134 rfl ?_
                  refine xr_cVx (as := [_, _]) (c_Rd_grow_31 (by decide) (by decide)) (L_Rd_139) (CD_Rd_grow) CI_Rd D_Rd_obeyMove_136 rfl rfl (by decide) (Nat.le_of_ble_eq_true rfl) (Nat.le_of_eq (Nat.zero_add _)) (Nat.le_of_eq (Nat.zero_add _)) pic_len ?_
                  rintro _ (⟨hg15, rfl⟩ | ⟨hg15, rfl⟩)
                  · refine ⟨_, _, rfl, rfl, ?_⟩
                    refine xr_if_eq (tgt := 146) D_Rd_obeyMove_139 rfl (fun c9 => ?_) (fun c9 => ?_)
                    · refine xr_bipush (v := 8) D_Rd_obeyMove_146 rfl ?_
                      refine xr_iret rfl D_Rd_obeyMove_148 ?_
                      skip
                      exact Or.inr (Or.inr (Or.inr (Or.inr (Or.inr (Or.inl ⟨⟨by grind, by grind, by grind, by assumption⟩, rfl⟩)))))
                    · exact absurd (show (0 : Int32) = (0 : Int32) by decide) c9
                  · refine ⟨_, _, rfl, rfl, ?_⟩
                    refine xr_if_eq (tgt := 146) D_Rd_obeyMove_139 rfl (fun c10 => ?_) (fun c10 => ?_)
                    · exact absurd (show (1 : Int32) = (0 : Int32) from c10) (by decide)
                    · refine xr_iconst (v := 0) D_Rd_obeyMove_142 rfl ?_
                      refine xr_goto (tgt := 148) D_Rd_obeyMove_143 rfl ?_
                      refine xr_iret rfl D_Rd_obeyMove_148 ?_
                      skip
                      exact Or.inr (Or.inr (Or.inr (Or.inr (Or.inl ⟨⟨by grind, by grind, by grind, by assumption⟩, rfl⟩))))
          · exact absurd (show (0 : Int32) = (0 : Int32) by decide) c5
      · refine xr_iconst (v := 1) D_Rd_obeyMove_41 rfl ?_
        refine xr_goto (tgt := 46) D_Rd_obeyMove_42 rfl ?_
        refine xr_istore_n D_Rd_obeyMove_46 rfl (by decide) ?_
        refine xr_iload_n D_Rd_obeyMove_47 rfl rfl ?_
        refine xr_if_eq (tgt := 63) D_Rd_obeyMove_48 rfl (fun c4 => ?_) (fun c4 => ?_)
        · exact absurd (show (1 : Int32) = (0 : Int32) from c4) (by decide)
        · refine xr_iload_n D_Rd_obeyMove_51 rfl rfl ?_
          refine xr_if_eq (tgt := 59) D_Rd_obeyMove_52 rfl (fun c5 => ?_) (fun c5 => ?_)
          · exact absurd (show (1 : Int32) = (0 : Int32) from c5) (by decide)
          · refine xr_iconst (v := 3) D_Rd_obeyMove_55 rfl ?_
            refine xr_goto (tgt := 72) D_Rd_obeyMove_56 rfl ?_
            refine xr_istore D_Rd_obeyMove_72 (by decide) ?_
            refine xr_aload_n D_Rd_obeyMove_74 rfl rfl ?_
            refine xr_getf F_Rd_63 D_Rd_obeyMove_75 rfl rfl ?_
            refine xr_if_le (tgt := 101) D_Rd_obeyMove_78 rfl (fun c6 => ?_) (fun c6 => ?_)
            · refine xr_aload_n D_Rd_obeyMove_101 rfl rfl ?_
              refine xr_getf F_Rd_11 D_Rd_obeyMove_102 rfl rfl ?_
              refine xr_iload D_Rd_obeyMove_105 rfl ?_
              refine xr_iald D_Rd_obeyMove_107 rfl (by exact i_in2 6 (by grind) (by grind) rfl) ?_
              refine xr_istore D_Rd_obeyMove_108 (by decide) ?_
              refine xr_iload_n D_Rd_obeyMove_110 rfl rfl ?_
              refine xr_iconst (v := 4) D_Rd_obeyMove_111 rfl ?_
              refine xr_icmp_lt (tgt := 124) D_Rd_obeyMove_112 rfl (fun c7 => ?_) (fun c7 => ?_)
              · refine xr_aload_n D_Rd_obeyMove_124 rfl rfl ?_
                refine xr_iload_n D_Rd_obeyMove_125 rfl rfl ?_
                refine xr_if_eq (tgt := 133) D_Rd_obeyMove_126 rfl (fun c8 => ?_) (fun c8 => ?_)
                · exact absurd (show (1 : Int32) = (0 : Int32) from c8) (by decide)
                · refine xr_iconst (v := 0) D_Rd_obeyMove_129 rfl ?_
                  refine xr_goto (tgt := 134) D_Rd_obeyMove_130 rfl ?_
                  refine xr_iload D_Rd_obeyMove_134 rfl ?_
                  refine xr_cVx (as := [_, _]) (c_Rd_grow_31 (by decide) (by decide)) (L_Rd_139) (CD_Rd_grow) CI_Rd D_Rd_obeyMove_136 rfl rfl (by decide) (Nat.le_of_ble_eq_true rfl) (Nat.le_of_eq (Nat.zero_add _)) (Nat.le_of_eq (Nat.zero_add _)) pic_len ?_
                  rintro _ (⟨hg16, rfl⟩ | ⟨hg16, rfl⟩)
                  · refine ⟨_, _, rfl, rfl, ?_⟩
                    refine xr_if_eq (tgt := 146) D_Rd_obeyMove_139 rfl (fun c9 => ?_) (fun c9 => ?_)
                    · refine xr_bipush (v := 8) D_Rd_obeyMove_146 rfl ?_
                      refine xr_iret rfl D_Rd_obeyMove_148 ?_
                      exfalso; grind
                    · exact absurd (show (0 : Int32) = (0 : Int32) by decide) c9
                  · refine ⟨_, _, rfl, rfl, ?_⟩
                    refine xr_if_eq (tgt := 146) D_Rd_obeyMove_139 rfl (fun c10 => ?_) (fun c10 => ?_)
                    · exact absurd (show (1 : Int32) = (0 : Int32) from c10) (by decide)
                    · refine xr_iconst (v := 0) D_Rd_obeyMove_142 rfl ?_
                      refine xr_goto (tgt := 148) D_Rd_obeyMove_143 rfl ?_
                      refine xr_iret rfl D_Rd_obeyMove_148 ?_
                      exfalso; grind
              · refine xr_aload_n D_Rd_obeyMove_115 rfl rfl ?_
                refine xr_getf F_Rd_11 D_Rd_obeyMove_116 rfl rfl ?_
                refine xr_iload D_Rd_obeyMove_119 rfl ?_
                refine xr_iload D_Rd_obeyMove_121 rfl ?_
                refine xr_iast D_Rd_obeyMove_123 rfl (by exact i_in2 6 (by grind) (by grind) rfl) (aset_32) ?_
                refine xr_aload_n D_Rd_obeyMove_124 rfl rfl ?_
                refine xr_iload_n D_Rd_obeyMove_125 rfl rfl ?_
                refine xr_if_eq (tgt := 133) D_Rd_obeyMove_126 rfl (fun c8 => ?_) (fun c8 => ?_)
                · exact absurd (show (1 : Int32) = (0 : Int32) from c8) (by decide)
                · refine xr_iconst (v := 0) D_Rd_obeyMove_129 rfl ?_
                  refine xr_goto (tgt := 134) D_Rd_obeyMove_130 rfl ?_
                  refine xr_iload D_Rd_obeyMove_134 rfl ?_
                  refine xr_cVx (as := [_, _]) (c_Rd_grow_31 (by decide) (by decide)) (L_Rd_139) (CD_Rd_grow) CI_Rd D_Rd_obeyMove_136 rfl rfl (by decide) (Nat.le_of_ble_eq_true rfl) (Nat.le_of_eq (Nat.zero_add _)) (Nat.le_of_eq (Nat.zero_add _)) pic_len ?_
                  rintro _ (⟨hg17, rfl⟩ | ⟨hg17, rfl⟩)
                  · refine ⟨_, _, rfl, rfl, ?_⟩
                    refine xr_if_eq (tgt := 146) D_Rd_obeyMove_139 rfl (fun c9 => ?_) (fun c9 => ?_)
                    · refine xr_bipush (v := 8) D_Rd_obeyMove_146 rfl ?_
                      refine xr_iret rfl D_Rd_obeyMove_148 ?_
                      skip
                      exact Or.inr (Or.inr (Or.inr (Or.inr (Or.inr (Or.inr (Or.inr (Or.inr (Or.inr (Or.inr (Or.inr (Or.inl ⟨⟨by grind, by grind, by grind, by assumption⟩, rfl⟩)))))))))))
                    · exact absurd (show (0 : Int32) = (0 : Int32) by decide) c9
                  · refine ⟨_, _, rfl, rfl, ?_⟩
                    refine xr_if_eq (tgt := 146) D_Rd_obeyMove_139 rfl (fun c10 => ?_) (fun c10 => ?_)
                    · exact absurd (show (1 : Int32) = (0 : Int32) from c10) (by decide)
                    · refine xr_iconst (v := 0) D_Rd_obeyMove_142 rfl ?_
                      refine xr_goto (tgt := 148) D_Rd_obeyMove_143 rfl ?_
                      refine xr_iret rfl D_Rd_obeyMove_148 ?_
                      skip
                      exact Or.inr (Or.inr (Or.inr (Or.inr (Or.inr (Or.inr (Or.inr (Or.inr (Or.inr (Or.inr (Or.inl ⟨⟨by grind, by grind, by grind, by assumption⟩, rfl⟩))))))))))
            · refine xr_aload_n D_Rd_obeyMove_81 rfl rfl ?_
              refine xr_getf F_Rd_18 D_Rd_obeyMove_82 rfl rfl ?_
              refine xr_aload_n D_Rd_obeyMove_85 rfl rfl ?_
              refine xr_getf F_Rd_39 D_Rd_obeyMove_86 rfl rfl ?_
              refine xr_iconst (v := 1) D_Rd_obeyMove_89 rfl ?_
              refine xr_iadd D_Rd_obeyMove_90 ?_
              refine xr_aload_n D_Rd_obeyMove_91 rfl rfl ?_
              refine xr_getf F_Rd_63 D_Rd_obeyMove_92 rfl rfl ?_
              refine xr_cVx (as := [_, _]) (c_By_signedNumber_22 k hw hk) (L_Rd_151) (CD_By_signedNumber) CI_By D_Rd_obeyMove_95 rfl rfl (by decide) (Nat.le_of_ble_eq_true rfl) (Nat.le_of_eq (Nat.zero_add _)) (Nat.le_of_eq (Nat.zero_add _)) pic_len ?_
              rintro _ rfl
              refine ⟨_, _, rfl, rfl, ?_⟩
              refine xr_goto (tgt := 108) D_Rd_obeyMove_98 rfl ?_
              refine xr_istore D_Rd_obeyMove_108 (by decide) ?_
              refine xr_iload_n D_Rd_obeyMove_110 rfl rfl ?_
              refine xr_iconst (v := 4) D_Rd_obeyMove_111 rfl ?_
              refine xr_icmp_lt (tgt := 124) D_Rd_obeyMove_112 rfl (fun c7 => ?_) (fun c7 => ?_)
              · refine xr_aload_n D_Rd_obeyMove_124 rfl rfl ?_
                refine xr_iload_n D_Rd_obeyMove_125 rfl rfl ?_
                refine xr_if_eq (tgt := 133) D_Rd_obeyMove_126 rfl (fun c8 => ?_) (fun c8 => ?_)
                · exact absurd (show (1 : Int32) = (0 : Int32) from c8) (by decide)
                · refine xr_iconst (v := 0) D_Rd_obeyMove_129 rfl ?_
                  refine xr_goto (tgt := 134) D_Rd_obeyMove_130 rfl ?_
                  refine xr_iload D_Rd_obeyMove_134 rfl ?_
                  refine xr_cVx (as := [_, _]) (c_Rd_grow_31 (by decide) (by decide)) (L_Rd_139) (CD_Rd_grow) CI_Rd D_Rd_obeyMove_136 rfl rfl (by decide) (Nat.le_of_ble_eq_true rfl) (Nat.le_of_eq (Nat.zero_add _)) (Nat.le_of_eq (Nat.zero_add _)) pic_len ?_
                  rintro _ (⟨hg19, rfl⟩ | ⟨hg19, rfl⟩)
                  · refine ⟨_, _, rfl, rfl, ?_⟩
                    refine xr_if_eq (tgt := 146) D_Rd_obeyMove_139 rfl (fun c9 => ?_) (fun c9 => ?_)
                    · refine xr_bipush (v := 8) D_Rd_obeyMove_146 rfl ?_
                      refine xr_iret rfl D_Rd_obeyMove_148 ?_
                      exfalso; grind
                    · exact absurd (show (0 : Int32) = (0 : Int32) by decide) c9
                  · refine ⟨_, _, rfl, rfl, ?_⟩
                    refine xr_if_eq (tgt := 146) D_Rd_obeyMove_139 rfl (fun c10 => ?_) (fun c10 => ?_)
                    · exact absurd (show (1 : Int32) = (0 : Int32) from c10) (by decide)
                    · refine xr_iconst (v := 0) D_Rd_obeyMove_142 rfl ?_
                      refine xr_goto (tgt := 148) D_Rd_obeyMove_143 rfl ?_
                      refine xr_iret rfl D_Rd_obeyMove_148 ?_
                      exfalso; grind
              · refine xr_aload_n D_Rd_obeyMove_115 rfl rfl ?_
                refine xr_getf F_Rd_11 D_Rd_obeyMove_116 rfl rfl ?_
                refine xr_iload D_Rd_obeyMove_119 rfl ?_
                refine xr_iload D_Rd_obeyMove_121 rfl ?_
                refine xr_iast D_Rd_obeyMove_123 rfl (by exact i_in2 6 (by grind) (by grind) rfl) (aset_32) ?_
                refine xr_aload_n D_Rd_obeyMove_124 rfl rfl ?_
                refine xr_iload_n D_Rd_obeyMove_125 rfl rfl ?_
                refine xr_if_eq (tgt := 133) D_Rd_obeyMove_126 rfl (fun c8 => ?_) (fun c8 => ?_)
                · exact absurd (show (1 : Int32) = (0 : Int32) from c8) (by decide)
                · refine xr_iconst (v := 0) D_Rd_obeyMove_129 rfl ?_
                  refine xr_goto (tgt := 134) D_Rd_obeyMove_130 rfl ?_
                  refine xr_iload D_Rd_obeyMove_134 rfl ?_
                  refine xr_cVx (as := [_, _]) (c_Rd_grow_31 (by decide) (by decide)) (L_Rd_139) (CD_Rd_grow) CI_Rd D_Rd_obeyMove_136 rfl rfl (by decide) (Nat.le_of_ble_eq_true rfl) (Nat.le_of_eq (Nat.zero_add _)) (Nat.le_of_eq (Nat.zero_add _)) pic_len ?_
                  rintro _ (⟨hg20, rfl⟩ | ⟨hg20, rfl⟩)
                  · refine ⟨_, _, rfl, rfl, ?_⟩
                    refine xr_if_eq (tgt := 146) D_Rd_obeyMove_139 rfl (fun c9 => ?_) (fun c9 => ?_)
                    · refine xr_bipush (v := 8) D_Rd_obeyMove_146 rfl ?_
                      refine xr_iret rfl D_Rd_obeyMove_148 ?_
                      skip
                      exact Or.inr (Or.inr (Or.inr (Or.inr (Or.inr (Or.inr (Or.inr (Or.inr (Or.inr (Or.inl ⟨⟨by grind, by grind, by grind, by assumption⟩, rfl⟩)))))))))
                    · exact absurd (show (0 : Int32) = (0 : Int32) by decide) c9
                  · refine ⟨_, _, rfl, rfl, ?_⟩
                    refine xr_if_eq (tgt := 146) D_Rd_obeyMove_139 rfl (fun c10 => ?_) (fun c10 => ?_)
                    · exact absurd (show (1 : Int32) = (0 : Int32) from c10) (by decide)
                    · refine xr_iconst (v := 0) D_Rd_obeyMove_142 rfl ?_
                      refine xr_goto (tgt := 148) D_Rd_obeyMove_143 rfl ?_
                      refine xr_iret rfl D_Rd_obeyMove_148 ?_
                      skip
                      exact Or.inr (Or.inr (Or.inr (Or.inr (Or.inr (Or.inr (Or.inr (Or.inr (Or.inl ⟨⟨by grind, by grind, by grind, by assumption⟩, rfl⟩))))))))

set_option maxHeartbeats 4000000 in
theorem c_Rd_obeyLast_31 {I : mI} {A : mA} {L : mL}   : xm m_Rd_obeyLast (2, 45) [.ref 31] (pic I A L) 0 0 (fun o => ((¬ nrd (gat (I 2201) (A 23)) (I 3107 + 1) 4 = I 3111) ∧ o = (.inl (some (.int 5)), pic I A L)) ∨ ((nrd (gat (I 2201) (A 23)) (I 3107 + 1) 4 = I 3111 ∧ ¬ (nrd (gat (I 2201) (A 23)) (I 3107 + 5 + 4 * 0) 4 = nrd (gat (I 2201) (A 23)) (2 + 4 * 0) 4 ∧ nrd (gat (I 2201) (A 23)) (I 3107 + 5 + 4 * 1) 4 = nrd (gat (I 2201) (A 23)) (2 + 4 * 1) 4 ∧ nrd (gat (I 2201) (A 23)) (I 3107 + 5 + 4 * 2) 4 = nrd (gat (I 2201) (A 23)) (2 + 4 * 2) 4 ∧ nrd (gat (I 2201) (A 23)) (I 3107 + 27) 2 = (I 2406 &&& 65535))) ∧ o = (.inl (some (.int 6)), pic I A L)) ∨ ((nrd (gat (I 2201) (A 23)) (I 3107 + 1) 4 = I 3111 ∧ nrd (gat (I 2201) (A 23)) (I 3107 + 5 + 4 * 0) 4 = nrd (gat (I 2201) (A 23)) (2 + 4 * 0) 4 ∧ nrd (gat (I 2201) (A 23)) (I 3107 + 5 + 4 * 1) 4 = nrd (gat (I 2201) (A 23)) (2 + 4 * 1) 4 ∧ nrd (gat (I 2201) (A 23)) (I 3107 + 5 + 4 * 2) 4 = nrd (gat (I 2201) (A 23)) (2 + 4 * 2) 4 ∧ nrd (gat (I 2201) (A 23)) (I 3107 + 27) 2 = (I 2406 &&& 65535)) ∧ o = (.inl (some (.int 0)), pic (upd (upd (upd (upd I 2409 (nrd (gat (I 2201) (A 23)) (I 3107 + 17) 4)) 2410 (nrd (gat (I 2201) (A 23)) (I 3107 + 21) 4)) 3112 (I 3107)) 3106 3) A L))) := by
  refine xm_of rfl (by decide) (Nat.le_of_ble_eq_true rfl) ?_
  refine xr_aload_n D_Rd_obeyLast_0 rfl rfl ?_
  refine xr_getf F_Rd_18 D_Rd_obeyLast_1 rfl rfl ?_
  refine xr_aload_n D_Rd_obeyLast_4 rfl rfl ?_
  refine xr_getf F_Rd_39 D_Rd_obeyLast_5 rfl rfl ?_
  refine xr_iconst (v := 1) D_Rd_obeyLast_8 rfl ?_
  refine xr_iadd D_Rd_obeyLast_9 ?_
  refine xr_iconst (v := 4) D_Rd_obeyLast_10 rfl ?_
  refine xr_cVx (as := [_, _]) (c_By_number_22 4 rfl (by decide)) (L_Rd_88) (CD_By_number) CI_By D_Rd_obeyLast_11 rfl rfl (by decide) (Nat.le_of_ble_eq_true rfl) (Nat.le_of_eq (Nat.zero_add _)) (Nat.le_of_eq (Nat.zero_add _)) pic_len ?_
  rintro _ rfl
  refine ⟨_, _, rfl, rfl, ?_⟩
  refine xr_aload_n D_Rd_obeyLast_14 rfl rfl ?_
  refine xr_getf F_Rd_42 D_Rd_obeyLast_15 rfl rfl ?_
  refine xr_icmp_eq (tgt := 23) D_Rd_obeyLast_18 rfl (fun c1 => ?_) (fun c1 => ?_)
  · refine xr_iconst (v := 0) D_Rd_obeyLast_23 rfl ?_
    refine xr_istore_n D_Rd_obeyLast_24 rfl (by decide) ?_
    refine xr_iload_n D_Rd_obeyLast_25 rfl rfl ?_
    refine xr_iconst (v := 3) D_Rd_obeyLast_26 rfl ?_
    refine xr_icmp_ge (tgt := 73) D_Rd_obeyLast_27 rfl (fun c2 => ?_) (fun c2 => ?_)
    · exact absurd (show (3 : Int32) ≤ (0 : Int32) from c2) (by decide)
    · refine xr_aload_n D_Rd_obeyLast_30 rfl rfl ?_
      refine xr_getf F_Rd_18 D_Rd_obeyLast_31 rfl rfl ?_
      refine xr_aload_n D_Rd_obeyLast_34 rfl rfl ?_
      refine xr_getf F_Rd_39 D_Rd_obeyLast_35 rfl rfl ?_
      refine xr_iconst (v := 5) D_Rd_obeyLast_38 rfl ?_
      refine xr_iadd D_Rd_obeyLast_39 ?_
      refine xr_iconst (v := 4) D_Rd_obeyLast_40 rfl ?_
      refine xr_iload_n D_Rd_obeyLast_41 rfl rfl ?_
      refine xr_imul D_Rd_obeyLast_42 ?_
      refine xr_iadd D_Rd_obeyLast_43 ?_
      refine xr_iconst (v := 4) D_Rd_obeyLast_44 rfl ?_
      refine xr_cVx (as := [_, _]) (c_By_number_22 4 rfl (by decide)) (L_Rd_88) (CD_By_number) CI_By D_Rd_obeyLast_45 rfl rfl (by decide) (Nat.le_of_ble_eq_true rfl) (Nat.le_of_eq (Nat.zero_add _)) (Nat.le_of_eq (Nat.zero_add _)) pic_len ?_
      rintro _ rfl
      refine ⟨_, _, rfl, rfl, ?_⟩
      refine xr_aload_n D_Rd_obeyLast_48 rfl rfl ?_
      refine xr_getf F_Rd_18 D_Rd_obeyLast_49 rfl rfl ?_
      refine xr_iconst (v := 2) D_Rd_obeyLast_52 rfl ?_
      refine xr_iconst (v := 4) D_Rd_obeyLast_53 rfl ?_
      refine xr_iload_n D_Rd_obeyLast_54 rfl rfl ?_
      refine xr_imul D_Rd_obeyLast_55 ?_
      refine xr_iadd D_Rd_obeyLast_56 ?_
      refine xr_iconst (v := 4) D_Rd_obeyLast_57 rfl ?_
      refine xr_cVx (as := [_, _]) (c_By_number_22 4 rfl (by decide)) (L_Rd_88) (CD_By_number) CI_By D_Rd_obeyLast_58 rfl rfl (by decide) (Nat.le_of_ble_eq_true rfl) (Nat.le_of_eq (Nat.zero_add _)) (Nat.le_of_eq (Nat.zero_add _)) pic_len ?_
      rintro _ rfl
      refine ⟨_, _, rfl, rfl, ?_⟩
      refine xr_icmp_eq (tgt := 67) D_Rd_obeyLast_61 rfl (fun c3 => ?_) (fun c3 => ?_)
      · refine xr_iinc2 (v9 := 1) (c9 := 1) D_Rd_obeyLast_67 rfl rfl rfl (by decide) ?_
        refine xr_goto (tgt := 25) D_Rd_obeyLast_70 rfl ?_
        refine xr_iload_n D_Rd_obeyLast_25 rfl rfl ?_
        refine xr_iconst (v := 3) D_Rd_obeyLast_26 rfl ?_
        refine xr_icmp_ge (tgt := 73) D_Rd_obeyLast_27 rfl (fun c4 => ?_) (fun c4 => ?_)
        · exact absurd (show (3 : Int32) ≤ (1 : Int32) from c4) (by decide)
        · refine xr_aload_n D_Rd_obeyLast_30 rfl rfl ?_
          refine xr_getf F_Rd_18 D_Rd_obeyLast_31 rfl rfl ?_
          refine xr_aload_n D_Rd_obeyLast_34 rfl rfl ?_
          refine xr_getf F_Rd_39 D_Rd_obeyLast_35 rfl rfl ?_
          refine xr_iconst (v := 5) D_Rd_obeyLast_38 rfl ?_
          refine xr_iadd D_Rd_obeyLast_39 ?_
          refine xr_iconst (v := 4) D_Rd_obeyLast_40 rfl ?_
          refine xr_iload_n D_Rd_obeyLast_41 rfl rfl ?_
          refine xr_imul D_Rd_obeyLast_42 ?_
          refine xr_iadd D_Rd_obeyLast_43 ?_
          refine xr_iconst (v := 4) D_Rd_obeyLast_44 rfl ?_
          refine xr_cVx (as := [_, _]) (c_By_number_22 4 rfl (by decide)) (L_Rd_88) (CD_By_number) CI_By D_Rd_obeyLast_45 rfl rfl (by decide) (Nat.le_of_ble_eq_true rfl) (Nat.le_of_eq (Nat.zero_add _)) (Nat.le_of_eq (Nat.zero_add _)) pic_len ?_
          rintro _ rfl
          refine ⟨_, _, rfl, rfl, ?_⟩
          refine xr_aload_n D_Rd_obeyLast_48 rfl rfl ?_
          refine xr_getf F_Rd_18 D_Rd_obeyLast_49 rfl rfl ?_
          refine xr_iconst (v := 2) D_Rd_obeyLast_52 rfl ?_
          refine xr_iconst (v := 4) D_Rd_obeyLast_53 rfl ?_
          refine xr_iload_n D_Rd_obeyLast_54 rfl rfl ?_
          refine xr_imul D_Rd_obeyLast_55 ?_
          refine xr_iadd D_Rd_obeyLast_56 ?_
          refine xr_iconst (v := 4) D_Rd_obeyLast_57 rfl ?_
          refine xr_cVx (as := [_, _]) (c_By_number_22 4 rfl (by decide)) (L_Rd_88) (CD_By_number) CI_By D_Rd_obeyLast_58 rfl rfl (by decide) (Nat.le_of_ble_eq_true rfl) (Nat.le_of_eq (Nat.zero_add _)) (Nat.le_of_eq (Nat.zero_add _)) pic_len ?_
          rintro _ rfl
          refine ⟨_, _, rfl, rfl, ?_⟩
          refine xr_icmp_eq (tgt := 67) D_Rd_obeyLast_61 rfl (fun c5 => ?_) (fun c5 => ?_)
          · refine xr_iinc2 (v9 := 2) (c9 := 1) D_Rd_obeyLast_67 rfl rfl rfl (by decide) ?_
            refine xr_goto (tgt := 25) D_Rd_obeyLast_70 rfl ?_
            refine xr_iload_n D_Rd_obeyLast_25 rfl rfl ?_
            refine xr_iconst (v := 3) D_Rd_obeyLast_26 rfl ?_
            refine xr_icmp_ge (tgt := 73) D_Rd_obeyLast_27 rfl (fun c6 => ?_) (fun c6 => ?_)
            · exact absurd (show (3 : Int32) ≤ (2 : Int32) from c6) (by decide)
            · refine xr_aload_n D_Rd_obeyLast_30 rfl rfl ?_
              refine xr_getf F_Rd_18 D_Rd_obeyLast_31 rfl rfl ?_
              refine xr_aload_n D_Rd_obeyLast_34 rfl rfl ?_
              refine xr_getf F_Rd_39 D_Rd_obeyLast_35 rfl rfl ?_
              refine xr_iconst (v := 5) D_Rd_obeyLast_38 rfl ?_
              refine xr_iadd D_Rd_obeyLast_39 ?_
              refine xr_iconst (v := 4) D_Rd_obeyLast_40 rfl ?_
              refine xr_iload_n D_Rd_obeyLast_41 rfl rfl ?_
              refine xr_imul D_Rd_obeyLast_42 ?_
              refine xr_iadd D_Rd_obeyLast_43 ?_
              refine xr_iconst (v := 4) D_Rd_obeyLast_44 rfl ?_
              refine xr_cVx (as := [_, _]) (c_By_number_22 4 rfl (by decide)) (L_Rd_88) (CD_By_number) CI_By D_Rd_obeyLast_45 rfl rfl (by decide) (Nat.le_of_ble_eq_true rfl) (Nat.le_of_eq (Nat.zero_add _)) (Nat.le_of_eq (Nat.zero_add _)) pic_len ?_
              rintro _ rfl
              refine ⟨_, _, rfl, rfl, ?_⟩
              refine xr_aload_n D_Rd_obeyLast_48 rfl rfl ?_
              refine xr_getf F_Rd_18 D_Rd_obeyLast_49 rfl rfl ?_
              refine xr_iconst (v := 2) D_Rd_obeyLast_52 rfl ?_
              refine xr_iconst (v := 4) D_Rd_obeyLast_53 rfl ?_
              refine xr_iload_n D_Rd_obeyLast_54 rfl rfl ?_
              refine xr_imul D_Rd_obeyLast_55 ?_
              refine xr_iadd D_Rd_obeyLast_56 ?_
              refine xr_iconst (v := 4) D_Rd_obeyLast_57 rfl ?_
              refine xr_cVx (as := [_, _]) (c_By_number_22 4 rfl (by decide)) (L_Rd_88) (CD_By_number) CI_By D_Rd_obeyLast_58 rfl rfl (by decide) (Nat.le_of_ble_eq_true rfl) (Nat.le_of_eq (Nat.zero_add _)) (Nat.le_of_eq (Nat.zero_add _)) pic_len ?_
              rintro _ rfl
              refine ⟨_, _, rfl, rfl, ?_⟩
              refine xr_icmp_eq (tgt := 67) D_Rd_obeyLast_61 rfl (fun c7 => ?_) (fun c7 => ?_)
              · refine xr_iinc2 (v9 := 3) (c9 := 1) D_Rd_obeyLast_67 rfl rfl rfl (by decide) ?_
                refine xr_goto (tgt := 25) D_Rd_obeyLast_70 rfl ?_
                refine xr_iload_n D_Rd_obeyLast_25 rfl rfl ?_
                refine xr_iconst (v := 3) D_Rd_obeyLast_26 rfl ?_
                refine xr_icmp_ge (tgt := 73) D_Rd_obeyLast_27 rfl (fun c8 => ?_) (fun c8 => ?_)
                · refine xr_aload_n D_Rd_obeyLast_73 rfl rfl ?_
                  refine xr_getf F_Rd_18 D_Rd_obeyLast_74 rfl rfl ?_
                  refine xr_aload_n D_Rd_obeyLast_77 rfl rfl ?_
                  refine xr_getf F_Rd_39 D_Rd_obeyLast_78 rfl rfl ?_
                  refine xr_bipush (v := 27) D_Rd_obeyLast_81 rfl ?_
                  refine xr_iadd D_Rd_obeyLast_83 ?_
                  refine xr_iconst (v := 2) D_Rd_obeyLast_84 rfl ?_
                  refine xr_cVx (as := [_, _]) (c_By_number_22 2 rfl (by decide)) (L_Rd_88) (CD_By_number) CI_By D_Rd_obeyLast_85 rfl rfl (by decide) (Nat.le_of_ble_eq_true rfl) (Nat.le_of_eq (Nat.zero_add _)) (Nat.le_of_eq (Nat.zero_add _)) pic_len ?_
                  rintro _ rfl
                  refine ⟨_, _, rfl, rfl, ?_⟩
                  refine xr_aload_n D_Rd_obeyLast_88 rfl rfl ?_
                  refine xr_getf F_Rd_26 D_Rd_obeyLast_89 rfl rfl ?_
                  refine xr_getf F_Rd_176 D_Rd_obeyLast_92 rfl rfl ?_
                  refine xr_ldc (v := 65535) D_Rd_obeyLast_95 K_Rd_179 ?_
                  refine xr_iand D_Rd_obeyLast_97 ?_
                  refine xr_icmp_eq (tgt := 104) D_Rd_obeyLast_98 rfl (fun c9 => ?_) (fun c9 => ?_)
                  · refine xr_aload_n D_Rd_obeyLast_104 rfl rfl ?_
                    refine xr_getf F_Rd_26 D_Rd_obeyLast_105 rfl rfl ?_
                    refine xr_aload_n D_Rd_obeyLast_108 rfl rfl ?_
                    refine xr_getf F_Rd_18 D_Rd_obeyLast_109 rfl rfl ?_
                    refine xr_aload_n D_Rd_obeyLast_112 rfl rfl ?_
                    refine xr_getf F_Rd_39 D_Rd_obeyLast_113 rfl rfl ?_
                    refine xr_bipush (v := 17) D_Rd_obeyLast_116 rfl ?_
                    refine xr_iadd D_Rd_obeyLast_118 ?_
                    refine xr_iconst (v := 4) D_Rd_obeyLast_119 rfl ?_
                    refine xr_cVx (as := [_, _]) (c_By_number_22 4 rfl (by decide)) (L_Rd_88) (CD_By_number) CI_By D_Rd_obeyLast_120 rfl rfl (by decide) (Nat.le_of_ble_eq_true rfl) (Nat.le_of_eq (Nat.zero_add _)) (Nat.le_of_eq (Nat.zero_add _)) pic_len ?_
                    rintro _ rfl
                    refine ⟨_, _, rfl, rfl, ?_⟩
                    refine xr_putf F_Rd_180 FT_Rg FN_Rg_9 D_Rd_obeyLast_123 rfl (Nat.le_of_ble_eq_true rfl) rfl rfl (pset_24_9) ?_
                    refine xr_aload_n D_Rd_obeyLast_126 rfl rfl ?_
                    refine xr_getf F_Rd_26 D_Rd_obeyLast_127 rfl rfl ?_
                    refine xr_aload_n D_Rd_obeyLast_130 rfl rfl ?_
                    refine xr_getf F_Rd_18 D_Rd_obeyLast_131 rfl rfl ?_
                    refine xr_aload_n D_Rd_obeyLast_134 rfl rfl ?_
                    refine xr_getf F_Rd_39 D_Rd_obeyLast_135 rfl rfl ?_
                    refine xr_bipush (v := 21) D_Rd_obeyLast_138 rfl ?_
                    refine xr_iadd D_Rd_obeyLast_140 ?_
                    refine xr_iconst (v := 4) D_Rd_obeyLast_141 rfl ?_
                    refine xr_cVx (as := [_, _]) (c_By_number_22 4 rfl (by decide)) (L_Rd_88) (CD_By_number) CI_By D_Rd_obeyLast_142 rfl rfl (by decide) (Nat.le_of_ble_eq_true rfl) (Nat.le_of_eq (Nat.zero_add _)) (Nat.le_of_eq (Nat.zero_add _)) pic_len ?_
                    rintro _ rfl
                    refine ⟨_, _, rfl, rfl, ?_⟩
                    refine xr_putf F_Rd_183 FT_Rg FN_Rg_10 D_Rd_obeyLast_145 rfl (Nat.le_of_ble_eq_true rfl) rfl rfl (pset_24_10) ?_
                    refine xr_aload_n D_Rd_obeyLast_148 rfl rfl ?_
                    refine xr_aload_n D_Rd_obeyLast_149 rfl rfl ?_
                    refine xr_getf F_Rd_39 D_Rd_obeyLast_150 rfl rfl ?_
                    refine xr_putf F_Rd_122 FT_Rd FN_Rd_12 D_Rd_obeyLast_153 rfl (Nat.le_of_ble_eq_true rfl) rfl rfl (pset_31_12) ?_
                    refine xr_aload_n D_Rd_obeyLast_156 rfl rfl ?_
                    refine xr_iconst (v := 3) D_Rd_obeyLast_157 rfl ?_
                    refine xr_putf F_Rd_35 FT_Rd FN_Rd_6 D_Rd_obeyLast_158 rfl (Nat.le_of_ble_eq_true rfl) rfl rfl (pset_31_6) ?_
                    refine xr_iconst (v := 0) D_Rd_obeyLast_161 rfl ?_
                    refine xr_iret rfl D_Rd_obeyLast_162 ?_
                    exact Or.inr (Or.inr (⟨by grind, rfl⟩))
                  · refine xr_bipush (v := 6) D_Rd_obeyLast_101 rfl ?_
                    refine xr_iret rfl D_Rd_obeyLast_103 ?_
                    exact Or.inr (Or.inl ⟨by grind, rfl⟩)
                · exact absurd (show (3 : Int32) ≤ (3 : Int32) by decide) c8
              · refine xr_bipush (v := 6) D_Rd_obeyLast_64 rfl ?_
                refine xr_iret rfl D_Rd_obeyLast_66 ?_
                exact Or.inr (Or.inl ⟨by grind, rfl⟩)
          · refine xr_bipush (v := 6) D_Rd_obeyLast_64 rfl ?_
            refine xr_iret rfl D_Rd_obeyLast_66 ?_
            exact Or.inr (Or.inl ⟨by grind, rfl⟩)
      · refine xr_bipush (v := 6) D_Rd_obeyLast_64 rfl ?_
        refine xr_iret rfl D_Rd_obeyLast_66 ?_
        exact Or.inr (Or.inl ⟨by grind, rfl⟩)
  · refine xr_iconst (v := 5) D_Rd_obeyLast_21 rfl ?_
    refine xr_iret rfl D_Rd_obeyLast_22 ?_
    exact Or.inl ⟨c1, rfl⟩
