abbrev sameD (I : mI) (A : mA) (k p : Int32) : Prop := ((fPart (I 2407) (A 27) (A 28) (gat (I 2901) (A 30)) k (1 + 0) = nrd (gat (I 2201) (A 23)) (p + 4 * 0) 4 ∧ fPart (I 2407) (A 27) (A 28) (gat (I 2901) (A 30)) k (1 + 1) = nrd (gat (I 2201) (A 23)) (p + 4 * 1) 4 ∧ fPart (I 2407) (A 27) (A 28) (gat (I 2901) (A 30)) k (1 + 2) = nrd (gat (I 2201) (A 23)) (p + 4 * 2) 4) ∧ fPart (I 2407) (A 27) (A 28) (gat (I 2901) (A 30)) k (4) = ((gat (I 2201) (A 23)) (p + 12) + (gat (I 2201) (A 23)) (p + 13)) ∧ smR (fun j => fPart (I 2407) (A 27) (A 28) (gat (I 2901) (A 30)) k (5 + Int32.ofNat j)) (fun j => (gat (I 2201) (A 23)) (p + 14 + Int32.ofNat j)) ((gat (I 2201) (A 23)) (p + 12) + (gat (I 2201) (A 23)) (p + 13)).toInt.toNat 0 = true)
def afQ (I : mI) (A : mA) (L : mL) (x p : Int32) (N : List Int32) (v : Int32) : xO → Prop := fun o => ∃ I' A', o = (.inl (some (.int v)), pic (upd I' 2407 (I' 2407 + 1)) A' L) ∧ frI [2901] I I' ∧ frA [30] (upA (upA (upA (upA (upA (upA A 27 (I 2407 * 5).toNatClampNeg x) 27 (I 2407 * 5 + 1 + 0).toNatClampNeg (nrd (gat (I 2201) (A 23)) (p + 4 * 0) 4)) 27 (I 2407 * 5 + 1 + 1).toNatClampNeg (nrd (gat (I 2201) (A 23)) (p + 4 * 1) 4)) 27 (I 2407 * 5 + 1 + 2).toNatClampNeg (nrd (gat (I 2201) (A 23)) (p + 4 * 2) 4)) 27 (I 2407 * 5 + 4).toNatClampNeg ((gat (I 2201) (A 23)) (p + 12) + (gat (I 2201) (A 23)) (p + 13))) 28 (I 2407).toNatClampNeg (I 2901)) A' ∧ isB (I' 2901) (A' 30) (app N (nmL (fun j => (gat (I 2201) (A 23)) (p + 14 + Int32.ofNat j)) ((gat (I 2201) (A 23)) (p + 12) + (gat (I 2201) (A 23)) (p + 13)).toInt.toNat 0))
theorem c_Rd_obeyDefinition_31 {I : mI} {A : mA} {L : mL} {k : Nat} (hw : (I 3109).toInt = (k : Int)) (hk : k ≤ 4) (hf0 : 0 ≤ I 2407) (hf1 : I 2407 ≤ 256) {N : List Int32} (hN : isB (I 2901) (A 30) N) : xm m_Rd_obeyDefinition (3, 71) [.ref 31] (pic I A L) 0 0 (fun o => (¬ (ffR (A 27) (nrd (gat (I 2201) (A 23)) (I 3107 + 1) k) (I 2407).toInt.toNat 0) = -1 ∧ sameD I A (ffR (A 27) (nrd (gat (I 2201) (A 23)) (I 3107 + 1) k) (I 2407).toInt.toNat 0) (I 3107 + 1 + I 3109) ∧ o = (.inl (some (.int 0)), pic I A L)) ∨ (¬ (ffR (A 27) (nrd (gat (I 2201) (A 23)) (I 3107 + 1) k) (I 2407).toInt.toNat 0) = -1 ∧ ¬ sameD I A (ffR (A 27) (nrd (gat (I 2201) (A 23)) (I 3107 + 1) k) (I 2407).toInt.toNat 0) (I 3107 + 1 + I 3109) ∧ o = (.inl (some (.int 3)), pic I A L)) ∨ ((ffR (A 27) (nrd (gat (I 2201) (A 23)) (I 3107 + 1) k) (I 2407).toInt.toNat 0) = -1 ∧ I 3106 = 3 ∧ o = (.inl (some (.int 3)), pic I A L)) ∨ ((ffR (A 27) (nrd (gat (I 2201) (A 23)) (I 3107 + 1) k) (I 2407).toInt.toNat 0) = -1 ∧ ¬ I 3106 = 3 ∧ ¬ (0 ≤ I 2407 ∧ I 2407 < 256) ∧ o = (.inl (some (.int 9)), pic I A L)) ∨ ((ffR (A 27) (nrd (gat (I 2201) (A 23)) (I 3107 + 1) k) (I 2407).toInt.toNat 0) = -1 ∧ ¬ I 3106 = 3 ∧ (0 ≤ I 2407 ∧ I 2407 < 256) ∧ afQ I A L (nrd (gat (I 2201) (A 23)) (I 3107 + 1) k) (I 3107 + 1 + I 3109) N 0 o)) := by
  refine xm_of rfl (by decide) (Nat.le_of_ble_eq_true rfl) ?_
  refine xr_aload_n D_Rd_obeyDefinition_0 rfl rfl ?_
  refine xr_getf F_Rd_18 D_Rd_obeyDefinition_1 rfl rfl ?_
  refine xr_aload_n D_Rd_obeyDefinition_4 rfl rfl ?_
  refine xr_getf F_Rd_39 D_Rd_obeyDefinition_5 rfl rfl ?_
  refine xr_iconst (v := 1) D_Rd_obeyDefinition_8 rfl ?_
  refine xr_iadd D_Rd_obeyDefinition_9 ?_
  refine xr_aload_n D_Rd_obeyDefinition_10 rfl rfl ?_
  refine xr_getf F_Rd_63 D_Rd_obeyDefinition_11 rfl rfl ?_
  refine xr_cVx (as := [_, _]) (c_By_number_22 k hw hk) (L_Rd_88) (CD_By_number) CI_By D_Rd_obeyDefinition_14 rfl rfl (by decide) (Nat.le_of_ble_eq_true rfl) (Nat.le_of_eq (Nat.zero_add _)) (Nat.le_of_eq (Nat.zero_add _)) pic_len ?_
  rintro _ rfl
  refine ⟨_, _, rfl, rfl, ?_⟩
  refine xr_istore_n D_Rd_obeyDefinition_17 rfl (by decide) ?_
  refine xr_aload_n D_Rd_obeyDefinition_18 rfl rfl ?_
  refine xr_getf F_Rd_39 D_Rd_obeyDefinition_19 rfl rfl ?_
  refine xr_iconst (v := 1) D_Rd_obeyDefinition_22 rfl ?_
  refine xr_iadd D_Rd_obeyDefinition_23 ?_
  refine xr_aload_n D_Rd_obeyDefinition_24 rfl rfl ?_
  refine xr_getf F_Rd_63 D_Rd_obeyDefinition_25 rfl rfl ?_
  refine xr_iadd D_Rd_obeyDefinition_28 ?_
  refine xr_istore_n D_Rd_obeyDefinition_29 rfl (by decide) ?_
  refine xr_aload_n D_Rd_obeyDefinition_30 rfl rfl ?_
  refine xr_getf F_Rd_26 D_Rd_obeyDefinition_31 rfl rfl ?_
  refine xr_iload_n D_Rd_obeyDefinition_34 rfl rfl ?_
  refine xr_cVx (as := [_]) (c_Rg_findFont_24 hf0 hf1) (L_Rd_154) (CD_Rg_findFont) CI_Rg D_Rd_obeyDefinition_35 rfl rfl (by decide) (Nat.le_of_ble_eq_true rfl) (Nat.le_of_eq (Nat.zero_add _)) (Nat.le_of_eq (Nat.zero_add _)) pic_len ?_
  rintro _ rfl
  refine ⟨_, _, rfl, rfl, ?_⟩
  refine xr_istore_n D_Rd_obeyDefinition_38 rfl (by decide) ?_
  refine xr_iload_n D_Rd_obeyDefinition_39 rfl rfl ?_
  refine xr_iconst (v := (-1)) D_Rd_obeyDefinition_40 rfl ?_
  refine xr_icmp_eq (tgt := 66) D_Rd_obeyDefinition_41 rfl (fun c1 => ?_) (fun c1 => ?_)
  · refine xr_aload_n D_Rd_obeyDefinition_66 rfl rfl ?_
    refine xr_getf F_Rd_35 D_Rd_obeyDefinition_67 rfl rfl ?_
    refine xr_iconst (v := 3) D_Rd_obeyDefinition_70 rfl ?_
    refine xr_icmp_ne (tgt := 76) D_Rd_obeyDefinition_71 rfl (fun c2 => ?_) (fun c2 => ?_)
    · refine xr_aload_n D_Rd_obeyDefinition_76 rfl rfl ?_
      refine xr_getf F_Rd_26 D_Rd_obeyDefinition_77 rfl rfl ?_
      refine xr_iload_n D_Rd_obeyDefinition_80 rfl rfl ?_
      refine xr_aload_n D_Rd_obeyDefinition_81 rfl rfl ?_
      refine xr_getf F_Rd_18 D_Rd_obeyDefinition_82 rfl rfl ?_
      refine xr_iload_n D_Rd_obeyDefinition_85 rfl rfl ?_
      refine xr_cVx (as := [_, _, _]) (c_Rg_addFont_24 hN) (L_Rd_161) (CD_Rg_addFont) CI_Rg D_Rd_obeyDefinition_86 rfl rfl (by decide) (Nat.le_of_ble_eq_true rfl) (Nat.le_of_eq (Nat.zero_add _)) (Nat.le_of_eq (Nat.zero_add _)) pic_len ?_
      rintro _ (⟨hg, rfl⟩ | ⟨hg, I9, A9, rfl, k1, k2, k3⟩)
      · refine ⟨_, _, rfl, rfl, ?_⟩
        refine xr_if_eq (tgt := 96) D_Rd_obeyDefinition_89 rfl (fun c3 => ?_) (fun c3 => ?_)
        · refine xr_bipush (v := 9) D_Rd_obeyDefinition_96 rfl ?_
          refine xr_iret rfl D_Rd_obeyDefinition_98 ?_
          exact Or.inr (Or.inr (Or.inr (Or.inl ⟨c1, c2, hg, rfl⟩)))
        · exact absurd (show (0 : Int32) = (0 : Int32) by decide) c3
      · refine ⟨_, _, rfl, rfl, ?_⟩
        refine xr_if_eq (tgt := 96) D_Rd_obeyDefinition_89 rfl (fun c4 => ?_) (fun c4 => ?_)
        · exact absurd (show (1 : Int32) = (0 : Int32) from c4) (by decide)
        · refine xr_iconst (v := 0) D_Rd_obeyDefinition_92 rfl ?_
          refine xr_goto (tgt := 98) D_Rd_obeyDefinition_93 rfl ?_
          refine xr_iret rfl D_Rd_obeyDefinition_98 ?_
          exact Or.inr (Or.inr (Or.inr (Or.inr ⟨c1, c2, hg, I9, A9, rfl, k1, k2, k3⟩)))
    · refine xr_iconst (v := 3) D_Rd_obeyDefinition_74 rfl ?_
      refine xr_iret rfl D_Rd_obeyDefinition_75 ?_
      exact Or.inr (Or.inr (Or.inl ⟨c1, c2, rfl⟩))
  · refine xr_aload_n D_Rd_obeyDefinition_44 rfl rfl ?_
    refine xr_getf F_Rd_26 D_Rd_obeyDefinition_45 rfl rfl ?_
    refine xr_iload_n D_Rd_obeyDefinition_48 rfl rfl ?_
    refine xr_aload_n D_Rd_obeyDefinition_49 rfl rfl ?_
    refine xr_getf F_Rd_18 D_Rd_obeyDefinition_50 rfl rfl ?_
    refine xr_iload_n D_Rd_obeyDefinition_53 rfl rfl ?_
    refine xr_cVx (as := [_, _, _]) (c_Rg_isSameFont_24) (L_Rd_157) (CD_Rg_isSameFont) CI_Rg D_Rd_obeyDefinition_54 rfl rfl (by decide) (Nat.le_of_ble_eq_true rfl) (Nat.le_of_eq (Nat.zero_add _)) (Nat.le_of_eq (Nat.zero_add _)) pic_len ?_
    rintro _ rfl
    refine ⟨_, _, rfl, rfl, ?_⟩
    refine xr_if_eq (tgt := 64) D_Rd_obeyDefinition_57 rfl (fun c2 => ?_) (fun c2 => ?_)
    · rw [b2_0] at c2
      refine xr_iconst (v := 3) D_Rd_obeyDefinition_64 rfl ?_
      refine xr_iret rfl D_Rd_obeyDefinition_65 ?_
      exact Or.inr (Or.inl ⟨c1, c2, rfl⟩)
    · rw [b2_n] at c2
      refine xr_iconst (v := 0) D_Rd_obeyDefinition_60 rfl ?_
      refine xr_goto (tgt := 65) D_Rd_obeyDefinition_61 rfl ?_
      refine xr_iret rfl D_Rd_obeyDefinition_65 ?_
      exact Or.inl ⟨c1, c2, rfl⟩

def q_Rd_obeyMove (I : mI) (A : mA) (L : mL) (k : Nat) : xO → Prop := fun o => (((I 3108 < 157) ∧ ((I 3108 - 143) < 4) ∧ (0 < I 3109) ∧ fitL (smG (A 32 0) ((nrd (gat (I 2201) (A 23)) (I 3107 + 1) k <<< ((32 - 8 * I 3109) &&& 31)) >>> ((32 - 8 * I 3109) &&& 31)))) ∧ o = (.inl (some (.int 0)), pic I (upA A 32 0 (smG (A 32 0) ((nrd (gat (I 2201) (A 23)) (I 3107 + 1) k <<< ((32 - 8 * I 3109) &&& 31)) >>> ((32 - 8 * I 3109) &&& 31))).toInt32) L)) ∨ (((I 3108 < 157) ∧ ((I 3108 - 143) < 4) ∧ (0 < I 3109) ∧ ¬ fitL (smG (A 32 0) ((nrd (gat (I 2201) (A 23)) (I 3107 + 1) k <<< ((32 - 8 * I 3109) &&& 31)) >>> ((32 - 8 * I 3109) &&& 31)))) ∧ o = (.inl (some (.int 8)), pic I A L)) ∨ (((I 3108 < 157) ∧ ((I 3108 - 143) < 4) ∧ (¬ 0 < I 3109) ∧ fitL (smG (A 32 0) (A 32 2))) ∧ o = (.inl (some (.int 0)), pic I (upA A 32 0 (smG (A 32 0) (A 32 2)).toInt32) L)) ∨ (((I 3108 < 157) ∧ ((I 3108 - 143) < 4) ∧ (¬ 0 < I 3109) ∧ ¬ fitL (smG (A 32 0) (A 32 2))) ∧ o = (.inl (some (.int 8)), pic I A L)) ∨ (((I 3108 < 157) ∧ (¬ (I 3108 - 143) < 4 ∧ (I 3108 - 143) < 9) ∧ (0 < I 3109) ∧ fitL (smG (A 32 0) ((nrd (gat (I 2201) (A 23)) (I 3107 + 1) k <<< ((32 - 8 * I 3109) &&& 31)) >>> ((32 - 8 * I 3109) &&& 31)))) ∧ o = (.inl (some (.int 0)), pic I (upA (upA A 32 2 ((nrd (gat (I 2201) (A 23)) (I 3107 + 1) k <<< ((32 - 8 * I 3109) &&& 31)) >>> ((32 - 8 * I 3109) &&& 31))) 32 0 (smG (A 32 0) ((nrd (gat (I 2201) (A 23)) (I 3107 + 1) k <<< ((32 - 8 * I 3109) &&& 31)) >>> ((32 - 8 * I 3109) &&& 31))).toInt32) L)) ∨ (((I 3108 < 157) ∧ (¬ (I 3108 - 143) < 4 ∧ (I 3108 - 143) < 9) ∧ (0 < I 3109) ∧ ¬ fitL (smG (A 32 0) ((nrd (gat (I 2201) (A 23)) (I 3107 + 1) k <<< ((32 - 8 * I 3109) &&& 31)) >>> ((32 - 8 * I 3109) &&& 31)))) ∧ o = (.inl (some (.int 8)), pic I (upA A 32 2 ((nrd (gat (I 2201) (A 23)) (I 3107 + 1) k <<< ((32 - 8 * I 3109) &&& 31)) >>> ((32 - 8 * I 3109) &&& 31))) L)) ∨ (((I 3108 < 157) ∧ (¬ (I 3108 - 143) < 4 ∧ (I 3108 - 143) < 9) ∧ (¬ 0 < I 3109) ∧ fitL (smG (A 32 0) (A 32 2))) ∧ o = (.inl (some (.int 0)), pic I (upA (upA A 32 2 (A 32 2)) 32 0 (smG (A 32 0) (A 32 2)).toInt32) L)) ∨ (((I 3108 < 157) ∧ (¬ (I 3108 - 143) < 4 ∧ (I 3108 - 143) < 9) ∧ (¬ 0 < I 3109) ∧ ¬ fitL (smG (A 32 0) (A 32 2))) ∧ o = (.inl (some (.int 8)), pic I (upA A 32 2 (A 32 2)) L)) ∨ (((I 3108 < 157) ∧ (¬ (I 3108 - 143) < 9) ∧ (0 < I 3109) ∧ fitL (smG (A 32 0) ((nrd (gat (I 2201) (A 23)) (I 3107 + 1) k <<< ((32 - 8 * I 3109) &&& 31)) >>> ((32 - 8 * I 3109) &&& 31)))) ∧ o = (.inl (some (.int 0)), pic I (upA (upA A 32 3 ((nrd (gat (I 2201) (A 23)) (I 3107 + 1) k <<< ((32 - 8 * I 3109) &&& 31)) >>> ((32 - 8 * I 3109) &&& 31))) 32 0 (smG (A 32 0) ((nrd (gat (I 2201) (A 23)) (I 3107 + 1) k <<< ((32 - 8 * I 3109) &&& 31)) >>> ((32 - 8 * I 3109) &&& 31))).toInt32) L)) ∨ (((I 3108 < 157) ∧ (¬ (I 3108 - 143) < 9) ∧ (0 < I 3109) ∧ ¬ fitL (smG (A 32 0) ((nrd (gat (I 2201) (A 23)) (I 3107 + 1) k <<< ((32 - 8 * I 3109) &&& 31)) >>> ((32 - 8 * I 3109) &&& 31)))) ∧ o = (.inl (some (.int 8)), pic I (upA A 32 3 ((nrd (gat (I 2201) (A 23)) (I 3107 + 1) k <<< ((32 - 8 * I 3109) &&& 31)) >>> ((32 - 8 * I 3109) &&& 31))) L)) ∨ (((I 3108 < 157) ∧ (¬ (I 3108 - 143) < 9) ∧ (¬ 0 < I 3109) ∧ fitL (smG (A 32 0) (A 32 3))) ∧ o = (.inl (some (.int 0)), pic I (upA (upA A 32 3 (A 32 3)) 32 0 (smG (A 32 0) (A 32 3)).toInt32) L)) ∨ (((I 3108 < 157) ∧ (¬ (I 3108 - 143) < 9) ∧ (¬ 0 < I 3109) ∧ ¬ fitL (smG (A 32 0) (A 32 3))) ∧ o = (.inl (some (.int 8)), pic I (upA A 32 3 (A 32 3)) L)) ∨ (((¬ I 3108 < 157) ∧ ((I 3108 - 157) < 4) ∧ (0 < I 3109) ∧ fitL (smG (A 32 1) ((nrd (gat (I 2201) (A 23)) (I 3107 + 1) k <<< ((32 - 8 * I 3109) &&& 31)) >>> ((32 - 8 * I 3109) &&& 31)))) ∧ o = (.inl (some (.int 0)), pic I (upA A 32 1 (smG (A 32 1) ((nrd (gat (I 2201) (A 23)) (I 3107 + 1) k <<< ((32 - 8 * I 3109) &&& 31)) >>> ((32 - 8 * I 3109) &&& 31))).toInt32) L)) ∨ (((¬ I 3108 < 157) ∧ ((I 3108 - 157) < 4) ∧ (0 < I 3109) ∧ ¬ fitL (smG (A 32 1) ((nrd (gat (I 2201) (A 23)) (I 3107 + 1) k <<< ((32 - 8 * I 3109) &&& 31)) >>> ((32 - 8 * I 3109) &&& 31)))) ∧ o = (.inl (some (.int 8)), pic I A L)) ∨ (((¬ I 3108 < 157) ∧ ((I 3108 - 157) < 4) ∧ (¬ 0 < I 3109) ∧ fitL (smG (A 32 1) (A 32 4))) ∧ o = (.inl (some (.int 0)), pic I (upA A 32 1 (smG (A 32 1) (A 32 4)).toInt32) L)) ∨ (((¬ I 3108 < 157) ∧ ((I 3108 - 157) < 4) ∧ (¬ 0 < I 3109) ∧ ¬ fitL (smG (A 32 1) (A 32 4))) ∧ o = (.inl (some (.int 8)), pic I A L)) ∨ (((¬ I 3108 < 157) ∧ (¬ (I 3108 - 157) < 4 ∧ (I 3108 - 157) < 9) ∧ (0 < I 3109) ∧ fitL (smG (A 32 1) ((nrd (gat (I 2201) (A 23)) (I 3107 + 1) k <<< ((32 - 8 * I 3109) &&& 31)) >>> ((32 - 8 * I 3109) &&& 31)))) ∧ o = (.inl (some (.int 0)), pic I (upA (upA A 32 4 ((nrd (gat (I 2201) (A 23)) (I 3107 + 1) k <<< ((32 - 8 * I 3109) &&& 31)) >>> ((32 - 8 * I 3109) &&& 31))) 32 1 (smG (A 32 1) ((nrd (gat (I 2201) (A 23)) (I 3107 + 1) k <<< ((32 - 8 * I 3109) &&& 31)) >>> ((32 - 8 * I 3109) &&& 31))).toInt32) L)) ∨ (((¬ I 3108 < 157) ∧ (¬ (I 3108 - 157) < 4 ∧ (I 3108 - 157) < 9) ∧ (0 < I 3109) ∧ ¬ fitL (smG (A 32 1) ((nrd (gat (I 2201) (A 23)) (I 3107 + 1) k <<< ((32 - 8 * I 3109) &&& 31)) >>> ((32 - 8 * I 3109) &&& 31)))) ∧ o = (.inl (some (.int 8)), pic I (upA A 32 4 ((nrd (gat (I 2201) (A 23)) (I 3107 + 1) k <<< ((32 - 8 * I 3109) &&& 31)) >>> ((32 - 8 * I 3109) &&& 31))) L)) ∨ (((¬ I 3108 < 157) ∧ (¬ (I 3108 - 157) < 4 ∧ (I 3108 - 157) < 9) ∧ (¬ 0 < I 3109) ∧ fitL (smG (A 32 1) (A 32 4))) ∧ o = (.inl (some (.int 0)), pic I (upA (upA A 32 4 (A 32 4)) 32 1 (smG (A 32 1) (A 32 4)).toInt32) L)) ∨ (((¬ I 3108 < 157) ∧ (¬ (I 3108 - 157) < 4 ∧ (I 3108 - 157) < 9) ∧ (¬ 0 < I 3109) ∧ ¬ fitL (smG (A 32 1) (A 32 4))) ∧ o = (.inl (some (.int 8)), pic I (upA A 32 4 (A 32 4)) L)) ∨ (((¬ I 3108 < 157) ∧ (¬ (I 3108 - 157) < 9) ∧ (0 < I 3109) ∧ fitL (smG (A 32 1) ((nrd (gat (I 2201) (A 23)) (I 3107 + 1) k <<< ((32 - 8 * I 3109) &&& 31)) >>> ((32 - 8 * I 3109) &&& 31)))) ∧ o = (.inl (some (.int 0)), pic I (upA (upA A 32 5 ((nrd (gat (I 2201) (A 23)) (I 3107 + 1) k <<< ((32 - 8 * I 3109) &&& 31)) >>> ((32 - 8 * I 3109) &&& 31))) 32 1 (smG (A 32 1) ((nrd (gat (I 2201) (A 23)) (I 3107 + 1) k <<< ((32 - 8 * I 3109) &&& 31)) >>> ((32 - 8 * I 3109) &&& 31))).toInt32) L)) ∨ (((¬ I 3108 < 157) ∧ (¬ (I 3108 - 157) < 9) ∧ (0 < I 3109) ∧ ¬ fitL (smG (A 32 1) ((nrd (gat (I 2201) (A 23)) (I 3107 + 1) k <<< ((32 - 8 * I 3109) &&& 31)) >>> ((32 - 8 * I 3109) &&& 31)))) ∧ o = (.inl (some (.int 8)), pic I (upA A 32 5 ((nrd (gat (I 2201) (A 23)) (I 3107 + 1) k <<< ((32 - 8 * I 3109) &&& 31)) >>> ((32 - 8 * I 3109) &&& 31))) L)) ∨ (((¬ I 3108 < 157) ∧ (¬ (I 3108 - 157) < 9) ∧ (¬ 0 < I 3109) ∧ fitL (smG (A 32 1) (A 32 5))) ∧ o = (.inl (some (.int 0)), pic I (upA (upA A 32 5 (A 32 5)) 32 1 (smG (A 32 1) (A 32 5)).toInt32) L)) ∨ (((¬ I 3108 < 157) ∧ (¬ (I 3108 - 157) < 9) ∧ (¬ 0 < I 3109) ∧ ¬ fitL (smG (A 32 1) (A 32 5))) ∧ o = (.inl (some (.int 8)), pic I (upA A 32 5 (A 32 5)) L))
theorem s_Rd_obeyMove {I : mI} {A : mA} {L : mL} {k : Nat} {o : xO} (h : q_Rd_obeyMove I A L k o) : ∃ (x : Int32) (I' : mI) (A' : mA), o = (.inl (some (.int x)), pic I' A' L) := by
  rcases h with ⟨-, rfl⟩ | ⟨-, rfl⟩ | ⟨-, rfl⟩ | ⟨-, rfl⟩ | ⟨-, rfl⟩ | ⟨-, rfl⟩ | ⟨-, rfl⟩ | ⟨-, rfl⟩ | ⟨-, rfl⟩ | ⟨-, rfl⟩ | ⟨-, rfl⟩ | ⟨-, rfl⟩ | ⟨-, rfl⟩ | ⟨-, rfl⟩ | ⟨-, rfl⟩ | ⟨-, rfl⟩ | ⟨-, rfl⟩ | ⟨-, rfl⟩ | ⟨-, rfl⟩ | ⟨-, rfl⟩ | ⟨-, rfl⟩ | ⟨-, rfl⟩ | ⟨-, rfl⟩ | ⟨-, rfl⟩ <;> exact ⟨_, _, _, rfl⟩
def q_Rd_obeyFont (I : mI) (A : mA) (L : mL) (k : Nat) : xO → Prop := fun o => (((0 < I 3109) ∧ (ffR (A 27) (nrd (gat (I 2201) (A 23)) (I 3107 + 1) k) (I 2407).toInt.toNat 0) = -1) ∧ o = (.inl (some (.int 3)), pic (upd I 3110 (ffR (A 27) (nrd (gat (I 2201) (A 23)) (I 3107 + 1) k) (I 2407).toInt.toNat 0)) A L)) ∨ (((0 < I 3109) ∧ ¬ (ffR (A 27) (nrd (gat (I 2201) (A 23)) (I 3107 + 1) k) (I 2407).toInt.toNat 0) = -1) ∧ o = (.inl (some (.int 0)), pic (upd I 3110 (ffR (A 27) (nrd (gat (I 2201) (A 23)) (I 3107 + 1) k) (I 2407).toInt.toNat 0)) A L)) ∨ (((¬ 0 < I 3109) ∧ (ffR (A 27) (I 3108 - 171) (I 2407).toInt.toNat 0) = -1) ∧ o = (.inl (some (.int 3)), pic (upd I 3110 (ffR (A 27) (I 3108 - 171) (I 2407).toInt.toNat 0)) A L)) ∨ (((¬ 0 < I 3109) ∧ ¬ (ffR (A 27) (I 3108 - 171) (I 2407).toInt.toNat 0) = -1) ∧ o = (.inl (some (.int 0)), pic (upd I 3110 (ffR (A 27) (I 3108 - 171) (I 2407).toInt.toNat 0)) A L))
theorem s_Rd_obeyFont {I : mI} {A : mA} {L : mL} {k : Nat} {o : xO} (h : q_Rd_obeyFont I A L k o) : ∃ (x : Int32) (I' : mI) (A' : mA), o = (.inl (some (.int x)), pic I' A' L) := by
  rcases h with ⟨-, rfl⟩ | ⟨-, rfl⟩ | ⟨-, rfl⟩ | ⟨-, rfl⟩ <;> exact ⟨_, _, _, rfl⟩
def q_Rd_obeyRule (I : mI) (A : mA) (L : mL) : xO → Prop := fun o => ((I 3108 = 132 ∧ ¬ fitL (smG (A 32 0) (nrd (gat (I 2201) (A 23)) (I 3107 + 5) 4))) ∧ o = (.inl (some (.int 8)), pic I A L)) ∨ (((I 3108 = 132 ∧ fitL (smG (A 32 0) (nrd (gat (I 2201) (A 23)) (I 3107 + 5) 4))) ∧ ¬ (0 < nrd (gat (I 2201) (A 23)) (I 3107 + 1) 4 ∧ 0 < nrd (gat (I 2201) (A 23)) (I 3107 + 5) 4)) ∧ o = (.inl (some (.int 0)), pic I (upA A 32 0 (smG (A 32 0) (nrd (gat (I 2201) (A 23)) (I 3107 + 5) 4)).toInt32) L)) ∨ ((((I 3108 = 132 ∧ fitL (smG (A 32 0) (nrd (gat (I 2201) (A 23)) (I 3107 + 5) 4))) ∧ (0 < nrd (gat (I 2201) (A 23)) (I 3107 + 1) 4 ∧ 0 < nrd (gat (I 2201) (A 23)) (I 3107 + 5) 4)) ∧ (0 ≤ I 2405 ∧ I 2405 < 2000)) ∧ o = (.inl (some (.int 0)), pic (upd I 2405 (I 2405 + 1)) (upA (upA (upA (upA (upA (upA (upA A 32 0 (smG (A 32 0) (nrd (gat (I 2201) (A 23)) (I 3107 + 5) 4)).toInt32) 25 (I 2405 * 6).toNatClampNeg (I 2406 - 1)) 25 (I 2405 * 6 + 1).toNatClampNeg (-1)) 25 (I 2405 * 6 + 2).toNatClampNeg (nrd (gat (I 2201) (A 23)) (I 3107 + 5) 4)) 25 (I 2405 * 6 + 3).toNatClampNeg (A 32 0)) 25 (I 2405 * 6 + 4).toNatClampNeg (A 32 1)) 25 (I 2405 * 6 + 5).toNatClampNeg (nrd (gat (I 2201) (A 23)) (I 3107 + 1) 4)) L)) ∨ ((((I 3108 = 132 ∧ fitL (smG (A 32 0) (nrd (gat (I 2201) (A 23)) (I 3107 + 5) 4))) ∧ (0 < nrd (gat (I 2201) (A 23)) (I 3107 + 1) 4 ∧ 0 < nrd (gat (I 2201) (A 23)) (I 3107 + 5) 4)) ∧ ¬ (0 ≤ I 2405 ∧ I 2405 < 2000)) ∧ o = (.inl (some (.int 9)), pic I (upA A 32 0 (smG (A 32 0) (nrd (gat (I 2201) (A 23)) (I 3107 + 5) 4)).toInt32) L)) ∨ (((¬ I 3108 = 132) ∧ ¬ (0 < nrd (gat (I 2201) (A 23)) (I 3107 + 1) 4 ∧ 0 < nrd (gat (I 2201) (A 23)) (I 3107 + 5) 4)) ∧ o = (.inl (some (.int 0)), pic I A L)) ∨ ((((¬ I 3108 = 132) ∧ (0 < nrd (gat (I 2201) (A 23)) (I 3107 + 1) 4 ∧ 0 < nrd (gat (I 2201) (A 23)) (I 3107 + 5) 4)) ∧ (0 ≤ I 2405 ∧ I 2405 < 2000)) ∧ o = (.inl (some (.int 0)), pic (upd I 2405 (I 2405 + 1)) (upA (upA (upA (upA (upA (upA A 25 (I 2405 * 6).toNatClampNeg (I 2406 - 1)) 25 (I 2405 * 6 + 1).toNatClampNeg (-1)) 25 (I 2405 * 6 + 2).toNatClampNeg (nrd (gat (I 2201) (A 23)) (I 3107 + 5) 4)) 25 (I 2405 * 6 + 3).toNatClampNeg (A 32 0)) 25 (I 2405 * 6 + 4).toNatClampNeg (A 32 1)) 25 (I 2405 * 6 + 5).toNatClampNeg (nrd (gat (I 2201) (A 23)) (I 3107 + 1) 4)) L)) ∨ ((((¬ I 3108 = 132) ∧ (0 < nrd (gat (I 2201) (A 23)) (I 3107 + 1) 4 ∧ 0 < nrd (gat (I 2201) (A 23)) (I 3107 + 5) 4)) ∧ ¬ (0 ≤ I 2405 ∧ I 2405 < 2000)) ∧ o = (.inl (some (.int 9)), pic I A L))
theorem s_Rd_obeyRule {I : mI} {A : mA} {L : mL} {o : xO} (h : q_Rd_obeyRule I A L o) : ∃ (x : Int32) (I' : mI) (A' : mA), o = (.inl (some (.int x)), pic I' A' L) := by
  rcases h with ⟨-, rfl⟩ | ⟨-, rfl⟩ | ⟨-, rfl⟩ | ⟨-, rfl⟩ | ⟨-, rfl⟩ | ⟨-, rfl⟩ | ⟨-, rfl⟩ <;> exact ⟨_, _, _, rfl⟩
def q_Rd_obeyCharacter (I : mI) (A : mA) (L : mL) (k : Nat) : xO → Prop := fun o => ((I 3110 = -1) ∧ o = (.inl (some (.int 7)), pic I A L)) ∨ (((¬ I 3110 = -1 ∧ (0 < I 3109)) ∧ I 3108 ≤ 131 ∧ ¬ fitL (smG (A 32 0) (wOf (A 2) (fPart (I 2407) (A 27) (A 28) (gat (I 2901) (A 30)) (I 3110) 0) (nrd (gat (I 2201) (A 23)) (I 3107 + 1) k)))) ∧ o = (.inl (some (.int 8)), pic I A L)) ∨ ((((¬ I 3110 = -1 ∧ (0 < I 3109)) ∧ I 3108 ≤ 131 ∧ fitL (smG (A 32 0) (wOf (A 2) (fPart (I 2407) (A 27) (A 28) (gat (I 2901) (A 30)) (I 3110) 0) (nrd (gat (I 2201) (A 23)) (I 3107 + 1) k)))) ∧ (0 ≤ I 2405 ∧ I 2405 < 2000)) ∧ o = (.inl (some (.int 0)), pic (upd I 2405 (I 2405 + 1)) (upA (upA (upA (upA (upA (upA (upA A 32 0 (smG (A 32 0) (wOf (A 2) (fPart (I 2407) (A 27) (A 28) (gat (I 2901) (A 30)) (I 3110) 0) (nrd (gat (I 2201) (A 23)) (I 3107 + 1) k))).toInt32) 25 (I 2405 * 6).toNatClampNeg (I 2406 - 1)) 25 (I 2405 * 6 + 1).toNatClampNeg (fPart (I 2407) (A 27) (A 28) (gat (I 2901) (A 30)) (I 3110) 0)) 25 (I 2405 * 6 + 2).toNatClampNeg (nrd (gat (I 2201) (A 23)) (I 3107 + 1) k)) 25 (I 2405 * 6 + 3).toNatClampNeg (A 32 0)) 25 (I 2405 * 6 + 4).toNatClampNeg (A 32 1)) 25 (I 2405 * 6 + 5).toNatClampNeg (0)) L)) ∨ ((((¬ I 3110 = -1 ∧ (0 < I 3109)) ∧ I 3108 ≤ 131 ∧ fitL (smG (A 32 0) (wOf (A 2) (fPart (I 2407) (A 27) (A 28) (gat (I 2901) (A 30)) (I 3110) 0) (nrd (gat (I 2201) (A 23)) (I 3107 + 1) k)))) ∧ ¬ (0 ≤ I 2405 ∧ I 2405 < 2000)) ∧ o = (.inl (some (.int 9)), pic I (upA A 32 0 (smG (A 32 0) (wOf (A 2) (fPart (I 2407) (A 27) (A 28) (gat (I 2901) (A 30)) (I 3110) 0) (nrd (gat (I 2201) (A 23)) (I 3107 + 1) k))).toInt32) L)) ∨ ((((¬ I 3110 = -1 ∧ (0 < I 3109)) ∧ ¬ I 3108 ≤ 131) ∧ (0 ≤ I 2405 ∧ I 2405 < 2000)) ∧ o = (.inl (some (.int 0)), pic (upd I 2405 (I 2405 + 1)) (upA (upA (upA (upA (upA (upA A 25 (I 2405 * 6).toNatClampNeg (I 2406 - 1)) 25 (I 2405 * 6 + 1).toNatClampNeg (fPart (I 2407) (A 27) (A 28) (gat (I 2901) (A 30)) (I 3110) 0)) 25 (I 2405 * 6 + 2).toNatClampNeg (nrd (gat (I 2201) (A 23)) (I 3107 + 1) k)) 25 (I 2405 * 6 + 3).toNatClampNeg (A 32 0)) 25 (I 2405 * 6 + 4).toNatClampNeg (A 32 1)) 25 (I 2405 * 6 + 5).toNatClampNeg (0)) L)) ∨ ((((¬ I 3110 = -1 ∧ (0 < I 3109)) ∧ ¬ I 3108 ≤ 131) ∧ ¬ (0 ≤ I 2405 ∧ I 2405 < 2000)) ∧ o = (.inl (some (.int 9)), pic I A L)) ∨ (((¬ I 3110 = -1 ∧ (¬ 0 < I 3109)) ∧ I 3108 ≤ 131 ∧ ¬ fitL (smG (A 32 0) (wOf (A 2) (fPart (I 2407) (A 27) (A 28) (gat (I 2901) (A 30)) (I 3110) 0) (I 3108)))) ∧ o = (.inl (some (.int 8)), pic I A L)) ∨ ((((¬ I 3110 = -1 ∧ (¬ 0 < I 3109)) ∧ I 3108 ≤ 131 ∧ fitL (smG (A 32 0) (wOf (A 2) (fPart (I 2407) (A 27) (A 28) (gat (I 2901) (A 30)) (I 3110) 0) (I 3108)))) ∧ (0 ≤ I 2405 ∧ I 2405 < 2000)) ∧ o = (.inl (some (.int 0)), pic (upd I 2405 (I 2405 + 1)) (upA (upA (upA (upA (upA (upA (upA A 32 0 (smG (A 32 0) (wOf (A 2) (fPart (I 2407) (A 27) (A 28) (gat (I 2901) (A 30)) (I 3110) 0) (I 3108))).toInt32) 25 (I 2405 * 6).toNatClampNeg (I 2406 - 1)) 25 (I 2405 * 6 + 1).toNatClampNeg (fPart (I 2407) (A 27) (A 28) (gat (I 2901) (A 30)) (I 3110) 0)) 25 (I 2405 * 6 + 2).toNatClampNeg (I 3108)) 25 (I 2405 * 6 + 3).toNatClampNeg (A 32 0)) 25 (I 2405 * 6 + 4).toNatClampNeg (A 32 1)) 25 (I 2405 * 6 + 5).toNatClampNeg (0)) L)) ∨ ((((¬ I 3110 = -1 ∧ (¬ 0 < I 3109)) ∧ I 3108 ≤ 131 ∧ fitL (smG (A 32 0) (wOf (A 2) (fPart (I 2407) (A 27) (A 28) (gat (I 2901) (A 30)) (I 3110) 0) (I 3108)))) ∧ ¬ (0 ≤ I 2405 ∧ I 2405 < 2000)) ∧ o = (.inl (some (.int 9)), pic I (upA A 32 0 (smG (A 32 0) (wOf (A 2) (fPart (I 2407) (A 27) (A 28) (gat (I 2901) (A 30)) (I 3110) 0) (I 3108))).toInt32) L)) ∨ ((((¬ I 3110 = -1 ∧ (¬ 0 < I 3109)) ∧ ¬ I 3108 ≤ 131) ∧ (0 ≤ I 2405 ∧ I 2405 < 2000)) ∧ o = (.inl (some (.int 0)), pic (upd I 2405 (I 2405 + 1)) (upA (upA (upA (upA (upA (upA A 25 (I 2405 * 6).toNatClampNeg (I 2406 - 1)) 25 (I 2405 * 6 + 1).toNatClampNeg (fPart (I 2407) (A 27) (A 28) (gat (I 2901) (A 30)) (I 3110) 0)) 25 (I 2405 * 6 + 2).toNatClampNeg (I 3108)) 25 (I 2405 * 6 + 3).toNatClampNeg (A 32 0)) 25 (I 2405 * 6 + 4).toNatClampNeg (A 32 1)) 25 (I 2405 * 6 + 5).toNatClampNeg (0)) L)) ∨ ((((¬ I 3110 = -1 ∧ (¬ 0 < I 3109)) ∧ ¬ I 3108 ≤ 131) ∧ ¬ (0 ≤ I 2405 ∧ I 2405 < 2000)) ∧ o = (.inl (some (.int 9)), pic I A L))
theorem s_Rd_obeyCharacter {I : mI} {A : mA} {L : mL} {k : Nat} {o : xO} (h : q_Rd_obeyCharacter I A L k o) : ∃ (x : Int32) (I' : mI) (A' : mA), o = (.inl (some (.int x)), pic I' A' L) := by
  rcases h with ⟨-, rfl⟩ | ⟨-, rfl⟩ | ⟨-, rfl⟩ | ⟨-, rfl⟩ | ⟨-, rfl⟩ | ⟨-, rfl⟩ | ⟨-, rfl⟩ | ⟨-, rfl⟩ | ⟨-, rfl⟩ | ⟨-, rfl⟩ | ⟨-, rfl⟩ <;> exact ⟨_, _, _, rfl⟩
def q_Rd_obeyBegin (I : mI) (A : mA) (L : mL) : xO → Prop := fun o => ((¬ nrd (gat (I 2201) (A 23)) (I 3107 + 1 + 40) 4 = I 3111) ∧ o = (.inl (some (.int 5)), pic I A L)) ∨ ((nrd (gat (I 2201) (A 23)) (I 3107 + 1 + 40) 4 = I 3111 ∧ ¬ (0 ≤ I 2406 ∧ I 2406 < 1300)) ∧ o = (.inl (some (.int 9)), pic I A L)) ∨ ((nrd (gat (I 2201) (A 23)) (I 3107 + 1 + 40) 4 = I 3111 ∧ (0 ≤ I 2406 ∧ I 2406 < 1300)) ∧ o = (.inl (some (.int 0)), pic (upd (upd (upd (upd (upd I 2406 (I 2406 + 1)) 3111 (I 3107)) 3106 2) 3110 (-1)) 3105 0) (upA (upA (upA (upA (upA (upA (upAf A 26 (pgF (gat (I 2201) (A 23)) (I 3107 + 1) (I 2406) 10 0 (A 26))) 32 0 0) 32 1 0) 32 2 0) 32 3 0) 32 4 0) 32 5 0) L))
theorem s_Rd_obeyBegin {I : mI} {A : mA} {L : mL} {o : xO} (h : q_Rd_obeyBegin I A L o) : ∃ (x : Int32) (I' : mI) (A' : mA), o = (.inl (some (.int x)), pic I' A' L) := by
  rcases h with ⟨-, rfl⟩ | ⟨-, rfl⟩ | ⟨-, rfl⟩ <;> exact ⟨_, _, _, rfl⟩
def q_Rd_obeyPush (I : mI) (A : mA) (L : mL) : xO → Prop := fun o => ((¬ (0 ≤ I 3105 ∧ I 3105 < 100)) ∧ o = (.inl (some (.int 4)), pic I A L)) ∨ ((0 ≤ I 3105 ∧ I 3105 < 100) ∧ o = (.inl (some (.int 0)), pic (upd (upd I 3105 (I 3105 + 1)) 2411 (if I 2411 < I 3105 + 1 then I 3105 + 1 else I 2411)) (upA (upA (upA (upA (upA (upA A 33 (I 3105 * 6 + 0).toNatClampNeg (A 32 0)) 33 (I 3105 * 6 + 1).toNatClampNeg (A 32 1)) 33 (I 3105 * 6 + 2).toNatClampNeg (A 32 2)) 33 (I 3105 * 6 + 3).toNatClampNeg (A 32 3)) 33 (I 3105 * 6 + 4).toNatClampNeg (A 32 4)) 33 (I 3105 * 6 + 5).toNatClampNeg (A 32 5)) L))
theorem s_Rd_obeyPush {I : mI} {A : mA} {L : mL} {o : xO} (h : q_Rd_obeyPush I A L o) : ∃ (x : Int32) (I' : mI) (A' : mA), o = (.inl (some (.int x)), pic I' A' L) := by
  rcases h with ⟨-, rfl⟩ | ⟨-, rfl⟩ <;> exact ⟨_, _, _, rfl⟩
def q_Rd_obeyPop (I : mI) (A : mA) (L : mL) : xO → Prop := fun o => ((¬ (1 ≤ I 3105 ∧ I 3105 ≤ 100)) ∧ o = (.inl (some (.int 4)), pic I A L)) ∨ ((1 ≤ I 3105 ∧ I 3105 ≤ 100) ∧ o = (.inl (some (.int 0)), pic (upd I 3105 (I 3105 - 1)) (upAf A 32 (ppF (A 33) (I 3105 - 1) 6 0 (A 32))) L))
theorem s_Rd_obeyPop {I : mI} {A : mA} {L : mL} {o : xO} (h : q_Rd_obeyPop I A L o) : ∃ (x : Int32) (I' : mI) (A' : mA), o = (.inl (some (.int x)), pic I' A' L) := by
  rcases h with ⟨-, rfl⟩ | ⟨-, rfl⟩ <;> exact ⟨_, _, _, rfl⟩
def q_Rd_obeyLast (I : mI) (A : mA) (L : mL) : xO → Prop := fun o => ((¬ nrd (gat (I 2201) (A 23)) (I 3107 + 1) 4 = I 3111) ∧ o = (.inl (some (.int 5)), pic I A L)) ∨ ((nrd (gat (I 2201) (A 23)) (I 3107 + 1) 4 = I 3111 ∧ ¬ (nrd (gat (I 2201) (A 23)) (I 3107 + 5 + 4 * 0) 4 = nrd (gat (I 2201) (A 23)) (2 + 4 * 0) 4 ∧ nrd (gat (I 2201) (A 23)) (I 3107 + 5 + 4 * 1) 4 = nrd (gat (I 2201) (A 23)) (2 + 4 * 1) 4 ∧ nrd (gat (I 2201) (A 23)) (I 3107 + 5 + 4 * 2) 4 = nrd (gat (I 2201) (A 23)) (2 + 4 * 2) 4 ∧ nrd (gat (I 2201) (A 23)) (I 3107 + 27) 2 = (I 2406 &&& 65535))) ∧ o = (.inl (some (.int 6)), pic I A L)) ∨ ((nrd (gat (I 2201) (A 23)) (I 3107 + 1) 4 = I 3111 ∧ nrd (gat (I 2201) (A 23)) (I 3107 + 5 + 4 * 0) 4 = nrd (gat (I 2201) (A 23)) (2 + 4 * 0) 4 ∧ nrd (gat (I 2201) (A 23)) (I 3107 + 5 + 4 * 1) 4 = nrd (gat (I 2201) (A 23)) (2 + 4 * 1) 4 ∧ nrd (gat (I 2201) (A 23)) (I 3107 + 5 + 4 * 2) 4 = nrd (gat (I 2201) (A 23)) (2 + 4 * 2) 4 ∧ nrd (gat (I 2201) (A 23)) (I 3107 + 27) 2 = (I 2406 &&& 65535)) ∧ o = (.inl (some (.int 0)), pic (upd (upd (upd (upd I 2409 (nrd (gat (I 2201) (A 23)) (I 3107 + 17) 4)) 2410 (nrd (gat (I 2201) (A 23)) (I 3107 + 21) 4)) 3112 (I 3107)) 3106 3) A L))
theorem s_Rd_obeyLast {I : mI} {A : mA} {L : mL} {o : xO} (h : q_Rd_obeyLast I A L o) : ∃ (x : Int32) (I' : mI) (A' : mA), o = (.inl (some (.int x)), pic I' A' L) := by
  rcases h with ⟨-, rfl⟩ | ⟨-, rfl⟩ | ⟨-, rfl⟩ <;> exact ⟨_, _, _, rfl⟩
def q_Rd_obeyDefinition (I : mI) (A : mA) (L : mL) (k : Nat) (N : List Int32) : xO → Prop := fun o => (¬ (ffR (A 27) (nrd (gat (I 2201) (A 23)) (I 3107 + 1) k) (I 2407).toInt.toNat 0) = -1 ∧ sameD I A (ffR (A 27) (nrd (gat (I 2201) (A 23)) (I 3107 + 1) k) (I 2407).toInt.toNat 0) (I 3107 + 1 + I 3109) ∧ o = (.inl (some (.int 0)), pic I A L)) ∨ (¬ (ffR (A 27) (nrd (gat (I 2201) (A 23)) (I 3107 + 1) k) (I 2407).toInt.toNat 0) = -1 ∧ ¬ sameD I A (ffR (A 27) (nrd (gat (I 2201) (A 23)) (I 3107 + 1) k) (I 2407).toInt.toNat 0) (I 3107 + 1 + I 3109) ∧ o = (.inl (some (.int 3)), pic I A L)) ∨ ((ffR (A 27) (nrd (gat (I 2201) (A 23)) (I 3107 + 1) k) (I 2407).toInt.toNat 0) = -1 ∧ I 3106 = 3 ∧ o = (.inl (some (.int 3)), pic I A L)) ∨ ((ffR (A 27) (nrd (gat (I 2201) (A 23)) (I 3107 + 1) k) (I 2407).toInt.toNat 0) = -1 ∧ ¬ I 3106 = 3 ∧ ¬ (0 ≤ I 2407 ∧ I 2407 < 256) ∧ o = (.inl (some (.int 9)), pic I A L)) ∨ ((ffR (A 27) (nrd (gat (I 2201) (A 23)) (I 3107 + 1) k) (I 2407).toInt.toNat 0) = -1 ∧ ¬ I 3106 = 3 ∧ (0 ≤ I 2407 ∧ I 2407 < 256) ∧ afQ I A L (nrd (gat (I 2201) (A 23)) (I 3107 + 1) k) (I 3107 + 1 + I 3109) N 0 o)
theorem s_Rd_obeyDefinition {I : mI} {A : mA} {L : mL} {k : Nat} {N : List Int32} {o : xO} (h : q_Rd_obeyDefinition I A L k N o) : ∃ (x : Int32) (I' : mI) (A' : mA), o = (.inl (some (.int x)), pic I' A' L) := by
  rcases h with ⟨-, -, rfl⟩ | ⟨-, -, rfl⟩ | ⟨-, -, rfl⟩ | ⟨-, -, -, rfl⟩ | ⟨-, -, -, I9, A9, rfl, -⟩ <;> exact ⟨_, _, _, rfl⟩
set_option maxHeartbeats 4000000 in
theorem c_Rd_obey_31 {I : mI} {A : mA} {L : mL} {k : Nat} (hw : (I 3109).toInt = (k : Int)) (hk : k ≤ 4) (hf0 : 0 ≤ I 2407) (hf1 : I 2407 ≤ 256) {N : List Int32} (hN : isB (I 2901) (A 30) N) : xm m_Rd_obey (4, 94) [.ref 31] (pic I A L) 0 0 (fun o => (((I 3106 = 4)) ∧ o = (.inl (some (.int 0)), pic (upd I 3113 (I 3113 + 1)) A L)) ∨ ((¬ I 3106 = 4 ∧ (143 ≤ I 3108 ∧ I 3108 < 171)) ∧ q_Rd_obeyMove I A L k o) ∨ ((¬ I 3106 = 4 ∧ (171 ≤ I 3108 ∧ I 3108 ≤ 238)) ∧ q_Rd_obeyFont I A L k o) ∨ ((¬ I 3106 = 4 ∧ (243 ≤ I 3108 ∧ I 3108 ≤ 246)) ∧ q_Rd_obeyDefinition I A L k N o) ∨ ((¬ I 3106 = 4 ∧ (I 3108 = 132 ∨ I 3108 = 137)) ∧ q_Rd_obeyRule I A L o) ∨ ((¬ I 3106 = 4 ∧ (I 3108 = 139)) ∧ q_Rd_obeyBegin I A L o) ∨ ((¬ I 3106 = 4 ∧ (I 3108 = 140 ∧ 0 < I 3105)) ∧ o = (.inl (some (.int 4)), pic (upd I 3106 1) A L)) ∨ ((¬ I 3106 = 4 ∧ (I 3108 = 140 ∧ ¬ 0 < I 3105)) ∧ o = (.inl (some (.int 0)), pic (upd I 3106 1) A L)) ∨ ((¬ I 3106 = 4 ∧ (I 3108 = 141)) ∧ q_Rd_obeyPush I A L o) ∨ ((¬ I 3106 = 4 ∧ (I 3108 = 142)) ∧ q_Rd_obeyPop I A L o) ∨ ((¬ I 3106 = 4 ∧ (I 3108 = 247)) ∧ o = (.inl (some (.int 0)), pic (upd (upd I 3106 1) 2408 (nrd (gat (I 2201) (A 23)) (I 3107 + 10) 4)) A L)) ∨ ((¬ I 3106 = 4 ∧ (I 3108 = 248)) ∧ q_Rd_obeyLast I A L o) ∨ ((¬ I 3106 = 4 ∧ (I 3108 = 249 ∧ nrd (gat (I 2201) (A 23)) (I 3107 + 1) 4 = I 3112)) ∧ o = (.inl (some (.int 0)), pic (upd I 3106 4) A L)) ∨ ((¬ I 3106 = 4 ∧ (I 3108 = 249 ∧ ¬ nrd (gat (I 2201) (A 23)) (I 3107 + 1) 4 = I 3112)) ∧ o = (.inl (some (.int 5)), pic (upd I 3106 4) A L)) ∨ ((¬ I 3106 = 4 ∧ (I 3108 ≤ 136) ∧ (¬ I 3108 = 132 ∧ ¬ I 3108 = 137 ∧ ¬ I 3108 = 139 ∧ ¬ I 3108 = 140 ∧ ¬ I 3108 = 141 ∧ ¬ I 3108 = 142 ∧ ¬ I 3108 = 247 ∧ ¬ I 3108 = 248 ∧ ¬ I 3108 = 249 ∧ ¬ (143 ≤ I 3108 ∧ I 3108 ≤ 246 ∧ ¬ (239 ≤ I 3108 ∧ I 3108 ≤ 242)))) ∧ q_Rd_obeyCharacter I A L k o) ∨ ((¬ I 3106 = 4 ∧ (136 < I 3108) ∧ (¬ I 3108 = 132 ∧ ¬ I 3108 = 137 ∧ ¬ I 3108 = 139 ∧ ¬ I 3108 = 140 ∧ ¬ I 3108 = 141 ∧ ¬ I 3108 = 142 ∧ ¬ I 3108 = 247 ∧ ¬ I 3108 = 248 ∧ ¬ I 3108 = 249 ∧ ¬ (143 ≤ I 3108 ∧ I 3108 ≤ 246 ∧ ¬ (239 ≤ I 3108 ∧ I 3108 ≤ 242)))) ∧ o = (.inl (some (.int 0)), pic I A L))) := by
  refine xm_of rfl (by decide) (Nat.le_of_ble_eq_true rfl) ?_
  refine xr_aload_n D_Rd_obey_0 rfl rfl ?_
  refine xr_getf F_Rd_35 D_Rd_obey_1 rfl rfl ?_
  refine xr_iconst (v := 4) D_Rd_obey_4 rfl ?_
  refine xr_icmp_ne (tgt := 20) D_Rd_obey_5 rfl (fun c1 => ?_) (fun c1 => ?_)
  · refine xr_aload_n D_Rd_obey_20 rfl rfl ?_
    refine xr_getf F_Rd_57 D_Rd_obey_21 rfl rfl ?_
    refine xr_sipush (v := 143) D_Rd_obey_24 rfl ?_
    refine xr_icmp_lt (tgt := 45) D_Rd_obey_27 rfl (fun c2 => ?_) (fun c2 => ?_)
    · refine xr_aload_n D_Rd_obey_45 rfl rfl ?_
      refine xr_getf F_Rd_57 D_Rd_obey_46 rfl rfl ?_
      refine xr_sipush (v := 171) D_Rd_obey_49 rfl ?_
      refine xr_icmp_lt (tgt := 70) D_Rd_obey_52 rfl (fun c3 => ?_) (fun c3 => ?_)
      · refine xr_aload_n D_Rd_obey_70 rfl rfl ?_
        refine xr_cVx (as := []) (c_Rd_isDefinition_31) (L_Rd_85) (CD_Rd_isDefinition) CI_Rd D_Rd_obey_71 rfl rfl (by decide) (Nat.le_of_ble_eq_true rfl) (Nat.le_of_eq (Nat.zero_add _)) (Nat.le_of_eq (Nat.zero_add _)) pic_len ?_
        rintro _ rfl
        refine ⟨_, _, rfl, rfl, ?_⟩
        refine xr_if_eq (tgt := 82) D_Rd_obey_74 rfl (fun c4 => ?_) (fun c4 => ?_)
        · rw [b2_0] at c4
          refine xr_aload_n D_Rd_obey_82 rfl rfl ?_
          refine xr_getf F_Rd_57 D_Rd_obey_83 rfl rfl ?_
          by_cases t0 : I 3108 = 132
          · refine xr_lookup (tgt := 168) (off := 82) D_Rd_obey_86 (by decide) (by rw [t0]; rfl) rfl ?_
            refine xr_aload_n D_Rd_obey_168 rfl rfl ?_
            refine xr_cVx (as := []) (c_Rd_obeyRule_31) (L_Rd_101) (CD_Rd_obeyRule) CI_Rd D_Rd_obey_169 rfl rfl (by decide) (Nat.le_of_ble_eq_true rfl) (Nat.le_of_eq (Nat.zero_add _)) (Nat.le_of_eq (Nat.zero_add _)) pic_len ?_
            intro o9 ho9
            obtain ⟨x9, I9, A9, rfl⟩ := s_Rd_obeyRule ho9
            refine ⟨_, _, rfl, rfl, ?_⟩
            refine xr_iret rfl D_Rd_obey_172 ?_
            exact Or.inr (Or.inr (Or.inr (Or.inr (Or.inl ⟨by grind [upd], ho9⟩))))
          by_cases t1 : I 3108 = 137
          · refine xr_lookup (tgt := 168) (off := 82) D_Rd_obey_86 (by decide) (by rw [t1]; rfl) rfl ?_
            refine xr_aload_n D_Rd_obey_168 rfl rfl ?_
            refine xr_cVx (as := []) (c_Rd_obeyRule_31) (L_Rd_101) (CD_Rd_obeyRule) CI_Rd D_Rd_obey_169 rfl rfl (by decide) (Nat.le_of_ble_eq_true rfl) (Nat.le_of_eq (Nat.zero_add _)) (Nat.le_of_eq (Nat.zero_add _)) pic_len ?_
            intro o9 ho9
            obtain ⟨x9, I9, A9, rfl⟩ := s_Rd_obeyRule ho9
            refine ⟨_, _, rfl, rfl, ?_⟩
            refine xr_iret rfl D_Rd_obey_172 ?_
            exact Or.inr (Or.inr (Or.inr (Or.inr (Or.inl ⟨by grind [upd], ho9⟩))))
          by_cases t2 : I 3108 = 139
          · refine xr_lookup (tgt := 173) (off := 87) D_Rd_obey_86 (by decide) (by rw [t2]; rfl) rfl ?_
            refine xr_aload_n D_Rd_obey_173 rfl rfl ?_
            refine xr_cVx (as := []) (c_Rd_obeyBegin_31) (L_Rd_104) (CD_Rd_obeyBegin) CI_Rd D_Rd_obey_174 rfl rfl (by decide) (Nat.le_of_ble_eq_true rfl) (Nat.le_of_eq (Nat.zero_add _)) (Nat.le_of_eq (Nat.zero_add _)) pic_len ?_
            intro o9 ho9
            obtain ⟨x9, I9, A9, rfl⟩ := s_Rd_obeyBegin ho9
            refine ⟨_, _, rfl, rfl, ?_⟩
            refine xr_iret rfl D_Rd_obey_177 ?_
            exact Or.inr (Or.inr (Or.inr (Or.inr (Or.inr (Or.inl ⟨by grind [upd], ho9⟩)))))
          by_cases t3 : I 3108 = 140
          · refine xr_lookup (tgt := 178) (off := 92) D_Rd_obey_86 (by decide) (by rw [t3]; rfl) rfl ?_
            refine xr_aload_n D_Rd_obey_178 rfl rfl ?_
            refine xr_iconst (v := 1) D_Rd_obey_179 rfl ?_
            refine xr_putf F_Rd_35 FT_Rd FN_Rd_6 D_Rd_obey_180 rfl (Nat.le_of_ble_eq_true rfl) rfl rfl (pset_31_6) ?_
            refine xr_aload_n D_Rd_obey_183 rfl rfl ?_
            refine xr_getf F_Rd_107 D_Rd_obey_184 rfl rfl ?_
            refine xr_if_le (tgt := 194) D_Rd_obey_187 rfl (fun c5 => ?_) (fun c5 => ?_)
            · refine xr_iconst (v := 0) D_Rd_obey_194 rfl ?_
              refine xr_iret rfl D_Rd_obey_195 ?_
              first | exact Or.inl ⟨by grind [upd], rfl⟩ | exact Or.inr (Or.inr (Or.inr (Or.inr (Or.inr (Or.inr (Or.inl ⟨by grind [upd], rfl⟩)))))) | exact Or.inr (Or.inr (Or.inr (Or.inr (Or.inr (Or.inr (Or.inr (Or.inl ⟨by grind [upd], rfl⟩))))))) | exact Or.inr (Or.inr (Or.inr (Or.inr (Or.inr (Or.inr (Or.inr (Or.inr (Or.inr (Or.inr (Or.inl ⟨by grind [upd], rfl⟩)))))))))) | exact Or.inr (Or.inr (Or.inr (Or.inr (Or.inr (Or.inr (Or.inr (Or.inr (Or.inr (Or.inr (Or.inr (Or.inr (Or.inl ⟨by grind [upd], rfl⟩)))))))))))) | exact Or.inr (Or.inr (Or.inr (Or.inr (Or.inr (Or.inr (Or.inr (Or.inr (Or.inr (Or.inr (Or.inr (Or.inr (Or.inr (Or.inl ⟨by grind [upd], rfl⟩))))))))))))) | exact Or.inr (Or.inr (Or.inr (Or.inr (Or.inr (Or.inr (Or.inr (Or.inr (Or.inr (Or.inr (Or.inr (Or.inr (Or.inr (Or.inr (Or.inr (⟨by grind [upd], rfl⟩)))))))))))))))
            · refine xr_iconst (v := 4) D_Rd_obey_190 rfl ?_
              refine xr_goto (tgt := 195) D_Rd_obey_191 rfl ?_
              refine xr_iret rfl D_Rd_obey_195 ?_
              first | exact Or.inl ⟨by grind [upd], rfl⟩ | exact Or.inr (Or.inr (Or.inr (Or.inr (Or.inr (Or.inr (Or.inl ⟨by grind [upd], rfl⟩)))))) | exact Or.inr (Or.inr (Or.inr (Or.inr (Or.inr (Or.inr (Or.inr (Or.inl ⟨by grind [upd], rfl⟩))))))) | exact Or.inr (Or.inr (Or.inr (Or.inr (Or.inr (Or.inr (Or.inr (Or.inr (Or.inr (Or.inr (Or.inl ⟨by grind [upd], rfl⟩)))))))))) | exact Or.inr (Or.inr (Or.inr (Or.inr (Or.inr (Or.inr (Or.inr (Or.inr (Or.inr (Or.inr (Or.inr (Or.inr (Or.inl ⟨by grind [upd], rfl⟩)))))))))))) | exact Or.inr (Or.inr (Or.inr (Or.inr (Or.inr (Or.inr (Or.inr (Or.inr (Or.inr (Or.inr (Or.inr (Or.inr (Or.inr (Or.inl ⟨by grind [upd], rfl⟩))))))))))))) | exact Or.inr (Or.inr (Or.inr (Or.inr (Or.inr (Or.inr (Or.inr (Or.inr (Or.inr (Or.inr (Or.inr (Or.inr (Or.inr (Or.inr (Or.inr (⟨by grind [upd], rfl⟩)))))))))))))))
          by_cases t4 : I 3108 = 141
          · refine xr_lookup (tgt := 196) (off := 110) D_Rd_obey_86 (by decide) (by rw [t4]; rfl) rfl ?_
            refine xr_aload_n D_Rd_obey_196 rfl rfl ?_
            refine xr_cVx (as := []) (c_Rd_obeyPush_31) (L_Rd_110) (CD_Rd_obeyPush) CI_Rd D_Rd_obey_197 rfl rfl (by decide) (Nat.le_of_ble_eq_true rfl) (Nat.le_of_eq (Nat.zero_add _)) (Nat.le_of_eq (Nat.zero_add _)) pic_len ?_
            intro o9 ho9
            obtain ⟨x9, I9, A9, rfl⟩ := s_Rd_obeyPush ho9
            refine ⟨_, _, rfl, rfl, ?_⟩
            refine xr_iret rfl D_Rd_obey_200 ?_
            exact Or.inr (Or.inr (Or.inr (Or.inr (Or.inr (Or.inr (Or.inr (Or.inr (Or.inl ⟨by grind [upd], ho9⟩))))))))
          by_cases t5 : I 3108 = 142
          · refine xr_lookup (tgt := 201) (off := 115) D_Rd_obey_86 (by decide) (by rw [t5]; rfl) rfl ?_
            refine xr_aload_n D_Rd_obey_201 rfl rfl ?_
            refine xr_cVx (as := []) (c_Rd_obeyPop_31) (L_Rd_113) (CD_Rd_obeyPop) CI_Rd D_Rd_obey_202 rfl rfl (by decide) (Nat.le_of_ble_eq_true rfl) (Nat.le_of_eq (Nat.zero_add _)) (Nat.le_of_eq (Nat.zero_add _)) pic_len ?_
            intro o9 ho9
            obtain ⟨x9, I9, A9, rfl⟩ := s_Rd_obeyPop ho9
            refine ⟨_, _, rfl, rfl, ?_⟩
            refine xr_iret rfl D_Rd_obey_205 ?_
            exact Or.inr (Or.inr (Or.inr (Or.inr (Or.inr (Or.inr (Or.inr (Or.inr (Or.inr (Or.inl ⟨by grind [upd], ho9⟩)))))))))
          by_cases t6 : I 3108 = 247
          · refine xr_lookup (tgt := 206) (off := 120) D_Rd_obey_86 (by decide) (by rw [t6]; rfl) rfl ?_
            refine xr_aload_n D_Rd_obey_206 rfl rfl ?_
            refine xr_iconst (v := 1) D_Rd_obey_207 rfl ?_
            refine xr_putf F_Rd_35 FT_Rd FN_Rd_6 D_Rd_obey_208 rfl (Nat.le_of_ble_eq_true rfl) rfl rfl (pset_31_6) ?_
            refine xr_aload_n D_Rd_obey_211 rfl rfl ?_
            refine xr_getf F_Rd_26 D_Rd_obey_212 rfl rfl ?_
            refine xr_aload_n D_Rd_obey_215 rfl rfl ?_
            refine xr_getf F_Rd_18 D_Rd_obey_216 rfl rfl ?_
            refine xr_aload_n D_Rd_obey_219 rfl rfl ?_
            refine xr_getf F_Rd_39 D_Rd_obey_220 rfl rfl ?_
            refine xr_bipush (v := 10) D_Rd_obey_223 rfl ?_
            refine xr_iadd D_Rd_obey_225 ?_
            refine xr_iconst (v := 4) D_Rd_obey_226 rfl ?_
            refine xr_cVx (as := [_, _]) (c_By_number_22 4 rfl (by decide)) (L_Rd_88) (CD_By_number) CI_By D_Rd_obey_227 rfl rfl (by decide) (Nat.le_of_ble_eq_true rfl) (Nat.le_of_eq (Nat.zero_add _)) (Nat.le_of_eq (Nat.zero_add _)) pic_len ?_
            rintro _ rfl
            refine ⟨_, _, rfl, rfl, ?_⟩
            refine xr_putf F_Rd_116 FT_Rg FN_Rg_8 D_Rd_obey_230 rfl (Nat.le_of_ble_eq_true rfl) rfl rfl (pset_24_8) ?_
            refine xr_iconst (v := 0) D_Rd_obey_233 rfl ?_
            refine xr_iret rfl D_Rd_obey_234 ?_
            first | exact Or.inl ⟨by grind [upd], rfl⟩ | exact Or.inr (Or.inr (Or.inr (Or.inr (Or.inr (Or.inr (Or.inl ⟨by grind [upd], rfl⟩)))))) | exact Or.inr (Or.inr (Or.inr (Or.inr (Or.inr (Or.inr (Or.inr (Or.inl ⟨by grind [upd], rfl⟩))))))) | exact Or.inr (Or.inr (Or.inr (Or.inr (Or.inr (Or.inr (Or.inr (Or.inr (Or.inr (Or.inr (Or.inl ⟨by grind [upd], rfl⟩)))))))))) | exact Or.inr (Or.inr (Or.inr (Or.inr (Or.inr (Or.inr (Or.inr (Or.inr (Or.inr (Or.inr (Or.inr (Or.inr (Or.inl ⟨by grind [upd], rfl⟩)))))))))))) | exact Or.inr (Or.inr (Or.inr (Or.inr (Or.inr (Or.inr (Or.inr (Or.inr (Or.inr (Or.inr (Or.inr (Or.inr (Or.inr (Or.inl ⟨by grind [upd], rfl⟩))))))))))))) | exact Or.inr (Or.inr (Or.inr (Or.inr (Or.inr (Or.inr (Or.inr (Or.inr (Or.inr (Or.inr (Or.inr (Or.inr (Or.inr (Or.inr (Or.inr (⟨by grind [upd], rfl⟩)))))))))))))))
          by_cases t7 : I 3108 = 248
          · refine xr_lookup (tgt := 235) (off := 149) D_Rd_obey_86 (by decide) (by rw [t7]; rfl) rfl ?_
            refine xr_aload_n D_Rd_obey_235 rfl rfl ?_
            refine xr_cVx (as := []) (c_Rd_obeyLast_31) (L_Rd_119) (CD_Rd_obeyLast) CI_Rd D_Rd_obey_236 rfl rfl (by decide) (Nat.le_of_ble_eq_true rfl) (Nat.le_of_eq (Nat.zero_add _)) (Nat.le_of_eq (Nat.zero_add _)) pic_len ?_
            intro o9 ho9
            obtain ⟨x9, I9, A9, rfl⟩ := s_Rd_obeyLast ho9
            refine ⟨_, _, rfl, rfl, ?_⟩
            refine xr_iret rfl D_Rd_obey_239 ?_
            exact Or.inr (Or.inr (Or.inr (Or.inr (Or.inr (Or.inr (Or.inr (Or.inr (Or.inr (Or.inr (Or.inr (Or.inl ⟨by grind [upd], ho9⟩)))))))))))
          by_cases t8 : I 3108 = 249
          · refine xr_lookup (tgt := 240) (off := 154) D_Rd_obey_86 (by decide) (by rw [t8]; rfl) rfl ?_
            refine xr_aload_n D_Rd_obey_240 rfl rfl ?_
            refine xr_iconst (v := 4) D_Rd_obey_241 rfl ?_
            refine xr_putf F_Rd_35 FT_Rd FN_Rd_6 D_Rd_obey_242 rfl (Nat.le_of_ble_eq_true rfl) rfl rfl (pset_31_6) ?_
            refine xr_aload_n D_Rd_obey_245 rfl rfl ?_
            refine xr_getf F_Rd_18 D_Rd_obey_246 rfl rfl ?_
            refine xr_aload_n D_Rd_obey_249 rfl rfl ?_
            refine xr_getf F_Rd_39 D_Rd_obey_250 rfl rfl ?_
            refine xr_iconst (v := 1) D_Rd_obey_253 rfl ?_
            refine xr_iadd D_Rd_obey_254 ?_
            refine xr_iconst (v := 4) D_Rd_obey_255 rfl ?_
            refine xr_cVx (as := [_, _]) (c_By_number_22 4 rfl (by decide)) (L_Rd_88) (CD_By_number) CI_By D_Rd_obey_256 rfl rfl (by decide) (Nat.le_of_ble_eq_true rfl) (Nat.le_of_eq (Nat.zero_add _)) (Nat.le_of_eq (Nat.zero_add _)) pic_len ?_
            rintro _ rfl
            refine ⟨_, _, rfl, rfl, ?_⟩
            refine xr_aload_n D_Rd_obey_259 rfl rfl ?_
            refine xr_getf F_Rd_122 D_Rd_obey_260 rfl rfl ?_
            refine xr_icmp_ne (tgt := 270) D_Rd_obey_263 rfl (fun c6 => ?_) (fun c6 => ?_)
            · refine xr_iconst (v := 5) D_Rd_obey_270 rfl ?_
              refine xr_iret rfl D_Rd_obey_271 ?_
              first | exact Or.inl ⟨by grind [upd], rfl⟩ | exact Or.inr (Or.inr (Or.inr (Or.inr (Or.inr (Or.inr (Or.inl ⟨by grind [upd], rfl⟩)))))) | exact Or.inr (Or.inr (Or.inr (Or.inr (Or.inr (Or.inr (Or.inr (Or.inl ⟨by grind [upd], rfl⟩))))))) | exact Or.inr (Or.inr (Or.inr (Or.inr (Or.inr (Or.inr (Or.inr (Or.inr (Or.inr (Or.inr (Or.inl ⟨by grind [upd], rfl⟩)))))))))) | exact Or.inr (Or.inr (Or.inr (Or.inr (Or.inr (Or.inr (Or.inr (Or.inr (Or.inr (Or.inr (Or.inr (Or.inr (Or.inl ⟨by grind [upd], rfl⟩)))))))))))) | exact Or.inr (Or.inr (Or.inr (Or.inr (Or.inr (Or.inr (Or.inr (Or.inr (Or.inr (Or.inr (Or.inr (Or.inr (Or.inr (Or.inl ⟨by grind [upd], rfl⟩))))))))))))) | exact Or.inr (Or.inr (Or.inr (Or.inr (Or.inr (Or.inr (Or.inr (Or.inr (Or.inr (Or.inr (Or.inr (Or.inr (Or.inr (Or.inr (Or.inr (⟨by grind [upd], rfl⟩)))))))))))))))
            · refine xr_iconst (v := 0) D_Rd_obey_266 rfl ?_
              refine xr_goto (tgt := 271) D_Rd_obey_267 rfl ?_
              refine xr_iret rfl D_Rd_obey_271 ?_
              first | exact Or.inl ⟨by grind [upd], rfl⟩ | exact Or.inr (Or.inr (Or.inr (Or.inr (Or.inr (Or.inr (Or.inl ⟨by grind [upd], rfl⟩)))))) | exact Or.inr (Or.inr (Or.inr (Or.inr (Or.inr (Or.inr (Or.inr (Or.inl ⟨by grind [upd], rfl⟩))))))) | exact Or.inr (Or.inr (Or.inr (Or.inr (Or.inr (Or.inr (Or.inr (Or.inr (Or.inr (Or.inr (Or.inl ⟨by grind [upd], rfl⟩)))))))))) | exact Or.inr (Or.inr (Or.inr (Or.inr (Or.inr (Or.inr (Or.inr (Or.inr (Or.inr (Or.inr (Or.inr (Or.inr (Or.inl ⟨by grind [upd], rfl⟩)))))))))))) | exact Or.inr (Or.inr (Or.inr (Or.inr (Or.inr (Or.inr (Or.inr (Or.inr (Or.inr (Or.inr (Or.inr (Or.inr (Or.inr (Or.inl ⟨by grind [upd], rfl⟩))))))))))))) | exact Or.inr (Or.inr (Or.inr (Or.inr (Or.inr (Or.inr (Or.inr (Or.inr (Or.inr (Or.inr (Or.inr (Or.inr (Or.inr (Or.inr (Or.inr (⟨by grind [upd], rfl⟩)))))))))))))))
          refine xr_lookup (tgt := 272) (off := 186) D_Rd_obey_86 (by decide) (lk_df (by simp only [List.forall_mem_cons]; exact ⟨fun e => t0 (i_eq.mpr e), fun e => t1 (i_eq.mpr e), fun e => t2 (i_eq.mpr e), fun e => t3 (i_eq.mpr e), fun e => t4 (i_eq.mpr e), fun e => t5 (i_eq.mpr e), fun e => t6 (i_eq.mpr e), fun e => t7 (i_eq.mpr e), fun e => t8 (i_eq.mpr e), fun _ h => absurd h List.not_mem_nil⟩)) rfl ?_
          refine xr_aload_n D_Rd_obey_272 rfl rfl ?_
          refine xr_getf F_Rd_57 D_Rd_obey_273 rfl rfl ?_
          refine xr_sipush (v := 136) D_Rd_obey_276 rfl ?_
          refine xr_icmp_gt (tgt := 289) D_Rd_obey_279 rfl (fun c7 => ?_) (fun c7 => ?_)
          · refine xr_iconst (v := 0) D_Rd_obey_289 rfl ?_
            refine xr_iret rfl D_Rd_obey_290 ?_
            exact Or.inr (Or.inr (Or.inr (Or.inr (Or.inr (Or.inr (Or.inr (Or.inr (Or.inr (Or.inr (Or.inr (Or.inr (Or.inr (Or.inr (Or.inr (⟨by grind [upd], rfl⟩)))))))))))))))
          · refine xr_aload_n D_Rd_obey_282 rfl rfl ?_
            refine xr_cVx (as := []) (c_Rd_obeyCharacter_31 hw hk) (L_Rd_125) (CD_Rd_obeyCharacter) CI_Rd D_Rd_obey_283 rfl rfl (by decide) (Nat.le_of_ble_eq_true rfl) (Nat.le_of_eq (Nat.zero_add _)) (Nat.le_of_eq (Nat.zero_add _)) pic_len ?_
            intro o9 ho9
            obtain ⟨x9, I9, A9, rfl⟩ := s_Rd_obeyCharacter ho9
            refine ⟨_, _, rfl, rfl, ?_⟩
            refine xr_goto (tgt := 290) D_Rd_obey_286 rfl ?_
            refine xr_iret rfl D_Rd_obey_290 ?_
            exact Or.inr (Or.inr (Or.inr (Or.inr (Or.inr (Or.inr (Or.inr (Or.inr (Or.inr (Or.inr (Or.inr (Or.inr (Or.inr (Or.inr (Or.inl ⟨by grind [upd], ho9⟩))))))))))))))
        · rw [b2_n] at c4
          refine xr_aload_n D_Rd_obey_77 rfl rfl ?_
          refine xr_cVx (as := []) (c_Rd_obeyDefinition_31 hw hk hf0 hf1 hN) (L_Rd_98) (CD_Rd_obeyDefinition) CI_Rd D_Rd_obey_78 rfl rfl (by decide) (Nat.le_of_ble_eq_true rfl) (Nat.le_of_eq (Nat.zero_add _)) (Nat.le_of_eq (Nat.zero_add _)) pic_len ?_
          intro o9 ho9
          obtain ⟨x9, I9, A9, rfl⟩ := s_Rd_obeyDefinition ho9
          refine ⟨_, _, rfl, rfl, ?_⟩
          refine xr_iret rfl D_Rd_obey_81 ?_
          exact Or.inr (Or.inr (Or.inr (Or.inl ⟨by grind [upd], ho9⟩)))
      · refine xr_aload_n D_Rd_obey_55 rfl rfl ?_
        refine xr_getf F_Rd_57 D_Rd_obey_56 rfl rfl ?_
        refine xr_sipush (v := 238) D_Rd_obey_59 rfl ?_
        refine xr_icmp_gt (tgt := 70) D_Rd_obey_62 rfl (fun c4 => ?_) (fun c4 => ?_)
        · refine xr_aload_n D_Rd_obey_70 rfl rfl ?_
          refine xr_cVx (as := []) (c_Rd_isDefinition_31) (L_Rd_85) (CD_Rd_isDefinition) CI_Rd D_Rd_obey_71 rfl rfl (by decide) (Nat.le_of_ble_eq_true rfl) (Nat.le_of_eq (Nat.zero_add _)) (Nat.le_of_eq (Nat.zero_add _)) pic_len ?_
          rintro _ rfl
          refine ⟨_, _, rfl, rfl, ?_⟩
          refine xr_if_eq (tgt := 82) D_Rd_obey_74 rfl (fun c5 => ?_) (fun c5 => ?_)
          · rw [b2_0] at c5
            refine xr_aload_n D_Rd_obey_82 rfl rfl ?_
            refine xr_getf F_Rd_57 D_Rd_obey_83 rfl rfl ?_
            by_cases t0 : I 3108 = 132
            · refine xr_lookup (tgt := 168) (off := 82) D_Rd_obey_86 (by decide) (by rw [t0]; rfl) rfl ?_
              refine xr_aload_n D_Rd_obey_168 rfl rfl ?_
              refine xr_cVx (as := []) (c_Rd_obeyRule_31) (L_Rd_101) (CD_Rd_obeyRule) CI_Rd D_Rd_obey_169 rfl rfl (by decide) (Nat.le_of_ble_eq_true rfl) (Nat.le_of_eq (Nat.zero_add _)) (Nat.le_of_eq (Nat.zero_add _)) pic_len ?_
              intro o9 ho9
              obtain ⟨x9, I9, A9, rfl⟩ := s_Rd_obeyRule ho9
              refine ⟨_, _, rfl, rfl, ?_⟩
              refine xr_iret rfl D_Rd_obey_172 ?_
              exact Or.inr (Or.inr (Or.inr (Or.inr (Or.inl ⟨by grind [upd], ho9⟩))))
            by_cases t1 : I 3108 = 137
            · refine xr_lookup (tgt := 168) (off := 82) D_Rd_obey_86 (by decide) (by rw [t1]; rfl) rfl ?_
              refine xr_aload_n D_Rd_obey_168 rfl rfl ?_
              refine xr_cVx (as := []) (c_Rd_obeyRule_31) (L_Rd_101) (CD_Rd_obeyRule) CI_Rd D_Rd_obey_169 rfl rfl (by decide) (Nat.le_of_ble_eq_true rfl) (Nat.le_of_eq (Nat.zero_add _)) (Nat.le_of_eq (Nat.zero_add _)) pic_len ?_
              intro o9 ho9
              obtain ⟨x9, I9, A9, rfl⟩ := s_Rd_obeyRule ho9
              refine ⟨_, _, rfl, rfl, ?_⟩
              refine xr_iret rfl D_Rd_obey_172 ?_
              exact Or.inr (Or.inr (Or.inr (Or.inr (Or.inl ⟨by grind [upd], ho9⟩))))
            by_cases t2 : I 3108 = 139
            · refine xr_lookup (tgt := 173) (off := 87) D_Rd_obey_86 (by decide) (by rw [t2]; rfl) rfl ?_
              refine xr_aload_n D_Rd_obey_173 rfl rfl ?_
              refine xr_cVx (as := []) (c_Rd_obeyBegin_31) (L_Rd_104) (CD_Rd_obeyBegin) CI_Rd D_Rd_obey_174 rfl rfl (by decide) (Nat.le_of_ble_eq_true rfl) (Nat.le_of_eq (Nat.zero_add _)) (Nat.le_of_eq (Nat.zero_add _)) pic_len ?_
              intro o9 ho9
              obtain ⟨x9, I9, A9, rfl⟩ := s_Rd_obeyBegin ho9
              refine ⟨_, _, rfl, rfl, ?_⟩
              refine xr_iret rfl D_Rd_obey_177 ?_
              exact Or.inr (Or.inr (Or.inr (Or.inr (Or.inr (Or.inl ⟨by grind [upd], ho9⟩)))))
            by_cases t3 : I 3108 = 140
            · refine xr_lookup (tgt := 178) (off := 92) D_Rd_obey_86 (by decide) (by rw [t3]; rfl) rfl ?_
              refine xr_aload_n D_Rd_obey_178 rfl rfl ?_
              refine xr_iconst (v := 1) D_Rd_obey_179 rfl ?_
              refine xr_putf F_Rd_35 FT_Rd FN_Rd_6 D_Rd_obey_180 rfl (Nat.le_of_ble_eq_true rfl) rfl rfl (pset_31_6) ?_
              refine xr_aload_n D_Rd_obey_183 rfl rfl ?_
              refine xr_getf F_Rd_107 D_Rd_obey_184 rfl rfl ?_
              refine xr_if_le (tgt := 194) D_Rd_obey_187 rfl (fun c6 => ?_) (fun c6 => ?_)
              · refine xr_iconst (v := 0) D_Rd_obey_194 rfl ?_
                refine xr_iret rfl D_Rd_obey_195 ?_
                first | exact Or.inl ⟨by grind [upd], rfl⟩ | exact Or.inr (Or.inr (Or.inr (Or.inr (Or.inr (Or.inr (Or.inl ⟨by grind [upd], rfl⟩)))))) | exact Or.inr (Or.inr (Or.inr (Or.inr (Or.inr (Or.inr (Or.inr (Or.inl ⟨by grind [upd], rfl⟩))))))) | exact Or.inr (Or.inr (Or.inr (Or.inr (Or.inr (Or.inr (Or.inr (Or.inr (Or.inr (Or.inr (Or.inl ⟨by grind [upd], rfl⟩)))))))))) | exact Or.inr (Or.inr (Or.inr (Or.inr (Or.inr (Or.inr (Or.inr (Or.inr (Or.inr (Or.inr (Or.inr (Or.inr (Or.inl ⟨by grind [upd], rfl⟩)))))))))))) | exact Or.inr (Or.inr (Or.inr (Or.inr (Or.inr (Or.inr (Or.inr (Or.inr (Or.inr (Or.inr (Or.inr (Or.inr (Or.inr (Or.inl ⟨by grind [upd], rfl⟩))))))))))))) | exact Or.inr (Or.inr (Or.inr (Or.inr (Or.inr (Or.inr (Or.inr (Or.inr (Or.inr (Or.inr (Or.inr (Or.inr (Or.inr (Or.inr (Or.inr (⟨by grind [upd], rfl⟩)))))))))))))))
              · refine xr_iconst (v := 4) D_Rd_obey_190 rfl ?_
                refine xr_goto (tgt := 195) D_Rd_obey_191 rfl ?_
                refine xr_iret rfl D_Rd_obey_195 ?_
                first | exact Or.inl ⟨by grind [upd], rfl⟩ | exact Or.inr (Or.inr (Or.inr (Or.inr (Or.inr (Or.inr (Or.inl ⟨by grind [upd], rfl⟩)))))) | exact Or.inr (Or.inr (Or.inr (Or.inr (Or.inr (Or.inr (Or.inr (Or.inl ⟨by grind [upd], rfl⟩))))))) | exact Or.inr (Or.inr (Or.inr (Or.inr (Or.inr (Or.inr (Or.inr (Or.inr (Or.inr (Or.inr (Or.inl ⟨by grind [upd], rfl⟩)))))))))) | exact Or.inr (Or.inr (Or.inr (Or.inr (Or.inr (Or.inr (Or.inr (Or.inr (Or.inr (Or.inr (Or.inr (Or.inr (Or.inl ⟨by grind [upd], rfl⟩)))))))))))) | exact Or.inr (Or.inr (Or.inr (Or.inr (Or.inr (Or.inr (Or.inr (Or.inr (Or.inr (Or.inr (Or.inr (Or.inr (Or.inr (Or.inl ⟨by grind [upd], rfl⟩))))))))))))) | exact Or.inr (Or.inr (Or.inr (Or.inr (Or.inr (Or.inr (Or.inr (Or.inr (Or.inr (Or.inr (Or.inr (Or.inr (Or.inr (Or.inr (Or.inr (⟨by grind [upd], rfl⟩)))))))))))))))
            by_cases t4 : I 3108 = 141
            · refine xr_lookup (tgt := 196) (off := 110) D_Rd_obey_86 (by decide) (by rw [t4]; rfl) rfl ?_
              refine xr_aload_n D_Rd_obey_196 rfl rfl ?_
              refine xr_cVx (as := []) (c_Rd_obeyPush_31) (L_Rd_110) (CD_Rd_obeyPush) CI_Rd D_Rd_obey_197 rfl rfl (by decide) (Nat.le_of_ble_eq_true rfl) (Nat.le_of_eq (Nat.zero_add _)) (Nat.le_of_eq (Nat.zero_add _)) pic_len ?_
              intro o9 ho9
              obtain ⟨x9, I9, A9, rfl⟩ := s_Rd_obeyPush ho9
              refine ⟨_, _, rfl, rfl, ?_⟩
              refine xr_iret rfl D_Rd_obey_200 ?_
              exact Or.inr (Or.inr (Or.inr (Or.inr (Or.inr (Or.inr (Or.inr (Or.inr (Or.inl ⟨by grind [upd], ho9⟩))))))))
            by_cases t5 : I 3108 = 142
            · refine xr_lookup (tgt := 201) (off := 115) D_Rd_obey_86 (by decide) (by rw [t5]; rfl) rfl ?_
              refine xr_aload_n D_Rd_obey_201 rfl rfl ?_
              refine xr_cVx (as := []) (c_Rd_obeyPop_31) (L_Rd_113) (CD_Rd_obeyPop) CI_Rd D_Rd_obey_202 rfl rfl (by decide) (Nat.le_of_ble_eq_true rfl) (Nat.le_of_eq (Nat.zero_add _)) (Nat.le_of_eq (Nat.zero_add _)) pic_len ?_
              intro o9 ho9
              obtain ⟨x9, I9, A9, rfl⟩ := s_Rd_obeyPop ho9
              refine ⟨_, _, rfl, rfl, ?_⟩
              refine xr_iret rfl D_Rd_obey_205 ?_
              exact Or.inr (Or.inr (Or.inr (Or.inr (Or.inr (Or.inr (Or.inr (Or.inr (Or.inr (Or.inl ⟨by grind [upd], ho9⟩)))))))))
            by_cases t6 : I 3108 = 247
            · refine xr_lookup (tgt := 206) (off := 120) D_Rd_obey_86 (by decide) (by rw [t6]; rfl) rfl ?_
              refine xr_aload_n D_Rd_obey_206 rfl rfl ?_
              refine xr_iconst (v := 1) D_Rd_obey_207 rfl ?_
              refine xr_putf F_Rd_35 FT_Rd FN_Rd_6 D_Rd_obey_208 rfl (Nat.le_of_ble_eq_true rfl) rfl rfl (pset_31_6) ?_
              refine xr_aload_n D_Rd_obey_211 rfl rfl ?_
              refine xr_getf F_Rd_26 D_Rd_obey_212 rfl rfl ?_
              refine xr_aload_n D_Rd_obey_215 rfl rfl ?_
              refine xr_getf F_Rd_18 D_Rd_obey_216 rfl rfl ?_
              refine xr_aload_n D_Rd_obey_219 rfl rfl ?_
              refine xr_getf F_Rd_39 D_Rd_obey_220 rfl rfl ?_
              refine xr_bipush (v := 10) D_Rd_obey_223 rfl ?_
              refine xr_iadd D_Rd_obey_225 ?_
              refine xr_iconst (v := 4) D_Rd_obey_226 rfl ?_
              refine xr_cVx (as := [_, _]) (c_By_number_22 4 rfl (by decide)) (L_Rd_88) (CD_By_number) CI_By D_Rd_obey_227 rfl rfl (by decide) (Nat.le_of_ble_eq_true rfl) (Nat.le_of_eq (Nat.zero_add _)) (Nat.le_of_eq (Nat.zero_add _)) pic_len ?_
              rintro _ rfl
              refine ⟨_, _, rfl, rfl, ?_⟩
              refine xr_putf F_Rd_116 FT_Rg FN_Rg_8 D_Rd_obey_230 rfl (Nat.le_of_ble_eq_true rfl) rfl rfl (pset_24_8) ?_
              refine xr_iconst (v := 0) D_Rd_obey_233 rfl ?_
              refine xr_iret rfl D_Rd_obey_234 ?_
              first | exact Or.inl ⟨by grind [upd], rfl⟩ | exact Or.inr (Or.inr (Or.inr (Or.inr (Or.inr (Or.inr (Or.inl ⟨by grind [upd], rfl⟩)))))) | exact Or.inr (Or.inr (Or.inr (Or.inr (Or.inr (Or.inr (Or.inr (Or.inl ⟨by grind [upd], rfl⟩))))))) | exact Or.inr (Or.inr (Or.inr (Or.inr (Or.inr (Or.inr (Or.inr (Or.inr (Or.inr (Or.inr (Or.inl ⟨by grind [upd], rfl⟩)))))))))) | exact Or.inr (Or.inr (Or.inr (Or.inr (Or.inr (Or.inr (Or.inr (Or.inr (Or.inr (Or.inr (Or.inr (Or.inr (Or.inl ⟨by grind [upd], rfl⟩)))))))))))) | exact Or.inr (Or.inr (Or.inr (Or.inr (Or.inr (Or.inr (Or.inr (Or.inr (Or.inr (Or.inr (Or.inr (Or.inr (Or.inr (Or.inl ⟨by grind [upd], rfl⟩))))))))))))) | exact Or.inr (Or.inr (Or.inr (Or.inr (Or.inr (Or.inr (Or.inr (Or.inr (Or.inr (Or.inr (Or.inr (Or.inr (Or.inr (Or.inr (Or.inr (⟨by grind [upd], rfl⟩)))))))))))))))
            by_cases t7 : I 3108 = 248
            · refine xr_lookup (tgt := 235) (off := 149) D_Rd_obey_86 (by decide) (by rw [t7]; rfl) rfl ?_
              refine xr_aload_n D_Rd_obey_235 rfl rfl ?_
              refine xr_cVx (as := []) (c_Rd_obeyLast_31) (L_Rd_119) (CD_Rd_obeyLast) CI_Rd D_Rd_obey_236 rfl rfl (by decide) (Nat.le_of_ble_eq_true rfl) (Nat.le_of_eq (Nat.zero_add _)) (Nat.le_of_eq (Nat.zero_add _)) pic_len ?_
              intro o9 ho9
              obtain ⟨x9, I9, A9, rfl⟩ := s_Rd_obeyLast ho9
              refine ⟨_, _, rfl, rfl, ?_⟩
              refine xr_iret rfl D_Rd_obey_239 ?_
              exact Or.inr (Or.inr (Or.inr (Or.inr (Or.inr (Or.inr (Or.inr (Or.inr (Or.inr (Or.inr (Or.inr (Or.inl ⟨by grind [upd], ho9⟩)))))))))))
            by_cases t8 : I 3108 = 249
            · refine xr_lookup (tgt := 240) (off := 154) D_Rd_obey_86 (by decide) (by rw [t8]; rfl) rfl ?_
              refine xr_aload_n D_Rd_obey_240 rfl rfl ?_
              refine xr_iconst (v := 4) D_Rd_obey_241 rfl ?_
              refine xr_putf F_Rd_35 FT_Rd FN_Rd_6 D_Rd_obey_242 rfl (Nat.le_of_ble_eq_true rfl) rfl rfl (pset_31_6) ?_
              refine xr_aload_n D_Rd_obey_245 rfl rfl ?_
              refine xr_getf F_Rd_18 D_Rd_obey_246 rfl rfl ?_
              refine xr_aload_n D_Rd_obey_249 rfl rfl ?_
              refine xr_getf F_Rd_39 D_Rd_obey_250 rfl rfl ?_
              refine xr_iconst (v := 1) D_Rd_obey_253 rfl ?_
              refine xr_iadd D_Rd_obey_254 ?_
              refine xr_iconst (v := 4) D_Rd_obey_255 rfl ?_
              refine xr_cVx (as := [_, _]) (c_By_number_22 4 rfl (by decide)) (L_Rd_88) (CD_By_number) CI_By D_Rd_obey_256 rfl rfl (by decide) (Nat.le_of_ble_eq_true rfl) (Nat.le_of_eq (Nat.zero_add _)) (Nat.le_of_eq (Nat.zero_add _)) pic_len ?_
              rintro _ rfl
              refine ⟨_, _, rfl, rfl, ?_⟩
              refine xr_aload_n D_Rd_obey_259 rfl rfl ?_
              refine xr_getf F_Rd_122 D_Rd_obey_260 rfl rfl ?_
              refine xr_icmp_ne (tgt := 270) D_Rd_obey_263 rfl (fun c7 => ?_) (fun c7 => ?_)
              · refine xr_iconst (v := 5) D_Rd_obey_270 rfl ?_
                refine xr_iret rfl D_Rd_obey_271 ?_
                first | exact Or.inl ⟨by grind [upd], rfl⟩ | exact Or.inr (Or.inr (Or.inr (Or.inr (Or.inr (Or.inr (Or.inl ⟨by grind [upd], rfl⟩)))))) | exact Or.inr (Or.inr (Or.inr (Or.inr (Or.inr (Or.inr (Or.inr (Or.inl ⟨by grind [upd], rfl⟩))))))) | exact Or.inr (Or.inr (Or.inr (Or.inr (Or.inr (Or.inr (Or.inr (Or.inr (Or.inr (Or.inr (Or.inl ⟨by grind [upd], rfl⟩)))))))))) | exact Or.inr (Or.inr (Or.inr (Or.inr (Or.inr (Or.inr (Or.inr (Or.inr (Or.inr (Or.inr (Or.inr (Or.inr (Or.inl ⟨by grind [upd], rfl⟩)))))))))))) | exact Or.inr (Or.inr (Or.inr (Or.inr (Or.inr (Or.inr (Or.inr (Or.inr (Or.inr (Or.inr (Or.inr (Or.inr (Or.inr (Or.inl ⟨by grind [upd], rfl⟩))))))))))))) | exact Or.inr (Or.inr (Or.inr (Or.inr (Or.inr (Or.inr (Or.inr (Or.inr (Or.inr (Or.inr (Or.inr (Or.inr (Or.inr (Or.inr (Or.inr (⟨by grind [upd], rfl⟩)))))))))))))))
              · refine xr_iconst (v := 0) D_Rd_obey_266 rfl ?_
                refine xr_goto (tgt := 271) D_Rd_obey_267 rfl ?_
                refine xr_iret rfl D_Rd_obey_271 ?_
                first | exact Or.inl ⟨by grind [upd], rfl⟩ | exact Or.inr (Or.inr (Or.inr (Or.inr (Or.inr (Or.inr (Or.inl ⟨by grind [upd], rfl⟩)))))) | exact Or.inr (Or.inr (Or.inr (Or.inr (Or.inr (Or.inr (Or.inr (Or.inl ⟨by grind [upd], rfl⟩))))))) | exact Or.inr (Or.inr (Or.inr (Or.inr (Or.inr (Or.inr (Or.inr (Or.inr (Or.inr (Or.inr (Or.inl ⟨by grind [upd], rfl⟩)))))))))) | exact Or.inr (Or.inr (Or.inr (Or.inr (Or.inr (Or.inr (Or.inr (Or.inr (Or.inr (Or.inr (Or.inr (Or.inr (Or.inl ⟨by grind [upd], rfl⟩)))))))))))) | exact Or.inr (Or.inr (Or.inr (Or.inr (Or.inr (Or.inr (Or.inr (Or.inr (Or.inr (Or.inr (Or.inr (Or.inr (Or.inr (Or.inl ⟨by grind [upd], rfl⟩))))))))))))) | exact Or.inr (Or.inr (Or.inr (Or.inr (Or.inr (Or.inr (Or.inr (Or.inr (Or.inr (Or.inr (Or.inr (Or.inr (Or.inr (Or.inr (Or.inr (⟨by grind [upd], rfl⟩)))))))))))))))
            refine xr_lookup (tgt := 272) (off := 186) D_Rd_obey_86 (by decide) (lk_df (by simp only [List.forall_mem_cons]; exact ⟨fun e => t0 (i_eq.mpr e), fun e => t1 (i_eq.mpr e), fun e => t2 (i_eq.mpr e), fun e => t3 (i_eq.mpr e), fun e => t4 (i_eq.mpr e), fun e => t5 (i_eq.mpr e), fun e => t6 (i_eq.mpr e), fun e => t7 (i_eq.mpr e), fun e => t8 (i_eq.mpr e), fun _ h => absurd h List.not_mem_nil⟩)) rfl ?_
            refine xr_aload_n D_Rd_obey_272 rfl rfl ?_
            refine xr_getf F_Rd_57 D_Rd_obey_273 rfl rfl ?_
            refine xr_sipush (v := 136) D_Rd_obey_276 rfl ?_
            refine xr_icmp_gt (tgt := 289) D_Rd_obey_279 rfl (fun c8 => ?_) (fun c8 => ?_)
            · refine xr_iconst (v := 0) D_Rd_obey_289 rfl ?_
              refine xr_iret rfl D_Rd_obey_290 ?_
              exact Or.inr (Or.inr (Or.inr (Or.inr (Or.inr (Or.inr (Or.inr (Or.inr (Or.inr (Or.inr (Or.inr (Or.inr (Or.inr (Or.inr (Or.inr (⟨by grind [upd], rfl⟩)))))))))))))))
            · refine xr_aload_n D_Rd_obey_282 rfl rfl ?_
              refine xr_cVx (as := []) (c_Rd_obeyCharacter_31 hw hk) (L_Rd_125) (CD_Rd_obeyCharacter) CI_Rd D_Rd_obey_283 rfl rfl (by decide) (Nat.le_of_ble_eq_true rfl) (Nat.le_of_eq (Nat.zero_add _)) (Nat.le_of_eq (Nat.zero_add _)) pic_len ?_
              intro o9 ho9
              obtain ⟨x9, I9, A9, rfl⟩ := s_Rd_obeyCharacter ho9
              refine ⟨_, _, rfl, rfl, ?_⟩
              refine xr_goto (tgt := 290) D_Rd_obey_286 rfl ?_
              refine xr_iret rfl D_Rd_obey_290 ?_
              exact Or.inr (Or.inr (Or.inr (Or.inr (Or.inr (Or.inr (Or.inr (Or.inr (Or.inr (Or.inr (Or.inr (Or.inr (Or.inr (Or.inr (Or.inl ⟨by grind [upd], ho9⟩))))))))))))))
          · rw [b2_n] at c5
            refine xr_aload_n D_Rd_obey_77 rfl rfl ?_
            refine xr_cVx (as := []) (c_Rd_obeyDefinition_31 hw hk hf0 hf1 hN) (L_Rd_98) (CD_Rd_obeyDefinition) CI_Rd D_Rd_obey_78 rfl rfl (by decide) (Nat.le_of_ble_eq_true rfl) (Nat.le_of_eq (Nat.zero_add _)) (Nat.le_of_eq (Nat.zero_add _)) pic_len ?_
            intro o9 ho9
            obtain ⟨x9, I9, A9, rfl⟩ := s_Rd_obeyDefinition ho9
            refine ⟨_, _, rfl, rfl, ?_⟩
            refine xr_iret rfl D_Rd_obey_81 ?_
            exact Or.inr (Or.inr (Or.inr (Or.inl ⟨by grind [upd], ho9⟩)))
        · refine xr_aload_n D_Rd_obey_65 rfl rfl ?_
          refine xr_cVx (as := []) (c_Rd_obeyFont_31 hw hk hf0 hf1) (L_Rd_95) (CD_Rd_obeyFont) CI_Rd D_Rd_obey_66 rfl rfl (by decide) (Nat.le_of_ble_eq_true rfl) (Nat.le_of_eq (Nat.zero_add _)) (Nat.le_of_eq (Nat.zero_add _)) pic_len ?_
          intro o9 ho9
          obtain ⟨x9, I9, A9, rfl⟩ := s_Rd_obeyFont ho9
          refine ⟨_, _, rfl, rfl, ?_⟩
          refine xr_iret rfl D_Rd_obey_69 ?_
          exact Or.inr (Or.inr (Or.inl ⟨by grind [upd], ho9⟩))
    · refine xr_aload_n D_Rd_obey_30 rfl rfl ?_
      refine xr_getf F_Rd_57 D_Rd_obey_31 rfl rfl ?_
      refine xr_sipush (v := 171) D_Rd_obey_34 rfl ?_
      refine xr_icmp_ge (tgt := 45) D_Rd_obey_37 rfl (fun c3 => ?_) (fun c3 => ?_)
      · refine xr_aload_n D_Rd_obey_45 rfl rfl ?_
        refine xr_getf F_Rd_57 D_Rd_obey_46 rfl rfl ?_
        refine xr_sipush (v := 171) D_Rd_obey_49 rfl ?_
        refine xr_icmp_lt (tgt := 70) D_Rd_obey_52 rfl (fun c4 => ?_) (fun c4 => ?_)
        · refine xr_aload_n D_Rd_obey_70 rfl rfl ?_
          refine xr_cVx (as := []) (c_Rd_isDefinition_31) (L_Rd_85) (CD_Rd_isDefinition) CI_Rd D_Rd_obey_71 rfl rfl (by decide) (Nat.le_of_ble_eq_true rfl) (Nat.le_of_eq (Nat.zero_add _)) (Nat.le_of_eq (Nat.zero_add _)) pic_len ?_
          rintro _ rfl
          refine ⟨_, _, rfl, rfl, ?_⟩
          refine xr_if_eq (tgt := 82) D_Rd_obey_74 rfl (fun c5 => ?_) (fun c5 => ?_)
          · rw [b2_0] at c5
            refine xr_aload_n D_Rd_obey_82 rfl rfl ?_
            refine xr_getf F_Rd_57 D_Rd_obey_83 rfl rfl ?_
            by_cases t0 : I 3108 = 132
            · refine xr_lookup (tgt := 168) (off := 82) D_Rd_obey_86 (by decide) (by rw [t0]; rfl) rfl ?_
              refine xr_aload_n D_Rd_obey_168 rfl rfl ?_
              refine xr_cVx (as := []) (c_Rd_obeyRule_31) (L_Rd_101) (CD_Rd_obeyRule) CI_Rd D_Rd_obey_169 rfl rfl (by decide) (Nat.le_of_ble_eq_true rfl) (Nat.le_of_eq (Nat.zero_add _)) (Nat.le_of_eq (Nat.zero_add _)) pic_len ?_
              intro o9 ho9
              obtain ⟨x9, I9, A9, rfl⟩ := s_Rd_obeyRule ho9
              refine ⟨_, _, rfl, rfl, ?_⟩
              refine xr_iret rfl D_Rd_obey_172 ?_
              exact Or.inr (Or.inr (Or.inr (Or.inr (Or.inl ⟨by grind [upd], ho9⟩))))
            by_cases t1 : I 3108 = 137
            · refine xr_lookup (tgt := 168) (off := 82) D_Rd_obey_86 (by decide) (by rw [t1]; rfl) rfl ?_
              refine xr_aload_n D_Rd_obey_168 rfl rfl ?_
              refine xr_cVx (as := []) (c_Rd_obeyRule_31) (L_Rd_101) (CD_Rd_obeyRule) CI_Rd D_Rd_obey_169 rfl rfl (by decide) (Nat.le_of_ble_eq_true rfl) (Nat.le_of_eq (Nat.zero_add _)) (Nat.le_of_eq (Nat.zero_add _)) pic_len ?_
              intro o9 ho9
              obtain ⟨x9, I9, A9, rfl⟩ := s_Rd_obeyRule ho9
              refine ⟨_, _, rfl, rfl, ?_⟩
              refine xr_iret rfl D_Rd_obey_172 ?_
              exact Or.inr (Or.inr (Or.inr (Or.inr (Or.inl ⟨by grind [upd], ho9⟩))))
            by_cases t2 : I 3108 = 139
            · refine xr_lookup (tgt := 173) (off := 87) D_Rd_obey_86 (by decide) (by rw [t2]; rfl) rfl ?_
              refine xr_aload_n D_Rd_obey_173 rfl rfl ?_
              refine xr_cVx (as := []) (c_Rd_obeyBegin_31) (L_Rd_104) (CD_Rd_obeyBegin) CI_Rd D_Rd_obey_174 rfl rfl (by decide) (Nat.le_of_ble_eq_true rfl) (Nat.le_of_eq (Nat.zero_add _)) (Nat.le_of_eq (Nat.zero_add _)) pic_len ?_
              intro o9 ho9
              obtain ⟨x9, I9, A9, rfl⟩ := s_Rd_obeyBegin ho9
              refine ⟨_, _, rfl, rfl, ?_⟩
              refine xr_iret rfl D_Rd_obey_177 ?_
              exact Or.inr (Or.inr (Or.inr (Or.inr (Or.inr (Or.inl ⟨by grind [upd], ho9⟩)))))
            by_cases t3 : I 3108 = 140
            · refine xr_lookup (tgt := 178) (off := 92) D_Rd_obey_86 (by decide) (by rw [t3]; rfl) rfl ?_
              refine xr_aload_n D_Rd_obey_178 rfl rfl ?_
              refine xr_iconst (v := 1) D_Rd_obey_179 rfl ?_
              refine xr_putf F_Rd_35 FT_Rd FN_Rd_6 D_Rd_obey_180 rfl (Nat.le_of_ble_eq_true rfl) rfl rfl (pset_31_6) ?_
              refine xr_aload_n D_Rd_obey_183 rfl rfl ?_
              refine xr_getf F_Rd_107 D_Rd_obey_184 rfl rfl ?_
              refine xr_if_le (tgt := 194) D_Rd_obey_187 rfl (fun c6 => ?_) (fun c6 => ?_)
              · refine xr_iconst (v := 0) D_Rd_obey_194 rfl ?_
                refine xr_iret rfl D_Rd_obey_195 ?_
                first | exact Or.inl ⟨by grind [upd], rfl⟩ | exact Or.inr (Or.inr (Or.inr (Or.inr (Or.inr (Or.inr (Or.inl ⟨by grind [upd], rfl⟩)))))) | exact Or.inr (Or.inr (Or.inr (Or.inr (Or.inr (Or.inr (Or.inr (Or.inl ⟨by grind [upd], rfl⟩))))))) | exact Or.inr (Or.inr (Or.inr (Or.inr (Or.inr (Or.inr (Or.inr (Or.inr (Or.inr (Or.inr (Or.inl ⟨by grind [upd], rfl⟩)))))))))) | exact Or.inr (Or.inr (Or.inr (Or.inr (Or.inr (Or.inr (Or.inr (Or.inr (Or.inr (Or.inr (Or.inr (Or.inr (Or.inl ⟨by grind [upd], rfl⟩)))))))))))) | exact Or.inr (Or.inr (Or.inr (Or.inr (Or.inr (Or.inr (Or.inr (Or.inr (Or.inr (Or.inr (Or.inr (Or.inr (Or.inr (Or.inl ⟨by grind [upd], rfl⟩))))))))))))) | exact Or.inr (Or.inr (Or.inr (Or.inr (Or.inr (Or.inr (Or.inr (Or.inr (Or.inr (Or.inr (Or.inr (Or.inr (Or.inr (Or.inr (Or.inr (⟨by grind [upd], rfl⟩)))))))))))))))
              · refine xr_iconst (v := 4) D_Rd_obey_190 rfl ?_
                refine xr_goto (tgt := 195) D_Rd_obey_191 rfl ?_
                refine xr_iret rfl D_Rd_obey_195 ?_
                first | exact Or.inl ⟨by grind [upd], rfl⟩ | exact Or.inr (Or.inr (Or.inr (Or.inr (Or.inr (Or.inr (Or.inl ⟨by grind [upd], rfl⟩)))))) | exact Or.inr (Or.inr (Or.inr (Or.inr (Or.inr (Or.inr (Or.inr (Or.inl ⟨by grind [upd], rfl⟩))))))) | exact Or.inr (Or.inr (Or.inr (Or.inr (Or.inr (Or.inr (Or.inr (Or.inr (Or.inr (Or.inr (Or.inl ⟨by grind [upd], rfl⟩)))))))))) | exact Or.inr (Or.inr (Or.inr (Or.inr (Or.inr (Or.inr (Or.inr (Or.inr (Or.inr (Or.inr (Or.inr (Or.inr (Or.inl ⟨by grind [upd], rfl⟩)))))))))))) | exact Or.inr (Or.inr (Or.inr (Or.inr (Or.inr (Or.inr (Or.inr (Or.inr (Or.inr (Or.inr (Or.inr (Or.inr (Or.inr (Or.inl ⟨by grind [upd], rfl⟩))))))))))))) | exact Or.inr (Or.inr (Or.inr (Or.inr (Or.inr (Or.inr (Or.inr (Or.inr (Or.inr (Or.inr (Or.inr (Or.inr (Or.inr (Or.inr (Or.inr (⟨by grind [upd], rfl⟩)))))))))))))))
            by_cases t4 : I 3108 = 141
            · refine xr_lookup (tgt := 196) (off := 110) D_Rd_obey_86 (by decide) (by rw [t4]; rfl) rfl ?_
              refine xr_aload_n D_Rd_obey_196 rfl rfl ?_
              refine xr_cVx (as := []) (c_Rd_obeyPush_31) (L_Rd_110) (CD_Rd_obeyPush) CI_Rd D_Rd_obey_197 rfl rfl (by decide) (Nat.le_of_ble_eq_true rfl) (Nat.le_of_eq (Nat.zero_add _)) (Nat.le_of_eq (Nat.zero_add _)) pic_len ?_
              intro o9 ho9
              obtain ⟨x9, I9, A9, rfl⟩ := s_Rd_obeyPush ho9
              refine ⟨_, _, rfl, rfl, ?_⟩
              refine xr_iret rfl D_Rd_obey_200 ?_
              exact Or.inr (Or.inr (Or.inr (Or.inr (Or.inr (Or.inr (Or.inr (Or.inr (Or.inl ⟨by grind [upd], ho9⟩))))))))
            by_cases t5 : I 3108 = 142
            · refine xr_lookup (tgt := 201) (off := 115) D_Rd_obey_86 (by decide) (by rw [t5]; rfl) rfl ?_
              refine xr_aload_n D_Rd_obey_201 rfl rfl ?_
              refine xr_cVx (as := []) (c_Rd_obeyPop_31) (L_Rd_113) (CD_Rd_obeyPop) CI_Rd D_Rd_obey_202 rfl rfl (by decide) (Nat.le_of_ble_eq_true rfl) (Nat.le_of_eq (Nat.zero_add _)) (Nat.le_of_eq (Nat.zero_add _)) pic_len ?_
              intro o9 ho9
              obtain ⟨x9, I9, A9, rfl⟩ := s_Rd_obeyPop ho9
              refine ⟨_, _, rfl, rfl, ?_⟩
              refine xr_iret rfl D_Rd_obey_205 ?_
              exact Or.inr (Or.inr (Or.inr (Or.inr (Or.inr (Or.inr (Or.inr (Or.inr (Or.inr (Or.inl ⟨by grind [upd], ho9⟩)))))))))
            by_cases t6 : I 3108 = 247
            · refine xr_lookup (tgt := 206) (off := 120) D_Rd_obey_86 (by decide) (by rw [t6]; rfl) rfl ?_
              refine xr_aload_n D_Rd_obey_206 rfl rfl ?_
              refine xr_iconst (v := 1) D_Rd_obey_207 rfl ?_
              refine xr_putf F_Rd_35 FT_Rd FN_Rd_6 D_Rd_obey_208 rfl (Nat.le_of_ble_eq_true rfl) rfl rfl (pset_31_6) ?_
              refine xr_aload_n D_Rd_obey_211 rfl rfl ?_
              refine xr_getf F_Rd_26 D_Rd_obey_212 rfl rfl ?_
              refine xr_aload_n D_Rd_obey_215 rfl rfl ?_
              refine xr_getf F_Rd_18 D_Rd_obey_216 rfl rfl ?_
              refine xr_aload_n D_Rd_obey_219 rfl rfl ?_
              refine xr_getf F_Rd_39 D_Rd_obey_220 rfl rfl ?_
              refine xr_bipush (v := 10) D_Rd_obey_223 rfl ?_
              refine xr_iadd D_Rd_obey_225 ?_
              refine xr_iconst (v := 4) D_Rd_obey_226 rfl ?_
              refine xr_cVx (as := [_, _]) (c_By_number_22 4 rfl (by decide)) (L_Rd_88) (CD_By_number) CI_By D_Rd_obey_227 rfl rfl (by decide) (Nat.le_of_ble_eq_true rfl) (Nat.le_of_eq (Nat.zero_add _)) (Nat.le_of_eq (Nat.zero_add _)) pic_len ?_
              rintro _ rfl
              refine ⟨_, _, rfl, rfl, ?_⟩
              refine xr_putf F_Rd_116 FT_Rg FN_Rg_8 D_Rd_obey_230 rfl (Nat.le_of_ble_eq_true rfl) rfl rfl (pset_24_8) ?_
              refine xr_iconst (v := 0) D_Rd_obey_233 rfl ?_
              refine xr_iret rfl D_Rd_obey_234 ?_
              first | exact Or.inl ⟨by grind [upd], rfl⟩ | exact Or.inr (Or.inr (Or.inr (Or.inr (Or.inr (Or.inr (Or.inl ⟨by grind [upd], rfl⟩)))))) | exact Or.inr (Or.inr (Or.inr (Or.inr (Or.inr (Or.inr (Or.inr (Or.inl ⟨by grind [upd], rfl⟩))))))) | exact Or.inr (Or.inr (Or.inr (Or.inr (Or.inr (Or.inr (Or.inr (Or.inr (Or.inr (Or.inr (Or.inl ⟨by grind [upd], rfl⟩)))))))))) | exact Or.inr (Or.inr (Or.inr (Or.inr (Or.inr (Or.inr (Or.inr (Or.inr (Or.inr (Or.inr (Or.inr (Or.inr (Or.inl ⟨by grind [upd], rfl⟩)))))))))))) | exact Or.inr (Or.inr (Or.inr (Or.inr (Or.inr (Or.inr (Or.inr (Or.inr (Or.inr (Or.inr (Or.inr (Or.inr (Or.inr (Or.inl ⟨by grind [upd], rfl⟩))))))))))))) | exact Or.inr (Or.inr (Or.inr (Or.inr (Or.inr (Or.inr (Or.inr (Or.inr (Or.inr (Or.inr (Or.inr (Or.inr (Or.inr (Or.inr (Or.inr (⟨by grind [upd], rfl⟩)))))))))))))))
            by_cases t7 : I 3108 = 248
            · refine xr_lookup (tgt := 235) (off := 149) D_Rd_obey_86 (by decide) (by rw [t7]; rfl) rfl ?_
              refine xr_aload_n D_Rd_obey_235 rfl rfl ?_
              refine xr_cVx (as := []) (c_Rd_obeyLast_31) (L_Rd_119) (CD_Rd_obeyLast) CI_Rd D_Rd_obey_236 rfl rfl (by decide) (Nat.le_of_ble_eq_true rfl) (Nat.le_of_eq (Nat.zero_add _)) (Nat.le_of_eq (Nat.zero_add _)) pic_len ?_
              intro o9 ho9
              obtain ⟨x9, I9, A9, rfl⟩ := s_Rd_obeyLast ho9
              refine ⟨_, _, rfl, rfl, ?_⟩
              refine xr_iret rfl D_Rd_obey_239 ?_
              exact Or.inr (Or.inr (Or.inr (Or.inr (Or.inr (Or.inr (Or.inr (Or.inr (Or.inr (Or.inr (Or.inr (Or.inl ⟨by grind [upd], ho9⟩)))))))))))
            by_cases t8 : I 3108 = 249
            · refine xr_lookup (tgt := 240) (off := 154) D_Rd_obey_86 (by decide) (by rw [t8]; rfl) rfl ?_
              refine xr_aload_n D_Rd_obey_240 rfl rfl ?_
              refine xr_iconst (v := 4) D_Rd_obey_241 rfl ?_
              refine xr_putf F_Rd_35 FT_Rd FN_Rd_6 D_Rd_obey_242 rfl (Nat.le_of_ble_eq_true rfl) rfl rfl (pset_31_6) ?_
              refine xr_aload_n D_Rd_obey_245 rfl rfl ?_
              refine xr_getf F_Rd_18 D_Rd_obey_246 rfl rfl ?_
              refine xr_aload_n D_Rd_obey_249 rfl rfl ?_
              refine xr_getf F_Rd_39 D_Rd_obey_250 rfl rfl ?_
              refine xr_iconst (v := 1) D_Rd_obey_253 rfl ?_
              refine xr_iadd D_Rd_obey_254 ?_
              refine xr_iconst (v := 4) D_Rd_obey_255 rfl ?_
              refine xr_cVx (as := [_, _]) (c_By_number_22 4 rfl (by decide)) (L_Rd_88) (CD_By_number) CI_By D_Rd_obey_256 rfl rfl (by decide) (Nat.le_of_ble_eq_true rfl) (Nat.le_of_eq (Nat.zero_add _)) (Nat.le_of_eq (Nat.zero_add _)) pic_len ?_
              rintro _ rfl
              refine ⟨_, _, rfl, rfl, ?_⟩
              refine xr_aload_n D_Rd_obey_259 rfl rfl ?_
              refine xr_getf F_Rd_122 D_Rd_obey_260 rfl rfl ?_
              refine xr_icmp_ne (tgt := 270) D_Rd_obey_263 rfl (fun c7 => ?_) (fun c7 => ?_)
              · refine xr_iconst (v := 5) D_Rd_obey_270 rfl ?_
                refine xr_iret rfl D_Rd_obey_271 ?_
                first | exact Or.inl ⟨by grind [upd], rfl⟩ | exact Or.inr (Or.inr (Or.inr (Or.inr (Or.inr (Or.inr (Or.inl ⟨by grind [upd], rfl⟩)))))) | exact Or.inr (Or.inr (Or.inr (Or.inr (Or.inr (Or.inr (Or.inr (Or.inl ⟨by grind [upd], rfl⟩))))))) | exact Or.inr (Or.inr (Or.inr (Or.inr (Or.inr (Or.inr (Or.inr (Or.inr (Or.inr (Or.inr (Or.inl ⟨by grind [upd], rfl⟩)))))))))) | exact Or.inr (Or.inr (Or.inr (Or.inr (Or.inr (Or.inr (Or.inr (Or.inr (Or.inr (Or.inr (Or.inr (Or.inr (Or.inl ⟨by grind [upd], rfl⟩)))))))))))) | exact Or.inr (Or.inr (Or.inr (Or.inr (Or.inr (Or.inr (Or.inr (Or.inr (Or.inr (Or.inr (Or.inr (Or.inr (Or.inr (Or.inl ⟨by grind [upd], rfl⟩))))))))))))) | exact Or.inr (Or.inr (Or.inr (Or.inr (Or.inr (Or.inr (Or.inr (Or.inr (Or.inr (Or.inr (Or.inr (Or.inr (Or.inr (Or.inr (Or.inr (⟨by grind [upd], rfl⟩)))))))))))))))
              · refine xr_iconst (v := 0) D_Rd_obey_266 rfl ?_
                refine xr_goto (tgt := 271) D_Rd_obey_267 rfl ?_
                refine xr_iret rfl D_Rd_obey_271 ?_
                first | exact Or.inl ⟨by grind [upd], rfl⟩ | exact Or.inr (Or.inr (Or.inr (Or.inr (Or.inr (Or.inr (Or.inl ⟨by grind [upd], rfl⟩)))))) | exact Or.inr (Or.inr (Or.inr (Or.inr (Or.inr (Or.inr (Or.inr (Or.inl ⟨by grind [upd], rfl⟩))))))) | exact Or.inr (Or.inr (Or.inr (Or.inr (Or.inr (Or.inr (Or.inr (Or.inr (Or.inr (Or.inr (Or.inl ⟨by grind [upd], rfl⟩)))))))))) | exact Or.inr (Or.inr (Or.inr (Or.inr (Or.inr (Or.inr (Or.inr (Or.inr (Or.inr (Or.inr (Or.inr (Or.inr (Or.inl ⟨by grind [upd], rfl⟩)))))))))))) | exact Or.inr (Or.inr (Or.inr (Or.inr (Or.inr (Or.inr (Or.inr (Or.inr (Or.inr (Or.inr (Or.inr (Or.inr (Or.inr (Or.inl ⟨by grind [upd], rfl⟩))))))))))))) | exact Or.inr (Or.inr (Or.inr (Or.inr (Or.inr (Or.inr (Or.inr (Or.inr (Or.inr (Or.inr (Or.inr (Or.inr (Or.inr (Or.inr (Or.inr (⟨by grind [upd], rfl⟩)))))))))))))))
            refine xr_lookup (tgt := 272) (off := 186) D_Rd_obey_86 (by decide) (lk_df (by simp only [List.forall_mem_cons]; exact ⟨fun e => t0 (i_eq.mpr e), fun e => t1 (i_eq.mpr e), fun e => t2 (i_eq.mpr e), fun e => t3 (i_eq.mpr e), fun e => t4 (i_eq.mpr e), fun e => t5 (i_eq.mpr e), fun e => t6 (i_eq.mpr e), fun e => t7 (i_eq.mpr e), fun e => t8 (i_eq.mpr e), fun _ h => absurd h List.not_mem_nil⟩)) rfl ?_
            refine xr_aload_n D_Rd_obey_272 rfl rfl ?_
            refine xr_getf F_Rd_57 D_Rd_obey_273 rfl rfl ?_
            refine xr_sipush (v := 136) D_Rd_obey_276 rfl ?_
            refine xr_icmp_gt (tgt := 289) D_Rd_obey_279 rfl (fun c8 => ?_) (fun c8 => ?_)
            · refine xr_iconst (v := 0) D_Rd_obey_289 rfl ?_
              refine xr_iret rfl D_Rd_obey_290 ?_
              exact Or.inr (Or.inr (Or.inr (Or.inr (Or.inr (Or.inr (Or.inr (Or.inr (Or.inr (Or.inr (Or.inr (Or.inr (Or.inr (Or.inr (Or.inr (⟨by grind [upd], rfl⟩)))))))))))))))
            · refine xr_aload_n D_Rd_obey_282 rfl rfl ?_
              refine xr_cVx (as := []) (c_Rd_obeyCharacter_31 hw hk) (L_Rd_125) (CD_Rd_obeyCharacter) CI_Rd D_Rd_obey_283 rfl rfl (by decide) (Nat.le_of_ble_eq_true rfl) (Nat.le_of_eq (Nat.zero_add _)) (Nat.le_of_eq (Nat.zero_add _)) pic_len ?_
              intro o9 ho9
              obtain ⟨x9, I9, A9, rfl⟩ := s_Rd_obeyCharacter ho9
              refine ⟨_, _, rfl, rfl, ?_⟩
              refine xr_goto (tgt := 290) D_Rd_obey_286 rfl ?_
              refine xr_iret rfl D_Rd_obey_290 ?_
              exact Or.inr (Or.inr (Or.inr (Or.inr (Or.inr (Or.inr (Or.inr (Or.inr (Or.inr (Or.inr (Or.inr (Or.inr (Or.inr (Or.inr (Or.inl ⟨by grind [upd], ho9⟩))))))))))))))
          · rw [b2_n] at c5
            refine xr_aload_n D_Rd_obey_77 rfl rfl ?_
            refine xr_cVx (as := []) (c_Rd_obeyDefinition_31 hw hk hf0 hf1 hN) (L_Rd_98) (CD_Rd_obeyDefinition) CI_Rd D_Rd_obey_78 rfl rfl (by decide) (Nat.le_of_ble_eq_true rfl) (Nat.le_of_eq (Nat.zero_add _)) (Nat.le_of_eq (Nat.zero_add _)) pic_len ?_
            intro o9 ho9
            obtain ⟨x9, I9, A9, rfl⟩ := s_Rd_obeyDefinition ho9
            refine ⟨_, _, rfl, rfl, ?_⟩
            refine xr_iret rfl D_Rd_obey_81 ?_
            exact Or.inr (Or.inr (Or.inr (Or.inl ⟨by grind [upd], ho9⟩)))
        · refine xr_aload_n D_Rd_obey_55 rfl rfl ?_
          refine xr_getf F_Rd_57 D_Rd_obey_56 rfl rfl ?_
          refine xr_sipush (v := 238) D_Rd_obey_59 rfl ?_
          refine xr_icmp_gt (tgt := 70) D_Rd_obey_62 rfl (fun c5 => ?_) (fun c5 => ?_)
          · refine xr_aload_n D_Rd_obey_70 rfl rfl ?_
            refine xr_cVx (as := []) (c_Rd_isDefinition_31) (L_Rd_85) (CD_Rd_isDefinition) CI_Rd D_Rd_obey_71 rfl rfl (by decide) (Nat.le_of_ble_eq_true rfl) (Nat.le_of_eq (Nat.zero_add _)) (Nat.le_of_eq (Nat.zero_add _)) pic_len ?_
            rintro _ rfl
            refine ⟨_, _, rfl, rfl, ?_⟩
            refine xr_if_eq (tgt := 82) D_Rd_obey_74 rfl (fun c6 => ?_) (fun c6 => ?_)
            · rw [b2_0] at c6
              refine xr_aload_n D_Rd_obey_82 rfl rfl ?_
              refine xr_getf F_Rd_57 D_Rd_obey_83 rfl rfl ?_
              by_cases t0 : I 3108 = 132
              · refine xr_lookup (tgt := 168) (off := 82) D_Rd_obey_86 (by decide) (by rw [t0]; rfl) rfl ?_
                refine xr_aload_n D_Rd_obey_168 rfl rfl ?_
                refine xr_cVx (as := []) (c_Rd_obeyRule_31) (L_Rd_101) (CD_Rd_obeyRule) CI_Rd D_Rd_obey_169 rfl rfl (by decide) (Nat.le_of_ble_eq_true rfl) (Nat.le_of_eq (Nat.zero_add _)) (Nat.le_of_eq (Nat.zero_add _)) pic_len ?_
                intro o9 ho9
                obtain ⟨x9, I9, A9, rfl⟩ := s_Rd_obeyRule ho9
                refine ⟨_, _, rfl, rfl, ?_⟩
                refine xr_iret rfl D_Rd_obey_172 ?_
                exact Or.inr (Or.inr (Or.inr (Or.inr (Or.inl ⟨by grind [upd], ho9⟩))))
              by_cases t1 : I 3108 = 137
              · refine xr_lookup (tgt := 168) (off := 82) D_Rd_obey_86 (by decide) (by rw [t1]; rfl) rfl ?_
                refine xr_aload_n D_Rd_obey_168 rfl rfl ?_
                refine xr_cVx (as := []) (c_Rd_obeyRule_31) (L_Rd_101) (CD_Rd_obeyRule) CI_Rd D_Rd_obey_169 rfl rfl (by decide) (Nat.le_of_ble_eq_true rfl) (Nat.le_of_eq (Nat.zero_add _)) (Nat.le_of_eq (Nat.zero_add _)) pic_len ?_
                intro o9 ho9
                obtain ⟨x9, I9, A9, rfl⟩ := s_Rd_obeyRule ho9
                refine ⟨_, _, rfl, rfl, ?_⟩
                refine xr_iret rfl D_Rd_obey_172 ?_
                exact Or.inr (Or.inr (Or.inr (Or.inr (Or.inl ⟨by grind [upd], ho9⟩))))
              by_cases t2 : I 3108 = 139
              · refine xr_lookup (tgt := 173) (off := 87) D_Rd_obey_86 (by decide) (by rw [t2]; rfl) rfl ?_
                refine xr_aload_n D_Rd_obey_173 rfl rfl ?_
                refine xr_cVx (as := []) (c_Rd_obeyBegin_31) (L_Rd_104) (CD_Rd_obeyBegin) CI_Rd D_Rd_obey_174 rfl rfl (by decide) (Nat.le_of_ble_eq_true rfl) (Nat.le_of_eq (Nat.zero_add _)) (Nat.le_of_eq (Nat.zero_add _)) pic_len ?_
                intro o9 ho9
                obtain ⟨x9, I9, A9, rfl⟩ := s_Rd_obeyBegin ho9
                refine ⟨_, _, rfl, rfl, ?_⟩
                refine xr_iret rfl D_Rd_obey_177 ?_
                exact Or.inr (Or.inr (Or.inr (Or.inr (Or.inr (Or.inl ⟨by grind [upd], ho9⟩)))))
              by_cases t3 : I 3108 = 140
              · refine xr_lookup (tgt := 178) (off := 92) D_Rd_obey_86 (by decide) (by rw [t3]; rfl) rfl ?_
                refine xr_aload_n D_Rd_obey_178 rfl rfl ?_
                refine xr_iconst (v := 1) D_Rd_obey_179 rfl ?_
                refine xr_putf F_Rd_35 FT_Rd FN_Rd_6 D_Rd_obey_180 rfl (Nat.le_of_ble_eq_true rfl) rfl rfl (pset_31_6) ?_
                refine xr_aload_n D_Rd_obey_183 rfl rfl ?_
                refine xr_getf F_Rd_107 D_Rd_obey_184 rfl rfl ?_
                refine xr_if_le (tgt := 194) D_Rd_obey_187 rfl (fun c7 => ?_) (fun c7 => ?_)
                · refine xr_iconst (v := 0) D_Rd_obey_194 rfl ?_
                  refine xr_iret rfl D_Rd_obey_195 ?_
                  first | exact Or.inl ⟨by grind [upd], rfl⟩ | exact Or.inr (Or.inr (Or.inr (Or.inr (Or.inr (Or.inr (Or.inl ⟨by grind [upd], rfl⟩)))))) | exact Or.inr (Or.inr (Or.inr (Or.inr (Or.inr (Or.inr (Or.inr (Or.inl ⟨by grind [upd], rfl⟩))))))) | exact Or.inr (Or.inr (Or.inr (Or.inr (Or.inr (Or.inr (Or.inr (Or.inr (Or.inr (Or.inr (Or.inl ⟨by grind [upd], rfl⟩)))))))))) | exact Or.inr (Or.inr (Or.inr (Or.inr (Or.inr (Or.inr (Or.inr (Or.inr (Or.inr (Or.inr (Or.inr (Or.inr (Or.inl ⟨by grind [upd], rfl⟩)))))))))))) | exact Or.inr (Or.inr (Or.inr (Or.inr (Or.inr (Or.inr (Or.inr (Or.inr (Or.inr (Or.inr (Or.inr (Or.inr (Or.inr (Or.inl ⟨by grind [upd], rfl⟩))))))))))))) | exact Or.inr (Or.inr (Or.inr (Or.inr (Or.inr (Or.inr (Or.inr (Or.inr (Or.inr (Or.inr (Or.inr (Or.inr (Or.inr (Or.inr (Or.inr (⟨by grind [upd], rfl⟩)))))))))))))))
                · refine xr_iconst (v := 4) D_Rd_obey_190 rfl ?_
                  refine xr_goto (tgt := 195) D_Rd_obey_191 rfl ?_
                  refine xr_iret rfl D_Rd_obey_195 ?_
                  first | exact Or.inl ⟨by grind [upd], rfl⟩ | exact Or.inr (Or.inr (Or.inr (Or.inr (Or.inr (Or.inr (Or.inl ⟨by grind [upd], rfl⟩)))))) | exact Or.inr (Or.inr (Or.inr (Or.inr (Or.inr (Or.inr (Or.inr (Or.inl ⟨by grind [upd], rfl⟩))))))) | exact Or.inr (Or.inr (Or.inr (Or.inr (Or.inr (Or.inr (Or.inr (Or.inr (Or.inr (Or.inr (Or.inl ⟨by grind [upd], rfl⟩)))))))))) | exact Or.inr (Or.inr (Or.inr (Or.inr (Or.inr (Or.inr (Or.inr (Or.inr (Or.inr (Or.inr (Or.inr (Or.inr (Or.inl ⟨by grind [upd], rfl⟩)))))))))))) | exact Or.inr (Or.inr (Or.inr (Or.inr (Or.inr (Or.inr (Or.inr (Or.inr (Or.inr (Or.inr (Or.inr (Or.inr (Or.inr (Or.inl ⟨by grind [upd], rfl⟩))))))))))))) | exact Or.inr (Or.inr (Or.inr (Or.inr (Or.inr (Or.inr (Or.inr (Or.inr (Or.inr (Or.inr (Or.inr (Or.inr (Or.inr (Or.inr (Or.inr (⟨by grind [upd], rfl⟩)))))))))))))))
              by_cases t4 : I 3108 = 141
              · refine xr_lookup (tgt := 196) (off := 110) D_Rd_obey_86 (by decide) (by rw [t4]; rfl) rfl ?_
                refine xr_aload_n D_Rd_obey_196 rfl rfl ?_
                refine xr_cVx (as := []) (c_Rd_obeyPush_31) (L_Rd_110) (CD_Rd_obeyPush) CI_Rd D_Rd_obey_197 rfl rfl (by decide) (Nat.le_of_ble_eq_true rfl) (Nat.le_of_eq (Nat.zero_add _)) (Nat.le_of_eq (Nat.zero_add _)) pic_len ?_
                intro o9 ho9
                obtain ⟨x9, I9, A9, rfl⟩ := s_Rd_obeyPush ho9
                refine ⟨_, _, rfl, rfl, ?_⟩
                refine xr_iret rfl D_Rd_obey_200 ?_
                exact Or.inr (Or.inr (Or.inr (Or.inr (Or.inr (Or.inr (Or.inr (Or.inr (Or.inl ⟨by grind [upd], ho9⟩))))))))
              by_cases t5 : I 3108 = 142
              · refine xr_lookup (tgt := 201) (off := 115) D_Rd_obey_86 (by decide) (by rw [t5]; rfl) rfl ?_
                refine xr_aload_n D_Rd_obey_201 rfl rfl ?_
                refine xr_cVx (as := []) (c_Rd_obeyPop_31) (L_Rd_113) (CD_Rd_obeyPop) CI_Rd D_Rd_obey_202 rfl rfl (by decide) (Nat.le_of_ble_eq_true rfl) (Nat.le_of_eq (Nat.zero_add _)) (Nat.le_of_eq (Nat.zero_add _)) pic_len ?_
                intro o9 ho9
                obtain ⟨x9, I9, A9, rfl⟩ := s_Rd_obeyPop ho9
                refine ⟨_, _, rfl, rfl, ?_⟩
                refine xr_iret rfl D_Rd_obey_205 ?_
                exact Or.inr (Or.inr (Or.inr (Or.inr (Or.inr (Or.inr (Or.inr (Or.inr (Or.inr (Or.inl ⟨by grind [upd], ho9⟩)))))))))
              by_cases t6 : I 3108 = 247
              · refine xr_lookup (tgt := 206) (off := 120) D_Rd_obey_86 (by decide) (by rw [t6]; rfl) rfl ?_
                refine xr_aload_n D_Rd_obey_206 rfl rfl ?_
                refine xr_iconst (v := 1) D_Rd_obey_207 rfl ?_
                refine xr_putf F_Rd_35 FT_Rd FN_Rd_6 D_Rd_obey_208 rfl (Nat.le_of_ble_eq_true rfl) rfl rfl (pset_31_6) ?_
                refine xr_aload_n D_Rd_obey_211 rfl rfl ?_
                refine xr_getf F_Rd_26 D_Rd_obey_212 rfl rfl ?_
                refine xr_aload_n D_Rd_obey_215 rfl rfl ?_
                refine xr_getf F_Rd_18 D_Rd_obey_216 rfl rfl ?_
                refine xr_aload_n D_Rd_obey_219 rfl rfl ?_
                refine xr_getf F_Rd_39 D_Rd_obey_220 rfl rfl ?_
                refine xr_bipush (v := 10) D_Rd_obey_223 rfl ?_
                refine xr_iadd D_Rd_obey_225 ?_
                refine xr_iconst (v := 4) D_Rd_obey_226 rfl ?_
                refine xr_cVx (as := [_, _]) (c_By_number_22 4 rfl (by decide)) (L_Rd_88) (CD_By_number) CI_By D_Rd_obey_227 rfl rfl (by decide) (Nat.le_of_ble_eq_true rfl) (Nat.le_of_eq (Nat.zero_add _)) (Nat.le_of_eq (Nat.zero_add _)) pic_len ?_
                rintro _ rfl
                refine ⟨_, _, rfl, rfl, ?_⟩
                refine xr_putf F_Rd_116 FT_Rg FN_Rg_8 D_Rd_obey_230 rfl (Nat.le_of_ble_eq_true rfl) rfl rfl (pset_24_8) ?_
                refine xr_iconst (v := 0) D_Rd_obey_233 rfl ?_
                refine xr_iret rfl D_Rd_obey_234 ?_
                first | exact Or.inl ⟨by grind [upd], rfl⟩ | exact Or.inr (Or.inr (Or.inr (Or.inr (Or.inr (Or.inr (Or.inl ⟨by grind [upd], rfl⟩)))))) | exact Or.inr (Or.inr (Or.inr (Or.inr (Or.inr (Or.inr (Or.inr (Or.inl ⟨by grind [upd], rfl⟩))))))) | exact Or.inr (Or.inr (Or.inr (Or.inr (Or.inr (Or.inr (Or.inr (Or.inr (Or.inr (Or.inr (Or.inl ⟨by grind [upd], rfl⟩)))))))))) | exact Or.inr (Or.inr (Or.inr (Or.inr (Or.inr (Or.inr (Or.inr (Or.inr (Or.inr (Or.inr (Or.inr (Or.inr (Or.inl ⟨by grind [upd], rfl⟩)))))))))))) | exact Or.inr (Or.inr (Or.inr (Or.inr (Or.inr (Or.inr (Or.inr (Or.inr (Or.inr (Or.inr (Or.inr (Or.inr (Or.inr (Or.inl ⟨by grind [upd], rfl⟩))))))))))))) | exact Or.inr (Or.inr (Or.inr (Or.inr (Or.inr (Or.inr (Or.inr (Or.inr (Or.inr (Or.inr (Or.inr (Or.inr (Or.inr (Or.inr (Or.inr (⟨by grind [upd], rfl⟩)))))))))))))))
              by_cases t7 : I 3108 = 248
              · refine xr_lookup (tgt := 235) (off := 149) D_Rd_obey_86 (by decide) (by rw [t7]; rfl) rfl ?_
                refine xr_aload_n D_Rd_obey_235 rfl rfl ?_
                refine xr_cVx (as := []) (c_Rd_obeyLast_31) (L_Rd_119) (CD_Rd_obeyLast) CI_Rd D_Rd_obey_236 rfl rfl (by decide) (Nat.le_of_ble_eq_true rfl) (Nat.le_of_eq (Nat.zero_add _)) (Nat.le_of_eq (Nat.zero_add _)) pic_len ?_
                intro o9 ho9
                obtain ⟨x9, I9, A9, rfl⟩ := s_Rd_obeyLast ho9
                refine ⟨_, _, rfl, rfl, ?_⟩
                refine xr_iret rfl D_Rd_obey_239 ?_
                exact Or.inr (Or.inr (Or.inr (Or.inr (Or.inr (Or.inr (Or.inr (Or.inr (Or.inr (Or.inr (Or.inr (Or.inl ⟨by grind [upd], ho9⟩)))))))))))
              by_cases t8 : I 3108 = 249
              · refine xr_lookup (tgt := 240) (off := 154) D_Rd_obey_86 (by decide) (by rw [t8]; rfl) rfl ?_
                refine xr_aload_n D_Rd_obey_240 rfl rfl ?_
                refine xr_iconst (v := 4) D_Rd_obey_241 rfl ?_
                refine xr_putf F_Rd_35 FT_Rd FN_Rd_6 D_Rd_obey_242 rfl (Nat.le_of_ble_eq_true rfl) rfl rfl (pset_31_6) ?_
                refine xr_aload_n D_Rd_obey_245 rfl rfl ?_
                refine xr_getf F_Rd_18 D_Rd_obey_246 rfl rfl ?_
                refine xr_aload_n D_Rd_obey_249 rfl rfl ?_
                refine xr_getf F_Rd_39 D_Rd_obey_250 rfl rfl ?_
                refine xr_iconst (v := 1) D_Rd_obey_253 rfl ?_
                refine xr_iadd D_Rd_obey_254 ?_
                refine xr_iconst (v := 4) D_Rd_obey_255 rfl ?_
                refine xr_cVx (as := [_, _]) (c_By_number_22 4 rfl (by decide)) (L_Rd_88) (CD_By_number) CI_By D_Rd_obey_256 rfl rfl (by decide) (Nat.le_of_ble_eq_true rfl) (Nat.le_of_eq (Nat.zero_add _)) (Nat.le_of_eq (Nat.zero_add _)) pic_len ?_
                rintro _ rfl
                refine ⟨_, _, rfl, rfl, ?_⟩
                refine xr_aload_n D_Rd_obey_259 rfl rfl ?_
                refine xr_getf F_Rd_122 D_Rd_obey_260 rfl rfl ?_
                refine xr_icmp_ne (tgt := 270) D_Rd_obey_263 rfl (fun c8 => ?_) (fun c8 => ?_)
                · refine xr_iconst (v := 5) D_Rd_obey_270 rfl ?_
                  refine xr_iret rfl D_Rd_obey_271 ?_
                  first | exact Or.inl ⟨by grind [upd], rfl⟩ | exact Or.inr (Or.inr (Or.inr (Or.inr (Or.inr (Or.inr (Or.inl ⟨by grind [upd], rfl⟩)))))) | exact Or.inr (Or.inr (Or.inr (Or.inr (Or.inr (Or.inr (Or.inr (Or.inl ⟨by grind [upd], rfl⟩))))))) | exact Or.inr (Or.inr (Or.inr (Or.inr (Or.inr (Or.inr (Or.inr (Or.inr (Or.inr (Or.inr (Or.inl ⟨by grind [upd], rfl⟩)))))))))) | exact Or.inr (Or.inr (Or.inr (Or.inr (Or.inr (Or.inr (Or.inr (Or.inr (Or.inr (Or.inr (Or.inr (Or.inr (Or.inl ⟨by grind [upd], rfl⟩)))))))))))) | exact Or.inr (Or.inr (Or.inr (Or.inr (Or.inr (Or.inr (Or.inr (Or.inr (Or.inr (Or.inr (Or.inr (Or.inr (Or.inr (Or.inl ⟨by grind [upd], rfl⟩))))))))))))) | exact Or.inr (Or.inr (Or.inr (Or.inr (Or.inr (Or.inr (Or.inr (Or.inr (Or.inr (Or.inr (Or.inr (Or.inr (Or.inr (Or.inr (Or.inr (⟨by grind [upd], rfl⟩)))))))))))))))
                · refine xr_iconst (v := 0) D_Rd_obey_266 rfl ?_
                  refine xr_goto (tgt := 271) D_Rd_obey_267 rfl ?_
                  refine xr_iret rfl D_Rd_obey_271 ?_
                  first | exact Or.inl ⟨by grind [upd], rfl⟩ | exact Or.inr (Or.inr (Or.inr (Or.inr (Or.inr (Or.inr (Or.inl ⟨by grind [upd], rfl⟩)))))) | exact Or.inr (Or.inr (Or.inr (Or.inr (Or.inr (Or.inr (Or.inr (Or.inl ⟨by grind [upd], rfl⟩))))))) | exact Or.inr (Or.inr (Or.inr (Or.inr (Or.inr (Or.inr (Or.inr (Or.inr (Or.inr (Or.inr (Or.inl ⟨by grind [upd], rfl⟩)))))))))) | exact Or.inr (Or.inr (Or.inr (Or.inr (Or.inr (Or.inr (Or.inr (Or.inr (Or.inr (Or.inr (Or.inr (Or.inr (Or.inl ⟨by grind [upd], rfl⟩)))))))))))) | exact Or.inr (Or.inr (Or.inr (Or.inr (Or.inr (Or.inr (Or.inr (Or.inr (Or.inr (Or.inr (Or.inr (Or.inr (Or.inr (Or.inl ⟨by grind [upd], rfl⟩))))))))))))) | exact Or.inr (Or.inr (Or.inr (Or.inr (Or.inr (Or.inr (Or.inr (Or.inr (Or.inr (Or.inr (Or.inr (Or.inr (Or.inr (Or.inr (Or.inr (⟨by grind [upd], rfl⟩)))))))))))))))
              refine xr_lookup (tgt := 272) (off := 186) D_Rd_obey_86 (by decide) (lk_df (by simp only [List.forall_mem_cons]; exact ⟨fun e => t0 (i_eq.mpr e), fun e => t1 (i_eq.mpr e), fun e => t2 (i_eq.mpr e), fun e => t3 (i_eq.mpr e), fun e => t4 (i_eq.mpr e), fun e => t5 (i_eq.mpr e), fun e => t6 (i_eq.mpr e), fun e => t7 (i_eq.mpr e), fun e => t8 (i_eq.mpr e), fun _ h => absurd h List.not_mem_nil⟩)) rfl ?_
              refine xr_aload_n D_Rd_obey_272 rfl rfl ?_
              refine xr_getf F_Rd_57 D_Rd_obey_273 rfl rfl ?_
              refine xr_sipush (v := 136) D_Rd_obey_276 rfl ?_
              refine xr_icmp_gt (tgt := 289) D_Rd_obey_279 rfl (fun c9 => ?_) (fun c9 => ?_)
              · refine xr_iconst (v := 0) D_Rd_obey_289 rfl ?_
                refine xr_iret rfl D_Rd_obey_290 ?_
                exact Or.inr (Or.inr (Or.inr (Or.inr (Or.inr (Or.inr (Or.inr (Or.inr (Or.inr (Or.inr (Or.inr (Or.inr (Or.inr (Or.inr (Or.inr (⟨by grind [upd], rfl⟩)))))))))))))))
              · refine xr_aload_n D_Rd_obey_282 rfl rfl ?_
                refine xr_cVx (as := []) (c_Rd_obeyCharacter_31 hw hk) (L_Rd_125) (CD_Rd_obeyCharacter) CI_Rd D_Rd_obey_283 rfl rfl (by decide) (Nat.le_of_ble_eq_true rfl) (Nat.le_of_eq (Nat.zero_add _)) (Nat.le_of_eq (Nat.zero_add _)) pic_len ?_
                intro o9 ho9
                obtain ⟨x9, I9, A9, rfl⟩ := s_Rd_obeyCharacter ho9
                refine ⟨_, _, rfl, rfl, ?_⟩
                refine xr_goto (tgt := 290) D_Rd_obey_286 rfl ?_
                refine xr_iret rfl D_Rd_obey_290 ?_
                exact Or.inr (Or.inr (Or.inr (Or.inr (Or.inr (Or.inr (Or.inr (Or.inr (Or.inr (Or.inr (Or.inr (Or.inr (Or.inr (Or.inr (Or.inl ⟨by grind [upd], ho9⟩))))))))))))))
            · rw [b2_n] at c6
              refine xr_aload_n D_Rd_obey_77 rfl rfl ?_
              refine xr_cVx (as := []) (c_Rd_obeyDefinition_31 hw hk hf0 hf1 hN) (L_Rd_98) (CD_Rd_obeyDefinition) CI_Rd D_Rd_obey_78 rfl rfl (by decide) (Nat.le_of_ble_eq_true rfl) (Nat.le_of_eq (Nat.zero_add _)) (Nat.le_of_eq (Nat.zero_add _)) pic_len ?_
              intro o9 ho9
              obtain ⟨x9, I9, A9, rfl⟩ := s_Rd_obeyDefinition ho9
              refine ⟨_, _, rfl, rfl, ?_⟩
              refine xr_iret rfl D_Rd_obey_81 ?_
              exact Or.inr (Or.inr (Or.inr (Or.inl ⟨by grind [upd], ho9⟩)))
          · refine xr_aload_n D_Rd_obey_65 rfl rfl ?_
            refine xr_cVx (as := []) (c_Rd_obeyFont_31 hw hk hf0 hf1) (L_Rd_95) (CD_Rd_obeyFont) CI_Rd D_Rd_obey_66 rfl rfl (by decide) (Nat.le_of_ble_eq_true rfl) (Nat.le_of_eq (Nat.zero_add _)) (Nat.le_of_eq (Nat.zero_add _)) pic_len ?_
            intro o9 ho9
            obtain ⟨x9, I9, A9, rfl⟩ := s_Rd_obeyFont ho9
            refine ⟨_, _, rfl, rfl, ?_⟩
            refine xr_iret rfl D_Rd_obey_69 ?_
            exact Or.inr (Or.inr (Or.inl ⟨by grind [upd], ho9⟩))
      · refine xr_aload_n D_Rd_obey_40 rfl rfl ?_
        refine xr_cVx (as := []) (c_Rd_obeyMove_31 hw hk) (L_Rd_92) (CD_Rd_obeyMove) CI_Rd D_Rd_obey_41 rfl rfl (by decide) (Nat.le_of_ble_eq_true rfl) (Nat.le_of_eq (Nat.zero_add _)) (Nat.le_of_eq (Nat.zero_add _)) pic_len ?_
        intro o9 ho9
        obtain ⟨x9, I9, A9, rfl⟩ := s_Rd_obeyMove ho9
        refine ⟨_, _, rfl, rfl, ?_⟩
        refine xr_iret rfl D_Rd_obey_44 ?_
        exact Or.inr (Or.inl ⟨by grind [upd], ho9⟩)
  · refine xr_aload_n D_Rd_obey_8 rfl rfl ?_
    refine xr_dup D_Rd_obey_9 rfl ?_
    refine xr_getf F_Rd_45 D_Rd_obey_10 rfl rfl ?_
    refine xr_iconst (v := 1) D_Rd_obey_13 rfl ?_
    refine xr_iadd D_Rd_obey_14 ?_
    refine xr_putf F_Rd_45 FT_Rd FN_Rd_13 D_Rd_obey_15 rfl (Nat.le_of_ble_eq_true rfl) rfl rfl (pset_31_13) ?_
    refine xr_iconst (v := 0) D_Rd_obey_18 rfl ?_
    refine xr_iret rfl D_Rd_obey_19 ?_
    first | exact Or.inl ⟨by grind [upd], rfl⟩ | exact Or.inr (Or.inr (Or.inr (Or.inr (Or.inr (Or.inr (Or.inl ⟨by grind [upd], rfl⟩)))))) | exact Or.inr (Or.inr (Or.inr (Or.inr (Or.inr (Or.inr (Or.inr (Or.inl ⟨by grind [upd], rfl⟩))))))) | exact Or.inr (Or.inr (Or.inr (Or.inr (Or.inr (Or.inr (Or.inr (Or.inr (Or.inr (Or.inr (Or.inl ⟨by grind [upd], rfl⟩)))))))))) | exact Or.inr (Or.inr (Or.inr (Or.inr (Or.inr (Or.inr (Or.inr (Or.inr (Or.inr (Or.inr (Or.inr (Or.inr (Or.inl ⟨by grind [upd], rfl⟩)))))))))))) | exact Or.inr (Or.inr (Or.inr (Or.inr (Or.inr (Or.inr (Or.inr (Or.inr (Or.inr (Or.inr (Or.inr (Or.inr (Or.inr (Or.inl ⟨by grind [upd], rfl⟩))))))))))))) | exact Or.inr (Or.inr (Or.inr (Or.inr (Or.inr (Or.inr (Or.inr (Or.inr (Or.inr (Or.inr (Or.inr (Or.inr (Or.inr (Or.inr (Or.inr (⟨by grind [upd], rfl⟩)))))))))))))))
