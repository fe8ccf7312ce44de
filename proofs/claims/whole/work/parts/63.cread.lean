theorem frI_u {ks : List Nat} {I J : mI} {k : Nat} {x : Int32} (h : frI ks I J) (hk : k ∈ ks) : frI ks I (upd J k x) := fun j hj => (if_neg fun (e : j = _) => hj (by rw [e]; exact hk)).trans (h j hj)
theorem frA_u {ks : List Nat} {A B : mA} {k i : Nat} {x : Int32} (h : frA ks A B) (hk : k ∈ ks) : frA ks A (upA B k i x) := fun j hj => (if_neg fun (e : j = _) => hj (by rw [e]; exact hk)).trans (h j hj)
theorem frA_uf {ks : List Nat} {A B : mA} {k : Nat} {g : Nat → Int32} (h : frA ks A B) (hk : k ∈ ks) : frA ks A (upAf B k g) := fun j hj => (if_neg fun (e : j = _) => hj (by rw [e]; exact hk)).trans (h j hj)
def gdT (I : mI) (A : mA) (I' : mI) (A' : mA) : Prop := frI [2405, 2406, 2408, 2409, 2410, 2411, 3105, 3106, 3110, 3111, 3112, 3113, 2407, 2901] I I' ∧ frA [25, 26, 32, 33, 27, 28, 30] A A' ∧ (0 ≤ I' 2407 ∧ I' 2407 ≤ 256) ∧ ∃ N', isB (I' 2901) (A' 30) N'
theorem gdO_T {I I' : mI} {A A' : mA} {N : List Int32} (hf : 0 ≤ I 2407 ∧ I 2407 ≤ 256) (hN : isB (I 2901) (A 30) N) (h : frI [2405, 2406, 2408, 2409, 2410, 2411, 3105, 3106, 3110, 3111, 3112, 3113] I I' ∧ frA [25, 26, 32, 33] A A') : gdT I A I' A' := by
  obtain ⟨h2, h3⟩ := h
  exact ⟨frI_tr h2 frI_rf (by decide) (fun _ h => h), frA_tr h3 frA_rf (by decide) (fun _ h => h), by rw [h2 2407 (by decide)]; exact hf, N, by rw [h2 2901 (by decide), h3 30 (by decide)]; exact hN⟩

def t_Rd_obeyMove (I : mI) (A : mA) (k : Nat) (f9 : Int32) (I2 : mI) (A2 : mA) : Prop := (((I 3108 < 157) ∧ ((I 3108 - 143) < 4) ∧ (0 < I 3109) ∧ fitL (smG (A 32 0) ((nrd (gat (I 2201) (A 23)) (I 3107 + 1) k <<< ((32 - 8 * I 3109) &&& 31)) >>> ((32 - 8 * I 3109) &&& 31)))) ∧ f9 = 0 ∧ I2 = I ∧ A2 = (upA A 32 0 (smG (A 32 0) ((nrd (gat (I 2201) (A 23)) (I 3107 + 1) k <<< ((32 - 8 * I 3109) &&& 31)) >>> ((32 - 8 * I 3109) &&& 31))).toInt32)) ∨ (((I 3108 < 157) ∧ ((I 3108 - 143) < 4) ∧ (0 < I 3109) ∧ ¬ fitL (smG (A 32 0) ((nrd (gat (I 2201) (A 23)) (I 3107 + 1) k <<< ((32 - 8 * I 3109) &&& 31)) >>> ((32 - 8 * I 3109) &&& 31)))) ∧ f9 = 8 ∧ I2 = I ∧ A2 = A) ∨ (((I 3108 < 157) ∧ ((I 3108 - 143) < 4) ∧ (¬ 0 < I 3109) ∧ fitL (smG (A 32 0) (A 32 2))) ∧ f9 = 0 ∧ I2 = I ∧ A2 = (upA A 32 0 (smG (A 32 0) (A 32 2)).toInt32)) ∨ (((I 3108 < 157) ∧ ((I 3108 - 143) < 4) ∧ (¬ 0 < I 3109) ∧ ¬ fitL (smG (A 32 0) (A 32 2))) ∧ f9 = 8 ∧ I2 = I ∧ A2 = A) ∨ (((I 3108 < 157) ∧ (¬ (I 3108 - 143) < 4 ∧ (I 3108 - 143) < 9) ∧ (0 < I 3109) ∧ fitL (smG (A 32 0) ((nrd (gat (I 2201) (A 23)) (I 3107 + 1) k <<< ((32 - 8 * I 3109) &&& 31)) >>> ((32 - 8 * I 3109) &&& 31)))) ∧ f9 = 0 ∧ I2 = I ∧ A2 = (upA (upA A 32 2 ((nrd (gat (I 2201) (A 23)) (I 3107 + 1) k <<< ((32 - 8 * I 3109) &&& 31)) >>> ((32 - 8 * I 3109) &&& 31))) 32 0 (smG (A 32 0) ((nrd (gat (I 2201) (A 23)) (I 3107 + 1) k <<< ((32 - 8 * I 3109) &&& 31)) >>> ((32 - 8 * I 3109) &&& 31))).toInt32)) ∨ (((I 3108 < 157) ∧ (¬ (I 3108 - 143) < 4 ∧ (I 3108 - 143) < 9) ∧ (0 < I 3109) ∧ ¬ fitL (smG (A 32 0) ((nrd (gat (I 2201) (A 23)) (I 3107 + 1) k <<< ((32 - 8 * I 3109) &&& 31)) >>> ((32 - 8 * I 3109) &&& 31)))) ∧ f9 = 8 ∧ I2 = I ∧ A2 = (upA A 32 2 ((nrd (gat (I 2201) (A 23)) (I 3107 + 1) k <<< ((32 - 8 * I 3109) &&& 31)) >>> ((32 - 8 * I 3109) &&& 31)))) ∨ (((I 3108 < 157) ∧ (¬ (I 3108 - 143) < 4 ∧ (I 3108 - 143) < 9) ∧ (¬ 0 < I 3109) ∧ fitL (smG (A 32 0) (A 32 2))) ∧ f9 = 0 ∧ I2 = I ∧ A2 = (upA (upA A 32 2 (A 32 2)) 32 0 (smG (A 32 0) (A 32 2)).toInt32)) ∨ (((I 3108 < 157) ∧ (¬ (I 3108 - 143) < 4 ∧ (I 3108 - 143) < 9) ∧ (¬ 0 < I 3109) ∧ ¬ fitL (smG (A 32 0) (A 32 2))) ∧ f9 = 8 ∧ I2 = I ∧ A2 = (upA A 32 2 (A 32 2))) ∨ (((I 3108 < 157) ∧ (¬ (I 3108 - 143) < 9) ∧ (0 < I 3109) ∧ fitL (smG (A 32 0) ((nrd (gat (I 2201) (A 23)) (I 3107 + 1) k <<< ((32 - 8 * I 3109) &&& 31)) >>> ((32 - 8 * I 3109) &&& 31)))) ∧ f9 = 0 ∧ I2 = I ∧ A2 = (upA (upA A 32 3 ((nrd (gat (I 2201) (A 23)) (I 3107 + 1) k <<< ((32 - 8 * I 3109) &&& 31)) >>> ((32 - 8 * I 3109) &&& 31))) 32 0 (smG (A 32 0) ((nrd (gat (I 2201) (A 23)) (I 3107 + 1) k <<< ((32 - 8 * I 3109) &&& 31)) >>> ((32 - 8 * I 3109) &&& 31))).toInt32)) ∨ (((I 3108 < 157) ∧ (¬ (I 3108 - 143) < 9) ∧ (0 < I 3109) ∧ ¬ fitL (smG (A 32 0) ((nrd (gat (I 2201) (A 23)) (I 3107 + 1) k <<< ((32 - 8 * I 3109) &&& 31)) >>> ((32 - 8 * I 3109) &&& 31)))) ∧ f9 = 8 ∧ I2 = I ∧ A2 = (upA A 32 3 ((nrd (gat (I 2201) (A 23)) (I 3107 + 1) k <<< ((32 - 8 * I 3109) &&& 31)) >>> ((32 - 8 * I 3109) &&& 31)))) ∨ (((I 3108 < 157) ∧ (¬ (I 3108 - 143) < 9) ∧ (¬ 0 < I 3109) ∧ fitL (smG (A 32 0) (A 32 3))) ∧ f9 = 0 ∧ I2 = I ∧ A2 = (upA (upA A 32 3 (A 32 3)) 32 0 (smG (A 32 0) (A 32 3)).toInt32)) ∨ (((I 3108 < 157) ∧ (¬ (I 3108 - 143) < 9) ∧ (¬ 0 < I 3109) ∧ ¬ fitL (smG (A 32 0) (A 32 3))) ∧ f9 = 8 ∧ I2 = I ∧ A2 = (upA A 32 3 (A 32 3))) ∨ (((¬ I 3108 < 157) ∧ ((I 3108 - 157) < 4) ∧ (0 < I 3109) ∧ fitL (smG (A 32 1) ((nrd (gat (I 2201) (A 23)) (I 3107 + 1) k <<< ((32 - 8 * I 3109) &&& 31)) >>> ((32 - 8 * I 3109) &&& 31)))) ∧ f9 = 0 ∧ I2 = I ∧ A2 = (upA A 32 1 (smG (A 32 1) ((nrd (gat (I 2201) (A 23)) (I 3107 + 1) k <<< ((32 - 8 * I 3109) &&& 31)) >>> ((32 - 8 * I 3109) &&& 31))).toInt32)) ∨ (((¬ I 3108 < 157) ∧ ((I 3108 - 157) < 4) ∧ (0 < I 3109) ∧ ¬ fitL (smG (A 32 1) ((nrd (gat (I 2201) (A 23)) (I 3107 + 1) k <<< ((32 - 8 * I 3109) &&& 31)) >>> ((32 - 8 * I 3109) &&& 31)))) ∧ f9 = 8 ∧ I2 = I ∧ A2 = A) ∨ (((¬ I 3108 < 157) ∧ ((I 3108 - 157) < 4) ∧ (¬ 0 < I 3109) ∧ fitL (smG (A 32 1) (A 32 4))) ∧ f9 = 0 ∧ I2 = I ∧ A2 = (upA A 32 1 (smG (A 32 1) (A 32 4)).toInt32)) ∨ (((¬ I 3108 < 157) ∧ ((I 3108 - 157) < 4) ∧ (¬ 0 < I 3109) ∧ ¬ fitL (smG (A 32 1) (A 32 4))) ∧ f9 = 8 ∧ I2 = I ∧ A2 = A) ∨ (((¬ I 3108 < 157) ∧ (¬ (I 3108 - 157) < 4 ∧ (I 3108 - 157) < 9) ∧ (0 < I 3109) ∧ fitL (smG (A 32 1) ((nrd (gat (I 2201) (A 23)) (I 3107 + 1) k <<< ((32 - 8 * I 3109) &&& 31)) >>> ((32 - 8 * I 3109) &&& 31)))) ∧ f9 = 0 ∧ I2 = I ∧ A2 = (upA (upA A 32 4 ((nrd (gat (I 2201) (A 23)) (I 3107 + 1) k <<< ((32 - 8 * I 3109) &&& 31)) >>> ((32 - 8 * I 3109) &&& 31))) 32 1 (smG (A 32 1) ((nrd (gat (I 2201) (A 23)) (I 3107 + 1) k <<< ((32 - 8 * I 3109) &&& 31)) >>> ((32 - 8 * I 3109) &&& 31))).toInt32)) ∨ (((¬ I 3108 < 157) ∧ (¬ (I 3108 - 157) < 4 ∧ (I 3108 - 157) < 9) ∧ (0 < I 3109) ∧ ¬ fitL (smG (A 32 1) ((nrd (gat (I 2201) (A 23)) (I 3107 + 1) k <<< ((32 - 8 * I 3109) &&& 31)) >>> ((32 - 8 * I 3109) &&& 31)))) ∧ f9 = 8 ∧ I2 = I ∧ A2 = (upA A 32 4 ((nrd (gat (I 2201) (A 23)) (I 3107 + 1) k <<< ((32 - 8 * I 3109) &&& 31)) >>> ((32 - 8 * I 3109) &&& 31)))) ∨ (((¬ I 3108 < 157) ∧ (¬ (I 3108 - 157) < 4 ∧ (I 3108 - 157) < 9) ∧ (¬ 0 < I 3109) ∧ fitL (smG (A 32 1) (A 32 4))) ∧ f9 = 0 ∧ I2 = I ∧ A2 = (upA (upA A 32 4 (A 32 4)) 32 1 (smG (A 32 1) (A 32 4)).toInt32)) ∨ (((¬ I 3108 < 157) ∧ (¬ (I 3108 - 157) < 4 ∧ (I 3108 - 157) < 9) ∧ (¬ 0 < I 3109) ∧ ¬ fitL (smG (A 32 1) (A 32 4))) ∧ f9 = 8 ∧ I2 = I ∧ A2 = (upA A 32 4 (A 32 4))) ∨ (((¬ I 3108 < 157) ∧ (¬ (I 3108 - 157) < 9) ∧ (0 < I 3109) ∧ fitL (smG (A 32 1) ((nrd (gat (I 2201) (A 23)) (I 3107 + 1) k <<< ((32 - 8 * I 3109) &&& 31)) >>> ((32 - 8 * I 3109) &&& 31)))) ∧ f9 = 0 ∧ I2 = I ∧ A2 = (upA (upA A 32 5 ((nrd (gat (I 2201) (A 23)) (I 3107 + 1) k <<< ((32 - 8 * I 3109) &&& 31)) >>> ((32 - 8 * I 3109) &&& 31))) 32 1 (smG (A 32 1) ((nrd (gat (I 2201) (A 23)) (I 3107 + 1) k <<< ((32 - 8 * I 3109) &&& 31)) >>> ((32 - 8 * I 3109) &&& 31))).toInt32)) ∨ (((¬ I 3108 < 157) ∧ (¬ (I 3108 - 157) < 9) ∧ (0 < I 3109) ∧ ¬ fitL (smG (A 32 1) ((nrd (gat (I 2201) (A 23)) (I 3107 + 1) k <<< ((32 - 8 * I 3109) &&& 31)) >>> ((32 - 8 * I 3109) &&& 31)))) ∧ f9 = 8 ∧ I2 = I ∧ A2 = (upA A 32 5 ((nrd (gat (I 2201) (A 23)) (I 3107 + 1) k <<< ((32 - 8 * I 3109) &&& 31)) >>> ((32 - 8 * I 3109) &&& 31)))) ∨ (((¬ I 3108 < 157) ∧ (¬ (I 3108 - 157) < 9) ∧ (¬ 0 < I 3109) ∧ fitL (smG (A 32 1) (A 32 5))) ∧ f9 = 0 ∧ I2 = I ∧ A2 = (upA (upA A 32 5 (A 32 5)) 32 1 (smG (A 32 1) (A 32 5)).toInt32)) ∨ (((¬ I 3108 < 157) ∧ (¬ (I 3108 - 157) < 9) ∧ (¬ 0 < I 3109) ∧ ¬ fitL (smG (A 32 1) (A 32 5))) ∧ f9 = 8 ∧ I2 = I ∧ A2 = (upA A 32 5 (A 32 5)))
theorem tq_Rd_obeyMove {I : mI} {A : mA} {L : mL} {k : Nat} {o : xO} (h : q_Rd_obeyMove I A L k o) : ∃ (f9 : Int32) (I2 : mI) (A2 : mA), o = (.inl (some (.int f9)), pic I2 A2 L) ∧ t_Rd_obeyMove I A k f9 I2 A2 := by
  rcases h with ⟨h, rfl⟩ | ⟨h, rfl⟩ | ⟨h, rfl⟩ | ⟨h, rfl⟩ | ⟨h, rfl⟩ | ⟨h, rfl⟩ | ⟨h, rfl⟩ | ⟨h, rfl⟩ | ⟨h, rfl⟩ | ⟨h, rfl⟩ | ⟨h, rfl⟩ | ⟨h, rfl⟩ | ⟨h, rfl⟩ | ⟨h, rfl⟩ | ⟨h, rfl⟩ | ⟨h, rfl⟩ | ⟨h, rfl⟩ | ⟨h, rfl⟩ | ⟨h, rfl⟩ | ⟨h, rfl⟩ | ⟨h, rfl⟩ | ⟨h, rfl⟩ | ⟨h, rfl⟩ | ⟨h, rfl⟩
  · exact ⟨_, _, _, rfl, Or.inl ⟨h, rfl, rfl, rfl⟩⟩
  · exact ⟨_, _, _, rfl, Or.inr (Or.inl ⟨h, rfl, rfl, rfl⟩)⟩
  · exact ⟨_, _, _, rfl, Or.inr (Or.inr (Or.inl ⟨h, rfl, rfl, rfl⟩))⟩
  · exact ⟨_, _, _, rfl, Or.inr (Or.inr (Or.inr (Or.inl ⟨h, rfl, rfl, rfl⟩)))⟩
  · exact ⟨_, _, _, rfl, Or.inr (Or.inr (Or.inr (Or.inr (Or.inl ⟨h, rfl, rfl, rfl⟩))))⟩
  · exact ⟨_, _, _, rfl, Or.inr (Or.inr (Or.inr (Or.inr (Or.inr (Or.inl ⟨h, rfl, rfl, rfl⟩)))))⟩
  · exact ⟨_, _, _, rfl, Or.inr (Or.inr (Or.inr (Or.inr (Or.inr (Or.inr (Or.inl ⟨h, rfl, rfl, rfl⟩))))))⟩
  · exact ⟨_, _, _, rfl, Or.inr (Or.inr (Or.inr (Or.inr (Or.inr (Or.inr (Or.inr (Or.inl ⟨h, rfl, rfl, rfl⟩)))))))⟩
  · exact ⟨_, _, _, rfl, Or.inr (Or.inr (Or.inr (Or.inr (Or.inr (Or.inr (Or.inr (Or.inr (Or.inl ⟨h, rfl, rfl, rfl⟩))))))))⟩
  · exact ⟨_, _, _, rfl, Or.inr (Or.inr (Or.inr (Or.inr (Or.inr (Or.inr (Or.inr (Or.inr (Or.inr (Or.inl ⟨h, rfl, rfl, rfl⟩)))))))))⟩
  · exact ⟨_, _, _, rfl, Or.inr (Or.inr (Or.inr (Or.inr (Or.inr (Or.inr (Or.inr (Or.inr (Or.inr (Or.inr (Or.inl ⟨h, rfl, rfl, rfl⟩))))))))))⟩
  · exact ⟨_, _, _, rfl, Or.inr (Or.inr (Or.inr (Or.inr (Or.inr (Or.inr (Or.inr (Or.inr (Or.inr (Or.inr (Or.inr (Or.inl ⟨h, rfl, rfl, rfl⟩)))))))))))⟩
  · exact ⟨_, _, _, rfl, Or.inr (Or.inr (Or.inr (Or.inr (Or.inr (Or.inr (Or.inr (Or.inr (Or.inr (Or.inr (Or.inr (Or.inr (Or.inl ⟨h, rfl, rfl, rfl⟩))))))))))))⟩
  · exact ⟨_, _, _, rfl, Or.inr (Or.inr (Or.inr (Or.inr (Or.inr (Or.inr (Or.inr (Or.inr (Or.inr (Or.inr (Or.inr (Or.inr (Or.inr (Or.inl ⟨h, rfl, rfl, rfl⟩)))))))))))))⟩
  · exact ⟨_, _, _, rfl, Or.inr (Or.inr (Or.inr (Or.inr (Or.inr (Or.inr (Or.inr (Or.inr (Or.inr (Or.inr (Or.inr (Or.inr (Or.inr (Or.inr (Or.inl ⟨h, rfl, rfl, rfl⟩))))))))))))))⟩
  · exact ⟨_, _, _, rfl, Or.inr (Or.inr (Or.inr (Or.inr (Or.inr (Or.inr (Or.inr (Or.inr (Or.inr (Or.inr (Or.inr (Or.inr (Or.inr (Or.inr (Or.inr (Or.inl ⟨h, rfl, rfl, rfl⟩)))))))))))))))⟩
  · exact ⟨_, _, _, rfl, Or.inr (Or.inr (Or.inr (Or.inr (Or.inr (Or.inr (Or.inr (Or.inr (Or.inr (Or.inr (Or.inr (Or.inr (Or.inr (Or.inr (Or.inr (Or.inr (Or.inl ⟨h, rfl, rfl, rfl⟩))))))))))))))))⟩
  · exact ⟨_, _, _, rfl, Or.inr (Or.inr (Or.inr (Or.inr (Or.inr (Or.inr (Or.inr (Or.inr (Or.inr (Or.inr (Or.inr (Or.inr (Or.inr (Or.inr (Or.inr (Or.inr (Or.inr (Or.inl ⟨h, rfl, rfl, rfl⟩)))))))))))))))))⟩
  · exact ⟨_, _, _, rfl, Or.inr (Or.inr (Or.inr (Or.inr (Or.inr (Or.inr (Or.inr (Or.inr (Or.inr (Or.inr (Or.inr (Or.inr (Or.inr (Or.inr (Or.inr (Or.inr (Or.inr (Or.inr (Or.inl ⟨h, rfl, rfl, rfl⟩))))))))))))))))))⟩
  · exact ⟨_, _, _, rfl, Or.inr (Or.inr (Or.inr (Or.inr (Or.inr (Or.inr (Or.inr (Or.inr (Or.inr (Or.inr (Or.inr (Or.inr (Or.inr (Or.inr (Or.inr (Or.inr (Or.inr (Or.inr (Or.inr (Or.inl ⟨h, rfl, rfl, rfl⟩)))))))))))))))))))⟩
  · exact ⟨_, _, _, rfl, Or.inr (Or.inr (Or.inr (Or.inr (Or.inr (Or.inr (Or.inr (Or.inr (Or.inr (Or.inr (Or.inr (Or.inr (Or.inr (Or.inr (Or.inr (Or.inr (Or.inr (Or.inr (Or.inr (Or.inr (Or.inl ⟨h, rfl, rfl, rfl⟩))))))))))))))))))))⟩
  · exact ⟨_, _, _, rfl, Or.inr (Or.inr (Or.inr (Or.inr (Or.inr (Or.inr (Or.inr (Or.inr (Or.inr (Or.inr (Or.inr (Or.inr (Or.inr (Or.inr (Or.inr (Or.inr (Or.inr (Or.inr (Or.inr (Or.inr (Or.inr (Or.inl ⟨h, rfl, rfl, rfl⟩)))))))))))))))))))))⟩
  · exact ⟨_, _, _, rfl, Or.inr (Or.inr (Or.inr (Or.inr (Or.inr (Or.inr (Or.inr (Or.inr (Or.inr (Or.inr (Or.inr (Or.inr (Or.inr (Or.inr (Or.inr (Or.inr (Or.inr (Or.inr (Or.inr (Or.inr (Or.inr (Or.inr (Or.inl ⟨h, rfl, rfl, rfl⟩))))))))))))))))))))))⟩
  · exact ⟨_, _, _, rfl, Or.inr (Or.inr (Or.inr (Or.inr (Or.inr (Or.inr (Or.inr (Or.inr (Or.inr (Or.inr (Or.inr (Or.inr (Or.inr (Or.inr (Or.inr (Or.inr (Or.inr (Or.inr (Or.inr (Or.inr (Or.inr (Or.inr (Or.inr (⟨h, rfl, rfl, rfl⟩)))))))))))))))))))))))⟩
theorem gt_Rd_obeyMove {I I2 : mI} {A A2 : mA} {k : Nat} {f : Int32} (h : t_Rd_obeyMove I A k f I2 A2) : frI [2405, 2406, 2408, 2409, 2410, 2411, 3105, 3106, 3110, 3111, 3112, 3113] I I2 ∧ frA [25, 26, 32, 33] A A2 := by
  rcases h with ⟨-, -, rfl, rfl⟩ | ⟨-, -, rfl, rfl⟩ | ⟨-, -, rfl, rfl⟩ | ⟨-, -, rfl, rfl⟩ | ⟨-, -, rfl, rfl⟩ | ⟨-, -, rfl, rfl⟩ | ⟨-, -, rfl, rfl⟩ | ⟨-, -, rfl, rfl⟩ | ⟨-, -, rfl, rfl⟩ | ⟨-, -, rfl, rfl⟩ | ⟨-, -, rfl, rfl⟩ | ⟨-, -, rfl, rfl⟩ | ⟨-, -, rfl, rfl⟩ | ⟨-, -, rfl, rfl⟩ | ⟨-, -, rfl, rfl⟩ | ⟨-, -, rfl, rfl⟩ | ⟨-, -, rfl, rfl⟩ | ⟨-, -, rfl, rfl⟩ | ⟨-, -, rfl, rfl⟩ | ⟨-, -, rfl, rfl⟩ | ⟨-, -, rfl, rfl⟩ | ⟨-, -, rfl, rfl⟩ | ⟨-, -, rfl, rfl⟩ | ⟨-, -, rfl, rfl⟩
  · exact ⟨(by repeat (first | exact frI_rf | refine frI_u ?_ (by decide))), (by repeat (first | exact frA_rf | refine frA_u ?_ (by decide) | refine frA_uf ?_ (by decide)))⟩
  · exact ⟨(by repeat (first | exact frI_rf | refine frI_u ?_ (by decide))), (by repeat (first | exact frA_rf | refine frA_u ?_ (by decide) | refine frA_uf ?_ (by decide)))⟩
  · exact ⟨(by repeat (first | exact frI_rf | refine frI_u ?_ (by decide))), (by repeat (first | exact frA_rf | refine frA_u ?_ (by decide) | refine frA_uf ?_ (by decide)))⟩
  · exact ⟨(by repeat (first | exact frI_rf | refine frI_u ?_ (by decide))), (by repeat (first | exact frA_rf | refine frA_u ?_ (by decide) | refine frA_uf ?_ (by decide)))⟩
  · exact ⟨(by repeat (first | exact frI_rf | refine frI_u ?_ (by decide))), (by repeat (first | exact frA_rf | refine frA_u ?_ (by decide) | refine frA_uf ?_ (by decide)))⟩
  · exact ⟨(by repeat (first | exact frI_rf | refine frI_u ?_ (by decide))), (by repeat (first | exact frA_rf | refine frA_u ?_ (by decide) | refine frA_uf ?_ (by decide)))⟩
  · exact ⟨(by repeat (first | exact frI_rf | refine frI_u ?_ (by decide))), (by repeat (first | exact frA_rf | refine frA_u ?_ (by decide) | refine frA_uf ?_ (by decide)))⟩
  · exact ⟨(by repeat (first | exact frI_rf | refine frI_u ?_ (by decide))), (by repeat (first | exact frA_rf | refine frA_u ?_ (by decide) | refine frA_uf ?_ (by decide)))⟩
  · exact ⟨(by repeat (first | exact frI_rf | refine frI_u ?_ (by decide))), (by repeat (first | exact frA_rf | refine frA_u ?_ (by decide) | refine frA_uf ?_ (by decide)))⟩
  · exact ⟨(by repeat (first | exact frI_rf | refine frI_u ?_ (by decide))), (by repeat (first | exact frA_rf | refine frA_u ?_ (by decide) | refine frA_uf ?_ (by decide)))⟩
  · exact ⟨(by repeat (first | exact frI_rf | refine frI_u ?_ (by decide))), (by repeat (first | exact frA_rf | refine frA_u ?_ (by decide) | refine frA_uf ?_ (by decide)))⟩
  · exact ⟨(by repeat (first | exact frI_rf | refine frI_u ?_ (by decide))), (by repeat (first | exact frA_rf | refine frA_u ?_ (by decide) | refine frA_uf ?_ (by decide)))⟩
  · exact ⟨(by repeat (first | exact frI_rf | refine frI_u ?_ (by decide))), (by repeat (first | exact frA_rf | refine frA_u ?_ (by decide) | refine frA_uf ?_ (by decide)))⟩
  · exact ⟨(by repeat (first | exact frI_rf | refine frI_u ?_ (by decide))), (by repeat (first | exact frA_rf | refine frA_u ?_ (by decide) | refine frA_uf ?_ (by decide)))⟩
  · exact ⟨(by repeat (first | exact frI_rf | refine frI_u ?_ (by decide))), (by repeat (first | exact frA_rf | refine frA_u ?_ (by decide) | refine frA_uf ?_ (by decide)))⟩
  · exact ⟨(by repeat (first | exact frI_rf | refine frI_u ?_ (by decide))), (by repeat (first | exact frA_rf | refine frA_u ?_ (by decide) | refine frA_uf ?_ (by decide)))⟩
  · exact ⟨(by repeat (first | exact frI_rf | refine frI_u ?_ (by decide))), (by repeat (first | exact frA_rf | refine frA_u ?_ (by decide) | refine frA_uf ?_ (by decide)))⟩
  · exact ⟨(by repeat (first | exact frI_rf | refine frI_u ?_ (by decide))), (by repeat (first | exact frA_rf | refine frA_u ?_ (by decide) | refine frA_uf ?_ (by decide)))⟩
  · exact ⟨(by repeat (first | exact frI_rf | refine frI_u ?_ (by decide))), (by repeat (first | exact frA_rf | refine frA_u ?_ (by decide) | refine frA_uf ?_ (by decide)))⟩
  · exact ⟨(by repeat (first | exact frI_rf | refine frI_u ?_ (by decide))), (by repeat (first | exact frA_rf | refine frA_u ?_ (by decide) | refine frA_uf ?_ (by decide)))⟩
  · exact ⟨(by repeat (first | exact frI_rf | refine frI_u ?_ (by decide))), (by repeat (first | exact frA_rf | refine frA_u ?_ (by decide) | refine frA_uf ?_ (by decide)))⟩
  · exact ⟨(by repeat (first | exact frI_rf | refine frI_u ?_ (by decide))), (by repeat (first | exact frA_rf | refine frA_u ?_ (by decide) | refine frA_uf ?_ (by decide)))⟩
  · exact ⟨(by repeat (first | exact frI_rf | refine frI_u ?_ (by decide))), (by repeat (first | exact frA_rf | refine frA_u ?_ (by decide) | refine frA_uf ?_ (by decide)))⟩
  · exact ⟨(by repeat (first | exact frI_rf | refine frI_u ?_ (by decide))), (by repeat (first | exact frA_rf | refine frA_u ?_ (by decide) | refine frA_uf ?_ (by decide)))⟩
def t_Rd_obeyFont (I : mI) (A : mA) (k : Nat) (f9 : Int32) (I2 : mI) (A2 : mA) : Prop := (((0 < I 3109) ∧ (ffR (A 27) (nrd (gat (I 2201) (A 23)) (I 3107 + 1) k) (I 2407).toInt.toNat 0) = -1) ∧ f9 = 3 ∧ I2 = (upd I 3110 (ffR (A 27) (nrd (gat (I 2201) (A 23)) (I 3107 + 1) k) (I 2407).toInt.toNat 0)) ∧ A2 = A) ∨ (((0 < I 3109) ∧ ¬ (ffR (A 27) (nrd (gat (I 2201) (A 23)) (I 3107 + 1) k) (I 2407).toInt.toNat 0) = -1) ∧ f9 = 0 ∧ I2 = (upd I 3110 (ffR (A 27) (nrd (gat (I 2201) (A 23)) (I 3107 + 1) k) (I 2407).toInt.toNat 0)) ∧ A2 = A) ∨ (((¬ 0 < I 3109) ∧ (ffR (A 27) (I 3108 - 171) (I 2407).toInt.toNat 0) = -1) ∧ f9 = 3 ∧ I2 = (upd I 3110 (ffR (A 27) (I 3108 - 171) (I 2407).toInt.toNat 0)) ∧ A2 = A) ∨ (((¬ 0 < I 3109) ∧ ¬ (ffR (A 27) (I 3108 - 171) (I 2407).toInt.toNat 0) = -1) ∧ f9 = 0 ∧ I2 = (upd I 3110 (ffR (A 27) (I 3108 - 171) (I 2407).toInt.toNat 0)) ∧ A2 = A)
theorem tq_Rd_obeyFont {I : mI} {A : mA} {L : mL} {k : Nat} {o : xO} (h : q_Rd_obeyFont I A L k o) : ∃ (f9 : Int32) (I2 : mI) (A2 : mA), o = (.inl (some (.int f9)), pic I2 A2 L) ∧ t_Rd_obeyFont I A k f9 I2 A2 := by
  rcases h with ⟨h, rfl⟩ | ⟨h, rfl⟩ | ⟨h, rfl⟩ | ⟨h, rfl⟩
  · exact ⟨_, _, _, rfl, Or.inl ⟨h, rfl, rfl, rfl⟩⟩
  · exact ⟨_, _, _, rfl, Or.inr (Or.inl ⟨h, rfl, rfl, rfl⟩)⟩
  · exact ⟨_, _, _, rfl, Or.inr (Or.inr (Or.inl ⟨h, rfl, rfl, rfl⟩))⟩
  · exact ⟨_, _, _, rfl, Or.inr (Or.inr (Or.inr (⟨h, rfl, rfl, rfl⟩)))⟩
theorem gt_Rd_obeyFont {I I2 : mI} {A A2 : mA} {k : Nat} {f : Int32} (h : t_Rd_obeyFont I A k f I2 A2) : frI [2405, 2406, 2408, 2409, 2410, 2411, 3105, 3106, 3110, 3111, 3112, 3113] I I2 ∧ frA [25, 26, 32, 33] A A2 := by
  rcases h with ⟨-, -, rfl, rfl⟩ | ⟨-, -, rfl, rfl⟩ | ⟨-, -, rfl, rfl⟩ | ⟨-, -, rfl, rfl⟩
  · exact ⟨(by repeat (first | exact frI_rf | refine frI_u ?_ (by decide))), (by repeat (first | exact frA_rf | refine frA_u ?_ (by decide) | refine frA_uf ?_ (by decide)))⟩
  · exact ⟨(by repeat (first | exact frI_rf | refine frI_u ?_ (by decide))), (by repeat (first | exact frA_rf | refine frA_u ?_ (by decide) | refine frA_uf ?_ (by decide)))⟩
  · exact ⟨(by repeat (first | exact frI_rf | refine frI_u ?_ (by decide))), (by repeat (first | exact frA_rf | refine frA_u ?_ (by decide) | refine frA_uf ?_ (by decide)))⟩
  · exact ⟨(by repeat (first | exact frI_rf | refine frI_u ?_ (by decide))), (by repeat (first | exact frA_rf | refine frA_u ?_ (by decide) | refine frA_uf ?_ (by decide)))⟩
def t_Rd_obeyRule (I : mI) (A : mA)  (f9 : Int32) (I2 : mI) (A2 : mA) : Prop := ((I 3108 = 132 ∧ ¬ fitL (smG (A 32 0) (nrd (gat (I 2201) (A 23)) (I 3107 + 5) 4))) ∧ f9 = 8 ∧ I2 = I ∧ A2 = A) ∨ (((I 3108 = 132 ∧ fitL (smG (A 32 0) (nrd (gat (I 2201) (A 23)) (I 3107 + 5) 4))) ∧ ¬ (0 < nrd (gat (I 2201) (A 23)) (I 3107 + 1) 4 ∧ 0 < nrd (gat (I 2201) (A 23)) (I 3107 + 5) 4)) ∧ f9 = 0 ∧ I2 = I ∧ A2 = (upA A 32 0 (smG (A 32 0) (nrd (gat (I 2201) (A 23)) (I 3107 + 5) 4)).toInt32)) ∨ ((((I 3108 = 132 ∧ fitL (smG (A 32 0) (nrd (gat (I 2201) (A 23)) (I 3107 + 5) 4))) ∧ (0 < nrd (gat (I 2201) (A 23)) (I 3107 + 1) 4 ∧ 0 < nrd (gat (I 2201) (A 23)) (I 3107 + 5) 4)) ∧ (0 ≤ I 2405 ∧ I 2405 < 2000)) ∧ f9 = 0 ∧ I2 = (upd I 2405 (I 2405 + 1)) ∧ A2 = (upA (upA (upA (upA (upA (upA (upA A 32 0 (smG (A 32 0) (nrd (gat (I 2201) (A 23)) (I 3107 + 5) 4)).toInt32) 25 (I 2405 * 6).toNatClampNeg (I 2406 - 1)) 25 (I 2405 * 6 + 1).toNatClampNeg (-1)) 25 (I 2405 * 6 + 2).toNatClampNeg (nrd (gat (I 2201) (A 23)) (I 3107 + 5) 4)) 25 (I 2405 * 6 + 3).toNatClampNeg (A 32 0)) 25 (I 2405 * 6 + 4).toNatClampNeg (A 32 1)) 25 (I 2405 * 6 + 5).toNatClampNeg (nrd (gat (I 2201) (A 23)) (I 3107 + 1) 4))) ∨ ((((I 3108 = 132 ∧ fitL (smG (A 32 0) (nrd (gat (I 2201) (A 23)) (I 3107 + 5) 4))) ∧ (0 < nrd (gat (I 2201) (A 23)) (I 3107 + 1) 4 ∧ 0 < nrd (gat (I 2201) (A 23)) (I 3107 + 5) 4)) ∧ ¬ (0 ≤ I 2405 ∧ I 2405 < 2000)) ∧ f9 = 9 ∧ I2 = I ∧ A2 = (upA A 32 0 (smG (A 32 0) (nrd (gat (I 2201) (A 23)) (I 3107 + 5) 4)).toInt32)) ∨ (((¬ I 3108 = 132) ∧ ¬ (0 < nrd (gat (I 2201) (A 23)) (I 3107 + 1) 4 ∧ 0 < nrd (gat (I 2201) (A 23)) (I 3107 + 5) 4)) ∧ f9 = 0 ∧ I2 = I ∧ A2 = A) ∨ ((((¬ I 3108 = 132) ∧ (0 < nrd (gat (I 2201) (A 23)) (I 3107 + 1) 4 ∧ 0 < nrd (gat (I 2201) (A 23)) (I 3107 + 5) 4)) ∧ (0 ≤ I 2405 ∧ I 2405 < 2000)) ∧ f9 = 0 ∧ I2 = (upd I 2405 (I 2405 + 1)) ∧ A2 = (upA (upA (upA (upA (upA (upA A 25 (I 2405 * 6).toNatClampNeg (I 2406 - 1)) 25 (I 2405 * 6 + 1).toNatClampNeg (-1)) 25 (I 2405 * 6 + 2).toNatClampNeg (nrd (gat (I 2201) (A 23)) (I 3107 + 5) 4)) 25 (I 2405 * 6 + 3).toNatClampNeg (A 32 0)) 25 (I 2405 * 6 + 4).toNatClampNeg (A 32 1)) 25 (I 2405 * 6 + 5).toNatClampNeg (nrd (gat (I 2201) (A 23)) (I 3107 + 1) 4))) ∨ ((((¬ I 3108 = 132) ∧ (0 < nrd (gat (I 2201) (A 23)) (I 3107 + 1) 4 ∧ 0 < nrd (gat (I 2201) (A 23)) (I 3107 + 5) 4)) ∧ ¬ (0 ≤ I 2405 ∧ I 2405 < 2000)) ∧ f9 = 9 ∧ I2 = I ∧ A2 = A)
theorem tq_Rd_obeyRule {I : mI} {A : mA} {L : mL}  {o : xO} (h : q_Rd_obeyRule I A L  o) : ∃ (f9 : Int32) (I2 : mI) (A2 : mA), o = (.inl (some (.int f9)), pic I2 A2 L) ∧ t_Rd_obeyRule I A  f9 I2 A2 := by
  rcases h with ⟨h, rfl⟩ | ⟨h, rfl⟩ | ⟨h, rfl⟩ | ⟨h, rfl⟩ | ⟨h, rfl⟩ | ⟨h, rfl⟩ | ⟨h, rfl⟩
  · exact ⟨_, _, _, rfl, Or.inl ⟨h, rfl, rfl, rfl⟩⟩
  · exact ⟨_, _, _, rfl, Or.inr (Or.inl ⟨h, rfl, rfl, rfl⟩)⟩
  · exact ⟨_, _, _, rfl, Or.inr (Or.inr (Or.inl ⟨h, rfl, rfl, rfl⟩))⟩
  · exact ⟨_, _, _, rfl, Or.inr (Or.inr (Or.inr (Or.inl ⟨h, rfl, rfl, rfl⟩)))⟩
  · exact ⟨_, _, _, rfl, Or.inr (Or.inr (Or.inr (Or.inr (Or.inl ⟨h, rfl, rfl, rfl⟩))))⟩
  · exact ⟨_, _, _, rfl, Or.inr (Or.inr (Or.inr (Or.inr (Or.inr (Or.inl ⟨h, rfl, rfl, rfl⟩)))))⟩
  · exact ⟨_, _, _, rfl, Or.inr (Or.inr (Or.inr (Or.inr (Or.inr (Or.inr (⟨h, rfl, rfl, rfl⟩))))))⟩
theorem gt_Rd_obeyRule {I I2 : mI} {A A2 : mA} {f : Int32} (h : t_Rd_obeyRule I A f I2 A2) : frI [2405, 2406, 2408, 2409, 2410, 2411, 3105, 3106, 3110, 3111, 3112, 3113] I I2 ∧ frA [25, 26, 32, 33] A A2 := by
  rcases h with ⟨-, -, rfl, rfl⟩ | ⟨-, -, rfl, rfl⟩ | ⟨-, -, rfl, rfl⟩ | ⟨-, -, rfl, rfl⟩ | ⟨-, -, rfl, rfl⟩ | ⟨-, -, rfl, rfl⟩ | ⟨-, -, rfl, rfl⟩
  · exact ⟨(by repeat (first | exact frI_rf | refine frI_u ?_ (by decide))), (by repeat (first | exact frA_rf | refine frA_u ?_ (by decide) | refine frA_uf ?_ (by decide)))⟩
  · exact ⟨(by repeat (first | exact frI_rf | refine frI_u ?_ (by decide))), (by repeat (first | exact frA_rf | refine frA_u ?_ (by decide) | refine frA_uf ?_ (by decide)))⟩
  · exact ⟨(by repeat (first | exact frI_rf | refine frI_u ?_ (by decide))), (by repeat (first | exact frA_rf | refine frA_u ?_ (by decide) | refine frA_uf ?_ (by decide)))⟩
  · exact ⟨(by repeat (first | exact frI_rf | refine frI_u ?_ (by decide))), (by repeat (first | exact frA_rf | refine frA_u ?_ (by decide) | refine frA_uf ?_ (by decide)))⟩
  · exact ⟨(by repeat (first | exact frI_rf | refine frI_u ?_ (by decide))), (by repeat (first | exact frA_rf | refine frA_u ?_ (by decide) | refine frA_uf ?_ (by decide)))⟩
  · exact ⟨(by repeat (first | exact frI_rf | refine frI_u ?_ (by decide))), (by repeat (first | exact frA_rf | refine frA_u ?_ (by decide) | refine frA_uf ?_ (by decide)))⟩
  · exact ⟨(by repeat (first | exact frI_rf | refine frI_u ?_ (by decide))), (by repeat (first | exact frA_rf | refine frA_u ?_ (by decide) | refine frA_uf ?_ (by decide)))⟩
def t_Rd_obeyCharacter (I : mI) (A : mA) (k : Nat) (f9 : Int32) (I2 : mI) (A2 : mA) : Prop := ((I 3110 = -1) ∧ f9 = 7 ∧ I2 = I ∧ A2 = A) ∨ (((¬ I 3110 = -1 ∧ (0 < I 3109)) ∧ I 3108 ≤ 131 ∧ ¬ fitL (smG (A 32 0) (wOf (A 2) (fPart (I 2407) (A 27) (A 28) (gat (I 2901) (A 30)) (I 3110) 0) (nrd (gat (I 2201) (A 23)) (I 3107 + 1) k)))) ∧ f9 = 8 ∧ I2 = I ∧ A2 = A) ∨ ((((¬ I 3110 = -1 ∧ (0 < I 3109)) ∧ I 3108 ≤ 131 ∧ fitL (smG (A 32 0) (wOf (A 2) (fPart (I 2407) (A 27) (A 28) (gat (I 2901) (A 30)) (I 3110) 0) (nrd (gat (I 2201) (A 23)) (I 3107 + 1) k)))) ∧ (0 ≤ I 2405 ∧ I 2405 < 2000)) ∧ f9 = 0 ∧ I2 = (upd I 2405 (I 2405 + 1)) ∧ A2 = (upA (upA (upA (upA (upA (upA (upA A 32 0 (smG (A 32 0) (wOf (A 2) (fPart (I 2407) (A 27) (A 28) (gat (I 2901) (A 30)) (I 3110) 0) (nrd (gat (I 2201) (A 23)) (I 3107 + 1) k))).toInt32) 25 (I 2405 * 6).toNatClampNeg (I 2406 - 1)) 25 (I 2405 * 6 + 1).toNatClampNeg (fPart (I 2407) (A 27) (A 28) (gat (I 2901) (A 30)) (I 3110) 0)) 25 (I 2405 * 6 + 2).toNatClampNeg (nrd (gat (I 2201) (A 23)) (I 3107 + 1) k)) 25 (I 2405 * 6 + 3).toNatClampNeg (A 32 0)) 25 (I 2405 * 6 + 4).toNatClampNeg (A 32 1)) 25 (I 2405 * 6 + 5).toNatClampNeg (0))) ∨ ((((¬ I 3110 = -1 ∧ (0 < I 3109)) ∧ I 3108 ≤ 131 ∧ fitL (smG (A 32 0) (wOf (A 2) (fPart (I 2407) (A 27) (A 28) (gat (I 2901) (A 30)) (I 3110) 0) (nrd (gat (I 2201) (A 23)) (I 3107 + 1) k)))) ∧ ¬ (0 ≤ I 2405 ∧ I 2405 < 2000)) ∧ f9 = 9 ∧ I2 = I ∧ A2 = (upA A 32 0 (smG (A 32 0) (wOf (A 2) (fPart (I 2407) (A 27) (A 28) (gat (I 2901) (A 30)) (I 3110) 0) (nrd (gat (I 2201) (A 23)) (I 3107 + 1) k))).toInt32)) ∨ ((((¬ I 3110 = -1 ∧ (0 < I 3109)) ∧ ¬ I 3108 ≤ 131) ∧ (0 ≤ I 2405 ∧ I 2405 < 2000)) ∧ f9 = 0 ∧ I2 = (upd I 2405 (I 2405 + 1)) ∧ A2 = (upA (upA (upA (upA (upA (upA A 25 (I 2405 * 6).toNatClampNeg (I 2406 - 1)) 25 (I 2405 * 6 + 1).toNatClampNeg (fPart (I 2407) (A 27) (A 28) (gat (I 2901) (A 30)) (I 3110) 0)) 25 (I 2405 * 6 + 2).toNatClampNeg (nrd (gat (I 2201) (A 23)) (I 3107 + 1) k)) 25 (I 2405 * 6 + 3).toNatClampNeg (A 32 0)) 25 (I 2405 * 6 + 4).toNatClampNeg (A 32 1)) 25 (I 2405 * 6 + 5).toNatClampNeg (0))) ∨ ((((¬ I 3110 = -1 ∧ (0 < I 3109)) ∧ ¬ I 3108 ≤ 131) ∧ ¬ (0 ≤ I 2405 ∧ I 2405 < 2000)) ∧ f9 = 9 ∧ I2 = I ∧ A2 = A) ∨ (((¬ I 3110 = -1 ∧ (¬ 0 < I 3109)) ∧ I 3108 ≤ 131 ∧ ¬ fitL (smG (A 32 0) (wOf (A 2) (fPart (I 2407) (A 27) (A 28) (gat (I 2901) (A 30)) (I 3110) 0) (I 3108)))) ∧ f9 = 8 ∧ I2 = I ∧ A2 = A) ∨ ((((¬ I 3110 = -1 ∧ (¬ 0 < I 3109)) ∧ I 3108 ≤ 131 ∧ fitL (smG (A 32 0) (wOf (A 2) (fPart (I 2407) (A 27) (A 28) (gat (I 2901) (A 30)) (I 3110) 0) (I 3108)))) ∧ (0 ≤ I 2405 ∧ I 2405 < 2000)) ∧ f9 = 0 ∧ I2 = (upd I 2405 (I 2405 + 1)) ∧ A2 = (upA (upA (upA (upA (upA (upA (upA A 32 0 (smG (A 32 0) (wOf (A 2) (fPart (I 2407) (A 27) (A 28) (gat (I 2901) (A 30)) (I 3110) 0) (I 3108))).toInt32) 25 (I 2405 * 6).toNatClampNeg (I 2406 - 1)) 25 (I 2405 * 6 + 1).toNatClampNeg (fPart (I 2407) (A 27) (A 28) (gat (I 2901) (A 30)) (I 3110) 0)) 25 (I 2405 * 6 + 2).toNatClampNeg (I 3108)) 25 (I 2405 * 6 + 3).toNatClampNeg (A 32 0)) 25 (I 2405 * 6 + 4).toNatClampNeg (A 32 1)) 25 (I 2405 * 6 + 5).toNatClampNeg (0))) ∨ ((((¬ I 3110 = -1 ∧ (¬ 0 < I 3109)) ∧ I 3108 ≤ 131 ∧ fitL (smG (A 32 0) (wOf (A 2) (fPart (I 2407) (A 27) (A 28) (gat (I 2901) (A 30)) (I 3110) 0) (I 3108)))) ∧ ¬ (0 ≤ I 2405 ∧ I 2405 < 2000)) ∧ f9 = 9 ∧ I2 = I ∧ A2 = (upA A 32 0 (smG (A 32 0) (wOf (A 2) (fPart (I 2407) (A 27) (A 28) (gat (I 2901) (A 30)) (I 3110) 0) (I 3108))).toInt32)) ∨ ((((¬ I 3110 = -1 ∧ (¬ 0 < I 3109)) ∧ ¬ I 3108 ≤ 131) ∧ (0 ≤ I 2405 ∧ I 2405 < 2000)) ∧ f9 = 0 ∧ I2 = (upd I 2405 (I 2405 + 1)) ∧ A2 = (upA (upA (upA (upA (upA (upA A 25 (I 2405 * 6).toNatClampNeg (I 2406 - 1)) 25 (I 2405 * 6 + 1).toNatClampNeg (fPart (I 2407) (A 27) (A 28) (gat (I 2901) (A 30)) (I 3110) 0)) 25 (I 2405 * 6 + 2).toNatClampNeg (I 3108)) 25 (I 2405 * 6 + 3).toNatClampNeg (A 32 0)) 25 (I 2405 * 6 + 4).toNatClampNeg (A 32 1)) 25 (I 2405 * 6 + 5).toNatClampNeg (0))) ∨ ((((¬ I 3110 = -1 ∧ (¬ 0 < I 3109)) ∧ ¬ I 3108 ≤ 131) ∧ ¬ (0 ≤ I 2405 ∧ I 2405 < 2000)) ∧ f9 = 9 ∧ I2 = I ∧ A2 = A)
theorem tq_Rd_obeyCharacter {I : mI} {A : mA} {L : mL} {k : Nat} {o : xO} (h : q_Rd_obeyCharacter I A L k o) : ∃ (f9 : Int32) (I2 : mI) (A2 : mA), o = (.inl (some (.int f9)), pic I2 A2 L) ∧ t_Rd_obeyCharacter I A k f9 I2 A2 := by
  rcases h with ⟨h, rfl⟩ | ⟨h, rfl⟩ | ⟨h, rfl⟩ | ⟨h, rfl⟩ | ⟨h, rfl⟩ | ⟨h, rfl⟩ | ⟨h, rfl⟩ | ⟨h, rfl⟩ | ⟨h, rfl⟩ | ⟨h, rfl⟩ | ⟨h, rfl⟩
  · exact ⟨_, _, _, rfl, Or.inl ⟨h, rfl, rfl, rfl⟩⟩
  · exact ⟨_, _, _, rfl, Or.inr (Or.inl ⟨h, rfl, rfl, rfl⟩)⟩
  · exact ⟨_, _, _, rfl, Or.inr (Or.inr (Or.inl ⟨h, rfl, rfl, rfl⟩))⟩
  · exact ⟨_, _, _, rfl, Or.inr (Or.inr (Or.inr (Or.inl ⟨h, rfl, rfl, rfl⟩)))⟩
  · exact ⟨_, _, _, rfl, Or.inr (Or.inr (Or.inr (Or.inr (Or.inl ⟨h, rfl, rfl, rfl⟩))))⟩
  · exact ⟨_, _, _, rfl, Or.inr (Or.inr (Or.inr (Or.inr (Or.inr (Or.inl ⟨h, rfl, rfl, rfl⟩)))))⟩
  · exact ⟨_, _, _, rfl, Or.inr (Or.inr (Or.inr (Or.inr (Or.inr (Or.inr (Or.inl ⟨h, rfl, rfl, rfl⟩))))))⟩
  · exact ⟨_, _, _, rfl, Or.inr (Or.inr (Or.inr (Or.inr (Or.inr (Or.inr (Or.inr (Or.inl ⟨h, rfl, rfl, rfl⟩)))))))⟩
  · exact ⟨_, _, _, rfl, Or.inr (Or.inr (Or.inr (Or.inr (Or.inr (Or.inr (Or.inr (Or.inr (Or.inl ⟨h, rfl, rfl, rfl⟩))))))))⟩
  · exact ⟨_, _, _, rfl, Or.inr (Or.inr (Or.inr (Or.inr (Or.inr (Or.inr (Or.inr (Or.inr (Or.inr (Or.inl ⟨h, rfl, rfl, rfl⟩)))))))))⟩
  · exact ⟨_, _, _, rfl, Or.inr (Or.inr (Or.inr (Or.inr (Or.inr (Or.inr (Or.inr (Or.inr (Or.inr (Or.inr (⟨h, rfl, rfl, rfl⟩))))))))))⟩
theorem gt_Rd_obeyCharacter {I I2 : mI} {A A2 : mA} {k : Nat} {f : Int32} (h : t_Rd_obeyCharacter I A k f I2 A2) : frI [2405, 2406, 2408, 2409, 2410, 2411, 3105, 3106, 3110, 3111, 3112, 3113] I I2 ∧ frA [25, 26, 32, 33] A A2 := by
  rcases h with ⟨-, -, rfl, rfl⟩ | ⟨-, -, rfl, rfl⟩ | ⟨-, -, rfl, rfl⟩ | ⟨-, -, rfl, rfl⟩ | ⟨-, -, rfl, rfl⟩ | ⟨-, -, rfl, rfl⟩ | ⟨-, -, rfl, rfl⟩ | ⟨-, -, rfl, rfl⟩ | ⟨-, -, rfl, rfl⟩ | ⟨-, -, rfl, rfl⟩ | ⟨-, -, rfl, rfl⟩
  · exact ⟨(by repeat (first | exact frI_rf | refine frI_u ?_ (by decide))), (by repeat (first | exact frA_rf | refine frA_u ?_ (by decide) | refine frA_uf ?_ (by decide)))⟩
  · exact ⟨(by repeat (first | exact frI_rf | refine frI_u ?_ (by decide))), (by repeat (first | exact frA_rf | refine frA_u ?_ (by decide) | refine frA_uf ?_ (by decide)))⟩
  · exact ⟨(by repeat (first | exact frI_rf | refine frI_u ?_ (by decide))), (by repeat (first | exact frA_rf | refine frA_u ?_ (by decide) | refine frA_uf ?_ (by decide)))⟩
  · exact ⟨(by repeat (first | exact frI_rf | refine frI_u ?_ (by decide))), (by repeat (first | exact frA_rf | refine frA_u ?_ (by decide) | refine frA_uf ?_ (by decide)))⟩
  · exact ⟨(by repeat (first | exact frI_rf | refine frI_u ?_ (by decide))), (by repeat (first | exact frA_rf | refine frA_u ?_ (by decide) | refine frA_uf ?_ (by decide)))⟩
  · exact ⟨(by repeat (first | exact frI_rf | refine frI_u ?_ (by decide))), (by repeat (first | exact frA_rf | refine frA_u ?_ (by decide) | refine frA_uf ?_ (by decide)))⟩
  · exact ⟨(by repeat (first | exact frI_rf | refine frI_u ?_ (by decide))), (by repeat (first | exact frA_rf | refine frA_u ?_ (by decide) | refine frA_uf ?_ (by decide)))⟩
  · exact ⟨(by repeat (first | exact frI_rf | refine frI_u ?_ (by decide))), (by repeat (first | exact frA_rf | refine frA_u ?_ (by decide) | refine frA_uf ?_ (by decide)))⟩
  · exact ⟨(by repeat (first | exact frI_rf | refine frI_u ?_ (by decide))), (by repeat (first | exact frA_rf | refine frA_u ?_ (by decide) | refine frA_uf ?_ (by decide)))⟩
  · exact ⟨(by repeat (first | exact frI_rf | refine frI_u ?_ (by decide))), (by repeat (first | exact frA_rf | refine frA_u ?_ (by decide) | refine frA_uf ?_ (by decide)))⟩
  · exact ⟨(by repeat (first | exact frI_rf | refine frI_u ?_ (by decide))), (by repeat (first | exact frA_rf | refine frA_u ?_ (by decide) | refine frA_uf ?_ (by decide)))⟩
def t_Rd_obeyBegin (I : mI) (A : mA)  (f9 : Int32) (I2 : mI) (A2 : mA) : Prop := ((¬ nrd (gat (I 2201) (A 23)) (I 3107 + 1 + 40) 4 = I 3111) ∧ f9 = 5 ∧ I2 = I ∧ A2 = A) ∨ ((nrd (gat (I 2201) (A 23)) (I 3107 + 1 + 40) 4 = I 3111 ∧ ¬ (0 ≤ I 2406 ∧ I 2406 < 1300)) ∧ f9 = 9 ∧ I2 = I ∧ A2 = A) ∨ ((nrd (gat (I 2201) (A 23)) (I 3107 + 1 + 40) 4 = I 3111 ∧ (0 ≤ I 2406 ∧ I 2406 < 1300)) ∧ f9 = 0 ∧ I2 = (upd (upd (upd (upd (upd I 2406 (I 2406 + 1)) 3111 (I 3107)) 3106 2) 3110 (-1)) 3105 0) ∧ A2 = (upA (upA (upA (upA (upA (upA (upAf A 26 (pgF (gat (I 2201) (A 23)) (I 3107 + 1) (I 2406) 10 0 (A 26))) 32 0 0) 32 1 0) 32 2 0) 32 3 0) 32 4 0) 32 5 0))
theorem tq_Rd_obeyBegin {I : mI} {A : mA} {L : mL}  {o : xO} (h : q_Rd_obeyBegin I A L  o) : ∃ (f9 : Int32) (I2 : mI) (A2 : mA), o = (.inl (some (.int f9)), pic I2 A2 L) ∧ t_Rd_obeyBegin I A  f9 I2 A2 := by
  rcases h with ⟨h, rfl⟩ | ⟨h, rfl⟩ | ⟨h, rfl⟩
  · exact ⟨_, _, _, rfl, Or.inl ⟨h, rfl, rfl, rfl⟩⟩
  · exact ⟨_, _, _, rfl, Or.inr (Or.inl ⟨h, rfl, rfl, rfl⟩)⟩
  · exact ⟨_, _, _, rfl, Or.inr (Or.inr (⟨h, rfl, rfl, rfl⟩))⟩
theorem gt_Rd_obeyBegin {I I2 : mI} {A A2 : mA} {f : Int32} (h : t_Rd_obeyBegin I A f I2 A2) : frI [2405, 2406, 2408, 2409, 2410, 2411, 3105, 3106, 3110, 3111, 3112, 3113] I I2 ∧ frA [25, 26, 32, 33] A A2 := by
  rcases h with ⟨-, -, rfl, rfl⟩ | ⟨-, -, rfl, rfl⟩ | ⟨-, -, rfl, rfl⟩
  · exact ⟨(by repeat (first | exact frI_rf | refine frI_u ?_ (by decide))), (by repeat (first | exact frA_rf | refine frA_u ?_ (by decide) | refine frA_uf ?_ (by decide)))⟩
  · exact ⟨(by repeat (first | exact frI_rf | refine frI_u ?_ (by decide))), (by repeat (first | exact frA_rf | refine frA_u ?_ (by decide) | refine frA_uf ?_ (by decide)))⟩
  · exact ⟨(by repeat (first | exact frI_rf | refine frI_u ?_ (by decide))), (by repeat (first | exact frA_rf | refine frA_u ?_ (by decide) | refine frA_uf ?_ (by decide)))⟩
def t_Rd_obeyPush (I : mI) (A : mA)  (f9 : Int32) (I2 : mI) (A2 : mA) : Prop := ((¬ (0 ≤ I 3105 ∧ I 3105 < 100)) ∧ f9 = 4 ∧ I2 = I ∧ A2 = A) ∨ ((0 ≤ I 3105 ∧ I 3105 < 100) ∧ f9 = 0 ∧ I2 = (upd (upd I 3105 (I 3105 + 1)) 2411 (if I 2411 < I 3105 + 1 then I 3105 + 1 else I 2411)) ∧ A2 = (upA (upA (upA (upA (upA (upA A 33 (I 3105 * 6 + 0).toNatClampNeg (A 32 0)) 33 (I 3105 * 6 + 1).toNatClampNeg (A 32 1)) 33 (I 3105 * 6 + 2).toNatClampNeg (A 32 2)) 33 (I 3105 * 6 + 3).toNatClampNeg (A 32 3)) 33 (I 3105 * 6 + 4).toNatClampNeg (A 32 4)) 33 (I 3105 * 6 + 5).toNatClampNeg (A 32 5)))
theorem tq_Rd_obeyPush {I : mI} {A : mA} {L : mL}  {o : xO} (h : q_Rd_obeyPush I A L  o) : ∃ (f9 : Int32) (I2 : mI) (A2 : mA), o = (.inl (some (.int f9)), pic I2 A2 L) ∧ t_Rd_obeyPush I A  f9 I2 A2 := by
  rcases h with ⟨h, rfl⟩ | ⟨h, rfl⟩
  · exact ⟨_, _, _, rfl, Or.inl ⟨h, rfl, rfl, rfl⟩⟩
  · exact ⟨_, _, _, rfl, Or.inr (⟨h, rfl, rfl, rfl⟩)⟩
theorem gt_Rd_obeyPush {I I2 : mI} {A A2 : mA} {f : Int32} (h : t_Rd_obeyPush I A f I2 A2) : frI [2405, 2406, 2408, 2409, 2410, 2411, 3105, 3106, 3110, 3111, 3112, 3113] I I2 ∧ frA [25, 26, 32, 33] A A2 := by
  rcases h with ⟨-, -, rfl, rfl⟩ | ⟨-, -, rfl, rfl⟩
  · exact ⟨(by repeat (first | exact frI_rf | refine frI_u ?_ (by decide))), (by repeat (first | exact frA_rf | refine frA_u ?_ (by decide) | refine frA_uf ?_ (by decide)))⟩
  · exact ⟨(by repeat (first | exact frI_rf | refine frI_u ?_ (by decide))), (by repeat (first | exact frA_rf | refine frA_u ?_ (by decide) | refine frA_uf ?_ (by decide)))⟩
def t_Rd_obeyPop (I : mI) (A : mA)  (f9 : Int32) (I2 : mI) (A2 : mA) : Prop := ((¬ (1 ≤ I 3105 ∧ I 3105 ≤ 100)) ∧ f9 = 4 ∧ I2 = I ∧ A2 = A) ∨ ((1 ≤ I 3105 ∧ I 3105 ≤ 100) ∧ f9 = 0 ∧ I2 = (upd I 3105 (I 3105 - 1)) ∧ A2 = (upAf A 32 (ppF (A 33) (I 3105 - 1) 6 0 (A 32))))
theorem tq_Rd_obeyPop {I : mI} {A : mA} {L : mL}  {o : xO} (h : q_Rd_obeyPop I A L  o) : ∃ (f9 : Int32) (I2 : mI) (A2 : mA), o = (.inl (some (.int f9)), pic I2 A2 L) ∧ t_Rd_obeyPop I A  f9 I2 A2 := by
  rcases h with ⟨h, rfl⟩ | ⟨h, rfl⟩
  · exact ⟨_, _, _, rfl, Or.inl ⟨h, rfl, rfl, rfl⟩⟩
  · exact ⟨_, _, _, rfl, Or.inr (⟨h, rfl, rfl, rfl⟩)⟩
theorem gt_Rd_obeyPop {I I2 : mI} {A A2 : mA} {f : Int32} (h : t_Rd_obeyPop I A f I2 A2) : frI [2405, 2406, 2408, 2409, 2410, 2411, 3105, 3106, 3110, 3111, 3112, 3113] I I2 ∧ frA [25, 26, 32, 33] A A2 := by
  rcases h with ⟨-, -, rfl, rfl⟩ | ⟨-, -, rfl, rfl⟩
  · exact ⟨(by repeat (first | exact frI_rf | refine frI_u ?_ (by decide))), (by repeat (first | exact frA_rf | refine frA_u ?_ (by decide) | refine frA_uf ?_ (by decide)))⟩
  · exact ⟨(by repeat (first | exact frI_rf | refine frI_u ?_ (by decide))), (by repeat (first | exact frA_rf | refine frA_u ?_ (by decide) | refine frA_uf ?_ (by decide)))⟩
def t_Rd_obeyLast (I : mI) (A : mA)  (f9 : Int32) (I2 : mI) (A2 : mA) : Prop := ((¬ nrd (gat (I 2201) (A 23)) (I 3107 + 1) 4 = I 3111) ∧ f9 = 5 ∧ I2 = I ∧ A2 = A) ∨ ((nrd (gat (I 2201) (A 23)) (I 3107 + 1) 4 = I 3111 ∧ ¬ (nrd (gat (I 2201) (A 23)) (I 3107 + 5 + 4 * 0) 4 = nrd (gat (I 2201) (A 23)) (2 + 4 * 0) 4 ∧ nrd (gat (I 2201) (A 23)) (I 3107 + 5 + 4 * 1) 4 = nrd (gat (I 2201) (A 23)) (2 + 4 * 1) 4 ∧ nrd (gat (I 2201) (A 23)) (I 3107 + 5 + 4 * 2) 4 = nrd (gat (I 2201) (A 23)) (2 + 4 * 2) 4 ∧ nrd (gat (I 2201) (A 23)) (I 3107 + 27) 2 = (I 2406 &&& 65535))) ∧ f9 = 6 ∧ I2 = I ∧ A2 = A) ∨ ((nrd (gat (I 2201) (A 23)) (I 3107 + 1) 4 = I 3111 ∧ nrd (gat (I 2201) (A 23)) (I 3107 + 5 + 4 * 0) 4 = nrd (gat (I 2201) (A 23)) (2 + 4 * 0) 4 ∧ nrd (gat (I 2201) (A 23)) (I 3107 + 5 + 4 * 1) 4 = nrd (gat (I 2201) (A 23)) (2 + 4 * 1) 4 ∧ nrd (gat (I 2201) (A 23)) (I 3107 + 5 + 4 * 2) 4 = nrd (gat (I 2201) (A 23)) (2 + 4 * 2) 4 ∧ nrd (gat (I 2201) (A 23)) (I 3107 + 27) 2 = (I 2406 &&& 65535)) ∧ f9 = 0 ∧ I2 = (upd (upd (upd (upd I 2409 (nrd (gat (I 2201) (A 23)) (I 3107 + 17) 4)) 2410 (nrd (gat (I 2201) (A 23)) (I 3107 + 21) 4)) 3112 (I 3107)) 3106 3) ∧ A2 = A)
theorem tq_Rd_obeyLast {I : mI} {A : mA} {L : mL}  {o : xO} (h : q_Rd_obeyLast I A L  o) : ∃ (f9 : Int32) (I2 : mI) (A2 : mA), o = (.inl (some (.int f9)), pic I2 A2 L) ∧ t_Rd_obeyLast I A  f9 I2 A2 := by
  rcases h with ⟨h, rfl⟩ | ⟨h, rfl⟩ | ⟨h, rfl⟩
  · exact ⟨_, _, _, rfl, Or.inl ⟨h, rfl, rfl, rfl⟩⟩
  · exact ⟨_, _, _, rfl, Or.inr (Or.inl ⟨h, rfl, rfl, rfl⟩)⟩
  · exact ⟨_, _, _, rfl, Or.inr (Or.inr (⟨h, rfl, rfl, rfl⟩))⟩
theorem gt_Rd_obeyLast {I I2 : mI} {A A2 : mA} {f : Int32} (h : t_Rd_obeyLast I A f I2 A2) : frI [2405, 2406, 2408, 2409, 2410, 2411, 3105, 3106, 3110, 3111, 3112, 3113] I I2 ∧ frA [25, 26, 32, 33] A A2 := by
  rcases h with ⟨-, -, rfl, rfl⟩ | ⟨-, -, rfl, rfl⟩ | ⟨-, -, rfl, rfl⟩
  · exact ⟨(by repeat (first | exact frI_rf | refine frI_u ?_ (by decide))), (by repeat (first | exact frA_rf | refine frA_u ?_ (by decide) | refine frA_uf ?_ (by decide)))⟩
  · exact ⟨(by repeat (first | exact frI_rf | refine frI_u ?_ (by decide))), (by repeat (first | exact frA_rf | refine frA_u ?_ (by decide) | refine frA_uf ?_ (by decide)))⟩
  · exact ⟨(by repeat (first | exact frI_rf | refine frI_u ?_ (by decide))), (by repeat (first | exact frA_rf | refine frA_u ?_ (by decide) | refine frA_uf ?_ (by decide)))⟩
def t_Rd_obeyDefinition (I : mI) (A : mA) (k : Nat) (N : List Int32) (f : Int32) (I2 : mI) (A2 : mA) : Prop := (¬ (ffR (A 27) (nrd (gat (I 2201) (A 23)) (I 3107 + 1) k) (I 2407).toInt.toNat 0) = -1 ∧ sameD I A (ffR (A 27) (nrd (gat (I 2201) (A 23)) (I 3107 + 1) k) (I 2407).toInt.toNat 0) (I 3107 + 1 + I 3109) ∧ f = 0 ∧ I2 = I ∧ A2 = A) ∨ (¬ (ffR (A 27) (nrd (gat (I 2201) (A 23)) (I 3107 + 1) k) (I 2407).toInt.toNat 0) = -1 ∧ ¬ sameD I A (ffR (A 27) (nrd (gat (I 2201) (A 23)) (I 3107 + 1) k) (I 2407).toInt.toNat 0) (I 3107 + 1 + I 3109) ∧ f = 3 ∧ I2 = I ∧ A2 = A) ∨ ((ffR (A 27) (nrd (gat (I 2201) (A 23)) (I 3107 + 1) k) (I 2407).toInt.toNat 0) = -1 ∧ I 3106 = 3 ∧ f = 3 ∧ I2 = I ∧ A2 = A) ∨ ((ffR (A 27) (nrd (gat (I 2201) (A 23)) (I 3107 + 1) k) (I 2407).toInt.toNat 0) = -1 ∧ ¬ I 3106 = 3 ∧ ¬ (0 ≤ I 2407 ∧ I 2407 < 256) ∧ f = 9 ∧ I2 = I ∧ A2 = A) ∨ ((ffR (A 27) (nrd (gat (I 2201) (A 23)) (I 3107 + 1) k) (I 2407).toInt.toNat 0) = -1 ∧ ¬ I 3106 = 3 ∧ (0 ≤ I 2407 ∧ I 2407 < 256) ∧ ∃ I', f = 0 ∧ I2 = upd I' 2407 (I' 2407 + 1) ∧ frI [2901] I I' ∧ frA [30] (upA (upA (upA (upA (upA (upA A 27 (I 2407 * 5).toNatClampNeg (nrd (gat (I 2201) (A 23)) (I 3107 + 1) k)) 27 (I 2407 * 5 + 1 + 0).toNatClampNeg (nrd (gat (I 2201) (A 23)) ((I 3107 + 1 + I 3109) + 4 * 0) 4)) 27 (I 2407 * 5 + 1 + 1).toNatClampNeg (nrd (gat (I 2201) (A 23)) ((I 3107 + 1 + I 3109) + 4 * 1) 4)) 27 (I 2407 * 5 + 1 + 2).toNatClampNeg (nrd (gat (I 2201) (A 23)) ((I 3107 + 1 + I 3109) + 4 * 2) 4)) 27 (I 2407 * 5 + 4).toNatClampNeg ((gat (I 2201) (A 23)) ((I 3107 + 1 + I 3109) + 12) + (gat (I 2201) (A 23)) ((I 3107 + 1 + I 3109) + 13))) 28 (I 2407).toNatClampNeg (I 2901)) A2 ∧ isB (I' 2901) (A2 30) (app N (nmL (fun j => (gat (I 2201) (A 23)) ((I 3107 + 1 + I 3109) + 14 + Int32.ofNat j)) ((gat (I 2201) (A 23)) ((I 3107 + 1 + I 3109) + 12) + (gat (I 2201) (A 23)) ((I 3107 + 1 + I 3109) + 13)).toInt.toNat 0)))
theorem tq_Rd_obeyDefinition {I : mI} {A : mA} {L : mL} {k : Nat} {N : List Int32} {o : xO} (h : q_Rd_obeyDefinition I A L k N o) : ∃ (f : Int32) (I2 : mI) (A2 : mA), o = (.inl (some (.int f)), pic I2 A2 L) ∧ t_Rd_obeyDefinition I A k N f I2 A2 := by
  rcases h with ⟨h1, h2, rfl⟩ | ⟨h1, h2, rfl⟩ | ⟨h1, h2, rfl⟩ | ⟨h1, h2, h3, rfl⟩ | ⟨h1, h2, h3, I9, A9, rfl, k1, k2, k3⟩
  · exact ⟨_, _, _, rfl, Or.inl ⟨h1, h2, rfl, rfl, rfl⟩⟩
  · exact ⟨_, _, _, rfl, Or.inr (Or.inl ⟨h1, h2, rfl, rfl, rfl⟩)⟩
  · exact ⟨_, _, _, rfl, Or.inr (Or.inr (Or.inl ⟨h1, h2, rfl, rfl, rfl⟩))⟩
  · exact ⟨_, _, _, rfl, Or.inr (Or.inr (Or.inr (Or.inl ⟨h1, h2, h3, rfl, rfl, rfl⟩)))⟩
  · exact ⟨_, _, _, rfl, Or.inr (Or.inr (Or.inr (Or.inr ⟨h1, h2, h3, I9, rfl, rfl, k1, k2, k3⟩)))⟩
theorem gt_Rd_obeyDefinition {I I2 : mI} {A A2 : mA} {k : Nat} {N : List Int32} {f : Int32} (hf : 0 ≤ I 2407 ∧ I 2407 ≤ 256) (hN : isB (I 2901) (A 30) N) (h : t_Rd_obeyDefinition I A k N f I2 A2) : gdT I A I2 A2 := by
  rcases h with ⟨-, -, -, rfl, rfl⟩ | ⟨-, -, -, rfl, rfl⟩ | ⟨-, -, -, rfl, rfl⟩ | ⟨-, -, -, -, rfl, rfl⟩ | ⟨-, -, hb, I9, -, rfl, k1, k2, k3⟩
  · exact gdO_T hf hN ⟨frI_rf, frA_rf⟩
  · exact gdO_T hf hN ⟨frI_rf, frA_rf⟩
  · exact gdO_T hf hN ⟨frI_rf, frA_rf⟩
  · exact gdO_T hf hN ⟨frI_rf, frA_rf⟩
  · refine ⟨frI_u (frI_tr frI_rf k1 (fun _ h => h) (by decide)) (by decide), frA_tr (ks := [25, 26, 32, 33, 27, 28, 30]) (k1 := [25, 26, 32, 33, 27, 28, 30]) (by repeat (first | exact frA_rf | refine frA_u ?_ (by decide) | refine frA_uf ?_ (by decide))) k2 (fun _ h => h) (by decide), ?_, _, k3⟩
    have e : I9 2407 = I 2407 := k1 2407 (by decide)
    show 0 ≤ I9 2407 + 1 ∧ I9 2407 + 1 ≤ 256
    rw [e]
    grind
def t_obey (I : mI) (A : mA) (k : Nat) (N : List Int32) (f9 : Int32) (I2 : mI) (A2 : mA) : Prop := (((I 3106 = 4)) ∧ (f9 = 0 ∧ I2 = (upd I 3113 (I 3113 + 1)) ∧ A2 = A)) ∨ ((¬ I 3106 = 4 ∧ (143 ≤ I 3108 ∧ I 3108 < 171)) ∧ t_Rd_obeyMove I A k  f9 I2 A2) ∨ ((¬ I 3106 = 4 ∧ (171 ≤ I 3108 ∧ I 3108 ≤ 238)) ∧ t_Rd_obeyFont I A k  f9 I2 A2) ∨ ((¬ I 3106 = 4 ∧ (243 ≤ I 3108 ∧ I 3108 ≤ 246)) ∧ t_Rd_obeyDefinition I A k N  f9 I2 A2) ∨ ((¬ I 3106 = 4 ∧ (I 3108 = 132 ∨ I 3108 = 137)) ∧ t_Rd_obeyRule I A  f9 I2 A2) ∨ ((¬ I 3106 = 4 ∧ (I 3108 = 139)) ∧ t_Rd_obeyBegin I A  f9 I2 A2) ∨ ((¬ I 3106 = 4 ∧ (I 3108 = 140 ∧ 0 < I 3105)) ∧ (f9 = 4 ∧ I2 = (upd I 3106 1) ∧ A2 = A)) ∨ ((¬ I 3106 = 4 ∧ (I 3108 = 140 ∧ ¬ 0 < I 3105)) ∧ (f9 = 0 ∧ I2 = (upd I 3106 1) ∧ A2 = A)) ∨ ((¬ I 3106 = 4 ∧ (I 3108 = 141)) ∧ t_Rd_obeyPush I A  f9 I2 A2) ∨ ((¬ I 3106 = 4 ∧ (I 3108 = 142)) ∧ t_Rd_obeyPop I A  f9 I2 A2) ∨ ((¬ I 3106 = 4 ∧ (I 3108 = 247)) ∧ (f9 = 0 ∧ I2 = (upd (upd I 3106 1) 2408 (nrd (gat (I 2201) (A 23)) (I 3107 + 10) 4)) ∧ A2 = A)) ∨ ((¬ I 3106 = 4 ∧ (I 3108 = 248)) ∧ t_Rd_obeyLast I A  f9 I2 A2) ∨ ((¬ I 3106 = 4 ∧ (I 3108 = 249 ∧ nrd (gat (I 2201) (A 23)) (I 3107 + 1) 4 = I 3112)) ∧ (f9 = 0 ∧ I2 = (upd I 3106 4) ∧ A2 = A)) ∨ ((¬ I 3106 = 4 ∧ (I 3108 = 249 ∧ ¬ nrd (gat (I 2201) (A 23)) (I 3107 + 1) 4 = I 3112)) ∧ (f9 = 5 ∧ I2 = (upd I 3106 4) ∧ A2 = A)) ∨ ((¬ I 3106 = 4 ∧ (I 3108 ≤ 136) ∧ (¬ I 3108 = 132 ∧ ¬ I 3108 = 137 ∧ ¬ I 3108 = 139 ∧ ¬ I 3108 = 140 ∧ ¬ I 3108 = 141 ∧ ¬ I 3108 = 142 ∧ ¬ I 3108 = 247 ∧ ¬ I 3108 = 248 ∧ ¬ I 3108 = 249 ∧ ¬ (143 ≤ I 3108 ∧ I 3108 ≤ 246 ∧ ¬ (239 ≤ I 3108 ∧ I 3108 ≤ 242)))) ∧ t_Rd_obeyCharacter I A k  f9 I2 A2) ∨ ((¬ I 3106 = 4 ∧ (136 < I 3108) ∧ (¬ I 3108 = 132 ∧ ¬ I 3108 = 137 ∧ ¬ I 3108 = 139 ∧ ¬ I 3108 = 140 ∧ ¬ I 3108 = 141 ∧ ¬ I 3108 = 142 ∧ ¬ I 3108 = 247 ∧ ¬ I 3108 = 248 ∧ ¬ I 3108 = 249 ∧ ¬ (143 ≤ I 3108 ∧ I 3108 ≤ 246 ∧ ¬ (239 ≤ I 3108 ∧ I 3108 ≤ 242)))) ∧ (f9 = 0 ∧ I2 = I ∧ A2 = A))
theorem tq_obey {I : mI} {A : mA} {L : mL} {k : Nat} {N : List Int32} {o : xO} (h : (((I 3106 = 4)) ∧ o = (.inl (some (.int 0)), pic (upd I 3113 (I 3113 + 1)) A L)) ∨ ((¬ I 3106 = 4 ∧ (143 ≤ I 3108 ∧ I 3108 < 171)) ∧ q_Rd_obeyMove I A L k o) ∨ ((¬ I 3106 = 4 ∧ (171 ≤ I 3108 ∧ I 3108 ≤ 238)) ∧ q_Rd_obeyFont I A L k o) ∨ ((¬ I 3106 = 4 ∧ (243 ≤ I 3108 ∧ I 3108 ≤ 246)) ∧ q_Rd_obeyDefinition I A L k N o) ∨ ((¬ I 3106 = 4 ∧ (I 3108 = 132 ∨ I 3108 = 137)) ∧ q_Rd_obeyRule I A L o) ∨ ((¬ I 3106 = 4 ∧ (I 3108 = 139)) ∧ q_Rd_obeyBegin I A L o) ∨ ((¬ I 3106 = 4 ∧ (I 3108 = 140 ∧ 0 < I 3105)) ∧ o = (.inl (some (.int 4)), pic (upd I 3106 1) A L)) ∨ ((¬ I 3106 = 4 ∧ (I 3108 = 140 ∧ ¬ 0 < I 3105)) ∧ o = (.inl (some (.int 0)), pic (upd I 3106 1) A L)) ∨ ((¬ I 3106 = 4 ∧ (I 3108 = 141)) ∧ q_Rd_obeyPush I A L o) ∨ ((¬ I 3106 = 4 ∧ (I 3108 = 142)) ∧ q_Rd_obeyPop I A L o) ∨ ((¬ I 3106 = 4 ∧ (I 3108 = 247)) ∧ o = (.inl (some (.int 0)), pic (upd (upd I 3106 1) 2408 (nrd (gat (I 2201) (A 23)) (I 3107 + 10) 4)) A L)) ∨ ((¬ I 3106 = 4 ∧ (I 3108 = 248)) ∧ q_Rd_obeyLast I A L o) ∨ ((¬ I 3106 = 4 ∧ (I 3108 = 249 ∧ nrd (gat (I 2201) (A 23)) (I 3107 + 1) 4 = I 3112)) ∧ o = (.inl (some (.int 0)), pic (upd I 3106 4) A L)) ∨ ((¬ I 3106 = 4 ∧ (I 3108 = 249 ∧ ¬ nrd (gat (I 2201) (A 23)) (I 3107 + 1) 4 = I 3112)) ∧ o = (.inl (some (.int 5)), pic (upd I 3106 4) A L)) ∨ ((¬ I 3106 = 4 ∧ (I 3108 ≤ 136) ∧ (¬ I 3108 = 132 ∧ ¬ I 3108 = 137 ∧ ¬ I 3108 = 139 ∧ ¬ I 3108 = 140 ∧ ¬ I 3108 = 141 ∧ ¬ I 3108 = 142 ∧ ¬ I 3108 = 247 ∧ ¬ I 3108 = 248 ∧ ¬ I 3108 = 249 ∧ ¬ (143 ≤ I 3108 ∧ I 3108 ≤ 246 ∧ ¬ (239 ≤ I 3108 ∧ I 3108 ≤ 242)))) ∧ q_Rd_obeyCharacter I A L k o) ∨ ((¬ I 3106 = 4 ∧ (136 < I 3108) ∧ (¬ I 3108 = 132 ∧ ¬ I 3108 = 137 ∧ ¬ I 3108 = 139 ∧ ¬ I 3108 = 140 ∧ ¬ I 3108 = 141 ∧ ¬ I 3108 = 142 ∧ ¬ I 3108 = 247 ∧ ¬ I 3108 = 248 ∧ ¬ I 3108 = 249 ∧ ¬ (143 ≤ I 3108 ∧ I 3108 ≤ 246 ∧ ¬ (239 ≤ I 3108 ∧ I 3108 ≤ 242)))) ∧ o = (.inl (some (.int 0)), pic I A L))) : ∃ (f9 : Int32) (I2 : mI) (A2 : mA), o = (.inl (some (.int f9)), pic I2 A2 L) ∧ t_obey I A k N f9 I2 A2 := by
  rcases h with ⟨h1, h2⟩ | ⟨h1, h2⟩ | ⟨h1, h2⟩ | ⟨h1, h2⟩ | ⟨h1, h2⟩ | ⟨h1, h2⟩ | ⟨h1, h2⟩ | ⟨h1, h2⟩ | ⟨h1, h2⟩ | ⟨h1, h2⟩ | ⟨h1, h2⟩ | ⟨h1, h2⟩ | ⟨h1, h2⟩ | ⟨h1, h2⟩ | ⟨h1, h2⟩ | ⟨h1, h2⟩
  · exact ⟨_, _, _, h2, Or.inl ⟨h1, rfl, rfl, rfl⟩⟩
  · obtain ⟨f, I2, A2, e, h3⟩ := tq_Rd_obeyMove h2
    exact ⟨f, I2, A2, e, Or.inr (Or.inl ⟨h1, h3⟩)⟩
  · obtain ⟨f, I2, A2, e, h3⟩ := tq_Rd_obeyFont h2
    exact ⟨f, I2, A2, e, Or.inr (Or.inr (Or.inl ⟨h1, h3⟩))⟩
  · obtain ⟨f, I2, A2, e, h3⟩ := tq_Rd_obeyDefinition h2
    exact ⟨f, I2, A2, e, Or.inr (Or.inr (Or.inr (Or.inl ⟨h1, h3⟩)))⟩
  · obtain ⟨f, I2, A2, e, h3⟩ := tq_Rd_obeyRule h2
    exact ⟨f, I2, A2, e, Or.inr (Or.inr (Or.inr (Or.inr (Or.inl ⟨h1, h3⟩))))⟩
  · obtain ⟨f, I2, A2, e, h3⟩ := tq_Rd_obeyBegin h2
    exact ⟨f, I2, A2, e, Or.inr (Or.inr (Or.inr (Or.inr (Or.inr (Or.inl ⟨h1, h3⟩)))))⟩
  · exact ⟨_, _, _, h2, Or.inr (Or.inr (Or.inr (Or.inr (Or.inr (Or.inr (Or.inl ⟨h1, rfl, rfl, rfl⟩))))))⟩
  · exact ⟨_, _, _, h2, Or.inr (Or.inr (Or.inr (Or.inr (Or.inr (Or.inr (Or.inr (Or.inl ⟨h1, rfl, rfl, rfl⟩)))))))⟩
  · obtain ⟨f, I2, A2, e, h3⟩ := tq_Rd_obeyPush h2
    exact ⟨f, I2, A2, e, Or.inr (Or.inr (Or.inr (Or.inr (Or.inr (Or.inr (Or.inr (Or.inr (Or.inl ⟨h1, h3⟩))))))))⟩
  · obtain ⟨f, I2, A2, e, h3⟩ := tq_Rd_obeyPop h2
    exact ⟨f, I2, A2, e, Or.inr (Or.inr (Or.inr (Or.inr (Or.inr (Or.inr (Or.inr (Or.inr (Or.inr (Or.inl ⟨h1, h3⟩)))))))))⟩
  · exact ⟨_, _, _, h2, Or.inr (Or.inr (Or.inr (Or.inr (Or.inr (Or.inr (Or.inr (Or.inr (Or.inr (Or.inr (Or.inl ⟨h1, rfl, rfl, rfl⟩))))))))))⟩
  · obtain ⟨f, I2, A2, e, h3⟩ := tq_Rd_obeyLast h2
    exact ⟨f, I2, A2, e, Or.inr (Or.inr (Or.inr (Or.inr (Or.inr (Or.inr (Or.inr (Or.inr (Or.inr (Or.inr (Or.inr (Or.inl ⟨h1, h3⟩)))))))))))⟩
  · exact ⟨_, _, _, h2, Or.inr (Or.inr (Or.inr (Or.inr (Or.inr (Or.inr (Or.inr (Or.inr (Or.inr (Or.inr (Or.inr (Or.inr (Or.inl ⟨h1, rfl, rfl, rfl⟩))))))))))))⟩
  · exact ⟨_, _, _, h2, Or.inr (Or.inr (Or.inr (Or.inr (Or.inr (Or.inr (Or.inr (Or.inr (Or.inr (Or.inr (Or.inr (Or.inr (Or.inr (Or.inl ⟨h1, rfl, rfl, rfl⟩)))))))))))))⟩
  · obtain ⟨f, I2, A2, e, h3⟩ := tq_Rd_obeyCharacter h2
    exact ⟨f, I2, A2, e, Or.inr (Or.inr (Or.inr (Or.inr (Or.inr (Or.inr (Or.inr (Or.inr (Or.inr (Or.inr (Or.inr (Or.inr (Or.inr (Or.inr (Or.inl ⟨h1, h3⟩))))))))))))))⟩
  · exact ⟨_, _, _, h2, Or.inr (Or.inr (Or.inr (Or.inr (Or.inr (Or.inr (Or.inr (Or.inr (Or.inr (Or.inr (Or.inr (Or.inr (Or.inr (Or.inr (Or.inr (⟨h1, rfl, rfl, rfl⟩)))))))))))))))⟩
theorem gt_obey {I I2 : mI} {A A2 : mA} {k : Nat} {N : List Int32} {f : Int32} (hf : 0 ≤ I 2407 ∧ I 2407 ≤ 256) (hN : isB (I 2901) (A 30) N) (h : t_obey I A k N f I2 A2) : gdT I A I2 A2 := by
  rcases h with ⟨-, h⟩ | ⟨-, h⟩ | ⟨-, h⟩ | ⟨-, h⟩ | ⟨-, h⟩ | ⟨-, h⟩ | ⟨-, h⟩ | ⟨-, h⟩ | ⟨-, h⟩ | ⟨-, h⟩ | ⟨-, h⟩ | ⟨-, h⟩ | ⟨-, h⟩ | ⟨-, h⟩ | ⟨-, h⟩ | ⟨-, h⟩
  · obtain ⟨-, rfl, rfl⟩ := h
    exact gdO_T hf hN ⟨(by repeat (first | exact frI_rf | refine frI_u ?_ (by decide))), (by repeat (first | exact frA_rf | refine frA_u ?_ (by decide) | refine frA_uf ?_ (by decide)))⟩
  · exact gdO_T hf hN (gt_Rd_obeyMove h)
  · exact gdO_T hf hN (gt_Rd_obeyFont h)
  · exact gt_Rd_obeyDefinition hf hN h
  · exact gdO_T hf hN (gt_Rd_obeyRule h)
  · exact gdO_T hf hN (gt_Rd_obeyBegin h)
  · obtain ⟨-, rfl, rfl⟩ := h
    exact gdO_T hf hN ⟨(by repeat (first | exact frI_rf | refine frI_u ?_ (by decide))), (by repeat (first | exact frA_rf | refine frA_u ?_ (by decide) | refine frA_uf ?_ (by decide)))⟩
  · obtain ⟨-, rfl, rfl⟩ := h
    exact gdO_T hf hN ⟨(by repeat (first | exact frI_rf | refine frI_u ?_ (by decide))), (by repeat (first | exact frA_rf | refine frA_u ?_ (by decide) | refine frA_uf ?_ (by decide)))⟩
  · exact gdO_T hf hN (gt_Rd_obeyPush h)
  · exact gdO_T hf hN (gt_Rd_obeyPop h)
  · obtain ⟨-, rfl, rfl⟩ := h
    exact gdO_T hf hN ⟨(by repeat (first | exact frI_rf | refine frI_u ?_ (by decide))), (by repeat (first | exact frA_rf | refine frA_u ?_ (by decide) | refine frA_uf ?_ (by decide)))⟩
  · exact gdO_T hf hN (gt_Rd_obeyLast h)
  · obtain ⟨-, rfl, rfl⟩ := h
    exact gdO_T hf hN ⟨(by repeat (first | exact frI_rf | refine frI_u ?_ (by decide))), (by repeat (first | exact frA_rf | refine frA_u ?_ (by decide) | refine frA_uf ?_ (by decide)))⟩
  · obtain ⟨-, rfl, rfl⟩ := h
    exact gdO_T hf hN ⟨(by repeat (first | exact frI_rf | refine frI_u ?_ (by decide))), (by repeat (first | exact frA_rf | refine frA_u ?_ (by decide) | refine frA_uf ?_ (by decide)))⟩
  · exact gdO_T hf hN (gt_Rd_obeyCharacter h)
  · obtain ⟨-, rfl, rfl⟩ := h
    exact gdO_T hf hN ⟨(by repeat (first | exact frI_rf | refine frI_u ?_ (by decide))), (by repeat (first | exact frA_rf | refine frA_u ?_ (by decide) | refine frA_uf ?_ (by decide)))⟩

abbrev cdI (I : mI) (A : mA) : mI := upd (upd I 3108 (gat (I 2201) (A 23) (I 3107))) 3109 (nbF (gat (I 2201) (A 23) (I 3107)))
abbrev cdK (I : mI) (A : mA) : Nat := (nbF (gat (I 2201) (A 23) (I 3107))).toInt.toNat
abbrev cdB (I : mI) (A : mA) : Int32 := bhF (gat (I 2201) (A 23)) (I 2201) (I 3107) (gat (I 2201) (A 23) (I 3107)) (nbF (gat (I 2201) (A 23) (I 3107))) (cdK I A)
abbrev cdS (I : mI) (A : mA) : Prop := csF (gat (I 2201) (A 23)) (I 3106) (gat (I 2201) (A 23) (I 3107)) (I 3107)
def rdC : Nat → mI → mA → Int32 → mI → mA → Prop
  | 0, I, A, r, I', A' => I' = I ∧ A' = A ∧ r = (if I 3113 < 4 then 2 else 0)
  | t + 1, I, A, r, I', A' => (¬ I 3107 < I 2201 ∧ I' = I ∧ A' = A ∧ r = (if I 3113 < 4 then 2 else 0)) ∨ (I 3107 < I 2201 ∧ cdB I A < 0 ∧ r = 1 ∧ I' = cdI I A ∧ A' = A) ∨ (I 3107 < I 2201 ∧ ¬ cdB I A < 0 ∧ ¬ cdS I A ∧ r = 2 ∧ I' = cdI I A ∧ A' = A) ∨
    (I 3107 < I 2201 ∧ ¬ cdB I A < 0 ∧ cdS I A ∧ ∃ (f : Int32) (I2 : mI) (A2 : mA) (N : List Int32), isB (I 2901) (A 30) N ∧ t_obey (cdI I A) A (cdK I A) N f I2 A2 ∧ ((¬ f = 0 ∧ r = f ∧ I' = I2 ∧ A' = A2) ∨ (f = 0 ∧ rdC t (upd I2 3107 (I2 3107 + (1 + cdB I A))) A2 r I' A')))
theorem nbF_k {c : Int32} : (nbF c).toInt = ((nbF c).toInt.toNat : Int) ∧ (nbF c).toInt.toNat ≤ 4 := by
  have h := nbF_r (c := c)
  rw [i_le, i_le, z0, show (4 : Int32).toInt = 4 from rfl] at h
  omega
def rcQ (I : mI) (A : mA) (L : mL) (t : Nat) : xO → Prop := fun o => ∃ (r : Int32) (I' : mI) (A' : mA), o = (.inl (some (.int r)), pic I' A' L) ∧ rdC t I A r I' A' ∧ frI [2405, 2406, 2408, 2409, 2410, 2411, 3105, 3106, 3110, 3111, 3112, 3113, 2407, 2901, 3107, 3108, 3109] I I' ∧ frA [25, 26, 32, 33, 27, 28, 30] A A' ∧ (0 ≤ I' 2407 ∧ I' 2407 ≤ 256) ∧ ∃ N', isB (I' 2901) (A' 30) N'

def obT (I : mI) (A : mA) (L : mL) (k : Nat) (N : List Int32) : xO → Prop := fun o => ∃ (f9 : Int32) (I2 : mI) (A2 : mA), o = (.inl (some (.int f9)), pic I2 A2 L) ∧ t_obey I A k N f9 I2 A2
theorem n_Rd_obey {I : mI} {A : mA} {L : mL} {k : Nat} {N : List Int32} (hw : (I 3109).toInt = (k : Int)) (hk : k ≤ 4) (hf0 : 0 ≤ I 2407) (hf1 : I 2407 ≤ 256) (hN : isB (I 2901) (A 30) N) : xm m_Rd_obey (4, 94) [.ref 31] (pic I A L) 0 0 (obT I A L k N) := xm_mono (c_Rd_obey_31 (k := k) (N := N) hw hk hf0 hf1 hN) (fun _ h => tq_obey h)
set_option maxHeartbeats 1000000 in
theorem l_Rd_rc {L : mL} {n : Nat} {n9 : Int32} (hn : n ≤ 70000) (hn9 : n9.toInt = (n : Int)) : ∀ (t j : Nat) (I : mI) (A : mA) (N : List Int32) (x3 x4 : Option Value), j + t = n → I 2201 = n9 → (0 ≤ I 2407 ∧ I 2407 ≤ 256) → isB (I 2901) (A 30) N → xr m_Rd_readCommands none (5, 114) 10 [some (.ref 31), some (.int n9), some (.int (Int32.ofNat j)), x3, x4] [] (pic I A L) 0 0 (rcQ I A L t) := by
  intro t
  induction t with
  | zero =>
    intro j I A N x3 x4 hj h22 hf hN
    refine xr_iload_n D_Rd_readCommands_10 rfl rfl ?_
    refine xr_iload_n D_Rd_readCommands_11 rfl rfl ?_
    refine xr_icmp_ge (tgt := 103) D_Rd_readCommands_12 rfl (fun c1 => ?_) (fun c1 => ?_)
    · refine xr_aload_n D_Rd_readCommands_103 rfl rfl ?_
      refine xr_getf F_Rd_45 D_Rd_readCommands_104 rfl rfl ?_
      refine xr_iconst (v := 4) D_Rd_readCommands_107 rfl ?_
      refine xr_icmp_ge (tgt := 115) D_Rd_readCommands_108 rfl (fun c2 => ?_) (fun c2 => ?_)
      · refine xr_iconst (v := 0) D_Rd_readCommands_115 rfl ?_
        refine xr_iret rfl D_Rd_readCommands_116 ?_
        exact ⟨_, I, A, rfl, ⟨rfl, rfl, (if_neg (by grind)).symm⟩, frI_rf, frA_rf, hf, N, hN⟩
      · refine xr_iconst (v := 2) D_Rd_readCommands_111 rfl ?_
        refine xr_goto (tgt := 116) D_Rd_readCommands_112 rfl ?_
        refine xr_iret rfl D_Rd_readCommands_116 ?_
        exact ⟨_, I, A, rfl, ⟨rfl, rfl, (if_pos (by grind)).symm⟩, frI_rf, frA_rf, hf, N, hN⟩
    · exact absurd (i_le.mpr (by rw [hn9, i_of (by omega)]; omega)) c1
  | succ t ih =>
    intro j I A N x3 x4 hj h22 hf hN
    subst h22
    refine xr_iload_n D_Rd_readCommands_10 rfl rfl ?_
    refine xr_iload_n D_Rd_readCommands_11 rfl rfl ?_
    refine xr_icmp_ge (tgt := 103) D_Rd_readCommands_12 rfl (fun c1 => ?_) (fun c1 => ?_)
    · exact absurd c1 (fun q => by rw [i_le, hn9, i_of (by omega)] at q; omega)
    · refine xr_aload_n D_Rd_readCommands_15 rfl rfl ?_
      refine xr_getf F_Rd_39 D_Rd_readCommands_16 rfl rfl ?_
      refine xr_iload_n D_Rd_readCommands_19 rfl rfl ?_
      refine xr_icmp_ge (tgt := 103) D_Rd_readCommands_20 rfl (fun c2 => ?_) (fun c2 => ?_)
      · refine xr_aload_n D_Rd_readCommands_103 rfl rfl ?_
        refine xr_getf F_Rd_45 D_Rd_readCommands_104 rfl rfl ?_
        refine xr_iconst (v := 4) D_Rd_readCommands_107 rfl ?_
        refine xr_icmp_ge (tgt := 115) D_Rd_readCommands_108 rfl (fun c3 => ?_) (fun c3 => ?_)
        · refine xr_iconst (v := 0) D_Rd_readCommands_115 rfl ?_
          refine xr_iret rfl D_Rd_readCommands_116 ?_
          exact ⟨_, I, A, rfl, Or.inl ⟨by grind, rfl, rfl, (if_neg (by grind)).symm⟩, frI_rf, frA_rf, hf, N, hN⟩
        · refine xr_iconst (v := 2) D_Rd_readCommands_111 rfl ?_
          refine xr_goto (tgt := 116) D_Rd_readCommands_112 rfl ?_
          refine xr_iret rfl D_Rd_readCommands_116 ?_
          exact ⟨_, I, A, rfl, Or.inl ⟨by grind, rfl, rfl, (if_pos (by grind)).symm⟩, frI_rf, frA_rf, hf, N, hN⟩
      · refine xr_aload_n D_Rd_readCommands_23 rfl rfl ?_
        refine xr_aload_n D_Rd_readCommands_24 rfl rfl ?_
        refine xr_getf F_Rd_18 D_Rd_readCommands_25 rfl rfl ?_
        refine xr_aload_n D_Rd_readCommands_28 rfl rfl ?_
        refine xr_getf F_Rd_39 D_Rd_readCommands_29 rfl rfl ?_
        refine xr_cVx (as := [_]) (c_By_at_22) (L_Rd_54) (CD_By_at) CI_By D_Rd_readCommands_32 rfl rfl (by decide) (Nat.le_of_ble_eq_true rfl) (Nat.le_of_eq (Nat.zero_add _)) (Nat.le_of_eq (Nat.zero_add _)) pic_len ?_
        rintro _ rfl
        refine ⟨_, _, rfl, pic_leq, ?_⟩
        refine xr_putf F_Rd_57 FT_Rd FN_Rd_8 D_Rd_readCommands_35 rfl (Nat.le_of_ble_eq_true rfl) rfl rfl (pset_31_8) ?_
        refine xr_aload_n D_Rd_readCommands_38 rfl rfl ?_
        refine xr_aload_n D_Rd_readCommands_39 rfl rfl ?_
        refine xr_getf F_Rd_57 D_Rd_readCommands_40 rfl rfl ?_
        refine xr_cSx (as := [_]) (c_Rd_bytesOfNumber) (L_Rd_60) (CD_Rd_bytesOfNumber) D_Rd_readCommands_43 rfl (by decide) (Nat.le_of_ble_eq_true rfl) (Nat.le_of_eq (Nat.zero_add _)) (Nat.le_of_eq (Nat.zero_add _)) pic_len ?_
        rintro _ rfl
        refine ⟨_, _, rfl, pic_leq, ?_⟩
        refine xr_putf F_Rd_63 FT_Rd FN_Rd_9 D_Rd_readCommands_46 rfl (Nat.le_of_ble_eq_true rfl) rfl rfl (pset_31_9) ?_
        show xr m_Rd_readCommands none _ 49 _ _ (pic (cdI I A) A L) 0 0 _
        refine xr_aload_n D_Rd_readCommands_49 rfl rfl ?_
        refine xr_cVx (as := []) (c_Rd_bytesBehind_31 (k := cdK I A) nbF_k.1 nbF_k.2) (L_Rd_66) (CD_Rd_bytesBehind) CI_Rd D_Rd_readCommands_50 rfl rfl (by decide) (Nat.le_of_ble_eq_true rfl) (Nat.le_of_eq (Nat.zero_add _)) (Nat.le_of_eq (Nat.zero_add _)) pic_len ?_
        rintro _ rfl
        refine ⟨_, _, rfl, pic_leq, ?_⟩
        refine xr_istore_n D_Rd_readCommands_53 rfl (by decide) ?_
        refine xr_iload_n D_Rd_readCommands_54 rfl rfl ?_
        refine xr_if_ge (tgt := 60) D_Rd_readCommands_55 rfl (fun c3 => ?_) (fun c3 => ?_)
        · refine xr_aload_n D_Rd_readCommands_60 rfl rfl ?_
          refine xr_cVx (as := []) (c_Rd_canStand_31) (L_Rd_69) (CD_Rd_canStand) CI_Rd D_Rd_readCommands_61 rfl rfl (by decide) (Nat.le_of_ble_eq_true rfl) (Nat.le_of_eq (Nat.zero_add _)) (Nat.le_of_eq (Nat.zero_add _)) pic_len ?_
          rintro _ rfl
          refine ⟨_, _, rfl, pic_leq, ?_⟩
          refine xr_if_eq (tgt := 74) D_Rd_readCommands_64 rfl (fun c4 => ?_) (fun c4 => ?_)
          · rw [b2_0] at c4
            refine xr_iconst (v := 2) D_Rd_readCommands_74 rfl ?_
            refine xr_istore D_Rd_readCommands_75 (by decide) ?_
            refine xr_iload D_Rd_readCommands_77 rfl ?_
            refine xr_if_eq (tgt := 85) D_Rd_readCommands_79 rfl (fun c5 => ?_) (fun c5 => ?_)
            · exact absurd (show (2 : Int32) = (0 : Int32) from c5) (by decide)
            · refine xr_iload D_Rd_readCommands_82 rfl ?_
              refine xr_iret rfl D_Rd_readCommands_84 ?_
              refine ⟨_, _, A, rfl, Or.inr (Or.inr (Or.inl ⟨by grind, ?_, c4, rfl, rfl, rfl⟩)), (by repeat (first | exact frI_rf | refine frI_u ?_ (by decide))), frA_rf, hf, N, hN⟩
              have z : 0 ≤ cdB I A := c3
              grind
          · rw [b2_n] at c4
            refine xr_aload_n D_Rd_readCommands_67 rfl rfl ?_
            refine xr_cVx (as := []) (n_Rd_obey (I := cdI I A) (A := A) (k := cdK I A) (N := N) nbF_k.1 nbF_k.2 hf.1 hf.2 hN) (L_Rd_73) (CD_Rd_obey) CI_Rd D_Rd_readCommands_68 rfl rfl (by decide) (Nat.le_of_ble_eq_true rfl) (Nat.le_of_eq (Nat.zero_add _)) (Nat.le_of_eq (Nat.zero_add _)) pic_len ?_
            rintro _ ⟨x9, I9, A9, rfl, ht9⟩
            obtain ⟨g1, g2, g3, N9, g4⟩ := gt_obey (I := cdI I A) hf hN ht9
            refine ⟨_, _, rfl, pic_leq, ?_⟩
            refine xr_goto (tgt := 75) D_Rd_readCommands_71 rfl ?_
            refine xr_istore D_Rd_readCommands_75 (by decide) ?_
            refine xr_iload D_Rd_readCommands_77 rfl ?_
            refine xr_if_eq (tgt := 85) D_Rd_readCommands_79 rfl (fun c5 => ?_) (fun c5 => ?_)
            · refine xr_aload_n D_Rd_readCommands_85 rfl rfl ?_
              refine xr_dup D_Rd_readCommands_86 rfl ?_
              refine xr_getf F_Rd_39 D_Rd_readCommands_87 rfl rfl ?_
              refine xr_iconst (v := 1) D_Rd_readCommands_90 rfl ?_
              refine xr_iload_n D_Rd_readCommands_91 rfl rfl ?_
              refine xr_iadd D_Rd_readCommands_92 ?_
              refine xr_iadd D_Rd_readCommands_93 ?_
              refine xr_putf F_Rd_39 FT_Rd FN_Rd_7 D_Rd_readCommands_94 rfl (Nat.le_of_ble_eq_true rfl) rfl rfl (pset_31_7) ?_
              refine xr_iinc (c9 := 1) D_Rd_readCommands_97 rfl rfl (by decide) ?_
              refine xr_goto (tgt := 10) D_Rd_readCommands_100 rfl ?_
              rw [io_succ]
              refine xr_mono (ih (j + 1) _ _ N9 _ _ (by omega) (show I9 2201 = I 2201 from g1 2201 (by decide)) g3 g4) ?_
              rintro _ ⟨r, I8, A8, rfl, q1, q2, q3, q4⟩
              refine ⟨r, I8, A8, rfl, Or.inr (Or.inr (Or.inr ⟨by grind, ?_, c4, x9, I9, A9, N, hN, ht9, Or.inr ⟨c5, q1⟩⟩)), frI_tr (frI_u (frI_tr (ks := [2405, 2406, 2408, 2409, 2410, 2411, 3105, 3106, 3110, 3111, 3112, 3113, 2407, 2901, 3107, 3108, 3109]) (k1 := [3108, 3109]) (by repeat (first | exact frI_rf | refine frI_u ?_ (by decide))) g1 (by decide) (by decide)) (by decide)) q2 (fun _ h => h) (fun _ h => h), frA_tr g2 q3 (fun _ h => h) (fun _ h => h), q4⟩
              have z : 0 ≤ cdB I A := c3
              grind
            · refine xr_iload D_Rd_readCommands_82 rfl ?_
              refine xr_iret rfl D_Rd_readCommands_84 ?_
              refine ⟨_, I9, A9, rfl, Or.inr (Or.inr (Or.inr ⟨by grind, ?_, c4, x9, I9, A9, N, hN, ht9, Or.inl ⟨c5, rfl, rfl, rfl⟩⟩)), frI_tr (k1 := [3108, 3109]) (by repeat (first | exact frI_rf | refine frI_u ?_ (by decide))) g1 (by decide) (by decide), g2, g3, N9, g4⟩
              have z : 0 ≤ cdB I A := c3
              grind
        · refine xr_iconst (v := 1) D_Rd_readCommands_58 rfl ?_
          refine xr_iret rfl D_Rd_readCommands_59 ?_
          refine ⟨_, _, A, rfl, Or.inr (Or.inl ⟨by grind, ?_, rfl, rfl, rfl⟩), (by repeat (first | exact frI_rf | refine frI_u ?_ (by decide))), frA_rf, hf, N, hN⟩
          have z : ¬ 0 ≤ cdB I A := c3
          grind

theorem c_Rd_readCommands_31 {I : mI} {A : mA} {L : mL} {n : Nat} {N : List Int32} (hn : n ≤ 70000) (hn9 : (I 2201).toInt = (n : Int)) (hf : 0 ≤ I 2407 ∧ I 2407 ≤ 256) (hN : isB (I 2901) (A 30) N) : xm m_Rd_readCommands (5, 114) [.ref 31] (pic I A L) 0 0 (rcQ I A L n) := by
  refine xm_of rfl (by decide) (Nat.le_of_ble_eq_true rfl) ?_
  refine xr_aload_n D_Rd_readCommands_0 rfl rfl ?_
  refine xr_getf F_Rd_18 D_Rd_readCommands_1 rfl rfl ?_
  refine xr_cVx (as := []) (c_By_length_22) (L_Rd_48) (CD_By_length) CI_By D_Rd_readCommands_4 rfl rfl (by decide) (Nat.le_of_ble_eq_true rfl) (Nat.le_of_eq (Nat.zero_add _)) (Nat.le_of_eq (Nat.zero_add _)) pic_len ?_
  rintro _ rfl
  refine ⟨_, _, rfl, pic_leq, ?_⟩
  refine xr_istore_n D_Rd_readCommands_7 rfl (by decide) ?_
  refine xr_iconst (v := 0) D_Rd_readCommands_8 rfl ?_
  refine xr_istore_n D_Rd_readCommands_9 rfl (by decide) ?_
  exact l_Rd_rc hn hn9 n 0 I A N _ _ (by omega) rfl hf hN

abbrev rsI (I : mI) : mI := (upd (upd (upd (upd (upd (upd (upd (upd (upd (upd (upd (upd I 2901 0) 2405 0) 2406 0) 2407 0) 2408 0) 2409 0) 2410 0) 2411 0) 3106 0) 3107 0) 3111 (-1)) 3113 0)
abbrev clI (I1 : mI) : mI := (upd (upd (upd (upd (upd (upd (upd (upd I1 2901 0) 2405 0) 2406 0) 2407 0) 2408 0) 2409 0) 2410 0) 2411 0)
theorem isB_0 (f : Nat → Int32) : isB 0 f [] := ⟨rfl, by decide, fun i b h => by cases h⟩
def reQ (I : mI) (A : mA) (L : mL) (n : Nat) : xO → Prop := fun o => ∃ (r : Int32) (I1 : mI) (A1 : mA), rdC n (rsI I) A r I1 A1 ∧ frI [2405, 2406, 2408, 2409, 2410, 2411, 3105, 3106, 3110, 3111, 3112, 3113, 2407, 2901, 3107, 3108, 3109] (rsI I) I1 ∧ frA [25, 26, 32, 33, 27, 28, 30] A A1 ∧ (0 ≤ I1 2407 ∧ I1 2407 ≤ 256) ∧ ∃ N', isB (I1 2901) (A1 30) N' ∧ ((r = 0 ∧ o = (.inl (some (.int 0)), pic I1 A1 L)) ∨ (¬ r = 0 ∧ o = (.inl (some (.int (100000 * r + I1 3107))), pic (clI I1) A1 L)))
theorem c_Dv_read_0 {I : mI} {A : mA} {L : mL} {n : Nat} (hn : n ≤ 70000) (hn9 : (I 2201).toInt = (n : Int)) (h29 : 0 ≤ I 2901) : xm m_Dv_read (6, 138) [.ref 0] (pic I A L) 0 0 (reQ I A L n) := by
  refine xm_of rfl (by decide) (Nat.le_of_ble_eq_true rfl) ?_
  refine xr_aload_n D_Dv_read_0 rfl rfl ?_
  refine xr_getf F_Dv_62 D_Dv_read_1 rfl rfl ?_
  refine xr_cVv (as := []) (c_Rd_restart_31 h29) (L_Dv_194) (CD_Rd_restart) CI_Rd D_Dv_read_4 rfl rfl (by decide) (Nat.le_of_ble_eq_true rfl) (Nat.le_of_eq (Nat.zero_add _)) (Nat.le_of_eq (Nat.zero_add _)) pic_len ?_
  rintro _ rfl
  refine ⟨_, rfl, pic_leq, ?_⟩
  refine xr_aload_n D_Dv_read_7 rfl rfl ?_
  refine xr_getf F_Dv_62 D_Dv_read_8 rfl rfl ?_
  refine xr_cVx (as := []) (c_Rd_readCommands_31 hn hn9 (show 0 ≤ (0 : Int32) ∧ (0 : Int32) ≤ 256 by decide) (N := []) (isB_0 (A 30))) (L_Dv_196) (CD_Rd_readCommands) CI_Rd D_Dv_read_11 rfl rfl (by decide) (Nat.le_of_ble_eq_true rfl) (Nat.le_of_eq (Nat.zero_add _)) (Nat.le_of_eq (Nat.zero_add _)) pic_len ?_
  rintro _ ⟨r, I1, A1, rfl, q1, q2, q3, q4, N9, q5⟩
  refine ⟨_, _, rfl, pic_leq, ?_⟩
  refine xr_istore_n D_Dv_read_14 rfl (by decide) ?_
  refine xr_iload_n D_Dv_read_15 rfl rfl ?_
  refine xr_if_ne (tgt := 21) D_Dv_read_16 rfl (fun c1 => ?_) (fun c1 => ?_)
  · refine xr_aload_n D_Dv_read_21 rfl rfl ?_
    refine xr_getf F_Dv_53 D_Dv_read_22 rfl rfl ?_
    refine xr_cVv (as := []) (c_Rg_clear_24 (i_le.mpr (by rw [z0, q5.1]; omega))) (L_Dv_199) (CD_Rg_clear) CI_Rg D_Dv_read_25 rfl rfl (by decide) (Nat.le_of_ble_eq_true rfl) (Nat.le_of_eq (Nat.zero_add _)) (Nat.le_of_eq (Nat.zero_add _)) pic_len ?_
    rintro _ rfl
    refine ⟨_, rfl, pic_leq, ?_⟩
    refine xr_ldc (v := 100000) D_Dv_read_28 K_Dv_200 ?_
    refine xr_iload_n D_Dv_read_30 rfl rfl ?_
    refine xr_imul D_Dv_read_31 ?_
    refine xr_aload_n D_Dv_read_32 rfl rfl ?_
    refine xr_getf F_Dv_62 D_Dv_read_33 rfl rfl ?_
    refine xr_cVx (as := []) (c_Rd_place_31) (L_Dv_201) (CD_Rd_place) CI_Rd D_Dv_read_36 rfl rfl (by decide) (Nat.le_of_ble_eq_true rfl) (Nat.le_of_eq (Nat.zero_add _)) (Nat.le_of_eq (Nat.zero_add _)) pic_len ?_
    rintro _ rfl
    refine ⟨_, _, rfl, pic_leq, ?_⟩
    refine xr_iadd D_Dv_read_39 ?_
    refine xr_iret rfl D_Dv_read_40 ?_
    exact ⟨r, I1, A1, q1, q2, q3, q4, N9, q5, Or.inr ⟨c1, rfl⟩⟩
  · refine xr_iconst (v := 0) D_Dv_read_19 rfl ?_
    refine xr_iret rfl D_Dv_read_20 ?_
    exact ⟨r, I1, A1, q1, q2, q3, q4, N9, q5, Or.inl ⟨c1, rfl⟩⟩
