theorem ML_71 : Cond.methodLink "DviBytesLaw" 71 m_La_font.1 ∈ xtb := xtb_at 569 (by decide +kernel) (by decide +kernel)
theorem ML_80 : Cond.methodLink "DviBytesLaw" 80 m_La_width.1 ∈ xtb := xtb_at 684 (by decide +kernel) (by decide +kernel)
theorem ML_84 : Cond.methodLink "DviBytesLaw" 84 m_La_count.1 ∈ xtb := xtb_at 696 (by decide +kernel) (by decide +kernel)
theorem ML_88 : Cond.methodLink "DviBytesLaw" 88 m_La_begin.1 ∈ xtb := xtb_at 704 (by decide +kernel) (by decide +kernel)
theorem ML_91 : Cond.methodLink "DviBytesLaw" 91 m_La_put.1 ∈ xtb := xtb_at 725 (by decide +kernel) (by decide +kernel)
theorem ML_95 : Cond.methodLink "DviBytesLaw" 95 m_La_rule.1 ∈ xtb := xtb_at 767 (by decide +kernel) (by decide +kernel)
theorem ML_98 : Cond.methodLink "DviBytesLaw" 98 m_La_ship.1 ∈ xtb := xtb_at 778 (by decide +kernel) (by decide +kernel)
theorem ML_102 : Cond.methodLink "DviBytesLaw" 102 m_La_close.1 ∈ xtb := xtb_at 929 (by decide +kernel) (by decide +kernel)
theorem ML_109 : Cond.methodLink "DviBytesLaw" 109 m_La_out.1 ∈ xtb := xtb_at 940 (by decide +kernel) (by decide +kernel)
theorem ML_131 : Cond.methodLink "DviBytesLaw" 131 m_La_about.1 ∈ xtb := xtb_at 965 (by decide +kernel) (by decide +kernel)
theorem ML_134 : Cond.methodLink "DviBytesLaw" 134 m_La_mark.1 ∈ xtb := xtb_at 973 (by decide +kernel) (by decide +kernel)
theorem ML_138 : Cond.methodLink "DviBytesLaw" 138 m_La_page.1 ∈ xtb := xtb_at 985 (by decide +kernel) (by decide +kernel)
theorem ML_141 : Cond.methodLink "DviBytesLaw" 141 m_La_told.1 ∈ xtb := xtb_at 997 (by decide +kernel) (by decide +kernel)
theorem s_in {i c : Int32} {a n : Nat} (h : i.toInt = (a : Int)) (h10 : a + 10 ≤ n) (hn : n ≤ 5120) (c0 : 0 ≤ c.toInt) (c1 : c.toInt ≤ 9) : vp_in (i + c) n := by
  have e : (i + c).toInt = i.toInt + c.toInt := i_add (by omega) (by omega)
  exact i_in (by rw [e]; omega) (by rw [e]; omega)
theorem k_law_0 {f : Nat → Int32} {n a : Nat} {i : Int32} {I : mI} {A : mA} {L : mL} {x5 x6 : Option Value} {rc rs : Nat} {Q : xO → Prop} (hn : n ≤ 5120) (h10a : i.toInt = (a : Int)) (h10 : a + 10 ≤ n) (R : RL I A L) (K : ∀ (y5 y6 : Option Value) (I2 : mI) (A2 : mA) (L2 : mL), RL I2 A2 L2 → xr m_La_law (some (n, f)) (10, 382) 1185 [some (.ref 1000000), some (.ref 0), some (.ref 34), some (.ref 61), some (.int i), y5, y6] [] (pic I2 A2 L2) rc rs Q) : xr m_La_law (some (n, f)) (10, 382) 128 [some (.ref 1000000), some (.ref 0), some (.ref 34), some (.ref 61), some (.int i), x5, x6] [] (pic I A L) (1 + rc) (6 + rs) Q := by
  refine xr_aload_n D_La_law_128 rfl rfl ?_
  refine xr_aload_n D_La_law_129 rfl rfl ?_
  refine xr_iload D_La_law_130 rfl ?_
  refine xr_iconst (v := 1) D_La_law_132 rfl ?_
  refine xr_iadd D_La_law_133 ?_
  refine xr_sld D_La_law_134 rfl (s_in h10a h10 hn (by decide) (by decide)) ?_
  refine xr_aload_n D_La_law_135 rfl rfl ?_
  refine xr_iload D_La_law_136 rfl ?_
  refine xr_iconst (v := 2) D_La_law_138 rfl ?_
  refine xr_iadd D_La_law_139 ?_
  refine xr_sld D_La_law_140 rfl (s_in h10a h10 hn (by decide) (by decide)) ?_
  refine xr_aload_n D_La_law_141 rfl rfl ?_
  refine xr_iload D_La_law_142 rfl ?_
  refine xr_iconst (v := 3) D_La_law_144 rfl ?_
  refine xr_iadd D_La_law_145 ?_
  refine xr_sld D_La_law_146 rfl (s_in h10a h10 hn (by decide) (by decide)) ?_
  refine xr_aload_n D_La_law_147 rfl rfl ?_
  refine xr_iload D_La_law_148 rfl ?_
  refine xr_iconst (v := 4) D_La_law_150 rfl ?_
  refine xr_iadd D_La_law_151 ?_
  refine xr_sld D_La_law_152 rfl (s_in h10a h10 hn (by decide) (by decide)) ?_
  refine xr_aload_n D_La_law_153 rfl rfl ?_
  refine xr_iload D_La_law_154 rfl ?_
  refine xr_iconst (v := 5) D_La_law_156 rfl ?_
  refine xr_iadd D_La_law_157 ?_
  refine xr_sld D_La_law_158 rfl (s_in h10a h10 hn (by decide) (by decide)) ?_
  refine xr_i2l D_La_law_159 ?_
  refine xr_bipush (v := 32) D_La_law_160 rfl ?_
  refine xr_lshl D_La_law_162 ?_
  refine xr_aload_n D_La_law_163 rfl rfl ?_
  refine xr_iload D_La_law_164 rfl ?_
  refine xr_bipush (v := 6) D_La_law_166 rfl ?_
  refine xr_iadd D_La_law_168 ?_
  refine xr_sld D_La_law_169 rfl (s_in h10a h10 hn (by decide) (by decide)) ?_
  refine xr_i2l D_La_law_170 ?_
  refine xr_ldc2 (v := 4294967295) D_La_law_171 K_La_69 ?_
  refine xr_land D_La_law_174 ?_
  refine xr_lor D_La_law_175 ?_
  refine xr_aload_n D_La_law_176 rfl rfl ?_
  refine xr_iload D_La_law_177 rfl ?_
  refine xr_bipush (v := 7) D_La_law_179 rfl ?_
  refine xr_iadd D_La_law_181 ?_
  refine xr_sld D_La_law_182 rfl (s_in h10a h10 hn (by decide) (by decide)) ?_
  refine xr_i2l D_La_law_183 ?_
  refine xr_bipush (v := 32) D_La_law_184 rfl ?_
  refine xr_lshl D_La_law_186 ?_
  refine xr_aload_n D_La_law_187 rfl rfl ?_
  refine xr_iload D_La_law_188 rfl ?_
  refine xr_bipush (v := 8) D_La_law_190 rfl ?_
  refine xr_iadd D_La_law_192 ?_
  refine xr_sld D_La_law_193 rfl (s_in h10a h10 hn (by decide) (by decide)) ?_
  refine xr_i2l D_La_law_194 ?_
  refine xr_ldc2 (v := 4294967295) D_La_law_195 K_La_69 ?_
  refine xr_land D_La_law_198 ?_
  refine xr_lor D_La_law_199 ?_
  refine xr_aload_n D_La_law_200 rfl rfl ?_
  refine xr_iload D_La_law_201 rfl ?_
  refine xr_bipush (v := 9) D_La_law_203 rfl ?_
  refine xr_iadd D_La_law_205 ?_
  refine xr_sld D_La_law_206 rfl (s_in h10a h10 hn (by decide) (by decide)) ?_
  refine xr_callSW (as := [_, _, _, _, _, _, _, _]) (p_La_font R) (L_La_71) (ML_71) (CW_La_font) D_La_law_207 rfl (by decide) (Nat.le_of_ble_eq_true rfl) (Nat.le_refl _) (Nat.le_refl _) pic_len ?_
  rintro _ ⟨k9, I1, A1, L1, rfl, hm⟩
  refine ⟨_, _, rfl, pic_leq, ?_⟩
  refine xr_istore D_La_law_210 (by decide) ?_
  refine xr_aload_n D_La_law_212 rfl rfl ?_
  refine xr_aload_n D_La_law_213 rfl rfl ?_
  refine xr_iload D_La_law_214 rfl ?_
  refine xr_iconst (v := 1) D_La_law_216 rfl ?_
  refine xr_iadd D_La_law_217 ?_
  refine xr_sld D_La_law_218 rfl (s_in h10a h10 hn (by decide) (by decide)) ?_
  refine xr_aload_n D_La_law_219 rfl rfl ?_
  refine xr_iload D_La_law_220 rfl ?_
  refine xr_iconst (v := 2) D_La_law_222 rfl ?_
  refine xr_iadd D_La_law_223 ?_
  refine xr_sld D_La_law_224 rfl (s_in h10a h10 hn (by decide) (by decide)) ?_
  refine xr_aload_n D_La_law_225 rfl rfl ?_
  refine xr_iload D_La_law_226 rfl ?_
  refine xr_iconst (v := 3) D_La_law_228 rfl ?_
  refine xr_iadd D_La_law_229 ?_
  refine xr_sld D_La_law_230 rfl (s_in h10a h10 hn (by decide) (by decide)) ?_
  refine xr_aload_n D_La_law_231 rfl rfl ?_
  refine xr_iload D_La_law_232 rfl ?_
  refine xr_iconst (v := 4) D_La_law_234 rfl ?_
  refine xr_iadd D_La_law_235 ?_
  refine xr_sld D_La_law_236 rfl (s_in h10a h10 hn (by decide) (by decide)) ?_
  refine xr_aload_n D_La_law_237 rfl rfl ?_
  refine xr_iload D_La_law_238 rfl ?_
  refine xr_iconst (v := 5) D_La_law_240 rfl ?_
  refine xr_iadd D_La_law_241 ?_
  refine xr_sld D_La_law_242 rfl (s_in h10a h10 hn (by decide) (by decide)) ?_
  refine xr_i2l D_La_law_243 ?_
  refine xr_bipush (v := 32) D_La_law_244 rfl ?_
  refine xr_lshl D_La_law_246 ?_
  refine xr_aload_n D_La_law_247 rfl rfl ?_
  refine xr_iload D_La_law_248 rfl ?_
  refine xr_bipush (v := 6) D_La_law_250 rfl ?_
  refine xr_iadd D_La_law_252 ?_
  refine xr_sld D_La_law_253 rfl (s_in h10a h10 hn (by decide) (by decide)) ?_
  refine xr_i2l D_La_law_254 ?_
  refine xr_ldc2 (v := 4294967295) D_La_law_255 K_La_69 ?_
  refine xr_land D_La_law_258 ?_
  refine xr_lor D_La_law_259 ?_
  refine xr_aload_n D_La_law_260 rfl rfl ?_
  refine xr_iload D_La_law_261 rfl ?_
  refine xr_bipush (v := 7) D_La_law_263 rfl ?_
  refine xr_iadd D_La_law_265 ?_
  refine xr_sld D_La_law_266 rfl (s_in h10a h10 hn (by decide) (by decide)) ?_
  refine xr_i2l D_La_law_267 ?_
  refine xr_bipush (v := 32) D_La_law_268 rfl ?_
  refine xr_lshl D_La_law_270 ?_
  refine xr_aload_n D_La_law_271 rfl rfl ?_
  refine xr_iload D_La_law_272 rfl ?_
  refine xr_bipush (v := 8) D_La_law_274 rfl ?_
  refine xr_iadd D_La_law_276 ?_
  refine xr_sld D_La_law_277 rfl (s_in h10a h10 hn (by decide) (by decide)) ?_
  refine xr_i2l D_La_law_278 ?_
  refine xr_ldc2 (v := 4294967295) D_La_law_279 K_La_69 ?_
  refine xr_land D_La_law_282 ?_
  refine xr_lor D_La_law_283 ?_
  refine xr_aload_n D_La_law_284 rfl rfl ?_
  refine xr_iload D_La_law_285 rfl ?_
  refine xr_bipush (v := 9) D_La_law_287 rfl ?_
  refine xr_iadd D_La_law_289 ?_
  refine xr_sld D_La_law_290 rfl (s_in h10a h10 hn (by decide) (by decide)) ?_
  refine xr_cVv (as := [_, _, _, _, _, _, _]) hm (L_La_76) (CD_Mo_font) CI_Mo D_La_law_291 rfl rfl (by decide) (Nat.le_of_ble_eq_true rfl) (Nat.le_of_eq (Nat.zero_add _)) (Nat.le_of_eq (Nat.zero_add _)) pic_len ?_
  rintro _ ⟨I2, A2, rfl, R2, ek⟩
  refine ⟨_, rfl, pic_leq, ?_⟩
  refine xr_aload_n D_La_law_294 rfl rfl ?_
  refine xr_cVx (as := []) (c_Mo_thrown_34) (L_La_77) (CD_Mo_thrown) CI_Mo D_La_law_295 rfl rfl (by decide) (Nat.le_of_ble_eq_true rfl) (Nat.le_of_eq (Nat.zero_add _)) (Nat.le_of_eq (Nat.zero_add _)) pic_len ?_
  rintro _ rfl
  refine ⟨_, _, rfl, pic_leq, ?_⟩
  refine xr_iload D_La_law_298 rfl ?_
  refine xr_icmp_eq (tgt := 305) D_La_law_300 rfl (fun c1 => ?_) (fun c1 => ?_)
  · refine xr_goto (tgt := 1185) D_La_law_305 rfl ?_
    exact K _ _ _ _ _ R2
  · exact absurd ek c1
theorem k_law_1 {f : Nat → Int32} {n a : Nat} {i : Int32} {I : mI} {A : mA} {L : mL} {x5 x6 : Option Value} {rc rs : Nat} {Q : xO → Prop} (hn : n ≤ 5120) (h10a : i.toInt = (a : Int)) (h10 : a + 10 ≤ n) (R : RL I A L) (K : ∀ (y5 y6 : Option Value) (I2 : mI) (A2 : mA) (L2 : mL), RL I2 A2 L2 → xr m_La_law (some (n, f)) (10, 382) 1185 [some (.ref 1000000), some (.ref 0), some (.ref 34), some (.ref 61), some (.int i), y5, y6] [] (pic I2 A2 L2) rc rs Q) : xr m_La_law (some (n, f)) (10, 382) 308 [some (.ref 1000000), some (.ref 0), some (.ref 34), some (.ref 61), some (.int i), x5, x6] [] (pic I A L) (1 + rc) (6 + rs) Q := by
  refine xr_aload_n D_La_law_308 rfl rfl ?_
  refine xr_aload_n D_La_law_309 rfl rfl ?_
  refine xr_iload D_La_law_310 rfl ?_
  refine xr_iconst (v := 1) D_La_law_312 rfl ?_
  refine xr_iadd D_La_law_313 ?_
  refine xr_sld D_La_law_314 rfl (s_in h10a h10 hn (by decide) (by decide)) ?_
  refine xr_aload_n D_La_law_315 rfl rfl ?_
  refine xr_iload D_La_law_316 rfl ?_
  refine xr_iconst (v := 2) D_La_law_318 rfl ?_
  refine xr_iadd D_La_law_319 ?_
  refine xr_sld D_La_law_320 rfl (s_in h10a h10 hn (by decide) (by decide)) ?_
  refine xr_aload_n D_La_law_321 rfl rfl ?_
  refine xr_iload D_La_law_322 rfl ?_
  refine xr_iconst (v := 3) D_La_law_324 rfl ?_
  refine xr_iadd D_La_law_325 ?_
  refine xr_sld D_La_law_326 rfl (s_in h10a h10 hn (by decide) (by decide)) ?_
  refine xr_callSW (as := [_, _, _, _]) (p_La_width R) (L_La_80) (ML_80) (CW_La_width) D_La_law_327 rfl (by decide) (Nat.le_of_ble_eq_true rfl) (Nat.le_refl _) (Nat.le_refl _) pic_len ?_
  rintro _ ⟨k9, I1, A1, L1, rfl, hm⟩
  refine ⟨_, _, rfl, pic_leq, ?_⟩
  refine xr_istore D_La_law_330 (by decide) ?_
  refine xr_aload_n D_La_law_332 rfl rfl ?_
  refine xr_aload_n D_La_law_333 rfl rfl ?_
  refine xr_iload D_La_law_334 rfl ?_
  refine xr_iconst (v := 1) D_La_law_336 rfl ?_
  refine xr_iadd D_La_law_337 ?_
  refine xr_sld D_La_law_338 rfl (s_in h10a h10 hn (by decide) (by decide)) ?_
  refine xr_aload_n D_La_law_339 rfl rfl ?_
  refine xr_iload D_La_law_340 rfl ?_
  refine xr_iconst (v := 2) D_La_law_342 rfl ?_
  refine xr_iadd D_La_law_343 ?_
  refine xr_sld D_La_law_344 rfl (s_in h10a h10 hn (by decide) (by decide)) ?_
  refine xr_aload_n D_La_law_345 rfl rfl ?_
  refine xr_iload D_La_law_346 rfl ?_
  refine xr_iconst (v := 3) D_La_law_348 rfl ?_
  refine xr_iadd D_La_law_349 ?_
  refine xr_sld D_La_law_350 rfl (s_in h10a h10 hn (by decide) (by decide)) ?_
  refine xr_cVv (as := [_, _, _]) hm (L_La_83) (CD_Mo_width) CI_Mo D_La_law_351 rfl rfl (by decide) (Nat.le_of_ble_eq_true rfl) (Nat.le_of_eq (Nat.zero_add _)) (Nat.le_of_eq (Nat.zero_add _)) pic_len ?_
  rintro _ ⟨I2, A2, rfl, R2, ek⟩
  refine ⟨_, rfl, pic_leq, ?_⟩
  refine xr_aload_n D_La_law_354 rfl rfl ?_
  refine xr_cVx (as := []) (c_Mo_thrown_34) (L_La_77) (CD_Mo_thrown) CI_Mo D_La_law_355 rfl rfl (by decide) (Nat.le_of_ble_eq_true rfl) (Nat.le_of_eq (Nat.zero_add _)) (Nat.le_of_eq (Nat.zero_add _)) pic_len ?_
  rintro _ rfl
  refine ⟨_, _, rfl, pic_leq, ?_⟩
  refine xr_iload D_La_law_358 rfl ?_
  refine xr_icmp_eq (tgt := 365) D_La_law_360 rfl (fun c1 => ?_) (fun c1 => ?_)
  · refine xr_goto (tgt := 1185) D_La_law_365 rfl ?_
    exact K _ _ _ _ _ R2
  · exact absurd ek c1
theorem k_law_2 {f : Nat → Int32} {n a : Nat} {i : Int32} {I : mI} {A : mA} {L : mL} {x5 x6 : Option Value} {rc rs : Nat} {Q : xO → Prop} (hn : n ≤ 5120) (h10a : i.toInt = (a : Int)) (h10 : a + 10 ≤ n) (R : RL I A L) (K : ∀ (y5 y6 : Option Value) (I2 : mI) (A2 : mA) (L2 : mL), RL I2 A2 L2 → xr m_La_law (some (n, f)) (10, 382) 1185 [some (.ref 1000000), some (.ref 0), some (.ref 34), some (.ref 61), some (.int i), y5, y6] [] (pic I2 A2 L2) rc rs Q) : xr m_La_law (some (n, f)) (10, 382) 368 [some (.ref 1000000), some (.ref 0), some (.ref 34), some (.ref 61), some (.int i), x5, x6] [] (pic I A L) (1 + rc) (6 + rs) Q := by
  refine xr_aload_n D_La_law_368 rfl rfl ?_
  refine xr_aload_n D_La_law_369 rfl rfl ?_
  refine xr_iload D_La_law_370 rfl ?_
  refine xr_iconst (v := 1) D_La_law_372 rfl ?_
  refine xr_iadd D_La_law_373 ?_
  refine xr_sld D_La_law_374 rfl (s_in h10a h10 hn (by decide) (by decide)) ?_
  refine xr_aload_n D_La_law_375 rfl rfl ?_
  refine xr_iload D_La_law_376 rfl ?_
  refine xr_iconst (v := 2) D_La_law_378 rfl ?_
  refine xr_iadd D_La_law_379 ?_
  refine xr_sld D_La_law_380 rfl (s_in h10a h10 hn (by decide) (by decide)) ?_
  refine xr_callSW (as := [_, _, _]) (p_La_count R) (L_La_84) (ML_84) (CW_La_count) D_La_law_381 rfl (by decide) (Nat.le_of_ble_eq_true rfl) (Nat.le_refl _) (Nat.le_refl _) pic_len ?_
  rintro _ ⟨k9, I1, A1, L1, rfl, hm⟩
  refine ⟨_, _, rfl, pic_leq, ?_⟩
  refine xr_istore D_La_law_384 (by decide) ?_
  refine xr_aload_n D_La_law_386 rfl rfl ?_
  refine xr_aload_n D_La_law_387 rfl rfl ?_
  refine xr_iload D_La_law_388 rfl ?_
  refine xr_iconst (v := 1) D_La_law_390 rfl ?_
  refine xr_iadd D_La_law_391 ?_
  refine xr_sld D_La_law_392 rfl (s_in h10a h10 hn (by decide) (by decide)) ?_
  refine xr_aload_n D_La_law_393 rfl rfl ?_
  refine xr_iload D_La_law_394 rfl ?_
  refine xr_iconst (v := 2) D_La_law_396 rfl ?_
  refine xr_iadd D_La_law_397 ?_
  refine xr_sld D_La_law_398 rfl (s_in h10a h10 hn (by decide) (by decide)) ?_
  refine xr_cVv (as := [_, _]) hm (L_La_87) (CD_Mo_count) CI_Mo D_La_law_399 rfl rfl (by decide) (Nat.le_of_ble_eq_true rfl) (Nat.le_of_eq (Nat.zero_add _)) (Nat.le_of_eq (Nat.zero_add _)) pic_len ?_
  rintro _ ⟨I2, A2, rfl, R2, ek⟩
  refine ⟨_, rfl, pic_leq, ?_⟩
  refine xr_aload_n D_La_law_402 rfl rfl ?_
  refine xr_cVx (as := []) (c_Mo_thrown_34) (L_La_77) (CD_Mo_thrown) CI_Mo D_La_law_403 rfl rfl (by decide) (Nat.le_of_ble_eq_true rfl) (Nat.le_of_eq (Nat.zero_add _)) (Nat.le_of_eq (Nat.zero_add _)) pic_len ?_
  rintro _ rfl
  refine ⟨_, _, rfl, pic_leq, ?_⟩
  refine xr_iload D_La_law_406 rfl ?_
  refine xr_icmp_eq (tgt := 413) D_La_law_408 rfl (fun c1 => ?_) (fun c1 => ?_)
  · refine xr_goto (tgt := 1185) D_La_law_413 rfl ?_
    exact K _ _ _ _ _ R2
  · exact absurd ek c1
theorem k_law_3 {f : Nat → Int32} {n a : Nat} {i : Int32} {I : mI} {A : mA} {L : mL} {x5 x6 : Option Value} {rc rs : Nat} {Q : xO → Prop} (hn : n ≤ 5120) (h10a : i.toInt = (a : Int)) (h10 : a + 10 ≤ n) (R : RL I A L) (K : ∀ (y5 y6 : Option Value) (I2 : mI) (A2 : mA) (L2 : mL), RL I2 A2 L2 → xr m_La_law (some (n, f)) (10, 382) 1185 [some (.ref 1000000), some (.ref 0), some (.ref 34), some (.ref 61), some (.int i), y5, y6] [] (pic I2 A2 L2) rc rs Q) : xr m_La_law (some (n, f)) (10, 382) 416 [some (.ref 1000000), some (.ref 0), some (.ref 34), some (.ref 61), some (.int i), x5, x6] [] (pic I A L) (1 + rc) (6 + rs) Q := by
  refine xr_aload_n D_La_law_416 rfl rfl ?_
  refine xr_aload_n D_La_law_417 rfl rfl ?_
  refine xr_iload D_La_law_418 rfl ?_
  refine xr_iconst (v := 1) D_La_law_420 rfl ?_
  refine xr_iadd D_La_law_421 ?_
  refine xr_sld D_La_law_422 rfl (s_in h10a h10 hn (by decide) (by decide)) ?_
  refine xr_aload_n D_La_law_423 rfl rfl ?_
  refine xr_iload D_La_law_424 rfl ?_
  refine xr_iconst (v := 2) D_La_law_426 rfl ?_
  refine xr_iadd D_La_law_427 ?_
  refine xr_sld D_La_law_428 rfl (s_in h10a h10 hn (by decide) (by decide)) ?_
  refine xr_callSW (as := [_, _, _]) (p_La_begin R) (L_La_88) (ML_88) (CW_La_begin) D_La_law_429 rfl (by decide) (Nat.le_of_ble_eq_true rfl) (Nat.le_refl _) (Nat.le_refl _) pic_len ?_
  rintro _ ⟨k9, I1, A1, L1, rfl, hm⟩
  refine ⟨_, _, rfl, pic_leq, ?_⟩
  refine xr_istore D_La_law_432 (by decide) ?_
  refine xr_aload_n D_La_law_434 rfl rfl ?_
  refine xr_aload_n D_La_law_435 rfl rfl ?_
  refine xr_iload D_La_law_436 rfl ?_
  refine xr_iconst (v := 1) D_La_law_438 rfl ?_
  refine xr_iadd D_La_law_439 ?_
  refine xr_sld D_La_law_440 rfl (s_in h10a h10 hn (by decide) (by decide)) ?_
  refine xr_aload_n D_La_law_441 rfl rfl ?_
  refine xr_iload D_La_law_442 rfl ?_
  refine xr_iconst (v := 2) D_La_law_444 rfl ?_
  refine xr_iadd D_La_law_445 ?_
  refine xr_sld D_La_law_446 rfl (s_in h10a h10 hn (by decide) (by decide)) ?_
  refine xr_cVv (as := [_, _]) hm (L_La_90) (CD_Mo_begin) CI_Mo D_La_law_447 rfl rfl (by decide) (Nat.le_of_ble_eq_true rfl) (Nat.le_of_eq (Nat.zero_add _)) (Nat.le_of_eq (Nat.zero_add _)) pic_len ?_
  rintro _ ⟨I2, A2, rfl, R2, ek⟩
  refine ⟨_, rfl, pic_leq, ?_⟩
  refine xr_aload_n D_La_law_450 rfl rfl ?_
  refine xr_cVx (as := []) (c_Mo_thrown_34) (L_La_77) (CD_Mo_thrown) CI_Mo D_La_law_451 rfl rfl (by decide) (Nat.le_of_ble_eq_true rfl) (Nat.le_of_eq (Nat.zero_add _)) (Nat.le_of_eq (Nat.zero_add _)) pic_len ?_
  rintro _ rfl
  refine ⟨_, _, rfl, pic_leq, ?_⟩
  refine xr_iload D_La_law_454 rfl ?_
  refine xr_icmp_eq (tgt := 461) D_La_law_456 rfl (fun c1 => ?_) (fun c1 => ?_)
  · refine xr_goto (tgt := 1185) D_La_law_461 rfl ?_
    exact K _ _ _ _ _ R2
  · exact absurd ek c1
theorem k_law_4 {f : Nat → Int32} {n a : Nat} {i : Int32} {I : mI} {A : mA} {L : mL} {x5 x6 : Option Value} {rc rs : Nat} {Q : xO → Prop} (hn : n ≤ 5120) (h10a : i.toInt = (a : Int)) (h10 : a + 10 ≤ n) (R : RL I A L) (K : ∀ (y5 y6 : Option Value) (I2 : mI) (A2 : mA) (L2 : mL), RL I2 A2 L2 → xr m_La_law (some (n, f)) (10, 382) 1185 [some (.ref 1000000), some (.ref 0), some (.ref 34), some (.ref 61), some (.int i), y5, y6] [] (pic I2 A2 L2) rc rs Q) : xr m_La_law (some (n, f)) (10, 382) 464 [some (.ref 1000000), some (.ref 0), some (.ref 34), some (.ref 61), some (.int i), x5, x6] [] (pic I A L) (1 + rc) (6 + rs) Q := by
  refine xr_aload_n D_La_law_464 rfl rfl ?_
  refine xr_aload_n D_La_law_465 rfl rfl ?_
  refine xr_iload D_La_law_466 rfl ?_
  refine xr_iconst (v := 1) D_La_law_468 rfl ?_
  refine xr_iadd D_La_law_469 ?_
  refine xr_sld D_La_law_470 rfl (s_in h10a h10 hn (by decide) (by decide)) ?_
  refine xr_aload_n D_La_law_471 rfl rfl ?_
  refine xr_iload D_La_law_472 rfl ?_
  refine xr_iconst (v := 2) D_La_law_474 rfl ?_
  refine xr_iadd D_La_law_475 ?_
  refine xr_sld D_La_law_476 rfl (s_in h10a h10 hn (by decide) (by decide)) ?_
  refine xr_aload_n D_La_law_477 rfl rfl ?_
  refine xr_iload D_La_law_478 rfl ?_
  refine xr_iconst (v := 3) D_La_law_480 rfl ?_
  refine xr_iadd D_La_law_481 ?_
  refine xr_sld D_La_law_482 rfl (s_in h10a h10 hn (by decide) (by decide)) ?_
  refine xr_aload_n D_La_law_483 rfl rfl ?_
  refine xr_iload D_La_law_484 rfl ?_
  refine xr_iconst (v := 4) D_La_law_486 rfl ?_
  refine xr_iadd D_La_law_487 ?_
  refine xr_sld D_La_law_488 rfl (s_in h10a h10 hn (by decide) (by decide)) ?_
  refine xr_aload_n D_La_law_489 rfl rfl ?_
  refine xr_callSW (as := [_, _, _, _, _, _]) (p_La_put R) (L_La_91) (ML_91) (CW_La_put) D_La_law_490 rfl (by decide) (Nat.le_of_ble_eq_true rfl) (Nat.le_refl _) (Nat.le_refl _) pic_len ?_
  rintro _ ⟨k9, I1, A1, L1, rfl, hm⟩
  refine ⟨_, _, rfl, pic_leq, ?_⟩
  refine xr_istore D_La_law_493 (by decide) ?_
  refine xr_aload_n D_La_law_495 rfl rfl ?_
  refine xr_aload_n D_La_law_496 rfl rfl ?_
  refine xr_iload D_La_law_497 rfl ?_
  refine xr_iconst (v := 1) D_La_law_499 rfl ?_
  refine xr_iadd D_La_law_500 ?_
  refine xr_sld D_La_law_501 rfl (s_in h10a h10 hn (by decide) (by decide)) ?_
  refine xr_aload_n D_La_law_502 rfl rfl ?_
  refine xr_iload D_La_law_503 rfl ?_
  refine xr_iconst (v := 2) D_La_law_505 rfl ?_
  refine xr_iadd D_La_law_506 ?_
  refine xr_sld D_La_law_507 rfl (s_in h10a h10 hn (by decide) (by decide)) ?_
  refine xr_aload_n D_La_law_508 rfl rfl ?_
  refine xr_iload D_La_law_509 rfl ?_
  refine xr_iconst (v := 3) D_La_law_511 rfl ?_
  refine xr_iadd D_La_law_512 ?_
  refine xr_sld D_La_law_513 rfl (s_in h10a h10 hn (by decide) (by decide)) ?_
  refine xr_aload_n D_La_law_514 rfl rfl ?_
  refine xr_iload D_La_law_515 rfl ?_
  refine xr_iconst (v := 4) D_La_law_517 rfl ?_
  refine xr_iadd D_La_law_518 ?_
  refine xr_sld D_La_law_519 rfl (s_in h10a h10 hn (by decide) (by decide)) ?_
  refine xr_cVx (as := [_, _, _, _]) hm (L_La_94) (CD_Mo_put) CI_Mo D_La_law_520 rfl rfl (by decide) (Nat.le_of_ble_eq_true rfl) (Nat.le_of_eq (Nat.zero_add _)) (Nat.le_of_eq (Nat.zero_add _)) pic_len ?_
  rintro _ ⟨b9, I2, A2, rfl, R2, ek, eb⟩
  refine ⟨_, _, rfl, pic_leq, ?_⟩
  refine xr_istore D_La_law_523 (by decide) ?_
  refine xr_aload_n D_La_law_525 rfl rfl ?_
  refine xr_cVx (as := []) (c_Mo_thrown_34) (L_La_77) (CD_Mo_thrown) CI_Mo D_La_law_526 rfl rfl (by decide) (Nat.le_of_ble_eq_true rfl) (Nat.le_of_eq (Nat.zero_add _)) (Nat.le_of_eq (Nat.zero_add _)) pic_len ?_
  rintro _ rfl
  refine ⟨_, _, rfl, pic_leq, ?_⟩
  refine xr_iload D_La_law_529 rfl ?_
  refine xr_icmp_eq (tgt := 536) D_La_law_531 rfl (fun c1 => ?_) (fun c1 => ?_)
  · refine xr_iload D_La_law_536 rfl ?_
    refine xr_if_ne (tgt := 553) D_La_law_538 rfl (fun c2 => ?_) (fun c2 => ?_)
    · refine xr_goto (tgt := 1185) D_La_law_553 rfl ?_
      exact K _ _ _ _ _ R2
    · refine xr_aload_n D_La_law_541 rfl rfl ?_
      refine xr_iconst (v := 0) D_La_law_542 rfl ?_
      refine xr_lald D_La_law_543 rfl (by exact i_in2 1 (by decide) (by decide) rfl) ?_
      refine xr_iload D_La_law_544 rfl ?_
      refine xr_i2l D_La_law_546 ?_
      refine xr_lcmp D_La_law_547 ?_
      refine xr_if_eq (tgt := 553) D_La_law_548 rfl (fun c3 => ?_) (fun c3 => ?_)
      · refine xr_goto (tgt := 1185) D_La_law_553 rfl ?_
        exact K _ _ _ _ _ R2
      · exact absurd (cmp_0.mpr (eb c2)) c3
  · exact absurd ek c1
theorem k_law_5 {f : Nat → Int32} {n a : Nat} {i : Int32} {I : mI} {A : mA} {L : mL} {x5 x6 : Option Value} {rc rs : Nat} {Q : xO → Prop} (hn : n ≤ 5120) (h10a : i.toInt = (a : Int)) (h10 : a + 10 ≤ n) (R : RL I A L) (K : ∀ (y5 y6 : Option Value) (I2 : mI) (A2 : mA) (L2 : mL), RL I2 A2 L2 → xr m_La_law (some (n, f)) (10, 382) 1185 [some (.ref 1000000), some (.ref 0), some (.ref 34), some (.ref 61), some (.int i), y5, y6] [] (pic I2 A2 L2) rc rs Q) : xr m_La_law (some (n, f)) (10, 382) 556 [some (.ref 1000000), some (.ref 0), some (.ref 34), some (.ref 61), some (.int i), x5, x6] [] (pic I A L) (1 + rc) (6 + rs) Q := by
  refine xr_aload_n D_La_law_556 rfl rfl ?_
  refine xr_aload_n D_La_law_557 rfl rfl ?_
  refine xr_iload D_La_law_558 rfl ?_
  refine xr_iconst (v := 1) D_La_law_560 rfl ?_
  refine xr_iadd D_La_law_561 ?_
  refine xr_sld D_La_law_562 rfl (s_in h10a h10 hn (by decide) (by decide)) ?_
  refine xr_aload_n D_La_law_563 rfl rfl ?_
  refine xr_iload D_La_law_564 rfl ?_
  refine xr_iconst (v := 2) D_La_law_566 rfl ?_
  refine xr_iadd D_La_law_567 ?_
  refine xr_sld D_La_law_568 rfl (s_in h10a h10 hn (by decide) (by decide)) ?_
  refine xr_aload_n D_La_law_569 rfl rfl ?_
  refine xr_iload D_La_law_570 rfl ?_
  refine xr_iconst (v := 3) D_La_law_572 rfl ?_
  refine xr_iadd D_La_law_573 ?_
  refine xr_sld D_La_law_574 rfl (s_in h10a h10 hn (by decide) (by decide)) ?_
  refine xr_aload_n D_La_law_575 rfl rfl ?_
  refine xr_iload D_La_law_576 rfl ?_
  refine xr_iconst (v := 4) D_La_law_578 rfl ?_
  refine xr_iadd D_La_law_579 ?_
  refine xr_sld D_La_law_580 rfl (s_in h10a h10 hn (by decide) (by decide)) ?_
  refine xr_aload_n D_La_law_581 rfl rfl ?_
  refine xr_callSW (as := [_, _, _, _, _, _]) (p_La_rule R) (L_La_95) (ML_95) (CW_La_rule) D_La_law_582 rfl (by decide) (Nat.le_of_ble_eq_true rfl) (Nat.le_refl _) (Nat.le_refl _) pic_len ?_
  rintro _ ⟨k9, I1, A1, L1, rfl, hm⟩
  refine ⟨_, _, rfl, pic_leq, ?_⟩
  refine xr_istore D_La_law_585 (by decide) ?_
  refine xr_aload_n D_La_law_587 rfl rfl ?_
  refine xr_aload_n D_La_law_588 rfl rfl ?_
  refine xr_iload D_La_law_589 rfl ?_
  refine xr_iconst (v := 1) D_La_law_591 rfl ?_
  refine xr_iadd D_La_law_592 ?_
  refine xr_sld D_La_law_593 rfl (s_in h10a h10 hn (by decide) (by decide)) ?_
  refine xr_aload_n D_La_law_594 rfl rfl ?_
  refine xr_iload D_La_law_595 rfl ?_
  refine xr_iconst (v := 2) D_La_law_597 rfl ?_
  refine xr_iadd D_La_law_598 ?_
  refine xr_sld D_La_law_599 rfl (s_in h10a h10 hn (by decide) (by decide)) ?_
  refine xr_aload_n D_La_law_600 rfl rfl ?_
  refine xr_iload D_La_law_601 rfl ?_
  refine xr_iconst (v := 3) D_La_law_603 rfl ?_
  refine xr_iadd D_La_law_604 ?_
  refine xr_sld D_La_law_605 rfl (s_in h10a h10 hn (by decide) (by decide)) ?_
  refine xr_aload_n D_La_law_606 rfl rfl ?_
  refine xr_iload D_La_law_607 rfl ?_
  refine xr_iconst (v := 4) D_La_law_609 rfl ?_
  refine xr_iadd D_La_law_610 ?_
  refine xr_sld D_La_law_611 rfl (s_in h10a h10 hn (by decide) (by decide)) ?_
  refine xr_cVx (as := [_, _, _, _]) hm (L_La_97) (CD_Mo_rule) CI_Mo D_La_law_612 rfl rfl (by decide) (Nat.le_of_ble_eq_true rfl) (Nat.le_of_eq (Nat.zero_add _)) (Nat.le_of_eq (Nat.zero_add _)) pic_len ?_
  rintro _ ⟨b9, I2, A2, rfl, R2, ek, eb⟩
  refine ⟨_, _, rfl, pic_leq, ?_⟩
  refine xr_istore D_La_law_615 (by decide) ?_
  refine xr_aload_n D_La_law_617 rfl rfl ?_
  refine xr_cVx (as := []) (c_Mo_thrown_34) (L_La_77) (CD_Mo_thrown) CI_Mo D_La_law_618 rfl rfl (by decide) (Nat.le_of_ble_eq_true rfl) (Nat.le_of_eq (Nat.zero_add _)) (Nat.le_of_eq (Nat.zero_add _)) pic_len ?_
  rintro _ rfl
  refine ⟨_, _, rfl, pic_leq, ?_⟩
  refine xr_iload D_La_law_621 rfl ?_
  refine xr_icmp_eq (tgt := 628) D_La_law_623 rfl (fun c1 => ?_) (fun c1 => ?_)
  · refine xr_iload D_La_law_628 rfl ?_
    refine xr_if_ne (tgt := 645) D_La_law_630 rfl (fun c2 => ?_) (fun c2 => ?_)
    · refine xr_goto (tgt := 1185) D_La_law_645 rfl ?_
      exact K _ _ _ _ _ R2
    · refine xr_aload_n D_La_law_633 rfl rfl ?_
      refine xr_iconst (v := 0) D_La_law_634 rfl ?_
      refine xr_lald D_La_law_635 rfl (by exact i_in2 1 (by decide) (by decide) rfl) ?_
      refine xr_iload D_La_law_636 rfl ?_
      refine xr_i2l D_La_law_638 ?_
      refine xr_lcmp D_La_law_639 ?_
      refine xr_if_eq (tgt := 645) D_La_law_640 rfl (fun c3 => ?_) (fun c3 => ?_)
      · refine xr_goto (tgt := 1185) D_La_law_645 rfl ?_
        exact K _ _ _ _ _ R2
      · exact absurd (cmp_0.mpr (eb c2)) c3
  · exact absurd ek c1
theorem k_law_6 {f : Nat → Int32} {n a : Nat} {i : Int32} {I : mI} {A : mA} {L : mL} {x5 x6 : Option Value} {rc rs : Nat} {Q : xO → Prop} (hn : n ≤ 5120) (h10a : i.toInt = (a : Int)) (h10 : a + 10 ≤ n) (R : RL I A L) (K : ∀ (y5 y6 : Option Value) (I2 : mI) (A2 : mA) (L2 : mL), RL I2 A2 L2 → xr m_La_law (some (n, f)) (10, 382) 1185 [some (.ref 1000000), some (.ref 0), some (.ref 34), some (.ref 61), some (.int i), y5, y6] [] (pic I2 A2 L2) rc rs Q) : xr m_La_law (some (n, f)) (10, 382) 648 [some (.ref 1000000), some (.ref 0), some (.ref 34), some (.ref 61), some (.int i), x5, x6] [] (pic I A L) (1 + rc) (6 + rs) Q := by
  refine xr_aload_n D_La_law_648 rfl rfl ?_
  refine xr_aload_n D_La_law_649 rfl rfl ?_
  refine xr_callSW (as := [_, _]) (p_La_ship R) (L_La_98) (ML_98) (CW_La_ship) D_La_law_650 rfl (by decide) (Nat.le_of_ble_eq_true rfl) (Nat.le_refl _) (Nat.le_refl _) pic_len ?_
  rintro _ ⟨k9, I1, A1, L1, rfl, hm⟩
  refine ⟨_, _, rfl, pic_leq, ?_⟩
  refine xr_istore D_La_law_653 (by decide) ?_
  refine xr_aload_n D_La_law_655 rfl rfl ?_
  refine xr_cVx (as := []) hm (L_La_101) (CD_Mo_ship) CI_Mo D_La_law_656 rfl rfl (by decide) (Nat.le_of_ble_eq_true rfl) (Nat.le_of_eq (Nat.zero_add _)) (Nat.le_of_eq (Nat.zero_add _)) pic_len ?_
  rintro _ ⟨b9, I2, A2, rfl, R2, ek, eb⟩
  refine ⟨_, _, rfl, pic_leq, ?_⟩
  refine xr_istore D_La_law_659 (by decide) ?_
  refine xr_aload_n D_La_law_661 rfl rfl ?_
  refine xr_cVx (as := []) (c_Mo_thrown_34) (L_La_77) (CD_Mo_thrown) CI_Mo D_La_law_662 rfl rfl (by decide) (Nat.le_of_ble_eq_true rfl) (Nat.le_of_eq (Nat.zero_add _)) (Nat.le_of_eq (Nat.zero_add _)) pic_len ?_
  rintro _ rfl
  refine ⟨_, _, rfl, pic_leq, ?_⟩
  refine xr_iload D_La_law_665 rfl ?_
  refine xr_icmp_eq (tgt := 672) D_La_law_667 rfl (fun c1 => ?_) (fun c1 => ?_)
  · refine xr_iload D_La_law_672 rfl ?_
    refine xr_if_ne (tgt := 689) D_La_law_674 rfl (fun c2 => ?_) (fun c2 => ?_)
    · refine xr_goto (tgt := 1185) D_La_law_689 rfl ?_
      exact K _ _ _ _ _ R2
    · refine xr_aload_n D_La_law_677 rfl rfl ?_
      refine xr_iconst (v := 0) D_La_law_678 rfl ?_
      refine xr_lald D_La_law_679 rfl (by exact i_in2 1 (by decide) (by decide) rfl) ?_
      refine xr_iload D_La_law_680 rfl ?_
      refine xr_i2l D_La_law_682 ?_
      refine xr_lcmp D_La_law_683 ?_
      refine xr_if_eq (tgt := 689) D_La_law_684 rfl (fun c3 => ?_) (fun c3 => ?_)
      · refine xr_goto (tgt := 1185) D_La_law_689 rfl ?_
        exact K _ _ _ _ _ R2
      · exact absurd (cmp_0.mpr (eb c2)) c3
  · exact absurd ek c1
theorem k_law_7 {f : Nat → Int32} {n a : Nat} {i : Int32} {I : mI} {A : mA} {L : mL} {x5 x6 : Option Value} {rc rs : Nat} {Q : xO → Prop} (hn : n ≤ 5120) (h10a : i.toInt = (a : Int)) (h10 : a + 10 ≤ n) (R : RL I A L) (K : ∀ (y5 y6 : Option Value) (I2 : mI) (A2 : mA) (L2 : mL), RL I2 A2 L2 → xr m_La_law (some (n, f)) (10, 382) 1185 [some (.ref 1000000), some (.ref 0), some (.ref 34), some (.ref 61), some (.int i), y5, y6] [] (pic I2 A2 L2) rc rs Q) : xr m_La_law (some (n, f)) (10, 382) 692 [some (.ref 1000000), some (.ref 0), some (.ref 34), some (.ref 61), some (.int i), x5, x6] [] (pic I A L) (1 + rc) (6 + rs) Q := by
  refine xr_aload_n D_La_law_692 rfl rfl ?_
  refine xr_aload_n D_La_law_693 rfl rfl ?_
  refine xr_callSW (as := [_, _]) (p_La_close R) (L_La_102) (ML_102) (CW_La_close) D_La_law_694 rfl (by decide) (Nat.le_of_ble_eq_true rfl) (Nat.le_refl _) (Nat.le_refl _) pic_len ?_
  rintro _ ⟨k9, I1, A1, L1, rfl, hm⟩
  refine ⟨_, _, rfl, pic_leq, ?_⟩
  refine xr_istore D_La_law_697 (by decide) ?_
  refine xr_aload_n D_La_law_699 rfl rfl ?_
  refine xr_cVx (as := []) hm (L_La_104) (CD_Mo_close) CI_Mo D_La_law_700 rfl rfl (by decide) (Nat.le_of_ble_eq_true rfl) (Nat.le_of_eq (Nat.zero_add _)) (Nat.le_of_eq (Nat.zero_add _)) pic_len ?_
  rintro _ ⟨b9, I2, A2, rfl, R2, ek, eb⟩
  refine ⟨_, _, rfl, pic_leq, ?_⟩
  refine xr_istore D_La_law_703 (by decide) ?_
  refine xr_aload_n D_La_law_705 rfl rfl ?_
  refine xr_cVx (as := []) (c_Mo_thrown_34) (L_La_77) (CD_Mo_thrown) CI_Mo D_La_law_706 rfl rfl (by decide) (Nat.le_of_ble_eq_true rfl) (Nat.le_of_eq (Nat.zero_add _)) (Nat.le_of_eq (Nat.zero_add _)) pic_len ?_
  rintro _ rfl
  refine ⟨_, _, rfl, pic_leq, ?_⟩
  refine xr_iload D_La_law_709 rfl ?_
  refine xr_icmp_eq (tgt := 716) D_La_law_711 rfl (fun c1 => ?_) (fun c1 => ?_)
  · refine xr_iload D_La_law_716 rfl ?_
    refine xr_if_ne (tgt := 733) D_La_law_718 rfl (fun c2 => ?_) (fun c2 => ?_)
    · refine xr_goto (tgt := 1185) D_La_law_733 rfl ?_
      exact K _ _ _ _ _ R2
    · refine xr_aload_n D_La_law_721 rfl rfl ?_
      refine xr_iconst (v := 0) D_La_law_722 rfl ?_
      refine xr_lald D_La_law_723 rfl (by exact i_in2 1 (by decide) (by decide) rfl) ?_
      refine xr_iload D_La_law_724 rfl ?_
      refine xr_i2l D_La_law_726 ?_
      refine xr_lcmp D_La_law_727 ?_
      refine xr_if_eq (tgt := 733) D_La_law_728 rfl (fun c3 => ?_) (fun c3 => ?_)
      · refine xr_goto (tgt := 1185) D_La_law_733 rfl ?_
        exact K _ _ _ _ _ R2
      · exact absurd (cmp_0.mpr (eb c2)) c3
  · exact absurd ek c1
theorem k_law_8 {f : Nat → Int32} {n a : Nat} {i : Int32} {I : mI} {A : mA} {L : mL} {x5 x6 : Option Value} {rc rs : Nat} {Q : xO → Prop} (hn : n ≤ 5120) (h10a : i.toInt = (a : Int)) (h10 : a + 10 ≤ n) (R : RL I A L) (K : ∀ (y5 y6 : Option Value) (I2 : mI) (A2 : mA) (L2 : mL), RL I2 A2 L2 → xr m_La_law (some (n, f)) (10, 382) 1185 [some (.ref 1000000), some (.ref 0), some (.ref 34), some (.ref 61), some (.int i), y5, y6] [] (pic I2 A2 L2) rc rs Q) : xr m_La_law (some (n, f)) (10, 382) 736 [some (.ref 1000000), some (.ref 0), some (.ref 34), some (.ref 61), some (.int i), x5, x6] [] (pic I A L) (1 + rc) (6 + rs) Q := by
  refine xr_aload_n D_La_law_736 rfl rfl ?_
  refine xr_cVx (as := []) (p_Dv_size R) (L_La_105) (CD_Dv_size) CI_Dv D_La_law_737 rfl rfl (by decide) (Nat.le_of_ble_eq_true rfl) (Nat.le_of_eq (Nat.zero_add _)) (Nat.le_of_eq (Nat.zero_add _)) pic_len ?_
  rintro _ ⟨v9, I1, A1, L1, rfl, hm⟩
  refine ⟨_, _, rfl, pic_leq, ?_⟩
  refine xr_aload_n D_La_law_740 rfl rfl ?_
  refine xr_cVx (as := []) hm (L_La_108) (CD_Mo_size) CI_Mo D_La_law_741 rfl rfl (by decide) (Nat.le_of_ble_eq_true rfl) (Nat.le_of_eq (Nat.zero_add _)) (Nat.le_of_eq (Nat.zero_add _)) pic_len ?_
  rintro _ ⟨I2, A2, rfl, R2⟩
  refine ⟨_, _, rfl, pic_leq, ?_⟩
  refine xr_icmp_eq (tgt := 1185) D_La_law_744 rfl (fun c1 => ?_) (fun c1 => ?_)
  · exact xr_room (Nat.le_add_left _ _) (Nat.le_add_left _ _) (K _ _ _ _ _ R2)
  · exact absurd rfl c1
theorem k_law_9 {f : Nat → Int32} {n a : Nat} {i : Int32} {I : mI} {A : mA} {L : mL} {x5 x6 : Option Value} {rc rs : Nat} {Q : xO → Prop} (hn : n ≤ 5120) (h10a : i.toInt = (a : Int)) (h10 : a + 10 ≤ n) (R : RL I A L) (K : ∀ (y5 y6 : Option Value) (I2 : mI) (A2 : mA) (L2 : mL), RL I2 A2 L2 → xr m_La_law (some (n, f)) (10, 382) 1185 [some (.ref 1000000), some (.ref 0), some (.ref 34), some (.ref 61), some (.int i), y5, y6] [] (pic I2 A2 L2) rc rs Q) : xr m_La_law (some (n, f)) (10, 382) 749 [some (.ref 1000000), some (.ref 0), some (.ref 34), some (.ref 61), some (.int i), x5, x6] [] (pic I A L) (1 + rc) (6 + rs) Q := by
  refine xr_aload_n D_La_law_749 rfl rfl ?_
  refine xr_aload_n D_La_law_750 rfl rfl ?_
  refine xr_iload D_La_law_751 rfl ?_
  refine xr_iconst (v := 1) D_La_law_753 rfl ?_
  refine xr_iadd D_La_law_754 ?_
  refine xr_sld D_La_law_755 rfl (s_in h10a h10 hn (by decide) (by decide)) ?_
  refine xr_aload_n D_La_law_756 rfl rfl ?_
  refine xr_callSW (as := [_, _, _]) (p_La_out R) (L_La_109) (ML_109) (CW_La_out) D_La_law_757 rfl (by decide) (Nat.le_of_ble_eq_true rfl) (Nat.le_refl _) (Nat.le_refl _) pic_len ?_
  rintro _ ⟨k9, I1, A1, L1, rfl, hm⟩
  refine ⟨_, _, rfl, pic_leq, ?_⟩
  refine xr_istore D_La_law_760 (by decide) ?_
  refine xr_aload_n D_La_law_762 rfl rfl ?_
  refine xr_aload_n D_La_law_763 rfl rfl ?_
  refine xr_iload D_La_law_764 rfl ?_
  refine xr_iconst (v := 1) D_La_law_766 rfl ?_
  refine xr_iadd D_La_law_767 ?_
  refine xr_sld D_La_law_768 rfl (s_in h10a h10 hn (by decide) (by decide)) ?_
  refine xr_cVx (as := [_]) hm (L_La_112) (CD_Mo_out) CI_Mo D_La_law_769 rfl rfl (by decide) (Nat.le_of_ble_eq_true rfl) (Nat.le_of_eq (Nat.zero_add _)) (Nat.le_of_eq (Nat.zero_add _)) pic_len ?_
  rintro _ ⟨b9, I2, A2, rfl, R2, ek, eb⟩
  refine ⟨_, _, rfl, pic_leq, ?_⟩
  refine xr_istore D_La_law_772 (by decide) ?_
  refine xr_aload_n D_La_law_774 rfl rfl ?_
  refine xr_cVx (as := []) (c_Mo_thrown_34) (L_La_77) (CD_Mo_thrown) CI_Mo D_La_law_775 rfl rfl (by decide) (Nat.le_of_ble_eq_true rfl) (Nat.le_of_eq (Nat.zero_add _)) (Nat.le_of_eq (Nat.zero_add _)) pic_len ?_
  rintro _ rfl
  refine ⟨_, _, rfl, pic_leq, ?_⟩
  refine xr_iload D_La_law_778 rfl ?_
  refine xr_icmp_eq (tgt := 785) D_La_law_780 rfl (fun c1 => ?_) (fun c1 => ?_)
  · refine xr_iload D_La_law_785 rfl ?_
    refine xr_if_ne (tgt := 802) D_La_law_787 rfl (fun c2 => ?_) (fun c2 => ?_)
    · refine xr_goto (tgt := 1185) D_La_law_802 rfl ?_
      exact K _ _ _ _ _ R2
    · refine xr_aload_n D_La_law_790 rfl rfl ?_
      refine xr_iconst (v := 0) D_La_law_791 rfl ?_
      refine xr_lald D_La_law_792 rfl (by exact i_in2 1 (by decide) (by decide) rfl) ?_
      refine xr_iload D_La_law_793 rfl ?_
      refine xr_i2l D_La_law_795 ?_
      refine xr_lcmp D_La_law_796 ?_
      refine xr_if_eq (tgt := 802) D_La_law_797 rfl (fun c3 => ?_) (fun c3 => ?_)
      · refine xr_goto (tgt := 1185) D_La_law_802 rfl ?_
        exact K _ _ _ _ _ R2
      · exact absurd (cmp_0.mpr (eb c2)) c3
  · exact absurd ek c1
theorem k_law_10 {f : Nat → Int32} {n a : Nat} {i : Int32} {I : mI} {A : mA} {L : mL} {x5 x6 : Option Value} {rc rs : Nat} {Q : xO → Prop} (hn : n ≤ 5120) (h10a : i.toInt = (a : Int)) (h10 : a + 10 ≤ n) (R : RL I A L) (K : ∀ (y5 y6 : Option Value) (I2 : mI) (A2 : mA) (L2 : mL), RL I2 A2 L2 → xr m_La_law (some (n, f)) (10, 382) 1185 [some (.ref 1000000), some (.ref 0), some (.ref 34), some (.ref 61), some (.int i), y5, y6] [] (pic I2 A2 L2) rc rs Q) : xr m_La_law (some (n, f)) (10, 382) 805 [some (.ref 1000000), some (.ref 0), some (.ref 34), some (.ref 61), some (.int i), x5, x6] [] (pic I A L) (1 + rc) (6 + rs) Q := by
  refine xr_aload_n D_La_law_805 rfl rfl ?_
  refine xr_aload_n D_La_law_806 rfl rfl ?_
  refine xr_iload D_La_law_807 rfl ?_
  refine xr_iconst (v := 1) D_La_law_809 rfl ?_
  refine xr_iadd D_La_law_810 ?_
  refine xr_sld D_La_law_811 rfl (s_in h10a h10 hn (by decide) (by decide)) ?_
  refine xr_i2l D_La_law_812 ?_
  refine xr_bipush (v := 32) D_La_law_813 rfl ?_
  refine xr_lshl D_La_law_815 ?_
  refine xr_aload_n D_La_law_816 rfl rfl ?_
  refine xr_iload D_La_law_817 rfl ?_
  refine xr_iconst (v := 2) D_La_law_819 rfl ?_
  refine xr_iadd D_La_law_820 ?_
  refine xr_sld D_La_law_821 rfl (s_in h10a h10 hn (by decide) (by decide)) ?_
  refine xr_i2l D_La_law_822 ?_
  refine xr_ldc2 (v := 4294967295) D_La_law_823 K_La_69 ?_
  refine xr_land D_La_law_826 ?_
  refine xr_lor D_La_law_827 ?_
  refine xr_aload_n D_La_law_828 rfl rfl ?_
  refine xr_iload D_La_law_829 rfl ?_
  refine xr_iconst (v := 3) D_La_law_831 rfl ?_
  refine xr_iadd D_La_law_832 ?_
  refine xr_sld D_La_law_833 rfl (s_in h10a h10 hn (by decide) (by decide)) ?_
  refine xr_cVx (as := [_, _]) (p_Dv_feed R) (L_La_113) (CD_Dv_feed) CI_Dv D_La_law_834 rfl rfl (by decide) (Nat.le_of_ble_eq_true rfl) (Nat.le_of_eq (Nat.zero_add _)) (Nat.le_of_eq (Nat.zero_add _)) pic_len ?_
  rintro _ ⟨v9, I1, A1, L1, rfl, hm⟩
  refine ⟨_, _, rfl, pic_leq, ?_⟩
  refine xr_aload_n D_La_law_837 rfl rfl ?_
  refine xr_aload_n D_La_law_838 rfl rfl ?_
  refine xr_iload D_La_law_839 rfl ?_
  refine xr_iconst (v := 1) D_La_law_841 rfl ?_
  refine xr_iadd D_La_law_842 ?_
  refine xr_sld D_La_law_843 rfl (s_in h10a h10 hn (by decide) (by decide)) ?_
  refine xr_i2l D_La_law_844 ?_
  refine xr_bipush (v := 32) D_La_law_845 rfl ?_
  refine xr_lshl D_La_law_847 ?_
  refine xr_aload_n D_La_law_848 rfl rfl ?_
  refine xr_iload D_La_law_849 rfl ?_
  refine xr_iconst (v := 2) D_La_law_851 rfl ?_
  refine xr_iadd D_La_law_852 ?_
  refine xr_sld D_La_law_853 rfl (s_in h10a h10 hn (by decide) (by decide)) ?_
  refine xr_i2l D_La_law_854 ?_
  refine xr_ldc2 (v := 4294967295) D_La_law_855 K_La_69 ?_
  refine xr_land D_La_law_858 ?_
  refine xr_lor D_La_law_859 ?_
  refine xr_aload_n D_La_law_860 rfl rfl ?_
  refine xr_iload D_La_law_861 rfl ?_
  refine xr_iconst (v := 3) D_La_law_863 rfl ?_
  refine xr_iadd D_La_law_864 ?_
  refine xr_sld D_La_law_865 rfl (s_in h10a h10 hn (by decide) (by decide)) ?_
  refine xr_cVx (as := [_, _]) hm (L_La_117) (CD_Mo_feed) CI_Mo D_La_law_866 rfl rfl (by decide) (Nat.le_of_ble_eq_true rfl) (Nat.le_of_eq (Nat.zero_add _)) (Nat.le_of_eq (Nat.zero_add _)) pic_len ?_
  rintro _ ⟨I2, A2, rfl, R2⟩
  refine ⟨_, _, rfl, pic_leq, ?_⟩
  refine xr_icmp_eq (tgt := 1185) D_La_law_869 rfl (fun c1 => ?_) (fun c1 => ?_)
  · exact xr_room (Nat.le_add_left _ _) (Nat.le_add_left _ _) (K _ _ _ _ _ R2)
  · exact absurd rfl c1
theorem k_law_11 {f : Nat → Int32} {n a : Nat} {i : Int32} {I : mI} {A : mA} {L : mL} {x5 x6 : Option Value} {rc rs : Nat} {Q : xO → Prop} (hn : n ≤ 5120) (h10a : i.toInt = (a : Int)) (h10 : a + 10 ≤ n) (R : RL I A L) (K : ∀ (y5 y6 : Option Value) (I2 : mI) (A2 : mA) (L2 : mL), RL I2 A2 L2 → xr m_La_law (some (n, f)) (10, 382) 1185 [some (.ref 1000000), some (.ref 0), some (.ref 34), some (.ref 61), some (.int i), y5, y6] [] (pic I2 A2 L2) rc rs Q) : xr m_La_law (some (n, f)) (10, 382) 874 [some (.ref 1000000), some (.ref 0), some (.ref 34), some (.ref 61), some (.int i), x5, x6] [] (pic I A L) (1 + rc) (6 + rs) Q := by
  refine xr_aload_n D_La_law_874 rfl rfl ?_
  refine xr_aload_n D_La_law_875 rfl rfl ?_
  refine xr_iload D_La_law_876 rfl ?_
  refine xr_iconst (v := 1) D_La_law_878 rfl ?_
  refine xr_iadd D_La_law_879 ?_
  refine xr_sld D_La_law_880 rfl (s_in h10a h10 hn (by decide) (by decide)) ?_
  refine xr_cVx (as := [_]) (p_Dv_keep R) (L_La_118) (CD_Dv_keep) CI_Dv D_La_law_881 rfl rfl (by decide) (Nat.le_of_ble_eq_true rfl) (Nat.le_of_eq (Nat.zero_add _)) (Nat.le_of_eq (Nat.zero_add _)) pic_len ?_
  rintro _ ⟨v9, I1, A1, L1, rfl, hm⟩
  refine ⟨_, _, rfl, pic_leq, ?_⟩
  refine xr_aload_n D_La_law_884 rfl rfl ?_
  refine xr_aload_n D_La_law_885 rfl rfl ?_
  refine xr_iload D_La_law_886 rfl ?_
  refine xr_iconst (v := 1) D_La_law_888 rfl ?_
  refine xr_iadd D_La_law_889 ?_
  refine xr_sld D_La_law_890 rfl (s_in h10a h10 hn (by decide) (by decide)) ?_
  refine xr_cVx (as := [_]) hm (L_La_122) (CD_Mo_keep) CI_Mo D_La_law_891 rfl rfl (by decide) (Nat.le_of_ble_eq_true rfl) (Nat.le_of_eq (Nat.zero_add _)) (Nat.le_of_eq (Nat.zero_add _)) pic_len ?_
  rintro _ ⟨I2, A2, rfl, R2⟩
  refine ⟨_, _, rfl, pic_leq, ?_⟩
  refine xr_icmp_eq (tgt := 1185) D_La_law_894 rfl (fun c1 => ?_) (fun c1 => ?_)
  · exact xr_room (Nat.le_add_left _ _) (Nat.le_add_left _ _) (K _ _ _ _ _ R2)
  · exact absurd rfl c1
theorem k_law_12 {f : Nat → Int32} {n a : Nat} {i : Int32} {I : mI} {A : mA} {L : mL} {x5 x6 : Option Value} {rc rs : Nat} {Q : xO → Prop} (hn : n ≤ 5120) (h10a : i.toInt = (a : Int)) (h10 : a + 10 ≤ n) (R : RL I A L) (K : ∀ (y5 y6 : Option Value) (I2 : mI) (A2 : mA) (L2 : mL), RL I2 A2 L2 → xr m_La_law (some (n, f)) (10, 382) 1185 [some (.ref 1000000), some (.ref 0), some (.ref 34), some (.ref 61), some (.int i), y5, y6] [] (pic I2 A2 L2) rc rs Q) : xr m_La_law (some (n, f)) (10, 382) 899 [some (.ref 1000000), some (.ref 0), some (.ref 34), some (.ref 61), some (.int i), x5, x6] [] (pic I A L) (1 + rc) (6 + rs) Q := by
  refine xr_aload_n D_La_law_899 rfl rfl ?_
  refine xr_cVx (as := []) (p_Dv_copy R) (L_La_123) (CD_Dv_copy) CI_Dv D_La_law_900 rfl rfl (by decide) (Nat.le_of_ble_eq_true rfl) (Nat.le_of_eq (Nat.zero_add _)) (Nat.le_of_eq (Nat.zero_add _)) pic_len ?_
  rintro _ ⟨v9, I1, A1, L1, rfl, hm⟩
  refine ⟨_, _, rfl, pic_leq, ?_⟩
  refine xr_aload_n D_La_law_903 rfl rfl ?_
  refine xr_cVx (as := []) hm (L_La_126) (CD_Mo_copy) CI_Mo D_La_law_904 rfl rfl (by decide) (Nat.le_of_ble_eq_true rfl) (Nat.le_of_eq (Nat.zero_add _)) (Nat.le_of_eq (Nat.zero_add _)) pic_len ?_
  rintro _ ⟨I2, A2, rfl, R2⟩
  refine ⟨_, _, rfl, pic_leq, ?_⟩
  refine xr_icmp_eq (tgt := 1185) D_La_law_907 rfl (fun c1 => ?_) (fun c1 => ?_)
  · exact xr_room (Nat.le_add_left _ _) (Nat.le_add_left _ _) (K _ _ _ _ _ R2)
  · exact absurd rfl c1
theorem k_law_13 {f : Nat → Int32} {n a : Nat} {i : Int32} {I : mI} {A : mA} {L : mL} {x5 x6 : Option Value} {rc rs : Nat} {Q : xO → Prop} (hn : n ≤ 5120) (h10a : i.toInt = (a : Int)) (h10 : a + 10 ≤ n) (R : RL I A L) (K : ∀ (y5 y6 : Option Value) (I2 : mI) (A2 : mA) (L2 : mL), RL I2 A2 L2 → xr m_La_law (some (n, f)) (10, 382) 1185 [some (.ref 1000000), some (.ref 0), some (.ref 34), some (.ref 61), some (.int i), y5, y6] [] (pic I2 A2 L2) rc rs Q) : xr m_La_law (some (n, f)) (10, 382) 912 [some (.ref 1000000), some (.ref 0), some (.ref 34), some (.ref 61), some (.int i), x5, x6] [] (pic I A L) (1 + rc) (6 + rs) Q := by
  refine xr_aload_n D_La_law_912 rfl rfl ?_
  refine xr_cVx (as := []) (p_Dv_read R) (L_La_127) (CD_Dv_read) CI_Dv D_La_law_913 rfl rfl (by decide) (Nat.le_of_ble_eq_true rfl) (Nat.le_of_eq (Nat.zero_add _)) (Nat.le_of_eq (Nat.zero_add _)) pic_len ?_
  rintro _ ⟨v9, I1, A1, L1, rfl, hm⟩
  refine ⟨_, _, rfl, pic_leq, ?_⟩
  refine xr_aload_n D_La_law_916 rfl rfl ?_
  refine xr_cVx (as := []) hm (L_La_130) (CD_Mo_read) CI_Mo D_La_law_917 rfl rfl (by decide) (Nat.le_of_ble_eq_true rfl) (Nat.le_of_eq (Nat.zero_add _)) (Nat.le_of_eq (Nat.zero_add _)) pic_len ?_
  rintro _ ⟨I2, A2, rfl, R2⟩
  refine ⟨_, _, rfl, pic_leq, ?_⟩
  refine xr_icmp_eq (tgt := 1185) D_La_law_920 rfl (fun c1 => ?_) (fun c1 => ?_)
  · exact xr_room (Nat.le_add_left _ _) (Nat.le_add_left _ _) (K _ _ _ _ _ R2)
  · exact absurd rfl c1
theorem k_law_14 {f : Nat → Int32} {n a : Nat} {i : Int32} {I : mI} {A : mA} {L : mL} {x5 x6 : Option Value} {rc rs : Nat} {Q : xO → Prop} (hn : n ≤ 5120) (h10a : i.toInt = (a : Int)) (h10 : a + 10 ≤ n) (R : RL I A L) (K : ∀ (y5 y6 : Option Value) (I2 : mI) (A2 : mA) (L2 : mL), RL I2 A2 L2 → xr m_La_law (some (n, f)) (10, 382) 1185 [some (.ref 1000000), some (.ref 0), some (.ref 34), some (.ref 61), some (.int i), y5, y6] [] (pic I2 A2 L2) rc rs Q) : xr m_La_law (some (n, f)) (10, 382) 925 [some (.ref 1000000), some (.ref 0), some (.ref 34), some (.ref 61), some (.int i), x5, x6] [] (pic I A L) (1 + rc) (6 + rs) Q := by
  refine xr_aload_n D_La_law_925 rfl rfl ?_
  refine xr_aload_n D_La_law_926 rfl rfl ?_
  refine xr_iload D_La_law_927 rfl ?_
  refine xr_iconst (v := 1) D_La_law_929 rfl ?_
  refine xr_iadd D_La_law_930 ?_
  refine xr_sld D_La_law_931 rfl (s_in h10a h10 hn (by decide) (by decide)) ?_
  refine xr_aload_n D_La_law_932 rfl rfl ?_
  refine xr_callSW (as := [_, _, _]) (p_La_about R) (L_La_131) (ML_131) (CW_La_about) D_La_law_933 rfl (by decide) (Nat.le_of_ble_eq_true rfl) (Nat.le_refl _) (Nat.le_refl _) pic_len ?_
  rintro _ ⟨k9, I1, A1, L1, rfl, hm⟩
  refine ⟨_, _, rfl, pic_leq, ?_⟩
  refine xr_istore D_La_law_936 (by decide) ?_
  refine xr_aload_n D_La_law_938 rfl rfl ?_
  refine xr_aload_n D_La_law_939 rfl rfl ?_
  refine xr_iload D_La_law_940 rfl ?_
  refine xr_iconst (v := 1) D_La_law_942 rfl ?_
  refine xr_iadd D_La_law_943 ?_
  refine xr_sld D_La_law_944 rfl (s_in h10a h10 hn (by decide) (by decide)) ?_
  refine xr_cVx (as := [_]) hm (L_La_133) (CD_Mo_about) CI_Mo D_La_law_945 rfl rfl (by decide) (Nat.le_of_ble_eq_true rfl) (Nat.le_of_eq (Nat.zero_add _)) (Nat.le_of_eq (Nat.zero_add _)) pic_len ?_
  rintro _ ⟨b9, I2, A2, rfl, R2, ek, eb⟩
  refine ⟨_, _, rfl, pic_leq, ?_⟩
  refine xr_istore D_La_law_948 (by decide) ?_
  refine xr_aload_n D_La_law_950 rfl rfl ?_
  refine xr_cVx (as := []) (c_Mo_thrown_34) (L_La_77) (CD_Mo_thrown) CI_Mo D_La_law_951 rfl rfl (by decide) (Nat.le_of_ble_eq_true rfl) (Nat.le_of_eq (Nat.zero_add _)) (Nat.le_of_eq (Nat.zero_add _)) pic_len ?_
  rintro _ rfl
  refine ⟨_, _, rfl, pic_leq, ?_⟩
  refine xr_iload D_La_law_954 rfl ?_
  refine xr_icmp_eq (tgt := 961) D_La_law_956 rfl (fun c1 => ?_) (fun c1 => ?_)
  · refine xr_iload D_La_law_961 rfl ?_
    refine xr_if_ne (tgt := 978) D_La_law_963 rfl (fun c2 => ?_) (fun c2 => ?_)
    · refine xr_goto (tgt := 1185) D_La_law_978 rfl ?_
      exact K _ _ _ _ _ R2
    · refine xr_aload_n D_La_law_966 rfl rfl ?_
      refine xr_iconst (v := 0) D_La_law_967 rfl ?_
      refine xr_lald D_La_law_968 rfl (by exact i_in2 1 (by decide) (by decide) rfl) ?_
      refine xr_iload D_La_law_969 rfl ?_
      refine xr_i2l D_La_law_971 ?_
      refine xr_lcmp D_La_law_972 ?_
      refine xr_if_eq (tgt := 978) D_La_law_973 rfl (fun c3 => ?_) (fun c3 => ?_)
      · refine xr_goto (tgt := 1185) D_La_law_978 rfl ?_
        exact K _ _ _ _ _ R2
      · exact absurd (cmp_0.mpr (eb c2)) c3
  · exact absurd ek c1
theorem k_law_15 {f : Nat → Int32} {n a : Nat} {i : Int32} {I : mI} {A : mA} {L : mL} {x5 x6 : Option Value} {rc rs : Nat} {Q : xO → Prop} (hn : n ≤ 5120) (h10a : i.toInt = (a : Int)) (h10 : a + 10 ≤ n) (R : RL I A L) (K : ∀ (y5 y6 : Option Value) (I2 : mI) (A2 : mA) (L2 : mL), RL I2 A2 L2 → xr m_La_law (some (n, f)) (10, 382) 1185 [some (.ref 1000000), some (.ref 0), some (.ref 34), some (.ref 61), some (.int i), y5, y6] [] (pic I2 A2 L2) rc rs Q) : xr m_La_law (some (n, f)) (10, 382) 981 [some (.ref 1000000), some (.ref 0), some (.ref 34), some (.ref 61), some (.int i), x5, x6] [] (pic I A L) (1 + rc) (6 + rs) Q := by
  refine xr_aload_n D_La_law_981 rfl rfl ?_
  refine xr_aload_n D_La_law_982 rfl rfl ?_
  refine xr_iload D_La_law_983 rfl ?_
  refine xr_iconst (v := 1) D_La_law_985 rfl ?_
  refine xr_iadd D_La_law_986 ?_
  refine xr_sld D_La_law_987 rfl (s_in h10a h10 hn (by decide) (by decide)) ?_
  refine xr_aload_n D_La_law_988 rfl rfl ?_
  refine xr_iload D_La_law_989 rfl ?_
  refine xr_iconst (v := 2) D_La_law_991 rfl ?_
  refine xr_iadd D_La_law_992 ?_
  refine xr_sld D_La_law_993 rfl (s_in h10a h10 hn (by decide) (by decide)) ?_
  refine xr_aload_n D_La_law_994 rfl rfl ?_
  refine xr_callSW (as := [_, _, _, _]) (p_La_mark R) (L_La_134) (ML_134) (CW_La_mark) D_La_law_995 rfl (by decide) (Nat.le_of_ble_eq_true rfl) (Nat.le_refl _) (Nat.le_refl _) pic_len ?_
  rintro _ ⟨k9, I1, A1, L1, rfl, hm⟩
  refine ⟨_, _, rfl, pic_leq, ?_⟩
  refine xr_istore D_La_law_998 (by decide) ?_
  refine xr_aload_n D_La_law_1000 rfl rfl ?_
  refine xr_aload_n D_La_law_1001 rfl rfl ?_
  refine xr_iload D_La_law_1002 rfl ?_
  refine xr_iconst (v := 1) D_La_law_1004 rfl ?_
  refine xr_iadd D_La_law_1005 ?_
  refine xr_sld D_La_law_1006 rfl (s_in h10a h10 hn (by decide) (by decide)) ?_
  refine xr_aload_n D_La_law_1007 rfl rfl ?_
  refine xr_iload D_La_law_1008 rfl ?_
  refine xr_iconst (v := 2) D_La_law_1010 rfl ?_
  refine xr_iadd D_La_law_1011 ?_
  refine xr_sld D_La_law_1012 rfl (s_in h10a h10 hn (by decide) (by decide)) ?_
  refine xr_cVx (as := [_, _]) hm (L_La_137) (CD_Mo_mark2) CI_Mo D_La_law_1013 rfl rfl (by decide) (Nat.le_of_ble_eq_true rfl) (Nat.le_of_eq (Nat.zero_add _)) (Nat.le_of_eq (Nat.zero_add _)) pic_len ?_
  rintro _ ⟨b9, I2, A2, rfl, R2, ek, eb⟩
  refine ⟨_, _, rfl, pic_leq, ?_⟩
  refine xr_istore D_La_law_1016 (by decide) ?_
  refine xr_aload_n D_La_law_1018 rfl rfl ?_
  refine xr_cVx (as := []) (c_Mo_thrown_34) (L_La_77) (CD_Mo_thrown) CI_Mo D_La_law_1019 rfl rfl (by decide) (Nat.le_of_ble_eq_true rfl) (Nat.le_of_eq (Nat.zero_add _)) (Nat.le_of_eq (Nat.zero_add _)) pic_len ?_
  rintro _ rfl
  refine ⟨_, _, rfl, pic_leq, ?_⟩
  refine xr_iload D_La_law_1022 rfl ?_
  refine xr_icmp_eq (tgt := 1029) D_La_law_1024 rfl (fun c1 => ?_) (fun c1 => ?_)
  · refine xr_iload D_La_law_1029 rfl ?_
    refine xr_if_ne (tgt := 1046) D_La_law_1031 rfl (fun c2 => ?_) (fun c2 => ?_)
    · refine xr_goto (tgt := 1185) D_La_law_1046 rfl ?_
      exact K _ _ _ _ _ R2
    · refine xr_aload_n D_La_law_1034 rfl rfl ?_
      refine xr_iconst (v := 0) D_La_law_1035 rfl ?_
      refine xr_lald D_La_law_1036 rfl (by exact i_in2 1 (by decide) (by decide) rfl) ?_
      refine xr_iload D_La_law_1037 rfl ?_
      refine xr_i2l D_La_law_1039 ?_
      refine xr_lcmp D_La_law_1040 ?_
      refine xr_if_eq (tgt := 1046) D_La_law_1041 rfl (fun c3 => ?_) (fun c3 => ?_)
      · refine xr_goto (tgt := 1185) D_La_law_1046 rfl ?_
        exact K _ _ _ _ _ R2
      · exact absurd (cmp_0.mpr (eb c2)) c3
  · exact absurd ek c1
theorem k_law_16 {f : Nat → Int32} {n a : Nat} {i : Int32} {I : mI} {A : mA} {L : mL} {x5 x6 : Option Value} {rc rs : Nat} {Q : xO → Prop} (hn : n ≤ 5120) (h10a : i.toInt = (a : Int)) (h10 : a + 10 ≤ n) (R : RL I A L) (K : ∀ (y5 y6 : Option Value) (I2 : mI) (A2 : mA) (L2 : mL), RL I2 A2 L2 → xr m_La_law (some (n, f)) (10, 382) 1185 [some (.ref 1000000), some (.ref 0), some (.ref 34), some (.ref 61), some (.int i), y5, y6] [] (pic I2 A2 L2) rc rs Q) : xr m_La_law (some (n, f)) (10, 382) 1049 [some (.ref 1000000), some (.ref 0), some (.ref 34), some (.ref 61), some (.int i), x5, x6] [] (pic I A L) (1 + rc) (6 + rs) Q := by
  refine xr_aload_n D_La_law_1049 rfl rfl ?_
  refine xr_aload_n D_La_law_1050 rfl rfl ?_
  refine xr_iload D_La_law_1051 rfl ?_
  refine xr_iconst (v := 1) D_La_law_1053 rfl ?_
  refine xr_iadd D_La_law_1054 ?_
  refine xr_sld D_La_law_1055 rfl (s_in h10a h10 hn (by decide) (by decide)) ?_
  refine xr_aload_n D_La_law_1056 rfl rfl ?_
  refine xr_iload D_La_law_1057 rfl ?_
  refine xr_iconst (v := 2) D_La_law_1059 rfl ?_
  refine xr_iadd D_La_law_1060 ?_
  refine xr_sld D_La_law_1061 rfl (s_in h10a h10 hn (by decide) (by decide)) ?_
  refine xr_aload_n D_La_law_1062 rfl rfl ?_
  refine xr_callSW (as := [_, _, _, _]) (p_La_page R) (L_La_138) (ML_138) (CW_La_page) D_La_law_1063 rfl (by decide) (Nat.le_of_ble_eq_true rfl) (Nat.le_refl _) (Nat.le_refl _) pic_len ?_
  rintro _ ⟨k9, I1, A1, L1, rfl, hm⟩
  refine ⟨_, _, rfl, pic_leq, ?_⟩
  refine xr_istore D_La_law_1066 (by decide) ?_
  refine xr_aload_n D_La_law_1068 rfl rfl ?_
  refine xr_aload_n D_La_law_1069 rfl rfl ?_
  refine xr_iload D_La_law_1070 rfl ?_
  refine xr_iconst (v := 1) D_La_law_1072 rfl ?_
  refine xr_iadd D_La_law_1073 ?_
  refine xr_sld D_La_law_1074 rfl (s_in h10a h10 hn (by decide) (by decide)) ?_
  refine xr_aload_n D_La_law_1075 rfl rfl ?_
  refine xr_iload D_La_law_1076 rfl ?_
  refine xr_iconst (v := 2) D_La_law_1078 rfl ?_
  refine xr_iadd D_La_law_1079 ?_
  refine xr_sld D_La_law_1080 rfl (s_in h10a h10 hn (by decide) (by decide)) ?_
  refine xr_cVx (as := [_, _]) hm (L_La_140) (CD_Mo_page) CI_Mo D_La_law_1081 rfl rfl (by decide) (Nat.le_of_ble_eq_true rfl) (Nat.le_of_eq (Nat.zero_add _)) (Nat.le_of_eq (Nat.zero_add _)) pic_len ?_
  rintro _ ⟨b9, I2, A2, rfl, R2, ek, eb⟩
  refine ⟨_, _, rfl, pic_leq, ?_⟩
  refine xr_istore D_La_law_1084 (by decide) ?_
  refine xr_aload_n D_La_law_1086 rfl rfl ?_
  refine xr_cVx (as := []) (c_Mo_thrown_34) (L_La_77) (CD_Mo_thrown) CI_Mo D_La_law_1087 rfl rfl (by decide) (Nat.le_of_ble_eq_true rfl) (Nat.le_of_eq (Nat.zero_add _)) (Nat.le_of_eq (Nat.zero_add _)) pic_len ?_
  rintro _ rfl
  refine ⟨_, _, rfl, pic_leq, ?_⟩
  refine xr_iload D_La_law_1090 rfl ?_
  refine xr_icmp_eq (tgt := 1097) D_La_law_1092 rfl (fun c1 => ?_) (fun c1 => ?_)
  · refine xr_iload D_La_law_1097 rfl ?_
    refine xr_if_ne (tgt := 1114) D_La_law_1099 rfl (fun c2 => ?_) (fun c2 => ?_)
    · refine xr_goto (tgt := 1185) D_La_law_1114 rfl ?_
      exact K _ _ _ _ _ R2
    · refine xr_aload_n D_La_law_1102 rfl rfl ?_
      refine xr_iconst (v := 0) D_La_law_1103 rfl ?_
      refine xr_lald D_La_law_1104 rfl (by exact i_in2 1 (by decide) (by decide) rfl) ?_
      refine xr_iload D_La_law_1105 rfl ?_
      refine xr_i2l D_La_law_1107 ?_
      refine xr_lcmp D_La_law_1108 ?_
      refine xr_if_eq (tgt := 1114) D_La_law_1109 rfl (fun c3 => ?_) (fun c3 => ?_)
      · refine xr_goto (tgt := 1185) D_La_law_1114 rfl ?_
        exact K _ _ _ _ _ R2
      · exact absurd (cmp_0.mpr (eb c2)) c3
  · exact absurd ek c1
theorem k_law_17 {f : Nat → Int32} {n a : Nat} {i : Int32} {I : mI} {A : mA} {L : mL} {x5 x6 : Option Value} {rc rs : Nat} {Q : xO → Prop} (hn : n ≤ 5120) (h10a : i.toInt = (a : Int)) (h10 : a + 10 ≤ n) (R : RL I A L) (K : ∀ (y5 y6 : Option Value) (I2 : mI) (A2 : mA) (L2 : mL), RL I2 A2 L2 → xr m_La_law (some (n, f)) (10, 382) 1185 [some (.ref 1000000), some (.ref 0), some (.ref 34), some (.ref 61), some (.int i), y5, y6] [] (pic I2 A2 L2) rc rs Q) : xr m_La_law (some (n, f)) (10, 382) 1117 [some (.ref 1000000), some (.ref 0), some (.ref 34), some (.ref 61), some (.int i), x5, x6] [] (pic I A L) (1 + rc) (6 + rs) Q := by
  refine xr_aload_n D_La_law_1117 rfl rfl ?_
  refine xr_aload_n D_La_law_1118 rfl rfl ?_
  refine xr_iload D_La_law_1119 rfl ?_
  refine xr_iconst (v := 1) D_La_law_1121 rfl ?_
  refine xr_iadd D_La_law_1122 ?_
  refine xr_sld D_La_law_1123 rfl (s_in h10a h10 hn (by decide) (by decide)) ?_
  refine xr_aload_n D_La_law_1124 rfl rfl ?_
  refine xr_iload D_La_law_1125 rfl ?_
  refine xr_iconst (v := 2) D_La_law_1127 rfl ?_
  refine xr_iadd D_La_law_1128 ?_
  refine xr_sld D_La_law_1129 rfl (s_in h10a h10 hn (by decide) (by decide)) ?_
  refine xr_aload_n D_La_law_1130 rfl rfl ?_
  refine xr_callSW (as := [_, _, _, _]) (p_La_told R) (L_La_141) (ML_141) (CW_La_told) D_La_law_1131 rfl (by decide) (Nat.le_of_ble_eq_true rfl) (Nat.le_refl _) (Nat.le_refl _) pic_len ?_
  rintro _ ⟨k9, I1, A1, L1, rfl, hm⟩
  refine ⟨_, _, rfl, pic_leq, ?_⟩
  refine xr_istore D_La_law_1134 (by decide) ?_
  refine xr_aload_n D_La_law_1136 rfl rfl ?_
  refine xr_aload_n D_La_law_1137 rfl rfl ?_
  refine xr_iload D_La_law_1138 rfl ?_
  refine xr_iconst (v := 1) D_La_law_1140 rfl ?_
  refine xr_iadd D_La_law_1141 ?_
  refine xr_sld D_La_law_1142 rfl (s_in h10a h10 hn (by decide) (by decide)) ?_
  refine xr_aload_n D_La_law_1143 rfl rfl ?_
  refine xr_iload D_La_law_1144 rfl ?_
  refine xr_iconst (v := 2) D_La_law_1146 rfl ?_
  refine xr_iadd D_La_law_1147 ?_
  refine xr_sld D_La_law_1148 rfl (s_in h10a h10 hn (by decide) (by decide)) ?_
  refine xr_cVx (as := [_, _]) hm (L_La_143) (CD_Mo_told) CI_Mo D_La_law_1149 rfl rfl (by decide) (Nat.le_of_ble_eq_true rfl) (Nat.le_of_eq (Nat.zero_add _)) (Nat.le_of_eq (Nat.zero_add _)) pic_len ?_
  rintro _ ⟨b9, I2, A2, rfl, R2, ek, eb⟩
  refine ⟨_, _, rfl, pic_leq, ?_⟩
  refine xr_istore D_La_law_1152 (by decide) ?_
  refine xr_aload_n D_La_law_1154 rfl rfl ?_
  refine xr_cVx (as := []) (c_Mo_thrown_34) (L_La_77) (CD_Mo_thrown) CI_Mo D_La_law_1155 rfl rfl (by decide) (Nat.le_of_ble_eq_true rfl) (Nat.le_of_eq (Nat.zero_add _)) (Nat.le_of_eq (Nat.zero_add _)) pic_len ?_
  rintro _ rfl
  refine ⟨_, _, rfl, pic_leq, ?_⟩
  refine xr_iload D_La_law_1158 rfl ?_
  refine xr_icmp_eq (tgt := 1165) D_La_law_1160 rfl (fun c1 => ?_) (fun c1 => ?_)
  · refine xr_iload D_La_law_1165 rfl ?_
    refine xr_if_ne (tgt := 1182) D_La_law_1167 rfl (fun c2 => ?_) (fun c2 => ?_)
    · refine xr_goto (tgt := 1185) D_La_law_1182 rfl ?_
      exact K _ _ _ _ _ R2
    · refine xr_aload_n D_La_law_1170 rfl rfl ?_
      refine xr_iconst (v := 0) D_La_law_1171 rfl ?_
      refine xr_lald D_La_law_1172 rfl (by exact i_in2 1 (by decide) (by decide) rfl) ?_
      refine xr_iload D_La_law_1173 rfl ?_
      refine xr_i2l D_La_law_1175 ?_
      refine xr_lcmp D_La_law_1176 ?_
      refine xr_if_eq (tgt := 1182) D_La_law_1177 rfl (fun c3 => ?_) (fun c3 => ?_)
      · refine xr_goto (tgt := 1185) D_La_law_1182 rfl ?_
        exact K _ _ _ _ _ R2
      · exact absurd (cmp_0.mpr (eb c2)) c3
  · exact absurd ek c1
theorem tb_18 {x : Int32} (h0 : ¬ x = 0) (h1 : ¬ x = 1) (h2 : ¬ x = 2) (h3 : ¬ x = 3) (h4 : ¬ x = 4) (h5 : ¬ x = 5) (h6 : ¬ x = 6) (h7 : ¬ x = 7) (h8 : ¬ x = 8) (h9 : ¬ x = 9) (h10 : ¬ x = 10) (h11 : ¬ x = 11) (h12 : ¬ x = 12) (h13 : ¬ x = 13) (h14 : ¬ x = 14) (h15 : ¬ x = 15) (h16 : ¬ x = 16) (h17 : ¬ x = 17) : x < 0 ∨ 17 < x := by
  have e : ∀ k : Int32, ¬ x = k → ¬ x.toInt = k.toInt := fun k h q => h (i_eq.mpr q)
  have g0 := e _ h0
  rw [show (0 : Int32).toInt = 0 from rfl] at g0
  have g1 := e _ h1
  rw [show (1 : Int32).toInt = 1 from rfl] at g1
  have g2 := e _ h2
  rw [show (2 : Int32).toInt = 2 from rfl] at g2
  have g3 := e _ h3
  rw [show (3 : Int32).toInt = 3 from rfl] at g3
  have g4 := e _ h4
  rw [show (4 : Int32).toInt = 4 from rfl] at g4
  have g5 := e _ h5
  rw [show (5 : Int32).toInt = 5 from rfl] at g5
  have g6 := e _ h6
  rw [show (6 : Int32).toInt = 6 from rfl] at g6
  have g7 := e _ h7
  rw [show (7 : Int32).toInt = 7 from rfl] at g7
  have g8 := e _ h8
  rw [show (8 : Int32).toInt = 8 from rfl] at g8
  have g9 := e _ h9
  rw [show (9 : Int32).toInt = 9 from rfl] at g9
  have g10 := e _ h10
  rw [show (10 : Int32).toInt = 10 from rfl] at g10
  have g11 := e _ h11
  rw [show (11 : Int32).toInt = 11 from rfl] at g11
  have g12 := e _ h12
  rw [show (12 : Int32).toInt = 12 from rfl] at g12
  have g13 := e _ h13
  rw [show (13 : Int32).toInt = 13 from rfl] at g13
  have g14 := e _ h14
  rw [show (14 : Int32).toInt = 14 from rfl] at g14
  have g15 := e _ h15
  rw [show (15 : Int32).toInt = 15 from rfl] at g15
  have g16 := e _ h16
  rw [show (16 : Int32).toInt = 16 from rfl] at g16
  have g17 := e _ h17
  rw [show (17 : Int32).toInt = 17 from rfl] at g17
  rw [i_lt, i_lt, z0, show (17 : Int32).toInt = 17 from rfl]
  omega
theorem n_10 {i : Int32} {a n : Nat} (hn : n ≤ 5120) (hi : i.toInt = (a : Int)) (h : n ≤ a + 9) : Int32.ofNat n - 10 < i := by
  have e : (Int32.ofNat n - 10).toInt = (n : Int) - 10 := by rw [i_sub (by rw [i_of (by omega), show (10 : Int32).toInt = 10 from rfl]; omega) (by rw [i_of (by omega), show (10 : Int32).toInt = 10 from rfl]; omega), i_of (by omega), show (10 : Int32).toInt = 10 from rfl]
  exact i_lt.mpr (by rw [e]; omega)
theorem n_10r {i : Int32} {a n : Nat} (hn : n ≤ 5120) (hi : i.toInt = (a : Int)) (h : ¬ Int32.ofNat n - 10 < i) : a + 10 ≤ n := by
  have e : (Int32.ofNat n - 10).toInt = (n : Int) - 10 := by rw [i_sub (by rw [i_of (by omega), show (10 : Int32).toInt = 10 from rfl]; omega) (by rw [i_of (by omega), show (10 : Int32).toInt = 10 from rfl]; omega), i_of (by omega), show (10 : Int32).toInt = 10 from rfl]
  have g := i_le.mp (Int32.not_lt.mp h)
  rw [e] at g
  omega
theorem l_law {f : Nat → Int32} {n : Nat} (hn : n ≤ 5120) : ∀ (t a : Nat) (i : Int32) (I : mI) (A : mA) (L : mL) (x5 x6 : Option Value), i.toInt = (a : Int) → a ≤ 5130 → n ≤ a + 10 * t + 9 → RL I A L → xr m_La_law (some (n, f)) (10, 382) 23 [some (.ref 1000000), some (.ref 0), some (.ref 34), some (.ref 61), some (.int i), x5, x6] [] (pic I A L) t (6 * t) (fun o : xO => ∃ h, o = (.inl (some (.int 1)), h)) := by
  intro t
  induction t with
  | zero =>
    intro a i I A L x5 x6 hi ha ht R
    refine xr_iload D_La_law_23 rfl ?_
    refine xr_aload_n D_La_law_25 rfl rfl ?_
    refine xr_slen D_La_law_26 rfl ?_
    refine xr_bipush (v := 10) D_La_law_27 rfl ?_
    refine xr_isub D_La_law_29 ?_
    refine xr_icmp_gt (tgt := 1191) D_La_law_30 rfl (fun c1 => ?_) (fun c1 => ?_)
    · refine xr_iconst (v := 1) D_La_law_1191 rfl ?_
      refine xr_zret rfl rfl D_La_law_1192 ?_
      exact ⟨_, rfl⟩
    · exact absurd (n_10 hn hi (by omega)) c1
  | succ t ih =>
    intro a i I A L x5 x6 hi ha ht R
    refine xr_iload D_La_law_23 rfl ?_
    refine xr_aload_n D_La_law_25 rfl rfl ?_
    refine xr_slen D_La_law_26 rfl ?_
    refine xr_bipush (v := 10) D_La_law_27 rfl ?_
    refine xr_isub D_La_law_29 ?_
    refine xr_icmp_gt (tgt := 1191) D_La_law_30 rfl (fun c1 => ?_) (fun c1 => ?_)
    · refine xr_iconst (v := 1) D_La_law_1191 rfl ?_
      refine xr_zret rfl rfl D_La_law_1192 ?_
      exact ⟨_, rfl⟩
    have h10 : a + 10 ≤ n := n_10r hn hi c1
    have e10 : (i + 10).toInt = ((a + 10 : Nat) : Int) := by rw [i_add (by rw [show (10 : Int32).toInt = 10 from rfl]; omega) (by rw [show (10 : Int32).toInt = 10 from rfl]; omega), show (10 : Int32).toInt = 10 from rfl, hi]; omega
    have KK : ∀ (y5 y6 : Option Value) (I2 : mI) (A2 : mA) (L2 : mL), RL I2 A2 L2 → xr m_La_law (some (n, f)) (10, 382) 1185 [some (.ref 1000000), some (.ref 0), some (.ref 34), some (.ref 61), some (.int i), y5, y6] [] (pic I2 A2 L2) t (6 * t) (fun o : xO => ∃ h, o = (.inl (some (.int 1)), h)) := by
      intro y5 y6 I2 A2 L2 R2
      refine xr_iinc (c9 := 10) D_La_law_1185 rfl rfl (by decide) ?_
      refine xr_goto (tgt := 23) D_La_law_1188 rfl ?_
      exact ih (a + 10) (i + 10) I2 A2 L2 y5 y6 e10 (by omega) (by omega) R2
    refine xr_aload_n D_La_law_33 rfl rfl ?_
    refine xr_iload D_La_law_34 rfl ?_
    refine xr_sld D_La_law_36 rfl (i_in (by omega) (by omega)) ?_
    refine xr_bipush (v := 31) D_La_law_37 rfl ?_
    refine xr_iand D_La_law_39 ?_
    rw [show t + 1 = 1 + t from Nat.add_comm t 1, show 6 * (1 + t) = 6 + 6 * t by omega]
    generalize f i.toNatClampNeg &&& 31 = x
    by_cases t0 : x = 0
    · refine xr_tableIn (tgt := 128) (off := 88) D_La_law_40 (by rw [t0]; decide) (by rw [t0]; decide) (by rw [t0]; rfl) rfl ?_
      exact k_law_0 hn hi h10 R KK
    by_cases t1 : x = 1
    · refine xr_tableIn (tgt := 308) (off := 268) D_La_law_40 (by rw [t1]; decide) (by rw [t1]; decide) (by rw [t1]; rfl) rfl ?_
      exact k_law_1 hn hi h10 R KK
    by_cases t2 : x = 2
    · refine xr_tableIn (tgt := 368) (off := 328) D_La_law_40 (by rw [t2]; decide) (by rw [t2]; decide) (by rw [t2]; rfl) rfl ?_
      exact k_law_2 hn hi h10 R KK
    by_cases t3 : x = 3
    · refine xr_tableIn (tgt := 416) (off := 376) D_La_law_40 (by rw [t3]; decide) (by rw [t3]; decide) (by rw [t3]; rfl) rfl ?_
      exact k_law_3 hn hi h10 R KK
    by_cases t4 : x = 4
    · refine xr_tableIn (tgt := 464) (off := 424) D_La_law_40 (by rw [t4]; decide) (by rw [t4]; decide) (by rw [t4]; rfl) rfl ?_
      exact k_law_4 hn hi h10 R KK
    by_cases t5 : x = 5
    · refine xr_tableIn (tgt := 556) (off := 516) D_La_law_40 (by rw [t5]; decide) (by rw [t5]; decide) (by rw [t5]; rfl) rfl ?_
      exact k_law_5 hn hi h10 R KK
    by_cases t6 : x = 6
    · refine xr_tableIn (tgt := 648) (off := 608) D_La_law_40 (by rw [t6]; decide) (by rw [t6]; decide) (by rw [t6]; rfl) rfl ?_
      exact k_law_6 hn hi h10 R KK
    by_cases t7 : x = 7
    · refine xr_tableIn (tgt := 692) (off := 652) D_La_law_40 (by rw [t7]; decide) (by rw [t7]; decide) (by rw [t7]; rfl) rfl ?_
      exact k_law_7 hn hi h10 R KK
    by_cases t8 : x = 8
    · refine xr_tableIn (tgt := 736) (off := 696) D_La_law_40 (by rw [t8]; decide) (by rw [t8]; decide) (by rw [t8]; rfl) rfl ?_
      exact k_law_8 hn hi h10 R KK
    by_cases t9 : x = 9
    · refine xr_tableIn (tgt := 749) (off := 709) D_La_law_40 (by rw [t9]; decide) (by rw [t9]; decide) (by rw [t9]; rfl) rfl ?_
      exact k_law_9 hn hi h10 R KK
    by_cases t10 : x = 10
    · refine xr_tableIn (tgt := 805) (off := 765) D_La_law_40 (by rw [t10]; decide) (by rw [t10]; decide) (by rw [t10]; rfl) rfl ?_
      exact k_law_10 hn hi h10 R KK
    by_cases t11 : x = 11
    · refine xr_tableIn (tgt := 874) (off := 834) D_La_law_40 (by rw [t11]; decide) (by rw [t11]; decide) (by rw [t11]; rfl) rfl ?_
      exact k_law_11 hn hi h10 R KK
    by_cases t12 : x = 12
    · refine xr_tableIn (tgt := 899) (off := 859) D_La_law_40 (by rw [t12]; decide) (by rw [t12]; decide) (by rw [t12]; rfl) rfl ?_
      exact k_law_12 hn hi h10 R KK
    by_cases t13 : x = 13
    · refine xr_tableIn (tgt := 912) (off := 872) D_La_law_40 (by rw [t13]; decide) (by rw [t13]; decide) (by rw [t13]; rfl) rfl ?_
      exact k_law_13 hn hi h10 R KK
    by_cases t14 : x = 14
    · refine xr_tableIn (tgt := 925) (off := 885) D_La_law_40 (by rw [t14]; decide) (by rw [t14]; decide) (by rw [t14]; rfl) rfl ?_
      exact k_law_14 hn hi h10 R KK
    by_cases t15 : x = 15
    · refine xr_tableIn (tgt := 981) (off := 941) D_La_law_40 (by rw [t15]; decide) (by rw [t15]; decide) (by rw [t15]; rfl) rfl ?_
      exact k_law_15 hn hi h10 R KK
    by_cases t16 : x = 16
    · refine xr_tableIn (tgt := 1049) (off := 1009) D_La_law_40 (by rw [t16]; decide) (by rw [t16]; decide) (by rw [t16]; rfl) rfl ?_
      exact k_law_16 hn hi h10 R KK
    by_cases t17 : x = 17
    · refine xr_tableIn (tgt := 1117) (off := 1077) D_La_law_40 (by rw [t17]; decide) (by rw [t17]; decide) (by rw [t17]; rfl) rfl ?_
      exact k_law_17 hn hi h10 R KK
    refine xr_tableOut2 (tgt := 1185) (lo9 := 0) (hi9 := 17) D_La_law_40 (tb_18 t0 t1 t2 t3 t4 t5 t6 t7 t8 t9 t10 t11 t12 t13 t14 t15 t16 t17) rfl rfl rfl ?_
    exact xr_room (Nat.le_add_left _ _) (Nat.le_add_left _ _) (KK _ _ _ _ _ R)
