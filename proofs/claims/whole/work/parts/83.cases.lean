/-! the law: a call of each kind -/
section LAW2
variable {p : Program} {l : Launch} {e : Env} {s : State} {m : MethodId} {b L : Nat} {xs : Nat → Int32} {below : List Frame} {meth : Method} {c : Code} {G : va_G} {ad : gAd} {cI cC : ClassId} {i : Nat} {M : gMem}
theorem lc_shade (C : lX p s m meth c b L xs G ad cI cC) (h3 : i + 3 < L) (hI : INV M) (kk : ∀ M2, INV M2 → Lo p l e s m b below meth c G ad cI cC 665 i [] M2) : Lo p l e s m b below meth c G ad cI cC 132 i [] M := by
  obtain ⟨M1, M2, v, g1, g2, hM2⟩ := op_shade hI (inR_toInt (xs (i + 1))) (inR_toInt (xs (i + 2)))
  refine Lo_x C dL_law_132 ?_
  refine Lo_arg C (q := 1) dL_law_133 dL_law_134 dL_law_135 dL_law_136 dL_law_137 rfl (by omega) ?_
  refine Lo_arg C (q := 2) dL_law_138 dL_law_139 dL_law_140 dL_law_141 dL_law_142 rfl (by omega) ?_
  refine Lo_call C dL_law_143 ln_L_13 mo_X7_shade vo_X7_shade rfl (k := 0) (ci := 5) (by decide) rfl rfl (avs := [.inl (xs (i + 1)).toInt, .inl (xs (i + 2)).toInt]) (rest := []) rfl rfl (Nat.le_of_ble_eq_true rfl) (Nat.le_of_ble_eq_true rfl) rfl (g1 12 (Nat.le_refl 12)) ?_
  refine Lo_m C dL_law_146 ?_
  refine Lo_arg C (q := 1) dL_law_147 dL_law_148 dL_law_149 dL_law_150 dL_law_151 rfl (by omega) ?_
  refine Lo_arg C (q := 2) dL_law_152 dL_law_153 dL_law_154 dL_law_155 dL_law_156 rfl (by omega) ?_
  refine Lo_call C dL_law_157 ln_L_17 mo_X8_shade vo_X8_shade rfl (k := 16) (ci := 6) (by decide) rfl rfl (avs := [.inl (xs (i + 1)).toInt, .inl (xs (i + 2)).toInt]) (rest := [.inl v]) rfl rfl (Nat.le_of_ble_eq_true rfl) (Nat.le_of_ble_eq_true rfl) rfl (g2 12 (Nat.le_refl 12)) ?_
  exact Lo_eq C dL_law_160 (by decide) (kk M2 hM2)
theorem lc_string (C : lX p s m meth c b L xs G ad cI cC) (h3 : i + 3 < L) (hI : INV M) (kk : ∀ M2, INV M2 → Lo p l e s m b below meth c G ad cI cC 665 i [] M2) : Lo p l e s m b below meth c G ad cI cC 165 i [] M := by
  obtain ⟨M1, M2, v, g1, g2, hM2⟩ := op_string hI (inR_toInt (xs (i + 1))) (inR_toInt (xs (i + 2)))
  refine Lo_x C dL_law_165 ?_
  refine Lo_arg C (q := 1) dL_law_166 dL_law_167 dL_law_168 dL_law_169 dL_law_170 rfl (by omega) ?_
  refine Lo_arg C (q := 2) dL_law_171 dL_law_172 dL_law_173 dL_law_174 dL_law_175 rfl (by omega) ?_
  refine Lo_call C dL_law_176 ln_L_18 mo_X7_string vo_X7_string rfl (k := 0) (ci := 5) (by decide) rfl rfl (avs := [.inl (xs (i + 1)).toInt, .inl (xs (i + 2)).toInt]) (rest := []) rfl rfl (Nat.le_of_ble_eq_true rfl) (Nat.le_of_ble_eq_true rfl) rfl (g1 12 (Nat.le_refl 12)) ?_
  refine Lo_m C dL_law_179 ?_
  refine Lo_arg C (q := 1) dL_law_180 dL_law_181 dL_law_182 dL_law_183 dL_law_184 rfl (by omega) ?_
  refine Lo_arg C (q := 2) dL_law_185 dL_law_186 dL_law_187 dL_law_188 dL_law_189 rfl (by omega) ?_
  refine Lo_call C dL_law_190 ln_L_21 mo_X8_string vo_X8_string rfl (k := 16) (ci := 6) (by decide) rfl rfl (avs := [.inl (xs (i + 1)).toInt, .inl (xs (i + 2)).toInt]) (rest := [.inl v]) rfl rfl (Nat.le_of_ble_eq_true rfl) (Nat.le_of_ble_eq_true rfl) rfl (g2 12 (Nat.le_refl 12)) ?_
  exact Lo_eq C dL_law_193 (by decide) (kk M2 hM2)
theorem lc_pull (C : lX p s m meth c b L xs G ad cI cC) (h3 : i + 3 < L) (hI : INV M) (kk : ∀ M2, INV M2 → Lo p l e s m b below meth c G ad cI cC 665 i [] M2) : Lo p l e s m b below meth c G ad cI cC 198 i [] M := by
  obtain ⟨M1, M2, v, g1, g2, hM2⟩ := op_pull hI (inR_toInt (xs (i + 1))) (inR_toInt (xs (i + 2)))
  refine Lo_x C dL_law_198 ?_
  refine Lo_arg C (q := 1) dL_law_199 dL_law_200 dL_law_201 dL_law_202 dL_law_203 rfl (by omega) ?_
  refine Lo_arg C (q := 2) dL_law_204 dL_law_205 dL_law_206 dL_law_207 dL_law_208 rfl (by omega) ?_
  refine Lo_call C dL_law_209 ln_L_22 mo_X7_pull vo_X7_pull rfl (k := 0) (ci := 5) (by decide) rfl rfl (avs := [.inl (xs (i + 1)).toInt, .inl (xs (i + 2)).toInt]) (rest := []) rfl rfl (Nat.le_of_ble_eq_true rfl) (Nat.le_of_ble_eq_true rfl) rfl (g1 12 (Nat.le_refl 12)) ?_
  refine Lo_m C dL_law_212 ?_
  refine Lo_arg C (q := 1) dL_law_213 dL_law_214 dL_law_215 dL_law_216 dL_law_217 rfl (by omega) ?_
  refine Lo_arg C (q := 2) dL_law_218 dL_law_219 dL_law_220 dL_law_221 dL_law_222 rfl (by omega) ?_
  refine Lo_call C dL_law_223 ln_L_25 mo_X8_pull vo_X8_pull rfl (k := 16) (ci := 6) (by decide) rfl rfl (avs := [.inl (xs (i + 1)).toInt, .inl (xs (i + 2)).toInt]) (rest := [.inl v]) rfl rfl (Nat.le_of_ble_eq_true rfl) (Nat.le_of_ble_eq_true rfl) rfl (g2 12 (Nat.le_refl 12)) ?_
  exact Lo_eq C dL_law_226 (by decide) (kk M2 hM2)
theorem lc_untie (C : lX p s m meth c b L xs G ad cI cC) (h3 : i + 3 < L) (hI : INV M) (kk : ∀ M2, INV M2 → Lo p l e s m b below meth c G ad cI cC 665 i [] M2) : Lo p l e s m b below meth c G ad cI cC 231 i [] M := by
  obtain ⟨M1, M2, v, g1, g2, hM2⟩ := op_untie hI (inR_toInt (xs (i + 1)))
  refine Lo_x C dL_law_231 ?_
  refine Lo_arg C (q := 1) dL_law_232 dL_law_233 dL_law_234 dL_law_235 dL_law_236 rfl (by omega) ?_
  refine Lo_call C dL_law_237 ln_L_26 mo_X7_untie vo_X7_untie rfl (k := 0) (ci := 5) (by decide) rfl rfl (avs := [.inl (xs (i + 1)).toInt]) (rest := []) rfl rfl (Nat.le_of_ble_eq_true rfl) (Nat.le_of_ble_eq_true rfl) rfl (g1 12 (Nat.le_refl 12)) ?_
  refine Lo_m C dL_law_240 ?_
  refine Lo_arg C (q := 1) dL_law_241 dL_law_242 dL_law_243 dL_law_244 dL_law_245 rfl (by omega) ?_
  refine Lo_call C dL_law_246 ln_L_30 mo_X8_untie vo_X8_untie rfl (k := 16) (ci := 6) (by decide) rfl rfl (avs := [.inl (xs (i + 1)).toInt]) (rest := [.inl v]) rfl rfl (Nat.le_of_ble_eq_true rfl) (Nat.le_of_ble_eq_true rfl) rfl (g2 12 (Nat.le_refl 12)) ?_
  exact Lo_eq C dL_law_249 (by decide) (kk M2 hM2)
theorem lc_tell (C : lX p s m meth c b L xs G ad cI cC) (h3 : i + 3 < L) (hI : INV M) (kk : ∀ M2, INV M2 → Lo p l e s m b below meth c G ad cI cC 665 i [] M2) : Lo p l e s m b below meth c G ad cI cC 254 i [] M := by
  obtain ⟨M1, M2, v, g1, g2, hM2⟩ := op_tell hI (inR_toInt (xs (i + 1))) (inR_toInt (xs (i + 2)))
  refine Lo_x C dL_law_254 ?_
  refine Lo_arg C (q := 1) dL_law_255 dL_law_256 dL_law_257 dL_law_258 dL_law_259 rfl (by omega) ?_
  refine Lo_arg C (q := 2) dL_law_260 dL_law_261 dL_law_262 dL_law_263 dL_law_264 rfl (by omega) ?_
  refine Lo_call C dL_law_265 ln_L_31 mo_X7_tell vo_X7_tell rfl (k := 0) (ci := 5) (by decide) rfl rfl (avs := [.inl (xs (i + 1)).toInt, .inl (xs (i + 2)).toInt]) (rest := []) rfl rfl (Nat.le_of_ble_eq_true rfl) (Nat.le_of_ble_eq_true rfl) rfl (g1 12 (Nat.le_refl 12)) ?_
  refine Lo_m C dL_law_268 ?_
  refine Lo_arg C (q := 1) dL_law_269 dL_law_270 dL_law_271 dL_law_272 dL_law_273 rfl (by omega) ?_
  refine Lo_arg C (q := 2) dL_law_274 dL_law_275 dL_law_276 dL_law_277 dL_law_278 rfl (by omega) ?_
  refine Lo_call C dL_law_279 ln_L_34 mo_X8_tell vo_X8_tell rfl (k := 16) (ci := 6) (by decide) rfl rfl (avs := [.inl (xs (i + 1)).toInt, .inl (xs (i + 2)).toInt]) (rest := [.inl v]) rfl rfl (Nat.le_of_ble_eq_true rfl) (Nat.le_of_ble_eq_true rfl) rfl (g2 12 (Nat.le_refl 12)) ?_
  exact Lo_eq C dL_law_282 (by decide) (kk M2 hM2)
theorem lc_untell (C : lX p s m meth c b L xs G ad cI cC) (h3 : i + 3 < L) (hI : INV M) (kk : ∀ M2, INV M2 → Lo p l e s m b below meth c G ad cI cC 665 i [] M2) : Lo p l e s m b below meth c G ad cI cC 287 i [] M := by
  obtain ⟨M1, M2, v, g1, g2, hM2⟩ := op_untell hI 
  refine Lo_x C dL_law_287 ?_
  refine Lo_call C dL_law_288 ln_L_35 mo_X7_untell vo_X7_untell rfl (k := 0) (ci := 5) (by decide) rfl rfl (avs := []) (rest := []) rfl rfl (Nat.le_of_ble_eq_true rfl) (Nat.le_of_ble_eq_true rfl) rfl (g1 12 (Nat.le_refl 12)) ?_
  refine Lo_m C dL_law_291 ?_
  refine Lo_call C dL_law_292 ln_L_39 mo_X8_untell vo_X8_untell rfl (k := 16) (ci := 6) (by decide) rfl rfl (avs := []) (rest := [.inl v]) rfl rfl (Nat.le_of_ble_eq_true rfl) (Nat.le_of_ble_eq_true rfl) rfl (g2 12 (Nat.le_refl 12)) ?_
  exact Lo_eq C dL_law_295 (by decide) (kk M2 hM2)
theorem lc_pass (C : lX p s m meth c b L xs G ad cI cC) (h3 : i + 3 < L) (hI : INV M) (kk : ∀ M2, INV M2 → Lo p l e s m b below meth c G ad cI cC 665 i [] M2) : Lo p l e s m b below meth c G ad cI cC 300 i [] M := by
  obtain ⟨M1, M2, v, g1, g2, hM2⟩ := op_pass hI (inR_toInt (xs (i + 1)))
  refine Lo_x C dL_law_300 ?_
  refine Lo_arg C (q := 1) dL_law_301 dL_law_302 dL_law_303 dL_law_304 dL_law_305 rfl (by omega) ?_
  refine Lo_call C dL_law_306 ln_L_40 mo_X7_pass vo_X7_pass rfl (k := 0) (ci := 5) (by decide) rfl rfl (avs := [.inl (xs (i + 1)).toInt]) (rest := []) rfl rfl (Nat.le_of_ble_eq_true rfl) (Nat.le_of_ble_eq_true rfl) rfl (g1 12 (Nat.le_refl 12)) ?_
  refine Lo_m C dL_law_309 ?_
  refine Lo_arg C (q := 1) dL_law_310 dL_law_311 dL_law_312 dL_law_313 dL_law_314 rfl (by omega) ?_
  refine Lo_call C dL_law_315 ln_L_43 mo_X8_pass vo_X8_pass rfl (k := 16) (ci := 6) (by decide) rfl rfl (avs := [.inl (xs (i + 1)).toInt]) (rest := [.inl v]) rfl rfl (Nat.le_of_ble_eq_true rfl) (Nat.le_of_ble_eq_true rfl) rfl (g2 12 (Nat.le_refl 12)) ?_
  exact Lo_eq C dL_law_318 (by decide) (kk M2 hM2)
theorem lc_set (C : lX p s m meth c b L xs G ad cI cC) (h3 : i + 3 < L) (hI : INV M) (kk : ∀ M2, INV M2 → Lo p l e s m b below meth c G ad cI cC 665 i [] M2) : Lo p l e s m b below meth c G ad cI cC 323 i [] M := by
  obtain ⟨M1, M2, v, g1, g2, hM2⟩ := op_set hI (inR_toInt (xs (i + 1))) (inR_toInt (xs (i + 2)))
  refine Lo_x C dL_law_323 ?_
  refine Lo_arg C (q := 1) dL_law_324 dL_law_325 dL_law_326 dL_law_327 dL_law_328 rfl (by omega) ?_
  refine Lo_arg C (q := 2) dL_law_329 dL_law_330 dL_law_331 dL_law_332 dL_law_333 rfl (by omega) ?_
  refine Lo_call C dL_law_334 ln_L_44 mo_X7_set vo_X7_set rfl (k := 0) (ci := 5) (by decide) rfl rfl (avs := [.inl (xs (i + 1)).toInt, .inl (xs (i + 2)).toInt]) (rest := []) rfl rfl (Nat.le_of_ble_eq_true rfl) (Nat.le_of_ble_eq_true rfl) rfl (g1 12 (Nat.le_refl 12)) ?_
  refine Lo_m C dL_law_337 ?_
  refine Lo_arg C (q := 1) dL_law_338 dL_law_339 dL_law_340 dL_law_341 dL_law_342 rfl (by omega) ?_
  refine Lo_arg C (q := 2) dL_law_343 dL_law_344 dL_law_345 dL_law_346 dL_law_347 rfl (by omega) ?_
  refine Lo_call C dL_law_348 ln_L_47 mo_X8_set vo_X8_set rfl (k := 16) (ci := 6) (by decide) rfl rfl (avs := [.inl (xs (i + 1)).toInt, .inl (xs (i + 2)).toInt]) (rest := [.inl v]) rfl rfl (Nat.le_of_ble_eq_true rfl) (Nat.le_of_ble_eq_true rfl) rfl (g2 12 (Nat.le_refl 12)) ?_
  exact Lo_eq C dL_law_351 (by decide) (kk M2 hM2)
theorem lc_shadeOf (C : lX p s m meth c b L xs G ad cI cC) (h3 : i + 3 < L) (hI : INV M) (kk : ∀ M2, INV M2 → Lo p l e s m b below meth c G ad cI cC 665 i [] M2) : Lo p l e s m b below meth c G ad cI cC 356 i [] M := by
  obtain ⟨M1, M2, v, g1, g2, hM2⟩ := op_shadeOf hI (inR_toInt (xs (i + 1))) (inR_toInt (xs (i + 2)))
  refine Lo_x C dL_law_356 ?_
  refine Lo_arg C (q := 1) dL_law_357 dL_law_358 dL_law_359 dL_law_360 dL_law_361 rfl (by omega) ?_
  refine Lo_arg C (q := 2) dL_law_362 dL_law_363 dL_law_364 dL_law_365 dL_law_366 rfl (by omega) ?_
  refine Lo_call C dL_law_367 ln_L_48 mo_X7_shadeOf vo_X7_shadeOf rfl (k := 0) (ci := 5) (by decide) rfl rfl (avs := [.inl (xs (i + 1)).toInt, .inl (xs (i + 2)).toInt]) (rest := []) rfl rfl (Nat.le_of_ble_eq_true rfl) (Nat.le_of_ble_eq_true rfl) rfl (g1 12 (Nat.le_refl 12)) ?_
  refine Lo_m C dL_law_370 ?_
  refine Lo_arg C (q := 1) dL_law_371 dL_law_372 dL_law_373 dL_law_374 dL_law_375 rfl (by omega) ?_
  refine Lo_arg C (q := 2) dL_law_376 dL_law_377 dL_law_378 dL_law_379 dL_law_380 rfl (by omega) ?_
  refine Lo_call C dL_law_381 ln_L_51 mo_X8_shadeOf vo_X8_shadeOf rfl (k := 16) (ci := 6) (by decide) rfl rfl (avs := [.inl (xs (i + 1)).toInt, .inl (xs (i + 2)).toInt]) (rest := [.inl v]) rfl rfl (Nat.le_of_ble_eq_true rfl) (Nat.le_of_ble_eq_true rfl) rfl (g2 12 (Nat.le_refl 12)) ?_
  exact Lo_eq C dL_law_384 (by decide) (kk M2 hM2)
theorem lc_stringOf (C : lX p s m meth c b L xs G ad cI cC) (h3 : i + 3 < L) (hI : INV M) (kk : ∀ M2, INV M2 → Lo p l e s m b below meth c G ad cI cC 665 i [] M2) : Lo p l e s m b below meth c G ad cI cC 389 i [] M := by
  obtain ⟨M1, M2, v, g1, g2, hM2⟩ := op_stringOf hI (inR_toInt (xs (i + 1))) (inR_toInt (xs (i + 2)))
  refine Lo_x C dL_law_389 ?_
  refine Lo_arg C (q := 1) dL_law_390 dL_law_391 dL_law_392 dL_law_393 dL_law_394 rfl (by omega) ?_
  refine Lo_arg C (q := 2) dL_law_395 dL_law_396 dL_law_397 dL_law_398 dL_law_399 rfl (by omega) ?_
  refine Lo_call C dL_law_400 ln_L_52 mo_X7_stringOf vo_X7_stringOf rfl (k := 0) (ci := 5) (by decide) rfl rfl (avs := [.inl (xs (i + 1)).toInt, .inl (xs (i + 2)).toInt]) (rest := []) rfl rfl (Nat.le_of_ble_eq_true rfl) (Nat.le_of_ble_eq_true rfl) rfl (g1 12 (Nat.le_refl 12)) ?_
  refine Lo_m C dL_law_403 ?_
  refine Lo_arg C (q := 1) dL_law_404 dL_law_405 dL_law_406 dL_law_407 dL_law_408 rfl (by omega) ?_
  refine Lo_arg C (q := 2) dL_law_409 dL_law_410 dL_law_411 dL_law_412 dL_law_413 rfl (by omega) ?_
  refine Lo_call C dL_law_414 ln_L_55 mo_X8_stringOf vo_X8_stringOf rfl (k := 16) (ci := 6) (by decide) rfl rfl (avs := [.inl (xs (i + 1)).toInt, .inl (xs (i + 2)).toInt]) (rest := [.inl v]) rfl rfl (Nat.le_of_ble_eq_true rfl) (Nat.le_of_ble_eq_true rfl) rfl (g2 12 (Nat.le_refl 12)) ?_
  exact Lo_eq C dL_law_417 (by decide) (kk M2 hM2)
theorem lc_groupAt (C : lX p s m meth c b L xs G ad cI cC) (h3 : i + 3 < L) (hI : INV M) (kk : ∀ M2, INV M2 → Lo p l e s m b below meth c G ad cI cC 665 i [] M2) : Lo p l e s m b below meth c G ad cI cC 422 i [] M := by
  obtain ⟨M1, M2, v, g1, g2, hM2⟩ := op_groupAt hI (inR_toInt (xs (i + 1)))
  refine Lo_x C dL_law_422 ?_
  refine Lo_arg C (q := 1) dL_law_423 dL_law_424 dL_law_425 dL_law_426 dL_law_427 rfl (by omega) ?_
  refine Lo_call C dL_law_428 ln_L_56 mo_X7_groupAt vo_X7_groupAt rfl (k := 0) (ci := 5) (by decide) rfl rfl (avs := [.inl (xs (i + 1)).toInt]) (rest := []) rfl rfl (Nat.le_of_ble_eq_true rfl) (Nat.le_of_ble_eq_true rfl) rfl (g1 12 (Nat.le_refl 12)) ?_
  refine Lo_m C dL_law_431 ?_
  refine Lo_arg C (q := 1) dL_law_432 dL_law_433 dL_law_434 dL_law_435 dL_law_436 rfl (by omega) ?_
  refine Lo_call C dL_law_437 ln_L_59 mo_X8_groupAt vo_X8_groupAt rfl (k := 16) (ci := 6) (by decide) rfl rfl (avs := [.inl (xs (i + 1)).toInt]) (rest := [.inl v]) rfl rfl (Nat.le_of_ble_eq_true rfl) (Nat.le_of_ble_eq_true rfl) rfl (g2 12 (Nat.le_refl 12)) ?_
  exact Lo_eq C dL_law_440 (by decide) (kk M2 hM2)
theorem lc_would (C : lX p s m meth c b L xs G ad cI cC) (h3 : i + 3 < L) (hI : INV M) (kk : ∀ M2, INV M2 → Lo p l e s m b below meth c G ad cI cC 665 i [] M2) : Lo p l e s m b below meth c G ad cI cC 445 i [] M := by
  obtain ⟨M1, M2, v, g1, g2, hM2⟩ := op_would hI (inR_toInt (xs (i + 1))) (inR_toInt (xs (i + 2))) (inR_toInt (xs (i + 3)))
  refine Lo_x C dL_law_445 ?_
  refine Lo_arg C (q := 1) dL_law_446 dL_law_447 dL_law_448 dL_law_449 dL_law_450 rfl (by omega) ?_
  refine Lo_arg C (q := 2) dL_law_451 dL_law_452 dL_law_453 dL_law_454 dL_law_455 rfl (by omega) ?_
  refine Lo_arg C (q := 3) dL_law_456 dL_law_457 dL_law_458 dL_law_459 dL_law_460 rfl (by omega) ?_
  refine Lo_call C dL_law_461 ln_L_60 mo_X7_would vo_X7_would rfl (k := 0) (ci := 5) (by decide) rfl rfl (avs := [.inl (xs (i + 1)).toInt, .inl (xs (i + 2)).toInt, .inl (xs (i + 3)).toInt]) (rest := []) rfl rfl (Nat.le_of_ble_eq_true rfl) (Nat.le_of_ble_eq_true rfl) rfl (g1 12 (Nat.le_refl 12)) ?_
  refine Lo_m C dL_law_464 ?_
  refine Lo_arg C (q := 1) dL_law_465 dL_law_466 dL_law_467 dL_law_468 dL_law_469 rfl (by omega) ?_
  refine Lo_arg C (q := 2) dL_law_470 dL_law_471 dL_law_472 dL_law_473 dL_law_474 rfl (by omega) ?_
  refine Lo_arg C (q := 3) dL_law_475 dL_law_476 dL_law_477 dL_law_478 dL_law_479 rfl (by omega) ?_
  refine Lo_call C dL_law_480 ln_L_64 mo_X8_would vo_X8_would rfl (k := 16) (ci := 6) (by decide) rfl rfl (avs := [.inl (xs (i + 1)).toInt, .inl (xs (i + 2)).toInt, .inl (xs (i + 3)).toInt]) (rest := [.inl v]) rfl rfl (Nat.le_of_ble_eq_true rfl) (Nat.le_of_ble_eq_true rfl) rfl (g2 12 (Nat.le_refl 12)) ?_
  exact Lo_eq C dL_law_483 (by decide) (kk M2 hM2)
theorem lc_leastPulls (C : lX p s m meth c b L xs G ad cI cC) (h3 : i + 3 < L) (hI : INV M) (kk : ∀ M2, INV M2 → Lo p l e s m b below meth c G ad cI cC 665 i [] M2) : Lo p l e s m b below meth c G ad cI cC 488 i [] M := by
  obtain ⟨M1, M2, v, g1, g2, hM2⟩ := op_leastPulls hI (d1 := 12) (d2 := 12) (Nat.le_refl 12) (Nat.le_refl 12) (inR_toInt (xs (i + 1)))
  refine Lo_x C dL_law_488 ?_
  refine Lo_arg C (q := 1) dL_law_489 dL_law_490 dL_law_491 dL_law_492 dL_law_493 rfl (by omega) ?_
  refine Lo_call C dL_law_494 ln_L_65 mo_X7_leastPulls vo_X7_leastPulls rfl (k := 0) (ci := 5) (by decide) rfl rfl (avs := [.inl (xs (i + 1)).toInt]) (rest := []) rfl rfl (Nat.le_of_ble_eq_true rfl) (Nat.le_of_ble_eq_true rfl) rfl g1 ?_
  refine Lo_m C dL_law_497 ?_
  refine Lo_arg C (q := 1) dL_law_498 dL_law_499 dL_law_500 dL_law_501 dL_law_502 rfl (by omega) ?_
  refine Lo_call C dL_law_503 ln_L_68 mo_X8_leastPulls vo_X8_leastPulls rfl (k := 16) (ci := 6) (by decide) rfl rfl (avs := [.inl (xs (i + 1)).toInt]) (rest := [.inl v]) rfl rfl (Nat.le_of_ble_eq_true rfl) (Nat.le_of_ble_eq_true rfl) rfl g2 ?_
  exact Lo_eq C dL_law_506 (by decide) (kk M2 hM2)
theorem lc_reallyDo (C : lX p s m meth c b L xs G ad cI cC) (h3 : i + 3 < L) (hI : INV M) (kk : ∀ M2, INV M2 → Lo p l e s m b below meth c G ad cI cC 665 i [] M2) : Lo p l e s m b below meth c G ad cI cC 511 i [] M := by
  obtain ⟨M1, M2, v, g1, g2, hM2⟩ := op_reallyDo hI (d1 := 12) (d2 := 12) (Nat.le_refl 12) (Nat.le_refl 12) 
  refine Lo_x C dL_law_511 ?_
  refine Lo_call C dL_law_512 ln_L_69 mo_X7_reallyDo vo_X7_reallyDo rfl (k := 0) (ci := 5) (by decide) rfl rfl (avs := []) (rest := []) rfl rfl (Nat.le_of_ble_eq_true rfl) (Nat.le_of_ble_eq_true rfl) rfl g1 ?_
  refine Lo_m C dL_law_515 ?_
  refine Lo_call C dL_law_516 ln_L_72 mo_X8_reallyDo vo_X8_reallyDo rfl (k := 16) (ci := 6) (by decide) rfl rfl (avs := []) (rest := [.inl v]) rfl rfl (Nat.le_of_ble_eq_true rfl) (Nat.le_of_ble_eq_true rfl) rfl g2 ?_
  exact Lo_eq C dL_law_519 (by decide) (kk M2 hM2)
theorem lc_bestHeight (C : lX p s m meth c b L xs G ad cI cC) (h3 : i + 3 < L) (hI : INV M) (kk : ∀ M2, INV M2 → Lo p l e s m b below meth c G ad cI cC 665 i [] M2) : Lo p l e s m b below meth c G ad cI cC 524 i [] M := by
  obtain ⟨M1, M2, v, g1, g2, hM2⟩ := op_bestHeight hI (inR_toInt (xs (i + 1))) (inR_toInt (xs (i + 2)))
  refine Lo_x C dL_law_524 ?_
  refine Lo_arg C (q := 1) dL_law_525 dL_law_526 dL_law_527 dL_law_528 dL_law_529 rfl (by omega) ?_
  refine Lo_arg C (q := 2) dL_law_530 dL_law_531 dL_law_532 dL_law_533 dL_law_534 rfl (by omega) ?_
  refine Lo_call C dL_law_535 ln_L_73 mo_X7_bestHeight vo_X7_bestHeight rfl (k := 0) (ci := 5) (by decide) rfl rfl (avs := [.inl (xs (i + 1)).toInt, .inl (xs (i + 2)).toInt]) (rest := []) rfl rfl (Nat.le_of_ble_eq_true rfl) (Nat.le_of_ble_eq_true rfl) rfl (g1 12 (Nat.le_refl 12)) ?_
  refine Lo_m C dL_law_538 ?_
  refine Lo_arg C (q := 1) dL_law_539 dL_law_540 dL_law_541 dL_law_542 dL_law_543 rfl (by omega) ?_
  refine Lo_arg C (q := 2) dL_law_544 dL_law_545 dL_law_546 dL_law_547 dL_law_548 rfl (by omega) ?_
  refine Lo_call C dL_law_549 ln_L_76 mo_X8_bestHeight vo_X8_bestHeight rfl (k := 16) (ci := 6) (by decide) rfl rfl (avs := [.inl (xs (i + 1)).toInt, .inl (xs (i + 2)).toInt]) (rest := [.inl v]) rfl rfl (Nat.le_of_ble_eq_true rfl) (Nat.le_of_ble_eq_true rfl) rfl (g2 12 (Nat.le_refl 12)) ?_
  exact Lo_eq C dL_law_552 (by decide) (kk M2 hM2)
theorem lc_count (C : lX p s m meth c b L xs G ad cI cC) (h3 : i + 3 < L) (hI : INV M) (kk : ∀ M2, INV M2 → Lo p l e s m b below meth c G ad cI cC 665 i [] M2) : Lo p l e s m b below meth c G ad cI cC 557 i [] M := by
  obtain ⟨M1, M2, v, g1, g2, hM2⟩ := op_count hI (inR_toInt (xs (i + 1)))
  refine Lo_x C dL_law_557 ?_
  refine Lo_arg C (q := 1) dL_law_558 dL_law_559 dL_law_560 dL_law_561 dL_law_562 rfl (by omega) ?_
  refine Lo_call C dL_law_563 ln_L_77 mo_X7_count vo_X7_count rfl (k := 0) (ci := 5) (by decide) rfl rfl (avs := [.inl (xs (i + 1)).toInt]) (rest := []) rfl rfl (Nat.le_of_ble_eq_true rfl) (Nat.le_of_ble_eq_true rfl) rfl (g1 12 (Nat.le_refl 12)) ?_
  refine Lo_m C dL_law_566 ?_
  refine Lo_arg C (q := 1) dL_law_567 dL_law_568 dL_law_569 dL_law_570 dL_law_571 rfl (by omega) ?_
  refine Lo_call C dL_law_572 ln_L_80 mo_X8_count vo_X8_count rfl (k := 16) (ci := 6) (by decide) rfl rfl (avs := [.inl (xs (i + 1)).toInt]) (rest := [.inl v]) rfl rfl (Nat.le_of_ble_eq_true rfl) (Nat.le_of_ble_eq_true rfl) rfl (g2 12 (Nat.le_refl 12)) ?_
  exact Lo_eq C dL_law_575 (by decide) (kk M2 hM2)
theorem lc_undo (C : lX p s m meth c b L xs G ad cI cC) (h3 : i + 3 < L) (hI : INV M) (kk : ∀ M2, INV M2 → Lo p l e s m b below meth c G ad cI cC 665 i [] M2) : Lo p l e s m b below meth c G ad cI cC 580 i [] M := by
  obtain ⟨M1, M2, v, g1, g2, hM2⟩ := op_undo hI 
  refine Lo_x C dL_law_580 ?_
  refine Lo_call C dL_law_581 ln_L_81 mo_X7_undo vo_X7_undo rfl (k := 0) (ci := 5) (by decide) rfl rfl (avs := []) (rest := []) rfl rfl (Nat.le_of_ble_eq_true rfl) (Nat.le_of_ble_eq_true rfl) rfl (g1 12 (Nat.le_refl 12)) ?_
  refine Lo_m C dL_law_584 ?_
  refine Lo_call C dL_law_585 ln_L_84 mo_X8_undo vo_X8_undo rfl (k := 16) (ci := 6) (by decide) rfl rfl (avs := []) (rest := [.inl v]) rfl rfl (Nat.le_of_ble_eq_true rfl) (Nat.le_of_ble_eq_true rfl) rfl (g2 12 (Nat.le_refl 12)) ?_
  exact Lo_eq C dL_law_588 (by decide) (kk M2 hM2)
theorem lc_type (C : lX p s m meth c b L xs G ad cI cC) (h3 : i + 3 < L) (hI : INV M) (kk : ∀ M2, INV M2 → Lo p l e s m b below meth c G ad cI cC 665 i [] M2) : Lo p l e s m b below meth c G ad cI cC 593 i [] M := by
  obtain ⟨M1, M2, v, g1, g2, hM2⟩ := op_type hI (inR_toInt (xs (i + 1)))
  refine Lo_x C dL_law_593 ?_
  refine Lo_arg C (q := 1) dL_law_594 dL_law_595 dL_law_596 dL_law_597 dL_law_598 rfl (by omega) ?_
  refine Lo_call C dL_law_599 ln_L_85 mo_X7_type vo_X7_type rfl (k := 0) (ci := 5) (by decide) rfl rfl (avs := [.inl (xs (i + 1)).toInt]) (rest := []) rfl rfl (Nat.le_of_ble_eq_true rfl) (Nat.le_of_ble_eq_true rfl) rfl (g1 12 (Nat.le_refl 12)) ?_
  refine Lo_m C dL_law_602 ?_
  refine Lo_arg C (q := 1) dL_law_603 dL_law_604 dL_law_605 dL_law_606 dL_law_607 rfl (by omega) ?_
  refine Lo_call C dL_law_608 ln_L_88 mo_X8_type vo_X8_type rfl (k := 16) (ci := 6) (by decide) rfl rfl (avs := [.inl (xs (i + 1)).toInt]) (rest := [.inl v]) rfl rfl (Nat.le_of_ble_eq_true rfl) (Nat.le_of_ble_eq_true rfl) rfl (g2 12 (Nat.le_refl 12)) ?_
  exact Lo_eq C dL_law_611 (by decide) (kk M2 hM2)
theorem lc_clearText (C : lX p s m meth c b L xs G ad cI cC) (h3 : i + 3 < L) (hI : INV M) (kk : ∀ M2, INV M2 → Lo p l e s m b below meth c G ad cI cC 665 i [] M2) : Lo p l e s m b below meth c G ad cI cC 616 i [] M := by
  obtain ⟨M1, M2, v, g1, g2, hM2⟩ := op_clearText hI 
  refine Lo_x C dL_law_616 ?_
  refine Lo_call C dL_law_617 ln_L_89 mo_X7_clearText vo_X7_clearText rfl (k := 0) (ci := 5) (by decide) rfl rfl (avs := []) (rest := []) rfl rfl (Nat.le_of_ble_eq_true rfl) (Nat.le_of_ble_eq_true rfl) rfl (g1 12 (Nat.le_refl 12)) ?_
  refine Lo_m C dL_law_620 ?_
  refine Lo_call C dL_law_621 ln_L_92 mo_X8_clearText vo_X8_clearText rfl (k := 16) (ci := 6) (by decide) rfl rfl (avs := []) (rest := [.inl v]) rfl rfl (Nat.le_of_ble_eq_true rfl) (Nat.le_of_ble_eq_true rfl) rfl (g2 12 (Nat.le_refl 12)) ?_
  exact Lo_eq C dL_law_624 (by decide) (kk M2 hM2)
theorem lc_fault (C : lX p s m meth c b L xs G ad cI cC) (h3 : i + 3 < L) (hI : INV M) (kk : ∀ M2, INV M2 → Lo p l e s m b below meth c G ad cI cC 665 i [] M2) : Lo p l e s m b below meth c G ad cI cC 629 i [] M := by
  obtain ⟨M1, M2, v, g1, g2, hM2⟩ := op_fault hI (d1 := 12) (d2 := 12) (Nat.le_refl 12) (Nat.le_refl 12) (inR_toInt (xs (i + 1)))
  refine Lo_x C dL_law_629 ?_
  refine Lo_arg C (q := 1) dL_law_630 dL_law_631 dL_law_632 dL_law_633 dL_law_634 rfl (by omega) ?_
  refine Lo_call C dL_law_635 ln_L_93 mo_X7_fault vo_X7_fault rfl (k := 0) (ci := 5) (by decide) rfl rfl (avs := [.inl (xs (i + 1)).toInt]) (rest := []) rfl rfl (Nat.le_of_ble_eq_true rfl) (Nat.le_of_ble_eq_true rfl) rfl g1 ?_
  refine Lo_m C dL_law_638 ?_
  refine Lo_arg C (q := 1) dL_law_639 dL_law_640 dL_law_641 dL_law_642 dL_law_643 rfl (by omega) ?_
  refine Lo_call C dL_law_644 ln_L_96 mo_X8_fault vo_X8_fault rfl (k := 16) (ci := 6) (by decide) rfl rfl (avs := [.inl (xs (i + 1)).toInt]) (rest := [.inl v]) rfl rfl (Nat.le_of_ble_eq_true rfl) (Nat.le_of_ble_eq_true rfl) rfl g2 ?_
  exact Lo_eq C dL_law_647 (by decide) (kk M2 hM2)
theorem lc_play (C : lX p s m meth c b L xs G ad cI cC) (h3 : i + 3 < L) (hI : INV M) (kk : ∀ M2, INV M2 → Lo p l e s m b below meth c G ad cI cC 665 i [] M2) : Lo p l e s m b below meth c G ad cI cC 652 i [] M := by
  obtain ⟨M1, M2, v, g1, g2, hM2⟩ := op_play hI (d1 := 12) (d2 := 12) (Nat.le_refl 12) (Nat.le_refl 12) 
  refine Lo_x C dL_law_652 ?_
  refine Lo_call C dL_law_653 ln_L_97 mo_X7_play vo_X7_play rfl (k := 0) (ci := 5) (by decide) rfl rfl (avs := []) (rest := []) rfl rfl (Nat.le_of_ble_eq_true rfl) (Nat.le_of_ble_eq_true rfl) rfl g1 ?_
  refine Lo_m C dL_law_656 ?_
  refine Lo_call C dL_law_657 ln_L_100 mo_X8_play vo_X8_play rfl (k := 16) (ci := 6) (by decide) rfl rfl (avs := []) (rest := [.inl v]) rfl rfl (Nat.le_of_ble_eq_true rfl) (Nat.le_of_ble_eq_true rfl) rfl g2 ?_
  exact Lo_eq C dL_law_660 (by decide) (kk M2 hM2)
end LAW2
