/-! part 43: the law's cases -/
theorem lc_0 {F : jFix} {i : Nat} {wc wm : List va_E} (hC : jCtx F) (hi : i + 7 ≤ jN F) (hN : jN F ≤ 3584) (hR : R wc wm) (k : ∀ u u2, R u u2 → GL F 1055 i [] u u2) : GL F 160 i [] wc wm := by
  obtain ⟨fs, hq⟩ := R_c0 hR
  obtain ⟨fs2, hq2⟩ := R_m0 hR
  obtain ⟨Pc, Pm, h1, h2, h3⟩ := pr_write hR (jS F (i + 1))
  refine j_x hC dL_law_160 ?_
  refine j_arg (j := 1) hC (by omega) hi hN dL_law_161 dL_law_162 dL_law_163 (by decide) dL_law_164 dL_law_165 ?_
  refine j_callX hC h1 kX7_write lL_13 (Nat.le_of_ble_eq_true rfl) (fun _ => rfl) rfl hq rfl rfl (rest := []) (Nat.le_of_ble_eq_true rfl) dL_law_166 rfl (fun v u hv => ?_)
  refine j_m hC dL_law_169 ?_
  refine j_arg (j := 1) hC (by omega) hi hN dL_law_170 dL_law_171 dL_law_172 (by decide) dL_law_173 dL_law_174 ?_
  refine j_callM hC h2 kX8_write lL_17 (Nat.le_of_ble_eq_true rfl) (fun _ => rfl) rfl hq2 rfl rfl (rest := jVx F v ++ []) (cat_1 _ _) dL_law_175 rfl (fun v2 u2 hv2 => ?_)
  obtain ⟨hx, rfl, hR2⟩ := h3 v u v2 u2 hv hv2
  exact j_cmp hC hx dL_law_178 (by decide) (k _ _ hR2)
theorem lc_1 {F : jFix} {i : Nat} {wc wm : List va_E} (hC : jCtx F) (hi : i + 7 ≤ jN F) (hN : jN F ≤ 3584) (hR : R wc wm) (k : ∀ u u2, R u u2 → GL F 1055 i [] u u2) : GL F 183 i [] wc wm := by
  obtain ⟨fs, hq⟩ := R_c0 hR
  obtain ⟨fs2, hq2⟩ := R_m0 hR
  obtain ⟨Pc, Pm, h1, h2, h3⟩ := pr_wipe hR 
  refine j_x hC dL_law_183 ?_
  refine j_callX hC h1 kX7_wipe lL_18 (Nat.le_of_ble_eq_true rfl) (fun _ => rfl) rfl hq rfl rfl (rest := []) (Nat.le_of_ble_eq_true rfl) dL_law_184 rfl (fun v u hv => ?_)
  refine j_m hC dL_law_187 ?_
  refine j_callM hC h2 kX8_wipe lL_22 (Nat.le_of_ble_eq_true rfl) (fun _ => rfl) rfl hq2 rfl rfl (rest := jVx F v ++ []) (cat_1 _ _) dL_law_188 rfl (fun v2 u2 hv2 => ?_)
  obtain ⟨hx, rfl, hR2⟩ := h3 v u v2 u2 hv hv2
  exact j_cmp hC hx dL_law_191 (by decide) (k _ _ hR2)
theorem lc_2 {F : jFix} {i : Nat} {wc wm : List va_E} (hC : jCtx F) (hi : i + 7 ≤ jN F) (hN : jN F ≤ 3584) (hR : R wc wm) (k : ∀ u u2, R u u2 → GL F 1055 i [] u u2) : GL F 196 i [] wc wm := by
  obtain ⟨fs, hq⟩ := R_c0 hR
  obtain ⟨fs2, hq2⟩ := R_m0 hR
  obtain ⟨Pc, Pm, h1, h2, h3⟩ := pr_fault hR 
  refine j_x hC dL_law_196 ?_
  refine j_callX hC h1 kX7_fault lL_23 (Nat.le_of_ble_eq_true rfl) (fun _ => rfl) rfl hq rfl rfl (rest := []) (Nat.le_of_ble_eq_true rfl) dL_law_197 rfl (fun v u hv => ?_)
  refine j_m hC dL_law_200 ?_
  refine j_callM hC h2 kX8_fault lL_26 (Nat.le_of_ble_eq_true rfl) (fun _ => rfl) rfl hq2 rfl rfl (rest := jVx F v ++ []) (cat_1 _ _) dL_law_201 rfl (fun v2 u2 hv2 => ?_)
  obtain ⟨hx, rfl, hR2⟩ := h3 v u v2 u2 hv hv2
  exact j_cmp hC hx dL_law_204 (by decide) (k _ _ hR2)
theorem lc_3 {F : jFix} {i : Nat} {wc wm : List va_E} (hC : jCtx F) (hi : i + 7 ≤ jN F) (hN : jN F ≤ 3584) (hR : R wc wm) (k : ∀ u u2, R u u2 → GL F 1055 i [] u u2) : GL F 209 i [] wc wm := by
  obtain ⟨fs, hq⟩ := R_c0 hR
  obtain ⟨fs2, hq2⟩ := R_m0 hR
  obtain ⟨Pc, Pm, h1, h2, h3⟩ := pr_bay hR 
  refine j_x hC dL_law_209 ?_
  refine j_callX hC h1 kX7_bay lL_27 (Nat.le_of_ble_eq_true rfl) (fun _ => rfl) rfl hq rfl rfl (rest := []) (Nat.le_of_ble_eq_true rfl) dL_law_210 rfl (fun v u hv => ?_)
  refine j_m hC dL_law_213 ?_
  refine j_callM hC h2 kX8_bay lL_30 (Nat.le_of_ble_eq_true rfl) (fun _ => rfl) rfl hq2 rfl rfl (rest := jVx F v ++ []) (cat_1 _ _) dL_law_214 rfl (fun v2 u2 hv2 => ?_)
  obtain ⟨hx, rfl, hR2⟩ := h3 v u v2 u2 hv hv2
  exact j_cmp hC hx dL_law_217 (by decide) (k _ _ hR2)
theorem lc_4 {F : jFix} {i : Nat} {wc wm : List va_E} (hC : jCtx F) (hi : i + 7 ≤ jN F) (hN : jN F ≤ 3584) (hR : R wc wm) (k : ∀ u u2, R u u2 → GL F 1055 i [] u u2) : GL F 222 i [] wc wm := by
  obtain ⟨fs, hq⟩ := R_c0 hR
  obtain ⟨fs2, hq2⟩ := R_m0 hR
  obtain ⟨Pc, Pm, h1, h2, h3⟩ := pr_about hR (jS F (i + 1))
  refine j_x hC dL_law_222 ?_
  refine j_arg (j := 1) hC (by omega) hi hN dL_law_223 dL_law_224 dL_law_225 (by decide) dL_law_226 dL_law_227 ?_
  refine j_callX hC h1 kX7_about lL_31 (Nat.le_of_ble_eq_true rfl) (fun _ => rfl) rfl hq rfl rfl (rest := []) (Nat.le_of_ble_eq_true rfl) dL_law_228 rfl (fun v u hv => ?_)
  refine j_m hC dL_law_231 ?_
  refine j_arg (j := 1) hC (by omega) hi hN dL_law_232 dL_law_233 dL_law_234 (by decide) dL_law_235 dL_law_236 ?_
  refine j_callM hC h2 kX8_about lL_34 (Nat.le_of_ble_eq_true rfl) (fun _ => rfl) rfl hq2 rfl rfl (rest := jVx F v ++ []) (cat_1 _ _) dL_law_237 rfl (fun v2 u2 hv2 => ?_)
  obtain ⟨hx, rfl, hR2⟩ := h3 v u v2 u2 hv hv2
  exact j_cmp hC hx dL_law_240 (by decide) (k _ _ hR2)
theorem lc_5 {F : jFix} {i : Nat} {wc wm : List va_E} (hC : jCtx F) (hi : i + 7 ≤ jN F) (hN : jN F ≤ 3584) (hR : R wc wm) (k : ∀ u u2, R u u2 → GL F 1055 i [] u u2) : GL F 245 i [] wc wm := by
  obtain ⟨fs, hq⟩ := R_c0 hR
  obtain ⟨fs2, hq2⟩ := R_m0 hR
  obtain ⟨Pc, Pm, h1, h2, h3⟩ := pr_cell hR (jS F (i + 1)) (jS F (i + 2))
  refine j_x hC dL_law_245 ?_
  refine j_arg (j := 1) hC (by omega) hi hN dL_law_246 dL_law_247 dL_law_248 (by decide) dL_law_249 dL_law_250 ?_
  refine j_arg (j := 2) hC (by omega) hi hN dL_law_251 dL_law_252 dL_law_253 (by decide) dL_law_254 dL_law_255 ?_
  refine j_callX hC h1 kX7_cell lL_35 (Nat.le_of_ble_eq_true rfl) (fun _ => rfl) rfl hq rfl rfl (rest := []) (Nat.le_of_ble_eq_true rfl) dL_law_256 rfl (fun v u hv => ?_)
  refine j_m hC dL_law_259 ?_
  refine j_arg (j := 1) hC (by omega) hi hN dL_law_260 dL_law_261 dL_law_262 (by decide) dL_law_263 dL_law_264 ?_
  refine j_arg (j := 2) hC (by omega) hi hN dL_law_265 dL_law_266 dL_law_267 (by decide) dL_law_268 dL_law_269 ?_
  refine j_callM hC h2 kX8_cell lL_39 (Nat.le_of_ble_eq_true rfl) (fun _ => rfl) rfl hq2 rfl rfl (rest := jVx F v ++ []) (cat_1 _ _) dL_law_270 rfl (fun v2 u2 hv2 => ?_)
  obtain ⟨hx, rfl, hR2⟩ := h3 v u v2 u2 hv hv2
  exact j_cmp hC hx dL_law_273 (by decide) (k _ _ hR2)
theorem lc_6 {F : jFix} {i : Nat} {wc wm : List va_E} (hC : jCtx F) (hi : i + 7 ≤ jN F) (hN : jN F ≤ 3584) (hR : R wc wm) (k : ∀ u u2, R u u2 → GL F 1055 i [] u u2) : GL F 278 i [] wc wm := by
  obtain ⟨fs, hq⟩ := R_c0 hR
  obtain ⟨fs2, hq2⟩ := R_m0 hR
  obtain ⟨Pc, Pm, h1, h2, h3⟩ := pr_walker hR (jS F (i + 1)) (jS F (i + 2))
  refine j_x hC dL_law_278 ?_
  refine j_arg (j := 1) hC (by omega) hi hN dL_law_279 dL_law_280 dL_law_281 (by decide) dL_law_282 dL_law_283 ?_
  refine j_arg (j := 2) hC (by omega) hi hN dL_law_284 dL_law_285 dL_law_286 (by decide) dL_law_287 dL_law_288 ?_
  refine j_callX hC h1 kX7_walker lL_40 (Nat.le_of_ble_eq_true rfl) (fun _ => rfl) rfl hq rfl rfl (rest := []) (Nat.le_of_ble_eq_true rfl) dL_law_289 rfl (fun v u hv => ?_)
  refine j_m hC dL_law_292 ?_
  refine j_arg (j := 1) hC (by omega) hi hN dL_law_293 dL_law_294 dL_law_295 (by decide) dL_law_296 dL_law_297 ?_
  refine j_arg (j := 2) hC (by omega) hi hN dL_law_298 dL_law_299 dL_law_300 (by decide) dL_law_301 dL_law_302 ?_
  refine j_callM hC h2 kX8_walker lL_43 (Nat.le_of_ble_eq_true rfl) (fun _ => rfl) rfl hq2 rfl rfl (rest := jVx F v ++ []) (cat_1 _ _) dL_law_303 rfl (fun v2 u2 hv2 => ?_)
  obtain ⟨hx, rfl, hR2⟩ := h3 v u v2 u2 hv hv2
  exact j_cmp hC hx dL_law_306 (by decide) (k _ _ hR2)
theorem lc_7 {F : jFix} {i : Nat} {wc wm : List va_E} (hC : jCtx F) (hi : i + 7 ≤ jN F) (hN : jN F ≤ 3584) (hR : R wc wm) (k : ∀ u u2, R u u2 → GL F 1055 i [] u u2) : GL F 311 i [] wc wm := by
  obtain ⟨fs, hq⟩ := R_c0 hR
  obtain ⟨fs2, hq2⟩ := R_m0 hR
  obtain ⟨Pc, Pm, h1, h2, h3⟩ := pr_deep hR (jS F (i + 1)) (jS F (i + 2))
  refine j_x hC dL_law_311 ?_
  refine j_arg (j := 1) hC (by omega) hi hN dL_law_312 dL_law_313 dL_law_314 (by decide) dL_law_315 dL_law_316 ?_
  refine j_arg (j := 2) hC (by omega) hi hN dL_law_317 dL_law_318 dL_law_319 (by decide) dL_law_320 dL_law_321 ?_
  refine j_callX hC h1 kX7_deep lL_44 (Nat.le_of_ble_eq_true rfl) (fun _ => rfl) rfl hq rfl rfl (rest := []) (Nat.le_of_ble_eq_true rfl) dL_law_322 rfl (fun v u hv => ?_)
  refine j_m hC dL_law_325 ?_
  refine j_arg (j := 1) hC (by omega) hi hN dL_law_326 dL_law_327 dL_law_328 (by decide) dL_law_329 dL_law_330 ?_
  refine j_arg (j := 2) hC (by omega) hi hN dL_law_331 dL_law_332 dL_law_333 (by decide) dL_law_334 dL_law_335 ?_
  refine j_callM hC h2 kX8_deep lL_47 (Nat.le_of_ble_eq_true rfl) (fun _ => rfl) rfl hq2 rfl rfl (rest := jVx F v ++ []) (cat_1 _ _) dL_law_336 rfl (fun v2 u2 hv2 => ?_)
  obtain ⟨hx, rfl, hR2⟩ := h3 v u v2 u2 hv hv2
  exact j_cmp hC hx dL_law_339 (by decide) (k _ _ hR2)
theorem lc_8 {F : jFix} {i : Nat} {wc wm : List va_E} (hC : jCtx F) (hi : i + 7 ≤ jN F) (hN : jN F ≤ 3584) (hR : R wc wm) (k : ∀ u u2, R u u2 → GL F 1055 i [] u u2) : GL F 344 i [] wc wm := by
  obtain ⟨fs, hq⟩ := R_c0 hR
  obtain ⟨fs2, hq2⟩ := R_m0 hR
  obtain ⟨Pc, Pm, h1, h2, h3⟩ := pr_head hR (jS F (i + 1)) (jS F (i + 2))
  refine j_x hC dL_law_344 ?_
  refine j_arg (j := 1) hC (by omega) hi hN dL_law_345 dL_law_346 dL_law_347 (by decide) dL_law_348 dL_law_349 ?_
  refine j_arg (j := 2) hC (by omega) hi hN dL_law_350 dL_law_351 dL_law_352 (by decide) dL_law_353 dL_law_354 ?_
  refine j_callX hC h1 kX7_head lL_48 (Nat.le_of_ble_eq_true rfl) (fun _ => rfl) rfl hq rfl rfl (rest := []) (Nat.le_of_ble_eq_true rfl) dL_law_355 rfl (fun v u hv => ?_)
  refine j_m hC dL_law_358 ?_
  refine j_arg (j := 1) hC (by omega) hi hN dL_law_359 dL_law_360 dL_law_361 (by decide) dL_law_362 dL_law_363 ?_
  refine j_arg (j := 2) hC (by omega) hi hN dL_law_364 dL_law_365 dL_law_366 (by decide) dL_law_367 dL_law_368 ?_
  refine j_callM hC h2 kX8_head lL_51 (Nat.le_of_ble_eq_true rfl) (fun _ => rfl) rfl hq2 rfl rfl (rest := jVx F v ++ []) (cat_1 _ _) dL_law_369 rfl (fun v2 u2 hv2 => ?_)
  obtain ⟨hx, rfl, hR2⟩ := h3 v u v2 u2 hv hv2
  exact j_cmp hC hx dL_law_372 (by decide) (k _ _ hR2)
theorem lc_9 {F : jFix} {i : Nat} {wc wm : List va_E} (hC : jCtx F) (hi : i + 7 ≤ jN F) (hN : jN F ≤ 3584) (hR : R wc wm) (k : ∀ u u2, R u u2 → GL F 1055 i [] u u2) : GL F 377 i [] wc wm := by
  obtain ⟨fs, hq⟩ := R_c0 hR
  obtain ⟨fs2, hq2⟩ := R_m0 hR
  obtain ⟨Pc, Pm, h1, h2, h3⟩ := pr_step hR 
  refine j_x hC dL_law_377 ?_
  refine j_callX hC h1 kX7_step lL_52 (Nat.le_of_ble_eq_true rfl) (fun _ => rfl) rfl hq rfl rfl (rest := []) (Nat.le_of_ble_eq_true rfl) dL_law_378 rfl (fun v u hv => ?_)
  refine j_m hC dL_law_381 ?_
  refine j_callM hC h2 kX8_step lL_55 (Nat.le_of_ble_eq_true rfl) (fun _ => rfl) rfl hq2 rfl rfl (rest := jVx F v ++ []) (cat_1 _ _) dL_law_382 rfl (fun v2 u2 hv2 => ?_)
  obtain ⟨hx, rfl, hR2⟩ := h3 v u v2 u2 hv hv2
  exact j_cmp hC hx dL_law_385 (by decide) (k _ _ hR2)
theorem lc_10 {F : jFix} {i : Nat} {wc wm : List va_E} (hC : jCtx F) (hi : i + 7 ≤ jN F) (hN : jN F ≤ 3584) (hR : R wc wm) (k : ∀ u u2, R u u2 → GL F 1055 i [] u u2) : GL F 390 i [] wc wm := by
  obtain ⟨fs, hq⟩ := R_c0 hR
  obtain ⟨fs2, hq2⟩ := R_m0 hR
  obtain ⟨Pc, Pm, h1, h2, h3⟩ := pr_climb hR (jS F (i + 1))
  refine j_x hC dL_law_390 ?_
  refine j_arg (j := 1) hC (by omega) hi hN dL_law_391 dL_law_392 dL_law_393 (by decide) dL_law_394 dL_law_395 ?_
  refine j_callX hC h1 kX7_climb lL_56 (Nat.le_of_ble_eq_true rfl) (fun _ => rfl) rfl hq rfl rfl (rest := []) (Nat.le_of_ble_eq_true rfl) dL_law_396 rfl (fun v u hv => ?_)
  refine j_m hC dL_law_399 ?_
  refine j_arg (j := 1) hC (by omega) hi hN dL_law_400 dL_law_401 dL_law_402 (by decide) dL_law_403 dL_law_404 ?_
  refine j_callM hC h2 kX8_climb lL_59 (Nat.le_of_ble_eq_true rfl) (fun _ => rfl) rfl hq2 rfl rfl (rest := jVx F v ++ []) (cat_1 _ _) dL_law_405 rfl (fun v2 u2 hv2 => ?_)
  obtain ⟨hx, rfl, hR2⟩ := h3 v u v2 u2 hv hv2
  exact j_cmp hC hx dL_law_408 (by decide) (k _ _ hR2)
theorem lc_11 {F : jFix} {i : Nat} {wc wm : List va_E} (hC : jCtx F) (hi : i + 7 ≤ jN F) (hN : jN F ≤ 3584) (hR : R wc wm) (k : ∀ u u2, R u u2 → GL F 1055 i [] u u2) : GL F 413 i [] wc wm := by
  obtain ⟨fs, hq⟩ := R_c0 hR
  obtain ⟨fs2, hq2⟩ := R_m0 hR
  obtain ⟨Pc, Pm, h1, h2, h3⟩ := pr_undo hR 
  refine j_x hC dL_law_413 ?_
  refine j_callX hC h1 kX7_undo lL_60 (Nat.le_of_ble_eq_true rfl) (fun _ => rfl) rfl hq rfl rfl (rest := []) (Nat.le_of_ble_eq_true rfl) dL_law_414 rfl (fun v u hv => ?_)
  refine j_m hC dL_law_417 ?_
  refine j_callM hC h2 kX8_undo lL_63 (Nat.le_of_ble_eq_true rfl) (fun _ => rfl) rfl hq2 rfl rfl (rest := jVx F v ++ []) (cat_1 _ _) dL_law_418 rfl (fun v2 u2 hv2 => ?_)
  obtain ⟨hx, rfl, hR2⟩ := h3 v u v2 u2 hv hv2
  exact j_cmp hC hx dL_law_421 (by decide) (k _ _ hR2)
theorem lc_12 {F : jFix} {i : Nat} {wc wm : List va_E} (hC : jCtx F) (hi : i + 7 ≤ jN F) (hN : jN F ≤ 3584) (hR : R wc wm) (k : ∀ u u2, R u u2 → GL F 1055 i [] u u2) : GL F 426 i [] wc wm := by
  obtain ⟨fs, hq⟩ := R_c0 hR
  obtain ⟨fs2, hq2⟩ := R_m0 hR
  obtain ⟨Pc, Pm, h1, h2, h3⟩ := pr_gone hR (jS F (i + 1)) (jS F (i + 2)) (jS F (i + 3)) (jS F (i + 4))
  refine j_x hC dL_law_426 ?_
  refine j_arg (j := 1) hC (by omega) hi hN dL_law_427 dL_law_428 dL_law_429 (by decide) dL_law_430 dL_law_431 ?_
  refine j_arg (j := 2) hC (by omega) hi hN dL_law_432 dL_law_433 dL_law_434 (by decide) dL_law_435 dL_law_436 ?_
  refine j_arg (j := 3) hC (by omega) hi hN dL_law_437 dL_law_438 dL_law_439 (by decide) dL_law_440 dL_law_441 ?_
  refine j_arg (j := 4) hC (by omega) hi hN dL_law_442 dL_law_443 dL_law_444 (by decide) dL_law_445 dL_law_446 ?_
  refine j_callX hC h1 kX7_gone lL_64 (Nat.le_of_ble_eq_true rfl) (fun _ => rfl) rfl hq rfl rfl (rest := []) (Nat.le_of_ble_eq_true rfl) dL_law_447 rfl (fun v u hv => ?_)
  refine j_m hC dL_law_450 ?_
  refine j_arg (j := 1) hC (by omega) hi hN dL_law_451 dL_law_452 dL_law_453 (by decide) dL_law_454 dL_law_455 ?_
  refine j_arg (j := 2) hC (by omega) hi hN dL_law_456 dL_law_457 dL_law_458 (by decide) dL_law_459 dL_law_460 ?_
  refine j_arg (j := 3) hC (by omega) hi hN dL_law_461 dL_law_462 dL_law_463 (by decide) dL_law_464 dL_law_465 ?_
  refine j_arg (j := 4) hC (by omega) hi hN dL_law_466 dL_law_467 dL_law_468 (by decide) dL_law_469 dL_law_470 ?_
  refine j_callM hC h2 kX8_gone lL_68 (Nat.le_of_ble_eq_true rfl) (fun _ => rfl) rfl hq2 rfl rfl (rest := jVx F v ++ []) (cat_1 _ _) dL_law_471 rfl (fun v2 u2 hv2 => ?_)
  obtain ⟨hx, rfl, hR2⟩ := h3 v u v2 u2 hv hv2
  exact j_cmp hC hx dL_law_474 (by decide) (k _ _ hR2)
theorem lc_13 {F : jFix} {i : Nat} {wc wm : List va_E} (hC : jCtx F) (hi : i + 7 ≤ jN F) (hN : jN F ≤ 3584) (hR : R wc wm) (k : ∀ u u2, R u u2 → GL F 1055 i [] u u2) : GL F 479 i [] wc wm := by
  obtain ⟨fs, hq⟩ := R_c0 hR
  obtain ⟨fs2, hq2⟩ := R_m0 hR
  obtain ⟨Pc, Pm, h1, h2, h3⟩ := pr_latest hR (jS F (i + 1))
  refine j_x hC dL_law_479 ?_
  refine j_arg (j := 1) hC (by omega) hi hN dL_law_480 dL_law_481 dL_law_482 (by decide) dL_law_483 dL_law_484 ?_
  refine j_callX hC h1 kX7_latest lL_69 (Nat.le_of_ble_eq_true rfl) (fun _ => rfl) rfl hq rfl rfl (rest := []) (Nat.le_of_ble_eq_true rfl) dL_law_485 rfl (fun v u hv => ?_)
  refine j_m hC dL_law_488 ?_
  refine j_arg (j := 1) hC (by omega) hi hN dL_law_489 dL_law_490 dL_law_491 (by decide) dL_law_492 dL_law_493 ?_
  refine j_callM hC h2 kX8_latest lL_72 (Nat.le_of_ble_eq_true rfl) (fun _ => rfl) rfl hq2 rfl rfl (rest := jVx F v ++ []) (cat_1 _ _) dL_law_494 rfl (fun v2 u2 hv2 => ?_)
  obtain ⟨hx, rfl, hR2⟩ := h3 v u v2 u2 hv hv2
  exact j_cmp hC hx dL_law_497 (by decide) (k _ _ hR2)
theorem lc_14 {F : jFix} {i : Nat} {wc wm : List va_E} (hC : jCtx F) (hi : i + 7 ≤ jN F) (hN : jN F ≤ 3584) (hR : R wc wm) (k : ∀ u u2, R u u2 → GL F 1055 i [] u u2) : GL F 502 i [] wc wm := by
  obtain ⟨fs, hq⟩ := R_c0 hR
  obtain ⟨fs2, hq2⟩ := R_m0 hR
  obtain ⟨Pc, Pm, h1, h2, h3⟩ := pr_safest hR (jS F (i + 1)) (jS F (i + 2))
  refine j_x hC dL_law_502 ?_
  refine j_arg (j := 1) hC (by omega) hi hN dL_law_503 dL_law_504 dL_law_505 (by decide) dL_law_506 dL_law_507 ?_
  refine j_arg (j := 2) hC (by omega) hi hN dL_law_508 dL_law_509 dL_law_510 (by decide) dL_law_511 dL_law_512 ?_
  refine j_callX hC h1 kX7_safest lL_73 (Nat.le_of_ble_eq_true rfl) (fun _ => rfl) rfl hq rfl rfl (rest := []) (Nat.le_of_ble_eq_true rfl) dL_law_513 rfl (fun v u hv => ?_)
  refine j_m hC dL_law_516 ?_
  refine j_arg (j := 1) hC (by omega) hi hN dL_law_517 dL_law_518 dL_law_519 (by decide) dL_law_520 dL_law_521 ?_
  refine j_arg (j := 2) hC (by omega) hi hN dL_law_522 dL_law_523 dL_law_524 (by decide) dL_law_525 dL_law_526 ?_
  refine j_callM hC h2 kX8_safest lL_76 (Nat.le_of_ble_eq_true rfl) (fun _ => rfl) rfl hq2 rfl rfl (rest := jVx F v ++ []) (cat_1 _ _) dL_law_527 rfl (fun v2 u2 hv2 => ?_)
  obtain ⟨hx, rfl, hR2⟩ := h3 v u v2 u2 hv hv2
  exact j_cmp hC hx dL_law_530 (by decide) (k _ _ hR2)
theorem lc_15 {F : jFix} {i : Nat} {wc wm : List va_E} (hC : jCtx F) (hi : i + 7 ≤ jN F) (hN : jN F ≤ 3584) (hR : R wc wm) (k : ∀ u u2, R u u2 → GL F 1055 i [] u u2) : GL F 535 i [] wc wm := by
  obtain ⟨fs, hq⟩ := R_c0 hR
  obtain ⟨fs2, hq2⟩ := R_m0 hR
  obtain ⟨Pc, Pm, h1, h2, h3⟩ := pr_shells hR (jS F (i + 1))
  refine j_x hC dL_law_535 ?_
  refine j_arg (j := 1) hC (by omega) hi hN dL_law_536 dL_law_537 dL_law_538 (by decide) dL_law_539 dL_law_540 ?_
  refine j_callX hC h1 kX7_shells lL_77 (Nat.le_of_ble_eq_true rfl) (fun _ => rfl) rfl hq rfl rfl (rest := []) (Nat.le_of_ble_eq_true rfl) dL_law_541 rfl (fun v u hv => ?_)
  refine j_m hC dL_law_544 ?_
  refine j_arg (j := 1) hC (by omega) hi hN dL_law_545 dL_law_546 dL_law_547 (by decide) dL_law_548 dL_law_549 ?_
  refine j_callM hC h2 kX8_shells lL_80 (Nat.le_of_ble_eq_true rfl) (fun _ => rfl) rfl hq2 rfl rfl (rest := jVx F v ++ []) (cat_1 _ _) dL_law_550 rfl (fun v2 u2 hv2 => ?_)
  obtain ⟨hx, rfl, hR2⟩ := h3 v u v2 u2 hv hv2
  exact j_cmp hC hx dL_law_553 (by decide) (k _ _ hR2)
theorem lc_16 {F : jFix} {i : Nat} {wc wm : List va_E} (hC : jCtx F) (hi : i + 7 ≤ jN F) (hN : jN F ≤ 3584) (hR : R wc wm) (k : ∀ u u2, R u u2 → GL F 1055 i [] u u2) : GL F 558 i [] wc wm := by
  obtain ⟨fs, hq⟩ := R_c0 hR
  obtain ⟨fs2, hq2⟩ := R_m0 hR
  obtain ⟨Pc, Pm, h1, h2, h3⟩ := pr_cut hR (jS F (i + 1))
  refine j_x hC dL_law_558 ?_
  refine j_arg (j := 1) hC (by omega) hi hN dL_law_559 dL_law_560 dL_law_561 (by decide) dL_law_562 dL_law_563 ?_
  refine j_callX hC h1 kX7_cut lL_81 (Nat.le_of_ble_eq_true rfl) (fun _ => rfl) rfl hq rfl rfl (rest := []) (Nat.le_of_ble_eq_true rfl) dL_law_564 rfl (fun v u hv => ?_)
  refine j_m hC dL_law_567 ?_
  refine j_arg (j := 1) hC (by omega) hi hN dL_law_568 dL_law_569 dL_law_570 (by decide) dL_law_571 dL_law_572 ?_
  refine j_callM hC h2 kX8_cut lL_84 (Nat.le_of_ble_eq_true rfl) (fun _ => rfl) rfl hq2 rfl rfl (rest := jVx F v ++ []) (cat_1 _ _) dL_law_573 rfl (fun v2 u2 hv2 => ?_)
  obtain ⟨hx, rfl, hR2⟩ := h3 v u v2 u2 hv hv2
  exact j_cmp hC hx dL_law_576 (by decide) (k _ _ hR2)
theorem lc_17 {F : jFix} {i : Nat} {wc wm : List va_E} (hC : jCtx F) (hi : i + 7 ≤ jN F) (hN : jN F ≤ 3584) (hR : R wc wm) (k : ∀ u u2, R u u2 → GL F 1055 i [] u u2) : GL F 581 i [] wc wm := by
  obtain ⟨fs, hq⟩ := R_c0 hR
  obtain ⟨fs2, hq2⟩ := R_m0 hR
  obtain ⟨Pc, Pm, h1, h2, h3⟩ := pr_judged hR (jS F (i + 1)) (jS F (i + 2)) (jS F (i + 3))
  refine j_x hC dL_law_581 ?_
  refine j_arg (j := 1) hC (by omega) hi hN dL_law_582 dL_law_583 dL_law_584 (by decide) dL_law_585 dL_law_586 ?_
  refine j_arg (j := 2) hC (by omega) hi hN dL_law_587 dL_law_588 dL_law_589 (by decide) dL_law_590 dL_law_591 ?_
  refine j_arg (j := 3) hC (by omega) hi hN dL_law_592 dL_law_593 dL_law_594 (by decide) dL_law_595 dL_law_596 ?_
  refine j_callX hC h1 kX7_judged lL_85 (Nat.le_of_ble_eq_true rfl) (fun _ => rfl) rfl hq rfl rfl (rest := []) (Nat.le_of_ble_eq_true rfl) dL_law_597 rfl (fun v u hv => ?_)
  refine j_m hC dL_law_600 ?_
  refine j_arg (j := 1) hC (by omega) hi hN dL_law_601 dL_law_602 dL_law_603 (by decide) dL_law_604 dL_law_605 ?_
  refine j_arg (j := 2) hC (by omega) hi hN dL_law_606 dL_law_607 dL_law_608 (by decide) dL_law_609 dL_law_610 ?_
  refine j_arg (j := 3) hC (by omega) hi hN dL_law_611 dL_law_612 dL_law_613 (by decide) dL_law_614 dL_law_615 ?_
  refine j_callM hC h2 kX8_judged lL_89 (Nat.le_of_ble_eq_true rfl) (fun _ => rfl) rfl hq2 rfl rfl (rest := jVx F v ++ []) (cat_1 _ _) dL_law_616 rfl (fun v2 u2 hv2 => ?_)
  obtain ⟨hx, rfl, hR2⟩ := h3 v u v2 u2 hv hv2
  exact j_cmp hC hx dL_law_619 (by decide) (k _ _ hR2)
theorem lc_18 {F : jFix} {i : Nat} {wc wm : List va_E} (hC : jCtx F) (hi : i + 7 ≤ jN F) (hN : jN F ≤ 3584) (hR : R wc wm) (k : ∀ u u2, R u u2 → GL F 1055 i [] u u2) : GL F 624 i [] wc wm := by
  obtain ⟨fs, hq⟩ := R_c0 hR
  obtain ⟨fs2, hq2⟩ := R_m0 hR
  obtain ⟨Pc, Pm, h1, h2, h3⟩ := pr_ahead hR 
  refine j_x hC dL_law_624 ?_
  refine j_callX hC h1 kX7_ahead lL_90 (Nat.le_of_ble_eq_true rfl) (fun _ => rfl) rfl hq rfl rfl (rest := []) (Nat.le_of_ble_eq_true rfl) dL_law_625 rfl (fun v u hv => ?_)
  refine j_m hC dL_law_628 ?_
  refine j_callM hC h2 kX8_ahead lL_93 (Nat.le_of_ble_eq_true rfl) (fun _ => rfl) rfl hq2 rfl rfl (rest := jVx F v ++ []) (cat_1 _ _) dL_law_629 rfl (fun v2 u2 hv2 => ?_)
  obtain ⟨hx, rfl, hR2⟩ := h3 v u v2 u2 hv hv2
  exact j_cmp hC hx dL_law_632 (by decide) (k _ _ hR2)
theorem lc_19 {F : jFix} {i : Nat} {wc wm : List va_E} (hC : jCtx F) (hi : i + 7 ≤ jN F) (hN : jN F ≤ 3584) (hR : R wc wm) (k : ∀ u u2, R u u2 → GL F 1055 i [] u u2) : GL F 637 i [] wc wm := by
  obtain ⟨fs, hq⟩ := R_c0 hR
  obtain ⟨fs2, hq2⟩ := R_m0 hR
  obtain ⟨Pc, Pm, h1, h2, h3⟩ := pr_aheadOf hR (jS F (i + 1))
  refine j_x hC dL_law_637 ?_
  refine j_arg (j := 1) hC (by omega) hi hN dL_law_638 dL_law_639 dL_law_640 (by decide) dL_law_641 dL_law_642 ?_
  refine j_callX hC h1 kX7_aheadOf lL_94 (Nat.le_of_ble_eq_true rfl) (fun _ => rfl) rfl hq rfl rfl (rest := []) (Nat.le_of_ble_eq_true rfl) dL_law_643 rfl (fun v u hv => ?_)
  refine j_m hC dL_law_646 ?_
  refine j_arg (j := 1) hC (by omega) hi hN dL_law_647 dL_law_648 dL_law_649 (by decide) dL_law_650 dL_law_651 ?_
  refine j_callM hC h2 kX8_aheadOf lL_97 (Nat.le_of_ble_eq_true rfl) (fun _ => rfl) rfl hq2 rfl rfl (rest := jVx F v ++ []) (cat_1 _ _) dL_law_652 rfl (fun v2 u2 hv2 => ?_)
  obtain ⟨hx, rfl, hR2⟩ := h3 v u v2 u2 hv hv2
  exact j_cmp hC hx dL_law_655 (by decide) (k _ _ hR2)
theorem lc_20 {F : jFix} {i : Nat} {wc wm : List va_E} (hC : jCtx F) (hi : i + 7 ≤ jN F) (hN : jN F ≤ 3584) (hR : R wc wm) (k : ∀ u u2, R u u2 → GL F 1055 i [] u u2) : GL F 660 i [] wc wm := by
  obtain ⟨fs, hq⟩ := R_c0 hR
  obtain ⟨fs2, hq2⟩ := R_m0 hR
  obtain ⟨Pc, Pm, h1, h2, h3⟩ := pr_saved hR 
  refine j_x hC dL_law_660 ?_
  refine j_callX hC h1 kX7_saved lL_98 (Nat.le_of_ble_eq_true rfl) (fun _ => rfl) rfl hq rfl rfl (rest := []) (Nat.le_of_ble_eq_true rfl) dL_law_661 rfl (fun v u hv => ?_)
  refine j_m hC dL_law_664 ?_
  refine j_callM hC h2 kX8_saved lL_101 (Nat.le_of_ble_eq_true rfl) (fun _ => rfl) rfl hq2 rfl rfl (rest := jVx F v ++ []) (cat_1 _ _) dL_law_665 rfl (fun v2 u2 hv2 => ?_)
  obtain ⟨hx, rfl, hR2⟩ := h3 v u v2 u2 hv hv2
  exact j_cmp hC hx dL_law_668 (by decide) (k _ _ hR2)
theorem lc_21 {F : jFix} {i : Nat} {wc wm : List va_E} (hC : jCtx F) (hi : i + 7 ≤ jN F) (hN : jN F ≤ 3584) (hR : R wc wm) (k : ∀ u u2, R u u2 → GL F 1055 i [] u u2) : GL F 673 i [] wc wm := by
  obtain ⟨fs, hq⟩ := R_c0 hR
  obtain ⟨fs2, hq2⟩ := R_m0 hR
  obtain ⟨Pc, Pm, h1, h2, h3⟩ := pr_channel (up := bN (jS F (i + 6) ≠ 0)) hR (jS F (i + 1)) (jS F (i + 2)) (jS F (i + 3)) (jS F (i + 4)) (jS F (i + 5)) (bN_le _)
  refine j_x hC dL_law_673 ?_
  refine j_arg (j := 1) hC (by omega) hi hN dL_law_674 dL_law_675 dL_law_676 (by decide) dL_law_677 dL_law_678 ?_
  refine j_arg (j := 2) hC (by omega) hi hN dL_law_679 dL_law_680 dL_law_681 (by decide) dL_law_682 dL_law_683 ?_
  refine j_arg (j := 3) hC (by omega) hi hN dL_law_684 dL_law_685 dL_law_686 (by decide) dL_law_687 dL_law_688 ?_
  refine j_arg (j := 4) hC (by omega) hi hN dL_law_689 dL_law_690 dL_law_691 (by decide) dL_law_692 dL_law_693 ?_
  refine j_arg (j := 5) hC (by omega) hi hN dL_law_694 dL_law_695 dL_law_696 (by decide) dL_law_697 dL_law_698 ?_
  refine j_arg6 hC hi hN dL_law_699 dL_law_700 dL_law_701 dL_law_703 dL_law_704 ?_
  refine j_bool hC dL_law_705 dL_law_708 dL_law_709 dL_law_712 ?_
  refine j_callX hC h1 kX7_channel lL_102 (Nat.le_of_ble_eq_true rfl) (fun _ => rfl) rfl hq rfl rfl (rest := []) (Nat.le_of_ble_eq_true rfl) dL_law_713 rfl (fun v u hv => ?_)
  refine j_m hC dL_law_716 ?_
  refine j_arg (j := 1) hC (by omega) hi hN dL_law_717 dL_law_718 dL_law_719 (by decide) dL_law_720 dL_law_721 ?_
  refine j_arg (j := 2) hC (by omega) hi hN dL_law_722 dL_law_723 dL_law_724 (by decide) dL_law_725 dL_law_726 ?_
  refine j_arg (j := 3) hC (by omega) hi hN dL_law_727 dL_law_728 dL_law_729 (by decide) dL_law_730 dL_law_731 ?_
  refine j_arg (j := 4) hC (by omega) hi hN dL_law_732 dL_law_733 dL_law_734 (by decide) dL_law_735 dL_law_736 ?_
  refine j_arg (j := 5) hC (by omega) hi hN dL_law_737 dL_law_738 dL_law_739 (by decide) dL_law_740 dL_law_741 ?_
  refine j_arg6 hC hi hN dL_law_742 dL_law_743 dL_law_744 dL_law_746 dL_law_747 ?_
  refine j_bool hC dL_law_748 dL_law_751 dL_law_752 dL_law_755 ?_
  refine j_callM hC h2 kX8_channel lL_106 (Nat.le_of_ble_eq_true rfl) (fun _ => rfl) rfl hq2 rfl rfl (rest := jVx F v ++ []) (cat_1 _ _) dL_law_756 rfl (fun v2 u2 hv2 => ?_)
  obtain ⟨hx, rfl, hR2⟩ := h3 v u v2 u2 hv hv2
  exact j_cmp hC hx dL_law_759 (by decide) (k _ _ hR2)
theorem lc_22 {F : jFix} {i : Nat} {wc wm : List va_E} (hC : jCtx F) (hi : i + 7 ≤ jN F) (hN : jN F ≤ 3584) (hR : R wc wm) (k : ∀ u u2, R u u2 → GL F 1055 i [] u u2) : GL F 764 i [] wc wm := by
  obtain ⟨fs, hq⟩ := R_c0 hR
  obtain ⟨fs2, hq2⟩ := R_m0 hR
  obtain ⟨Pc, Pm, h1, h2, h3⟩ := pr_sticks (up := bN (jS F (i + 4) ≠ 0)) hR (jS F (i + 1)) (jS F (i + 2)) (jS F (i + 3)) (bN_le _)
  refine j_x hC dL_law_764 ?_
  refine j_arg (j := 1) hC (by omega) hi hN dL_law_765 dL_law_766 dL_law_767 (by decide) dL_law_768 dL_law_769 ?_
  refine j_arg (j := 2) hC (by omega) hi hN dL_law_770 dL_law_771 dL_law_772 (by decide) dL_law_773 dL_law_774 ?_
  refine j_arg (j := 3) hC (by omega) hi hN dL_law_775 dL_law_776 dL_law_777 (by decide) dL_law_778 dL_law_779 ?_
  refine j_arg (j := 4) hC (by omega) hi hN dL_law_780 dL_law_781 dL_law_782 (by decide) dL_law_783 dL_law_784 ?_
  refine j_bool hC dL_law_785 dL_law_788 dL_law_789 dL_law_792 ?_
  refine j_callX hC h1 kX7_sticks lL_107 (Nat.le_of_ble_eq_true rfl) (fun _ => rfl) rfl hq rfl rfl (rest := []) (Nat.le_of_ble_eq_true rfl) dL_law_793 rfl (fun v u hv => ?_)
  refine j_m hC dL_law_796 ?_
  refine j_arg (j := 1) hC (by omega) hi hN dL_law_797 dL_law_798 dL_law_799 (by decide) dL_law_800 dL_law_801 ?_
  refine j_arg (j := 2) hC (by omega) hi hN dL_law_802 dL_law_803 dL_law_804 (by decide) dL_law_805 dL_law_806 ?_
  refine j_arg (j := 3) hC (by omega) hi hN dL_law_807 dL_law_808 dL_law_809 (by decide) dL_law_810 dL_law_811 ?_
  refine j_arg (j := 4) hC (by omega) hi hN dL_law_812 dL_law_813 dL_law_814 (by decide) dL_law_815 dL_law_816 ?_
  refine j_bool hC dL_law_817 dL_law_820 dL_law_821 dL_law_824 ?_
  refine j_callM hC h2 kX8_sticks lL_111 (Nat.le_of_ble_eq_true rfl) (fun _ => rfl) rfl hq2 rfl rfl (rest := jVx F v ++ []) (cat_1 _ _) dL_law_825 rfl (fun v2 u2 hv2 => ?_)
  obtain ⟨hx, rfl, hR2⟩ := h3 v u v2 u2 hv hv2
  exact j_cmp hC hx dL_law_828 (by decide) (k _ _ hR2)
theorem lc_23 {F : jFix} {i : Nat} {wc wm : List va_E} (hC : jCtx F) (hi : i + 7 ≤ jN F) (hN : jN F ≤ 3584) (hR : R wc wm) (k : ∀ u u2, R u u2 → GL F 1055 i [] u u2) : GL F 833 i [] wc wm := by
  obtain ⟨fs, hq⟩ := R_c0 hR
  obtain ⟨fs2, hq2⟩ := R_m0 hR
  obtain ⟨Pc, Pm, h1, h2, h3⟩ := pr_wind (up := bN (jS F (i + 5) ≠ 0)) hR (jS F (i + 1)) (jS F (i + 2)) (jS F (i + 3)) (jS F (i + 4)) (bN_le _)
  refine j_x hC dL_law_833 ?_
  refine j_arg (j := 1) hC (by omega) hi hN dL_law_834 dL_law_835 dL_law_836 (by decide) dL_law_837 dL_law_838 ?_
  refine j_arg (j := 2) hC (by omega) hi hN dL_law_839 dL_law_840 dL_law_841 (by decide) dL_law_842 dL_law_843 ?_
  refine j_arg (j := 3) hC (by omega) hi hN dL_law_844 dL_law_845 dL_law_846 (by decide) dL_law_847 dL_law_848 ?_
  refine j_arg (j := 4) hC (by omega) hi hN dL_law_849 dL_law_850 dL_law_851 (by decide) dL_law_852 dL_law_853 ?_
  refine j_arg (j := 5) hC (by omega) hi hN dL_law_854 dL_law_855 dL_law_856 (by decide) dL_law_857 dL_law_858 ?_
  refine j_bool hC dL_law_859 dL_law_862 dL_law_863 dL_law_866 ?_
  refine j_callX hC h1 kX7_wind lL_112 (Nat.le_of_ble_eq_true rfl) (fun _ => rfl) rfl hq rfl rfl (rest := []) (Nat.le_of_ble_eq_true rfl) dL_law_867 rfl (fun v u hv => ?_)
  refine j_m hC dL_law_870 ?_
  refine j_arg (j := 1) hC (by omega) hi hN dL_law_871 dL_law_872 dL_law_873 (by decide) dL_law_874 dL_law_875 ?_
  refine j_arg (j := 2) hC (by omega) hi hN dL_law_876 dL_law_877 dL_law_878 (by decide) dL_law_879 dL_law_880 ?_
  refine j_arg (j := 3) hC (by omega) hi hN dL_law_881 dL_law_882 dL_law_883 (by decide) dL_law_884 dL_law_885 ?_
  refine j_arg (j := 4) hC (by omega) hi hN dL_law_886 dL_law_887 dL_law_888 (by decide) dL_law_889 dL_law_890 ?_
  refine j_arg (j := 5) hC (by omega) hi hN dL_law_891 dL_law_892 dL_law_893 (by decide) dL_law_894 dL_law_895 ?_
  refine j_bool hC dL_law_896 dL_law_899 dL_law_900 dL_law_903 ?_
  refine j_callM hC h2 kX8_wind lL_116 (Nat.le_of_ble_eq_true rfl) (fun _ => rfl) rfl hq2 rfl rfl (rest := jVx F v ++ []) (cat_1 _ _) dL_law_904 rfl (fun v2 u2 hv2 => ?_)
  obtain ⟨hx, rfl, hR2⟩ := h3 v u v2 u2 hv hv2
  exact j_cmp hC hx dL_law_907 (by decide) (k _ _ hR2)
theorem lc_24 {F : jFix} {i : Nat} {wc wm : List va_E} (hC : jCtx F) (hi : i + 7 ≤ jN F) (hN : jN F ≤ 3584) (hR : R wc wm) (k : ∀ u u2, R u u2 → GL F 1055 i [] u u2) : GL F 912 i [] wc wm := by
  obtain ⟨fs, hq⟩ := R_c0 hR
  obtain ⟨fs2, hq2⟩ := R_m0 hR
  obtain ⟨Pc, Pm, h1, h2, h3⟩ := pr_seed hR ((((jS F (i + 1)).toInt64 <<< ((nI 32).toInt64 &&& 63)) ||| ((jS F (i + 2)).toInt64 &&& 4294967295)))
  refine j_x hC dL_law_912 ?_
  refine j_arg (j := 1) hC (by omega) hi hN dL_law_913 dL_law_914 dL_law_915 (by decide) dL_law_916 dL_law_917 ?_
  refine j_i2l hC dL_law_918 ?_
  refine j_shl hC dL_law_919 dL_law_921 ?_
  refine j_arg (j := 2) hC (by omega) hi hN dL_law_922 dL_law_923 dL_law_924 (by decide) dL_law_925 dL_law_926 ?_
  refine j_i2l hC dL_law_927 ?_
  refine j_mask hC dL_law_928 dL_law_931 dL_law_932 ?_
  refine j_callX hC h1 kX7_seed lL_119 (Nat.le_of_ble_eq_true rfl) (fun _ => rfl) rfl hq rfl rfl (rest := []) (Nat.le_of_ble_eq_true rfl) dL_law_933 rfl (fun v u hv => ?_)
  refine j_m hC dL_law_936 ?_
  refine j_arg (j := 1) hC (by omega) hi hN dL_law_937 dL_law_938 dL_law_939 (by decide) dL_law_940 dL_law_941 ?_
  refine j_i2l hC dL_law_942 ?_
  refine j_shl hC dL_law_943 dL_law_945 ?_
  refine j_arg (j := 2) hC (by omega) hi hN dL_law_946 dL_law_947 dL_law_948 (by decide) dL_law_949 dL_law_950 ?_
  refine j_i2l hC dL_law_951 ?_
  refine j_mask hC dL_law_952 dL_law_955 dL_law_956 ?_
  refine j_callM hC h2 kX8_seed lL_123 (Nat.le_of_ble_eq_true rfl) (fun _ => rfl) rfl hq2 rfl rfl (rest := jVx F v ++ []) (cat_1 _ _) dL_law_957 rfl (fun v2 u2 hv2 => ?_)
  obtain ⟨hx, rfl, hR2⟩ := h3 v u v2 u2 hv hv2
  exact j_cmpL hC hx dL_law_960 dL_law_961 (by decide) (k _ _ hR2)
theorem lc_25 {F : jFix} {i : Nat} {wc wm : List va_E} (hC : jCtx F) (hi : i + 7 ≤ jN F) (hN : jN F ≤ 3584) (hR : R wc wm) (k : ∀ u u2, R u u2 → GL F 1055 i [] u u2) : GL F 966 i [] wc wm := by
  obtain ⟨fs, hq⟩ := R_c0 hR
  obtain ⟨fs2, hq2⟩ := R_m0 hR
  obtain ⟨Pc, Pm, h1, h2, h3⟩ := pr_fog hR (jS F (i + 1)) (jS F (i + 2)) (jS F (i + 3))
  refine j_x hC dL_law_966 ?_
  refine j_arg (j := 1) hC (by omega) hi hN dL_law_967 dL_law_968 dL_law_969 (by decide) dL_law_970 dL_law_971 ?_
  refine j_arg (j := 2) hC (by omega) hi hN dL_law_972 dL_law_973 dL_law_974 (by decide) dL_law_975 dL_law_976 ?_
  refine j_arg (j := 3) hC (by omega) hi hN dL_law_977 dL_law_978 dL_law_979 (by decide) dL_law_980 dL_law_981 ?_
  refine j_callX hC h1 kX7_fog lL_124 (Nat.le_of_ble_eq_true rfl) (fun _ => rfl) rfl hq rfl rfl (rest := []) (Nat.le_of_ble_eq_true rfl) dL_law_982 rfl (fun v u hv => ?_)
  refine j_m hC dL_law_985 ?_
  refine j_arg (j := 1) hC (by omega) hi hN dL_law_986 dL_law_987 dL_law_988 (by decide) dL_law_989 dL_law_990 ?_
  refine j_arg (j := 2) hC (by omega) hi hN dL_law_991 dL_law_992 dL_law_993 (by decide) dL_law_994 dL_law_995 ?_
  refine j_arg (j := 3) hC (by omega) hi hN dL_law_996 dL_law_997 dL_law_998 (by decide) dL_law_999 dL_law_1000 ?_
  refine j_callM hC h2 kX8_fog lL_127 (Nat.le_of_ble_eq_true rfl) (fun _ => rfl) rfl hq2 rfl rfl (rest := jVx F v ++ []) (cat_1 _ _) dL_law_1001 rfl (fun v2 u2 hv2 => ?_)
  obtain ⟨hx, rfl, hR2⟩ := h3 v u v2 u2 hv hv2
  exact j_cmp hC hx dL_law_1004 (by decide) (k _ _ hR2)
theorem lc_26 {F : jFix} {i : Nat} {wc wm : List va_E} (hC : jCtx F) (hi : i + 7 ≤ jN F) (hN : jN F ≤ 3584) (hR : R wc wm) (k : ∀ u u2, R u u2 → GL F 1055 i [] u u2) : GL F 1009 i [] wc wm := by
  obtain ⟨fs, hq⟩ := R_c0 hR
  obtain ⟨fs2, hq2⟩ := R_m0 hR
  obtain ⟨Pc, Pm, h1, h2, h3⟩ := pr_keep hR (jS F (i + 1))
  refine j_x hC dL_law_1009 ?_
  refine j_arg (j := 1) hC (by omega) hi hN dL_law_1010 dL_law_1011 dL_law_1012 (by decide) dL_law_1013 dL_law_1014 ?_
  refine j_callX hC h1 kX7_keep lL_128 (Nat.le_of_ble_eq_true rfl) (fun _ => rfl) rfl hq rfl rfl (rest := []) (Nat.le_of_ble_eq_true rfl) dL_law_1015 rfl (fun v u hv => ?_)
  refine j_m hC dL_law_1018 ?_
  refine j_arg (j := 1) hC (by omega) hi hN dL_law_1019 dL_law_1020 dL_law_1021 (by decide) dL_law_1022 dL_law_1023 ?_
  refine j_callM hC h2 kX8_keep lL_131 (Nat.le_of_ble_eq_true rfl) (fun _ => rfl) rfl hq2 rfl rfl (rest := jVx F v ++ []) (cat_1 _ _) dL_law_1024 rfl (fun v2 u2 hv2 => ?_)
  obtain ⟨hx, rfl, hR2⟩ := h3 v u v2 u2 hv hv2
  exact j_cmp hC hx dL_law_1027 (by decide) (k _ _ hR2)
theorem lc_27 {F : jFix} {i : Nat} {wc wm : List va_E} (hC : jCtx F) (hi : i + 7 ≤ jN F) (hN : jN F ≤ 3584) (hR : R wc wm) (k : ∀ u u2, R u u2 → GL F 1055 i [] u u2) : GL F 1032 i [] wc wm := by
  obtain ⟨fs, hq⟩ := R_c0 hR
  obtain ⟨fs2, hq2⟩ := R_m0 hR
  obtain ⟨Pc, Pm, h1, h2, h3⟩ := pr_again hR (jS F (i + 1))
  refine j_x hC dL_law_1032 ?_
  refine j_arg (j := 1) hC (by omega) hi hN dL_law_1033 dL_law_1034 dL_law_1035 (by decide) dL_law_1036 dL_law_1037 ?_
  refine j_callX hC h1 kX7_again lL_132 (Nat.le_of_ble_eq_true rfl) (fun _ => rfl) rfl hq rfl rfl (rest := []) (Nat.le_of_ble_eq_true rfl) dL_law_1038 rfl (fun v u hv => ?_)
  refine j_m hC dL_law_1041 ?_
  refine j_arg (j := 1) hC (by omega) hi hN dL_law_1042 dL_law_1043 dL_law_1044 (by decide) dL_law_1045 dL_law_1046 ?_
  refine j_callM hC h2 kX8_again lL_135 (Nat.le_of_ble_eq_true rfl) (fun _ => rfl) rfl hq2 rfl rfl (rest := jVx F v ++ []) (cat_1 _ _) dL_law_1047 rfl (fun v2 u2 hv2 => ?_)
  obtain ⟨hx, rfl, hR2⟩ := h3 v u v2 u2 hv hv2
  exact j_cmp hC hx dL_law_1050 (by decide) (k _ _ hR2)
theorem law_case {F : jFix} {i : Nat} {wc wm : List va_E} (hC : jCtx F) (hi : i + 7 ≤ jN F) (hN : jN F ≤ 3584) (hR : R wc wm) (k : ∀ u u2, R u u2 → GL F 1055 i [] u u2) : GL F 27 i [] wc wm :=
  j_sw hC hi hN (fun n hn => match n, hn with | 0, _ => lc_0 hC hi hN hR k | 1, _ => lc_1 hC hi hN hR k | 2, _ => lc_2 hC hi hN hR k | 3, _ => lc_3 hC hi hN hR k | 4, _ => lc_4 hC hi hN hR k | 5, _ => lc_5 hC hi hN hR k | 6, _ => lc_6 hC hi hN hR k | 7, _ => lc_7 hC hi hN hR k | 8, _ => lc_8 hC hi hN hR k | 9, _ => lc_9 hC hi hN hR k | 10, _ => lc_10 hC hi hN hR k | 11, _ => lc_11 hC hi hN hR k | 12, _ => lc_12 hC hi hN hR k | 13, _ => lc_13 hC hi hN hR k | 14, _ => lc_14 hC hi hN hR k | 15, _ => lc_15 hC hi hN hR k | 16, _ => lc_16 hC hi hN hR k | 17, _ => lc_17 hC hi hN hR k | 18, _ => lc_18 hC hi hN hR k | 19, _ => lc_19 hC hi hN hR k | 20, _ => lc_20 hC hi hN hR k | 21, _ => lc_21 hC hi hN hR k | 22, _ => lc_22 hC hi hN hR k | 23, _ => lc_23 hC hi hN hR k | 24, _ => lc_24 hC hi hN hR k | 25, _ => lc_25 hC hi hN hR k | 26, _ => lc_26 hC hi hN hR k | 27, _ => lc_27 hC hi hN hR k | n + 28, _ => k wc wm hR)
theorem law_loop {F : jFix} (hC : jCtx F) (hN : jN F ≤ 3584) (hend : ∀ i wc wm, GL F 1061 i [] wc wm) : ∀ (n i : Nat) (wc wm : List va_E), i ≤ 3584 → jN F < i + n → R wc wm → GL F 18 i [] wc wm
  | 0, i, wc, wm, hi, hn, hR => j_head hC hN (by omega) (hend i wc wm) (fun h => absurd h (by omega))
  | n + 1, i, wc, wm, hi, hn, hR => j_head hC hN (by omega) (hend i wc wm) (fun h => law_case hC h hN hR (fun u u2 h2 => j_next hC (law_loop hC hN hend n (i + 7) u u2 (by omega) (by omega) h2)))
