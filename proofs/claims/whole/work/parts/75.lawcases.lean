/-! THE LAW: A CASE -/
set_option maxHeartbeats 4000000 in
set_option maxRecDepth 100000 in
theorem cs_0 {E : Ev} {nm : String} {M : Mem} {X : Sys} {i : Nat} (hL : eL E ≤ 3072) (hi : 6 * i + 6 ≤ eL E) (hW : Wi M) (hC : RepCl M X) (hR : RepMo M X) (hO : OkX X) (hN : ∀ M1 X1, Wi M1 → RepCl M1 X1 → RepMo M1 X1 → OkX X1 → G E room_1 (kL nm) (ZL E) 104 4227 1394 [some (vS 4), some (vR (0, 0, 0)), some (vR (20, 0, 0)), some (vI (nI (6 * i)))] [] M1) : G E room_1 (kL nm) (ZL E) 104 4227 204 [some (vS 4), some (vR (0, 0, 0)), some (vR (20, 0, 0)), some (vI (nI (6 * i)))] [] M := by
  refine g_aloadR_n dXL_law_204 rfl rfl ?_
  refine g_aloadS_n dXL_law_205 rfl rfl ?_
  refine g_iload_n dXL_law_206 rfl rfl ?_
  refine g_iconst dXL_law_207 (v := 1) (by decide) ?_
  refine g_iadd dXL_law_208 ?_
  refine g_ialdX (j := 6 * i + 1) dXL_law_209 (ixL i 1) (by omega) (by omega) ?_
  refine g_aloadS_n dXL_law_210 rfl rfl ?_
  refine g_iload_n dXL_law_211 rfl rfl ?_
  refine g_iconst dXL_law_212 (v := 2) (by decide) ?_
  refine g_iadd dXL_law_213 ?_
  refine g_ialdX (j := 6 * i + 2) dXL_law_214 (ixL i 2) (by omega) (by omega) ?_
  refine g_aloadS_n dXL_law_215 rfl rfl ?_
  refine g_iload_n dXL_law_216 rfl rfl ?_
  refine g_iconst dXL_law_217 (v := 3) (by decide) ?_
  refine g_iadd dXL_law_218 ?_
  refine g_ialdX (j := 6 * i + 3) dXL_law_219 (ixL i 3) (by omega) (by omega) ?_
  refine n_v3i (n' := 2) dXL_law_220 mX6_row lXL_13 rfl hW vld_x0 rfl rfl ⟨Nat.le_of_ble_eq_true rfl, Nat.le_of_ble_eq_true rfl⟩ ⟨Nat.le_of_ble_eq_true rfl, Nat.le_of_ble_eq_true rfl⟩ (Nat.le_of_ble_eq_true rfl) ?_
  refine wp_X6_row (by exact hW) hC hO (fun M1 hf1 hC1 => ?_)
  have hW1 := hf1.W (by exact hW)
  have hR1 := hR.frC hf1
  refine ⟨_, rfl, ?_⟩
  refine g_aloadR_n dXL_law_223 rfl rfl ?_
  refine g_aloadS_n dXL_law_224 rfl rfl ?_
  refine g_iload_n dXL_law_225 rfl rfl ?_
  refine g_iconst dXL_law_226 (v := 1) (by decide) ?_
  refine g_iadd dXL_law_227 ?_
  refine g_ialdX (j := 6 * i + 1) dXL_law_228 (ixL i 1) (by omega) (by omega) ?_
  refine g_aloadS_n dXL_law_229 rfl rfl ?_
  refine g_iload_n dXL_law_230 rfl rfl ?_
  refine g_iconst dXL_law_231 (v := 2) (by decide) ?_
  refine g_iadd dXL_law_232 ?_
  refine g_ialdX (j := 6 * i + 2) dXL_law_233 (ixL i 2) (by omega) (by omega) ?_
  refine g_aloadS_n dXL_law_234 rfl rfl ?_
  refine g_iload_n dXL_law_235 rfl rfl ?_
  refine g_iconst dXL_law_236 (v := 3) (by decide) ?_
  refine g_iadd dXL_law_237 ?_
  refine g_ialdX (j := 6 * i + 3) dXL_law_238 (ixL i 3) (by omega) (by omega) ?_
  refine n_v3i (n' := 1) dXL_law_239 mX7_row lXL_17 rfl hW1 vld_x20 rfl rfl ⟨Nat.le_of_ble_eq_true rfl, Nat.le_of_ble_eq_true rfl⟩ ⟨Nat.le_of_ble_eq_true rfl, Nat.le_of_ble_eq_true rfl⟩ (Nat.le_of_ble_eq_true rfl) ?_
  refine wp_X7_row (by exact hW1) hR1 hO (fun M2 hf2 hR2 => ?_)
  have hW2 := hf2.W (by exact hW1)
  refine ⟨_, rfl, ?_⟩
  refine g_icmp_eq (tgt := 1394) dXL_law_242 (by decide) (fun c242 => ?_) (fun c242 => ?_)
  · exact hN _ _ (by exact hW2) (hC1.frM hf2) hR2 (ok_row hO _ _ _)
  · exact absurd rfl c242
set_option maxHeartbeats 4000000 in
set_option maxRecDepth 100000 in
theorem cs_1 {E : Ev} {nm : String} {M : Mem} {X : Sys} {i : Nat} (hL : eL E ≤ 3072) (hi : 6 * i + 6 ≤ eL E) (hW : Wi M) (hC : RepCl M X) (hR : RepMo M X) (hO : OkX X) (hN : ∀ M1 X1, Wi M1 → RepCl M1 X1 → RepMo M1 X1 → OkX X1 → G E room_1 (kL nm) (ZL E) 104 4227 1394 [some (vS 4), some (vR (0, 0, 0)), some (vR (20, 0, 0)), some (vI (nI (6 * i)))] [] M1) : G E room_1 (kL nm) (ZL E) 104 4227 247 [some (vS 4), some (vR (0, 0, 0)), some (vR (20, 0, 0)), some (vI (nI (6 * i)))] [] M := by
  refine g_aloadR_n dXL_law_247 rfl rfl ?_
  refine g_aloadS_n dXL_law_248 rfl rfl ?_
  refine g_iload_n dXL_law_249 rfl rfl ?_
  refine g_iconst dXL_law_250 (v := 1) (by decide) ?_
  refine g_iadd dXL_law_251 ?_
  refine g_ialdX (j := 6 * i + 1) dXL_law_252 (ixL i 1) (by omega) (by omega) ?_
  refine g_aloadS_n dXL_law_253 rfl rfl ?_
  refine g_iload_n dXL_law_254 rfl rfl ?_
  refine g_iconst dXL_law_255 (v := 2) (by decide) ?_
  refine g_iadd dXL_law_256 ?_
  refine g_ialdX (j := 6 * i + 2) dXL_law_257 (ixL i 2) (by omega) (by omega) ?_
  refine g_aloadS_n dXL_law_258 rfl rfl ?_
  refine g_iload_n dXL_law_259 rfl rfl ?_
  refine g_iconst dXL_law_260 (v := 3) (by decide) ?_
  refine g_iadd dXL_law_261 ?_
  refine g_ialdX (j := 6 * i + 3) dXL_law_262 (ixL i 3) (by omega) (by omega) ?_
  refine g_i2l dXL_law_263 ?_
  refine g_bipush dXL_law_264 (v := 32) (by decide) ?_
  refine g_lshl dXL_law_266 ?_
  refine g_aloadS_n dXL_law_267 rfl rfl ?_
  refine g_iload_n dXL_law_268 rfl rfl ?_
  refine g_iconst dXL_law_269 (v := 4) (by decide) ?_
  refine g_iadd dXL_law_270 ?_
  refine g_ialdX (j := 6 * i + 4) dXL_law_271 (ixL i 4) (by omega) (by omega) ?_
  refine g_i2l dXL_law_272 ?_
  refine g_ldc2 dXL_law_273 qXL_18 ?_
  refine g_land dXL_law_276 ?_
  refine g_lor dXL_law_277 ?_
  refine n_v3i (n' := 2) dXL_law_278 mX6_set lXL_20 rfl hW vld_x0 rfl rfl ⟨Nat.le_of_ble_eq_true rfl, Nat.le_of_ble_eq_true rfl⟩ ⟨Nat.le_of_ble_eq_true rfl, Nat.le_of_ble_eq_true rfl⟩ (Nat.le_of_ble_eq_true rfl) ?_
  refine wp_X6_set (by exact hW) hC hO (fun M1 hf1 hC1 => ?_)
  have hW1 := hf1.W (by exact hW)
  have hR1 := hR.frC hf1
  refine ⟨_, rfl, ?_⟩
  refine g_aloadR_n dXL_law_281 rfl rfl ?_
  refine g_aloadS_n dXL_law_282 rfl rfl ?_
  refine g_iload_n dXL_law_283 rfl rfl ?_
  refine g_iconst dXL_law_284 (v := 1) (by decide) ?_
  refine g_iadd dXL_law_285 ?_
  refine g_ialdX (j := 6 * i + 1) dXL_law_286 (ixL i 1) (by omega) (by omega) ?_
  refine g_aloadS_n dXL_law_287 rfl rfl ?_
  refine g_iload_n dXL_law_288 rfl rfl ?_
  refine g_iconst dXL_law_289 (v := 2) (by decide) ?_
  refine g_iadd dXL_law_290 ?_
  refine g_ialdX (j := 6 * i + 2) dXL_law_291 (ixL i 2) (by omega) (by omega) ?_
  refine g_aloadS_n dXL_law_292 rfl rfl ?_
  refine g_iload_n dXL_law_293 rfl rfl ?_
  refine g_iconst dXL_law_294 (v := 3) (by decide) ?_
  refine g_iadd dXL_law_295 ?_
  refine g_ialdX (j := 6 * i + 3) dXL_law_296 (ixL i 3) (by omega) (by omega) ?_
  refine g_i2l dXL_law_297 ?_
  refine g_bipush dXL_law_298 (v := 32) (by decide) ?_
  refine g_lshl dXL_law_300 ?_
  refine g_aloadS_n dXL_law_301 rfl rfl ?_
  refine g_iload_n dXL_law_302 rfl rfl ?_
  refine g_iconst dXL_law_303 (v := 4) (by decide) ?_
  refine g_iadd dXL_law_304 ?_
  refine g_ialdX (j := 6 * i + 4) dXL_law_305 (ixL i 4) (by omega) (by omega) ?_
  refine g_i2l dXL_law_306 ?_
  refine g_ldc2 dXL_law_307 qXL_18 ?_
  refine g_land dXL_law_310 ?_
  refine g_lor dXL_law_311 ?_
  refine n_v3i (n' := 1) dXL_law_312 mX7_set lXL_24 rfl hW1 vld_x20 rfl rfl ⟨Nat.le_of_ble_eq_true rfl, Nat.le_of_ble_eq_true rfl⟩ ⟨Nat.le_of_ble_eq_true rfl, Nat.le_of_ble_eq_true rfl⟩ (Nat.le_of_ble_eq_true rfl) ?_
  refine wp_X7_set (by exact hW1) hR1 hO (fun M2 hf2 hR2 => ?_)
  have hW2 := hf2.W (by exact hW1)
  refine ⟨_, rfl, ?_⟩
  refine g_icmp_eq (tgt := 1394) dXL_law_315 (by decide) (fun c315 => ?_) (fun c315 => ?_)
  · exact hN _ _ (by exact hW2) (hC1.frM hf2) hR2 (ok_set hO _ _ _)
  · exact absurd rfl c315
set_option maxHeartbeats 4000000 in
set_option maxRecDepth 100000 in
theorem cs_2 {E : Ev} {nm : String} {M : Mem} {X : Sys} {i : Nat} (hL : eL E ≤ 3072) (hi : 6 * i + 6 ≤ eL E) (hW : Wi M) (hC : RepCl M X) (hR : RepMo M X) (hO : OkX X) (hN : ∀ M1 X1, Wi M1 → RepCl M1 X1 → RepMo M1 X1 → OkX X1 → G E room_1 (kL nm) (ZL E) 104 4227 1394 [some (vS 4), some (vR (0, 0, 0)), some (vR (20, 0, 0)), some (vI (nI (6 * i)))] [] M1) : G E room_1 (kL nm) (ZL E) 104 4227 320 [some (vS 4), some (vR (0, 0, 0)), some (vR (20, 0, 0)), some (vI (nI (6 * i)))] [] M := by
  refine g_aloadR_n dXL_law_320 rfl rfl ?_
  refine g_aloadS_n dXL_law_321 rfl rfl ?_
  refine g_iload_n dXL_law_322 rfl rfl ?_
  refine g_iconst dXL_law_323 (v := 1) (by decide) ?_
  refine g_iadd dXL_law_324 ?_
  refine g_ialdX (j := 6 * i + 1) dXL_law_325 (ixL i 1) (by omega) (by omega) ?_
  refine g_aloadS_n dXL_law_326 rfl rfl ?_
  refine g_iload_n dXL_law_327 rfl rfl ?_
  refine g_iconst dXL_law_328 (v := 2) (by decide) ?_
  refine g_iadd dXL_law_329 ?_
  refine g_ialdX (j := 6 * i + 2) dXL_law_330 (ixL i 2) (by omega) (by omega) ?_
  refine g_aloadS_n dXL_law_331 rfl rfl ?_
  refine g_iload_n dXL_law_332 rfl rfl ?_
  refine g_iconst dXL_law_333 (v := 3) (by decide) ?_
  refine g_iadd dXL_law_334 ?_
  refine g_ialdX (j := 6 * i + 3) dXL_law_335 (ixL i 3) (by omega) (by omega) ?_
  refine g_aloadS_n dXL_law_336 rfl rfl ?_
  refine g_iload_n dXL_law_337 rfl rfl ?_
  refine g_iconst dXL_law_338 (v := 4) (by decide) ?_
  refine g_iadd dXL_law_339 ?_
  refine g_ialdX (j := 6 * i + 4) dXL_law_340 (ixL i 4) (by omega) (by omega) ?_
  refine g_aloadS_n dXL_law_341 rfl rfl ?_
  refine g_iload_n dXL_law_342 rfl rfl ?_
  refine g_iconst dXL_law_343 (v := 5) (by decide) ?_
  refine g_iadd dXL_law_344 ?_
  refine g_ialdX (j := 6 * i + 5) dXL_law_345 (ixL i 5) (by omega) (by omega) ?_
  refine n_v5i (n' := 1) dXL_law_346 mX6_copy lXL_25 rfl hW vld_x0 rfl rfl ⟨Nat.le_of_ble_eq_true rfl, Nat.le_of_ble_eq_true rfl⟩ ⟨Nat.le_of_ble_eq_true rfl, Nat.le_of_ble_eq_true rfl⟩ (Nat.le_of_ble_eq_true rfl) ?_
  refine wp_X6_copy (by exact hW) hC hO (fun M1 hf1 hC1 => ?_)
  have hW1 := hf1.W (by exact hW)
  have hR1 := hR.frC hf1
  refine ⟨_, rfl, ?_⟩
  refine g_aloadR_n dXL_law_349 rfl rfl ?_
  refine g_aloadS_n dXL_law_350 rfl rfl ?_
  refine g_iload_n dXL_law_351 rfl rfl ?_
  refine g_iconst dXL_law_352 (v := 1) (by decide) ?_
  refine g_iadd dXL_law_353 ?_
  refine g_ialdX (j := 6 * i + 1) dXL_law_354 (ixL i 1) (by omega) (by omega) ?_
  refine g_aloadS_n dXL_law_355 rfl rfl ?_
  refine g_iload_n dXL_law_356 rfl rfl ?_
  refine g_iconst dXL_law_357 (v := 2) (by decide) ?_
  refine g_iadd dXL_law_358 ?_
  refine g_ialdX (j := 6 * i + 2) dXL_law_359 (ixL i 2) (by omega) (by omega) ?_
  refine g_aloadS_n dXL_law_360 rfl rfl ?_
  refine g_iload_n dXL_law_361 rfl rfl ?_
  refine g_iconst dXL_law_362 (v := 3) (by decide) ?_
  refine g_iadd dXL_law_363 ?_
  refine g_ialdX (j := 6 * i + 3) dXL_law_364 (ixL i 3) (by omega) (by omega) ?_
  refine g_aloadS_n dXL_law_365 rfl rfl ?_
  refine g_iload_n dXL_law_366 rfl rfl ?_
  refine g_iconst dXL_law_367 (v := 4) (by decide) ?_
  refine g_iadd dXL_law_368 ?_
  refine g_ialdX (j := 6 * i + 4) dXL_law_369 (ixL i 4) (by omega) (by omega) ?_
  refine g_aloadS_n dXL_law_370 rfl rfl ?_
  refine g_iload_n dXL_law_371 rfl rfl ?_
  refine g_iconst dXL_law_372 (v := 5) (by decide) ?_
  refine g_iadd dXL_law_373 ?_
  refine g_ialdX (j := 6 * i + 5) dXL_law_374 (ixL i 5) (by omega) (by omega) ?_
  refine n_v5i (n' := 1) dXL_law_375 mX7_copy lXL_29 rfl hW1 vld_x20 rfl rfl ⟨Nat.le_of_ble_eq_true rfl, Nat.le_of_ble_eq_true rfl⟩ ⟨Nat.le_of_ble_eq_true rfl, Nat.le_of_ble_eq_true rfl⟩ (Nat.le_of_ble_eq_true rfl) ?_
  refine wp_X7_copy (by exact hW1) hR1 hO (fun M2 hf2 hR2 => ?_)
  have hW2 := hf2.W (by exact hW1)
  refine ⟨_, rfl, ?_⟩
  refine g_icmp_eq (tgt := 1394) dXL_law_378 (by decide) (fun c378 => ?_) (fun c378 => ?_)
  · exact hN _ _ (by exact hW2) (hC1.frM hf2) hR2 (ok_copy hO _ _ _ _ _)
  · exact absurd rfl c378
set_option maxHeartbeats 4000000 in
set_option maxRecDepth 100000 in
theorem cs_3 {E : Ev} {nm : String} {M : Mem} {X : Sys} {i : Nat} (hL : eL E ≤ 3072) (hi : 6 * i + 6 ≤ eL E) (hW : Wi M) (hC : RepCl M X) (hR : RepMo M X) (hO : OkX X) (hN : ∀ M1 X1, Wi M1 → RepCl M1 X1 → RepMo M1 X1 → OkX X1 → G E room_1 (kL nm) (ZL E) 104 4227 1394 [some (vS 4), some (vR (0, 0, 0)), some (vR (20, 0, 0)), some (vI (nI (6 * i)))] [] M1) : G E room_1 (kL nm) (ZL E) 104 4227 383 [some (vS 4), some (vR (0, 0, 0)), some (vR (20, 0, 0)), some (vI (nI (6 * i)))] [] M := by
  refine g_aloadR_n dXL_law_383 rfl rfl ?_
  refine g_aloadS_n dXL_law_384 rfl rfl ?_
  refine g_iload_n dXL_law_385 rfl rfl ?_
  refine g_iconst dXL_law_386 (v := 1) (by decide) ?_
  refine g_iadd dXL_law_387 ?_
  refine g_ialdX (j := 6 * i + 1) dXL_law_388 (ixL i 1) (by omega) (by omega) ?_
  refine g_aloadS_n dXL_law_389 rfl rfl ?_
  refine g_iload_n dXL_law_390 rfl rfl ?_
  refine g_iconst dXL_law_391 (v := 2) (by decide) ?_
  refine g_iadd dXL_law_392 ?_
  refine g_ialdX (j := 6 * i + 2) dXL_law_393 (ixL i 2) (by omega) (by omega) ?_
  refine n_v2l (n' := 1) dXL_law_394 mX6_element lXL_30 rfl hW vld_x0 rfl rfl ⟨Nat.le_of_ble_eq_true rfl, Nat.le_of_ble_eq_true rfl⟩ ⟨Nat.le_of_ble_eq_true rfl, Nat.le_of_ble_eq_true rfl⟩ (Nat.le_of_ble_eq_true rfl) ?_
  refine wp_X6_element (by exact hW) hC hO ?_
  refine ⟨_, rfl, ?_⟩
  refine g_aloadR_n dXL_law_397 rfl rfl ?_
  refine g_aloadS_n dXL_law_398 rfl rfl ?_
  refine g_iload_n dXL_law_399 rfl rfl ?_
  refine g_iconst dXL_law_400 (v := 1) (by decide) ?_
  refine g_iadd dXL_law_401 ?_
  refine g_ialdX (j := 6 * i + 1) dXL_law_402 (ixL i 1) (by omega) (by omega) ?_
  refine g_aloadS_n dXL_law_403 rfl rfl ?_
  refine g_iload_n dXL_law_404 rfl rfl ?_
  refine g_iconst dXL_law_405 (v := 2) (by decide) ?_
  refine g_iadd dXL_law_406 ?_
  refine g_ialdX (j := 6 * i + 2) dXL_law_407 (ixL i 2) (by omega) (by omega) ?_
  refine n_v2l (n' := 1) dXL_law_408 mX7_element lXL_34 rfl hW vld_x20 rfl rfl ⟨Nat.le_of_ble_eq_true rfl, Nat.le_of_ble_eq_true rfl⟩ ⟨Nat.le_of_ble_eq_true rfl, Nat.le_of_ble_eq_true rfl⟩ (Nat.le_of_ble_eq_true rfl) ?_
  refine wp_X7_element (by exact hW) hR hO ?_
  refine ⟨_, rfl, ?_⟩
  refine g_lcmp dXL_law_411 ?_
  refine g_if_eq (tgt := 1394) dXL_law_412 (by decide) (fun c412 => ?_) (fun c412 => ?_)
  · exact hN _ _ hW hC hR hO
  · exact absurd (lgc_self _) c412
set_option maxHeartbeats 4000000 in
set_option maxRecDepth 100000 in
theorem cs_4 {E : Ev} {nm : String} {M : Mem} {X : Sys} {i : Nat} (hL : eL E ≤ 3072) (hi : 6 * i + 6 ≤ eL E) (hW : Wi M) (hC : RepCl M X) (hR : RepMo M X) (hO : OkX X) (hN : ∀ M1 X1, Wi M1 → RepCl M1 X1 → RepMo M1 X1 → OkX X1 → G E room_1 (kL nm) (ZL E) 104 4227 1394 [some (vS 4), some (vR (0, 0, 0)), some (vR (20, 0, 0)), some (vI (nI (6 * i)))] [] M1) : G E room_1 (kL nm) (ZL E) 104 4227 417 [some (vS 4), some (vR (0, 0, 0)), some (vR (20, 0, 0)), some (vI (nI (6 * i)))] [] M := by
  refine g_aloadR_n dXL_law_417 rfl rfl ?_
  refine g_aloadS_n dXL_law_418 rfl rfl ?_
  refine g_iload_n dXL_law_419 rfl rfl ?_
  refine g_iconst dXL_law_420 (v := 1) (by decide) ?_
  refine g_iadd dXL_law_421 ?_
  refine g_ialdX (j := 6 * i + 1) dXL_law_422 (ixL i 1) (by omega) (by omega) ?_
  refine g_aloadS_n dXL_law_423 rfl rfl ?_
  refine g_iload_n dXL_law_424 rfl rfl ?_
  refine g_iconst dXL_law_425 (v := 2) (by decide) ?_
  refine g_iadd dXL_law_426 ?_
  refine g_ialdX (j := 6 * i + 2) dXL_law_427 (ixL i 2) (by omega) (by omega) ?_
  refine n_v2i (n' := 2) dXL_law_428 mX6_show lXL_35 rfl hW vld_x0 rfl rfl ⟨Nat.le_of_ble_eq_true rfl, Nat.le_of_ble_eq_true rfl⟩ ⟨Nat.le_of_ble_eq_true rfl, Nat.le_of_ble_eq_true rfl⟩ (Nat.le_of_ble_eq_true rfl) ?_
  refine wp_X6_show (by exact hW) hC hO (fun M1 hf1 hC1 => ?_)
  have hW1 := hf1.W (by exact hW)
  have hR1 := hR.frC hf1
  refine ⟨_, rfl, ?_⟩
  refine g_aloadR_n dXL_law_431 rfl rfl ?_
  refine g_aloadS_n dXL_law_432 rfl rfl ?_
  refine g_iload_n dXL_law_433 rfl rfl ?_
  refine g_iconst dXL_law_434 (v := 1) (by decide) ?_
  refine g_iadd dXL_law_435 ?_
  refine g_ialdX (j := 6 * i + 1) dXL_law_436 (ixL i 1) (by omega) (by omega) ?_
  refine g_aloadS_n dXL_law_437 rfl rfl ?_
  refine g_iload_n dXL_law_438 rfl rfl ?_
  refine g_iconst dXL_law_439 (v := 2) (by decide) ?_
  refine g_iadd dXL_law_440 ?_
  refine g_ialdX (j := 6 * i + 2) dXL_law_441 (ixL i 2) (by omega) (by omega) ?_
  refine n_v2i (n' := 1) dXL_law_442 mX7_show lXL_39 rfl hW1 vld_x20 rfl rfl ⟨Nat.le_of_ble_eq_true rfl, Nat.le_of_ble_eq_true rfl⟩ ⟨Nat.le_of_ble_eq_true rfl, Nat.le_of_ble_eq_true rfl⟩ (Nat.le_of_ble_eq_true rfl) ?_
  refine wp_X7_show (by exact hW1) hR1 hO (fun M2 hf2 hR2 => ?_)
  have hW2 := hf2.W (by exact hW1)
  refine ⟨_, rfl, ?_⟩
  refine g_icmp_eq (tgt := 1394) dXL_law_445 (by decide) (fun c445 => ?_) (fun c445 => ?_)
  · exact hN _ _ (by exact hW2) (hC1.frM hf2) hR2 (ok_show hO _ _)
  · exact absurd rfl c445
set_option maxHeartbeats 4000000 in
set_option maxRecDepth 100000 in
theorem cs_5 {E : Ev} {nm : String} {M : Mem} {X : Sys} {i : Nat} (hL : eL E ≤ 3072) (hi : 6 * i + 6 ≤ eL E) (hW : Wi M) (hC : RepCl M X) (hR : RepMo M X) (hO : OkX X) (hN : ∀ M1 X1, Wi M1 → RepCl M1 X1 → RepMo M1 X1 → OkX X1 → G E room_1 (kL nm) (ZL E) 104 4227 1394 [some (vS 4), some (vR (0, 0, 0)), some (vR (20, 0, 0)), some (vI (nI (6 * i)))] [] M1) : G E room_1 (kL nm) (ZL E) 104 4227 450 [some (vS 4), some (vR (0, 0, 0)), some (vR (20, 0, 0)), some (vI (nI (6 * i)))] [] M := by
  refine g_aloadR_n dXL_law_450 rfl rfl ?_
  refine g_aloadS_n dXL_law_451 rfl rfl ?_
  refine g_iload_n dXL_law_452 rfl rfl ?_
  refine g_iconst dXL_law_453 (v := 1) (by decide) ?_
  refine g_iadd dXL_law_454 ?_
  refine g_ialdX (j := 6 * i + 1) dXL_law_455 (ixL i 1) (by omega) (by omega) ?_
  refine n_v1i (n' := 1) dXL_law_456 mX6_holds lXL_40 rfl hW vld_x0 rfl rfl ⟨Nat.le_of_ble_eq_true rfl, Nat.le_of_ble_eq_true rfl⟩ ⟨Nat.le_of_ble_eq_true rfl, Nat.le_of_ble_eq_true rfl⟩ (Nat.le_of_ble_eq_true rfl) ?_
  refine wp_X6_holds (by exact hW) hC hO ?_
  refine ⟨_, rfl, ?_⟩
  refine g_aloadR_n dXL_law_459 rfl rfl ?_
  refine g_aloadS_n dXL_law_460 rfl rfl ?_
  refine g_iload_n dXL_law_461 rfl rfl ?_
  refine g_iconst dXL_law_462 (v := 1) (by decide) ?_
  refine g_iadd dXL_law_463 ?_
  refine g_ialdX (j := 6 * i + 1) dXL_law_464 (ixL i 1) (by omega) (by omega) ?_
  refine n_v1i (n' := 1) dXL_law_465 mX7_holds lXL_44 rfl hW vld_x20 rfl rfl ⟨Nat.le_of_ble_eq_true rfl, Nat.le_of_ble_eq_true rfl⟩ ⟨Nat.le_of_ble_eq_true rfl, Nat.le_of_ble_eq_true rfl⟩ (Nat.le_of_ble_eq_true rfl) ?_
  refine wp_X7_holds (by exact hW) hR hO ?_
  refine ⟨_, rfl, ?_⟩
  refine g_icmp_eq (tgt := 1394) dXL_law_468 (by decide) (fun c468 => ?_) (fun c468 => ?_)
  · exact hN _ _ hW hC hR hO
  · exact absurd rfl c468
set_option maxHeartbeats 4000000 in
set_option maxRecDepth 100000 in
theorem cs_6 {E : Ev} {nm : String} {M : Mem} {X : Sys} {i : Nat} (hL : eL E ≤ 3072) (hi : 6 * i + 6 ≤ eL E) (hW : Wi M) (hC : RepCl M X) (hR : RepMo M X) (hO : OkX X) (hN : ∀ M1 X1, Wi M1 → RepCl M1 X1 → RepMo M1 X1 → OkX X1 → G E room_1 (kL nm) (ZL E) 104 4227 1394 [some (vS 4), some (vR (0, 0, 0)), some (vR (20, 0, 0)), some (vI (nI (6 * i)))] [] M1) : G E room_1 (kL nm) (ZL E) 104 4227 473 [some (vS 4), some (vR (0, 0, 0)), some (vR (20, 0, 0)), some (vI (nI (6 * i)))] [] M := by
  refine g_aloadR_n dXL_law_473 rfl rfl ?_
  refine g_aloadS_n dXL_law_474 rfl rfl ?_
  refine g_iload_n dXL_law_475 rfl rfl ?_
  refine g_iconst dXL_law_476 (v := 1) (by decide) ?_
  refine g_iadd dXL_law_477 ?_
  refine g_ialdX (j := 6 * i + 1) dXL_law_478 (ixL i 1) (by omega) (by omega) ?_
  refine g_aloadS_n dXL_law_479 rfl rfl ?_
  refine g_iload_n dXL_law_480 rfl rfl ?_
  refine g_iconst dXL_law_481 (v := 2) (by decide) ?_
  refine g_iadd dXL_law_482 ?_
  refine g_ialdX (j := 6 * i + 2) dXL_law_483 (ixL i 2) (by omega) (by omega) ?_
  refine n_v2i (n' := 2) dXL_law_484 mX6_says lXL_45 rfl hW vld_x0 rfl rfl ⟨Nat.le_of_ble_eq_true rfl, Nat.le_of_ble_eq_true rfl⟩ ⟨Nat.le_of_ble_eq_true rfl, Nat.le_of_ble_eq_true rfl⟩ (Nat.le_of_ble_eq_true rfl) ?_
  refine wp_X6_says (by exact hW) hC hO (fun M1 hf1 hC1 => ?_)
  have hW1 := hf1.W (by exact hW)
  have hR1 := hR.frC hf1
  refine ⟨_, rfl, ?_⟩
  refine g_aloadR_n dXL_law_487 rfl rfl ?_
  refine g_aloadS_n dXL_law_488 rfl rfl ?_
  refine g_iload_n dXL_law_489 rfl rfl ?_
  refine g_iconst dXL_law_490 (v := 1) (by decide) ?_
  refine g_iadd dXL_law_491 ?_
  refine g_ialdX (j := 6 * i + 1) dXL_law_492 (ixL i 1) (by omega) (by omega) ?_
  refine g_aloadS_n dXL_law_493 rfl rfl ?_
  refine g_iload_n dXL_law_494 rfl rfl ?_
  refine g_iconst dXL_law_495 (v := 2) (by decide) ?_
  refine g_iadd dXL_law_496 ?_
  refine g_ialdX (j := 6 * i + 2) dXL_law_497 (ixL i 2) (by omega) (by omega) ?_
  refine n_v2i (n' := 1) dXL_law_498 mX7_says lXL_48 rfl hW1 vld_x20 rfl rfl ⟨Nat.le_of_ble_eq_true rfl, Nat.le_of_ble_eq_true rfl⟩ ⟨Nat.le_of_ble_eq_true rfl, Nat.le_of_ble_eq_true rfl⟩ (Nat.le_of_ble_eq_true rfl) ?_
  refine wp_X7_says (by exact hW1) hR1 hO (fun M2 hf2 hR2 => ?_)
  have hW2 := hf2.W (by exact hW1)
  refine ⟨_, rfl, ?_⟩
  refine g_icmp_eq (tgt := 1394) dXL_law_501 (by decide) (fun c501 => ?_) (fun c501 => ?_)
  · exact hN _ _ (by exact hW2) (hC1.frM hf2) hR2 (ok_says hO _ _)
  · exact absurd rfl c501
set_option maxHeartbeats 4000000 in
set_option maxRecDepth 100000 in
theorem cs_7a {E : Ev} {nm : String} {M : Mem} {X : Sys} {i : Nat} (hL : eL E ≤ 3072) (hi : 6 * i + 6 ≤ eL E) (hz : eX E (6 * i + 4) = 0) (hW : Wi M) (hC : RepCl M X) (hR : RepMo M X) (hO : OkX X) (hN : ∀ M1 X1, Wi M1 → RepCl M1 X1 → RepMo M1 X1 → OkX X1 → G E room_1 (kL nm) (ZL E) 104 4227 1394 [some (vS 4), some (vR (0, 0, 0)), some (vR (20, 0, 0)), some (vI (nI (6 * i)))] [] M1) : G E room_1 (kL nm) (ZL E) 104 4227 506 [some (vS 4), some (vR (0, 0, 0)), some (vR (20, 0, 0)), some (vI (nI (6 * i)))] [] M := by
  refine g_aloadR_n dXL_law_506 rfl rfl ?_
  refine g_aloadS_n dXL_law_507 rfl rfl ?_
  refine g_iload_n dXL_law_508 rfl rfl ?_
  refine g_iconst dXL_law_509 (v := 1) (by decide) ?_
  refine g_iadd dXL_law_510 ?_
  refine g_ialdX (j := 6 * i + 1) dXL_law_511 (ixL i 1) (by omega) (by omega) ?_
  refine g_aloadS_n dXL_law_512 rfl rfl ?_
  refine g_iload_n dXL_law_513 rfl rfl ?_
  refine g_iconst dXL_law_514 (v := 2) (by decide) ?_
  refine g_iadd dXL_law_515 ?_
  refine g_ialdX (j := 6 * i + 2) dXL_law_516 (ixL i 2) (by omega) (by omega) ?_
  refine g_aloadS_n dXL_law_517 rfl rfl ?_
  refine g_iload_n dXL_law_518 rfl rfl ?_
  refine g_iconst dXL_law_519 (v := 3) (by decide) ?_
  refine g_iadd dXL_law_520 ?_
  refine g_ialdX (j := 6 * i + 3) dXL_law_521 (ixL i 3) (by omega) (by omega) ?_
  refine g_aloadS_n dXL_law_522 rfl rfl ?_
  refine g_iload_n dXL_law_523 rfl rfl ?_
  refine g_iconst dXL_law_524 (v := 4) (by decide) ?_
  refine g_iadd dXL_law_525 ?_
  refine g_ialdX (j := 6 * i + 4) dXL_law_526 (ixL i 4) (by omega) (by omega) ?_
  refine g_if_eq (tgt := 534) dXL_law_527 (by decide) (fun c527 => ?_) (fun c527 => ?_)
  · refine g_iconst dXL_law_534 (v := 0) (by decide) ?_
    refine n_v4i (n' := 2) dXL_law_535 mX6_person lXL_49 rfl hW vld_x0 rfl rfl ⟨Nat.le_of_ble_eq_true rfl, Nat.le_of_ble_eq_true rfl⟩ ⟨Nat.le_of_ble_eq_true rfl, Nat.le_of_ble_eq_true rfl⟩ (Nat.le_of_ble_eq_true rfl) ?_
    refine wp_X6_person (by exact hW) hC hO (by decide) (fun M1 hf1 hC1 => ?_)
    have hW1 := hf1.W (by exact hW)
    have hR1 := hR.frC hf1
    refine ⟨_, rfl, ?_⟩
    refine g_aloadR_n dXL_law_538 rfl rfl ?_
    refine g_aloadS_n dXL_law_539 rfl rfl ?_
    refine g_iload_n dXL_law_540 rfl rfl ?_
    refine g_iconst dXL_law_541 (v := 1) (by decide) ?_
    refine g_iadd dXL_law_542 ?_
    refine g_ialdX (j := 6 * i + 1) dXL_law_543 (ixL i 1) (by omega) (by omega) ?_
    refine g_aloadS_n dXL_law_544 rfl rfl ?_
    refine g_iload_n dXL_law_545 rfl rfl ?_
    refine g_iconst dXL_law_546 (v := 2) (by decide) ?_
    refine g_iadd dXL_law_547 ?_
    refine g_ialdX (j := 6 * i + 2) dXL_law_548 (ixL i 2) (by omega) (by omega) ?_
    refine g_aloadS_n dXL_law_549 rfl rfl ?_
    refine g_iload_n dXL_law_550 rfl rfl ?_
    refine g_iconst dXL_law_551 (v := 3) (by decide) ?_
    refine g_iadd dXL_law_552 ?_
    refine g_ialdX (j := 6 * i + 3) dXL_law_553 (ixL i 3) (by omega) (by omega) ?_
    refine g_aloadS_n dXL_law_554 rfl rfl ?_
    refine g_iload_n dXL_law_555 rfl rfl ?_
    refine g_iconst dXL_law_556 (v := 4) (by decide) ?_
    refine g_iadd dXL_law_557 ?_
    refine g_ialdX (j := 6 * i + 4) dXL_law_558 (ixL i 4) (by omega) (by omega) ?_
    refine g_if_eq (tgt := 566) dXL_law_559 (by decide) (fun c559 => ?_) (fun c559 => ?_)
    · refine g_iconst dXL_law_566 (v := 0) (by decide) ?_
      refine n_v4i (n' := 1) dXL_law_567 mX7_person lXL_53 rfl hW1 vld_x20 rfl rfl ⟨Nat.le_of_ble_eq_true rfl, Nat.le_of_ble_eq_true rfl⟩ ⟨Nat.le_of_ble_eq_true rfl, Nat.le_of_ble_eq_true rfl⟩ (Nat.le_of_ble_eq_true rfl) ?_
      refine wp_X7_person (by exact hW1) hR1 hO (by decide) (fun M2 hf2 hR2 => ?_)
      have hW2 := hf2.W (by exact hW1)
      refine ⟨_, rfl, ?_⟩
      refine g_icmp_eq (tgt := 1394) dXL_law_570 (by decide) (fun c570 => ?_) (fun c570 => ?_)
      · exact hN _ _ (by exact hW2) (hC1.frM hf2) hR2 (ok_person hO _ _ _ (by decide))
      · exact absurd rfl c570
    · exact absurd hz c559
  · exact absurd hz c527
set_option maxHeartbeats 4000000 in
set_option maxRecDepth 100000 in
theorem cs_7b {E : Ev} {nm : String} {M : Mem} {X : Sys} {i : Nat} (hL : eL E ≤ 3072) (hi : 6 * i + 6 ≤ eL E) (hz : ¬ eX E (6 * i + 4) = 0) (hW : Wi M) (hC : RepCl M X) (hR : RepMo M X) (hO : OkX X) (hN : ∀ M1 X1, Wi M1 → RepCl M1 X1 → RepMo M1 X1 → OkX X1 → G E room_1 (kL nm) (ZL E) 104 4227 1394 [some (vS 4), some (vR (0, 0, 0)), some (vR (20, 0, 0)), some (vI (nI (6 * i)))] [] M1) : G E room_1 (kL nm) (ZL E) 104 4227 506 [some (vS 4), some (vR (0, 0, 0)), some (vR (20, 0, 0)), some (vI (nI (6 * i)))] [] M := by
  refine g_aloadR_n dXL_law_506 rfl rfl ?_
  refine g_aloadS_n dXL_law_507 rfl rfl ?_
  refine g_iload_n dXL_law_508 rfl rfl ?_
  refine g_iconst dXL_law_509 (v := 1) (by decide) ?_
  refine g_iadd dXL_law_510 ?_
  refine g_ialdX (j := 6 * i + 1) dXL_law_511 (ixL i 1) (by omega) (by omega) ?_
  refine g_aloadS_n dXL_law_512 rfl rfl ?_
  refine g_iload_n dXL_law_513 rfl rfl ?_
  refine g_iconst dXL_law_514 (v := 2) (by decide) ?_
  refine g_iadd dXL_law_515 ?_
  refine g_ialdX (j := 6 * i + 2) dXL_law_516 (ixL i 2) (by omega) (by omega) ?_
  refine g_aloadS_n dXL_law_517 rfl rfl ?_
  refine g_iload_n dXL_law_518 rfl rfl ?_
  refine g_iconst dXL_law_519 (v := 3) (by decide) ?_
  refine g_iadd dXL_law_520 ?_
  refine g_ialdX (j := 6 * i + 3) dXL_law_521 (ixL i 3) (by omega) (by omega) ?_
  refine g_aloadS_n dXL_law_522 rfl rfl ?_
  refine g_iload_n dXL_law_523 rfl rfl ?_
  refine g_iconst dXL_law_524 (v := 4) (by decide) ?_
  refine g_iadd dXL_law_525 ?_
  refine g_ialdX (j := 6 * i + 4) dXL_law_526 (ixL i 4) (by omega) (by omega) ?_
  refine g_if_eq (tgt := 534) dXL_law_527 (by decide) (fun c527 => ?_) (fun c527 => ?_)
  · exact absurd c527 hz
  · refine g_iconst dXL_law_530 (v := 1) (by decide) ?_
    refine g_goto (tgt := 535) dXL_law_531 (by decide) ?_
    refine n_v4i (n' := 2) dXL_law_535 mX6_person lXL_49 rfl hW vld_x0 rfl rfl ⟨Nat.le_of_ble_eq_true rfl, Nat.le_of_ble_eq_true rfl⟩ ⟨Nat.le_of_ble_eq_true rfl, Nat.le_of_ble_eq_true rfl⟩ (Nat.le_of_ble_eq_true rfl) ?_
    refine wp_X6_person (by exact hW) hC hO (by decide) (fun M1 hf1 hC1 => ?_)
    have hW1 := hf1.W (by exact hW)
    have hR1 := hR.frC hf1
    refine ⟨_, rfl, ?_⟩
    refine g_aloadR_n dXL_law_538 rfl rfl ?_
    refine g_aloadS_n dXL_law_539 rfl rfl ?_
    refine g_iload_n dXL_law_540 rfl rfl ?_
    refine g_iconst dXL_law_541 (v := 1) (by decide) ?_
    refine g_iadd dXL_law_542 ?_
    refine g_ialdX (j := 6 * i + 1) dXL_law_543 (ixL i 1) (by omega) (by omega) ?_
    refine g_aloadS_n dXL_law_544 rfl rfl ?_
    refine g_iload_n dXL_law_545 rfl rfl ?_
    refine g_iconst dXL_law_546 (v := 2) (by decide) ?_
    refine g_iadd dXL_law_547 ?_
    refine g_ialdX (j := 6 * i + 2) dXL_law_548 (ixL i 2) (by omega) (by omega) ?_
    refine g_aloadS_n dXL_law_549 rfl rfl ?_
    refine g_iload_n dXL_law_550 rfl rfl ?_
    refine g_iconst dXL_law_551 (v := 3) (by decide) ?_
    refine g_iadd dXL_law_552 ?_
    refine g_ialdX (j := 6 * i + 3) dXL_law_553 (ixL i 3) (by omega) (by omega) ?_
    refine g_aloadS_n dXL_law_554 rfl rfl ?_
    refine g_iload_n dXL_law_555 rfl rfl ?_
    refine g_iconst dXL_law_556 (v := 4) (by decide) ?_
    refine g_iadd dXL_law_557 ?_
    refine g_ialdX (j := 6 * i + 4) dXL_law_558 (ixL i 4) (by omega) (by omega) ?_
    refine g_if_eq (tgt := 566) dXL_law_559 (by decide) (fun c559 => ?_) (fun c559 => ?_)
    · exact absurd c559 hz
    · refine g_iconst dXL_law_562 (v := 1) (by decide) ?_
      refine g_goto (tgt := 567) dXL_law_563 (by decide) ?_
      refine n_v4i (n' := 1) dXL_law_567 mX7_person lXL_53 rfl hW1 vld_x20 rfl rfl ⟨Nat.le_of_ble_eq_true rfl, Nat.le_of_ble_eq_true rfl⟩ ⟨Nat.le_of_ble_eq_true rfl, Nat.le_of_ble_eq_true rfl⟩ (Nat.le_of_ble_eq_true rfl) ?_
      refine wp_X7_person (by exact hW1) hR1 hO (by decide) (fun M2 hf2 hR2 => ?_)
      have hW2 := hf2.W (by exact hW1)
      refine ⟨_, rfl, ?_⟩
      refine g_icmp_eq (tgt := 1394) dXL_law_570 (by decide) (fun c570 => ?_) (fun c570 => ?_)
      · exact hN _ _ (by exact hW2) (hC1.frM hf2) hR2 (ok_person hO _ _ _ (by decide))
      · exact absurd rfl c570
set_option maxHeartbeats 4000000 in
set_option maxRecDepth 100000 in
theorem cs_8 {E : Ev} {nm : String} {M : Mem} {X : Sys} {i : Nat} (hL : eL E ≤ 3072) (hi : 6 * i + 6 ≤ eL E) (hW : Wi M) (hC : RepCl M X) (hR : RepMo M X) (hO : OkX X) (hN : ∀ M1 X1, Wi M1 → RepCl M1 X1 → RepMo M1 X1 → OkX X1 → G E room_1 (kL nm) (ZL E) 104 4227 1394 [some (vS 4), some (vR (0, 0, 0)), some (vR (20, 0, 0)), some (vI (nI (6 * i)))] [] M1) : G E room_1 (kL nm) (ZL E) 104 4227 575 [some (vS 4), some (vR (0, 0, 0)), some (vR (20, 0, 0)), some (vI (nI (6 * i)))] [] M := by
  refine g_aloadR_n dXL_law_575 rfl rfl ?_
  refine g_aloadS_n dXL_law_576 rfl rfl ?_
  refine g_iload_n dXL_law_577 rfl rfl ?_
  refine g_iconst dXL_law_578 (v := 1) (by decide) ?_
  refine g_iadd dXL_law_579 ?_
  refine g_ialdX (j := 6 * i + 1) dXL_law_580 (ixL i 1) (by omega) (by omega) ?_
  refine g_aloadS_n dXL_law_581 rfl rfl ?_
  refine g_iload_n dXL_law_582 rfl rfl ?_
  refine g_iconst dXL_law_583 (v := 2) (by decide) ?_
  refine g_iadd dXL_law_584 ?_
  refine g_ialdX (j := 6 * i + 2) dXL_law_585 (ixL i 2) (by omega) (by omega) ?_
  refine n_v2i (n' := 2) dXL_law_586 mX6_friend lXL_54 rfl hW vld_x0 rfl rfl ⟨Nat.le_of_ble_eq_true rfl, Nat.le_of_ble_eq_true rfl⟩ ⟨Nat.le_of_ble_eq_true rfl, Nat.le_of_ble_eq_true rfl⟩ (Nat.le_of_ble_eq_true rfl) ?_
  refine wp_X6_friend (by exact hW) hC hO (fun M1 hf1 hC1 => ?_)
  have hW1 := hf1.W (by exact hW)
  have hR1 := hR.frC hf1
  refine ⟨_, rfl, ?_⟩
  refine g_aloadR_n dXL_law_589 rfl rfl ?_
  refine g_aloadS_n dXL_law_590 rfl rfl ?_
  refine g_iload_n dXL_law_591 rfl rfl ?_
  refine g_iconst dXL_law_592 (v := 1) (by decide) ?_
  refine g_iadd dXL_law_593 ?_
  refine g_ialdX (j := 6 * i + 1) dXL_law_594 (ixL i 1) (by omega) (by omega) ?_
  refine g_aloadS_n dXL_law_595 rfl rfl ?_
  refine g_iload_n dXL_law_596 rfl rfl ?_
  refine g_iconst dXL_law_597 (v := 2) (by decide) ?_
  refine g_iadd dXL_law_598 ?_
  refine g_ialdX (j := 6 * i + 2) dXL_law_599 (ixL i 2) (by omega) (by omega) ?_
  refine n_v2i (n' := 1) dXL_law_600 mX7_friend lXL_57 rfl hW1 vld_x20 rfl rfl ⟨Nat.le_of_ble_eq_true rfl, Nat.le_of_ble_eq_true rfl⟩ ⟨Nat.le_of_ble_eq_true rfl, Nat.le_of_ble_eq_true rfl⟩ (Nat.le_of_ble_eq_true rfl) ?_
  refine wp_X7_friend (by exact hW1) hR1 hO (fun M2 hf2 hR2 => ?_)
  have hW2 := hf2.W (by exact hW1)
  refine ⟨_, rfl, ?_⟩
  refine g_icmp_eq (tgt := 1394) dXL_law_603 (by decide) (fun c603 => ?_) (fun c603 => ?_)
  · exact hN _ _ (by exact hW2) (hC1.frM hf2) hR2 (ok_friend hO _ _)
  · exact absurd rfl c603
set_option maxHeartbeats 4000000 in
set_option maxRecDepth 100000 in
theorem cs_9 {E : Ev} {nm : String} {M : Mem} {X : Sys} {i : Nat} (hL : eL E ≤ 3072) (hi : 6 * i + 6 ≤ eL E) (hW : Wi M) (hC : RepCl M X) (hR : RepMo M X) (hO : OkX X) (hN : ∀ M1 X1, Wi M1 → RepCl M1 X1 → RepMo M1 X1 → OkX X1 → G E room_1 (kL nm) (ZL E) 104 4227 1394 [some (vS 4), some (vR (0, 0, 0)), some (vR (20, 0, 0)), some (vI (nI (6 * i)))] [] M1) : G E room_1 (kL nm) (ZL E) 104 4227 608 [some (vS 4), some (vR (0, 0, 0)), some (vR (20, 0, 0)), some (vI (nI (6 * i)))] [] M := by
  refine g_aloadR_n dXL_law_608 rfl rfl ?_
  refine g_aloadS_n dXL_law_609 rfl rfl ?_
  refine g_iload_n dXL_law_610 rfl rfl ?_
  refine g_iconst dXL_law_611 (v := 1) (by decide) ?_
  refine g_iadd dXL_law_612 ?_
  refine g_ialdX (j := 6 * i + 1) dXL_law_613 (ixL i 1) (by omega) (by omega) ?_
  refine g_aloadS_n dXL_law_614 rfl rfl ?_
  refine g_iload_n dXL_law_615 rfl rfl ?_
  refine g_iconst dXL_law_616 (v := 2) (by decide) ?_
  refine g_iadd dXL_law_617 ?_
  refine g_ialdX (j := 6 * i + 2) dXL_law_618 (ixL i 2) (by omega) (by omega) ?_
  refine n_v2i (n' := 2) dXL_law_619 mX6_ask lXL_58 rfl hW vld_x0 rfl rfl ⟨Nat.le_of_ble_eq_true rfl, Nat.le_of_ble_eq_true rfl⟩ ⟨Nat.le_of_ble_eq_true rfl, Nat.le_of_ble_eq_true rfl⟩ (Nat.le_of_ble_eq_true rfl) ?_
  refine wp_X6_ask (by exact hW) hC hO (fun M1 hf1 hC1 => ?_)
  have hW1 := hf1.W (by exact hW)
  have hR1 := hR.frC hf1
  refine ⟨_, rfl, ?_⟩
  refine g_aloadR_n dXL_law_622 rfl rfl ?_
  refine g_aloadS_n dXL_law_623 rfl rfl ?_
  refine g_iload_n dXL_law_624 rfl rfl ?_
  refine g_iconst dXL_law_625 (v := 1) (by decide) ?_
  refine g_iadd dXL_law_626 ?_
  refine g_ialdX (j := 6 * i + 1) dXL_law_627 (ixL i 1) (by omega) (by omega) ?_
  refine g_aloadS_n dXL_law_628 rfl rfl ?_
  refine g_iload_n dXL_law_629 rfl rfl ?_
  refine g_iconst dXL_law_630 (v := 2) (by decide) ?_
  refine g_iadd dXL_law_631 ?_
  refine g_ialdX (j := 6 * i + 2) dXL_law_632 (ixL i 2) (by omega) (by omega) ?_
  refine n_v2i (n' := 2) dXL_law_633 mX7_ask lXL_61 rfl hW1 vld_x20 rfl rfl ⟨Nat.le_of_ble_eq_true rfl, Nat.le_of_ble_eq_true rfl⟩ ⟨Nat.le_of_ble_eq_true rfl, Nat.le_of_ble_eq_true rfl⟩ (Nat.le_of_ble_eq_true rfl) ?_
  refine wp_X7_ask (by exact hW1) hR1 hO (fun M2 hf2 hR2 => ?_)
  have hW2 := hf2.W (by exact hW1)
  refine ⟨_, rfl, ?_⟩
  refine g_icmp_eq (tgt := 1394) dXL_law_636 (by decide) (fun c636 => ?_) (fun c636 => ?_)
  · exact hN _ _ (by exact hW2) (hC1.frM hf2) hR2 (ok_ask hO _ _)
  · exact absurd rfl c636
set_option maxHeartbeats 4000000 in
set_option maxRecDepth 100000 in
theorem cs_10a {E : Ev} {nm : String} {M : Mem} {X : Sys} {i : Nat} (hL : eL E ≤ 3072) (hi : 6 * i + 6 ≤ eL E) (hz : eX E (6 * i + 2) = 0) (hW : Wi M) (hC : RepCl M X) (hR : RepMo M X) (hO : OkX X) (hN : ∀ M1 X1, Wi M1 → RepCl M1 X1 → RepMo M1 X1 → OkX X1 → G E room_1 (kL nm) (ZL E) 104 4227 1394 [some (vS 4), some (vR (0, 0, 0)), some (vR (20, 0, 0)), some (vI (nI (6 * i)))] [] M1) : G E room_1 (kL nm) (ZL E) 104 4227 641 [some (vS 4), some (vR (0, 0, 0)), some (vR (20, 0, 0)), some (vI (nI (6 * i)))] [] M := by
  refine g_aloadR_n dXL_law_641 rfl rfl ?_
  refine g_aloadS_n dXL_law_642 rfl rfl ?_
  refine g_iload_n dXL_law_643 rfl rfl ?_
  refine g_iconst dXL_law_644 (v := 1) (by decide) ?_
  refine g_iadd dXL_law_645 ?_
  refine g_ialdX (j := 6 * i + 1) dXL_law_646 (ixL i 1) (by omega) (by omega) ?_
  refine g_aloadS_n dXL_law_647 rfl rfl ?_
  refine g_iload_n dXL_law_648 rfl rfl ?_
  refine g_iconst dXL_law_649 (v := 2) (by decide) ?_
  refine g_iadd dXL_law_650 ?_
  refine g_ialdX (j := 6 * i + 2) dXL_law_651 (ixL i 2) (by omega) (by omega) ?_
  refine g_if_eq (tgt := 659) dXL_law_652 (by decide) (fun c652 => ?_) (fun c652 => ?_)
  · refine g_iconst dXL_law_659 (v := 0) (by decide) ?_
    refine n_v2i (n' := 2) dXL_law_660 mX6_go lXL_62 rfl hW vld_x0 rfl rfl ⟨Nat.le_of_ble_eq_true rfl, Nat.le_of_ble_eq_true rfl⟩ ⟨Nat.le_of_ble_eq_true rfl, Nat.le_of_ble_eq_true rfl⟩ (Nat.le_of_ble_eq_true rfl) ?_
    refine wp_X6_go (by exact hW) hC hO (by decide) (fun M1 hf1 hC1 => ?_)
    have hW1 := hf1.W (by exact hW)
    have hR1 := hR.frC hf1
    refine ⟨_, rfl, ?_⟩
    refine g_aloadR_n dXL_law_663 rfl rfl ?_
    refine g_aloadS_n dXL_law_664 rfl rfl ?_
    refine g_iload_n dXL_law_665 rfl rfl ?_
    refine g_iconst dXL_law_666 (v := 1) (by decide) ?_
    refine g_iadd dXL_law_667 ?_
    refine g_ialdX (j := 6 * i + 1) dXL_law_668 (ixL i 1) (by omega) (by omega) ?_
    refine g_aloadS_n dXL_law_669 rfl rfl ?_
    refine g_iload_n dXL_law_670 rfl rfl ?_
    refine g_iconst dXL_law_671 (v := 2) (by decide) ?_
    refine g_iadd dXL_law_672 ?_
    refine g_ialdX (j := 6 * i + 2) dXL_law_673 (ixL i 2) (by omega) (by omega) ?_
    refine g_if_eq (tgt := 681) dXL_law_674 (by decide) (fun c674 => ?_) (fun c674 => ?_)
    · refine g_iconst dXL_law_681 (v := 0) (by decide) ?_
      refine n_v2i (n' := 1) dXL_law_682 mX7_go lXL_66 rfl hW1 vld_x20 rfl rfl ⟨Nat.le_of_ble_eq_true rfl, Nat.le_of_ble_eq_true rfl⟩ ⟨Nat.le_of_ble_eq_true rfl, Nat.le_of_ble_eq_true rfl⟩ (Nat.le_of_ble_eq_true rfl) ?_
      refine wp_X7_go (by exact hW1) hR1 hO (by decide) (fun M2 hf2 hR2 => ?_)
      have hW2 := hf2.W (by exact hW1)
      refine ⟨_, rfl, ?_⟩
      refine g_icmp_eq (tgt := 1394) dXL_law_685 (by decide) (fun c685 => ?_) (fun c685 => ?_)
      · exact hN _ _ (by exact hW2) (hC1.frM hf2) hR2 (ok_go hO _ (by decide))
      · exact absurd rfl c685
    · exact absurd hz c674
  · exact absurd hz c652
set_option maxHeartbeats 4000000 in
set_option maxRecDepth 100000 in
theorem cs_10b {E : Ev} {nm : String} {M : Mem} {X : Sys} {i : Nat} (hL : eL E ≤ 3072) (hi : 6 * i + 6 ≤ eL E) (hz : ¬ eX E (6 * i + 2) = 0) (hW : Wi M) (hC : RepCl M X) (hR : RepMo M X) (hO : OkX X) (hN : ∀ M1 X1, Wi M1 → RepCl M1 X1 → RepMo M1 X1 → OkX X1 → G E room_1 (kL nm) (ZL E) 104 4227 1394 [some (vS 4), some (vR (0, 0, 0)), some (vR (20, 0, 0)), some (vI (nI (6 * i)))] [] M1) : G E room_1 (kL nm) (ZL E) 104 4227 641 [some (vS 4), some (vR (0, 0, 0)), some (vR (20, 0, 0)), some (vI (nI (6 * i)))] [] M := by
  refine g_aloadR_n dXL_law_641 rfl rfl ?_
  refine g_aloadS_n dXL_law_642 rfl rfl ?_
  refine g_iload_n dXL_law_643 rfl rfl ?_
  refine g_iconst dXL_law_644 (v := 1) (by decide) ?_
  refine g_iadd dXL_law_645 ?_
  refine g_ialdX (j := 6 * i + 1) dXL_law_646 (ixL i 1) (by omega) (by omega) ?_
  refine g_aloadS_n dXL_law_647 rfl rfl ?_
  refine g_iload_n dXL_law_648 rfl rfl ?_
  refine g_iconst dXL_law_649 (v := 2) (by decide) ?_
  refine g_iadd dXL_law_650 ?_
  refine g_ialdX (j := 6 * i + 2) dXL_law_651 (ixL i 2) (by omega) (by omega) ?_
  refine g_if_eq (tgt := 659) dXL_law_652 (by decide) (fun c652 => ?_) (fun c652 => ?_)
  · exact absurd c652 hz
  · refine g_iconst dXL_law_655 (v := 1) (by decide) ?_
    refine g_goto (tgt := 660) dXL_law_656 (by decide) ?_
    refine n_v2i (n' := 2) dXL_law_660 mX6_go lXL_62 rfl hW vld_x0 rfl rfl ⟨Nat.le_of_ble_eq_true rfl, Nat.le_of_ble_eq_true rfl⟩ ⟨Nat.le_of_ble_eq_true rfl, Nat.le_of_ble_eq_true rfl⟩ (Nat.le_of_ble_eq_true rfl) ?_
    refine wp_X6_go (by exact hW) hC hO (by decide) (fun M1 hf1 hC1 => ?_)
    have hW1 := hf1.W (by exact hW)
    have hR1 := hR.frC hf1
    refine ⟨_, rfl, ?_⟩
    refine g_aloadR_n dXL_law_663 rfl rfl ?_
    refine g_aloadS_n dXL_law_664 rfl rfl ?_
    refine g_iload_n dXL_law_665 rfl rfl ?_
    refine g_iconst dXL_law_666 (v := 1) (by decide) ?_
    refine g_iadd dXL_law_667 ?_
    refine g_ialdX (j := 6 * i + 1) dXL_law_668 (ixL i 1) (by omega) (by omega) ?_
    refine g_aloadS_n dXL_law_669 rfl rfl ?_
    refine g_iload_n dXL_law_670 rfl rfl ?_
    refine g_iconst dXL_law_671 (v := 2) (by decide) ?_
    refine g_iadd dXL_law_672 ?_
    refine g_ialdX (j := 6 * i + 2) dXL_law_673 (ixL i 2) (by omega) (by omega) ?_
    refine g_if_eq (tgt := 681) dXL_law_674 (by decide) (fun c674 => ?_) (fun c674 => ?_)
    · exact absurd c674 hz
    · refine g_iconst dXL_law_677 (v := 1) (by decide) ?_
      refine g_goto (tgt := 682) dXL_law_678 (by decide) ?_
      refine n_v2i (n' := 1) dXL_law_682 mX7_go lXL_66 rfl hW1 vld_x20 rfl rfl ⟨Nat.le_of_ble_eq_true rfl, Nat.le_of_ble_eq_true rfl⟩ ⟨Nat.le_of_ble_eq_true rfl, Nat.le_of_ble_eq_true rfl⟩ (Nat.le_of_ble_eq_true rfl) ?_
      refine wp_X7_go (by exact hW1) hR1 hO (by decide) (fun M2 hf2 hR2 => ?_)
      have hW2 := hf2.W (by exact hW1)
      refine ⟨_, rfl, ?_⟩
      refine g_icmp_eq (tgt := 1394) dXL_law_685 (by decide) (fun c685 => ?_) (fun c685 => ?_)
      · exact hN _ _ (by exact hW2) (hC1.frM hf2) hR2 (ok_go hO _ (by decide))
      · exact absurd rfl c685
set_option maxHeartbeats 4000000 in
set_option maxRecDepth 100000 in
theorem cs_11 {E : Ev} {nm : String} {M : Mem} {X : Sys} {i : Nat} (hL : eL E ≤ 3072) (hi : 6 * i + 6 ≤ eL E) (hW : Wi M) (hC : RepCl M X) (hR : RepMo M X) (hO : OkX X) (hN : ∀ M1 X1, Wi M1 → RepCl M1 X1 → RepMo M1 X1 → OkX X1 → G E room_1 (kL nm) (ZL E) 104 4227 1394 [some (vS 4), some (vR (0, 0, 0)), some (vR (20, 0, 0)), some (vI (nI (6 * i)))] [] M1) : G E room_1 (kL nm) (ZL E) 104 4227 690 [some (vS 4), some (vR (0, 0, 0)), some (vR (20, 0, 0)), some (vI (nI (6 * i)))] [] M := by
  refine g_aloadR_n dXL_law_690 rfl rfl ?_
  refine g_aloadS_n dXL_law_691 rfl rfl ?_
  refine g_iload_n dXL_law_692 rfl rfl ?_
  refine g_iconst dXL_law_693 (v := 1) (by decide) ?_
  refine g_iadd dXL_law_694 ?_
  refine g_ialdX (j := 6 * i + 1) dXL_law_695 (ixL i 1) (by omega) (by omega) ?_
  refine g_aloadS_n dXL_law_696 rfl rfl ?_
  refine g_iload_n dXL_law_697 rfl rfl ?_
  refine g_iconst dXL_law_698 (v := 2) (by decide) ?_
  refine g_iadd dXL_law_699 ?_
  refine g_ialdX (j := 6 * i + 2) dXL_law_700 (ixL i 2) (by omega) (by omega) ?_
  refine n_v2i (n' := 2) dXL_law_701 mX6_personOf lXL_67 rfl hW vld_x0 rfl rfl ⟨Nat.le_of_ble_eq_true rfl, Nat.le_of_ble_eq_true rfl⟩ ⟨Nat.le_of_ble_eq_true rfl, Nat.le_of_ble_eq_true rfl⟩ (Nat.le_of_ble_eq_true rfl) ?_
  refine wp_X6_personOf (by exact hW) hC hO (fun M1 hf1 hC1 => ?_)
  have hW1 := hf1.W (by exact hW)
  have hR1 := hR.frC hf1
  refine ⟨_, rfl, ?_⟩
  refine g_aloadR_n dXL_law_704 rfl rfl ?_
  refine g_aloadS_n dXL_law_705 rfl rfl ?_
  refine g_iload_n dXL_law_706 rfl rfl ?_
  refine g_iconst dXL_law_707 (v := 1) (by decide) ?_
  refine g_iadd dXL_law_708 ?_
  refine g_ialdX (j := 6 * i + 1) dXL_law_709 (ixL i 1) (by omega) (by omega) ?_
  refine g_aloadS_n dXL_law_710 rfl rfl ?_
  refine g_iload_n dXL_law_711 rfl rfl ?_
  refine g_iconst dXL_law_712 (v := 2) (by decide) ?_
  refine g_iadd dXL_law_713 ?_
  refine g_ialdX (j := 6 * i + 2) dXL_law_714 (ixL i 2) (by omega) (by omega) ?_
  refine n_v2i (n' := 1) dXL_law_715 mX7_personOf lXL_70 rfl hW1 vld_x20 rfl rfl ⟨Nat.le_of_ble_eq_true rfl, Nat.le_of_ble_eq_true rfl⟩ ⟨Nat.le_of_ble_eq_true rfl, Nat.le_of_ble_eq_true rfl⟩ (Nat.le_of_ble_eq_true rfl) ?_
  refine wp_X7_personOf (by exact hW1) hR1 hO (fun M2 hf2 hR2 => ?_)
  have hW2 := hf2.W (by exact hW1)
  refine ⟨_, rfl, ?_⟩
  refine g_icmp_eq (tgt := 1394) dXL_law_718 (by decide) (fun c718 => ?_) (fun c718 => ?_)
  · exact hN _ _ (by exact hW2) (hC1.frM hf2) hR2 (ok_personOf hO _ _)
  · exact absurd rfl c718
set_option maxHeartbeats 4000000 in
set_option maxRecDepth 100000 in
theorem cs_12 {E : Ev} {nm : String} {M : Mem} {X : Sys} {i : Nat} (hL : eL E ≤ 3072) (hi : 6 * i + 6 ≤ eL E) (hW : Wi M) (hC : RepCl M X) (hR : RepMo M X) (hO : OkX X) (hN : ∀ M1 X1, Wi M1 → RepCl M1 X1 → RepMo M1 X1 → OkX X1 → G E room_1 (kL nm) (ZL E) 104 4227 1394 [some (vS 4), some (vR (0, 0, 0)), some (vR (20, 0, 0)), some (vI (nI (6 * i)))] [] M1) : G E room_1 (kL nm) (ZL E) 104 4227 723 [some (vS 4), some (vR (0, 0, 0)), some (vR (20, 0, 0)), some (vI (nI (6 * i)))] [] M := by
  refine g_aloadR_n dXL_law_723 rfl rfl ?_
  refine g_aloadS_n dXL_law_724 rfl rfl ?_
  refine g_iload_n dXL_law_725 rfl rfl ?_
  refine g_iconst dXL_law_726 (v := 1) (by decide) ?_
  refine g_iadd dXL_law_727 ?_
  refine g_ialdX (j := 6 * i + 1) dXL_law_728 (ixL i 1) (by omega) (by omega) ?_
  refine n_v1i (n' := 7) dXL_law_729 mX6_school lXL_71 rfl hW vld_x0 rfl rfl ⟨Nat.le_of_ble_eq_true rfl, Nat.le_of_ble_eq_true rfl⟩ ⟨Nat.le_of_ble_eq_true rfl, Nat.le_of_ble_eq_true rfl⟩ (Nat.le_of_ble_eq_true rfl) ?_
  refine wp_X6_school (by exact hW) hC hO (fun M1 hf1 hC1 => ?_)
  have hW1 := hf1.W (by exact hW)
  have hR1 := hR.frC hf1
  refine ⟨_, rfl, ?_⟩
  refine g_aloadR_n dXL_law_732 rfl rfl ?_
  refine g_aloadS_n dXL_law_733 rfl rfl ?_
  refine g_iload_n dXL_law_734 rfl rfl ?_
  refine g_iconst dXL_law_735 (v := 1) (by decide) ?_
  refine g_iadd dXL_law_736 ?_
  refine g_ialdX (j := 6 * i + 1) dXL_law_737 (ixL i 1) (by omega) (by omega) ?_
  refine n_v1i (n' := 4) dXL_law_738 mX7_school lXL_74 rfl hW1 vld_x20 rfl rfl ⟨Nat.le_of_ble_eq_true rfl, Nat.le_of_ble_eq_true rfl⟩ ⟨Nat.le_of_ble_eq_true rfl, Nat.le_of_ble_eq_true rfl⟩ (Nat.le_of_ble_eq_true rfl) ?_
  refine wp_X7_school (by exact hW1) hR1 hO (fun M2 hf2 hR2 => ?_)
  have hW2 := hf2.W (by exact hW1)
  refine ⟨_, rfl, ?_⟩
  refine g_icmp_eq (tgt := 1394) dXL_law_741 (by decide) (fun c741 => ?_) (fun c741 => ?_)
  · exact hN _ _ (by exact hW2) (hC1.frM hf2) hR2 (ok_school hO _)
  · exact absurd rfl c741
set_option maxHeartbeats 4000000 in
set_option maxRecDepth 100000 in
theorem cs_13 {E : Ev} {nm : String} {M : Mem} {X : Sys} {i : Nat} (hL : eL E ≤ 3072) (hi : 6 * i + 6 ≤ eL E) (hW : Wi M) (hC : RepCl M X) (hR : RepMo M X) (hO : OkX X) (hN : ∀ M1 X1, Wi M1 → RepCl M1 X1 → RepMo M1 X1 → OkX X1 → G E room_1 (kL nm) (ZL E) 104 4227 1394 [some (vS 4), some (vR (0, 0, 0)), some (vR (20, 0, 0)), some (vI (nI (6 * i)))] [] M1) : G E room_1 (kL nm) (ZL E) 104 4227 746 [some (vS 4), some (vR (0, 0, 0)), some (vR (20, 0, 0)), some (vI (nI (6 * i)))] [] M := by
  refine g_aloadR_n dXL_law_746 rfl rfl ?_
  refine n_v0i (n' := 0) dXL_law_747 mX6_fault lXL_75 rfl hW vld_x0 rfl rfl ⟨Nat.le_of_ble_eq_true rfl, Nat.le_of_ble_eq_true rfl⟩ ⟨Nat.le_of_ble_eq_true rfl, Nat.le_of_ble_eq_true rfl⟩ (Nat.le_of_ble_eq_true rfl) ?_
  refine wp_X6_fault (by exact hW) hC hO ?_
  refine ⟨_, rfl, ?_⟩
  refine g_aloadR_n dXL_law_750 rfl rfl ?_
  refine n_v0i (n' := 0) dXL_law_751 mX7_fault lXL_79 rfl hW vld_x20 rfl rfl ⟨Nat.le_of_ble_eq_true rfl, Nat.le_of_ble_eq_true rfl⟩ ⟨Nat.le_of_ble_eq_true rfl, Nat.le_of_ble_eq_true rfl⟩ (Nat.le_of_ble_eq_true rfl) ?_
  refine wp_X7_fault (by exact hW) hR hO ?_
  refine ⟨_, rfl, ?_⟩
  refine g_icmp_eq (tgt := 1394) dXL_law_754 (by decide) (fun c754 => ?_) (fun c754 => ?_)
  · exact hN _ _ hW hC hR hO
  · exact absurd rfl c754
set_option maxHeartbeats 4000000 in
set_option maxRecDepth 100000 in
theorem cs_14 {E : Ev} {nm : String} {M : Mem} {X : Sys} {i : Nat} (hL : eL E ≤ 3072) (hi : 6 * i + 6 ≤ eL E) (hW : Wi M) (hC : RepCl M X) (hR : RepMo M X) (hO : OkX X) (hN : ∀ M1 X1, Wi M1 → RepCl M1 X1 → RepMo M1 X1 → OkX X1 → G E room_1 (kL nm) (ZL E) 104 4227 1394 [some (vS 4), some (vR (0, 0, 0)), some (vR (20, 0, 0)), some (vI (nI (6 * i)))] [] M1) : G E room_1 (kL nm) (ZL E) 104 4227 759 [some (vS 4), some (vR (0, 0, 0)), some (vR (20, 0, 0)), some (vI (nI (6 * i)))] [] M := by
  refine g_aloadR_n dXL_law_759 rfl rfl ?_
  refine g_aloadS_n dXL_law_760 rfl rfl ?_
  refine g_iload_n dXL_law_761 rfl rfl ?_
  refine g_iconst dXL_law_762 (v := 1) (by decide) ?_
  refine g_iadd dXL_law_763 ?_
  refine g_ialdX (j := 6 * i + 1) dXL_law_764 (ixL i 1) (by omega) (by omega) ?_
  refine n_v1i (n' := 3) dXL_law_765 mX6_will lXL_80 rfl hW vld_x0 rfl rfl ⟨Nat.le_of_ble_eq_true rfl, Nat.le_of_ble_eq_true rfl⟩ ⟨Nat.le_of_ble_eq_true rfl, Nat.le_of_ble_eq_true rfl⟩ (Nat.le_of_ble_eq_true rfl) ?_
  refine wp_X6_will (by exact hW) hC hO (fun M1 hf1 hC1 => ?_)
  have hW1 := hf1.W (by exact hW)
  have hR1 := hR.frC hf1
  refine ⟨_, rfl, ?_⟩
  refine g_aloadR_n dXL_law_768 rfl rfl ?_
  refine g_aloadS_n dXL_law_769 rfl rfl ?_
  refine g_iload_n dXL_law_770 rfl rfl ?_
  refine g_iconst dXL_law_771 (v := 1) (by decide) ?_
  refine g_iadd dXL_law_772 ?_
  refine g_ialdX (j := 6 * i + 1) dXL_law_773 (ixL i 1) (by omega) (by omega) ?_
  refine n_v1i (n' := 1) dXL_law_774 mX7_will lXL_83 rfl hW1 vld_x20 rfl rfl ⟨Nat.le_of_ble_eq_true rfl, Nat.le_of_ble_eq_true rfl⟩ ⟨Nat.le_of_ble_eq_true rfl, Nat.le_of_ble_eq_true rfl⟩ (Nat.le_of_ble_eq_true rfl) ?_
  refine wp_X7_will (by exact hW1) hR1 hO (fun M2 hf2 hR2 => ?_)
  have hW2 := hf2.W (by exact hW1)
  refine ⟨_, rfl, ?_⟩
  refine g_icmp_eq (tgt := 1394) dXL_law_777 (by decide) (fun c777 => ?_) (fun c777 => ?_)
  · exact hN _ _ (by exact hW2) (hC1.frM hf2) hR2 (ok_will hO _)
  · exact absurd rfl c777
set_option maxHeartbeats 4000000 in
set_option maxRecDepth 100000 in
theorem cs_15 {E : Ev} {nm : String} {M : Mem} {X : Sys} {i : Nat} (hL : eL E ≤ 3072) (hi : 6 * i + 6 ≤ eL E) (hW : Wi M) (hC : RepCl M X) (hR : RepMo M X) (hO : OkX X) (hN : ∀ M1 X1, Wi M1 → RepCl M1 X1 → RepMo M1 X1 → OkX X1 → G E room_1 (kL nm) (ZL E) 104 4227 1394 [some (vS 4), some (vR (0, 0, 0)), some (vR (20, 0, 0)), some (vI (nI (6 * i)))] [] M1) : G E room_1 (kL nm) (ZL E) 104 4227 782 [some (vS 4), some (vR (0, 0, 0)), some (vR (20, 0, 0)), some (vI (nI (6 * i)))] [] M := by
  refine g_aloadR_n dXL_law_782 rfl rfl ?_
  refine g_aloadS_n dXL_law_783 rfl rfl ?_
  refine g_iload_n dXL_law_784 rfl rfl ?_
  refine g_iconst dXL_law_785 (v := 1) (by decide) ?_
  refine g_iadd dXL_law_786 ?_
  refine g_ialdX (j := 6 * i + 1) dXL_law_787 (ixL i 1) (by omega) (by omega) ?_
  refine n_v1i (n' := 5) dXL_law_788 mX6_tonight lXL_84 rfl hW vld_x0 rfl rfl ⟨Nat.le_of_ble_eq_true rfl, Nat.le_of_ble_eq_true rfl⟩ ⟨Nat.le_of_ble_eq_true rfl, Nat.le_of_ble_eq_true rfl⟩ (Nat.le_of_ble_eq_true rfl) ?_
  refine wp_X6_tonight (by exact hW) hC hO (fun M1 hf1 hC1 => ?_)
  have hW1 := hf1.W (by exact hW)
  have hR1 := hR.frC hf1
  refine ⟨_, rfl, ?_⟩
  refine g_aloadR_n dXL_law_791 rfl rfl ?_
  refine g_aloadS_n dXL_law_792 rfl rfl ?_
  refine g_iload_n dXL_law_793 rfl rfl ?_
  refine g_iconst dXL_law_794 (v := 1) (by decide) ?_
  refine g_iadd dXL_law_795 ?_
  refine g_ialdX (j := 6 * i + 1) dXL_law_796 (ixL i 1) (by omega) (by omega) ?_
  refine n_v1i (n' := 3) dXL_law_797 mX7_tonight lXL_87 rfl hW1 vld_x20 rfl rfl ⟨Nat.le_of_ble_eq_true rfl, Nat.le_of_ble_eq_true rfl⟩ ⟨Nat.le_of_ble_eq_true rfl, Nat.le_of_ble_eq_true rfl⟩ (Nat.le_of_ble_eq_true rfl) ?_
  refine wp_X7_tonight (by exact hW1) hR1 hO (fun M2 hf2 hR2 => ?_)
  have hW2 := hf2.W (by exact hW1)
  refine ⟨_, rfl, ?_⟩
  refine g_icmp_eq (tgt := 1394) dXL_law_800 (by decide) (fun c800 => ?_) (fun c800 => ?_)
  · exact hN _ _ (by exact hW2) (hC1.frM hf2) hR2 (ok_tonight hO _)
  · exact absurd rfl c800
set_option maxHeartbeats 4000000 in
set_option maxRecDepth 100000 in
theorem cs_16 {E : Ev} {nm : String} {M : Mem} {X : Sys} {i : Nat} (hL : eL E ≤ 3072) (hi : 6 * i + 6 ≤ eL E) (hW : Wi M) (hC : RepCl M X) (hR : RepMo M X) (hO : OkX X) (hN : ∀ M1 X1, Wi M1 → RepCl M1 X1 → RepMo M1 X1 → OkX X1 → G E room_1 (kL nm) (ZL E) 104 4227 1394 [some (vS 4), some (vR (0, 0, 0)), some (vR (20, 0, 0)), some (vI (nI (6 * i)))] [] M1) : G E room_1 (kL nm) (ZL E) 104 4227 805 [some (vS 4), some (vR (0, 0, 0)), some (vR (20, 0, 0)), some (vI (nI (6 * i)))] [] M := by
  refine g_aloadR_n dXL_law_805 rfl rfl ?_
  refine g_aloadS_n dXL_law_806 rfl rfl ?_
  refine g_iload_n dXL_law_807 rfl rfl ?_
  refine g_iconst dXL_law_808 (v := 1) (by decide) ?_
  refine g_iadd dXL_law_809 ?_
  refine g_ialdX (j := 6 * i + 1) dXL_law_810 (ixL i 1) (by omega) (by omega) ?_
  refine g_aloadS_n dXL_law_811 rfl rfl ?_
  refine g_iload_n dXL_law_812 rfl rfl ?_
  refine g_iconst dXL_law_813 (v := 2) (by decide) ?_
  refine g_iadd dXL_law_814 ?_
  refine g_ialdX (j := 6 * i + 2) dXL_law_815 (ixL i 2) (by omega) (by omega) ?_
  refine n_v2i (n' := 7) dXL_law_816 mX6_ahead lXL_88 rfl hW vld_x0 rfl rfl ⟨Nat.le_of_ble_eq_true rfl, Nat.le_of_ble_eq_true rfl⟩ ⟨Nat.le_of_ble_eq_true rfl, Nat.le_of_ble_eq_true rfl⟩ (Nat.le_of_ble_eq_true rfl) ?_
  refine wp_X6_ahead (by exact hW) hC hO (fun M1 hf1 hC1 => ?_)
  have hW1 := hf1.W (by exact hW)
  have hR1 := hR.frC hf1
  refine ⟨_, rfl, ?_⟩
  refine g_aloadR_n dXL_law_819 rfl rfl ?_
  refine g_aloadS_n dXL_law_820 rfl rfl ?_
  refine g_iload_n dXL_law_821 rfl rfl ?_
  refine g_iconst dXL_law_822 (v := 1) (by decide) ?_
  refine g_iadd dXL_law_823 ?_
  refine g_ialdX (j := 6 * i + 1) dXL_law_824 (ixL i 1) (by omega) (by omega) ?_
  refine g_aloadS_n dXL_law_825 rfl rfl ?_
  refine g_iload_n dXL_law_826 rfl rfl ?_
  refine g_iconst dXL_law_827 (v := 2) (by decide) ?_
  refine g_iadd dXL_law_828 ?_
  refine g_ialdX (j := 6 * i + 2) dXL_law_829 (ixL i 2) (by omega) (by omega) ?_
  refine n_v2i (n' := 5) dXL_law_830 mX7_ahead lXL_91 rfl hW1 vld_x20 rfl rfl ⟨Nat.le_of_ble_eq_true rfl, Nat.le_of_ble_eq_true rfl⟩ ⟨Nat.le_of_ble_eq_true rfl, Nat.le_of_ble_eq_true rfl⟩ (Nat.le_of_ble_eq_true rfl) ?_
  refine wp_X7_ahead (by exact hW1) hR1 hO (fun M2 hf2 hR2 => ?_)
  have hW2 := hf2.W (by exact hW1)
  refine ⟨_, rfl, ?_⟩
  refine g_icmp_eq (tgt := 1394) dXL_law_833 (by decide) (fun c833 => ?_) (fun c833 => ?_)
  · exact hN _ _ (by exact hW2) (hC1.frM hf2) hR2 (ok_ahead hO _ _)
  · exact absurd rfl c833
set_option maxHeartbeats 4000000 in
set_option maxRecDepth 100000 in
theorem cs_17 {E : Ev} {nm : String} {M : Mem} {X : Sys} {i : Nat} (hL : eL E ≤ 3072) (hi : 6 * i + 6 ≤ eL E) (hW : Wi M) (hC : RepCl M X) (hR : RepMo M X) (hO : OkX X) (hN : ∀ M1 X1, Wi M1 → RepCl M1 X1 → RepMo M1 X1 → OkX X1 → G E room_1 (kL nm) (ZL E) 104 4227 1394 [some (vS 4), some (vR (0, 0, 0)), some (vR (20, 0, 0)), some (vI (nI (6 * i)))] [] M1) : G E room_1 (kL nm) (ZL E) 104 4227 838 [some (vS 4), some (vR (0, 0, 0)), some (vR (20, 0, 0)), some (vI (nI (6 * i)))] [] M := by
  refine g_aloadR_n dXL_law_838 rfl rfl ?_
  refine g_aloadS_n dXL_law_839 rfl rfl ?_
  refine g_iload_n dXL_law_840 rfl rfl ?_
  refine g_iconst dXL_law_841 (v := 1) (by decide) ?_
  refine g_iadd dXL_law_842 ?_
  refine g_ialdX (j := 6 * i + 1) dXL_law_843 (ixL i 1) (by omega) (by omega) ?_
  refine g_aloadS_n dXL_law_844 rfl rfl ?_
  refine g_iload_n dXL_law_845 rfl rfl ?_
  refine g_iconst dXL_law_846 (v := 2) (by decide) ?_
  refine g_iadd dXL_law_847 ?_
  refine g_ialdX (j := 6 * i + 2) dXL_law_848 (ixL i 2) (by omega) (by omega) ?_
  refine n_v2i (n' := 7) dXL_law_849 mX6_worst lXL_92 rfl hW vld_x0 rfl rfl ⟨Nat.le_of_ble_eq_true rfl, Nat.le_of_ble_eq_true rfl⟩ ⟨Nat.le_of_ble_eq_true rfl, Nat.le_of_ble_eq_true rfl⟩ (Nat.le_of_ble_eq_true rfl) ?_
  refine wp_X6_worst (by exact hW) hC hO (fun M1 hf1 hC1 => ?_)
  have hW1 := hf1.W (by exact hW)
  have hR1 := hR.frC hf1
  refine ⟨_, rfl, ?_⟩
  refine g_aloadR_n dXL_law_852 rfl rfl ?_
  refine g_aloadS_n dXL_law_853 rfl rfl ?_
  refine g_iload_n dXL_law_854 rfl rfl ?_
  refine g_iconst dXL_law_855 (v := 1) (by decide) ?_
  refine g_iadd dXL_law_856 ?_
  refine g_ialdX (j := 6 * i + 1) dXL_law_857 (ixL i 1) (by omega) (by omega) ?_
  refine g_aloadS_n dXL_law_858 rfl rfl ?_
  refine g_iload_n dXL_law_859 rfl rfl ?_
  refine g_iconst dXL_law_860 (v := 2) (by decide) ?_
  refine g_iadd dXL_law_861 ?_
  refine g_ialdX (j := 6 * i + 2) dXL_law_862 (ixL i 2) (by omega) (by omega) ?_
  refine n_v2i (n' := 5) dXL_law_863 mX7_worst lXL_95 rfl hW1 vld_x20 rfl rfl ⟨Nat.le_of_ble_eq_true rfl, Nat.le_of_ble_eq_true rfl⟩ ⟨Nat.le_of_ble_eq_true rfl, Nat.le_of_ble_eq_true rfl⟩ (Nat.le_of_ble_eq_true rfl) ?_
  refine wp_X7_worst (by exact hW1) hR1 hO (fun M2 hf2 hR2 => ?_)
  have hW2 := hf2.W (by exact hW1)
  refine ⟨_, rfl, ?_⟩
  refine g_icmp_eq (tgt := 1394) dXL_law_866 (by decide) (fun c866 => ?_) (fun c866 => ?_)
  · exact hN _ _ (by exact hW2) (hC1.frM hf2) hR2 (ok_worst hO _ _)
  · exact absurd rfl c866
set_option maxHeartbeats 4000000 in
set_option maxRecDepth 100000 in
theorem cs_18 {E : Ev} {nm : String} {M : Mem} {X : Sys} {i : Nat} (hL : eL E ≤ 3072) (hi : 6 * i + 6 ≤ eL E) (hW : Wi M) (hC : RepCl M X) (hR : RepMo M X) (hO : OkX X) (hN : ∀ M1 X1, Wi M1 → RepCl M1 X1 → RepMo M1 X1 → OkX X1 → G E room_1 (kL nm) (ZL E) 104 4227 1394 [some (vS 4), some (vR (0, 0, 0)), some (vR (20, 0, 0)), some (vI (nI (6 * i)))] [] M1) : G E room_1 (kL nm) (ZL E) 104 4227 871 [some (vS 4), some (vR (0, 0, 0)), some (vR (20, 0, 0)), some (vI (nI (6 * i)))] [] M := by
  refine g_aloadR_n dXL_law_871 rfl rfl ?_
  refine g_aloadS_n dXL_law_872 rfl rfl ?_
  refine g_iload_n dXL_law_873 rfl rfl ?_
  refine g_iconst dXL_law_874 (v := 1) (by decide) ?_
  refine g_iadd dXL_law_875 ?_
  refine g_ialdX (j := 6 * i + 1) dXL_law_876 (ixL i 1) (by omega) (by omega) ?_
  refine g_aloadS_n dXL_law_877 rfl rfl ?_
  refine g_iload_n dXL_law_878 rfl rfl ?_
  refine g_iconst dXL_law_879 (v := 2) (by decide) ?_
  refine g_iadd dXL_law_880 ?_
  refine g_ialdX (j := 6 * i + 2) dXL_law_881 (ixL i 2) (by omega) (by omega) ?_
  refine g_aloadS_n dXL_law_882 rfl rfl ?_
  refine g_iload_n dXL_law_883 rfl rfl ?_
  refine g_iconst dXL_law_884 (v := 3) (by decide) ?_
  refine g_iadd dXL_law_885 ?_
  refine g_ialdX (j := 6 * i + 3) dXL_law_886 (ixL i 3) (by omega) (by omega) ?_
  refine n_v3i (n' := 7) dXL_law_887 mX6_ones lXL_96 rfl hW vld_x0 rfl rfl ⟨Nat.le_of_ble_eq_true rfl, Nat.le_of_ble_eq_true rfl⟩ ⟨Nat.le_of_ble_eq_true rfl, Nat.le_of_ble_eq_true rfl⟩ (Nat.le_of_ble_eq_true rfl) ?_
  refine wp_X6_ones (by exact hW) hC hO (fun M1 hf1 hC1 => ?_)
  have hW1 := hf1.W (by exact hW)
  have hR1 := hR.frC hf1
  refine ⟨_, rfl, ?_⟩
  refine g_aloadR_n dXL_law_890 rfl rfl ?_
  refine g_aloadS_n dXL_law_891 rfl rfl ?_
  refine g_iload_n dXL_law_892 rfl rfl ?_
  refine g_iconst dXL_law_893 (v := 1) (by decide) ?_
  refine g_iadd dXL_law_894 ?_
  refine g_ialdX (j := 6 * i + 1) dXL_law_895 (ixL i 1) (by omega) (by omega) ?_
  refine g_aloadS_n dXL_law_896 rfl rfl ?_
  refine g_iload_n dXL_law_897 rfl rfl ?_
  refine g_iconst dXL_law_898 (v := 2) (by decide) ?_
  refine g_iadd dXL_law_899 ?_
  refine g_ialdX (j := 6 * i + 2) dXL_law_900 (ixL i 2) (by omega) (by omega) ?_
  refine g_aloadS_n dXL_law_901 rfl rfl ?_
  refine g_iload_n dXL_law_902 rfl rfl ?_
  refine g_iconst dXL_law_903 (v := 3) (by decide) ?_
  refine g_iadd dXL_law_904 ?_
  refine g_ialdX (j := 6 * i + 3) dXL_law_905 (ixL i 3) (by omega) (by omega) ?_
  refine n_v3i (n' := 4) dXL_law_906 mX7_ones lXL_99 rfl hW1 vld_x20 rfl rfl ⟨Nat.le_of_ble_eq_true rfl, Nat.le_of_ble_eq_true rfl⟩ ⟨Nat.le_of_ble_eq_true rfl, Nat.le_of_ble_eq_true rfl⟩ (Nat.le_of_ble_eq_true rfl) ?_
  refine wp_X7_ones (by exact hW1) hR1 hO (fun M2 hf2 hR2 => ?_)
  have hW2 := hf2.W (by exact hW1)
  refine ⟨_, rfl, ?_⟩
  refine g_icmp_eq (tgt := 1394) dXL_law_909 (by decide) (fun c909 => ?_) (fun c909 => ?_)
  · exact hN _ _ (by exact hW2) (hC1.frM hf2) hR2 (ok_ones hO _ _ _)
  · exact absurd rfl c909
set_option maxHeartbeats 4000000 in
set_option maxRecDepth 100000 in
theorem cs_19 {E : Ev} {nm : String} {M : Mem} {X : Sys} {i : Nat} (hL : eL E ≤ 3072) (hi : 6 * i + 6 ≤ eL E) (hW : Wi M) (hC : RepCl M X) (hR : RepMo M X) (hO : OkX X) (hN : ∀ M1 X1, Wi M1 → RepCl M1 X1 → RepMo M1 X1 → OkX X1 → G E room_1 (kL nm) (ZL E) 104 4227 1394 [some (vS 4), some (vR (0, 0, 0)), some (vR (20, 0, 0)), some (vI (nI (6 * i)))] [] M1) : G E room_1 (kL nm) (ZL E) 104 4227 914 [some (vS 4), some (vR (0, 0, 0)), some (vR (20, 0, 0)), some (vI (nI (6 * i)))] [] M := by
  refine g_aloadR_n dXL_law_914 rfl rfl ?_
  refine g_aloadS_n dXL_law_915 rfl rfl ?_
  refine g_iload_n dXL_law_916 rfl rfl ?_
  refine g_iconst dXL_law_917 (v := 1) (by decide) ?_
  refine g_iadd dXL_law_918 ?_
  refine g_ialdX (j := 6 * i + 1) dXL_law_919 (ixL i 1) (by omega) (by omega) ?_
  refine g_aloadS_n dXL_law_920 rfl rfl ?_
  refine g_iload_n dXL_law_921 rfl rfl ?_
  refine g_iconst dXL_law_922 (v := 2) (by decide) ?_
  refine g_iadd dXL_law_923 ?_
  refine g_ialdX (j := 6 * i + 2) dXL_law_924 (ixL i 2) (by omega) (by omega) ?_
  refine n_v2i (n' := 5) dXL_law_925 mX6_ring lXL_100 rfl hW vld_x0 rfl rfl ⟨Nat.le_of_ble_eq_true rfl, Nat.le_of_ble_eq_true rfl⟩ ⟨Nat.le_of_ble_eq_true rfl, Nat.le_of_ble_eq_true rfl⟩ (Nat.le_of_ble_eq_true rfl) ?_
  refine wp_X6_ring (by exact hW) hC hO (fun M1 hf1 hC1 => ?_)
  have hW1 := hf1.W (by exact hW)
  have hR1 := hR.frC hf1
  refine ⟨_, rfl, ?_⟩
  refine g_aloadR_n dXL_law_928 rfl rfl ?_
  refine g_aloadS_n dXL_law_929 rfl rfl ?_
  refine g_iload_n dXL_law_930 rfl rfl ?_
  refine g_iconst dXL_law_931 (v := 1) (by decide) ?_
  refine g_iadd dXL_law_932 ?_
  refine g_ialdX (j := 6 * i + 1) dXL_law_933 (ixL i 1) (by omega) (by omega) ?_
  refine g_aloadS_n dXL_law_934 rfl rfl ?_
  refine g_iload_n dXL_law_935 rfl rfl ?_
  refine g_iconst dXL_law_936 (v := 2) (by decide) ?_
  refine g_iadd dXL_law_937 ?_
  refine g_ialdX (j := 6 * i + 2) dXL_law_938 (ixL i 2) (by omega) (by omega) ?_
  refine n_v2i (n' := 3) dXL_law_939 mX7_ring lXL_103 rfl hW1 vld_x20 rfl rfl ⟨Nat.le_of_ble_eq_true rfl, Nat.le_of_ble_eq_true rfl⟩ ⟨Nat.le_of_ble_eq_true rfl, Nat.le_of_ble_eq_true rfl⟩ (Nat.le_of_ble_eq_true rfl) ?_
  refine wp_X7_ring (by exact hW1) hR1 hO (fun M2 hf2 hR2 => ?_)
  have hW2 := hf2.W (by exact hW1)
  refine ⟨_, rfl, ?_⟩
  refine g_icmp_eq (tgt := 1394) dXL_law_942 (by decide) (fun c942 => ?_) (fun c942 => ?_)
  · exact hN _ _ (by exact hW2) (hC1.frM hf2) hR2 (ok_ring hO _ _)
  · exact absurd rfl c942
set_option maxHeartbeats 4000000 in
set_option maxRecDepth 100000 in
theorem cs_20 {E : Ev} {nm : String} {M : Mem} {X : Sys} {i : Nat} (hL : eL E ≤ 3072) (hi : 6 * i + 6 ≤ eL E) (hW : Wi M) (hC : RepCl M X) (hR : RepMo M X) (hO : OkX X) (hN : ∀ M1 X1, Wi M1 → RepCl M1 X1 → RepMo M1 X1 → OkX X1 → G E room_1 (kL nm) (ZL E) 104 4227 1394 [some (vS 4), some (vR (0, 0, 0)), some (vR (20, 0, 0)), some (vI (nI (6 * i)))] [] M1) : G E room_1 (kL nm) (ZL E) 104 4227 947 [some (vS 4), some (vR (0, 0, 0)), some (vR (20, 0, 0)), some (vI (nI (6 * i)))] [] M := by
  refine g_aloadR_n dXL_law_947 rfl rfl ?_
  refine g_aloadS_n dXL_law_948 rfl rfl ?_
  refine g_iload_n dXL_law_949 rfl rfl ?_
  refine g_iconst dXL_law_950 (v := 1) (by decide) ?_
  refine g_iadd dXL_law_951 ?_
  refine g_ialdX (j := 6 * i + 1) dXL_law_952 (ixL i 1) (by omega) (by omega) ?_
  refine n_v1i (n' := 7) dXL_law_953 mX6_begin lXL_104 rfl hW vld_x0 rfl rfl ⟨Nat.le_of_ble_eq_true rfl, Nat.le_of_ble_eq_true rfl⟩ ⟨Nat.le_of_ble_eq_true rfl, Nat.le_of_ble_eq_true rfl⟩ (Nat.le_of_ble_eq_true rfl) ?_
  refine wp_X6_begin (by exact hW) hC hO (fun M1 hf1 hC1 => ?_)
  have hW1 := hf1.W (by exact hW)
  have hR1 := hR.frC hf1
  refine ⟨_, rfl, ?_⟩
  refine g_aloadR_n dXL_law_956 rfl rfl ?_
  refine g_aloadS_n dXL_law_957 rfl rfl ?_
  refine g_iload_n dXL_law_958 rfl rfl ?_
  refine g_iconst dXL_law_959 (v := 1) (by decide) ?_
  refine g_iadd dXL_law_960 ?_
  refine g_ialdX (j := 6 * i + 1) dXL_law_961 (ixL i 1) (by omega) (by omega) ?_
  refine n_v1i (n' := 5) dXL_law_962 mX7_begin lXL_107 rfl hW1 vld_x20 rfl rfl ⟨Nat.le_of_ble_eq_true rfl, Nat.le_of_ble_eq_true rfl⟩ ⟨Nat.le_of_ble_eq_true rfl, Nat.le_of_ble_eq_true rfl⟩ (Nat.le_of_ble_eq_true rfl) ?_
  refine wp_X7_begin (by exact hW1) hR1 hO (fun M2 hf2 hR2 => ?_)
  have hW2 := hf2.W (by exact hW1)
  refine ⟨_, rfl, ?_⟩
  refine g_icmp_eq (tgt := 1394) dXL_law_965 (by decide) (fun c965 => ?_) (fun c965 => ?_)
  · exact hN _ _ (by exact hW2) (hC1.frM hf2) hR2 (ok_begin hO _)
  · exact absurd rfl c965
set_option maxHeartbeats 4000000 in
set_option maxRecDepth 100000 in
theorem cs_21 {E : Ev} {nm : String} {M : Mem} {X : Sys} {i : Nat} (hL : eL E ≤ 3072) (hi : 6 * i + 6 ≤ eL E) (hW : Wi M) (hC : RepCl M X) (hR : RepMo M X) (hO : OkX X) (hN : ∀ M1 X1, Wi M1 → RepCl M1 X1 → RepMo M1 X1 → OkX X1 → G E room_1 (kL nm) (ZL E) 104 4227 1394 [some (vS 4), some (vR (0, 0, 0)), some (vR (20, 0, 0)), some (vI (nI (6 * i)))] [] M1) : G E room_1 (kL nm) (ZL E) 104 4227 970 [some (vS 4), some (vR (0, 0, 0)), some (vR (20, 0, 0)), some (vI (nI (6 * i)))] [] M := by
  refine g_aloadR_n dXL_law_970 rfl rfl ?_
  refine g_aloadS_n dXL_law_971 rfl rfl ?_
  refine g_iload_n dXL_law_972 rfl rfl ?_
  refine g_iconst dXL_law_973 (v := 1) (by decide) ?_
  refine g_iadd dXL_law_974 ?_
  refine g_ialdX (j := 6 * i + 1) dXL_law_975 (ixL i 1) (by omega) (by omega) ?_
  refine n_v1i (n' := 7) dXL_law_976 mX6_room lXL_108 rfl hW vld_x0 rfl rfl ⟨Nat.le_of_ble_eq_true rfl, Nat.le_of_ble_eq_true rfl⟩ ⟨Nat.le_of_ble_eq_true rfl, Nat.le_of_ble_eq_true rfl⟩ (Nat.le_of_ble_eq_true rfl) ?_
  refine wp_X6_room (by exact hW) hC hO (fun M1 hf1 hC1 => ?_)
  have hW1 := hf1.W (by exact hW)
  have hR1 := hR.frC hf1
  refine ⟨_, rfl, ?_⟩
  refine g_aloadR_n dXL_law_979 rfl rfl ?_
  refine g_aloadS_n dXL_law_980 rfl rfl ?_
  refine g_iload_n dXL_law_981 rfl rfl ?_
  refine g_iconst dXL_law_982 (v := 1) (by decide) ?_
  refine g_iadd dXL_law_983 ?_
  refine g_ialdX (j := 6 * i + 1) dXL_law_984 (ixL i 1) (by omega) (by omega) ?_
  refine n_v1i (n' := 5) dXL_law_985 mX7_room lXL_111 rfl hW1 vld_x20 rfl rfl ⟨Nat.le_of_ble_eq_true rfl, Nat.le_of_ble_eq_true rfl⟩ ⟨Nat.le_of_ble_eq_true rfl, Nat.le_of_ble_eq_true rfl⟩ (Nat.le_of_ble_eq_true rfl) ?_
  refine wp_X7_room (by exact hW1) hR1 hO (fun M2 hf2 hR2 => ?_)
  have hW2 := hf2.W (by exact hW1)
  refine ⟨_, rfl, ?_⟩
  refine g_icmp_eq (tgt := 1394) dXL_law_988 (by decide) (fun c988 => ?_) (fun c988 => ?_)
  · exact hN _ _ (by exact hW2) (hC1.frM hf2) hR2 (ok_room hO _)
  · exact absurd rfl c988
set_option maxHeartbeats 4000000 in
set_option maxRecDepth 100000 in
theorem cs_22 {E : Ev} {nm : String} {M : Mem} {X : Sys} {i : Nat} (hL : eL E ≤ 3072) (hi : 6 * i + 6 ≤ eL E) (hW : Wi M) (hC : RepCl M X) (hR : RepMo M X) (hO : OkX X) (hN : ∀ M1 X1, Wi M1 → RepCl M1 X1 → RepMo M1 X1 → OkX X1 → G E room_1 (kL nm) (ZL E) 104 4227 1394 [some (vS 4), some (vR (0, 0, 0)), some (vR (20, 0, 0)), some (vI (nI (6 * i)))] [] M1) : G E room_1 (kL nm) (ZL E) 104 4227 993 [some (vS 4), some (vR (0, 0, 0)), some (vR (20, 0, 0)), some (vI (nI (6 * i)))] [] M := by
  refine g_aloadR_n dXL_law_993 rfl rfl ?_
  refine g_aloadS_n dXL_law_994 rfl rfl ?_
  refine g_iload_n dXL_law_995 rfl rfl ?_
  refine g_iconst dXL_law_996 (v := 1) (by decide) ?_
  refine g_iadd dXL_law_997 ?_
  refine g_ialdX (j := 6 * i + 1) dXL_law_998 (ixL i 1) (by omega) (by omega) ?_
  refine n_v1i (n' := 7) dXL_law_999 mX6_take lXL_112 rfl hW vld_x0 rfl rfl ⟨Nat.le_of_ble_eq_true rfl, Nat.le_of_ble_eq_true rfl⟩ ⟨Nat.le_of_ble_eq_true rfl, Nat.le_of_ble_eq_true rfl⟩ (Nat.le_of_ble_eq_true rfl) ?_
  refine wp_X6_take (by exact hW) hC hO (fun M1 hf1 hC1 => ?_)
  have hW1 := hf1.W (by exact hW)
  have hR1 := hR.frC hf1
  refine ⟨_, rfl, ?_⟩
  refine g_aloadR_n dXL_law_1002 rfl rfl ?_
  refine g_aloadS_n dXL_law_1003 rfl rfl ?_
  refine g_iload_n dXL_law_1004 rfl rfl ?_
  refine g_iconst dXL_law_1005 (v := 1) (by decide) ?_
  refine g_iadd dXL_law_1006 ?_
  refine g_ialdX (j := 6 * i + 1) dXL_law_1007 (ixL i 1) (by omega) (by omega) ?_
  refine n_v1i (n' := 5) dXL_law_1008 mX7_take lXL_115 rfl hW1 vld_x20 rfl rfl ⟨Nat.le_of_ble_eq_true rfl, Nat.le_of_ble_eq_true rfl⟩ ⟨Nat.le_of_ble_eq_true rfl, Nat.le_of_ble_eq_true rfl⟩ (Nat.le_of_ble_eq_true rfl) ?_
  refine wp_X7_take (by exact hW1) hR1 hO (fun M2 hf2 hR2 => ?_)
  have hW2 := hf2.W (by exact hW1)
  refine ⟨_, rfl, ?_⟩
  refine g_icmp_eq (tgt := 1394) dXL_law_1011 (by decide) (fun c1011 => ?_) (fun c1011 => ?_)
  · exact hN _ _ (by exact hW2) (hC1.frM hf2) hR2 (ok_take hO _)
  · exact absurd rfl c1011
set_option maxHeartbeats 4000000 in
set_option maxRecDepth 100000 in
theorem cs_23 {E : Ev} {nm : String} {M : Mem} {X : Sys} {i : Nat} (hL : eL E ≤ 3072) (hi : 6 * i + 6 ≤ eL E) (hW : Wi M) (hC : RepCl M X) (hR : RepMo M X) (hO : OkX X) (hN : ∀ M1 X1, Wi M1 → RepCl M1 X1 → RepMo M1 X1 → OkX X1 → G E room_1 (kL nm) (ZL E) 104 4227 1394 [some (vS 4), some (vR (0, 0, 0)), some (vR (20, 0, 0)), some (vI (nI (6 * i)))] [] M1) : G E room_1 (kL nm) (ZL E) 104 4227 1016 [some (vS 4), some (vR (0, 0, 0)), some (vR (20, 0, 0)), some (vI (nI (6 * i)))] [] M := by
  refine g_aloadR_n dXL_law_1016 rfl rfl ?_
  refine g_aloadS_n dXL_law_1017 rfl rfl ?_
  refine g_iload_n dXL_law_1018 rfl rfl ?_
  refine g_iconst dXL_law_1019 (v := 1) (by decide) ?_
  refine g_iadd dXL_law_1020 ?_
  refine g_ialdX (j := 6 * i + 1) dXL_law_1021 (ixL i 1) (by omega) (by omega) ?_
  refine n_v1i (n' := 7) dXL_law_1022 mX6_price lXL_116 rfl hW vld_x0 rfl rfl ⟨Nat.le_of_ble_eq_true rfl, Nat.le_of_ble_eq_true rfl⟩ ⟨Nat.le_of_ble_eq_true rfl, Nat.le_of_ble_eq_true rfl⟩ (Nat.le_of_ble_eq_true rfl) ?_
  refine wp_X6_price (by exact hW) hC hO (fun M1 hf1 hC1 => ?_)
  have hW1 := hf1.W (by exact hW)
  have hR1 := hR.frC hf1
  refine ⟨_, rfl, ?_⟩
  refine g_aloadR_n dXL_law_1025 rfl rfl ?_
  refine g_aloadS_n dXL_law_1026 rfl rfl ?_
  refine g_iload_n dXL_law_1027 rfl rfl ?_
  refine g_iconst dXL_law_1028 (v := 1) (by decide) ?_
  refine g_iadd dXL_law_1029 ?_
  refine g_ialdX (j := 6 * i + 1) dXL_law_1030 (ixL i 1) (by omega) (by omega) ?_
  refine n_v1i (n' := 6) dXL_law_1031 mX7_price lXL_119 rfl hW1 vld_x20 rfl rfl ⟨Nat.le_of_ble_eq_true rfl, Nat.le_of_ble_eq_true rfl⟩ ⟨Nat.le_of_ble_eq_true rfl, Nat.le_of_ble_eq_true rfl⟩ (Nat.le_of_ble_eq_true rfl) ?_
  refine wp_X7_price (by exact hW1) hR1 hO (fun M2 hf2 hR2 => ?_)
  have hW2 := hf2.W (by exact hW1)
  refine ⟨_, rfl, ?_⟩
  refine g_icmp_eq (tgt := 1394) dXL_law_1034 (by decide) (fun c1034 => ?_) (fun c1034 => ?_)
  · exact hN _ _ (by exact hW2) (hC1.frM hf2) hR2 (ok_price hO _)
  · exact absurd rfl c1034
set_option maxHeartbeats 4000000 in
set_option maxRecDepth 100000 in
theorem cs_24 {E : Ev} {nm : String} {M : Mem} {X : Sys} {i : Nat} (hL : eL E ≤ 3072) (hi : 6 * i + 6 ≤ eL E) (hW : Wi M) (hC : RepCl M X) (hR : RepMo M X) (hO : OkX X) (hN : ∀ M1 X1, Wi M1 → RepCl M1 X1 → RepMo M1 X1 → OkX X1 → G E room_1 (kL nm) (ZL E) 104 4227 1394 [some (vS 4), some (vR (0, 0, 0)), some (vR (20, 0, 0)), some (vI (nI (6 * i)))] [] M1) : G E room_1 (kL nm) (ZL E) 104 4227 1039 [some (vS 4), some (vR (0, 0, 0)), some (vR (20, 0, 0)), some (vI (nI (6 * i)))] [] M := by
  refine g_aloadR_n dXL_law_1039 rfl rfl ?_
  refine g_aloadS_n dXL_law_1040 rfl rfl ?_
  refine g_iload_n dXL_law_1041 rfl rfl ?_
  refine g_iconst dXL_law_1042 (v := 1) (by decide) ?_
  refine g_iadd dXL_law_1043 ?_
  refine g_ialdX (j := 6 * i + 1) dXL_law_1044 (ixL i 1) (by omega) (by omega) ?_
  refine n_v1i (n' := 7) dXL_law_1045 mX6_lost lXL_120 rfl hW vld_x0 rfl rfl ⟨Nat.le_of_ble_eq_true rfl, Nat.le_of_ble_eq_true rfl⟩ ⟨Nat.le_of_ble_eq_true rfl, Nat.le_of_ble_eq_true rfl⟩ (Nat.le_of_ble_eq_true rfl) ?_
  refine wp_X6_lost (by exact hW) hC hO (fun M1 hf1 hC1 => ?_)
  have hW1 := hf1.W (by exact hW)
  have hR1 := hR.frC hf1
  refine ⟨_, rfl, ?_⟩
  refine g_aloadR_n dXL_law_1048 rfl rfl ?_
  refine g_aloadS_n dXL_law_1049 rfl rfl ?_
  refine g_iload_n dXL_law_1050 rfl rfl ?_
  refine g_iconst dXL_law_1051 (v := 1) (by decide) ?_
  refine g_iadd dXL_law_1052 ?_
  refine g_ialdX (j := 6 * i + 1) dXL_law_1053 (ixL i 1) (by omega) (by omega) ?_
  refine n_v1i (n' := 5) dXL_law_1054 mX7_lost lXL_123 rfl hW1 vld_x20 rfl rfl ⟨Nat.le_of_ble_eq_true rfl, Nat.le_of_ble_eq_true rfl⟩ ⟨Nat.le_of_ble_eq_true rfl, Nat.le_of_ble_eq_true rfl⟩ (Nat.le_of_ble_eq_true rfl) ?_
  refine wp_X7_lost (by exact hW1) hR1 hO (fun M2 hf2 hR2 => ?_)
  have hW2 := hf2.W (by exact hW1)
  refine ⟨_, rfl, ?_⟩
  refine g_icmp_eq (tgt := 1394) dXL_law_1057 (by decide) (fun c1057 => ?_) (fun c1057 => ?_)
  · exact hN _ _ (by exact hW2) (hC1.frM hf2) hR2 (ok_lost hO _)
  · exact absurd rfl c1057
set_option maxHeartbeats 4000000 in
set_option maxRecDepth 100000 in
theorem cs_25 {E : Ev} {nm : String} {M : Mem} {X : Sys} {i : Nat} (hL : eL E ≤ 3072) (hi : 6 * i + 6 ≤ eL E) (hW : Wi M) (hC : RepCl M X) (hR : RepMo M X) (hO : OkX X) (hN : ∀ M1 X1, Wi M1 → RepCl M1 X1 → RepMo M1 X1 → OkX X1 → G E room_1 (kL nm) (ZL E) 104 4227 1394 [some (vS 4), some (vR (0, 0, 0)), some (vR (20, 0, 0)), some (vI (nI (6 * i)))] [] M1) : G E room_1 (kL nm) (ZL E) 104 4227 1062 [some (vS 4), some (vR (0, 0, 0)), some (vR (20, 0, 0)), some (vI (nI (6 * i)))] [] M := by
  refine g_aloadR_n dXL_law_1062 rfl rfl ?_
  refine n_v0i (n' := 1) dXL_law_1063 mX6_pairs lXL_124 rfl hW vld_x0 rfl rfl ⟨Nat.le_of_ble_eq_true rfl, Nat.le_of_ble_eq_true rfl⟩ ⟨Nat.le_of_ble_eq_true rfl, Nat.le_of_ble_eq_true rfl⟩ (Nat.le_of_ble_eq_true rfl) ?_
  refine wp_X6_pairs (by exact hW) hC hO ?_
  refine ⟨_, rfl, ?_⟩
  refine g_aloadR_n dXL_law_1066 rfl rfl ?_
  refine n_v0i (n' := 0) dXL_law_1067 mX7_pairs lXL_127 rfl hW vld_x20 rfl rfl ⟨Nat.le_of_ble_eq_true rfl, Nat.le_of_ble_eq_true rfl⟩ ⟨Nat.le_of_ble_eq_true rfl, Nat.le_of_ble_eq_true rfl⟩ (Nat.le_of_ble_eq_true rfl) ?_
  refine wp_X7_pairs (by exact hW) hR hO ?_
  refine ⟨_, rfl, ?_⟩
  refine g_icmp_eq (tgt := 1394) dXL_law_1070 (by decide) (fun c1070 => ?_) (fun c1070 => ?_)
  · exact hN _ _ hW hC hR hO
  · exact absurd rfl c1070
set_option maxHeartbeats 4000000 in
set_option maxRecDepth 100000 in
theorem cs_26 {E : Ev} {nm : String} {M : Mem} {X : Sys} {i : Nat} (hL : eL E ≤ 3072) (hi : 6 * i + 6 ≤ eL E) (hW : Wi M) (hC : RepCl M X) (hR : RepMo M X) (hO : OkX X) (hN : ∀ M1 X1, Wi M1 → RepCl M1 X1 → RepMo M1 X1 → OkX X1 → G E room_1 (kL nm) (ZL E) 104 4227 1394 [some (vS 4), some (vR (0, 0, 0)), some (vR (20, 0, 0)), some (vI (nI (6 * i)))] [] M1) : G E room_1 (kL nm) (ZL E) 104 4227 1075 [some (vS 4), some (vR (0, 0, 0)), some (vR (20, 0, 0)), some (vI (nI (6 * i)))] [] M := by
  refine g_aloadR_n dXL_law_1075 rfl rfl ?_
  refine g_aloadS_n dXL_law_1076 rfl rfl ?_
  refine g_iload_n dXL_law_1077 rfl rfl ?_
  refine g_iconst dXL_law_1078 (v := 1) (by decide) ?_
  refine g_iadd dXL_law_1079 ?_
  refine g_ialdX (j := 6 * i + 1) dXL_law_1080 (ixL i 1) (by omega) (by omega) ?_
  refine n_v1i (n' := 1) dXL_law_1081 mX6_chain lXL_128 rfl hW vld_x0 rfl rfl ⟨Nat.le_of_ble_eq_true rfl, Nat.le_of_ble_eq_true rfl⟩ ⟨Nat.le_of_ble_eq_true rfl, Nat.le_of_ble_eq_true rfl⟩ (Nat.le_of_ble_eq_true rfl) ?_
  refine wp_X6_chain (by exact hW) hC hO (fun M1 hf1 hC1 => ?_)
  have hW1 := hf1.W (by exact hW)
  have hR1 := hR.frC hf1
  refine ⟨_, rfl, ?_⟩
  refine g_aloadR_n dXL_law_1084 rfl rfl ?_
  refine g_aloadS_n dXL_law_1085 rfl rfl ?_
  refine g_iload_n dXL_law_1086 rfl rfl ?_
  refine g_iconst dXL_law_1087 (v := 1) (by decide) ?_
  refine g_iadd dXL_law_1088 ?_
  refine g_ialdX (j := 6 * i + 1) dXL_law_1089 (ixL i 1) (by omega) (by omega) ?_
  refine n_v1i (n' := 1) dXL_law_1090 mX7_chain lXL_131 rfl hW1 vld_x20 rfl rfl ⟨Nat.le_of_ble_eq_true rfl, Nat.le_of_ble_eq_true rfl⟩ ⟨Nat.le_of_ble_eq_true rfl, Nat.le_of_ble_eq_true rfl⟩ (Nat.le_of_ble_eq_true rfl) ?_
  refine wp_X7_chain (by exact hW1) hR1 hO (fun M2 hf2 hR2 => ?_)
  have hW2 := hf2.W (by exact hW1)
  refine ⟨_, rfl, ?_⟩
  refine g_icmp_eq (tgt := 1394) dXL_law_1093 (by decide) (fun c1093 => ?_) (fun c1093 => ?_)
  · exact hN _ _ (by exact hW2) (hC1.frM hf2) hR2 (ok_chain hO _)
  · exact absurd rfl c1093
set_option maxHeartbeats 4000000 in
set_option maxRecDepth 100000 in
theorem cs_27 {E : Ev} {nm : String} {M : Mem} {X : Sys} {i : Nat} (hL : eL E ≤ 3072) (hi : 6 * i + 6 ≤ eL E) (hW : Wi M) (hC : RepCl M X) (hR : RepMo M X) (hO : OkX X) (hN : ∀ M1 X1, Wi M1 → RepCl M1 X1 → RepMo M1 X1 → OkX X1 → G E room_1 (kL nm) (ZL E) 104 4227 1394 [some (vS 4), some (vR (0, 0, 0)), some (vR (20, 0, 0)), some (vI (nI (6 * i)))] [] M1) : G E room_1 (kL nm) (ZL E) 104 4227 1098 [some (vS 4), some (vR (0, 0, 0)), some (vR (20, 0, 0)), some (vI (nI (6 * i)))] [] M := by
  refine g_aloadR_n dXL_law_1098 rfl rfl ?_
  refine g_aloadS_n dXL_law_1099 rfl rfl ?_
  refine g_iload_n dXL_law_1100 rfl rfl ?_
  refine g_iconst dXL_law_1101 (v := 1) (by decide) ?_
  refine g_iadd dXL_law_1102 ?_
  refine g_ialdX (j := 6 * i + 1) dXL_law_1103 (ixL i 1) (by omega) (by omega) ?_
  refine n_v1i (n' := 6) dXL_law_1104 mX6_keeps lXL_132 rfl hW vld_x0 rfl rfl ⟨Nat.le_of_ble_eq_true rfl, Nat.le_of_ble_eq_true rfl⟩ ⟨Nat.le_of_ble_eq_true rfl, Nat.le_of_ble_eq_true rfl⟩ (Nat.le_of_ble_eq_true rfl) ?_
  refine wp_X6_keeps (by exact hW) hC hO (fun M1 hf1 hC1 => ?_)
  have hW1 := hf1.W (by exact hW)
  have hR1 := hR.frC hf1
  refine ⟨_, rfl, ?_⟩
  refine g_aloadR_n dXL_law_1107 rfl rfl ?_
  refine g_aloadS_n dXL_law_1108 rfl rfl ?_
  refine g_iload_n dXL_law_1109 rfl rfl ?_
  refine g_iconst dXL_law_1110 (v := 1) (by decide) ?_
  refine g_iadd dXL_law_1111 ?_
  refine g_ialdX (j := 6 * i + 1) dXL_law_1112 (ixL i 1) (by omega) (by omega) ?_
  refine n_v1i (n' := 4) dXL_law_1113 mX7_keeps lXL_135 rfl hW1 vld_x20 rfl rfl ⟨Nat.le_of_ble_eq_true rfl, Nat.le_of_ble_eq_true rfl⟩ ⟨Nat.le_of_ble_eq_true rfl, Nat.le_of_ble_eq_true rfl⟩ (Nat.le_of_ble_eq_true rfl) ?_
  refine wp_X7_keeps (by exact hW1) hR1 hO (fun M2 hf2 hR2 => ?_)
  have hW2 := hf2.W (by exact hW1)
  refine ⟨_, rfl, ?_⟩
  refine g_icmp_eq (tgt := 1394) dXL_law_1116 (by decide) (fun c1116 => ?_) (fun c1116 => ?_)
  · exact hN _ _ (by exact hW2) (hC1.frM hf2) hR2 (ok_keeps hO _)
  · exact absurd rfl c1116
set_option maxHeartbeats 4000000 in
set_option maxRecDepth 100000 in
theorem cs_28 {E : Ev} {nm : String} {M : Mem} {X : Sys} {i : Nat} (hL : eL E ≤ 3072) (hi : 6 * i + 6 ≤ eL E) (hW : Wi M) (hC : RepCl M X) (hR : RepMo M X) (hO : OkX X) (hN : ∀ M1 X1, Wi M1 → RepCl M1 X1 → RepMo M1 X1 → OkX X1 → G E room_1 (kL nm) (ZL E) 104 4227 1394 [some (vS 4), some (vR (0, 0, 0)), some (vR (20, 0, 0)), some (vI (nI (6 * i)))] [] M1) : G E room_1 (kL nm) (ZL E) 104 4227 1121 [some (vS 4), some (vR (0, 0, 0)), some (vR (20, 0, 0)), some (vI (nI (6 * i)))] [] M := by
  refine g_aloadR_n dXL_law_1121 rfl rfl ?_
  refine n_v0i (n' := 6) dXL_law_1122 mX6_keep lXL_136 rfl hW vld_x0 rfl rfl ⟨Nat.le_of_ble_eq_true rfl, Nat.le_of_ble_eq_true rfl⟩ ⟨Nat.le_of_ble_eq_true rfl, Nat.le_of_ble_eq_true rfl⟩ (Nat.le_of_ble_eq_true rfl) ?_
  refine wp_X6_keep (by exact hW) hC hO (fun M1 hf1 hC1 => ?_)
  have hW1 := hf1.W (by exact hW)
  have hR1 := hR.frC hf1
  refine ⟨_, rfl, ?_⟩
  refine g_aloadR_n dXL_law_1125 rfl rfl ?_
  refine n_v0i (n' := 4) dXL_law_1126 mX7_keep lXL_139 rfl hW1 vld_x20 rfl rfl ⟨Nat.le_of_ble_eq_true rfl, Nat.le_of_ble_eq_true rfl⟩ ⟨Nat.le_of_ble_eq_true rfl, Nat.le_of_ble_eq_true rfl⟩ (Nat.le_of_ble_eq_true rfl) ?_
  refine wp_X7_keep (by exact hW1) hR1 hO (fun M2 hf2 hR2 => ?_)
  have hW2 := hf2.W (by exact hW1)
  refine ⟨_, rfl, ?_⟩
  refine g_icmp_eq (tgt := 1394) dXL_law_1129 (by decide) (fun c1129 => ?_) (fun c1129 => ?_)
  · exact hN _ _ (by exact hW2) (hC1.frM hf2) hR2 (ok_keep hO )
  · exact absurd rfl c1129
set_option maxHeartbeats 4000000 in
set_option maxRecDepth 100000 in
theorem cs_29 {E : Ev} {nm : String} {M : Mem} {X : Sys} {i : Nat} (hL : eL E ≤ 3072) (hi : 6 * i + 6 ≤ eL E) (hW : Wi M) (hC : RepCl M X) (hR : RepMo M X) (hO : OkX X) (hN : ∀ M1 X1, Wi M1 → RepCl M1 X1 → RepMo M1 X1 → OkX X1 → G E room_1 (kL nm) (ZL E) 104 4227 1394 [some (vS 4), some (vR (0, 0, 0)), some (vR (20, 0, 0)), some (vI (nI (6 * i)))] [] M1) : G E room_1 (kL nm) (ZL E) 104 4227 1134 [some (vS 4), some (vR (0, 0, 0)), some (vR (20, 0, 0)), some (vI (nI (6 * i)))] [] M := by
  refine g_aloadR_n dXL_law_1134 rfl rfl ?_
  refine g_aloadS_n dXL_law_1135 rfl rfl ?_
  refine g_iload_n dXL_law_1136 rfl rfl ?_
  refine g_iconst dXL_law_1137 (v := 1) (by decide) ?_
  refine g_iadd dXL_law_1138 ?_
  refine g_ialdX (j := 6 * i + 1) dXL_law_1139 (ixL i 1) (by omega) (by omega) ?_
  refine g_aloadS_n dXL_law_1140 rfl rfl ?_
  refine g_iload_n dXL_law_1141 rfl rfl ?_
  refine g_iconst dXL_law_1142 (v := 2) (by decide) ?_
  refine g_iadd dXL_law_1143 ?_
  refine g_ialdX (j := 6 * i + 2) dXL_law_1144 (ixL i 2) (by omega) (by omega) ?_
  refine g_aloadS_n dXL_law_1145 rfl rfl ?_
  refine g_iload_n dXL_law_1146 rfl rfl ?_
  refine g_iconst dXL_law_1147 (v := 3) (by decide) ?_
  refine g_iadd dXL_law_1148 ?_
  refine g_ialdX (j := 6 * i + 3) dXL_law_1149 (ixL i 3) (by omega) (by omega) ?_
  refine n_v3i (n' := 7) dXL_law_1150 mX6_friends lXL_140 rfl hW vld_x0 rfl rfl ⟨Nat.le_of_ble_eq_true rfl, Nat.le_of_ble_eq_true rfl⟩ ⟨Nat.le_of_ble_eq_true rfl, Nat.le_of_ble_eq_true rfl⟩ (Nat.le_of_ble_eq_true rfl) ?_
  refine wp_X6_friends (by exact hW) hC hO (fun M1 hf1 hC1 => ?_)
  have hW1 := hf1.W (by exact hW)
  have hR1 := hR.frC hf1
  refine ⟨_, rfl, ?_⟩
  refine g_aloadR_n dXL_law_1153 rfl rfl ?_
  refine g_aloadS_n dXL_law_1154 rfl rfl ?_
  refine g_iload_n dXL_law_1155 rfl rfl ?_
  refine g_iconst dXL_law_1156 (v := 1) (by decide) ?_
  refine g_iadd dXL_law_1157 ?_
  refine g_ialdX (j := 6 * i + 1) dXL_law_1158 (ixL i 1) (by omega) (by omega) ?_
  refine g_aloadS_n dXL_law_1159 rfl rfl ?_
  refine g_iload_n dXL_law_1160 rfl rfl ?_
  refine g_iconst dXL_law_1161 (v := 2) (by decide) ?_
  refine g_iadd dXL_law_1162 ?_
  refine g_ialdX (j := 6 * i + 2) dXL_law_1163 (ixL i 2) (by omega) (by omega) ?_
  refine g_aloadS_n dXL_law_1164 rfl rfl ?_
  refine g_iload_n dXL_law_1165 rfl rfl ?_
  refine g_iconst dXL_law_1166 (v := 3) (by decide) ?_
  refine g_iadd dXL_law_1167 ?_
  refine g_ialdX (j := 6 * i + 3) dXL_law_1168 (ixL i 3) (by omega) (by omega) ?_
  refine n_v3i (n' := 5) dXL_law_1169 mX7_friends lXL_143 rfl hW1 vld_x20 rfl rfl ⟨Nat.le_of_ble_eq_true rfl, Nat.le_of_ble_eq_true rfl⟩ ⟨Nat.le_of_ble_eq_true rfl, Nat.le_of_ble_eq_true rfl⟩ (Nat.le_of_ble_eq_true rfl) ?_
  refine wp_X7_friends (by exact hW1) hR1 hO (fun M2 hf2 hR2 => ?_)
  have hW2 := hf2.W (by exact hW1)
  refine ⟨_, rfl, ?_⟩
  refine g_icmp_eq (tgt := 1394) dXL_law_1172 (by decide) (fun c1172 => ?_) (fun c1172 => ?_)
  · exact hN _ _ (by exact hW2) (hC1.frM hf2) hR2 (ok_friends hO _ _ _)
  · exact absurd rfl c1172
set_option maxHeartbeats 4000000 in
set_option maxRecDepth 100000 in
theorem cs_30 {E : Ev} {nm : String} {M : Mem} {X : Sys} {i : Nat} (hL : eL E ≤ 3072) (hi : 6 * i + 6 ≤ eL E) (hW : Wi M) (hC : RepCl M X) (hR : RepMo M X) (hO : OkX X) (hN : ∀ M1 X1, Wi M1 → RepCl M1 X1 → RepMo M1 X1 → OkX X1 → G E room_1 (kL nm) (ZL E) 104 4227 1394 [some (vS 4), some (vR (0, 0, 0)), some (vR (20, 0, 0)), some (vI (nI (6 * i)))] [] M1) : G E room_1 (kL nm) (ZL E) 104 4227 1177 [some (vS 4), some (vR (0, 0, 0)), some (vR (20, 0, 0)), some (vI (nI (6 * i)))] [] M := by
  refine g_aloadR_n dXL_law_1177 rfl rfl ?_
  refine g_aloadS_n dXL_law_1178 rfl rfl ?_
  refine g_iload_n dXL_law_1179 rfl rfl ?_
  refine g_iconst dXL_law_1180 (v := 1) (by decide) ?_
  refine g_iadd dXL_law_1181 ?_
  refine g_ialdX (j := 6 * i + 1) dXL_law_1182 (ixL i 1) (by omega) (by omega) ?_
  refine g_aloadS_n dXL_law_1183 rfl rfl ?_
  refine g_iload_n dXL_law_1184 rfl rfl ?_
  refine g_iconst dXL_law_1185 (v := 2) (by decide) ?_
  refine g_iadd dXL_law_1186 ?_
  refine g_ialdX (j := 6 * i + 2) dXL_law_1187 (ixL i 2) (by omega) (by omega) ?_
  refine n_v2i (n' := 7) dXL_law_1188 mX6_judge lXL_144 rfl hW vld_x0 rfl rfl ⟨Nat.le_of_ble_eq_true rfl, Nat.le_of_ble_eq_true rfl⟩ ⟨Nat.le_of_ble_eq_true rfl, Nat.le_of_ble_eq_true rfl⟩ (Nat.le_of_ble_eq_true rfl) ?_
  refine wp_X6_judge (by exact hW) hC hO (fun M1 hf1 hC1 => ?_)
  have hW1 := hf1.W (by exact hW)
  have hR1 := hR.frC hf1
  refine ⟨_, rfl, ?_⟩
  refine g_aloadR_n dXL_law_1191 rfl rfl ?_
  refine g_aloadS_n dXL_law_1192 rfl rfl ?_
  refine g_iload_n dXL_law_1193 rfl rfl ?_
  refine g_iconst dXL_law_1194 (v := 1) (by decide) ?_
  refine g_iadd dXL_law_1195 ?_
  refine g_ialdX (j := 6 * i + 1) dXL_law_1196 (ixL i 1) (by omega) (by omega) ?_
  refine g_aloadS_n dXL_law_1197 rfl rfl ?_
  refine g_iload_n dXL_law_1198 rfl rfl ?_
  refine g_iconst dXL_law_1199 (v := 2) (by decide) ?_
  refine g_iadd dXL_law_1200 ?_
  refine g_ialdX (j := 6 * i + 2) dXL_law_1201 (ixL i 2) (by omega) (by omega) ?_
  refine n_v2i (n' := 5) dXL_law_1202 mX7_judge lXL_147 rfl hW1 vld_x20 rfl rfl ⟨Nat.le_of_ble_eq_true rfl, Nat.le_of_ble_eq_true rfl⟩ ⟨Nat.le_of_ble_eq_true rfl, Nat.le_of_ble_eq_true rfl⟩ (Nat.le_of_ble_eq_true rfl) ?_
  refine wp_X7_judge (by exact hW1) hR1 hO (fun M2 hf2 hR2 => ?_)
  have hW2 := hf2.W (by exact hW1)
  refine ⟨_, rfl, ?_⟩
  refine g_icmp_eq (tgt := 1394) dXL_law_1205 (by decide) (fun c1205 => ?_) (fun c1205 => ?_)
  · exact hN _ _ (by exact hW2) (hC1.frM hf2) hR2 (ok_judge hO _ _)
  · exact absurd rfl c1205
set_option maxHeartbeats 4000000 in
set_option maxRecDepth 100000 in
theorem cs_31 {E : Ev} {nm : String} {M : Mem} {X : Sys} {i : Nat} (hL : eL E ≤ 3072) (hi : 6 * i + 6 ≤ eL E) (hW : Wi M) (hC : RepCl M X) (hR : RepMo M X) (hO : OkX X) (hN : ∀ M1 X1, Wi M1 → RepCl M1 X1 → RepMo M1 X1 → OkX X1 → G E room_1 (kL nm) (ZL E) 104 4227 1394 [some (vS 4), some (vR (0, 0, 0)), some (vR (20, 0, 0)), some (vI (nI (6 * i)))] [] M1) : G E room_1 (kL nm) (ZL E) 104 4227 1210 [some (vS 4), some (vR (0, 0, 0)), some (vR (20, 0, 0)), some (vI (nI (6 * i)))] [] M := by
  refine g_aloadR_n dXL_law_1210 rfl rfl ?_
  refine g_aloadS_n dXL_law_1211 rfl rfl ?_
  refine g_iload_n dXL_law_1212 rfl rfl ?_
  refine g_iconst dXL_law_1213 (v := 1) (by decide) ?_
  refine g_iadd dXL_law_1214 ?_
  refine g_ialdX (j := 6 * i + 1) dXL_law_1215 (ixL i 1) (by omega) (by omega) ?_
  refine n_v1i (n' := 7) dXL_law_1216 mX6_evenings lXL_148 rfl hW vld_x0 rfl rfl ⟨Nat.le_of_ble_eq_true rfl, Nat.le_of_ble_eq_true rfl⟩ ⟨Nat.le_of_ble_eq_true rfl, Nat.le_of_ble_eq_true rfl⟩ (Nat.le_of_ble_eq_true rfl) ?_
  refine wp_X6_evenings (by exact hW) hC hO (fun M1 hf1 hC1 => ?_)
  have hW1 := hf1.W (by exact hW)
  have hR1 := hR.frC hf1
  refine ⟨_, rfl, ?_⟩
  refine g_aloadR_n dXL_law_1219 rfl rfl ?_
  refine g_aloadS_n dXL_law_1220 rfl rfl ?_
  refine g_iload_n dXL_law_1221 rfl rfl ?_
  refine g_iconst dXL_law_1222 (v := 1) (by decide) ?_
  refine g_iadd dXL_law_1223 ?_
  refine g_ialdX (j := 6 * i + 1) dXL_law_1224 (ixL i 1) (by omega) (by omega) ?_
  refine n_v1i (n' := 4) dXL_law_1225 mX7_evenings lXL_151 rfl hW1 vld_x20 rfl rfl ⟨Nat.le_of_ble_eq_true rfl, Nat.le_of_ble_eq_true rfl⟩ ⟨Nat.le_of_ble_eq_true rfl, Nat.le_of_ble_eq_true rfl⟩ (Nat.le_of_ble_eq_true rfl) ?_
  refine wp_X7_evenings (by exact hW1) hR1 hO (fun M2 hf2 hR2 => ?_)
  have hW2 := hf2.W (by exact hW1)
  refine ⟨_, rfl, ?_⟩
  refine g_icmp_eq (tgt := 1394) dXL_law_1228 (by decide) (fun c1228 => ?_) (fun c1228 => ?_)
  · exact hN _ _ (by exact hW2) (hC1.frM hf2) hR2 (ok_evenings hO _)
  · exact absurd rfl c1228
set_option maxHeartbeats 4000000 in
set_option maxRecDepth 100000 in
theorem cs_32 {E : Ev} {nm : String} {M : Mem} {X : Sys} {i : Nat} (hL : eL E ≤ 3072) (hi : 6 * i + 6 ≤ eL E) (hW : Wi M) (hC : RepCl M X) (hR : RepMo M X) (hO : OkX X) (hN : ∀ M1 X1, Wi M1 → RepCl M1 X1 → RepMo M1 X1 → OkX X1 → G E room_1 (kL nm) (ZL E) 104 4227 1394 [some (vS 4), some (vR (0, 0, 0)), some (vR (20, 0, 0)), some (vI (nI (6 * i)))] [] M1) : G E room_1 (kL nm) (ZL E) 104 4227 1233 [some (vS 4), some (vR (0, 0, 0)), some (vR (20, 0, 0)), some (vI (nI (6 * i)))] [] M := by
  refine g_aloadR_n dXL_law_1233 rfl rfl ?_
  refine g_aloadS_n dXL_law_1234 rfl rfl ?_
  refine g_iload_n dXL_law_1235 rfl rfl ?_
  refine g_iconst dXL_law_1236 (v := 1) (by decide) ?_
  refine g_iadd dXL_law_1237 ?_
  refine g_ialdX (j := 6 * i + 1) dXL_law_1238 (ixL i 1) (by omega) (by omega) ?_
  refine n_v1i (n' := 7) dXL_law_1239 mX6_drawn lXL_152 rfl hW vld_x0 rfl rfl ⟨Nat.le_of_ble_eq_true rfl, Nat.le_of_ble_eq_true rfl⟩ ⟨Nat.le_of_ble_eq_true rfl, Nat.le_of_ble_eq_true rfl⟩ (Nat.le_of_ble_eq_true rfl) ?_
  refine wp_X6_drawn (by exact hW) hC hO (fun M1 hf1 hC1 => ?_)
  have hW1 := hf1.W (by exact hW)
  have hR1 := hR.frC hf1
  refine ⟨_, rfl, ?_⟩
  refine g_aloadR_n dXL_law_1242 rfl rfl ?_
  refine g_aloadS_n dXL_law_1243 rfl rfl ?_
  refine g_iload_n dXL_law_1244 rfl rfl ?_
  refine g_iconst dXL_law_1245 (v := 1) (by decide) ?_
  refine g_iadd dXL_law_1246 ?_
  refine g_ialdX (j := 6 * i + 1) dXL_law_1247 (ixL i 1) (by omega) (by omega) ?_
  refine n_v1i (n' := 4) dXL_law_1248 mX7_drawn lXL_155 rfl hW1 vld_x20 rfl rfl ⟨Nat.le_of_ble_eq_true rfl, Nat.le_of_ble_eq_true rfl⟩ ⟨Nat.le_of_ble_eq_true rfl, Nat.le_of_ble_eq_true rfl⟩ (Nat.le_of_ble_eq_true rfl) ?_
  refine wp_X7_drawn (by exact hW1) hR1 hO (fun M2 hf2 hR2 => ?_)
  have hW2 := hf2.W (by exact hW1)
  refine ⟨_, rfl, ?_⟩
  refine g_icmp_eq (tgt := 1394) dXL_law_1251 (by decide) (fun c1251 => ?_) (fun c1251 => ?_)
  · exact hN _ _ (by exact hW2) (hC1.frM hf2) hR2 (ok_drawn hO _)
  · exact absurd rfl c1251
set_option maxHeartbeats 4000000 in
set_option maxRecDepth 100000 in
theorem cs_33 {E : Ev} {nm : String} {M : Mem} {X : Sys} {i : Nat} (hL : eL E ≤ 3072) (hi : 6 * i + 6 ≤ eL E) (hW : Wi M) (hC : RepCl M X) (hR : RepMo M X) (hO : OkX X) (hN : ∀ M1 X1, Wi M1 → RepCl M1 X1 → RepMo M1 X1 → OkX X1 → G E room_1 (kL nm) (ZL E) 104 4227 1394 [some (vS 4), some (vR (0, 0, 0)), some (vR (20, 0, 0)), some (vI (nI (6 * i)))] [] M1) : G E room_1 (kL nm) (ZL E) 104 4227 1256 [some (vS 4), some (vR (0, 0, 0)), some (vR (20, 0, 0)), some (vI (nI (6 * i)))] [] M := by
  refine g_aloadR_n dXL_law_1256 rfl rfl ?_
  refine g_aloadS_n dXL_law_1257 rfl rfl ?_
  refine g_iload_n dXL_law_1258 rfl rfl ?_
  refine g_iconst dXL_law_1259 (v := 1) (by decide) ?_
  refine g_iadd dXL_law_1260 ?_
  refine g_ialdX (j := 6 * i + 1) dXL_law_1261 (ixL i 1) (by omega) (by omega) ?_
  refine n_v1i (n' := 0) dXL_law_1262 mX6_seed lXL_156 rfl hW vld_x0 rfl rfl ⟨Nat.le_of_ble_eq_true rfl, Nat.le_of_ble_eq_true rfl⟩ ⟨Nat.le_of_ble_eq_true rfl, Nat.le_of_ble_eq_true rfl⟩ (Nat.le_of_ble_eq_true rfl) ?_
  refine wp_X6_seed (by exact hW) hC hO (fun M1 hf1 hC1 => ?_)
  have hW1 := hf1.W (by exact hW)
  have hR1 := hR.frC hf1
  refine ⟨_, rfl, ?_⟩
  refine g_aloadR_n dXL_law_1265 rfl rfl ?_
  refine g_aloadS_n dXL_law_1266 rfl rfl ?_
  refine g_iload_n dXL_law_1267 rfl rfl ?_
  refine g_iconst dXL_law_1268 (v := 1) (by decide) ?_
  refine g_iadd dXL_law_1269 ?_
  refine g_ialdX (j := 6 * i + 1) dXL_law_1270 (ixL i 1) (by omega) (by omega) ?_
  refine n_v1i (n' := 0) dXL_law_1271 mX7_seed lXL_159 rfl hW1 vld_x20 rfl rfl ⟨Nat.le_of_ble_eq_true rfl, Nat.le_of_ble_eq_true rfl⟩ ⟨Nat.le_of_ble_eq_true rfl, Nat.le_of_ble_eq_true rfl⟩ (Nat.le_of_ble_eq_true rfl) ?_
  refine wp_X7_seed (by exact hW1) hR1 hO (fun M2 hf2 hR2 => ?_)
  have hW2 := hf2.W (by exact hW1)
  refine ⟨_, rfl, ?_⟩
  refine g_icmp_eq (tgt := 1394) dXL_law_1274 (by decide) (fun c1274 => ?_) (fun c1274 => ?_)
  · exact hN _ _ (by exact hW2) (hC1.frM hf2) hR2 (ok_seed hO _)
  · exact absurd rfl c1274
set_option maxHeartbeats 4000000 in
set_option maxRecDepth 100000 in
theorem cs_34 {E : Ev} {nm : String} {M : Mem} {X : Sys} {i : Nat} (hL : eL E ≤ 3072) (hi : 6 * i + 6 ≤ eL E) (hW : Wi M) (hC : RepCl M X) (hR : RepMo M X) (hO : OkX X) (hN : ∀ M1 X1, Wi M1 → RepCl M1 X1 → RepMo M1 X1 → OkX X1 → G E room_1 (kL nm) (ZL E) 104 4227 1394 [some (vS 4), some (vR (0, 0, 0)), some (vR (20, 0, 0)), some (vI (nI (6 * i)))] [] M1) : G E room_1 (kL nm) (ZL E) 104 4227 1279 [some (vS 4), some (vR (0, 0, 0)), some (vR (20, 0, 0)), some (vI (nI (6 * i)))] [] M := by
  refine g_aloadR_n dXL_law_1279 rfl rfl ?_
  refine g_aloadS_n dXL_law_1280 rfl rfl ?_
  refine g_iload_n dXL_law_1281 rfl rfl ?_
  refine g_iconst dXL_law_1282 (v := 1) (by decide) ?_
  refine g_iadd dXL_law_1283 ?_
  refine g_ialdX (j := 6 * i + 1) dXL_law_1284 (ixL i 1) (by omega) (by omega) ?_
  refine g_aloadS_n dXL_law_1285 rfl rfl ?_
  refine g_iload_n dXL_law_1286 rfl rfl ?_
  refine g_iconst dXL_law_1287 (v := 2) (by decide) ?_
  refine g_iadd dXL_law_1288 ?_
  refine g_ialdX (j := 6 * i + 2) dXL_law_1289 (ixL i 2) (by omega) (by omega) ?_
  refine g_aloadS_n dXL_law_1290 rfl rfl ?_
  refine g_iload_n dXL_law_1291 rfl rfl ?_
  refine g_iconst dXL_law_1292 (v := 3) (by decide) ?_
  refine g_iadd dXL_law_1293 ?_
  refine g_ialdX (j := 6 * i + 3) dXL_law_1294 (ixL i 3) (by omega) (by omega) ?_
  refine n_v3i (n' := 17) dXL_law_1295 mX6_act lXL_160 rfl hW vld_x0 rfl rfl ⟨Nat.le_of_ble_eq_true rfl, Nat.le_of_ble_eq_true rfl⟩ ⟨Nat.le_of_ble_eq_true rfl, Nat.le_of_ble_eq_true rfl⟩ (Nat.le_of_ble_eq_true rfl) ?_
  refine wp_X6_act (by exact hW) hC hO (fun M1 hf1 hC1 => ?_)
  have hW1 := hf1.W (by exact hW)
  have hR1 := hR.frC hf1
  refine ⟨_, rfl, ?_⟩
  refine g_aloadR_n dXL_law_1298 rfl rfl ?_
  refine g_aloadS_n dXL_law_1299 rfl rfl ?_
  refine g_iload_n dXL_law_1300 rfl rfl ?_
  refine g_iconst dXL_law_1301 (v := 1) (by decide) ?_
  refine g_iadd dXL_law_1302 ?_
  refine g_ialdX (j := 6 * i + 1) dXL_law_1303 (ixL i 1) (by omega) (by omega) ?_
  refine g_aloadS_n dXL_law_1304 rfl rfl ?_
  refine g_iload_n dXL_law_1305 rfl rfl ?_
  refine g_iconst dXL_law_1306 (v := 2) (by decide) ?_
  refine g_iadd dXL_law_1307 ?_
  refine g_ialdX (j := 6 * i + 2) dXL_law_1308 (ixL i 2) (by omega) (by omega) ?_
  refine g_aloadS_n dXL_law_1309 rfl rfl ?_
  refine g_iload_n dXL_law_1310 rfl rfl ?_
  refine g_iconst dXL_law_1311 (v := 3) (by decide) ?_
  refine g_iadd dXL_law_1312 ?_
  refine g_ialdX (j := 6 * i + 3) dXL_law_1313 (ixL i 3) (by omega) (by omega) ?_
  refine n_v3i (n' := 4) dXL_law_1314 mX7_act lXL_163 rfl hW1 vld_x20 rfl rfl ⟨Nat.le_of_ble_eq_true rfl, Nat.le_of_ble_eq_true rfl⟩ ⟨Nat.le_of_ble_eq_true rfl, Nat.le_of_ble_eq_true rfl⟩ (Nat.le_of_ble_eq_true rfl) ?_
  refine wp_X7_act (by exact hW1) hR1 hO (fun M2 hf2 hR2 => ?_)
  have hW2 := hf2.W (by exact hW1)
  refine ⟨_, rfl, ?_⟩
  refine g_icmp_eq (tgt := 1394) dXL_law_1317 (by decide) (fun c1317 => ?_) (fun c1317 => ?_)
  · exact hN _ _ (by exact hW2) (hC1.frM hf2) hR2 (ok_act hO _ _ _)
  · exact absurd rfl c1317
set_option maxHeartbeats 4000000 in
set_option maxRecDepth 100000 in
theorem cs_35 {E : Ev} {nm : String} {M : Mem} {X : Sys} {i : Nat} (hL : eL E ≤ 3072) (hi : 6 * i + 6 ≤ eL E) (hW : Wi M) (hC : RepCl M X) (hR : RepMo M X) (hO : OkX X) (hN : ∀ M1 X1, Wi M1 → RepCl M1 X1 → RepMo M1 X1 → OkX X1 → G E room_1 (kL nm) (ZL E) 104 4227 1394 [some (vS 4), some (vR (0, 0, 0)), some (vR (20, 0, 0)), some (vI (nI (6 * i)))] [] M1) : G E room_1 (kL nm) (ZL E) 104 4227 1322 [some (vS 4), some (vR (0, 0, 0)), some (vR (20, 0, 0)), some (vI (nI (6 * i)))] [] M := by
  refine g_aloadR_n dXL_law_1322 rfl rfl ?_
  refine g_aloadS_n dXL_law_1323 rfl rfl ?_
  refine g_iload_n dXL_law_1324 rfl rfl ?_
  refine g_iconst dXL_law_1325 (v := 1) (by decide) ?_
  refine g_iadd dXL_law_1326 ?_
  refine g_ialdX (j := 6 * i + 1) dXL_law_1327 (ixL i 1) (by omega) (by omega) ?_
  refine n_v1i (n' := 1) dXL_law_1328 mX6_trace lXL_164 rfl hW vld_x0 rfl rfl ⟨Nat.le_of_ble_eq_true rfl, Nat.le_of_ble_eq_true rfl⟩ ⟨Nat.le_of_ble_eq_true rfl, Nat.le_of_ble_eq_true rfl⟩ (Nat.le_of_ble_eq_true rfl) ?_
  refine wp_X6_trace (by exact hW) hC hO ?_
  refine ⟨_, rfl, ?_⟩
  refine g_aloadR_n dXL_law_1331 rfl rfl ?_
  refine g_aloadS_n dXL_law_1332 rfl rfl ?_
  refine g_iload_n dXL_law_1333 rfl rfl ?_
  refine g_iconst dXL_law_1334 (v := 1) (by decide) ?_
  refine g_iadd dXL_law_1335 ?_
  refine g_ialdX (j := 6 * i + 1) dXL_law_1336 (ixL i 1) (by omega) (by omega) ?_
  refine n_v1i (n' := 0) dXL_law_1337 mX7_trace lXL_167 rfl hW vld_x20 rfl rfl ⟨Nat.le_of_ble_eq_true rfl, Nat.le_of_ble_eq_true rfl⟩ ⟨Nat.le_of_ble_eq_true rfl, Nat.le_of_ble_eq_true rfl⟩ (Nat.le_of_ble_eq_true rfl) ?_
  refine wp_X7_trace (by exact hW) hR hO ?_
  refine ⟨_, rfl, ?_⟩
  refine g_icmp_eq (tgt := 1394) dXL_law_1340 (by decide) (fun c1340 => ?_) (fun c1340 => ?_)
  · exact hN _ _ hW hC hR hO
  · exact absurd rfl c1340
set_option maxHeartbeats 4000000 in
set_option maxRecDepth 100000 in
theorem cs_36 {E : Ev} {nm : String} {M : Mem} {X : Sys} {i : Nat} (hL : eL E ≤ 3072) (hi : 6 * i + 6 ≤ eL E) (hW : Wi M) (hC : RepCl M X) (hR : RepMo M X) (hO : OkX X) (hN : ∀ M1 X1, Wi M1 → RepCl M1 X1 → RepMo M1 X1 → OkX X1 → G E room_1 (kL nm) (ZL E) 104 4227 1394 [some (vS 4), some (vR (0, 0, 0)), some (vR (20, 0, 0)), some (vI (nI (6 * i)))] [] M1) : G E room_1 (kL nm) (ZL E) 104 4227 1345 [some (vS 4), some (vR (0, 0, 0)), some (vR (20, 0, 0)), some (vI (nI (6 * i)))] [] M := by
  refine g_aloadR_n dXL_law_1345 rfl rfl ?_
  refine n_v0i (n' := 2) dXL_law_1346 mX6_image lXL_168 rfl hW vld_x0 rfl rfl ⟨Nat.le_of_ble_eq_true rfl, Nat.le_of_ble_eq_true rfl⟩ ⟨Nat.le_of_ble_eq_true rfl, Nat.le_of_ble_eq_true rfl⟩ (Nat.le_of_ble_eq_true rfl) ?_
  refine wp_X6_image (by exact hW) hC hO (fun M1 hf1 hC1 => ?_)
  have hW1 := hf1.W (by exact hW)
  have hR1 := hR.frC hf1
  refine ⟨_, rfl, ?_⟩
  refine g_aloadR_n dXL_law_1349 rfl rfl ?_
  refine n_v0i (n' := 2) dXL_law_1350 mX7_image lXL_171 rfl hW1 vld_x20 rfl rfl ⟨Nat.le_of_ble_eq_true rfl, Nat.le_of_ble_eq_true rfl⟩ ⟨Nat.le_of_ble_eq_true rfl, Nat.le_of_ble_eq_true rfl⟩ (Nat.le_of_ble_eq_true rfl) ?_
  refine wp_X7_image (by exact hW1) hR1 hO (fun M2 hf2 hR2 => ?_)
  have hW2 := hf2.W (by exact hW1)
  refine ⟨_, rfl, ?_⟩
  refine g_icmp_eq (tgt := 1394) dXL_law_1353 (by decide) (fun c1353 => ?_) (fun c1353 => ?_)
  · exact hN _ _ (by exact hW2) (hC1.frM hf2) hR2 (ok_image hO )
  · exact absurd rfl c1353
set_option maxHeartbeats 4000000 in
set_option maxRecDepth 100000 in
theorem cs_37 {E : Ev} {nm : String} {M : Mem} {X : Sys} {i : Nat} (hL : eL E ≤ 3072) (hi : 6 * i + 6 ≤ eL E) (hW : Wi M) (hC : RepCl M X) (hR : RepMo M X) (hO : OkX X) (hN : ∀ M1 X1, Wi M1 → RepCl M1 X1 → RepMo M1 X1 → OkX X1 → G E room_1 (kL nm) (ZL E) 104 4227 1394 [some (vS 4), some (vR (0, 0, 0)), some (vR (20, 0, 0)), some (vI (nI (6 * i)))] [] M1) : G E room_1 (kL nm) (ZL E) 104 4227 1358 [some (vS 4), some (vR (0, 0, 0)), some (vR (20, 0, 0)), some (vI (nI (6 * i)))] [] M := by
  refine g_aloadR_n dXL_law_1358 rfl rfl ?_
  refine n_v0i (n' := 2) dXL_law_1359 mX6_restore lXL_172 rfl hW vld_x0 rfl rfl ⟨Nat.le_of_ble_eq_true rfl, Nat.le_of_ble_eq_true rfl⟩ ⟨Nat.le_of_ble_eq_true rfl, Nat.le_of_ble_eq_true rfl⟩ (Nat.le_of_ble_eq_true rfl) ?_
  refine wp_X6_restore (by exact hW) hC hO (fun M1 hf1 hC1 => ?_)
  have hW1 := hf1.W (by exact hW)
  have hR1 := hR.frC hf1
  refine ⟨_, rfl, ?_⟩
  refine g_aloadR_n dXL_law_1362 rfl rfl ?_
  refine n_v0i (n' := 2) dXL_law_1363 mX7_restore lXL_175 rfl hW1 vld_x20 rfl rfl ⟨Nat.le_of_ble_eq_true rfl, Nat.le_of_ble_eq_true rfl⟩ ⟨Nat.le_of_ble_eq_true rfl, Nat.le_of_ble_eq_true rfl⟩ (Nat.le_of_ble_eq_true rfl) ?_
  refine wp_X7_restore (by exact hW1) hR1 hO (fun M2 hf2 hR2 => ?_)
  have hW2 := hf2.W (by exact hW1)
  refine ⟨_, rfl, ?_⟩
  refine g_icmp_eq (tgt := 1394) dXL_law_1366 (by decide) (fun c1366 => ?_) (fun c1366 => ?_)
  · exact hN _ _ (by exact hW2) (hC1.frM hf2) hR2 (ok_restore hO )
  · exact absurd rfl c1366
set_option maxHeartbeats 4000000 in
set_option maxRecDepth 100000 in
theorem cs_38 {E : Ev} {nm : String} {M : Mem} {X : Sys} {i : Nat} (hL : eL E ≤ 3072) (hi : 6 * i + 6 ≤ eL E) (hW : Wi M) (hC : RepCl M X) (hR : RepMo M X) (hO : OkX X) (hN : ∀ M1 X1, Wi M1 → RepCl M1 X1 → RepMo M1 X1 → OkX X1 → G E room_1 (kL nm) (ZL E) 104 4227 1394 [some (vS 4), some (vR (0, 0, 0)), some (vR (20, 0, 0)), some (vI (nI (6 * i)))] [] M1) : G E room_1 (kL nm) (ZL E) 104 4227 1371 [some (vS 4), some (vR (0, 0, 0)), some (vR (20, 0, 0)), some (vI (nI (6 * i)))] [] M := by
  refine g_aloadR_n dXL_law_1371 rfl rfl ?_
  refine g_aloadS_n dXL_law_1372 rfl rfl ?_
  refine g_iload_n dXL_law_1373 rfl rfl ?_
  refine g_iconst dXL_law_1374 (v := 1) (by decide) ?_
  refine g_iadd dXL_law_1375 ?_
  refine g_ialdX (j := 6 * i + 1) dXL_law_1376 (ixL i 1) (by omega) (by omega) ?_
  refine n_v1i (n' := 2) dXL_law_1377 mX6_status lXL_176 rfl hW vld_x0 rfl rfl ⟨Nat.le_of_ble_eq_true rfl, Nat.le_of_ble_eq_true rfl⟩ ⟨Nat.le_of_ble_eq_true rfl, Nat.le_of_ble_eq_true rfl⟩ (Nat.le_of_ble_eq_true rfl) ?_
  refine wp_X6_status (by exact hW) hC hO ?_
  refine ⟨_, rfl, ?_⟩
  refine g_aloadR_n dXL_law_1380 rfl rfl ?_
  refine g_aloadS_n dXL_law_1381 rfl rfl ?_
  refine g_iload_n dXL_law_1382 rfl rfl ?_
  refine g_iconst dXL_law_1383 (v := 1) (by decide) ?_
  refine g_iadd dXL_law_1384 ?_
  refine g_ialdX (j := 6 * i + 1) dXL_law_1385 (ixL i 1) (by omega) (by omega) ?_
  refine n_v1i (n' := 1) dXL_law_1386 mX7_status lXL_179 rfl hW vld_x20 rfl rfl ⟨Nat.le_of_ble_eq_true rfl, Nat.le_of_ble_eq_true rfl⟩ ⟨Nat.le_of_ble_eq_true rfl, Nat.le_of_ble_eq_true rfl⟩ (Nat.le_of_ble_eq_true rfl) ?_
  refine wp_X7_status (by exact hW) hR hO ?_
  refine ⟨_, rfl, ?_⟩
  refine g_icmp_eq (tgt := 1394) dXL_law_1389 (by decide) (fun c1389 => ?_) (fun c1389 => ?_)
  · exact hN _ _ hW hC hR hO
  · exact absurd rfl c1389
