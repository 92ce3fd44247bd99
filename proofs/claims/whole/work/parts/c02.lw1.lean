/-! THE LAW: a case each -/
set_option maxRecDepth 20000 in
set_option maxHeartbeats 400000 in
theorem caL_pass {E : E3} {Q : Q3} {M : M3} {i : Int} (hE : ad3 E 99 0 = b3 E) (hi : 0 ≤ i ∧ i + 5 < (L3 E : Int) ∧ (L3 E : Int) ≤ 3072) (hI : Inv M) (k : ∀ (K : M3), Inv K → G3 E YL Q 1935 [(0, vR 99 0), (1, vR 0 0), (2, vR 44 0), (3, vI i)] [] K) : G3 E YL Q 256 [(0, vR 99 0), (1, vR 0 0), (2, vR 44 0), (3, vI i)] [] M := by
  refine g3_aload_n 1 dL_law_256 rfl rfl (g3_aload_n 0 dL_law_257 rfl rfl (g3_iload_n 3 dL_law_258 rfl rfl (g3_iconst dL_law_259 (g3_iadd dL_law_260 (g3_sld hE dL_law_261 (by omega) (g3_cV1 dL_law_262 myX11_pass mlL_13 (z3 rfl) ob_0 (z3 rfl) (z3 rfl) (c3_mono (p_pass hI (sx3_rg E _)) (fun v M1 _ h1 => ?_))))))))
  obtain ⟨⟨x, rfl⟩, h2⟩ := h1
  show G3 E YL Q 265 [(0, vR 99 0), (1, vR 0 0), (2, vR 44 0), (3, vI i)] [vI x] M1
  refine g3_aload_n 2 dL_law_265 rfl rfl (g3_aload_n 0 dL_law_266 rfl rfl (g3_iload_n 3 dL_law_267 rfl rfl (g3_iconst dL_law_268 (g3_iadd dL_law_269 (g3_sld hE dL_law_270 (by omega) (g3_cV1 dL_law_271 myX12_pass mlL_17 (z3 rfl) ob_44 (z3 rfl) (z3 rfl) (c3_mono h2 (fun v2 K _ h3 => ?_))))))))
  obtain ⟨rfl, hK⟩ := h3
  show G3 E YL Q 274 [(0, vR 99 0), (1, vR 0 0), (2, vR 44 0), (3, vI i)] [vI x, vI x] K
  exact g3_same (tgt := 1935) dL_law_274 rfl (k K hK)
set_option maxRecDepth 20000 in
set_option maxHeartbeats 400000 in
theorem caL_person {E : E3} {Q : Q3} {M : M3} {i : Int} (hE : ad3 E 99 0 = b3 E) (hi : 0 ≤ i ∧ i + 5 < (L3 E : Int) ∧ (L3 E : Int) ≤ 3072) (hI : Inv M) (k : ∀ (K : M3), Inv K → G3 E YL Q 1935 [(0, vR 99 0), (1, vR 0 0), (2, vR 44 0), (3, vI i)] [] K) : G3 E YL Q 279 [(0, vR 99 0), (1, vR 0 0), (2, vR 44 0), (3, vI i)] [] M := by
  refine g3_aload_n 1 dL_law_279 rfl rfl (g3_aload_n 0 dL_law_280 rfl rfl (g3_iload_n 3 dL_law_281 rfl rfl (g3_iconst dL_law_282 (g3_iadd dL_law_283 (g3_sld hE dL_law_284 (by omega) (g3_aload_n 0 dL_law_285 rfl rfl (g3_iload_n 3 dL_law_286 rfl rfl (g3_iconst dL_law_287 (g3_iadd dL_law_288 (g3_sld hE dL_law_289 (by omega) (g3_aload_n 0 dL_law_290 rfl rfl (g3_iload_n 3 dL_law_291 rfl rfl (g3_iconst dL_law_292 (g3_iadd dL_law_293 (g3_sld hE dL_law_294 (by omega) (g3_aload_n 0 dL_law_295 rfl rfl (g3_iload_n 3 dL_law_296 rfl rfl (g3_iconst dL_law_297 (g3_iadd dL_law_298 (g3_sld hE dL_law_299 (by omega) (g3_aload_n 0 dL_law_300 rfl rfl (g3_iload_n 3 dL_law_301 rfl rfl (g3_iconst dL_law_302 (g3_iadd dL_law_303 (g3_sld hE dL_law_304 (by omega) (g3_cV5 dL_law_305 myX11_person mlL_18 (z3 rfl) ob_0 (z3 rfl) (z3 rfl) (c3_mono (p_person hI (sx3_rg E _) (sx3_rg E _) (sx3_rg E _) (sx3_rg E _) (sx3_rg E _)) (fun v M1 _ h1 => ?_))))))))))))))))))))))))))))
  obtain ⟨⟨x, rfl⟩, h2⟩ := h1
  show G3 E YL Q 308 [(0, vR 99 0), (1, vR 0 0), (2, vR 44 0), (3, vI i)] [vI x] M1
  refine g3_aload_n 2 dL_law_308 rfl rfl (g3_aload_n 0 dL_law_309 rfl rfl (g3_iload_n 3 dL_law_310 rfl rfl (g3_iconst dL_law_311 (g3_iadd dL_law_312 (g3_sld hE dL_law_313 (by omega) (g3_aload_n 0 dL_law_314 rfl rfl (g3_iload_n 3 dL_law_315 rfl rfl (g3_iconst dL_law_316 (g3_iadd dL_law_317 (g3_sld hE dL_law_318 (by omega) (g3_aload_n 0 dL_law_319 rfl rfl (g3_iload_n 3 dL_law_320 rfl rfl (g3_iconst dL_law_321 (g3_iadd dL_law_322 (g3_sld hE dL_law_323 (by omega) (g3_aload_n 0 dL_law_324 rfl rfl (g3_iload_n 3 dL_law_325 rfl rfl (g3_iconst dL_law_326 (g3_iadd dL_law_327 (g3_sld hE dL_law_328 (by omega) (g3_aload_n 0 dL_law_329 rfl rfl (g3_iload_n 3 dL_law_330 rfl rfl (g3_iconst dL_law_331 (g3_iadd dL_law_332 (g3_sld hE dL_law_333 (by omega) (g3_cV5 dL_law_334 myX12_person mlL_22 (z3 rfl) ob_44 (z3 rfl) (z3 rfl) (c3_mono h2 (fun v2 K _ h3 => ?_))))))))))))))))))))))))))))
  obtain ⟨rfl, hK⟩ := h3
  show G3 E YL Q 337 [(0, vR 99 0), (1, vR 0 0), (2, vR 44 0), (3, vI i)] [vI x, vI x] K
  exact g3_same (tgt := 1935) dL_law_337 rfl (k K hK)
set_option maxRecDepth 20000 in
set_option maxHeartbeats 400000 in
theorem caL_about {E : E3} {Q : Q3} {M : M3} {i : Int} (hE : ad3 E 99 0 = b3 E) (hi : 0 ≤ i ∧ i + 5 < (L3 E : Int) ∧ (L3 E : Int) ≤ 3072) (hI : Inv M) (k : ∀ (K : M3), Inv K → G3 E YL Q 1935 [(0, vR 99 0), (1, vR 0 0), (2, vR 44 0), (3, vI i)] [] K) : G3 E YL Q 342 [(0, vR 99 0), (1, vR 0 0), (2, vR 44 0), (3, vI i)] [] M := by
  refine g3_aload_n 1 dL_law_342 rfl rfl (g3_aload_n 0 dL_law_343 rfl rfl (g3_iload_n 3 dL_law_344 rfl rfl (g3_iconst dL_law_345 (g3_iadd dL_law_346 (g3_sld hE dL_law_347 (by omega) (g3_aload_n 0 dL_law_348 rfl rfl (g3_iload_n 3 dL_law_349 rfl rfl (g3_iconst dL_law_350 (g3_iadd dL_law_351 (g3_sld hE dL_law_352 (by omega) (g3_cV2 dL_law_353 myX11_about mlL_23 (z3 rfl) ob_0 (z3 rfl) (z3 rfl) (c3_mono (p_about hI (sx3_rg E _) (sx3_rg E _)) (fun v M1 _ h1 => ?_)))))))))))))
  obtain ⟨⟨x, rfl⟩, h2⟩ := h1
  show G3 E YL Q 356 [(0, vR 99 0), (1, vR 0 0), (2, vR 44 0), (3, vI i)] [vI x] M1
  refine g3_aload_n 2 dL_law_356 rfl rfl (g3_aload_n 0 dL_law_357 rfl rfl (g3_iload_n 3 dL_law_358 rfl rfl (g3_iconst dL_law_359 (g3_iadd dL_law_360 (g3_sld hE dL_law_361 (by omega) (g3_aload_n 0 dL_law_362 rfl rfl (g3_iload_n 3 dL_law_363 rfl rfl (g3_iconst dL_law_364 (g3_iadd dL_law_365 (g3_sld hE dL_law_366 (by omega) (g3_cV2 dL_law_367 myX12_about mlL_27 (z3 rfl) ob_44 (z3 rfl) (z3 rfl) (c3_mono h2 (fun v2 K _ h3 => ?_)))))))))))))
  obtain ⟨rfl, hK⟩ := h3
  show G3 E YL Q 370 [(0, vR 99 0), (1, vR 0 0), (2, vR 44 0), (3, vI i)] [vI x, vI x] K
  exact g3_same (tgt := 1935) dL_law_370 rfl (k K hK)
set_option maxRecDepth 20000 in
set_option maxHeartbeats 400000 in
theorem caL_put {E : E3} {Q : Q3} {M : M3} {i : Int} (hE : ad3 E 99 0 = b3 E) (hi : 0 ≤ i ∧ i + 5 < (L3 E : Int) ∧ (L3 E : Int) ≤ 3072) (hI : Inv M) (k : ∀ (K : M3), Inv K → G3 E YL Q 1935 [(0, vR 99 0), (1, vR 0 0), (2, vR 44 0), (3, vI i)] [] K) : G3 E YL Q 375 [(0, vR 99 0), (1, vR 0 0), (2, vR 44 0), (3, vI i)] [] M := by
  refine g3_aload_n 1 dL_law_375 rfl rfl (g3_aload_n 0 dL_law_376 rfl rfl (g3_iload_n 3 dL_law_377 rfl rfl (g3_iconst dL_law_378 (g3_iadd dL_law_379 (g3_sld hE dL_law_380 (by omega) (g3_aload_n 0 dL_law_381 rfl rfl (g3_iload_n 3 dL_law_382 rfl rfl (g3_iconst dL_law_383 (g3_iadd dL_law_384 (g3_sld hE dL_law_385 (by omega) (g3_cV2 dL_law_386 myX11_put mlL_28 (z3 rfl) ob_0 (z3 rfl) (z3 rfl) (c3_mono (p_put hI (sx3_rg E _) (sx3_rg E _)) (fun v M1 _ h1 => ?_)))))))))))))
  obtain ⟨⟨x, rfl⟩, h2⟩ := h1
  show G3 E YL Q 389 [(0, vR 99 0), (1, vR 0 0), (2, vR 44 0), (3, vI i)] [vI x] M1
  refine g3_aload_n 2 dL_law_389 rfl rfl (g3_aload_n 0 dL_law_390 rfl rfl (g3_iload_n 3 dL_law_391 rfl rfl (g3_iconst dL_law_392 (g3_iadd dL_law_393 (g3_sld hE dL_law_394 (by omega) (g3_aload_n 0 dL_law_395 rfl rfl (g3_iload_n 3 dL_law_396 rfl rfl (g3_iconst dL_law_397 (g3_iadd dL_law_398 (g3_sld hE dL_law_399 (by omega) (g3_cV2 dL_law_400 myX12_put mlL_31 (z3 rfl) ob_44 (z3 rfl) (z3 rfl) (c3_mono h2 (fun v2 K _ h3 => ?_)))))))))))))
  obtain ⟨rfl, hK⟩ := h3
  show G3 E YL Q 403 [(0, vR 99 0), (1, vR 0 0), (2, vR 44 0), (3, vI i)] [vI x, vI x] K
  exact g3_same (tgt := 1935) dL_law_403 rfl (k K hK)
set_option maxRecDepth 20000 in
set_option maxHeartbeats 400000 in
theorem caL_move {E : E3} {Q : Q3} {M : M3} {i : Int} (hE : ad3 E 99 0 = b3 E) (hi : 0 ≤ i ∧ i + 5 < (L3 E : Int) ∧ (L3 E : Int) ≤ 3072) (hI : Inv M) (k : ∀ (K : M3), Inv K → G3 E YL Q 1935 [(0, vR 99 0), (1, vR 0 0), (2, vR 44 0), (3, vI i)] [] K) : G3 E YL Q 408 [(0, vR 99 0), (1, vR 0 0), (2, vR 44 0), (3, vI i)] [] M := by
  refine g3_aload_n 1 dL_law_408 rfl rfl (g3_aload_n 0 dL_law_409 rfl rfl (g3_iload_n 3 dL_law_410 rfl rfl (g3_iconst dL_law_411 (g3_iadd dL_law_412 (g3_sld hE dL_law_413 (by omega) (g3_aload_n 0 dL_law_414 rfl rfl (g3_iload_n 3 dL_law_415 rfl rfl (g3_iconst dL_law_416 (g3_iadd dL_law_417 (g3_sld hE dL_law_418 (by omega) (g3_cV2 dL_law_419 myX11_move mlL_32 (z3 rfl) ob_0 (z3 rfl) (z3 rfl) (c3_mono (p_move hI (sx3_rg E _) (sx3_rg E _)) (fun v M1 _ h1 => ?_)))))))))))))
  obtain ⟨⟨x, rfl⟩, h2⟩ := h1
  show G3 E YL Q 422 [(0, vR 99 0), (1, vR 0 0), (2, vR 44 0), (3, vI i)] [vI x] M1
  refine g3_aload_n 2 dL_law_422 rfl rfl (g3_aload_n 0 dL_law_423 rfl rfl (g3_iload_n 3 dL_law_424 rfl rfl (g3_iconst dL_law_425 (g3_iadd dL_law_426 (g3_sld hE dL_law_427 (by omega) (g3_aload_n 0 dL_law_428 rfl rfl (g3_iload_n 3 dL_law_429 rfl rfl (g3_iconst dL_law_430 (g3_iadd dL_law_431 (g3_sld hE dL_law_432 (by omega) (g3_cV2 dL_law_433 myX12_move mlL_35 (z3 rfl) ob_44 (z3 rfl) (z3 rfl) (c3_mono h2 (fun v2 K _ h3 => ?_)))))))))))))
  obtain ⟨rfl, hK⟩ := h3
  show G3 E YL Q 436 [(0, vR 99 0), (1, vR 0 0), (2, vR 44 0), (3, vI i)] [vI x, vI x] K
  exact g3_same (tgt := 1935) dL_law_436 rfl (k K hK)
set_option maxRecDepth 20000 in
set_option maxHeartbeats 400000 in
theorem caL_harsh {E : E3} {Q : Q3} {M : M3} {i : Int} (hE : ad3 E 99 0 = b3 E) (hi : 0 ≤ i ∧ i + 5 < (L3 E : Int) ∧ (L3 E : Int) ≤ 3072) (hI : Inv M) (k : ∀ (K : M3), Inv K → G3 E YL Q 1935 [(0, vR 99 0), (1, vR 0 0), (2, vR 44 0), (3, vI i)] [] K) : G3 E YL Q 441 [(0, vR 99 0), (1, vR 0 0), (2, vR 44 0), (3, vI i)] [] M := by
  refine g3_aload_n 1 dL_law_441 rfl rfl (g3_aload_n 0 dL_law_442 rfl rfl (g3_iload_n 3 dL_law_443 rfl rfl (g3_iconst dL_law_444 (g3_iadd dL_law_445 (g3_sld hE dL_law_446 (by omega) (g3_aload_n 0 dL_law_447 rfl rfl (g3_iload_n 3 dL_law_448 rfl rfl (g3_iconst dL_law_449 (g3_iadd dL_law_450 (g3_sld hE dL_law_451 (by omega) (g3_cV2 dL_law_452 myX11_harsh mlL_36 (z3 rfl) ob_0 (z3 rfl) (z3 rfl) (c3_mono (p_harsh hI (sx3_rg E _) (sx3_rg E _)) (fun v M1 _ h1 => ?_)))))))))))))
  obtain ⟨⟨x, rfl⟩, h2⟩ := h1
  show G3 E YL Q 455 [(0, vR 99 0), (1, vR 0 0), (2, vR 44 0), (3, vI i)] [vI x] M1
  refine g3_aload_n 2 dL_law_455 rfl rfl (g3_aload_n 0 dL_law_456 rfl rfl (g3_iload_n 3 dL_law_457 rfl rfl (g3_iconst dL_law_458 (g3_iadd dL_law_459 (g3_sld hE dL_law_460 (by omega) (g3_aload_n 0 dL_law_461 rfl rfl (g3_iload_n 3 dL_law_462 rfl rfl (g3_iconst dL_law_463 (g3_iadd dL_law_464 (g3_sld hE dL_law_465 (by omega) (g3_cV2 dL_law_466 myX12_harsh mlL_39 (z3 rfl) ob_44 (z3 rfl) (z3 rfl) (c3_mono h2 (fun v2 K _ h3 => ?_)))))))))))))
  obtain ⟨rfl, hK⟩ := h3
  show G3 E YL Q 469 [(0, vR 99 0), (1, vR 0 0), (2, vR 44 0), (3, vI i)] [vI x, vI x] K
  exact g3_same (tgt := 1935) dL_law_469 rfl (k K hK)
set_option maxRecDepth 20000 in
set_option maxHeartbeats 400000 in
theorem caL_roll {E : E3} {Q : Q3} {M : M3} {i : Int} (hE : ad3 E 99 0 = b3 E) (hi : 0 ≤ i ∧ i + 5 < (L3 E : Int) ∧ (L3 E : Int) ≤ 3072) (hI : Inv M) (k : ∀ (K : M3), Inv K → G3 E YL Q 1935 [(0, vR 99 0), (1, vR 0 0), (2, vR 44 0), (3, vI i)] [] K) : G3 E YL Q 474 [(0, vR 99 0), (1, vR 0 0), (2, vR 44 0), (3, vI i)] [] M := by
  refine g3_aload_n 1 dL_law_474 rfl rfl (g3_aload_n 0 dL_law_475 rfl rfl (g3_iload_n 3 dL_law_476 rfl rfl (g3_iconst dL_law_477 (g3_iadd dL_law_478 (g3_sld hE dL_law_479 (by omega) (g3_aload_n 0 dL_law_480 rfl rfl (g3_iload_n 3 dL_law_481 rfl rfl (g3_iconst dL_law_482 (g3_iadd dL_law_483 (g3_sld hE dL_law_484 (by omega) (g3_aload_n 0 dL_law_485 rfl rfl (g3_iload_n 3 dL_law_486 rfl rfl (g3_iconst dL_law_487 (g3_iadd dL_law_488 (g3_sld hE dL_law_489 (by omega) (g3_cV3 dL_law_490 myX11_roll mlL_40 (z3 rfl) ob_0 (z3 rfl) (z3 rfl) (c3_mono (p_roll hI (sx3_rg E _) (sx3_rg E _) (sx3_rg E _)) (fun v M1 _ h1 => ?_))))))))))))))))))
  obtain ⟨⟨x, rfl⟩, h2⟩ := h1
  show G3 E YL Q 493 [(0, vR 99 0), (1, vR 0 0), (2, vR 44 0), (3, vI i)] [vI x] M1
  refine g3_aload_n 2 dL_law_493 rfl rfl (g3_aload_n 0 dL_law_494 rfl rfl (g3_iload_n 3 dL_law_495 rfl rfl (g3_iconst dL_law_496 (g3_iadd dL_law_497 (g3_sld hE dL_law_498 (by omega) (g3_aload_n 0 dL_law_499 rfl rfl (g3_iload_n 3 dL_law_500 rfl rfl (g3_iconst dL_law_501 (g3_iadd dL_law_502 (g3_sld hE dL_law_503 (by omega) (g3_aload_n 0 dL_law_504 rfl rfl (g3_iload_n 3 dL_law_505 rfl rfl (g3_iconst dL_law_506 (g3_iadd dL_law_507 (g3_sld hE dL_law_508 (by omega) (g3_cV3 dL_law_509 myX12_roll mlL_44 (z3 rfl) ob_44 (z3 rfl) (z3 rfl) (c3_mono h2 (fun v2 K _ h3 => ?_))))))))))))))))))
  obtain ⟨rfl, hK⟩ := h3
  show G3 E YL Q 512 [(0, vR 99 0), (1, vR 0 0), (2, vR 44 0), (3, vI i)] [vI x, vI x] K
  exact g3_same (tgt := 1935) dL_law_512 rfl (k K hK)
set_option maxRecDepth 20000 in
set_option maxHeartbeats 400000 in
theorem caL_type {E : E3} {Q : Q3} {M : M3} {i : Int} (hE : ad3 E 99 0 = b3 E) (hi : 0 ≤ i ∧ i + 5 < (L3 E : Int) ∧ (L3 E : Int) ≤ 3072) (hI : Inv M) (k : ∀ (K : M3), Inv K → G3 E YL Q 1935 [(0, vR 99 0), (1, vR 0 0), (2, vR 44 0), (3, vI i)] [] K) : G3 E YL Q 517 [(0, vR 99 0), (1, vR 0 0), (2, vR 44 0), (3, vI i)] [] M := by
  refine g3_aload_n 1 dL_law_517 rfl rfl (g3_aload_n 0 dL_law_518 rfl rfl (g3_iload_n 3 dL_law_519 rfl rfl (g3_iconst dL_law_520 (g3_iadd dL_law_521 (g3_sld hE dL_law_522 (by omega) (g3_cV1 dL_law_523 myX11_type mlL_45 (z3 rfl) ob_0 (z3 rfl) (z3 rfl) (c3_mono (p_type hI (sx3_rg E _)) (fun v M1 _ h1 => ?_))))))))
  obtain ⟨⟨x, rfl⟩, h2⟩ := h1
  show G3 E YL Q 526 [(0, vR 99 0), (1, vR 0 0), (2, vR 44 0), (3, vI i)] [vI x] M1
  refine g3_aload_n 2 dL_law_526 rfl rfl (g3_aload_n 0 dL_law_527 rfl rfl (g3_iload_n 3 dL_law_528 rfl rfl (g3_iconst dL_law_529 (g3_iadd dL_law_530 (g3_sld hE dL_law_531 (by omega) (g3_cV1 dL_law_532 myX12_type mlL_48 (z3 rfl) ob_44 (z3 rfl) (z3 rfl) (c3_mono h2 (fun v2 K _ h3 => ?_))))))))
  obtain ⟨rfl, hK⟩ := h3
  show G3 E YL Q 535 [(0, vR 99 0), (1, vR 0 0), (2, vR 44 0), (3, vI i)] [vI x, vI x] K
  exact g3_same (tgt := 1935) dL_law_535 rfl (k K hK)
set_option maxRecDepth 20000 in
set_option maxHeartbeats 400000 in
theorem caL_wipe {E : E3} {Q : Q3} {M : M3} {i : Int} (hE : ad3 E 99 0 = b3 E) (hi : 0 ≤ i ∧ i + 5 < (L3 E : Int) ∧ (L3 E : Int) ≤ 3072) (hI : Inv M) (k : ∀ (K : M3), Inv K → G3 E YL Q 1935 [(0, vR 99 0), (1, vR 0 0), (2, vR 44 0), (3, vI i)] [] K) : G3 E YL Q 540 [(0, vR 99 0), (1, vR 0 0), (2, vR 44 0), (3, vI i)] [] M := by
  refine g3_aload_n 1 dL_law_540 rfl rfl (g3_cV0 dL_law_541 myX11_wipe mlL_49 (z3 rfl) ob_0 (z3 rfl) (z3 rfl) (c3_mono (p_wipe hI ) (fun v M1 _ h1 => ?_)))
  obtain ⟨⟨x, rfl⟩, h2⟩ := h1
  show G3 E YL Q 544 [(0, vR 99 0), (1, vR 0 0), (2, vR 44 0), (3, vI i)] [vI x] M1
  refine g3_aload_n 2 dL_law_544 rfl rfl (g3_cV0 dL_law_545 myX12_wipe mlL_53 (z3 rfl) ob_44 (z3 rfl) (z3 rfl) (c3_mono h2 (fun v2 K _ h3 => ?_)))
  obtain ⟨rfl, hK⟩ := h3
  show G3 E YL Q 548 [(0, vR 99 0), (1, vR 0 0), (2, vR 44 0), (3, vI i)] [vI x, vI x] K
  exact g3_same (tgt := 1935) dL_law_548 rfl (k K hK)
set_option maxRecDepth 20000 in
set_option maxHeartbeats 400000 in
theorem caL_fault {E : E3} {Q : Q3} {M : M3} {i : Int} (hE : ad3 E 99 0 = b3 E) (hi : 0 ≤ i ∧ i + 5 < (L3 E : Int) ∧ (L3 E : Int) ≤ 3072) (hI : Inv M) (k : ∀ (K : M3), Inv K → G3 E YL Q 1935 [(0, vR 99 0), (1, vR 0 0), (2, vR 44 0), (3, vI i)] [] K) : G3 E YL Q 553 [(0, vR 99 0), (1, vR 0 0), (2, vR 44 0), (3, vI i)] [] M := by
  refine g3_aload_n 1 dL_law_553 rfl rfl (g3_cV0 dL_law_554 myX11_fault mlL_54 (z3 rfl) ob_0 (z3 rfl) (z3 rfl) (c3_mono (p_fault hI ) (fun v M1 _ h1 => ?_)))
  obtain ⟨⟨x, rfl⟩, h2⟩ := h1
  show G3 E YL Q 557 [(0, vR 99 0), (1, vR 0 0), (2, vR 44 0), (3, vI i)] [vI x] M1
  refine g3_aload_n 2 dL_law_557 rfl rfl (g3_cV0 dL_law_558 myX12_fault mlL_57 (z3 rfl) ob_44 (z3 rfl) (z3 rfl) (c3_mono h2 (fun v2 K _ h3 => ?_)))
  obtain ⟨rfl, hK⟩ := h3
  show G3 E YL Q 561 [(0, vR 99 0), (1, vR 0 0), (2, vR 44 0), (3, vI i)] [vI x, vI x] K
  exact g3_same (tgt := 1935) dL_law_561 rfl (k K hK)
set_option maxRecDepth 20000 in
set_option maxHeartbeats 400000 in
theorem caL_right {E : E3} {Q : Q3} {M : M3} {i : Int} (hE : ad3 E 99 0 = b3 E) (hi : 0 ≤ i ∧ i + 5 < (L3 E : Int) ∧ (L3 E : Int) ≤ 3072) (hI : Inv M) (k : ∀ (K : M3), Inv K → G3 E YL Q 1935 [(0, vR 99 0), (1, vR 0 0), (2, vR 44 0), (3, vI i)] [] K) : G3 E YL Q 566 [(0, vR 99 0), (1, vR 0 0), (2, vR 44 0), (3, vI i)] [] M := by
  refine g3_aload_n 1 dL_law_566 rfl rfl (g3_aload_n 0 dL_law_567 rfl rfl (g3_iload_n 3 dL_law_568 rfl rfl (g3_iconst dL_law_569 (g3_iadd dL_law_570 (g3_sld hE dL_law_571 (by omega) (g3_aload_n 0 dL_law_572 rfl rfl (g3_iload_n 3 dL_law_573 rfl rfl (g3_iconst dL_law_574 (g3_iadd dL_law_575 (g3_sld hE dL_law_576 (by omega) (g3_cV2 dL_law_577 myX11_right mlL_58 (z3 rfl) ob_0 (z3 rfl) (z3 rfl) (c3_mono (p_right hI (sx3_rg E _) (sx3_rg E _)) (fun v M1 _ h1 => ?_)))))))))))))
  obtain ⟨⟨x, rfl⟩, h2⟩ := h1
  show G3 E YL Q 580 [(0, vR 99 0), (1, vR 0 0), (2, vR 44 0), (3, vI i)] [vI x] M1
  refine g3_aload_n 2 dL_law_580 rfl rfl (g3_aload_n 0 dL_law_581 rfl rfl (g3_iload_n 3 dL_law_582 rfl rfl (g3_iconst dL_law_583 (g3_iadd dL_law_584 (g3_sld hE dL_law_585 (by omega) (g3_aload_n 0 dL_law_586 rfl rfl (g3_iload_n 3 dL_law_587 rfl rfl (g3_iconst dL_law_588 (g3_iadd dL_law_589 (g3_sld hE dL_law_590 (by omega) (g3_cV2 dL_law_591 myX12_right mlL_61 (z3 rfl) ob_44 (z3 rfl) (z3 rfl) (c3_mono h2 (fun v2 K _ h3 => ?_)))))))))))))
  obtain ⟨rfl, hK⟩ := h3
  show G3 E YL Q 594 [(0, vR 99 0), (1, vR 0 0), (2, vR 44 0), (3, vI i)] [vI x, vI x] K
  exact g3_same (tgt := 1935) dL_law_594 rfl (k K hK)
set_option maxRecDepth 20000 in
set_option maxHeartbeats 400000 in
theorem caL_law {E : E3} {Q : Q3} {M : M3} {i : Int} (hE : ad3 E 99 0 = b3 E) (hi : 0 ≤ i ∧ i + 5 < (L3 E : Int) ∧ (L3 E : Int) ≤ 3072) (hI : Inv M) (k : ∀ (K : M3), Inv K → G3 E YL Q 1935 [(0, vR 99 0), (1, vR 0 0), (2, vR 44 0), (3, vI i)] [] K) : G3 E YL Q 599 [(0, vR 99 0), (1, vR 0 0), (2, vR 44 0), (3, vI i)] [] M := by
  refine g3_aload_n 1 dL_law_599 rfl rfl (g3_aload_n 0 dL_law_600 rfl rfl (g3_iload_n 3 dL_law_601 rfl rfl (g3_iconst dL_law_602 (g3_iadd dL_law_603 (g3_sld hE dL_law_604 (by omega) (g3_aload_n 0 dL_law_605 rfl rfl (g3_iload_n 3 dL_law_606 rfl rfl (g3_iconst dL_law_607 (g3_iadd dL_law_608 (g3_sld hE dL_law_609 (by omega) (g3_cV2 dL_law_610 myX11_law mlL_62 (z3 rfl) ob_0 (z3 rfl) (z3 rfl) (c3_mono (p_law hI (sx3_rg E _) (sx3_rg E _)) (fun v M1 _ h1 => ?_)))))))))))))
  obtain ⟨⟨x, rfl⟩, h2⟩ := h1
  show G3 E YL Q 613 [(0, vR 99 0), (1, vR 0 0), (2, vR 44 0), (3, vI i)] [vI x] M1
  refine g3_aload_n 2 dL_law_613 rfl rfl (g3_aload_n 0 dL_law_614 rfl rfl (g3_iload_n 3 dL_law_615 rfl rfl (g3_iconst dL_law_616 (g3_iadd dL_law_617 (g3_sld hE dL_law_618 (by omega) (g3_aload_n 0 dL_law_619 rfl rfl (g3_iload_n 3 dL_law_620 rfl rfl (g3_iconst dL_law_621 (g3_iadd dL_law_622 (g3_sld hE dL_law_623 (by omega) (g3_cV2 dL_law_624 myX12_law mlL_65 (z3 rfl) ob_44 (z3 rfl) (z3 rfl) (c3_mono h2 (fun v2 K _ h3 => ?_)))))))))))))
  obtain ⟨rfl, hK⟩ := h3
  show G3 E YL Q 627 [(0, vR 99 0), (1, vR 0 0), (2, vR 44 0), (3, vI i)] [vI x, vI x] K
  exact g3_same (tgt := 1935) dL_law_627 rfl (k K hK)
set_option maxRecDepth 20000 in
set_option maxHeartbeats 400000 in
theorem caL_why {E : E3} {Q : Q3} {M : M3} {i : Int} (hE : ad3 E 99 0 = b3 E) (hi : 0 ≤ i ∧ i + 5 < (L3 E : Int) ∧ (L3 E : Int) ≤ 3072) (hI : Inv M) (k : ∀ (K : M3), Inv K → G3 E YL Q 1935 [(0, vR 99 0), (1, vR 0 0), (2, vR 44 0), (3, vI i)] [] K) : G3 E YL Q 632 [(0, vR 99 0), (1, vR 0 0), (2, vR 44 0), (3, vI i)] [] M := by
  refine g3_aload_n 1 dL_law_632 rfl rfl (g3_aload_n 0 dL_law_633 rfl rfl (g3_iload_n 3 dL_law_634 rfl rfl (g3_iconst dL_law_635 (g3_iadd dL_law_636 (g3_sld hE dL_law_637 (by omega) (g3_aload_n 0 dL_law_638 rfl rfl (g3_iload_n 3 dL_law_639 rfl rfl (g3_iconst dL_law_640 (g3_iadd dL_law_641 (g3_sld hE dL_law_642 (by omega) (g3_cV2 dL_law_643 myX11_why mlL_66 (z3 rfl) ob_0 (z3 rfl) (z3 rfl) (c3_mono (p_why hI (sx3_rg E _) (sx3_rg E _)) (fun v M1 _ h1 => ?_)))))))))))))
  obtain ⟨⟨x, rfl⟩, h2⟩ := h1
  show G3 E YL Q 646 [(0, vR 99 0), (1, vR 0 0), (2, vR 44 0), (3, vI i)] [vI x] M1
  refine g3_aload_n 2 dL_law_646 rfl rfl (g3_aload_n 0 dL_law_647 rfl rfl (g3_iload_n 3 dL_law_648 rfl rfl (g3_iconst dL_law_649 (g3_iadd dL_law_650 (g3_sld hE dL_law_651 (by omega) (g3_aload_n 0 dL_law_652 rfl rfl (g3_iload_n 3 dL_law_653 rfl rfl (g3_iconst dL_law_654 (g3_iadd dL_law_655 (g3_sld hE dL_law_656 (by omega) (g3_cV2 dL_law_657 myX12_why mlL_69 (z3 rfl) ob_44 (z3 rfl) (z3 rfl) (c3_mono h2 (fun v2 K _ h3 => ?_)))))))))))))
  obtain ⟨rfl, hK⟩ := h3
  show G3 E YL Q 660 [(0, vR 99 0), (1, vR 0 0), (2, vR 44 0), (3, vI i)] [vI x, vI x] K
  exact g3_same (tgt := 1935) dL_law_660 rfl (k K hK)
set_option maxRecDepth 20000 in
set_option maxHeartbeats 400000 in
theorem caL_form {E : E3} {Q : Q3} {M : M3} {i : Int} (hE : ad3 E 99 0 = b3 E) (hi : 0 ≤ i ∧ i + 5 < (L3 E : Int) ∧ (L3 E : Int) ≤ 3072) (hI : Inv M) (k : ∀ (K : M3), Inv K → G3 E YL Q 1935 [(0, vR 99 0), (1, vR 0 0), (2, vR 44 0), (3, vI i)] [] K) : G3 E YL Q 665 [(0, vR 99 0), (1, vR 0 0), (2, vR 44 0), (3, vI i)] [] M := by
  refine g3_aload_n 1 dL_law_665 rfl rfl (g3_aload_n 0 dL_law_666 rfl rfl (g3_iload_n 3 dL_law_667 rfl rfl (g3_iconst dL_law_668 (g3_iadd dL_law_669 (g3_sld hE dL_law_670 (by omega) (g3_aload_n 0 dL_law_671 rfl rfl (g3_iload_n 3 dL_law_672 rfl rfl (g3_iconst dL_law_673 (g3_iadd dL_law_674 (g3_sld hE dL_law_675 (by omega) (g3_cV2 dL_law_676 myX11_form mlL_70 (z3 rfl) ob_0 (z3 rfl) (z3 rfl) (c3_mono (p_form hI (sx3_rg E _) (sx3_rg E _)) (fun v M1 _ h1 => ?_)))))))))))))
  obtain ⟨⟨x, rfl⟩, h2⟩ := h1
  show G3 E YL Q 679 [(0, vR 99 0), (1, vR 0 0), (2, vR 44 0), (3, vI i)] [vI x] M1
  refine g3_aload_n 2 dL_law_679 rfl rfl (g3_aload_n 0 dL_law_680 rfl rfl (g3_iload_n 3 dL_law_681 rfl rfl (g3_iconst dL_law_682 (g3_iadd dL_law_683 (g3_sld hE dL_law_684 (by omega) (g3_aload_n 0 dL_law_685 rfl rfl (g3_iload_n 3 dL_law_686 rfl rfl (g3_iconst dL_law_687 (g3_iadd dL_law_688 (g3_sld hE dL_law_689 (by omega) (g3_cV2 dL_law_690 myX12_form mlL_73 (z3 rfl) ob_44 (z3 rfl) (z3 rfl) (c3_mono h2 (fun v2 K _ h3 => ?_)))))))))))))
  obtain ⟨rfl, hK⟩ := h3
  show G3 E YL Q 693 [(0, vR 99 0), (1, vR 0 0), (2, vR 44 0), (3, vI i)] [vI x, vI x] K
  exact g3_same (tgt := 1935) dL_law_693 rfl (k K hK)
set_option maxRecDepth 20000 in
set_option maxHeartbeats 400000 in
theorem caL_read {E : E3} {Q : Q3} {M : M3} {i : Int} (hE : ad3 E 99 0 = b3 E) (hi : 0 ≤ i ∧ i + 5 < (L3 E : Int) ∧ (L3 E : Int) ≤ 3072) (hI : Inv M) (k : ∀ (K : M3), Inv K → G3 E YL Q 1935 [(0, vR 99 0), (1, vR 0 0), (2, vR 44 0), (3, vI i)] [] K) : G3 E YL Q 698 [(0, vR 99 0), (1, vR 0 0), (2, vR 44 0), (3, vI i)] [] M := by
  by_cases z : sx3 E (i + 3) = 0
  · refine g3_aload_n 1 dL_law_698 rfl rfl (g3_aload_n 0 dL_law_699 rfl rfl (g3_iload_n 3 dL_law_700 rfl rfl (g3_iconst dL_law_701 (g3_iadd dL_law_702 (g3_sld hE dL_law_703 (by omega) (g3_aload_n 0 dL_law_704 rfl rfl (g3_iload_n 3 dL_law_705 rfl rfl (g3_iconst dL_law_706 (g3_iadd dL_law_707 (g3_sld hE dL_law_708 (by omega) (g3_aload_n 0 dL_law_709 rfl rfl (g3_iload_n 3 dL_law_710 rfl rfl (g3_iconst dL_law_711 (g3_iadd dL_law_712 (g3_sld hE dL_law_713 (by omega) (g3_if_eq_T (tgt := 721) dL_law_714 rfl ⟨(sx3_rg E _).1, (sx3_rg E _).2, z⟩ (g3_iconst dL_law_721 (g3_aload_n 0 dL_law_722 rfl rfl (g3_iload_n 3 dL_law_723 rfl rfl (g3_iconst dL_law_724 (g3_iadd dL_law_725 (g3_sld hE dL_law_726 (by omega) (g3_cV4 dL_law_727 myX11_read mlL_74 (z3 rfl) ob_0 (z3 rfl) (z3 rfl) (c3_mono (p_read hI (sx3_rg E _) (sx3_rg E _) (Or.inl rfl) (sx3_rg E _)) (fun v M1 _ h1 => ?_)))))))))))))))))))))))))
    obtain ⟨⟨x, rfl⟩, h2⟩ := h1
    show G3 E YL Q 730 [(0, vR 99 0), (1, vR 0 0), (2, vR 44 0), (3, vI i)] [vI x] M1
    refine g3_aload_n 2 dL_law_730 rfl rfl (g3_aload_n 0 dL_law_731 rfl rfl (g3_iload_n 3 dL_law_732 rfl rfl (g3_iconst dL_law_733 (g3_iadd dL_law_734 (g3_sld hE dL_law_735 (by omega) (g3_aload_n 0 dL_law_736 rfl rfl (g3_iload_n 3 dL_law_737 rfl rfl (g3_iconst dL_law_738 (g3_iadd dL_law_739 (g3_sld hE dL_law_740 (by omega) (g3_aload_n 0 dL_law_741 rfl rfl (g3_iload_n 3 dL_law_742 rfl rfl (g3_iconst dL_law_743 (g3_iadd dL_law_744 (g3_sld hE dL_law_745 (by omega) (g3_if_eq_T (tgt := 753) dL_law_746 rfl ⟨(sx3_rg E _).1, (sx3_rg E _).2, z⟩ (g3_iconst dL_law_753 (g3_aload_n 0 dL_law_754 rfl rfl (g3_iload_n 3 dL_law_755 rfl rfl (g3_iconst dL_law_756 (g3_iadd dL_law_757 (g3_sld hE dL_law_758 (by omega) (g3_cV4 dL_law_759 myX12_read mlL_78 (z3 rfl) ob_44 (z3 rfl) (z3 rfl) (c3_mono h2 (fun v2 K _ h3 => ?_)))))))))))))))))))))))))
    obtain ⟨rfl, hK⟩ := h3
    show G3 E YL Q 762 [(0, vR 99 0), (1, vR 0 0), (2, vR 44 0), (3, vI i)] [vI x, vI x] K
    exact g3_same (tgt := 1935) dL_law_762 rfl (k K hK)
  · refine g3_aload_n 1 dL_law_698 rfl rfl (g3_aload_n 0 dL_law_699 rfl rfl (g3_iload_n 3 dL_law_700 rfl rfl (g3_iconst dL_law_701 (g3_iadd dL_law_702 (g3_sld hE dL_law_703 (by omega) (g3_aload_n 0 dL_law_704 rfl rfl (g3_iload_n 3 dL_law_705 rfl rfl (g3_iconst dL_law_706 (g3_iadd dL_law_707 (g3_sld hE dL_law_708 (by omega) (g3_aload_n 0 dL_law_709 rfl rfl (g3_iload_n 3 dL_law_710 rfl rfl (g3_iconst dL_law_711 (g3_iadd dL_law_712 (g3_sld hE dL_law_713 (by omega) (g3_if_eq_F dL_law_714 (tgt := 721) rfl ⟨(sx3_rg E _).1, (sx3_rg E _).2, z⟩ (g3_iconst dL_law_717 (g3_goto (tgt := 722) dL_law_718 rfl (g3_aload_n 0 dL_law_722 rfl rfl (g3_iload_n 3 dL_law_723 rfl rfl (g3_iconst dL_law_724 (g3_iadd dL_law_725 (g3_sld hE dL_law_726 (by omega) (g3_cV4 dL_law_727 myX11_read mlL_74 (z3 rfl) ob_0 (z3 rfl) (z3 rfl) (c3_mono (p_read hI (sx3_rg E _) (sx3_rg E _) (Or.inr rfl) (sx3_rg E _)) (fun v M1 _ h1 => ?_))))))))))))))))))))))))))
    obtain ⟨⟨x, rfl⟩, h2⟩ := h1
    show G3 E YL Q 730 [(0, vR 99 0), (1, vR 0 0), (2, vR 44 0), (3, vI i)] [vI x] M1
    refine g3_aload_n 2 dL_law_730 rfl rfl (g3_aload_n 0 dL_law_731 rfl rfl (g3_iload_n 3 dL_law_732 rfl rfl (g3_iconst dL_law_733 (g3_iadd dL_law_734 (g3_sld hE dL_law_735 (by omega) (g3_aload_n 0 dL_law_736 rfl rfl (g3_iload_n 3 dL_law_737 rfl rfl (g3_iconst dL_law_738 (g3_iadd dL_law_739 (g3_sld hE dL_law_740 (by omega) (g3_aload_n 0 dL_law_741 rfl rfl (g3_iload_n 3 dL_law_742 rfl rfl (g3_iconst dL_law_743 (g3_iadd dL_law_744 (g3_sld hE dL_law_745 (by omega) (g3_if_eq_F dL_law_746 (tgt := 753) rfl ⟨(sx3_rg E _).1, (sx3_rg E _).2, z⟩ (g3_iconst dL_law_749 (g3_goto (tgt := 754) dL_law_750 rfl (g3_aload_n 0 dL_law_754 rfl rfl (g3_iload_n 3 dL_law_755 rfl rfl (g3_iconst dL_law_756 (g3_iadd dL_law_757 (g3_sld hE dL_law_758 (by omega) (g3_cV4 dL_law_759 myX12_read mlL_78 (z3 rfl) ob_44 (z3 rfl) (z3 rfl) (c3_mono h2 (fun v2 K _ h3 => ?_))))))))))))))))))))))))))
    obtain ⟨rfl, hK⟩ := h3
    show G3 E YL Q 762 [(0, vR 99 0), (1, vR 0 0), (2, vR 44 0), (3, vI i)] [vI x, vI x] K
    exact g3_same (tgt := 1935) dL_law_762 rfl (k K hK)
set_option maxRecDepth 20000 in
set_option maxHeartbeats 400000 in
theorem caL_formIs {E : E3} {Q : Q3} {M : M3} {i : Int} (hE : ad3 E 99 0 = b3 E) (hi : 0 ≤ i ∧ i + 5 < (L3 E : Int) ∧ (L3 E : Int) ≤ 3072) (hI : Inv M) (k : ∀ (K : M3), Inv K → G3 E YL Q 1935 [(0, vR 99 0), (1, vR 0 0), (2, vR 44 0), (3, vI i)] [] K) : G3 E YL Q 767 [(0, vR 99 0), (1, vR 0 0), (2, vR 44 0), (3, vI i)] [] M := by
  refine g3_aload_n 1 dL_law_767 rfl rfl (g3_aload_n 0 dL_law_768 rfl rfl (g3_iload_n 3 dL_law_769 rfl rfl (g3_iconst dL_law_770 (g3_iadd dL_law_771 (g3_sld hE dL_law_772 (by omega) (g3_aload_n 0 dL_law_773 rfl rfl (g3_iload_n 3 dL_law_774 rfl rfl (g3_iconst dL_law_775 (g3_iadd dL_law_776 (g3_sld hE dL_law_777 (by omega) (g3_cV2 dL_law_778 myX11_formIs mlL_79 (z3 rfl) ob_0 (z3 rfl) (z3 rfl) (c3_mono (p_formIs hI (sx3_rg E _) (sx3_rg E _)) (fun v M1 _ h1 => ?_)))))))))))))
  obtain ⟨⟨x, rfl⟩, h2⟩ := h1
  show G3 E YL Q 781 [(0, vR 99 0), (1, vR 0 0), (2, vR 44 0), (3, vI i)] [vI x] M1
  refine g3_aload_n 2 dL_law_781 rfl rfl (g3_aload_n 0 dL_law_782 rfl rfl (g3_iload_n 3 dL_law_783 rfl rfl (g3_iconst dL_law_784 (g3_iadd dL_law_785 (g3_sld hE dL_law_786 (by omega) (g3_aload_n 0 dL_law_787 rfl rfl (g3_iload_n 3 dL_law_788 rfl rfl (g3_iconst dL_law_789 (g3_iadd dL_law_790 (g3_sld hE dL_law_791 (by omega) (g3_cV2 dL_law_792 myX12_formIs mlL_82 (z3 rfl) ob_44 (z3 rfl) (z3 rfl) (c3_mono h2 (fun v2 K _ h3 => ?_)))))))))))))
  obtain ⟨rfl, hK⟩ := h3
  show G3 E YL Q 795 [(0, vR 99 0), (1, vR 0 0), (2, vR 44 0), (3, vI i)] [vI x, vI x] K
  exact g3_same (tgt := 1935) dL_law_795 rfl (k K hK)
set_option maxRecDepth 20000 in
set_option maxHeartbeats 400000 in
theorem caL_answer {E : E3} {Q : Q3} {M : M3} {i : Int} (hE : ad3 E 99 0 = b3 E) (hi : 0 ≤ i ∧ i + 5 < (L3 E : Int) ∧ (L3 E : Int) ≤ 3072) (hI : Inv M) (k : ∀ (K : M3), Inv K → G3 E YL Q 1935 [(0, vR 99 0), (1, vR 0 0), (2, vR 44 0), (3, vI i)] [] K) : G3 E YL Q 800 [(0, vR 99 0), (1, vR 0 0), (2, vR 44 0), (3, vI i)] [] M := by
  refine g3_aload_n 1 dL_law_800 rfl rfl (g3_aload_n 0 dL_law_801 rfl rfl (g3_iload_n 3 dL_law_802 rfl rfl (g3_iconst dL_law_803 (g3_iadd dL_law_804 (g3_sld hE dL_law_805 (by omega) (g3_aload_n 0 dL_law_806 rfl rfl (g3_iload_n 3 dL_law_807 rfl rfl (g3_iconst dL_law_808 (g3_iadd dL_law_809 (g3_sld hE dL_law_810 (by omega) (g3_cV2 dL_law_811 myX11_answer mlL_83 (z3 rfl) ob_0 (z3 rfl) (z3 rfl) (c3_mono (p_answer hI (sx3_rg E _) (sx3_rg E _)) (fun v M1 _ h1 => ?_)))))))))))))
  obtain ⟨⟨x, rfl⟩, h2⟩ := h1
  show G3 E YL Q 814 [(0, vR 99 0), (1, vR 0 0), (2, vR 44 0), (3, vI i)] [vI x] M1
  refine g3_aload_n 2 dL_law_814 rfl rfl (g3_aload_n 0 dL_law_815 rfl rfl (g3_iload_n 3 dL_law_816 rfl rfl (g3_iconst dL_law_817 (g3_iadd dL_law_818 (g3_sld hE dL_law_819 (by omega) (g3_aload_n 0 dL_law_820 rfl rfl (g3_iload_n 3 dL_law_821 rfl rfl (g3_iconst dL_law_822 (g3_iadd dL_law_823 (g3_sld hE dL_law_824 (by omega) (g3_cV2 dL_law_825 myX12_answer mlL_86 (z3 rfl) ob_44 (z3 rfl) (z3 rfl) (c3_mono h2 (fun v2 K _ h3 => ?_)))))))))))))
  obtain ⟨rfl, hK⟩ := h3
  show G3 E YL Q 828 [(0, vR 99 0), (1, vR 0 0), (2, vR 44 0), (3, vI i)] [vI x, vI x] K
  exact g3_same (tgt := 1935) dL_law_828 rfl (k K hK)
set_option maxRecDepth 20000 in
set_option maxHeartbeats 400000 in
theorem caL_parted {E : E3} {Q : Q3} {M : M3} {i : Int} (hE : ad3 E 99 0 = b3 E) (hi : 0 ≤ i ∧ i + 5 < (L3 E : Int) ∧ (L3 E : Int) ≤ 3072) (hI : Inv M) (k : ∀ (K : M3), Inv K → G3 E YL Q 1935 [(0, vR 99 0), (1, vR 0 0), (2, vR 44 0), (3, vI i)] [] K) : G3 E YL Q 833 [(0, vR 99 0), (1, vR 0 0), (2, vR 44 0), (3, vI i)] [] M := by
  refine g3_aload_n 1 dL_law_833 rfl rfl (g3_aload_n 0 dL_law_834 rfl rfl (g3_iload_n 3 dL_law_835 rfl rfl (g3_iconst dL_law_836 (g3_iadd dL_law_837 (g3_sld hE dL_law_838 (by omega) (g3_aload_n 0 dL_law_839 rfl rfl (g3_iload_n 3 dL_law_840 rfl rfl (g3_iconst dL_law_841 (g3_iadd dL_law_842 (g3_sld hE dL_law_843 (by omega) (g3_cV2 dL_law_844 myX11_parted mlL_87 (z3 rfl) ob_0 (z3 rfl) (z3 rfl) (c3_mono (p_parted hI (sx3_rg E _) (sx3_rg E _)) (fun v M1 _ h1 => ?_)))))))))))))
  obtain ⟨⟨x, rfl⟩, h2⟩ := h1
  show G3 E YL Q 847 [(0, vR 99 0), (1, vR 0 0), (2, vR 44 0), (3, vI i)] [vI x] M1
  refine g3_aload_n 2 dL_law_847 rfl rfl (g3_aload_n 0 dL_law_848 rfl rfl (g3_iload_n 3 dL_law_849 rfl rfl (g3_iconst dL_law_850 (g3_iadd dL_law_851 (g3_sld hE dL_law_852 (by omega) (g3_aload_n 0 dL_law_853 rfl rfl (g3_iload_n 3 dL_law_854 rfl rfl (g3_iconst dL_law_855 (g3_iadd dL_law_856 (g3_sld hE dL_law_857 (by omega) (g3_cV2 dL_law_858 myX12_parted mlL_90 (z3 rfl) ob_44 (z3 rfl) (z3 rfl) (c3_mono h2 (fun v2 K _ h3 => ?_)))))))))))))
  obtain ⟨rfl, hK⟩ := h3
  show G3 E YL Q 861 [(0, vR 99 0), (1, vR 0 0), (2, vR 44 0), (3, vI i)] [vI x, vI x] K
  exact g3_same (tgt := 1935) dL_law_861 rfl (k K hK)
set_option maxRecDepth 20000 in
set_option maxHeartbeats 400000 in
theorem caL_asOf {E : E3} {Q : Q3} {M : M3} {i : Int} (hE : ad3 E 99 0 = b3 E) (hi : 0 ≤ i ∧ i + 5 < (L3 E : Int) ∧ (L3 E : Int) ≤ 3072) (hI : Inv M) (k : ∀ (K : M3), Inv K → G3 E YL Q 1935 [(0, vR 99 0), (1, vR 0 0), (2, vR 44 0), (3, vI i)] [] K) : G3 E YL Q 866 [(0, vR 99 0), (1, vR 0 0), (2, vR 44 0), (3, vI i)] [] M := by
  refine g3_aload_n 1 dL_law_866 rfl rfl (g3_aload_n 0 dL_law_867 rfl rfl (g3_iload_n 3 dL_law_868 rfl rfl (g3_iconst dL_law_869 (g3_iadd dL_law_870 (g3_sld hE dL_law_871 (by omega) (g3_cV1 dL_law_872 myX11_asOf mlL_91 (z3 rfl) ob_0 (z3 rfl) (z3 rfl) (c3_mono (p_asOf hI (sx3_rg E _)) (fun v M1 _ h1 => ?_))))))))
  obtain ⟨⟨x, rfl⟩, h2⟩ := h1
  show G3 E YL Q 875 [(0, vR 99 0), (1, vR 0 0), (2, vR 44 0), (3, vI i)] [vI x] M1
  refine g3_aload_n 2 dL_law_875 rfl rfl (g3_aload_n 0 dL_law_876 rfl rfl (g3_iload_n 3 dL_law_877 rfl rfl (g3_iconst dL_law_878 (g3_iadd dL_law_879 (g3_sld hE dL_law_880 (by omega) (g3_cV1 dL_law_881 myX12_asOf mlL_94 (z3 rfl) ob_44 (z3 rfl) (z3 rfl) (c3_mono h2 (fun v2 K _ h3 => ?_))))))))
  obtain ⟨rfl, hK⟩ := h3
  show G3 E YL Q 884 [(0, vR 99 0), (1, vR 0 0), (2, vR 44 0), (3, vI i)] [vI x, vI x] K
  exact g3_same (tgt := 1935) dL_law_884 rfl (k K hK)
set_option maxRecDepth 20000 in
set_option maxHeartbeats 400000 in
theorem caL_rules {E : E3} {Q : Q3} {M : M3} {i : Int} (hE : ad3 E 99 0 = b3 E) (hi : 0 ≤ i ∧ i + 5 < (L3 E : Int) ∧ (L3 E : Int) ≤ 3072) (hI : Inv M) (k : ∀ (K : M3), Inv K → G3 E YL Q 1935 [(0, vR 99 0), (1, vR 0 0), (2, vR 44 0), (3, vI i)] [] K) : G3 E YL Q 889 [(0, vR 99 0), (1, vR 0 0), (2, vR 44 0), (3, vI i)] [] M := by
  refine g3_aload_n 1 dL_law_889 rfl rfl (g3_aload_n 0 dL_law_890 rfl rfl (g3_iload_n 3 dL_law_891 rfl rfl (g3_iconst dL_law_892 (g3_iadd dL_law_893 (g3_sld hE dL_law_894 (by omega) (g3_cV1 dL_law_895 myX11_rules mlL_95 (z3 rfl) ob_0 (z3 rfl) (z3 rfl) (c3_mono (p_rules hI (sx3_rg E _)) (fun v M1 _ h1 => ?_))))))))
  obtain ⟨⟨x, rfl⟩, h2⟩ := h1
  show G3 E YL Q 898 [(0, vR 99 0), (1, vR 0 0), (2, vR 44 0), (3, vI i)] [vI x] M1
  refine g3_aload_n 2 dL_law_898 rfl rfl (g3_aload_n 0 dL_law_899 rfl rfl (g3_iload_n 3 dL_law_900 rfl rfl (g3_iconst dL_law_901 (g3_iadd dL_law_902 (g3_sld hE dL_law_903 (by omega) (g3_cV1 dL_law_904 myX12_rules mlL_98 (z3 rfl) ob_44 (z3 rfl) (z3 rfl) (c3_mono h2 (fun v2 K _ h3 => ?_))))))))
  obtain ⟨rfl, hK⟩ := h3
  show G3 E YL Q 907 [(0, vR 99 0), (1, vR 0 0), (2, vR 44 0), (3, vI i)] [vI x, vI x] K
  exact g3_same (tgt := 1935) dL_law_907 rfl (k K hK)
set_option maxRecDepth 20000 in
set_option maxHeartbeats 400000 in
theorem caL_rule {E : E3} {Q : Q3} {M : M3} {i : Int} (hE : ad3 E 99 0 = b3 E) (hi : 0 ≤ i ∧ i + 5 < (L3 E : Int) ∧ (L3 E : Int) ≤ 3072) (hI : Inv M) (k : ∀ (K : M3), Inv K → G3 E YL Q 1935 [(0, vR 99 0), (1, vR 0 0), (2, vR 44 0), (3, vI i)] [] K) : G3 E YL Q 912 [(0, vR 99 0), (1, vR 0 0), (2, vR 44 0), (3, vI i)] [] M := by
  refine g3_aload_n 1 dL_law_912 rfl rfl (g3_aload_n 0 dL_law_913 rfl rfl (g3_iload_n 3 dL_law_914 rfl rfl (g3_iconst dL_law_915 (g3_iadd dL_law_916 (g3_sld hE dL_law_917 (by omega) (g3_aload_n 0 dL_law_918 rfl rfl (g3_iload_n 3 dL_law_919 rfl rfl (g3_iconst dL_law_920 (g3_iadd dL_law_921 (g3_sld hE dL_law_922 (by omega) (g3_cV2 dL_law_923 myX11_rule mlL_99 (z3 rfl) ob_0 (z3 rfl) (z3 rfl) (c3_mono (p_rule hI (sx3_rg E _) (sx3_rg E _)) (fun v M1 _ h1 => ?_)))))))))))))
  obtain ⟨⟨x, rfl⟩, h2⟩ := h1
  show G3 E YL Q 926 [(0, vR 99 0), (1, vR 0 0), (2, vR 44 0), (3, vI i)] [vI x] M1
  refine g3_aload_n 2 dL_law_926 rfl rfl (g3_aload_n 0 dL_law_927 rfl rfl (g3_iload_n 3 dL_law_928 rfl rfl (g3_iconst dL_law_929 (g3_iadd dL_law_930 (g3_sld hE dL_law_931 (by omega) (g3_aload_n 0 dL_law_932 rfl rfl (g3_iload_n 3 dL_law_933 rfl rfl (g3_iconst dL_law_934 (g3_iadd dL_law_935 (g3_sld hE dL_law_936 (by omega) (g3_cV2 dL_law_937 myX12_rule mlL_102 (z3 rfl) ob_44 (z3 rfl) (z3 rfl) (c3_mono h2 (fun v2 K _ h3 => ?_)))))))))))))
  obtain ⟨rfl, hK⟩ := h3
  show G3 E YL Q 940 [(0, vR 99 0), (1, vR 0 0), (2, vR 44 0), (3, vI i)] [vI x, vI x] K
  exact g3_same (tgt := 1935) dL_law_940 rfl (k K hK)
set_option maxRecDepth 20000 in
set_option maxHeartbeats 400000 in
theorem caL_unlike {E : E3} {Q : Q3} {M : M3} {i : Int} (hE : ad3 E 99 0 = b3 E) (hi : 0 ≤ i ∧ i + 5 < (L3 E : Int) ∧ (L3 E : Int) ≤ 3072) (hI : Inv M) (k : ∀ (K : M3), Inv K → G3 E YL Q 1935 [(0, vR 99 0), (1, vR 0 0), (2, vR 44 0), (3, vI i)] [] K) : G3 E YL Q 945 [(0, vR 99 0), (1, vR 0 0), (2, vR 44 0), (3, vI i)] [] M := by
  refine g3_aload_n 1 dL_law_945 rfl rfl (g3_aload_n 0 dL_law_946 rfl rfl (g3_iload_n 3 dL_law_947 rfl rfl (g3_iconst dL_law_948 (g3_iadd dL_law_949 (g3_sld hE dL_law_950 (by omega) (g3_cV1 dL_law_951 myX11_unlike mlL_103 (z3 rfl) ob_0 (z3 rfl) (z3 rfl) (c3_mono (p_unlike hI (sx3_rg E _)) (fun v M1 _ h1 => ?_))))))))
  obtain ⟨⟨x, rfl⟩, h2⟩ := h1
  show G3 E YL Q 954 [(0, vR 99 0), (1, vR 0 0), (2, vR 44 0), (3, vI i)] [vI x] M1
  refine g3_aload_n 2 dL_law_954 rfl rfl (g3_aload_n 0 dL_law_955 rfl rfl (g3_iload_n 3 dL_law_956 rfl rfl (g3_iconst dL_law_957 (g3_iadd dL_law_958 (g3_sld hE dL_law_959 (by omega) (g3_cV1 dL_law_960 myX12_unlike mlL_106 (z3 rfl) ob_44 (z3 rfl) (z3 rfl) (c3_mono h2 (fun v2 K _ h3 => ?_))))))))
  obtain ⟨rfl, hK⟩ := h3
  show G3 E YL Q 963 [(0, vR 99 0), (1, vR 0 0), (2, vR 44 0), (3, vI i)] [vI x, vI x] K
  exact g3_same (tgt := 1935) dL_law_963 rfl (k K hK)
set_option maxRecDepth 20000 in
set_option maxHeartbeats 400000 in
theorem caL_proves {E : E3} {Q : Q3} {M : M3} {i : Int} (hE : ad3 E 99 0 = b3 E) (hi : 0 ≤ i ∧ i + 5 < (L3 E : Int) ∧ (L3 E : Int) ≤ 3072) (hI : Inv M) (k : ∀ (K : M3), Inv K → G3 E YL Q 1935 [(0, vR 99 0), (1, vR 0 0), (2, vR 44 0), (3, vI i)] [] K) : G3 E YL Q 968 [(0, vR 99 0), (1, vR 0 0), (2, vR 44 0), (3, vI i)] [] M := by
  refine g3_aload_n 1 dL_law_968 rfl rfl (g3_aload_n 0 dL_law_969 rfl rfl (g3_iload_n 3 dL_law_970 rfl rfl (g3_iconst dL_law_971 (g3_iadd dL_law_972 (g3_sld hE dL_law_973 (by omega) (g3_cV1 dL_law_974 myX11_proves mlL_107 (z3 rfl) ob_0 (z3 rfl) (z3 rfl) (c3_mono (p_proves hI (sx3_rg E _)) (fun v M1 _ h1 => ?_))))))))
  obtain ⟨⟨x, rfl⟩, h2⟩ := h1
  show G3 E YL Q 977 [(0, vR 99 0), (1, vR 0 0), (2, vR 44 0), (3, vI i)] [vI x] M1
  refine g3_aload_n 2 dL_law_977 rfl rfl (g3_aload_n 0 dL_law_978 rfl rfl (g3_iload_n 3 dL_law_979 rfl rfl (g3_iconst dL_law_980 (g3_iadd dL_law_981 (g3_sld hE dL_law_982 (by omega) (g3_cV1 dL_law_983 myX12_proves mlL_110 (z3 rfl) ob_44 (z3 rfl) (z3 rfl) (c3_mono h2 (fun v2 K _ h3 => ?_))))))))
  obtain ⟨rfl, hK⟩ := h3
  show G3 E YL Q 986 [(0, vR 99 0), (1, vR 0 0), (2, vR 44 0), (3, vI i)] [vI x, vI x] K
  exact g3_same (tgt := 1935) dL_law_986 rfl (k K hK)
set_option maxRecDepth 20000 in
set_option maxHeartbeats 400000 in
theorem caL_minutes {E : E3} {Q : Q3} {M : M3} {i : Int} (hE : ad3 E 99 0 = b3 E) (hi : 0 ≤ i ∧ i + 5 < (L3 E : Int) ∧ (L3 E : Int) ≤ 3072) (hI : Inv M) (k : ∀ (K : M3), Inv K → G3 E YL Q 1935 [(0, vR 99 0), (1, vR 0 0), (2, vR 44 0), (3, vI i)] [] K) : G3 E YL Q 991 [(0, vR 99 0), (1, vR 0 0), (2, vR 44 0), (3, vI i)] [] M := by
  refine g3_aload_n 1 dL_law_991 rfl rfl (g3_aload_n 0 dL_law_992 rfl rfl (g3_iload_n 3 dL_law_993 rfl rfl (g3_iconst dL_law_994 (g3_iadd dL_law_995 (g3_sld hE dL_law_996 (by omega) (g3_aload_n 0 dL_law_997 rfl rfl (g3_iload_n 3 dL_law_998 rfl rfl (g3_iconst dL_law_999 (g3_iadd dL_law_1000 (g3_sld hE dL_law_1001 (by omega) (g3_aload_n 0 dL_law_1002 rfl rfl (g3_iload_n 3 dL_law_1003 rfl rfl (g3_iconst dL_law_1004 (g3_iadd dL_law_1005 (g3_sld hE dL_law_1006 (by omega) (g3_cV3 dL_law_1007 myX11_minutes mlL_111 (z3 rfl) ob_0 (z3 rfl) (z3 rfl) (c3_mono (p_minutes hI (sx3_rg E _) (sx3_rg E _) (sx3_rg E _)) (fun v M1 _ h1 => ?_))))))))))))))))))
  obtain ⟨⟨x, rfl⟩, h2⟩ := h1
  show G3 E YL Q 1010 [(0, vR 99 0), (1, vR 0 0), (2, vR 44 0), (3, vI i)] [vI x] M1
  refine g3_aload_n 2 dL_law_1010 rfl rfl (g3_aload_n 0 dL_law_1011 rfl rfl (g3_iload_n 3 dL_law_1012 rfl rfl (g3_iconst dL_law_1013 (g3_iadd dL_law_1014 (g3_sld hE dL_law_1015 (by omega) (g3_aload_n 0 dL_law_1016 rfl rfl (g3_iload_n 3 dL_law_1017 rfl rfl (g3_iconst dL_law_1018 (g3_iadd dL_law_1019 (g3_sld hE dL_law_1020 (by omega) (g3_aload_n 0 dL_law_1021 rfl rfl (g3_iload_n 3 dL_law_1022 rfl rfl (g3_iconst dL_law_1023 (g3_iadd dL_law_1024 (g3_sld hE dL_law_1025 (by omega) (g3_cV3 dL_law_1026 myX12_minutes mlL_114 (z3 rfl) ob_44 (z3 rfl) (z3 rfl) (c3_mono h2 (fun v2 K _ h3 => ?_))))))))))))))))))
  obtain ⟨rfl, hK⟩ := h3
  show G3 E YL Q 1029 [(0, vR 99 0), (1, vR 0 0), (2, vR 44 0), (3, vI i)] [vI x, vI x] K
  exact g3_same (tgt := 1935) dL_law_1029 rfl (k K hK)
set_option maxRecDepth 20000 in
set_option maxHeartbeats 400000 in
theorem caL_office {E : E3} {Q : Q3} {M : M3} {i : Int} (hE : ad3 E 99 0 = b3 E) (hi : 0 ≤ i ∧ i + 5 < (L3 E : Int) ∧ (L3 E : Int) ≤ 3072) (hI : Inv M) (k : ∀ (K : M3), Inv K → G3 E YL Q 1935 [(0, vR 99 0), (1, vR 0 0), (2, vR 44 0), (3, vI i)] [] K) : G3 E YL Q 1034 [(0, vR 99 0), (1, vR 0 0), (2, vR 44 0), (3, vI i)] [] M := by
  refine g3_aload_n 1 dL_law_1034 rfl rfl (g3_aload_n 0 dL_law_1035 rfl rfl (g3_iload_n 3 dL_law_1036 rfl rfl (g3_iconst dL_law_1037 (g3_iadd dL_law_1038 (g3_sld hE dL_law_1039 (by omega) (g3_aload_n 0 dL_law_1040 rfl rfl (g3_iload_n 3 dL_law_1041 rfl rfl (g3_iconst dL_law_1042 (g3_iadd dL_law_1043 (g3_sld hE dL_law_1044 (by omega) (g3_aload_n 0 dL_law_1045 rfl rfl (g3_iload_n 3 dL_law_1046 rfl rfl (g3_iconst dL_law_1047 (g3_iadd dL_law_1048 (g3_sld hE dL_law_1049 (by omega) (g3_cV3 dL_law_1050 myX11_office mlL_115 (z3 rfl) ob_0 (z3 rfl) (z3 rfl) (c3_mono (p_office hI (sx3_rg E _) (sx3_rg E _) (sx3_rg E _)) (fun v M1 _ h1 => ?_))))))))))))))))))
  obtain ⟨⟨x, rfl⟩, h2⟩ := h1
  show G3 E YL Q 1053 [(0, vR 99 0), (1, vR 0 0), (2, vR 44 0), (3, vI i)] [vI x] M1
  refine g3_aload_n 2 dL_law_1053 rfl rfl (g3_aload_n 0 dL_law_1054 rfl rfl (g3_iload_n 3 dL_law_1055 rfl rfl (g3_iconst dL_law_1056 (g3_iadd dL_law_1057 (g3_sld hE dL_law_1058 (by omega) (g3_aload_n 0 dL_law_1059 rfl rfl (g3_iload_n 3 dL_law_1060 rfl rfl (g3_iconst dL_law_1061 (g3_iadd dL_law_1062 (g3_sld hE dL_law_1063 (by omega) (g3_aload_n 0 dL_law_1064 rfl rfl (g3_iload_n 3 dL_law_1065 rfl rfl (g3_iconst dL_law_1066 (g3_iadd dL_law_1067 (g3_sld hE dL_law_1068 (by omega) (g3_cV3 dL_law_1069 myX12_office mlL_118 (z3 rfl) ob_44 (z3 rfl) (z3 rfl) (c3_mono h2 (fun v2 K _ h3 => ?_))))))))))))))))))
  obtain ⟨rfl, hK⟩ := h3
  show G3 E YL Q 1072 [(0, vR 99 0), (1, vR 0 0), (2, vR 44 0), (3, vI i)] [vI x, vI x] K
  exact g3_same (tgt := 1935) dL_law_1072 rfl (k K hK)
set_option maxRecDepth 20000 in
set_option maxHeartbeats 400000 in
theorem caL_stand {E : E3} {Q : Q3} {M : M3} {i : Int} (hE : ad3 E 99 0 = b3 E) (hi : 0 ≤ i ∧ i + 5 < (L3 E : Int) ∧ (L3 E : Int) ≤ 3072) (hI : Inv M) (k : ∀ (K : M3), Inv K → G3 E YL Q 1935 [(0, vR 99 0), (1, vR 0 0), (2, vR 44 0), (3, vI i)] [] K) : G3 E YL Q 1077 [(0, vR 99 0), (1, vR 0 0), (2, vR 44 0), (3, vI i)] [] M := by
  refine g3_aload_n 1 dL_law_1077 rfl rfl (g3_aload_n 0 dL_law_1078 rfl rfl (g3_iload_n 3 dL_law_1079 rfl rfl (g3_iconst dL_law_1080 (g3_iadd dL_law_1081 (g3_sld hE dL_law_1082 (by omega) (g3_aload_n 0 dL_law_1083 rfl rfl (g3_iload_n 3 dL_law_1084 rfl rfl (g3_iconst dL_law_1085 (g3_iadd dL_law_1086 (g3_sld hE dL_law_1087 (by omega) (g3_cV2 dL_law_1088 myX11_stand mlL_119 (z3 rfl) ob_0 (z3 rfl) (z3 rfl) (c3_mono (p_stand hI (sx3_rg E _) (sx3_rg E _)) (fun v M1 _ h1 => ?_)))))))))))))
  obtain ⟨⟨x, rfl⟩, h2⟩ := h1
  show G3 E YL Q 1091 [(0, vR 99 0), (1, vR 0 0), (2, vR 44 0), (3, vI i)] [vI x] M1
  refine g3_aload_n 2 dL_law_1091 rfl rfl (g3_aload_n 0 dL_law_1092 rfl rfl (g3_iload_n 3 dL_law_1093 rfl rfl (g3_iconst dL_law_1094 (g3_iadd dL_law_1095 (g3_sld hE dL_law_1096 (by omega) (g3_aload_n 0 dL_law_1097 rfl rfl (g3_iload_n 3 dL_law_1098 rfl rfl (g3_iconst dL_law_1099 (g3_iadd dL_law_1100 (g3_sld hE dL_law_1101 (by omega) (g3_cV2 dL_law_1102 myX12_stand mlL_122 (z3 rfl) ob_44 (z3 rfl) (z3 rfl) (c3_mono h2 (fun v2 K _ h3 => ?_)))))))))))))
  obtain ⟨rfl, hK⟩ := h3
  show G3 E YL Q 1105 [(0, vR 99 0), (1, vR 0 0), (2, vR 44 0), (3, vI i)] [vI x, vI x] K
  exact g3_same (tgt := 1935) dL_law_1105 rfl (k K hK)
