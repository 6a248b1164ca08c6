/-! the law: its cases, its loop -/
abbrev LC (X : Nat × (Nat → Int32)) (i : Nat) (μ : Me) (pc : Nat) : Prop := Wa X m_L_law 12 pc [.ref 3000, .ref 0, .ref 82, .int (nI (6 * i))] [] μ (fun r _ => r = some (.int 1))
abbrev RS (i : Nat) (μ : Me) : Prop := ∃ m n D, D ≤ 108 * i ∧ RRx m n D i μ
theorem ixl {L i : Nat} (k : Nat) (hL : L ≤ 384) (hi : 6 * i + 6 ≤ L) (hk : k < 6) : vp_in (nI (6 * i) + nI k) L := by
  rw [nI_add]
  exact vp_in_nI (by omega) (by omega)
theorem ixz {L i : Nat} (hL : L ≤ 384) (hi : 6 * i + 6 ≤ L) : vp_in (nI (6 * i)) L := vp_in_nI (by omega) (by omega)
theorem lx {L i : Nat} (hL : L ≤ 384) (hi : 6 * i ≤ L) (h : ¬ Int32.ofNat L - 6 < nI (6 * i)) : 6 * i + 6 ≤ L := by
  have h' : ¬ nI L - nI 6 < nI (6 * i) := h
  rw [Int32.lt_iff_toInt_lt, pk_sub_toInt (by omega) (by decide), nI_toInt (by omega)] at h'
  omega
section Cases
variable {X : Nat × (Nat → Int32)} {i m n D : Nat} {μ : Me}
theorem lc_0 (hX : X.1 ≤ 384) (hi : 6 * i + 6 ≤ X.1) (hD : D ≤ 108 * i) (hR : RRx m n D i μ) (key : ∀ μ', RS (i + 1) μ' → LC X i μ' 1739) : LC X i μ 224 := by
  refine r_aload_n 1 d_L_law_224 rfl rfl ?_
  refine r_aload_n 0 d_L_law_225 rfl rfl ?_
  refine r_iload_n 3 d_L_law_226 rfl rfl ?_
  refine r_iconst 1 d_L_law_227 rfl ?_
  refine r_iadd d_L_law_228 ?_
  refine r_sald (ixl 1 hX hi (by decide)) d_L_law_229 ?_
  refine r_i2l d_L_law_230 ?_
  refine r_bipush (32) d_L_law_231 (by decide) ?_
  refine r_lshl d_L_law_233 ?_
  refine r_aload_n 0 d_L_law_234 rfl rfl ?_
  refine r_iload_n 3 d_L_law_235 rfl rfl ?_
  refine r_iconst 2 d_L_law_236 rfl ?_
  refine r_iadd d_L_law_237 ?_
  refine r_sald (ixl 2 hX hi (by decide)) d_L_law_238 ?_
  refine r_i2l d_L_law_239 ?_
  refine r_ldc2 kc_L_13 d_L_law_240 ?_
  refine r_land d_L_law_243 ?_
  refine r_lor d_L_law_244 ?_
  refine r_aload_n 0 d_L_law_245 rfl rfl ?_
  refine r_iload_n 3 d_L_law_246 rfl rfl ?_
  refine r_iconst 3 d_L_law_247 rfl ?_
  refine r_iadd d_L_law_248 ?_
  refine r_sald (ixl 3 hX hi (by decide)) d_L_law_249 ?_
  refine r_callV (op_feed hD hR _ _) lk_L_15 (by first | with_reducible assumption | rfl) d_L_law_250 rfl rfl (Nat.le_of_ble_eq_true rfl) (by decide) ?_
  rintro r1 μ1 ⟨v, rfl, hC⟩
  refine r_aload_n 2 d_L_law_253 rfl rfl ?_
  refine r_aload_n 0 d_L_law_254 rfl rfl ?_
  refine r_iload_n 3 d_L_law_255 rfl rfl ?_
  refine r_iconst 1 d_L_law_256 rfl ?_
  refine r_iadd d_L_law_257 ?_
  refine r_sald (ixl 1 hX hi (by decide)) d_L_law_258 ?_
  refine r_i2l d_L_law_259 ?_
  refine r_bipush (32) d_L_law_260 (by decide) ?_
  refine r_lshl d_L_law_262 ?_
  refine r_aload_n 0 d_L_law_263 rfl rfl ?_
  refine r_iload_n 3 d_L_law_264 rfl rfl ?_
  refine r_iconst 2 d_L_law_265 rfl ?_
  refine r_iadd d_L_law_266 ?_
  refine r_sald (ixl 2 hX hi (by decide)) d_L_law_267 ?_
  refine r_i2l d_L_law_268 ?_
  refine r_ldc2 kc_L_13 d_L_law_269 ?_
  refine r_land d_L_law_272 ?_
  refine r_lor d_L_law_273 ?_
  refine r_aload_n 0 d_L_law_274 rfl rfl ?_
  refine r_iload_n 3 d_L_law_275 rfl rfl ?_
  refine r_iconst 3 d_L_law_276 rfl ?_
  refine r_iadd d_L_law_277 ?_
  refine r_sald (ixl 3 hX hi (by decide)) d_L_law_278 ?_
  refine r_callV hC lk_L_19 (by first | with_reducible assumption | rfl) d_L_law_279 rfl rfl (Nat.le_of_ble_eq_true rfl) (by decide) ?_
  rintro r2 μ2 ⟨rfl, hN⟩
  refine r_icmp_eq d_L_law_282 (fun h282 => ?_) (fun h282 => absurd rfl h282)
  exact key μ2 hN
theorem lc_1 (hX : X.1 ≤ 384) (hi : 6 * i + 6 ≤ X.1) (hD : D ≤ 108 * i) (hR : RRx m n D i μ) (key : ∀ μ', RS (i + 1) μ' → LC X i μ' 1739) : LC X i μ 287 := by
  refine r_aload_n 1 d_L_law_287 rfl rfl ?_
  refine r_callV (op_lesson hD hR) lk_L_20 (by first | with_reducible assumption | rfl) d_L_law_288 rfl rfl (Nat.le_of_ble_eq_true rfl) (by decide) ?_
  rintro r1 μ1 ⟨v, rfl, hC⟩
  refine r_aload_n 2 d_L_law_291 rfl rfl ?_
  refine r_callV hC lk_L_24 (by first | with_reducible assumption | rfl) d_L_law_292 rfl rfl (Nat.le_of_ble_eq_true rfl) (by decide) ?_
  rintro r2 μ2 ⟨rfl, hN⟩
  refine r_icmp_eq d_L_law_295 (fun h295 => ?_) (fun h295 => absurd rfl h295)
  exact key μ2 hN
theorem lc_2 (hX : X.1 ≤ 384) (hi : 6 * i + 6 ≤ X.1) (hD : D ≤ 108 * i) (hR : RRx m n D i μ) (key : ∀ μ', RS (i + 1) μ' → LC X i μ' 1739) : LC X i μ 300 := by
  refine r_aload_n 1 d_L_law_300 rfl rfl ?_
  refine r_aload_n 0 d_L_law_301 rfl rfl ?_
  refine r_iload_n 3 d_L_law_302 rfl rfl ?_
  refine r_iconst 1 d_L_law_303 rfl ?_
  refine r_iadd d_L_law_304 ?_
  refine r_sald (ixl 1 hX hi (by decide)) d_L_law_305 ?_
  refine r_aload_n 0 d_L_law_306 rfl rfl ?_
  refine r_iload_n 3 d_L_law_307 rfl rfl ?_
  refine r_iconst 2 d_L_law_308 rfl ?_
  refine r_iadd d_L_law_309 ?_
  refine r_sald (ixl 2 hX hi (by decide)) d_L_law_310 ?_
  refine r_callV (op_learner hD hR _ _) lk_L_25 (by first | with_reducible assumption | rfl) d_L_law_311 rfl rfl (Nat.le_of_ble_eq_true rfl) (by decide) ?_
  rintro r1 μ1 ⟨v, rfl, hC⟩
  refine r_aload_n 2 d_L_law_314 rfl rfl ?_
  refine r_aload_n 0 d_L_law_315 rfl rfl ?_
  refine r_iload_n 3 d_L_law_316 rfl rfl ?_
  refine r_iconst 1 d_L_law_317 rfl ?_
  refine r_iadd d_L_law_318 ?_
  refine r_sald (ixl 1 hX hi (by decide)) d_L_law_319 ?_
  refine r_aload_n 0 d_L_law_320 rfl rfl ?_
  refine r_iload_n 3 d_L_law_321 rfl rfl ?_
  refine r_iconst 2 d_L_law_322 rfl ?_
  refine r_iadd d_L_law_323 ?_
  refine r_sald (ixl 2 hX hi (by decide)) d_L_law_324 ?_
  refine r_callV hC lk_L_29 (by first | with_reducible assumption | rfl) d_L_law_325 rfl rfl (Nat.le_of_ble_eq_true rfl) (by decide) ?_
  rintro r2 μ2 ⟨rfl, hN⟩
  refine r_icmp_eq d_L_law_328 (fun h328 => ?_) (fun h328 => absurd rfl h328)
  exact key μ2 hN
theorem lc_3 (hX : X.1 ≤ 384) (hi : 6 * i + 6 ≤ X.1) (hD : D ≤ 108 * i) (hR : RRx m n D i μ) (key : ∀ μ', RS (i + 1) μ' → LC X i μ' 1739) : LC X i μ 333 := by
  refine r_aload_n 1 d_L_law_333 rfl rfl ?_
  refine r_aload_n 0 d_L_law_334 rfl rfl ?_
  refine r_iload_n 3 d_L_law_335 rfl rfl ?_
  refine r_iconst 1 d_L_law_336 rfl ?_
  refine r_iadd d_L_law_337 ?_
  refine r_sald (ixl 1 hX hi (by decide)) d_L_law_338 ?_
  refine r_aload_n 0 d_L_law_339 rfl rfl ?_
  refine r_iload_n 3 d_L_law_340 rfl rfl ?_
  refine r_iconst 2 d_L_law_341 rfl ?_
  refine r_iadd d_L_law_342 ?_
  refine r_sald (ixl 2 hX hi (by decide)) d_L_law_343 ?_
  refine r_callV (op_learnerOf hD hR _ _) lk_L_30 (by first | with_reducible assumption | rfl) d_L_law_344 rfl rfl (Nat.le_of_ble_eq_true rfl) (by decide) ?_
  rintro r1 μ1 ⟨v, rfl, hC⟩
  refine r_aload_n 2 d_L_law_347 rfl rfl ?_
  refine r_aload_n 0 d_L_law_348 rfl rfl ?_
  refine r_iload_n 3 d_L_law_349 rfl rfl ?_
  refine r_iconst 1 d_L_law_350 rfl ?_
  refine r_iadd d_L_law_351 ?_
  refine r_sald (ixl 1 hX hi (by decide)) d_L_law_352 ?_
  refine r_aload_n 0 d_L_law_353 rfl rfl ?_
  refine r_iload_n 3 d_L_law_354 rfl rfl ?_
  refine r_iconst 2 d_L_law_355 rfl ?_
  refine r_iadd d_L_law_356 ?_
  refine r_sald (ixl 2 hX hi (by decide)) d_L_law_357 ?_
  refine r_callV hC lk_L_33 (by first | with_reducible assumption | rfl) d_L_law_358 rfl rfl (Nat.le_of_ble_eq_true rfl) (by decide) ?_
  rintro r2 μ2 ⟨rfl, hN⟩
  refine r_icmp_eq d_L_law_361 (fun h361 => ?_) (fun h361 => absurd rfl h361)
  exact key μ2 hN
theorem lc_4 (hX : X.1 ≤ 384) (hi : 6 * i + 6 ≤ X.1) (hD : D ≤ 108 * i) (hR : RRx m n D i μ) (key : ∀ μ', RS (i + 1) μ' → LC X i μ' 1739) : LC X i μ 366 := by
  refine r_aload_n 1 d_L_law_366 rfl rfl ?_
  refine r_aload_n 0 d_L_law_367 rfl rfl ?_
  refine r_iload_n 3 d_L_law_368 rfl rfl ?_
  refine r_iconst 1 d_L_law_369 rfl ?_
  refine r_iadd d_L_law_370 ?_
  refine r_sald (ixl 1 hX hi (by decide)) d_L_law_371 ?_
  refine r_aload_n 0 d_L_law_372 rfl rfl ?_
  refine r_iload_n 3 d_L_law_373 rfl rfl ?_
  refine r_iconst 2 d_L_law_374 rfl ?_
  refine r_iadd d_L_law_375 ?_
  refine r_sald (ixl 2 hX hi (by decide)) d_L_law_376 ?_
  refine r_callV (op_pair hD hR _ _) lk_L_34 (by first | with_reducible assumption | rfl) d_L_law_377 rfl rfl (Nat.le_of_ble_eq_true rfl) (by decide) ?_
  rintro r1 μ1 ⟨v, rfl, hC⟩
  refine r_aload_n 2 d_L_law_380 rfl rfl ?_
  refine r_aload_n 0 d_L_law_381 rfl rfl ?_
  refine r_iload_n 3 d_L_law_382 rfl rfl ?_
  refine r_iconst 1 d_L_law_383 rfl ?_
  refine r_iadd d_L_law_384 ?_
  refine r_sald (ixl 1 hX hi (by decide)) d_L_law_385 ?_
  refine r_aload_n 0 d_L_law_386 rfl rfl ?_
  refine r_iload_n 3 d_L_law_387 rfl rfl ?_
  refine r_iconst 2 d_L_law_388 rfl ?_
  refine r_iadd d_L_law_389 ?_
  refine r_sald (ixl 2 hX hi (by decide)) d_L_law_390 ?_
  refine r_callV hC lk_L_37 (by first | with_reducible assumption | rfl) d_L_law_391 rfl rfl (Nat.le_of_ble_eq_true rfl) (by decide) ?_
  rintro r2 μ2 ⟨rfl, hN⟩
  refine r_icmp_eq d_L_law_394 (fun h394 => ?_) (fun h394 => absurd rfl h394)
  exact key μ2 hN
theorem lc_5 (hX : X.1 ≤ 384) (hi : 6 * i + 6 ≤ X.1) (hD : D ≤ 108 * i) (hR : RRx m n D i μ) (key : ∀ μ', RS (i + 1) μ' → LC X i μ' 1739) : LC X i μ 399 := by
  refine r_aload_n 1 d_L_law_399 rfl rfl ?_
  refine r_aload_n 0 d_L_law_400 rfl rfl ?_
  refine r_iload_n 3 d_L_law_401 rfl rfl ?_
  refine r_iconst 1 d_L_law_402 rfl ?_
  refine r_iadd d_L_law_403 ?_
  refine r_sald (ixl 1 hX hi (by decide)) d_L_law_404 ?_
  refine r_aload_n 0 d_L_law_405 rfl rfl ?_
  refine r_iload_n 3 d_L_law_406 rfl rfl ?_
  refine r_iconst 2 d_L_law_407 rfl ?_
  refine r_iadd d_L_law_408 ?_
  refine r_sald (ixl 2 hX hi (by decide)) d_L_law_409 ?_
  refine r_callV (op_pairOf hD hR _ _) lk_L_38 (by first | with_reducible assumption | rfl) d_L_law_410 rfl rfl (Nat.le_of_ble_eq_true rfl) (by decide) ?_
  rintro r1 μ1 ⟨v, rfl, hC⟩
  refine r_aload_n 2 d_L_law_413 rfl rfl ?_
  refine r_aload_n 0 d_L_law_414 rfl rfl ?_
  refine r_iload_n 3 d_L_law_415 rfl rfl ?_
  refine r_iconst 1 d_L_law_416 rfl ?_
  refine r_iadd d_L_law_417 ?_
  refine r_sald (ixl 1 hX hi (by decide)) d_L_law_418 ?_
  refine r_aload_n 0 d_L_law_419 rfl rfl ?_
  refine r_iload_n 3 d_L_law_420 rfl rfl ?_
  refine r_iconst 2 d_L_law_421 rfl ?_
  refine r_iadd d_L_law_422 ?_
  refine r_sald (ixl 2 hX hi (by decide)) d_L_law_423 ?_
  refine r_callV hC lk_L_41 (by first | with_reducible assumption | rfl) d_L_law_424 rfl rfl (Nat.le_of_ble_eq_true rfl) (by decide) ?_
  rintro r2 μ2 ⟨rfl, hN⟩
  refine r_icmp_eq d_L_law_427 (fun h427 => ?_) (fun h427 => absurd rfl h427)
  exact key μ2 hN
theorem lc_6 (hX : X.1 ≤ 384) (hi : 6 * i + 6 ≤ X.1) (hD : D ≤ 108 * i) (hR : RRx m n D i μ) (key : ∀ μ', RS (i + 1) μ' → LC X i μ' 1739) : LC X i μ 432 := by
  refine r_aload_n 1 d_L_law_432 rfl rfl ?_
  refine r_aload_n 0 d_L_law_433 rfl rfl ?_
  refine r_iload_n 3 d_L_law_434 rfl rfl ?_
  refine r_iconst 1 d_L_law_435 rfl ?_
  refine r_iadd d_L_law_436 ?_
  refine r_sald (ixl 1 hX hi (by decide)) d_L_law_437 ?_
  refine r_callV (op_tied hD hR _) lk_L_42 (by first | with_reducible assumption | rfl) d_L_law_438 rfl rfl (Nat.le_of_ble_eq_true rfl) (by decide) ?_
  rintro r1 μ1 ⟨v, rfl, hC⟩
  refine r_aload_n 2 d_L_law_441 rfl rfl ?_
  refine r_aload_n 0 d_L_law_442 rfl rfl ?_
  refine r_iload_n 3 d_L_law_443 rfl rfl ?_
  refine r_iconst 1 d_L_law_444 rfl ?_
  refine r_iadd d_L_law_445 ?_
  refine r_sald (ixl 1 hX hi (by decide)) d_L_law_446 ?_
  refine r_callV hC lk_L_46 (by first | with_reducible assumption | rfl) d_L_law_447 rfl rfl (Nat.le_of_ble_eq_true rfl) (by decide) ?_
  rintro r2 μ2 ⟨rfl, hN⟩
  refine r_lcmp d_L_law_450 ?_
  refine r_if_eq d_L_law_451 (fun h451 => ?_) (fun h451 => absurd (lc0.mpr rfl) h451)
  exact key μ2 hN
theorem lc_7 (hX : X.1 ≤ 384) (hi : 6 * i + 6 ≤ X.1) (hD : D ≤ 108 * i) (hR : RRx m n D i μ) (key : ∀ μ', RS (i + 1) μ' → LC X i μ' 1739) : LC X i μ 456 := by
  refine r_aload_n 1 d_L_law_456 rfl rfl ?_
  refine r_aload_n 0 d_L_law_457 rfl rfl ?_
  refine r_iload_n 3 d_L_law_458 rfl rfl ?_
  refine r_iconst 1 d_L_law_459 rfl ?_
  refine r_iadd d_L_law_460 ?_
  refine r_sald (ixl 1 hX hi (by decide)) d_L_law_461 ?_
  refine r_aload_n 0 d_L_law_462 rfl rfl ?_
  refine r_iload_n 3 d_L_law_463 rfl rfl ?_
  refine r_iconst 2 d_L_law_464 rfl ?_
  refine r_iadd d_L_law_465 ?_
  refine r_sald (ixl 2 hX hi (by decide)) d_L_law_466 ?_
  refine r_aload_n 0 d_L_law_467 rfl rfl ?_
  refine r_iload_n 3 d_L_law_468 rfl rfl ?_
  refine r_iconst 3 d_L_law_469 rfl ?_
  refine r_iadd d_L_law_470 ?_
  refine r_sald (ixl 3 hX hi (by decide)) d_L_law_471 ?_
  refine r_callV (op_head hD hR _ _ _) lk_L_47 (by first | with_reducible assumption | rfl) d_L_law_472 rfl rfl (Nat.le_of_ble_eq_true rfl) (by decide) ?_
  rintro r1 μ1 ⟨v, rfl, hC⟩
  refine r_aload_n 2 d_L_law_475 rfl rfl ?_
  refine r_aload_n 0 d_L_law_476 rfl rfl ?_
  refine r_iload_n 3 d_L_law_477 rfl rfl ?_
  refine r_iconst 1 d_L_law_478 rfl ?_
  refine r_iadd d_L_law_479 ?_
  refine r_sald (ixl 1 hX hi (by decide)) d_L_law_480 ?_
  refine r_aload_n 0 d_L_law_481 rfl rfl ?_
  refine r_iload_n 3 d_L_law_482 rfl rfl ?_
  refine r_iconst 2 d_L_law_483 rfl ?_
  refine r_iadd d_L_law_484 ?_
  refine r_sald (ixl 2 hX hi (by decide)) d_L_law_485 ?_
  refine r_aload_n 0 d_L_law_486 rfl rfl ?_
  refine r_iload_n 3 d_L_law_487 rfl rfl ?_
  refine r_iconst 3 d_L_law_488 rfl ?_
  refine r_iadd d_L_law_489 ?_
  refine r_sald (ixl 3 hX hi (by decide)) d_L_law_490 ?_
  refine r_callV hC lk_L_51 (by first | with_reducible assumption | rfl) d_L_law_491 rfl rfl (Nat.le_of_ble_eq_true rfl) (by decide) ?_
  rintro r2 μ2 ⟨rfl, hN⟩
  refine r_icmp_eq d_L_law_494 (fun h494 => ?_) (fun h494 => absurd rfl h494)
  exact key μ2 hN
theorem lc_8 (hX : X.1 ≤ 384) (hi : 6 * i + 6 ≤ X.1) (hD : D ≤ 108 * i) (hR : RRx m n D i μ) (key : ∀ μ', RS (i + 1) μ' → LC X i μ' 1739) : LC X i μ 499 := by
  refine r_aload_n 1 d_L_law_499 rfl rfl ?_
  refine r_aload_n 0 d_L_law_500 rfl rfl ?_
  refine r_iload_n 3 d_L_law_501 rfl rfl ?_
  refine r_iconst 1 d_L_law_502 rfl ?_
  refine r_iadd d_L_law_503 ?_
  refine r_sald (ixl 1 hX hi (by decide)) d_L_law_504 ?_
  refine r_aload_n 0 d_L_law_505 rfl rfl ?_
  refine r_iload_n 3 d_L_law_506 rfl rfl ?_
  refine r_iconst 2 d_L_law_507 rfl ?_
  refine r_iadd d_L_law_508 ?_
  refine r_sald (ixl 2 hX hi (by decide)) d_L_law_509 ?_
  refine r_aload_n 0 d_L_law_510 rfl rfl ?_
  refine r_iload_n 3 d_L_law_511 rfl rfl ?_
  refine r_iconst 3 d_L_law_512 rfl ?_
  refine r_iadd d_L_law_513 ?_
  refine r_sald (ixl 3 hX hi (by decide)) d_L_law_514 ?_
  refine r_callV (op_firm hD hR _ _ _) lk_L_52 (by first | with_reducible assumption | rfl) d_L_law_515 rfl rfl (Nat.le_of_ble_eq_true rfl) (by decide) ?_
  rintro r1 μ1 ⟨v, rfl, hC⟩
  refine r_aload_n 2 d_L_law_518 rfl rfl ?_
  refine r_aload_n 0 d_L_law_519 rfl rfl ?_
  refine r_iload_n 3 d_L_law_520 rfl rfl ?_
  refine r_iconst 1 d_L_law_521 rfl ?_
  refine r_iadd d_L_law_522 ?_
  refine r_sald (ixl 1 hX hi (by decide)) d_L_law_523 ?_
  refine r_aload_n 0 d_L_law_524 rfl rfl ?_
  refine r_iload_n 3 d_L_law_525 rfl rfl ?_
  refine r_iconst 2 d_L_law_526 rfl ?_
  refine r_iadd d_L_law_527 ?_
  refine r_sald (ixl 2 hX hi (by decide)) d_L_law_528 ?_
  refine r_aload_n 0 d_L_law_529 rfl rfl ?_
  refine r_iload_n 3 d_L_law_530 rfl rfl ?_
  refine r_iconst 3 d_L_law_531 rfl ?_
  refine r_iadd d_L_law_532 ?_
  refine r_sald (ixl 3 hX hi (by decide)) d_L_law_533 ?_
  refine r_callV hC lk_L_55 (by first | with_reducible assumption | rfl) d_L_law_534 rfl rfl (Nat.le_of_ble_eq_true rfl) (by decide) ?_
  rintro r2 μ2 ⟨rfl, hN⟩
  refine r_icmp_eq d_L_law_537 (fun h537 => ?_) (fun h537 => absurd rfl h537)
  exact key μ2 hN
theorem lc_9 (hX : X.1 ≤ 384) (hi : 6 * i + 6 ≤ X.1) (hD : D ≤ 108 * i) (hR : RRx m n D i μ) (key : ∀ μ', RS (i + 1) μ' → LC X i μ' 1739) : LC X i μ 542 := by
  refine r_aload_n 1 d_L_law_542 rfl rfl ?_
  refine r_aload_n 0 d_L_law_543 rfl rfl ?_
  refine r_iload_n 3 d_L_law_544 rfl rfl ?_
  refine r_iconst 1 d_L_law_545 rfl ?_
  refine r_iadd d_L_law_546 ?_
  refine r_sald (ixl 1 hX hi (by decide)) d_L_law_547 ?_
  refine r_aload_n 0 d_L_law_548 rfl rfl ?_
  refine r_iload_n 3 d_L_law_549 rfl rfl ?_
  refine r_iconst 2 d_L_law_550 rfl ?_
  refine r_iadd d_L_law_551 ?_
  refine r_sald (ixl 2 hX hi (by decide)) d_L_law_552 ?_
  refine r_aload_n 0 d_L_law_553 rfl rfl ?_
  refine r_iload_n 3 d_L_law_554 rfl rfl ?_
  refine r_iconst 3 d_L_law_555 rfl ?_
  refine r_iadd d_L_law_556 ?_
  refine r_sald (ixl 3 hX hi (by decide)) d_L_law_557 ?_
  refine r_callV (op_rights hD hR _ _ _) lk_L_56 (by first | with_reducible assumption | rfl) d_L_law_558 rfl rfl (Nat.le_of_ble_eq_true rfl) (by decide) ?_
  rintro r1 μ1 ⟨v, rfl, hC⟩
  refine r_aload_n 2 d_L_law_561 rfl rfl ?_
  refine r_aload_n 0 d_L_law_562 rfl rfl ?_
  refine r_iload_n 3 d_L_law_563 rfl rfl ?_
  refine r_iconst 1 d_L_law_564 rfl ?_
  refine r_iadd d_L_law_565 ?_
  refine r_sald (ixl 1 hX hi (by decide)) d_L_law_566 ?_
  refine r_aload_n 0 d_L_law_567 rfl rfl ?_
  refine r_iload_n 3 d_L_law_568 rfl rfl ?_
  refine r_iconst 2 d_L_law_569 rfl ?_
  refine r_iadd d_L_law_570 ?_
  refine r_sald (ixl 2 hX hi (by decide)) d_L_law_571 ?_
  refine r_aload_n 0 d_L_law_572 rfl rfl ?_
  refine r_iload_n 3 d_L_law_573 rfl rfl ?_
  refine r_iconst 3 d_L_law_574 rfl ?_
  refine r_iadd d_L_law_575 ?_
  refine r_sald (ixl 3 hX hi (by decide)) d_L_law_576 ?_
  refine r_callV hC lk_L_59 (by first | with_reducible assumption | rfl) d_L_law_577 rfl rfl (Nat.le_of_ble_eq_true rfl) (by decide) ?_
  rintro r2 μ2 ⟨rfl, hN⟩
  refine r_icmp_eq d_L_law_580 (fun h580 => ?_) (fun h580 => absurd rfl h580)
  exact key μ2 hN
theorem lc_10 (hX : X.1 ≤ 384) (hi : 6 * i + 6 ≤ X.1) (hD : D ≤ 108 * i) (hR : RRx m n D i μ) (key : ∀ μ', RS (i + 1) μ' → LC X i μ' 1739) : LC X i μ 585 := by
  refine r_aload_n 1 d_L_law_585 rfl rfl ?_
  refine r_aload_n 0 d_L_law_586 rfl rfl ?_
  refine r_iload_n 3 d_L_law_587 rfl rfl ?_
  refine r_iconst 1 d_L_law_588 rfl ?_
  refine r_iadd d_L_law_589 ?_
  refine r_sald (ixl 1 hX hi (by decide)) d_L_law_590 ?_
  refine r_aload_n 0 d_L_law_591 rfl rfl ?_
  refine r_iload_n 3 d_L_law_592 rfl rfl ?_
  refine r_iconst 2 d_L_law_593 rfl ?_
  refine r_iadd d_L_law_594 ?_
  refine r_sald (ixl 2 hX hi (by decide)) d_L_law_595 ?_
  refine r_callV (op_set hD hR _ _) lk_L_60 (by first | with_reducible assumption | rfl) d_L_law_596 rfl rfl (Nat.le_of_ble_eq_true rfl) (by decide) ?_
  rintro r1 μ1 ⟨v, rfl, hC⟩
  refine r_aload_n 2 d_L_law_599 rfl rfl ?_
  refine r_aload_n 0 d_L_law_600 rfl rfl ?_
  refine r_iload_n 3 d_L_law_601 rfl rfl ?_
  refine r_iconst 1 d_L_law_602 rfl ?_
  refine r_iadd d_L_law_603 ?_
  refine r_sald (ixl 1 hX hi (by decide)) d_L_law_604 ?_
  refine r_aload_n 0 d_L_law_605 rfl rfl ?_
  refine r_iload_n 3 d_L_law_606 rfl rfl ?_
  refine r_iconst 2 d_L_law_607 rfl ?_
  refine r_iadd d_L_law_608 ?_
  refine r_sald (ixl 2 hX hi (by decide)) d_L_law_609 ?_
  refine r_callV hC lk_L_63 (by first | with_reducible assumption | rfl) d_L_law_610 rfl rfl (Nat.le_of_ble_eq_true rfl) (by decide) ?_
  rintro r2 μ2 ⟨rfl, hN⟩
  refine r_icmp_eq d_L_law_613 (fun h613 => ?_) (fun h613 => absurd rfl h613)
  exact key μ2 hN
theorem lc_11 (hX : X.1 ≤ 384) (hi : 6 * i + 6 ≤ X.1) (hD : D ≤ 108 * i) (hR : RRx m n D i μ) (key : ∀ μ', RS (i + 1) μ' → LC X i μ' 1739) : LC X i μ 618 := by
  refine r_aload_n 1 d_L_law_618 rfl rfl ?_
  refine r_callV (op_day hD hR) lk_L_64 (by first | with_reducible assumption | rfl) d_L_law_619 rfl rfl (Nat.le_of_ble_eq_true rfl) (by decide) ?_
  rintro r1 μ1 ⟨v, rfl, hC⟩
  refine r_aload_n 2 d_L_law_622 rfl rfl ?_
  refine r_callV hC lk_L_67 (by first | with_reducible assumption | rfl) d_L_law_623 rfl rfl (Nat.le_of_ble_eq_true rfl) (by decide) ?_
  rintro r2 μ2 ⟨rfl, hN⟩
  refine r_icmp_eq d_L_law_626 (fun h626 => ?_) (fun h626 => absurd rfl h626)
  exact key μ2 hN
theorem lc_12 (hX : X.1 ≤ 384) (hi : 6 * i + 6 ≤ X.1) (hD : D ≤ 108 * i) (hR : RRx m n D i μ) (key : ∀ μ', RS (i + 1) μ' → LC X i μ' 1739) : LC X i μ 631 := by
  refine r_aload_n 1 d_L_law_631 rfl rfl ?_
  refine r_aload_n 0 d_L_law_632 rfl rfl ?_
  refine r_iload_n 3 d_L_law_633 rfl rfl ?_
  refine r_iconst 1 d_L_law_634 rfl ?_
  refine r_iadd d_L_law_635 ?_
  refine r_sald (ixl 1 hX hi (by decide)) d_L_law_636 ?_
  refine r_aload_n 0 d_L_law_637 rfl rfl ?_
  refine r_iload_n 3 d_L_law_638 rfl rfl ?_
  refine r_iconst 2 d_L_law_639 rfl ?_
  refine r_iadd d_L_law_640 ?_
  refine r_sald (ixl 2 hX hi (by decide)) d_L_law_641 ?_
  refine r_aload_n 0 d_L_law_642 rfl rfl ?_
  refine r_iload_n 3 d_L_law_643 rfl rfl ?_
  refine r_iconst 3 d_L_law_644 rfl ?_
  refine r_iadd d_L_law_645 ?_
  refine r_sald (ixl 3 hX hi (by decide)) d_L_law_646 ?_
  refine r_callV (op_feel hD hR _ _ _) lk_L_68 (by first | with_reducible assumption | rfl) d_L_law_647 rfl rfl (Nat.le_of_ble_eq_true rfl) (by decide) ?_
  rintro r1 μ1 ⟨v, rfl, hC⟩
  refine r_aload_n 2 d_L_law_650 rfl rfl ?_
  refine r_aload_n 0 d_L_law_651 rfl rfl ?_
  refine r_iload_n 3 d_L_law_652 rfl rfl ?_
  refine r_iconst 1 d_L_law_653 rfl ?_
  refine r_iadd d_L_law_654 ?_
  refine r_sald (ixl 1 hX hi (by decide)) d_L_law_655 ?_
  refine r_aload_n 0 d_L_law_656 rfl rfl ?_
  refine r_iload_n 3 d_L_law_657 rfl rfl ?_
  refine r_iconst 2 d_L_law_658 rfl ?_
  refine r_iadd d_L_law_659 ?_
  refine r_sald (ixl 2 hX hi (by decide)) d_L_law_660 ?_
  refine r_aload_n 0 d_L_law_661 rfl rfl ?_
  refine r_iload_n 3 d_L_law_662 rfl rfl ?_
  refine r_iconst 3 d_L_law_663 rfl ?_
  refine r_iadd d_L_law_664 ?_
  refine r_sald (ixl 3 hX hi (by decide)) d_L_law_665 ?_
  refine r_callV hC lk_L_71 (by first | with_reducible assumption | rfl) d_L_law_666 rfl rfl (Nat.le_of_ble_eq_true rfl) (by decide) ?_
  rintro r2 μ2 ⟨rfl, hN⟩
  refine r_icmp_eq d_L_law_669 (fun h669 => ?_) (fun h669 => absurd rfl h669)
  exact key μ2 hN
theorem lc_13 (hX : X.1 ≤ 384) (hi : 6 * i + 6 ≤ X.1) (hD : D ≤ 108 * i) (hR : RRx m n D i μ) (key : ∀ μ', RS (i + 1) μ' → LC X i μ' 1739) : LC X i μ 674 := by
  refine r_aload_n 1 d_L_law_674 rfl rfl ?_
  refine r_aload_n 0 d_L_law_675 rfl rfl ?_
  refine r_iload_n 3 d_L_law_676 rfl rfl ?_
  refine r_iconst 1 d_L_law_677 rfl ?_
  refine r_iadd d_L_law_678 ?_
  refine r_sald (ixl 1 hX hi (by decide)) d_L_law_679 ?_
  refine r_aload_n 0 d_L_law_680 rfl rfl ?_
  refine r_iload_n 3 d_L_law_681 rfl rfl ?_
  refine r_iconst 2 d_L_law_682 rfl ?_
  refine r_iadd d_L_law_683 ?_
  refine r_sald (ixl 2 hX hi (by decide)) d_L_law_684 ?_
  refine r_aload_n 0 d_L_law_685 rfl rfl ?_
  refine r_iload_n 3 d_L_law_686 rfl rfl ?_
  refine r_iconst 3 d_L_law_687 rfl ?_
  refine r_iadd d_L_law_688 ?_
  refine r_sald (ixl 3 hX hi (by decide)) d_L_law_689 ?_
  refine r_aload_n 0 d_L_law_690 rfl rfl ?_
  refine r_iload_n 3 d_L_law_691 rfl rfl ?_
  refine r_iconst 4 d_L_law_692 rfl ?_
  refine r_iadd d_L_law_693 ?_
  refine r_sald (ixl 4 hX hi (by decide)) d_L_law_694 ?_
  refine r_callV (op_would hD hR _ _ _ _) lk_L_72 (by first | with_reducible assumption | rfl) d_L_law_695 rfl rfl (Nat.le_of_ble_eq_true rfl) (by decide) ?_
  rintro r1 μ1 ⟨v, rfl, hC⟩
  refine r_aload_n 2 d_L_law_698 rfl rfl ?_
  refine r_aload_n 0 d_L_law_699 rfl rfl ?_
  refine r_iload_n 3 d_L_law_700 rfl rfl ?_
  refine r_iconst 1 d_L_law_701 rfl ?_
  refine r_iadd d_L_law_702 ?_
  refine r_sald (ixl 1 hX hi (by decide)) d_L_law_703 ?_
  refine r_aload_n 0 d_L_law_704 rfl rfl ?_
  refine r_iload_n 3 d_L_law_705 rfl rfl ?_
  refine r_iconst 2 d_L_law_706 rfl ?_
  refine r_iadd d_L_law_707 ?_
  refine r_sald (ixl 2 hX hi (by decide)) d_L_law_708 ?_
  refine r_aload_n 0 d_L_law_709 rfl rfl ?_
  refine r_iload_n 3 d_L_law_710 rfl rfl ?_
  refine r_iconst 3 d_L_law_711 rfl ?_
  refine r_iadd d_L_law_712 ?_
  refine r_sald (ixl 3 hX hi (by decide)) d_L_law_713 ?_
  refine r_aload_n 0 d_L_law_714 rfl rfl ?_
  refine r_iload_n 3 d_L_law_715 rfl rfl ?_
  refine r_iconst 4 d_L_law_716 rfl ?_
  refine r_iadd d_L_law_717 ?_
  refine r_sald (ixl 4 hX hi (by decide)) d_L_law_718 ?_
  refine r_callV hC lk_L_76 (by first | with_reducible assumption | rfl) d_L_law_719 rfl rfl (Nat.le_of_ble_eq_true rfl) (by decide) ?_
  rintro r2 μ2 ⟨rfl, hN⟩
  refine r_icmp_eq d_L_law_722 (fun h722 => ?_) (fun h722 => absurd rfl h722)
  exact key μ2 hN
theorem lc_14 (hX : X.1 ≤ 384) (hi : 6 * i + 6 ≤ X.1) (hD : D ≤ 108 * i) (hR : RRx m n D i μ) (key : ∀ μ', RS (i + 1) μ' → LC X i μ' 1739) : LC X i μ 727 := by
  refine r_aload_n 1 d_L_law_727 rfl rfl ?_
  refine r_aload_n 0 d_L_law_728 rfl rfl ?_
  refine r_iload_n 3 d_L_law_729 rfl rfl ?_
  refine r_iconst 1 d_L_law_730 rfl ?_
  refine r_iadd d_L_law_731 ?_
  refine r_sald (ixl 1 hX hi (by decide)) d_L_law_732 ?_
  refine r_aload_n 0 d_L_law_733 rfl rfl ?_
  refine r_iload_n 3 d_L_law_734 rfl rfl ?_
  refine r_iconst 2 d_L_law_735 rfl ?_
  refine r_iadd d_L_law_736 ?_
  refine r_sald (ixl 2 hX hi (by decide)) d_L_law_737 ?_
  refine r_aload_n 0 d_L_law_738 rfl rfl ?_
  refine r_iload_n 3 d_L_law_739 rfl rfl ?_
  refine r_iconst 3 d_L_law_740 rfl ?_
  refine r_iadd d_L_law_741 ?_
  refine r_sald (ixl 3 hX hi (by decide)) d_L_law_742 ?_
  refine r_callV (op_ask hD hR (by omega) _ _ _) lk_L_77 (by first | with_reducible assumption | rfl) d_L_law_743 rfl rfl (Nat.le_of_ble_eq_true rfl) (by decide) ?_
  rintro r1 μ1 ⟨v, rfl, hC⟩
  refine r_aload_n 2 d_L_law_746 rfl rfl ?_
  refine r_aload_n 0 d_L_law_747 rfl rfl ?_
  refine r_iload_n 3 d_L_law_748 rfl rfl ?_
  refine r_iconst 1 d_L_law_749 rfl ?_
  refine r_iadd d_L_law_750 ?_
  refine r_sald (ixl 1 hX hi (by decide)) d_L_law_751 ?_
  refine r_aload_n 0 d_L_law_752 rfl rfl ?_
  refine r_iload_n 3 d_L_law_753 rfl rfl ?_
  refine r_iconst 2 d_L_law_754 rfl ?_
  refine r_iadd d_L_law_755 ?_
  refine r_sald (ixl 2 hX hi (by decide)) d_L_law_756 ?_
  refine r_aload_n 0 d_L_law_757 rfl rfl ?_
  refine r_iload_n 3 d_L_law_758 rfl rfl ?_
  refine r_iconst 3 d_L_law_759 rfl ?_
  refine r_iadd d_L_law_760 ?_
  refine r_sald (ixl 3 hX hi (by decide)) d_L_law_761 ?_
  refine r_callV hC lk_L_80 (by first | with_reducible assumption | rfl) d_L_law_762 rfl rfl (Nat.le_of_ble_eq_true rfl) (by decide) ?_
  rintro r2 μ2 ⟨rfl, hN⟩
  refine r_icmp_eq d_L_law_765 (fun h765 => ?_) (fun h765 => absurd rfl h765)
  exact key μ2 hN
theorem lc_15 (hX : X.1 ≤ 384) (hi : 6 * i + 6 ≤ X.1) (hD : D ≤ 108 * i) (hR : RRx m n D i μ) (key : ∀ μ', RS (i + 1) μ' → LC X i μ' 1739) : LC X i μ 770 := by
  refine r_aload_n 1 d_L_law_770 rfl rfl ?_
  refine r_aload_n 0 d_L_law_771 rfl rfl ?_
  refine r_iload_n 3 d_L_law_772 rfl rfl ?_
  refine r_iconst 1 d_L_law_773 rfl ?_
  refine r_iadd d_L_law_774 ?_
  refine r_sald (ixl 1 hX hi (by decide)) d_L_law_775 ?_
  refine r_aload_n 0 d_L_law_776 rfl rfl ?_
  refine r_iload_n 3 d_L_law_777 rfl rfl ?_
  refine r_iconst 2 d_L_law_778 rfl ?_
  refine r_iadd d_L_law_779 ?_
  refine r_sald (ixl 2 hX hi (by decide)) d_L_law_780 ?_
  refine r_callV (op_tell hD hR _ _) lk_L_81 (by first | with_reducible assumption | rfl) d_L_law_781 rfl rfl (Nat.le_of_ble_eq_true rfl) (by decide) ?_
  rintro r1 μ1 ⟨v, rfl, hC⟩
  refine r_aload_n 2 d_L_law_784 rfl rfl ?_
  refine r_aload_n 0 d_L_law_785 rfl rfl ?_
  refine r_iload_n 3 d_L_law_786 rfl rfl ?_
  refine r_iconst 1 d_L_law_787 rfl ?_
  refine r_iadd d_L_law_788 ?_
  refine r_sald (ixl 1 hX hi (by decide)) d_L_law_789 ?_
  refine r_aload_n 0 d_L_law_790 rfl rfl ?_
  refine r_iload_n 3 d_L_law_791 rfl rfl ?_
  refine r_iconst 2 d_L_law_792 rfl ?_
  refine r_iadd d_L_law_793 ?_
  refine r_sald (ixl 2 hX hi (by decide)) d_L_law_794 ?_
  refine r_callV hC lk_L_84 (by first | with_reducible assumption | rfl) d_L_law_795 rfl rfl (Nat.le_of_ble_eq_true rfl) (by decide) ?_
  rintro r2 μ2 ⟨rfl, hN⟩
  refine r_icmp_eq d_L_law_798 (fun h798 => ?_) (fun h798 => absurd rfl h798)
  exact key μ2 hN
theorem lc_16 (hX : X.1 ≤ 384) (hi : 6 * i + 6 ≤ X.1) (hD : D ≤ 108 * i) (hR : RRx m n D i μ) (key : ∀ μ', RS (i + 1) μ' → LC X i μ' 1739) : LC X i μ 803 := by
  refine r_aload_n 1 d_L_law_803 rfl rfl ?_
  refine r_aload_n 0 d_L_law_804 rfl rfl ?_
  refine r_iload_n 3 d_L_law_805 rfl rfl ?_
  refine r_iconst 1 d_L_law_806 rfl ?_
  refine r_iadd d_L_law_807 ?_
  refine r_sald (ixl 1 hX hi (by decide)) d_L_law_808 ?_
  refine r_callV (op_nights hD hR _) lk_L_85 (by first | with_reducible assumption | rfl) d_L_law_809 rfl rfl (Nat.le_of_ble_eq_true rfl) (by decide) ?_
  rintro r1 μ1 ⟨v, rfl, hC⟩
  refine r_aload_n 2 d_L_law_812 rfl rfl ?_
  refine r_aload_n 0 d_L_law_813 rfl rfl ?_
  refine r_iload_n 3 d_L_law_814 rfl rfl ?_
  refine r_iconst 1 d_L_law_815 rfl ?_
  refine r_iadd d_L_law_816 ?_
  refine r_sald (ixl 1 hX hi (by decide)) d_L_law_817 ?_
  refine r_callV hC lk_L_89 (by first | with_reducible assumption | rfl) d_L_law_818 rfl rfl (Nat.le_of_ble_eq_true rfl) (by decide) ?_
  rintro r2 μ2 ⟨rfl, hN⟩
  refine r_icmp_eq d_L_law_821 (fun h821 => ?_) (fun h821 => absurd rfl h821)
  exact key μ2 hN
theorem lc_17 (hX : X.1 ≤ 384) (hi : 6 * i + 6 ≤ X.1) (hD : D ≤ 108 * i) (hR : RRx m n D i μ) (key : ∀ μ', RS (i + 1) μ' → LC X i μ' 1739) : LC X i μ 826 := by
  refine r_aload_n 1 d_L_law_826 rfl rfl ?_
  refine r_aload_n 0 d_L_law_827 rfl rfl ?_
  refine r_iload_n 3 d_L_law_828 rfl rfl ?_
  refine r_iconst 1 d_L_law_829 rfl ?_
  refine r_iadd d_L_law_830 ?_
  refine r_sald (ixl 1 hX hi (by decide)) d_L_law_831 ?_
  refine r_callV (op_card hD hR _) lk_L_90 (by first | with_reducible assumption | rfl) d_L_law_832 rfl rfl (Nat.le_of_ble_eq_true rfl) (by decide) ?_
  rintro r1 μ1 ⟨v, rfl, hC⟩
  refine r_aload_n 2 d_L_law_835 rfl rfl ?_
  refine r_aload_n 0 d_L_law_836 rfl rfl ?_
  refine r_iload_n 3 d_L_law_837 rfl rfl ?_
  refine r_iconst 1 d_L_law_838 rfl ?_
  refine r_iadd d_L_law_839 ?_
  refine r_sald (ixl 1 hX hi (by decide)) d_L_law_840 ?_
  refine r_callV hC lk_L_93 (by first | with_reducible assumption | rfl) d_L_law_841 rfl rfl (Nat.le_of_ble_eq_true rfl) (by decide) ?_
  rintro r2 μ2 ⟨rfl, hN⟩
  refine r_icmp_eq d_L_law_844 (fun h844 => ?_) (fun h844 => absurd rfl h844)
  exact key μ2 hN
theorem lc_18 (hX : X.1 ≤ 384) (hi : 6 * i + 6 ≤ X.1) (hD : D ≤ 108 * i) (hR : RRx m n D i μ) (key : ∀ μ', RS (i + 1) μ' → LC X i μ' 1739) : LC X i μ 849 := by
  refine r_aload_n 1 d_L_law_849 rfl rfl ?_
  refine r_aload_n 0 d_L_law_850 rfl rfl ?_
  refine r_iload_n 3 d_L_law_851 rfl rfl ?_
  refine r_iconst 1 d_L_law_852 rfl ?_
  refine r_iadd d_L_law_853 ?_
  refine r_sald (ixl 1 hX hi (by decide)) d_L_law_854 ?_
  refine r_aload_n 0 d_L_law_855 rfl rfl ?_
  refine r_iload_n 3 d_L_law_856 rfl rfl ?_
  refine r_iconst 2 d_L_law_857 rfl ?_
  refine r_iadd d_L_law_858 ?_
  refine r_sald (ixl 2 hX hi (by decide)) d_L_law_859 ?_
  refine r_callV (op_known hD hR _ _) lk_L_94 (by first | with_reducible assumption | rfl) d_L_law_860 rfl rfl (Nat.le_of_ble_eq_true rfl) (by decide) ?_
  rintro r1 μ1 ⟨v, rfl, hC⟩
  refine r_aload_n 2 d_L_law_863 rfl rfl ?_
  refine r_aload_n 0 d_L_law_864 rfl rfl ?_
  refine r_iload_n 3 d_L_law_865 rfl rfl ?_
  refine r_iconst 1 d_L_law_866 rfl ?_
  refine r_iadd d_L_law_867 ?_
  refine r_sald (ixl 1 hX hi (by decide)) d_L_law_868 ?_
  refine r_aload_n 0 d_L_law_869 rfl rfl ?_
  refine r_iload_n 3 d_L_law_870 rfl rfl ?_
  refine r_iconst 2 d_L_law_871 rfl ?_
  refine r_iadd d_L_law_872 ?_
  refine r_sald (ixl 2 hX hi (by decide)) d_L_law_873 ?_
  refine r_callV hC lk_L_98 (by first | with_reducible assumption | rfl) d_L_law_874 rfl rfl (Nat.le_of_ble_eq_true rfl) (by decide) ?_
  rintro r2 μ2 ⟨rfl, hN⟩
  refine r_lcmp d_L_law_877 ?_
  refine r_if_eq d_L_law_878 (fun h878 => ?_) (fun h878 => absurd (lc0.mpr rfl) h878)
  exact key μ2 hN
theorem lc_19 (hX : X.1 ≤ 384) (hi : 6 * i + 6 ≤ X.1) (hD : D ≤ 108 * i) (hR : RRx m n D i μ) (key : ∀ μ', RS (i + 1) μ' → LC X i μ' 1739) : LC X i μ 883 := by
  refine r_aload_n 1 d_L_law_883 rfl rfl ?_
  refine r_aload_n 0 d_L_law_884 rfl rfl ?_
  refine r_iload_n 3 d_L_law_885 rfl rfl ?_
  refine r_iconst 1 d_L_law_886 rfl ?_
  refine r_iadd d_L_law_887 ?_
  refine r_sald (ixl 1 hX hi (by decide)) d_L_law_888 ?_
  refine r_aload_n 0 d_L_law_889 rfl rfl ?_
  refine r_iload_n 3 d_L_law_890 rfl rfl ?_
  refine r_iconst 2 d_L_law_891 rfl ?_
  refine r_iadd d_L_law_892 ?_
  refine r_sald (ixl 2 hX hi (by decide)) d_L_law_893 ?_
  refine r_aload_n 0 d_L_law_894 rfl rfl ?_
  refine r_iload_n 3 d_L_law_895 rfl rfl ?_
  refine r_iconst 3 d_L_law_896 rfl ?_
  refine r_iadd d_L_law_897 ?_
  refine r_sald (ixl 3 hX hi (by decide)) d_L_law_898 ?_
  refine r_callV (op_friday hD hR _ _ _) lk_L_99 (by first | with_reducible assumption | rfl) d_L_law_899 rfl rfl (Nat.le_of_ble_eq_true rfl) (by decide) ?_
  rintro r1 μ1 ⟨v, rfl, hC⟩
  refine r_aload_n 2 d_L_law_902 rfl rfl ?_
  refine r_aload_n 0 d_L_law_903 rfl rfl ?_
  refine r_iload_n 3 d_L_law_904 rfl rfl ?_
  refine r_iconst 1 d_L_law_905 rfl ?_
  refine r_iadd d_L_law_906 ?_
  refine r_sald (ixl 1 hX hi (by decide)) d_L_law_907 ?_
  refine r_aload_n 0 d_L_law_908 rfl rfl ?_
  refine r_iload_n 3 d_L_law_909 rfl rfl ?_
  refine r_iconst 2 d_L_law_910 rfl ?_
  refine r_iadd d_L_law_911 ?_
  refine r_sald (ixl 2 hX hi (by decide)) d_L_law_912 ?_
  refine r_aload_n 0 d_L_law_913 rfl rfl ?_
  refine r_iload_n 3 d_L_law_914 rfl rfl ?_
  refine r_iconst 3 d_L_law_915 rfl ?_
  refine r_iadd d_L_law_916 ?_
  refine r_sald (ixl 3 hX hi (by decide)) d_L_law_917 ?_
  refine r_callV hC lk_L_103 (by first | with_reducible assumption | rfl) d_L_law_918 rfl rfl (Nat.le_of_ble_eq_true rfl) (by decide) ?_
  rintro r2 μ2 ⟨rfl, hN⟩
  refine r_lcmp d_L_law_921 ?_
  refine r_if_eq d_L_law_922 (fun h922 => ?_) (fun h922 => absurd (lc0.mpr rfl) h922)
  exact key μ2 hN
theorem lc_20 (hX : X.1 ≤ 384) (hi : 6 * i + 6 ≤ X.1) (hD : D ≤ 108 * i) (hR : RRx m n D i μ) (key : ∀ μ', RS (i + 1) μ' → LC X i μ' 1739) : LC X i μ 927 := by
  refine r_aload_n 1 d_L_law_927 rfl rfl ?_
  refine r_aload_n 0 d_L_law_928 rfl rfl ?_
  refine r_iload_n 3 d_L_law_929 rfl rfl ?_
  refine r_iconst 1 d_L_law_930 rfl ?_
  refine r_iadd d_L_law_931 ?_
  refine r_sald (ixl 1 hX hi (by decide)) d_L_law_932 ?_
  refine r_aload_n 0 d_L_law_933 rfl rfl ?_
  refine r_iload_n 3 d_L_law_934 rfl rfl ?_
  refine r_iconst 2 d_L_law_935 rfl ?_
  refine r_iadd d_L_law_936 ?_
  refine r_sald (ixl 2 hX hi (by decide)) d_L_law_937 ?_
  refine r_callV (op_odds hD hR _ _) lk_L_104 (by first | with_reducible assumption | rfl) d_L_law_938 rfl rfl (Nat.le_of_ble_eq_true rfl) (by decide) ?_
  rintro r1 μ1 ⟨v, rfl, hC⟩
  refine r_aload_n 2 d_L_law_941 rfl rfl ?_
  refine r_aload_n 0 d_L_law_942 rfl rfl ?_
  refine r_iload_n 3 d_L_law_943 rfl rfl ?_
  refine r_iconst 1 d_L_law_944 rfl ?_
  refine r_iadd d_L_law_945 ?_
  refine r_sald (ixl 1 hX hi (by decide)) d_L_law_946 ?_
  refine r_aload_n 0 d_L_law_947 rfl rfl ?_
  refine r_iload_n 3 d_L_law_948 rfl rfl ?_
  refine r_iconst 2 d_L_law_949 rfl ?_
  refine r_iadd d_L_law_950 ?_
  refine r_sald (ixl 2 hX hi (by decide)) d_L_law_951 ?_
  refine r_callV hC lk_L_107 (by first | with_reducible assumption | rfl) d_L_law_952 rfl rfl (Nat.le_of_ble_eq_true rfl) (by decide) ?_
  rintro r2 μ2 ⟨rfl, hN⟩
  refine r_icmp_eq d_L_law_955 (fun h955 => ?_) (fun h955 => absurd rfl h955)
  exact key μ2 hN
theorem lc_21 (hX : X.1 ≤ 384) (hi : 6 * i + 6 ≤ X.1) (hD : D ≤ 108 * i) (hR : RRx m n D i μ) (key : ∀ μ', RS (i + 1) μ' → LC X i μ' 1739) : LC X i μ 960 := by
  refine r_aload_n 1 d_L_law_960 rfl rfl ?_
  refine r_aload_n 0 d_L_law_961 rfl rfl ?_
  refine r_iload_n 3 d_L_law_962 rfl rfl ?_
  refine r_iconst 1 d_L_law_963 rfl ?_
  refine r_iadd d_L_law_964 ?_
  refine r_sald (ixl 1 hX hi (by decide)) d_L_law_965 ?_
  refine r_aload_n 0 d_L_law_966 rfl rfl ?_
  refine r_iload_n 3 d_L_law_967 rfl rfl ?_
  refine r_iconst 2 d_L_law_968 rfl ?_
  refine r_iadd d_L_law_969 ?_
  refine r_sald (ixl 2 hX hi (by decide)) d_L_law_970 ?_
  refine r_aload_n 0 d_L_law_971 rfl rfl ?_
  refine r_iload_n 3 d_L_law_972 rfl rfl ?_
  refine r_iconst 3 d_L_law_973 rfl ?_
  refine r_iadd d_L_law_974 ?_
  refine r_sald (ixl 3 hX hi (by decide)) d_L_law_975 ?_
  refine r_aload_n 0 d_L_law_976 rfl rfl ?_
  refine r_iload_n 3 d_L_law_977 rfl rfl ?_
  refine r_iconst 4 d_L_law_978 rfl ?_
  refine r_iadd d_L_law_979 ?_
  refine r_sald (ixl 4 hX hi (by decide)) d_L_law_980 ?_
  refine r_callV (op_best hD hR _ _ _ _) lk_L_108 (by first | with_reducible assumption | rfl) d_L_law_981 rfl rfl (Nat.le_of_ble_eq_true rfl) (by decide) ?_
  rintro r1 μ1 ⟨v, rfl, hC⟩
  refine r_aload_n 2 d_L_law_984 rfl rfl ?_
  refine r_aload_n 0 d_L_law_985 rfl rfl ?_
  refine r_iload_n 3 d_L_law_986 rfl rfl ?_
  refine r_iconst 1 d_L_law_987 rfl ?_
  refine r_iadd d_L_law_988 ?_
  refine r_sald (ixl 1 hX hi (by decide)) d_L_law_989 ?_
  refine r_aload_n 0 d_L_law_990 rfl rfl ?_
  refine r_iload_n 3 d_L_law_991 rfl rfl ?_
  refine r_iconst 2 d_L_law_992 rfl ?_
  refine r_iadd d_L_law_993 ?_
  refine r_sald (ixl 2 hX hi (by decide)) d_L_law_994 ?_
  refine r_aload_n 0 d_L_law_995 rfl rfl ?_
  refine r_iload_n 3 d_L_law_996 rfl rfl ?_
  refine r_iconst 3 d_L_law_997 rfl ?_
  refine r_iadd d_L_law_998 ?_
  refine r_sald (ixl 3 hX hi (by decide)) d_L_law_999 ?_
  refine r_aload_n 0 d_L_law_1000 rfl rfl ?_
  refine r_iload_n 3 d_L_law_1001 rfl rfl ?_
  refine r_iconst 4 d_L_law_1002 rfl ?_
  refine r_iadd d_L_law_1003 ?_
  refine r_sald (ixl 4 hX hi (by decide)) d_L_law_1004 ?_
  refine r_callV hC lk_L_111 (by first | with_reducible assumption | rfl) d_L_law_1005 rfl rfl (Nat.le_of_ble_eq_true rfl) (by decide) ?_
  rintro r2 μ2 ⟨rfl, hN⟩
  refine r_icmp_eq d_L_law_1008 (fun h1008 => ?_) (fun h1008 => absurd rfl h1008)
  exact key μ2 hN
theorem lc_22 (hX : X.1 ≤ 384) (hi : 6 * i + 6 ≤ X.1) (hD : D ≤ 108 * i) (hR : RRx m n D i μ) (key : ∀ μ', RS (i + 1) μ' → LC X i μ' 1739) : LC X i μ 1013 := by
  refine r_aload_n 1 d_L_law_1013 rfl rfl ?_
  refine r_aload_n 0 d_L_law_1014 rfl rfl ?_
  refine r_iload_n 3 d_L_law_1015 rfl rfl ?_
  refine r_iconst 1 d_L_law_1016 rfl ?_
  refine r_iadd d_L_law_1017 ?_
  refine r_sald (ixl 1 hX hi (by decide)) d_L_law_1018 ?_
  refine r_aload_n 0 d_L_law_1019 rfl rfl ?_
  refine r_iload_n 3 d_L_law_1020 rfl rfl ?_
  refine r_iconst 2 d_L_law_1021 rfl ?_
  refine r_iadd d_L_law_1022 ?_
  refine r_sald (ixl 2 hX hi (by decide)) d_L_law_1023 ?_
  refine r_aload_n 0 d_L_law_1024 rfl rfl ?_
  refine r_iload_n 3 d_L_law_1025 rfl rfl ?_
  refine r_iconst 3 d_L_law_1026 rfl ?_
  refine r_iadd d_L_law_1027 ?_
  refine r_sald (ixl 3 hX hi (by decide)) d_L_law_1028 ?_
  refine r_callV (op_till hD hR _ _ _) lk_L_112 (by first | with_reducible assumption | rfl) d_L_law_1029 rfl rfl (Nat.le_of_ble_eq_true rfl) (by decide) ?_
  rintro r1 μ1 ⟨v, rfl, hC⟩
  refine r_aload_n 2 d_L_law_1032 rfl rfl ?_
  refine r_aload_n 0 d_L_law_1033 rfl rfl ?_
  refine r_iload_n 3 d_L_law_1034 rfl rfl ?_
  refine r_iconst 1 d_L_law_1035 rfl ?_
  refine r_iadd d_L_law_1036 ?_
  refine r_sald (ixl 1 hX hi (by decide)) d_L_law_1037 ?_
  refine r_aload_n 0 d_L_law_1038 rfl rfl ?_
  refine r_iload_n 3 d_L_law_1039 rfl rfl ?_
  refine r_iconst 2 d_L_law_1040 rfl ?_
  refine r_iadd d_L_law_1041 ?_
  refine r_sald (ixl 2 hX hi (by decide)) d_L_law_1042 ?_
  refine r_aload_n 0 d_L_law_1043 rfl rfl ?_
  refine r_iload_n 3 d_L_law_1044 rfl rfl ?_
  refine r_iconst 3 d_L_law_1045 rfl ?_
  refine r_iadd d_L_law_1046 ?_
  refine r_sald (ixl 3 hX hi (by decide)) d_L_law_1047 ?_
  refine r_callV hC lk_L_115 (by first | with_reducible assumption | rfl) d_L_law_1048 rfl rfl (Nat.le_of_ble_eq_true rfl) (by decide) ?_
  rintro r2 μ2 ⟨rfl, hN⟩
  refine r_icmp_eq d_L_law_1051 (fun h1051 => ?_) (fun h1051 => absurd rfl h1051)
  exact key μ2 hN
theorem lc_23 (hX : X.1 ≤ 384) (hi : 6 * i + 6 ≤ X.1) (hD : D ≤ 108 * i) (hR : RRx m n D i μ) (key : ∀ μ', RS (i + 1) μ' → LC X i μ' 1739) : LC X i μ 1056 := by
  refine r_aload_n 1 d_L_law_1056 rfl rfl ?_
  refine r_aload_n 0 d_L_law_1057 rfl rfl ?_
  refine r_iload_n 3 d_L_law_1058 rfl rfl ?_
  refine r_iconst 1 d_L_law_1059 rfl ?_
  refine r_iadd d_L_law_1060 ?_
  refine r_sald (ixl 1 hX hi (by decide)) d_L_law_1061 ?_
  refine r_callV (op_hardest hD hR _) lk_L_116 (by first | with_reducible assumption | rfl) d_L_law_1062 rfl rfl (Nat.le_of_ble_eq_true rfl) (by decide) ?_
  rintro r1 μ1 ⟨v, rfl, hC⟩
  refine r_aload_n 2 d_L_law_1065 rfl rfl ?_
  refine r_aload_n 0 d_L_law_1066 rfl rfl ?_
  refine r_iload_n 3 d_L_law_1067 rfl rfl ?_
  refine r_iconst 1 d_L_law_1068 rfl ?_
  refine r_iadd d_L_law_1069 ?_
  refine r_sald (ixl 1 hX hi (by decide)) d_L_law_1070 ?_
  refine r_callV hC lk_L_119 (by first | with_reducible assumption | rfl) d_L_law_1071 rfl rfl (Nat.le_of_ble_eq_true rfl) (by decide) ?_
  rintro r2 μ2 ⟨rfl, hN⟩
  refine r_icmp_eq d_L_law_1074 (fun h1074 => ?_) (fun h1074 => absurd rfl h1074)
  exact key μ2 hN
theorem lc_24 (hX : X.1 ≤ 384) (hi : 6 * i + 6 ≤ X.1) (hD : D ≤ 108 * i) (hR : RRx m n D i μ) (key : ∀ μ', RS (i + 1) μ' → LC X i μ' 1739) : LC X i μ 1079 := by
  refine r_aload_n 1 d_L_law_1079 rfl rfl ?_
  refine r_aload_n 0 d_L_law_1080 rfl rfl ?_
  refine r_iload_n 3 d_L_law_1081 rfl rfl ?_
  refine r_iconst 1 d_L_law_1082 rfl ?_
  refine r_iadd d_L_law_1083 ?_
  refine r_sald (ixl 1 hX hi (by decide)) d_L_law_1084 ?_
  refine r_aload_n 0 d_L_law_1085 rfl rfl ?_
  refine r_iload_n 3 d_L_law_1086 rfl rfl ?_
  refine r_iconst 2 d_L_law_1087 rfl ?_
  refine r_iadd d_L_law_1088 ?_
  refine r_sald (ixl 2 hX hi (by decide)) d_L_law_1089 ?_
  refine r_aload_n 0 d_L_law_1090 rfl rfl ?_
  refine r_iload_n 3 d_L_law_1091 rfl rfl ?_
  refine r_iconst 3 d_L_law_1092 rfl ?_
  refine r_iadd d_L_law_1093 ?_
  refine r_sald (ixl 3 hX hi (by decide)) d_L_law_1094 ?_
  refine r_callV (op_draws hD hR _ _ _) lk_L_120 (by first | with_reducible assumption | rfl) d_L_law_1095 rfl rfl (Nat.le_of_ble_eq_true rfl) (by decide) ?_
  rintro r1 μ1 ⟨v, rfl, hC⟩
  refine r_aload_n 2 d_L_law_1098 rfl rfl ?_
  refine r_aload_n 0 d_L_law_1099 rfl rfl ?_
  refine r_iload_n 3 d_L_law_1100 rfl rfl ?_
  refine r_iconst 1 d_L_law_1101 rfl ?_
  refine r_iadd d_L_law_1102 ?_
  refine r_sald (ixl 1 hX hi (by decide)) d_L_law_1103 ?_
  refine r_aload_n 0 d_L_law_1104 rfl rfl ?_
  refine r_iload_n 3 d_L_law_1105 rfl rfl ?_
  refine r_iconst 2 d_L_law_1106 rfl ?_
  refine r_iadd d_L_law_1107 ?_
  refine r_sald (ixl 2 hX hi (by decide)) d_L_law_1108 ?_
  refine r_aload_n 0 d_L_law_1109 rfl rfl ?_
  refine r_iload_n 3 d_L_law_1110 rfl rfl ?_
  refine r_iconst 3 d_L_law_1111 rfl ?_
  refine r_iadd d_L_law_1112 ?_
  refine r_sald (ixl 3 hX hi (by decide)) d_L_law_1113 ?_
  refine r_callV hC lk_L_123 (by first | with_reducible assumption | rfl) d_L_law_1114 rfl rfl (Nat.le_of_ble_eq_true rfl) (by decide) ?_
  rintro r2 μ2 ⟨rfl, hN⟩
  refine r_icmp_eq d_L_law_1117 (fun h1117 => ?_) (fun h1117 => absurd rfl h1117)
  exact key μ2 hN
theorem lc_25 (hX : X.1 ≤ 384) (hi : 6 * i + 6 ≤ X.1) (hD : D ≤ 108 * i) (hR : RRx m n D i μ) (key : ∀ μ', RS (i + 1) μ' → LC X i μ' 1739) : LC X i μ 1122 := by
  refine r_aload_n 1 d_L_law_1122 rfl rfl ?_
  refine r_aload_n 0 d_L_law_1123 rfl rfl ?_
  refine r_iload_n 3 d_L_law_1124 rfl rfl ?_
  refine r_iconst 1 d_L_law_1125 rfl ?_
  refine r_iadd d_L_law_1126 ?_
  refine r_sald (ixl 1 hX hi (by decide)) d_L_law_1127 ?_
  refine r_callV (op_give hD hR (by omega) _) lk_L_124 (by first | with_reducible assumption | rfl) d_L_law_1128 rfl rfl (Nat.le_of_ble_eq_true rfl) (by decide) ?_
  rintro r1 μ1 ⟨v, rfl, hC⟩
  refine r_aload_n 2 d_L_law_1131 rfl rfl ?_
  refine r_aload_n 0 d_L_law_1132 rfl rfl ?_
  refine r_iload_n 3 d_L_law_1133 rfl rfl ?_
  refine r_iconst 1 d_L_law_1134 rfl ?_
  refine r_iadd d_L_law_1135 ?_
  refine r_sald (ixl 1 hX hi (by decide)) d_L_law_1136 ?_
  refine r_callV hC lk_L_127 (by first | with_reducible assumption | rfl) d_L_law_1137 rfl rfl (Nat.le_of_ble_eq_true rfl) (by decide) ?_
  rintro r2 μ2 ⟨rfl, hN⟩
  refine r_icmp_eq d_L_law_1140 (fun h1140 => ?_) (fun h1140 => absurd rfl h1140)
  exact key μ2 hN
theorem lc_26 (hX : X.1 ≤ 384) (hi : 6 * i + 6 ≤ X.1) (hD : D ≤ 108 * i) (hR : RRx m n D i μ) (key : ∀ μ', RS (i + 1) μ' → LC X i μ' 1739) : LC X i μ 1145 := by
  refine r_aload_n 1 d_L_law_1145 rfl rfl ?_
  refine r_aload_n 0 d_L_law_1146 rfl rfl ?_
  refine r_iload_n 3 d_L_law_1147 rfl rfl ?_
  refine r_iconst 1 d_L_law_1148 rfl ?_
  refine r_iadd d_L_law_1149 ?_
  refine r_sald (ixl 1 hX hi (by decide)) d_L_law_1150 ?_
  refine r_aload_n 0 d_L_law_1151 rfl rfl ?_
  refine r_iload_n 3 d_L_law_1152 rfl rfl ?_
  refine r_iconst 2 d_L_law_1153 rfl ?_
  refine r_iadd d_L_law_1154 ?_
  refine r_sald (ixl 2 hX hi (by decide)) d_L_law_1155 ?_
  refine r_callV (op_item hD hR _ _) lk_L_128 (by first | with_reducible assumption | rfl) d_L_law_1156 rfl rfl (Nat.le_of_ble_eq_true rfl) (by decide) ?_
  rintro r1 μ1 ⟨v, rfl, hC⟩
  refine r_aload_n 2 d_L_law_1159 rfl rfl ?_
  refine r_aload_n 0 d_L_law_1160 rfl rfl ?_
  refine r_iload_n 3 d_L_law_1161 rfl rfl ?_
  refine r_iconst 1 d_L_law_1162 rfl ?_
  refine r_iadd d_L_law_1163 ?_
  refine r_sald (ixl 1 hX hi (by decide)) d_L_law_1164 ?_
  refine r_aload_n 0 d_L_law_1165 rfl rfl ?_
  refine r_iload_n 3 d_L_law_1166 rfl rfl ?_
  refine r_iconst 2 d_L_law_1167 rfl ?_
  refine r_iadd d_L_law_1168 ?_
  refine r_sald (ixl 2 hX hi (by decide)) d_L_law_1169 ?_
  refine r_callV hC lk_L_131 (by first | with_reducible assumption | rfl) d_L_law_1170 rfl rfl (Nat.le_of_ble_eq_true rfl) (by decide) ?_
  rintro r2 μ2 ⟨rfl, hN⟩
  refine r_icmp_eq d_L_law_1173 (fun h1173 => ?_) (fun h1173 => absurd rfl h1173)
  exact key μ2 hN
theorem lc_27 (hX : X.1 ≤ 384) (hi : 6 * i + 6 ≤ X.1) (hD : D ≤ 108 * i) (hR : RRx m n D i μ) (key : ∀ μ', RS (i + 1) μ' → LC X i μ' 1739) : LC X i μ 1178 := by
  refine r_aload_n 1 d_L_law_1178 rfl rfl ?_
  refine r_aload_n 0 d_L_law_1179 rfl rfl ?_
  refine r_iload_n 3 d_L_law_1180 rfl rfl ?_
  refine r_iconst 1 d_L_law_1181 rfl ?_
  refine r_iadd d_L_law_1182 ?_
  refine r_sald (ixl 1 hX hi (by decide)) d_L_law_1183 ?_
  refine r_callV (op_seed hD hR _) lk_L_132 (by first | with_reducible assumption | rfl) d_L_law_1184 rfl rfl (Nat.le_of_ble_eq_true rfl) (by decide) ?_
  rintro r1 μ1 ⟨v, rfl, hC⟩
  refine r_aload_n 2 d_L_law_1187 rfl rfl ?_
  refine r_aload_n 0 d_L_law_1188 rfl rfl ?_
  refine r_iload_n 3 d_L_law_1189 rfl rfl ?_
  refine r_iconst 1 d_L_law_1190 rfl ?_
  refine r_iadd d_L_law_1191 ?_
  refine r_sald (ixl 1 hX hi (by decide)) d_L_law_1192 ?_
  refine r_callV hC lk_L_135 (by first | with_reducible assumption | rfl) d_L_law_1193 rfl rfl (Nat.le_of_ble_eq_true rfl) (by decide) ?_
  rintro r2 μ2 ⟨rfl, hN⟩
  refine r_icmp_eq d_L_law_1196 (fun h1196 => ?_) (fun h1196 => absurd rfl h1196)
  exact key μ2 hN
theorem lc_28 (hX : X.1 ≤ 384) (hi : 6 * i + 6 ≤ X.1) (hD : D ≤ 108 * i) (hR : RRx m n D i μ) (key : ∀ μ', RS (i + 1) μ' → LC X i μ' 1739) : LC X i μ 1201 := by
  refine r_aload_n 1 d_L_law_1201 rfl rfl ?_
  refine r_aload_n 0 d_L_law_1202 rfl rfl ?_
  refine r_iload_n 3 d_L_law_1203 rfl rfl ?_
  refine r_iconst 1 d_L_law_1204 rfl ?_
  refine r_iadd d_L_law_1205 ?_
  refine r_sald (ixl 1 hX hi (by decide)) d_L_law_1206 ?_
  refine r_aload_n 0 d_L_law_1207 rfl rfl ?_
  refine r_iload_n 3 d_L_law_1208 rfl rfl ?_
  refine r_iconst 2 d_L_law_1209 rfl ?_
  refine r_iadd d_L_law_1210 ?_
  refine r_sald (ixl 2 hX hi (by decide)) d_L_law_1211 ?_
  refine r_callV (op_draw hD hR _ _) lk_L_136 (by first | with_reducible assumption | rfl) d_L_law_1212 rfl rfl (Nat.le_of_ble_eq_true rfl) (by decide) ?_
  rintro r1 μ1 ⟨v, rfl, hC⟩
  refine r_aload_n 2 d_L_law_1215 rfl rfl ?_
  refine r_aload_n 0 d_L_law_1216 rfl rfl ?_
  refine r_iload_n 3 d_L_law_1217 rfl rfl ?_
  refine r_iconst 1 d_L_law_1218 rfl ?_
  refine r_iadd d_L_law_1219 ?_
  refine r_sald (ixl 1 hX hi (by decide)) d_L_law_1220 ?_
  refine r_aload_n 0 d_L_law_1221 rfl rfl ?_
  refine r_iload_n 3 d_L_law_1222 rfl rfl ?_
  refine r_iconst 2 d_L_law_1223 rfl ?_
  refine r_iadd d_L_law_1224 ?_
  refine r_sald (ixl 2 hX hi (by decide)) d_L_law_1225 ?_
  refine r_callV hC lk_L_139 (by first | with_reducible assumption | rfl) d_L_law_1226 rfl rfl (Nat.le_of_ble_eq_true rfl) (by decide) ?_
  rintro r2 μ2 ⟨rfl, hN⟩
  refine r_icmp_eq d_L_law_1229 (fun h1229 => ?_) (fun h1229 => absurd rfl h1229)
  exact key μ2 hN
theorem lc_29 (hX : X.1 ≤ 384) (hi : 6 * i + 6 ≤ X.1) (hD : D ≤ 108 * i) (hR : RRx m n D i μ) (key : ∀ μ', RS (i + 1) μ' → LC X i μ' 1739) : LC X i μ 1234 := by
  refine r_aload_n 1 d_L_law_1234 rfl rfl ?_
  refine r_aload_n 0 d_L_law_1235 rfl rfl ?_
  refine r_iload_n 3 d_L_law_1236 rfl rfl ?_
  refine r_iconst 1 d_L_law_1237 rfl ?_
  refine r_iadd d_L_law_1238 ?_
  refine r_sald (ixl 1 hX hi (by decide)) d_L_law_1239 ?_
  refine r_callV (op_prove hD hR (by omega) _) lk_L_140 (by first | with_reducible assumption | rfl) d_L_law_1240 rfl rfl (Nat.le_of_ble_eq_true rfl) (by decide) ?_
  rintro r1 μ1 ⟨v, rfl, hC⟩
  refine r_aload_n 2 d_L_law_1243 rfl rfl ?_
  refine r_aload_n 0 d_L_law_1244 rfl rfl ?_
  refine r_iload_n 3 d_L_law_1245 rfl rfl ?_
  refine r_iconst 1 d_L_law_1246 rfl ?_
  refine r_iadd d_L_law_1247 ?_
  refine r_sald (ixl 1 hX hi (by decide)) d_L_law_1248 ?_
  refine r_callV hC lk_L_143 (by first | with_reducible assumption | rfl) d_L_law_1249 rfl rfl (Nat.le_of_ble_eq_true rfl) (by decide) ?_
  rintro r2 μ2 ⟨rfl, hN⟩
  refine r_icmp_eq d_L_law_1252 (fun h1252 => ?_) (fun h1252 => absurd rfl h1252)
  exact key μ2 hN
theorem lc_30 (hX : X.1 ≤ 384) (hi : 6 * i + 6 ≤ X.1) (hD : D ≤ 108 * i) (hR : RRx m n D i μ) (key : ∀ μ', RS (i + 1) μ' → LC X i μ' 1739) : LC X i μ 1257 := by
  refine r_aload_n 1 d_L_law_1257 rfl rfl ?_
  refine r_aload_n 0 d_L_law_1258 rfl rfl ?_
  refine r_iload_n 3 d_L_law_1259 rfl rfl ?_
  refine r_iconst 1 d_L_law_1260 rfl ?_
  refine r_iadd d_L_law_1261 ?_
  refine r_sald (ixl 1 hX hi (by decide)) d_L_law_1262 ?_
  refine r_aload_n 0 d_L_law_1263 rfl rfl ?_
  refine r_iload_n 3 d_L_law_1264 rfl rfl ?_
  refine r_iconst 2 d_L_law_1265 rfl ?_
  refine r_iadd d_L_law_1266 ?_
  refine r_sald (ixl 2 hX hi (by decide)) d_L_law_1267 ?_
  refine r_callV (op_row hD hR _ _) lk_L_144 (by first | with_reducible assumption | rfl) d_L_law_1268 rfl rfl (Nat.le_of_ble_eq_true rfl) (by decide) ?_
  rintro r1 μ1 ⟨v, rfl, hC⟩
  refine r_aload_n 2 d_L_law_1271 rfl rfl ?_
  refine r_aload_n 0 d_L_law_1272 rfl rfl ?_
  refine r_iload_n 3 d_L_law_1273 rfl rfl ?_
  refine r_iconst 1 d_L_law_1274 rfl ?_
  refine r_iadd d_L_law_1275 ?_
  refine r_sald (ixl 1 hX hi (by decide)) d_L_law_1276 ?_
  refine r_aload_n 0 d_L_law_1277 rfl rfl ?_
  refine r_iload_n 3 d_L_law_1278 rfl rfl ?_
  refine r_iconst 2 d_L_law_1279 rfl ?_
  refine r_iadd d_L_law_1280 ?_
  refine r_sald (ixl 2 hX hi (by decide)) d_L_law_1281 ?_
  refine r_callV hC lk_L_147 (by first | with_reducible assumption | rfl) d_L_law_1282 rfl rfl (Nat.le_of_ble_eq_true rfl) (by decide) ?_
  rintro r2 μ2 ⟨rfl, hN⟩
  refine r_icmp_eq d_L_law_1285 (fun h1285 => ?_) (fun h1285 => absurd rfl h1285)
  exact key μ2 hN
theorem lc_31 (hX : X.1 ≤ 384) (hi : 6 * i + 6 ≤ X.1) (hD : D ≤ 108 * i) (hR : RRx m n D i μ) (key : ∀ μ', RS (i + 1) μ' → LC X i μ' 1739) : LC X i μ 1290 := by
  refine r_aload_n 1 d_L_law_1290 rfl rfl ?_
  refine r_aload_n 0 d_L_law_1291 rfl rfl ?_
  refine r_iload_n 3 d_L_law_1292 rfl rfl ?_
  refine r_iconst 1 d_L_law_1293 rfl ?_
  refine r_iadd d_L_law_1294 ?_
  refine r_sald (ixl 1 hX hi (by decide)) d_L_law_1295 ?_
  refine r_aload_n 0 d_L_law_1296 rfl rfl ?_
  refine r_iload_n 3 d_L_law_1297 rfl rfl ?_
  refine r_iconst 2 d_L_law_1298 rfl ?_
  refine r_iadd d_L_law_1299 ?_
  refine r_sald (ixl 2 hX hi (by decide)) d_L_law_1300 ?_
  refine r_aload_n 0 d_L_law_1301 rfl rfl ?_
  refine r_iload_n 3 d_L_law_1302 rfl rfl ?_
  refine r_iconst 3 d_L_law_1303 rfl ?_
  refine r_iadd d_L_law_1304 ?_
  refine r_sald (ixl 3 hX hi (by decide)) d_L_law_1305 ?_
  refine r_callV (op_alterRow hD hR _ _ _) lk_L_148 (by first | with_reducible assumption | rfl) d_L_law_1306 rfl rfl (Nat.le_of_ble_eq_true rfl) (by decide) ?_
  rintro r1 μ1 ⟨v, rfl, hC⟩
  refine r_aload_n 2 d_L_law_1309 rfl rfl ?_
  refine r_aload_n 0 d_L_law_1310 rfl rfl ?_
  refine r_iload_n 3 d_L_law_1311 rfl rfl ?_
  refine r_iconst 1 d_L_law_1312 rfl ?_
  refine r_iadd d_L_law_1313 ?_
  refine r_sald (ixl 1 hX hi (by decide)) d_L_law_1314 ?_
  refine r_aload_n 0 d_L_law_1315 rfl rfl ?_
  refine r_iload_n 3 d_L_law_1316 rfl rfl ?_
  refine r_iconst 2 d_L_law_1317 rfl ?_
  refine r_iadd d_L_law_1318 ?_
  refine r_sald (ixl 2 hX hi (by decide)) d_L_law_1319 ?_
  refine r_aload_n 0 d_L_law_1320 rfl rfl ?_
  refine r_iload_n 3 d_L_law_1321 rfl rfl ?_
  refine r_iconst 3 d_L_law_1322 rfl ?_
  refine r_iadd d_L_law_1323 ?_
  refine r_sald (ixl 3 hX hi (by decide)) d_L_law_1324 ?_
  refine r_callV hC lk_L_151 (by first | with_reducible assumption | rfl) d_L_law_1325 rfl rfl (Nat.le_of_ble_eq_true rfl) (by decide) ?_
  rintro r2 μ2 ⟨rfl, hN⟩
  refine r_icmp_eq d_L_law_1328 (fun h1328 => ?_) (fun h1328 => absurd rfl h1328)
  exact key μ2 hN
theorem lc_32 (hX : X.1 ≤ 384) (hi : 6 * i + 6 ≤ X.1) (hD : D ≤ 108 * i) (hR : RRx m n D i μ) (key : ∀ μ', RS (i + 1) μ' → LC X i μ' 1739) : LC X i μ 1333 := by
  refine r_aload_n 1 d_L_law_1333 rfl rfl ?_
  refine r_aload_n 0 d_L_law_1334 rfl rfl ?_
  refine r_iload_n 3 d_L_law_1335 rfl rfl ?_
  refine r_iconst 1 d_L_law_1336 rfl ?_
  refine r_iadd d_L_law_1337 ?_
  refine r_sald (ixl 1 hX hi (by decide)) d_L_law_1338 ?_
  refine r_callV (op_judge hD hR (by omega) _) lk_L_152 (by first | with_reducible assumption | rfl) d_L_law_1339 rfl rfl (Nat.le_of_ble_eq_true rfl) (by decide) ?_
  rintro r1 μ1 ⟨v, rfl, hC⟩
  refine r_aload_n 2 d_L_law_1342 rfl rfl ?_
  refine r_aload_n 0 d_L_law_1343 rfl rfl ?_
  refine r_iload_n 3 d_L_law_1344 rfl rfl ?_
  refine r_iconst 1 d_L_law_1345 rfl ?_
  refine r_iadd d_L_law_1346 ?_
  refine r_sald (ixl 1 hX hi (by decide)) d_L_law_1347 ?_
  refine r_callV hC lk_L_155 (by first | with_reducible assumption | rfl) d_L_law_1348 rfl rfl (Nat.le_of_ble_eq_true rfl) (by decide) ?_
  rintro r2 μ2 ⟨rfl, hN⟩
  refine r_icmp_eq d_L_law_1351 (fun h1351 => ?_) (fun h1351 => absurd rfl h1351)
  exact key μ2 hN
theorem lc_33 (hX : X.1 ≤ 384) (hi : 6 * i + 6 ≤ X.1) (hD : D ≤ 108 * i) (hR : RRx m n D i μ) (key : ∀ μ', RS (i + 1) μ' → LC X i μ' 1739) : LC X i μ 1356 := by
  refine r_aload_n 1 d_L_law_1356 rfl rfl ?_
  refine r_aload_n 0 d_L_law_1357 rfl rfl ?_
  refine r_iload_n 3 d_L_law_1358 rfl rfl ?_
  refine r_iconst 1 d_L_law_1359 rfl ?_
  refine r_iadd d_L_law_1360 ?_
  refine r_sald (ixl 1 hX hi (by decide)) d_L_law_1361 ?_
  refine r_aload_n 0 d_L_law_1362 rfl rfl ?_
  refine r_iload_n 3 d_L_law_1363 rfl rfl ?_
  refine r_iconst 2 d_L_law_1364 rfl ?_
  refine r_iadd d_L_law_1365 ?_
  refine r_sald (ixl 2 hX hi (by decide)) d_L_law_1366 ?_
  refine r_aload_n 0 d_L_law_1367 rfl rfl ?_
  refine r_iload_n 3 d_L_law_1368 rfl rfl ?_
  refine r_iconst 3 d_L_law_1369 rfl ?_
  refine r_iadd d_L_law_1370 ?_
  refine r_sald (ixl 3 hX hi (by decide)) d_L_law_1371 ?_
  refine r_aload_n 0 d_L_law_1372 rfl rfl ?_
  refine r_iload_n 3 d_L_law_1373 rfl rfl ?_
  refine r_iconst 4 d_L_law_1374 rfl ?_
  refine r_iadd d_L_law_1375 ?_
  refine r_sald (ixl 4 hX hi (by decide)) d_L_law_1376 ?_
  refine r_aload_n 0 d_L_law_1377 rfl rfl ?_
  refine r_iload_n 3 d_L_law_1378 rfl rfl ?_
  refine r_iconst 5 d_L_law_1379 rfl ?_
  refine r_iadd d_L_law_1380 ?_
  refine r_sald (ixl 5 hX hi (by decide)) d_L_law_1381 ?_
  refine r_callV (op_firms hD hR _ _ _ _ _) lk_L_156 (by first | with_reducible assumption | rfl) d_L_law_1382 rfl rfl (Nat.le_of_ble_eq_true rfl) (by decide) ?_
  rintro r1 μ1 ⟨v, rfl, hC⟩
  refine r_aload_n 2 d_L_law_1385 rfl rfl ?_
  refine r_aload_n 0 d_L_law_1386 rfl rfl ?_
  refine r_iload_n 3 d_L_law_1387 rfl rfl ?_
  refine r_iconst 1 d_L_law_1388 rfl ?_
  refine r_iadd d_L_law_1389 ?_
  refine r_sald (ixl 1 hX hi (by decide)) d_L_law_1390 ?_
  refine r_aload_n 0 d_L_law_1391 rfl rfl ?_
  refine r_iload_n 3 d_L_law_1392 rfl rfl ?_
  refine r_iconst 2 d_L_law_1393 rfl ?_
  refine r_iadd d_L_law_1394 ?_
  refine r_sald (ixl 2 hX hi (by decide)) d_L_law_1395 ?_
  refine r_aload_n 0 d_L_law_1396 rfl rfl ?_
  refine r_iload_n 3 d_L_law_1397 rfl rfl ?_
  refine r_iconst 3 d_L_law_1398 rfl ?_
  refine r_iadd d_L_law_1399 ?_
  refine r_sald (ixl 3 hX hi (by decide)) d_L_law_1400 ?_
  refine r_aload_n 0 d_L_law_1401 rfl rfl ?_
  refine r_iload_n 3 d_L_law_1402 rfl rfl ?_
  refine r_iconst 4 d_L_law_1403 rfl ?_
  refine r_iadd d_L_law_1404 ?_
  refine r_sald (ixl 4 hX hi (by decide)) d_L_law_1405 ?_
  refine r_aload_n 0 d_L_law_1406 rfl rfl ?_
  refine r_iload_n 3 d_L_law_1407 rfl rfl ?_
  refine r_iconst 5 d_L_law_1408 rfl ?_
  refine r_iadd d_L_law_1409 ?_
  refine r_sald (ixl 5 hX hi (by decide)) d_L_law_1410 ?_
  refine r_callV hC lk_L_160 (by first | with_reducible assumption | rfl) d_L_law_1411 rfl rfl (Nat.le_of_ble_eq_true rfl) (by decide) ?_
  rintro r2 μ2 ⟨rfl, hN⟩
  refine r_icmp_eq d_L_law_1414 (fun h1414 => ?_) (fun h1414 => absurd rfl h1414)
  exact key μ2 hN
theorem lc_34 (hX : X.1 ≤ 384) (hi : 6 * i + 6 ≤ X.1) (hD : D ≤ 108 * i) (hR : RRx m n D i μ) (key : ∀ μ', RS (i + 1) μ' → LC X i μ' 1739) : LC X i μ 1419 := by
  refine r_aload_n 1 d_L_law_1419 rfl rfl ?_
  refine r_aload_n 0 d_L_law_1420 rfl rfl ?_
  refine r_iload_n 3 d_L_law_1421 rfl rfl ?_
  refine r_iconst 1 d_L_law_1422 rfl ?_
  refine r_iadd d_L_law_1423 ?_
  refine r_sald (ixl 1 hX hi (by decide)) d_L_law_1424 ?_
  refine r_aload_n 0 d_L_law_1425 rfl rfl ?_
  refine r_iload_n 3 d_L_law_1426 rfl rfl ?_
  refine r_iconst 2 d_L_law_1427 rfl ?_
  refine r_iadd d_L_law_1428 ?_
  refine r_sald (ixl 2 hX hi (by decide)) d_L_law_1429 ?_
  refine r_aload_n 0 d_L_law_1430 rfl rfl ?_
  refine r_iload_n 3 d_L_law_1431 rfl rfl ?_
  refine r_iconst 3 d_L_law_1432 rfl ?_
  refine r_iadd d_L_law_1433 ?_
  refine r_sald (ixl 3 hX hi (by decide)) d_L_law_1434 ?_
  refine r_callV (op_sheet hD hR _ _ _) lk_L_161 (by first | with_reducible assumption | rfl) d_L_law_1435 rfl rfl (Nat.le_of_ble_eq_true rfl) (by decide) ?_
  rintro r1 μ1 ⟨v, rfl, hC⟩
  refine r_aload_n 2 d_L_law_1438 rfl rfl ?_
  refine r_aload_n 0 d_L_law_1439 rfl rfl ?_
  refine r_iload_n 3 d_L_law_1440 rfl rfl ?_
  refine r_iconst 1 d_L_law_1441 rfl ?_
  refine r_iadd d_L_law_1442 ?_
  refine r_sald (ixl 1 hX hi (by decide)) d_L_law_1443 ?_
  refine r_aload_n 0 d_L_law_1444 rfl rfl ?_
  refine r_iload_n 3 d_L_law_1445 rfl rfl ?_
  refine r_iconst 2 d_L_law_1446 rfl ?_
  refine r_iadd d_L_law_1447 ?_
  refine r_sald (ixl 2 hX hi (by decide)) d_L_law_1448 ?_
  refine r_aload_n 0 d_L_law_1449 rfl rfl ?_
  refine r_iload_n 3 d_L_law_1450 rfl rfl ?_
  refine r_iconst 3 d_L_law_1451 rfl ?_
  refine r_iadd d_L_law_1452 ?_
  refine r_sald (ixl 3 hX hi (by decide)) d_L_law_1453 ?_
  refine r_callV hC lk_L_164 (by first | with_reducible assumption | rfl) d_L_law_1454 rfl rfl (Nat.le_of_ble_eq_true rfl) (by decide) ?_
  rintro r2 μ2 ⟨rfl, hN⟩
  refine r_icmp_eq d_L_law_1457 (fun h1457 => ?_) (fun h1457 => absurd rfl h1457)
  exact key μ2 hN
theorem lc_35 (hX : X.1 ≤ 384) (hi : 6 * i + 6 ≤ X.1) (hD : D ≤ 108 * i) (hR : RRx m n D i μ) (key : ∀ μ', RS (i + 1) μ' → LC X i μ' 1739) : LC X i μ 1462 := by
  refine r_aload_n 1 d_L_law_1462 rfl rfl ?_
  refine r_aload_n 0 d_L_law_1463 rfl rfl ?_
  refine r_iload_n 3 d_L_law_1464 rfl rfl ?_
  refine r_iconst 1 d_L_law_1465 rfl ?_
  refine r_iadd d_L_law_1466 ?_
  refine r_sald (ixl 1 hX hi (by decide)) d_L_law_1467 ?_
  refine r_aload_n 0 d_L_law_1468 rfl rfl ?_
  refine r_iload_n 3 d_L_law_1469 rfl rfl ?_
  refine r_iconst 2 d_L_law_1470 rfl ?_
  refine r_iadd d_L_law_1471 ?_
  refine r_sald (ixl 2 hX hi (by decide)) d_L_law_1472 ?_
  refine r_aload_n 0 d_L_law_1473 rfl rfl ?_
  refine r_iload_n 3 d_L_law_1474 rfl rfl ?_
  refine r_iconst 3 d_L_law_1475 rfl ?_
  refine r_iadd d_L_law_1476 ?_
  refine r_sald (ixl 3 hX hi (by decide)) d_L_law_1477 ?_
  refine r_callV (op_put hD hR _ _ _) lk_L_165 (by first | with_reducible assumption | rfl) d_L_law_1478 rfl rfl (Nat.le_of_ble_eq_true rfl) (by decide) ?_
  rintro r1 μ1 ⟨v, rfl, hC⟩
  refine r_aload_n 2 d_L_law_1481 rfl rfl ?_
  refine r_aload_n 0 d_L_law_1482 rfl rfl ?_
  refine r_iload_n 3 d_L_law_1483 rfl rfl ?_
  refine r_iconst 1 d_L_law_1484 rfl ?_
  refine r_iadd d_L_law_1485 ?_
  refine r_sald (ixl 1 hX hi (by decide)) d_L_law_1486 ?_
  refine r_aload_n 0 d_L_law_1487 rfl rfl ?_
  refine r_iload_n 3 d_L_law_1488 rfl rfl ?_
  refine r_iconst 2 d_L_law_1489 rfl ?_
  refine r_iadd d_L_law_1490 ?_
  refine r_sald (ixl 2 hX hi (by decide)) d_L_law_1491 ?_
  refine r_aload_n 0 d_L_law_1492 rfl rfl ?_
  refine r_iload_n 3 d_L_law_1493 rfl rfl ?_
  refine r_iconst 3 d_L_law_1494 rfl ?_
  refine r_iadd d_L_law_1495 ?_
  refine r_sald (ixl 3 hX hi (by decide)) d_L_law_1496 ?_
  refine r_callV hC lk_L_168 (by first | with_reducible assumption | rfl) d_L_law_1497 rfl rfl (Nat.le_of_ble_eq_true rfl) (by decide) ?_
  rintro r2 μ2 ⟨rfl, hN⟩
  refine r_icmp_eq d_L_law_1500 (fun h1500 => ?_) (fun h1500 => absurd rfl h1500)
  exact key μ2 hN
theorem lc_36 (hX : X.1 ≤ 384) (hi : 6 * i + 6 ≤ X.1) (hD : D ≤ 108 * i) (hR : RRx m n D i μ) (key : ∀ μ', RS (i + 1) μ' → LC X i μ' 1739) : LC X i μ 1505 := by
  refine r_aload_n 1 d_L_law_1505 rfl rfl ?_
  refine r_aload_n 0 d_L_law_1506 rfl rfl ?_
  refine r_iload_n 3 d_L_law_1507 rfl rfl ?_
  refine r_iconst 1 d_L_law_1508 rfl ?_
  refine r_iadd d_L_law_1509 ?_
  refine r_sald (ixl 1 hX hi (by decide)) d_L_law_1510 ?_
  refine r_aload_n 0 d_L_law_1511 rfl rfl ?_
  refine r_iload_n 3 d_L_law_1512 rfl rfl ?_
  refine r_iconst 2 d_L_law_1513 rfl ?_
  refine r_iadd d_L_law_1514 ?_
  refine r_sald (ixl 2 hX hi (by decide)) d_L_law_1515 ?_
  refine r_aload_n 0 d_L_law_1516 rfl rfl ?_
  refine r_iload_n 3 d_L_law_1517 rfl rfl ?_
  refine r_iconst 3 d_L_law_1518 rfl ?_
  refine r_iadd d_L_law_1519 ?_
  refine r_sald (ixl 3 hX hi (by decide)) d_L_law_1520 ?_
  refine r_callV (op_number hD hR _ _ _) lk_L_169 (by first | with_reducible assumption | rfl) d_L_law_1521 rfl rfl (Nat.le_of_ble_eq_true rfl) (by decide) ?_
  rintro r1 μ1 ⟨v, rfl, hC⟩
  refine r_aload_n 2 d_L_law_1524 rfl rfl ?_
  refine r_aload_n 0 d_L_law_1525 rfl rfl ?_
  refine r_iload_n 3 d_L_law_1526 rfl rfl ?_
  refine r_iconst 1 d_L_law_1527 rfl ?_
  refine r_iadd d_L_law_1528 ?_
  refine r_sald (ixl 1 hX hi (by decide)) d_L_law_1529 ?_
  refine r_aload_n 0 d_L_law_1530 rfl rfl ?_
  refine r_iload_n 3 d_L_law_1531 rfl rfl ?_
  refine r_iconst 2 d_L_law_1532 rfl ?_
  refine r_iadd d_L_law_1533 ?_
  refine r_sald (ixl 2 hX hi (by decide)) d_L_law_1534 ?_
  refine r_aload_n 0 d_L_law_1535 rfl rfl ?_
  refine r_iload_n 3 d_L_law_1536 rfl rfl ?_
  refine r_iconst 3 d_L_law_1537 rfl ?_
  refine r_iadd d_L_law_1538 ?_
  refine r_sald (ixl 3 hX hi (by decide)) d_L_law_1539 ?_
  refine r_callV hC lk_L_172 (by first | with_reducible assumption | rfl) d_L_law_1540 rfl rfl (Nat.le_of_ble_eq_true rfl) (by decide) ?_
  rintro r2 μ2 ⟨rfl, hN⟩
  refine r_icmp_eq d_L_law_1543 (fun h1543 => ?_) (fun h1543 => absurd rfl h1543)
  exact key μ2 hN
theorem lc_37 (hX : X.1 ≤ 384) (hi : 6 * i + 6 ≤ X.1) (hD : D ≤ 108 * i) (hR : RRx m n D i μ) (key : ∀ μ', RS (i + 1) μ' → LC X i μ' 1739) : LC X i μ 1548 := by
  refine r_aload_n 1 d_L_law_1548 rfl rfl ?_
  refine r_aload_n 0 d_L_law_1549 rfl rfl ?_
  refine r_iload_n 3 d_L_law_1550 rfl rfl ?_
  refine r_iconst 1 d_L_law_1551 rfl ?_
  refine r_iadd d_L_law_1552 ?_
  refine r_sald (ixl 1 hX hi (by decide)) d_L_law_1553 ?_
  refine r_aload_n 0 d_L_law_1554 rfl rfl ?_
  refine r_iload_n 3 d_L_law_1555 rfl rfl ?_
  refine r_iconst 2 d_L_law_1556 rfl ?_
  refine r_iadd d_L_law_1557 ?_
  refine r_sald (ixl 2 hX hi (by decide)) d_L_law_1558 ?_
  refine r_aload_n 0 d_L_law_1559 rfl rfl ?_
  refine r_iload_n 3 d_L_law_1560 rfl rfl ?_
  refine r_iconst 3 d_L_law_1561 rfl ?_
  refine r_iadd d_L_law_1562 ?_
  refine r_sald (ixl 3 hX hi (by decide)) d_L_law_1563 ?_
  refine r_callV (op_shelf hD hR _ _ _) lk_L_173 (by first | with_reducible assumption | rfl) d_L_law_1564 rfl rfl (Nat.le_of_ble_eq_true rfl) (by decide) ?_
  rintro r1 μ1 ⟨v, rfl, hC⟩
  refine r_aload_n 2 d_L_law_1567 rfl rfl ?_
  refine r_aload_n 0 d_L_law_1568 rfl rfl ?_
  refine r_iload_n 3 d_L_law_1569 rfl rfl ?_
  refine r_iconst 1 d_L_law_1570 rfl ?_
  refine r_iadd d_L_law_1571 ?_
  refine r_sald (ixl 1 hX hi (by decide)) d_L_law_1572 ?_
  refine r_aload_n 0 d_L_law_1573 rfl rfl ?_
  refine r_iload_n 3 d_L_law_1574 rfl rfl ?_
  refine r_iconst 2 d_L_law_1575 rfl ?_
  refine r_iadd d_L_law_1576 ?_
  refine r_sald (ixl 2 hX hi (by decide)) d_L_law_1577 ?_
  refine r_aload_n 0 d_L_law_1578 rfl rfl ?_
  refine r_iload_n 3 d_L_law_1579 rfl rfl ?_
  refine r_iconst 3 d_L_law_1580 rfl ?_
  refine r_iadd d_L_law_1581 ?_
  refine r_sald (ixl 3 hX hi (by decide)) d_L_law_1582 ?_
  refine r_callV hC lk_L_176 (by first | with_reducible assumption | rfl) d_L_law_1583 rfl rfl (Nat.le_of_ble_eq_true rfl) (by decide) ?_
  rintro r2 μ2 ⟨rfl, hN⟩
  refine r_icmp_eq d_L_law_1586 (fun h1586 => ?_) (fun h1586 => absurd rfl h1586)
  exact key μ2 hN
theorem lc_38 (hX : X.1 ≤ 384) (hi : 6 * i + 6 ≤ X.1) (hD : D ≤ 108 * i) (hR : RRx m n D i μ) (key : ∀ μ', RS (i + 1) μ' → LC X i μ' 1739) : LC X i μ 1591 := by
  refine r_aload_n 1 d_L_law_1591 rfl rfl ?_
  refine r_aload_n 0 d_L_law_1592 rfl rfl ?_
  refine r_iload_n 3 d_L_law_1593 rfl rfl ?_
  refine r_iconst 1 d_L_law_1594 rfl ?_
  refine r_iadd d_L_law_1595 ?_
  refine r_sald (ixl 1 hX hi (by decide)) d_L_law_1596 ?_
  refine r_aload_n 0 d_L_law_1597 rfl rfl ?_
  refine r_iload_n 3 d_L_law_1598 rfl rfl ?_
  refine r_iconst 2 d_L_law_1599 rfl ?_
  refine r_iadd d_L_law_1600 ?_
  refine r_sald (ixl 2 hX hi (by decide)) d_L_law_1601 ?_
  refine r_callV (op_taken hD hR _ _) lk_L_177 (by first | with_reducible assumption | rfl) d_L_law_1602 rfl rfl (Nat.le_of_ble_eq_true rfl) (by decide) ?_
  rintro r1 μ1 ⟨v, rfl, hC⟩
  refine r_aload_n 2 d_L_law_1605 rfl rfl ?_
  refine r_aload_n 0 d_L_law_1606 rfl rfl ?_
  refine r_iload_n 3 d_L_law_1607 rfl rfl ?_
  refine r_iconst 1 d_L_law_1608 rfl ?_
  refine r_iadd d_L_law_1609 ?_
  refine r_sald (ixl 1 hX hi (by decide)) d_L_law_1610 ?_
  refine r_aload_n 0 d_L_law_1611 rfl rfl ?_
  refine r_iload_n 3 d_L_law_1612 rfl rfl ?_
  refine r_iconst 2 d_L_law_1613 rfl ?_
  refine r_iadd d_L_law_1614 ?_
  refine r_sald (ixl 2 hX hi (by decide)) d_L_law_1615 ?_
  refine r_callV hC lk_L_180 (by first | with_reducible assumption | rfl) d_L_law_1616 rfl rfl (Nat.le_of_ble_eq_true rfl) (by decide) ?_
  rintro r2 μ2 ⟨rfl, hN⟩
  refine r_icmp_eq d_L_law_1619 (fun h1619 => ?_) (fun h1619 => absurd rfl h1619)
  exact key μ2 hN
theorem lc_39 (hX : X.1 ≤ 384) (hi : 6 * i + 6 ≤ X.1) (hD : D ≤ 108 * i) (hR : RRx m n D i μ) (key : ∀ μ', RS (i + 1) μ' → LC X i μ' 1739) : LC X i μ 1624 := by
  refine r_aload_n 1 d_L_law_1624 rfl rfl ?_
  refine r_aload_n 0 d_L_law_1625 rfl rfl ?_
  refine r_iload_n 3 d_L_law_1626 rfl rfl ?_
  refine r_iconst 1 d_L_law_1627 rfl ?_
  refine r_iadd d_L_law_1628 ?_
  refine r_sald (ixl 1 hX hi (by decide)) d_L_law_1629 ?_
  refine r_aload_n 0 d_L_law_1630 rfl rfl ?_
  refine r_iload_n 3 d_L_law_1631 rfl rfl ?_
  refine r_iconst 2 d_L_law_1632 rfl ?_
  refine r_iadd d_L_law_1633 ?_
  refine r_sald (ixl 2 hX hi (by decide)) d_L_law_1634 ?_
  refine r_aload_n 0 d_L_law_1635 rfl rfl ?_
  refine r_iload_n 3 d_L_law_1636 rfl rfl ?_
  refine r_iconst 3 d_L_law_1637 rfl ?_
  refine r_iadd d_L_law_1638 ?_
  refine r_sald (ixl 3 hX hi (by decide)) d_L_law_1639 ?_
  refine r_callV (op_act hD hR _ _ _) lk_L_181 (by first | with_reducible assumption | rfl) d_L_law_1640 rfl rfl (Nat.le_of_ble_eq_true rfl) (by decide) ?_
  rintro r1 μ1 ⟨v, rfl, hC⟩
  refine r_aload_n 2 d_L_law_1643 rfl rfl ?_
  refine r_aload_n 0 d_L_law_1644 rfl rfl ?_
  refine r_iload_n 3 d_L_law_1645 rfl rfl ?_
  refine r_iconst 1 d_L_law_1646 rfl ?_
  refine r_iadd d_L_law_1647 ?_
  refine r_sald (ixl 1 hX hi (by decide)) d_L_law_1648 ?_
  refine r_aload_n 0 d_L_law_1649 rfl rfl ?_
  refine r_iload_n 3 d_L_law_1650 rfl rfl ?_
  refine r_iconst 2 d_L_law_1651 rfl ?_
  refine r_iadd d_L_law_1652 ?_
  refine r_sald (ixl 2 hX hi (by decide)) d_L_law_1653 ?_
  refine r_aload_n 0 d_L_law_1654 rfl rfl ?_
  refine r_iload_n 3 d_L_law_1655 rfl rfl ?_
  refine r_iconst 3 d_L_law_1656 rfl ?_
  refine r_iadd d_L_law_1657 ?_
  refine r_sald (ixl 3 hX hi (by decide)) d_L_law_1658 ?_
  refine r_callV hC lk_L_184 (by first | with_reducible assumption | rfl) d_L_law_1659 rfl rfl (Nat.le_of_ble_eq_true rfl) (by decide) ?_
  rintro r2 μ2 ⟨rfl, hN⟩
  refine r_icmp_eq d_L_law_1662 (fun h1662 => ?_) (fun h1662 => absurd rfl h1662)
  exact key μ2 hN
theorem lc_40 (hX : X.1 ≤ 384) (hi : 6 * i + 6 ≤ X.1) (hD : D ≤ 108 * i) (hR : RRx m n D i μ) (key : ∀ μ', RS (i + 1) μ' → LC X i μ' 1739) : LC X i μ 1667 := by
  refine r_aload_n 1 d_L_law_1667 rfl rfl ?_
  refine r_aload_n 0 d_L_law_1668 rfl rfl ?_
  refine r_iload_n 3 d_L_law_1669 rfl rfl ?_
  refine r_iconst 1 d_L_law_1670 rfl ?_
  refine r_iadd d_L_law_1671 ?_
  refine r_sald (ixl 1 hX hi (by decide)) d_L_law_1672 ?_
  refine r_callV (op_trace hD hR _) lk_L_185 (by first | with_reducible assumption | rfl) d_L_law_1673 rfl rfl (Nat.le_of_ble_eq_true rfl) (by decide) ?_
  rintro r1 μ1 ⟨v, rfl, hC⟩
  refine r_aload_n 2 d_L_law_1676 rfl rfl ?_
  refine r_aload_n 0 d_L_law_1677 rfl rfl ?_
  refine r_iload_n 3 d_L_law_1678 rfl rfl ?_
  refine r_iconst 1 d_L_law_1679 rfl ?_
  refine r_iadd d_L_law_1680 ?_
  refine r_sald (ixl 1 hX hi (by decide)) d_L_law_1681 ?_
  refine r_callV hC lk_L_188 (by first | with_reducible assumption | rfl) d_L_law_1682 rfl rfl (Nat.le_of_ble_eq_true rfl) (by decide) ?_
  rintro r2 μ2 ⟨rfl, hN⟩
  refine r_icmp_eq d_L_law_1685 (fun h1685 => ?_) (fun h1685 => absurd rfl h1685)
  exact key μ2 hN
theorem lc_41 (hX : X.1 ≤ 384) (hi : 6 * i + 6 ≤ X.1) (hD : D ≤ 108 * i) (hR : RRx m n D i μ) (key : ∀ μ', RS (i + 1) μ' → LC X i μ' 1739) : LC X i μ 1690 := by
  refine r_aload_n 1 d_L_law_1690 rfl rfl ?_
  refine r_aload_n 0 d_L_law_1691 rfl rfl ?_
  refine r_iload_n 3 d_L_law_1692 rfl rfl ?_
  refine r_iconst 1 d_L_law_1693 rfl ?_
  refine r_iadd d_L_law_1694 ?_
  refine r_sald (ixl 1 hX hi (by decide)) d_L_law_1695 ?_
  refine r_callV (op_many hD hR _) lk_L_189 (by first | with_reducible assumption | rfl) d_L_law_1696 rfl rfl (Nat.le_of_ble_eq_true rfl) (by decide) ?_
  rintro r1 μ1 ⟨v, rfl, hC⟩
  refine r_aload_n 2 d_L_law_1699 rfl rfl ?_
  refine r_aload_n 0 d_L_law_1700 rfl rfl ?_
  refine r_iload_n 3 d_L_law_1701 rfl rfl ?_
  refine r_iconst 1 d_L_law_1702 rfl ?_
  refine r_iadd d_L_law_1703 ?_
  refine r_sald (ixl 1 hX hi (by decide)) d_L_law_1704 ?_
  refine r_callV hC lk_L_192 (by first | with_reducible assumption | rfl) d_L_law_1705 rfl rfl (Nat.le_of_ble_eq_true rfl) (by decide) ?_
  rintro r2 μ2 ⟨rfl, hN⟩
  refine r_icmp_eq d_L_law_1708 (fun h1708 => ?_) (fun h1708 => absurd rfl h1708)
  exact key μ2 hN
theorem lc_42 (hX : X.1 ≤ 384) (hi : 6 * i + 6 ≤ X.1) (hD : D ≤ 108 * i) (hR : RRx m n D i μ) (key : ∀ μ', RS (i + 1) μ' → LC X i μ' 1739) : LC X i μ 1713 := by
  refine r_aload_n 1 d_L_law_1713 rfl rfl ?_
  refine r_callV (op_keep hD hR) lk_L_193 (by first | with_reducible assumption | rfl) d_L_law_1714 rfl rfl (Nat.le_of_ble_eq_true rfl) (by decide) ?_
  rintro r1 μ1 ⟨v, rfl, hC⟩
  refine r_aload_n 2 d_L_law_1717 rfl rfl ?_
  refine r_callV hC lk_L_196 (by first | with_reducible assumption | rfl) d_L_law_1718 rfl rfl (Nat.le_of_ble_eq_true rfl) (by decide) ?_
  rintro r2 μ2 ⟨rfl, hN⟩
  refine r_icmp_eq d_L_law_1721 (fun h1721 => ?_) (fun h1721 => absurd rfl h1721)
  exact key μ2 hN
theorem lc_43 (hX : X.1 ≤ 384) (hi : 6 * i + 6 ≤ X.1) (hD : D ≤ 108 * i) (hR : RRx m n D i μ) (key : ∀ μ', RS (i + 1) μ' → LC X i μ' 1739) : LC X i μ 1726 := by
  refine r_aload_n 1 d_L_law_1726 rfl rfl ?_
  refine r_callV (op_again hD hR) lk_L_197 (by first | with_reducible assumption | rfl) d_L_law_1727 rfl rfl (Nat.le_of_ble_eq_true rfl) (by decide) ?_
  rintro r1 μ1 ⟨v, rfl, hC⟩
  refine r_aload_n 2 d_L_law_1730 rfl rfl ?_
  refine r_callV hC lk_L_200 (by first | with_reducible assumption | rfl) d_L_law_1731 rfl rfl (Nat.le_of_ble_eq_true rfl) (by decide) ?_
  rintro r2 μ2 ⟨rfl, hN⟩
  refine r_icmp_eq d_L_law_1734 (fun h1734 => ?_) (fun h1734 => absurd rfl h1734)
  exact key μ2 hN
end Cases
theorem law_loop {X : Nat × (Nat → Int32)} (hX : X.1 ≤ 384) : ∀ (r i : Nat) (μ : Me), i + r = 64 → 6 * i ≤ X.1 → RS i μ → LC X i μ 18 := by
  intro r
  induction r with
  | zero =>
    intro i μ hr hi hS
    refine r_iload_n 3 d_L_law_18 rfl rfl ?_
    refine r_aload_n 0 d_L_law_19 rfl rfl ?_
    refine r_slen d_L_law_20 ?_
    refine r_bipush (6) d_L_law_21 (by decide) ?_
    refine r_isub d_L_law_23 ?_
    refine r_icmp_gt d_L_law_24 (fun _ => ?_) (fun hle => absurd (lx hX hi hle) (by omega))
    refine r_iconst 1 d_L_law_1745 rfl ?_
    exact r_iret .boolean d_L_law_1746 rfl (by decide) rfl
  | succ r ih =>
    intro i μ hr hi hS
    refine r_iload_n 3 d_L_law_18 rfl rfl ?_
    refine r_aload_n 0 d_L_law_19 rfl rfl ?_
    refine r_slen d_L_law_20 ?_
    refine r_bipush (6) d_L_law_21 (by decide) ?_
    refine r_isub d_L_law_23 ?_
    refine r_icmp_gt d_L_law_24 (fun _ => ?_) (fun hle => ?_)
    · refine r_iconst 1 d_L_law_1745 rfl ?_
      exact r_iret .boolean d_L_law_1746 rfl (by decide) rfl
    have hi6 := lx hX hi hle
    have key : ∀ μ', RS (i + 1) μ' → LC X i μ' 1739 := by
      intro μ' h'
      refine r_iinc 3 [.ref 3000, .ref 0, .ref 82, .int (nI (6 * (i + 1)))] (6) d_L_law_1739 (by decide) (by decide) rfl ?_ ?_
      · show [Value.ref 3000, .ref 0, .ref 82, .int (nI (6 * i) + nI 6)] = _
        rw [nI_add, show 6 * i + 6 = 6 * (i + 1) by omega]
      refine r_goto d_L_law_1742 ?_
      exact ih (i + 1) μ' (by omega) (by omega) h'
    obtain ⟨m, n, D, hD, hR⟩ := hS
    refine r_aload_n 0 d_L_law_27 rfl rfl ?_
    refine r_iload_n 3 d_L_law_28 rfl rfl ?_
    refine r_sald (ixz hX hi6) d_L_law_29 ?_
    refine r_bipush (63) d_L_law_30 (by decide) ?_
    refine r_iand d_L_law_32 ?_
    refine r_ts d_L_law_33 (List.forall_mem_cons.mpr ⟨fun _ => lc_0 hX hi6 hD hR key, List.forall_mem_cons.mpr ⟨fun _ => lc_1 hX hi6 hD hR key, List.forall_mem_cons.mpr ⟨fun _ => lc_2 hX hi6 hD hR key, List.forall_mem_cons.mpr ⟨fun _ => lc_3 hX hi6 hD hR key, List.forall_mem_cons.mpr ⟨fun _ => lc_4 hX hi6 hD hR key, List.forall_mem_cons.mpr ⟨fun _ => lc_5 hX hi6 hD hR key, List.forall_mem_cons.mpr ⟨fun _ => lc_6 hX hi6 hD hR key, List.forall_mem_cons.mpr ⟨fun _ => lc_7 hX hi6 hD hR key, List.forall_mem_cons.mpr ⟨fun _ => lc_8 hX hi6 hD hR key, List.forall_mem_cons.mpr ⟨fun _ => lc_9 hX hi6 hD hR key, List.forall_mem_cons.mpr ⟨fun _ => lc_10 hX hi6 hD hR key, List.forall_mem_cons.mpr ⟨fun _ => lc_11 hX hi6 hD hR key, List.forall_mem_cons.mpr ⟨fun _ => lc_12 hX hi6 hD hR key, List.forall_mem_cons.mpr ⟨fun _ => lc_13 hX hi6 hD hR key, List.forall_mem_cons.mpr ⟨fun _ => lc_14 hX hi6 hD hR key, List.forall_mem_cons.mpr ⟨fun _ => lc_15 hX hi6 hD hR key, List.forall_mem_cons.mpr ⟨fun _ => lc_16 hX hi6 hD hR key, List.forall_mem_cons.mpr ⟨fun _ => lc_17 hX hi6 hD hR key, List.forall_mem_cons.mpr ⟨fun _ => lc_18 hX hi6 hD hR key, List.forall_mem_cons.mpr ⟨fun _ => lc_19 hX hi6 hD hR key, List.forall_mem_cons.mpr ⟨fun _ => lc_20 hX hi6 hD hR key, List.forall_mem_cons.mpr ⟨fun _ => lc_21 hX hi6 hD hR key, List.forall_mem_cons.mpr ⟨fun _ => lc_22 hX hi6 hD hR key, List.forall_mem_cons.mpr ⟨fun _ => lc_23 hX hi6 hD hR key, List.forall_mem_cons.mpr ⟨fun _ => lc_24 hX hi6 hD hR key, List.forall_mem_cons.mpr ⟨fun _ => lc_25 hX hi6 hD hR key, List.forall_mem_cons.mpr ⟨fun _ => lc_26 hX hi6 hD hR key, List.forall_mem_cons.mpr ⟨fun _ => lc_27 hX hi6 hD hR key, List.forall_mem_cons.mpr ⟨fun _ => lc_28 hX hi6 hD hR key, List.forall_mem_cons.mpr ⟨fun _ => lc_29 hX hi6 hD hR key, List.forall_mem_cons.mpr ⟨fun _ => lc_30 hX hi6 hD hR key, List.forall_mem_cons.mpr ⟨fun _ => lc_31 hX hi6 hD hR key, List.forall_mem_cons.mpr ⟨fun _ => lc_32 hX hi6 hD hR key, List.forall_mem_cons.mpr ⟨fun _ => lc_33 hX hi6 hD hR key, List.forall_mem_cons.mpr ⟨fun _ => lc_34 hX hi6 hD hR key, List.forall_mem_cons.mpr ⟨fun _ => lc_35 hX hi6 hD hR key, List.forall_mem_cons.mpr ⟨fun _ => lc_36 hX hi6 hD hR key, List.forall_mem_cons.mpr ⟨fun _ => lc_37 hX hi6 hD hR key, List.forall_mem_cons.mpr ⟨fun _ => lc_38 hX hi6 hD hR key, List.forall_mem_cons.mpr ⟨fun _ => lc_39 hX hi6 hD hR key, List.forall_mem_cons.mpr ⟨fun _ => lc_40 hX hi6 hD hR key, List.forall_mem_cons.mpr ⟨fun _ => lc_41 hX hi6 hD hR key, List.forall_mem_cons.mpr ⟨fun _ => lc_42 hX hi6 hD hR key, List.forall_mem_cons.mpr ⟨fun _ => lc_43 hX hi6 hD hR key, fun _ h => absurd h List.not_mem_nil⟩⟩⟩⟩⟩⟩⟩⟩⟩⟩⟩⟩⟩⟩⟩⟩⟩⟩⟩⟩⟩⟩⟩⟩⟩⟩⟩⟩⟩⟩⟩⟩⟩⟩⟩⟩⟩⟩⟩⟩⟩⟩⟩⟩) (fun _ => ?_)
    exact key μ ⟨m, n, D, by omega, hR.up⟩
theorem whole_start {p : Program} {e : Env} {s : State} {m : MethodId} {below : List Frame} {meth : Method} {c : Code} (l : Launch) {b L : Nat} {xs : Nat → Int32} (hL : L ≤ 384) (C0 : lw_At p s m meth c b L xs) : W p l e room_1 s m #[Value.ref b] below meth c s.heap [] 0 0 (lw_Z below #[Value.ref b] s) (entryFrame m ([Value.ref b] : List Value).toArray 4) := by
  obtain ⟨D, cA, ta, hK, h3⟩ := kn_start C0
  obtain ⟨hx, hbytes, hret, hml, hown, hts, hX, hb, hlk, hg⟩ := C0
  have hgt : ∀ w ∈ gtb, w.before #[Value.ref b] s = true := fun w h => hts w (gtb_in h)
  rw [lg_entry_eq]
  refine law_pre (L, xs) p l e room_1 s m #[Value.ref b] below meth c D cA ta s.heap.size s.heap [] _ 0 0 _ ⟨hx, hbytes, hml, hown, hgt, hK, by decide, by decide, fun q => absurd q (by decide)⟩ (by decide) (by decide) rfl (fun k q hk => by cases hk) rfl va_S.rf ?_ ?_
  · have hh := lv_entry [Value.ref b] (n := 4) (show (1 : Nat) ≤ 4 by decide)
    refine ⟨hh.1, hh.2.1, fun i v hi hv => ?_⟩
    rcases i with _ | _ | _ | _ | i
    · cases hi
      rw [show cv s.heap.size ta (.ref 3000) = .ref b by rw [← h3]; rfl]
      rfl
    · cases hi; exact absurd rfl hv
    · cases hi; exact absurd rfl hv
    · cases hi; exact absurd rfl hv
    · cases hi
  · intro pc' ls' st' wx' H' locs' lsA' cells' slots' hE hP hz hS hl q6 q7 q8
    obtain ⟨rfl, rfl, rfl, rfl⟩ := hE
    refine law_loop (X := (L, xs)) hL 64 0 m0 rfl (Nat.zero_le _) ⟨0, 0, 0, Nat.le_refl _, rr0⟩ p l e room_1 s m _ below meth c D cA ta s.heap.size H' locs' lsA' cells' slots' _ ⟨hx, hbytes, hml, hown, hgt, hK.1, by decide, by decide, Nat.le_trans q6 (by decide), Nat.le_trans q7 (by decide)⟩ (al_P (al0 _ _ _) hP) hS hl ?_
    intro r μ' H2 locs2 pc2 lsA2 hr hP2 hS2 hRt
    subst hr
    refine va_forget (fun q hq => hS2.2.2 q hq) (W.widen (k := 600000) (n := 7302250) (Nat.le_trans q6 (by decide)) (Nat.le_trans q7 (by decide)) ?_)
    rcases hRt with ⟨h, -, -⟩ | ⟨v, ty, h1, h2, h4, hd⟩ | ⟨v, h1, -, -⟩ | ⟨h, -, -⟩
    · cases h
    · exact lw_ret hx hbytes hret hlk hd
    · cases h1
    · rcases h with h | ⟨n, h⟩ <;> cases h
