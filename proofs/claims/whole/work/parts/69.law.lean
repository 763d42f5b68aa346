section
variable {p : Program} {l : Launch} {e : Env} {s : State} {m : MethodId} {below : List Frame} {meth : Method} {c : Code} {b L : Nat} {xs : Nat → Int32} {G : GX}
variable {i : Int} {S : St}
theorem t_63 (x : Int) : 0 ≤ bAnd x 63 ∧ bAnd x 63 ≤ 63 := by
  have e : Int32.ofInt x &&& Int32.ofInt 63 = nI ((Int32.ofInt x).toBitVec.toNat % 2 ^ 6) := pk_and (Int32.ofInt x) (m := Int32.ofInt 63) 6 (by decide)
  have h : (Int32.ofInt x).toBitVec.toNat % 2 ^ 6 < 64 := Nat.mod_lt _ (by decide)
  unfold bAnd
  rw [e, nI_toInt (by omega)]
  omega
set_option maxRecDepth 100000 in
theorem la_0 (C : LC p s m meth c b L xs G) (h : Inv S) (h0 : 0 ≤ i) (h1 : i + 6 ≤ (L : Int)) (ih : ∀ S2 : St, Inv S2 → Ln p l e s m below meth c b G i 1329 [] (mk G S2)) : Ln p l e s m below meth c b G i 208 [] (mk G S) := by
  obtain ⟨z, S1, S2, h4, h5, hI2⟩ := st_man (G := G) h (sx_in xs (i + 1))
  refine q_aload1 C dL_law_208 ?_
  refine q_arg (by omega) (by omega) C dL_law_209 dL_law_210 dL_law_211 dL_law_212 dL_law_213 ?_
  refine q_cV1 (M2 := mX4_man) C ml_RL_13 mc_X4_man ⟨Nat.le_of_ble_eq_true rfl, Nat.le_of_ble_eq_true rfl⟩ (isO_x _ _) (Nat.le_of_ble_eq_true rfl) dL_law_214 h4 ?_
  refine q_aload2 C dL_law_217 ?_
  refine q_arg (by omega) (by omega) C dL_law_218 dL_law_219 dL_law_220 dL_law_221 dL_law_222 ?_
  refine q_cV1 (M2 := mX5_man) C ml_RL_17 mc_X5_man ⟨Nat.le_of_ble_eq_true rfl, Nat.le_of_ble_eq_true rfl⟩ (isO_m _ _) (Nat.le_of_ble_eq_true rfl) dL_law_223 h5 ?_
  exact q_same 1329 C dL_law_226 (by decide) (ih S2 hI2)
set_option maxRecDepth 100000 in
theorem la_1 (C : LC p s m meth c b L xs G) (h : Inv S) (h0 : 0 ≤ i) (h1 : i + 6 ≤ (L : Int)) (ih : ∀ S2 : St, Inv S2 → Ln p l e s m below meth c b G i 1329 [] (mk G S2)) : Ln p l e s m below meth c b G i 231 [] (mk G S) := by
  obtain ⟨z, S1, S2, h4, h5, hI2⟩ := st_manOf (G := G) h (sx_in xs (i + 1)) (sx_in xs (i + 2))
  refine q_aload1 C dL_law_231 ?_
  refine q_arg (by omega) (by omega) C dL_law_232 dL_law_233 dL_law_234 dL_law_235 dL_law_236 ?_
  refine q_arg (by omega) (by omega) C dL_law_237 dL_law_238 dL_law_239 dL_law_240 dL_law_241 ?_
  refine q_cV2 (M2 := mX4_manOf) C ml_RL_18 mc_X4_manOf ⟨Nat.le_of_ble_eq_true rfl, Nat.le_of_ble_eq_true rfl⟩ (isO_x _ _) (Nat.le_of_ble_eq_true rfl) dL_law_242 h4 ?_
  refine q_aload2 C dL_law_245 ?_
  refine q_arg (by omega) (by omega) C dL_law_246 dL_law_247 dL_law_248 dL_law_249 dL_law_250 ?_
  refine q_arg (by omega) (by omega) C dL_law_251 dL_law_252 dL_law_253 dL_law_254 dL_law_255 ?_
  refine q_cV2 (M2 := mX5_manOf) C ml_RL_22 mc_X5_manOf ⟨Nat.le_of_ble_eq_true rfl, Nat.le_of_ble_eq_true rfl⟩ (isO_m _ _) (Nat.le_of_ble_eq_true rfl) dL_law_256 h5 ?_
  exact q_same 1329 C dL_law_259 (by decide) (ih S2 hI2)
set_option maxRecDepth 100000 in
theorem la_2 (C : LC p s m meth c b L xs G) (h : Inv S) (h0 : 0 ≤ i) (h1 : i + 6 ≤ (L : Int)) (ih : ∀ S2 : St, Inv S2 → Ln p l e s m below meth c b G i 1329 [] (mk G S2)) : Ln p l e s m below meth c b G i 264 [] (mk G S) := by
  obtain ⟨z, S1, S2, h4, h5, hI2⟩ := st_dress (G := G) h (sx_in xs (i + 1)) (sx_in xs (i + 2)) (sx_in xs (i + 3))
  refine q_aload1 C dL_law_264 ?_
  refine q_arg (by omega) (by omega) C dL_law_265 dL_law_266 dL_law_267 dL_law_268 dL_law_269 ?_
  refine q_arg (by omega) (by omega) C dL_law_270 dL_law_271 dL_law_272 dL_law_273 dL_law_274 ?_
  refine q_arg (by omega) (by omega) C dL_law_275 dL_law_276 dL_law_277 dL_law_278 dL_law_279 ?_
  refine q_cV3 (M2 := mX4_dress) C ml_RL_23 mc_X4_dress ⟨Nat.le_of_ble_eq_true rfl, Nat.le_of_ble_eq_true rfl⟩ (isO_x _ _) (Nat.le_of_ble_eq_true rfl) dL_law_280 h4 ?_
  refine q_aload2 C dL_law_283 ?_
  refine q_arg (by omega) (by omega) C dL_law_284 dL_law_285 dL_law_286 dL_law_287 dL_law_288 ?_
  refine q_arg (by omega) (by omega) C dL_law_289 dL_law_290 dL_law_291 dL_law_292 dL_law_293 ?_
  refine q_arg (by omega) (by omega) C dL_law_294 dL_law_295 dL_law_296 dL_law_297 dL_law_298 ?_
  refine q_cV3 (M2 := mX5_dress) C ml_RL_27 mc_X5_dress ⟨Nat.le_of_ble_eq_true rfl, Nat.le_of_ble_eq_true rfl⟩ (isO_m _ _) (Nat.le_of_ble_eq_true rfl) dL_law_299 h5 ?_
  exact q_same 1329 C dL_law_302 (by decide) (ih S2 hI2)
set_option maxRecDepth 100000 in
theorem la_3 (C : LC p s m meth c b L xs G) (h : Inv S) (h0 : 0 ≤ i) (h1 : i + 6 ≤ (L : Int)) (ih : ∀ S2 : St, Inv S2 → Ln p l e s m below meth c b G i 1329 [] (mk G S2)) : Ln p l e s m below meth c b G i 307 [] (mk G S) := by
  obtain ⟨z, S1, S2, h4, h5, hI2⟩ := st_first (G := G) h (sx_in xs (i + 1))
  refine q_aload1 C dL_law_307 ?_
  refine q_arg (by omega) (by omega) C dL_law_308 dL_law_309 dL_law_310 dL_law_311 dL_law_312 ?_
  refine q_cV1 (M2 := mX4_first) C ml_RL_28 mc_X4_first ⟨Nat.le_of_ble_eq_true rfl, Nat.le_of_ble_eq_true rfl⟩ (isO_x _ _) (Nat.le_of_ble_eq_true rfl) dL_law_313 h4 ?_
  refine q_aload2 C dL_law_316 ?_
  refine q_arg (by omega) (by omega) C dL_law_317 dL_law_318 dL_law_319 dL_law_320 dL_law_321 ?_
  refine q_cV1 (M2 := mX5_first) C ml_RL_31 mc_X5_first ⟨Nat.le_of_ble_eq_true rfl, Nat.le_of_ble_eq_true rfl⟩ (isO_m _ _) (Nat.le_of_ble_eq_true rfl) dL_law_322 h5 ?_
  exact q_same 1329 C dL_law_325 (by decide) (ih S2 hI2)
set_option maxRecDepth 100000 in
theorem la_4 (C : LC p s m meth c b L xs G) (h : Inv S) (h0 : 0 ≤ i) (h1 : i + 6 ≤ (L : Int)) (ih : ∀ S2 : St, Inv S2 → Ln p l e s m below meth c b G i 1329 [] (mk G S2)) : Ln p l e s m below meth c b G i 330 [] (mk G S) := by
  obtain ⟨z, S1, S2, h4, h5, hI2⟩ := st_goesHome (G := G) h 
  refine q_aload1 C dL_law_330 ?_
  refine q_cV0 (M2 := mX4_goesHome) C ml_RL_32 mc_X4_goesHome ⟨Nat.le_of_ble_eq_true rfl, Nat.le_of_ble_eq_true rfl⟩ (isO_x _ _) (Nat.le_of_ble_eq_true rfl) dL_law_331 h4 ?_
  refine q_aload2 C dL_law_334 ?_
  refine q_cV0 (M2 := mX5_goesHome) C ml_RL_36 mc_X5_goesHome ⟨Nat.le_of_ble_eq_true rfl, Nat.le_of_ble_eq_true rfl⟩ (isO_m _ _) (Nat.le_of_ble_eq_true rfl) dL_law_335 h5 ?_
  exact q_same 1329 C dL_law_338 (by decide) (ih S2 hI2)
set_option maxRecDepth 100000 in
theorem la_5 (C : LC p s m meth c b L xs G) (h : Inv S) (h0 : 0 ≤ i) (h1 : i + 6 ≤ (L : Int)) (ih : ∀ S2 : St, Inv S2 → Ln p l e s m below meth c b G i 1329 [] (mk G S2)) : Ln p l e s m below meth c b G i 343 [] (mk G S) := by
  obtain ⟨z, S1, S2, h4, h5, hI2⟩ := st_sheep (G := G) h (sx_in xs (i + 1))
  refine q_aload1 C dL_law_343 ?_
  refine q_arg (by omega) (by omega) C dL_law_344 dL_law_345 dL_law_346 dL_law_347 dL_law_348 ?_
  refine q_cV1 (M2 := mX4_sheep) C ml_RL_37 mc_X4_sheep ⟨Nat.le_of_ble_eq_true rfl, Nat.le_of_ble_eq_true rfl⟩ (isO_x _ _) (Nat.le_of_ble_eq_true rfl) dL_law_349 h4 ?_
  refine q_aload2 C dL_law_352 ?_
  refine q_arg (by omega) (by omega) C dL_law_353 dL_law_354 dL_law_355 dL_law_356 dL_law_357 ?_
  refine q_cV1 (M2 := mX5_sheep) C ml_RL_40 mc_X5_sheep ⟨Nat.le_of_ble_eq_true rfl, Nat.le_of_ble_eq_true rfl⟩ (isO_m _ _) (Nat.le_of_ble_eq_true rfl) dL_law_358 h5 ?_
  exact q_same 1329 C dL_law_361 (by decide) (ih S2 hI2)
set_option maxRecDepth 100000 in
theorem la_6 (C : LC p s m meth c b L xs G) (h : Inv S) (h0 : 0 ≤ i) (h1 : i + 6 ≤ (L : Int)) (ih : ∀ S2 : St, Inv S2 → Ln p l e s m below meth c b G i 1329 [] (mk G S2)) : Ln p l e s m below meth c b G i 366 [] (mk G S) := by
  obtain ⟨z, S1, S2, h4, h5, hI2⟩ := st_of (G := G) h (sx_in xs (i + 1)) (sx_in xs (i + 2))
  refine q_aload1 C dL_law_366 ?_
  refine q_arg (by omega) (by omega) C dL_law_367 dL_law_368 dL_law_369 dL_law_370 dL_law_371 ?_
  refine q_arg (by omega) (by omega) C dL_law_372 dL_law_373 dL_law_374 dL_law_375 dL_law_376 ?_
  refine q_cV2 (M2 := mX4_of) C ml_RL_41 mc_X4_of ⟨Nat.le_of_ble_eq_true rfl, Nat.le_of_ble_eq_true rfl⟩ (isO_x _ _) (Nat.le_of_ble_eq_true rfl) dL_law_377 h4 ?_
  refine q_aload2 C dL_law_380 ?_
  refine q_arg (by omega) (by omega) C dL_law_381 dL_law_382 dL_law_383 dL_law_384 dL_law_385 ?_
  refine q_arg (by omega) (by omega) C dL_law_386 dL_law_387 dL_law_388 dL_law_389 dL_law_390 ?_
  refine q_cV2 (M2 := mX5_of) C ml_RL_44 mc_X5_of ⟨Nat.le_of_ble_eq_true rfl, Nat.le_of_ble_eq_true rfl⟩ (isO_m _ _) (Nat.le_of_ble_eq_true rfl) dL_law_391 h5 ?_
  exact q_same 1329 C dL_law_394 (by decide) (ih S2 hI2)
set_option maxRecDepth 100000 in
theorem la_7 (C : LC p s m meth c b L xs G) (h : Inv S) (h0 : 0 ≤ i) (h1 : i + 6 ≤ (L : Int)) (ih : ∀ S2 : St, Inv S2 → Ln p l e s m below meth c b G i 1329 [] (mk G S2)) : Ln p l e s m below meth c b G i 399 [] (mk G S) := by
  obtain ⟨z, S1, S2, h4, h5, hI2⟩ := st_set (G := G) h (sx_in xs (i + 1)) (sx_in xs (i + 2)) (sx_in xs (i + 3))
  refine q_aload1 C dL_law_399 ?_
  refine q_arg (by omega) (by omega) C dL_law_400 dL_law_401 dL_law_402 dL_law_403 dL_law_404 ?_
  refine q_arg (by omega) (by omega) C dL_law_405 dL_law_406 dL_law_407 dL_law_408 dL_law_409 ?_
  refine q_arg (by omega) (by omega) C dL_law_410 dL_law_411 dL_law_412 dL_law_413 dL_law_414 ?_
  refine q_cV3 (M2 := mX4_set) C ml_RL_45 mc_X4_set ⟨Nat.le_of_ble_eq_true rfl, Nat.le_of_ble_eq_true rfl⟩ (isO_x _ _) (Nat.le_of_ble_eq_true rfl) dL_law_415 h4 ?_
  refine q_aload2 C dL_law_418 ?_
  refine q_arg (by omega) (by omega) C dL_law_419 dL_law_420 dL_law_421 dL_law_422 dL_law_423 ?_
  refine q_arg (by omega) (by omega) C dL_law_424 dL_law_425 dL_law_426 dL_law_427 dL_law_428 ?_
  refine q_arg (by omega) (by omega) C dL_law_429 dL_law_430 dL_law_431 dL_law_432 dL_law_433 ?_
  refine q_cV3 (M2 := mX5_set) C ml_RL_48 mc_X5_set ⟨Nat.le_of_ble_eq_true rfl, Nat.le_of_ble_eq_true rfl⟩ (isO_m _ _) (Nat.le_of_ble_eq_true rfl) dL_law_434 h5 ?_
  exact q_same 1329 C dL_law_437 (by decide) (ih S2 hI2)
set_option maxRecDepth 100000 in
theorem la_8 (C : LC p s m meth c b L xs G) (h : Inv S) (h0 : 0 ≤ i) (h1 : i + 6 ≤ (L : Int)) (ih : ∀ S2 : St, Inv S2 → Ln p l e s m below meth c b G i 1329 [] (mk G S2)) : Ln p l e s m below meth c b G i 442 [] (mk G S) := by
  obtain ⟨z, S1, S2, h4, h5, hI2⟩ := st_turn (G := G) h (sx_in xs (i + 1)) (sx_in xs (i + 2))
  refine q_aload1 C dL_law_442 ?_
  refine q_arg (by omega) (by omega) C dL_law_443 dL_law_444 dL_law_445 dL_law_446 dL_law_447 ?_
  refine q_arg (by omega) (by omega) C dL_law_448 dL_law_449 dL_law_450 dL_law_451 dL_law_452 ?_
  refine q_cV2 (M2 := mX4_turn) C ml_RL_49 mc_X4_turn ⟨Nat.le_of_ble_eq_true rfl, Nat.le_of_ble_eq_true rfl⟩ (isO_x _ _) (Nat.le_of_ble_eq_true rfl) dL_law_453 h4 ?_
  refine q_aload2 C dL_law_456 ?_
  refine q_arg (by omega) (by omega) C dL_law_457 dL_law_458 dL_law_459 dL_law_460 dL_law_461 ?_
  refine q_arg (by omega) (by omega) C dL_law_462 dL_law_463 dL_law_464 dL_law_465 dL_law_466 ?_
  refine q_cV2 (M2 := mX5_turn) C ml_RL_52 mc_X5_turn ⟨Nat.le_of_ble_eq_true rfl, Nat.le_of_ble_eq_true rfl⟩ (isO_m _ _) (Nat.le_of_ble_eq_true rfl) dL_law_467 h5 ?_
  exact q_same 1329 C dL_law_470 (by decide) (ih S2 hI2)
set_option maxRecDepth 100000 in
theorem la_9 (C : LC p s m meth c b L xs G) (h : Inv S) (h0 : 0 ≤ i) (h1 : i + 6 ≤ (L : Int)) (ih : ∀ S2 : St, Inv S2 → Ln p l e s m below meth c b G i 1329 [] (mk G S2)) : Ln p l e s m below meth c b G i 475 [] (mk G S) := by
  obtain ⟨z, S1, S2, h4, h5, hI2⟩ := st_as (G := G) h (sx_in xs (i + 1)) (sx_in xs (i + 2))
  refine q_aload1 C dL_law_475 ?_
  refine q_arg (by omega) (by omega) C dL_law_476 dL_law_477 dL_law_478 dL_law_479 dL_law_480 ?_
  refine q_arg (by omega) (by omega) C dL_law_481 dL_law_482 dL_law_483 dL_law_484 dL_law_485 ?_
  refine q_cV2 (M2 := mX4_as) C ml_RL_53 mc_X4_as ⟨Nat.le_of_ble_eq_true rfl, Nat.le_of_ble_eq_true rfl⟩ (isO_x _ _) (Nat.le_of_ble_eq_true rfl) dL_law_486 h4 ?_
  refine q_aload2 C dL_law_489 ?_
  refine q_arg (by omega) (by omega) C dL_law_490 dL_law_491 dL_law_492 dL_law_493 dL_law_494 ?_
  refine q_arg (by omega) (by omega) C dL_law_495 dL_law_496 dL_law_497 dL_law_498 dL_law_499 ?_
  refine q_cV2 (M2 := mX5_as) C ml_RL_56 mc_X5_as ⟨Nat.le_of_ble_eq_true rfl, Nat.le_of_ble_eq_true rfl⟩ (isO_m _ _) (Nat.le_of_ble_eq_true rfl) dL_law_500 h5 ?_
  exact q_same 1329 C dL_law_503 (by decide) (ih S2 hI2)
set_option maxRecDepth 100000 in
theorem la_10 (C : LC p s m meth c b L xs G) (h : Inv S) (h0 : 0 ≤ i) (h1 : i + 6 ≤ (L : Int)) (ih : ∀ S2 : St, Inv S2 → Ln p l e s m below meth c b G i 1329 [] (mk G S2)) : Ln p l e s m below meth c b G i 508 [] (mk G S) := by
  obtain ⟨z, S1, S2, h4, h5, hI2⟩ := st_counts (G := G) h (sx_in xs (i + 1)) (sx_in xs (i + 2))
  refine q_aload1 C dL_law_508 ?_
  refine q_arg (by omega) (by omega) C dL_law_509 dL_law_510 dL_law_511 dL_law_512 dL_law_513 ?_
  refine q_arg (by omega) (by omega) C dL_law_514 dL_law_515 dL_law_516 dL_law_517 dL_law_518 ?_
  refine q_cV2 (M2 := mX4_counts) C ml_RL_57 mc_X4_counts ⟨Nat.le_of_ble_eq_true rfl, Nat.le_of_ble_eq_true rfl⟩ (isO_x _ _) (Nat.le_of_ble_eq_true rfl) dL_law_519 h4 ?_
  refine q_aload2 C dL_law_522 ?_
  refine q_arg (by omega) (by omega) C dL_law_523 dL_law_524 dL_law_525 dL_law_526 dL_law_527 ?_
  refine q_arg (by omega) (by omega) C dL_law_528 dL_law_529 dL_law_530 dL_law_531 dL_law_532 ?_
  refine q_cV2 (M2 := mX5_counts) C ml_RL_60 mc_X5_counts ⟨Nat.le_of_ble_eq_true rfl, Nat.le_of_ble_eq_true rfl⟩ (isO_m _ _) (Nat.le_of_ble_eq_true rfl) dL_law_533 h5 ?_
  exact q_same 1329 C dL_law_536 (by decide) (ih S2 hI2)
set_option maxRecDepth 100000 in
theorem la_11 (C : LC p s m meth c b L xs G) (h : Inv S) (h0 : 0 ≤ i) (h1 : i + 6 ≤ (L : Int)) (ih : ∀ S2 : St, Inv S2 → Ln p l e s m below meth c b G i 1329 [] (mk G S2)) : Ln p l e s m below meth c b G i 541 [] (mk G S) := by
  obtain ⟨z, S1, S2, h4, h5, hI2⟩ := st_minutes (G := G) h (sx_in xs (i + 1))
  refine q_aload1 C dL_law_541 ?_
  refine q_arg (by omega) (by omega) C dL_law_542 dL_law_543 dL_law_544 dL_law_545 dL_law_546 ?_
  refine q_cV1 (M2 := mX4_minutes) C ml_RL_61 mc_X4_minutes ⟨Nat.le_of_ble_eq_true rfl, Nat.le_of_ble_eq_true rfl⟩ (isO_x _ _) (Nat.le_of_ble_eq_true rfl) dL_law_547 h4 ?_
  refine q_aload2 C dL_law_550 ?_
  refine q_arg (by omega) (by omega) C dL_law_551 dL_law_552 dL_law_553 dL_law_554 dL_law_555 ?_
  refine q_cV1 (M2 := mX5_minutes) C ml_RL_64 mc_X5_minutes ⟨Nat.le_of_ble_eq_true rfl, Nat.le_of_ble_eq_true rfl⟩ (isO_m _ _) (Nat.le_of_ble_eq_true rfl) dL_law_556 h5 ?_
  exact q_same 1329 C dL_law_559 (by decide) (ih S2 hI2)
set_option maxRecDepth 100000 in
theorem la_12 (C : LC p s m meth c b L xs G) (h : Inv S) (h0 : 0 ≤ i) (h1 : i + 6 ≤ (L : Int)) (ih : ∀ S2 : St, Inv S2 → Ln p l e s m below meth c b G i 1329 [] (mk G S2)) : Ln p l e s m below meth c b G i 564 [] (mk G S) := by
  obtain ⟨z, S1, S2, h4, h5, hI2⟩ := st_now (G := G) h (sx_in xs (i + 1))
  refine q_aload1 C dL_law_564 ?_
  refine q_arg (by omega) (by omega) C dL_law_565 dL_law_566 dL_law_567 dL_law_568 dL_law_569 ?_
  refine q_cV1 (M2 := mX4_now) C ml_RL_65 mc_X4_now ⟨Nat.le_of_ble_eq_true rfl, Nat.le_of_ble_eq_true rfl⟩ (isO_x _ _) (Nat.le_of_ble_eq_true rfl) dL_law_570 h4 ?_
  refine q_aload2 C dL_law_573 ?_
  refine q_arg (by omega) (by omega) C dL_law_574 dL_law_575 dL_law_576 dL_law_577 dL_law_578 ?_
  refine q_cV1 (M2 := mX5_now) C ml_RL_68 mc_X5_now ⟨Nat.le_of_ble_eq_true rfl, Nat.le_of_ble_eq_true rfl⟩ (isO_m _ _) (Nat.le_of_ble_eq_true rfl) dL_law_579 h5 ?_
  exact q_same 1329 C dL_law_582 (by decide) (ih S2 hI2)
set_option maxRecDepth 100000 in
theorem la_13 (C : LC p s m meth c b L xs G) (h : Inv S) (h0 : 0 ≤ i) (h1 : i + 6 ≤ (L : Int)) (ih : ∀ S2 : St, Inv S2 → Ln p l e s m below meth c b G i 1329 [] (mk G S2)) : Ln p l e s m below meth c b G i 587 [] (mk G S) := by
  obtain ⟨z, S1, S2, h4, h5, hI2⟩ := st_on (G := G) h (sx_in xs (i + 1)) (sx_in xs (i + 2)) (sx_in xs (i + 3))
  refine q_aload1 C dL_law_587 ?_
  refine q_arg (by omega) (by omega) C dL_law_588 dL_law_589 dL_law_590 dL_law_591 dL_law_592 ?_
  refine q_arg (by omega) (by omega) C dL_law_593 dL_law_594 dL_law_595 dL_law_596 dL_law_597 ?_
  refine q_arg (by omega) (by omega) C dL_law_598 dL_law_599 dL_law_600 dL_law_601 dL_law_602 ?_
  refine q_cV3 (M2 := mX4_on) C ml_RL_69 mc_X4_on ⟨Nat.le_of_ble_eq_true rfl, Nat.le_of_ble_eq_true rfl⟩ (isO_x _ _) (Nat.le_of_ble_eq_true rfl) dL_law_603 h4 ?_
  refine q_aload2 C dL_law_606 ?_
  refine q_arg (by omega) (by omega) C dL_law_607 dL_law_608 dL_law_609 dL_law_610 dL_law_611 ?_
  refine q_arg (by omega) (by omega) C dL_law_612 dL_law_613 dL_law_614 dL_law_615 dL_law_616 ?_
  refine q_arg (by omega) (by omega) C dL_law_617 dL_law_618 dL_law_619 dL_law_620 dL_law_621 ?_
  refine q_cV3 (M2 := mX5_on) C ml_RL_72 mc_X5_on ⟨Nat.le_of_ble_eq_true rfl, Nat.le_of_ble_eq_true rfl⟩ (isO_m _ _) (Nat.le_of_ble_eq_true rfl) dL_law_622 h5 ?_
  exact q_same 1329 C dL_law_625 (by decide) (ih S2 hI2)
set_option maxRecDepth 100000 in
theorem la_14 (C : LC p s m meth c b L xs G) (h : Inv S) (h0 : 0 ≤ i) (h1 : i + 6 ≤ (L : Int)) (ih : ∀ S2 : St, Inv S2 → Ln p l e s m below meth c b G i 1329 [] (mk G S2)) : Ln p l e s m below meth c b G i 630 [] (mk G S) := by
  obtain ⟨z, S1, S2, h4, h5, hI2⟩ := st_worn (G := G) h (sx_in xs (i + 1)) (sx_in xs (i + 2))
  refine q_aload1 C dL_law_630 ?_
  refine q_arg (by omega) (by omega) C dL_law_631 dL_law_632 dL_law_633 dL_law_634 dL_law_635 ?_
  refine q_arg (by omega) (by omega) C dL_law_636 dL_law_637 dL_law_638 dL_law_639 dL_law_640 ?_
  refine q_cV2 (M2 := mX4_worn) C ml_RL_73 mc_X4_worn ⟨Nat.le_of_ble_eq_true rfl, Nat.le_of_ble_eq_true rfl⟩ (isO_x _ _) (Nat.le_of_ble_eq_true rfl) dL_law_641 h4 ?_
  refine q_aload2 C dL_law_644 ?_
  refine q_arg (by omega) (by omega) C dL_law_645 dL_law_646 dL_law_647 dL_law_648 dL_law_649 ?_
  refine q_arg (by omega) (by omega) C dL_law_650 dL_law_651 dL_law_652 dL_law_653 dL_law_654 ?_
  refine q_cV2 (M2 := mX5_worn) C ml_RL_76 mc_X5_worn ⟨Nat.le_of_ble_eq_true rfl, Nat.le_of_ble_eq_true rfl⟩ (isO_m _ _) (Nat.le_of_ble_eq_true rfl) dL_law_655 h5 ?_
  exact q_same 1329 C dL_law_658 (by decide) (ih S2 hI2)
set_option maxRecDepth 100000 in
theorem la_15 (C : LC p s m meth c b L xs G) (h : Inv S) (h0 : 0 ≤ i) (h1 : i + 6 ≤ (L : Int)) (ih : ∀ S2 : St, Inv S2 → Ln p l e s m below meth c b G i 1329 [] (mk G S2)) : Ln p l e s m below meth c b G i 663 [] (mk G S) := by
  obtain ⟨z, S1, S2, h4, h5, hI2⟩ := st_sleeps (G := G) h (sx_in xs (i + 1))
  refine q_aload1 C dL_law_663 ?_
  refine q_arg (by omega) (by omega) C dL_law_664 dL_law_665 dL_law_666 dL_law_667 dL_law_668 ?_
  refine q_cV1 (M2 := mX4_sleeps) C ml_RL_77 mc_X4_sleeps ⟨Nat.le_of_ble_eq_true rfl, Nat.le_of_ble_eq_true rfl⟩ (isO_x _ _) (Nat.le_of_ble_eq_true rfl) dL_law_669 h4 ?_
  refine q_aload2 C dL_law_672 ?_
  refine q_arg (by omega) (by omega) C dL_law_673 dL_law_674 dL_law_675 dL_law_676 dL_law_677 ?_
  refine q_cV1 (M2 := mX5_sleeps) C ml_RL_80 mc_X5_sleeps ⟨Nat.le_of_ble_eq_true rfl, Nat.le_of_ble_eq_true rfl⟩ (isO_m _ _) (Nat.le_of_ble_eq_true rfl) dL_law_678 h5 ?_
  exact q_same 1329 C dL_law_681 (by decide) (ih S2 hI2)
set_option maxRecDepth 100000 in
theorem la_16 (C : LC p s m meth c b L xs G) (h : Inv S) (h0 : 0 ≤ i) (h1 : i + 6 ≤ (L : Int)) (ih : ∀ S2 : St, Inv S2 → Ln p l e s m below meth c b G i 1329 [] (mk G S2)) : Ln p l e s m below meth c b G i 686 [] (mk G S) := by
  obtain ⟨z, S1, S2, h4, h5, hI2⟩ := st_quiet (G := G) h 
  refine q_aload1 C dL_law_686 ?_
  refine q_cV0 (M2 := mX4_quiet) C ml_RL_81 mc_X4_quiet ⟨Nat.le_of_ble_eq_true rfl, Nat.le_of_ble_eq_true rfl⟩ (isO_x _ _) (Nat.le_of_ble_eq_true rfl) dL_law_687 h4 ?_
  refine q_aload2 C dL_law_690 ?_
  refine q_cV0 (M2 := mX5_quiet) C ml_RL_84 mc_X5_quiet ⟨Nat.le_of_ble_eq_true rfl, Nat.le_of_ble_eq_true rfl⟩ (isO_m _ _) (Nat.le_of_ble_eq_true rfl) dL_law_691 h5 ?_
  exact q_same 1329 C dL_law_694 (by decide) (ih S2 hI2)
set_option maxRecDepth 100000 in
theorem la_17 (C : LC p s m meth c b L xs G) (h : Inv S) (h0 : 0 ≤ i) (h1 : i + 6 ≤ (L : Int)) (ih : ∀ S2 : St, Inv S2 → Ln p l e s m below meth c b G i 1329 [] (mk G S2)) : Ln p l e s m below meth c b G i 699 [] (mk G S) := by
  obtain ⟨z, S1, S2, h4, h5, hI2⟩ := st_bare (G := G) h (sx_in xs (i + 1))
  refine q_aload1 C dL_law_699 ?_
  refine q_arg (by omega) (by omega) C dL_law_700 dL_law_701 dL_law_702 dL_law_703 dL_law_704 ?_
  refine q_cV1 (M2 := mX4_bare) C ml_RL_85 mc_X4_bare ⟨Nat.le_of_ble_eq_true rfl, Nat.le_of_ble_eq_true rfl⟩ (isO_x _ _) (Nat.le_of_ble_eq_true rfl) dL_law_705 h4 ?_
  refine q_aload2 C dL_law_708 ?_
  refine q_arg (by omega) (by omega) C dL_law_709 dL_law_710 dL_law_711 dL_law_712 dL_law_713 ?_
  refine q_cV1 (M2 := mX5_bare) C ml_RL_88 mc_X5_bare ⟨Nat.le_of_ble_eq_true rfl, Nat.le_of_ble_eq_true rfl⟩ (isO_m _ _) (Nat.le_of_ble_eq_true rfl) dL_law_714 h5 ?_
  exact q_same 1329 C dL_law_717 (by decide) (ih S2 hI2)
set_option maxRecDepth 100000 in
theorem la_18 (C : LC p s m meth c b L xs G) (h : Inv S) (h0 : 0 ≤ i) (h1 : i + 6 ≤ (L : Int)) (ih : ∀ S2 : St, Inv S2 → Ln p l e s m below meth c b G i 1329 [] (mk G S2)) : Ln p l e s m below meth c b G i 722 [] (mk G S) := by
  obtain ⟨z, S1, S2, h4, h5, hI2⟩ := st_guise (G := G) h (sx_in xs (i + 1))
  refine q_aload1 C dL_law_722 ?_
  refine q_arg (by omega) (by omega) C dL_law_723 dL_law_724 dL_law_725 dL_law_726 dL_law_727 ?_
  refine q_cV1 (M2 := mX4_guise) C ml_RL_89 mc_X4_guise ⟨Nat.le_of_ble_eq_true rfl, Nat.le_of_ble_eq_true rfl⟩ (isO_x _ _) (Nat.le_of_ble_eq_true rfl) dL_law_728 h4 ?_
  refine q_aload2 C dL_law_731 ?_
  refine q_arg (by omega) (by omega) C dL_law_732 dL_law_733 dL_law_734 dL_law_735 dL_law_736 ?_
  refine q_cV1 (M2 := mX5_guise) C ml_RL_92 mc_X5_guise ⟨Nat.le_of_ble_eq_true rfl, Nat.le_of_ble_eq_true rfl⟩ (isO_m _ _) (Nat.le_of_ble_eq_true rfl) dL_law_737 h5 ?_
  exact q_same 1329 C dL_law_740 (by decide) (ih S2 hI2)
set_option maxRecDepth 100000 in
theorem la_19 (C : LC p s m meth c b L xs G) (h : Inv S) (h0 : 0 ≤ i) (h1 : i + 6 ≤ (L : Int)) (ih : ∀ S2 : St, Inv S2 → Ln p l e s m below meth c b G i 1329 [] (mk G S2)) : Ln p l e s m below meth c b G i 745 [] (mk G S) := by
  obtain ⟨z, S1, S2, h4, h5, hI2⟩ := st_guises (G := G) h (sx_in xs (i + 1)) (sx_in xs (i + 2))
  refine q_aload1 C dL_law_745 ?_
  refine q_arg (by omega) (by omega) C dL_law_746 dL_law_747 dL_law_748 dL_law_749 dL_law_750 ?_
  refine q_arg (by omega) (by omega) C dL_law_751 dL_law_752 dL_law_753 dL_law_754 dL_law_755 ?_
  refine q_cV2 (M2 := mX4_guises) C ml_RL_93 mc_X4_guises ⟨Nat.le_of_ble_eq_true rfl, Nat.le_of_ble_eq_true rfl⟩ (isO_x _ _) (Nat.le_of_ble_eq_true rfl) dL_law_756 h4 ?_
  refine q_aload2 C dL_law_759 ?_
  refine q_arg (by omega) (by omega) C dL_law_760 dL_law_761 dL_law_762 dL_law_763 dL_law_764 ?_
  refine q_arg (by omega) (by omega) C dL_law_765 dL_law_766 dL_law_767 dL_law_768 dL_law_769 ?_
  refine q_cV2 (M2 := mX5_guises) C ml_RL_96 mc_X5_guises ⟨Nat.le_of_ble_eq_true rfl, Nat.le_of_ble_eq_true rfl⟩ (isO_m _ _) (Nat.le_of_ble_eq_true rfl) dL_law_770 h5 ?_
  exact q_same 1329 C dL_law_773 (by decide) (ih S2 hI2)
set_option maxRecDepth 100000 in
theorem la_20 (C : LC p s m meth c b L xs G) (h : Inv S) (h0 : 0 ≤ i) (h1 : i + 6 ≤ (L : Int)) (ih : ∀ S2 : St, Inv S2 → Ln p l e s m below meth c b G i 1329 [] (mk G S2)) : Ln p l e s m below meth c b G i 778 [] (mk G S) := by
  obtain ⟨z, S1, S2, h4, h5, hI2⟩ := st_swap (G := G) h 
  refine q_aload1 C dL_law_778 ?_
  refine q_cV0 (M2 := mX4_swap) C ml_RL_97 mc_X4_swap ⟨Nat.le_of_ble_eq_true rfl, Nat.le_of_ble_eq_true rfl⟩ (isO_x _ _) (Nat.le_of_ble_eq_true rfl) dL_law_779 h4 ?_
  refine q_aload2 C dL_law_782 ?_
  refine q_cV0 (M2 := mX5_swap) C ml_RL_100 mc_X5_swap ⟨Nat.le_of_ble_eq_true rfl, Nat.le_of_ble_eq_true rfl⟩ (isO_m _ _) (Nat.le_of_ble_eq_true rfl) dL_law_783 h5 ?_
  exact q_same 1329 C dL_law_786 (by decide) (ih S2 hI2)
set_option maxRecDepth 100000 in
theorem la_21 (C : LC p s m meth c b L xs G) (h : Inv S) (h0 : 0 ≤ i) (h1 : i + 6 ≤ (L : Int)) (ih : ∀ S2 : St, Inv S2 → Ln p l e s m below meth c b G i 1329 [] (mk G S2)) : Ln p l e s m below meth c b G i 791 [] (mk G S) := by
  obtain ⟨z, S1, S2, h4, h5, hI2⟩ := st_spare (G := G) h (sx_in xs (i + 1)) (sx_in xs (i + 2))
  refine q_aload1 C dL_law_791 ?_
  refine q_arg (by omega) (by omega) C dL_law_792 dL_law_793 dL_law_794 dL_law_795 dL_law_796 ?_
  refine q_arg (by omega) (by omega) C dL_law_797 dL_law_798 dL_law_799 dL_law_800 dL_law_801 ?_
  refine q_cV2 (M2 := mX4_spare) C ml_RL_101 mc_X4_spare ⟨Nat.le_of_ble_eq_true rfl, Nat.le_of_ble_eq_true rfl⟩ (isO_x _ _) (Nat.le_of_ble_eq_true rfl) dL_law_802 h4 ?_
  refine q_aload2 C dL_law_805 ?_
  refine q_arg (by omega) (by omega) C dL_law_806 dL_law_807 dL_law_808 dL_law_809 dL_law_810 ?_
  refine q_arg (by omega) (by omega) C dL_law_811 dL_law_812 dL_law_813 dL_law_814 dL_law_815 ?_
  refine q_cV2 (M2 := mX5_spare) C ml_RL_104 mc_X5_spare ⟨Nat.le_of_ble_eq_true rfl, Nat.le_of_ble_eq_true rfl⟩ (isO_m _ _) (Nat.le_of_ble_eq_true rfl) dL_law_816 h5 ?_
  exact q_same 1329 C dL_law_819 (by decide) (ih S2 hI2)
set_option maxRecDepth 100000 in
theorem la_22 (C : LC p s m meth c b L xs G) (h : Inv S) (h0 : 0 ≤ i) (h1 : i + 6 ≤ (L : Int)) (ih : ∀ S2 : St, Inv S2 → Ln p l e s m below meth c b G i 1329 [] (mk G S2)) : Ln p l e s m below meth c b G i 824 [] (mk G S) := by
  obtain ⟨z, S1, S2, h4, h5, hI2⟩ := st_kind (G := G) h (sx_in xs (i + 1))
  refine q_aload1 C dL_law_824 ?_
  refine q_arg (by omega) (by omega) C dL_law_825 dL_law_826 dL_law_827 dL_law_828 dL_law_829 ?_
  refine q_cV1 (M2 := mX4_kind) C ml_RL_105 mc_X4_kind ⟨Nat.le_of_ble_eq_true rfl, Nat.le_of_ble_eq_true rfl⟩ (isO_x _ _) (Nat.le_of_ble_eq_true rfl) dL_law_830 h4 ?_
  refine q_aload2 C dL_law_833 ?_
  refine q_arg (by omega) (by omega) C dL_law_834 dL_law_835 dL_law_836 dL_law_837 dL_law_838 ?_
  refine q_cV1 (M2 := mX5_kind) C ml_RL_108 mc_X5_kind ⟨Nat.le_of_ble_eq_true rfl, Nat.le_of_ble_eq_true rfl⟩ (isO_m _ _) (Nat.le_of_ble_eq_true rfl) dL_law_839 h5 ?_
  exact q_same 1329 C dL_law_842 (by decide) (ih S2 hI2)
set_option maxRecDepth 100000 in
theorem la_23 (C : LC p s m meth c b L xs G) (h : Inv S) (h0 : 0 ≤ i) (h1 : i + 6 ≤ (L : Int)) (ih : ∀ S2 : St, Inv S2 → Ln p l e s m below meth c b G i 1329 [] (mk G S2)) : Ln p l e s m below meth c b G i 847 [] (mk G S) := by
  obtain ⟨z, S1, S2, h4, h5, hI2⟩ := st_most (G := G) h (sx_in xs (i + 1)) (sx_in xs (i + 2))
  refine q_aload1 C dL_law_847 ?_
  refine q_arg (by omega) (by omega) C dL_law_848 dL_law_849 dL_law_850 dL_law_851 dL_law_852 ?_
  refine q_arg (by omega) (by omega) C dL_law_853 dL_law_854 dL_law_855 dL_law_856 dL_law_857 ?_
  refine q_cV2 (M2 := mX4_most) C ml_RL_109 mc_X4_most ⟨Nat.le_of_ble_eq_true rfl, Nat.le_of_ble_eq_true rfl⟩ (isO_x _ _) (Nat.le_of_ble_eq_true rfl) dL_law_858 h4 ?_
  refine q_aload2 C dL_law_861 ?_
  refine q_arg (by omega) (by omega) C dL_law_862 dL_law_863 dL_law_864 dL_law_865 dL_law_866 ?_
  refine q_arg (by omega) (by omega) C dL_law_867 dL_law_868 dL_law_869 dL_law_870 dL_law_871 ?_
  refine q_cV2 (M2 := mX5_most) C ml_RL_112 mc_X5_most ⟨Nat.le_of_ble_eq_true rfl, Nat.le_of_ble_eq_true rfl⟩ (isO_m _ _) (Nat.le_of_ble_eq_true rfl) dL_law_872 h5 ?_
  exact q_same 1329 C dL_law_875 (by decide) (ih S2 hI2)
set_option maxRecDepth 100000 in
theorem la_24 (C : LC p s m meth c b L xs G) (h : Inv S) (h0 : 0 ≤ i) (h1 : i + 6 ≤ (L : Int)) (ih : ∀ S2 : St, Inv S2 → Ln p l e s m below meth c b G i 1329 [] (mk G S2)) : Ln p l e s m below meth c b G i 880 [] (mk G S) := by
  obtain ⟨z, S1, S2, h4, h5, hI2⟩ := st_begin (G := G) h (sx_in xs (i + 1))
  refine q_aload1 C dL_law_880 ?_
  refine q_arg (by omega) (by omega) C dL_law_881 dL_law_882 dL_law_883 dL_law_884 dL_law_885 ?_
  refine q_cV1 (M2 := mX4_begin) C ml_RL_113 mc_X4_begin ⟨Nat.le_of_ble_eq_true rfl, Nat.le_of_ble_eq_true rfl⟩ (isO_x _ _) (Nat.le_of_ble_eq_true rfl) dL_law_886 h4 ?_
  refine q_aload2 C dL_law_889 ?_
  refine q_arg (by omega) (by omega) C dL_law_890 dL_law_891 dL_law_892 dL_law_893 dL_law_894 ?_
  refine q_cV1 (M2 := mX5_begin) C ml_RL_116 mc_X5_begin ⟨Nat.le_of_ble_eq_true rfl, Nat.le_of_ble_eq_true rfl⟩ (isO_m _ _) (Nat.le_of_ble_eq_true rfl) dL_law_895 h5 ?_
  exact q_same 1329 C dL_law_898 (by decide) (ih S2 hI2)
set_option maxRecDepth 100000 in
theorem la_25 (C : LC p s m meth c b L xs G) (h : Inv S) (h0 : 0 ≤ i) (h1 : i + 6 ≤ (L : Int)) (ih : ∀ S2 : St, Inv S2 → Ln p l e s m below meth c b G i 1329 [] (mk G S2)) : Ln p l e s m below meth c b G i 903 [] (mk G S) := by
  obtain ⟨z, S1, S2, h4, h5, hI2⟩ := st_last (G := G) h 
  refine q_aload1 C dL_law_903 ?_
  refine q_cV0 (M2 := mX4_last) C ml_RL_117 mc_X4_last ⟨Nat.le_of_ble_eq_true rfl, Nat.le_of_ble_eq_true rfl⟩ (isO_x _ _) (Nat.le_of_ble_eq_true rfl) dL_law_904 h4 ?_
  refine q_aload2 C dL_law_907 ?_
  refine q_cV0 (M2 := mX5_last) C ml_RL_120 mc_X5_last ⟨Nat.le_of_ble_eq_true rfl, Nat.le_of_ble_eq_true rfl⟩ (isO_m _ _) (Nat.le_of_ble_eq_true rfl) dL_law_908 h5 ?_
  exact q_same 1329 C dL_law_911 (by decide) (ih S2 hI2)
set_option maxRecDepth 100000 in
theorem la_26 (C : LC p s m meth c b L xs G) (h : Inv S) (h0 : 0 ≤ i) (h1 : i + 6 ≤ (L : Int)) (ih : ∀ S2 : St, Inv S2 → Ln p l e s m below meth c b G i 1329 [] (mk G S2)) : Ln p l e s m below meth c b G i 916 [] (mk G S) := by
  obtain ⟨z, S1, S2, h4, h5, hI2⟩ := st_feed (G := G) h (sx_in xs (i + 1)) (sx_in xs (i + 2))
  refine q_aload1 C dL_law_916 ?_
  refine q_arg (by omega) (by omega) C dL_law_917 dL_law_918 dL_law_919 dL_law_920 dL_law_921 ?_
  refine q_arg (by omega) (by omega) C dL_law_922 dL_law_923 dL_law_924 dL_law_925 dL_law_926 ?_
  refine q_cV2 (M2 := mX4_feed) C ml_RL_121 mc_X4_feed ⟨Nat.le_of_ble_eq_true rfl, Nat.le_of_ble_eq_true rfl⟩ (isO_x _ _) (Nat.le_of_ble_eq_true rfl) dL_law_927 h4 ?_
  refine q_aload2 C dL_law_930 ?_
  refine q_arg (by omega) (by omega) C dL_law_931 dL_law_932 dL_law_933 dL_law_934 dL_law_935 ?_
  refine q_arg (by omega) (by omega) C dL_law_936 dL_law_937 dL_law_938 dL_law_939 dL_law_940 ?_
  refine q_cV2 (M2 := mX5_feed) C ml_RL_124 mc_X5_feed ⟨Nat.le_of_ble_eq_true rfl, Nat.le_of_ble_eq_true rfl⟩ (isO_m _ _) (Nat.le_of_ble_eq_true rfl) dL_law_941 h5 ?_
  exact q_same 1329 C dL_law_944 (by decide) (ih S2 hI2)
set_option maxRecDepth 100000 in
theorem la_27 (C : LC p s m meth c b L xs G) (h : Inv S) (h0 : 0 ≤ i) (h1 : i + 6 ≤ (L : Int)) (ih : ∀ S2 : St, Inv S2 → Ln p l e s m below meth c b G i 1329 [] (mk G S2)) : Ln p l e s m below meth c b G i 949 [] (mk G S) := by
  obtain ⟨z, S1, S2, h4, h5, hI2⟩ := st_wipe (G := G) h 
  refine q_aload1 C dL_law_949 ?_
  refine q_cV0 (M2 := mX4_wipe) C ml_RL_125 mc_X4_wipe ⟨Nat.le_of_ble_eq_true rfl, Nat.le_of_ble_eq_true rfl⟩ (isO_x _ _) (Nat.le_of_ble_eq_true rfl) dL_law_950 h4 ?_
  refine q_aload2 C dL_law_953 ?_
  refine q_cV0 (M2 := mX5_wipe) C ml_RL_128 mc_X5_wipe ⟨Nat.le_of_ble_eq_true rfl, Nat.le_of_ble_eq_true rfl⟩ (isO_m _ _) (Nat.le_of_ble_eq_true rfl) dL_law_954 h5 ?_
  exact q_same 1329 C dL_law_957 (by decide) (ih S2 hI2)
set_option maxRecDepth 100000 in
theorem la_28 (C : LC p s m meth c b L xs G) (h : Inv S) (h0 : 0 ≤ i) (h1 : i + 6 ≤ (L : Int)) (ih : ∀ S2 : St, Inv S2 → Ln p l e s m below meth c b G i 1329 [] (mk G S2)) : Ln p l e s m below meth c b G i 962 [] (mk G S) := by
  obtain ⟨z, S1, S2, h4, h5, hI2⟩ := st_fell (G := G) h 
  refine q_aload1 C dL_law_962 ?_
  refine q_cV0 (M2 := mX4_fell) C ml_RL_129 mc_X4_fell ⟨Nat.le_of_ble_eq_true rfl, Nat.le_of_ble_eq_true rfl⟩ (isO_x _ _) (Nat.le_of_ble_eq_true rfl) dL_law_963 h4 ?_
  refine q_aload2 C dL_law_966 ?_
  refine q_cV0 (M2 := mX5_fell) C ml_RL_132 mc_X5_fell ⟨Nat.le_of_ble_eq_true rfl, Nat.le_of_ble_eq_true rfl⟩ (isO_m _ _) (Nat.le_of_ble_eq_true rfl) dL_law_967 h5 ?_
  exact q_same 1329 C dL_law_970 (by decide) (ih S2 hI2)
set_option maxRecDepth 100000 in
theorem la_29 (C : LC p s m meth c b L xs G) (h : Inv S) (h0 : 0 ≤ i) (h1 : i + 6 ≤ (L : Int)) (ih : ∀ S2 : St, Inv S2 → Ln p l e s m below meth c b G i 1329 [] (mk G S2)) : Ln p l e s m below meth c b G i 975 [] (mk G S) := by
  obtain ⟨z, S1, S2, h4, h5, hI2⟩ := st_sheet (G := G) h (sx_in xs (i + 1)) (sx_in xs (i + 2)) (sx_in xs (i + 3))
  refine q_aload1 C dL_law_975 ?_
  refine q_arg (by omega) (by omega) C dL_law_976 dL_law_977 dL_law_978 dL_law_979 dL_law_980 ?_
  refine q_arg (by omega) (by omega) C dL_law_981 dL_law_982 dL_law_983 dL_law_984 dL_law_985 ?_
  refine q_arg (by omega) (by omega) C dL_law_986 dL_law_987 dL_law_988 dL_law_989 dL_law_990 ?_
  refine q_cV3 (M2 := mX4_sheet) C ml_RL_133 mc_X4_sheet ⟨Nat.le_of_ble_eq_true rfl, Nat.le_of_ble_eq_true rfl⟩ (isO_x _ _) (Nat.le_of_ble_eq_true rfl) dL_law_991 h4 ?_
  refine q_aload2 C dL_law_994 ?_
  refine q_arg (by omega) (by omega) C dL_law_995 dL_law_996 dL_law_997 dL_law_998 dL_law_999 ?_
  refine q_arg (by omega) (by omega) C dL_law_1000 dL_law_1001 dL_law_1002 dL_law_1003 dL_law_1004 ?_
  refine q_arg (by omega) (by omega) C dL_law_1005 dL_law_1006 dL_law_1007 dL_law_1008 dL_law_1009 ?_
  refine q_cV3 (M2 := mX5_sheet) C ml_RL_136 mc_X5_sheet ⟨Nat.le_of_ble_eq_true rfl, Nat.le_of_ble_eq_true rfl⟩ (isO_m _ _) (Nat.le_of_ble_eq_true rfl) dL_law_1010 h5 ?_
  exact q_same 1329 C dL_law_1013 (by decide) (ih S2 hI2)
set_option maxRecDepth 100000 in
theorem la_30 (C : LC p s m meth c b L xs G) (h : Inv S) (h0 : 0 ≤ i) (h1 : i + 6 ≤ (L : Int)) (ih : ∀ S2 : St, Inv S2 → Ln p l e s m below meth c b G i 1329 [] (mk G S2)) : Ln p l e s m below meth c b G i 1018 [] (mk G S) := by
  obtain ⟨z, S1, S2, h4, h5, hI2⟩ := st_write (G := G) h (sx_in xs (i + 1)) (sx_in xs (i + 2)) (inL_any (((Int32.ofInt (sx xs (i + 3))).toInt64 <<< ((Int32.ofInt 32).toInt64 &&& 63)) ||| ((Int32.ofInt (sx xs (i + 4))).toInt64 &&& Int64.ofInt (4294967295))))
  refine q_aload1 C dL_law_1018 ?_
  refine q_arg (by omega) (by omega) C dL_law_1019 dL_law_1020 dL_law_1021 dL_law_1022 dL_law_1023 ?_
  refine q_arg (by omega) (by omega) C dL_law_1024 dL_law_1025 dL_law_1026 dL_law_1027 dL_law_1028 ?_
  refine q_arg (by omega) (by omega) C dL_law_1029 dL_law_1030 dL_law_1031 dL_law_1032 dL_law_1033 ?_
  refine q_i2l C dL_law_1034 ?_
  refine q_bipush (by decide) (by decide) C dL_law_1035 ?_
  refine q_lshl C dL_law_1037 ?_
  refine q_arg (by omega) (by omega) C dL_law_1038 dL_law_1039 dL_law_1040 dL_law_1041 dL_law_1042 ?_
  refine q_i2l C dL_law_1043 ?_
  refine q_ldc2 C wc_RL_137 dL_law_1044 ?_
  refine q_land C dL_law_1047 ?_
  refine q_lor C dL_law_1048 ?_
  rw [vl_any]
  refine q_cV3 (M2 := mX4_write) C ml_RL_139 mc_X4_write ⟨Nat.le_of_ble_eq_true rfl, Nat.le_of_ble_eq_true rfl⟩ (isO_x _ _) (Nat.le_of_ble_eq_true rfl) dL_law_1049 h4 ?_
  refine q_aload2 C dL_law_1052 ?_
  refine q_arg (by omega) (by omega) C dL_law_1053 dL_law_1054 dL_law_1055 dL_law_1056 dL_law_1057 ?_
  refine q_arg (by omega) (by omega) C dL_law_1058 dL_law_1059 dL_law_1060 dL_law_1061 dL_law_1062 ?_
  refine q_arg (by omega) (by omega) C dL_law_1063 dL_law_1064 dL_law_1065 dL_law_1066 dL_law_1067 ?_
  refine q_i2l C dL_law_1068 ?_
  refine q_bipush (by decide) (by decide) C dL_law_1069 ?_
  refine q_lshl C dL_law_1071 ?_
  refine q_arg (by omega) (by omega) C dL_law_1072 dL_law_1073 dL_law_1074 dL_law_1075 dL_law_1076 ?_
  refine q_i2l C dL_law_1077 ?_
  refine q_ldc2 C wc_RL_137 dL_law_1078 ?_
  refine q_land C dL_law_1081 ?_
  refine q_lor C dL_law_1082 ?_
  rw [vl_any]
  refine q_cV3 (M2 := mX5_write) C ml_RL_143 mc_X5_write ⟨Nat.le_of_ble_eq_true rfl, Nat.le_of_ble_eq_true rfl⟩ (isO_m _ _) (Nat.le_of_ble_eq_true rfl) dL_law_1083 h5 ?_
  exact q_sameL 1329 C dL_law_1086 dL_law_1087 (by decide) (ih S2 hI2)
set_option maxRecDepth 100000 in
theorem la_31 (C : LC p s m meth c b L xs G) (h : Inv S) (h0 : 0 ≤ i) (h1 : i + 6 ≤ (L : Int)) (ih : ∀ S2 : St, Inv S2 → Ln p l e s m below meth c b G i 1329 [] (mk G S2)) : Ln p l e s m below meth c b G i 1092 [] (mk G S) := by
  obtain ⟨z, S1, S2, h4, h5, hI2⟩ := st_copy (G := G) h (sx_in xs (i + 1)) (sx_in xs (i + 2)) (sx_in xs (i + 3)) (sx_in xs (i + 4)) (sx_in xs (i + 5))
  refine q_aload1 C dL_law_1092 ?_
  refine q_arg (by omega) (by omega) C dL_law_1093 dL_law_1094 dL_law_1095 dL_law_1096 dL_law_1097 ?_
  refine q_arg (by omega) (by omega) C dL_law_1098 dL_law_1099 dL_law_1100 dL_law_1101 dL_law_1102 ?_
  refine q_arg (by omega) (by omega) C dL_law_1103 dL_law_1104 dL_law_1105 dL_law_1106 dL_law_1107 ?_
  refine q_arg (by omega) (by omega) C dL_law_1108 dL_law_1109 dL_law_1110 dL_law_1111 dL_law_1112 ?_
  refine q_arg (by omega) (by omega) C dL_law_1113 dL_law_1114 dL_law_1115 dL_law_1116 dL_law_1117 ?_
  refine q_cV5 (M2 := mX4_copy) C ml_RL_144 mc_X4_copy ⟨Nat.le_of_ble_eq_true rfl, Nat.le_of_ble_eq_true rfl⟩ (isO_x _ _) (Nat.le_of_ble_eq_true rfl) dL_law_1118 h4 ?_
  refine q_aload2 C dL_law_1121 ?_
  refine q_arg (by omega) (by omega) C dL_law_1122 dL_law_1123 dL_law_1124 dL_law_1125 dL_law_1126 ?_
  refine q_arg (by omega) (by omega) C dL_law_1127 dL_law_1128 dL_law_1129 dL_law_1130 dL_law_1131 ?_
  refine q_arg (by omega) (by omega) C dL_law_1132 dL_law_1133 dL_law_1134 dL_law_1135 dL_law_1136 ?_
  refine q_arg (by omega) (by omega) C dL_law_1137 dL_law_1138 dL_law_1139 dL_law_1140 dL_law_1141 ?_
  refine q_arg (by omega) (by omega) C dL_law_1142 dL_law_1143 dL_law_1144 dL_law_1145 dL_law_1146 ?_
  refine q_cV5 (M2 := mX5_copy) C ml_RL_148 mc_X5_copy ⟨Nat.le_of_ble_eq_true rfl, Nat.le_of_ble_eq_true rfl⟩ (isO_m _ _) (Nat.le_of_ble_eq_true rfl) dL_law_1147 h5 ?_
  exact q_same 1329 C dL_law_1150 (by decide) (ih S2 hI2)
set_option maxRecDepth 100000 in
theorem la_32 (C : LC p s m meth c b L xs G) (h : Inv S) (h0 : 0 ≤ i) (h1 : i + 6 ≤ (L : Int)) (ih : ∀ S2 : St, Inv S2 → Ln p l e s m below meth c b G i 1329 [] (mk G S2)) : Ln p l e s m below meth c b G i 1155 [] (mk G S) := by
  obtain ⟨z, S1, S2, h4, h5, hI2⟩ := st_lays (G := G) h (sx_in xs (i + 1))
  refine q_aload1 C dL_law_1155 ?_
  refine q_arg (by omega) (by omega) C dL_law_1156 dL_law_1157 dL_law_1158 dL_law_1159 dL_law_1160 ?_
  refine q_cV1 (M2 := mX4_lays) C ml_RL_149 mc_X4_lays ⟨Nat.le_of_ble_eq_true rfl, Nat.le_of_ble_eq_true rfl⟩ (isO_x _ _) (Nat.le_of_ble_eq_true rfl) dL_law_1161 h4 ?_
  refine q_aload2 C dL_law_1164 ?_
  refine q_arg (by omega) (by omega) C dL_law_1165 dL_law_1166 dL_law_1167 dL_law_1168 dL_law_1169 ?_
  refine q_cV1 (M2 := mX5_lays) C ml_RL_152 mc_X5_lays ⟨Nat.le_of_ble_eq_true rfl, Nat.le_of_ble_eq_true rfl⟩ (isO_m _ _) (Nat.le_of_ble_eq_true rfl) dL_law_1170 h5 ?_
  exact q_same 1329 C dL_law_1173 (by decide) (ih S2 hI2)
set_option maxRecDepth 100000 in
theorem la_33 (C : LC p s m meth c b L xs G) (h : Inv S) (h0 : 0 ≤ i) (h1 : i + 6 ≤ (L : Int)) (ih : ∀ S2 : St, Inv S2 → Ln p l e s m below meth c b G i 1329 [] (mk G S2)) : Ln p l e s m below meth c b G i 1178 [] (mk G S) := by
  obtain ⟨z, S1, S2, h4, h5, hI2⟩ := st_book (G := G) h (sx_in xs (i + 1)) (sx_in xs (i + 2))
  refine q_aload1 C dL_law_1178 ?_
  refine q_arg (by omega) (by omega) C dL_law_1179 dL_law_1180 dL_law_1181 dL_law_1182 dL_law_1183 ?_
  refine q_arg (by omega) (by omega) C dL_law_1184 dL_law_1185 dL_law_1186 dL_law_1187 dL_law_1188 ?_
  refine q_cV2 (M2 := mX4_book) C ml_RL_153 mc_X4_book ⟨Nat.le_of_ble_eq_true rfl, Nat.le_of_ble_eq_true rfl⟩ (isO_x _ _) (Nat.le_of_ble_eq_true rfl) dL_law_1189 h4 ?_
  refine q_aload2 C dL_law_1192 ?_
  refine q_arg (by omega) (by omega) C dL_law_1193 dL_law_1194 dL_law_1195 dL_law_1196 dL_law_1197 ?_
  refine q_arg (by omega) (by omega) C dL_law_1198 dL_law_1199 dL_law_1200 dL_law_1201 dL_law_1202 ?_
  refine q_cV2 (M2 := mX5_book) C ml_RL_156 mc_X5_book ⟨Nat.le_of_ble_eq_true rfl, Nat.le_of_ble_eq_true rfl⟩ (isO_m _ _) (Nat.le_of_ble_eq_true rfl) dL_law_1203 h5 ?_
  exact q_same 1329 C dL_law_1206 (by decide) (ih S2 hI2)
set_option maxRecDepth 100000 in
theorem la_34 (C : LC p s m meth c b L xs G) (h : Inv S) (h0 : 0 ≤ i) (h1 : i + 6 ≤ (L : Int)) (ih : ∀ S2 : St, Inv S2 → Ln p l e s m below meth c b G i 1329 [] (mk G S2)) : Ln p l e s m below meth c b G i 1211 [] (mk G S) := by
  obtain ⟨z, S1, S2, h4, h5, hI2⟩ := st_read (G := G) h (sx_in xs (i + 1)) (sx_in xs (i + 2))
  refine q_aload1 C dL_law_1211 ?_
  refine q_arg (by omega) (by omega) C dL_law_1212 dL_law_1213 dL_law_1214 dL_law_1215 dL_law_1216 ?_
  refine q_arg (by omega) (by omega) C dL_law_1217 dL_law_1218 dL_law_1219 dL_law_1220 dL_law_1221 ?_
  refine q_cV2 (M2 := mX4_read) C ml_RL_157 mc_X4_read ⟨Nat.le_of_ble_eq_true rfl, Nat.le_of_ble_eq_true rfl⟩ (isO_x _ _) (Nat.le_of_ble_eq_true rfl) dL_law_1222 h4 ?_
  refine q_aload2 C dL_law_1225 ?_
  refine q_arg (by omega) (by omega) C dL_law_1226 dL_law_1227 dL_law_1228 dL_law_1229 dL_law_1230 ?_
  refine q_arg (by omega) (by omega) C dL_law_1231 dL_law_1232 dL_law_1233 dL_law_1234 dL_law_1235 ?_
  refine q_cV2 (M2 := mX5_read) C ml_RL_160 mc_X5_read ⟨Nat.le_of_ble_eq_true rfl, Nat.le_of_ble_eq_true rfl⟩ (isO_m _ _) (Nat.le_of_ble_eq_true rfl) dL_law_1236 h5 ?_
  exact q_same 1329 C dL_law_1239 (by decide) (ih S2 hI2)
set_option maxRecDepth 100000 in
theorem la_35 (C : LC p s m meth c b L xs G) (h : Inv S) (h0 : 0 ≤ i) (h1 : i + 6 ≤ (L : Int)) (ih : ∀ S2 : St, Inv S2 → Ln p l e s m below meth c b G i 1329 [] (mk G S2)) : Ln p l e s m below meth c b G i 1244 [] (mk G S) := by
  obtain ⟨z, S1, S2, h4, h5, hI2⟩ := st_image (G := G) h 
  refine q_aload1 C dL_law_1244 ?_
  refine q_cV0 (M2 := mX4_image) C ml_RL_161 mc_X4_image ⟨Nat.le_of_ble_eq_true rfl, Nat.le_of_ble_eq_true rfl⟩ (isO_x _ _) (Nat.le_of_ble_eq_true rfl) dL_law_1245 h4 ?_
  refine q_aload2 C dL_law_1248 ?_
  refine q_cV0 (M2 := mX5_image) C ml_RL_164 mc_X5_image ⟨Nat.le_of_ble_eq_true rfl, Nat.le_of_ble_eq_true rfl⟩ (isO_m _ _) (Nat.le_of_ble_eq_true rfl) dL_law_1249 h5 ?_
  exact q_same 1329 C dL_law_1252 (by decide) (ih S2 hI2)
set_option maxRecDepth 100000 in
theorem la_36 (C : LC p s m meth c b L xs G) (h : Inv S) (h0 : 0 ≤ i) (h1 : i + 6 ≤ (L : Int)) (ih : ∀ S2 : St, Inv S2 → Ln p l e s m below meth c b G i 1329 [] (mk G S2)) : Ln p l e s m below meth c b G i 1257 [] (mk G S) := by
  obtain ⟨z, S1, S2, h4, h5, hI2⟩ := st_undo (G := G) h 
  refine q_aload1 C dL_law_1257 ?_
  refine q_cV0 (M2 := mX4_undo) C ml_RL_165 mc_X4_undo ⟨Nat.le_of_ble_eq_true rfl, Nat.le_of_ble_eq_true rfl⟩ (isO_x _ _) (Nat.le_of_ble_eq_true rfl) dL_law_1258 h4 ?_
  refine q_aload2 C dL_law_1261 ?_
  refine q_cV0 (M2 := mX5_undo) C ml_RL_168 mc_X5_undo ⟨Nat.le_of_ble_eq_true rfl, Nat.le_of_ble_eq_true rfl⟩ (isO_m _ _) (Nat.le_of_ble_eq_true rfl) dL_law_1262 h5 ?_
  exact q_same 1329 C dL_law_1265 (by decide) (ih S2 hI2)
set_option maxRecDepth 100000 in
theorem la_37 (C : LC p s m meth c b L xs G) (h : Inv S) (h0 : 0 ≤ i) (h1 : i + 6 ≤ (L : Int)) (ih : ∀ S2 : St, Inv S2 → Ln p l e s m below meth c b G i 1329 [] (mk G S2)) : Ln p l e s m below meth c b G i 1270 [] (mk G S) := by
  obtain ⟨z, S1, S2, h4, h5, hI2⟩ := st_tear (G := G) h 
  refine q_aload1 C dL_law_1270 ?_
  refine q_cV0 (M2 := mX4_tear) C ml_RL_169 mc_X4_tear ⟨Nat.le_of_ble_eq_true rfl, Nat.le_of_ble_eq_true rfl⟩ (isO_x _ _) (Nat.le_of_ble_eq_true rfl) dL_law_1271 h4 ?_
  refine q_aload2 C dL_law_1274 ?_
  refine q_cV0 (M2 := mX5_tear) C ml_RL_172 mc_X5_tear ⟨Nat.le_of_ble_eq_true rfl, Nat.le_of_ble_eq_true rfl⟩ (isO_m _ _) (Nat.le_of_ble_eq_true rfl) dL_law_1275 h5 ?_
  exact q_same 1329 C dL_law_1278 (by decide) (ih S2 hI2)
set_option maxRecDepth 100000 in
theorem la_38 (C : LC p s m meth c b L xs G) (h : Inv S) (h0 : 0 ≤ i) (h1 : i + 6 ≤ (L : Int)) (ih : ∀ S2 : St, Inv S2 → Ln p l e s m below meth c b G i 1329 [] (mk G S2)) : Ln p l e s m below meth c b G i 1283 [] (mk G S) := by
  obtain ⟨z, S1, S2, h4, h5, hI2⟩ := st_count (G := G) h (sx_in xs (i + 1))
  refine q_aload1 C dL_law_1283 ?_
  refine q_arg (by omega) (by omega) C dL_law_1284 dL_law_1285 dL_law_1286 dL_law_1287 dL_law_1288 ?_
  refine q_cV1 (M2 := mX4_count) C ml_RL_173 mc_X4_count ⟨Nat.le_of_ble_eq_true rfl, Nat.le_of_ble_eq_true rfl⟩ (isO_x _ _) (Nat.le_of_ble_eq_true rfl) dL_law_1289 h4 ?_
  refine q_aload2 C dL_law_1292 ?_
  refine q_arg (by omega) (by omega) C dL_law_1293 dL_law_1294 dL_law_1295 dL_law_1296 dL_law_1297 ?_
  refine q_cV1 (M2 := mX5_count) C ml_RL_176 mc_X5_count ⟨Nat.le_of_ble_eq_true rfl, Nat.le_of_ble_eq_true rfl⟩ (isO_m _ _) (Nat.le_of_ble_eq_true rfl) dL_law_1298 h5 ?_
  exact q_same 1329 C dL_law_1301 (by decide) (ih S2 hI2)
set_option maxRecDepth 100000 in
theorem la_39 (C : LC p s m meth c b L xs G) (h : Inv S) (h0 : 0 ≤ i) (h1 : i + 6 ≤ (L : Int)) (ih : ∀ S2 : St, Inv S2 → Ln p l e s m below meth c b G i 1329 [] (mk G S2)) : Ln p l e s m below meth c b G i 1306 [] (mk G S) := by
  obtain ⟨z, S1, S2, h4, h5, hI2⟩ := st_status (G := G) h (sx_in xs (i + 1))
  refine q_aload1 C dL_law_1306 ?_
  refine q_arg (by omega) (by omega) C dL_law_1307 dL_law_1308 dL_law_1309 dL_law_1310 dL_law_1311 ?_
  refine q_cV1 (M2 := mX4_status) C ml_RL_177 mc_X4_status ⟨Nat.le_of_ble_eq_true rfl, Nat.le_of_ble_eq_true rfl⟩ (isO_x _ _) (Nat.le_of_ble_eq_true rfl) dL_law_1312 h4 ?_
  refine q_aload2 C dL_law_1315 ?_
  refine q_arg (by omega) (by omega) C dL_law_1316 dL_law_1317 dL_law_1318 dL_law_1319 dL_law_1320 ?_
  refine q_cV1 (M2 := mX5_status) C ml_RL_180 mc_X5_status ⟨Nat.le_of_ble_eq_true rfl, Nat.le_of_ble_eq_true rfl⟩ (isO_m _ _) (Nat.le_of_ble_eq_true rfl) dL_law_1321 h5 ?_
  exact q_same 1329 C dL_law_1324 (by decide) (ih S2 hI2)
set_option maxRecDepth 100000 in
theorem law_loop (C : LC p s m meth c b L xs G) : ∀ (n : Nat) (i : Int) (S : St), Inv S → 0 ≤ i → i ≤ (L : Int) → (L : Int) - i < (n : Int) → Ln p l e s m below meth c b G i 18 [] (mk G S) := by
  intro n
  induction n with
  | zero => intro i S _ _ h1 h2; exfalso; omega
  | succ n ih =>
    intro i S h h0 h1 h2
    push_cast at h2
    have hL := C.2.2.2.2.2
    refine q_iload3 C dL_law_18 ?_
    refine q_aload0 C dL_law_19 ?_
    refine q_slen C dL_law_20 ?_
    refine q_bipush (by decide) (by decide) C dL_law_21 ?_
    refine q_isub C dL_law_23 ?_
    refine q_icmp_gt ⟨by omega, by omega⟩ ⟨by omega, by omega⟩ 1335 C dL_law_24 (by decide) (fun c24 => ?_) (fun c24 => ?_)
    · refine q_iconst C dL_law_1335 ?_
      exact q_end C dL_law_1336
    · have kk : ∀ S2 : St, Inv S2 → Ln p l e s m below meth c b G i 1329 [] (mk G S2) := fun S2 hI2 => by
        refine q_iinc C dL_law_1329 ?_
        refine q_goto 18 C dL_law_1332 (by decide) ?_
        exact ih (i + 6) S2 hI2 (by omega) (by omega) (by omega)
      have h63 := t_63 (sx xs i)
      refine q_aload0 C dL_law_27 ?_
      refine q_iload3 C dL_law_28 ?_
      refine q_sld h0 (by omega) C dL_law_29 ?_
      refine q_bipush (by decide) (by decide) C dL_law_30 ?_
      refine q_iand C dL_law_32 ?_
      rcases (show bAnd (sx xs i) 63 = 0 ∨ bAnd (sx xs i) 63 = 1 ∨ bAnd (sx xs i) 63 = 2 ∨ bAnd (sx xs i) 63 = 3 ∨ bAnd (sx xs i) 63 = 4 ∨ bAnd (sx xs i) 63 = 5 ∨ bAnd (sx xs i) 63 = 6 ∨ bAnd (sx xs i) 63 = 7 ∨ bAnd (sx xs i) 63 = 8 ∨ bAnd (sx xs i) 63 = 9 ∨ bAnd (sx xs i) 63 = 10 ∨ bAnd (sx xs i) 63 = 11 ∨ bAnd (sx xs i) 63 = 12 ∨ bAnd (sx xs i) 63 = 13 ∨ bAnd (sx xs i) 63 = 14 ∨ bAnd (sx xs i) 63 = 15 ∨ bAnd (sx xs i) 63 = 16 ∨ bAnd (sx xs i) 63 = 17 ∨ bAnd (sx xs i) 63 = 18 ∨ bAnd (sx xs i) 63 = 19 ∨ bAnd (sx xs i) 63 = 20 ∨ bAnd (sx xs i) 63 = 21 ∨ bAnd (sx xs i) 63 = 22 ∨ bAnd (sx xs i) 63 = 23 ∨ bAnd (sx xs i) 63 = 24 ∨ bAnd (sx xs i) 63 = 25 ∨ bAnd (sx xs i) 63 = 26 ∨ bAnd (sx xs i) 63 = 27 ∨ bAnd (sx xs i) 63 = 28 ∨ bAnd (sx xs i) 63 = 29 ∨ bAnd (sx xs i) 63 = 30 ∨ bAnd (sx xs i) 63 = 31 ∨ bAnd (sx xs i) 63 = 32 ∨ bAnd (sx xs i) 63 = 33 ∨ bAnd (sx xs i) 63 = 34 ∨ bAnd (sx xs i) 63 = 35 ∨ bAnd (sx xs i) 63 = 36 ∨ bAnd (sx xs i) 63 = 37 ∨ bAnd (sx xs i) 63 = 38 ∨ bAnd (sx xs i) 63 = 39 ∨ 39 < bAnd (sx xs i) 63 by omega) with w | w | w | w | w | w | w | w | w | w | w | w | w | w | w | w | w | w | w | w | w | w | w | w | w | w | w | w | w | w | w | w | w | w | w | w | w | w | w | w | w
      · exact q_tswI (bAnd_in _ _) 0 208 C dL_law_33 (by omega) (by decide) rfl (by decide) (la_0 C h h0 (by omega) kk)
      · exact q_tswI (bAnd_in _ _) 1 231 C dL_law_33 (by omega) (by decide) rfl (by decide) (la_1 C h h0 (by omega) kk)
      · exact q_tswI (bAnd_in _ _) 2 264 C dL_law_33 (by omega) (by decide) rfl (by decide) (la_2 C h h0 (by omega) kk)
      · exact q_tswI (bAnd_in _ _) 3 307 C dL_law_33 (by omega) (by decide) rfl (by decide) (la_3 C h h0 (by omega) kk)
      · exact q_tswI (bAnd_in _ _) 4 330 C dL_law_33 (by omega) (by decide) rfl (by decide) (la_4 C h h0 (by omega) kk)
      · exact q_tswI (bAnd_in _ _) 5 343 C dL_law_33 (by omega) (by decide) rfl (by decide) (la_5 C h h0 (by omega) kk)
      · exact q_tswI (bAnd_in _ _) 6 366 C dL_law_33 (by omega) (by decide) rfl (by decide) (la_6 C h h0 (by omega) kk)
      · exact q_tswI (bAnd_in _ _) 7 399 C dL_law_33 (by omega) (by decide) rfl (by decide) (la_7 C h h0 (by omega) kk)
      · exact q_tswI (bAnd_in _ _) 8 442 C dL_law_33 (by omega) (by decide) rfl (by decide) (la_8 C h h0 (by omega) kk)
      · exact q_tswI (bAnd_in _ _) 9 475 C dL_law_33 (by omega) (by decide) rfl (by decide) (la_9 C h h0 (by omega) kk)
      · exact q_tswI (bAnd_in _ _) 10 508 C dL_law_33 (by omega) (by decide) rfl (by decide) (la_10 C h h0 (by omega) kk)
      · exact q_tswI (bAnd_in _ _) 11 541 C dL_law_33 (by omega) (by decide) rfl (by decide) (la_11 C h h0 (by omega) kk)
      · exact q_tswI (bAnd_in _ _) 12 564 C dL_law_33 (by omega) (by decide) rfl (by decide) (la_12 C h h0 (by omega) kk)
      · exact q_tswI (bAnd_in _ _) 13 587 C dL_law_33 (by omega) (by decide) rfl (by decide) (la_13 C h h0 (by omega) kk)
      · exact q_tswI (bAnd_in _ _) 14 630 C dL_law_33 (by omega) (by decide) rfl (by decide) (la_14 C h h0 (by omega) kk)
      · exact q_tswI (bAnd_in _ _) 15 663 C dL_law_33 (by omega) (by decide) rfl (by decide) (la_15 C h h0 (by omega) kk)
      · exact q_tswI (bAnd_in _ _) 16 686 C dL_law_33 (by omega) (by decide) rfl (by decide) (la_16 C h h0 (by omega) kk)
      · exact q_tswI (bAnd_in _ _) 17 699 C dL_law_33 (by omega) (by decide) rfl (by decide) (la_17 C h h0 (by omega) kk)
      · exact q_tswI (bAnd_in _ _) 18 722 C dL_law_33 (by omega) (by decide) rfl (by decide) (la_18 C h h0 (by omega) kk)
      · exact q_tswI (bAnd_in _ _) 19 745 C dL_law_33 (by omega) (by decide) rfl (by decide) (la_19 C h h0 (by omega) kk)
      · exact q_tswI (bAnd_in _ _) 20 778 C dL_law_33 (by omega) (by decide) rfl (by decide) (la_20 C h h0 (by omega) kk)
      · exact q_tswI (bAnd_in _ _) 21 791 C dL_law_33 (by omega) (by decide) rfl (by decide) (la_21 C h h0 (by omega) kk)
      · exact q_tswI (bAnd_in _ _) 22 824 C dL_law_33 (by omega) (by decide) rfl (by decide) (la_22 C h h0 (by omega) kk)
      · exact q_tswI (bAnd_in _ _) 23 847 C dL_law_33 (by omega) (by decide) rfl (by decide) (la_23 C h h0 (by omega) kk)
      · exact q_tswI (bAnd_in _ _) 24 880 C dL_law_33 (by omega) (by decide) rfl (by decide) (la_24 C h h0 (by omega) kk)
      · exact q_tswI (bAnd_in _ _) 25 903 C dL_law_33 (by omega) (by decide) rfl (by decide) (la_25 C h h0 (by omega) kk)
      · exact q_tswI (bAnd_in _ _) 26 916 C dL_law_33 (by omega) (by decide) rfl (by decide) (la_26 C h h0 (by omega) kk)
      · exact q_tswI (bAnd_in _ _) 27 949 C dL_law_33 (by omega) (by decide) rfl (by decide) (la_27 C h h0 (by omega) kk)
      · exact q_tswI (bAnd_in _ _) 28 962 C dL_law_33 (by omega) (by decide) rfl (by decide) (la_28 C h h0 (by omega) kk)
      · exact q_tswI (bAnd_in _ _) 29 975 C dL_law_33 (by omega) (by decide) rfl (by decide) (la_29 C h h0 (by omega) kk)
      · exact q_tswI (bAnd_in _ _) 30 1018 C dL_law_33 (by omega) (by decide) rfl (by decide) (la_30 C h h0 (by omega) kk)
      · exact q_tswI (bAnd_in _ _) 31 1092 C dL_law_33 (by omega) (by decide) rfl (by decide) (la_31 C h h0 (by omega) kk)
      · exact q_tswI (bAnd_in _ _) 32 1155 C dL_law_33 (by omega) (by decide) rfl (by decide) (la_32 C h h0 (by omega) kk)
      · exact q_tswI (bAnd_in _ _) 33 1178 C dL_law_33 (by omega) (by decide) rfl (by decide) (la_33 C h h0 (by omega) kk)
      · exact q_tswI (bAnd_in _ _) 34 1211 C dL_law_33 (by omega) (by decide) rfl (by decide) (la_34 C h h0 (by omega) kk)
      · exact q_tswI (bAnd_in _ _) 35 1244 C dL_law_33 (by omega) (by decide) rfl (by decide) (la_35 C h h0 (by omega) kk)
      · exact q_tswI (bAnd_in _ _) 36 1257 C dL_law_33 (by omega) (by decide) rfl (by decide) (la_36 C h h0 (by omega) kk)
      · exact q_tswI (bAnd_in _ _) 37 1270 C dL_law_33 (by omega) (by decide) rfl (by decide) (la_37 C h h0 (by omega) kk)
      · exact q_tswI (bAnd_in _ _) 38 1283 C dL_law_33 (by omega) (by decide) rfl (by decide) (la_38 C h h0 (by omega) kk)
      · exact q_tswI (bAnd_in _ _) 39 1306 C dL_law_33 (by omega) (by decide) rfl (by decide) (la_39 C h h0 (by omega) kk)
      · exact q_tswO (bAnd_in _ _) 1329 C dL_law_33 (by omega) (by decide) (kk S h)
end
