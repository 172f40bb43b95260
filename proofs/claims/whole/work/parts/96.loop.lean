/-! the law, operation by operation -/
theorem zl_i0 : ∀ v ∈ ([] : List Value), ∃ x, v = .int x := fun v h => by simp at h
theorem zl_i1 {x0 : Int32} : ∀ v ∈ ([.int x0] : List Value), ∃ x, v = .int x := fun v h => by
  simp at h
  rcases h with rfl <;> exact ⟨_, rfl⟩
theorem zl_i2 {x0 x1 : Int32} : ∀ v ∈ ([.int x0, .int x1] : List Value), ∃ x, v = .int x := fun v h => by
  simp at h
  rcases h with rfl | rfl <;> exact ⟨_, rfl⟩
theorem zl_i3 {x0 x1 x2 : Int32} : ∀ v ∈ ([.int x0, .int x1, .int x2] : List Value), ∃ x, v = .int x := fun v h => by
  simp at h
  rcases h with rfl | rfl | rfl <;> exact ⟨_, rfl⟩
theorem zl_i4 {x0 x1 x2 x3 : Int32} : ∀ v ∈ ([.int x0, .int x1, .int x2, .int x3] : List Value), ∃ x, v = .int x := fun v h => by
  simp at h
  rcases h with rfl | rfl | rfl | rfl <;> exact ⟨_, rfl⟩
theorem zl_i5 {x0 x1 x2 x3 x4 : Int32} : ∀ v ∈ ([.int x0, .int x1, .int x2, .int x3, .int x4] : List Value), ∃ x, v = .int x := fun v h => by
  simp at h
  rcases h with rfl | rfl | rfl | rfl | rfl <;> exact ⟨_, rfl⟩
set_option maxRecDepth 100000 in
set_option maxHeartbeats 4000000 in
theorem zl_letter {l : Launch} {Ln : Nat} {xs : Nat → Int32} {i : Nat} {M N : zk_M} (hi : i + 6 ≤ Ln) (hL : Ln ≤ 3072) (h : zR M N) (K : ∀ M N, zR M N → zl_R l Ln xs 1330 (nI i) [] M N) : zl_R l Ln xs 208 (nI i) [] M N := by
  obtain ⟨d, d2, x, P1, P2, hd, hd2, hc, hc2, hR⟩ := (o_letter h : zOi l muX4_letter muX5_letter [.int (xs (i + 1))] M N)
  refine zl_al1 dL_law_208 ?_
  refine zl_arg (k := 1) (n := 1) rfl hi hL (by decide) dL_law_209 dL_law_210 dL_law_211 dL_law_212 dL_law_213 ?_
  refine zl_callX (as := [.int (xs (i + 1))]) (st := []) hc hd dL_law_214 mwX4_letter ml_L_13 rfl zl_i1 (fun _ => rfl) (Nat.le_of_ble_eq_true rfl) rfl (fun M1 p1 => ?_)
  refine zl_al2 dL_law_217 ?_
  refine zl_arg (k := 1) (n := 1) rfl hi hL (by decide) dL_law_218 dL_law_219 dL_law_220 dL_law_221 dL_law_222 ?_
  refine zl_callM (as := [.int (xs (i + 1))]) (st := [.int x]) hc2 hd2 dL_law_223 mwX5_letter ml_L_17 rfl zl_i1 (fun _ => rfl) (Nat.le_of_ble_eq_true rfl) rfl (fun N1 p2 => ?_)
  exact zl_eqI (tgt := 1330) dL_law_226 (by decide) (K M1 N1 (hR M1 N1 p1 p2))
set_option maxRecDepth 100000 in
set_option maxHeartbeats 4000000 in
theorem zl_county {l : Launch} {Ln : Nat} {xs : Nat → Int32} {i : Nat} {M N : zk_M} (hi : i + 6 ≤ Ln) (hL : Ln ≤ 3072) (h : zR M N) (K : ∀ M N, zR M N → zl_R l Ln xs 1330 (nI i) [] M N) : zl_R l Ln xs 231 (nI i) [] M N := by
  obtain ⟨d, d2, x, P1, P2, hd, hd2, hc, hc2, hR⟩ := (o_county h : zOi l muX4_county muX5_county [] M N)
  refine zl_al1 dL_law_231 ?_
  refine zl_callX (as := []) (st := []) hc hd dL_law_232 mwX4_county ml_L_18 rfl zl_i0 (fun _ => rfl) (Nat.le_of_ble_eq_true rfl) rfl (fun M1 p1 => ?_)
  refine zl_al2 dL_law_235 ?_
  refine zl_callM (as := []) (st := [.int x]) hc2 hd2 dL_law_236 mwX5_county ml_L_22 rfl zl_i0 (fun _ => rfl) (Nat.le_of_ble_eq_true rfl) rfl (fun N1 p2 => ?_)
  exact zl_eqI (tgt := 1330) dL_law_239 (by decide) (K M1 N1 (hR M1 N1 p1 p2))
set_option maxRecDepth 100000 in
set_option maxHeartbeats 4000000 in
theorem zl_rider {l : Launch} {Ln : Nat} {xs : Nat → Int32} {i : Nat} {M N : zk_M} (hi : i + 6 ≤ Ln) (hL : Ln ≤ 3072) (h : zR M N) (K : ∀ M N, zR M N → zl_R l Ln xs 1330 (nI i) [] M N) : zl_R l Ln xs 244 (nI i) [] M N := by
  obtain ⟨d, d2, x, P1, P2, hd, hd2, hc, hc2, hR⟩ := (o_rider h : zOi l muX4_rider muX5_rider [.int (xs (i + 1)), .int (xs (i + 2))] M N)
  refine zl_al1 dL_law_244 ?_
  refine zl_arg (k := 1) (n := 1) rfl hi hL (by decide) dL_law_245 dL_law_246 dL_law_247 dL_law_248 dL_law_249 ?_
  refine zl_arg (k := 2) (n := 2) rfl hi hL (by decide) dL_law_250 dL_law_251 dL_law_252 dL_law_253 dL_law_254 ?_
  refine zl_callX (as := [.int (xs (i + 1)), .int (xs (i + 2))]) (st := []) hc hd dL_law_255 mwX4_rider ml_L_23 rfl zl_i2 (fun _ => rfl) (Nat.le_of_ble_eq_true rfl) rfl (fun M1 p1 => ?_)
  refine zl_al2 dL_law_258 ?_
  refine zl_arg (k := 1) (n := 1) rfl hi hL (by decide) dL_law_259 dL_law_260 dL_law_261 dL_law_262 dL_law_263 ?_
  refine zl_arg (k := 2) (n := 2) rfl hi hL (by decide) dL_law_264 dL_law_265 dL_law_266 dL_law_267 dL_law_268 ?_
  refine zl_callM (as := [.int (xs (i + 1)), .int (xs (i + 2))]) (st := [.int x]) hc2 hd2 dL_law_269 mwX5_rider ml_L_27 rfl zl_i2 (fun _ => rfl) (Nat.le_of_ble_eq_true rfl) rfl (fun N1 p2 => ?_)
  exact zl_eqI (tgt := 1330) dL_law_272 (by decide) (K M1 N1 (hR M1 N1 p1 p2))
set_option maxRecDepth 100000 in
set_option maxHeartbeats 4000000 in
theorem zl_steps {l : Launch} {Ln : Nat} {xs : Nat → Int32} {i : Nat} {M N : zk_M} (hi : i + 6 ≤ Ln) (hL : Ln ≤ 3072) (h : zR M N) (K : ∀ M N, zR M N → zl_R l Ln xs 1330 (nI i) [] M N) : zl_R l Ln xs 277 (nI i) [] M N := by
  obtain ⟨d, d2, x, P1, P2, hd, hd2, hc, hc2, hR⟩ := (o_steps h : zOi l muX4_steps muX5_steps [.int (xs (i + 1)), .int (xs (i + 2))] M N)
  refine zl_al1 dL_law_277 ?_
  refine zl_arg (k := 1) (n := 1) rfl hi hL (by decide) dL_law_278 dL_law_279 dL_law_280 dL_law_281 dL_law_282 ?_
  refine zl_arg (k := 2) (n := 2) rfl hi hL (by decide) dL_law_283 dL_law_284 dL_law_285 dL_law_286 dL_law_287 ?_
  refine zl_callX (as := [.int (xs (i + 1)), .int (xs (i + 2))]) (st := []) hc hd dL_law_288 mwX4_steps ml_L_28 rfl zl_i2 (fun _ => rfl) (Nat.le_of_ble_eq_true rfl) rfl (fun M1 p1 => ?_)
  refine zl_al2 dL_law_291 ?_
  refine zl_arg (k := 1) (n := 1) rfl hi hL (by decide) dL_law_292 dL_law_293 dL_law_294 dL_law_295 dL_law_296 ?_
  refine zl_arg (k := 2) (n := 2) rfl hi hL (by decide) dL_law_297 dL_law_298 dL_law_299 dL_law_300 dL_law_301 ?_
  refine zl_callM (as := [.int (xs (i + 1)), .int (xs (i + 2))]) (st := [.int x]) hc2 hd2 dL_law_302 mwX5_steps ml_L_31 rfl zl_i2 (fun _ => rfl) (Nat.le_of_ble_eq_true rfl) rfl (fun N1 p2 => ?_)
  exact zl_eqI (tgt := 1330) dL_law_305 (by decide) (K M1 N1 (hR M1 N1 p1 p2))
set_option maxRecDepth 100000 in
set_option maxHeartbeats 4000000 in
theorem zl_pulls {l : Launch} {Ln : Nat} {xs : Nat → Int32} {i : Nat} {M N : zk_M} (hi : i + 6 ≤ Ln) (hL : Ln ≤ 3072) (h : zR M N) (K : ∀ M N, zR M N → zl_R l Ln xs 1330 (nI i) [] M N) : zl_R l Ln xs 310 (nI i) [] M N := by
  obtain ⟨d, d2, x, P1, P2, hd, hd2, hc, hc2, hR⟩ := (o_pulls h : zOi l muX4_pulls muX5_pulls [.int (xs (i + 1)), .int (xs (i + 2))] M N)
  refine zl_al1 dL_law_310 ?_
  refine zl_arg (k := 1) (n := 1) rfl hi hL (by decide) dL_law_311 dL_law_312 dL_law_313 dL_law_314 dL_law_315 ?_
  refine zl_arg (k := 2) (n := 2) rfl hi hL (by decide) dL_law_316 dL_law_317 dL_law_318 dL_law_319 dL_law_320 ?_
  refine zl_callX (as := [.int (xs (i + 1)), .int (xs (i + 2))]) (st := []) hc hd dL_law_321 mwX4_pulls ml_L_32 rfl zl_i2 (fun _ => rfl) (Nat.le_of_ble_eq_true rfl) rfl (fun M1 p1 => ?_)
  refine zl_al2 dL_law_324 ?_
  refine zl_arg (k := 1) (n := 1) rfl hi hL (by decide) dL_law_325 dL_law_326 dL_law_327 dL_law_328 dL_law_329 ?_
  refine zl_arg (k := 2) (n := 2) rfl hi hL (by decide) dL_law_330 dL_law_331 dL_law_332 dL_law_333 dL_law_334 ?_
  refine zl_callM (as := [.int (xs (i + 1)), .int (xs (i + 2))]) (st := [.int x]) hc2 hd2 dL_law_335 mwX5_pulls ml_L_35 rfl zl_i2 (fun _ => rfl) (Nat.le_of_ble_eq_true rfl) rfl (fun N1 p2 => ?_)
  exact zl_eqI (tgt := 1330) dL_law_338 (by decide) (K M1 N1 (hR M1 N1 p1 p2))
set_option maxRecDepth 100000 in
set_option maxHeartbeats 4000000 in
theorem zl_roads {l : Launch} {Ln : Nat} {xs : Nat → Int32} {i : Nat} {M N : zk_M} (hi : i + 6 ≤ Ln) (hL : Ln ≤ 3072) (h : zR M N) (K : ∀ M N, zR M N → zl_R l Ln xs 1330 (nI i) [] M N) : zl_R l Ln xs 343 (nI i) [] M N := by
  obtain ⟨d, d2, x, P1, P2, hd, hd2, hc, hc2, hR⟩ := (o_roads h : zOi l muX4_roads muX5_roads [.int (xs (i + 1)), .int (xs (i + 2))] M N)
  refine zl_al1 dL_law_343 ?_
  refine zl_arg (k := 1) (n := 1) rfl hi hL (by decide) dL_law_344 dL_law_345 dL_law_346 dL_law_347 dL_law_348 ?_
  refine zl_arg (k := 2) (n := 2) rfl hi hL (by decide) dL_law_349 dL_law_350 dL_law_351 dL_law_352 dL_law_353 ?_
  refine zl_callX (as := [.int (xs (i + 1)), .int (xs (i + 2))]) (st := []) hc hd dL_law_354 mwX4_roads ml_L_36 rfl zl_i2 (fun _ => rfl) (Nat.le_of_ble_eq_true rfl) rfl (fun M1 p1 => ?_)
  refine zl_al2 dL_law_357 ?_
  refine zl_arg (k := 1) (n := 1) rfl hi hL (by decide) dL_law_358 dL_law_359 dL_law_360 dL_law_361 dL_law_362 ?_
  refine zl_arg (k := 2) (n := 2) rfl hi hL (by decide) dL_law_363 dL_law_364 dL_law_365 dL_law_366 dL_law_367 ?_
  refine zl_callM (as := [.int (xs (i + 1)), .int (xs (i + 2))]) (st := [.int x]) hc2 hd2 dL_law_368 mwX5_roads ml_L_39 rfl zl_i2 (fun _ => rfl) (Nat.le_of_ble_eq_true rfl) rfl (fun N1 p2 => ?_)
  exact zl_eqI (tgt := 1330) dL_law_371 (by decide) (K M1 N1 (hR M1 N1 p1 p2))
set_option maxRecDepth 100000 in
set_option maxHeartbeats 4000000 in
theorem zl_shod {l : Launch} {Ln : Nat} {xs : Nat → Int32} {i : Nat} {M N : zk_M} (hi : i + 6 ≤ Ln) (hL : Ln ≤ 3072) (h : zR M N) (K : ∀ M N, zR M N → zl_R l Ln xs 1330 (nI i) [] M N) : zl_R l Ln xs 376 (nI i) [] M N := by
  obtain ⟨d, d2, x, P1, P2, hd, hd2, hc, hc2, hR⟩ := (o_shod h : zOi l muX4_shod muX5_shod [.int (xs (i + 1))] M N)
  refine zl_al1 dL_law_376 ?_
  refine zl_arg (k := 1) (n := 1) rfl hi hL (by decide) dL_law_377 dL_law_378 dL_law_379 dL_law_380 dL_law_381 ?_
  refine zl_callX (as := [.int (xs (i + 1))]) (st := []) hc hd dL_law_382 mwX4_shod ml_L_40 rfl zl_i1 (fun _ => rfl) (Nat.le_of_ble_eq_true rfl) rfl (fun M1 p1 => ?_)
  refine zl_al2 dL_law_385 ?_
  refine zl_arg (k := 1) (n := 1) rfl hi hL (by decide) dL_law_386 dL_law_387 dL_law_388 dL_law_389 dL_law_390 ?_
  refine zl_callM (as := [.int (xs (i + 1))]) (st := [.int x]) hc2 hd2 dL_law_391 mwX5_shod ml_L_43 rfl zl_i1 (fun _ => rfl) (Nat.le_of_ble_eq_true rfl) rfl (fun N1 p2 => ?_)
  exact zl_eqI (tgt := 1330) dL_law_394 (by decide) (K M1 N1 (hR M1 N1 p1 p2))
set_option maxRecDepth 100000 in
set_option maxHeartbeats 4000000 in
theorem zl_wants {l : Launch} {Ln : Nat} {xs : Nat → Int32} {i : Nat} {M N : zk_M} (hi : i + 6 ≤ Ln) (hL : Ln ≤ 3072) (h : zR M N) (K : ∀ M N, zR M N → zl_R l Ln xs 1330 (nI i) [] M N) : zl_R l Ln xs 399 (nI i) [] M N := by
  obtain ⟨d, d2, x, P1, P2, hd, hd2, hc, hc2, hR⟩ := (o_wants h : zOi l muX4_wants muX5_wants [.int (xs (i + 1)), .int (xs (i + 2))] M N)
  refine zl_al1 dL_law_399 ?_
  refine zl_arg (k := 1) (n := 1) rfl hi hL (by decide) dL_law_400 dL_law_401 dL_law_402 dL_law_403 dL_law_404 ?_
  refine zl_arg (k := 2) (n := 2) rfl hi hL (by decide) dL_law_405 dL_law_406 dL_law_407 dL_law_408 dL_law_409 ?_
  refine zl_callX (as := [.int (xs (i + 1)), .int (xs (i + 2))]) (st := []) hc hd dL_law_410 mwX4_wants ml_L_44 rfl zl_i2 (fun _ => rfl) (Nat.le_of_ble_eq_true rfl) rfl (fun M1 p1 => ?_)
  refine zl_al2 dL_law_413 ?_
  refine zl_arg (k := 1) (n := 1) rfl hi hL (by decide) dL_law_414 dL_law_415 dL_law_416 dL_law_417 dL_law_418 ?_
  refine zl_arg (k := 2) (n := 2) rfl hi hL (by decide) dL_law_419 dL_law_420 dL_law_421 dL_law_422 dL_law_423 ?_
  refine zl_callM (as := [.int (xs (i + 1)), .int (xs (i + 2))]) (st := [.int x]) hc2 hd2 dL_law_424 mwX5_wants ml_L_47 rfl zl_i2 (fun _ => rfl) (Nat.le_of_ble_eq_true rfl) rfl (fun N1 p2 => ?_)
  exact zl_eqI (tgt := 1330) dL_law_427 (by decide) (K M1 N1 (hR M1 N1 p1 p2))
set_option maxRecDepth 100000 in
set_option maxHeartbeats 4000000 in
theorem zl_stands {l : Launch} {Ln : Nat} {xs : Nat → Int32} {i : Nat} {M N : zk_M} (hi : i + 6 ≤ Ln) (hL : Ln ≤ 3072) (h : zR M N) (K : ∀ M N, zR M N → zl_R l Ln xs 1330 (nI i) [] M N) : zl_R l Ln xs 432 (nI i) [] M N := by
  obtain ⟨d, d2, x, P1, P2, hd, hd2, hc, hc2, hR⟩ := (o_stands h : zOi l muX4_stands muX5_stands [.int (xs (i + 1)), .int (xs (i + 2))] M N)
  refine zl_al1 dL_law_432 ?_
  refine zl_arg (k := 1) (n := 1) rfl hi hL (by decide) dL_law_433 dL_law_434 dL_law_435 dL_law_436 dL_law_437 ?_
  refine zl_arg (k := 2) (n := 2) rfl hi hL (by decide) dL_law_438 dL_law_439 dL_law_440 dL_law_441 dL_law_442 ?_
  refine zl_callX (as := [.int (xs (i + 1)), .int (xs (i + 2))]) (st := []) hc hd dL_law_443 mwX4_stands ml_L_48 rfl zl_i2 (fun _ => rfl) (Nat.le_of_ble_eq_true rfl) rfl (fun M1 p1 => ?_)
  refine zl_al2 dL_law_446 ?_
  refine zl_arg (k := 1) (n := 1) rfl hi hL (by decide) dL_law_447 dL_law_448 dL_law_449 dL_law_450 dL_law_451 ?_
  refine zl_arg (k := 2) (n := 2) rfl hi hL (by decide) dL_law_452 dL_law_453 dL_law_454 dL_law_455 dL_law_456 ?_
  refine zl_callM (as := [.int (xs (i + 1)), .int (xs (i + 2))]) (st := [.int x]) hc2 hd2 dL_law_457 mwX5_stands ml_L_51 rfl zl_i2 (fun _ => rfl) (Nat.le_of_ble_eq_true rfl) rfl (fun N1 p2 => ?_)
  exact zl_eqI (tgt := 1330) dL_law_460 (by decide) (K M1 N1 (hR M1 N1 p1 p2))
set_option maxRecDepth 100000 in
set_option maxHeartbeats 4000000 in
theorem zl_turn {l : Launch} {Ln : Nat} {xs : Nat → Int32} {i : Nat} {M N : zk_M} (hi : i + 6 ≤ Ln) (hL : Ln ≤ 3072) (h : zR M N) (K : ∀ M N, zR M N → zl_R l Ln xs 1330 (nI i) [] M N) : zl_R l Ln xs 465 (nI i) [] M N := by
  obtain ⟨d, d2, x, P1, P2, hd, hd2, hc, hc2, hR⟩ := (o_turn h : zOi l muX4_turn muX5_turn [.int (xs (i + 1)), .int (xs (i + 2)), .int (xs (i + 3))] M N)
  refine zl_al1 dL_law_465 ?_
  refine zl_arg (k := 1) (n := 1) rfl hi hL (by decide) dL_law_466 dL_law_467 dL_law_468 dL_law_469 dL_law_470 ?_
  refine zl_arg (k := 2) (n := 2) rfl hi hL (by decide) dL_law_471 dL_law_472 dL_law_473 dL_law_474 dL_law_475 ?_
  refine zl_arg (k := 3) (n := 3) rfl hi hL (by decide) dL_law_476 dL_law_477 dL_law_478 dL_law_479 dL_law_480 ?_
  refine zl_callX (as := [.int (xs (i + 1)), .int (xs (i + 2)), .int (xs (i + 3))]) (st := []) hc hd dL_law_481 mwX4_turn ml_L_52 rfl zl_i3 (fun _ => rfl) (Nat.le_of_ble_eq_true rfl) rfl (fun M1 p1 => ?_)
  refine zl_al2 dL_law_484 ?_
  refine zl_arg (k := 1) (n := 1) rfl hi hL (by decide) dL_law_485 dL_law_486 dL_law_487 dL_law_488 dL_law_489 ?_
  refine zl_arg (k := 2) (n := 2) rfl hi hL (by decide) dL_law_490 dL_law_491 dL_law_492 dL_law_493 dL_law_494 ?_
  refine zl_arg (k := 3) (n := 3) rfl hi hL (by decide) dL_law_495 dL_law_496 dL_law_497 dL_law_498 dL_law_499 ?_
  refine zl_callM (as := [.int (xs (i + 1)), .int (xs (i + 2)), .int (xs (i + 3))]) (st := [.int x]) hc2 hd2 dL_law_500 mwX5_turn ml_L_56 rfl zl_i3 (fun _ => rfl) (Nat.le_of_ble_eq_true rfl) rfl (fun N1 p2 => ?_)
  exact zl_eqI (tgt := 1330) dL_law_503 (by decide) (K M1 N1 (hR M1 N1 p1 p2))
set_option maxRecDepth 100000 in
set_option maxHeartbeats 4000000 in
theorem zl_days {l : Launch} {Ln : Nat} {xs : Nat → Int32} {i : Nat} {M N : zk_M} (hi : i + 6 ≤ Ln) (hL : Ln ≤ 3072) (h : zR M N) (K : ∀ M N, zR M N → zl_R l Ln xs 1330 (nI i) [] M N) : zl_R l Ln xs 508 (nI i) [] M N := by
  obtain ⟨d, d2, x, P1, P2, hd, hd2, hc, hc2, hR⟩ := (o_days h : zOi l muX4_days muX5_days [.int (xs (i + 1))] M N)
  refine zl_al1 dL_law_508 ?_
  refine zl_arg (k := 1) (n := 1) rfl hi hL (by decide) dL_law_509 dL_law_510 dL_law_511 dL_law_512 dL_law_513 ?_
  refine zl_callX (as := [.int (xs (i + 1))]) (st := []) hc hd dL_law_514 mwX4_days ml_L_57 rfl zl_i1 (fun _ => rfl) (Nat.le_of_ble_eq_true rfl) rfl (fun M1 p1 => ?_)
  refine zl_al2 dL_law_517 ?_
  refine zl_arg (k := 1) (n := 1) rfl hi hL (by decide) dL_law_518 dL_law_519 dL_law_520 dL_law_521 dL_law_522 ?_
  refine zl_callM (as := [.int (xs (i + 1))]) (st := [.int x]) hc2 hd2 dL_law_523 mwX5_days ml_L_60 rfl zl_i1 (fun _ => rfl) (Nat.le_of_ble_eq_true rfl) rfl (fun N1 p2 => ?_)
  exact zl_eqI (tgt := 1330) dL_law_526 (by decide) (K M1 N1 (hR M1 N1 p1 p2))
set_option maxRecDepth 100000 in
set_option maxHeartbeats 4000000 in
theorem zl_riderThen {l : Launch} {Ln : Nat} {xs : Nat → Int32} {i : Nat} {M N : zk_M} (hi : i + 6 ≤ Ln) (hL : Ln ≤ 3072) (h : zR M N) (K : ∀ M N, zR M N → zl_R l Ln xs 1330 (nI i) [] M N) : zl_R l Ln xs 531 (nI i) [] M N := by
  obtain ⟨d, d2, x, P1, P2, hd, hd2, hc, hc2, hR⟩ := (o_riderThen h : zOi l muX4_riderThen muX5_riderThen [.int (xs (i + 1)), .int (xs (i + 2)), .int (xs (i + 3))] M N)
  refine zl_al1 dL_law_531 ?_
  refine zl_arg (k := 1) (n := 1) rfl hi hL (by decide) dL_law_532 dL_law_533 dL_law_534 dL_law_535 dL_law_536 ?_
  refine zl_arg (k := 2) (n := 2) rfl hi hL (by decide) dL_law_537 dL_law_538 dL_law_539 dL_law_540 dL_law_541 ?_
  refine zl_arg (k := 3) (n := 3) rfl hi hL (by decide) dL_law_542 dL_law_543 dL_law_544 dL_law_545 dL_law_546 ?_
  refine zl_callX (as := [.int (xs (i + 1)), .int (xs (i + 2)), .int (xs (i + 3))]) (st := []) hc hd dL_law_547 mwX4_riderThen ml_L_61 rfl zl_i3 (fun _ => rfl) (Nat.le_of_ble_eq_true rfl) rfl (fun M1 p1 => ?_)
  refine zl_al2 dL_law_550 ?_
  refine zl_arg (k := 1) (n := 1) rfl hi hL (by decide) dL_law_551 dL_law_552 dL_law_553 dL_law_554 dL_law_555 ?_
  refine zl_arg (k := 2) (n := 2) rfl hi hL (by decide) dL_law_556 dL_law_557 dL_law_558 dL_law_559 dL_law_560 ?_
  refine zl_arg (k := 3) (n := 3) rfl hi hL (by decide) dL_law_561 dL_law_562 dL_law_563 dL_law_564 dL_law_565 ?_
  refine zl_callM (as := [.int (xs (i + 1)), .int (xs (i + 2)), .int (xs (i + 3))]) (st := [.int x]) hc2 hd2 dL_law_566 mwX5_riderThen ml_L_64 rfl zl_i3 (fun _ => rfl) (Nat.le_of_ble_eq_true rfl) rfl (fun N1 p2 => ?_)
  exact zl_eqI (tgt := 1330) dL_law_569 (by decide) (K M1 N1 (hR M1 N1 p1 p2))
set_option maxRecDepth 100000 in
set_option maxHeartbeats 4000000 in
theorem zl_comes {l : Launch} {Ln : Nat} {xs : Nat → Int32} {i : Nat} {M N : zk_M} (hi : i + 6 ≤ Ln) (hL : Ln ≤ 3072) (h : zR M N) (K : ∀ M N, zR M N → zl_R l Ln xs 1330 (nI i) [] M N) : zl_R l Ln xs 574 (nI i) [] M N := by
  obtain ⟨d, d2, x, P1, P2, hd, hd2, hc, hc2, hR⟩ := (o_comes h : zOi l muX4_comes muX5_comes [.int (xs (i + 1)), .int (xs (i + 2))] M N)
  refine zl_al1 dL_law_574 ?_
  refine zl_arg (k := 1) (n := 1) rfl hi hL (by decide) dL_law_575 dL_law_576 dL_law_577 dL_law_578 dL_law_579 ?_
  refine zl_arg (k := 2) (n := 2) rfl hi hL (by decide) dL_law_580 dL_law_581 dL_law_582 dL_law_583 dL_law_584 ?_
  refine zl_callX (as := [.int (xs (i + 1)), .int (xs (i + 2))]) (st := []) hc hd dL_law_585 mwX4_comes ml_L_65 rfl zl_i2 (fun _ => rfl) (Nat.le_of_ble_eq_true rfl) rfl (fun M1 p1 => ?_)
  refine zl_al2 dL_law_588 ?_
  refine zl_arg (k := 1) (n := 1) rfl hi hL (by decide) dL_law_589 dL_law_590 dL_law_591 dL_law_592 dL_law_593 ?_
  refine zl_arg (k := 2) (n := 2) rfl hi hL (by decide) dL_law_594 dL_law_595 dL_law_596 dL_law_597 dL_law_598 ?_
  refine zl_callM (as := [.int (xs (i + 1)), .int (xs (i + 2))]) (st := [.int x]) hc2 hd2 dL_law_599 mwX5_comes ml_L_68 rfl zl_i2 (fun _ => rfl) (Nat.le_of_ble_eq_true rfl) rfl (fun N1 p2 => ?_)
  exact zl_eqI (tgt := 1330) dL_law_602 (by decide) (K M1 N1 (hR M1 N1 p1 p2))
set_option maxRecDepth 100000 in
set_option maxHeartbeats 4000000 in
theorem zl_first {l : Launch} {Ln : Nat} {xs : Nat → Int32} {i : Nat} {M N : zk_M} (hi : i + 6 ≤ Ln) (hL : Ln ≤ 3072) (h : zR M N) (K : ∀ M N, zR M N → zl_R l Ln xs 1330 (nI i) [] M N) : zl_R l Ln xs 607 (nI i) [] M N := by
  obtain ⟨d, d2, x, P1, P2, hd, hd2, hc, hc2, hR⟩ := (o_first h : zOi l muX4_first muX5_first [.int (xs (i + 1))] M N)
  refine zl_al1 dL_law_607 ?_
  refine zl_arg (k := 1) (n := 1) rfl hi hL (by decide) dL_law_608 dL_law_609 dL_law_610 dL_law_611 dL_law_612 ?_
  refine zl_callX (as := [.int (xs (i + 1))]) (st := []) hc hd dL_law_613 mwX4_first ml_L_69 rfl zl_i1 (fun _ => rfl) (Nat.le_of_ble_eq_true rfl) rfl (fun M1 p1 => ?_)
  refine zl_al2 dL_law_616 ?_
  refine zl_arg (k := 1) (n := 1) rfl hi hL (by decide) dL_law_617 dL_law_618 dL_law_619 dL_law_620 dL_law_621 ?_
  refine zl_callM (as := [.int (xs (i + 1))]) (st := [.int x]) hc2 hd2 dL_law_622 mwX5_first ml_L_72 rfl zl_i1 (fun _ => rfl) (Nat.le_of_ble_eq_true rfl) rfl (fun N1 p2 => ?_)
  exact zl_eqI (tgt := 1330) dL_law_625 (by decide) (K M1 N1 (hR M1 N1 p1 p2))
set_option maxRecDepth 100000 in
set_option maxHeartbeats 4000000 in
theorem zl_rests {l : Launch} {Ln : Nat} {xs : Nat → Int32} {i : Nat} {M N : zk_M} (hi : i + 6 ≤ Ln) (hL : Ln ≤ 3072) (h : zR M N) (K : ∀ M N, zR M N → zl_R l Ln xs 1330 (nI i) [] M N) : zl_R l Ln xs 630 (nI i) [] M N := by
  obtain ⟨d, d2, x, P1, P2, hd, hd2, hc, hc2, hR⟩ := (o_rests h : zOi l muX4_rests muX5_rests [.int (xs (i + 1))] M N)
  refine zl_al1 dL_law_630 ?_
  refine zl_arg (k := 1) (n := 1) rfl hi hL (by decide) dL_law_631 dL_law_632 dL_law_633 dL_law_634 dL_law_635 ?_
  refine zl_callX (as := [.int (xs (i + 1))]) (st := []) hc hd dL_law_636 mwX4_rests ml_L_73 rfl zl_i1 (fun _ => rfl) (Nat.le_of_ble_eq_true rfl) rfl (fun M1 p1 => ?_)
  refine zl_al2 dL_law_639 ?_
  refine zl_arg (k := 1) (n := 1) rfl hi hL (by decide) dL_law_640 dL_law_641 dL_law_642 dL_law_643 dL_law_644 ?_
  refine zl_callM (as := [.int (xs (i + 1))]) (st := [.int x]) hc2 hd2 dL_law_645 mwX5_rests ml_L_76 rfl zl_i1 (fun _ => rfl) (Nat.le_of_ble_eq_true rfl) rfl (fun N1 p2 => ?_)
  exact zl_eqI (tgt := 1330) dL_law_648 (by decide) (K M1 N1 (hR M1 N1 p1 p2))
set_option maxRecDepth 100000 in
set_option maxHeartbeats 4000000 in
theorem zl_meet {l : Launch} {Ln : Nat} {xs : Nat → Int32} {i : Nat} {M N : zk_M} (hi : i + 6 ≤ Ln) (hL : Ln ≤ 3072) (h : zR M N) (K : ∀ M N, zR M N → zl_R l Ln xs 1330 (nI i) [] M N) : zl_R l Ln xs 653 (nI i) [] M N := by
  obtain ⟨d, d2, x, P1, P2, hd, hd2, hc, hc2, hR⟩ := (o_meet h : zOi l muX4_meet muX5_meet [.int (xs (i + 1)), .int (xs (i + 2)), .int (xs (i + 3))] M N)
  refine zl_al1 dL_law_653 ?_
  refine zl_arg (k := 1) (n := 1) rfl hi hL (by decide) dL_law_654 dL_law_655 dL_law_656 dL_law_657 dL_law_658 ?_
  refine zl_arg (k := 2) (n := 2) rfl hi hL (by decide) dL_law_659 dL_law_660 dL_law_661 dL_law_662 dL_law_663 ?_
  refine zl_arg (k := 3) (n := 3) rfl hi hL (by decide) dL_law_664 dL_law_665 dL_law_666 dL_law_667 dL_law_668 ?_
  refine zl_callX (as := [.int (xs (i + 1)), .int (xs (i + 2)), .int (xs (i + 3))]) (st := []) hc hd dL_law_669 mwX4_meet ml_L_77 rfl zl_i3 (fun _ => rfl) (Nat.le_of_ble_eq_true rfl) rfl (fun M1 p1 => ?_)
  refine zl_al2 dL_law_672 ?_
  refine zl_arg (k := 1) (n := 1) rfl hi hL (by decide) dL_law_673 dL_law_674 dL_law_675 dL_law_676 dL_law_677 ?_
  refine zl_arg (k := 2) (n := 2) rfl hi hL (by decide) dL_law_678 dL_law_679 dL_law_680 dL_law_681 dL_law_682 ?_
  refine zl_arg (k := 3) (n := 3) rfl hi hL (by decide) dL_law_683 dL_law_684 dL_law_685 dL_law_686 dL_law_687 ?_
  refine zl_callM (as := [.int (xs (i + 1)), .int (xs (i + 2)), .int (xs (i + 3))]) (st := [.int x]) hc2 hd2 dL_law_688 mwX5_meet ml_L_80 rfl zl_i3 (fun _ => rfl) (Nat.le_of_ble_eq_true rfl) rfl (fun N1 p2 => ?_)
  exact zl_eqI (tgt := 1330) dL_law_691 (by decide) (K M1 N1 (hR M1 N1 p1 p2))
set_option maxRecDepth 100000 in
set_option maxHeartbeats 4000000 in
theorem zl_arrived {l : Launch} {Ln : Nat} {xs : Nat → Int32} {i : Nat} {M N : zk_M} (hi : i + 6 ≤ Ln) (hL : Ln ≤ 3072) (h : zR M N) (K : ∀ M N, zR M N → zl_R l Ln xs 1330 (nI i) [] M N) : zl_R l Ln xs 696 (nI i) [] M N := by
  obtain ⟨d, d2, x, P1, P2, hd, hd2, hc, hc2, hR⟩ := (o_arrived h : zOi l muX4_arrived muX5_arrived [] M N)
  refine zl_al1 dL_law_696 ?_
  refine zl_callX (as := []) (st := []) hc hd dL_law_697 mwX4_arrived ml_L_81 rfl zl_i0 (fun _ => rfl) (Nat.le_of_ble_eq_true rfl) rfl (fun M1 p1 => ?_)
  refine zl_al2 dL_law_700 ?_
  refine zl_callM (as := []) (st := [.int x]) hc2 hd2 dL_law_701 mwX5_arrived ml_L_84 rfl zl_i0 (fun _ => rfl) (Nat.le_of_ble_eq_true rfl) rfl (fun N1 p2 => ?_)
  exact zl_eqI (tgt := 1330) dL_law_704 (by decide) (K M1 N1 (hR M1 N1 p1 p2))
set_option maxRecDepth 100000 in
set_option maxHeartbeats 4000000 in
theorem zl_shoe {l : Launch} {Ln : Nat} {xs : Nat → Int32} {i : Nat} {M N : zk_M} (hi : i + 6 ≤ Ln) (hL : Ln ≤ 3072) (h : zR M N) (K : ∀ M N, zR M N → zl_R l Ln xs 1330 (nI i) [] M N) : zl_R l Ln xs 709 (nI i) [] M N := by
  obtain ⟨d, d2, x, P1, P2, hd, hd2, hc, hc2, hR⟩ := (o_shoe h : zOi l muX4_shoe muX5_shoe [.int (xs (i + 1)), .int (xs (i + 2)), .int (xs (i + 3))] M N)
  refine zl_al1 dL_law_709 ?_
  refine zl_arg (k := 1) (n := 1) rfl hi hL (by decide) dL_law_710 dL_law_711 dL_law_712 dL_law_713 dL_law_714 ?_
  refine zl_arg (k := 2) (n := 2) rfl hi hL (by decide) dL_law_715 dL_law_716 dL_law_717 dL_law_718 dL_law_719 ?_
  refine zl_arg (k := 3) (n := 3) rfl hi hL (by decide) dL_law_720 dL_law_721 dL_law_722 dL_law_723 dL_law_724 ?_
  refine zl_callX (as := [.int (xs (i + 1)), .int (xs (i + 2)), .int (xs (i + 3))]) (st := []) hc hd dL_law_725 mwX4_shoe ml_L_85 rfl zl_i3 (fun _ => rfl) (Nat.le_of_ble_eq_true rfl) rfl (fun M1 p1 => ?_)
  refine zl_al2 dL_law_728 ?_
  refine zl_arg (k := 1) (n := 1) rfl hi hL (by decide) dL_law_729 dL_law_730 dL_law_731 dL_law_732 dL_law_733 ?_
  refine zl_arg (k := 2) (n := 2) rfl hi hL (by decide) dL_law_734 dL_law_735 dL_law_736 dL_law_737 dL_law_738 ?_
  refine zl_arg (k := 3) (n := 3) rfl hi hL (by decide) dL_law_739 dL_law_740 dL_law_741 dL_law_742 dL_law_743 ?_
  refine zl_callM (as := [.int (xs (i + 1)), .int (xs (i + 2)), .int (xs (i + 3))]) (st := [.int x]) hc2 hd2 dL_law_744 mwX5_shoe ml_L_88 rfl zl_i3 (fun _ => rfl) (Nat.le_of_ble_eq_true rfl) rfl (fun N1 p2 => ?_)
  exact zl_eqI (tgt := 1330) dL_law_747 (by decide) (K M1 N1 (hR M1 N1 p1 p2))
set_option maxRecDepth 100000 in
set_option maxHeartbeats 4000000 in
theorem zl_wish {l : Launch} {Ln : Nat} {xs : Nat → Int32} {i : Nat} {M N : zk_M} (hi : i + 6 ≤ Ln) (hL : Ln ≤ 3072) (h : zR M N) (K : ∀ M N, zR M N → zl_R l Ln xs 1330 (nI i) [] M N) : zl_R l Ln xs 752 (nI i) [] M N := by
  obtain ⟨d, d2, x, P1, P2, hd, hd2, hc, hc2, hR⟩ := (o_wish h : zOi l muX4_wish muX5_wish [.int (xs (i + 1)), .int (xs (i + 2))] M N)
  refine zl_al1 dL_law_752 ?_
  refine zl_arg (k := 1) (n := 1) rfl hi hL (by decide) dL_law_753 dL_law_754 dL_law_755 dL_law_756 dL_law_757 ?_
  refine zl_arg (k := 2) (n := 2) rfl hi hL (by decide) dL_law_758 dL_law_759 dL_law_760 dL_law_761 dL_law_762 ?_
  refine zl_callX (as := [.int (xs (i + 1)), .int (xs (i + 2))]) (st := []) hc hd dL_law_763 mwX4_wish ml_L_89 rfl zl_i2 (fun _ => rfl) (Nat.le_of_ble_eq_true rfl) rfl (fun M1 p1 => ?_)
  refine zl_al2 dL_law_766 ?_
  refine zl_arg (k := 1) (n := 1) rfl hi hL (by decide) dL_law_767 dL_law_768 dL_law_769 dL_law_770 dL_law_771 ?_
  refine zl_arg (k := 2) (n := 2) rfl hi hL (by decide) dL_law_772 dL_law_773 dL_law_774 dL_law_775 dL_law_776 ?_
  refine zl_callM (as := [.int (xs (i + 1)), .int (xs (i + 2))]) (st := [.int x]) hc2 hd2 dL_law_777 mwX5_wish ml_L_92 rfl zl_i2 (fun _ => rfl) (Nat.le_of_ble_eq_true rfl) rfl (fun N1 p2 => ?_)
  exact zl_eqI (tgt := 1330) dL_law_780 (by decide) (K M1 N1 (hR M1 N1 p1 p2))
set_option maxRecDepth 100000 in
set_option maxHeartbeats 4000000 in
theorem zl_road {l : Launch} {Ln : Nat} {xs : Nat → Int32} {i : Nat} {M N : zk_M} (hi : i + 6 ≤ Ln) (hL : Ln ≤ 3072) (h : zR M N) (K : ∀ M N, zR M N → zl_R l Ln xs 1330 (nI i) [] M N) : zl_R l Ln xs 785 (nI i) [] M N := by
  obtain ⟨d, d2, x, P1, P2, hd, hd2, hc, hc2, hR⟩ := (o_road h : zOi l muX4_road muX5_road [.int (xs (i + 1)), .int (xs (i + 2))] M N)
  refine zl_al1 dL_law_785 ?_
  refine zl_arg (k := 1) (n := 1) rfl hi hL (by decide) dL_law_786 dL_law_787 dL_law_788 dL_law_789 dL_law_790 ?_
  refine zl_arg (k := 2) (n := 2) rfl hi hL (by decide) dL_law_791 dL_law_792 dL_law_793 dL_law_794 dL_law_795 ?_
  refine zl_callX (as := [.int (xs (i + 1)), .int (xs (i + 2))]) (st := []) hc hd dL_law_796 mwX4_road ml_L_93 rfl zl_i2 (fun _ => rfl) (Nat.le_of_ble_eq_true rfl) rfl (fun M1 p1 => ?_)
  refine zl_al2 dL_law_799 ?_
  refine zl_arg (k := 1) (n := 1) rfl hi hL (by decide) dL_law_800 dL_law_801 dL_law_802 dL_law_803 dL_law_804 ?_
  refine zl_arg (k := 2) (n := 2) rfl hi hL (by decide) dL_law_805 dL_law_806 dL_law_807 dL_law_808 dL_law_809 ?_
  refine zl_callM (as := [.int (xs (i + 1)), .int (xs (i + 2))]) (st := [.int x]) hc2 hd2 dL_law_810 mwX5_road ml_L_96 rfl zl_i2 (fun _ => rfl) (Nat.le_of_ble_eq_true rfl) rfl (fun N1 p2 => ?_)
  exact zl_eqI (tgt := 1330) dL_law_813 (by decide) (K M1 N1 (hR M1 N1 p1 p2))
set_option maxRecDepth 100000 in
set_option maxHeartbeats 4000000 in
theorem zl_cut {l : Launch} {Ln : Nat} {xs : Nat → Int32} {i : Nat} {M N : zk_M} (hi : i + 6 ≤ Ln) (hL : Ln ≤ 3072) (h : zR M N) (K : ∀ M N, zR M N → zl_R l Ln xs 1330 (nI i) [] M N) : zl_R l Ln xs 818 (nI i) [] M N := by
  obtain ⟨d, d2, x, P1, P2, hd, hd2, hc, hc2, hR⟩ := (o_cut h : zOi l muX4_cut muX5_cut [.int (xs (i + 1)), .int (xs (i + 2))] M N)
  refine zl_al1 dL_law_818 ?_
  refine zl_arg (k := 1) (n := 1) rfl hi hL (by decide) dL_law_819 dL_law_820 dL_law_821 dL_law_822 dL_law_823 ?_
  refine zl_arg (k := 2) (n := 2) rfl hi hL (by decide) dL_law_824 dL_law_825 dL_law_826 dL_law_827 dL_law_828 ?_
  refine zl_callX (as := [.int (xs (i + 1)), .int (xs (i + 2))]) (st := []) hc hd dL_law_829 mwX4_cut ml_L_97 rfl zl_i2 (fun _ => rfl) (Nat.le_of_ble_eq_true rfl) rfl (fun M1 p1 => ?_)
  refine zl_al2 dL_law_832 ?_
  refine zl_arg (k := 1) (n := 1) rfl hi hL (by decide) dL_law_833 dL_law_834 dL_law_835 dL_law_836 dL_law_837 ?_
  refine zl_arg (k := 2) (n := 2) rfl hi hL (by decide) dL_law_838 dL_law_839 dL_law_840 dL_law_841 dL_law_842 ?_
  refine zl_callM (as := [.int (xs (i + 1)), .int (xs (i + 2))]) (st := [.int x]) hc2 hd2 dL_law_843 mwX5_cut ml_L_100 rfl zl_i2 (fun _ => rfl) (Nat.le_of_ble_eq_true rfl) rfl (fun N1 p2 => ?_)
  exact zl_eqI (tgt := 1330) dL_law_846 (by decide) (K M1 N1 (hR M1 N1 p1 p2))
set_option maxRecDepth 100000 in
set_option maxHeartbeats 4000000 in
theorem zl_inn {l : Launch} {Ln : Nat} {xs : Nat → Int32} {i : Nat} {M N : zk_M} (hi : i + 6 ≤ Ln) (hL : Ln ≤ 3072) (h : zR M N) (K : ∀ M N, zR M N → zl_R l Ln xs 1330 (nI i) [] M N) : zl_R l Ln xs 851 (nI i) [] M N := by
  obtain ⟨d, d2, x, P1, P2, hd, hd2, hc, hc2, hR⟩ := (o_inn h : zOi l muX4_inn muX5_inn [.int (xs (i + 1)), .int (xs (i + 2))] M N)
  refine zl_al1 dL_law_851 ?_
  refine zl_arg (k := 1) (n := 1) rfl hi hL (by decide) dL_law_852 dL_law_853 dL_law_854 dL_law_855 dL_law_856 ?_
  refine zl_arg (k := 2) (n := 2) rfl hi hL (by decide) dL_law_857 dL_law_858 dL_law_859 dL_law_860 dL_law_861 ?_
  refine zl_callX (as := [.int (xs (i + 1)), .int (xs (i + 2))]) (st := []) hc hd dL_law_862 mwX4_inn ml_L_101 rfl zl_i2 (fun _ => rfl) (Nat.le_of_ble_eq_true rfl) rfl (fun M1 p1 => ?_)
  refine zl_al2 dL_law_865 ?_
  refine zl_arg (k := 1) (n := 1) rfl hi hL (by decide) dL_law_866 dL_law_867 dL_law_868 dL_law_869 dL_law_870 ?_
  refine zl_arg (k := 2) (n := 2) rfl hi hL (by decide) dL_law_871 dL_law_872 dL_law_873 dL_law_874 dL_law_875 ?_
  refine zl_callM (as := [.int (xs (i + 1)), .int (xs (i + 2))]) (st := [.int x]) hc2 hd2 dL_law_876 mwX5_inn ml_L_104 rfl zl_i2 (fun _ => rfl) (Nat.le_of_ble_eq_true rfl) rfl (fun N1 p2 => ?_)
  exact zl_eqI (tgt := 1330) dL_law_879 (by decide) (K M1 N1 (hR M1 N1 p1 p2))
set_option maxRecDepth 100000 in
set_option maxHeartbeats 4000000 in
theorem zl_busiest {l : Launch} {Ln : Nat} {xs : Nat → Int32} {i : Nat} {M N : zk_M} (hi : i + 6 ≤ Ln) (hL : Ln ≤ 3072) (h : zR M N) (K : ∀ M N, zR M N → zl_R l Ln xs 1330 (nI i) [] M N) : zl_R l Ln xs 884 (nI i) [] M N := by
  obtain ⟨d, d2, x, P1, P2, hd, hd2, hc, hc2, hR⟩ := (o_busiest h : zOi l muX4_busiest muX5_busiest [] M N)
  refine zl_al1 dL_law_884 ?_
  refine zl_callX (as := []) (st := []) hc hd dL_law_885 mwX4_busiest ml_L_105 rfl zl_i0 (fun _ => rfl) (Nat.le_of_ble_eq_true rfl) rfl (fun M1 p1 => ?_)
  refine zl_al2 dL_law_888 ?_
  refine zl_callM (as := []) (st := [.int x]) hc2 hd2 dL_law_889 mwX5_busiest ml_L_108 rfl zl_i0 (fun _ => rfl) (Nat.le_of_ble_eq_true rfl) rfl (fun N1 p2 => ?_)
  exact zl_eqI (tgt := 1330) dL_law_892 (by decide) (K M1 N1 (hR M1 N1 p1 p2))
set_option maxRecDepth 100000 in
set_option maxHeartbeats 4000000 in
theorem zl_near {l : Launch} {Ln : Nat} {xs : Nat → Int32} {i : Nat} {M N : zk_M} (hi : i + 6 ≤ Ln) (hL : Ln ≤ 3072) (h : zR M N) (K : ∀ M N, zR M N → zl_R l Ln xs 1330 (nI i) [] M N) : zl_R l Ln xs 897 (nI i) [] M N := by
  obtain ⟨d, d2, x, P1, P2, hd, hd2, hc, hc2, hR⟩ := (o_near h : zOi l muX4_near muX5_near [.int (xs (i + 1))] M N)
  refine zl_al1 dL_law_897 ?_
  refine zl_arg (k := 1) (n := 1) rfl hi hL (by decide) dL_law_898 dL_law_899 dL_law_900 dL_law_901 dL_law_902 ?_
  refine zl_callX (as := [.int (xs (i + 1))]) (st := []) hc hd dL_law_903 mwX4_near ml_L_109 rfl zl_i1 (fun _ => rfl) (Nat.le_of_ble_eq_true rfl) rfl (fun M1 p1 => ?_)
  refine zl_al2 dL_law_906 ?_
  refine zl_arg (k := 1) (n := 1) rfl hi hL (by decide) dL_law_907 dL_law_908 dL_law_909 dL_law_910 dL_law_911 ?_
  refine zl_callM (as := [.int (xs (i + 1))]) (st := [.int x]) hc2 hd2 dL_law_912 mwX5_near ml_L_112 rfl zl_i1 (fun _ => rfl) (Nat.le_of_ble_eq_true rfl) rfl (fun N1 p2 => ?_)
  exact zl_eqI (tgt := 1330) dL_law_915 (by decide) (K M1 N1 (hR M1 N1 p1 p2))
set_option maxRecDepth 100000 in
set_option maxHeartbeats 4000000 in
theorem zl_apart {l : Launch} {Ln : Nat} {xs : Nat → Int32} {i : Nat} {M N : zk_M} (hi : i + 6 ≤ Ln) (hL : Ln ≤ 3072) (h : zR M N) (K : ∀ M N, zR M N → zl_R l Ln xs 1330 (nI i) [] M N) : zl_R l Ln xs 920 (nI i) [] M N := by
  obtain ⟨d, d2, x, P1, P2, hd, hd2, hc, hc2, hR⟩ := (o_apart h : zOi l muX4_apart muX5_apart [.int (xs (i + 1))] M N)
  refine zl_al1 dL_law_920 ?_
  refine zl_arg (k := 1) (n := 1) rfl hi hL (by decide) dL_law_921 dL_law_922 dL_law_923 dL_law_924 dL_law_925 ?_
  refine zl_callX (as := [.int (xs (i + 1))]) (st := []) hc hd dL_law_926 mwX4_apart ml_L_113 rfl zl_i1 (fun _ => rfl) (Nat.le_of_ble_eq_true rfl) rfl (fun M1 p1 => ?_)
  refine zl_al2 dL_law_929 ?_
  refine zl_arg (k := 1) (n := 1) rfl hi hL (by decide) dL_law_930 dL_law_931 dL_law_932 dL_law_933 dL_law_934 ?_
  refine zl_callM (as := [.int (xs (i + 1))]) (st := [.int x]) hc2 hd2 dL_law_935 mwX5_apart ml_L_116 rfl zl_i1 (fun _ => rfl) (Nat.le_of_ble_eq_true rfl) rfl (fun N1 p2 => ?_)
  exact zl_eqI (tgt := 1330) dL_law_938 (by decide) (K M1 N1 (hR M1 N1 p1 p2))
set_option maxRecDepth 100000 in
set_option maxHeartbeats 4000000 in
theorem zl_tired {l : Launch} {Ln : Nat} {xs : Nat → Int32} {i : Nat} {M N : zk_M} (hi : i + 6 ≤ Ln) (hL : Ln ≤ 3072) (h : zR M N) (K : ∀ M N, zR M N → zl_R l Ln xs 1330 (nI i) [] M N) : zl_R l Ln xs 943 (nI i) [] M N := by
  obtain ⟨d, d2, x, P1, P2, hd, hd2, hc, hc2, hR⟩ := (o_tired h : zOi l muX4_tired muX5_tired [] M N)
  refine zl_al1 dL_law_943 ?_
  refine zl_callX (as := []) (st := []) hc hd dL_law_944 mwX4_tired ml_L_117 rfl zl_i0 (fun _ => rfl) (Nat.le_of_ble_eq_true rfl) rfl (fun M1 p1 => ?_)
  refine zl_al2 dL_law_947 ?_
  refine zl_callM (as := []) (st := [.int x]) hc2 hd2 dL_law_948 mwX5_tired ml_L_120 rfl zl_i0 (fun _ => rfl) (Nat.le_of_ble_eq_true rfl) rfl (fun N1 p2 => ?_)
  exact zl_eqI (tgt := 1330) dL_law_951 (by decide) (K M1 N1 (hR M1 N1 p1 p2))
set_option maxRecDepth 100000 in
set_option maxHeartbeats 4000000 in
theorem zl_truly {l : Launch} {Ln : Nat} {xs : Nat → Int32} {i : Nat} {M N : zk_M} (hi : i + 6 ≤ Ln) (hL : Ln ≤ 3072) (h : zR M N) (K : ∀ M N, zR M N → zl_R l Ln xs 1330 (nI i) [] M N) : zl_R l Ln xs 956 (nI i) [] M N := by
  obtain ⟨d, d2, x, P1, P2, hd, hd2, hc, hc2, hR⟩ := (o_truly h : zOi l muX4_truly muX5_truly [.int (xs (i + 1))] M N)
  refine zl_al1 dL_law_956 ?_
  refine zl_arg (k := 1) (n := 1) rfl hi hL (by decide) dL_law_957 dL_law_958 dL_law_959 dL_law_960 dL_law_961 ?_
  refine zl_callX (as := [.int (xs (i + 1))]) (st := []) hc hd dL_law_962 mwX4_truly ml_L_121 rfl zl_i1 (fun _ => rfl) (Nat.le_of_ble_eq_true rfl) rfl (fun M1 p1 => ?_)
  refine zl_al2 dL_law_965 ?_
  refine zl_arg (k := 1) (n := 1) rfl hi hL (by decide) dL_law_966 dL_law_967 dL_law_968 dL_law_969 dL_law_970 ?_
  refine zl_callM (as := [.int (xs (i + 1))]) (st := [.int x]) hc2 hd2 dL_law_971 mwX5_truly ml_L_124 rfl zl_i1 (fun _ => rfl) (Nat.le_of_ble_eq_true rfl) rfl (fun N1 p2 => ?_)
  exact zl_eqI (tgt := 1330) dL_law_974 (by decide) (K M1 N1 (hR M1 N1 p1 p2))
set_option maxRecDepth 100000 in
set_option maxHeartbeats 4000000 in
theorem zl_total {l : Launch} {Ln : Nat} {xs : Nat → Int32} {i : Nat} {M N : zk_M} (hi : i + 6 ≤ Ln) (hL : Ln ≤ 3072) (h : zR M N) (K : ∀ M N, zR M N → zl_R l Ln xs 1330 (nI i) [] M N) : zl_R l Ln xs 979 (nI i) [] M N := by
  obtain ⟨d, d2, x, P1, P2, hd, hd2, hc, hc2, hR⟩ := (o_total h : zOi l muX4_total muX5_total [.int (xs (i + 1))] M N)
  refine zl_al1 dL_law_979 ?_
  refine zl_arg (k := 1) (n := 1) rfl hi hL (by decide) dL_law_980 dL_law_981 dL_law_982 dL_law_983 dL_law_984 ?_
  refine zl_callX (as := [.int (xs (i + 1))]) (st := []) hc hd dL_law_985 mwX4_total ml_L_125 rfl zl_i1 (fun _ => rfl) (Nat.le_of_ble_eq_true rfl) rfl (fun M1 p1 => ?_)
  refine zl_al2 dL_law_988 ?_
  refine zl_arg (k := 1) (n := 1) rfl hi hL (by decide) dL_law_989 dL_law_990 dL_law_991 dL_law_992 dL_law_993 ?_
  refine zl_callM (as := [.int (xs (i + 1))]) (st := [.int x]) hc2 hd2 dL_law_994 mwX5_total ml_L_128 rfl zl_i1 (fun _ => rfl) (Nat.le_of_ble_eq_true rfl) rfl (fun N1 p2 => ?_)
  exact zl_eqI (tgt := 1330) dL_law_997 (by decide) (K M1 N1 (hR M1 N1 p1 p2))
set_option maxRecDepth 100000 in
set_option maxHeartbeats 4000000 in
theorem zl_bare {l : Launch} {Ln : Nat} {xs : Nat → Int32} {i : Nat} {M N : zk_M} (hi : i + 6 ≤ Ln) (hL : Ln ≤ 3072) (h : zR M N) (K : ∀ M N, zR M N → zl_R l Ln xs 1330 (nI i) [] M N) : zl_R l Ln xs 1002 (nI i) [] M N := by
  obtain ⟨d, d2, x, P1, P2, hd, hd2, hc, hc2, hR⟩ := (o_bare h : zOi l muX4_bare muX5_bare [.int (xs (i + 1))] M N)
  refine zl_al1 dL_law_1002 ?_
  refine zl_arg (k := 1) (n := 1) rfl hi hL (by decide) dL_law_1003 dL_law_1004 dL_law_1005 dL_law_1006 dL_law_1007 ?_
  refine zl_callX (as := [.int (xs (i + 1))]) (st := []) hc hd dL_law_1008 mwX4_bare ml_L_129 rfl zl_i1 (fun _ => rfl) (Nat.le_of_ble_eq_true rfl) rfl (fun M1 p1 => ?_)
  refine zl_al2 dL_law_1011 ?_
  refine zl_arg (k := 1) (n := 1) rfl hi hL (by decide) dL_law_1012 dL_law_1013 dL_law_1014 dL_law_1015 dL_law_1016 ?_
  refine zl_callM (as := [.int (xs (i + 1))]) (st := [.int x]) hc2 hd2 dL_law_1017 mwX5_bare ml_L_132 rfl zl_i1 (fun _ => rfl) (Nat.le_of_ble_eq_true rfl) rfl (fun N1 p2 => ?_)
  exact zl_eqI (tgt := 1330) dL_law_1020 (by decide) (K M1 N1 (hR M1 N1 p1 p2))
set_option maxRecDepth 100000 in
set_option maxHeartbeats 4000000 in
theorem zl_two {l : Launch} {Ln : Nat} {xs : Nat → Int32} {i : Nat} {M N : zk_M} (hi : i + 6 ≤ Ln) (hL : Ln ≤ 3072) (h : zR M N) (K : ∀ M N, zR M N → zl_R l Ln xs 1330 (nI i) [] M N) : zl_R l Ln xs 1025 (nI i) [] M N := by
  obtain ⟨d, d2, x, P1, P2, hd, hd2, hc, hc2, hR⟩ := (o_two h : zOi l muX4_two muX5_two [.int (xs (i + 1)), .int (xs (i + 2)), .int (xs (i + 3))] M N)
  refine zl_al1 dL_law_1025 ?_
  refine zl_arg (k := 1) (n := 1) rfl hi hL (by decide) dL_law_1026 dL_law_1027 dL_law_1028 dL_law_1029 dL_law_1030 ?_
  refine zl_arg (k := 2) (n := 2) rfl hi hL (by decide) dL_law_1031 dL_law_1032 dL_law_1033 dL_law_1034 dL_law_1035 ?_
  refine zl_arg (k := 3) (n := 3) rfl hi hL (by decide) dL_law_1036 dL_law_1037 dL_law_1038 dL_law_1039 dL_law_1040 ?_
  refine zl_callX (as := [.int (xs (i + 1)), .int (xs (i + 2)), .int (xs (i + 3))]) (st := []) hc hd dL_law_1041 mwX4_two ml_L_133 rfl zl_i3 (fun _ => rfl) (Nat.le_of_ble_eq_true rfl) rfl (fun M1 p1 => ?_)
  refine zl_al2 dL_law_1044 ?_
  refine zl_arg (k := 1) (n := 1) rfl hi hL (by decide) dL_law_1045 dL_law_1046 dL_law_1047 dL_law_1048 dL_law_1049 ?_
  refine zl_arg (k := 2) (n := 2) rfl hi hL (by decide) dL_law_1050 dL_law_1051 dL_law_1052 dL_law_1053 dL_law_1054 ?_
  refine zl_arg (k := 3) (n := 3) rfl hi hL (by decide) dL_law_1055 dL_law_1056 dL_law_1057 dL_law_1058 dL_law_1059 ?_
  refine zl_callM (as := [.int (xs (i + 1)), .int (xs (i + 2)), .int (xs (i + 3))]) (st := [.int x]) hc2 hd2 dL_law_1060 mwX5_two ml_L_136 rfl zl_i3 (fun _ => rfl) (Nat.le_of_ble_eq_true rfl) rfl (fun N1 p2 => ?_)
  exact zl_eqI (tgt := 1330) dL_law_1063 (by decide) (K M1 N1 (hR M1 N1 p1 p2))
set_option maxRecDepth 100000 in
set_option maxHeartbeats 4000000 in
theorem zl_mud {l : Launch} {Ln : Nat} {xs : Nat → Int32} {i : Nat} {M N : zk_M} (hi : i + 6 ≤ Ln) (hL : Ln ≤ 3072) (h : zR M N) (K : ∀ M N, zR M N → zl_R l Ln xs 1330 (nI i) [] M N) : zl_R l Ln xs 1068 (nI i) [] M N := by
  obtain ⟨d, d2, x, P1, P2, hd, hd2, hc, hc2, hR⟩ := (o_mud h : zOl l muX4_mud muX5_mud [.int (xs (i + 1)), .int (xs (i + 2)), .int (xs (i + 3)), .int (xs (i + 4)), .int (xs (i + 5))] M N)
  refine zl_al1 dL_law_1068 ?_
  refine zl_arg (k := 1) (n := 1) rfl hi hL (by decide) dL_law_1069 dL_law_1070 dL_law_1071 dL_law_1072 dL_law_1073 ?_
  refine zl_arg (k := 2) (n := 2) rfl hi hL (by decide) dL_law_1074 dL_law_1075 dL_law_1076 dL_law_1077 dL_law_1078 ?_
  refine zl_arg (k := 3) (n := 3) rfl hi hL (by decide) dL_law_1079 dL_law_1080 dL_law_1081 dL_law_1082 dL_law_1083 ?_
  refine zl_arg (k := 4) (n := 4) rfl hi hL (by decide) dL_law_1084 dL_law_1085 dL_law_1086 dL_law_1087 dL_law_1088 ?_
  refine zl_arg (k := 5) (n := 5) rfl hi hL (by decide) dL_law_1089 dL_law_1090 dL_law_1091 dL_law_1092 dL_law_1093 ?_
  refine zl_callX (as := [.int (xs (i + 1)), .int (xs (i + 2)), .int (xs (i + 3)), .int (xs (i + 4)), .int (xs (i + 5))]) (st := []) hc hd dL_law_1094 mwX4_mud ml_L_137 rfl zl_i5 (fun _ => rfl) (Nat.le_of_ble_eq_true rfl) rfl (fun M1 p1 => ?_)
  refine zl_al2 dL_law_1097 ?_
  refine zl_arg (k := 1) (n := 1) rfl hi hL (by decide) dL_law_1098 dL_law_1099 dL_law_1100 dL_law_1101 dL_law_1102 ?_
  refine zl_arg (k := 2) (n := 2) rfl hi hL (by decide) dL_law_1103 dL_law_1104 dL_law_1105 dL_law_1106 dL_law_1107 ?_
  refine zl_arg (k := 3) (n := 3) rfl hi hL (by decide) dL_law_1108 dL_law_1109 dL_law_1110 dL_law_1111 dL_law_1112 ?_
  refine zl_arg (k := 4) (n := 4) rfl hi hL (by decide) dL_law_1113 dL_law_1114 dL_law_1115 dL_law_1116 dL_law_1117 ?_
  refine zl_arg (k := 5) (n := 5) rfl hi hL (by decide) dL_law_1118 dL_law_1119 dL_law_1120 dL_law_1121 dL_law_1122 ?_
  refine zl_callM (as := [.int (xs (i + 1)), .int (xs (i + 2)), .int (xs (i + 3)), .int (xs (i + 4)), .int (xs (i + 5))]) (st := [.long x]) hc2 hd2 dL_law_1123 mwX5_mud ml_L_141 rfl zl_i5 (fun _ => rfl) (Nat.le_of_ble_eq_true rfl) rfl (fun N1 p2 => ?_)
  exact zl_eqL (tgt := 1330) dL_law_1126 dL_law_1127 (by decide) (K M1 N1 (hR M1 N1 p1 p2))
set_option maxRecDepth 100000 in
set_option maxHeartbeats 4000000 in
theorem zl_mean {l : Launch} {Ln : Nat} {xs : Nat → Int32} {i : Nat} {M N : zk_M} (hi : i + 6 ≤ Ln) (hL : Ln ≤ 3072) (h : zR M N) (K : ∀ M N, zR M N → zl_R l Ln xs 1330 (nI i) [] M N) : zl_R l Ln xs 1132 (nI i) [] M N := by
  obtain ⟨d, d2, x, P1, P2, hd, hd2, hc, hc2, hR⟩ := (o_mean h : zOl l muX4_mean muX5_mean [.int (xs (i + 1))] M N)
  refine zl_al1 dL_law_1132 ?_
  refine zl_arg (k := 1) (n := 1) rfl hi hL (by decide) dL_law_1133 dL_law_1134 dL_law_1135 dL_law_1136 dL_law_1137 ?_
  refine zl_callX (as := [.int (xs (i + 1))]) (st := []) hc hd dL_law_1138 mwX4_mean ml_L_142 rfl zl_i1 (fun _ => rfl) (Nat.le_of_ble_eq_true rfl) rfl (fun M1 p1 => ?_)
  refine zl_al2 dL_law_1141 ?_
  refine zl_arg (k := 1) (n := 1) rfl hi hL (by decide) dL_law_1142 dL_law_1143 dL_law_1144 dL_law_1145 dL_law_1146 ?_
  refine zl_callM (as := [.int (xs (i + 1))]) (st := [.long x]) hc2 hd2 dL_law_1147 mwX5_mean ml_L_146 rfl zl_i1 (fun _ => rfl) (Nat.le_of_ble_eq_true rfl) rfl (fun N1 p2 => ?_)
  exact zl_eqL (tgt := 1330) dL_law_1150 dL_law_1151 (by decide) (K M1 N1 (hR M1 N1 p1 p2))
set_option maxRecDepth 100000 in
set_option maxHeartbeats 4000000 in
theorem zl_whatWanted {l : Launch} {Ln : Nat} {xs : Nat → Int32} {i : Nat} {M N : zk_M} (hi : i + 6 ≤ Ln) (hL : Ln ≤ 3072) (h : zR M N) (K : ∀ M N, zR M N → zl_R l Ln xs 1330 (nI i) [] M N) : zl_R l Ln xs 1156 (nI i) [] M N := by
  obtain ⟨d, d2, x, P1, P2, hd, hd2, hc, hc2, hR⟩ := (o_whatWanted h : zOi l muX4_whatWanted muX5_whatWanted [.int (xs (i + 1)), .int (xs (i + 2))] M N)
  refine zl_al1 dL_law_1156 ?_
  refine zl_arg (k := 1) (n := 1) rfl hi hL (by decide) dL_law_1157 dL_law_1158 dL_law_1159 dL_law_1160 dL_law_1161 ?_
  refine zl_arg (k := 2) (n := 2) rfl hi hL (by decide) dL_law_1162 dL_law_1163 dL_law_1164 dL_law_1165 dL_law_1166 ?_
  refine zl_callX (as := [.int (xs (i + 1)), .int (xs (i + 2))]) (st := []) hc hd dL_law_1167 mwX4_whatWanted ml_L_147 rfl zl_i2 (fun _ => rfl) (Nat.le_of_ble_eq_true rfl) rfl (fun M1 p1 => ?_)
  refine zl_al2 dL_law_1170 ?_
  refine zl_arg (k := 1) (n := 1) rfl hi hL (by decide) dL_law_1171 dL_law_1172 dL_law_1173 dL_law_1174 dL_law_1175 ?_
  refine zl_arg (k := 2) (n := 2) rfl hi hL (by decide) dL_law_1176 dL_law_1177 dL_law_1178 dL_law_1179 dL_law_1180 ?_
  refine zl_callM (as := [.int (xs (i + 1)), .int (xs (i + 2))]) (st := [.int x]) hc2 hd2 dL_law_1181 mwX5_whatWanted ml_L_150 rfl zl_i2 (fun _ => rfl) (Nat.le_of_ble_eq_true rfl) rfl (fun N1 p2 => ?_)
  exact zl_eqI (tgt := 1330) dL_law_1184 (by decide) (K M1 N1 (hR M1 N1 p1 p2))
set_option maxRecDepth 100000 in
set_option maxHeartbeats 4000000 in
theorem zl_row {l : Launch} {Ln : Nat} {xs : Nat → Int32} {i : Nat} {M N : zk_M} (hi : i + 6 ≤ Ln) (hL : Ln ≤ 3072) (h : zR M N) (K : ∀ M N, zR M N → zl_R l Ln xs 1330 (nI i) [] M N) : zl_R l Ln xs 1189 (nI i) [] M N := by
  obtain ⟨d, d2, x, P1, P2, hd, hd2, hc, hc2, hR⟩ := (o_row h : zOi l muX4_row muX5_row [.int (xs (i + 1))] M N)
  refine zl_al1 dL_law_1189 ?_
  refine zl_arg (k := 1) (n := 1) rfl hi hL (by decide) dL_law_1190 dL_law_1191 dL_law_1192 dL_law_1193 dL_law_1194 ?_
  refine zl_callX (as := [.int (xs (i + 1))]) (st := []) hc hd dL_law_1195 mwX4_row ml_L_151 rfl zl_i1 (fun _ => rfl) (Nat.le_of_ble_eq_true rfl) rfl (fun M1 p1 => ?_)
  refine zl_al2 dL_law_1198 ?_
  refine zl_arg (k := 1) (n := 1) rfl hi hL (by decide) dL_law_1199 dL_law_1200 dL_law_1201 dL_law_1202 dL_law_1203 ?_
  refine zl_callM (as := [.int (xs (i + 1))]) (st := [.int x]) hc2 hd2 dL_law_1204 mwX5_row ml_L_154 rfl zl_i1 (fun _ => rfl) (Nat.le_of_ble_eq_true rfl) rfl (fun N1 p2 => ?_)
  exact zl_eqI (tgt := 1330) dL_law_1207 (by decide) (K M1 N1 (hR M1 N1 p1 p2))
set_option maxRecDepth 100000 in
set_option maxHeartbeats 4000000 in
theorem zl_judge {l : Launch} {Ln : Nat} {xs : Nat → Int32} {i : Nat} {M N : zk_M} (hi : i + 6 ≤ Ln) (hL : Ln ≤ 3072) (h : zR M N) (K : ∀ M N, zR M N → zl_R l Ln xs 1330 (nI i) [] M N) : zl_R l Ln xs 1212 (nI i) [] M N := by
  obtain ⟨d, d2, x, P1, P2, hd, hd2, hc, hc2, hR⟩ := (o_judge h : zOi l muX4_judge muX5_judge [] M N)
  refine zl_al1 dL_law_1212 ?_
  refine zl_callX (as := []) (st := []) hc hd dL_law_1213 mwX4_judge ml_L_155 rfl zl_i0 (fun _ => rfl) (Nat.le_of_ble_eq_true rfl) rfl (fun M1 p1 => ?_)
  refine zl_al2 dL_law_1216 ?_
  refine zl_callM (as := []) (st := [.int x]) hc2 hd2 dL_law_1217 mwX5_judge ml_L_158 rfl zl_i0 (fun _ => rfl) (Nat.le_of_ble_eq_true rfl) rfl (fun N1 p2 => ?_)
  exact zl_eqI (tgt := 1330) dL_law_1220 (by decide) (K M1 N1 (hR M1 N1 p1 p2))
set_option maxRecDepth 100000 in
set_option maxHeartbeats 4000000 in
theorem zl_clear {l : Launch} {Ln : Nat} {xs : Nat → Int32} {i : Nat} {M N : zk_M} (hi : i + 6 ≤ Ln) (hL : Ln ≤ 3072) (h : zR M N) (K : ∀ M N, zR M N → zl_R l Ln xs 1330 (nI i) [] M N) : zl_R l Ln xs 1225 (nI i) [] M N := by
  obtain ⟨d, d2, x, P1, P2, hd, hd2, hc, hc2, hR⟩ := (o_clear h : zOi l muX4_clear muX5_clear [] M N)
  refine zl_al1 dL_law_1225 ?_
  refine zl_callX (as := []) (st := []) hc hd dL_law_1226 mwX4_clear ml_L_159 rfl zl_i0 (fun _ => rfl) (Nat.le_of_ble_eq_true rfl) rfl (fun M1 p1 => ?_)
  refine zl_al2 dL_law_1229 ?_
  refine zl_callM (as := []) (st := [.int x]) hc2 hd2 dL_law_1230 mwX5_clear ml_L_162 rfl zl_i0 (fun _ => rfl) (Nat.le_of_ble_eq_true rfl) rfl (fun N1 p2 => ?_)
  exact zl_eqI (tgt := 1330) dL_law_1233 (by decide) (K M1 N1 (hR M1 N1 p1 p2))
set_option maxRecDepth 100000 in
set_option maxHeartbeats 4000000 in
theorem zl_lots {l : Launch} {Ln : Nat} {xs : Nat → Int32} {i : Nat} {M N : zk_M} (hi : i + 6 ≤ Ln) (hL : Ln ≤ 3072) (h : zR M N) (K : ∀ M N, zR M N → zl_R l Ln xs 1330 (nI i) [] M N) : zl_R l Ln xs 1238 (nI i) [] M N := by
  obtain ⟨d, d2, x, P1, P2, hd, hd2, hc, hc2, hR⟩ := (o_lots h : zOi l muX4_lots muX5_lots [.int (xs (i + 1)), .int (xs (i + 2)), .int (xs (i + 3))] M N)
  refine zl_al1 dL_law_1238 ?_
  refine zl_arg (k := 1) (n := 1) rfl hi hL (by decide) dL_law_1239 dL_law_1240 dL_law_1241 dL_law_1242 dL_law_1243 ?_
  refine zl_arg (k := 2) (n := 2) rfl hi hL (by decide) dL_law_1244 dL_law_1245 dL_law_1246 dL_law_1247 dL_law_1248 ?_
  refine zl_arg (k := 3) (n := 3) rfl hi hL (by decide) dL_law_1249 dL_law_1250 dL_law_1251 dL_law_1252 dL_law_1253 ?_
  refine zl_callX (as := [.int (xs (i + 1)), .int (xs (i + 2)), .int (xs (i + 3))]) (st := []) hc hd dL_law_1254 mwX4_lots ml_L_163 rfl zl_i3 (fun _ => rfl) (Nat.le_of_ble_eq_true rfl) rfl (fun M1 p1 => ?_)
  refine zl_al2 dL_law_1257 ?_
  refine zl_arg (k := 1) (n := 1) rfl hi hL (by decide) dL_law_1258 dL_law_1259 dL_law_1260 dL_law_1261 dL_law_1262 ?_
  refine zl_arg (k := 2) (n := 2) rfl hi hL (by decide) dL_law_1263 dL_law_1264 dL_law_1265 dL_law_1266 dL_law_1267 ?_
  refine zl_arg (k := 3) (n := 3) rfl hi hL (by decide) dL_law_1268 dL_law_1269 dL_law_1270 dL_law_1271 dL_law_1272 ?_
  refine zl_callM (as := [.int (xs (i + 1)), .int (xs (i + 2)), .int (xs (i + 3))]) (st := [.int x]) hc2 hd2 dL_law_1273 mwX5_lots ml_L_166 rfl zl_i3 (fun _ => rfl) (Nat.le_of_ble_eq_true rfl) rfl (fun N1 p2 => ?_)
  exact zl_eqI (tgt := 1330) dL_law_1276 (by decide) (K M1 N1 (hR M1 N1 p1 p2))
set_option maxRecDepth 100000 in
set_option maxHeartbeats 4000000 in
theorem zl_image {l : Launch} {Ln : Nat} {xs : Nat → Int32} {i : Nat} {M N : zk_M} (hi : i + 6 ≤ Ln) (hL : Ln ≤ 3072) (h : zR M N) (K : ∀ M N, zR M N → zl_R l Ln xs 1330 (nI i) [] M N) : zl_R l Ln xs 1281 (nI i) [] M N := by
  obtain ⟨d, d2, x, P1, P2, hd, hd2, hc, hc2, hR⟩ := (o_image h : zOi l muX4_image muX5_image [] M N)
  refine zl_al1 dL_law_1281 ?_
  refine zl_callX (as := []) (st := []) hc hd dL_law_1282 mwX4_image ml_L_167 rfl zl_i0 (fun _ => rfl) (Nat.le_of_ble_eq_true rfl) rfl (fun M1 p1 => ?_)
  refine zl_al2 dL_law_1285 ?_
  refine zl_callM (as := []) (st := [.int x]) hc2 hd2 dL_law_1286 mwX5_image ml_L_170 rfl zl_i0 (fun _ => rfl) (Nat.le_of_ble_eq_true rfl) rfl (fun N1 p2 => ?_)
  exact zl_eqI (tgt := 1330) dL_law_1289 (by decide) (K M1 N1 (hR M1 N1 p1 p2))
set_option maxRecDepth 100000 in
set_option maxHeartbeats 4000000 in
theorem zl_on {l : Launch} {Ln : Nat} {xs : Nat → Int32} {i : Nat} {M N : zk_M} (hi : i + 6 ≤ Ln) (hL : Ln ≤ 3072) (h : zR M N) (K : ∀ M N, zR M N → zl_R l Ln xs 1330 (nI i) [] M N) : zl_R l Ln xs 1294 (nI i) [] M N := by
  obtain ⟨d, d2, x, P1, P2, hd, hd2, hc, hc2, hR⟩ := (o_on h : zOi l muX4_on muX5_on [] M N)
  refine zl_al1 dL_law_1294 ?_
  refine zl_callX (as := []) (st := []) hc hd dL_law_1295 mwX4_on ml_L_171 rfl zl_i0 (fun _ => rfl) (Nat.le_of_ble_eq_true rfl) rfl (fun M1 p1 => ?_)
  refine zl_al2 dL_law_1298 ?_
  refine zl_callM (as := []) (st := [.int x]) hc2 hd2 dL_law_1299 mwX5_on ml_L_174 rfl zl_i0 (fun _ => rfl) (Nat.le_of_ble_eq_true rfl) rfl (fun N1 p2 => ?_)
  exact zl_eqI (tgt := 1330) dL_law_1302 (by decide) (K M1 N1 (hR M1 N1 p1 p2))
set_option maxRecDepth 100000 in
set_option maxHeartbeats 4000000 in
theorem zl_count {l : Launch} {Ln : Nat} {xs : Nat → Int32} {i : Nat} {M N : zk_M} (hi : i + 6 ≤ Ln) (hL : Ln ≤ 3072) (h : zR M N) (K : ∀ M N, zR M N → zl_R l Ln xs 1330 (nI i) [] M N) : zl_R l Ln xs 1307 (nI i) [] M N := by
  obtain ⟨d, d2, x, P1, P2, hd, hd2, hc, hc2, hR⟩ := (o_count h : zOi l muX4_count muX5_count [.int (xs (i + 1))] M N)
  refine zl_al1 dL_law_1307 ?_
  refine zl_arg (k := 1) (n := 1) rfl hi hL (by decide) dL_law_1308 dL_law_1309 dL_law_1310 dL_law_1311 dL_law_1312 ?_
  refine zl_callX (as := [.int (xs (i + 1))]) (st := []) hc hd dL_law_1313 mwX4_count ml_L_175 rfl zl_i1 (fun _ => rfl) (Nat.le_of_ble_eq_true rfl) rfl (fun M1 p1 => ?_)
  refine zl_al2 dL_law_1316 ?_
  refine zl_arg (k := 1) (n := 1) rfl hi hL (by decide) dL_law_1317 dL_law_1318 dL_law_1319 dL_law_1320 dL_law_1321 ?_
  refine zl_callM (as := [.int (xs (i + 1))]) (st := [.int x]) hc2 hd2 dL_law_1322 mwX5_count ml_L_178 rfl zl_i1 (fun _ => rfl) (Nat.le_of_ble_eq_true rfl) rfl (fun N1 p2 => ?_)
  exact zl_eqI (tgt := 1330) dL_law_1325 (by decide) (K M1 N1 (hR M1 N1 p1 p2))
theorem zl_63 (x : Int32) : ∃ k, k < 64 ∧ x &&& 63 = nI k := by
  refine ⟨(x &&& 63).toBitVec.toNat, ?_, ?_⟩
  · rw [Int32.toBitVec_and, BitVec.toNat_and]
    exact Nat.lt_of_le_of_lt Nat.and_le_right (by decide)
  · apply Int32.toBitVec_inj.1
    show _ = BitVec.ofNat 32 _
    rw [BitVec.ofNat_toNat, BitVec.setWidth_eq]
set_option maxRecDepth 100000 in
set_option maxHeartbeats 4000000 in
theorem zl_sw {l : Launch} {Ln : Nat} {xs : Nat → Int32} {i : Nat} {M N : zk_M} (hi : i + 6 ≤ Ln) (hL : Ln ≤ 3072) (h : zR M N) (K : ∀ M N, zR M N → zl_R l Ln xs 1330 (nI i) [] M N) {k : Nat} (hk : k < 64) : zl_R l Ln xs 33 (nI i) [.int (nI k)] M N := by
  by_cases c : k < 40
  · rcases (show k = 0 ∨ k = 1 ∨ k = 2 ∨ k = 3 ∨ k = 4 ∨ k = 5 ∨ k = 6 ∨ k = 7 ∨ k = 8 ∨ k = 9 ∨ k = 10 ∨ k = 11 ∨ k = 12 ∨ k = 13 ∨ k = 14 ∨ k = 15 ∨ k = 16 ∨ k = 17 ∨ k = 18 ∨ k = 19 ∨ k = 20 ∨ k = 21 ∨ k = 22 ∨ k = 23 ∨ k = 24 ∨ k = 25 ∨ k = 26 ∨ k = 27 ∨ k = 28 ∨ k = 29 ∨ k = 30 ∨ k = 31 ∨ k = 32 ∨ k = 33 ∨ k = 34 ∨ k = 35 ∨ k = 36 ∨ k = 37 ∨ k = 38 ∨ k = 39 by omega) with rfl | rfl | rfl | rfl | rfl | rfl | rfl | rfl | rfl | rfl | rfl | rfl | rfl | rfl | rfl | rfl | rfl | rfl | rfl | rfl | rfl | rfl | rfl | rfl | rfl | rfl | rfl | rfl | rfl | rfl | rfl | rfl | rfl | rfl | rfl | rfl | rfl | rfl | rfl | rfl
    · exact zl_tab (off := 175) (tgt := 208) dL_law_33 (by decide) (by decide) rfl (by decide) (zl_letter hi hL h K)
    · exact zl_tab (off := 198) (tgt := 231) dL_law_33 (by decide) (by decide) rfl (by decide) (zl_county hi hL h K)
    · exact zl_tab (off := 211) (tgt := 244) dL_law_33 (by decide) (by decide) rfl (by decide) (zl_rider hi hL h K)
    · exact zl_tab (off := 244) (tgt := 277) dL_law_33 (by decide) (by decide) rfl (by decide) (zl_steps hi hL h K)
    · exact zl_tab (off := 277) (tgt := 310) dL_law_33 (by decide) (by decide) rfl (by decide) (zl_pulls hi hL h K)
    · exact zl_tab (off := 310) (tgt := 343) dL_law_33 (by decide) (by decide) rfl (by decide) (zl_roads hi hL h K)
    · exact zl_tab (off := 343) (tgt := 376) dL_law_33 (by decide) (by decide) rfl (by decide) (zl_shod hi hL h K)
    · exact zl_tab (off := 366) (tgt := 399) dL_law_33 (by decide) (by decide) rfl (by decide) (zl_wants hi hL h K)
    · exact zl_tab (off := 399) (tgt := 432) dL_law_33 (by decide) (by decide) rfl (by decide) (zl_stands hi hL h K)
    · exact zl_tab (off := 432) (tgt := 465) dL_law_33 (by decide) (by decide) rfl (by decide) (zl_turn hi hL h K)
    · exact zl_tab (off := 475) (tgt := 508) dL_law_33 (by decide) (by decide) rfl (by decide) (zl_days hi hL h K)
    · exact zl_tab (off := 498) (tgt := 531) dL_law_33 (by decide) (by decide) rfl (by decide) (zl_riderThen hi hL h K)
    · exact zl_tab (off := 541) (tgt := 574) dL_law_33 (by decide) (by decide) rfl (by decide) (zl_comes hi hL h K)
    · exact zl_tab (off := 574) (tgt := 607) dL_law_33 (by decide) (by decide) rfl (by decide) (zl_first hi hL h K)
    · exact zl_tab (off := 597) (tgt := 630) dL_law_33 (by decide) (by decide) rfl (by decide) (zl_rests hi hL h K)
    · exact zl_tab (off := 620) (tgt := 653) dL_law_33 (by decide) (by decide) rfl (by decide) (zl_meet hi hL h K)
    · exact zl_tab (off := 663) (tgt := 696) dL_law_33 (by decide) (by decide) rfl (by decide) (zl_arrived hi hL h K)
    · exact zl_tab (off := 676) (tgt := 709) dL_law_33 (by decide) (by decide) rfl (by decide) (zl_shoe hi hL h K)
    · exact zl_tab (off := 719) (tgt := 752) dL_law_33 (by decide) (by decide) rfl (by decide) (zl_wish hi hL h K)
    · exact zl_tab (off := 752) (tgt := 785) dL_law_33 (by decide) (by decide) rfl (by decide) (zl_road hi hL h K)
    · exact zl_tab (off := 785) (tgt := 818) dL_law_33 (by decide) (by decide) rfl (by decide) (zl_cut hi hL h K)
    · exact zl_tab (off := 818) (tgt := 851) dL_law_33 (by decide) (by decide) rfl (by decide) (zl_inn hi hL h K)
    · exact zl_tab (off := 851) (tgt := 884) dL_law_33 (by decide) (by decide) rfl (by decide) (zl_busiest hi hL h K)
    · exact zl_tab (off := 864) (tgt := 897) dL_law_33 (by decide) (by decide) rfl (by decide) (zl_near hi hL h K)
    · exact zl_tab (off := 887) (tgt := 920) dL_law_33 (by decide) (by decide) rfl (by decide) (zl_apart hi hL h K)
    · exact zl_tab (off := 910) (tgt := 943) dL_law_33 (by decide) (by decide) rfl (by decide) (zl_tired hi hL h K)
    · exact zl_tab (off := 923) (tgt := 956) dL_law_33 (by decide) (by decide) rfl (by decide) (zl_truly hi hL h K)
    · exact zl_tab (off := 946) (tgt := 979) dL_law_33 (by decide) (by decide) rfl (by decide) (zl_total hi hL h K)
    · exact zl_tab (off := 969) (tgt := 1002) dL_law_33 (by decide) (by decide) rfl (by decide) (zl_bare hi hL h K)
    · exact zl_tab (off := 992) (tgt := 1025) dL_law_33 (by decide) (by decide) rfl (by decide) (zl_two hi hL h K)
    · exact zl_tab (off := 1035) (tgt := 1068) dL_law_33 (by decide) (by decide) rfl (by decide) (zl_mud hi hL h K)
    · exact zl_tab (off := 1099) (tgt := 1132) dL_law_33 (by decide) (by decide) rfl (by decide) (zl_mean hi hL h K)
    · exact zl_tab (off := 1123) (tgt := 1156) dL_law_33 (by decide) (by decide) rfl (by decide) (zl_whatWanted hi hL h K)
    · exact zl_tab (off := 1156) (tgt := 1189) dL_law_33 (by decide) (by decide) rfl (by decide) (zl_row hi hL h K)
    · exact zl_tab (off := 1179) (tgt := 1212) dL_law_33 (by decide) (by decide) rfl (by decide) (zl_judge hi hL h K)
    · exact zl_tab (off := 1192) (tgt := 1225) dL_law_33 (by decide) (by decide) rfl (by decide) (zl_clear hi hL h K)
    · exact zl_tab (off := 1205) (tgt := 1238) dL_law_33 (by decide) (by decide) rfl (by decide) (zl_lots hi hL h K)
    · exact zl_tab (off := 1248) (tgt := 1281) dL_law_33 (by decide) (by decide) rfl (by decide) (zl_image hi hL h K)
    · exact zl_tab (off := 1261) (tgt := 1294) dL_law_33 (by decide) (by decide) rfl (by decide) (zl_on hi hL h K)
    · exact zl_tab (off := 1274) (tgt := 1307) dL_law_33 (by decide) (by decide) rfl (by decide) (zl_count hi hL h K)
  · exact zl_tabO (tgt := 1330) dL_law_33 (Or.inr (by rw [nI_toInt (by omega)]; omega)) (by decide) (K M N h)
set_option maxRecDepth 100000 in
set_option maxHeartbeats 4000000 in
theorem zl_loop {l : Launch} {Ln : Nat} {xs : Nat → Int32} (hL : Ln ≤ 3072) : ∀ (f i : Nat) (M N : zk_M), Ln < i + f → i ≤ 3072 → zR M N → zl_R l Ln xs 18 (nI i) [] M N
  | 0, i, M, N, hf, hi, h => by
    refine zl_il3 dL_law_18 (zl_al0 dL_law_19 (zl_alen dL_law_20 (zl_bi (v := 6) dL_law_21 (by decide) (zl_isub dL_law_23 ?_))))
    refine zl_gt (tgt := 1336) dL_law_24 (by decide) (fun _ => zl_ic (v := 1) dL_law_1336 (by decide) (zl_end dL_law_1337)) (fun q => absurd ?_ q)
    have e6 : (6 : Int32).toInt = 6 := rfl
    rw [Int32.lt_iff_toInt_lt, Kit.i32_sub (by rw [nI_toInt (by omega), e6]; omega) (by rw [nI_toInt (by omega), e6]; omega), nI_toInt (by omega), nI_toInt (by omega), e6]
    omega
  | f + 1, i, M, N, hf, hi, h => by
    refine zl_il3 dL_law_18 (zl_al0 dL_law_19 (zl_alen dL_law_20 (zl_bi (v := 6) dL_law_21 (by decide) (zl_isub dL_law_23 ?_))))
    refine zl_gt (tgt := 1336) dL_law_24 (by decide) (fun _ => zl_ic (v := 1) dL_law_1336 (by decide) (zl_end dL_law_1337)) (fun q => ?_)
    have e6 : (6 : Int32).toInt = 6 := rfl
    rw [Int32.lt_iff_toInt_lt, Kit.i32_sub (by rw [nI_toInt (by omega), e6]; omega) (by rw [nI_toInt (by omega), e6]; omega), nI_toInt (by omega), nI_toInt (by omega), e6] at q
    have hi6 : i + 6 ≤ Ln := by omega
    refine zl_al0 dL_law_27 (zl_il3 dL_law_28 (zl_iald (by omega) hL dL_law_29 (zl_bi (v := 63) dL_law_30 (by decide) (zl_iand dL_law_32 ?_))))
    obtain ⟨k, hk, e⟩ := zl_63 (xs i)
    rw [e]
    exact zl_sw hi6 hL h (fun M N h => zl_inc dL_law_1330 (zl_goto (tgt := 18) dL_law_1333 (by decide) (zl_loop hL f (i + 6) M N (by omega) (by omega) h))) hk
