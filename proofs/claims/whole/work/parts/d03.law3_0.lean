section LAW3
variable {p : Program} {l : Launch} {e : Env} {s : State} {m : MethodId} {below : List Frame} {meth : Method} {c : Code} {n : Nat} {i : Int} {X : KX} {cJ : ClassId} {kS : Nat → Nat} {b L : Nat} {xs : Nat → Int32}
variable {ad pa pb qa qb ra rb : Nat → Nat} {ha hb : Nat → Nat → Nat} {d rr : Nat → Nat} {oa : Nat}
set_option maxHeartbeats 1000000 in
set_option maxRecDepth 100000 in
theorem st_append (G : LF p l s m meth c b L xs X cJ kS) (hi : 0 ≤ i ∧ i + 6 ≤ L) (hn : n < 1000) (k : GO p l e s m below meth c b X cJ ad pa pb qa qb ra rb ha hb d rr oa i n 3317) : GO p l e s m below meth c b X cJ ad pa pb qa qb ra rb ha hb d rr oa i (n + 1) 312 := by
  intro Z g Y H locs ls hS hw hl
  have E := G.1
  refine lv_aload_n E.1 E.2.1 dL_law_312 rfl (lv_at hl 3 rfl) ?_
  refine lz_rd (i := i) (j := 1) G hw (by omega) (lv_at hl 4 rfl) (lv_at hl 0 rfl) dL_law_313 dL_law_314 dL_law_316 dL_law_317 dL_law_318 ?_
  refine lz_rd (i := i) (j := 2) G hw (by omega) (lv_at hl 4 rfl) (lv_at hl 0 rfl) dL_law_319 dL_law_320 dL_law_322 dL_law_323 dL_law_324 ?_
  refine lz_rd (i := i) (j := 3) G hw (by omega) (lv_at hl 4 rfl) (lv_at hl 0 rfl) dL_law_325 dL_law_326 dL_law_328 dL_law_329 dL_law_330 ?_
  refine lz_rd (i := i) (j := 4) G hw (by omega) (lv_at hl 4 rfl) (lv_at hl 0 rfl) dL_law_331 dL_law_332 dL_law_334 dL_law_335 dL_law_336 ?_
  refine lz_rd (i := i) (j := 5) G hw (by omega) (lv_at hl 4 rfl) (lv_at hl 0 rfl) dL_law_337 dL_law_338 dL_law_340 dL_law_341 dL_law_342 ?_
  refine lz_c7 (rest := []) G hw (vX7_append l X ad pa pb qa qb ra rb ha hb Z Y hS (xz xs (i + 1)) (xz xs (i + 2)) (xz xs (i + 3)) (xz xs (i + 4)) (xz xs (i + 5)) (i32_of _) (i32_of _) (i32_of _) (i32_of _) (i32_of _)).toE (cwV 5 E.2.2.2.2 gL_law_X7_append rfl rfl rfl (by decide +kernel) ⟨Nat.le_of_ble_eq_true rfl, Nat.le_of_ble_eq_true rfl⟩) hl.1 rfl rfl (Nat.le_of_ble_eq_true rfl) dL_law_343 ⟨by show 601024 - 10 * (n + 1) + 0 ≤ 601024; omega, by show 7293034 - 60 * (n + 1) + 0 ≤ 7293034; omega⟩ (fun z9 Z9 H locs hF7 hw => ?_)
  refine lv_aload_n E.1 E.2.1 dL_law_346 rfl (lv_at hl 2 rfl) ?_
  refine lz_rd (i := i) (j := 1) G hw (by omega) (lv_at hl 4 rfl) (lv_at hl 0 rfl) dL_law_347 dL_law_348 dL_law_350 dL_law_351 dL_law_352 ?_
  refine lz_rd (i := i) (j := 2) G hw (by omega) (lv_at hl 4 rfl) (lv_at hl 0 rfl) dL_law_353 dL_law_354 dL_law_356 dL_law_357 dL_law_358 ?_
  refine lz_rd (i := i) (j := 3) G hw (by omega) (lv_at hl 4 rfl) (lv_at hl 0 rfl) dL_law_359 dL_law_360 dL_law_362 dL_law_363 dL_law_364 ?_
  refine lz_rd (i := i) (j := 4) G hw (by omega) (lv_at hl 4 rfl) (lv_at hl 0 rfl) dL_law_365 dL_law_366 dL_law_368 dL_law_369 dL_law_370 ?_
  refine lz_rd (i := i) (j := 5) G hw (by omega) (lv_at hl 4 rfl) (lv_at hl 0 rfl) dL_law_371 dL_law_372 dL_law_374 dL_law_375 dL_law_376 ?_
  refine lz_c8 (rest := [.int (iI z9)]) G hw (vX8_append l X d rr Z Y hS (xz xs (i + 1)) (xz xs (i + 2)) (xz xs (i + 3)) (xz xs (i + 4)) (xz xs (i + 5)) (i32_of _) (i32_of _) (i32_of _) (i32_of _) (i32_of _)).toE (cwV 5 E.2.2.2.2 gL_law_X8_append rfl rfl rfl (by decide +kernel) ⟨Nat.le_of_ble_eq_true rfl, Nat.le_of_ble_eq_true rfl⟩) hl.1 rfl rfl (Nat.le_of_ble_eq_true rfl) dL_law_377 ⟨by show 601024 - 10 * (n + 1) + 0 + 0 ≤ 601024; omega, by show 7293034 - 60 * (n + 1) + 0 + 0 ≤ 7293034; omega⟩ (fun b9 Y9 H locs hF8 hw => ?_)
  obtain ⟨hJ, hS9⟩ := J_append hS  hF7 hF8
  refine lv_icmp_eq (tgt := 3317) E.1 E.2.1 dL_law_380 rfl (fun _ => ?_) (fun q => absurd (by rw [hJ]) q)
  exact lz_on k hS9 hw hl (by omega) (by omega)
set_option maxHeartbeats 1000000 in
set_option maxRecDepth 100000 in
theorem st_truncateInput (G : LF p l s m meth c b L xs X cJ kS) (hi : 0 ≤ i ∧ i + 6 ≤ L) (hn : n < 1000) (k : GO p l e s m below meth c b X cJ ad pa pb qa qb ra rb ha hb d rr oa i n 3317) : GO p l e s m below meth c b X cJ ad pa pb qa qb ra rb ha hb d rr oa i (n + 1) 385 := by
  intro Z g Y H locs ls hS hw hl
  have E := G.1
  refine lv_aload_n E.1 E.2.1 dL_law_385 rfl (lv_at hl 3 rfl) ?_
  refine lz_rd (i := i) (j := 1) G hw (by omega) (lv_at hl 4 rfl) (lv_at hl 0 rfl) dL_law_386 dL_law_387 dL_law_389 dL_law_390 dL_law_391 ?_
  refine lv_aload_n E.1 E.2.1 dL_law_392 rfl (lv_at hl 1 rfl) ?_
  refine lz_cL (rest := []) G hw (kL_truncateInput l X cJ kS G.2.2.2.2.2.2.2.2.1 ad pa pb qa qb ra rb ha hb Z Y hS (xz xs (i + 1)) (i32_of _) oa g) (vx_cwSW 3 E.2.2.2.2 gL_law_L_truncateInput rfl rfl rfl (by decide +kernel) ⟨Nat.le_of_ble_eq_true rfl, Nat.le_of_ble_eq_true rfl⟩) hl.1 rfl rfl (Nat.le_of_ble_eq_true rfl) dL_law_393 ⟨by show 601024 - 10 * (n + 1) + 1 ≤ 601024; omega, by show 7293034 - 60 * (n + 1) + 6 ≤ 7293034; omega⟩ (fun k9 Z9 g9 H locs hF7 hw => ?_)
  have hkr : 0 ≤ k9 ∧ k9 ≤ 3 := by
    rcases hF7 with ⟨h, -⟩ | ⟨h, -⟩ <;> omega
  refine lv_istore (lv' := (5, .int (iI k9)) :: LVi b ad d oa i) E.1 E.2.1 dL_law_396 hl (by decide) rfl (fun ls hl => ?_)
  refine lv_aload_n E.1 E.2.1 dL_law_398 rfl (lv_at hl 3 rfl) ?_
  refine lz_rd (i := i) (j := 1) G hw (by omega) (lv_at hl 5 rfl) (lv_at hl 1 rfl) dL_law_399 dL_law_400 dL_law_402 dL_law_403 dL_law_404 ?_
  refine lz_c8 (rest := []) G hw (vX8_truncateInput l X d rr Z Y hS (xz xs (i + 1)) (i32_of _)).toE (cwV 1 E.2.2.2.2 gL_law_X8_truncateInput rfl rfl rfl (by decide +kernel) ⟨Nat.le_of_ble_eq_true rfl, Nat.le_of_ble_eq_true rfl⟩) hl.1 rfl rfl (Nat.le_of_ble_eq_true rfl) dL_law_405 ⟨by show 601024 - 10 * (n + 1) + 1 + 0 ≤ 601024; omega, by show 7293034 - 60 * (n + 1) + 6 + 0 ≤ 7293034; omega⟩ (fun b9 Y9 H locs hF8 hw => ?_)
  exact lz_tail G ⟨dL_law_408, dL_law_410, dL_law_411, dL_law_414, dL_law_416, dL_law_421⟩ ⟨dL_law_423, dL_law_426, dL_law_427, dL_law_428, dL_law_429, dL_law_431, dL_law_432, dL_law_433⟩ dL_law_438 rfl hkr (J_truncateInput hS  hF7 hF8) hw hl k (by omega) (by omega)
set_option maxHeartbeats 1000000 in
set_option maxRecDepth 100000 in
theorem st_inputLength (G : LF p l s m meth c b L xs X cJ kS) (hi : 0 ≤ i ∧ i + 6 ≤ L) (hn : n < 1000) (k : GO p l e s m below meth c b X cJ ad pa pb qa qb ra rb ha hb d rr oa i n 3317) : GO p l e s m below meth c b X cJ ad pa pb qa qb ra rb ha hb d rr oa i (n + 1) 441 := by
  intro Z g Y H locs ls hS hw hl
  have E := G.1
  refine lv_aload_n E.1 E.2.1 dL_law_441 rfl (lv_at hl 3 rfl) ?_
  refine lz_c7 (rest := []) G hw (vX7_inputLength l X ad pa pb qa qb ra rb ha hb Z Y hS).toE (cwV 0 E.2.2.2.2 gL_law_X7_inputLength rfl rfl rfl (by decide +kernel) ⟨Nat.le_of_ble_eq_true rfl, Nat.le_of_ble_eq_true rfl⟩) hl.1 rfl rfl (Nat.le_of_ble_eq_true rfl) dL_law_442 ⟨by show 601024 - 10 * (n + 1) + 0 ≤ 601024; omega, by show 7293034 - 60 * (n + 1) + 0 ≤ 7293034; omega⟩ (fun z9 Z9 H locs hF7 hw => ?_)
  refine lv_aload_n E.1 E.2.1 dL_law_445 rfl (lv_at hl 2 rfl) ?_
  refine lz_c8 (rest := [.int (iI z9)]) G hw (vX8_inputLength l X d rr Z Y hS).toE (cwV 0 E.2.2.2.2 gL_law_X8_inputLength rfl rfl rfl (by decide +kernel) ⟨Nat.le_of_ble_eq_true rfl, Nat.le_of_ble_eq_true rfl⟩) hl.1 rfl rfl (Nat.le_of_ble_eq_true rfl) dL_law_446 ⟨by show 601024 - 10 * (n + 1) + 0 + 0 ≤ 601024; omega, by show 7293034 - 60 * (n + 1) + 0 + 0 ≤ 7293034; omega⟩ (fun b9 Y9 H locs hF8 hw => ?_)
  obtain ⟨hJ, hS9⟩ := J_inputLength hS  hF7 hF8
  refine lv_icmp_eq (tgt := 3317) E.1 E.2.1 dL_law_449 rfl (fun _ => ?_) (fun q => absurd (by rw [hJ]) q)
  exact lz_on k hS9 hw hl (by omega) (by omega)
set_option maxHeartbeats 1000000 in
set_option maxRecDepth 100000 in
theorem st_runScript (G : LF p l s m meth c b L xs X cJ kS) (hi : 0 ≤ i ∧ i + 6 ≤ L) (hn : n < 1000) (k : GO p l e s m below meth c b X cJ ad pa pb qa qb ra rb ha hb d rr oa i n 3317) : GO p l e s m below meth c b X cJ ad pa pb qa qb ra rb ha hb d rr oa i (n + 1) 454 := by
  intro Z g Y H locs ls hS hw hl
  have E := G.1
  refine lv_aload_n E.1 E.2.1 dL_law_454 rfl (lv_at hl 3 rfl) ?_
  refine lz_c7 (rest := []) G hw (vX7_runScript l X kS ad pa pb qa qb ra rb ha hb Z Y hS) (cwV 0 E.2.2.2.2 gL_law_X7_runScript rfl rfl rfl (by decide +kernel) ⟨Nat.le_of_ble_eq_true rfl, Nat.le_of_ble_eq_true rfl⟩) hl.1 rfl rfl (Nat.le_of_ble_eq_true rfl) dL_law_455 ⟨by show 601024 - 10 * (n + 1) + 0 ≤ 601024; omega, by show 7293034 - 60 * (n + 1) + 0 ≤ 7293034; omega⟩ (fun z9 Z9 H locs hF7 hw => ?_)
  refine lv_aload_n E.1 E.2.1 dL_law_458 rfl (lv_at hl 2 rfl) ?_
  refine lz_c8 (rest := [.int (iI z9)]) G hw (vX8_runScript l X kS d rr Z Y hS) (cwV 0 E.2.2.2.2 gL_law_X8_runScript rfl rfl rfl (by decide +kernel) ⟨Nat.le_of_ble_eq_true rfl, Nat.le_of_ble_eq_true rfl⟩) hl.1 rfl rfl (Nat.le_of_ble_eq_true rfl) dL_law_459 ⟨by show 601024 - 10 * (n + 1) + 0 + 0 ≤ 601024; omega, by show 7293034 - 60 * (n + 1) + 0 + 0 ≤ 7293034; omega⟩ (fun b9 Y9 H locs hF8 hw => ?_)
  obtain ⟨hJ, hS9⟩ := J_runScript hS  hF7 hF8
  refine lv_icmp_eq (tgt := 3317) E.1 E.2.1 dL_law_462 rfl (fun _ => ?_) (fun q => absurd (by rw [hJ]) q)
  exact lz_on k hS9 hw hl (by omega) (by omega)
set_option maxHeartbeats 1000000 in
set_option maxRecDepth 100000 in
theorem st_openLoan (G : LF p l s m meth c b L xs X cJ kS) (hi : 0 ≤ i ∧ i + 6 ≤ L) (hn : n < 1000) (k : GO p l e s m below meth c b X cJ ad pa pb qa qb ra rb ha hb d rr oa i n 3317) : GO p l e s m below meth c b X cJ ad pa pb qa qb ra rb ha hb d rr oa i (n + 1) 467 := by
  intro Z g Y H locs ls hS hw hl
  have E := G.1
  refine lv_aload_n E.1 E.2.1 dL_law_467 rfl (lv_at hl 3 rfl) ?_
  refine lz_rd (i := i) (j := 1) G hw (by omega) (lv_at hl 4 rfl) (lv_at hl 0 rfl) dL_law_468 dL_law_469 dL_law_471 dL_law_472 dL_law_473 ?_
  refine lz_rd (i := i) (j := 2) G hw (by omega) (lv_at hl 4 rfl) (lv_at hl 0 rfl) dL_law_474 dL_law_475 dL_law_477 dL_law_478 dL_law_479 ?_
  refine lz_rd (i := i) (j := 3) G hw (by omega) (lv_at hl 4 rfl) (lv_at hl 0 rfl) dL_law_480 dL_law_481 dL_law_483 dL_law_484 dL_law_485 ?_
  refine lv_aload_n E.1 E.2.1 dL_law_486 rfl (lv_at hl 1 rfl) ?_
  refine lz_cL (rest := []) G hw (kL_openLoan l X cJ kS G.2.2.2.2.2.2.2.2.1 ad pa pb qa qb ra rb ha hb Z Y hS (xz xs (i + 1)) (xz xs (i + 2)) (xz xs (i + 3)) (i32_of _) (i32_of _) (i32_of _) oa g) (vx_cwSW 5 E.2.2.2.2 gL_law_L_openLoan rfl rfl rfl (by decide +kernel) ⟨Nat.le_of_ble_eq_true rfl, Nat.le_of_ble_eq_true rfl⟩) hl.1 rfl rfl (Nat.le_of_ble_eq_true rfl) dL_law_487 ⟨by show 601024 - 10 * (n + 1) + 4 ≤ 601024; omega, by show 7293034 - 60 * (n + 1) + 24 ≤ 7293034; omega⟩ (fun k9 Z9 g9 H locs hF7 hw => ?_)
  have hkr : 0 ≤ k9 ∧ k9 ≤ 3 := by
    rcases hF7 with ⟨h, -⟩ | ⟨h, -⟩ | ⟨h, -⟩ <;> omega
  refine lv_istore (lv' := (5, .int (iI k9)) :: LVi b ad d oa i) E.1 E.2.1 dL_law_490 hl (by decide) rfl (fun ls hl => ?_)
  refine lv_aload_n E.1 E.2.1 dL_law_492 rfl (lv_at hl 3 rfl) ?_
  refine lz_rd (i := i) (j := 1) G hw (by omega) (lv_at hl 5 rfl) (lv_at hl 1 rfl) dL_law_493 dL_law_494 dL_law_496 dL_law_497 dL_law_498 ?_
  refine lz_rd (i := i) (j := 2) G hw (by omega) (lv_at hl 5 rfl) (lv_at hl 1 rfl) dL_law_499 dL_law_500 dL_law_502 dL_law_503 dL_law_504 ?_
  refine lz_rd (i := i) (j := 3) G hw (by omega) (lv_at hl 5 rfl) (lv_at hl 1 rfl) dL_law_505 dL_law_506 dL_law_508 dL_law_509 dL_law_510 ?_
  refine lz_c8 (rest := []) G hw (vX8_openLoan l X kS d rr Z Y hS (xz xs (i + 1)) (xz xs (i + 2)) (xz xs (i + 3)) (i32_of _) (i32_of _) (i32_of _)) (cwV 3 E.2.2.2.2 gL_law_X8_openLoan rfl rfl rfl (by decide +kernel) ⟨Nat.le_of_ble_eq_true rfl, Nat.le_of_ble_eq_true rfl⟩) hl.1 rfl rfl (Nat.le_of_ble_eq_true rfl) dL_law_511 ⟨by show 601024 - 10 * (n + 1) + 4 + 0 ≤ 601024; omega, by show 7293034 - 60 * (n + 1) + 24 + 0 ≤ 7293034; omega⟩ (fun b9 Y9 H locs hF8 hw => ?_)
  exact lz_tail G ⟨dL_law_514, dL_law_516, dL_law_517, dL_law_520, dL_law_522, dL_law_527⟩ ⟨dL_law_529, dL_law_532, dL_law_533, dL_law_534, dL_law_535, dL_law_537, dL_law_538, dL_law_539⟩ dL_law_544 rfl hkr (J_openLoan hS  hF7 hF8) hw hl k (by omega) (by omega)
set_option maxHeartbeats 1000000 in
set_option maxRecDepth 100000 in
theorem st_pay (G : LF p l s m meth c b L xs X cJ kS) (hi : 0 ≤ i ∧ i + 6 ≤ L) (hn : n < 1000) (k : GO p l e s m below meth c b X cJ ad pa pb qa qb ra rb ha hb d rr oa i n 3317) : GO p l e s m below meth c b X cJ ad pa pb qa qb ra rb ha hb d rr oa i (n + 1) 547 := by
  intro Z g Y H locs ls hS hw hl
  have E := G.1
  refine lv_aload_n E.1 E.2.1 dL_law_547 rfl (lv_at hl 3 rfl) ?_
  refine lz_rd (i := i) (j := 1) G hw (by omega) (lv_at hl 4 rfl) (lv_at hl 0 rfl) dL_law_548 dL_law_549 dL_law_551 dL_law_552 dL_law_553 ?_
  refine lv_aload_n E.1 E.2.1 dL_law_554 rfl (lv_at hl 1 rfl) ?_
  refine lz_cL (rest := []) G hw (kL_pay l X cJ kS G.2.2.2.2.2.2.2.2.1 ad pa pb qa qb ra rb ha hb Z Y hS (xz xs (i + 1)) (i32_of _) oa g) (vx_cwSW 3 E.2.2.2.2 gL_law_L_pay rfl rfl rfl (by decide +kernel) ⟨Nat.le_of_ble_eq_true rfl, Nat.le_of_ble_eq_true rfl⟩) hl.1 rfl rfl (Nat.le_of_ble_eq_true rfl) dL_law_555 ⟨by show 601024 - 10 * (n + 1) + 2 ≤ 601024; omega, by show 7293034 - 60 * (n + 1) + 12 ≤ 7293034; omega⟩ (fun k9 Z9 g9 H locs hF7 hw => ?_)
  have hkr : 0 ≤ k9 ∧ k9 ≤ 3 := by
    rcases hF7 with ⟨h, -⟩ | ⟨h, -⟩ | ⟨h, -⟩ <;> omega
  refine lv_istore (lv' := (5, .int (iI k9)) :: LVi b ad d oa i) E.1 E.2.1 dL_law_558 hl (by decide) rfl (fun ls hl => ?_)
  refine lv_aload_n E.1 E.2.1 dL_law_560 rfl (lv_at hl 3 rfl) ?_
  refine lz_rd (i := i) (j := 1) G hw (by omega) (lv_at hl 5 rfl) (lv_at hl 1 rfl) dL_law_561 dL_law_562 dL_law_564 dL_law_565 dL_law_566 ?_
  refine lz_c8 (rest := []) G hw (vX8_pay l X kS d rr Z Y hS (xz xs (i + 1)) (i32_of _)) (cwV 1 E.2.2.2.2 gL_law_X8_pay rfl rfl rfl (by decide +kernel) ⟨Nat.le_of_ble_eq_true rfl, Nat.le_of_ble_eq_true rfl⟩) hl.1 rfl rfl (Nat.le_of_ble_eq_true rfl) dL_law_567 ⟨by show 601024 - 10 * (n + 1) + 2 + 0 ≤ 601024; omega, by show 7293034 - 60 * (n + 1) + 12 + 0 ≤ 7293034; omega⟩ (fun b9 Y9 H locs hF8 hw => ?_)
  exact lz_tail G ⟨dL_law_570, dL_law_572, dL_law_573, dL_law_576, dL_law_578, dL_law_583⟩ ⟨dL_law_585, dL_law_588, dL_law_589, dL_law_590, dL_law_591, dL_law_593, dL_law_594, dL_law_595⟩ dL_law_600 rfl hkr (J_pay hS  hF7 hF8) hw hl k (by omega) (by omega)
set_option maxHeartbeats 1000000 in
set_option maxRecDepth 100000 in
theorem st_payAll (G : LF p l s m meth c b L xs X cJ kS) (hi : 0 ≤ i ∧ i + 6 ≤ L) (hn : n < 1000) (k : GO p l e s m below meth c b X cJ ad pa pb qa qb ra rb ha hb d rr oa i n 3317) : GO p l e s m below meth c b X cJ ad pa pb qa qb ra rb ha hb d rr oa i (n + 1) 603 := by
  intro Z g Y H locs ls hS hw hl
  have E := G.1
  refine lv_aload_n E.1 E.2.1 dL_law_603 rfl (lv_at hl 3 rfl) ?_
  refine lz_c7 (rest := []) G hw (vX7_payAll l X ad pa pb qa qb ra rb ha hb Z Y hS).toE (cwV 0 E.2.2.2.2 gL_law_X7_payAll rfl rfl rfl (by decide +kernel) ⟨Nat.le_of_ble_eq_true rfl, Nat.le_of_ble_eq_true rfl⟩) hl.1 rfl rfl (Nat.le_of_ble_eq_true rfl) dL_law_604 ⟨by show 601024 - 10 * (n + 1) + 0 ≤ 601024; omega, by show 7293034 - 60 * (n + 1) + 0 ≤ 7293034; omega⟩ (fun z9 Z9 H locs hF7 hw => ?_)
  refine lv_aload_n E.1 E.2.1 dL_law_607 rfl (lv_at hl 2 rfl) ?_
  refine lz_c8 (rest := [.int (iI z9)]) G hw (vX8_payAll l X kS d rr Z Y hS) (cwV 0 E.2.2.2.2 gL_law_X8_payAll rfl rfl rfl (by decide +kernel) ⟨Nat.le_of_ble_eq_true rfl, Nat.le_of_ble_eq_true rfl⟩) hl.1 rfl rfl (Nat.le_of_ble_eq_true rfl) dL_law_608 ⟨by show 601024 - 10 * (n + 1) + 0 + 0 ≤ 601024; omega, by show 7293034 - 60 * (n + 1) + 0 + 0 ≤ 7293034; omega⟩ (fun b9 Y9 H locs hF8 hw => ?_)
  obtain ⟨hJ, hS9⟩ := J_payAll hS  hF7 hF8
  refine lv_icmp_eq (tgt := 3317) E.1 E.2.1 dL_law_611 rfl (fun _ => ?_) (fun q => absurd (by rw [hJ]) q)
  exact lz_on k hS9 hw hl (by omega) (by omega)
set_option maxHeartbeats 1000000 in
set_option maxRecDepth 100000 in
theorem st_payExtra (G : LF p l s m meth c b L xs X cJ kS) (hi : 0 ≤ i ∧ i + 6 ≤ L) (hn : n < 1000) (k : GO p l e s m below meth c b X cJ ad pa pb qa qb ra rb ha hb d rr oa i n 3317) : GO p l e s m below meth c b X cJ ad pa pb qa qb ra rb ha hb d rr oa i (n + 1) 616 := by
  intro Z g Y H locs ls hS hw hl
  have E := G.1
  refine lv_aload_n E.1 E.2.1 dL_law_616 rfl (lv_at hl 3 rfl) ?_
  refine lz_rd (i := i) (j := 1) G hw (by omega) (lv_at hl 4 rfl) (lv_at hl 0 rfl) dL_law_617 dL_law_618 dL_law_620 dL_law_621 dL_law_622 ?_
  refine lz_rd (i := i) (j := 2) G hw (by omega) (lv_at hl 4 rfl) (lv_at hl 0 rfl) dL_law_623 dL_law_624 dL_law_626 dL_law_627 dL_law_628 ?_
  refine lz_rd (i := i) (j := 3) G hw (by omega) (lv_at hl 4 rfl) (lv_at hl 0 rfl) dL_law_629 dL_law_630 dL_law_632 dL_law_633 dL_law_634 ?_
  refine lz_bo G (i32_of _) dL_law_635 dL_law_638 dL_law_639 dL_law_642 ?_
  refine lv_aload_n E.1 E.2.1 dL_law_643 rfl (lv_at hl 1 rfl) ?_
  refine lz_cL (rest := []) G hw (kL_payExtra l X cJ kS G.2.2.2.2.2.2.2.2.1 ad pa pb qa qb ra rb ha hb Z Y hS (xz xs (i + 1)) (xz xs (i + 2)) (bz (xz xs (i + 3))) (i32_of _) (i32_of _) (bz_r _) oa g) (vx_cwSW 5 E.2.2.2.2 gL_law_L_payExtra rfl rfl rfl (by decide +kernel) ⟨Nat.le_of_ble_eq_true rfl, Nat.le_of_ble_eq_true rfl⟩) hl.1 rfl rfl (Nat.le_of_ble_eq_true rfl) dL_law_644 ⟨by show 601024 - 10 * (n + 1) + 3 ≤ 601024; omega, by show 7293034 - 60 * (n + 1) + 18 ≤ 7293034; omega⟩ (fun k9 Z9 g9 H locs hF7 hw => ?_)
  have hkr : 0 ≤ k9 ∧ k9 ≤ 3 := by
    rcases hF7 with ⟨h, -⟩ | ⟨h, -⟩ | ⟨h, -⟩ | ⟨h, -⟩ <;> omega
  refine lv_istore (lv' := (5, .int (iI k9)) :: LVi b ad d oa i) E.1 E.2.1 dL_law_647 hl (by decide) rfl (fun ls hl => ?_)
  refine lv_aload_n E.1 E.2.1 dL_law_649 rfl (lv_at hl 3 rfl) ?_
  refine lz_rd (i := i) (j := 1) G hw (by omega) (lv_at hl 5 rfl) (lv_at hl 1 rfl) dL_law_650 dL_law_651 dL_law_653 dL_law_654 dL_law_655 ?_
  refine lz_rd (i := i) (j := 2) G hw (by omega) (lv_at hl 5 rfl) (lv_at hl 1 rfl) dL_law_656 dL_law_657 dL_law_659 dL_law_660 dL_law_661 ?_
  refine lz_rd (i := i) (j := 3) G hw (by omega) (lv_at hl 5 rfl) (lv_at hl 1 rfl) dL_law_662 dL_law_663 dL_law_665 dL_law_666 dL_law_667 ?_
  refine lz_bo G (i32_of _) dL_law_668 dL_law_671 dL_law_672 dL_law_675 ?_
  refine lz_c8 (rest := []) G hw (vX8_payExtra l X kS d rr Z Y hS (xz xs (i + 1)) (xz xs (i + 2)) (bz (xz xs (i + 3))) (i32_of _) (i32_of _) (bz_r _)) (cwV 3 E.2.2.2.2 gL_law_X8_payExtra rfl rfl rfl (by decide +kernel) ⟨Nat.le_of_ble_eq_true rfl, Nat.le_of_ble_eq_true rfl⟩) hl.1 rfl rfl (Nat.le_of_ble_eq_true rfl) dL_law_676 ⟨by show 601024 - 10 * (n + 1) + 3 + 0 ≤ 601024; omega, by show 7293034 - 60 * (n + 1) + 18 + 0 ≤ 7293034; omega⟩ (fun b9 Y9 H locs hF8 hw => ?_)
  exact lz_tail G ⟨dL_law_679, dL_law_681, dL_law_682, dL_law_685, dL_law_687, dL_law_692⟩ ⟨dL_law_694, dL_law_697, dL_law_698, dL_law_699, dL_law_700, dL_law_702, dL_law_703, dL_law_704⟩ dL_law_709 rfl hkr (J_payExtra hS (bz_r _) hF7 hF8) hw hl k (by omega) (by omega)
end LAW3
