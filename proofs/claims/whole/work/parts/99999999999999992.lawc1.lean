/-! 99999999999999992: the law, calls 0 to 19 (printed by wip/whole/mkcases.py) -/
set_option maxHeartbeats 800000 in
theorem law_c0 {X : e_XT} {d T i ax am ao ad : Nat} {a6 a7 a8 : Option Value} {S : e_SS} {Q : e_Rt → e_SS → Prop} (hX : (X 8).1 = 0) (hXX : v_X X) (hi : i + 8 ≤ (X 0).1) (hL : (X 0).1 ≤ 4096) (hT : T < 512) (h : h_L T ax am ao ad S) (k : ∀ S2 a6 a7 a8, h_L (T + 1) ax am ao ad S2 → s_w X (d + 13) K_law 4021 (l_ll ax am ao ad i a6 a7 a8) [] S2 Q) : s_w X (d + 13) K_law 292 (l_ll ax am ao ad i a6 a7 a8) [] S Q := by
  have h0 := h.f (Nat.le_of_lt hT)
  have hc := h0.1.2.2
  obtain ⟨p, I, J, c, w⟩ := S
  refine w_op (K := K_law) (pc' := 293) (ll' := (l_ll ax am ao ad i a6 a7 a8)) (st' := [.ref ax]) dL_law_292 rfl ?_
  refine l_arg1 (pc := 293) (n := 1) dL_law_293 dL_law_294 dL_law_296 dL_law_297 dL_law_298 (by decide) (by omega) hL hc ?_
  refine l_arg1 (pc := 299) (n := 2) dL_law_299 dL_law_300 dL_law_302 dL_law_303 dL_law_304 (by decide) (by omega) hL hc ?_
  refine l_arg1 (pc := 305) (n := 3) dL_law_305 dL_law_306 dL_law_308 dL_law_309 dL_law_310 (by decide) (by omega) hL hc ?_
  refine l_arg1 (pc := 311) (n := 4) dL_law_311 dL_law_312 dL_law_314 dL_law_315 dL_law_316 (by decide) (by omega) hL hc ?_
  refine l_arg1 (pc := 317) (n := 5) dL_law_317 dL_law_318 dL_law_320 dL_law_321 dL_law_322 (by decide) (by omega) hL hc ?_
  refine l_arg2 (pc := 323) (n := 6) dL_law_323 dL_law_324 dL_law_326 dL_law_328 dL_law_329 (by decide) (by omega) hL hc ?_
  refine l_arg2 (pc := 330) (n := 7) dL_law_330 dL_law_331 dL_law_333 dL_law_335 dL_law_336 (by decide) (by omega) hL hc ?_
  refine w_op (K := K_law) (pc' := 338) (ll' := (l_ll ax am ao ad i a6 a7 a8)) (st' := [.ref ao, .int ((X 0).2 (i + 7)), .int ((X 0).2 (i + 6)), .int ((X 0).2 (i + 5)), .int ((X 0).2 (i + 4)), .int ((X 0).2 (i + 3)), .int ((X 0).2 (i + 2)), .int ((X 0).2 (i + 1)), .ref ax]) dL_law_337 rfl ?_
  refine t_callS (K := K_law) (As := [.ref ax, .int ((X 0).2 (i + 1)), .int ((X 0).2 (i + 2)), .int ((X 0).2 (i + 3)), .int ((X 0).2 (i + 4)), .int ((X 0).2 (i + 5)), .int ((X 0).2 (i + 6)), .int ((X 0).2 (i + 7)), .ref ao]) (rest := []) dL_law_338 rfl rM_L_rank (by decide) rfl rfl (by decide) (Nat.le_of_ble_eq_true rfl) (lp_rank (d := d) (hX := hX) (hT := hT)  (h := h) (k := fun k' S1 hB => ?_))
  show s_w X (d + 13) K_law 341 (l_ll ax am ao ad i a6 a7 a8) [.int k'] S1 Q
  refine l_is6 (pc := 341) dL_law_341 ?_
  have hf := (hB (fun _ _ => True) (fun _ _ _ _ _ => trivial)).1
  refine w_op (K := K_law) (pc' := 344) (ll' := (l_ll ax am ao ad i (some (.int k')) a7 a8)) (st' := [.ref am]) dL_law_343 rfl ?_
  refine l_arg1 (pc := 344) (n := 1) dL_law_344 dL_law_345 dL_law_347 dL_law_348 dL_law_349 (by decide) (by omega) hL hf.2.2 ?_
  refine l_arg1 (pc := 350) (n := 2) dL_law_350 dL_law_351 dL_law_353 dL_law_354 dL_law_355 (by decide) (by omega) hL hf.2.2 ?_
  refine l_arg1 (pc := 356) (n := 3) dL_law_356 dL_law_357 dL_law_359 dL_law_360 dL_law_361 (by decide) (by omega) hL hf.2.2 ?_
  refine l_arg1 (pc := 362) (n := 4) dL_law_362 dL_law_363 dL_law_365 dL_law_366 dL_law_367 (by decide) (by omega) hL hf.2.2 ?_
  refine l_arg1 (pc := 368) (n := 5) dL_law_368 dL_law_369 dL_law_371 dL_law_372 dL_law_373 (by decide) (by omega) hL hf.2.2 ?_
  refine l_arg2 (pc := 374) (n := 6) dL_law_374 dL_law_375 dL_law_377 dL_law_379 dL_law_380 (by decide) (by omega) hL hf.2.2 ?_
  refine l_arg2 (pc := 381) (n := 7) dL_law_381 dL_law_382 dL_law_384 dL_law_386 dL_law_387 (by decide) (by omega) hL hf.2.2 ?_
  refine l_callM (As := [.int ((X 0).2 (i + 1)), .int ((X 0).2 (i + 2)), .int ((X 0).2 (i + 3)), .int ((X 0).2 (i + 4)), .int ((X 0).2 (i + 5)), .int ((X 0).2 (i + 6)), .int ((X 0).2 (i + 7))]) (rest := []) dL_law_388 rfl rM_X16_rank (by decide) rfl rfl (by decide) rfl (Nat.le_of_ble_eq_true rfl) hf ((hB _ (fun b S2 h2 ht hb => ?_)).2)
  show s_w X (d + 13) K_law 391 (l_ll ax am ao ad i (some (.int k')) a7 a8) [.int b] S2 Q
  exact law_tI (pc := 391) dL_law_391 dL_law_393 dL_law_394 dL_law_397 dL_law_399 dL_law_404 dL_law_406 dL_law_409 dL_law_410 dL_law_411 dL_law_412 dL_law_414 dL_law_415 dL_law_416 dL_law_421 (by decide) hT h2 ht hb (fun a6 a7 a8 => k S2 a6 a7 a8 h2)
set_option maxHeartbeats 800000 in
theorem law_c1 {X : e_XT} {d T i ax am ao ad : Nat} {a6 a7 a8 : Option Value} {S : e_SS} {Q : e_Rt → e_SS → Prop} (hX : (X 8).1 = 0) (hXX : v_X X) (hi : i + 8 ≤ (X 0).1) (hL : (X 0).1 ≤ 4096) (hT : T < 512) (h : h_L T ax am ao ad S) (k : ∀ S2 a6 a7 a8, h_L (T + 1) ax am ao ad S2 → s_w X (d + 13) K_law 4021 (l_ll ax am ao ad i a6 a7 a8) [] S2 Q) : s_w X (d + 13) K_law 424 (l_ll ax am ao ad i a6 a7 a8) [] S Q := by
  have h0 := h.f (Nat.le_of_lt hT)
  have hc := h0.1.2.2
  obtain ⟨p, I, J, c, w⟩ := S
  refine w_op (K := K_law) (pc' := 425) (ll' := (l_ll ax am ao ad i a6 a7 a8)) (st' := [.ref ax]) dL_law_424 rfl ?_
  refine l_arg1 (pc := 425) (n := 1) dL_law_425 dL_law_426 dL_law_428 dL_law_429 dL_law_430 (by decide) (by omega) hL hc ?_
  refine w_op (K := K_law) (pc' := 432) (ll' := (l_ll ax am ao ad i a6 a7 a8)) (st' := [.ref ao, .int ((X 0).2 (i + 1)), .ref ax]) dL_law_431 rfl ?_
  refine t_callS (K := K_law) (As := [.ref ax, .int ((X 0).2 (i + 1)), .ref ao]) (rest := []) dL_law_432 rfl rM_L_stop (by decide) rfl rfl (by decide) (Nat.le_of_ble_eq_true rfl) (lp_stop (d := d) (hX := hX) (hT := hT)  (h := h) (k := fun k' S1 hB => ?_))
  show s_w X (d + 13) K_law 435 (l_ll ax am ao ad i a6 a7 a8) [.int k'] S1 Q
  refine l_is6 (pc := 435) dL_law_435 ?_
  have hf := (hB (fun _ _ => True) (fun _ _ _ _ _ => trivial)).1
  refine w_op (K := K_law) (pc' := 438) (ll' := (l_ll ax am ao ad i (some (.int k')) a7 a8)) (st' := [.ref am]) dL_law_437 rfl ?_
  refine l_arg1 (pc := 438) (n := 1) dL_law_438 dL_law_439 dL_law_441 dL_law_442 dL_law_443 (by decide) (by omega) hL hf.2.2 ?_
  refine l_callM (As := [.int ((X 0).2 (i + 1))]) (rest := []) dL_law_444 rfl rM_X16_stop (by decide) rfl rfl (by decide) rfl (Nat.le_of_ble_eq_true rfl) hf ((hB _ (fun b S2 h2 ht hb => ?_)).2)
  show s_w X (d + 13) K_law 447 (l_ll ax am ao ad i (some (.int k')) a7 a8) [.int b] S2 Q
  exact law_tI (pc := 447) dL_law_447 dL_law_449 dL_law_450 dL_law_453 dL_law_455 dL_law_460 dL_law_462 dL_law_465 dL_law_466 dL_law_467 dL_law_468 dL_law_470 dL_law_471 dL_law_472 dL_law_477 (by decide) hT h2 ht hb (fun a6 a7 a8 => k S2 a6 a7 a8 h2)
set_option maxHeartbeats 800000 in
theorem law_c2 {X : e_XT} {d T i ax am ao ad : Nat} {a6 a7 a8 : Option Value} {S : e_SS} {Q : e_Rt → e_SS → Prop} (hX : (X 8).1 = 0) (hXX : v_X X) (hi : i + 8 ≤ (X 0).1) (hL : (X 0).1 ≤ 4096) (hT : T < 512) (h : h_L T ax am ao ad S) (k : ∀ S2 a6 a7 a8, h_L (T + 1) ax am ao ad S2 → s_w X (d + 13) K_law 4021 (l_ll ax am ao ad i a6 a7 a8) [] S2 Q) : s_w X (d + 13) K_law 480 (l_ll ax am ao ad i a6 a7 a8) [] S Q := by
  have h0 := h.f (Nat.le_of_lt hT)
  have hc := h0.1.2.2
  obtain ⟨p, I, J, c, w⟩ := S
  refine w_op (K := K_law) (pc' := 481) (ll' := (l_ll ax am ao ad i a6 a7 a8)) (st' := [.ref ax]) dL_law_480 rfl ?_
  refine l_arg1 (pc := 481) (n := 1) dL_law_481 dL_law_482 dL_law_484 dL_law_485 dL_law_486 (by decide) (by omega) hL hc ?_
  refine l_arg1 (pc := 487) (n := 2) dL_law_487 dL_law_488 dL_law_490 dL_law_491 dL_law_492 (by decide) (by omega) hL hc ?_
  refine l_arg1 (pc := 493) (n := 3) dL_law_493 dL_law_494 dL_law_496 dL_law_497 dL_law_498 (by decide) (by omega) hL hc ?_
  refine l_arg1 (pc := 499) (n := 4) dL_law_499 dL_law_500 dL_law_502 dL_law_503 dL_law_504 (by decide) (by omega) hL hc ?_
  refine l_arg1 (pc := 505) (n := 5) dL_law_505 dL_law_506 dL_law_508 dL_law_509 dL_law_510 (by decide) (by omega) hL hc ?_
  refine w_op (K := K_law) (pc' := 512) (ll' := (l_ll ax am ao ad i a6 a7 a8)) (st' := [.ref ao, .int ((X 0).2 (i + 5)), .int ((X 0).2 (i + 4)), .int ((X 0).2 (i + 3)), .int ((X 0).2 (i + 2)), .int ((X 0).2 (i + 1)), .ref ax]) dL_law_511 rfl ?_
  refine t_callS (K := K_law) (As := [.ref ax, .int ((X 0).2 (i + 1)), .int ((X 0).2 (i + 2)), .int ((X 0).2 (i + 3)), .int ((X 0).2 (i + 4)), .int ((X 0).2 (i + 5)), .ref ao]) (rest := []) dL_law_512 rfl rM_L_row (by decide) rfl rfl (by decide) (Nat.le_of_ble_eq_true rfl) (lp_row (d := d) (hX := hX) (hT := hT)  (h := h) (k := fun k' S1 hB => ?_))
  show s_w X (d + 13) K_law 515 (l_ll ax am ao ad i a6 a7 a8) [.int k'] S1 Q
  refine l_is6 (pc := 515) dL_law_515 ?_
  have hf := (hB (fun _ _ => True) (fun _ _ _ _ _ => trivial)).1
  refine w_op (K := K_law) (pc' := 518) (ll' := (l_ll ax am ao ad i (some (.int k')) a7 a8)) (st' := [.ref am]) dL_law_517 rfl ?_
  refine l_arg1 (pc := 518) (n := 1) dL_law_518 dL_law_519 dL_law_521 dL_law_522 dL_law_523 (by decide) (by omega) hL hf.2.2 ?_
  refine l_arg1 (pc := 524) (n := 2) dL_law_524 dL_law_525 dL_law_527 dL_law_528 dL_law_529 (by decide) (by omega) hL hf.2.2 ?_
  refine l_arg1 (pc := 530) (n := 3) dL_law_530 dL_law_531 dL_law_533 dL_law_534 dL_law_535 (by decide) (by omega) hL hf.2.2 ?_
  refine l_arg1 (pc := 536) (n := 4) dL_law_536 dL_law_537 dL_law_539 dL_law_540 dL_law_541 (by decide) (by omega) hL hf.2.2 ?_
  refine l_arg1 (pc := 542) (n := 5) dL_law_542 dL_law_543 dL_law_545 dL_law_546 dL_law_547 (by decide) (by omega) hL hf.2.2 ?_
  refine l_callM (As := [.int ((X 0).2 (i + 1)), .int ((X 0).2 (i + 2)), .int ((X 0).2 (i + 3)), .int ((X 0).2 (i + 4)), .int ((X 0).2 (i + 5))]) (rest := []) dL_law_548 rfl rM_X16_row (by decide) rfl rfl (by decide) rfl (Nat.le_of_ble_eq_true rfl) hf ((hB _ (fun b S2 h2 ht hb => ?_)).2)
  show s_w X (d + 13) K_law 551 (l_ll ax am ao ad i (some (.int k')) a7 a8) [.int b] S2 Q
  exact law_tI (pc := 551) dL_law_551 dL_law_553 dL_law_554 dL_law_557 dL_law_559 dL_law_564 dL_law_566 dL_law_569 dL_law_570 dL_law_571 dL_law_572 dL_law_574 dL_law_575 dL_law_576 dL_law_581 (by decide) hT h2 ht hb (fun a6 a7 a8 => k S2 a6 a7 a8 h2)
set_option maxHeartbeats 800000 in
theorem law_c3 {X : e_XT} {d T i ax am ao ad : Nat} {a6 a7 a8 : Option Value} {S : e_SS} {Q : e_Rt → e_SS → Prop} (hX : (X 8).1 = 0) (hXX : v_X X) (hi : i + 8 ≤ (X 0).1) (hL : (X 0).1 ≤ 4096) (hT : T < 512) (h : h_L T ax am ao ad S) (k : ∀ S2 a6 a7 a8, h_L (T + 1) ax am ao ad S2 → s_w X (d + 13) K_law 4021 (l_ll ax am ao ad i a6 a7 a8) [] S2 Q) : s_w X (d + 13) K_law 584 (l_ll ax am ao ad i a6 a7 a8) [] S Q := by
  have h0 := h.f (Nat.le_of_lt hT)
  have hc := h0.1.2.2
  obtain ⟨p, I, J, c, w⟩ := S
  refine w_op (K := K_law) (pc' := 585) (ll' := (l_ll ax am ao ad i a6 a7 a8)) (st' := [.ref ax]) dL_law_584 rfl ?_
  refine l_arg1 (pc := 585) (n := 1) dL_law_585 dL_law_586 dL_law_588 dL_law_589 dL_law_590 (by decide) (by omega) hL hc ?_
  refine l_arg1 (pc := 591) (n := 2) dL_law_591 dL_law_592 dL_law_594 dL_law_595 dL_law_596 (by decide) (by omega) hL hc ?_
  refine l_arg1 (pc := 597) (n := 3) dL_law_597 dL_law_598 dL_law_600 dL_law_601 dL_law_602 (by decide) (by omega) hL hc ?_
  refine w_op (K := K_law) (pc' := 604) (ll' := (l_ll ax am ao ad i a6 a7 a8)) (st' := [.ref ao, .int ((X 0).2 (i + 3)), .int ((X 0).2 (i + 2)), .int ((X 0).2 (i + 1)), .ref ax]) dL_law_603 rfl ?_
  refine t_callS (K := K_law) (As := [.ref ax, .int ((X 0).2 (i + 1)), .int ((X 0).2 (i + 2)), .int ((X 0).2 (i + 3)), .ref ao]) (rest := []) dL_law_604 rfl rM_L_cross (by decide) rfl rfl (by decide) (Nat.le_of_ble_eq_true rfl) (lp_cross (d := d) (hX := hX) (hT := hT)  (h := h) (k := fun k' S1 hB => ?_))
  show s_w X (d + 13) K_law 607 (l_ll ax am ao ad i a6 a7 a8) [.int k'] S1 Q
  refine l_is6 (pc := 607) dL_law_607 ?_
  have hf := (hB (fun _ _ => True) (fun _ _ _ _ _ => trivial)).1
  refine w_op (K := K_law) (pc' := 610) (ll' := (l_ll ax am ao ad i (some (.int k')) a7 a8)) (st' := [.ref am]) dL_law_609 rfl ?_
  refine l_arg1 (pc := 610) (n := 1) dL_law_610 dL_law_611 dL_law_613 dL_law_614 dL_law_615 (by decide) (by omega) hL hf.2.2 ?_
  refine l_arg1 (pc := 616) (n := 2) dL_law_616 dL_law_617 dL_law_619 dL_law_620 dL_law_621 (by decide) (by omega) hL hf.2.2 ?_
  refine l_arg1 (pc := 622) (n := 3) dL_law_622 dL_law_623 dL_law_625 dL_law_626 dL_law_627 (by decide) (by omega) hL hf.2.2 ?_
  refine l_callM (As := [.int ((X 0).2 (i + 1)), .int ((X 0).2 (i + 2)), .int ((X 0).2 (i + 3))]) (rest := []) dL_law_628 rfl rM_X16_cross (by decide) rfl rfl (by decide) rfl (Nat.le_of_ble_eq_true rfl) hf ((hB _ (fun b S2 h2 ht hb => ?_)).2)
  show s_w X (d + 13) K_law 631 (l_ll ax am ao ad i (some (.int k')) a7 a8) [.int b] S2 Q
  exact law_tI (pc := 631) dL_law_631 dL_law_633 dL_law_634 dL_law_637 dL_law_639 dL_law_644 dL_law_646 dL_law_649 dL_law_650 dL_law_651 dL_law_652 dL_law_654 dL_law_655 dL_law_656 dL_law_661 (by decide) hT h2 ht hb (fun a6 a7 a8 => k S2 a6 a7 a8 h2)
set_option maxHeartbeats 800000 in
theorem law_c4 {X : e_XT} {d T i ax am ao ad : Nat} {a6 a7 a8 : Option Value} {S : e_SS} {Q : e_Rt → e_SS → Prop} (hX : (X 8).1 = 0) (hXX : v_X X) (hi : i + 8 ≤ (X 0).1) (hL : (X 0).1 ≤ 4096) (hT : T < 512) (h : h_L T ax am ao ad S) (k : ∀ S2 a6 a7 a8, h_L (T + 1) ax am ao ad S2 → s_w X (d + 13) K_law 4021 (l_ll ax am ao ad i a6 a7 a8) [] S2 Q) : s_w X (d + 13) K_law 664 (l_ll ax am ao ad i a6 a7 a8) [] S Q := by
  have h0 := h.f (Nat.le_of_lt hT)
  have hc := h0.1.2.2
  obtain ⟨p, I, J, c, w⟩ := S
  refine w_op (K := K_law) (pc' := 665) (ll' := (l_ll ax am ao ad i a6 a7 a8)) (st' := [.ref ax]) dL_law_664 rfl ?_
  refine l_arg1 (pc := 665) (n := 1) dL_law_665 dL_law_666 dL_law_668 dL_law_669 dL_law_670 (by decide) (by omega) hL hc ?_
  refine l_arg1 (pc := 671) (n := 2) dL_law_671 dL_law_672 dL_law_674 dL_law_675 dL_law_676 (by decide) (by omega) hL hc ?_
  refine l_arg1 (pc := 677) (n := 3) dL_law_677 dL_law_678 dL_law_680 dL_law_681 dL_law_682 (by decide) (by omega) hL hc ?_
  refine l_arg1 (pc := 683) (n := 4) dL_law_683 dL_law_684 dL_law_686 dL_law_687 dL_law_688 (by decide) (by omega) hL hc ?_
  refine l_i2c (pc := 689) dL_law_689 ?_
  refine w_op (K := K_law) (pc' := 691) (ll' := (l_ll ax am ao ad i a6 a7 a8)) (st' := [.ref ao, .int (l_ch ((X 0).2 (i + 4))), .int ((X 0).2 (i + 3)), .int ((X 0).2 (i + 2)), .int ((X 0).2 (i + 1)), .ref ax]) dL_law_690 rfl ?_
  refine t_callS (K := K_law) (As := [.ref ax, .int ((X 0).2 (i + 1)), .int ((X 0).2 (i + 2)), .int ((X 0).2 (i + 3)), .int (l_ch ((X 0).2 (i + 4))), .ref ao]) (rest := []) dL_law_691 rfl rM_L_coupler (by decide) rfl rfl (by decide) (Nat.le_of_ble_eq_true rfl) (lp_coupler (d := d) (hX := hX) (hT := hT) (hu := l_chn) (h := h) (k := fun k' S1 hB => ?_))
  show s_w X (d + 13) K_law 694 (l_ll ax am ao ad i a6 a7 a8) [.int k'] S1 Q
  refine l_is6 (pc := 694) dL_law_694 ?_
  have hf := (hB (fun _ _ => True) (fun _ _ _ _ _ => trivial)).1
  refine w_op (K := K_law) (pc' := 697) (ll' := (l_ll ax am ao ad i (some (.int k')) a7 a8)) (st' := [.ref am]) dL_law_696 rfl ?_
  refine l_arg1 (pc := 697) (n := 1) dL_law_697 dL_law_698 dL_law_700 dL_law_701 dL_law_702 (by decide) (by omega) hL hf.2.2 ?_
  refine l_arg1 (pc := 703) (n := 2) dL_law_703 dL_law_704 dL_law_706 dL_law_707 dL_law_708 (by decide) (by omega) hL hf.2.2 ?_
  refine l_arg1 (pc := 709) (n := 3) dL_law_709 dL_law_710 dL_law_712 dL_law_713 dL_law_714 (by decide) (by omega) hL hf.2.2 ?_
  refine l_arg1 (pc := 715) (n := 4) dL_law_715 dL_law_716 dL_law_718 dL_law_719 dL_law_720 (by decide) (by omega) hL hf.2.2 ?_
  refine l_i2c (pc := 721) dL_law_721 ?_
  refine l_callM (As := [.int ((X 0).2 (i + 1)), .int ((X 0).2 (i + 2)), .int ((X 0).2 (i + 3)), .int (l_ch ((X 0).2 (i + 4)))]) (rest := []) dL_law_722 rfl rM_X16_coupler (by decide) rfl rfl (by decide) rfl (Nat.le_of_ble_eq_true rfl) hf ((hB _ (fun b S2 h2 ht hb => ?_)).2)
  show s_w X (d + 13) K_law 725 (l_ll ax am ao ad i (some (.int k')) a7 a8) [.int b] S2 Q
  exact law_tI (pc := 725) dL_law_725 dL_law_727 dL_law_728 dL_law_731 dL_law_733 dL_law_738 dL_law_740 dL_law_743 dL_law_744 dL_law_745 dL_law_746 dL_law_748 dL_law_749 dL_law_750 dL_law_755 (by decide) hT h2 ht hb (fun a6 a7 a8 => k S2 a6 a7 a8 h2)
set_option maxHeartbeats 800000 in
theorem law_c5 {X : e_XT} {d T i ax am ao ad : Nat} {a6 a7 a8 : Option Value} {S : e_SS} {Q : e_Rt → e_SS → Prop} (hX : (X 8).1 = 0) (hXX : v_X X) (hi : i + 8 ≤ (X 0).1) (hL : (X 0).1 ≤ 4096) (hT : T < 512) (h : h_L T ax am ao ad S) (k : ∀ S2 a6 a7 a8, h_L (T + 1) ax am ao ad S2 → s_w X (d + 13) K_law 4021 (l_ll ax am ao ad i a6 a7 a8) [] S2 Q) : s_w X (d + 13) K_law 758 (l_ll ax am ao ad i a6 a7 a8) [] S Q := by
  have h0 := h.f (Nat.le_of_lt hT)
  have hc := h0.1.2.2
  obtain ⟨p, I, J, c, w⟩ := S
  refine w_op (K := K_law) (pc' := 759) (ll' := (l_ll ax am ao ad i a6 a7 a8)) (st' := [.ref ax]) dL_law_758 rfl ?_
  refine l_arg1 (pc := 759) (n := 1) dL_law_759 dL_law_760 dL_law_762 dL_law_763 dL_law_764 (by decide) (by omega) hL hc ?_
  refine w_op (K := K_law) (pc' := 766) (ll' := (l_ll ax am ao ad i a6 a7 a8)) (st' := [.ref ao, .int ((X 0).2 (i + 1)), .ref ax]) dL_law_765 rfl ?_
  refine t_callS (K := K_law) (As := [.ref ax, .int ((X 0).2 (i + 1)), .ref ao]) (rest := []) dL_law_766 rfl rM_L_tremulant (by decide) rfl rfl (by decide) (Nat.le_of_ble_eq_true rfl) (lp_tremulant (d := d) (hX := hX) (hT := hT)  (h := h) (k := fun k' S1 hB => ?_))
  show s_w X (d + 13) K_law 769 (l_ll ax am ao ad i a6 a7 a8) [.int k'] S1 Q
  refine l_is6 (pc := 769) dL_law_769 ?_
  have hf := (hB (fun _ _ => True) (fun _ _ _ _ _ => trivial)).1
  refine w_op (K := K_law) (pc' := 772) (ll' := (l_ll ax am ao ad i (some (.int k')) a7 a8)) (st' := [.ref am]) dL_law_771 rfl ?_
  refine l_arg1 (pc := 772) (n := 1) dL_law_772 dL_law_773 dL_law_775 dL_law_776 dL_law_777 (by decide) (by omega) hL hf.2.2 ?_
  refine l_callM (As := [.int ((X 0).2 (i + 1))]) (rest := []) dL_law_778 rfl rM_X16_tremulant (by decide) rfl rfl (by decide) rfl (Nat.le_of_ble_eq_true rfl) hf ((hB _ (fun b S2 h2 ht hb => ?_)).2)
  show s_w X (d + 13) K_law 781 (l_ll ax am ao ad i (some (.int k')) a7 a8) [.int b] S2 Q
  exact law_tI (pc := 781) dL_law_781 dL_law_783 dL_law_784 dL_law_787 dL_law_789 dL_law_794 dL_law_796 dL_law_799 dL_law_800 dL_law_801 dL_law_802 dL_law_804 dL_law_805 dL_law_806 dL_law_811 (by decide) hT h2 ht hb (fun a6 a7 a8 => k S2 a6 a7 a8 h2)
set_option maxHeartbeats 800000 in
theorem law_c6 {X : e_XT} {d T i ax am ao ad : Nat} {a6 a7 a8 : Option Value} {S : e_SS} {Q : e_Rt → e_SS → Prop} (hX : (X 8).1 = 0) (hXX : v_X X) (hi : i + 8 ≤ (X 0).1) (hL : (X 0).1 ≤ 4096) (hT : T < 512) (h : h_L T ax am ao ad S) (k : ∀ S2 a6 a7 a8, h_L (T + 1) ax am ao ad S2 → s_w X (d + 13) K_law 4021 (l_ll ax am ao ad i a6 a7 a8) [] S2 Q) : s_w X (d + 13) K_law 814 (l_ll ax am ao ad i a6 a7 a8) [] S Q := by
  have h0 := h.f (Nat.le_of_lt hT)
  have hc := h0.1.2.2
  obtain ⟨p, I, J, c, w⟩ := S
  refine w_op (K := K_law) (pc' := 815) (ll' := (l_ll ax am ao ad i a6 a7 a8)) (st' := [.ref ax]) dL_law_814 rfl ?_
  refine l_arg1 (pc := 815) (n := 1) dL_law_815 dL_law_816 dL_law_818 dL_law_819 dL_law_820 (by decide) (by omega) hL hc ?_
  refine l_arg1 (pc := 821) (n := 2) dL_law_821 dL_law_822 dL_law_824 dL_law_825 dL_law_826 (by decide) (by omega) hL hc ?_
  refine l_bool (pc := 827) dL_law_827 dL_law_830 dL_law_831 dL_law_834 ?_
  refine w_op (K := K_law) (pc' := 836) (ll' := (l_ll ax am ao ad i a6 a7 a8)) (st' := [.ref ao, .int (l_b ((X 0).2 (i + 2))), .int ((X 0).2 (i + 1)), .ref ax]) dL_law_835 rfl ?_
  refine t_callS (K := K_law) (As := [.ref ax, .int ((X 0).2 (i + 1)), .int (l_b ((X 0).2 (i + 2))), .ref ao]) (rest := []) dL_law_836 rfl rM_L_draw (by decide) rfl rfl (by decide) (Nat.le_of_ble_eq_true rfl) (lp_draw (d := d) (hX := hX) (hT := hT) (hy := l_b01) (h := h) (k := fun k' S1 hB => ?_))
  show s_w X (d + 13) K_law 839 (l_ll ax am ao ad i a6 a7 a8) [.int k'] S1 Q
  refine l_is6 (pc := 839) dL_law_839 ?_
  have hf := (hB (fun _ _ => True) (fun _ _ _ _ _ => trivial)).1
  refine w_op (K := K_law) (pc' := 842) (ll' := (l_ll ax am ao ad i (some (.int k')) a7 a8)) (st' := [.ref am]) dL_law_841 rfl ?_
  refine l_arg1 (pc := 842) (n := 1) dL_law_842 dL_law_843 dL_law_845 dL_law_846 dL_law_847 (by decide) (by omega) hL hf.2.2 ?_
  refine l_arg1 (pc := 848) (n := 2) dL_law_848 dL_law_849 dL_law_851 dL_law_852 dL_law_853 (by decide) (by omega) hL hf.2.2 ?_
  refine l_bool (pc := 854) dL_law_854 dL_law_857 dL_law_858 dL_law_861 ?_
  refine l_callM (As := [.int ((X 0).2 (i + 1)), .int (l_b ((X 0).2 (i + 2)))]) (rest := []) dL_law_862 rfl rM_X16_draw (by decide) rfl rfl (by decide) rfl (Nat.le_of_ble_eq_true rfl) hf ((hB _ (fun b S2 h2 ht hb => ?_)).2)
  show s_w X (d + 13) K_law 865 (l_ll ax am ao ad i (some (.int k')) a7 a8) [.int b] S2 Q
  exact law_tB (pc := 865) dL_law_865 dL_law_867 dL_law_868 dL_law_871 dL_law_873 dL_law_878 dL_law_880 dL_law_883 dL_law_884 dL_law_885 dL_law_886 dL_law_888 dL_law_891 dL_law_892 dL_law_895 dL_law_896 dL_law_897 dL_law_902 (by decide) hT h2 ht hb (fun a6 a7 a8 => k S2 a6 a7 a8 h2)
set_option maxHeartbeats 800000 in
theorem law_c7 {X : e_XT} {d T i ax am ao ad : Nat} {a6 a7 a8 : Option Value} {S : e_SS} {Q : e_Rt → e_SS → Prop} (hX : (X 8).1 = 0) (hXX : v_X X) (hi : i + 8 ≤ (X 0).1) (hL : (X 0).1 ≤ 4096) (hT : T < 512) (h : h_L T ax am ao ad S) (k : ∀ S2 a6 a7 a8, h_L (T + 1) ax am ao ad S2 → s_w X (d + 13) K_law 4021 (l_ll ax am ao ad i a6 a7 a8) [] S2 Q) : s_w X (d + 13) K_law 905 (l_ll ax am ao ad i a6 a7 a8) [] S Q := by
  have h0 := h.f (Nat.le_of_lt hT)
  have hc := h0.1.2.2
  obtain ⟨p, I, J, c, w⟩ := S
  refine w_op (K := K_law) (pc' := 906) (ll' := (l_ll ax am ao ad i a6 a7 a8)) (st' := [.ref ax]) dL_law_905 rfl ?_
  refine l_arg1 (pc := 906) (n := 1) dL_law_906 dL_law_907 dL_law_909 dL_law_910 dL_law_911 (by decide) (by omega) hL hc ?_
  refine w_op (K := K_law) (pc' := 913) (ll' := (l_ll ax am ao ad i a6 a7 a8)) (st' := [.ref ao, .int ((X 0).2 (i + 1)), .ref ax]) dL_law_912 rfl ?_
  refine t_callS (K := K_law) (As := [.ref ax, .int ((X 0).2 (i + 1)), .ref ao]) (rest := []) dL_law_913 rfl rM_L_isDrawn (by decide) rfl rfl (by decide) (Nat.le_of_ble_eq_true rfl) (lp_isDrawn (d := d) (hX := hX) (hT := hT)  (h := h) (k := fun k' S1 hB => ?_))
  show s_w X (d + 13) K_law 916 (l_ll ax am ao ad i a6 a7 a8) [.int k'] S1 Q
  refine l_is6 (pc := 916) dL_law_916 ?_
  have hf := (hB (fun _ _ => True) (fun _ _ _ _ _ => trivial)).1
  refine w_op (K := K_law) (pc' := 919) (ll' := (l_ll ax am ao ad i (some (.int k')) a7 a8)) (st' := [.ref am]) dL_law_918 rfl ?_
  refine l_arg1 (pc := 919) (n := 1) dL_law_919 dL_law_920 dL_law_922 dL_law_923 dL_law_924 (by decide) (by omega) hL hf.2.2 ?_
  refine l_callM (As := [.int ((X 0).2 (i + 1))]) (rest := []) dL_law_925 rfl rM_X16_isDrawn (by decide) rfl rfl (by decide) rfl (Nat.le_of_ble_eq_true rfl) hf ((hB _ (fun b S2 h2 ht hb => ?_)).2)
  show s_w X (d + 13) K_law 928 (l_ll ax am ao ad i (some (.int k')) a7 a8) [.int b] S2 Q
  exact law_tB (pc := 928) dL_law_928 dL_law_930 dL_law_931 dL_law_934 dL_law_936 dL_law_941 dL_law_943 dL_law_946 dL_law_947 dL_law_948 dL_law_949 dL_law_951 dL_law_954 dL_law_955 dL_law_958 dL_law_959 dL_law_960 dL_law_965 (by decide) hT h2 ht hb (fun a6 a7 a8 => k S2 a6 a7 a8 h2)
set_option maxHeartbeats 800000 in
theorem law_c8 {X : e_XT} {d T i ax am ao ad : Nat} {a6 a7 a8 : Option Value} {S : e_SS} {Q : e_Rt → e_SS → Prop} (hX : (X 8).1 = 0) (hXX : v_X X) (hi : i + 8 ≤ (X 0).1) (hL : (X 0).1 ≤ 4096) (hT : T < 512) (h : h_L T ax am ao ad S) (k : ∀ S2 a6 a7 a8, h_L (T + 1) ax am ao ad S2 → s_w X (d + 13) K_law 4021 (l_ll ax am ao ad i a6 a7 a8) [] S2 Q) : s_w X (d + 13) K_law 968 (l_ll ax am ao ad i a6 a7 a8) [] S Q := by
  have h0 := h.f (Nat.le_of_lt hT)
  have hc := h0.1.2.2
  obtain ⟨p, I, J, c, w⟩ := S
  refine w_op (K := K_law) (pc' := 969) (ll' := (l_ll ax am ao ad i a6 a7 a8)) (st' := [.ref ax]) dL_law_968 rfl ?_
  refine l_arg1 (pc := 969) (n := 1) dL_law_969 dL_law_970 dL_law_972 dL_law_973 dL_law_974 (by decide) (by omega) hL hc ?_
  refine w_op (K := K_law) (pc' := 976) (ll' := (l_ll ax am ao ad i a6 a7 a8)) (st' := [.ref ao, .int ((X 0).2 (i + 1)), .ref ax]) dL_law_975 rfl ?_
  refine t_callS (K := K_law) (As := [.ref ax, .int ((X 0).2 (i + 1)), .ref ao]) (rest := []) dL_law_976 rfl rM_L_isOn (by decide) rfl rfl (by decide) (Nat.le_of_ble_eq_true rfl) (lp_isOn (d := d) (hX := hX) (hT := hT)  (h := h) (k := fun k' S1 hB => ?_))
  show s_w X (d + 13) K_law 979 (l_ll ax am ao ad i a6 a7 a8) [.int k'] S1 Q
  refine l_is6 (pc := 979) dL_law_979 ?_
  have hf := (hB (fun _ _ => True) (fun _ _ _ _ _ => trivial)).1
  refine w_op (K := K_law) (pc' := 982) (ll' := (l_ll ax am ao ad i (some (.int k')) a7 a8)) (st' := [.ref am]) dL_law_981 rfl ?_
  refine l_arg1 (pc := 982) (n := 1) dL_law_982 dL_law_983 dL_law_985 dL_law_986 dL_law_987 (by decide) (by omega) hL hf.2.2 ?_
  refine l_callM (As := [.int ((X 0).2 (i + 1))]) (rest := []) dL_law_988 rfl rM_X16_isOn (by decide) rfl rfl (by decide) rfl (Nat.le_of_ble_eq_true rfl) hf ((hB _ (fun b S2 h2 ht hb => ?_)).2)
  show s_w X (d + 13) K_law 991 (l_ll ax am ao ad i (some (.int k')) a7 a8) [.int b] S2 Q
  exact law_tB (pc := 991) dL_law_991 dL_law_993 dL_law_994 dL_law_997 dL_law_999 dL_law_1004 dL_law_1006 dL_law_1009 dL_law_1010 dL_law_1011 dL_law_1012 dL_law_1014 dL_law_1017 dL_law_1018 dL_law_1021 dL_law_1022 dL_law_1023 dL_law_1028 (by decide) hT h2 ht hb (fun a6 a7 a8 => k S2 a6 a7 a8 h2)
set_option maxHeartbeats 800000 in
theorem law_c9 {X : e_XT} {d T i ax am ao ad : Nat} {a6 a7 a8 : Option Value} {S : e_SS} {Q : e_Rt → e_SS → Prop} (hX : (X 8).1 = 0) (hXX : v_X X) (hi : i + 8 ≤ (X 0).1) (hL : (X 0).1 ≤ 4096) (hT : T < 512) (h : h_L T ax am ao ad S) (k : ∀ S2 a6 a7 a8, h_L (T + 1) ax am ao ad S2 → s_w X (d + 13) K_law 4021 (l_ll ax am ao ad i a6 a7 a8) [] S2 Q) : s_w X (d + 13) K_law 1031 (l_ll ax am ao ad i a6 a7 a8) [] S Q := by
  have h0 := h.f (Nat.le_of_lt hT)
  have hc := h0.1.2.2
  obtain ⟨p, I, J, c, w⟩ := S
  refine w_op (K := K_law) (pc' := 1032) (ll' := (l_ll ax am ao ad i a6 a7 a8)) (st' := [.ref ax]) dL_law_1031 rfl ?_
  refine l_arg1 (pc := 1032) (n := 1) dL_law_1032 dL_law_1033 dL_law_1035 dL_law_1036 dL_law_1037 (by decide) (by omega) hL hc ?_
  refine l_arg1 (pc := 1038) (n := 2) dL_law_1038 dL_law_1039 dL_law_1041 dL_law_1042 dL_law_1043 (by decide) (by omega) hL hc ?_
  refine l_bool (pc := 1044) dL_law_1044 dL_law_1047 dL_law_1048 dL_law_1051 ?_
  refine w_op (K := K_law) (pc' := 1053) (ll' := (l_ll ax am ao ad i a6 a7 a8)) (st' := [.ref ao, .int (l_b ((X 0).2 (i + 2))), .int ((X 0).2 (i + 1)), .ref ax]) dL_law_1052 rfl ?_
  refine t_callS (K := K_law) (As := [.ref ax, .int ((X 0).2 (i + 1)), .int (l_b ((X 0).2 (i + 2))), .ref ao]) (rest := []) dL_law_1053 rfl rM_L_lock (by decide) rfl rfl (by decide) (Nat.le_of_ble_eq_true rfl) (lp_lock (d := d) (hX := hX) (hT := hT) (hy := l_b01) (h := h) (k := fun k' S1 hB => ?_))
  show s_w X (d + 13) K_law 1056 (l_ll ax am ao ad i a6 a7 a8) [.int k'] S1 Q
  refine l_is6 (pc := 1056) dL_law_1056 ?_
  have hf := (hB (fun _ _ => True) (fun _ _ _ _ _ => trivial)).1
  refine w_op (K := K_law) (pc' := 1059) (ll' := (l_ll ax am ao ad i (some (.int k')) a7 a8)) (st' := [.ref am]) dL_law_1058 rfl ?_
  refine l_arg1 (pc := 1059) (n := 1) dL_law_1059 dL_law_1060 dL_law_1062 dL_law_1063 dL_law_1064 (by decide) (by omega) hL hf.2.2 ?_
  refine l_arg1 (pc := 1065) (n := 2) dL_law_1065 dL_law_1066 dL_law_1068 dL_law_1069 dL_law_1070 (by decide) (by omega) hL hf.2.2 ?_
  refine l_bool (pc := 1071) dL_law_1071 dL_law_1074 dL_law_1075 dL_law_1078 ?_
  refine l_callM (As := [.int ((X 0).2 (i + 1)), .int (l_b ((X 0).2 (i + 2)))]) (rest := []) dL_law_1079 rfl rM_X16_lock (by decide) rfl rfl (by decide) rfl (Nat.le_of_ble_eq_true rfl) hf ((hB _ (fun b S2 h2 ht hb => ?_)).2)
  show s_w X (d + 13) K_law 1082 (l_ll ax am ao ad i (some (.int k')) a7 a8) [.int b] S2 Q
  exact law_tB (pc := 1082) dL_law_1082 dL_law_1084 dL_law_1085 dL_law_1088 dL_law_1090 dL_law_1095 dL_law_1097 dL_law_1100 dL_law_1101 dL_law_1102 dL_law_1103 dL_law_1105 dL_law_1108 dL_law_1109 dL_law_1112 dL_law_1113 dL_law_1114 dL_law_1119 (by decide) hT h2 ht hb (fun a6 a7 a8 => k S2 a6 a7 a8 h2)
set_option maxHeartbeats 800000 in
theorem law_c10 {X : e_XT} {d T i ax am ao ad : Nat} {a6 a7 a8 : Option Value} {S : e_SS} {Q : e_Rt → e_SS → Prop} (hX : (X 8).1 = 0) (hXX : v_X X) (hi : i + 8 ≤ (X 0).1) (hL : (X 0).1 ≤ 4096) (hT : T < 512) (h : h_L T ax am ao ad S) (k : ∀ S2 a6 a7 a8, h_L (T + 1) ax am ao ad S2 → s_w X (d + 13) K_law 4021 (l_ll ax am ao ad i a6 a7 a8) [] S2 Q) : s_w X (d + 13) K_law 1122 (l_ll ax am ao ad i a6 a7 a8) [] S Q := by
  have h0 := h.f (Nat.le_of_lt hT)
  have hc := h0.1.2.2
  obtain ⟨p, I, J, c, w⟩ := S
  refine w_op (K := K_law) (pc' := 1123) (ll' := (l_ll ax am ao ad i a6 a7 a8)) (st' := [.ref ax]) dL_law_1122 rfl ?_
  refine l_arg1 (pc := 1123) (n := 1) dL_law_1123 dL_law_1124 dL_law_1126 dL_law_1127 dL_law_1128 (by decide) (by omega) hL hc ?_
  refine l_arg1 (pc := 1129) (n := 2) dL_law_1129 dL_law_1130 dL_law_1132 dL_law_1133 dL_law_1134 (by decide) (by omega) hL hc ?_
  refine w_op (K := K_law) (pc' := 1136) (ll' := (l_ll ax am ao ad i a6 a7 a8)) (st' := [.ref ao, .int ((X 0).2 (i + 2)), .int ((X 0).2 (i + 1)), .ref ax]) dL_law_1135 rfl ?_
  refine t_callS (K := K_law) (As := [.ref ax, .int ((X 0).2 (i + 1)), .int ((X 0).2 (i + 2)), .ref ao]) (rest := []) dL_law_1136 rfl rM_L_stage (by decide) rfl rfl (by decide) (Nat.le_of_ble_eq_true rfl) (lp_stage (d := d) (hX := hX) (hT := hT)  (h := h) (k := fun k' S1 hB => ?_))
  show s_w X (d + 13) K_law 1139 (l_ll ax am ao ad i a6 a7 a8) [.int k'] S1 Q
  refine l_is6 (pc := 1139) dL_law_1139 ?_
  have hf := (hB (fun _ _ => True) (fun _ _ _ _ _ => trivial)).1
  refine w_op (K := K_law) (pc' := 1142) (ll' := (l_ll ax am ao ad i (some (.int k')) a7 a8)) (st' := [.ref am]) dL_law_1141 rfl ?_
  refine l_arg1 (pc := 1142) (n := 1) dL_law_1142 dL_law_1143 dL_law_1145 dL_law_1146 dL_law_1147 (by decide) (by omega) hL hf.2.2 ?_
  refine l_arg1 (pc := 1148) (n := 2) dL_law_1148 dL_law_1149 dL_law_1151 dL_law_1152 dL_law_1153 (by decide) (by omega) hL hf.2.2 ?_
  refine l_callM (As := [.int ((X 0).2 (i + 1)), .int ((X 0).2 (i + 2))]) (rest := []) dL_law_1154 rfl rM_X16_stage (by decide) rfl rfl (by decide) rfl (Nat.le_of_ble_eq_true rfl) hf ((hB _ (fun b S2 h2 ht hb => ?_)).2)
  show s_w X (d + 13) K_law 1157 (l_ll ax am ao ad i (some (.int k')) a7 a8) [.int b] S2 Q
  exact law_tI (pc := 1157) dL_law_1157 dL_law_1159 dL_law_1160 dL_law_1163 dL_law_1165 dL_law_1170 dL_law_1172 dL_law_1175 dL_law_1176 dL_law_1177 dL_law_1178 dL_law_1180 dL_law_1181 dL_law_1182 dL_law_1187 (by decide) hT h2 ht hb (fun a6 a7 a8 => k S2 a6 a7 a8 h2)
set_option maxHeartbeats 800000 in
theorem law_c11 {X : e_XT} {d T i ax am ao ad : Nat} {a6 a7 a8 : Option Value} {S : e_SS} {Q : e_Rt → e_SS → Prop} (hX : (X 8).1 = 0) (hXX : v_X X) (hi : i + 8 ≤ (X 0).1) (hL : (X 0).1 ≤ 4096) (hT : T < 512) (h : h_L T ax am ao ad S) (k : ∀ S2 a6 a7 a8, h_L (T + 1) ax am ao ad S2 → s_w X (d + 13) K_law 4021 (l_ll ax am ao ad i a6 a7 a8) [] S2 Q) : s_w X (d + 13) K_law 1190 (l_ll ax am ao ad i a6 a7 a8) [] S Q := by
  have h0 := h.f (Nat.le_of_lt hT)
  have hc := h0.1.2.2
  obtain ⟨p, I, J, c, w⟩ := S
  refine w_op (K := K_law) (pc' := 1191) (ll' := (l_ll ax am ao ad i a6 a7 a8)) (st' := [.ref ax]) dL_law_1190 rfl ?_
  refine l_arg1 (pc := 1191) (n := 1) dL_law_1191 dL_law_1192 dL_law_1194 dL_law_1195 dL_law_1196 (by decide) (by omega) hL hc ?_
  refine w_op (K := K_law) (pc' := 1198) (ll' := (l_ll ax am ao ad i a6 a7 a8)) (st' := [.ref ao, .int ((X 0).2 (i + 1)), .ref ax]) dL_law_1197 rfl ?_
  refine t_callS (K := K_law) (As := [.ref ax, .int ((X 0).2 (i + 1)), .ref ao]) (rest := []) dL_law_1198 rfl rM_L_crescendo (by decide) rfl rfl (by decide) (Nat.le_of_ble_eq_true rfl) (lp_crescendo (d := d) (hX := hX) (hT := hT)  (h := h) (k := fun k' S1 hB => ?_))
  show s_w X (d + 13) K_law 1201 (l_ll ax am ao ad i a6 a7 a8) [.int k'] S1 Q
  refine l_is6 (pc := 1201) dL_law_1201 ?_
  have hf := (hB (fun _ _ => True) (fun _ _ _ _ _ => trivial)).1
  refine w_op (K := K_law) (pc' := 1204) (ll' := (l_ll ax am ao ad i (some (.int k')) a7 a8)) (st' := [.ref am]) dL_law_1203 rfl ?_
  refine l_arg1 (pc := 1204) (n := 1) dL_law_1204 dL_law_1205 dL_law_1207 dL_law_1208 dL_law_1209 (by decide) (by omega) hL hf.2.2 ?_
  refine l_callM (As := [.int ((X 0).2 (i + 1))]) (rest := []) dL_law_1210 rfl rM_X16_crescendo (by decide) rfl rfl (by decide) rfl (Nat.le_of_ble_eq_true rfl) hf ((hB _ (fun b S2 h2 ht hb => ?_)).2)
  show s_w X (d + 13) K_law 1213 (l_ll ax am ao ad i (some (.int k')) a7 a8) [.int b] S2 Q
  exact law_tI (pc := 1213) dL_law_1213 dL_law_1215 dL_law_1216 dL_law_1219 dL_law_1221 dL_law_1226 dL_law_1228 dL_law_1231 dL_law_1232 dL_law_1233 dL_law_1234 dL_law_1236 dL_law_1237 dL_law_1238 dL_law_1243 (by decide) hT h2 ht hb (fun a6 a7 a8 => k S2 a6 a7 a8 h2)
set_option maxHeartbeats 800000 in
theorem law_c12 {X : e_XT} {d T i ax am ao ad : Nat} {a6 a7 a8 : Option Value} {S : e_SS} {Q : e_Rt → e_SS → Prop} (hX : (X 8).1 = 0) (hXX : v_X X) (hi : i + 8 ≤ (X 0).1) (hL : (X 0).1 ≤ 4096) (hT : T < 512) (h : h_L T ax am ao ad S) (k : ∀ S2 a6 a7 a8, h_L (T + 1) ax am ao ad S2 → s_w X (d + 13) K_law 4021 (l_ll ax am ao ad i a6 a7 a8) [] S2 Q) : s_w X (d + 13) K_law 1246 (l_ll ax am ao ad i a6 a7 a8) [] S Q := by
  have h0 := h.f (Nat.le_of_lt hT)
  have hc := h0.1.2.2
  obtain ⟨p, I, J, c, w⟩ := S
  refine w_op (K := K_law) (pc' := 1247) (ll' := (l_ll ax am ao ad i a6 a7 a8)) (st' := [.ref ax]) dL_law_1246 rfl ?_
  refine l_arg1 (pc := 1247) (n := 1) dL_law_1247 dL_law_1248 dL_law_1250 dL_law_1251 dL_law_1252 (by decide) (by omega) hL hc ?_
  refine l_bool (pc := 1253) dL_law_1253 dL_law_1256 dL_law_1257 dL_law_1260 ?_
  refine l_callH (As := [.int (l_b ((X 0).2 (i + 1)))]) (rest := []) dL_law_1261 rfl rM_X11_tutti (by decide) rfl rfl (by decide) rfl (Nat.le_of_ble_eq_true rfl) h0.2.1 (lp_tutti (d := d) (hX := hX) (hT := hT) (hy := l_b01) (h := h) (k := fun v S1 hB => ?_))
  show s_w X (d + 13) K_law 1264 (l_ll ax am ao ad i a6 a7 a8) [.int v] S1 Q
  have hf := (hB (fun _ _ => True) (fun _ _ => trivial)).1
  refine w_op (K := K_law) (pc' := 1265) (ll' := (l_ll ax am ao ad i a6 a7 a8)) (st' := [.ref am, .int v]) dL_law_1264 rfl ?_
  refine l_arg1 (pc := 1265) (n := 1) dL_law_1265 dL_law_1266 dL_law_1268 dL_law_1269 dL_law_1270 (by decide) (by omega) hL hf.2.2 ?_
  refine l_bool (pc := 1271) dL_law_1271 dL_law_1274 dL_law_1275 dL_law_1278 ?_
  refine l_callM (As := [.int (l_b ((X 0).2 (i + 1)))]) (rest := [.int v]) dL_law_1279 rfl rM_X16_tutti (by decide) rfl rfl (by decide) rfl (Nat.le_of_ble_eq_true rfl) hf ((hB _ (fun S2 h2 => ?_)).2)
  show s_w X (d + 13) K_law 1282 (l_ll ax am ao ad i a6 a7 a8) [.int v, .int v] S2 Q
  exact w_icmpeq (K := K_law) (t := 4021) dL_law_1282 (by decide) (fun _ => k S2 a6 a7 a8 h2) (fun z => absurd rfl z)
set_option maxHeartbeats 800000 in
theorem law_c13 {X : e_XT} {d T i ax am ao ad : Nat} {a6 a7 a8 : Option Value} {S : e_SS} {Q : e_Rt → e_SS → Prop} (hX : (X 8).1 = 0) (hXX : v_X X) (hi : i + 8 ≤ (X 0).1) (hL : (X 0).1 ≤ 4096) (hT : T < 512) (h : h_L T ax am ao ad S) (k : ∀ S2 a6 a7 a8, h_L (T + 1) ax am ao ad S2 → s_w X (d + 13) K_law 4021 (l_ll ax am ao ad i a6 a7 a8) [] S2 Q) : s_w X (d + 13) K_law 1287 (l_ll ax am ao ad i a6 a7 a8) [] S Q := by
  have h0 := h.f (Nat.le_of_lt hT)
  have hc := h0.1.2.2
  obtain ⟨p, I, J, c, w⟩ := S
  refine w_op (K := K_law) (pc' := 1288) (ll' := (l_ll ax am ao ad i a6 a7 a8)) (st' := [.ref ax]) dL_law_1287 rfl ?_
  refine l_arg1 (pc := 1288) (n := 1) dL_law_1288 dL_law_1289 dL_law_1291 dL_law_1292 dL_law_1293 (by decide) (by omega) hL hc ?_
  refine l_arg1 (pc := 1294) (n := 2) dL_law_1294 dL_law_1295 dL_law_1297 dL_law_1298 dL_law_1299 (by decide) (by omega) hL hc ?_
  refine l_arg1 (pc := 1300) (n := 3) dL_law_1300 dL_law_1301 dL_law_1303 dL_law_1304 dL_law_1305 (by decide) (by omega) hL hc ?_
  refine l_bool (pc := 1306) dL_law_1306 dL_law_1309 dL_law_1310 dL_law_1313 ?_
  refine w_op (K := K_law) (pc' := 1315) (ll' := (l_ll ax am ao ad i a6 a7 a8)) (st' := [.ref ao, .int (l_b ((X 0).2 (i + 3))), .int ((X 0).2 (i + 2)), .int ((X 0).2 (i + 1)), .ref ax]) dL_law_1314 rfl ?_
  refine t_callS (K := K_law) (As := [.ref ax, .int ((X 0).2 (i + 1)), .int ((X 0).2 (i + 2)), .int (l_b ((X 0).2 (i + 3))), .ref ao]) (rest := []) dL_law_1315 rfl rM_L_key (by decide) rfl rfl (by decide) (Nat.le_of_ble_eq_true rfl) (lp_key (d := d) (hX := hX) (hT := hT) (hz := l_b01) (h := h) (k := fun k' S1 hB => ?_))
  show s_w X (d + 13) K_law 1318 (l_ll ax am ao ad i a6 a7 a8) [.int k'] S1 Q
  refine l_is6 (pc := 1318) dL_law_1318 ?_
  have hf := (hB (fun _ _ => True) (fun _ _ _ _ _ => trivial)).1
  refine w_op (K := K_law) (pc' := 1321) (ll' := (l_ll ax am ao ad i (some (.int k')) a7 a8)) (st' := [.ref am]) dL_law_1320 rfl ?_
  refine l_arg1 (pc := 1321) (n := 1) dL_law_1321 dL_law_1322 dL_law_1324 dL_law_1325 dL_law_1326 (by decide) (by omega) hL hf.2.2 ?_
  refine l_arg1 (pc := 1327) (n := 2) dL_law_1327 dL_law_1328 dL_law_1330 dL_law_1331 dL_law_1332 (by decide) (by omega) hL hf.2.2 ?_
  refine l_arg1 (pc := 1333) (n := 3) dL_law_1333 dL_law_1334 dL_law_1336 dL_law_1337 dL_law_1338 (by decide) (by omega) hL hf.2.2 ?_
  refine l_bool (pc := 1339) dL_law_1339 dL_law_1342 dL_law_1343 dL_law_1346 ?_
  refine l_callM (As := [.int ((X 0).2 (i + 1)), .int ((X 0).2 (i + 2)), .int (l_b ((X 0).2 (i + 3)))]) (rest := []) dL_law_1347 rfl rM_X16_key (by decide) rfl rfl (by decide) rfl (Nat.le_of_ble_eq_true rfl) hf ((hB _ (fun b S2 h2 ht hb => ?_)).2)
  show s_w X (d + 13) K_law 1350 (l_ll ax am ao ad i (some (.int k')) a7 a8) [.int b] S2 Q
  exact law_tB (pc := 1350) dL_law_1350 dL_law_1352 dL_law_1353 dL_law_1356 dL_law_1358 dL_law_1363 dL_law_1365 dL_law_1368 dL_law_1369 dL_law_1370 dL_law_1371 dL_law_1373 dL_law_1376 dL_law_1377 dL_law_1380 dL_law_1381 dL_law_1382 dL_law_1387 (by decide) hT h2 ht hb (fun a6 a7 a8 => k S2 a6 a7 a8 h2)
set_option maxHeartbeats 800000 in
theorem law_c14 {X : e_XT} {d T i ax am ao ad : Nat} {a6 a7 a8 : Option Value} {S : e_SS} {Q : e_Rt → e_SS → Prop} (hX : (X 8).1 = 0) (hXX : v_X X) (hi : i + 8 ≤ (X 0).1) (hL : (X 0).1 ≤ 4096) (hT : T < 512) (h : h_L T ax am ao ad S) (k : ∀ S2 a6 a7 a8, h_L (T + 1) ax am ao ad S2 → s_w X (d + 13) K_law 4021 (l_ll ax am ao ad i a6 a7 a8) [] S2 Q) : s_w X (d + 13) K_law 1390 (l_ll ax am ao ad i a6 a7 a8) [] S Q := by
  have h0 := h.f (Nat.le_of_lt hT)
  have hc := h0.1.2.2
  obtain ⟨p, I, J, c, w⟩ := S
  refine w_op (K := K_law) (pc' := 1391) (ll' := (l_ll ax am ao ad i a6 a7 a8)) (st' := [.ref ax]) dL_law_1390 rfl ?_
  refine l_arg1 (pc := 1391) (n := 1) dL_law_1391 dL_law_1392 dL_law_1394 dL_law_1395 dL_law_1396 (by decide) (by omega) hL hc ?_
  refine l_arg1 (pc := 1397) (n := 2) dL_law_1397 dL_law_1398 dL_law_1400 dL_law_1401 dL_law_1402 (by decide) (by omega) hL hc ?_
  refine w_op (K := K_law) (pc' := 1404) (ll' := (l_ll ax am ao ad i a6 a7 a8)) (st' := [.ref ao, .int ((X 0).2 (i + 2)), .int ((X 0).2 (i + 1)), .ref ax]) dL_law_1403 rfl ?_
  refine t_callS (K := K_law) (As := [.ref ax, .int ((X 0).2 (i + 1)), .int ((X 0).2 (i + 2)), .ref ao]) (rest := []) dL_law_1404 rfl rM_L_isDown (by decide) rfl rfl (by decide) (Nat.le_of_ble_eq_true rfl) (lp_isDown (d := d) (hX := hX) (hT := hT)  (h := h) (k := fun k' S1 hB => ?_))
  show s_w X (d + 13) K_law 1407 (l_ll ax am ao ad i a6 a7 a8) [.int k'] S1 Q
  refine l_is6 (pc := 1407) dL_law_1407 ?_
  have hf := (hB (fun _ _ => True) (fun _ _ _ _ _ => trivial)).1
  refine w_op (K := K_law) (pc' := 1410) (ll' := (l_ll ax am ao ad i (some (.int k')) a7 a8)) (st' := [.ref am]) dL_law_1409 rfl ?_
  refine l_arg1 (pc := 1410) (n := 1) dL_law_1410 dL_law_1411 dL_law_1413 dL_law_1414 dL_law_1415 (by decide) (by omega) hL hf.2.2 ?_
  refine l_arg1 (pc := 1416) (n := 2) dL_law_1416 dL_law_1417 dL_law_1419 dL_law_1420 dL_law_1421 (by decide) (by omega) hL hf.2.2 ?_
  refine l_callM (As := [.int ((X 0).2 (i + 1)), .int ((X 0).2 (i + 2))]) (rest := []) dL_law_1422 rfl rM_X16_isDown (by decide) rfl rfl (by decide) rfl (Nat.le_of_ble_eq_true rfl) hf ((hB _ (fun b S2 h2 ht hb => ?_)).2)
  show s_w X (d + 13) K_law 1425 (l_ll ax am ao ad i (some (.int k')) a7 a8) [.int b] S2 Q
  exact law_tB (pc := 1425) dL_law_1425 dL_law_1427 dL_law_1428 dL_law_1431 dL_law_1433 dL_law_1438 dL_law_1440 dL_law_1443 dL_law_1444 dL_law_1445 dL_law_1446 dL_law_1448 dL_law_1451 dL_law_1452 dL_law_1455 dL_law_1456 dL_law_1457 dL_law_1462 (by decide) hT h2 ht hb (fun a6 a7 a8 => k S2 a6 a7 a8 h2)
set_option maxHeartbeats 800000 in
theorem law_c15 {X : e_XT} {d T i ax am ao ad : Nat} {a6 a7 a8 : Option Value} {S : e_SS} {Q : e_Rt → e_SS → Prop} (hX : (X 8).1 = 0) (hXX : v_X X) (hi : i + 8 ≤ (X 0).1) (hL : (X 0).1 ≤ 4096) (hT : T < 512) (h : h_L T ax am ao ad S) (k : ∀ S2 a6 a7 a8, h_L (T + 1) ax am ao ad S2 → s_w X (d + 13) K_law 4021 (l_ll ax am ao ad i a6 a7 a8) [] S2 Q) : s_w X (d + 13) K_law 1465 (l_ll ax am ao ad i a6 a7 a8) [] S Q := by
  have h0 := h.f (Nat.le_of_lt hT)
  have hc := h0.1.2.2
  obtain ⟨p, I, J, c, w⟩ := S
  refine w_op (K := K_law) (pc' := 1466) (ll' := (l_ll ax am ao ad i a6 a7 a8)) (st' := [.ref ax]) dL_law_1465 rfl ?_
  refine l_callH (As := []) (rest := []) dL_law_1466 rfl rM_X11_lift (by decide) rfl rfl (by decide) rfl (Nat.le_of_ble_eq_true rfl) h0.2.1 (lp_lift (d := d) (hX := hX) (hT := hT)  (h := h) (k := fun v S1 hB => ?_))
  show s_w X (d + 13) K_law 1469 (l_ll ax am ao ad i a6 a7 a8) [.int v] S1 Q
  have hf := (hB (fun _ _ => True) (fun _ _ => trivial)).1
  refine w_op (K := K_law) (pc' := 1470) (ll' := (l_ll ax am ao ad i a6 a7 a8)) (st' := [.ref am, .int v]) dL_law_1469 rfl ?_
  refine l_callM (As := []) (rest := [.int v]) dL_law_1470 rfl rM_X16_lift (by decide) rfl rfl (by decide) rfl (Nat.le_of_ble_eq_true rfl) hf ((hB _ (fun S2 h2 => ?_)).2)
  show s_w X (d + 13) K_law 1473 (l_ll ax am ao ad i a6 a7 a8) [.int v, .int v] S2 Q
  exact w_icmpeq (K := K_law) (t := 4021) dL_law_1473 (by decide) (fun _ => k S2 a6 a7 a8 h2) (fun z => absurd rfl z)
set_option maxHeartbeats 800000 in
theorem law_c16 {X : e_XT} {d T i ax am ao ad : Nat} {a6 a7 a8 : Option Value} {S : e_SS} {Q : e_Rt → e_SS → Prop} (hX : (X 8).1 = 0) (hXX : v_X X) (hi : i + 8 ≤ (X 0).1) (hL : (X 0).1 ≤ 4096) (hT : T < 512) (h : h_L T ax am ao ad S) (k : ∀ S2 a6 a7 a8, h_L (T + 1) ax am ao ad S2 → s_w X (d + 13) K_law 4021 (l_ll ax am ao ad i a6 a7 a8) [] S2 Q) : s_w X (d + 13) K_law 1478 (l_ll ax am ao ad i a6 a7 a8) [] S Q := by
  have h0 := h.f (Nat.le_of_lt hT)
  have hc := h0.1.2.2
  obtain ⟨p, I, J, c, w⟩ := S
  refine w_op (K := K_law) (pc' := 1479) (ll' := (l_ll ax am ao ad i a6 a7 a8)) (st' := [.ref ax]) dL_law_1478 rfl ?_
  refine l_arg1 (pc := 1479) (n := 1) dL_law_1479 dL_law_1480 dL_law_1482 dL_law_1483 dL_law_1484 (by decide) (by omega) hL hc ?_
  refine w_op (K := K_law) (pc' := 1486) (ll' := (l_ll ax am ao ad i a6 a7 a8)) (st' := [.ref ao, .int ((X 0).2 (i + 1)), .ref ax]) dL_law_1485 rfl ?_
  refine t_callS (K := K_law) (As := [.ref ax, .int ((X 0).2 (i + 1)), .ref ao]) (rest := []) dL_law_1486 rfl rM_L_pass (by decide) rfl rfl (by decide) (Nat.le_of_ble_eq_true rfl) (lp_pass (d := d) (hX := hX) (hT := hT)  (h := h) (k := fun k' S1 hB => ?_))
  show s_w X (d + 13) K_law 1489 (l_ll ax am ao ad i a6 a7 a8) [.int k'] S1 Q
  refine l_is6 (pc := 1489) dL_law_1489 ?_
  have hf := (hB (fun _ _ => True) (fun _ _ _ _ _ => trivial)).1
  refine w_op (K := K_law) (pc' := 1492) (ll' := (l_ll ax am ao ad i (some (.int k')) a7 a8)) (st' := [.ref am]) dL_law_1491 rfl ?_
  refine l_arg1 (pc := 1492) (n := 1) dL_law_1492 dL_law_1493 dL_law_1495 dL_law_1496 dL_law_1497 (by decide) (by omega) hL hf.2.2 ?_
  refine l_callM (As := [.int ((X 0).2 (i + 1))]) (rest := []) dL_law_1498 rfl rM_X16_pass (by decide) rfl rfl (by decide) rfl (Nat.le_of_ble_eq_true rfl) hf ((hB _ (fun b S2 h2 ht hb => ?_)).2)
  show s_w X (d + 13) K_law 1501 (l_ll ax am ao ad i (some (.int k')) a7 a8) [.int b] S2 Q
  exact law_tI (pc := 1501) dL_law_1501 dL_law_1503 dL_law_1504 dL_law_1507 dL_law_1509 dL_law_1514 dL_law_1516 dL_law_1519 dL_law_1520 dL_law_1521 dL_law_1522 dL_law_1524 dL_law_1525 dL_law_1526 dL_law_1531 (by decide) hT h2 ht hb (fun a6 a7 a8 => k S2 a6 a7 a8 h2)
set_option maxHeartbeats 800000 in
theorem law_c17 {X : e_XT} {d T i ax am ao ad : Nat} {a6 a7 a8 : Option Value} {S : e_SS} {Q : e_Rt → e_SS → Prop} (hX : (X 8).1 = 0) (hXX : v_X X) (hi : i + 8 ≤ (X 0).1) (hL : (X 0).1 ≤ 4096) (hT : T < 512) (h : h_L T ax am ao ad S) (k : ∀ S2 a6 a7 a8, h_L (T + 1) ax am ao ad S2 → s_w X (d + 13) K_law 4021 (l_ll ax am ao ad i a6 a7 a8) [] S2 Q) : s_w X (d + 13) K_law 1534 (l_ll ax am ao ad i a6 a7 a8) [] S Q := by
  have h0 := h.f (Nat.le_of_lt hT)
  have hc := h0.1.2.2
  obtain ⟨p, I, J, c, w⟩ := S
  refine w_op (K := K_law) (pc' := 1535) (ll' := (l_ll ax am ao ad i a6 a7 a8)) (st' := [.ref ax]) dL_law_1534 rfl ?_
  refine l_arg1 (pc := 1535) (n := 1) dL_law_1535 dL_law_1536 dL_law_1538 dL_law_1539 dL_law_1540 (by decide) (by omega) hL hc ?_
  refine l_arg1 (pc := 1541) (n := 2) dL_law_1541 dL_law_1542 dL_law_1544 dL_law_1545 dL_law_1546 (by decide) (by omega) hL hc ?_
  refine w_op (K := K_law) (pc' := 1548) (ll' := (l_ll ax am ao ad i a6 a7 a8)) (st' := [.ref ao, .int ((X 0).2 (i + 2)), .int ((X 0).2 (i + 1)), .ref ax]) dL_law_1547 rfl ?_
  refine t_callS (K := K_law) (As := [.ref ax, .int ((X 0).2 (i + 1)), .int ((X 0).2 (i + 2)), .ref ao]) (rest := []) dL_law_1548 rfl rM_L_reasons (by decide) rfl rfl (by decide) (Nat.le_of_ble_eq_true rfl) (lp_reasons (d := d) (hX := hX) (hT := hT)  (h := h) (k := fun k' S1 hB => ?_))
  show s_w X (d + 13) K_law 1551 (l_ll ax am ao ad i a6 a7 a8) [.int k'] S1 Q
  refine l_is6 (pc := 1551) dL_law_1551 ?_
  have hf := (hB (fun _ _ => True) (fun _ _ _ _ _ => trivial)).1
  refine w_op (K := K_law) (pc' := 1554) (ll' := (l_ll ax am ao ad i (some (.int k')) a7 a8)) (st' := [.ref am]) dL_law_1553 rfl ?_
  refine l_arg1 (pc := 1554) (n := 1) dL_law_1554 dL_law_1555 dL_law_1557 dL_law_1558 dL_law_1559 (by decide) (by omega) hL hf.2.2 ?_
  refine l_arg1 (pc := 1560) (n := 2) dL_law_1560 dL_law_1561 dL_law_1563 dL_law_1564 dL_law_1565 (by decide) (by omega) hL hf.2.2 ?_
  refine l_callM (As := [.int ((X 0).2 (i + 1)), .int ((X 0).2 (i + 2))]) (rest := []) dL_law_1566 rfl rM_X16_reasons (by decide) rfl rfl (by decide) rfl (Nat.le_of_ble_eq_true rfl) hf ((hB _ (fun b S2 h2 ht hb => ?_)).2)
  show s_w X (d + 13) K_law 1569 (l_ll ax am ao ad i (some (.int k')) a7 a8) [.int b] S2 Q
  exact law_tI (pc := 1569) dL_law_1569 dL_law_1571 dL_law_1572 dL_law_1575 dL_law_1577 dL_law_1582 dL_law_1584 dL_law_1587 dL_law_1588 dL_law_1589 dL_law_1590 dL_law_1592 dL_law_1593 dL_law_1594 dL_law_1599 (by decide) hT h2 ht hb (fun a6 a7 a8 => k S2 a6 a7 a8 h2)
set_option maxHeartbeats 800000 in
theorem law_c18 {X : e_XT} {d T i ax am ao ad : Nat} {a6 a7 a8 : Option Value} {S : e_SS} {Q : e_Rt → e_SS → Prop} (hX : (X 8).1 = 0) (hXX : v_X X) (hi : i + 8 ≤ (X 0).1) (hL : (X 0).1 ≤ 4096) (hT : T < 512) (h : h_L T ax am ao ad S) (k : ∀ S2 a6 a7 a8, h_L (T + 1) ax am ao ad S2 → s_w X (d + 13) K_law 4021 (l_ll ax am ao ad i a6 a7 a8) [] S2 Q) : s_w X (d + 13) K_law 1602 (l_ll ax am ao ad i a6 a7 a8) [] S Q := by
  have h0 := h.f (Nat.le_of_lt hT)
  have hc := h0.1.2.2
  obtain ⟨p, I, J, c, w⟩ := S
  refine w_op (K := K_law) (pc' := 1603) (ll' := (l_ll ax am ao ad i a6 a7 a8)) (st' := [.ref ax]) dL_law_1602 rfl ?_
  refine l_arg1 (pc := 1603) (n := 1) dL_law_1603 dL_law_1604 dL_law_1606 dL_law_1607 dL_law_1608 (by decide) (by omega) hL hc ?_
  refine l_arg1 (pc := 1609) (n := 2) dL_law_1609 dL_law_1610 dL_law_1612 dL_law_1613 dL_law_1614 (by decide) (by omega) hL hc ?_
  refine w_op (K := K_law) (pc' := 1616) (ll' := (l_ll ax am ao ad i a6 a7 a8)) (st' := [.ref ao, .int ((X 0).2 (i + 2)), .int ((X 0).2 (i + 1)), .ref ax]) dL_law_1615 rfl ?_
  refine t_callS (K := K_law) (As := [.ref ax, .int ((X 0).2 (i + 1)), .int ((X 0).2 (i + 2)), .ref ao]) (rest := []) dL_law_1616 rfl rM_L_reasonsAnew (by decide) rfl rfl (by decide) (Nat.le_of_ble_eq_true rfl) (lp_reasonsAnew (d := d) (hX := hX) (hT := hT)  (h := h) (k := fun k' S1 hB => ?_))
  show s_w X (d + 13) K_law 1619 (l_ll ax am ao ad i a6 a7 a8) [.int k'] S1 Q
  refine l_is6 (pc := 1619) dL_law_1619 ?_
  have hf := (hB (fun _ _ => True) (fun _ _ _ _ _ => trivial)).1
  refine w_op (K := K_law) (pc' := 1622) (ll' := (l_ll ax am ao ad i (some (.int k')) a7 a8)) (st' := [.ref am]) dL_law_1621 rfl ?_
  refine l_arg1 (pc := 1622) (n := 1) dL_law_1622 dL_law_1623 dL_law_1625 dL_law_1626 dL_law_1627 (by decide) (by omega) hL hf.2.2 ?_
  refine l_arg1 (pc := 1628) (n := 2) dL_law_1628 dL_law_1629 dL_law_1631 dL_law_1632 dL_law_1633 (by decide) (by omega) hL hf.2.2 ?_
  refine l_callM (As := [.int ((X 0).2 (i + 1)), .int ((X 0).2 (i + 2))]) (rest := []) dL_law_1634 rfl rM_X16_reasonsAnew (by decide) rfl rfl (by decide) rfl (Nat.le_of_ble_eq_true rfl) hf ((hB _ (fun b S2 h2 ht hb => ?_)).2)
  show s_w X (d + 13) K_law 1637 (l_ll ax am ao ad i (some (.int k')) a7 a8) [.int b] S2 Q
  exact law_tI (pc := 1637) dL_law_1637 dL_law_1639 dL_law_1640 dL_law_1643 dL_law_1645 dL_law_1650 dL_law_1652 dL_law_1655 dL_law_1656 dL_law_1657 dL_law_1658 dL_law_1660 dL_law_1661 dL_law_1662 dL_law_1667 (by decide) hT h2 ht hb (fun a6 a7 a8 => k S2 a6 a7 a8 h2)
set_option maxHeartbeats 800000 in
theorem law_c19 {X : e_XT} {d T i ax am ao ad : Nat} {a6 a7 a8 : Option Value} {S : e_SS} {Q : e_Rt → e_SS → Prop} (hX : (X 8).1 = 0) (hXX : v_X X) (hi : i + 8 ≤ (X 0).1) (hL : (X 0).1 ≤ 4096) (hT : T < 512) (h : h_L T ax am ao ad S) (k : ∀ S2 a6 a7 a8, h_L (T + 1) ax am ao ad S2 → s_w X (d + 13) K_law 4021 (l_ll ax am ao ad i a6 a7 a8) [] S2 Q) : s_w X (d + 13) K_law 1670 (l_ll ax am ao ad i a6 a7 a8) [] S Q := by
  have h0 := h.f (Nat.le_of_lt hT)
  have hc := h0.1.2.2
  obtain ⟨p, I, J, c, w⟩ := S
  refine w_op (K := K_law) (pc' := 1671) (ll' := (l_ll ax am ao ad i a6 a7 a8)) (st' := [.ref ax]) dL_law_1670 rfl ?_
  refine l_arg1 (pc := 1671) (n := 1) dL_law_1671 dL_law_1672 dL_law_1674 dL_law_1675 dL_law_1676 (by decide) (by omega) hL hc ?_
  refine l_arg1 (pc := 1677) (n := 2) dL_law_1677 dL_law_1678 dL_law_1680 dL_law_1681 dL_law_1682 (by decide) (by omega) hL hc ?_
  refine w_op (K := K_law) (pc' := 1684) (ll' := (l_ll ax am ao ad i a6 a7 a8)) (st' := [.ref ao, .int ((X 0).2 (i + 2)), .int ((X 0).2 (i + 1)), .ref ax]) dL_law_1683 rfl ?_
  refine t_callS (K := K_law) (As := [.ref ax, .int ((X 0).2 (i + 1)), .int ((X 0).2 (i + 2)), .ref ao]) (rest := []) dL_law_1684 rfl rM_L_isOpen (by decide) rfl rfl (by decide) (Nat.le_of_ble_eq_true rfl) (lp_isOpen (d := d) (hX := hX) (hT := hT)  (h := h) (k := fun k' S1 hB => ?_))
  show s_w X (d + 13) K_law 1687 (l_ll ax am ao ad i a6 a7 a8) [.int k'] S1 Q
  refine l_is6 (pc := 1687) dL_law_1687 ?_
  have hf := (hB (fun _ _ => True) (fun _ _ _ _ _ => trivial)).1
  refine w_op (K := K_law) (pc' := 1690) (ll' := (l_ll ax am ao ad i (some (.int k')) a7 a8)) (st' := [.ref am]) dL_law_1689 rfl ?_
  refine l_arg1 (pc := 1690) (n := 1) dL_law_1690 dL_law_1691 dL_law_1693 dL_law_1694 dL_law_1695 (by decide) (by omega) hL hf.2.2 ?_
  refine l_arg1 (pc := 1696) (n := 2) dL_law_1696 dL_law_1697 dL_law_1699 dL_law_1700 dL_law_1701 (by decide) (by omega) hL hf.2.2 ?_
  refine l_callM (As := [.int ((X 0).2 (i + 1)), .int ((X 0).2 (i + 2))]) (rest := []) dL_law_1702 rfl rM_X16_isOpen (by decide) rfl rfl (by decide) rfl (Nat.le_of_ble_eq_true rfl) hf ((hB _ (fun b S2 h2 ht hb => ?_)).2)
  show s_w X (d + 13) K_law 1705 (l_ll ax am ao ad i (some (.int k')) a7 a8) [.int b] S2 Q
  exact law_tB (pc := 1705) dL_law_1705 dL_law_1707 dL_law_1708 dL_law_1711 dL_law_1713 dL_law_1718 dL_law_1720 dL_law_1723 dL_law_1724 dL_law_1725 dL_law_1726 dL_law_1728 dL_law_1731 dL_law_1732 dL_law_1735 dL_law_1736 dL_law_1737 dL_law_1742 (by decide) hT h2 ht hb (fun a6 a7 a8 => k S2 a6 a7 a8 h2)
