set_option maxHeartbeats 4000000 in
set_option maxRecDepth 100000 in
theorem law_c6 {p : Program} {l : Launch} {e : Env} {s : State} {m : MethodId} {below : List Frame} {meth : Method} {c : Code} {H : Heap} {locs : List Loc} {Q : State → Prop} {b L i : Nat} {xs : Nat → Int32} {D : va_G} {cI cZ : ClassId} {a k : Nat → Nat} {ls : Array Slot} {np nh nn nb ne : Nat} {td : Int32} {P G N B E : Nat → Nat → Int32} {mc : Nat → Int32} (X : LX p s m meth c b L xs D cI cZ a k ls i) (Y : LY s D cI cZ a k H locs np nh nn nb ne td P G N B E mc) (kk : LK p l e s m below meth c Q b D cI cZ a k ls) : W p l e room_1 s m #[Value.ref b] below meth c H locs 40 9000 Q (F0 m 374 ls []) := by
  obtain ⟨⟨hx, hb, hml, hown, hts, hX, hbl, hK, hL, hap, hr, hlocks⟩, hl, hi⟩ := id X
  obtain ⟨hv, hP, hM, hD, hE, hS⟩ := id Y
  obtain ⟨⟨hnp, hnh, hnn, hnb, hne⟩, ⟨hw, hs, hs0⟩, ⟨hg, hl0⟩, ⟨ho, hN0, hN1, hmc, hon⟩, htd⟩ := id hv
  refine lv_aload_n hx hb dL_law_374 rfl (lv_at hl 1 rfl) ?_
  refine ls_ld X hS 1 (by omega) (by decide) dL_law_375 dL_law_376 dL_law_377 dL_law_378 dL_law_379 ?_
  refine lcV (As := [.int (xs (i + 1))]) (rest := []) (ci := 4) ⟨hx, hb, hml, hown, hts⟩ (kX4_strike l D cI cZ (a 0) (a 1) (a 2) (a 3) (a 4) (a 5) (a 6) (a 7) (a 8) (a 9) (a 10) (a 11) (a 12) (a 13) np nh nn nb ne td P G N B E (xs (i + 1)) hnp hnh hnn hnb hne hw ho) (cwV 1 hts gL_law_X4_strike rfl rfl rfl (by decide +kernel) ⟨Nat.le_of_ble_eq_true rfl, Nat.le_of_ble_eq_true rfl⟩) hK hP hM hD hap hS rfl rfl rfl rfl rfl hl.1 rfl (Nat.le_of_ble_eq_true rfl) ⟨Nat.le_of_ble_eq_true rfl, Nat.le_of_ble_eq_true rfl⟩ dL_law_380 (fun H locs hP hM hD hS => ?_)
  refine lv_aload_n hx hb dL_law_383 rfl (lv_at hl 2 rfl) ?_
  refine ls_ld X hS 1 (by omega) (by decide) dL_law_384 dL_law_385 dL_law_386 dL_law_387 dL_law_388 ?_
  refine lcV (As := [.int (xs (i + 1))]) (rest := [.int _]) (ci := 5) ⟨hx, hb, hml, hown, hts⟩ (kX5_strike l D cI cZ (k 0) (k 1) (k 2) (k 3) (k 4) (k 5) (k 6) (k 7) (k 8) (k 9) (k 10) (k 11) (k 12) (k 13) (k 14) (k 15) (k 16) (k 17) (k 18) (k 19) (k 20) np nh nn nb ne td P G N B E mc (xs (i + 1)) hnp hw hs) (cwV 1 hts gL_law_X5_strike rfl rfl rfl (by decide +kernel) ⟨Nat.le_of_ble_eq_true rfl, Nat.le_of_ble_eq_true rfl⟩) hK hM hP hE (fun q h1 h2 => hap q h2 h1) hS rfl rfl rfl rfl rfl hl.1 rfl (Nat.le_of_ble_eq_true rfl) ⟨Nat.le_of_ble_eq_true rfl, Nat.le_of_ble_eq_true rfl⟩ dL_law_389 (fun H locs hM hP hE hS => ?_)
  refine lv_icmp_eq (tgt := 972) hx hb dL_law_392 (by decide) (fun _ => ?_) (fun q => absurd rfl q)
  exact kk _ _ _ _ _ _ _ _ _ _ _ _ _ _ ⟨Iv.strike hv (xs (i + 1)), hP, hM, hD, hE, hS⟩
set_option maxHeartbeats 4000000 in
set_option maxRecDepth 100000 in
theorem law_c7 {p : Program} {l : Launch} {e : Env} {s : State} {m : MethodId} {below : List Frame} {meth : Method} {c : Code} {H : Heap} {locs : List Loc} {Q : State → Prop} {b L i : Nat} {xs : Nat → Int32} {D : va_G} {cI cZ : ClassId} {a k : Nat → Nat} {ls : Array Slot} {np nh nn nb ne : Nat} {td : Int32} {P G N B E : Nat → Nat → Int32} {mc : Nat → Int32} (X : LX p s m meth c b L xs D cI cZ a k ls i) (Y : LY s D cI cZ a k H locs np nh nn nb ne td P G N B E mc) (kk : LK p l e s m below meth c Q b D cI cZ a k ls) : W p l e room_1 s m #[Value.ref b] below meth c H locs 40 9000 Q (F0 m 397 ls []) := by
  obtain ⟨⟨hx, hb, hml, hown, hts, hX, hbl, hK, hL, hap, hr, hlocks⟩, hl, hi⟩ := id X
  obtain ⟨hv, hP, hM, hD, hE, hS⟩ := id Y
  obtain ⟨⟨hnp, hnh, hnn, hnb, hne⟩, ⟨hw, hs, hs0⟩, ⟨hg, hl0⟩, ⟨ho, hN0, hN1, hmc, hon⟩, htd⟩ := id hv
  refine lv_aload_n hx hb dL_law_397 rfl (lv_at hl 1 rfl) ?_
  refine ls_ld X hS 1 (by omega) (by decide) dL_law_398 dL_law_399 dL_law_400 dL_law_401 dL_law_402 ?_
  refine ls_ld X hS 2 (by omega) (by decide) dL_law_403 dL_law_404 dL_law_405 dL_law_406 dL_law_407 ?_
  refine lcV (As := [.int (xs (i + 1)), .int (xs (i + 2))]) (rest := []) (ci := 4) ⟨hx, hb, hml, hown, hts⟩ (kX4_name l D cI cZ (a 0) (a 1) (a 2) (a 3) (a 4) (a 5) (a 6) (a 7) (a 8) (a 9) (a 10) (a 11) (a 12) (a 13) np nh nn nb ne td P G N B E (xs (i + 1)) (xs (i + 2)) hnp hnh hnn hnb hne hw ho) (cwV 2 hts gL_law_X4_name rfl rfl rfl (by decide +kernel) ⟨Nat.le_of_ble_eq_true rfl, Nat.le_of_ble_eq_true rfl⟩) hK hP hM hD hap hS rfl rfl rfl rfl rfl hl.1 rfl (Nat.le_of_ble_eq_true rfl) ⟨Nat.le_of_ble_eq_true rfl, Nat.le_of_ble_eq_true rfl⟩ dL_law_408 (fun H locs hP hM hD hS => ?_)
  refine lv_aload_n hx hb dL_law_411 rfl (lv_at hl 2 rfl) ?_
  refine ls_ld X hS 1 (by omega) (by decide) dL_law_412 dL_law_413 dL_law_414 dL_law_415 dL_law_416 ?_
  refine ls_ld X hS 2 (by omega) (by decide) dL_law_417 dL_law_418 dL_law_419 dL_law_420 dL_law_421 ?_
  refine lcV (As := [.int (xs (i + 1)), .int (xs (i + 2))]) (rest := [.int _]) (ci := 5) ⟨hx, hb, hml, hown, hts⟩ (kX5_name l D cI cZ (k 0) (k 1) (k 2) (k 3) (k 4) (k 5) (k 6) (k 7) (k 8) (k 9) (k 10) (k 11) (k 12) (k 13) (k 14) (k 15) (k 16) (k 17) (k 18) (k 19) (k 20) np nh nn nb ne td P G N B E mc (xs (i + 1)) (xs (i + 2)) hnp hnh hnn hw ho hs hg hmc hon) (cwV 2 hts gL_law_X5_name rfl rfl rfl (by decide +kernel) ⟨Nat.le_of_ble_eq_true rfl, Nat.le_of_ble_eq_true rfl⟩) hK hM hP hE (fun q h1 h2 => hap q h2 h1) hS rfl rfl rfl rfl rfl hl.1 rfl (Nat.le_of_ble_eq_true rfl) ⟨Nat.le_of_ble_eq_true rfl, Nat.le_of_ble_eq_true rfl⟩ dL_law_422 (fun H locs hM hP hE hS => ?_)
  refine lv_icmp_eq (tgt := 972) hx hb dL_law_425 (by decide) (fun _ => ?_) (fun q => absurd rfl q)
  exact kk _ _ _ _ _ _ _ _ _ _ _ _ _ _ ⟨Iv.name hv (xs (i + 1)) (xs (i + 2)), hP, hM, hD, hE, hS⟩
set_option maxHeartbeats 4000000 in
set_option maxRecDepth 100000 in
theorem law_c8 {p : Program} {l : Launch} {e : Env} {s : State} {m : MethodId} {below : List Frame} {meth : Method} {c : Code} {H : Heap} {locs : List Loc} {Q : State → Prop} {b L i : Nat} {xs : Nat → Int32} {D : va_G} {cI cZ : ClassId} {a k : Nat → Nat} {ls : Array Slot} {np nh nn nb ne : Nat} {td : Int32} {P G N B E : Nat → Nat → Int32} {mc : Nat → Int32} (X : LX p s m meth c b L xs D cI cZ a k ls i) (Y : LY s D cI cZ a k H locs np nh nn nb ne td P G N B E mc) (kk : LK p l e s m below meth c Q b D cI cZ a k ls) : W p l e room_1 s m #[Value.ref b] below meth c H locs 40 9000 Q (F0 m 430 ls []) := by
  obtain ⟨⟨hx, hb, hml, hown, hts, hX, hbl, hK, hL, hap, hr, hlocks⟩, hl, hi⟩ := id X
  obtain ⟨hv, hP, hM, hD, hE, hS⟩ := id Y
  obtain ⟨⟨hnp, hnh, hnn, hnb, hne⟩, ⟨hw, hs, hs0⟩, ⟨hg, hl0⟩, ⟨ho, hN0, hN1, hmc, hon⟩, htd⟩ := id hv
  refine lv_aload_n hx hb dL_law_430 rfl (lv_at hl 1 rfl) ?_
  refine ls_ld X hS 1 (by omega) (by decide) dL_law_431 dL_law_432 dL_law_433 dL_law_434 dL_law_435 ?_
  refine ls_ld X hS 2 (by omega) (by decide) dL_law_436 dL_law_437 dL_law_438 dL_law_439 dL_law_440 ?_
  refine rcVw (As := [.int (xs (i + 1)), .int (xs (i + 2))]) (rest := []) (ci := 4) ⟨hx, hb, hml, hown, hts⟩ (kX4_leads l D cI cZ (a 0) (a 1) (a 2) (a 3) (a 4) (a 5) (a 6) (a 7) (a 8) (a 9) (a 10) (a 11) (a 12) (a 13) np nh nn nb ne td P G N B E (xs (i + 1)) (xs (i + 2)) hnp hnh hnn hnb hne hw ho) (cwV 2 hts gL_law_X4_leads rfl rfl rfl (by decide +kernel) ⟨Nat.le_of_ble_eq_true rfl, Nat.le_of_ble_eq_true rfl⟩) hK hP rfl rfl rfl rfl hl.1 rfl (Nat.le_of_ble_eq_true rfl) ⟨Nat.le_of_ble_eq_true rfl, Nat.le_of_ble_eq_true rfl⟩ dL_law_441 ?_
  refine lv_aload_n hx hb dL_law_444 rfl (lv_at hl 2 rfl) ?_
  refine ls_ld X hS 1 (by omega) (by decide) dL_law_445 dL_law_446 dL_law_447 dL_law_448 dL_law_449 ?_
  refine ls_ld X hS 2 (by omega) (by decide) dL_law_450 dL_law_451 dL_law_452 dL_law_453 dL_law_454 ?_
  refine rcVw (As := [.int (xs (i + 1)), .int (xs (i + 2))]) (rest := [.int _]) (ci := 5) ⟨hx, hb, hml, hown, hts⟩ (kX5_leads l D cI cZ (k 0) (k 1) (k 2) (k 3) (k 4) (k 5) (k 6) (k 7) (k 8) (k 9) (k 10) (k 11) (k 12) (k 13) (k 14) (k 15) (k 16) (k 17) (k 18) (k 19) (k 20) np nh nn nb ne td P G N B E mc (xs (i + 1)) (xs (i + 2)) hnp hnh hnn hw ho hN0 hon) (cwV 2 hts gL_law_X5_leads rfl rfl rfl (by decide +kernel) ⟨Nat.le_of_ble_eq_true rfl, Nat.le_of_ble_eq_true rfl⟩) hK hM rfl rfl rfl rfl hl.1 rfl (Nat.le_of_ble_eq_true rfl) ⟨Nat.le_of_ble_eq_true rfl, Nat.le_of_ble_eq_true rfl⟩ dL_law_455 ?_
  refine lv_icmp_eq (tgt := 972) hx hb dL_law_458 (by decide) (fun _ => ?_) (fun q => absurd rfl q)
  exact kk _ _ _ _ _ _ _ _ _ _ _ _ _ _ Y
set_option maxHeartbeats 4000000 in
set_option maxRecDepth 100000 in
theorem law_c9 {p : Program} {l : Launch} {e : Env} {s : State} {m : MethodId} {below : List Frame} {meth : Method} {c : Code} {H : Heap} {locs : List Loc} {Q : State → Prop} {b L i : Nat} {xs : Nat → Int32} {D : va_G} {cI cZ : ClassId} {a k : Nat → Nat} {ls : Array Slot} {np nh nn nb ne : Nat} {td : Int32} {P G N B E : Nat → Nat → Int32} {mc : Nat → Int32} (X : LX p s m meth c b L xs D cI cZ a k ls i) (Y : LY s D cI cZ a k H locs np nh nn nb ne td P G N B E mc) (kk : LK p l e s m below meth c Q b D cI cZ a k ls) : W p l e room_1 s m #[Value.ref b] below meth c H locs 40 9000 Q (F0 m 463 ls []) := by
  obtain ⟨⟨hx, hb, hml, hown, hts, hX, hbl, hK, hL, hap, hr, hlocks⟩, hl, hi⟩ := id X
  obtain ⟨hv, hP, hM, hD, hE, hS⟩ := id Y
  obtain ⟨⟨hnp, hnh, hnn, hnb, hne⟩, ⟨hw, hs, hs0⟩, ⟨hg, hl0⟩, ⟨ho, hN0, hN1, hmc, hon⟩, htd⟩ := id hv
  refine lv_aload_n hx hb dL_law_463 rfl (lv_at hl 1 rfl) ?_
  refine ls_ld X hS 1 (by omega) (by decide) dL_law_464 dL_law_465 dL_law_466 dL_law_467 dL_law_468 ?_
  refine ls_ld X hS 2 (by omega) (by decide) dL_law_469 dL_law_470 dL_law_471 dL_law_472 dL_law_473 ?_
  refine ls_ld X hS 3 (by omega) (by decide) dL_law_474 dL_law_475 dL_law_476 dL_law_477 dL_law_478 ?_
  refine ls_ld X hS 4 (by omega) (by decide) dL_law_479 dL_law_480 dL_law_481 dL_law_482 dL_law_483 ?_
  refine lcV (As := [.int (xs (i + 1)), .int (xs (i + 2)), .int (xs (i + 3)), .int (xs (i + 4))]) (rest := []) (ci := 4) ⟨hx, hb, hml, hown, hts⟩ (kX4_bridge l D cI cZ (a 0) (a 1) (a 2) (a 3) (a 4) (a 5) (a 6) (a 7) (a 8) (a 9) (a 10) (a 11) (a 12) (a 13) np nh nn nb ne td P G N B E (xs (i + 1)) (xs (i + 2)) (xs (i + 3)) (xs (i + 4)) hnp hnh hnn hnb hne hw ho) (cwV 4 hts gL_law_X4_bridge rfl rfl rfl (by decide +kernel) ⟨Nat.le_of_ble_eq_true rfl, Nat.le_of_ble_eq_true rfl⟩) hK hP hM hD hap hS rfl rfl rfl rfl rfl hl.1 rfl (Nat.le_of_ble_eq_true rfl) ⟨Nat.le_of_ble_eq_true rfl, Nat.le_of_ble_eq_true rfl⟩ dL_law_484 (fun H locs hP hM hD hS => ?_)
  refine lv_aload_n hx hb dL_law_487 rfl (lv_at hl 2 rfl) ?_
  refine ls_ld X hS 1 (by omega) (by decide) dL_law_488 dL_law_489 dL_law_490 dL_law_491 dL_law_492 ?_
  refine ls_ld X hS 2 (by omega) (by decide) dL_law_493 dL_law_494 dL_law_495 dL_law_496 dL_law_497 ?_
  refine ls_ld X hS 3 (by omega) (by decide) dL_law_498 dL_law_499 dL_law_500 dL_law_501 dL_law_502 ?_
  refine ls_ld X hS 4 (by omega) (by decide) dL_law_503 dL_law_504 dL_law_505 dL_law_506 dL_law_507 ?_
  refine lcV (As := [.int (xs (i + 1)), .int (xs (i + 2)), .int (xs (i + 3)), .int (xs (i + 4))]) (rest := [.int _]) (ci := 5) ⟨hx, hb, hml, hown, hts⟩ (kX5_bridge l D cI cZ (k 0) (k 1) (k 2) (k 3) (k 4) (k 5) (k 6) (k 7) (k 8) (k 9) (k 10) (k 11) (k 12) (k 13) (k 14) (k 15) (k 16) (k 17) (k 18) (k 19) (k 20) np nh nn nb ne td P G N B E mc (xs (i + 1)) (xs (i + 2)) (xs (i + 3)) (xs (i + 4)) hnb) (cwV 4 hts gL_law_X5_bridge rfl rfl rfl (by decide +kernel) ⟨Nat.le_of_ble_eq_true rfl, Nat.le_of_ble_eq_true rfl⟩) hK hM hP hE (fun q h1 h2 => hap q h2 h1) hS rfl rfl rfl rfl rfl hl.1 rfl (Nat.le_of_ble_eq_true rfl) ⟨Nat.le_of_ble_eq_true rfl, Nat.le_of_ble_eq_true rfl⟩ dL_law_508 (fun H locs hM hP hE hS => ?_)
  refine lv_icmp_eq (tgt := 972) hx hb dL_law_511 (by decide) (fun _ => ?_) (fun q => absurd rfl q)
  exact kk _ _ _ _ _ _ _ _ _ _ _ _ _ _ ⟨Iv.bridge hv (xs (i + 1)) (xs (i + 2)) (xs (i + 3)) (xs (i + 4)), hP, hM, hD, hE, hS⟩
set_option maxHeartbeats 4000000 in
set_option maxRecDepth 100000 in
theorem law_c10 {p : Program} {l : Launch} {e : Env} {s : State} {m : MethodId} {below : List Frame} {meth : Method} {c : Code} {H : Heap} {locs : List Loc} {Q : State → Prop} {b L i : Nat} {xs : Nat → Int32} {D : va_G} {cI cZ : ClassId} {a k : Nat → Nat} {ls : Array Slot} {np nh nn nb ne : Nat} {td : Int32} {P G N B E : Nat → Nat → Int32} {mc : Nat → Int32} (X : LX p s m meth c b L xs D cI cZ a k ls i) (Y : LY s D cI cZ a k H locs np nh nn nb ne td P G N B E mc) (kk : LK p l e s m below meth c Q b D cI cZ a k ls) : W p l e room_1 s m #[Value.ref b] below meth c H locs 40 9000 Q (F0 m 516 ls []) := by
  obtain ⟨⟨hx, hb, hml, hown, hts, hX, hbl, hK, hL, hap, hr, hlocks⟩, hl, hi⟩ := id X
  obtain ⟨hv, hP, hM, hD, hE, hS⟩ := id Y
  obtain ⟨⟨hnp, hnh, hnn, hnb, hne⟩, ⟨hw, hs, hs0⟩, ⟨hg, hl0⟩, ⟨ho, hN0, hN1, hmc, hon⟩, htd⟩ := id hv
  refine lv_aload_n hx hb dL_law_516 rfl (lv_at hl 1 rfl) ?_
  refine ls_ld X hS 1 (by omega) (by decide) dL_law_517 dL_law_518 dL_law_519 dL_law_520 dL_law_521 ?_
  refine ls_ld X hS 2 (by omega) (by decide) dL_law_522 dL_law_523 dL_law_524 dL_law_525 dL_law_526 ?_
  refine ls_ld X hS 3 (by omega) (by decide) dL_law_527 dL_law_528 dL_law_529 dL_law_530 dL_law_531 ?_
  refine rcVw (As := [.int (xs (i + 1)), .int (xs (i + 2)), .int (xs (i + 3))]) (rest := []) (ci := 4) ⟨hx, hb, hml, hown, hts⟩ (kX4_holds l D cI cZ (a 0) (a 1) (a 2) (a 3) (a 4) (a 5) (a 6) (a 7) (a 8) (a 9) (a 10) (a 11) (a 12) (a 13) np nh nn nb ne td P G N B E (xs (i + 1)) (xs (i + 2)) (xs (i + 3)) hnp hnh hnn hnb hne hw ho) (cwV 3 hts gL_law_X4_holds rfl rfl rfl (by decide +kernel) ⟨Nat.le_of_ble_eq_true rfl, Nat.le_of_ble_eq_true rfl⟩) hK hP rfl rfl rfl rfl hl.1 rfl (Nat.le_of_ble_eq_true rfl) ⟨Nat.le_of_ble_eq_true rfl, Nat.le_of_ble_eq_true rfl⟩ dL_law_532 ?_
  refine lv_aload_n hx hb dL_law_535 rfl (lv_at hl 2 rfl) ?_
  refine ls_ld X hS 1 (by omega) (by decide) dL_law_536 dL_law_537 dL_law_538 dL_law_539 dL_law_540 ?_
  refine ls_ld X hS 2 (by omega) (by decide) dL_law_541 dL_law_542 dL_law_543 dL_law_544 dL_law_545 ?_
  refine ls_ld X hS 3 (by omega) (by decide) dL_law_546 dL_law_547 dL_law_548 dL_law_549 dL_law_550 ?_
  refine rcVw (As := [.int (xs (i + 1)), .int (xs (i + 2)), .int (xs (i + 3))]) (rest := [.int _]) (ci := 5) ⟨hx, hb, hml, hown, hts⟩ (kX5_holds l D cI cZ (k 0) (k 1) (k 2) (k 3) (k 4) (k 5) (k 6) (k 7) (k 8) (k 9) (k 10) (k 11) (k 12) (k 13) (k 14) (k 15) (k 16) (k 17) (k 18) (k 19) (k 20) np nh nn nb ne td P G N B E mc (xs (i + 1)) (xs (i + 2)) (xs (i + 3)) hnb) (cwV 3 hts gL_law_X5_holds rfl rfl rfl (by decide +kernel) ⟨Nat.le_of_ble_eq_true rfl, Nat.le_of_ble_eq_true rfl⟩) hK hM rfl rfl rfl rfl hl.1 rfl (Nat.le_of_ble_eq_true rfl) ⟨Nat.le_of_ble_eq_true rfl, Nat.le_of_ble_eq_true rfl⟩ dL_law_551 ?_
  refine lv_icmp_eq (tgt := 972) hx hb dL_law_554 (by decide) (fun _ => ?_) (fun q => absurd rfl q)
  exact kk _ _ _ _ _ _ _ _ _ _ _ _ _ _ Y
set_option maxHeartbeats 4000000 in
set_option maxRecDepth 100000 in
theorem law_c11 {p : Program} {l : Launch} {e : Env} {s : State} {m : MethodId} {below : List Frame} {meth : Method} {c : Code} {H : Heap} {locs : List Loc} {Q : State → Prop} {b L i : Nat} {xs : Nat → Int32} {D : va_G} {cI cZ : ClassId} {a k : Nat → Nat} {ls : Array Slot} {np nh nn nb ne : Nat} {td : Int32} {P G N B E : Nat → Nat → Int32} {mc : Nat → Int32} (X : LX p s m meth c b L xs D cI cZ a k ls i) (Y : LY s D cI cZ a k H locs np nh nn nb ne td P G N B E mc) (kk : LK p l e s m below meth c Q b D cI cZ a k ls) : W p l e room_1 s m #[Value.ref b] below meth c H locs 40 9000 Q (F0 m 559 ls []) := by
  obtain ⟨⟨hx, hb, hml, hown, hts, hX, hbl, hK, hL, hap, hr, hlocks⟩, hl, hi⟩ := id X
  obtain ⟨hv, hP, hM, hD, hE, hS⟩ := id Y
  obtain ⟨⟨hnp, hnh, hnn, hnb, hne⟩, ⟨hw, hs, hs0⟩, ⟨hg, hl0⟩, ⟨ho, hN0, hN1, hmc, hon⟩, htd⟩ := id hv
  refine lv_aload_n hx hb dL_law_559 rfl (lv_at hl 1 rfl) ?_
  refine ls_ld X hS 1 (by omega) (by decide) dL_law_560 dL_law_561 dL_law_562 dL_law_563 dL_law_564 ?_
  refine ls_ld X hS 2 (by omega) (by decide) dL_law_565 dL_law_566 dL_law_567 dL_law_568 dL_law_569 ?_
  refine ls_ld X hS 3 (by omega) (by decide) dL_law_570 dL_law_571 dL_law_572 dL_law_573 dL_law_574 ?_
  refine ls_ld X hS 4 (by omega) (by decide) dL_law_575 dL_law_576 dL_law_577 dL_law_578 dL_law_579 ?_
  refine lcV (As := [.int (xs (i + 1)), .int (xs (i + 2)), .int (xs (i + 3)), .int (xs (i + 4))]) (rest := []) (ci := 4) ⟨hx, hb, hml, hown, hts⟩ (kX4_cross l D cI cZ (a 0) (a 1) (a 2) (a 3) (a 4) (a 5) (a 6) (a 7) (a 8) (a 9) (a 10) (a 11) (a 12) (a 13) np nh nn nb ne td P G N B E (xs (i + 1)) (xs (i + 2)) (xs (i + 3)) (xs (i + 4)) hnp hnh hnn hnb hne hw ho) (cwV 4 hts gL_law_X4_cross rfl rfl rfl (by decide +kernel) ⟨Nat.le_of_ble_eq_true rfl, Nat.le_of_ble_eq_true rfl⟩) hK hP hM hD hap hS rfl rfl rfl rfl rfl hl.1 rfl (Nat.le_of_ble_eq_true rfl) ⟨Nat.le_of_ble_eq_true rfl, Nat.le_of_ble_eq_true rfl⟩ dL_law_580 (fun H locs hP hM hD hS => ?_)
  refine lv_aload_n hx hb dL_law_583 rfl (lv_at hl 2 rfl) ?_
  refine ls_ld X hS 1 (by omega) (by decide) dL_law_584 dL_law_585 dL_law_586 dL_law_587 dL_law_588 ?_
  refine ls_ld X hS 2 (by omega) (by decide) dL_law_589 dL_law_590 dL_law_591 dL_law_592 dL_law_593 ?_
  refine ls_ld X hS 3 (by omega) (by decide) dL_law_594 dL_law_595 dL_law_596 dL_law_597 dL_law_598 ?_
  refine ls_ld X hS 4 (by omega) (by decide) dL_law_599 dL_law_600 dL_law_601 dL_law_602 dL_law_603 ?_
  refine lcV (As := [.int (xs (i + 1)), .int (xs (i + 2)), .int (xs (i + 3)), .int (xs (i + 4))]) (rest := [.int _]) (ci := 5) ⟨hx, hb, hml, hown, hts⟩ (kX5_cross l D cI cZ (k 0) (k 1) (k 2) (k 3) (k 4) (k 5) (k 6) (k 7) (k 8) (k 9) (k 10) (k 11) (k 12) (k 13) (k 14) (k 15) (k 16) (k 17) (k 18) (k 19) (k 20) np nh nn nb ne td P G N B E mc (xs (i + 1)) (xs (i + 2)) (xs (i + 3)) (xs (i + 4)) hnp hnh hnn hnb hne hw ho hs hg hN1 hmc hon) (cwV 4 hts gL_law_X5_cross rfl rfl rfl (by decide +kernel) ⟨Nat.le_of_ble_eq_true rfl, Nat.le_of_ble_eq_true rfl⟩) hK hM hP hE (fun q h1 h2 => hap q h2 h1) hS rfl rfl rfl rfl rfl hl.1 rfl (Nat.le_of_ble_eq_true rfl) ⟨Nat.le_of_ble_eq_true rfl, Nat.le_of_ble_eq_true rfl⟩ dL_law_604 (fun H locs hM hP hE hS => ?_)
  refine lv_icmp_eq (tgt := 972) hx hb dL_law_607 (by decide) (fun _ => ?_) (fun q => absurd rfl q)
  exact kk _ _ _ _ _ _ _ _ _ _ _ _ _ _ ⟨Iv.cross (B := B) hv (xs (i + 1)) (xs (i + 2)) (xs (i + 3)) (xs (i + 4)), hP, hM, hD, hE, hS⟩
