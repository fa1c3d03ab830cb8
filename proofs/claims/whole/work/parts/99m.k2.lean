variable {sc : SC}

section LAWC
variable {d mc ms : Nat} {r : zR} {h' : List zO} {i : Nat}
variable {S X R : ZS} {T : TS} {P : ZS} {TU : TS} {q : Nat} {G : Nat → TS} {TN : TS} {fl : Nat → Int64} {fd : Nat → UInt64} {n : Nat} {f : Nat → Int32} {M : ZS} {S' X' R' : ZS} {T' : TS} {P' : ZS} {TU' : TS} {q' : Nat} {G' : Nat → TS} {TN' : TS} {fl' : Nat → Int64} {fd' : Nat → UInt64} {M' : ZS}
theorem l_case0 (hi : i + 6 ≤ n) (hn : n ≤ 3072) (hc : f i &&& 63 = 0) {a : Int32} {d2 : Nat} (h2 : d2 + 1 ≤ d) (hX : zM (n, f) yX6_append cX6_append 6 (some .int) d2 0 0 [.ref 0, .int (f (i + 1)), .int (f (i + 2)), .int (f (i + 3)), .int (f (i + 4)), .int (f (i + 5))] (qh S X R T) (.inl (some (.int a))) (qh S X' R' T)) {b : Int32} {d3 : Nat} (h3 : d3 + 1 ≤ d) (hm : zM (n, f) yX7_append cX7_append 6 (some .int) d3 0 0 [.ref 0, .int (f (i + 1)), .int (f (i + 2)), .int (f (i + 3)), .int (f (i + 4)), .int (f (i + 5))] (mh M) (.inl (some (.int b))) (mh M')) (hab : a = b)
    (K : Z (n, f) yL_law cL_law 9 (some .boolean) d mc ms 28 (some (.ref 1000202) :: some (.ref 0) :: some (.ref 117) :: some (.ref 115) :: some (.ref 116) :: some (.int (nI (i + 6))) :: [none, none, none]) [] (LH S X' R' T P TU q G TN fl fd n f M') r h') : Z (n, f) yL_law cL_law 9 (some .boolean) d (mc + 1) (ms + 6) 28 (some (.ref 1000202) :: some (.ref 0) :: some (.ref 117) :: some (.ref 115) :: some (.ref 116) :: some (.int (nI (i))) :: [none, none, none]) [] (LH S X R T P TU q G TN fl fd n f M) r h' := by
  refine l_head hi hn ?_
  rw [hc]
  refine z_tabIn (tgt := 316) dL_law_45 (by decide) (by decide) rfl (by decide) ?_
  refine z_aload_1 dL_law_316 ?_
  refine l_arg (j := 1) hi hn (by decide) (by decide) dL_law_317 dL_law_318 dL_law_320 dL_law_321 dL_law_322 ?_
  refine l_arg (j := 2) hi hn (by decide) (by decide) dL_law_323 dL_law_324 dL_law_326 dL_law_327 dL_law_328 ?_
  refine l_arg (j := 3) hi hn (by decide) (by decide) dL_law_329 dL_law_330 dL_law_332 dL_law_333 dL_law_334 ?_
  refine l_arg (j := 4) hi hn (by decide) (by decide) dL_law_335 dL_law_336 dL_law_338 dL_law_339 dL_law_340 ?_
  refine l_arg (j := 5) hi hn (by decide) (by decide) dL_law_341 dL_law_342 dL_law_344 dL_law_345 dL_law_346 ?_
  refine Z.more (mc := mc) (ms := ms) (by omega) (by omega) ?_
  refine l_q6 (As := [.int (f (i + 1)), .int (f (i + 2)), .int (f (i + 3)), .int (f (i + 4)), .int (f (i + 5))]) (st := []) hX dL_law_347 zy_X6_append zm_L_165 rfl rfl (Nat.le_of_ble_eq_true rfl) h2 (by decide) ?_
  refine z_aload_2 dL_law_350 ?_
  refine l_arg (j := 1) hi hn (by decide) (by decide) dL_law_351 dL_law_352 dL_law_354 dL_law_355 dL_law_356 ?_
  refine l_arg (j := 2) hi hn (by decide) (by decide) dL_law_357 dL_law_358 dL_law_360 dL_law_361 dL_law_362 ?_
  refine l_arg (j := 3) hi hn (by decide) (by decide) dL_law_363 dL_law_364 dL_law_366 dL_law_367 dL_law_368 ?_
  refine l_arg (j := 4) hi hn (by decide) (by decide) dL_law_369 dL_law_370 dL_law_372 dL_law_373 dL_law_374 ?_
  refine l_arg (j := 5) hi hn (by decide) (by decide) dL_law_375 dL_law_376 dL_law_378 dL_law_379 dL_law_380 ?_
  refine l_m7 (As := [.int (f (i + 1)), .int (f (i + 2)), .int (f (i + 3)), .int (f (i + 4)), .int (f (i + 5))]) (st := [.int a]) hm dL_law_381 zy_X7_append zm_L_169 rfl rfl rfl rfl (Nat.le_of_ble_eq_true rfl) h3 (by decide) ?_
  refine z_icmp_eq_t (tgt := 3639) dL_law_384 (by decide) hab ?_
  exact l_next K
theorem l_case1 (hi : i + 6 ≤ n) (hn : n ≤ 3072) (hc : f i &&& 63 = 1) {k : Int32} {d2 mc2 ms2 : Nat} (h2 : d2 + 1 ≤ d) (hmc : mc2 ≤ 1) (hms : ms2 ≤ 6) (hW : zMW (n, f) yL_truncateInput cL_truncateInput 4 (some .int) d2 mc2 ms2 [.ref 0, .int (f (i + 1)), .ref 115] (WL S X R T P TU q G TN fl) (some (.int k)) (WL S' X' R' T' P' TU' q' G' TN' fl')) {b : Int32} {d3 : Nat} (h3 : d3 + 1 ≤ d) (hm : zM (n, f) yX7_truncateInput cX7_truncateInput 2 (some .int) d3 0 0 [.ref 0, .int (f (i + 1))] (mh M) (.inl (some (.int b))) (mh M')) (hk : M'.1 15 = k) (hb : k = 0 → fl' 0 = b.toInt64)
    (K : Z (n, f) yL_law cL_law 9 (some .boolean) d mc ms 28 (some (.ref 1000202) :: some (.ref 0) :: some (.ref 117) :: some (.ref 115) :: some (.ref 116) :: some (.int (nI (i + 6))) :: [none, none, none]) [] (LH S' X' R' T' P' TU' q' G' TN' fl' fd n f M') r h') : Z (n, f) yL_law cL_law 9 (some .boolean) d (mc + 1) (ms + 6) 28 (some (.ref 1000202) :: some (.ref 0) :: some (.ref 117) :: some (.ref 115) :: some (.ref 116) :: some (.int (nI (i))) :: [none, none, none]) [] (LH S X R T P TU q G TN fl fd n f M) r h' := by
  refine l_head hi hn ?_
  rw [hc]
  refine z_tabIn (tgt := 389) dL_law_45 (by decide) (by decide) rfl (by decide) ?_
  refine z_aload_1 dL_law_389 ?_
  refine l_arg (j := 1) hi hn (by decide) (by decide) dL_law_390 dL_law_391 dL_law_393 dL_law_394 dL_law_395 ?_
  refine z_aload_3 dL_law_396 ?_
  refine Z.more (mc := mc + mc2) (ms := ms + ms2) (by omega) (by omega) ?_
  refine l_wr (st := []) hW dL_law_397 zy_L_truncateInput zm_L_170 rfl (by decide) h2 (by decide) ?_
  refine z_istore_6 dL_law_400 rfl (by decide) ?_
  refine z_aload_2 dL_law_402 ?_
  refine l_arg (j := 1) hi hn (by decide) (by decide) dL_law_403 dL_law_404 dL_law_406 dL_law_407 dL_law_408 ?_
  refine l_m7 (As := [.int (f (i + 1))]) (st := []) hm dL_law_409 zy_X7_truncateInput zm_L_175 rfl rfl rfl rfl (Nat.le_of_ble_eq_true rfl) h3 (by decide) ?_
  refine z_istore_7 dL_law_412 rfl (by decide) ?_
  refine l_tailI hk hb (by omega) dL_law_414 dL_law_415 dL_law_418 dL_law_420 dL_law_425 dL_law_427 dL_law_430 dL_law_431 dL_law_432 dL_law_433 dL_law_435 dL_law_436 dL_law_437 dL_law_442 (by decide) ?_
  exact l_next K
theorem l_case2 (hi : i + 6 ≤ n) (hn : n ≤ 3072) (hc : f i &&& 63 = 2) {a : Int32} {d2 : Nat} (h2 : d2 + 1 ≤ d) (hX : zM (n, f) yX6_runScript cX6_runScript 1 (some .int) d2 0 0 [.ref 0] (FH S X R T P TU q G TN) (.inl (some (.int a))) (FH S' X' R' T' P' TU' q' G' TN')) {b : Int32} {d3 : Nat} (h3 : d3 + 1 ≤ d) (hm : zM (n, f) yX7_runScript cX7_runScript 2 (some .int) d3 0 0 [.ref 0] (mh M) (.inl (some (.int b))) (mh M')) (hab : a = b)
    (K : Z (n, f) yL_law cL_law 9 (some .boolean) d mc ms 28 (some (.ref 1000202) :: some (.ref 0) :: some (.ref 117) :: some (.ref 115) :: some (.ref 116) :: some (.int (nI (i + 6))) :: [none, none, none]) [] (LH S' X' R' T' P' TU' q' G' TN' fl fd n f M') r h') : Z (n, f) yL_law cL_law 9 (some .boolean) d (mc + 1) (ms + 6) 28 (some (.ref 1000202) :: some (.ref 0) :: some (.ref 117) :: some (.ref 115) :: some (.ref 116) :: some (.int (nI (i))) :: [none, none, none]) [] (LH S X R T P TU q G TN fl fd n f M) r h' := by
  refine l_head hi hn ?_
  rw [hc]
  refine z_tabIn (tgt := 445) dL_law_45 (by decide) (by decide) rfl (by decide) ?_
  refine z_aload_1 dL_law_445 ?_
  refine Z.more (mc := mc) (ms := ms) (by omega) (by omega) ?_
  refine l_f6 (As := []) (st := []) hX dL_law_446 zy_X6_runScript zm_L_179 rfl rfl (Nat.le_of_ble_eq_true rfl) h2 (by decide) ?_
  refine z_aload_2 dL_law_449 ?_
  refine l_m7 (As := []) (st := [.int a]) hm dL_law_450 zy_X7_runScript zm_L_182 rfl rfl rfl rfl (Nat.le_of_ble_eq_true rfl) h3 (by decide) ?_
  refine z_icmp_eq_t (tgt := 3639) dL_law_453 (by decide) hab ?_
  exact l_next K
theorem l_case3 (hi : i + 6 ≤ n) (hn : n ≤ 3072) (hc : f i &&& 63 = 3) {k : Int32} {d2 mc2 ms2 : Nat} (h2 : d2 + 1 ≤ d) (hmc : mc2 ≤ 1) (hms : ms2 ≤ 6) (hW : zMW (n, f) yL_assign cL_assign 6 (some .int) d2 mc2 ms2 [.ref 0, .int (f (i + 1)), .int (f (i + 2)), .int (f (i + 3)), .ref 115] (WL S X R T P TU q G TN fl) (some (.int k)) (WL S' X' R' T' P' TU' q' G' TN' fl')) {b : Int32} {d3 : Nat} (h3 : d3 + 1 ≤ d) (hm : zM (n, f) yX7_assign cX7_assign 4 (some .int) d3 0 0 [.ref 0, .int (f (i + 1)), .int (f (i + 2)), .int (f (i + 3))] (mh M) (.inl (some (.int b))) (mh M')) (hk : M'.1 15 = k) (hb : k = 0 → fl' 0 = b.toInt64)
    (K : Z (n, f) yL_law cL_law 9 (some .boolean) d mc ms 28 (some (.ref 1000202) :: some (.ref 0) :: some (.ref 117) :: some (.ref 115) :: some (.ref 116) :: some (.int (nI (i + 6))) :: [none, none, none]) [] (LH S' X' R' T' P' TU' q' G' TN' fl' fd n f M') r h') : Z (n, f) yL_law cL_law 9 (some .boolean) d (mc + 1) (ms + 6) 28 (some (.ref 1000202) :: some (.ref 0) :: some (.ref 117) :: some (.ref 115) :: some (.ref 116) :: some (.int (nI (i))) :: [none, none, none]) [] (LH S X R T P TU q G TN fl fd n f M) r h' := by
  refine l_head hi hn ?_
  rw [hc]
  refine z_tabIn (tgt := 458) dL_law_45 (by decide) (by decide) rfl (by decide) ?_
  refine z_aload_1 dL_law_458 ?_
  refine l_arg (j := 1) hi hn (by decide) (by decide) dL_law_459 dL_law_460 dL_law_462 dL_law_463 dL_law_464 ?_
  refine l_arg (j := 2) hi hn (by decide) (by decide) dL_law_465 dL_law_466 dL_law_468 dL_law_469 dL_law_470 ?_
  refine l_arg (j := 3) hi hn (by decide) (by decide) dL_law_471 dL_law_472 dL_law_474 dL_law_475 dL_law_476 ?_
  refine z_aload_3 dL_law_477 ?_
  refine Z.more (mc := mc + mc2) (ms := ms + ms2) (by omega) (by omega) ?_
  refine l_wr (st := []) hW dL_law_478 zy_L_assign zm_L_183 rfl (by decide) h2 (by decide) ?_
  refine z_istore_6 dL_law_481 rfl (by decide) ?_
  refine z_aload_2 dL_law_483 ?_
  refine l_arg (j := 1) hi hn (by decide) (by decide) dL_law_484 dL_law_485 dL_law_487 dL_law_488 dL_law_489 ?_
  refine l_arg (j := 2) hi hn (by decide) (by decide) dL_law_490 dL_law_491 dL_law_493 dL_law_494 dL_law_495 ?_
  refine l_arg (j := 3) hi hn (by decide) (by decide) dL_law_496 dL_law_497 dL_law_499 dL_law_500 dL_law_501 ?_
  refine l_m7 (As := [.int (f (i + 1)), .int (f (i + 2)), .int (f (i + 3))]) (st := []) hm dL_law_502 zy_X7_assign zm_L_186 rfl rfl rfl rfl (Nat.le_of_ble_eq_true rfl) h3 (by decide) ?_
  refine z_istore_7 dL_law_505 rfl (by decide) ?_
  refine l_tailI hk hb (by omega) dL_law_507 dL_law_508 dL_law_511 dL_law_513 dL_law_518 dL_law_520 dL_law_523 dL_law_524 dL_law_525 dL_law_526 dL_law_528 dL_law_529 dL_law_530 dL_law_535 (by decide) ?_
  exact l_next K
theorem l_case4 (hi : i + 6 ≤ n) (hn : n ≤ 3072) (hc : f i &&& 63 = 4) {k : Int32} {d2 mc2 ms2 : Nat} (h2 : d2 + 1 ≤ d) (hmc : mc2 ≤ 1) (hms : ms2 ≤ 6) (hW : zMW (n, f) yL_add cL_add 6 (some .int) d2 mc2 ms2 [.ref 0, .int (f (i + 1)), .int (f (i + 2)), .int (f (i + 3)), .ref 115] (WL S X R T P TU q G TN fl) (some (.int k)) (WL S' X' R' T' P' TU' q' G' TN' fl')) {b : Int32} {d3 : Nat} (h3 : d3 + 1 ≤ d) (hm : zM (n, f) yX7_add cX7_add 6 (some .int) d3 0 0 [.ref 0, .int (f (i + 1)), .int (f (i + 2)), .int (f (i + 3))] (mh M) (.inl (some (.int b))) (mh M')) (hk : M'.1 15 = k) (hb : k = 0 → fl' 0 = b.toInt64)
    (K : Z (n, f) yL_law cL_law 9 (some .boolean) d mc ms 28 (some (.ref 1000202) :: some (.ref 0) :: some (.ref 117) :: some (.ref 115) :: some (.ref 116) :: some (.int (nI (i + 6))) :: [none, none, none]) [] (LH S' X' R' T' P' TU' q' G' TN' fl' fd n f M') r h') : Z (n, f) yL_law cL_law 9 (some .boolean) d (mc + 1) (ms + 6) 28 (some (.ref 1000202) :: some (.ref 0) :: some (.ref 117) :: some (.ref 115) :: some (.ref 116) :: some (.int (nI (i))) :: [none, none, none]) [] (LH S X R T P TU q G TN fl fd n f M) r h' := by
  refine l_head hi hn ?_
  rw [hc]
  refine z_tabIn (tgt := 538) dL_law_45 (by decide) (by decide) rfl (by decide) ?_
  refine z_aload_1 dL_law_538 ?_
  refine l_arg (j := 1) hi hn (by decide) (by decide) dL_law_539 dL_law_540 dL_law_542 dL_law_543 dL_law_544 ?_
  refine l_arg (j := 2) hi hn (by decide) (by decide) dL_law_545 dL_law_546 dL_law_548 dL_law_549 dL_law_550 ?_
  refine l_arg (j := 3) hi hn (by decide) (by decide) dL_law_551 dL_law_552 dL_law_554 dL_law_555 dL_law_556 ?_
  refine z_aload_3 dL_law_557 ?_
  refine Z.more (mc := mc + mc2) (ms := ms + ms2) (by omega) (by omega) ?_
  refine l_wr (st := []) hW dL_law_558 zy_L_add zm_L_187 rfl (by decide) h2 (by decide) ?_
  refine z_istore_6 dL_law_561 rfl (by decide) ?_
  refine z_aload_2 dL_law_563 ?_
  refine l_arg (j := 1) hi hn (by decide) (by decide) dL_law_564 dL_law_565 dL_law_567 dL_law_568 dL_law_569 ?_
  refine l_arg (j := 2) hi hn (by decide) (by decide) dL_law_570 dL_law_571 dL_law_573 dL_law_574 dL_law_575 ?_
  refine l_arg (j := 3) hi hn (by decide) (by decide) dL_law_576 dL_law_577 dL_law_579 dL_law_580 dL_law_581 ?_
  refine l_m7 (As := [.int (f (i + 1)), .int (f (i + 2)), .int (f (i + 3))]) (st := []) hm dL_law_582 zy_X7_add zm_L_189 rfl rfl rfl rfl (Nat.le_of_ble_eq_true rfl) h3 (by decide) ?_
  refine z_istore_7 dL_law_585 rfl (by decide) ?_
  refine l_tailI hk hb (by omega) dL_law_587 dL_law_588 dL_law_591 dL_law_593 dL_law_598 dL_law_600 dL_law_603 dL_law_604 dL_law_605 dL_law_606 dL_law_608 dL_law_609 dL_law_610 dL_law_615 (by decide) ?_
  exact l_next K
theorem l_case5 (hi : i + 6 ≤ n) (hn : n ≤ 3072) (hc : f i &&& 63 = 5) {k : Int32} {d2 mc2 ms2 : Nat} (h2 : d2 + 1 ≤ d) (hmc : mc2 ≤ 1) (hms : ms2 ≤ 6) (hW : zMW (n, f) yL_negate cL_negate 5 (some .int) d2 mc2 ms2 [.ref 0, .int (f (i + 1)), .int (f (i + 2)), .ref 115] (WL S X R T P TU q G TN fl) (some (.int k)) (WL S' X' R' T' P' TU' q' G' TN' fl')) {b : Int32} {d3 : Nat} (h3 : d3 + 1 ≤ d) (hm : zM (n, f) yX7_negate cX7_negate 3 (some .int) d3 0 0 [.ref 0, .int (f (i + 1)), .int (f (i + 2))] (mh M) (.inl (some (.int b))) (mh M')) (hk : M'.1 15 = k) (hb : k = 0 → fl' 0 = b.toInt64)
    (K : Z (n, f) yL_law cL_law 9 (some .boolean) d mc ms 28 (some (.ref 1000202) :: some (.ref 0) :: some (.ref 117) :: some (.ref 115) :: some (.ref 116) :: some (.int (nI (i + 6))) :: [none, none, none]) [] (LH S' X' R' T' P' TU' q' G' TN' fl' fd n f M') r h') : Z (n, f) yL_law cL_law 9 (some .boolean) d (mc + 1) (ms + 6) 28 (some (.ref 1000202) :: some (.ref 0) :: some (.ref 117) :: some (.ref 115) :: some (.ref 116) :: some (.int (nI (i))) :: [none, none, none]) [] (LH S X R T P TU q G TN fl fd n f M) r h' := by
  refine l_head hi hn ?_
  rw [hc]
  refine z_tabIn (tgt := 618) dL_law_45 (by decide) (by decide) rfl (by decide) ?_
  refine z_aload_1 dL_law_618 ?_
  refine l_arg (j := 1) hi hn (by decide) (by decide) dL_law_619 dL_law_620 dL_law_622 dL_law_623 dL_law_624 ?_
  refine l_arg (j := 2) hi hn (by decide) (by decide) dL_law_625 dL_law_626 dL_law_628 dL_law_629 dL_law_630 ?_
  refine z_aload_3 dL_law_631 ?_
  refine Z.more (mc := mc + mc2) (ms := ms + ms2) (by omega) (by omega) ?_
  refine l_wr (st := []) hW dL_law_632 zy_L_negate zm_L_190 rfl (by decide) h2 (by decide) ?_
  refine z_istore_6 dL_law_635 rfl (by decide) ?_
  refine z_aload_2 dL_law_637 ?_
  refine l_arg (j := 1) hi hn (by decide) (by decide) dL_law_638 dL_law_639 dL_law_641 dL_law_642 dL_law_643 ?_
  refine l_arg (j := 2) hi hn (by decide) (by decide) dL_law_644 dL_law_645 dL_law_647 dL_law_648 dL_law_649 ?_
  refine l_m7 (As := [.int (f (i + 1)), .int (f (i + 2))]) (st := []) hm dL_law_650 zy_X7_negate zm_L_193 rfl rfl rfl rfl (Nat.le_of_ble_eq_true rfl) h3 (by decide) ?_
  refine z_istore_7 dL_law_653 rfl (by decide) ?_
  refine l_tailI hk hb (by omega) dL_law_655 dL_law_656 dL_law_659 dL_law_661 dL_law_666 dL_law_668 dL_law_671 dL_law_672 dL_law_673 dL_law_674 dL_law_676 dL_law_677 dL_law_678 dL_law_683 (by decide) ?_
  exact l_next K
theorem l_case6 (hi : i + 6 ≤ n) (hn : n ≤ 3072) (hc : f i &&& 63 = 6) {k : Int32} {d2 mc2 ms2 : Nat} (h2 : d2 + 1 ≤ d) (hmc : mc2 ≤ 1) (hms : ms2 ≤ 6) (hW : zMW (n, f) yL_pushDown cL_pushDown 4 (some .int) d2 mc2 ms2 [.ref 0, .int (f (i + 1)), .ref 115] (WL S X R T P TU q G TN fl) (some (.int k)) (WL S' X' R' T' P' TU' q' G' TN' fl')) {b : Bool} {d3 : Nat} (h3 : d3 + 1 ≤ d) (hm : zM (n, f) yX7_pushDown cX7_pushDown 3 (some .boolean) d3 0 0 [.ref 0, .int (f (i + 1))] (mh M) (.inl (some (.int (zb b)))) (mh M')) (hk : M'.1 15 = k) (hb : k = 0 → fl' 0 = if b = true then 1 else 0)
    (K : Z (n, f) yL_law cL_law 9 (some .boolean) d mc ms 28 (some (.ref 1000202) :: some (.ref 0) :: some (.ref 117) :: some (.ref 115) :: some (.ref 116) :: some (.int (nI (i + 6))) :: [none, none, none]) [] (LH S' X' R' T' P' TU' q' G' TN' fl' fd n f M') r h') : Z (n, f) yL_law cL_law 9 (some .boolean) d (mc + 1) (ms + 6) 28 (some (.ref 1000202) :: some (.ref 0) :: some (.ref 117) :: some (.ref 115) :: some (.ref 116) :: some (.int (nI (i))) :: [none, none, none]) [] (LH S X R T P TU q G TN fl fd n f M) r h' := by
  refine l_head hi hn ?_
  rw [hc]
  refine z_tabIn (tgt := 686) dL_law_45 (by decide) (by decide) rfl (by decide) ?_
  refine z_aload_1 dL_law_686 ?_
  refine l_arg (j := 1) hi hn (by decide) (by decide) dL_law_687 dL_law_688 dL_law_690 dL_law_691 dL_law_692 ?_
  refine z_aload_3 dL_law_693 ?_
  refine Z.more (mc := mc + mc2) (ms := ms + ms2) (by omega) (by omega) ?_
  refine l_wr (st := []) hW dL_law_694 zy_L_pushDown zm_L_194 rfl (by decide) h2 (by decide) ?_
  refine z_istore_6 dL_law_697 rfl (by decide) ?_
  refine z_aload_2 dL_law_699 ?_
  refine l_arg (j := 1) hi hn (by decide) (by decide) dL_law_700 dL_law_701 dL_law_703 dL_law_704 dL_law_705 ?_
  refine l_m7 (As := [.int (f (i + 1))]) (st := []) hm dL_law_706 zy_X7_pushDown zm_L_196 rfl rfl rfl rfl (Nat.le_of_ble_eq_true rfl) h3 (by decide) ?_
  refine z_istore_7 dL_law_709 rfl (by decide) ?_
  refine l_tailB hk hb (by omega) dL_law_711 dL_law_712 dL_law_715 dL_law_717 dL_law_722 dL_law_724 dL_law_727 dL_law_728 dL_law_729 dL_law_730 dL_law_732 dL_law_735 dL_law_736 dL_law_739 dL_law_740 dL_law_741 dL_law_746 (by decide) ?_
  exact l_next K
theorem l_case7 (hi : i + 6 ≤ n) (hn : n ≤ 3072) (hc : f i &&& 63 = 7) {a : Int32} {d2 : Nat} (h2 : d2 + 1 ≤ d) (hX : zM (n, f) yX6_pushAll cX6_pushAll 1 (some .int) d2 0 0 [.ref 0] (FH S X R T P TU q G TN) (.inl (some (.int a))) (FH S' X' R' T' P' TU' q' G' TN')) {b : Int32} {d3 : Nat} (h3 : d3 + 1 ≤ d) (hm : zM (n, f) yX7_pushAll cX7_pushAll 1 (some .int) d3 0 0 [.ref 0] (mh M) (.inl (some (.int b))) (mh M')) (hab : a = b)
    (K : Z (n, f) yL_law cL_law 9 (some .boolean) d mc ms 28 (some (.ref 1000202) :: some (.ref 0) :: some (.ref 117) :: some (.ref 115) :: some (.ref 116) :: some (.int (nI (i + 6))) :: [none, none, none]) [] (LH S' X' R' T' P' TU' q' G' TN' fl fd n f M') r h') : Z (n, f) yL_law cL_law 9 (some .boolean) d (mc + 1) (ms + 6) 28 (some (.ref 1000202) :: some (.ref 0) :: some (.ref 117) :: some (.ref 115) :: some (.ref 116) :: some (.int (nI (i))) :: [none, none, none]) [] (LH S X R T P TU q G TN fl fd n f M) r h' := by
  refine l_head hi hn ?_
  rw [hc]
  refine z_tabIn (tgt := 749) dL_law_45 (by decide) (by decide) rfl (by decide) ?_
  refine z_aload_1 dL_law_749 ?_
  refine Z.more (mc := mc) (ms := ms) (by omega) (by omega) ?_
  refine l_f6 (As := []) (st := []) hX dL_law_750 zy_X6_pushAll zm_L_197 rfl rfl (Nat.le_of_ble_eq_true rfl) h2 (by decide) ?_
  refine z_aload_2 dL_law_753 ?_
  refine l_m7 (As := []) (st := [.int a]) hm dL_law_754 zy_X7_pushAll zm_L_200 rfl rfl rfl rfl (Nat.le_of_ble_eq_true rfl) h3 (by decide) ?_
  refine z_icmp_eq_t (tgt := 3639) dL_law_757 (by decide) hab ?_
  exact l_next K
theorem l_case8 (hi : i + 6 ≤ n) (hn : n ≤ 3072) (hc : f i &&& 63 = 8) {k : Int32} {d2 mc2 ms2 : Nat} (h2 : d2 + 1 ≤ d) (hmc : mc2 ≤ 1) (hms : ms2 ≤ 6) (hW : zMW (n, f) yL_appendElement cL_appendElement 4 (some .int) d2 mc2 ms2 [.ref 0, .int (f (i + 1)), .ref 115] (WL S X R T P TU q G TN fl) (some (.int k)) (WL S' X' R' T' P' TU' q' G' TN' fl')) {b : Int32} {d3 : Nat} (h3 : d3 + 1 ≤ d) (hm : zM (n, f) yX7_appendElement cX7_appendElement 2 (some .int) d3 0 0 [.ref 0, .int (f (i + 1))] (mh M) (.inl (some (.int b))) (mh M')) (hk : M'.1 15 = k) (hb : k = 0 → fl' 0 = b.toInt64)
    (K : Z (n, f) yL_law cL_law 9 (some .boolean) d mc ms 28 (some (.ref 1000202) :: some (.ref 0) :: some (.ref 117) :: some (.ref 115) :: some (.ref 116) :: some (.int (nI (i + 6))) :: [none, none, none]) [] (LH S' X' R' T' P' TU' q' G' TN' fl' fd n f M') r h') : Z (n, f) yL_law cL_law 9 (some .boolean) d (mc + 1) (ms + 6) 28 (some (.ref 1000202) :: some (.ref 0) :: some (.ref 117) :: some (.ref 115) :: some (.ref 116) :: some (.int (nI (i))) :: [none, none, none]) [] (LH S X R T P TU q G TN fl fd n f M) r h' := by
  refine l_head hi hn ?_
  rw [hc]
  refine z_tabIn (tgt := 762) dL_law_45 (by decide) (by decide) rfl (by decide) ?_
  refine z_aload_1 dL_law_762 ?_
  refine l_arg (j := 1) hi hn (by decide) (by decide) dL_law_763 dL_law_764 dL_law_766 dL_law_767 dL_law_768 ?_
  refine z_aload_3 dL_law_769 ?_
  refine Z.more (mc := mc + mc2) (ms := ms + ms2) (by omega) (by omega) ?_
  refine l_wr (st := []) hW dL_law_770 zy_L_appendElement zm_L_201 rfl (by decide) h2 (by decide) ?_
  refine z_istore_6 dL_law_773 rfl (by decide) ?_
  refine z_aload_2 dL_law_775 ?_
  refine l_arg (j := 1) hi hn (by decide) (by decide) dL_law_776 dL_law_777 dL_law_779 dL_law_780 dL_law_781 ?_
  refine l_m7 (As := [.int (f (i + 1))]) (st := []) hm dL_law_782 zy_X7_appendElement zm_L_203 rfl rfl rfl rfl (Nat.le_of_ble_eq_true rfl) h3 (by decide) ?_
  refine z_istore_7 dL_law_785 rfl (by decide) ?_
  refine l_tailI hk hb (by omega) dL_law_787 dL_law_788 dL_law_791 dL_law_793 dL_law_798 dL_law_800 dL_law_803 dL_law_804 dL_law_805 dL_law_806 dL_law_808 dL_law_809 dL_law_810 dL_law_815 (by decide) ?_
  exact l_next K
theorem l_case9 (hi : i + 6 ≤ n) (hn : n ≤ 3072) (hc : f i &&& 63 = 9) {k : Int32} {d2 mc2 ms2 : Nat} (h2 : d2 + 1 ≤ d) (hmc : mc2 ≤ 1) (hms : ms2 ≤ 6) (hW : zMW (n, f) yL_removeLast cL_removeLast 3 (some .int) d2 mc2 ms2 [.ref 0, .ref 115] (WL S X R T P TU q G TN fl) (some (.int k)) (WL S' X' R' T' P' TU' q' G' TN' fl')) {b : Int32} {d3 : Nat} (h3 : d3 + 1 ≤ d) (hm : zM (n, f) yX7_removeLast cX7_removeLast 1 (some .int) d3 0 0 [.ref 0] (mh M) (.inl (some (.int b))) (mh M')) (hk : M'.1 15 = k) (hb : k = 0 → fl' 0 = b.toInt64)
    (K : Z (n, f) yL_law cL_law 9 (some .boolean) d mc ms 28 (some (.ref 1000202) :: some (.ref 0) :: some (.ref 117) :: some (.ref 115) :: some (.ref 116) :: some (.int (nI (i + 6))) :: [none, none, none]) [] (LH S' X' R' T' P' TU' q' G' TN' fl' fd n f M') r h') : Z (n, f) yL_law cL_law 9 (some .boolean) d (mc + 1) (ms + 6) 28 (some (.ref 1000202) :: some (.ref 0) :: some (.ref 117) :: some (.ref 115) :: some (.ref 116) :: some (.int (nI (i))) :: [none, none, none]) [] (LH S X R T P TU q G TN fl fd n f M) r h' := by
  refine l_head hi hn ?_
  rw [hc]
  refine z_tabIn (tgt := 818) dL_law_45 (by decide) (by decide) rfl (by decide) ?_
  refine z_aload_1 dL_law_818 ?_
  refine z_aload_3 dL_law_819 ?_
  refine Z.more (mc := mc + mc2) (ms := ms + ms2) (by omega) (by omega) ?_
  refine l_wr (st := []) hW dL_law_820 zy_L_removeLast zm_L_204 rfl (by decide) h2 (by decide) ?_
  refine z_istore_6 dL_law_823 rfl (by decide) ?_
  refine z_aload_2 dL_law_825 ?_
  refine l_m7 (As := []) (st := []) hm dL_law_826 zy_X7_removeLast zm_L_207 rfl rfl rfl rfl (Nat.le_of_ble_eq_true rfl) h3 (by decide) ?_
  refine z_istore_7 dL_law_829 rfl (by decide) ?_
  refine l_tailI hk hb (by omega) dL_law_831 dL_law_832 dL_law_835 dL_law_837 dL_law_842 dL_law_844 dL_law_847 dL_law_848 dL_law_849 dL_law_850 dL_law_852 dL_law_853 dL_law_854 dL_law_859 (by decide) ?_
  exact l_next K
theorem l_case10 (hi : i + 6 ≤ n) (hn : n ≤ 3072) (hc : f i &&& 63 = 10) {a : Int32} {d2 : Nat} (h2 : d2 + 1 ≤ d) (hX : zM (n, f) yX6_undo cX6_undo 1 (some .int) d2 0 0 [.ref 0] (FH S X R T P TU q G TN) (.inl (some (.int a))) (FH S' X' R' T' P' TU' q' G' TN')) {b : Int32} {d3 : Nat} (h3 : d3 + 1 ≤ d) (hm : zM (n, f) yX7_undo cX7_undo 2 (some .int) d3 0 0 [.ref 0] (mh M) (.inl (some (.int b))) (mh M')) (hab : a = b)
    (K : Z (n, f) yL_law cL_law 9 (some .boolean) d mc ms 28 (some (.ref 1000202) :: some (.ref 0) :: some (.ref 117) :: some (.ref 115) :: some (.ref 116) :: some (.int (nI (i + 6))) :: [none, none, none]) [] (LH S' X' R' T' P' TU' q' G' TN' fl fd n f M') r h') : Z (n, f) yL_law cL_law 9 (some .boolean) d (mc + 1) (ms + 6) 28 (some (.ref 1000202) :: some (.ref 0) :: some (.ref 117) :: some (.ref 115) :: some (.ref 116) :: some (.int (nI (i))) :: [none, none, none]) [] (LH S X R T P TU q G TN fl fd n f M) r h' := by
  refine l_head hi hn ?_
  rw [hc]
  refine z_tabIn (tgt := 862) dL_law_45 (by decide) (by decide) rfl (by decide) ?_
  refine z_aload_1 dL_law_862 ?_
  refine Z.more (mc := mc) (ms := ms) (by omega) (by omega) ?_
  refine l_f6 (As := []) (st := []) hX dL_law_863 zy_X6_undo zm_L_208 rfl rfl (Nat.le_of_ble_eq_true rfl) h2 (by decide) ?_
  refine z_aload_2 dL_law_866 ?_
  refine l_m7 (As := []) (st := [.int a]) hm dL_law_867 zy_X7_undo zm_L_211 rfl rfl rfl rfl (Nat.le_of_ble_eq_true rfl) h3 (by decide) ?_
  refine z_icmp_eq_t (tgt := 3639) dL_law_870 (by decide) hab ?_
  exact l_next K
theorem l_case11 (hi : i + 6 ≤ n) (hn : n ≤ 3072) (hc : f i &&& 63 = 11) {a : Int32} {d2 : Nat} (h2 : d2 + 1 ≤ d) (hX : zM (n, f) yX6_undoCount cX6_undoCount 1 (some .int) d2 0 0 [.ref 0] (FH S X R T P TU q G TN) (.inl (some (.int a))) (FH S' X' R' T' P' TU' q' G' TN')) {b : Int32} {d3 : Nat} (h3 : d3 + 1 ≤ d) (hm : zM (n, f) yX7_undoCount cX7_undoCount 1 (some .int) d3 0 0 [.ref 0] (mh M) (.inl (some (.int b))) (mh M')) (hab : a = b)
    (K : Z (n, f) yL_law cL_law 9 (some .boolean) d mc ms 28 (some (.ref 1000202) :: some (.ref 0) :: some (.ref 117) :: some (.ref 115) :: some (.ref 116) :: some (.int (nI (i + 6))) :: [none, none, none]) [] (LH S' X' R' T' P' TU' q' G' TN' fl fd n f M') r h') : Z (n, f) yL_law cL_law 9 (some .boolean) d (mc + 1) (ms + 6) 28 (some (.ref 1000202) :: some (.ref 0) :: some (.ref 117) :: some (.ref 115) :: some (.ref 116) :: some (.int (nI (i))) :: [none, none, none]) [] (LH S X R T P TU q G TN fl fd n f M) r h' := by
  refine l_head hi hn ?_
  rw [hc]
  refine z_tabIn (tgt := 875) dL_law_45 (by decide) (by decide) rfl (by decide) ?_
  refine z_aload_1 dL_law_875 ?_
  refine Z.more (mc := mc) (ms := ms) (by omega) (by omega) ?_
  refine l_f6 (As := []) (st := []) hX dL_law_876 zy_X6_undoCount zm_L_212 rfl rfl (Nat.le_of_ble_eq_true rfl) h2 (by decide) ?_
  refine z_aload_2 dL_law_879 ?_
  refine l_m7 (As := []) (st := [.int a]) hm dL_law_880 zy_X7_undoCount zm_L_215 rfl rfl rfl rfl (Nat.le_of_ble_eq_true rfl) h3 (by decide) ?_
  refine z_icmp_eq_t (tgt := 3639) dL_law_883 (by decide) hab ?_
  exact l_next K
theorem l_case12 (hi : i + 6 ≤ n) (hn : n ≤ 3072) (hc : f i &&& 63 = 12) {a : Int32} {d2 : Nat} (h2 : d2 + 1 ≤ d) (hX : zM (n, f) yX6_saveSnapshot cX6_saveSnapshot 1 (some .int) d2 0 0 [.ref 0] (FH S X R T P TU q G TN) (.inl (some (.int a))) (FH S' X' R' T' P' TU' q' G' TN')) {b : Int32} {d3 : Nat} (h3 : d3 + 1 ≤ d) (hm : zM (n, f) yX7_saveSnapshot cX7_saveSnapshot 2 (some .int) d3 0 0 [.ref 0] (mh M) (.inl (some (.int b))) (mh M')) (hab : a = b)
    (K : Z (n, f) yL_law cL_law 9 (some .boolean) d mc ms 28 (some (.ref 1000202) :: some (.ref 0) :: some (.ref 117) :: some (.ref 115) :: some (.ref 116) :: some (.int (nI (i + 6))) :: [none, none, none]) [] (LH S' X' R' T' P' TU' q' G' TN' fl fd n f M') r h') : Z (n, f) yL_law cL_law 9 (some .boolean) d (mc + 1) (ms + 6) 28 (some (.ref 1000202) :: some (.ref 0) :: some (.ref 117) :: some (.ref 115) :: some (.ref 116) :: some (.int (nI (i))) :: [none, none, none]) [] (LH S X R T P TU q G TN fl fd n f M) r h' := by
  refine l_head hi hn ?_
  rw [hc]
  refine z_tabIn (tgt := 888) dL_law_45 (by decide) (by decide) rfl (by decide) ?_
  refine z_aload_1 dL_law_888 ?_
  refine Z.more (mc := mc) (ms := ms) (by omega) (by omega) ?_
  refine l_f6 (As := []) (st := []) hX dL_law_889 zy_X6_saveSnapshot zm_L_216 rfl rfl (Nat.le_of_ble_eq_true rfl) h2 (by decide) ?_
  refine z_aload_2 dL_law_892 ?_
  refine l_m7 (As := []) (st := [.int a]) hm dL_law_893 zy_X7_saveSnapshot zm_L_219 rfl rfl rfl rfl (Nat.le_of_ble_eq_true rfl) h3 (by decide) ?_
  refine z_icmp_eq_t (tgt := 3639) dL_law_896 (by decide) hab ?_
  exact l_next K
theorem l_case13 (hi : i + 6 ≤ n) (hn : n ≤ 3072) (hc : f i &&& 63 = 13) {k : Int32} {d2 mc2 ms2 : Nat} (h2 : d2 + 1 ≤ d) (hmc : mc2 ≤ 1) (hms : ms2 ≤ 6) (hW : zMW (n, f) yL_restoreSnapshot cL_restoreSnapshot 3 (some .int) d2 mc2 ms2 [.ref 0, .ref 115] (WL S X R T P TU q G TN fl) (some (.int k)) (WL S' X' R' T' P' TU' q' G' TN' fl')) {b : Int32} {d3 : Nat} (h3 : d3 + 1 ≤ d) (hm : zM (n, f) yX7_restoreSnapshot cX7_restoreSnapshot 2 (some .int) d3 0 0 [.ref 0] (mh M) (.inl (some (.int b))) (mh M')) (hk : M'.1 15 = k) (hb : k = 0 → fl' 0 = b.toInt64)
    (K : Z (n, f) yL_law cL_law 9 (some .boolean) d mc ms 28 (some (.ref 1000202) :: some (.ref 0) :: some (.ref 117) :: some (.ref 115) :: some (.ref 116) :: some (.int (nI (i + 6))) :: [none, none, none]) [] (LH S' X' R' T' P' TU' q' G' TN' fl' fd n f M') r h') : Z (n, f) yL_law cL_law 9 (some .boolean) d (mc + 1) (ms + 6) 28 (some (.ref 1000202) :: some (.ref 0) :: some (.ref 117) :: some (.ref 115) :: some (.ref 116) :: some (.int (nI (i))) :: [none, none, none]) [] (LH S X R T P TU q G TN fl fd n f M) r h' := by
  refine l_head hi hn ?_
  rw [hc]
  refine z_tabIn (tgt := 901) dL_law_45 (by decide) (by decide) rfl (by decide) ?_
  refine z_aload_1 dL_law_901 ?_
  refine z_aload_3 dL_law_902 ?_
  refine Z.more (mc := mc + mc2) (ms := ms + ms2) (by omega) (by omega) ?_
  refine l_wr (st := []) hW dL_law_903 zy_L_restoreSnapshot zm_L_220 rfl (by decide) h2 (by decide) ?_
  refine z_istore_6 dL_law_906 rfl (by decide) ?_
  refine z_aload_2 dL_law_908 ?_
  refine l_m7 (As := []) (st := []) hm dL_law_909 zy_X7_restoreSnapshot zm_L_222 rfl rfl rfl rfl (Nat.le_of_ble_eq_true rfl) h3 (by decide) ?_
  refine z_istore_7 dL_law_912 rfl (by decide) ?_
  refine l_tailI hk hb (by omega) dL_law_914 dL_law_915 dL_law_918 dL_law_920 dL_law_925 dL_law_927 dL_law_930 dL_law_931 dL_law_932 dL_law_933 dL_law_935 dL_law_936 dL_law_937 dL_law_942 (by decide) ?_
  exact l_next K
theorem l_case14 (hi : i + 6 ≤ n) (hn : n ≤ 3072) (hc : f i &&& 63 = 14) {a : Int32} {d2 : Nat} (h2 : d2 + 1 ≤ d) (hX : zM (n, f) yX6_scriptErrorKind cX6_scriptErrorKind 1 (some .int) d2 0 0 [.ref 0] (FH S X R T P TU q G TN) (.inl (some (.int a))) (FH S' X' R' T' P' TU' q' G' TN')) {b : Int32} {d3 : Nat} (h3 : d3 + 1 ≤ d) (hm : zM (n, f) yX7_scriptErrorKind cX7_scriptErrorKind 1 (some .int) d3 0 0 [.ref 0] (mh M) (.inl (some (.int b))) (mh M')) (hab : a = b)
    (K : Z (n, f) yL_law cL_law 9 (some .boolean) d mc ms 28 (some (.ref 1000202) :: some (.ref 0) :: some (.ref 117) :: some (.ref 115) :: some (.ref 116) :: some (.int (nI (i + 6))) :: [none, none, none]) [] (LH S' X' R' T' P' TU' q' G' TN' fl fd n f M') r h') : Z (n, f) yL_law cL_law 9 (some .boolean) d (mc + 1) (ms + 6) 28 (some (.ref 1000202) :: some (.ref 0) :: some (.ref 117) :: some (.ref 115) :: some (.ref 116) :: some (.int (nI (i))) :: [none, none, none]) [] (LH S X R T P TU q G TN fl fd n f M) r h' := by
  refine l_head hi hn ?_
  rw [hc]
  refine z_tabIn (tgt := 945) dL_law_45 (by decide) (by decide) rfl (by decide) ?_
  refine z_aload_1 dL_law_945 ?_
  refine Z.more (mc := mc) (ms := ms) (by omega) (by omega) ?_
  refine l_f6 (As := []) (st := []) hX dL_law_946 zy_X6_scriptErrorKind zm_L_223 rfl rfl (Nat.le_of_ble_eq_true rfl) h2 (by decide) ?_
  refine z_aload_2 dL_law_949 ?_
  refine l_m7 (As := []) (st := [.int a]) hm dL_law_950 zy_X7_scriptErrorKind zm_L_226 rfl rfl rfl rfl (Nat.le_of_ble_eq_true rfl) h3 (by decide) ?_
  refine z_icmp_eq_t (tgt := 3639) dL_law_953 (by decide) hab ?_
  exact l_next K
theorem l_case15 (hi : i + 6 ≤ n) (hn : n ≤ 3072) (hc : f i &&& 63 = 15) {a : Int32} {d2 : Nat} (h2 : d2 + 1 ≤ d) (hX : zM (n, f) yX6_scriptErrorOffset cX6_scriptErrorOffset 1 (some .int) d2 0 0 [.ref 0] (FH S X R T P TU q G TN) (.inl (some (.int a))) (FH S' X' R' T' P' TU' q' G' TN')) {b : Int32} {d3 : Nat} (h3 : d3 + 1 ≤ d) (hm : zM (n, f) yX7_scriptErrorOffset cX7_scriptErrorOffset 1 (some .int) d3 0 0 [.ref 0] (mh M) (.inl (some (.int b))) (mh M')) (hab : a = b)
    (K : Z (n, f) yL_law cL_law 9 (some .boolean) d mc ms 28 (some (.ref 1000202) :: some (.ref 0) :: some (.ref 117) :: some (.ref 115) :: some (.ref 116) :: some (.int (nI (i + 6))) :: [none, none, none]) [] (LH S' X' R' T' P' TU' q' G' TN' fl fd n f M') r h') : Z (n, f) yL_law cL_law 9 (some .boolean) d (mc + 1) (ms + 6) 28 (some (.ref 1000202) :: some (.ref 0) :: some (.ref 117) :: some (.ref 115) :: some (.ref 116) :: some (.int (nI (i))) :: [none, none, none]) [] (LH S X R T P TU q G TN fl fd n f M) r h' := by
  refine l_head hi hn ?_
  rw [hc]
  refine z_tabIn (tgt := 958) dL_law_45 (by decide) (by decide) rfl (by decide) ?_
  refine z_aload_1 dL_law_958 ?_
  refine Z.more (mc := mc) (ms := ms) (by omega) (by omega) ?_
  refine l_f6 (As := []) (st := []) hX dL_law_959 zy_X6_scriptErrorOffset zm_L_227 rfl rfl (Nat.le_of_ble_eq_true rfl) h2 (by decide) ?_
  refine z_aload_2 dL_law_962 ?_
  refine l_m7 (As := []) (st := [.int a]) hm dL_law_963 zy_X7_scriptErrorOffset zm_L_230 rfl rfl rfl rfl (Nat.le_of_ble_eq_true rfl) h3 (by decide) ?_
  refine z_icmp_eq_t (tgt := 3639) dL_law_966 (by decide) hab ?_
  exact l_next K
end LAWC
