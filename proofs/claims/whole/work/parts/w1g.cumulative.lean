section
theorem wv_W_44 : Cond.code y_X_cumulative b_X_cumulative 8 (some .int) ∈ cA ∧ Cond.initialized y_X_cumulative.cls ∈ cA ∧ Cond.methodLink R_W 44 y_X_cumulative ∈ cA ∧ Cond.instanceMethod y_X_cumulative ∈ cA ∧ Cond.selects y_X_cumulative.cls y_X_cumulative y_X_cumulative ∈ cA := ⟨wd_299, wd_1, wd_296, wd_297, wd_298⟩
theorem wv_W_48 : Cond.code y_O_cumulative b_O_cumulative 8 (some .int) ∈ cA ∧ Cond.initialized y_O_cumulative.cls ∈ cA ∧ Cond.methodLink R_W 48 y_O_cumulative ∈ cA ∧ Cond.instanceMethod y_O_cumulative ∈ cA ∧ Cond.selects y_O_cumulative.cls y_O_cumulative y_O_cumulative ∈ cA := ⟨wd_530, wd_3, wd_527, wd_528, wd_529⟩
theorem d_W_law_454 : decode code 454 = .ok (.aload_n 1, 1) := by decide +kernel
theorem d_W_law_455 : decode code 455 = .ok (.aload_n 0, 1) := by decide +kernel
theorem d_W_law_456 : decode code 456 = .ok (.iload_n 3, 1) := by decide +kernel
theorem d_W_law_457 : decode code 457 = .ok (.iconst 1, 1) := by decide +kernel
theorem d_W_law_458 : decode code 458 = .ok (.iadd, 1) := by decide +kernel
theorem d_W_law_459 : decode code 459 = .ok (.iaload, 1) := by decide +kernel
theorem d_W_law_460 : decode code 460 = .ok (.aload_n 0, 1) := by decide +kernel
theorem d_W_law_461 : decode code 461 = .ok (.iload_n 3, 1) := by decide +kernel
theorem d_W_law_462 : decode code 462 = .ok (.iconst 2, 1) := by decide +kernel
theorem d_W_law_463 : decode code 463 = .ok (.iadd, 1) := by decide +kernel
theorem d_W_law_464 : decode code 464 = .ok (.iaload, 1) := by decide +kernel
theorem d_W_law_465 : decode code 465 = .ok (.i2l, 1) := by decide +kernel
theorem d_W_law_466 : decode code 466 = .ok (.bipush 32, 2) := by decide +kernel
theorem d_W_law_468 : decode code 468 = .ok (.lshl, 1) := by decide +kernel
theorem d_W_law_469 : decode code 469 = .ok (.aload_n 0, 1) := by decide +kernel
theorem d_W_law_470 : decode code 470 = .ok (.iload_n 3, 1) := by decide +kernel
theorem d_W_law_471 : decode code 471 = .ok (.iconst 3, 1) := by decide +kernel
theorem d_W_law_472 : decode code 472 = .ok (.iadd, 1) := by decide +kernel
theorem d_W_law_473 : decode code 473 = .ok (.iaload, 1) := by decide +kernel
theorem d_W_law_474 : decode code 474 = .ok (.i2l, 1) := by decide +kernel
theorem d_W_law_475 : decode code 475 = .ok (.ldc2_w 32, 3) := by decide +kernel
theorem d_W_law_478 : decode code 478 = .ok (.land, 1) := by decide +kernel
theorem d_W_law_479 : decode code 479 = .ok (.lor, 1) := by decide +kernel
theorem d_W_law_480 : decode code 480 = .ok (.aload_n 0, 1) := by decide +kernel
theorem d_W_law_481 : decode code 481 = .ok (.iload_n 3, 1) := by decide +kernel
theorem d_W_law_482 : decode code 482 = .ok (.iconst 4, 1) := by decide +kernel
theorem d_W_law_483 : decode code 483 = .ok (.iadd, 1) := by decide +kernel
theorem d_W_law_484 : decode code 484 = .ok (.iaload, 1) := by decide +kernel
theorem d_W_law_485 : decode code 485 = .ok (.i2l, 1) := by decide +kernel
theorem d_W_law_486 : decode code 486 = .ok (.bipush 32, 2) := by decide +kernel
theorem d_W_law_488 : decode code 488 = .ok (.lshl, 1) := by decide +kernel
theorem d_W_law_489 : decode code 489 = .ok (.aload_n 0, 1) := by decide +kernel
theorem d_W_law_490 : decode code 490 = .ok (.iload_n 3, 1) := by decide +kernel
theorem d_W_law_491 : decode code 491 = .ok (.iconst 5, 1) := by decide +kernel
theorem d_W_law_492 : decode code 492 = .ok (.iadd, 1) := by decide +kernel
theorem d_W_law_493 : decode code 493 = .ok (.iaload, 1) := by decide +kernel
theorem d_W_law_494 : decode code 494 = .ok (.i2l, 1) := by decide +kernel
theorem d_W_law_495 : decode code 495 = .ok (.ldc2_w 32, 3) := by decide +kernel
theorem d_W_law_498 : decode code 498 = .ok (.land, 1) := by decide +kernel
theorem d_W_law_499 : decode code 499 = .ok (.lor, 1) := by decide +kernel
theorem d_W_law_500 : decode code 500 = .ok (.aload_n 0, 1) := by decide +kernel
theorem d_W_law_501 : decode code 501 = .ok (.iload_n 3, 1) := by decide +kernel
theorem d_W_law_502 : decode code 502 = .ok (.bipush 6, 2) := by decide +kernel
theorem d_W_law_504 : decode code 504 = .ok (.iadd, 1) := by decide +kernel
theorem d_W_law_505 : decode code 505 = .ok (.iaload, 1) := by decide +kernel
theorem d_W_law_506 : decode code 506 = .ok (.invokevirtual 44, 3) := by decide +kernel
theorem d_W_law_509 : decode code 509 = .ok (.aload_n 2, 1) := by decide +kernel
theorem d_W_law_510 : decode code 510 = .ok (.aload_n 0, 1) := by decide +kernel
theorem d_W_law_511 : decode code 511 = .ok (.iload_n 3, 1) := by decide +kernel
theorem d_W_law_512 : decode code 512 = .ok (.iconst 1, 1) := by decide +kernel
theorem d_W_law_513 : decode code 513 = .ok (.iadd, 1) := by decide +kernel
theorem d_W_law_514 : decode code 514 = .ok (.iaload, 1) := by decide +kernel
theorem d_W_law_515 : decode code 515 = .ok (.aload_n 0, 1) := by decide +kernel
theorem d_W_law_516 : decode code 516 = .ok (.iload_n 3, 1) := by decide +kernel
theorem d_W_law_517 : decode code 517 = .ok (.iconst 2, 1) := by decide +kernel
theorem d_W_law_518 : decode code 518 = .ok (.iadd, 1) := by decide +kernel
theorem d_W_law_519 : decode code 519 = .ok (.iaload, 1) := by decide +kernel
theorem d_W_law_520 : decode code 520 = .ok (.i2l, 1) := by decide +kernel
theorem d_W_law_521 : decode code 521 = .ok (.bipush 32, 2) := by decide +kernel
theorem d_W_law_523 : decode code 523 = .ok (.lshl, 1) := by decide +kernel
theorem d_W_law_524 : decode code 524 = .ok (.aload_n 0, 1) := by decide +kernel
theorem d_W_law_525 : decode code 525 = .ok (.iload_n 3, 1) := by decide +kernel
theorem d_W_law_526 : decode code 526 = .ok (.iconst 3, 1) := by decide +kernel
theorem d_W_law_527 : decode code 527 = .ok (.iadd, 1) := by decide +kernel
theorem d_W_law_528 : decode code 528 = .ok (.iaload, 1) := by decide +kernel
theorem d_W_law_529 : decode code 529 = .ok (.i2l, 1) := by decide +kernel
theorem d_W_law_530 : decode code 530 = .ok (.ldc2_w 32, 3) := by decide +kernel
theorem d_W_law_533 : decode code 533 = .ok (.land, 1) := by decide +kernel
theorem d_W_law_534 : decode code 534 = .ok (.lor, 1) := by decide +kernel
theorem d_W_law_535 : decode code 535 = .ok (.aload_n 0, 1) := by decide +kernel
theorem d_W_law_536 : decode code 536 = .ok (.iload_n 3, 1) := by decide +kernel
theorem d_W_law_537 : decode code 537 = .ok (.iconst 4, 1) := by decide +kernel
theorem d_W_law_538 : decode code 538 = .ok (.iadd, 1) := by decide +kernel
theorem d_W_law_539 : decode code 539 = .ok (.iaload, 1) := by decide +kernel
theorem d_W_law_540 : decode code 540 = .ok (.i2l, 1) := by decide +kernel
theorem d_W_law_541 : decode code 541 = .ok (.bipush 32, 2) := by decide +kernel
theorem d_W_law_543 : decode code 543 = .ok (.lshl, 1) := by decide +kernel
theorem d_W_law_544 : decode code 544 = .ok (.aload_n 0, 1) := by decide +kernel
theorem d_W_law_545 : decode code 545 = .ok (.iload_n 3, 1) := by decide +kernel
theorem d_W_law_546 : decode code 546 = .ok (.iconst 5, 1) := by decide +kernel
theorem d_W_law_547 : decode code 547 = .ok (.iadd, 1) := by decide +kernel
theorem d_W_law_548 : decode code 548 = .ok (.iaload, 1) := by decide +kernel
theorem d_W_law_549 : decode code 549 = .ok (.i2l, 1) := by decide +kernel
theorem d_W_law_550 : decode code 550 = .ok (.ldc2_w 32, 3) := by decide +kernel
theorem d_W_law_553 : decode code 553 = .ok (.land, 1) := by decide +kernel
theorem d_W_law_554 : decode code 554 = .ok (.lor, 1) := by decide +kernel
theorem d_W_law_555 : decode code 555 = .ok (.aload_n 0, 1) := by decide +kernel
theorem d_W_law_556 : decode code 556 = .ok (.iload_n 3, 1) := by decide +kernel
theorem d_W_law_557 : decode code 557 = .ok (.bipush 6, 2) := by decide +kernel
theorem d_W_law_559 : decode code 559 = .ok (.iadd, 1) := by decide +kernel
theorem d_W_law_560 : decode code 560 = .ok (.iaload, 1) := by decide +kernel
theorem d_W_law_561 : decode code 561 = .ok (.invokevirtual 48, 3) := by decide +kernel
theorem d_W_law_564 : decode code 564 = .ok (.if_icmp .eq 377, 3) := by decide +kernel
theorem d_W_law_567 : decode code 567 = .ok (.iconst 0, 1) := by decide +kernel
theorem d_W_law_568 : decode code 568 = .ok (.ireturn, 1) := by decide +kernel
set_option maxRecDepth 100000 in
set_option maxHeartbeats 4000000 in
theorem lc_6 {p : Program} {e : Env} {s : State} {m : MethodId} {below : List Frame} {meth : Method} {c : Code} (l : Launch) {b L : Nat} {xs : Nat → Int32} {D : va_G} {qx qo : Nat → Nat} (hx : p.tables.exec = Jvm.exec) (hb : c.code = code) (hml : c.maxLocals = 4) (hown : s.vm.findClass R_W = some m.cls) (hA : ∀ w ∈ cA, w.before #[Value.ref b] s = true) (hN : xN s) (hK : va_K D vwCl (vT D) s) (hX : va_X b L xs s s.heap) (hbl : b < s.heap.size) {j : Nat} (hj : 8 * j + 8 ≤ L) (hL : L ≤ 4096) {u : XS} {v : OS} (hI : IU u v) {H : Heap} {locs : List Loc} {ls : Array Slot} {cells slots : Nat} (hc : cells + 1 ≤ 600000) (hs : slots + 7 ≤ 7302250) (hl : lv_has ls 4 [(3, .int (nI (8 * j))), (2, .ref (qo 0)), (1, .ref (qx 0)), (0, .ref b)]) (hP : va_P D vwCl (xW D qx u ++ oW D qo v) H) (hD : va_D (AL s) (xW D qx u ++ oW D qo v)) (hS : va_S (AL s) s.heap H locs)
    (kk : ∀ (u2 : XS) (v2 : OS) (H2 : Heap) (locs2 : List Loc), IU u2 v2 → va_P D vwCl (xW D qx u2 ++ oW D qo v2) H2 → va_D (AL s) (xW D qx u2 ++ oW D qo v2) → va_S (AL s) s.heap H2 locs2 → W p l e room_1 s m #[Value.ref b] below meth c H2 locs2 (cells + 1) (slots + 7) (lw_Z below #[Value.ref b] s) (F0 m 941 ls [])) :
    W p l e room_1 s m #[Value.ref b] below meth c H locs cells slots (lw_Z below #[Value.ref b] s) (F0 m 454 ls []) := by
  have hbA : ¬ AL s b := Nat.not_le.mpr hbl
  have hAA : ∀ q, s.heap.size ≤ q → AL s q := fun _ h => h
  obtain ⟨n, P, k, a, z, lo, hi, B, av, al, ah, ac, pt, fd⟩ := u
  obtain ⟨n', P', k', a', kn, an, lw, s1, sd, kd, pa, wd, ao, fo, uo, ho, xo⟩ := v
  obtain ⟨⟨e1, e2, e3, e4⟩, sz, K, I⟩ := hI
  obtain rfl : n = n' := e1.symm
  obtain rfl : P = P' := e2.symm
  obtain rfl : k = k' := e3.symm
  obtain rfl : a = a' := e4.symm
  have I : INV n P k a z lo hi B av al ah ac kn an lw s1 sd kd pa wd ao fo uo ho sz K := I
  have hP : va_P D vwCl (xw D qx n P k a z lo hi B av al ah ac pt fd ++ ow D qo n P k a kn an lw s1 sd kd pa wd ao fo uo ho xo) H := hP
  have hD : va_D (AL s) (xw D qx n P k a z lo hi B av al ah ac pt fd ++ ow D qo n P k a kn an lw s1 sd kd pa wd ao fo uo ho xo) := hD
  have hn := I.1.1
  have hk := I.1.2.1
  have ha := I.1.2.2.1
  have hP4 := I.1.2.2.2.1
  have hav := I.av9
  have hao := I.ao9
  have hok := I.ok9
  have hsd := I.sd9
  have hlkp := I.2.2.2.2.2.1
  refine lv_aload_n hx hb d_W_law_454 rfl (lv_at hl 2 rfl) ?_
  refine lv_aload_n hx hb d_W_law_455 rfl (lv_at hl 3 rfl) ?_
  refine lv_iload_n hx hb d_W_law_456 rfl (lv_at hl 0 rfl) ?_
  refine lv_iconst (v := 1) hx hb d_W_law_457 (by decide) ?_
  refine lv_iadd hx hb d_W_law_458 ?_
  refine topi_to (v := nI (8 * j + 1)) (by rw [← nI_add]; rfl) ?_
  refine xs_ald hx hb hX hbl hbA hS (by omega) (by omega) d_W_law_459 ?_
  refine lv_aload_n hx hb d_W_law_460 rfl (lv_at hl 3 rfl) ?_
  refine lv_iload_n hx hb d_W_law_461 rfl (lv_at hl 0 rfl) ?_
  refine lv_iconst (v := 2) hx hb d_W_law_462 (by decide) ?_
  refine lv_iadd hx hb d_W_law_463 ?_
  refine topi_to (v := nI (8 * j + 2)) (by rw [← nI_add]; rfl) ?_
  refine xs_ald hx hb hX hbl hbA hS (by omega) (by omega) d_W_law_464 ?_
  refine lv_i2l (v := (xs (8 * j + 2)).toInt64) hx hb d_W_law_465 rfl ?_
  refine lv_bipush (v := 32) hx hb d_W_law_466 (by decide) ?_
  refine lv_lshl (v := ((xs (8 * j + 2)).toInt64) <<< ((32 : Int32).toInt64 &&& 63)) hx hb d_W_law_468 rfl ?_
  refine lv_aload_n hx hb d_W_law_469 rfl (lv_at hl 3 rfl) ?_
  refine lv_iload_n hx hb d_W_law_470 rfl (lv_at hl 0 rfl) ?_
  refine lv_iconst (v := 3) hx hb d_W_law_471 (by decide) ?_
  refine lv_iadd hx hb d_W_law_472 ?_
  refine topi_to (v := nI (8 * j + 3)) (by rw [← nI_add]; rfl) ?_
  refine xs_ald hx hb hX hbl hbA hS (by omega) (by omega) d_W_law_473 ?_
  refine lv_i2l (v := (xs (8 * j + 3)).toInt64) hx hb d_W_law_474 rfl ?_
  refine lv_ldc2 (v := 4294967295) hx hb hown (hA _ wd_647) d_W_law_475 ?_
  refine lv_land hx hb d_W_law_478 ?_
  refine lv_lor hx hb d_W_law_479 ?_
  refine lv_aload_n hx hb d_W_law_480 rfl (lv_at hl 3 rfl) ?_
  refine lv_iload_n hx hb d_W_law_481 rfl (lv_at hl 0 rfl) ?_
  refine lv_iconst (v := 4) hx hb d_W_law_482 (by decide) ?_
  refine lv_iadd hx hb d_W_law_483 ?_
  refine topi_to (v := nI (8 * j + 4)) (by rw [← nI_add]; rfl) ?_
  refine xs_ald hx hb hX hbl hbA hS (by omega) (by omega) d_W_law_484 ?_
  refine lv_i2l (v := (xs (8 * j + 4)).toInt64) hx hb d_W_law_485 rfl ?_
  refine lv_bipush (v := 32) hx hb d_W_law_486 (by decide) ?_
  refine lv_lshl (v := ((xs (8 * j + 4)).toInt64) <<< ((32 : Int32).toInt64 &&& 63)) hx hb d_W_law_488 rfl ?_
  refine lv_aload_n hx hb d_W_law_489 rfl (lv_at hl 3 rfl) ?_
  refine lv_iload_n hx hb d_W_law_490 rfl (lv_at hl 0 rfl) ?_
  refine lv_iconst (v := 5) hx hb d_W_law_491 (by decide) ?_
  refine lv_iadd hx hb d_W_law_492 ?_
  refine topi_to (v := nI (8 * j + 5)) (by rw [← nI_add]; rfl) ?_
  refine xs_ald hx hb hX hbl hbA hS (by omega) (by omega) d_W_law_493 ?_
  refine lv_i2l (v := (xs (8 * j + 5)).toInt64) hx hb d_W_law_494 rfl ?_
  refine lv_ldc2 (v := 4294967295) hx hb hown (hA _ wd_647) d_W_law_495 ?_
  refine lv_land hx hb d_W_law_498 ?_
  refine lv_lor hx hb d_W_law_499 ?_
  refine lv_aload_n hx hb d_W_law_500 rfl (lv_at hl 3 rfl) ?_
  refine lv_iload_n hx hb d_W_law_501 rfl (lv_at hl 0 rfl) ?_
  refine lv_bipush (v := 6) hx hb d_W_law_502 (by decide) ?_
  refine lv_iadd hx hb d_W_law_504 ?_
  refine topi_to (v := nI (8 * j + 6)) (by rw [← nI_add]; rfl) ?_
  refine xs_ald hx hb hX hbl hbA hS (by omega) (by omega) d_W_law_505 ?_
  refine wVi (n := 4) (wr := ow D qo n P k a kn an lw s1 sd kd pa wd ao fo uo ho xo) (Wf := xW D qx) (rest := []) hx hb hml hown hA (c_cumulative l D qx n P k a z lo hi B av al ah ac pt fd (xs (8 * j + 1)) ((((xs (8 * j + 2)).toInt64) <<< ((32 : Int32).toInt64 &&& 63)) ||| (((xs (8 * j + 3)).toInt64) &&& 4294967295)) ((((xs (8 * j + 4)).toInt64) <<< ((32 : Int32).toInt64 &&& 63)) ||| (((xs (8 * j + 5)).toInt64) &&& 4294967295)) (xs (8 * j + 6)) _ hn hP4 hk) wv_W_44 ⟨by decide, by decide, by decide +kernel⟩ ⟨rfl, rfl, by decide, by decide⟩ rfl hl.1 ⟨by show cells + 1 ≤ 600000; omega, by show slots + 4 ≤ 7302250; omega⟩ hP hK hD hS hAA hN [0, 1, 2, 3, 4, 5, 6, 7, 8, 9] [10, 11, 12, 13, 14, 15, 16, 17, 18, 19, 20, 21] rfl rfl (by decide) (by decide) (by decide) 0 0 rfl rfl rfl (Nat.le_of_ble_eq_true rfl) d_W_law_506 (fun ra ua H locs h1 hP hD hS => ?_)
  refine W.widen (k := cells + 1) (n := slots + 7) (by omega) (by omega) ?_
  refine lv_aload_n hx hb d_W_law_509 rfl (lv_at hl 1 rfl) ?_
  refine lv_aload_n hx hb d_W_law_510 rfl (lv_at hl 3 rfl) ?_
  refine lv_iload_n hx hb d_W_law_511 rfl (lv_at hl 0 rfl) ?_
  refine lv_iconst (v := 1) hx hb d_W_law_512 (by decide) ?_
  refine lv_iadd hx hb d_W_law_513 ?_
  refine topi_to (v := nI (8 * j + 1)) (by rw [← nI_add]; rfl) ?_
  refine xs_ald hx hb hX hbl hbA hS (by omega) (by omega) d_W_law_514 ?_
  refine lv_aload_n hx hb d_W_law_515 rfl (lv_at hl 3 rfl) ?_
  refine lv_iload_n hx hb d_W_law_516 rfl (lv_at hl 0 rfl) ?_
  refine lv_iconst (v := 2) hx hb d_W_law_517 (by decide) ?_
  refine lv_iadd hx hb d_W_law_518 ?_
  refine topi_to (v := nI (8 * j + 2)) (by rw [← nI_add]; rfl) ?_
  refine xs_ald hx hb hX hbl hbA hS (by omega) (by omega) d_W_law_519 ?_
  refine lv_i2l (v := (xs (8 * j + 2)).toInt64) hx hb d_W_law_520 rfl ?_
  refine lv_bipush (v := 32) hx hb d_W_law_521 (by decide) ?_
  refine lv_lshl (v := ((xs (8 * j + 2)).toInt64) <<< ((32 : Int32).toInt64 &&& 63)) hx hb d_W_law_523 rfl ?_
  refine lv_aload_n hx hb d_W_law_524 rfl (lv_at hl 3 rfl) ?_
  refine lv_iload_n hx hb d_W_law_525 rfl (lv_at hl 0 rfl) ?_
  refine lv_iconst (v := 3) hx hb d_W_law_526 (by decide) ?_
  refine lv_iadd hx hb d_W_law_527 ?_
  refine topi_to (v := nI (8 * j + 3)) (by rw [← nI_add]; rfl) ?_
  refine xs_ald hx hb hX hbl hbA hS (by omega) (by omega) d_W_law_528 ?_
  refine lv_i2l (v := (xs (8 * j + 3)).toInt64) hx hb d_W_law_529 rfl ?_
  refine lv_ldc2 (v := 4294967295) hx hb hown (hA _ wd_647) d_W_law_530 ?_
  refine lv_land hx hb d_W_law_533 ?_
  refine lv_lor hx hb d_W_law_534 ?_
  refine lv_aload_n hx hb d_W_law_535 rfl (lv_at hl 3 rfl) ?_
  refine lv_iload_n hx hb d_W_law_536 rfl (lv_at hl 0 rfl) ?_
  refine lv_iconst (v := 4) hx hb d_W_law_537 (by decide) ?_
  refine lv_iadd hx hb d_W_law_538 ?_
  refine topi_to (v := nI (8 * j + 4)) (by rw [← nI_add]; rfl) ?_
  refine xs_ald hx hb hX hbl hbA hS (by omega) (by omega) d_W_law_539 ?_
  refine lv_i2l (v := (xs (8 * j + 4)).toInt64) hx hb d_W_law_540 rfl ?_
  refine lv_bipush (v := 32) hx hb d_W_law_541 (by decide) ?_
  refine lv_lshl (v := ((xs (8 * j + 4)).toInt64) <<< ((32 : Int32).toInt64 &&& 63)) hx hb d_W_law_543 rfl ?_
  refine lv_aload_n hx hb d_W_law_544 rfl (lv_at hl 3 rfl) ?_
  refine lv_iload_n hx hb d_W_law_545 rfl (lv_at hl 0 rfl) ?_
  refine lv_iconst (v := 5) hx hb d_W_law_546 (by decide) ?_
  refine lv_iadd hx hb d_W_law_547 ?_
  refine topi_to (v := nI (8 * j + 5)) (by rw [← nI_add]; rfl) ?_
  refine xs_ald hx hb hX hbl hbA hS (by omega) (by omega) d_W_law_548 ?_
  refine lv_i2l (v := (xs (8 * j + 5)).toInt64) hx hb d_W_law_549 rfl ?_
  refine lv_ldc2 (v := 4294967295) hx hb hown (hA _ wd_647) d_W_law_550 ?_
  refine lv_land hx hb d_W_law_553 ?_
  refine lv_lor hx hb d_W_law_554 ?_
  refine lv_aload_n hx hb d_W_law_555 rfl (lv_at hl 3 rfl) ?_
  refine lv_iload_n hx hb d_W_law_556 rfl (lv_at hl 0 rfl) ?_
  refine lv_bipush (v := 6) hx hb d_W_law_557 (by decide) ?_
  refine lv_iadd hx hb d_W_law_559 ?_
  refine topi_to (v := nI (8 * j + 6)) (by rw [← nI_add]; rfl) ?_
  refine xs_ald hx hb hX hbl hbA hS (by omega) (by omega) d_W_law_560 ?_
  refine wVi (n := 4) (wr := xW D qx ua) (Wf := oW D qo) (rest := [.int ra]) hx hb hml hown hA (o_cumulative l D qo n P k a kn an lw s1 sd kd pa wd ao fo uo ho xo (xs (8 * j + 1)) ((((xs (8 * j + 2)).toInt64) <<< ((32 : Int32).toInt64 &&& 63)) ||| (((xs (8 * j + 3)).toInt64) &&& 4294967295)) ((((xs (8 * j + 4)).toInt64) <<< ((32 : Int32).toInt64 &&& 63)) ||| (((xs (8 * j + 5)).toInt64) &&& 4294967295)) (xs (8 * j + 6)) _ hk) wv_W_48 ⟨by decide, by decide, by decide +kernel⟩ ⟨rfl, rfl, by decide, by decide⟩ rfl hl.1 ⟨by show cells + 1 + 0 ≤ 600000; omega, by show slots + 7 + 0 ≤ 7302250; omega⟩ hP hK hD hS hAA hN [0, 1, 2, 3, 4, 5, 6, 7, 8, 9, 10, 11] [12, 13, 14, 15, 16, 17, 18, 19, 20, 21] rfl rfl (by decide) (by decide) (by decide) 0 1 rfl rfl rfl (Nat.le_of_ble_eq_true rfl) d_W_law_561 (fun rb ub H locs h2 hP hD hS => ?_)
  obtain ⟨he, hI2⟩ := op_cumulative I h1 h2
  refine lv_icmp_eq (tgt := 941) hx hb d_W_law_564 (by decide) (fun h564 => ?_) (fun h => absurd (he) h)
  exact kk ua ub _ _ hI2 hP hD hS
end
