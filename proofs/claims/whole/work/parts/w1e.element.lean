section
theorem wv_W_34 : Cond.code y_X_element b_X_element 6 (some .int) ∈ cA ∧ Cond.initialized y_X_element.cls ∈ cA ∧ Cond.methodLink R_W 34 y_X_element ∈ cA ∧ Cond.instanceMethod y_X_element ∈ cA ∧ Cond.selects y_X_element.cls y_X_element y_X_element ∈ cA := ⟨wd_261, wd_1, wd_258, wd_259, wd_260⟩
theorem wv_W_38 : Cond.code y_O_element b_O_element 6 (some .int) ∈ cA ∧ Cond.initialized y_O_element.cls ∈ cA ∧ Cond.methodLink R_W 38 y_O_element ∈ cA ∧ Cond.instanceMethod y_O_element ∈ cA ∧ Cond.selects y_O_element.cls y_O_element y_O_element ∈ cA := ⟨wd_518, wd_3, wd_515, wd_516, wd_517⟩
theorem d_W_law_358 : decode code 358 = .ok (.aload_n 1, 1) := by decide +kernel
theorem d_W_law_359 : decode code 359 = .ok (.aload_n 0, 1) := by decide +kernel
theorem d_W_law_360 : decode code 360 = .ok (.iload_n 3, 1) := by decide +kernel
theorem d_W_law_361 : decode code 361 = .ok (.iconst 1, 1) := by decide +kernel
theorem d_W_law_362 : decode code 362 = .ok (.iadd, 1) := by decide +kernel
theorem d_W_law_363 : decode code 363 = .ok (.iaload, 1) := by decide +kernel
theorem d_W_law_364 : decode code 364 = .ok (.aload_n 0, 1) := by decide +kernel
theorem d_W_law_365 : decode code 365 = .ok (.iload_n 3, 1) := by decide +kernel
theorem d_W_law_366 : decode code 366 = .ok (.iconst 2, 1) := by decide +kernel
theorem d_W_law_367 : decode code 367 = .ok (.iadd, 1) := by decide +kernel
theorem d_W_law_368 : decode code 368 = .ok (.iaload, 1) := by decide +kernel
theorem d_W_law_369 : decode code 369 = .ok (.aload_n 0, 1) := by decide +kernel
theorem d_W_law_370 : decode code 370 = .ok (.iload_n 3, 1) := by decide +kernel
theorem d_W_law_371 : decode code 371 = .ok (.iconst 3, 1) := by decide +kernel
theorem d_W_law_372 : decode code 372 = .ok (.iadd, 1) := by decide +kernel
theorem d_W_law_373 : decode code 373 = .ok (.iaload, 1) := by decide +kernel
theorem d_W_law_374 : decode code 374 = .ok (.i2l, 1) := by decide +kernel
theorem d_W_law_375 : decode code 375 = .ok (.bipush 32, 2) := by decide +kernel
theorem d_W_law_377 : decode code 377 = .ok (.lshl, 1) := by decide +kernel
theorem d_W_law_378 : decode code 378 = .ok (.aload_n 0, 1) := by decide +kernel
theorem d_W_law_379 : decode code 379 = .ok (.iload_n 3, 1) := by decide +kernel
theorem d_W_law_380 : decode code 380 = .ok (.iconst 4, 1) := by decide +kernel
theorem d_W_law_381 : decode code 381 = .ok (.iadd, 1) := by decide +kernel
theorem d_W_law_382 : decode code 382 = .ok (.iaload, 1) := by decide +kernel
theorem d_W_law_383 : decode code 383 = .ok (.i2l, 1) := by decide +kernel
theorem d_W_law_384 : decode code 384 = .ok (.ldc2_w 32, 3) := by decide +kernel
theorem d_W_law_387 : decode code 387 = .ok (.land, 1) := by decide +kernel
theorem d_W_law_388 : decode code 388 = .ok (.lor, 1) := by decide +kernel
theorem d_W_law_389 : decode code 389 = .ok (.invokevirtual 34, 3) := by decide +kernel
theorem d_W_law_392 : decode code 392 = .ok (.aload_n 2, 1) := by decide +kernel
theorem d_W_law_393 : decode code 393 = .ok (.aload_n 0, 1) := by decide +kernel
theorem d_W_law_394 : decode code 394 = .ok (.iload_n 3, 1) := by decide +kernel
theorem d_W_law_395 : decode code 395 = .ok (.iconst 1, 1) := by decide +kernel
theorem d_W_law_396 : decode code 396 = .ok (.iadd, 1) := by decide +kernel
theorem d_W_law_397 : decode code 397 = .ok (.iaload, 1) := by decide +kernel
theorem d_W_law_398 : decode code 398 = .ok (.aload_n 0, 1) := by decide +kernel
theorem d_W_law_399 : decode code 399 = .ok (.iload_n 3, 1) := by decide +kernel
theorem d_W_law_400 : decode code 400 = .ok (.iconst 2, 1) := by decide +kernel
theorem d_W_law_401 : decode code 401 = .ok (.iadd, 1) := by decide +kernel
theorem d_W_law_402 : decode code 402 = .ok (.iaload, 1) := by decide +kernel
theorem d_W_law_403 : decode code 403 = .ok (.aload_n 0, 1) := by decide +kernel
theorem d_W_law_404 : decode code 404 = .ok (.iload_n 3, 1) := by decide +kernel
theorem d_W_law_405 : decode code 405 = .ok (.iconst 3, 1) := by decide +kernel
theorem d_W_law_406 : decode code 406 = .ok (.iadd, 1) := by decide +kernel
theorem d_W_law_407 : decode code 407 = .ok (.iaload, 1) := by decide +kernel
theorem d_W_law_408 : decode code 408 = .ok (.i2l, 1) := by decide +kernel
theorem d_W_law_409 : decode code 409 = .ok (.bipush 32, 2) := by decide +kernel
theorem d_W_law_411 : decode code 411 = .ok (.lshl, 1) := by decide +kernel
theorem d_W_law_412 : decode code 412 = .ok (.aload_n 0, 1) := by decide +kernel
theorem d_W_law_413 : decode code 413 = .ok (.iload_n 3, 1) := by decide +kernel
theorem d_W_law_414 : decode code 414 = .ok (.iconst 4, 1) := by decide +kernel
theorem d_W_law_415 : decode code 415 = .ok (.iadd, 1) := by decide +kernel
theorem d_W_law_416 : decode code 416 = .ok (.iaload, 1) := by decide +kernel
theorem d_W_law_417 : decode code 417 = .ok (.i2l, 1) := by decide +kernel
theorem d_W_law_418 : decode code 418 = .ok (.ldc2_w 32, 3) := by decide +kernel
theorem d_W_law_421 : decode code 421 = .ok (.land, 1) := by decide +kernel
theorem d_W_law_422 : decode code 422 = .ok (.lor, 1) := by decide +kernel
theorem d_W_law_423 : decode code 423 = .ok (.invokevirtual 38, 3) := by decide +kernel
theorem d_W_law_426 : decode code 426 = .ok (.if_icmp .eq 515, 3) := by decide +kernel
theorem d_W_law_429 : decode code 429 = .ok (.iconst 0, 1) := by decide +kernel
theorem d_W_law_430 : decode code 430 = .ok (.ireturn, 1) := by decide +kernel
set_option maxRecDepth 100000 in
set_option maxHeartbeats 4000000 in
theorem lc_4 {p : Program} {e : Env} {s : State} {m : MethodId} {below : List Frame} {meth : Method} {c : Code} (l : Launch) {b L : Nat} {xs : Nat → Int32} {D : va_G} {qx qo : Nat → Nat} (hx : p.tables.exec = Jvm.exec) (hb : c.code = code) (hml : c.maxLocals = 4) (hown : s.vm.findClass R_W = some m.cls) (hA : ∀ w ∈ cA, w.before #[Value.ref b] s = true) (hN : xN s) (hK : va_K D vwCl (vT D) s) (hX : va_X b L xs s s.heap) (hbl : b < s.heap.size) {j : Nat} (hj : 8 * j + 8 ≤ L) (hL : L ≤ 4096) {u : XS} {v : OS} (hI : IU u v) {H : Heap} {locs : List Loc} {ls : Array Slot} {cells slots : Nat} (hc : cells + 1 ≤ 600000) (hs : slots + 7 ≤ 7302250) (hl : lv_has ls 4 [(3, .int (nI (8 * j))), (2, .ref (qo 0)), (1, .ref (qx 0)), (0, .ref b)]) (hP : va_P D vwCl (xW D qx u ++ oW D qo v) H) (hD : va_D (AL s) (xW D qx u ++ oW D qo v)) (hS : va_S (AL s) s.heap H locs)
    (kk : ∀ (u2 : XS) (v2 : OS) (H2 : Heap) (locs2 : List Loc), IU u2 v2 → va_P D vwCl (xW D qx u2 ++ oW D qo v2) H2 → va_D (AL s) (xW D qx u2 ++ oW D qo v2) → va_S (AL s) s.heap H2 locs2 → W p l e room_1 s m #[Value.ref b] below meth c H2 locs2 (cells + 1) (slots + 7) (lw_Z below #[Value.ref b] s) (F0 m 941 ls [])) :
    W p l e room_1 s m #[Value.ref b] below meth c H locs cells slots (lw_Z below #[Value.ref b] s) (F0 m 358 ls []) := by
  have hbA : ¬ AL s b := Nat.not_le.mpr hbl
  have hAA : ∀ q, s.heap.size ≤ q → AL s q := fun _ h => h
  obtain ⟨n, P, k, a, z, lo, hi, B, av, al, ah, ac, pt, fd⟩ := u
  obtain ⟨n', P', k', a', kn, an, lw, s1, sd, kd, pa, wd, ao, fo, uo, ho, xo⟩ := v
  obtain ⟨⟨e1, e2, e3, e4⟩, sz, K, I⟩ := hI
  obtain rfl : n = n' := e1.symm
  obtain rfl : P = P' := e2.symm
  obtain rfl : k = k' := e3.symm
  obtain rfl : a = a' := e4.symm
  have I : INV n P k a z lo hi B av al ah ac kn an lw s1 sd kd pa wd ao fo uo ho sz K := I
  have hP : va_P D vwCl (xw D qx n P k a z lo hi B av al ah ac pt fd ++ ow D qo n P k a kn an lw s1 sd kd pa wd ao fo uo ho xo) H := hP
  have hD : va_D (AL s) (xw D qx n P k a z lo hi B av al ah ac pt fd ++ ow D qo n P k a kn an lw s1 sd kd pa wd ao fo uo ho xo) := hD
  have hn := I.1.1
  have hk := I.1.2.1
  have ha := I.1.2.2.1
  have hP4 := I.1.2.2.2.1
  have hav := I.av9
  have hao := I.ao9
  have hok := I.ok9
  have hsd := I.sd9
  have hlkp := I.2.2.2.2.2.1
  refine lv_aload_n hx hb d_W_law_358 rfl (lv_at hl 2 rfl) ?_
  refine lv_aload_n hx hb d_W_law_359 rfl (lv_at hl 3 rfl) ?_
  refine lv_iload_n hx hb d_W_law_360 rfl (lv_at hl 0 rfl) ?_
  refine lv_iconst (v := 1) hx hb d_W_law_361 (by decide) ?_
  refine lv_iadd hx hb d_W_law_362 ?_
  refine topi_to (v := nI (8 * j + 1)) (by rw [← nI_add]; rfl) ?_
  refine xs_ald hx hb hX hbl hbA hS (by omega) (by omega) d_W_law_363 ?_
  refine lv_aload_n hx hb d_W_law_364 rfl (lv_at hl 3 rfl) ?_
  refine lv_iload_n hx hb d_W_law_365 rfl (lv_at hl 0 rfl) ?_
  refine lv_iconst (v := 2) hx hb d_W_law_366 (by decide) ?_
  refine lv_iadd hx hb d_W_law_367 ?_
  refine topi_to (v := nI (8 * j + 2)) (by rw [← nI_add]; rfl) ?_
  refine xs_ald hx hb hX hbl hbA hS (by omega) (by omega) d_W_law_368 ?_
  refine lv_aload_n hx hb d_W_law_369 rfl (lv_at hl 3 rfl) ?_
  refine lv_iload_n hx hb d_W_law_370 rfl (lv_at hl 0 rfl) ?_
  refine lv_iconst (v := 3) hx hb d_W_law_371 (by decide) ?_
  refine lv_iadd hx hb d_W_law_372 ?_
  refine topi_to (v := nI (8 * j + 3)) (by rw [← nI_add]; rfl) ?_
  refine xs_ald hx hb hX hbl hbA hS (by omega) (by omega) d_W_law_373 ?_
  refine lv_i2l (v := (xs (8 * j + 3)).toInt64) hx hb d_W_law_374 rfl ?_
  refine lv_bipush (v := 32) hx hb d_W_law_375 (by decide) ?_
  refine lv_lshl (v := ((xs (8 * j + 3)).toInt64) <<< ((32 : Int32).toInt64 &&& 63)) hx hb d_W_law_377 rfl ?_
  refine lv_aload_n hx hb d_W_law_378 rfl (lv_at hl 3 rfl) ?_
  refine lv_iload_n hx hb d_W_law_379 rfl (lv_at hl 0 rfl) ?_
  refine lv_iconst (v := 4) hx hb d_W_law_380 (by decide) ?_
  refine lv_iadd hx hb d_W_law_381 ?_
  refine topi_to (v := nI (8 * j + 4)) (by rw [← nI_add]; rfl) ?_
  refine xs_ald hx hb hX hbl hbA hS (by omega) (by omega) d_W_law_382 ?_
  refine lv_i2l (v := (xs (8 * j + 4)).toInt64) hx hb d_W_law_383 rfl ?_
  refine lv_ldc2 (v := 4294967295) hx hb hown (hA _ wd_647) d_W_law_384 ?_
  refine lv_land hx hb d_W_law_387 ?_
  refine lv_lor hx hb d_W_law_388 ?_
  refine wVi (n := 3) (wr := ow D qo n P k a kn an lw s1 sd kd pa wd ao fo uo ho xo) (Wf := xW D qx) (rest := []) hx hb hml hown hA (c_element l D qx n P k a z lo hi B av al ah ac pt fd (xs (8 * j + 1)) (xs (8 * j + 2)) ((((xs (8 * j + 3)).toInt64) <<< ((32 : Int32).toInt64 &&& 63)) ||| (((xs (8 * j + 4)).toInt64) &&& 4294967295)) _ hn hP4 hk) wv_W_34 ⟨by decide, by decide, by decide +kernel⟩ ⟨rfl, rfl, by decide, by decide⟩ rfl hl.1 ⟨by show cells + 1 ≤ 600000; omega, by show slots + 3 ≤ 7302250; omega⟩ hP hK hD hS hAA hN [0, 1, 2, 3, 4, 5, 6, 7, 8, 9] [10, 11, 12, 13, 14, 15, 16, 17, 18, 19, 20, 21] rfl rfl (by decide) (by decide) (by decide) 0 0 rfl rfl rfl (Nat.le_of_ble_eq_true rfl) d_W_law_389 (fun ra ua H locs h1 hP hD hS => ?_)
  refine W.widen (k := cells + 1) (n := slots + 7) (by omega) (by omega) ?_
  refine lv_aload_n hx hb d_W_law_392 rfl (lv_at hl 1 rfl) ?_
  refine lv_aload_n hx hb d_W_law_393 rfl (lv_at hl 3 rfl) ?_
  refine lv_iload_n hx hb d_W_law_394 rfl (lv_at hl 0 rfl) ?_
  refine lv_iconst (v := 1) hx hb d_W_law_395 (by decide) ?_
  refine lv_iadd hx hb d_W_law_396 ?_
  refine topi_to (v := nI (8 * j + 1)) (by rw [← nI_add]; rfl) ?_
  refine xs_ald hx hb hX hbl hbA hS (by omega) (by omega) d_W_law_397 ?_
  refine lv_aload_n hx hb d_W_law_398 rfl (lv_at hl 3 rfl) ?_
  refine lv_iload_n hx hb d_W_law_399 rfl (lv_at hl 0 rfl) ?_
  refine lv_iconst (v := 2) hx hb d_W_law_400 (by decide) ?_
  refine lv_iadd hx hb d_W_law_401 ?_
  refine topi_to (v := nI (8 * j + 2)) (by rw [← nI_add]; rfl) ?_
  refine xs_ald hx hb hX hbl hbA hS (by omega) (by omega) d_W_law_402 ?_
  refine lv_aload_n hx hb d_W_law_403 rfl (lv_at hl 3 rfl) ?_
  refine lv_iload_n hx hb d_W_law_404 rfl (lv_at hl 0 rfl) ?_
  refine lv_iconst (v := 3) hx hb d_W_law_405 (by decide) ?_
  refine lv_iadd hx hb d_W_law_406 ?_
  refine topi_to (v := nI (8 * j + 3)) (by rw [← nI_add]; rfl) ?_
  refine xs_ald hx hb hX hbl hbA hS (by omega) (by omega) d_W_law_407 ?_
  refine lv_i2l (v := (xs (8 * j + 3)).toInt64) hx hb d_W_law_408 rfl ?_
  refine lv_bipush (v := 32) hx hb d_W_law_409 (by decide) ?_
  refine lv_lshl (v := ((xs (8 * j + 3)).toInt64) <<< ((32 : Int32).toInt64 &&& 63)) hx hb d_W_law_411 rfl ?_
  refine lv_aload_n hx hb d_W_law_412 rfl (lv_at hl 3 rfl) ?_
  refine lv_iload_n hx hb d_W_law_413 rfl (lv_at hl 0 rfl) ?_
  refine lv_iconst (v := 4) hx hb d_W_law_414 (by decide) ?_
  refine lv_iadd hx hb d_W_law_415 ?_
  refine topi_to (v := nI (8 * j + 4)) (by rw [← nI_add]; rfl) ?_
  refine xs_ald hx hb hX hbl hbA hS (by omega) (by omega) d_W_law_416 ?_
  refine lv_i2l (v := (xs (8 * j + 4)).toInt64) hx hb d_W_law_417 rfl ?_
  refine lv_ldc2 (v := 4294967295) hx hb hown (hA _ wd_647) d_W_law_418 ?_
  refine lv_land hx hb d_W_law_421 ?_
  refine lv_lor hx hb d_W_law_422 ?_
  refine wVi (n := 3) (wr := xW D qx ua) (Wf := oW D qo) (rest := [.int ra]) hx hb hml hown hA (o_element l D qo n P k a kn an lw s1 sd kd pa wd ao fo uo ho xo (xs (8 * j + 1)) (xs (8 * j + 2)) ((((xs (8 * j + 3)).toInt64) <<< ((32 : Int32).toInt64 &&& 63)) ||| (((xs (8 * j + 4)).toInt64) &&& 4294967295)) _ hk) wv_W_38 ⟨by decide, by decide, by decide +kernel⟩ ⟨rfl, rfl, by decide, by decide⟩ rfl hl.1 ⟨by show cells + 1 + 0 ≤ 600000; omega, by show slots + 7 + 0 ≤ 7302250; omega⟩ hP hK hD hS hAA hN [0, 1, 2, 3, 4, 5, 6, 7, 8, 9, 10, 11] [12, 13, 14, 15, 16, 17, 18, 19, 20, 21] rfl rfl (by decide) (by decide) (by decide) 0 1 rfl rfl rfl (Nat.le_of_ble_eq_true rfl) d_W_law_423 (fun rb ub H locs h2 hP hD hS => ?_)
  obtain ⟨he, hI2⟩ := op_element I h1 h2
  refine lv_icmp_eq (tgt := 941) hx hb d_W_law_426 (by decide) (fun h426 => ?_) (fun h => absurd (he) h)
  exact kk ua ub _ _ hI2 hP hD hS
end
