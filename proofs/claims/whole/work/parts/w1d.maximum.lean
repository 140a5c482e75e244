section
theorem wv_W_28 : Cond.code y_X_maximum b_X_maximum 6 (some .int) ∈ cA ∧ Cond.initialized y_X_maximum.cls ∈ cA ∧ Cond.methodLink R_W 28 y_X_maximum ∈ cA ∧ Cond.instanceMethod y_X_maximum ∈ cA ∧ Cond.selects y_X_maximum.cls y_X_maximum y_X_maximum ∈ cA := ⟨wd_238, wd_1, wd_235, wd_236, wd_237⟩
theorem wv_W_31 : Cond.code y_O_maximum b_O_maximum 6 (some .int) ∈ cA ∧ Cond.initialized y_O_maximum.cls ∈ cA ∧ Cond.methodLink R_W 31 y_O_maximum ∈ cA ∧ Cond.instanceMethod y_O_maximum ∈ cA ∧ Cond.selects y_O_maximum.cls y_O_maximum y_O_maximum ∈ cA := ⟨wd_514, wd_3, wd_511, wd_512, wd_513⟩
theorem d_W_law_305 : decode code 305 = .ok (.aload_n 1, 1) := by decide +kernel
theorem d_W_law_306 : decode code 306 = .ok (.aload_n 0, 1) := by decide +kernel
theorem d_W_law_307 : decode code 307 = .ok (.iload_n 3, 1) := by decide +kernel
theorem d_W_law_308 : decode code 308 = .ok (.iconst 1, 1) := by decide +kernel
theorem d_W_law_309 : decode code 309 = .ok (.iadd, 1) := by decide +kernel
theorem d_W_law_310 : decode code 310 = .ok (.iaload, 1) := by decide +kernel
theorem d_W_law_311 : decode code 311 = .ok (.aload_n 0, 1) := by decide +kernel
theorem d_W_law_312 : decode code 312 = .ok (.iload_n 3, 1) := by decide +kernel
theorem d_W_law_313 : decode code 313 = .ok (.iconst 2, 1) := by decide +kernel
theorem d_W_law_314 : decode code 314 = .ok (.iadd, 1) := by decide +kernel
theorem d_W_law_315 : decode code 315 = .ok (.iaload, 1) := by decide +kernel
theorem d_W_law_316 : decode code 316 = .ok (.aload_n 0, 1) := by decide +kernel
theorem d_W_law_317 : decode code 317 = .ok (.iload_n 3, 1) := by decide +kernel
theorem d_W_law_318 : decode code 318 = .ok (.iconst 3, 1) := by decide +kernel
theorem d_W_law_319 : decode code 319 = .ok (.iadd, 1) := by decide +kernel
theorem d_W_law_320 : decode code 320 = .ok (.iaload, 1) := by decide +kernel
theorem d_W_law_321 : decode code 321 = .ok (.aload_n 0, 1) := by decide +kernel
theorem d_W_law_322 : decode code 322 = .ok (.iload_n 3, 1) := by decide +kernel
theorem d_W_law_323 : decode code 323 = .ok (.iconst 4, 1) := by decide +kernel
theorem d_W_law_324 : decode code 324 = .ok (.iadd, 1) := by decide +kernel
theorem d_W_law_325 : decode code 325 = .ok (.iaload, 1) := by decide +kernel
theorem d_W_law_326 : decode code 326 = .ok (.invokevirtual 28, 3) := by decide +kernel
theorem d_W_law_329 : decode code 329 = .ok (.aload_n 2, 1) := by decide +kernel
theorem d_W_law_330 : decode code 330 = .ok (.aload_n 0, 1) := by decide +kernel
theorem d_W_law_331 : decode code 331 = .ok (.iload_n 3, 1) := by decide +kernel
theorem d_W_law_332 : decode code 332 = .ok (.iconst 1, 1) := by decide +kernel
theorem d_W_law_333 : decode code 333 = .ok (.iadd, 1) := by decide +kernel
theorem d_W_law_334 : decode code 334 = .ok (.iaload, 1) := by decide +kernel
theorem d_W_law_335 : decode code 335 = .ok (.aload_n 0, 1) := by decide +kernel
theorem d_W_law_336 : decode code 336 = .ok (.iload_n 3, 1) := by decide +kernel
theorem d_W_law_337 : decode code 337 = .ok (.iconst 2, 1) := by decide +kernel
theorem d_W_law_338 : decode code 338 = .ok (.iadd, 1) := by decide +kernel
theorem d_W_law_339 : decode code 339 = .ok (.iaload, 1) := by decide +kernel
theorem d_W_law_340 : decode code 340 = .ok (.aload_n 0, 1) := by decide +kernel
theorem d_W_law_341 : decode code 341 = .ok (.iload_n 3, 1) := by decide +kernel
theorem d_W_law_342 : decode code 342 = .ok (.iconst 3, 1) := by decide +kernel
theorem d_W_law_343 : decode code 343 = .ok (.iadd, 1) := by decide +kernel
theorem d_W_law_344 : decode code 344 = .ok (.iaload, 1) := by decide +kernel
theorem d_W_law_345 : decode code 345 = .ok (.aload_n 0, 1) := by decide +kernel
theorem d_W_law_346 : decode code 346 = .ok (.iload_n 3, 1) := by decide +kernel
theorem d_W_law_347 : decode code 347 = .ok (.iconst 4, 1) := by decide +kernel
theorem d_W_law_348 : decode code 348 = .ok (.iadd, 1) := by decide +kernel
theorem d_W_law_349 : decode code 349 = .ok (.iaload, 1) := by decide +kernel
theorem d_W_law_350 : decode code 350 = .ok (.invokevirtual 31, 3) := by decide +kernel
theorem d_W_law_353 : decode code 353 = .ok (.if_icmp .eq 588, 3) := by decide +kernel
theorem d_W_law_356 : decode code 356 = .ok (.iconst 0, 1) := by decide +kernel
theorem d_W_law_357 : decode code 357 = .ok (.ireturn, 1) := by decide +kernel
set_option maxRecDepth 100000 in
set_option maxHeartbeats 4000000 in
theorem lc_3 {p : Program} {e : Env} {s : State} {m : MethodId} {below : List Frame} {meth : Method} {c : Code} (l : Launch) {b L : Nat} {xs : Nat → Int32} {D : va_G} {qx qo : Nat → Nat} (hx : p.tables.exec = Jvm.exec) (hb : c.code = code) (hml : c.maxLocals = 4) (hown : s.vm.findClass R_W = some m.cls) (hA : ∀ w ∈ cA, w.before #[Value.ref b] s = true) (hN : xN s) (hK : va_K D vwCl (vT D) s) (hX : va_X b L xs s s.heap) (hbl : b < s.heap.size) {j : Nat} (hj : 8 * j + 8 ≤ L) (hL : L ≤ 4096) {u : XS} {v : OS} (hI : IU u v) {H : Heap} {locs : List Loc} {ls : Array Slot} {cells slots : Nat} (hc : cells + 1 ≤ 600000) (hs : slots + 7 ≤ 7302250) (hl : lv_has ls 4 [(3, .int (nI (8 * j))), (2, .ref (qo 0)), (1, .ref (qx 0)), (0, .ref b)]) (hP : va_P D vwCl (xW D qx u ++ oW D qo v) H) (hD : va_D (AL s) (xW D qx u ++ oW D qo v)) (hS : va_S (AL s) s.heap H locs)
    (kk : ∀ (u2 : XS) (v2 : OS) (H2 : Heap) (locs2 : List Loc), IU u2 v2 → va_P D vwCl (xW D qx u2 ++ oW D qo v2) H2 → va_D (AL s) (xW D qx u2 ++ oW D qo v2) → va_S (AL s) s.heap H2 locs2 → W p l e room_1 s m #[Value.ref b] below meth c H2 locs2 (cells + 1) (slots + 7) (lw_Z below #[Value.ref b] s) (F0 m 941 ls [])) :
    W p l e room_1 s m #[Value.ref b] below meth c H locs cells slots (lw_Z below #[Value.ref b] s) (F0 m 305 ls []) := by
  have hbA : ¬ AL s b := Nat.not_le.mpr hbl
  have hAA : ∀ q, s.heap.size ≤ q → AL s q := fun _ h => h
  obtain ⟨n, P, k, a, z, lo, hi, B, av, al, ah, ac, pt, fd⟩ := u
  obtain ⟨n', P', k', a', kn, an, lw, s1, sd, kd, pa, wd, ao, fo, uo, ho, xo⟩ := v
  obtain ⟨⟨e1, e2, e3, e4⟩, sz, K, I⟩ := hI
  obtain rfl : n = n' := e1.symm
  obtain rfl : P = P' := e2.symm
  obtain rfl : k = k' := e3.symm
  obtain rfl : a = a' := e4.symm
  have I : INV n P k a z lo hi B av al ah ac kn an lw s1 sd kd pa wd ao fo uo ho sz K := I
  have hP : va_P D vwCl (xw D qx n P k a z lo hi B av al ah ac pt fd ++ ow D qo n P k a kn an lw s1 sd kd pa wd ao fo uo ho xo) H := hP
  have hD : va_D (AL s) (xw D qx n P k a z lo hi B av al ah ac pt fd ++ ow D qo n P k a kn an lw s1 sd kd pa wd ao fo uo ho xo) := hD
  have hn := I.1.1
  have hk := I.1.2.1
  have ha := I.1.2.2.1
  have hP4 := I.1.2.2.2.1
  have hav := I.av9
  have hao := I.ao9
  have hok := I.ok9
  have hsd := I.sd9
  have hlkp := I.2.2.2.2.2.1
  refine lv_aload_n hx hb d_W_law_305 rfl (lv_at hl 2 rfl) ?_
  refine lv_aload_n hx hb d_W_law_306 rfl (lv_at hl 3 rfl) ?_
  refine lv_iload_n hx hb d_W_law_307 rfl (lv_at hl 0 rfl) ?_
  refine lv_iconst (v := 1) hx hb d_W_law_308 (by decide) ?_
  refine lv_iadd hx hb d_W_law_309 ?_
  refine topi_to (v := nI (8 * j + 1)) (by rw [← nI_add]; rfl) ?_
  refine xs_ald hx hb hX hbl hbA hS (by omega) (by omega) d_W_law_310 ?_
  refine lv_aload_n hx hb d_W_law_311 rfl (lv_at hl 3 rfl) ?_
  refine lv_iload_n hx hb d_W_law_312 rfl (lv_at hl 0 rfl) ?_
  refine lv_iconst (v := 2) hx hb d_W_law_313 (by decide) ?_
  refine lv_iadd hx hb d_W_law_314 ?_
  refine topi_to (v := nI (8 * j + 2)) (by rw [← nI_add]; rfl) ?_
  refine xs_ald hx hb hX hbl hbA hS (by omega) (by omega) d_W_law_315 ?_
  refine lv_aload_n hx hb d_W_law_316 rfl (lv_at hl 3 rfl) ?_
  refine lv_iload_n hx hb d_W_law_317 rfl (lv_at hl 0 rfl) ?_
  refine lv_iconst (v := 3) hx hb d_W_law_318 (by decide) ?_
  refine lv_iadd hx hb d_W_law_319 ?_
  refine topi_to (v := nI (8 * j + 3)) (by rw [← nI_add]; rfl) ?_
  refine xs_ald hx hb hX hbl hbA hS (by omega) (by omega) d_W_law_320 ?_
  refine lv_aload_n hx hb d_W_law_321 rfl (lv_at hl 3 rfl) ?_
  refine lv_iload_n hx hb d_W_law_322 rfl (lv_at hl 0 rfl) ?_
  refine lv_iconst (v := 4) hx hb d_W_law_323 (by decide) ?_
  refine lv_iadd hx hb d_W_law_324 ?_
  refine topi_to (v := nI (8 * j + 4)) (by rw [← nI_add]; rfl) ?_
  refine xs_ald hx hb hX hbl hbA hS (by omega) (by omega) d_W_law_325 ?_
  refine wVi (n := 4) (wr := ow D qo n P k a kn an lw s1 sd kd pa wd ao fo uo ho xo) (Wf := xW D qx) (rest := []) hx hb hml hown hA (c_maximum l D qx n P k a z lo hi B av al ah ac pt fd (xs (8 * j + 1)) (xs (8 * j + 2)) (xs (8 * j + 3)) (xs (8 * j + 4)) _ hn hP4 hk) wv_W_28 ⟨by decide, by decide, by decide +kernel⟩ ⟨rfl, rfl, by decide, by decide⟩ rfl hl.1 ⟨by show cells + 1 ≤ 600000; omega, by show slots + 4 ≤ 7302250; omega⟩ hP hK hD hS hAA hN [0, 1, 2, 3, 4, 5, 6, 7, 8, 9] [10, 11, 12, 13, 14, 15, 16, 17, 18, 19, 20, 21] rfl rfl (by decide) (by decide) (by decide) 0 0 rfl rfl rfl (Nat.le_of_ble_eq_true rfl) d_W_law_326 (fun ra ua H locs h1 hP hD hS => ?_)
  refine W.widen (k := cells + 1) (n := slots + 7) (by omega) (by omega) ?_
  refine lv_aload_n hx hb d_W_law_329 rfl (lv_at hl 1 rfl) ?_
  refine lv_aload_n hx hb d_W_law_330 rfl (lv_at hl 3 rfl) ?_
  refine lv_iload_n hx hb d_W_law_331 rfl (lv_at hl 0 rfl) ?_
  refine lv_iconst (v := 1) hx hb d_W_law_332 (by decide) ?_
  refine lv_iadd hx hb d_W_law_333 ?_
  refine topi_to (v := nI (8 * j + 1)) (by rw [← nI_add]; rfl) ?_
  refine xs_ald hx hb hX hbl hbA hS (by omega) (by omega) d_W_law_334 ?_
  refine lv_aload_n hx hb d_W_law_335 rfl (lv_at hl 3 rfl) ?_
  refine lv_iload_n hx hb d_W_law_336 rfl (lv_at hl 0 rfl) ?_
  refine lv_iconst (v := 2) hx hb d_W_law_337 (by decide) ?_
  refine lv_iadd hx hb d_W_law_338 ?_
  refine topi_to (v := nI (8 * j + 2)) (by rw [← nI_add]; rfl) ?_
  refine xs_ald hx hb hX hbl hbA hS (by omega) (by omega) d_W_law_339 ?_
  refine lv_aload_n hx hb d_W_law_340 rfl (lv_at hl 3 rfl) ?_
  refine lv_iload_n hx hb d_W_law_341 rfl (lv_at hl 0 rfl) ?_
  refine lv_iconst (v := 3) hx hb d_W_law_342 (by decide) ?_
  refine lv_iadd hx hb d_W_law_343 ?_
  refine topi_to (v := nI (8 * j + 3)) (by rw [← nI_add]; rfl) ?_
  refine xs_ald hx hb hX hbl hbA hS (by omega) (by omega) d_W_law_344 ?_
  refine lv_aload_n hx hb d_W_law_345 rfl (lv_at hl 3 rfl) ?_
  refine lv_iload_n hx hb d_W_law_346 rfl (lv_at hl 0 rfl) ?_
  refine lv_iconst (v := 4) hx hb d_W_law_347 (by decide) ?_
  refine lv_iadd hx hb d_W_law_348 ?_
  refine topi_to (v := nI (8 * j + 4)) (by rw [← nI_add]; rfl) ?_
  refine xs_ald hx hb hX hbl hbA hS (by omega) (by omega) d_W_law_349 ?_
  refine wVi (n := 4) (wr := xW D qx ua) (Wf := oW D qo) (rest := [.int ra]) hx hb hml hown hA (o_maximum l D qo n P k a kn an lw s1 sd kd pa wd ao fo uo ho xo (xs (8 * j + 1)) (xs (8 * j + 2)) (xs (8 * j + 3)) (xs (8 * j + 4)) _ hk) wv_W_31 ⟨by decide, by decide, by decide +kernel⟩ ⟨rfl, rfl, by decide, by decide⟩ rfl hl.1 ⟨by show cells + 1 + 0 ≤ 600000; omega, by show slots + 7 + 0 ≤ 7302250; omega⟩ hP hK hD hS hAA hN [0, 1, 2, 3, 4, 5, 6, 7, 8, 9, 10, 11] [12, 13, 14, 15, 16, 17, 18, 19, 20, 21] rfl rfl (by decide) (by decide) (by decide) 0 1 rfl rfl rfl (Nat.le_of_ble_eq_true rfl) d_W_law_350 (fun rb ub H locs h2 hP hD hS => ?_)
  obtain ⟨he, hI2⟩ := op_maximum I h1 h2
  refine lv_icmp_eq (tgt := 941) hx hb d_W_law_353 (by decide) (fun h353 => ?_) (fun h => absurd (he) h)
  exact kk ua ub _ _ hI2 hP hD hS
end
