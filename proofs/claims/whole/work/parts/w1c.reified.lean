section
theorem wv_W_23 : Cond.code y_X_reified b_X_reified 6 (some .int) ∈ cA ∧ Cond.initialized y_X_reified.cls ∈ cA ∧ Cond.methodLink R_W 23 y_X_reified ∈ cA ∧ Cond.instanceMethod y_X_reified ∈ cA ∧ Cond.selects y_X_reified.cls y_X_reified y_X_reified ∈ cA := ⟨wd_215, wd_1, wd_212, wd_213, wd_214⟩
theorem wv_W_27 : Cond.code y_O_reified b_O_reified 6 (some .int) ∈ cA ∧ Cond.initialized y_O_reified.cls ∈ cA ∧ Cond.methodLink R_W 27 y_O_reified ∈ cA ∧ Cond.instanceMethod y_O_reified ∈ cA ∧ Cond.selects y_O_reified.cls y_O_reified y_O_reified ∈ cA := ⟨wd_510, wd_3, wd_507, wd_508, wd_509⟩
theorem d_W_law_252 : decode code 252 = .ok (.aload_n 1, 1) := by decide +kernel
theorem d_W_law_253 : decode code 253 = .ok (.aload_n 0, 1) := by decide +kernel
theorem d_W_law_254 : decode code 254 = .ok (.iload_n 3, 1) := by decide +kernel
theorem d_W_law_255 : decode code 255 = .ok (.iconst 1, 1) := by decide +kernel
theorem d_W_law_256 : decode code 256 = .ok (.iadd, 1) := by decide +kernel
theorem d_W_law_257 : decode code 257 = .ok (.iaload, 1) := by decide +kernel
theorem d_W_law_258 : decode code 258 = .ok (.aload_n 0, 1) := by decide +kernel
theorem d_W_law_259 : decode code 259 = .ok (.iload_n 3, 1) := by decide +kernel
theorem d_W_law_260 : decode code 260 = .ok (.iconst 2, 1) := by decide +kernel
theorem d_W_law_261 : decode code 261 = .ok (.iadd, 1) := by decide +kernel
theorem d_W_law_262 : decode code 262 = .ok (.iaload, 1) := by decide +kernel
theorem d_W_law_263 : decode code 263 = .ok (.aload_n 0, 1) := by decide +kernel
theorem d_W_law_264 : decode code 264 = .ok (.iload_n 3, 1) := by decide +kernel
theorem d_W_law_265 : decode code 265 = .ok (.iconst 3, 1) := by decide +kernel
theorem d_W_law_266 : decode code 266 = .ok (.iadd, 1) := by decide +kernel
theorem d_W_law_267 : decode code 267 = .ok (.iaload, 1) := by decide +kernel
theorem d_W_law_268 : decode code 268 = .ok (.aload_n 0, 1) := by decide +kernel
theorem d_W_law_269 : decode code 269 = .ok (.iload_n 3, 1) := by decide +kernel
theorem d_W_law_270 : decode code 270 = .ok (.iconst 4, 1) := by decide +kernel
theorem d_W_law_271 : decode code 271 = .ok (.iadd, 1) := by decide +kernel
theorem d_W_law_272 : decode code 272 = .ok (.iaload, 1) := by decide +kernel
theorem d_W_law_273 : decode code 273 = .ok (.invokevirtual 23, 3) := by decide +kernel
theorem d_W_law_276 : decode code 276 = .ok (.aload_n 2, 1) := by decide +kernel
theorem d_W_law_277 : decode code 277 = .ok (.aload_n 0, 1) := by decide +kernel
theorem d_W_law_278 : decode code 278 = .ok (.iload_n 3, 1) := by decide +kernel
theorem d_W_law_279 : decode code 279 = .ok (.iconst 1, 1) := by decide +kernel
theorem d_W_law_280 : decode code 280 = .ok (.iadd, 1) := by decide +kernel
theorem d_W_law_281 : decode code 281 = .ok (.iaload, 1) := by decide +kernel
theorem d_W_law_282 : decode code 282 = .ok (.aload_n 0, 1) := by decide +kernel
theorem d_W_law_283 : decode code 283 = .ok (.iload_n 3, 1) := by decide +kernel
theorem d_W_law_284 : decode code 284 = .ok (.iconst 2, 1) := by decide +kernel
theorem d_W_law_285 : decode code 285 = .ok (.iadd, 1) := by decide +kernel
theorem d_W_law_286 : decode code 286 = .ok (.iaload, 1) := by decide +kernel
theorem d_W_law_287 : decode code 287 = .ok (.aload_n 0, 1) := by decide +kernel
theorem d_W_law_288 : decode code 288 = .ok (.iload_n 3, 1) := by decide +kernel
theorem d_W_law_289 : decode code 289 = .ok (.iconst 3, 1) := by decide +kernel
theorem d_W_law_290 : decode code 290 = .ok (.iadd, 1) := by decide +kernel
theorem d_W_law_291 : decode code 291 = .ok (.iaload, 1) := by decide +kernel
theorem d_W_law_292 : decode code 292 = .ok (.aload_n 0, 1) := by decide +kernel
theorem d_W_law_293 : decode code 293 = .ok (.iload_n 3, 1) := by decide +kernel
theorem d_W_law_294 : decode code 294 = .ok (.iconst 4, 1) := by decide +kernel
theorem d_W_law_295 : decode code 295 = .ok (.iadd, 1) := by decide +kernel
theorem d_W_law_296 : decode code 296 = .ok (.iaload, 1) := by decide +kernel
theorem d_W_law_297 : decode code 297 = .ok (.invokevirtual 27, 3) := by decide +kernel
theorem d_W_law_300 : decode code 300 = .ok (.if_icmp .eq 641, 3) := by decide +kernel
theorem d_W_law_303 : decode code 303 = .ok (.iconst 0, 1) := by decide +kernel
theorem d_W_law_304 : decode code 304 = .ok (.ireturn, 1) := by decide +kernel
set_option maxRecDepth 100000 in
set_option maxHeartbeats 4000000 in
theorem lc_2 {p : Program} {e : Env} {s : State} {m : MethodId} {below : List Frame} {meth : Method} {c : Code} (l : Launch) {b L : Nat} {xs : Nat → Int32} {D : va_G} {qx qo : Nat → Nat} (hx : p.tables.exec = Jvm.exec) (hb : c.code = code) (hml : c.maxLocals = 4) (hown : s.vm.findClass R_W = some m.cls) (hA : ∀ w ∈ cA, w.before #[Value.ref b] s = true) (hN : xN s) (hK : va_K D vwCl (vT D) s) (hX : va_X b L xs s s.heap) (hbl : b < s.heap.size) {j : Nat} (hj : 8 * j + 8 ≤ L) (hL : L ≤ 4096) {u : XS} {v : OS} (hI : IU u v) {H : Heap} {locs : List Loc} {ls : Array Slot} {cells slots : Nat} (hc : cells + 1 ≤ 600000) (hs : slots + 7 ≤ 7302250) (hl : lv_has ls 4 [(3, .int (nI (8 * j))), (2, .ref (qo 0)), (1, .ref (qx 0)), (0, .ref b)]) (hP : va_P D vwCl (xW D qx u ++ oW D qo v) H) (hD : va_D (AL s) (xW D qx u ++ oW D qo v)) (hS : va_S (AL s) s.heap H locs)
    (kk : ∀ (u2 : XS) (v2 : OS) (H2 : Heap) (locs2 : List Loc), IU u2 v2 → va_P D vwCl (xW D qx u2 ++ oW D qo v2) H2 → va_D (AL s) (xW D qx u2 ++ oW D qo v2) → va_S (AL s) s.heap H2 locs2 → W p l e room_1 s m #[Value.ref b] below meth c H2 locs2 (cells + 1) (slots + 7) (lw_Z below #[Value.ref b] s) (F0 m 941 ls [])) :
    W p l e room_1 s m #[Value.ref b] below meth c H locs cells slots (lw_Z below #[Value.ref b] s) (F0 m 252 ls []) := by
  have hbA : ¬ AL s b := Nat.not_le.mpr hbl
  have hAA : ∀ q, s.heap.size ≤ q → AL s q := fun _ h => h
  obtain ⟨n, P, k, a, z, lo, hi, B, av, al, ah, ac, pt, fd⟩ := u
  obtain ⟨n', P', k', a', kn, an, lw, s1, sd, kd, pa, wd, ao, fo, uo, ho, xo⟩ := v
  obtain ⟨⟨e1, e2, e3, e4⟩, sz, K, I⟩ := hI
  obtain rfl : n = n' := e1.symm
  obtain rfl : P = P' := e2.symm
  obtain rfl : k = k' := e3.symm
  obtain rfl : a = a' := e4.symm
  have I : INV n P k a z lo hi B av al ah ac kn an lw s1 sd kd pa wd ao fo uo ho sz K := I
  have hP : va_P D vwCl (xw D qx n P k a z lo hi B av al ah ac pt fd ++ ow D qo n P k a kn an lw s1 sd kd pa wd ao fo uo ho xo) H := hP
  have hD : va_D (AL s) (xw D qx n P k a z lo hi B av al ah ac pt fd ++ ow D qo n P k a kn an lw s1 sd kd pa wd ao fo uo ho xo) := hD
  have hn := I.1.1
  have hk := I.1.2.1
  have ha := I.1.2.2.1
  have hP4 := I.1.2.2.2.1
  have hav := I.av9
  have hao := I.ao9
  have hok := I.ok9
  have hsd := I.sd9
  have hlkp := I.2.2.2.2.2.1
  refine lv_aload_n hx hb d_W_law_252 rfl (lv_at hl 2 rfl) ?_
  refine lv_aload_n hx hb d_W_law_253 rfl (lv_at hl 3 rfl) ?_
  refine lv_iload_n hx hb d_W_law_254 rfl (lv_at hl 0 rfl) ?_
  refine lv_iconst (v := 1) hx hb d_W_law_255 (by decide) ?_
  refine lv_iadd hx hb d_W_law_256 ?_
  refine topi_to (v := nI (8 * j + 1)) (by rw [← nI_add]; rfl) ?_
  refine xs_ald hx hb hX hbl hbA hS (by omega) (by omega) d_W_law_257 ?_
  refine lv_aload_n hx hb d_W_law_258 rfl (lv_at hl 3 rfl) ?_
  refine lv_iload_n hx hb d_W_law_259 rfl (lv_at hl 0 rfl) ?_
  refine lv_iconst (v := 2) hx hb d_W_law_260 (by decide) ?_
  refine lv_iadd hx hb d_W_law_261 ?_
  refine topi_to (v := nI (8 * j + 2)) (by rw [← nI_add]; rfl) ?_
  refine xs_ald hx hb hX hbl hbA hS (by omega) (by omega) d_W_law_262 ?_
  refine lv_aload_n hx hb d_W_law_263 rfl (lv_at hl 3 rfl) ?_
  refine lv_iload_n hx hb d_W_law_264 rfl (lv_at hl 0 rfl) ?_
  refine lv_iconst (v := 3) hx hb d_W_law_265 (by decide) ?_
  refine lv_iadd hx hb d_W_law_266 ?_
  refine topi_to (v := nI (8 * j + 3)) (by rw [← nI_add]; rfl) ?_
  refine xs_ald hx hb hX hbl hbA hS (by omega) (by omega) d_W_law_267 ?_
  refine lv_aload_n hx hb d_W_law_268 rfl (lv_at hl 3 rfl) ?_
  refine lv_iload_n hx hb d_W_law_269 rfl (lv_at hl 0 rfl) ?_
  refine lv_iconst (v := 4) hx hb d_W_law_270 (by decide) ?_
  refine lv_iadd hx hb d_W_law_271 ?_
  refine topi_to (v := nI (8 * j + 4)) (by rw [← nI_add]; rfl) ?_
  refine xs_ald hx hb hX hbl hbA hS (by omega) (by omega) d_W_law_272 ?_
  refine wVi (n := 4) (wr := ow D qo n P k a kn an lw s1 sd kd pa wd ao fo uo ho xo) (Wf := xW D qx) (rest := []) hx hb hml hown hA (c_reified l D qx n P k a z lo hi B av al ah ac pt fd (xs (8 * j + 1)) (xs (8 * j + 2)) (xs (8 * j + 3)) (xs (8 * j + 4)) _ hn hP4 hk) wv_W_23 ⟨by decide, by decide, by decide +kernel⟩ ⟨rfl, rfl, by decide, by decide⟩ rfl hl.1 ⟨by show cells + 1 ≤ 600000; omega, by show slots + 4 ≤ 7302250; omega⟩ hP hK hD hS hAA hN [0, 1, 2, 3, 4, 5, 6, 7, 8, 9] [10, 11, 12, 13, 14, 15, 16, 17, 18, 19, 20, 21] rfl rfl (by decide) (by decide) (by decide) 0 0 rfl rfl rfl (Nat.le_of_ble_eq_true rfl) d_W_law_273 (fun ra ua H locs h1 hP hD hS => ?_)
  refine W.widen (k := cells + 1) (n := slots + 7) (by omega) (by omega) ?_
  refine lv_aload_n hx hb d_W_law_276 rfl (lv_at hl 1 rfl) ?_
  refine lv_aload_n hx hb d_W_law_277 rfl (lv_at hl 3 rfl) ?_
  refine lv_iload_n hx hb d_W_law_278 rfl (lv_at hl 0 rfl) ?_
  refine lv_iconst (v := 1) hx hb d_W_law_279 (by decide) ?_
  refine lv_iadd hx hb d_W_law_280 ?_
  refine topi_to (v := nI (8 * j + 1)) (by rw [← nI_add]; rfl) ?_
  refine xs_ald hx hb hX hbl hbA hS (by omega) (by omega) d_W_law_281 ?_
  refine lv_aload_n hx hb d_W_law_282 rfl (lv_at hl 3 rfl) ?_
  refine lv_iload_n hx hb d_W_law_283 rfl (lv_at hl 0 rfl) ?_
  refine lv_iconst (v := 2) hx hb d_W_law_284 (by decide) ?_
  refine lv_iadd hx hb d_W_law_285 ?_
  refine topi_to (v := nI (8 * j + 2)) (by rw [← nI_add]; rfl) ?_
  refine xs_ald hx hb hX hbl hbA hS (by omega) (by omega) d_W_law_286 ?_
  refine lv_aload_n hx hb d_W_law_287 rfl (lv_at hl 3 rfl) ?_
  refine lv_iload_n hx hb d_W_law_288 rfl (lv_at hl 0 rfl) ?_
  refine lv_iconst (v := 3) hx hb d_W_law_289 (by decide) ?_
  refine lv_iadd hx hb d_W_law_290 ?_
  refine topi_to (v := nI (8 * j + 3)) (by rw [← nI_add]; rfl) ?_
  refine xs_ald hx hb hX hbl hbA hS (by omega) (by omega) d_W_law_291 ?_
  refine lv_aload_n hx hb d_W_law_292 rfl (lv_at hl 3 rfl) ?_
  refine lv_iload_n hx hb d_W_law_293 rfl (lv_at hl 0 rfl) ?_
  refine lv_iconst (v := 4) hx hb d_W_law_294 (by decide) ?_
  refine lv_iadd hx hb d_W_law_295 ?_
  refine topi_to (v := nI (8 * j + 4)) (by rw [← nI_add]; rfl) ?_
  refine xs_ald hx hb hX hbl hbA hS (by omega) (by omega) d_W_law_296 ?_
  refine wVi (n := 4) (wr := xW D qx ua) (Wf := oW D qo) (rest := [.int ra]) hx hb hml hown hA (o_reified l D qo n P k a kn an lw s1 sd kd pa wd ao fo uo ho xo (xs (8 * j + 1)) (xs (8 * j + 2)) (xs (8 * j + 3)) (xs (8 * j + 4)) _ hk) wv_W_27 ⟨by decide, by decide, by decide +kernel⟩ ⟨rfl, rfl, by decide, by decide⟩ rfl hl.1 ⟨by show cells + 1 + 0 ≤ 600000; omega, by show slots + 7 + 0 ≤ 7302250; omega⟩ hP hK hD hS hAA hN [0, 1, 2, 3, 4, 5, 6, 7, 8, 9, 10, 11] [12, 13, 14, 15, 16, 17, 18, 19, 20, 21] rfl rfl (by decide) (by decide) (by decide) 0 1 rfl rfl rfl (Nat.le_of_ble_eq_true rfl) d_W_law_297 (fun rb ub H locs h2 hP hD hS => ?_)
  obtain ⟨he, hI2⟩ := op_reified I h1 h2
  refine lv_icmp_eq (tgt := 941) hx hb d_W_law_300 (by decide) (fun h300 => ?_) (fun h => absurd (he) h)
  exact kk ua ub _ _ hI2 hP hD hS
end
