section
theorem wv_W_18 : Cond.code y_X_linear b_X_linear 9 (some .int) ∈ cA ∧ Cond.initialized y_X_linear.cls ∈ cA ∧ Cond.methodLink R_W 18 y_X_linear ∈ cA ∧ Cond.instanceMethod y_X_linear ∈ cA ∧ Cond.selects y_X_linear.cls y_X_linear y_X_linear ∈ cA := ⟨wd_80, wd_1, wd_77, wd_78, wd_79⟩
theorem wv_W_22 : Cond.code y_O_linear b_O_linear 10 (some .int) ∈ cA ∧ Cond.initialized y_O_linear.cls ∈ cA ∧ Cond.methodLink R_W 22 y_O_linear ∈ cA ∧ Cond.instanceMethod y_O_linear ∈ cA ∧ Cond.selects y_O_linear.cls y_O_linear y_O_linear ∈ cA := ⟨wd_487, wd_3, wd_484, wd_485, wd_486⟩
theorem d_W_law_165 : decode code 165 = .ok (.aload_n 1, 1) := by decide +kernel
theorem d_W_law_166 : decode code 166 = .ok (.aload_n 0, 1) := by decide +kernel
theorem d_W_law_167 : decode code 167 = .ok (.iload_n 3, 1) := by decide +kernel
theorem d_W_law_168 : decode code 168 = .ok (.iconst 1, 1) := by decide +kernel
theorem d_W_law_169 : decode code 169 = .ok (.iadd, 1) := by decide +kernel
theorem d_W_law_170 : decode code 170 = .ok (.iaload, 1) := by decide +kernel
theorem d_W_law_171 : decode code 171 = .ok (.aload_n 0, 1) := by decide +kernel
theorem d_W_law_172 : decode code 172 = .ok (.iload_n 3, 1) := by decide +kernel
theorem d_W_law_173 : decode code 173 = .ok (.iconst 2, 1) := by decide +kernel
theorem d_W_law_174 : decode code 174 = .ok (.iadd, 1) := by decide +kernel
theorem d_W_law_175 : decode code 175 = .ok (.iaload, 1) := by decide +kernel
theorem d_W_law_176 : decode code 176 = .ok (.aload_n 0, 1) := by decide +kernel
theorem d_W_law_177 : decode code 177 = .ok (.iload_n 3, 1) := by decide +kernel
theorem d_W_law_178 : decode code 178 = .ok (.iconst 3, 1) := by decide +kernel
theorem d_W_law_179 : decode code 179 = .ok (.iadd, 1) := by decide +kernel
theorem d_W_law_180 : decode code 180 = .ok (.iaload, 1) := by decide +kernel
theorem d_W_law_181 : decode code 181 = .ok (.aload_n 0, 1) := by decide +kernel
theorem d_W_law_182 : decode code 182 = .ok (.iload_n 3, 1) := by decide +kernel
theorem d_W_law_183 : decode code 183 = .ok (.iconst 4, 1) := by decide +kernel
theorem d_W_law_184 : decode code 184 = .ok (.iadd, 1) := by decide +kernel
theorem d_W_law_185 : decode code 185 = .ok (.iaload, 1) := by decide +kernel
theorem d_W_law_186 : decode code 186 = .ok (.aload_n 0, 1) := by decide +kernel
theorem d_W_law_187 : decode code 187 = .ok (.iload_n 3, 1) := by decide +kernel
theorem d_W_law_188 : decode code 188 = .ok (.iconst 5, 1) := by decide +kernel
theorem d_W_law_189 : decode code 189 = .ok (.iadd, 1) := by decide +kernel
theorem d_W_law_190 : decode code 190 = .ok (.iaload, 1) := by decide +kernel
theorem d_W_law_191 : decode code 191 = .ok (.aload_n 0, 1) := by decide +kernel
theorem d_W_law_192 : decode code 192 = .ok (.iload_n 3, 1) := by decide +kernel
theorem d_W_law_193 : decode code 193 = .ok (.bipush 6, 2) := by decide +kernel
theorem d_W_law_195 : decode code 195 = .ok (.iadd, 1) := by decide +kernel
theorem d_W_law_196 : decode code 196 = .ok (.iaload, 1) := by decide +kernel
theorem d_W_law_197 : decode code 197 = .ok (.aload_n 0, 1) := by decide +kernel
theorem d_W_law_198 : decode code 198 = .ok (.iload_n 3, 1) := by decide +kernel
theorem d_W_law_199 : decode code 199 = .ok (.bipush 7, 2) := by decide +kernel
theorem d_W_law_201 : decode code 201 = .ok (.iadd, 1) := by decide +kernel
theorem d_W_law_202 : decode code 202 = .ok (.iaload, 1) := by decide +kernel
theorem d_W_law_203 : decode code 203 = .ok (.invokevirtual 18, 3) := by decide +kernel
theorem d_W_law_206 : decode code 206 = .ok (.aload_n 2, 1) := by decide +kernel
theorem d_W_law_207 : decode code 207 = .ok (.aload_n 0, 1) := by decide +kernel
theorem d_W_law_208 : decode code 208 = .ok (.iload_n 3, 1) := by decide +kernel
theorem d_W_law_209 : decode code 209 = .ok (.iconst 1, 1) := by decide +kernel
theorem d_W_law_210 : decode code 210 = .ok (.iadd, 1) := by decide +kernel
theorem d_W_law_211 : decode code 211 = .ok (.iaload, 1) := by decide +kernel
theorem d_W_law_212 : decode code 212 = .ok (.aload_n 0, 1) := by decide +kernel
theorem d_W_law_213 : decode code 213 = .ok (.iload_n 3, 1) := by decide +kernel
theorem d_W_law_214 : decode code 214 = .ok (.iconst 2, 1) := by decide +kernel
theorem d_W_law_215 : decode code 215 = .ok (.iadd, 1) := by decide +kernel
theorem d_W_law_216 : decode code 216 = .ok (.iaload, 1) := by decide +kernel
theorem d_W_law_217 : decode code 217 = .ok (.aload_n 0, 1) := by decide +kernel
theorem d_W_law_218 : decode code 218 = .ok (.iload_n 3, 1) := by decide +kernel
theorem d_W_law_219 : decode code 219 = .ok (.iconst 3, 1) := by decide +kernel
theorem d_W_law_220 : decode code 220 = .ok (.iadd, 1) := by decide +kernel
theorem d_W_law_221 : decode code 221 = .ok (.iaload, 1) := by decide +kernel
theorem d_W_law_222 : decode code 222 = .ok (.aload_n 0, 1) := by decide +kernel
theorem d_W_law_223 : decode code 223 = .ok (.iload_n 3, 1) := by decide +kernel
theorem d_W_law_224 : decode code 224 = .ok (.iconst 4, 1) := by decide +kernel
theorem d_W_law_225 : decode code 225 = .ok (.iadd, 1) := by decide +kernel
theorem d_W_law_226 : decode code 226 = .ok (.iaload, 1) := by decide +kernel
theorem d_W_law_227 : decode code 227 = .ok (.aload_n 0, 1) := by decide +kernel
theorem d_W_law_228 : decode code 228 = .ok (.iload_n 3, 1) := by decide +kernel
theorem d_W_law_229 : decode code 229 = .ok (.iconst 5, 1) := by decide +kernel
theorem d_W_law_230 : decode code 230 = .ok (.iadd, 1) := by decide +kernel
theorem d_W_law_231 : decode code 231 = .ok (.iaload, 1) := by decide +kernel
theorem d_W_law_232 : decode code 232 = .ok (.aload_n 0, 1) := by decide +kernel
theorem d_W_law_233 : decode code 233 = .ok (.iload_n 3, 1) := by decide +kernel
theorem d_W_law_234 : decode code 234 = .ok (.bipush 6, 2) := by decide +kernel
theorem d_W_law_236 : decode code 236 = .ok (.iadd, 1) := by decide +kernel
theorem d_W_law_237 : decode code 237 = .ok (.iaload, 1) := by decide +kernel
theorem d_W_law_238 : decode code 238 = .ok (.aload_n 0, 1) := by decide +kernel
theorem d_W_law_239 : decode code 239 = .ok (.iload_n 3, 1) := by decide +kernel
theorem d_W_law_240 : decode code 240 = .ok (.bipush 7, 2) := by decide +kernel
theorem d_W_law_242 : decode code 242 = .ok (.iadd, 1) := by decide +kernel
theorem d_W_law_243 : decode code 243 = .ok (.iaload, 1) := by decide +kernel
theorem d_W_law_244 : decode code 244 = .ok (.invokevirtual 22, 3) := by decide +kernel
theorem d_W_law_247 : decode code 247 = .ok (.if_icmp .eq 694, 3) := by decide +kernel
theorem d_W_law_250 : decode code 250 = .ok (.iconst 0, 1) := by decide +kernel
theorem d_W_law_251 : decode code 251 = .ok (.ireturn, 1) := by decide +kernel
set_option maxRecDepth 100000 in
set_option maxHeartbeats 4000000 in
theorem lc_1 {p : Program} {e : Env} {s : State} {m : MethodId} {below : List Frame} {meth : Method} {c : Code} (l : Launch) {b L : Nat} {xs : Nat → Int32} {D : va_G} {qx qo : Nat → Nat} (hx : p.tables.exec = Jvm.exec) (hb : c.code = code) (hml : c.maxLocals = 4) (hown : s.vm.findClass R_W = some m.cls) (hA : ∀ w ∈ cA, w.before #[Value.ref b] s = true) (hN : xN s) (hK : va_K D vwCl (vT D) s) (hX : va_X b L xs s s.heap) (hbl : b < s.heap.size) {j : Nat} (hj : 8 * j + 8 ≤ L) (hL : L ≤ 4096) {u : XS} {v : OS} (hI : IU u v) {H : Heap} {locs : List Loc} {ls : Array Slot} {cells slots : Nat} (hc : cells + 1 ≤ 600000) (hs : slots + 7 ≤ 7302250) (hl : lv_has ls 4 [(3, .int (nI (8 * j))), (2, .ref (qo 0)), (1, .ref (qx 0)), (0, .ref b)]) (hP : va_P D vwCl (xW D qx u ++ oW D qo v) H) (hD : va_D (AL s) (xW D qx u ++ oW D qo v)) (hS : va_S (AL s) s.heap H locs)
    (kk : ∀ (u2 : XS) (v2 : OS) (H2 : Heap) (locs2 : List Loc), IU u2 v2 → va_P D vwCl (xW D qx u2 ++ oW D qo v2) H2 → va_D (AL s) (xW D qx u2 ++ oW D qo v2) → va_S (AL s) s.heap H2 locs2 → W p l e room_1 s m #[Value.ref b] below meth c H2 locs2 (cells + 1) (slots + 7) (lw_Z below #[Value.ref b] s) (F0 m 941 ls [])) :
    W p l e room_1 s m #[Value.ref b] below meth c H locs cells slots (lw_Z below #[Value.ref b] s) (F0 m 165 ls []) := by
  have hbA : ¬ AL s b := Nat.not_le.mpr hbl
  have hAA : ∀ q, s.heap.size ≤ q → AL s q := fun _ h => h
  obtain ⟨n, P, k, a, z, lo, hi, B, av, al, ah, ac, pt, fd⟩ := u
  obtain ⟨n', P', k', a', kn, an, lw, s1, sd, kd, pa, wd, ao, fo, uo, ho, xo⟩ := v
  obtain ⟨⟨e1, e2, e3, e4⟩, sz, K, I⟩ := hI
  obtain rfl : n = n' := e1.symm
  obtain rfl : P = P' := e2.symm
  obtain rfl : k = k' := e3.symm
  obtain rfl : a = a' := e4.symm
  have I : INV n P k a z lo hi B av al ah ac kn an lw s1 sd kd pa wd ao fo uo ho sz K := I
  have hP : va_P D vwCl (xw D qx n P k a z lo hi B av al ah ac pt fd ++ ow D qo n P k a kn an lw s1 sd kd pa wd ao fo uo ho xo) H := hP
  have hD : va_D (AL s) (xw D qx n P k a z lo hi B av al ah ac pt fd ++ ow D qo n P k a kn an lw s1 sd kd pa wd ao fo uo ho xo) := hD
  have hn := I.1.1
  have hk := I.1.2.1
  have ha := I.1.2.2.1
  have hP4 := I.1.2.2.2.1
  have hav := I.av9
  have hao := I.ao9
  have hok := I.ok9
  have hsd := I.sd9
  have hlkp := I.2.2.2.2.2.1
  refine lv_aload_n hx hb d_W_law_165 rfl (lv_at hl 2 rfl) ?_
  refine lv_aload_n hx hb d_W_law_166 rfl (lv_at hl 3 rfl) ?_
  refine lv_iload_n hx hb d_W_law_167 rfl (lv_at hl 0 rfl) ?_
  refine lv_iconst (v := 1) hx hb d_W_law_168 (by decide) ?_
  refine lv_iadd hx hb d_W_law_169 ?_
  refine topi_to (v := nI (8 * j + 1)) (by rw [← nI_add]; rfl) ?_
  refine xs_ald hx hb hX hbl hbA hS (by omega) (by omega) d_W_law_170 ?_
  refine lv_aload_n hx hb d_W_law_171 rfl (lv_at hl 3 rfl) ?_
  refine lv_iload_n hx hb d_W_law_172 rfl (lv_at hl 0 rfl) ?_
  refine lv_iconst (v := 2) hx hb d_W_law_173 (by decide) ?_
  refine lv_iadd hx hb d_W_law_174 ?_
  refine topi_to (v := nI (8 * j + 2)) (by rw [← nI_add]; rfl) ?_
  refine xs_ald hx hb hX hbl hbA hS (by omega) (by omega) d_W_law_175 ?_
  refine lv_aload_n hx hb d_W_law_176 rfl (lv_at hl 3 rfl) ?_
  refine lv_iload_n hx hb d_W_law_177 rfl (lv_at hl 0 rfl) ?_
  refine lv_iconst (v := 3) hx hb d_W_law_178 (by decide) ?_
  refine lv_iadd hx hb d_W_law_179 ?_
  refine topi_to (v := nI (8 * j + 3)) (by rw [← nI_add]; rfl) ?_
  refine xs_ald hx hb hX hbl hbA hS (by omega) (by omega) d_W_law_180 ?_
  refine lv_aload_n hx hb d_W_law_181 rfl (lv_at hl 3 rfl) ?_
  refine lv_iload_n hx hb d_W_law_182 rfl (lv_at hl 0 rfl) ?_
  refine lv_iconst (v := 4) hx hb d_W_law_183 (by decide) ?_
  refine lv_iadd hx hb d_W_law_184 ?_
  refine topi_to (v := nI (8 * j + 4)) (by rw [← nI_add]; rfl) ?_
  refine xs_ald hx hb hX hbl hbA hS (by omega) (by omega) d_W_law_185 ?_
  refine lv_aload_n hx hb d_W_law_186 rfl (lv_at hl 3 rfl) ?_
  refine lv_iload_n hx hb d_W_law_187 rfl (lv_at hl 0 rfl) ?_
  refine lv_iconst (v := 5) hx hb d_W_law_188 (by decide) ?_
  refine lv_iadd hx hb d_W_law_189 ?_
  refine topi_to (v := nI (8 * j + 5)) (by rw [← nI_add]; rfl) ?_
  refine xs_ald hx hb hX hbl hbA hS (by omega) (by omega) d_W_law_190 ?_
  refine lv_aload_n hx hb d_W_law_191 rfl (lv_at hl 3 rfl) ?_
  refine lv_iload_n hx hb d_W_law_192 rfl (lv_at hl 0 rfl) ?_
  refine lv_bipush (v := 6) hx hb d_W_law_193 (by decide) ?_
  refine lv_iadd hx hb d_W_law_195 ?_
  refine topi_to (v := nI (8 * j + 6)) (by rw [← nI_add]; rfl) ?_
  refine xs_ald hx hb hX hbl hbA hS (by omega) (by omega) d_W_law_196 ?_
  refine lv_aload_n hx hb d_W_law_197 rfl (lv_at hl 3 rfl) ?_
  refine lv_iload_n hx hb d_W_law_198 rfl (lv_at hl 0 rfl) ?_
  refine lv_bipush (v := 7) hx hb d_W_law_199 (by decide) ?_
  refine lv_iadd hx hb d_W_law_201 ?_
  refine topi_to (v := nI (8 * j + 7)) (by rw [← nI_add]; rfl) ?_
  refine xs_ald hx hb hX hbl hbA hS (by omega) (by omega) d_W_law_202 ?_
  refine wVi (n := 7) (wr := ow D qo n P k a kn an lw s1 sd kd pa wd ao fo uo ho xo) (Wf := xW D qx) (rest := []) hx hb hml hown hA (c_linear l D qx n P k a z lo hi B av al ah ac pt fd (xs (8 * j + 1)) (xs (8 * j + 2)) (xs (8 * j + 3)) (xs (8 * j + 4)) (xs (8 * j + 5)) (xs (8 * j + 6)) (xs (8 * j + 7)) _ hn hP4 hk) wv_W_18 ⟨by decide, by decide, by decide +kernel⟩ ⟨rfl, rfl, by decide, by decide⟩ rfl hl.1 ⟨by show cells + 1 ≤ 600000; omega, by show slots + 7 ≤ 7302250; omega⟩ hP hK hD hS hAA hN [0, 1, 2, 3, 4, 5, 6, 7, 8, 9] [10, 11, 12, 13, 14, 15, 16, 17, 18, 19, 20, 21] rfl rfl (by decide) (by decide) (by decide) 0 0 rfl rfl rfl (Nat.le_of_ble_eq_true rfl) d_W_law_203 (fun ra ua H locs h1 hP hD hS => ?_)
  refine W.widen (k := cells + 1) (n := slots + 7) (by omega) (by omega) ?_
  refine lv_aload_n hx hb d_W_law_206 rfl (lv_at hl 1 rfl) ?_
  refine lv_aload_n hx hb d_W_law_207 rfl (lv_at hl 3 rfl) ?_
  refine lv_iload_n hx hb d_W_law_208 rfl (lv_at hl 0 rfl) ?_
  refine lv_iconst (v := 1) hx hb d_W_law_209 (by decide) ?_
  refine lv_iadd hx hb d_W_law_210 ?_
  refine topi_to (v := nI (8 * j + 1)) (by rw [← nI_add]; rfl) ?_
  refine xs_ald hx hb hX hbl hbA hS (by omega) (by omega) d_W_law_211 ?_
  refine lv_aload_n hx hb d_W_law_212 rfl (lv_at hl 3 rfl) ?_
  refine lv_iload_n hx hb d_W_law_213 rfl (lv_at hl 0 rfl) ?_
  refine lv_iconst (v := 2) hx hb d_W_law_214 (by decide) ?_
  refine lv_iadd hx hb d_W_law_215 ?_
  refine topi_to (v := nI (8 * j + 2)) (by rw [← nI_add]; rfl) ?_
  refine xs_ald hx hb hX hbl hbA hS (by omega) (by omega) d_W_law_216 ?_
  refine lv_aload_n hx hb d_W_law_217 rfl (lv_at hl 3 rfl) ?_
  refine lv_iload_n hx hb d_W_law_218 rfl (lv_at hl 0 rfl) ?_
  refine lv_iconst (v := 3) hx hb d_W_law_219 (by decide) ?_
  refine lv_iadd hx hb d_W_law_220 ?_
  refine topi_to (v := nI (8 * j + 3)) (by rw [← nI_add]; rfl) ?_
  refine xs_ald hx hb hX hbl hbA hS (by omega) (by omega) d_W_law_221 ?_
  refine lv_aload_n hx hb d_W_law_222 rfl (lv_at hl 3 rfl) ?_
  refine lv_iload_n hx hb d_W_law_223 rfl (lv_at hl 0 rfl) ?_
  refine lv_iconst (v := 4) hx hb d_W_law_224 (by decide) ?_
  refine lv_iadd hx hb d_W_law_225 ?_
  refine topi_to (v := nI (8 * j + 4)) (by rw [← nI_add]; rfl) ?_
  refine xs_ald hx hb hX hbl hbA hS (by omega) (by omega) d_W_law_226 ?_
  refine lv_aload_n hx hb d_W_law_227 rfl (lv_at hl 3 rfl) ?_
  refine lv_iload_n hx hb d_W_law_228 rfl (lv_at hl 0 rfl) ?_
  refine lv_iconst (v := 5) hx hb d_W_law_229 (by decide) ?_
  refine lv_iadd hx hb d_W_law_230 ?_
  refine topi_to (v := nI (8 * j + 5)) (by rw [← nI_add]; rfl) ?_
  refine xs_ald hx hb hX hbl hbA hS (by omega) (by omega) d_W_law_231 ?_
  refine lv_aload_n hx hb d_W_law_232 rfl (lv_at hl 3 rfl) ?_
  refine lv_iload_n hx hb d_W_law_233 rfl (lv_at hl 0 rfl) ?_
  refine lv_bipush (v := 6) hx hb d_W_law_234 (by decide) ?_
  refine lv_iadd hx hb d_W_law_236 ?_
  refine topi_to (v := nI (8 * j + 6)) (by rw [← nI_add]; rfl) ?_
  refine xs_ald hx hb hX hbl hbA hS (by omega) (by omega) d_W_law_237 ?_
  refine lv_aload_n hx hb d_W_law_238 rfl (lv_at hl 3 rfl) ?_
  refine lv_iload_n hx hb d_W_law_239 rfl (lv_at hl 0 rfl) ?_
  refine lv_bipush (v := 7) hx hb d_W_law_240 (by decide) ?_
  refine lv_iadd hx hb d_W_law_242 ?_
  refine topi_to (v := nI (8 * j + 7)) (by rw [← nI_add]; rfl) ?_
  refine xs_ald hx hb hX hbl hbA hS (by omega) (by omega) d_W_law_243 ?_
  refine wVi (n := 7) (wr := xW D qx ua) (Wf := oW D qo) (rest := [.int ra]) hx hb hml hown hA (o_linear l D qo n P k a kn an lw s1 sd kd pa wd ao fo uo ho xo (xs (8 * j + 1)) (xs (8 * j + 2)) (xs (8 * j + 3)) (xs (8 * j + 4)) (xs (8 * j + 5)) (xs (8 * j + 6)) (xs (8 * j + 7)) _ hk) wv_W_22 ⟨by decide, by decide, by decide +kernel⟩ ⟨rfl, rfl, by decide, by decide⟩ rfl hl.1 ⟨by show cells + 1 + 0 ≤ 600000; omega, by show slots + 7 + 0 ≤ 7302250; omega⟩ hP hK hD hS hAA hN [0, 1, 2, 3, 4, 5, 6, 7, 8, 9, 10, 11] [12, 13, 14, 15, 16, 17, 18, 19, 20, 21] rfl rfl (by decide) (by decide) (by decide) 0 1 rfl rfl rfl (Nat.le_of_ble_eq_true rfl) d_W_law_244 (fun rb ub H locs h2 hP hD hS => ?_)
  obtain ⟨he, hI2⟩ := op_linear I h1 h2
  refine lv_icmp_eq (tgt := 941) hx hb d_W_law_247 (by decide) (fun h247 => ?_) (fun h => absurd (he) h)
  exact kk ua ub _ _ hI2 hP hD hS
end
