section
theorem wv_W_13 : Cond.code y_X_variable b_X_variable 4 (some .int) ∈ cA ∧ Cond.initialized y_X_variable.cls ∈ cA ∧ Cond.methodLink R_W 13 y_X_variable ∈ cA ∧ Cond.instanceMethod y_X_variable ∈ cA ∧ Cond.selects y_X_variable.cls y_X_variable y_X_variable ∈ cA := ⟨wd_72, wd_1, wd_69, wd_70, wd_71⟩
theorem wv_W_17 : Cond.code y_O_variable b_O_variable 5 (some .int) ∈ cA ∧ Cond.initialized y_O_variable.cls ∈ cA ∧ Cond.methodLink R_W 17 y_O_variable ∈ cA ∧ Cond.instanceMethod y_O_variable ∈ cA ∧ Cond.selects y_O_variable.cls y_O_variable y_O_variable ∈ cA := ⟨wd_479, wd_3, wd_476, wd_477, wd_478⟩
theorem d_W_law_132 : decode code 132 = .ok (.aload_n 1, 1) := by decide +kernel
theorem d_W_law_133 : decode code 133 = .ok (.aload_n 0, 1) := by decide +kernel
theorem d_W_law_134 : decode code 134 = .ok (.iload_n 3, 1) := by decide +kernel
theorem d_W_law_135 : decode code 135 = .ok (.iconst 1, 1) := by decide +kernel
theorem d_W_law_136 : decode code 136 = .ok (.iadd, 1) := by decide +kernel
theorem d_W_law_137 : decode code 137 = .ok (.iaload, 1) := by decide +kernel
theorem d_W_law_138 : decode code 138 = .ok (.aload_n 0, 1) := by decide +kernel
theorem d_W_law_139 : decode code 139 = .ok (.iload_n 3, 1) := by decide +kernel
theorem d_W_law_140 : decode code 140 = .ok (.iconst 2, 1) := by decide +kernel
theorem d_W_law_141 : decode code 141 = .ok (.iadd, 1) := by decide +kernel
theorem d_W_law_142 : decode code 142 = .ok (.iaload, 1) := by decide +kernel
theorem d_W_law_143 : decode code 143 = .ok (.invokevirtual 13, 3) := by decide +kernel
theorem d_W_law_146 : decode code 146 = .ok (.aload_n 2, 1) := by decide +kernel
theorem d_W_law_147 : decode code 147 = .ok (.aload_n 0, 1) := by decide +kernel
theorem d_W_law_148 : decode code 148 = .ok (.iload_n 3, 1) := by decide +kernel
theorem d_W_law_149 : decode code 149 = .ok (.iconst 1, 1) := by decide +kernel
theorem d_W_law_150 : decode code 150 = .ok (.iadd, 1) := by decide +kernel
theorem d_W_law_151 : decode code 151 = .ok (.iaload, 1) := by decide +kernel
theorem d_W_law_152 : decode code 152 = .ok (.aload_n 0, 1) := by decide +kernel
theorem d_W_law_153 : decode code 153 = .ok (.iload_n 3, 1) := by decide +kernel
theorem d_W_law_154 : decode code 154 = .ok (.iconst 2, 1) := by decide +kernel
theorem d_W_law_155 : decode code 155 = .ok (.iadd, 1) := by decide +kernel
theorem d_W_law_156 : decode code 156 = .ok (.iaload, 1) := by decide +kernel
theorem d_W_law_157 : decode code 157 = .ok (.invokevirtual 17, 3) := by decide +kernel
theorem d_W_law_160 : decode code 160 = .ok (.if_icmp .eq 781, 3) := by decide +kernel
theorem d_W_law_163 : decode code 163 = .ok (.iconst 0, 1) := by decide +kernel
theorem d_W_law_164 : decode code 164 = .ok (.ireturn, 1) := by decide +kernel
set_option maxRecDepth 100000 in
set_option maxHeartbeats 4000000 in
theorem lc_0 {p : Program} {e : Env} {s : State} {m : MethodId} {below : List Frame} {meth : Method} {c : Code} (l : Launch) {b L : Nat} {xs : Nat → Int32} {D : va_G} {qx qo : Nat → Nat} (hx : p.tables.exec = Jvm.exec) (hb : c.code = code) (hml : c.maxLocals = 4) (hown : s.vm.findClass R_W = some m.cls) (hA : ∀ w ∈ cA, w.before #[Value.ref b] s = true) (hN : xN s) (hK : va_K D vwCl (vT D) s) (hX : va_X b L xs s s.heap) (hbl : b < s.heap.size) {j : Nat} (hj : 8 * j + 8 ≤ L) (hL : L ≤ 4096) {u : XS} {v : OS} (hI : IU u v) {H : Heap} {locs : List Loc} {ls : Array Slot} {cells slots : Nat} (hc : cells + 1 ≤ 600000) (hs : slots + 7 ≤ 7302250) (hl : lv_has ls 4 [(3, .int (nI (8 * j))), (2, .ref (qo 0)), (1, .ref (qx 0)), (0, .ref b)]) (hP : va_P D vwCl (xW D qx u ++ oW D qo v) H) (hD : va_D (AL s) (xW D qx u ++ oW D qo v)) (hS : va_S (AL s) s.heap H locs)
    (kk : ∀ (u2 : XS) (v2 : OS) (H2 : Heap) (locs2 : List Loc), IU u2 v2 → va_P D vwCl (xW D qx u2 ++ oW D qo v2) H2 → va_D (AL s) (xW D qx u2 ++ oW D qo v2) → va_S (AL s) s.heap H2 locs2 → W p l e room_1 s m #[Value.ref b] below meth c H2 locs2 (cells + 1) (slots + 7) (lw_Z below #[Value.ref b] s) (F0 m 941 ls [])) :
    W p l e room_1 s m #[Value.ref b] below meth c H locs cells slots (lw_Z below #[Value.ref b] s) (F0 m 132 ls []) := by
  have hbA : ¬ AL s b := Nat.not_le.mpr hbl
  have hAA : ∀ q, s.heap.size ≤ q → AL s q := fun _ h => h
  obtain ⟨n, P, k, a, z, lo, hi, B, av, al, ah, ac, pt, fd⟩ := u
  obtain ⟨n', P', k', a', kn, an, lw, s1, sd, kd, pa, wd, ao, fo, uo, ho, xo⟩ := v
  obtain ⟨⟨e1, e2, e3, e4⟩, sz, K, I⟩ := hI
  obtain rfl : n = n' := e1.symm
  obtain rfl : P = P' := e2.symm
  obtain rfl : k = k' := e3.symm
  obtain rfl : a = a' := e4.symm
  have I : INV n P k a z lo hi B av al ah ac kn an lw s1 sd kd pa wd ao fo uo ho sz K := I
  have hP : va_P D vwCl (xw D qx n P k a z lo hi B av al ah ac pt fd ++ ow D qo n P k a kn an lw s1 sd kd pa wd ao fo uo ho xo) H := hP
  have hD : va_D (AL s) (xw D qx n P k a z lo hi B av al ah ac pt fd ++ ow D qo n P k a kn an lw s1 sd kd pa wd ao fo uo ho xo) := hD
  have hn := I.1.1
  have hk := I.1.2.1
  have ha := I.1.2.2.1
  have hP4 := I.1.2.2.2.1
  have hav := I.av9
  have hao := I.ao9
  have hok := I.ok9
  have hsd := I.sd9
  have hlkp := I.2.2.2.2.2.1
  refine lv_aload_n hx hb d_W_law_132 rfl (lv_at hl 2 rfl) ?_
  refine lv_aload_n hx hb d_W_law_133 rfl (lv_at hl 3 rfl) ?_
  refine lv_iload_n hx hb d_W_law_134 rfl (lv_at hl 0 rfl) ?_
  refine lv_iconst (v := 1) hx hb d_W_law_135 (by decide) ?_
  refine lv_iadd hx hb d_W_law_136 ?_
  refine topi_to (v := nI (8 * j + 1)) (by rw [← nI_add]; rfl) ?_
  refine xs_ald hx hb hX hbl hbA hS (by omega) (by omega) d_W_law_137 ?_
  refine lv_aload_n hx hb d_W_law_138 rfl (lv_at hl 3 rfl) ?_
  refine lv_iload_n hx hb d_W_law_139 rfl (lv_at hl 0 rfl) ?_
  refine lv_iconst (v := 2) hx hb d_W_law_140 (by decide) ?_
  refine lv_iadd hx hb d_W_law_141 ?_
  refine topi_to (v := nI (8 * j + 2)) (by rw [← nI_add]; rfl) ?_
  refine xs_ald hx hb hX hbl hbA hS (by omega) (by omega) d_W_law_142 ?_
  refine wVi (n := 2) (wr := ow D qo n P k a kn an lw s1 sd kd pa wd ao fo uo ho xo) (Wf := xW D qx) (rest := []) hx hb hml hown hA (c_variable l D qx n P k a z lo hi B av al ah ac pt fd (xs (8 * j + 1)) (xs (8 * j + 2)) _ hn hP4) wv_W_13 ⟨by decide, by decide, by decide +kernel⟩ ⟨rfl, rfl, by decide, by decide⟩ rfl hl.1 ⟨by show cells + 0 ≤ 600000; omega, by show slots + 0 ≤ 7302250; omega⟩ hP hK hD hS hAA hN [0, 1, 2, 3, 4, 5, 6, 7, 8, 9] [10, 11, 12, 13, 14, 15, 16, 17, 18, 19, 20, 21] rfl rfl (by decide) (by decide) (by decide) 0 0 rfl rfl rfl (Nat.le_of_ble_eq_true rfl) d_W_law_143 (fun ra ua H locs h1 hP hD hS => ?_)
  refine W.widen (k := cells + 1) (n := slots + 7) (by omega) (by omega) ?_
  refine lv_aload_n hx hb d_W_law_146 rfl (lv_at hl 1 rfl) ?_
  refine lv_aload_n hx hb d_W_law_147 rfl (lv_at hl 3 rfl) ?_
  refine lv_iload_n hx hb d_W_law_148 rfl (lv_at hl 0 rfl) ?_
  refine lv_iconst (v := 1) hx hb d_W_law_149 (by decide) ?_
  refine lv_iadd hx hb d_W_law_150 ?_
  refine topi_to (v := nI (8 * j + 1)) (by rw [← nI_add]; rfl) ?_
  refine xs_ald hx hb hX hbl hbA hS (by omega) (by omega) d_W_law_151 ?_
  refine lv_aload_n hx hb d_W_law_152 rfl (lv_at hl 3 rfl) ?_
  refine lv_iload_n hx hb d_W_law_153 rfl (lv_at hl 0 rfl) ?_
  refine lv_iconst (v := 2) hx hb d_W_law_154 (by decide) ?_
  refine lv_iadd hx hb d_W_law_155 ?_
  refine topi_to (v := nI (8 * j + 2)) (by rw [← nI_add]; rfl) ?_
  refine xs_ald hx hb hX hbl hbA hS (by omega) (by omega) d_W_law_156 ?_
  refine wVi (n := 2) (wr := xW D qx ua) (Wf := oW D qo) (rest := [.int ra]) hx hb hml hown hA (o_variable l D qo n P k a kn an lw s1 sd kd pa wd ao fo uo ho xo (xs (8 * j + 1)) (xs (8 * j + 2)) _ hn hP4) wv_W_17 ⟨by decide, by decide, by decide +kernel⟩ ⟨rfl, rfl, by decide, by decide⟩ rfl hl.1 ⟨by show cells + 1 + 0 ≤ 600000; omega, by show slots + 7 + 0 ≤ 7302250; omega⟩ hP hK hD hS hAA hN [0, 1, 2, 3, 4, 5, 6, 7, 8, 9, 10, 11] [12, 13, 14, 15, 16, 17, 18, 19, 20, 21] rfl rfl (by decide) (by decide) (by decide) 0 1 rfl rfl rfl (Nat.le_of_ble_eq_true rfl) d_W_law_157 (fun rb ub H locs h2 hP hD hS => ?_)
  obtain ⟨he, hI2⟩ := op_variable I h1 h2
  refine lv_icmp_eq (tgt := 941) hx hb d_W_law_160 (by decide) (fun h160 => ?_) (fun h => absurd (he) h)
  exact kk ua ub _ _ hI2 hP hD hS
end
