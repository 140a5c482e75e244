section
theorem wv_W_84 : Cond.code y_X_greatest b_X_greatest 2 (some .int) ∈ cA ∧ Cond.initialized y_X_greatest.cls ∈ cA ∧ Cond.methodLink R_W 84 y_X_greatest ∈ cA ∧ Cond.instanceMethod y_X_greatest ∈ cA ∧ Cond.selects y_X_greatest.cls y_X_greatest y_X_greatest ∈ cA := ⟨wd_395, wd_1, wd_392, wd_393, wd_394⟩
theorem wv_W_87 : Cond.code y_O_greatest b_O_greatest 2 (some .int) ∈ cA ∧ Cond.initialized y_O_greatest.cls ∈ cA ∧ Cond.methodLink R_W 87 y_O_greatest ∈ cA ∧ Cond.instanceMethod y_O_greatest ∈ cA ∧ Cond.selects y_O_greatest.cls y_O_greatest y_O_greatest ∈ cA := ⟨wd_626, wd_3, wd_623, wd_624, wd_625⟩
theorem d_W_law_833 : decode code 833 = .ok (.aload_n 1, 1) := by decide +kernel
theorem d_W_law_834 : decode code 834 = .ok (.aload_n 0, 1) := by decide +kernel
theorem d_W_law_835 : decode code 835 = .ok (.iload_n 3, 1) := by decide +kernel
theorem d_W_law_836 : decode code 836 = .ok (.iconst 1, 1) := by decide +kernel
theorem d_W_law_837 : decode code 837 = .ok (.iadd, 1) := by decide +kernel
theorem d_W_law_838 : decode code 838 = .ok (.iaload, 1) := by decide +kernel
theorem d_W_law_839 : decode code 839 = .ok (.invokevirtual 84, 3) := by decide +kernel
theorem d_W_law_842 : decode code 842 = .ok (.aload_n 2, 1) := by decide +kernel
theorem d_W_law_843 : decode code 843 = .ok (.aload_n 0, 1) := by decide +kernel
theorem d_W_law_844 : decode code 844 = .ok (.iload_n 3, 1) := by decide +kernel
theorem d_W_law_845 : decode code 845 = .ok (.iconst 1, 1) := by decide +kernel
theorem d_W_law_846 : decode code 846 = .ok (.iadd, 1) := by decide +kernel
theorem d_W_law_847 : decode code 847 = .ok (.iaload, 1) := by decide +kernel
theorem d_W_law_848 : decode code 848 = .ok (.invokevirtual 87, 3) := by decide +kernel
theorem d_W_law_851 : decode code 851 = .ok (.if_icmp .eq 90, 3) := by decide +kernel
theorem d_W_law_854 : decode code 854 = .ok (.iconst 0, 1) := by decide +kernel
theorem d_W_law_855 : decode code 855 = .ok (.ireturn, 1) := by decide +kernel
set_option maxRecDepth 100000 in
set_option maxHeartbeats 4000000 in
theorem lc_15 {p : Program} {e : Env} {s : State} {m : MethodId} {below : List Frame} {meth : Method} {c : Code} (l : Launch) {b L : Nat} {xs : Nat → Int32} {D : va_G} {qx qo : Nat → Nat} (hx : p.tables.exec = Jvm.exec) (hb : c.code = code) (hml : c.maxLocals = 4) (hown : s.vm.findClass R_W = some m.cls) (hA : ∀ w ∈ cA, w.before #[Value.ref b] s = true) (hN : xN s) (hK : va_K D vwCl (vT D) s) (hX : va_X b L xs s s.heap) (hbl : b < s.heap.size) {j : Nat} (hj : 8 * j + 8 ≤ L) (hL : L ≤ 4096) {u : XS} {v : OS} (hI : IU u v) {H : Heap} {locs : List Loc} {ls : Array Slot} {cells slots : Nat} (hc : cells + 1 ≤ 600000) (hs : slots + 7 ≤ 7302250) (hl : lv_has ls 4 [(3, .int (nI (8 * j))), (2, .ref (qo 0)), (1, .ref (qx 0)), (0, .ref b)]) (hP : va_P D vwCl (xW D qx u ++ oW D qo v) H) (hD : va_D (AL s) (xW D qx u ++ oW D qo v)) (hS : va_S (AL s) s.heap H locs)
    (kk : ∀ (u2 : XS) (v2 : OS) (H2 : Heap) (locs2 : List Loc), IU u2 v2 → va_P D vwCl (xW D qx u2 ++ oW D qo v2) H2 → va_D (AL s) (xW D qx u2 ++ oW D qo v2) → va_S (AL s) s.heap H2 locs2 → W p l e room_1 s m #[Value.ref b] below meth c H2 locs2 (cells + 1) (slots + 7) (lw_Z below #[Value.ref b] s) (F0 m 941 ls [])) :
    W p l e room_1 s m #[Value.ref b] below meth c H locs cells slots (lw_Z below #[Value.ref b] s) (F0 m 833 ls []) := by
  have hbA : ¬ AL s b := Nat.not_le.mpr hbl
  have hAA : ∀ q, s.heap.size ≤ q → AL s q := fun _ h => h
  obtain ⟨n, P, k, a, z, lo, hi, B, av, al, ah, ac, pt, fd⟩ := u
  obtain ⟨n', P', k', a', kn, an, lw, s1, sd, kd, pa, wd, ao, fo, uo, ho, xo⟩ := v
  obtain ⟨⟨e1, e2, e3, e4⟩, sz, K, I⟩ := hI
  obtain rfl : n = n' := e1.symm
  obtain rfl : P = P' := e2.symm
  obtain rfl : k = k' := e3.symm
  obtain rfl : a = a' := e4.symm
  have I : INV n P k a z lo hi B av al ah ac kn an lw s1 sd kd pa wd ao fo uo ho sz K := I
  have hP : va_P D vwCl (xw D qx n P k a z lo hi B av al ah ac pt fd ++ ow D qo n P k a kn an lw s1 sd kd pa wd ao fo uo ho xo) H := hP
  have hD : va_D (AL s) (xw D qx n P k a z lo hi B av al ah ac pt fd ++ ow D qo n P k a kn an lw s1 sd kd pa wd ao fo uo ho xo) := hD
  have hn := I.1.1
  have hk := I.1.2.1
  have ha := I.1.2.2.1
  have hP4 := I.1.2.2.2.1
  have hav := I.av9
  have hao := I.ao9
  have hok := I.ok9
  have hsd := I.sd9
  have hlkp := I.2.2.2.2.2.1
  refine lv_aload_n hx hb d_W_law_833 rfl (lv_at hl 2 rfl) ?_
  refine lv_aload_n hx hb d_W_law_834 rfl (lv_at hl 3 rfl) ?_
  refine lv_iload_n hx hb d_W_law_835 rfl (lv_at hl 0 rfl) ?_
  refine lv_iconst (v := 1) hx hb d_W_law_836 (by decide) ?_
  refine lv_iadd hx hb d_W_law_837 ?_
  refine topi_to (v := nI (8 * j + 1)) (by rw [← nI_add]; rfl) ?_
  refine xs_ald hx hb hX hbl hbA hS (by omega) (by omega) d_W_law_838 ?_
  refine wVi (n := 1) (wr := ow D qo n P k a kn an lw s1 sd kd pa wd ao fo uo ho xo) (Wf := xW D qx) (rest := []) hx hb hml hown hA (c_greatest l D qx n P k a z lo hi B av al ah ac pt fd (xs (8 * j + 1)) _ hn hP4 ha hav) wv_W_84 ⟨by decide, by decide, by decide +kernel⟩ ⟨rfl, rfl, by decide, by decide⟩ rfl hl.1 ⟨by show cells + 0 ≤ 600000; omega, by show slots + 0 ≤ 7302250; omega⟩ hP hK hD hS hAA hN [0, 1, 2, 3, 4, 5, 6, 7, 8, 9] [10, 11, 12, 13, 14, 15, 16, 17, 18, 19, 20, 21] rfl rfl (by decide) (by decide) (by decide) 0 0 rfl rfl rfl (Nat.le_of_ble_eq_true rfl) d_W_law_839 (fun ra ua H locs h1 hP hD hS => ?_)
  refine W.widen (k := cells + 1) (n := slots + 7) (by omega) (by omega) ?_
  refine lv_aload_n hx hb d_W_law_842 rfl (lv_at hl 1 rfl) ?_
  refine lv_aload_n hx hb d_W_law_843 rfl (lv_at hl 3 rfl) ?_
  refine lv_iload_n hx hb d_W_law_844 rfl (lv_at hl 0 rfl) ?_
  refine lv_iconst (v := 1) hx hb d_W_law_845 (by decide) ?_
  refine lv_iadd hx hb d_W_law_846 ?_
  refine topi_to (v := nI (8 * j + 1)) (by rw [← nI_add]; rfl) ?_
  refine xs_ald hx hb hX hbl hbA hS (by omega) (by omega) d_W_law_847 ?_
  refine wVi (n := 1) (wr := xW D qx ua) (Wf := oW D qo) (rest := [.int ra]) hx hb hml hown hA (o_greatest l D qo n P k a kn an lw s1 sd kd pa wd ao fo uo ho xo (xs (8 * j + 1)) _ hn ha hao hk hok hP4 hsd hlkp) wv_W_87 ⟨by decide, by decide, by decide +kernel⟩ ⟨rfl, rfl, by decide, by decide⟩ rfl hl.1 ⟨by show cells + 1 + 0 ≤ 600000; omega, by show slots + 7 + 0 ≤ 7302250; omega⟩ hP hK hD hS hAA hN [0, 1, 2, 3, 4, 5, 6, 7, 8, 9, 10, 11] [12, 13, 14, 15, 16, 17, 18, 19, 20, 21] rfl rfl (by decide) (by decide) (by decide) 0 1 rfl rfl rfl (Nat.le_of_ble_eq_true rfl) d_W_law_848 (fun rb ub H locs h2 hP hD hS => ?_)
  obtain ⟨he, hI2⟩ := op_greatest I h1 h2
  refine lv_icmp_eq (tgt := 941) hx hb d_W_law_851 (by decide) (fun h851 => ?_) (fun h => absurd (he) h)
  exact kk ua ub _ _ hI2 hP hD hS
end
