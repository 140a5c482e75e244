section
theorem wv_W_76 : Cond.code y_X_value b_X_value 2 (some .int) ∈ cA ∧ Cond.initialized y_X_value.cls ∈ cA ∧ Cond.methodLink R_W 76 y_X_value ∈ cA ∧ Cond.instanceMethod y_X_value ∈ cA ∧ Cond.selects y_X_value.cls y_X_value y_X_value ∈ cA := ⟨wd_387, wd_1, wd_384, wd_385, wd_386⟩
theorem wv_W_79 : Cond.code y_O_value b_O_value 2 (some .int) ∈ cA ∧ Cond.initialized y_O_value.cls ∈ cA ∧ Cond.methodLink R_W 79 y_O_value ∈ cA ∧ Cond.instanceMethod y_O_value ∈ cA ∧ Cond.selects y_O_value.cls y_O_value y_O_value ∈ cA := ⟨wd_618, wd_3, wd_615, wd_616, wd_617⟩
theorem d_W_law_787 : decode code 787 = .ok (.aload_n 1, 1) := by decide +kernel
theorem d_W_law_788 : decode code 788 = .ok (.aload_n 0, 1) := by decide +kernel
theorem d_W_law_789 : decode code 789 = .ok (.iload_n 3, 1) := by decide +kernel
theorem d_W_law_790 : decode code 790 = .ok (.iconst 1, 1) := by decide +kernel
theorem d_W_law_791 : decode code 791 = .ok (.iadd, 1) := by decide +kernel
theorem d_W_law_792 : decode code 792 = .ok (.iaload, 1) := by decide +kernel
theorem d_W_law_793 : decode code 793 = .ok (.invokevirtual 76, 3) := by decide +kernel
theorem d_W_law_796 : decode code 796 = .ok (.aload_n 2, 1) := by decide +kernel
theorem d_W_law_797 : decode code 797 = .ok (.aload_n 0, 1) := by decide +kernel
theorem d_W_law_798 : decode code 798 = .ok (.iload_n 3, 1) := by decide +kernel
theorem d_W_law_799 : decode code 799 = .ok (.iconst 1, 1) := by decide +kernel
theorem d_W_law_800 : decode code 800 = .ok (.iadd, 1) := by decide +kernel
theorem d_W_law_801 : decode code 801 = .ok (.iaload, 1) := by decide +kernel
theorem d_W_law_802 : decode code 802 = .ok (.invokevirtual 79, 3) := by decide +kernel
theorem d_W_law_805 : decode code 805 = .ok (.if_icmp .eq 136, 3) := by decide +kernel
theorem d_W_law_808 : decode code 808 = .ok (.iconst 0, 1) := by decide +kernel
theorem d_W_law_809 : decode code 809 = .ok (.ireturn, 1) := by decide +kernel
set_option maxRecDepth 100000 in
set_option maxHeartbeats 4000000 in
theorem lc_13 {p : Program} {e : Env} {s : State} {m : MethodId} {below : List Frame} {meth : Method} {c : Code} (l : Launch) {b L : Nat} {xs : Nat → Int32} {D : va_G} {qx qo : Nat → Nat} (hx : p.tables.exec = Jvm.exec) (hb : c.code = code) (hml : c.maxLocals = 4) (hown : s.vm.findClass R_W = some m.cls) (hA : ∀ w ∈ cA, w.before #[Value.ref b] s = true) (hN : xN s) (hK : va_K D vwCl (vT D) s) (hX : va_X b L xs s s.heap) (hbl : b < s.heap.size) {j : Nat} (hj : 8 * j + 8 ≤ L) (hL : L ≤ 4096) {u : XS} {v : OS} (hI : IU u v) {H : Heap} {locs : List Loc} {ls : Array Slot} {cells slots : Nat} (hc : cells + 1 ≤ 600000) (hs : slots + 7 ≤ 7302250) (hl : lv_has ls 4 [(3, .int (nI (8 * j))), (2, .ref (qo 0)), (1, .ref (qx 0)), (0, .ref b)]) (hP : va_P D vwCl (xW D qx u ++ oW D qo v) H) (hD : va_D (AL s) (xW D qx u ++ oW D qo v)) (hS : va_S (AL s) s.heap H locs)
    (kk : ∀ (u2 : XS) (v2 : OS) (H2 : Heap) (locs2 : List Loc), IU u2 v2 → va_P D vwCl (xW D qx u2 ++ oW D qo v2) H2 → va_D (AL s) (xW D qx u2 ++ oW D qo v2) → va_S (AL s) s.heap H2 locs2 → W p l e room_1 s m #[Value.ref b] below meth c H2 locs2 (cells + 1) (slots + 7) (lw_Z below #[Value.ref b] s) (F0 m 941 ls [])) :
    W p l e room_1 s m #[Value.ref b] below meth c H locs cells slots (lw_Z below #[Value.ref b] s) (F0 m 787 ls []) := by
  have hbA : ¬ AL s b := Nat.not_le.mpr hbl
  have hAA : ∀ q, s.heap.size ≤ q → AL s q := fun _ h => h
  obtain ⟨n, P, k, a, z, lo, hi, B, av, al, ah, ac, pt, fd⟩ := u
  obtain ⟨n', P', k', a', kn, an, lw, s1, sd, kd, pa, wd, ao, fo, uo, ho, xo⟩ := v
  obtain ⟨⟨e1, e2, e3, e4⟩, sz, K, I⟩ := hI
  obtain rfl : n = n' := e1.symm
  obtain rfl : P = P' := e2.symm
  obtain rfl : k = k' := e3.symm
  obtain rfl : a = a' := e4.symm
  have I : INV n P k a z lo hi B av al ah ac kn an lw s1 sd kd pa wd ao fo uo ho sz K := I
  have hP : va_P D vwCl (xw D qx n P k a z lo hi B av al ah ac pt fd ++ ow D qo n P k a kn an lw s1 sd kd pa wd ao fo uo ho xo) H := hP
  have hD : va_D (AL s) (xw D qx n P k a z lo hi B av al ah ac pt fd ++ ow D qo n P k a kn an lw s1 sd kd pa wd ao fo uo ho xo) := hD
  have hn := I.1.1
  have hk := I.1.2.1
  have ha := I.1.2.2.1
  have hP4 := I.1.2.2.2.1
  have hav := I.av9
  have hao := I.ao9
  have hok := I.ok9
  have hsd := I.sd9
  have hlkp := I.2.2.2.2.2.1
  refine lv_aload_n hx hb d_W_law_787 rfl (lv_at hl 2 rfl) ?_
  refine lv_aload_n hx hb d_W_law_788 rfl (lv_at hl 3 rfl) ?_
  refine lv_iload_n hx hb d_W_law_789 rfl (lv_at hl 0 rfl) ?_
  refine lv_iconst (v := 1) hx hb d_W_law_790 (by decide) ?_
  refine lv_iadd hx hb d_W_law_791 ?_
  refine topi_to (v := nI (8 * j + 1)) (by rw [← nI_add]; rfl) ?_
  refine xs_ald hx hb hX hbl hbA hS (by omega) (by omega) d_W_law_792 ?_
  refine rV (wc := xw D qx n P k a z lo hi B av al ah ac pt fd) (n := 1) (rest := []) hx hb hml hown hA (c_value l D qx n P k a z lo hi B av al ah ac pt fd (xs (8 * j + 1)) hn) wv_W_76 ⟨by decide, by decide, by decide +kernel⟩ ⟨rfl, rfl, by decide, by decide⟩ rfl hl.1 ⟨by show cells ≤ 600000; omega, by show slots ≤ 7302250; omega⟩ (va_P.sub1 hP [0, 1, 2, 3, 4, 5, 6, 7, 8, 9] rfl) hK (va_D.sub hD [0, 1, 2, 3, 4, 5, 6, 7, 8, 9] (by decide) rfl) hN 0 0 rfl rfl rfl (Nat.le_of_ble_eq_true rfl) d_W_law_793 (fun ra h1 => ?_)
  refine lv_aload_n hx hb d_W_law_796 rfl (lv_at hl 1 rfl) ?_
  refine lv_aload_n hx hb d_W_law_797 rfl (lv_at hl 3 rfl) ?_
  refine lv_iload_n hx hb d_W_law_798 rfl (lv_at hl 0 rfl) ?_
  refine lv_iconst (v := 1) hx hb d_W_law_799 (by decide) ?_
  refine lv_iadd hx hb d_W_law_800 ?_
  refine topi_to (v := nI (8 * j + 1)) (by rw [← nI_add]; rfl) ?_
  refine xs_ald hx hb hX hbl hbA hS (by omega) (by omega) d_W_law_801 ?_
  refine rV (wc := ow D qo n P k a kn an lw s1 sd kd pa wd ao fo uo ho xo) (n := 1) (rest := [.int ra]) hx hb hml hown hA (o_value l D qo n P k a kn an lw s1 sd kd pa wd ao fo uo ho xo (xs (8 * j + 1)) hn hsd) wv_W_79 ⟨by decide, by decide, by decide +kernel⟩ ⟨rfl, rfl, by decide, by decide⟩ rfl hl.1 ⟨by show cells ≤ 600000; omega, by show slots ≤ 7302250; omega⟩ (va_P.sub1 hP [10, 11, 12, 13, 14, 15, 16, 17, 18, 19, 20, 21] rfl) hK (va_D.sub hD [10, 11, 12, 13, 14, 15, 16, 17, 18, 19, 20, 21] (by decide) rfl) hN 0 1 rfl rfl rfl (Nat.le_of_ble_eq_true rfl) d_W_law_802 (fun rb h2 => ?_)
  refine lv_icmp_eq (tgt := 941) hx hb d_W_law_805 (by decide) (fun h805 => ?_) (fun h => absurd (op_value I h1 h2) h)
  refine W.widen (k := cells + 1) (n := slots + 7) (by omega) (by omega) ?_
  exact kk _ _ _ _ (IU.of I) hP hD hS
end
