section
theorem wv_W_102 : Cond.code y_X_assumptions b_X_assumptions 1 (some .int) ∈ cA ∧ Cond.initialized y_X_assumptions.cls ∈ cA ∧ Cond.methodLink R_W 102 y_X_assumptions ∈ cA ∧ Cond.instanceMethod y_X_assumptions ∈ cA ∧ Cond.selects y_X_assumptions.cls y_X_assumptions y_X_assumptions ∈ cA := ⟨wd_411, wd_1, wd_408, wd_409, wd_410⟩
theorem wv_W_105 : Cond.code y_O_assumptions b_O_assumptions 1 (some .int) ∈ cA ∧ Cond.initialized y_O_assumptions.cls ∈ cA ∧ Cond.methodLink R_W 105 y_O_assumptions ∈ cA ∧ Cond.instanceMethod y_O_assumptions ∈ cA ∧ Cond.selects y_O_assumptions.cls y_O_assumptions y_O_assumptions ∈ cA := ⟨wd_642, wd_3, wd_639, wd_640, wd_641⟩
theorem d_W_law_915 : decode code 915 = .ok (.aload_n 1, 1) := by decide +kernel
theorem d_W_law_916 : decode code 916 = .ok (.invokevirtual 102, 3) := by decide +kernel
theorem d_W_law_919 : decode code 919 = .ok (.aload_n 2, 1) := by decide +kernel
theorem d_W_law_920 : decode code 920 = .ok (.invokevirtual 105, 3) := by decide +kernel
theorem d_W_law_923 : decode code 923 = .ok (.if_icmp .eq 18, 3) := by decide +kernel
theorem d_W_law_926 : decode code 926 = .ok (.iconst 0, 1) := by decide +kernel
theorem d_W_law_927 : decode code 927 = .ok (.ireturn, 1) := by decide +kernel
set_option maxRecDepth 100000 in
set_option maxHeartbeats 4000000 in
theorem lc_19 {p : Program} {e : Env} {s : State} {m : MethodId} {below : List Frame} {meth : Method} {c : Code} (l : Launch) {b L : Nat} {xs : Nat → Int32} {D : va_G} {qx qo : Nat → Nat} (hx : p.tables.exec = Jvm.exec) (hb : c.code = code) (hml : c.maxLocals = 4) (hown : s.vm.findClass R_W = some m.cls) (hA : ∀ w ∈ cA, w.before #[Value.ref b] s = true) (hN : xN s) (hK : va_K D vwCl (vT D) s) (hX : va_X b L xs s s.heap) (hbl : b < s.heap.size) {j : Nat} (hj : 8 * j + 8 ≤ L) (hL : L ≤ 4096) {u : XS} {v : OS} (hI : IU u v) {H : Heap} {locs : List Loc} {ls : Array Slot} {cells slots : Nat} (hc : cells + 1 ≤ 600000) (hs : slots + 7 ≤ 7302250) (hl : lv_has ls 4 [(3, .int (nI (8 * j))), (2, .ref (qo 0)), (1, .ref (qx 0)), (0, .ref b)]) (hP : va_P D vwCl (xW D qx u ++ oW D qo v) H) (hD : va_D (AL s) (xW D qx u ++ oW D qo v)) (hS : va_S (AL s) s.heap H locs)
    (kk : ∀ (u2 : XS) (v2 : OS) (H2 : Heap) (locs2 : List Loc), IU u2 v2 → va_P D vwCl (xW D qx u2 ++ oW D qo v2) H2 → va_D (AL s) (xW D qx u2 ++ oW D qo v2) → va_S (AL s) s.heap H2 locs2 → W p l e room_1 s m #[Value.ref b] below meth c H2 locs2 (cells + 1) (slots + 7) (lw_Z below #[Value.ref b] s) (F0 m 941 ls [])) :
    W p l e room_1 s m #[Value.ref b] below meth c H locs cells slots (lw_Z below #[Value.ref b] s) (F0 m 915 ls []) := by
  have hbA : ¬ AL s b := Nat.not_le.mpr hbl
  have hAA : ∀ q, s.heap.size ≤ q → AL s q := fun _ h => h
  obtain ⟨n, P, k, a, z, lo, hi, B, av, al, ah, ac, pt, fd⟩ := u
  obtain ⟨n', P', k', a', kn, an, lw, s1, sd, kd, pa, wd, ao, fo, uo, ho, xo⟩ := v
  obtain ⟨⟨e1, e2, e3, e4⟩, sz, K, I⟩ := hI
  obtain rfl : n = n' := e1.symm
  obtain rfl : P = P' := e2.symm
  obtain rfl : k = k' := e3.symm
  obtain rfl : a = a' := e4.symm
  have I : INV n P k a z lo hi B av al ah ac kn an lw s1 sd kd pa wd ao fo uo ho sz K := I
  have hP : va_P D vwCl (xw D qx n P k a z lo hi B av al ah ac pt fd ++ ow D qo n P k a kn an lw s1 sd kd pa wd ao fo uo ho xo) H := hP
  have hD : va_D (AL s) (xw D qx n P k a z lo hi B av al ah ac pt fd ++ ow D qo n P k a kn an lw s1 sd kd pa wd ao fo uo ho xo) := hD
  have hn := I.1.1
  have hk := I.1.2.1
  have ha := I.1.2.2.1
  have hP4 := I.1.2.2.2.1
  have hav := I.av9
  have hao := I.ao9
  have hok := I.ok9
  have hsd := I.sd9
  have hlkp := I.2.2.2.2.2.1
  refine lv_aload_n hx hb d_W_law_915 rfl (lv_at hl 2 rfl) ?_
  refine rV (wc := xw D qx n P k a z lo hi B av al ah ac pt fd) (n := 0) (rest := []) hx hb hml hown hA (c_assumptions l D qx n P k a z lo hi B av al ah ac pt fd ) wv_W_102 ⟨by decide, by decide, by decide +kernel⟩ ⟨rfl, rfl, by decide, by decide⟩ rfl hl.1 ⟨by show cells ≤ 600000; omega, by show slots ≤ 7302250; omega⟩ (va_P.sub1 hP [0, 1, 2, 3, 4, 5, 6, 7, 8, 9] rfl) hK (va_D.sub hD [0, 1, 2, 3, 4, 5, 6, 7, 8, 9] (by decide) rfl) hN 0 0 rfl rfl rfl (Nat.le_of_ble_eq_true rfl) d_W_law_916 (fun ra h1 => ?_)
  refine lv_aload_n hx hb d_W_law_919 rfl (lv_at hl 1 rfl) ?_
  refine rV (wc := ow D qo n P k a kn an lw s1 sd kd pa wd ao fo uo ho xo) (n := 0) (rest := [.int ra]) hx hb hml hown hA (o_assumptions l D qo n P k a kn an lw s1 sd kd pa wd ao fo uo ho xo ) wv_W_105 ⟨by decide, by decide, by decide +kernel⟩ ⟨rfl, rfl, by decide, by decide⟩ rfl hl.1 ⟨by show cells ≤ 600000; omega, by show slots ≤ 7302250; omega⟩ (va_P.sub1 hP [10, 11, 12, 13, 14, 15, 16, 17, 18, 19, 20, 21] rfl) hK (va_D.sub hD [10, 11, 12, 13, 14, 15, 16, 17, 18, 19, 20, 21] (by decide) rfl) hN 0 1 rfl rfl rfl (Nat.le_of_ble_eq_true rfl) d_W_law_920 (fun rb h2 => ?_)
  refine lv_icmp_eq (tgt := 941) hx hb d_W_law_923 (by decide) (fun h923 => ?_) (fun h => absurd (h1.trans h2.symm) h)
  refine W.widen (k := cells + 1) (n := slots + 7) (by omega) (by omega) ?_
  exact kk _ _ _ _ (IU.of I) hP hD hS
end
