section
theorem wv_W_71 : Cond.code y_X_best b_X_best 3 (some .boolean) ∈ cA ∧ Cond.initialized y_X_best.cls ∈ cA ∧ Cond.methodLink R_W 71 y_X_best ∈ cA ∧ Cond.instanceMethod y_X_best ∈ cA ∧ Cond.selects y_X_best.cls y_X_best y_X_best ∈ cA := ⟨wd_383, wd_1, wd_380, wd_381, wd_382⟩
theorem wv_W_75 : Cond.code y_O_best b_O_best 4 (some .boolean) ∈ cA ∧ Cond.initialized y_O_best.cls ∈ cA ∧ Cond.methodLink R_W 75 y_O_best ∈ cA ∧ Cond.instanceMethod y_O_best ∈ cA ∧ Cond.selects y_O_best.cls y_O_best y_O_best ∈ cA := ⟨wd_610, wd_3, wd_607, wd_608, wd_609⟩
theorem d_W_law_738 : decode code 738 = .ok (.aload_n 1, 1) := by decide +kernel
theorem d_W_law_739 : decode code 739 = .ok (.aload_n 0, 1) := by decide +kernel
theorem d_W_law_740 : decode code 740 = .ok (.iload_n 3, 1) := by decide +kernel
theorem d_W_law_741 : decode code 741 = .ok (.iconst 1, 1) := by decide +kernel
theorem d_W_law_742 : decode code 742 = .ok (.iadd, 1) := by decide +kernel
theorem d_W_law_743 : decode code 743 = .ok (.iaload, 1) := by decide +kernel
theorem d_W_law_744 : decode code 744 = .ok (.aload_n 0, 1) := by decide +kernel
theorem d_W_law_745 : decode code 745 = .ok (.iload_n 3, 1) := by decide +kernel
theorem d_W_law_746 : decode code 746 = .ok (.iconst 2, 1) := by decide +kernel
theorem d_W_law_747 : decode code 747 = .ok (.iadd, 1) := by decide +kernel
theorem d_W_law_748 : decode code 748 = .ok (.iaload, 1) := by decide +kernel
theorem d_W_law_749 : decode code 749 = .ok (.ifCond .eq 7, 3) := by decide +kernel
theorem d_W_law_752 : decode code 752 = .ok (.iconst 1, 1) := by decide +kernel
theorem d_W_law_753 : decode code 753 = .ok (.goto 4, 3) := by decide +kernel
theorem d_W_law_756 : decode code 756 = .ok (.iconst 0, 1) := by decide +kernel
theorem d_W_law_757 : decode code 757 = .ok (.invokevirtual 71, 3) := by decide +kernel
theorem d_W_law_760 : decode code 760 = .ok (.aload_n 2, 1) := by decide +kernel
theorem d_W_law_761 : decode code 761 = .ok (.aload_n 0, 1) := by decide +kernel
theorem d_W_law_762 : decode code 762 = .ok (.iload_n 3, 1) := by decide +kernel
theorem d_W_law_763 : decode code 763 = .ok (.iconst 1, 1) := by decide +kernel
theorem d_W_law_764 : decode code 764 = .ok (.iadd, 1) := by decide +kernel
theorem d_W_law_765 : decode code 765 = .ok (.iaload, 1) := by decide +kernel
theorem d_W_law_766 : decode code 766 = .ok (.aload_n 0, 1) := by decide +kernel
theorem d_W_law_767 : decode code 767 = .ok (.iload_n 3, 1) := by decide +kernel
theorem d_W_law_768 : decode code 768 = .ok (.iconst 2, 1) := by decide +kernel
theorem d_W_law_769 : decode code 769 = .ok (.iadd, 1) := by decide +kernel
theorem d_W_law_770 : decode code 770 = .ok (.iaload, 1) := by decide +kernel
theorem d_W_law_771 : decode code 771 = .ok (.ifCond .eq 7, 3) := by decide +kernel
theorem d_W_law_774 : decode code 774 = .ok (.iconst 1, 1) := by decide +kernel
theorem d_W_law_775 : decode code 775 = .ok (.goto 4, 3) := by decide +kernel
theorem d_W_law_778 : decode code 778 = .ok (.iconst 0, 1) := by decide +kernel
theorem d_W_law_779 : decode code 779 = .ok (.invokevirtual 75, 3) := by decide +kernel
theorem d_W_law_782 : decode code 782 = .ok (.if_icmp .eq 159, 3) := by decide +kernel
theorem d_W_law_785 : decode code 785 = .ok (.iconst 0, 1) := by decide +kernel
theorem d_W_law_786 : decode code 786 = .ok (.ireturn, 1) := by decide +kernel
set_option maxRecDepth 100000 in
set_option maxHeartbeats 4000000 in
theorem lc_12 {p : Program} {e : Env} {s : State} {m : MethodId} {below : List Frame} {meth : Method} {c : Code} (l : Launch) {b L : Nat} {xs : Nat → Int32} {D : va_G} {qx qo : Nat → Nat} (hx : p.tables.exec = Jvm.exec) (hb : c.code = code) (hml : c.maxLocals = 4) (hown : s.vm.findClass R_W = some m.cls) (hA : ∀ w ∈ cA, w.before #[Value.ref b] s = true) (hN : xN s) (hK : va_K D vwCl (vT D) s) (hX : va_X b L xs s s.heap) (hbl : b < s.heap.size) {j : Nat} (hj : 8 * j + 8 ≤ L) (hL : L ≤ 4096) {u : XS} {v : OS} (hI : IU u v) {H : Heap} {locs : List Loc} {ls : Array Slot} {cells slots : Nat} (hc : cells + 1 ≤ 600000) (hs : slots + 7 ≤ 7302250) (hl : lv_has ls 4 [(3, .int (nI (8 * j))), (2, .ref (qo 0)), (1, .ref (qx 0)), (0, .ref b)]) (hP : va_P D vwCl (xW D qx u ++ oW D qo v) H) (hD : va_D (AL s) (xW D qx u ++ oW D qo v)) (hS : va_S (AL s) s.heap H locs)
    (kk : ∀ (u2 : XS) (v2 : OS) (H2 : Heap) (locs2 : List Loc), IU u2 v2 → va_P D vwCl (xW D qx u2 ++ oW D qo v2) H2 → va_D (AL s) (xW D qx u2 ++ oW D qo v2) → va_S (AL s) s.heap H2 locs2 → W p l e room_1 s m #[Value.ref b] below meth c H2 locs2 (cells + 1) (slots + 7) (lw_Z below #[Value.ref b] s) (F0 m 941 ls [])) :
    W p l e room_1 s m #[Value.ref b] below meth c H locs cells slots (lw_Z below #[Value.ref b] s) (F0 m 738 ls []) := by
  have hbA : ¬ AL s b := Nat.not_le.mpr hbl
  have hAA : ∀ q, s.heap.size ≤ q → AL s q := fun _ h => h
  obtain ⟨n, P, k, a, z, lo, hi, B, av, al, ah, ac, pt, fd⟩ := u
  obtain ⟨n', P', k', a', kn, an, lw, s1, sd, kd, pa, wd, ao, fo, uo, ho, xo⟩ := v
  obtain ⟨⟨e1, e2, e3, e4⟩, sz, K, I⟩ := hI
  obtain rfl : n = n' := e1.symm
  obtain rfl : P = P' := e2.symm
  obtain rfl : k = k' := e3.symm
  obtain rfl : a = a' := e4.symm
  have I : INV n P k a z lo hi B av al ah ac kn an lw s1 sd kd pa wd ao fo uo ho sz K := I
  have hP : va_P D vwCl (xw D qx n P k a z lo hi B av al ah ac pt fd ++ ow D qo n P k a kn an lw s1 sd kd pa wd ao fo uo ho xo) H := hP
  have hD : va_D (AL s) (xw D qx n P k a z lo hi B av al ah ac pt fd ++ ow D qo n P k a kn an lw s1 sd kd pa wd ao fo uo ho xo) := hD
  have hn := I.1.1
  have hk := I.1.2.1
  have ha := I.1.2.2.1
  have hP4 := I.1.2.2.2.1
  have hav := I.av9
  have hao := I.ao9
  have hok := I.ok9
  have hsd := I.sd9
  have hlkp := I.2.2.2.2.2.1
  refine lv_aload_n hx hb d_W_law_738 rfl (lv_at hl 2 rfl) ?_
  refine lv_aload_n hx hb d_W_law_739 rfl (lv_at hl 3 rfl) ?_
  refine lv_iload_n hx hb d_W_law_740 rfl (lv_at hl 0 rfl) ?_
  refine lv_iconst (v := 1) hx hb d_W_law_741 (by decide) ?_
  refine lv_iadd hx hb d_W_law_742 ?_
  refine topi_to (v := nI (8 * j + 1)) (by rw [← nI_add]; rfl) ?_
  refine xs_ald hx hb hX hbl hbA hS (by omega) (by omega) d_W_law_743 ?_
  refine lv_aload_n hx hb d_W_law_744 rfl (lv_at hl 3 rfl) ?_
  refine lv_iload_n hx hb d_W_law_745 rfl (lv_at hl 0 rfl) ?_
  refine lv_iconst (v := 2) hx hb d_W_law_746 (by decide) ?_
  refine lv_iadd hx hb d_W_law_747 ?_
  refine topi_to (v := nI (8 * j + 2)) (by rw [← nI_add]; rfl) ?_
  refine xs_ald hx hb hX hbl hbA hS (by omega) (by omega) d_W_law_748 ?_
  refine lv_if_eq (tgt := 756) hx hb d_W_law_749 (by decide) (fun h749 => ?_) (fun h749 => ?_)
  · skip
    refine lv_iconst (v := 0) hx hb d_W_law_756 (by decide) ?_
    refine wVi (n := 2) (wr := ow D qo n P k a kn an lw s1 sd kd pa wd ao fo uo ho xo) (Wf := xW D qx) (rest := []) hx hb hml hown hA (c_best l D qx n P k a z lo hi B av al ah ac pt fd (xs (8 * j + 1)) 0 1 _ hn hP4 ha hav (Or.inl ⟨rfl, rfl⟩)) wv_W_71 ⟨by decide, by decide, by decide +kernel⟩ ⟨rfl, rfl, by decide, by decide⟩ rfl hl.1 ⟨by show cells + 0 ≤ 600000; omega, by show slots + 0 ≤ 7302250; omega⟩ hP hK hD hS hAA hN [0, 1, 2, 3, 4, 5, 6, 7, 8, 9] [10, 11, 12, 13, 14, 15, 16, 17, 18, 19, 20, 21] rfl rfl (by decide) (by decide) (by decide) 0 0 rfl rfl rfl (Nat.le_of_ble_eq_true rfl) d_W_law_757 (fun ra ua H locs h1 hP hD hS => ?_)
    refine W.widen (k := cells + 1) (n := slots + 7) (by omega) (by omega) ?_
    refine lv_aload_n hx hb d_W_law_760 rfl (lv_at hl 1 rfl) ?_
    refine lv_aload_n hx hb d_W_law_761 rfl (lv_at hl 3 rfl) ?_
    refine lv_iload_n hx hb d_W_law_762 rfl (lv_at hl 0 rfl) ?_
    refine lv_iconst (v := 1) hx hb d_W_law_763 (by decide) ?_
    refine lv_iadd hx hb d_W_law_764 ?_
    refine topi_to (v := nI (8 * j + 1)) (by rw [← nI_add]; rfl) ?_
    refine xs_ald hx hb hX hbl hbA hS (by omega) (by omega) d_W_law_765 ?_
    refine lv_aload_n hx hb d_W_law_766 rfl (lv_at hl 3 rfl) ?_
    refine lv_iload_n hx hb d_W_law_767 rfl (lv_at hl 0 rfl) ?_
    refine lv_iconst (v := 2) hx hb d_W_law_768 (by decide) ?_
    refine lv_iadd hx hb d_W_law_769 ?_
    refine topi_to (v := nI (8 * j + 2)) (by rw [← nI_add]; rfl) ?_
    refine xs_ald hx hb hX hbl hbA hS (by omega) (by omega) d_W_law_770 ?_
    refine lv_if_eq (tgt := 778) hx hb d_W_law_771 (by decide) (fun h771 => ?_) (fun h => absurd (h749) h)
    refine lv_iconst (v := 0) hx hb d_W_law_778 (by decide) ?_
    refine wVi (n := 2) (wr := xW D qx ua) (Wf := oW D qo) (rest := [.int ra]) hx hb hml hown hA (o_best l D qo n P k a kn an lw s1 sd kd pa wd ao fo uo ho xo (xs (8 * j + 1)) 0 _ hn ha hao hk hok hP4 hsd hlkp) wv_W_75 ⟨by decide, by decide, by decide +kernel⟩ ⟨rfl, rfl, by decide, by decide⟩ rfl hl.1 ⟨by show cells + 1 + 0 ≤ 600000; omega, by show slots + 7 + 0 ≤ 7302250; omega⟩ hP hK hD hS hAA hN [0, 1, 2, 3, 4, 5, 6, 7, 8, 9, 10, 11] [12, 13, 14, 15, 16, 17, 18, 19, 20, 21] rfl rfl (by decide) (by decide) (by decide) 0 1 rfl rfl rfl (Nat.le_of_ble_eq_true rfl) d_W_law_779 (fun rb ub H locs h2 hP hD hS => ?_)
    obtain ⟨he, hI2⟩ := op_best I (Or.inl ⟨rfl, rfl⟩) h1 h2
    refine lv_icmp_eq (tgt := 941) hx hb d_W_law_782 (by decide) (fun h782 => ?_) (fun h => absurd (he) h)
    exact kk ua ub _ _ hI2 hP hD hS
  · skip
    refine lv_iconst (v := 1) hx hb d_W_law_752 (by decide) ?_
    refine lv_goto (tgt := 757) hx hb d_W_law_753 (by decide) ?_
    refine wVi (n := 2) (wr := ow D qo n P k a kn an lw s1 sd kd pa wd ao fo uo ho xo) (Wf := xW D qx) (rest := []) hx hb hml hown hA (c_best l D qx n P k a z lo hi B av al ah ac pt fd (xs (8 * j + 1)) 1 (-1) _ hn hP4 ha hav (Or.inr ⟨rfl, rfl⟩)) wv_W_71 ⟨by decide, by decide, by decide +kernel⟩ ⟨rfl, rfl, by decide, by decide⟩ rfl hl.1 ⟨by show cells + 0 ≤ 600000; omega, by show slots + 0 ≤ 7302250; omega⟩ hP hK hD hS hAA hN [0, 1, 2, 3, 4, 5, 6, 7, 8, 9] [10, 11, 12, 13, 14, 15, 16, 17, 18, 19, 20, 21] rfl rfl (by decide) (by decide) (by decide) 0 0 rfl rfl rfl (Nat.le_of_ble_eq_true rfl) d_W_law_757 (fun ra ua H locs h1 hP hD hS => ?_)
    refine W.widen (k := cells + 1) (n := slots + 7) (by omega) (by omega) ?_
    refine lv_aload_n hx hb d_W_law_760 rfl (lv_at hl 1 rfl) ?_
    refine lv_aload_n hx hb d_W_law_761 rfl (lv_at hl 3 rfl) ?_
    refine lv_iload_n hx hb d_W_law_762 rfl (lv_at hl 0 rfl) ?_
    refine lv_iconst (v := 1) hx hb d_W_law_763 (by decide) ?_
    refine lv_iadd hx hb d_W_law_764 ?_
    refine topi_to (v := nI (8 * j + 1)) (by rw [← nI_add]; rfl) ?_
    refine xs_ald hx hb hX hbl hbA hS (by omega) (by omega) d_W_law_765 ?_
    refine lv_aload_n hx hb d_W_law_766 rfl (lv_at hl 3 rfl) ?_
    refine lv_iload_n hx hb d_W_law_767 rfl (lv_at hl 0 rfl) ?_
    refine lv_iconst (v := 2) hx hb d_W_law_768 (by decide) ?_
    refine lv_iadd hx hb d_W_law_769 ?_
    refine topi_to (v := nI (8 * j + 2)) (by rw [← nI_add]; rfl) ?_
    refine xs_ald hx hb hX hbl hbA hS (by omega) (by omega) d_W_law_770 ?_
    refine lv_if_eq (tgt := 778) hx hb d_W_law_771 (by decide) (fun h => absurd h (h749)) (fun h771 => ?_)
    refine lv_iconst (v := 1) hx hb d_W_law_774 (by decide) ?_
    refine lv_goto (tgt := 779) hx hb d_W_law_775 (by decide) ?_
    refine wVi (n := 2) (wr := xW D qx ua) (Wf := oW D qo) (rest := [.int ra]) hx hb hml hown hA (o_best l D qo n P k a kn an lw s1 sd kd pa wd ao fo uo ho xo (xs (8 * j + 1)) 1 _ hn ha hao hk hok hP4 hsd hlkp) wv_W_75 ⟨by decide, by decide, by decide +kernel⟩ ⟨rfl, rfl, by decide, by decide⟩ rfl hl.1 ⟨by show cells + 1 + 0 ≤ 600000; omega, by show slots + 7 + 0 ≤ 7302250; omega⟩ hP hK hD hS hAA hN [0, 1, 2, 3, 4, 5, 6, 7, 8, 9, 10, 11] [12, 13, 14, 15, 16, 17, 18, 19, 20, 21] rfl rfl (by decide) (by decide) (by decide) 0 1 rfl rfl rfl (Nat.le_of_ble_eq_true rfl) d_W_law_779 (fun rb ub H locs h2 hP hD hS => ?_)
    obtain ⟨he, hI2⟩ := op_best I (Or.inr ⟨rfl, rfl⟩) h1 h2
    refine lv_icmp_eq (tgt := 941) hx hb d_W_law_782 (by decide) (fun h782 => ?_) (fun h => absurd (he) h)
    exact kk ua ub _ _ hI2 hP hD hS
end
