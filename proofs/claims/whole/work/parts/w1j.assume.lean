section
theorem wv_W_58 : Cond.code y_X_assume b_X_assume 4 (some .boolean) ∈ cA ∧ Cond.initialized y_X_assume.cls ∈ cA ∧ Cond.methodLink R_W 58 y_X_assume ∈ cA ∧ Cond.instanceMethod y_X_assume ∈ cA ∧ Cond.selects y_X_assume.cls y_X_assume y_X_assume ∈ cA := ⟨wd_356, wd_1, wd_353, wd_354, wd_355⟩
theorem wv_W_62 : Cond.code y_O_assume b_O_assume 4 (some .boolean) ∈ cA ∧ Cond.initialized y_O_assume.cls ∈ cA ∧ Cond.methodLink R_W 62 y_O_assume ∈ cA ∧ Cond.instanceMethod y_O_assume ∈ cA ∧ Cond.selects y_O_assume.cls y_O_assume y_O_assume ∈ cA := ⟨wd_542, wd_3, wd_539, wd_540, wd_541⟩
theorem d_W_law_669 : decode code 669 = .ok (.aload_n 1, 1) := by decide +kernel
theorem d_W_law_670 : decode code 670 = .ok (.aload_n 0, 1) := by decide +kernel
theorem d_W_law_671 : decode code 671 = .ok (.iload_n 3, 1) := by decide +kernel
theorem d_W_law_672 : decode code 672 = .ok (.iconst 1, 1) := by decide +kernel
theorem d_W_law_673 : decode code 673 = .ok (.iadd, 1) := by decide +kernel
theorem d_W_law_674 : decode code 674 = .ok (.iaload, 1) := by decide +kernel
theorem d_W_law_675 : decode code 675 = .ok (.aload_n 0, 1) := by decide +kernel
theorem d_W_law_676 : decode code 676 = .ok (.iload_n 3, 1) := by decide +kernel
theorem d_W_law_677 : decode code 677 = .ok (.iconst 2, 1) := by decide +kernel
theorem d_W_law_678 : decode code 678 = .ok (.iadd, 1) := by decide +kernel
theorem d_W_law_679 : decode code 679 = .ok (.iaload, 1) := by decide +kernel
theorem d_W_law_680 : decode code 680 = .ok (.aload_n 0, 1) := by decide +kernel
theorem d_W_law_681 : decode code 681 = .ok (.iload_n 3, 1) := by decide +kernel
theorem d_W_law_682 : decode code 682 = .ok (.iconst 3, 1) := by decide +kernel
theorem d_W_law_683 : decode code 683 = .ok (.iadd, 1) := by decide +kernel
theorem d_W_law_684 : decode code 684 = .ok (.iaload, 1) := by decide +kernel
theorem d_W_law_685 : decode code 685 = .ok (.invokevirtual 58, 3) := by decide +kernel
theorem d_W_law_688 : decode code 688 = .ok (.aload_n 2, 1) := by decide +kernel
theorem d_W_law_689 : decode code 689 = .ok (.aload_n 0, 1) := by decide +kernel
theorem d_W_law_690 : decode code 690 = .ok (.iload_n 3, 1) := by decide +kernel
theorem d_W_law_691 : decode code 691 = .ok (.iconst 1, 1) := by decide +kernel
theorem d_W_law_692 : decode code 692 = .ok (.iadd, 1) := by decide +kernel
theorem d_W_law_693 : decode code 693 = .ok (.iaload, 1) := by decide +kernel
theorem d_W_law_694 : decode code 694 = .ok (.aload_n 0, 1) := by decide +kernel
theorem d_W_law_695 : decode code 695 = .ok (.iload_n 3, 1) := by decide +kernel
theorem d_W_law_696 : decode code 696 = .ok (.iconst 2, 1) := by decide +kernel
theorem d_W_law_697 : decode code 697 = .ok (.iadd, 1) := by decide +kernel
theorem d_W_law_698 : decode code 698 = .ok (.iaload, 1) := by decide +kernel
theorem d_W_law_699 : decode code 699 = .ok (.aload_n 0, 1) := by decide +kernel
theorem d_W_law_700 : decode code 700 = .ok (.iload_n 3, 1) := by decide +kernel
theorem d_W_law_701 : decode code 701 = .ok (.iconst 3, 1) := by decide +kernel
theorem d_W_law_702 : decode code 702 = .ok (.iadd, 1) := by decide +kernel
theorem d_W_law_703 : decode code 703 = .ok (.iaload, 1) := by decide +kernel
theorem d_W_law_704 : decode code 704 = .ok (.invokevirtual 62, 3) := by decide +kernel
theorem d_W_law_707 : decode code 707 = .ok (.if_icmp .eq 234, 3) := by decide +kernel
theorem d_W_law_710 : decode code 710 = .ok (.iconst 0, 1) := by decide +kernel
theorem d_W_law_711 : decode code 711 = .ok (.ireturn, 1) := by decide +kernel
set_option maxRecDepth 100000 in
set_option maxHeartbeats 4000000 in
theorem lc_9 {p : Program} {e : Env} {s : State} {m : MethodId} {below : List Frame} {meth : Method} {c : Code} (l : Launch) {b L : Nat} {xs : Nat → Int32} {D : va_G} {qx qo : Nat → Nat} (hx : p.tables.exec = Jvm.exec) (hb : c.code = code) (hml : c.maxLocals = 4) (hown : s.vm.findClass R_W = some m.cls) (hA : ∀ w ∈ cA, w.before #[Value.ref b] s = true) (hN : xN s) (hK : va_K D vwCl (vT D) s) (hX : va_X b L xs s s.heap) (hbl : b < s.heap.size) {j : Nat} (hj : 8 * j + 8 ≤ L) (hL : L ≤ 4096) {u : XS} {v : OS} (hI : IU u v) {H : Heap} {locs : List Loc} {ls : Array Slot} {cells slots : Nat} (hc : cells + 1 ≤ 600000) (hs : slots + 7 ≤ 7302250) (hl : lv_has ls 4 [(3, .int (nI (8 * j))), (2, .ref (qo 0)), (1, .ref (qx 0)), (0, .ref b)]) (hP : va_P D vwCl (xW D qx u ++ oW D qo v) H) (hD : va_D (AL s) (xW D qx u ++ oW D qo v)) (hS : va_S (AL s) s.heap H locs)
    (kk : ∀ (u2 : XS) (v2 : OS) (H2 : Heap) (locs2 : List Loc), IU u2 v2 → va_P D vwCl (xW D qx u2 ++ oW D qo v2) H2 → va_D (AL s) (xW D qx u2 ++ oW D qo v2) → va_S (AL s) s.heap H2 locs2 → W p l e room_1 s m #[Value.ref b] below meth c H2 locs2 (cells + 1) (slots + 7) (lw_Z below #[Value.ref b] s) (F0 m 941 ls [])) :
    W p l e room_1 s m #[Value.ref b] below meth c H locs cells slots (lw_Z below #[Value.ref b] s) (F0 m 669 ls []) := by
  have hbA : ¬ AL s b := Nat.not_le.mpr hbl
  have hAA : ∀ q, s.heap.size ≤ q → AL s q := fun _ h => h
  obtain ⟨n, P, k, a, z, lo, hi, B, av, al, ah, ac, pt, fd⟩ := u
  obtain ⟨n', P', k', a', kn, an, lw, s1, sd, kd, pa, wd, ao, fo, uo, ho, xo⟩ := v
  obtain ⟨⟨e1, e2, e3, e4⟩, sz, K, I⟩ := hI
  obtain rfl : n = n' := e1.symm
  obtain rfl : P = P' := e2.symm
  obtain rfl : k = k' := e3.symm
  obtain rfl : a = a' := e4.symm
  have I : INV n P k a z lo hi B av al ah ac kn an lw s1 sd kd pa wd ao fo uo ho sz K := I
  have hP : va_P D vwCl (xw D qx n P k a z lo hi B av al ah ac pt fd ++ ow D qo n P k a kn an lw s1 sd kd pa wd ao fo uo ho xo) H := hP
  have hD : va_D (AL s) (xw D qx n P k a z lo hi B av al ah ac pt fd ++ ow D qo n P k a kn an lw s1 sd kd pa wd ao fo uo ho xo) := hD
  have hn := I.1.1
  have hk := I.1.2.1
  have ha := I.1.2.2.1
  have hP4 := I.1.2.2.2.1
  have hav := I.av9
  have hao := I.ao9
  have hok := I.ok9
  have hsd := I.sd9
  have hlkp := I.2.2.2.2.2.1
  refine lv_aload_n hx hb d_W_law_669 rfl (lv_at hl 2 rfl) ?_
  refine lv_aload_n hx hb d_W_law_670 rfl (lv_at hl 3 rfl) ?_
  refine lv_iload_n hx hb d_W_law_671 rfl (lv_at hl 0 rfl) ?_
  refine lv_iconst (v := 1) hx hb d_W_law_672 (by decide) ?_
  refine lv_iadd hx hb d_W_law_673 ?_
  refine topi_to (v := nI (8 * j + 1)) (by rw [← nI_add]; rfl) ?_
  refine xs_ald hx hb hX hbl hbA hS (by omega) (by omega) d_W_law_674 ?_
  refine lv_aload_n hx hb d_W_law_675 rfl (lv_at hl 3 rfl) ?_
  refine lv_iload_n hx hb d_W_law_676 rfl (lv_at hl 0 rfl) ?_
  refine lv_iconst (v := 2) hx hb d_W_law_677 (by decide) ?_
  refine lv_iadd hx hb d_W_law_678 ?_
  refine topi_to (v := nI (8 * j + 2)) (by rw [← nI_add]; rfl) ?_
  refine xs_ald hx hb hX hbl hbA hS (by omega) (by omega) d_W_law_679 ?_
  refine lv_aload_n hx hb d_W_law_680 rfl (lv_at hl 3 rfl) ?_
  refine lv_iload_n hx hb d_W_law_681 rfl (lv_at hl 0 rfl) ?_
  refine lv_iconst (v := 3) hx hb d_W_law_682 (by decide) ?_
  refine lv_iadd hx hb d_W_law_683 ?_
  refine topi_to (v := nI (8 * j + 3)) (by rw [← nI_add]; rfl) ?_
  refine xs_ald hx hb hX hbl hbA hS (by omega) (by omega) d_W_law_684 ?_
  refine wVi (n := 3) (wr := ow D qo n P k a kn an lw s1 sd kd pa wd ao fo uo ho xo) (Wf := xW D qx) (rest := []) hx hb hml hown hA (c_assume l D qx n P k a z lo hi B av al ah ac pt fd (xs (8 * j + 1)) (xs (8 * j + 2)) (xs (8 * j + 3)) _ ha) wv_W_58 ⟨by decide, by decide, by decide +kernel⟩ ⟨rfl, rfl, by decide, by decide⟩ rfl hl.1 ⟨by show cells + 0 ≤ 600000; omega, by show slots + 0 ≤ 7302250; omega⟩ hP hK hD hS hAA hN [0, 1, 2, 3, 4, 5, 6, 7, 8, 9] [10, 11, 12, 13, 14, 15, 16, 17, 18, 19, 20, 21] rfl rfl (by decide) (by decide) (by decide) 0 0 rfl rfl rfl (Nat.le_of_ble_eq_true rfl) d_W_law_685 (fun ra ua H locs h1 hP hD hS => ?_)
  refine W.widen (k := cells + 1) (n := slots + 7) (by omega) (by omega) ?_
  refine lv_aload_n hx hb d_W_law_688 rfl (lv_at hl 1 rfl) ?_
  refine lv_aload_n hx hb d_W_law_689 rfl (lv_at hl 3 rfl) ?_
  refine lv_iload_n hx hb d_W_law_690 rfl (lv_at hl 0 rfl) ?_
  refine lv_iconst (v := 1) hx hb d_W_law_691 (by decide) ?_
  refine lv_iadd hx hb d_W_law_692 ?_
  refine topi_to (v := nI (8 * j + 1)) (by rw [← nI_add]; rfl) ?_
  refine xs_ald hx hb hX hbl hbA hS (by omega) (by omega) d_W_law_693 ?_
  refine lv_aload_n hx hb d_W_law_694 rfl (lv_at hl 3 rfl) ?_
  refine lv_iload_n hx hb d_W_law_695 rfl (lv_at hl 0 rfl) ?_
  refine lv_iconst (v := 2) hx hb d_W_law_696 (by decide) ?_
  refine lv_iadd hx hb d_W_law_697 ?_
  refine topi_to (v := nI (8 * j + 2)) (by rw [← nI_add]; rfl) ?_
  refine xs_ald hx hb hX hbl hbA hS (by omega) (by omega) d_W_law_698 ?_
  refine lv_aload_n hx hb d_W_law_699 rfl (lv_at hl 3 rfl) ?_
  refine lv_iload_n hx hb d_W_law_700 rfl (lv_at hl 0 rfl) ?_
  refine lv_iconst (v := 3) hx hb d_W_law_701 (by decide) ?_
  refine lv_iadd hx hb d_W_law_702 ?_
  refine topi_to (v := nI (8 * j + 3)) (by rw [← nI_add]; rfl) ?_
  refine xs_ald hx hb hX hbl hbA hS (by omega) (by omega) d_W_law_703 ?_
  refine wVi (n := 3) (wr := xW D qx ua) (Wf := oW D qo) (rest := [.int ra]) hx hb hml hown hA (o_assume l D qo n P k a kn an lw s1 sd kd pa wd ao fo uo ho xo (xs (8 * j + 1)) (xs (8 * j + 2)) (xs (8 * j + 3)) _ ha) wv_W_62 ⟨by decide, by decide, by decide +kernel⟩ ⟨rfl, rfl, by decide, by decide⟩ rfl hl.1 ⟨by show cells + 1 + 0 ≤ 600000; omega, by show slots + 7 + 0 ≤ 7302250; omega⟩ hP hK hD hS hAA hN [0, 1, 2, 3, 4, 5, 6, 7, 8, 9, 10, 11] [12, 13, 14, 15, 16, 17, 18, 19, 20, 21] rfl rfl (by decide) (by decide) (by decide) 0 1 rfl rfl rfl (Nat.le_of_ble_eq_true rfl) d_W_law_704 (fun rb ub H locs h2 hP hD hS => ?_)
  obtain ⟨he, hI2⟩ := op_assume I h1 h2
  refine lv_icmp_eq (tgt := 941) hx hb d_W_law_707 (by decide) (fun h707 => ?_) (fun h => absurd (he) h)
  exact kk ua ub _ _ hI2 hP hD hS
end
