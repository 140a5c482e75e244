section
theorem wv_W_49 : Cond.code y_X_clause b_X_clause 9 (some .int) ∈ cA ∧ Cond.initialized y_X_clause.cls ∈ cA ∧ Cond.methodLink R_W 49 y_X_clause ∈ cA ∧ Cond.instanceMethod y_X_clause ∈ cA ∧ Cond.selects y_X_clause.cls y_X_clause y_X_clause ∈ cA := ⟨wd_321, wd_1, wd_318, wd_319, wd_320⟩
theorem wv_W_52 : Cond.code y_O_clause b_O_clause 10 (some .int) ∈ cA ∧ Cond.initialized y_O_clause.cls ∈ cA ∧ Cond.methodLink R_W 52 y_O_clause ∈ cA ∧ Cond.instanceMethod y_O_clause ∈ cA ∧ Cond.selects y_O_clause.cls y_O_clause y_O_clause ∈ cA := ⟨wd_534, wd_3, wd_531, wd_532, wd_533⟩
theorem d_W_law_569 : decode code 569 = .ok (.aload_n 1, 1) := by decide +kernel
theorem d_W_law_570 : decode code 570 = .ok (.aload_n 0, 1) := by decide +kernel
theorem d_W_law_571 : decode code 571 = .ok (.iload_n 3, 1) := by decide +kernel
theorem d_W_law_572 : decode code 572 = .ok (.iconst 1, 1) := by decide +kernel
theorem d_W_law_573 : decode code 573 = .ok (.iadd, 1) := by decide +kernel
theorem d_W_law_574 : decode code 574 = .ok (.iaload, 1) := by decide +kernel
theorem d_W_law_575 : decode code 575 = .ok (.aload_n 0, 1) := by decide +kernel
theorem d_W_law_576 : decode code 576 = .ok (.iload_n 3, 1) := by decide +kernel
theorem d_W_law_577 : decode code 577 = .ok (.iconst 2, 1) := by decide +kernel
theorem d_W_law_578 : decode code 578 = .ok (.iadd, 1) := by decide +kernel
theorem d_W_law_579 : decode code 579 = .ok (.iaload, 1) := by decide +kernel
theorem d_W_law_580 : decode code 580 = .ok (.aload_n 0, 1) := by decide +kernel
theorem d_W_law_581 : decode code 581 = .ok (.iload_n 3, 1) := by decide +kernel
theorem d_W_law_582 : decode code 582 = .ok (.iconst 3, 1) := by decide +kernel
theorem d_W_law_583 : decode code 583 = .ok (.iadd, 1) := by decide +kernel
theorem d_W_law_584 : decode code 584 = .ok (.iaload, 1) := by decide +kernel
theorem d_W_law_585 : decode code 585 = .ok (.aload_n 0, 1) := by decide +kernel
theorem d_W_law_586 : decode code 586 = .ok (.iload_n 3, 1) := by decide +kernel
theorem d_W_law_587 : decode code 587 = .ok (.iconst 4, 1) := by decide +kernel
theorem d_W_law_588 : decode code 588 = .ok (.iadd, 1) := by decide +kernel
theorem d_W_law_589 : decode code 589 = .ok (.iaload, 1) := by decide +kernel
theorem d_W_law_590 : decode code 590 = .ok (.aload_n 0, 1) := by decide +kernel
theorem d_W_law_591 : decode code 591 = .ok (.iload_n 3, 1) := by decide +kernel
theorem d_W_law_592 : decode code 592 = .ok (.iconst 5, 1) := by decide +kernel
theorem d_W_law_593 : decode code 593 = .ok (.iadd, 1) := by decide +kernel
theorem d_W_law_594 : decode code 594 = .ok (.iaload, 1) := by decide +kernel
theorem d_W_law_595 : decode code 595 = .ok (.aload_n 0, 1) := by decide +kernel
theorem d_W_law_596 : decode code 596 = .ok (.iload_n 3, 1) := by decide +kernel
theorem d_W_law_597 : decode code 597 = .ok (.bipush 6, 2) := by decide +kernel
theorem d_W_law_599 : decode code 599 = .ok (.iadd, 1) := by decide +kernel
theorem d_W_law_600 : decode code 600 = .ok (.iaload, 1) := by decide +kernel
theorem d_W_law_601 : decode code 601 = .ok (.aload_n 0, 1) := by decide +kernel
theorem d_W_law_602 : decode code 602 = .ok (.iload_n 3, 1) := by decide +kernel
theorem d_W_law_603 : decode code 603 = .ok (.bipush 7, 2) := by decide +kernel
theorem d_W_law_605 : decode code 605 = .ok (.iadd, 1) := by decide +kernel
theorem d_W_law_606 : decode code 606 = .ok (.iaload, 1) := by decide +kernel
theorem d_W_law_607 : decode code 607 = .ok (.invokevirtual 49, 3) := by decide +kernel
theorem d_W_law_610 : decode code 610 = .ok (.aload_n 2, 1) := by decide +kernel
theorem d_W_law_611 : decode code 611 = .ok (.aload_n 0, 1) := by decide +kernel
theorem d_W_law_612 : decode code 612 = .ok (.iload_n 3, 1) := by decide +kernel
theorem d_W_law_613 : decode code 613 = .ok (.iconst 1, 1) := by decide +kernel
theorem d_W_law_614 : decode code 614 = .ok (.iadd, 1) := by decide +kernel
theorem d_W_law_615 : decode code 615 = .ok (.iaload, 1) := by decide +kernel
theorem d_W_law_616 : decode code 616 = .ok (.aload_n 0, 1) := by decide +kernel
theorem d_W_law_617 : decode code 617 = .ok (.iload_n 3, 1) := by decide +kernel
theorem d_W_law_618 : decode code 618 = .ok (.iconst 2, 1) := by decide +kernel
theorem d_W_law_619 : decode code 619 = .ok (.iadd, 1) := by decide +kernel
theorem d_W_law_620 : decode code 620 = .ok (.iaload, 1) := by decide +kernel
theorem d_W_law_621 : decode code 621 = .ok (.aload_n 0, 1) := by decide +kernel
theorem d_W_law_622 : decode code 622 = .ok (.iload_n 3, 1) := by decide +kernel
theorem d_W_law_623 : decode code 623 = .ok (.iconst 3, 1) := by decide +kernel
theorem d_W_law_624 : decode code 624 = .ok (.iadd, 1) := by decide +kernel
theorem d_W_law_625 : decode code 625 = .ok (.iaload, 1) := by decide +kernel
theorem d_W_law_626 : decode code 626 = .ok (.aload_n 0, 1) := by decide +kernel
theorem d_W_law_627 : decode code 627 = .ok (.iload_n 3, 1) := by decide +kernel
theorem d_W_law_628 : decode code 628 = .ok (.iconst 4, 1) := by decide +kernel
theorem d_W_law_629 : decode code 629 = .ok (.iadd, 1) := by decide +kernel
theorem d_W_law_630 : decode code 630 = .ok (.iaload, 1) := by decide +kernel
theorem d_W_law_631 : decode code 631 = .ok (.aload_n 0, 1) := by decide +kernel
theorem d_W_law_632 : decode code 632 = .ok (.iload_n 3, 1) := by decide +kernel
theorem d_W_law_633 : decode code 633 = .ok (.iconst 5, 1) := by decide +kernel
theorem d_W_law_634 : decode code 634 = .ok (.iadd, 1) := by decide +kernel
theorem d_W_law_635 : decode code 635 = .ok (.iaload, 1) := by decide +kernel
theorem d_W_law_636 : decode code 636 = .ok (.aload_n 0, 1) := by decide +kernel
theorem d_W_law_637 : decode code 637 = .ok (.iload_n 3, 1) := by decide +kernel
theorem d_W_law_638 : decode code 638 = .ok (.bipush 6, 2) := by decide +kernel
theorem d_W_law_640 : decode code 640 = .ok (.iadd, 1) := by decide +kernel
theorem d_W_law_641 : decode code 641 = .ok (.iaload, 1) := by decide +kernel
theorem d_W_law_642 : decode code 642 = .ok (.aload_n 0, 1) := by decide +kernel
theorem d_W_law_643 : decode code 643 = .ok (.iload_n 3, 1) := by decide +kernel
theorem d_W_law_644 : decode code 644 = .ok (.bipush 7, 2) := by decide +kernel
theorem d_W_law_646 : decode code 646 = .ok (.iadd, 1) := by decide +kernel
theorem d_W_law_647 : decode code 647 = .ok (.iaload, 1) := by decide +kernel
theorem d_W_law_648 : decode code 648 = .ok (.invokevirtual 52, 3) := by decide +kernel
theorem d_W_law_651 : decode code 651 = .ok (.if_icmp .eq 290, 3) := by decide +kernel
theorem d_W_law_654 : decode code 654 = .ok (.iconst 0, 1) := by decide +kernel
theorem d_W_law_655 : decode code 655 = .ok (.ireturn, 1) := by decide +kernel
set_option maxRecDepth 100000 in
set_option maxHeartbeats 4000000 in
theorem lc_7 {p : Program} {e : Env} {s : State} {m : MethodId} {below : List Frame} {meth : Method} {c : Code} (l : Launch) {b L : Nat} {xs : Nat → Int32} {D : va_G} {qx qo : Nat → Nat} (hx : p.tables.exec = Jvm.exec) (hb : c.code = code) (hml : c.maxLocals = 4) (hown : s.vm.findClass R_W = some m.cls) (hA : ∀ w ∈ cA, w.before #[Value.ref b] s = true) (hN : xN s) (hK : va_K D vwCl (vT D) s) (hX : va_X b L xs s s.heap) (hbl : b < s.heap.size) {j : Nat} (hj : 8 * j + 8 ≤ L) (hL : L ≤ 4096) {u : XS} {v : OS} (hI : IU u v) {H : Heap} {locs : List Loc} {ls : Array Slot} {cells slots : Nat} (hc : cells + 1 ≤ 600000) (hs : slots + 7 ≤ 7302250) (hl : lv_has ls 4 [(3, .int (nI (8 * j))), (2, .ref (qo 0)), (1, .ref (qx 0)), (0, .ref b)]) (hP : va_P D vwCl (xW D qx u ++ oW D qo v) H) (hD : va_D (AL s) (xW D qx u ++ oW D qo v)) (hS : va_S (AL s) s.heap H locs)
    (kk : ∀ (u2 : XS) (v2 : OS) (H2 : Heap) (locs2 : List Loc), IU u2 v2 → va_P D vwCl (xW D qx u2 ++ oW D qo v2) H2 → va_D (AL s) (xW D qx u2 ++ oW D qo v2) → va_S (AL s) s.heap H2 locs2 → W p l e room_1 s m #[Value.ref b] below meth c H2 locs2 (cells + 1) (slots + 7) (lw_Z below #[Value.ref b] s) (F0 m 941 ls [])) :
    W p l e room_1 s m #[Value.ref b] below meth c H locs cells slots (lw_Z below #[Value.ref b] s) (F0 m 569 ls []) := by
  have hbA : ¬ AL s b := Nat.not_le.mpr hbl
  have hAA : ∀ q, s.heap.size ≤ q → AL s q := fun _ h => h
  obtain ⟨n, P, k, a, z, lo, hi, B, av, al, ah, ac, pt, fd⟩ := u
  obtain ⟨n', P', k', a', kn, an, lw, s1, sd, kd, pa, wd, ao, fo, uo, ho, xo⟩ := v
  obtain ⟨⟨e1, e2, e3, e4⟩, sz, K, I⟩ := hI
  obtain rfl : n = n' := e1.symm
  obtain rfl : P = P' := e2.symm
  obtain rfl : k = k' := e3.symm
  obtain rfl : a = a' := e4.symm
  have I : INV n P k a z lo hi B av al ah ac kn an lw s1 sd kd pa wd ao fo uo ho sz K := I
  have hP : va_P D vwCl (xw D qx n P k a z lo hi B av al ah ac pt fd ++ ow D qo n P k a kn an lw s1 sd kd pa wd ao fo uo ho xo) H := hP
  have hD : va_D (AL s) (xw D qx n P k a z lo hi B av al ah ac pt fd ++ ow D qo n P k a kn an lw s1 sd kd pa wd ao fo uo ho xo) := hD
  have hn := I.1.1
  have hk := I.1.2.1
  have ha := I.1.2.2.1
  have hP4 := I.1.2.2.2.1
  have hav := I.av9
  have hao := I.ao9
  have hok := I.ok9
  have hsd := I.sd9
  have hlkp := I.2.2.2.2.2.1
  refine lv_aload_n hx hb d_W_law_569 rfl (lv_at hl 2 rfl) ?_
  refine lv_aload_n hx hb d_W_law_570 rfl (lv_at hl 3 rfl) ?_
  refine lv_iload_n hx hb d_W_law_571 rfl (lv_at hl 0 rfl) ?_
  refine lv_iconst (v := 1) hx hb d_W_law_572 (by decide) ?_
  refine lv_iadd hx hb d_W_law_573 ?_
  refine topi_to (v := nI (8 * j + 1)) (by rw [← nI_add]; rfl) ?_
  refine xs_ald hx hb hX hbl hbA hS (by omega) (by omega) d_W_law_574 ?_
  refine lv_aload_n hx hb d_W_law_575 rfl (lv_at hl 3 rfl) ?_
  refine lv_iload_n hx hb d_W_law_576 rfl (lv_at hl 0 rfl) ?_
  refine lv_iconst (v := 2) hx hb d_W_law_577 (by decide) ?_
  refine lv_iadd hx hb d_W_law_578 ?_
  refine topi_to (v := nI (8 * j + 2)) (by rw [← nI_add]; rfl) ?_
  refine xs_ald hx hb hX hbl hbA hS (by omega) (by omega) d_W_law_579 ?_
  refine lv_aload_n hx hb d_W_law_580 rfl (lv_at hl 3 rfl) ?_
  refine lv_iload_n hx hb d_W_law_581 rfl (lv_at hl 0 rfl) ?_
  refine lv_iconst (v := 3) hx hb d_W_law_582 (by decide) ?_
  refine lv_iadd hx hb d_W_law_583 ?_
  refine topi_to (v := nI (8 * j + 3)) (by rw [← nI_add]; rfl) ?_
  refine xs_ald hx hb hX hbl hbA hS (by omega) (by omega) d_W_law_584 ?_
  refine lv_aload_n hx hb d_W_law_585 rfl (lv_at hl 3 rfl) ?_
  refine lv_iload_n hx hb d_W_law_586 rfl (lv_at hl 0 rfl) ?_
  refine lv_iconst (v := 4) hx hb d_W_law_587 (by decide) ?_
  refine lv_iadd hx hb d_W_law_588 ?_
  refine topi_to (v := nI (8 * j + 4)) (by rw [← nI_add]; rfl) ?_
  refine xs_ald hx hb hX hbl hbA hS (by omega) (by omega) d_W_law_589 ?_
  refine lv_aload_n hx hb d_W_law_590 rfl (lv_at hl 3 rfl) ?_
  refine lv_iload_n hx hb d_W_law_591 rfl (lv_at hl 0 rfl) ?_
  refine lv_iconst (v := 5) hx hb d_W_law_592 (by decide) ?_
  refine lv_iadd hx hb d_W_law_593 ?_
  refine topi_to (v := nI (8 * j + 5)) (by rw [← nI_add]; rfl) ?_
  refine xs_ald hx hb hX hbl hbA hS (by omega) (by omega) d_W_law_594 ?_
  refine lv_aload_n hx hb d_W_law_595 rfl (lv_at hl 3 rfl) ?_
  refine lv_iload_n hx hb d_W_law_596 rfl (lv_at hl 0 rfl) ?_
  refine lv_bipush (v := 6) hx hb d_W_law_597 (by decide) ?_
  refine lv_iadd hx hb d_W_law_599 ?_
  refine topi_to (v := nI (8 * j + 6)) (by rw [← nI_add]; rfl) ?_
  refine xs_ald hx hb hX hbl hbA hS (by omega) (by omega) d_W_law_600 ?_
  refine lv_aload_n hx hb d_W_law_601 rfl (lv_at hl 3 rfl) ?_
  refine lv_iload_n hx hb d_W_law_602 rfl (lv_at hl 0 rfl) ?_
  refine lv_bipush (v := 7) hx hb d_W_law_603 (by decide) ?_
  refine lv_iadd hx hb d_W_law_605 ?_
  refine topi_to (v := nI (8 * j + 7)) (by rw [← nI_add]; rfl) ?_
  refine xs_ald hx hb hX hbl hbA hS (by omega) (by omega) d_W_law_606 ?_
  refine wVi (n := 7) (wr := ow D qo n P k a kn an lw s1 sd kd pa wd ao fo uo ho xo) (Wf := xW D qx) (rest := []) hx hb hml hown hA (c_clause l D qx n P k a z lo hi B av al ah ac pt fd (xs (8 * j + 1)) (xs (8 * j + 2)) (xs (8 * j + 3)) (xs (8 * j + 4)) (xs (8 * j + 5)) (xs (8 * j + 6)) (xs (8 * j + 7)) _ hn hP4 hk) wv_W_49 ⟨by decide, by decide, by decide +kernel⟩ ⟨rfl, rfl, by decide, by decide⟩ rfl hl.1 ⟨by show cells + 1 ≤ 600000; omega, by show slots + 7 ≤ 7302250; omega⟩ hP hK hD hS hAA hN [0, 1, 2, 3, 4, 5, 6, 7, 8, 9] [10, 11, 12, 13, 14, 15, 16, 17, 18, 19, 20, 21] rfl rfl (by decide) (by decide) (by decide) 0 0 rfl rfl rfl (Nat.le_of_ble_eq_true rfl) d_W_law_607 (fun ra ua H locs h1 hP hD hS => ?_)
  refine W.widen (k := cells + 1) (n := slots + 7) (by omega) (by omega) ?_
  refine lv_aload_n hx hb d_W_law_610 rfl (lv_at hl 1 rfl) ?_
  refine lv_aload_n hx hb d_W_law_611 rfl (lv_at hl 3 rfl) ?_
  refine lv_iload_n hx hb d_W_law_612 rfl (lv_at hl 0 rfl) ?_
  refine lv_iconst (v := 1) hx hb d_W_law_613 (by decide) ?_
  refine lv_iadd hx hb d_W_law_614 ?_
  refine topi_to (v := nI (8 * j + 1)) (by rw [← nI_add]; rfl) ?_
  refine xs_ald hx hb hX hbl hbA hS (by omega) (by omega) d_W_law_615 ?_
  refine lv_aload_n hx hb d_W_law_616 rfl (lv_at hl 3 rfl) ?_
  refine lv_iload_n hx hb d_W_law_617 rfl (lv_at hl 0 rfl) ?_
  refine lv_iconst (v := 2) hx hb d_W_law_618 (by decide) ?_
  refine lv_iadd hx hb d_W_law_619 ?_
  refine topi_to (v := nI (8 * j + 2)) (by rw [← nI_add]; rfl) ?_
  refine xs_ald hx hb hX hbl hbA hS (by omega) (by omega) d_W_law_620 ?_
  refine lv_aload_n hx hb d_W_law_621 rfl (lv_at hl 3 rfl) ?_
  refine lv_iload_n hx hb d_W_law_622 rfl (lv_at hl 0 rfl) ?_
  refine lv_iconst (v := 3) hx hb d_W_law_623 (by decide) ?_
  refine lv_iadd hx hb d_W_law_624 ?_
  refine topi_to (v := nI (8 * j + 3)) (by rw [← nI_add]; rfl) ?_
  refine xs_ald hx hb hX hbl hbA hS (by omega) (by omega) d_W_law_625 ?_
  refine lv_aload_n hx hb d_W_law_626 rfl (lv_at hl 3 rfl) ?_
  refine lv_iload_n hx hb d_W_law_627 rfl (lv_at hl 0 rfl) ?_
  refine lv_iconst (v := 4) hx hb d_W_law_628 (by decide) ?_
  refine lv_iadd hx hb d_W_law_629 ?_
  refine topi_to (v := nI (8 * j + 4)) (by rw [← nI_add]; rfl) ?_
  refine xs_ald hx hb hX hbl hbA hS (by omega) (by omega) d_W_law_630 ?_
  refine lv_aload_n hx hb d_W_law_631 rfl (lv_at hl 3 rfl) ?_
  refine lv_iload_n hx hb d_W_law_632 rfl (lv_at hl 0 rfl) ?_
  refine lv_iconst (v := 5) hx hb d_W_law_633 (by decide) ?_
  refine lv_iadd hx hb d_W_law_634 ?_
  refine topi_to (v := nI (8 * j + 5)) (by rw [← nI_add]; rfl) ?_
  refine xs_ald hx hb hX hbl hbA hS (by omega) (by omega) d_W_law_635 ?_
  refine lv_aload_n hx hb d_W_law_636 rfl (lv_at hl 3 rfl) ?_
  refine lv_iload_n hx hb d_W_law_637 rfl (lv_at hl 0 rfl) ?_
  refine lv_bipush (v := 6) hx hb d_W_law_638 (by decide) ?_
  refine lv_iadd hx hb d_W_law_640 ?_
  refine topi_to (v := nI (8 * j + 6)) (by rw [← nI_add]; rfl) ?_
  refine xs_ald hx hb hX hbl hbA hS (by omega) (by omega) d_W_law_641 ?_
  refine lv_aload_n hx hb d_W_law_642 rfl (lv_at hl 3 rfl) ?_
  refine lv_iload_n hx hb d_W_law_643 rfl (lv_at hl 0 rfl) ?_
  refine lv_bipush (v := 7) hx hb d_W_law_644 (by decide) ?_
  refine lv_iadd hx hb d_W_law_646 ?_
  refine topi_to (v := nI (8 * j + 7)) (by rw [← nI_add]; rfl) ?_
  refine xs_ald hx hb hX hbl hbA hS (by omega) (by omega) d_W_law_647 ?_
  refine wVi (n := 7) (wr := xW D qx ua) (Wf := oW D qo) (rest := [.int ra]) hx hb hml hown hA (o_clause l D qo n P k a kn an lw s1 sd kd pa wd ao fo uo ho xo (xs (8 * j + 1)) (xs (8 * j + 2)) (xs (8 * j + 3)) (xs (8 * j + 4)) (xs (8 * j + 5)) (xs (8 * j + 6)) (xs (8 * j + 7)) _ hk) wv_W_52 ⟨by decide, by decide, by decide +kernel⟩ ⟨rfl, rfl, by decide, by decide⟩ rfl hl.1 ⟨by show cells + 1 + 0 ≤ 600000; omega, by show slots + 7 + 0 ≤ 7302250; omega⟩ hP hK hD hS hAA hN [0, 1, 2, 3, 4, 5, 6, 7, 8, 9, 10, 11] [12, 13, 14, 15, 16, 17, 18, 19, 20, 21] rfl rfl (by decide) (by decide) (by decide) 0 1 rfl rfl rfl (Nat.le_of_ble_eq_true rfl) d_W_law_648 (fun rb ub H locs h2 hP hD hS => ?_)
  obtain ⟨he, hI2⟩ := op_clause I h1 h2
  refine lv_icmp_eq (tgt := 941) hx hb d_W_law_651 (by decide) (fun h651 => ?_) (fun h => absurd (he) h)
  exact kk ua ub _ _ hI2 hP hD hS
end
