section
theorem d_O_assume_0 : decode b_O_assume 0 = .ok (.aload_n 0, 1) := by decide +kernel
theorem d_O_assume_1 : decode b_O_assume 1 = .ok (.iload_n 1, 1) := by decide +kernel
theorem d_O_assume_2 : decode b_O_assume 2 = .ok (.invokevirtual 59, 3) := by decide +kernel
theorem d_O_assume_5 : decode b_O_assume 5 = .ok (.ifCond .eq 12, 3) := by decide +kernel
theorem d_O_assume_8 : decode b_O_assume 8 = .ok (.aload_n 0, 1) := by decide +kernel
theorem d_O_assume_9 : decode b_O_assume 9 = .ok (.getfield 87, 3) := by decide +kernel
theorem d_O_assume_12 : decode b_O_assume 12 = .ok (.bipush 8, 2) := by decide +kernel
theorem d_O_assume_14 : decode b_O_assume 14 = .ok (.if_icmp .ne 5, 3) := by decide +kernel
theorem d_O_assume_17 : decode b_O_assume 17 = .ok (.iconst 0, 1) := by decide +kernel
theorem d_O_assume_18 : decode b_O_assume 18 = .ok (.ireturn, 1) := by decide +kernel
theorem d_O_assume_19 : decode b_O_assume 19 = .ok (.aload_n 0, 1) := by decide +kernel
theorem d_O_assume_20 : decode b_O_assume 20 = .ok (.getfield 33, 3) := by decide +kernel
theorem d_O_assume_23 : decode b_O_assume 23 = .ok (.aload_n 0, 1) := by decide +kernel
theorem d_O_assume_24 : decode b_O_assume 24 = .ok (.getfield 87, 3) := by decide +kernel
theorem d_O_assume_27 : decode b_O_assume 27 = .ok (.iload_n 1, 1) := by decide +kernel
theorem d_O_assume_28 : decode b_O_assume 28 = .ok (.iastore, 1) := by decide +kernel
theorem d_O_assume_29 : decode b_O_assume 29 = .ok (.aload_n 0, 1) := by decide +kernel
theorem d_O_assume_30 : decode b_O_assume 30 = .ok (.getfield 36, 3) := by decide +kernel
theorem d_O_assume_33 : decode b_O_assume 33 = .ok (.aload_n 0, 1) := by decide +kernel
theorem d_O_assume_34 : decode b_O_assume 34 = .ok (.getfield 87, 3) := by decide +kernel
theorem d_O_assume_37 : decode b_O_assume 37 = .ok (.iload_n 2, 1) := by decide +kernel
theorem d_O_assume_38 : decode b_O_assume 38 = .ok (.iastore, 1) := by decide +kernel
theorem d_O_assume_39 : decode b_O_assume 39 = .ok (.aload_n 0, 1) := by decide +kernel
theorem d_O_assume_40 : decode b_O_assume 40 = .ok (.getfield 39, 3) := by decide +kernel
theorem d_O_assume_43 : decode b_O_assume 43 = .ok (.aload_n 0, 1) := by decide +kernel
theorem d_O_assume_44 : decode b_O_assume 44 = .ok (.getfield 87, 3) := by decide +kernel
theorem d_O_assume_47 : decode b_O_assume 47 = .ok (.iload_n 3, 1) := by decide +kernel
theorem d_O_assume_48 : decode b_O_assume 48 = .ok (.iastore, 1) := by decide +kernel
theorem d_O_assume_49 : decode b_O_assume 49 = .ok (.aload_n 0, 1) := by decide +kernel
theorem d_O_assume_50 : decode b_O_assume 50 = .ok (.dup, 1) := by decide +kernel
theorem d_O_assume_51 : decode b_O_assume 51 = .ok (.getfield 87, 3) := by decide +kernel
theorem d_O_assume_54 : decode b_O_assume 54 = .ok (.iconst 1, 1) := by decide +kernel
theorem d_O_assume_55 : decode b_O_assume 55 = .ok (.iadd, 1) := by decide +kernel
theorem d_O_assume_56 : decode b_O_assume 56 = .ok (.putfield 87, 3) := by decide +kernel
theorem d_O_assume_59 : decode b_O_assume 59 = .ok (.aload_n 0, 1) := by decide +kernel
theorem d_O_assume_60 : decode b_O_assume 60 = .ok (.invokevirtual 63, 3) := by decide +kernel
theorem d_O_assume_63 : decode b_O_assume 63 = .ok (.iconst 1, 1) := by decide +kernel
theorem d_O_assume_64 : decode b_O_assume 64 = .ok (.ireturn, 1) := by decide +kernel
set_option maxRecDepth 100000 in
set_option maxHeartbeats 4000000 in
theorem o_assume (l : Launch) (D : va_G) (q : Nat → Nat) (n P rw a : Nat) (kn an : Int32) (lw s1 sd kd pa : Nat → Int32) (wd : Nat → Int64) (ao fo uo ho xo : Nat → Int32) (i x y : Int32) (sz : Nat) (ha : a ≤ 8) : Met l y_O_assume (wsm y_O_assume b_O_assume 4 (some .boolean)) { frames := 1, cells := 0, slots := 0, locals := 21 } (va_Pc [.ref (q 0), .int i, .int x, .int y] (fun U => U.heap.size = sz ∧ cPre D (ow D q n P rw a kn an lw s1 sd kd pa wd ao fo uo ho xo) U)) (va_Qi (fun (r : Int32) (u : OS) => (¬ (iv n i ∧ a < 8) ∧ r = 0 ∧ u = (n, P, rw, a, kn, an, lw, s1, sd, kd, pa, wd, ao, fo, uo, ho, xo)) ∨ (iv n i ∧ a < 8 ∧ r = 1 ∧ u = (n, P, rw, a + 1, 0, -1, lw, s1, sd, kd, pa, wd, upd ao a i, upd fo a x, upd uo a y, ho, xo))) (fun u t => xB D (oW D q u) (va_A (ow D q n P rw a kn an lw s1 sd kd pa wd ao fo uo ho xo) sz) t) (va_A (ow D q n P rw a kn an lw s1 sd kd pa wd ao fo uo ho xo) sz)) 0 0 (va_A (ow D q n P rw a kn an lw s1 sd kd pa wd ao fo uo ho xo) sz) := by
  refine met_W (Qf := fun A => va_Qi (fun (r : Int32) (u : OS) => (¬ (iv n i ∧ a < 8) ∧ r = 0 ∧ u = (n, P, rw, a, kn, an, lw, s1, sd, kd, pa, wd, ao, fo, uo, ho, xo)) ∨ (iv n i ∧ a < 8 ∧ r = 1 ∧ u = (n, P, rw, a + 1, 0, -1, lw, s1, sd, kd, pa, wd, upd ao a i, upd fo a x, upd uo a y, ho, xo))) (fun u t => xB D (oW D q u) A t) A) (by decide) (Nat.le_of_ble_eq_true rfl) ?_
  intro p e s m below meth c ls A hx hb hr hlocks hml hown hin hA hP hK hD hN hl hS hAA
  have hown : s.vm.findClass R_O = some m.cls := hown
  have hl : lv_has ls 4 [(0, .ref (q 0)), (1, .int i), (2, .int x), (3, .int y)] := hl
  refine lv_aload_n hx hb d_O_assume_0 rfl (lv_at hl 0 rfl) ?_
  refine lv_iload_n hx hb d_O_assume_1 rfl (lv_at hl 1 rfl) ?_
  refine rV (n := 1) (rest := []) hx hb hml hown hA (o_isVariable l D q n P rw a kn an lw s1 sd kd pa wd ao fo uo ho xo i) wv_O_59 ⟨by decide, by decide, by decide +kernel⟩ ⟨rfl, rfl, by decide, by decide⟩ rfl hl.1 ⟨Nat.le_of_ble_eq_true rfl, Nat.le_of_ble_eq_true rfl⟩ hP hK hD hN 0 1 rfl rfl rfl (Nat.le_of_ble_eq_true rfl) d_O_assume_2 (fun r hr9 => ?_)
  rcases zb_c hr9 with ⟨rfl, h2⟩ | ⟨rfl, h2⟩
  · skip
    refine lv_if_eq (tgt := 17) hx hb d_O_assume_5 (by decide) (fun h => absurd h (by decide)) (fun _ => ?_)
    refine lv_aload_n hx hb d_O_assume_8 rfl (lv_at hl 0 rfl) ?_
    refine va_get (D := D) (ci := 1) (v := .int (nI a)) (C := R_O) (T := T_O) (N := 17) hx hb hA inA_O hown hK hP 0 rfl rfl 9 (by decide) (hA _ wd_431) (fun _ h9 => h9) rfl d_O_assume_9 ?_
    refine lv_bipush (v := 8) hx hb d_O_assume_12 (by decide) ?_
    refine lv_icmp_ne (tgt := 19) hx hb d_O_assume_14 (by decide) (fun h14 => ?_) (fun h14 => ?_)
    · skip
      refine lv_aload_n hx hb d_O_assume_19 rfl (lv_at hl 0 rfl) ?_
      refine va_get (D := D) (ci := 1) (v := .ref (q 7)) (C := R_O) (T := T_O) (N := 17) hx hb hA inA_O hown hK hP 0 rfl rfl 10 (by decide) (hA _ wd_432) (fun _ h9 => h9) rfl d_O_assume_20 ?_
      refine lv_aload_n hx hb d_O_assume_23 rfl (lv_at hl 0 rfl) ?_
      refine va_get (D := D) (ci := 1) (v := .int (nI a)) (C := R_O) (T := T_O) (N := 17) hx hb hA inA_O hown hK hP 0 rfl rfl 9 (by decide) (hA _ wd_431) (fun _ h9 => h9) rfl d_O_assume_24 ?_
      refine lv_iload_n hx hb d_O_assume_27 rfl (lv_at hl 1 rfl) ?_
      refine xi_ast hx hb hK hP hD hS 7 rfl (ne8 h14 ha) (by decide) d_O_assume_28 (fun H locs hP hD hS => ?_)
      have hP : va_P D vwCl (ow D q n P rw a kn an lw s1 sd kd pa wd (upd ao a i) fo uo ho xo) H := hP
      have hD : va_D A (ow D q n P rw a kn an lw s1 sd kd pa wd (upd ao a i) fo uo ho xo) := hD
      refine lv_aload_n hx hb d_O_assume_29 rfl (lv_at hl 0 rfl) ?_
      refine va_get (D := D) (ci := 1) (v := .ref (q 8)) (C := R_O) (T := T_O) (N := 17) hx hb hA inA_O hown hK hP 0 rfl rfl 11 (by decide) (hA _ wd_433) (fun _ h9 => h9) rfl d_O_assume_30 ?_
      refine lv_aload_n hx hb d_O_assume_33 rfl (lv_at hl 0 rfl) ?_
      refine va_get (D := D) (ci := 1) (v := .int (nI a)) (C := R_O) (T := T_O) (N := 17) hx hb hA inA_O hown hK hP 0 rfl rfl 9 (by decide) (hA _ wd_431) (fun _ h9 => h9) rfl d_O_assume_34 ?_
      refine lv_iload_n hx hb d_O_assume_37 rfl (lv_at hl 2 rfl) ?_
      refine xi_ast hx hb hK hP hD hS 8 rfl (ne8 h14 ha) (by decide) d_O_assume_38 (fun H locs hP hD hS => ?_)
      have hP : va_P D vwCl (ow D q n P rw a kn an lw s1 sd kd pa wd (upd ao a i) (upd fo a x) uo ho xo) H := hP
      have hD : va_D A (ow D q n P rw a kn an lw s1 sd kd pa wd (upd ao a i) (upd fo a x) uo ho xo) := hD
      refine lv_aload_n hx hb d_O_assume_39 rfl (lv_at hl 0 rfl) ?_
      refine va_get (D := D) (ci := 1) (v := .ref (q 9)) (C := R_O) (T := T_O) (N := 17) hx hb hA inA_O hown hK hP 0 rfl rfl 12 (by decide) (hA _ wd_434) (fun _ h9 => h9) rfl d_O_assume_40 ?_
      refine lv_aload_n hx hb d_O_assume_43 rfl (lv_at hl 0 rfl) ?_
      refine va_get (D := D) (ci := 1) (v := .int (nI a)) (C := R_O) (T := T_O) (N := 17) hx hb hA inA_O hown hK hP 0 rfl rfl 9 (by decide) (hA _ wd_431) (fun _ h9 => h9) rfl d_O_assume_44 ?_
      refine lv_iload_n hx hb d_O_assume_47 rfl (lv_at hl 3 rfl) ?_
      refine xi_ast hx hb hK hP hD hS 9 rfl (ne8 h14 ha) (by decide) d_O_assume_48 (fun H locs hP hD hS => ?_)
      have hP : va_P D vwCl (ow D q n P rw a kn an lw s1 sd kd pa wd (upd ao a i) (upd fo a x) (upd uo a y) ho xo) H := hP
      have hD : va_D A (ow D q n P rw a kn an lw s1 sd kd pa wd (upd ao a i) (upd fo a x) (upd uo a y) ho xo) := hD
      refine lv_aload_n hx hb d_O_assume_49 rfl (lv_at hl 0 rfl) ?_
      refine lv_dup hx hb d_O_assume_50 rfl ?_
      refine va_get (D := D) (ci := 1) (v := .int (nI a)) (C := R_O) (T := T_O) (N := 17) hx hb hA inA_O hown hK hP 0 rfl rfl 9 (by decide) (hA _ wd_431) (fun _ h9 => h9) rfl d_O_assume_51 ?_
      refine lv_iconst (v := 1) hx hb d_O_assume_54 (by decide) ?_
      refine lv_iadd hx hb d_O_assume_55 ?_
      refine topi_to (v := nI (a + 1)) ((nI_succ a).symm) ?_
      refine va_put (D := D) (ci := 1) (v := .int (nI (a + 1))) (ty := .int) (C := R_O) (T := T_O) (N := 17) hx hb hA inA_O ty_O tok_O nm_O hown hK hP hD hS 0 rfl rfl 9 (by decide) (hA _ wd_431) (fun _ h9 => h9) rfl (by decide +kernel) (by first | rfl | decide) (by first | rfl | decide) (Nat.le_of_ble_eq_true rfl) d_O_assume_56 (fun H locs hP hD hS => ?_)
      have hP : va_P D vwCl (ow D q n P rw (a + 1) kn an lw s1 sd kd pa wd (upd ao a i) (upd fo a x) (upd uo a y) ho xo) H := hP
      have hD : va_D A (ow D q n P rw (a + 1) kn an lw s1 sd kd pa wd (upd ao a i) (upd fo a x) (upd uo a y) ho xo) := hD
      refine lv_aload_n hx hb d_O_assume_59 rfl (lv_at hl 0 rfl) ?_
      refine wVv (n := 0) (wr := []) (Wf := oW D q) (rest := []) hx hb hml hown hA (o_changed l D q n P rw (a + 1) kn an lw s1 sd kd pa wd (upd ao a i) (upd fo a x) (upd uo a y) ho xo _) wv_O_63 ⟨by decide, by decide, by decide +kernel⟩ ⟨rfl, rfl, by decide, by decide⟩ rfl hl.1 ⟨Nat.le_of_ble_eq_true rfl, Nat.le_of_ble_eq_true rfl⟩ hP hK hD hS hAA hN [0, 1, 2, 3, 4, 5, 6, 7, 8, 9, 10, 11] [] rfl rfl (by decide) (by decide) (by decide) 0 1 rfl rfl rfl (Nat.le_of_ble_eq_true rfl) d_O_assume_60 (fun u H locs hu hP hD hS => ?_)
      subst hu
      have hP : va_P D vwCl (ow D q n P rw (a + 1) 0 (-1) lw s1 sd kd pa wd (upd ao a i) (upd fo a x) (upd uo a y) ho xo) H := hP
      have hD : va_D A (ow D q n P rw (a + 1) 0 (-1) lw s1 sd kd pa wd (upd ao a i) (upd fo a x) (upd uo a y) ho xo) := hD
      refine lv_iconst (v := 1) hx hb d_O_assume_63 (by decide) ?_
      exact eWz (n, P, rw, (a + 1), 0, -1, lw, s1, sd, kd, pa, wd, upd ao a i, upd fo a x, upd uo a y, ho, xo) hx hb hr hlocks (by first | rfl | decide) hP hK hD hS (Or.inr ⟨h2, ne8 h14 ha, rfl, rfl⟩) d_O_assume_64
    · skip
      refine lv_iconst (v := 0) hx hb d_O_assume_17 (by decide) ?_
      exact eWz (n, P, rw, a, kn, an, lw, s1, sd, kd, pa, wd, ao, fo, uo, ho, xo) hx hb hr hlocks (by first | rfl | decide) hP hK hD hS (Or.inl ⟨fun h => absurd (nI_ne (b := 8) h14 (by omega) (by decide)) (by omega), rfl, rfl⟩) d_O_assume_18
  · skip
    refine lv_if_eq (tgt := 17) hx hb d_O_assume_5 (by decide) (fun _ => ?_) (fun h => absurd h (by decide))
    refine lv_iconst (v := 0) hx hb d_O_assume_17 (by decide) ?_
    exact eWz (n, P, rw, a, kn, an, lw, s1, sd, kd, pa, wd, ao, fo, uo, ho, xo) hx hb hr hlocks (by first | rfl | decide) hP hK hD hS (Or.inl ⟨fun h => h2 h.1, rfl, rfl⟩) d_O_assume_18
end
