section
theorem d_O_add_0 : decode b_O_add 0 = .ok (.aload_n 0, 1) := by decide +kernel
theorem d_O_add_1 : decode b_O_add 1 = .ok (.getfield 66, 3) := by decide +kernel
theorem d_O_add_4 : decode b_O_add 4 = .ok (.bipush 12, 2) := by decide +kernel
theorem d_O_add_6 : decode b_O_add 6 = .ok (.if_icmp .ne 6, 3) := by decide +kernel
theorem d_O_add_9 : decode b_O_add 9 = .ok (.bipush (-2), 2) := by decide +kernel
theorem d_O_add_11 : decode b_O_add 11 = .ok (.ireturn, 1) := by decide +kernel
theorem d_O_add_12 : decode b_O_add 12 = .ok (.aload_n 0, 1) := by decide +kernel
theorem d_O_add_13 : decode b_O_add 13 = .ok (.getfield 23, 3) := by decide +kernel
theorem d_O_add_16 : decode b_O_add 16 = .ok (.aload_n 0, 1) := by decide +kernel
theorem d_O_add_17 : decode b_O_add 17 = .ok (.getfield 66, 3) := by decide +kernel
theorem d_O_add_20 : decode b_O_add 20 = .ok (.iload_n 1, 1) := by decide +kernel
theorem d_O_add_21 : decode b_O_add 21 = .ok (.iastore, 1) := by decide +kernel
theorem d_O_add_22 : decode b_O_add 22 = .ok (.aload_n 0, 1) := by decide +kernel
theorem d_O_add_23 : decode b_O_add 23 = .ok (.getfield 29, 3) := by decide +kernel
theorem d_O_add_26 : decode b_O_add 26 = .ok (.iconst 2, 1) := by decide +kernel
theorem d_O_add_27 : decode b_O_add 27 = .ok (.aload_n 0, 1) := by decide +kernel
theorem d_O_add_28 : decode b_O_add 28 = .ok (.getfield 66, 3) := by decide +kernel
theorem d_O_add_31 : decode b_O_add 31 = .ok (.imul, 1) := by decide +kernel
theorem d_O_add_32 : decode b_O_add 32 = .ok (.lload_n 2, 1) := by decide +kernel
theorem d_O_add_33 : decode b_O_add 33 = .ok (.lastore, 1) := by decide +kernel
theorem d_O_add_34 : decode b_O_add 34 = .ok (.aload_n 0, 1) := by decide +kernel
theorem d_O_add_35 : decode b_O_add 35 = .ok (.getfield 29, 3) := by decide +kernel
theorem d_O_add_38 : decode b_O_add 38 = .ok (.iconst 2, 1) := by decide +kernel
theorem d_O_add_39 : decode b_O_add 39 = .ok (.aload_n 0, 1) := by decide +kernel
theorem d_O_add_40 : decode b_O_add 40 = .ok (.getfield 66, 3) := by decide +kernel
theorem d_O_add_43 : decode b_O_add 43 = .ok (.imul, 1) := by decide +kernel
theorem d_O_add_44 : decode b_O_add 44 = .ok (.iconst 1, 1) := by decide +kernel
theorem d_O_add_45 : decode b_O_add 45 = .ok (.iadd, 1) := by decide +kernel
theorem d_O_add_46 : decode b_O_add 46 = .ok (.lload 4, 2) := by decide +kernel
theorem d_O_add_48 : decode b_O_add 48 = .ok (.lastore, 1) := by decide +kernel
theorem d_O_add_49 : decode b_O_add 49 = .ok (.iconst 0, 1) := by decide +kernel
theorem d_O_add_50 : decode b_O_add 50 = .ok (.istore 6, 2) := by decide +kernel
theorem d_O_add_52 : decode b_O_add 52 = .ok (.iload 6, 2) := by decide +kernel
theorem d_O_add_54 : decode b_O_add 54 = .ok (.bipush 7, 2) := by decide +kernel
theorem d_O_add_56 : decode b_O_add 56 = .ok (.if_icmp .ge 25, 3) := by decide +kernel
theorem d_O_add_59 : decode b_O_add 59 = .ok (.aload_n 0, 1) := by decide +kernel
theorem d_O_add_60 : decode b_O_add 60 = .ok (.getfield 26, 3) := by decide +kernel
theorem d_O_add_63 : decode b_O_add 63 = .ok (.bipush 7, 2) := by decide +kernel
theorem d_O_add_65 : decode b_O_add 65 = .ok (.aload_n 0, 1) := by decide +kernel
theorem d_O_add_66 : decode b_O_add 66 = .ok (.getfield 66, 3) := by decide +kernel
theorem d_O_add_69 : decode b_O_add 69 = .ok (.imul, 1) := by decide +kernel
theorem d_O_add_70 : decode b_O_add 70 = .ok (.iload 6, 2) := by decide +kernel
theorem d_O_add_72 : decode b_O_add 72 = .ok (.iadd, 1) := by decide +kernel
theorem d_O_add_73 : decode b_O_add 73 = .ok (.iconst 0, 1) := by decide +kernel
theorem d_O_add_74 : decode b_O_add 74 = .ok (.iastore, 1) := by decide +kernel
theorem d_O_add_75 : decode b_O_add 75 = .ok (.iinc 6 1, 3) := by decide +kernel
theorem d_O_add_78 : decode b_O_add 78 = .ok (.goto (-26), 3) := by decide +kernel
theorem d_O_add_81 : decode b_O_add 81 = .ok (.aload_n 0, 1) := by decide +kernel
theorem d_O_add_82 : decode b_O_add 82 = .ok (.dup, 1) := by decide +kernel
theorem d_O_add_83 : decode b_O_add 83 = .ok (.getfield 66, 3) := by decide +kernel
theorem d_O_add_86 : decode b_O_add 86 = .ok (.iconst 1, 1) := by decide +kernel
theorem d_O_add_87 : decode b_O_add 87 = .ok (.iadd, 1) := by decide +kernel
theorem d_O_add_88 : decode b_O_add 88 = .ok (.putfield 66, 3) := by decide +kernel
theorem d_O_add_91 : decode b_O_add 91 = .ok (.aload_n 0, 1) := by decide +kernel
theorem d_O_add_92 : decode b_O_add 92 = .ok (.invokevirtual 63, 3) := by decide +kernel
theorem d_O_add_95 : decode b_O_add 95 = .ok (.aload_n 0, 1) := by decide +kernel
theorem d_O_add_96 : decode b_O_add 96 = .ok (.getfield 66, 3) := by decide +kernel
theorem d_O_add_99 : decode b_O_add 99 = .ok (.iconst 1, 1) := by decide +kernel
theorem d_O_add_100 : decode b_O_add 100 = .ok (.isub, 1) := by decide +kernel
theorem d_O_add_101 : decode b_O_add 101 = .ok (.ireturn, 1) := by decide +kernel
set_option maxRecDepth 100000 in
set_option maxHeartbeats 4000000 in
theorem o_add (l : Launch) (D : va_G) (q : Nat → Nat) (n P rw a : Nat) (kn an : Int32) (lw s1 sd kd pa : Nat → Int32) (wd : Nat → Int64) (ao fo uo ho xo : Nat → Int32) (wh : Int32) (w0 w1 : Int64) (sz : Nat) (hrw : rw ≤ 12) : Met l y_O_add (wsm y_O_add b_O_add 7 (some .int)) { frames := 1, cells := 0, slots := 0, locals := 20 } (va_Pc [.ref (q 0), .int wh, .long w0, .long w1] (fun U => U.heap.size = sz ∧ cPre D (ow D q n P rw a kn an lw s1 sd kd pa wd ao fo uo ho xo) U)) (va_Qi (fun (r : Int32) (u : OS) => (¬ rw < 12 ∧ r = -2 ∧ u = (n, P, rw, a, kn, an, lw, s1, sd, kd, pa, wd, ao, fo, uo, ho, xo)) ∨ (rw < 12 ∧ r = nI rw ∧ u = (n, P, rw + 1, a, 0, -1, lw, s1, sd, upd kd rw wh, clr7 pa rw, vp_updL (vp_updL wd (2 * rw) w0) (2 * rw + 1) w1, ao, fo, uo, ho, xo))) (fun u t => xB D (oW D q u) (va_A (ow D q n P rw a kn an lw s1 sd kd pa wd ao fo uo ho xo) sz) t) (va_A (ow D q n P rw a kn an lw s1 sd kd pa wd ao fo uo ho xo) sz)) 0 0 (va_A (ow D q n P rw a kn an lw s1 sd kd pa wd ao fo uo ho xo) sz) := by
  refine met_W (Qf := fun A => va_Qi (fun (r : Int32) (u : OS) => (¬ rw < 12 ∧ r = -2 ∧ u = (n, P, rw, a, kn, an, lw, s1, sd, kd, pa, wd, ao, fo, uo, ho, xo)) ∨ (rw < 12 ∧ r = nI rw ∧ u = (n, P, rw + 1, a, 0, -1, lw, s1, sd, upd kd rw wh, clr7 pa rw, vp_updL (vp_updL wd (2 * rw) w0) (2 * rw + 1) w1, ao, fo, uo, ho, xo))) (fun u t => xB D (oW D q u) A t) A) (by decide) (Nat.le_of_ble_eq_true rfl) ?_
  intro p e s m below meth c ls A hx hb hr hlocks hml hown hin hA hP hK hD hN hl hS hAA
  have hown : s.vm.findClass R_O = some m.cls := hown
  have hl : lv_has ls 7 [(0, .ref (q 0)), (1, .int wh), (2, .long w0), (4, .long w1)] := hl
  refine lv_aload_n hx hb d_O_add_0 rfl (lv_at hl 0 rfl) ?_
  refine va_get (D := D) (ci := 1) (v := .int (nI rw)) (C := R_O) (T := T_O) (N := 17) hx hb hA inA_O hown hK hP 0 rfl rfl 5 (by decide) (hA _ wd_427) (fun _ h9 => h9) rfl d_O_add_1 ?_
  refine lv_bipush (v := 12) hx hb d_O_add_4 (by decide) ?_
  refine lv_icmp_ne (tgt := 12) hx hb d_O_add_6 (by decide) (fun h6 => ?_) (fun h6 => ?_)
  · skip
    refine lv_aload_n hx hb d_O_add_12 rfl (lv_at hl 0 rfl) ?_
    refine va_get (D := D) (ci := 1) (v := .ref (q 4)) (C := R_O) (T := T_O) (N := 17) hx hb hA inA_O hown hK hP 0 rfl rfl 6 (by decide) (hA _ wd_428) (fun _ h9 => h9) rfl d_O_add_13 ?_
    refine lv_aload_n hx hb d_O_add_16 rfl (lv_at hl 0 rfl) ?_
    refine va_get (D := D) (ci := 1) (v := .int (nI rw)) (C := R_O) (T := T_O) (N := 17) hx hb hA inA_O hown hK hP 0 rfl rfl 5 (by decide) (hA _ wd_427) (fun _ h9 => h9) rfl d_O_add_17 ?_
    refine lv_iload_n hx hb d_O_add_20 rfl (lv_at hl 1 rfl) ?_
    refine xi_ast hx hb hK hP hD hS 4 rfl (ne12 h6 hrw) (by decide) d_O_add_21 (fun H locs hP hD hS => ?_)
    have hP : va_P D vwCl (ow D q n P rw a kn an lw s1 sd (upd kd rw wh) pa wd ao fo uo ho xo) H := hP
    have hD : va_D A (ow D q n P rw a kn an lw s1 sd (upd kd rw wh) pa wd ao fo uo ho xo) := hD
    refine lv_aload_n hx hb d_O_add_22 rfl (lv_at hl 0 rfl) ?_
    refine va_get (D := D) (ci := 1) (v := .ref (q 6)) (C := R_O) (T := T_O) (N := 17) hx hb hA inA_O hown hK hP 0 rfl rfl 8 (by decide) (hA _ wd_430) (fun _ h9 => h9) rfl d_O_add_23 ?_
    refine lv_iconst (v := 2) hx hb d_O_add_26 (by decide) ?_
    refine lv_aload_n hx hb d_O_add_27 rfl (lv_at hl 0 rfl) ?_
    refine va_get (D := D) (ci := 1) (v := .int (nI rw)) (C := R_O) (T := T_O) (N := 17) hx hb hA inA_O hown hK hP 0 rfl rfl 5 (by decide) (hA _ wd_427) (fun _ h9 => h9) rfl d_O_add_28 ?_
    refine lv_imul hx hb d_O_add_31 ?_
    refine topi_to (v := nI (2 * rw)) (by rw [← pk_mul]; rfl) ?_
    refine lv_lload_n hx hb d_O_add_32 rfl (lv_at hl 2 rfl) ?_
    refine xl_ast hx hb hK hP hD hS 6 rfl (by have := ne12 h6 hrw; omega) (by decide) d_O_add_33 (fun H locs hP hD hS => ?_)
    have hP : va_P D vwCl (ow D q n P rw a kn an lw s1 sd (upd kd rw wh) pa (vp_updL wd (2 * rw) w0) ao fo uo ho xo) H := hP
    have hD : va_D A (ow D q n P rw a kn an lw s1 sd (upd kd rw wh) pa (vp_updL wd (2 * rw) w0) ao fo uo ho xo) := hD
    refine lv_aload_n hx hb d_O_add_34 rfl (lv_at hl 0 rfl) ?_
    refine va_get (D := D) (ci := 1) (v := .ref (q 6)) (C := R_O) (T := T_O) (N := 17) hx hb hA inA_O hown hK hP 0 rfl rfl 8 (by decide) (hA _ wd_430) (fun _ h9 => h9) rfl d_O_add_35 ?_
    refine lv_iconst (v := 2) hx hb d_O_add_38 (by decide) ?_
    refine lv_aload_n hx hb d_O_add_39 rfl (lv_at hl 0 rfl) ?_
    refine va_get (D := D) (ci := 1) (v := .int (nI rw)) (C := R_O) (T := T_O) (N := 17) hx hb hA inA_O hown hK hP 0 rfl rfl 5 (by decide) (hA _ wd_427) (fun _ h9 => h9) rfl d_O_add_40 ?_
    refine lv_imul hx hb d_O_add_43 ?_
    refine lv_iconst (v := 1) hx hb d_O_add_44 (by decide) ?_
    refine lv_iadd hx hb d_O_add_45 ?_
    refine topi_to (v := nI (2 * rw + 1)) (by rw [← nI_add, ← pk_mul]; rfl) ?_
    refine lv_lload hx hb d_O_add_46 (lv_at hl 3 rfl) ?_
    refine xl_ast hx hb hK hP hD hS 6 rfl (by have := ne12 h6 hrw; omega) (by decide) d_O_add_48 (fun H locs hP hD hS => ?_)
    have hP : va_P D vwCl (ow D q n P rw a kn an lw s1 sd (upd kd rw wh) pa (vp_updL (vp_updL wd (2 * rw) w0) (2 * rw + 1) w1) ao fo uo ho xo) H := hP
    have hD : va_D A (ow D q n P rw a kn an lw s1 sd (upd kd rw wh) pa (vp_updL (vp_updL wd (2 * rw) w0) (2 * rw + 1) w1) ao fo uo ho xo) := hD
    refine lv_iconst (v := 0) hx hb d_O_add_49 (by decide) ?_
    refine lv_istore hx hb d_O_add_50 hl (by decide) rfl (fun ls hl => ?_)
    have hl : lv_has ls 7 [(6, .int 0), (0, .ref (q 0)), (1, .int wh), (2, .long w0), (4, .long w1)] := hl
    refine lv_iload hx hb d_O_add_52 (lv_at hl 0 rfl) ?_
    refine lv_bipush (v := 7) hx hb d_O_add_54 (by decide) ?_
    refine lv_icmp_ge (tgt := 81) hx hb d_O_add_56 (by decide) (fun h => absurd h (by decide)) (fun _ => ?_)
    refine lv_aload_n hx hb d_O_add_59 rfl (lv_at hl 1 rfl) ?_
    refine va_get (D := D) (ci := 1) (v := .ref (q 5)) (C := R_O) (T := T_O) (N := 17) hx hb hA inA_O hown hK hP 0 rfl rfl 7 (by decide) (hA _ wd_429) (fun _ h9 => h9) rfl d_O_add_60 ?_
    refine lv_bipush (v := 7) hx hb d_O_add_63 (by decide) ?_
    refine lv_aload_n hx hb d_O_add_65 rfl (lv_at hl 1 rfl) ?_
    refine va_get (D := D) (ci := 1) (v := .int (nI rw)) (C := R_O) (T := T_O) (N := 17) hx hb hA inA_O hown hK hP 0 rfl rfl 5 (by decide) (hA _ wd_427) (fun _ h9 => h9) rfl d_O_add_66 ?_
    refine lv_imul hx hb d_O_add_69 ?_
    refine lv_iload hx hb d_O_add_70 (lv_at hl 0 rfl) ?_
    refine lv_iadd hx hb d_O_add_72 ?_
    refine topi_to (v := nI (7 * rw + 0)) (by rw [← nI_add, ← pk_mul]; rfl) ?_
    refine lv_iconst (v := 0) hx hb d_O_add_73 (by decide) ?_
    refine xi_ast hx hb hK hP hD hS 5 rfl (by have := ne12 h6 hrw; omega) (by decide) d_O_add_74 (fun H locs hP hD hS => ?_)
    have hP : va_P D vwCl (ow D q n P rw a kn an lw s1 sd (upd kd rw wh) (upd pa (7 * rw + 0) 0) (vp_updL (vp_updL wd (2 * rw) w0) (2 * rw + 1) w1) ao fo uo ho xo) H := hP
    have hD : va_D A (ow D q n P rw a kn an lw s1 sd (upd kd rw wh) (upd pa (7 * rw + 0) 0) (vp_updL (vp_updL wd (2 * rw) w0) (2 * rw + 1) w1) ao fo uo ho xo) := hD
    refine lv_iinc (v := 1) hx hb d_O_add_75 hl (k := 0) rfl (by decide) (by decide) rfl (fun ls hl => ?_)
    have hl : lv_has ls 7 [(6, .int 1), (0, .ref (q 0)), (1, .int wh), (2, .long w0), (4, .long w1)] := hl
    refine lv_goto (tgt := 52) hx hb d_O_add_78 (by decide) ?_
    refine lv_iload hx hb d_O_add_52 (lv_at hl 0 rfl) ?_
    refine lv_bipush (v := 7) hx hb d_O_add_54 (by decide) ?_
    refine lv_icmp_ge (tgt := 81) hx hb d_O_add_56 (by decide) (fun h => absurd h (by decide)) (fun _ => ?_)
    refine lv_aload_n hx hb d_O_add_59 rfl (lv_at hl 1 rfl) ?_
    refine va_get (D := D) (ci := 1) (v := .ref (q 5)) (C := R_O) (T := T_O) (N := 17) hx hb hA inA_O hown hK hP 0 rfl rfl 7 (by decide) (hA _ wd_429) (fun _ h9 => h9) rfl d_O_add_60 ?_
    refine lv_bipush (v := 7) hx hb d_O_add_63 (by decide) ?_
    refine lv_aload_n hx hb d_O_add_65 rfl (lv_at hl 1 rfl) ?_
    refine va_get (D := D) (ci := 1) (v := .int (nI rw)) (C := R_O) (T := T_O) (N := 17) hx hb hA inA_O hown hK hP 0 rfl rfl 5 (by decide) (hA _ wd_427) (fun _ h9 => h9) rfl d_O_add_66 ?_
    refine lv_imul hx hb d_O_add_69 ?_
    refine lv_iload hx hb d_O_add_70 (lv_at hl 0 rfl) ?_
    refine lv_iadd hx hb d_O_add_72 ?_
    refine topi_to (v := nI (7 * rw + 1)) (by rw [← nI_add, ← pk_mul]; rfl) ?_
    refine lv_iconst (v := 0) hx hb d_O_add_73 (by decide) ?_
    refine xi_ast hx hb hK hP hD hS 5 rfl (by have := ne12 h6 hrw; omega) (by decide) d_O_add_74 (fun H locs hP hD hS => ?_)
    have hP : va_P D vwCl (ow D q n P rw a kn an lw s1 sd (upd kd rw wh) (upd (upd pa (7 * rw + 0) 0) (7 * rw + 1) 0) (vp_updL (vp_updL wd (2 * rw) w0) (2 * rw + 1) w1) ao fo uo ho xo) H := hP
    have hD : va_D A (ow D q n P rw a kn an lw s1 sd (upd kd rw wh) (upd (upd pa (7 * rw + 0) 0) (7 * rw + 1) 0) (vp_updL (vp_updL wd (2 * rw) w0) (2 * rw + 1) w1) ao fo uo ho xo) := hD
    refine lv_iinc (v := 2) hx hb d_O_add_75 hl (k := 0) rfl (by decide) (by decide) rfl (fun ls hl => ?_)
    have hl : lv_has ls 7 [(6, .int 2), (0, .ref (q 0)), (1, .int wh), (2, .long w0), (4, .long w1)] := hl
    refine lv_goto (tgt := 52) hx hb d_O_add_78 (by decide) ?_
    refine lv_iload hx hb d_O_add_52 (lv_at hl 0 rfl) ?_
    refine lv_bipush (v := 7) hx hb d_O_add_54 (by decide) ?_
    refine lv_icmp_ge (tgt := 81) hx hb d_O_add_56 (by decide) (fun h => absurd h (by decide)) (fun _ => ?_)
    refine lv_aload_n hx hb d_O_add_59 rfl (lv_at hl 1 rfl) ?_
    refine va_get (D := D) (ci := 1) (v := .ref (q 5)) (C := R_O) (T := T_O) (N := 17) hx hb hA inA_O hown hK hP 0 rfl rfl 7 (by decide) (hA _ wd_429) (fun _ h9 => h9) rfl d_O_add_60 ?_
    refine lv_bipush (v := 7) hx hb d_O_add_63 (by decide) ?_
    refine lv_aload_n hx hb d_O_add_65 rfl (lv_at hl 1 rfl) ?_
    refine va_get (D := D) (ci := 1) (v := .int (nI rw)) (C := R_O) (T := T_O) (N := 17) hx hb hA inA_O hown hK hP 0 rfl rfl 5 (by decide) (hA _ wd_427) (fun _ h9 => h9) rfl d_O_add_66 ?_
    refine lv_imul hx hb d_O_add_69 ?_
    refine lv_iload hx hb d_O_add_70 (lv_at hl 0 rfl) ?_
    refine lv_iadd hx hb d_O_add_72 ?_
    refine topi_to (v := nI (7 * rw + 2)) (by rw [← nI_add, ← pk_mul]; rfl) ?_
    refine lv_iconst (v := 0) hx hb d_O_add_73 (by decide) ?_
    refine xi_ast hx hb hK hP hD hS 5 rfl (by have := ne12 h6 hrw; omega) (by decide) d_O_add_74 (fun H locs hP hD hS => ?_)
    have hP : va_P D vwCl (ow D q n P rw a kn an lw s1 sd (upd kd rw wh) (upd (upd (upd pa (7 * rw + 0) 0) (7 * rw + 1) 0) (7 * rw + 2) 0) (vp_updL (vp_updL wd (2 * rw) w0) (2 * rw + 1) w1) ao fo uo ho xo) H := hP
    have hD : va_D A (ow D q n P rw a kn an lw s1 sd (upd kd rw wh) (upd (upd (upd pa (7 * rw + 0) 0) (7 * rw + 1) 0) (7 * rw + 2) 0) (vp_updL (vp_updL wd (2 * rw) w0) (2 * rw + 1) w1) ao fo uo ho xo) := hD
    refine lv_iinc (v := 3) hx hb d_O_add_75 hl (k := 0) rfl (by decide) (by decide) rfl (fun ls hl => ?_)
    have hl : lv_has ls 7 [(6, .int 3), (0, .ref (q 0)), (1, .int wh), (2, .long w0), (4, .long w1)] := hl
    refine lv_goto (tgt := 52) hx hb d_O_add_78 (by decide) ?_
    refine lv_iload hx hb d_O_add_52 (lv_at hl 0 rfl) ?_
    refine lv_bipush (v := 7) hx hb d_O_add_54 (by decide) ?_
    refine lv_icmp_ge (tgt := 81) hx hb d_O_add_56 (by decide) (fun h => absurd h (by decide)) (fun _ => ?_)
    refine lv_aload_n hx hb d_O_add_59 rfl (lv_at hl 1 rfl) ?_
    refine va_get (D := D) (ci := 1) (v := .ref (q 5)) (C := R_O) (T := T_O) (N := 17) hx hb hA inA_O hown hK hP 0 rfl rfl 7 (by decide) (hA _ wd_429) (fun _ h9 => h9) rfl d_O_add_60 ?_
    refine lv_bipush (v := 7) hx hb d_O_add_63 (by decide) ?_
    refine lv_aload_n hx hb d_O_add_65 rfl (lv_at hl 1 rfl) ?_
    refine va_get (D := D) (ci := 1) (v := .int (nI rw)) (C := R_O) (T := T_O) (N := 17) hx hb hA inA_O hown hK hP 0 rfl rfl 5 (by decide) (hA _ wd_427) (fun _ h9 => h9) rfl d_O_add_66 ?_
    refine lv_imul hx hb d_O_add_69 ?_
    refine lv_iload hx hb d_O_add_70 (lv_at hl 0 rfl) ?_
    refine lv_iadd hx hb d_O_add_72 ?_
    refine topi_to (v := nI (7 * rw + 3)) (by rw [← nI_add, ← pk_mul]; rfl) ?_
    refine lv_iconst (v := 0) hx hb d_O_add_73 (by decide) ?_
    refine xi_ast hx hb hK hP hD hS 5 rfl (by have := ne12 h6 hrw; omega) (by decide) d_O_add_74 (fun H locs hP hD hS => ?_)
    have hP : va_P D vwCl (ow D q n P rw a kn an lw s1 sd (upd kd rw wh) (upd (upd (upd (upd pa (7 * rw + 0) 0) (7 * rw + 1) 0) (7 * rw + 2) 0) (7 * rw + 3) 0) (vp_updL (vp_updL wd (2 * rw) w0) (2 * rw + 1) w1) ao fo uo ho xo) H := hP
    have hD : va_D A (ow D q n P rw a kn an lw s1 sd (upd kd rw wh) (upd (upd (upd (upd pa (7 * rw + 0) 0) (7 * rw + 1) 0) (7 * rw + 2) 0) (7 * rw + 3) 0) (vp_updL (vp_updL wd (2 * rw) w0) (2 * rw + 1) w1) ao fo uo ho xo) := hD
    refine lv_iinc (v := 4) hx hb d_O_add_75 hl (k := 0) rfl (by decide) (by decide) rfl (fun ls hl => ?_)
    have hl : lv_has ls 7 [(6, .int 4), (0, .ref (q 0)), (1, .int wh), (2, .long w0), (4, .long w1)] := hl
    refine lv_goto (tgt := 52) hx hb d_O_add_78 (by decide) ?_
    refine lv_iload hx hb d_O_add_52 (lv_at hl 0 rfl) ?_
    refine lv_bipush (v := 7) hx hb d_O_add_54 (by decide) ?_
    refine lv_icmp_ge (tgt := 81) hx hb d_O_add_56 (by decide) (fun h => absurd h (by decide)) (fun _ => ?_)
    refine lv_aload_n hx hb d_O_add_59 rfl (lv_at hl 1 rfl) ?_
    refine va_get (D := D) (ci := 1) (v := .ref (q 5)) (C := R_O) (T := T_O) (N := 17) hx hb hA inA_O hown hK hP 0 rfl rfl 7 (by decide) (hA _ wd_429) (fun _ h9 => h9) rfl d_O_add_60 ?_
    refine lv_bipush (v := 7) hx hb d_O_add_63 (by decide) ?_
    refine lv_aload_n hx hb d_O_add_65 rfl (lv_at hl 1 rfl) ?_
    refine va_get (D := D) (ci := 1) (v := .int (nI rw)) (C := R_O) (T := T_O) (N := 17) hx hb hA inA_O hown hK hP 0 rfl rfl 5 (by decide) (hA _ wd_427) (fun _ h9 => h9) rfl d_O_add_66 ?_
    refine lv_imul hx hb d_O_add_69 ?_
    refine lv_iload hx hb d_O_add_70 (lv_at hl 0 rfl) ?_
    refine lv_iadd hx hb d_O_add_72 ?_
    refine topi_to (v := nI (7 * rw + 4)) (by rw [← nI_add, ← pk_mul]; rfl) ?_
    refine lv_iconst (v := 0) hx hb d_O_add_73 (by decide) ?_
    refine xi_ast hx hb hK hP hD hS 5 rfl (by have := ne12 h6 hrw; omega) (by decide) d_O_add_74 (fun H locs hP hD hS => ?_)
    have hP : va_P D vwCl (ow D q n P rw a kn an lw s1 sd (upd kd rw wh) (upd (upd (upd (upd (upd pa (7 * rw + 0) 0) (7 * rw + 1) 0) (7 * rw + 2) 0) (7 * rw + 3) 0) (7 * rw + 4) 0) (vp_updL (vp_updL wd (2 * rw) w0) (2 * rw + 1) w1) ao fo uo ho xo) H := hP
    have hD : va_D A (ow D q n P rw a kn an lw s1 sd (upd kd rw wh) (upd (upd (upd (upd (upd pa (7 * rw + 0) 0) (7 * rw + 1) 0) (7 * rw + 2) 0) (7 * rw + 3) 0) (7 * rw + 4) 0) (vp_updL (vp_updL wd (2 * rw) w0) (2 * rw + 1) w1) ao fo uo ho xo) := hD
    refine lv_iinc (v := 5) hx hb d_O_add_75 hl (k := 0) rfl (by decide) (by decide) rfl (fun ls hl => ?_)
    have hl : lv_has ls 7 [(6, .int 5), (0, .ref (q 0)), (1, .int wh), (2, .long w0), (4, .long w1)] := hl
    refine lv_goto (tgt := 52) hx hb d_O_add_78 (by decide) ?_
    refine lv_iload hx hb d_O_add_52 (lv_at hl 0 rfl) ?_
    refine lv_bipush (v := 7) hx hb d_O_add_54 (by decide) ?_
    refine lv_icmp_ge (tgt := 81) hx hb d_O_add_56 (by decide) (fun h => absurd h (by decide)) (fun _ => ?_)
    refine lv_aload_n hx hb d_O_add_59 rfl (lv_at hl 1 rfl) ?_
    refine va_get (D := D) (ci := 1) (v := .ref (q 5)) (C := R_O) (T := T_O) (N := 17) hx hb hA inA_O hown hK hP 0 rfl rfl 7 (by decide) (hA _ wd_429) (fun _ h9 => h9) rfl d_O_add_60 ?_
    refine lv_bipush (v := 7) hx hb d_O_add_63 (by decide) ?_
    refine lv_aload_n hx hb d_O_add_65 rfl (lv_at hl 1 rfl) ?_
    refine va_get (D := D) (ci := 1) (v := .int (nI rw)) (C := R_O) (T := T_O) (N := 17) hx hb hA inA_O hown hK hP 0 rfl rfl 5 (by decide) (hA _ wd_427) (fun _ h9 => h9) rfl d_O_add_66 ?_
    refine lv_imul hx hb d_O_add_69 ?_
    refine lv_iload hx hb d_O_add_70 (lv_at hl 0 rfl) ?_
    refine lv_iadd hx hb d_O_add_72 ?_
    refine topi_to (v := nI (7 * rw + 5)) (by rw [← nI_add, ← pk_mul]; rfl) ?_
    refine lv_iconst (v := 0) hx hb d_O_add_73 (by decide) ?_
    refine xi_ast hx hb hK hP hD hS 5 rfl (by have := ne12 h6 hrw; omega) (by decide) d_O_add_74 (fun H locs hP hD hS => ?_)
    have hP : va_P D vwCl (ow D q n P rw a kn an lw s1 sd (upd kd rw wh) (upd (upd (upd (upd (upd (upd pa (7 * rw + 0) 0) (7 * rw + 1) 0) (7 * rw + 2) 0) (7 * rw + 3) 0) (7 * rw + 4) 0) (7 * rw + 5) 0) (vp_updL (vp_updL wd (2 * rw) w0) (2 * rw + 1) w1) ao fo uo ho xo) H := hP
    have hD : va_D A (ow D q n P rw a kn an lw s1 sd (upd kd rw wh) (upd (upd (upd (upd (upd (upd pa (7 * rw + 0) 0) (7 * rw + 1) 0) (7 * rw + 2) 0) (7 * rw + 3) 0) (7 * rw + 4) 0) (7 * rw + 5) 0) (vp_updL (vp_updL wd (2 * rw) w0) (2 * rw + 1) w1) ao fo uo ho xo) := hD
    refine lv_iinc (v := 6) hx hb d_O_add_75 hl (k := 0) rfl (by decide) (by decide) rfl (fun ls hl => ?_)
    have hl : lv_has ls 7 [(6, .int 6), (0, .ref (q 0)), (1, .int wh), (2, .long w0), (4, .long w1)] := hl
    refine lv_goto (tgt := 52) hx hb d_O_add_78 (by decide) ?_
    refine lv_iload hx hb d_O_add_52 (lv_at hl 0 rfl) ?_
    refine lv_bipush (v := 7) hx hb d_O_add_54 (by decide) ?_
    refine lv_icmp_ge (tgt := 81) hx hb d_O_add_56 (by decide) (fun h => absurd h (by decide)) (fun _ => ?_)
    refine lv_aload_n hx hb d_O_add_59 rfl (lv_at hl 1 rfl) ?_
    refine va_get (D := D) (ci := 1) (v := .ref (q 5)) (C := R_O) (T := T_O) (N := 17) hx hb hA inA_O hown hK hP 0 rfl rfl 7 (by decide) (hA _ wd_429) (fun _ h9 => h9) rfl d_O_add_60 ?_
    refine lv_bipush (v := 7) hx hb d_O_add_63 (by decide) ?_
    refine lv_aload_n hx hb d_O_add_65 rfl (lv_at hl 1 rfl) ?_
    refine va_get (D := D) (ci := 1) (v := .int (nI rw)) (C := R_O) (T := T_O) (N := 17) hx hb hA inA_O hown hK hP 0 rfl rfl 5 (by decide) (hA _ wd_427) (fun _ h9 => h9) rfl d_O_add_66 ?_
    refine lv_imul hx hb d_O_add_69 ?_
    refine lv_iload hx hb d_O_add_70 (lv_at hl 0 rfl) ?_
    refine lv_iadd hx hb d_O_add_72 ?_
    refine topi_to (v := nI (7 * rw + 6)) (by rw [← nI_add, ← pk_mul]; rfl) ?_
    refine lv_iconst (v := 0) hx hb d_O_add_73 (by decide) ?_
    refine xi_ast hx hb hK hP hD hS 5 rfl (by have := ne12 h6 hrw; omega) (by decide) d_O_add_74 (fun H locs hP hD hS => ?_)
    have hP : va_P D vwCl (ow D q n P rw a kn an lw s1 sd (upd kd rw wh) (upd (upd (upd (upd (upd (upd (upd pa (7 * rw + 0) 0) (7 * rw + 1) 0) (7 * rw + 2) 0) (7 * rw + 3) 0) (7 * rw + 4) 0) (7 * rw + 5) 0) (7 * rw + 6) 0) (vp_updL (vp_updL wd (2 * rw) w0) (2 * rw + 1) w1) ao fo uo ho xo) H := hP
    have hD : va_D A (ow D q n P rw a kn an lw s1 sd (upd kd rw wh) (upd (upd (upd (upd (upd (upd (upd pa (7 * rw + 0) 0) (7 * rw + 1) 0) (7 * rw + 2) 0) (7 * rw + 3) 0) (7 * rw + 4) 0) (7 * rw + 5) 0) (7 * rw + 6) 0) (vp_updL (vp_updL wd (2 * rw) w0) (2 * rw + 1) w1) ao fo uo ho xo) := hD
    refine lv_iinc (v := 7) hx hb d_O_add_75 hl (k := 0) rfl (by decide) (by decide) rfl (fun ls hl => ?_)
    have hl : lv_has ls 7 [(6, .int 7), (0, .ref (q 0)), (1, .int wh), (2, .long w0), (4, .long w1)] := hl
    refine lv_goto (tgt := 52) hx hb d_O_add_78 (by decide) ?_
    refine lv_iload hx hb d_O_add_52 (lv_at hl 0 rfl) ?_
    refine lv_bipush (v := 7) hx hb d_O_add_54 (by decide) ?_
    refine lv_icmp_ge (tgt := 81) hx hb d_O_add_56 (by decide) (fun _ => ?_) (fun h => absurd h (by decide))
    refine lv_aload_n hx hb d_O_add_81 rfl (lv_at hl 1 rfl) ?_
    refine lv_dup hx hb d_O_add_82 rfl ?_
    refine va_get (D := D) (ci := 1) (v := .int (nI rw)) (C := R_O) (T := T_O) (N := 17) hx hb hA inA_O hown hK hP 0 rfl rfl 5 (by decide) (hA _ wd_427) (fun _ h9 => h9) rfl d_O_add_83 ?_
    refine lv_iconst (v := 1) hx hb d_O_add_86 (by decide) ?_
    refine lv_iadd hx hb d_O_add_87 ?_
    refine topi_to (v := nI (rw + 1)) ((nI_succ rw).symm) ?_
    refine va_put (D := D) (ci := 1) (v := .int (nI (rw + 1))) (ty := .int) (C := R_O) (T := T_O) (N := 17) hx hb hA inA_O ty_O tok_O nm_O hown hK hP hD hS 0 rfl rfl 5 (by decide) (hA _ wd_427) (fun _ h9 => h9) rfl (by decide +kernel) (by first | rfl | decide) (by first | rfl | decide) (Nat.le_of_ble_eq_true rfl) d_O_add_88 (fun H locs hP hD hS => ?_)
    have hP : va_P D vwCl (ow D q n P (rw + 1) a kn an lw s1 sd (upd kd rw wh) (upd (upd (upd (upd (upd (upd (upd pa (7 * rw + 0) 0) (7 * rw + 1) 0) (7 * rw + 2) 0) (7 * rw + 3) 0) (7 * rw + 4) 0) (7 * rw + 5) 0) (7 * rw + 6) 0) (vp_updL (vp_updL wd (2 * rw) w0) (2 * rw + 1) w1) ao fo uo ho xo) H := hP
    have hD : va_D A (ow D q n P (rw + 1) a kn an lw s1 sd (upd kd rw wh) (upd (upd (upd (upd (upd (upd (upd pa (7 * rw + 0) 0) (7 * rw + 1) 0) (7 * rw + 2) 0) (7 * rw + 3) 0) (7 * rw + 4) 0) (7 * rw + 5) 0) (7 * rw + 6) 0) (vp_updL (vp_updL wd (2 * rw) w0) (2 * rw + 1) w1) ao fo uo ho xo) := hD
    refine lv_aload_n hx hb d_O_add_91 rfl (lv_at hl 1 rfl) ?_
    refine wVv (n := 0) (wr := []) (Wf := oW D q) (rest := []) hx hb hml hown hA (o_changed l D q n P (rw + 1) a kn an lw s1 sd (upd kd rw wh) (upd (upd (upd (upd (upd (upd (upd pa (7 * rw + 0) 0) (7 * rw + 1) 0) (7 * rw + 2) 0) (7 * rw + 3) 0) (7 * rw + 4) 0) (7 * rw + 5) 0) (7 * rw + 6) 0) (vp_updL (vp_updL wd (2 * rw) w0) (2 * rw + 1) w1) ao fo uo ho xo _) wv_O_63 ⟨by decide, by decide, by decide +kernel⟩ ⟨rfl, rfl, by decide, by decide⟩ rfl hl.1 ⟨Nat.le_of_ble_eq_true rfl, Nat.le_of_ble_eq_true rfl⟩ hP hK hD hS hAA hN [0, 1, 2, 3, 4, 5, 6, 7, 8, 9, 10, 11] [] rfl rfl (by decide) (by decide) (by decide) 0 1 rfl rfl rfl (Nat.le_of_ble_eq_true rfl) d_O_add_92 (fun u H locs hu hP hD hS => ?_)
    subst hu
    have hP : va_P D vwCl (ow D q n P (rw + 1) a 0 (-1) lw s1 sd (upd kd rw wh) (upd (upd (upd (upd (upd (upd (upd pa (7 * rw + 0) 0) (7 * rw + 1) 0) (7 * rw + 2) 0) (7 * rw + 3) 0) (7 * rw + 4) 0) (7 * rw + 5) 0) (7 * rw + 6) 0) (vp_updL (vp_updL wd (2 * rw) w0) (2 * rw + 1) w1) ao fo uo ho xo) H := hP
    have hD : va_D A (ow D q n P (rw + 1) a 0 (-1) lw s1 sd (upd kd rw wh) (upd (upd (upd (upd (upd (upd (upd pa (7 * rw + 0) 0) (7 * rw + 1) 0) (7 * rw + 2) 0) (7 * rw + 3) 0) (7 * rw + 4) 0) (7 * rw + 5) 0) (7 * rw + 6) 0) (vp_updL (vp_updL wd (2 * rw) w0) (2 * rw + 1) w1) ao fo uo ho xo) := hD
    refine lv_aload_n hx hb d_O_add_95 rfl (lv_at hl 1 rfl) ?_
    refine va_get (D := D) (ci := 1) (v := .int (nI (rw + 1))) (C := R_O) (T := T_O) (N := 17) hx hb hA inA_O hown hK hP 0 rfl rfl 5 (by decide) (hA _ wd_427) (fun _ h9 => h9) rfl d_O_add_96 ?_
    refine lv_iconst (v := 1) hx hb d_O_add_99 (by decide) ?_
    refine lv_isub hx hb d_O_add_100 ?_
    refine topi_to (v := nI rw) (nI_pred rw) ?_
    exact eWi (n, P, (rw + 1), a, 0, -1, lw, s1, sd, upd kd rw wh, upd (upd (upd (upd (upd (upd (upd pa (7 * rw + 0) 0) (7 * rw + 1) 0) (7 * rw + 2) 0) (7 * rw + 3) 0) (7 * rw + 4) 0) (7 * rw + 5) 0) (7 * rw + 6) 0, vp_updL (vp_updL wd (2 * rw) w0) (2 * rw + 1) w1, ao, fo, uo, ho, xo) hx hb hr hlocks hP hK hD hS (Or.inr ⟨ne12 h6 hrw, rfl, rfl⟩) d_O_add_101
  · skip
    refine lv_bipush (v := (-2)) hx hb d_O_add_9 (by decide) ?_
    exact eWi (n, P, rw, a, kn, an, lw, s1, sd, kd, pa, wd, ao, fo, uo, ho, xo) hx hb hr hlocks hP hK hD hS (Or.inl ⟨fun h => absurd (nI_ne (b := 12) h6 (by omega) (by decide)) (by omega), rfl, rfl⟩) d_O_add_11
end
