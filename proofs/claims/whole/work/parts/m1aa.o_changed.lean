section
theorem d_O_changed_0 : decode b_O_changed 0 = .ok (.aload_n 0, 1) := by decide +kernel
theorem d_O_changed_1 : decode b_O_changed 1 = .ok (.iconst 0, 1) := by decide +kernel
theorem d_O_changed_2 : decode b_O_changed 2 = .ok (.putfield 52, 3) := by decide +kernel
theorem d_O_changed_5 : decode b_O_changed 5 = .ok (.aload_n 0, 1) := by decide +kernel
theorem d_O_changed_6 : decode b_O_changed 6 = .ok (.iconst (-1), 1) := by decide +kernel
theorem d_O_changed_7 : decode b_O_changed 7 = .ok (.putfield 46, 3) := by decide +kernel
theorem d_O_changed_10 : decode b_O_changed 10 = .ok (.return_, 1) := by decide +kernel
set_option maxRecDepth 100000 in
set_option maxHeartbeats 4000000 in
theorem o_changed (l : Launch) (D : va_G) (q : Nat → Nat) (n P rw a : Nat) (kn an : Int32) (lw s1 sd kd pa : Nat → Int32) (wd : Nat → Int64) (ao fo uo ho xo : Nat → Int32) (sz : Nat) : Met l y_O_changed (wsm y_O_changed b_O_changed 1 none) { frames := 0, cells := 0, slots := 0, locals := 0 } (va_Pc [.ref (q 0)] (fun U => U.heap.size = sz ∧ cPre D (ow D q n P rw a kn an lw s1 sd kd pa wd ao fo uo ho xo) U)) (va_Qv (fun u : OS => u = (n, P, rw, a, 0, -1, lw, s1, sd, kd, pa, wd, ao, fo, uo, ho, xo)) (fun u t => xB D (oW D q u) (va_A (ow D q n P rw a kn an lw s1 sd kd pa wd ao fo uo ho xo) sz) t) (va_A (ow D q n P rw a kn an lw s1 sd kd pa wd ao fo uo ho xo) sz)) 0 0 (va_A (ow D q n P rw a kn an lw s1 sd kd pa wd ao fo uo ho xo) sz) := by
  refine met_W (Qf := fun A => va_Qv (fun u : OS => u = (n, P, rw, a, 0, -1, lw, s1, sd, kd, pa, wd, ao, fo, uo, ho, xo)) (fun u t => xB D (oW D q u) A t) A) (by decide) (Nat.le_of_ble_eq_true rfl) ?_
  intro p e s m below meth c ls A hx hb hr hlocks hml hown hin hA hP hK hD hN hl hS hAA
  have hown : s.vm.findClass R_O = some m.cls := hown
  have hl : lv_has ls 1 [(0, .ref (q 0))] := hl
  refine lv_aload_n hx hb d_O_changed_0 rfl (lv_at hl 0 rfl) ?_
  refine lv_iconst (v := 0) hx hb d_O_changed_1 (by decide) ?_
  refine va_put (D := D) (ci := 1) (v := .int 0) (ty := .boolean) (C := R_O) (T := T_O) (N := 17) hx hb hA inA_O ty_O tok_O nm_O hown hK hP hD hS 0 rfl rfl 13 (by decide) (hA _ wd_435) (fun _ h9 => h9) rfl (by decide +kernel) (by first | rfl | decide) (by first | rfl | decide) (Nat.le_of_ble_eq_true rfl) d_O_changed_2 (fun H locs hP hD hS => ?_)
  have hP : va_P D vwCl (ow D q n P rw a 0 an lw s1 sd kd pa wd ao fo uo ho xo) H := hP
  have hD : va_D A (ow D q n P rw a 0 an lw s1 sd kd pa wd ao fo uo ho xo) := hD
  refine lv_aload_n hx hb d_O_changed_5 rfl (lv_at hl 0 rfl) ?_
  refine lv_iconst (v := (-1)) hx hb d_O_changed_6 (by decide) ?_
  refine va_put (D := D) (ci := 1) (v := .int (-1)) (ty := .int) (C := R_O) (T := T_O) (N := 17) hx hb hA inA_O ty_O tok_O nm_O hown hK hP hD hS 0 rfl rfl 15 (by decide) (hA _ wd_437) (fun _ h9 => h9) rfl (by decide +kernel) (by first | rfl | decide) (by first | rfl | decide) (Nat.le_of_ble_eq_true rfl) d_O_changed_7 (fun H locs hP hD hS => ?_)
  have hP : va_P D vwCl (ow D q n P rw a 0 (-1) lw s1 sd kd pa wd ao fo uo ho xo) H := hP
  have hD : va_D A (ow D q n P rw a 0 (-1) lw s1 sd kd pa wd ao fo uo ho xo) := hD
  exact eWv (n, P, rw, a, 0, (-1), lw, s1, sd, kd, pa, wd, ao, fo, uo, ho, xo) hx hb hr hlocks hP hK hD hS (rfl) d_O_changed_10
end
