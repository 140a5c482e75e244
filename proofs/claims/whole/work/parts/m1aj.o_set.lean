section
theorem d_O_set_0 : decode b_O_set 0 = .ok (.aload_n 0, 1) := by decide +kernel
theorem d_O_set_1 : decode b_O_set 1 = .ok (.getfield 26, 3) := by decide +kernel
theorem d_O_set_4 : decode b_O_set 4 = .ok (.bipush 7, 2) := by decide +kernel
theorem d_O_set_6 : decode b_O_set 6 = .ok (.iload_n 1, 1) := by decide +kernel
theorem d_O_set_7 : decode b_O_set 7 = .ok (.imul, 1) := by decide +kernel
theorem d_O_set_8 : decode b_O_set 8 = .ok (.iload_n 2, 1) := by decide +kernel
theorem d_O_set_9 : decode b_O_set 9 = .ok (.iadd, 1) := by decide +kernel
theorem d_O_set_10 : decode b_O_set 10 = .ok (.iload_n 3, 1) := by decide +kernel
theorem d_O_set_11 : decode b_O_set 11 = .ok (.iastore, 1) := by decide +kernel
theorem d_O_set_12 : decode b_O_set 12 = .ok (.return_, 1) := by decide +kernel
set_option maxRecDepth 100000 in
set_option maxHeartbeats 4000000 in
theorem o_set (l : Launch) (D : va_G) (q : Nat → Nat) (n P rw a : Nat) (kn an : Int32) (lw s1 sd kd pa : Nat → Int32) (wd : Nat → Int64) (ao fo uo ho xo : Nat → Int32) (j c1 : Nat) (v : Int32) (sz : Nat) (hj : j < 12) (hc1 : c1 < 7) : Met l y_O_set (wsm y_O_set b_O_set 4 none) { frames := 0, cells := 0, slots := 0, locals := 0 } (va_Pc [.ref (q 0), .int (nI j), .int (nI c1), .int v] (fun U => U.heap.size = sz ∧ cPre D (ow D q n P rw a kn an lw s1 sd kd pa wd ao fo uo ho xo) U)) (va_Qv (fun u : OS => u = (n, P, rw, a, kn, an, lw, s1, sd, kd, upd pa (7 * j + c1) v, wd, ao, fo, uo, ho, xo)) (fun u t => xB D (oW D q u) (va_A (ow D q n P rw a kn an lw s1 sd kd pa wd ao fo uo ho xo) sz) t) (va_A (ow D q n P rw a kn an lw s1 sd kd pa wd ao fo uo ho xo) sz)) 0 0 (va_A (ow D q n P rw a kn an lw s1 sd kd pa wd ao fo uo ho xo) sz) := by
  refine met_W (Qf := fun A => va_Qv (fun u : OS => u = (n, P, rw, a, kn, an, lw, s1, sd, kd, upd pa (7 * j + c1) v, wd, ao, fo, uo, ho, xo)) (fun u t => xB D (oW D q u) A t) A) (by decide) (Nat.le_of_ble_eq_true rfl) ?_
  intro p e s m below meth c ls A hx hb hr hlocks hml hown hin hA hP hK hD hN hl hS hAA
  have hown : s.vm.findClass R_O = some m.cls := hown
  have hl : lv_has ls 4 [(0, .ref (q 0)), (1, .int (nI j)), (2, .int (nI c1)), (3, .int v)] := hl
  refine lv_aload_n hx hb d_O_set_0 rfl (lv_at hl 0 rfl) ?_
  refine va_get (D := D) (ci := 1) (v := .ref (q 5)) (C := R_O) (T := T_O) (N := 17) hx hb hA inA_O hown hK hP 0 rfl rfl 7 (by decide) (hA _ wd_429) (fun _ h9 => h9) rfl d_O_set_1 ?_
  refine lv_bipush (v := 7) hx hb d_O_set_4 (by decide) ?_
  refine lv_iload_n hx hb d_O_set_6 rfl (lv_at hl 1 rfl) ?_
  refine lv_imul hx hb d_O_set_7 ?_
  refine lv_iload_n hx hb d_O_set_8 rfl (lv_at hl 2 rfl) ?_
  refine lv_iadd hx hb d_O_set_9 ?_
  refine topi_to (v := nI (7 * j + c1)) (by rw [← nI_add, ← pk_mul]; rfl) ?_
  refine lv_iload_n hx hb d_O_set_10 rfl (lv_at hl 3 rfl) ?_
  refine xi_ast hx hb hK hP hD hS 5 rfl (by omega) (by decide) d_O_set_11 (fun H locs hP hD hS => ?_)
  have hP : va_P D vwCl (ow D q n P rw a kn an lw s1 sd kd (upd pa (7 * j + c1) v) wd ao fo uo ho xo) H := hP
  have hD : va_D A (ow D q n P rw a kn an lw s1 sd kd (upd pa (7 * j + c1) v) wd ao fo uo ho xo) := hD
  exact eWv (n, P, rw, a, kn, an, lw, s1, sd, kd, upd pa (7 * j + c1) v, wd, ao, fo, uo, ho, xo) hx hb hr hlocks hP hK hD hS (rfl) d_O_set_12
end
