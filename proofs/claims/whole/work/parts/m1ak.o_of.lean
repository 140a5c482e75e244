section
theorem d_O_of_0 : decode b_O_of 0 = .ok (.aload_n 0, 1) := by decide +kernel
theorem d_O_of_1 : decode b_O_of 1 = .ok (.getfield 26, 3) := by decide +kernel
theorem d_O_of_4 : decode b_O_of 4 = .ok (.bipush 7, 2) := by decide +kernel
theorem d_O_of_6 : decode b_O_of 6 = .ok (.iload_n 1, 1) := by decide +kernel
theorem d_O_of_7 : decode b_O_of 7 = .ok (.imul, 1) := by decide +kernel
theorem d_O_of_8 : decode b_O_of 8 = .ok (.iload_n 2, 1) := by decide +kernel
theorem d_O_of_9 : decode b_O_of 9 = .ok (.iadd, 1) := by decide +kernel
theorem d_O_of_10 : decode b_O_of 10 = .ok (.iaload, 1) := by decide +kernel
theorem d_O_of_11 : decode b_O_of 11 = .ok (.ireturn, 1) := by decide +kernel
set_option maxRecDepth 100000 in
set_option maxHeartbeats 4000000 in
theorem o_of (l : Launch) (D : va_G) (q : Nat → Nat) (n P rw a : Nat) (kn an : Int32) (lw s1 sd kd pa : Nat → Int32) (wd : Nat → Int64) (ao fo uo ho xo : Nat → Int32) (j c1 : Nat) (hj : j < 12) (hc1 : c1 < 7) : Met l y_O_of (wsm y_O_of b_O_of 3 (some .int)) { frames := 0, cells := 0, slots := 0, locals := 0 } (va_Pc [.ref (q 0), .int (nI j), .int (nI c1)] (cPre D (ow D q n P rw a kn an lw s1 sd kd pa wd ao fo uo ho xo))) (vp_Si (fun r => r = oRow pa j c1)) 0 0 (fun _ => False) := by
  refine met_R (by decide) (Nat.le_of_ble_eq_true rfl) ?_
  intro p e s m below meth c ls hx hb hr hlocks hml hown hin hA hP hK hD hN hl
  have hown : s.vm.findClass R_O = some m.cls := hown
  have hl : lv_has ls 3 [(0, .ref (q 0)), (1, .int (nI j)), (2, .int (nI c1))] := hl
  refine lv_aload_n hx hb d_O_of_0 rfl (lv_at hl 0 rfl) ?_
  refine va_get (D := D) (ci := 1) (v := .ref (q 5)) (C := R_O) (T := T_O) (N := 17) hx hb hA inA_O hown hK hP 0 rfl rfl 7 (by decide) (hA _ wd_429) (fun _ h9 => h9) rfl d_O_of_1 ?_
  refine lv_bipush (v := 7) hx hb d_O_of_4 (by decide) ?_
  refine lv_iload_n hx hb d_O_of_6 rfl (lv_at hl 1 rfl) ?_
  refine lv_imul hx hb d_O_of_7 ?_
  refine lv_iload_n hx hb d_O_of_8 rfl (lv_at hl 2 rfl) ?_
  refine lv_iadd hx hb d_O_of_9 ?_
  refine topi_to (v := nI (7 * j + c1)) (by rw [← nI_add, ← pk_mul]; rfl) ?_
  refine xi_ald hx hb hK hP 5 rfl (by omega) (by decide) d_O_of_10 ?_
  exact eR hx hb hr hlocks (rfl) d_O_of_11
end
