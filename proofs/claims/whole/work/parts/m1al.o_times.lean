section
theorem d_O_times_0 : decode b_O_times 0 = .ok (.iload_n 1, 1) := by decide +kernel
theorem d_O_times_1 : decode b_O_times 1 = .ok (.ifCond .ge 7, 3) := by decide +kernel
theorem d_O_times_4 : decode b_O_times 4 = .ok (.iconst 0, 1) := by decide +kernel
theorem d_O_times_5 : decode b_O_times 5 = .ok (.goto 11, 3) := by decide +kernel
theorem d_O_times_8 : decode b_O_times 8 = .ok (.iload_n 2, 1) := by decide +kernel
theorem d_O_times_9 : decode b_O_times 9 = .ok (.aload_n 0, 1) := by decide +kernel
theorem d_O_times_10 : decode b_O_times 10 = .ok (.getfield 49, 3) := by decide +kernel
theorem d_O_times_13 : decode b_O_times 13 = .ok (.iload_n 1, 1) := by decide +kernel
theorem d_O_times_14 : decode b_O_times 14 = .ok (.iaload, 1) := by decide +kernel
theorem d_O_times_15 : decode b_O_times 15 = .ok (.imul, 1) := by decide +kernel
theorem d_O_times_16 : decode b_O_times 16 = .ok (.ireturn, 1) := by decide +kernel
set_option maxRecDepth 100000 in
set_option maxHeartbeats 4000000 in
theorem o_times (l : Launch) (D : va_G) (q : Nat → Nat) (n P rw a : Nat) (kn an : Int32) (lw s1 sd kd pa : Nat → Int32) (wd : Nat → Int64) (ao fo uo ho xo : Nat → Int32) (i v : Int32) (hi8 : bx i) : Met l y_O_times (wsm y_O_times b_O_times 3 (some .int)) { frames := 0, cells := 0, slots := 0, locals := 0 } (va_Pc [.ref (q 0), .int i, .int v] (cPre D (ow D q n P rw a kn an lw s1 sd kd pa wd ao fo uo ho xo))) (vp_Si (fun r => r = tm i v xo)) 0 0 (fun _ => False) := by
  refine met_R (by decide) (Nat.le_of_ble_eq_true rfl) ?_
  intro p e s m below meth c ls hx hb hr hlocks hml hown hin hA hP hK hD hN hl
  have hown : s.vm.findClass R_O = some m.cls := hown
  have hl : lv_has ls 3 [(0, .ref (q 0)), (1, .int i), (2, .int v)] := hl
  refine lv_iload_n hx hb d_O_times_0 rfl (lv_at hl 1 rfl) ?_
  refine lv_if_ge (tgt := 8) hx hb d_O_times_1 (by decide) (fun h1 => ?_) (fun h1 => ?_)
  · skip
    refine lv_iload_n hx hb d_O_times_8 rfl (lv_at hl 2 rfl) ?_
    refine lv_aload_n hx hb d_O_times_9 rfl (lv_at hl 0 rfl) ?_
    refine va_get (D := D) (ci := 1) (v := .ref (q 11)) (C := R_O) (T := T_O) (N := 17) hx hb hA inA_O hown hK hP 0 rfl rfl 16 (by decide) (hA _ wd_438) (fun _ h9 => h9) rfl d_O_times_10 ?_
    refine lv_iload_n hx hb d_O_times_13 rfl (lv_at hl 1 rfl) ?_
    refine va_iald hx hb hK hP 11 0 rfl rfl (hi8 (Int32.not_lt.mpr h1)) d_O_times_14 ?_
    refine lv_imul hx hb d_O_times_15 ?_
    exact eR hx hb hr hlocks ((if_pos h1).symm) d_O_times_16
  · skip
    refine lv_iconst (v := 0) hx hb d_O_times_4 (by decide) ?_
    refine lv_goto (tgt := 16) hx hb d_O_times_5 (by decide) ?_
    exact eR hx hb hr hlocks ((if_neg h1).symm) d_O_times_16
end
