section
theorem d_O_space_0 : decode b_O_space 0 = .ok (.aload_n 0, 1) := by decide +kernel
theorem d_O_space_1 : decode b_O_space 1 = .ok (.getfield 19, 3) := by decide +kernel
theorem d_O_space_4 : decode b_O_space 4 = .ok (.ireturn, 1) := by decide +kernel
set_option maxRecDepth 100000 in
set_option maxHeartbeats 4000000 in
theorem o_space (l : Launch) (D : va_G) (q : Nat → Nat) (n P rw a : Nat) (kn an : Int32) (lw s1 sd kd pa : Nat → Int32) (wd : Nat → Int64) (ao fo uo ho xo : Nat → Int32) : Met l y_O_space (wsm y_O_space b_O_space 1 (some .int)) { frames := 0, cells := 0, slots := 0, locals := 0 } (va_Pc [.ref (q 0)] (cPre D (ow D q n P rw a kn an lw s1 sd kd pa wd ao fo uo ho xo))) (vp_Si (fun r => r = nI P)) 0 0 (fun _ => False) := by
  refine met_R (by decide) (Nat.le_of_ble_eq_true rfl) ?_
  intro p e s m below meth c ls hx hb hr hlocks hml hown hin hA hP hK hD hN hl
  have hown : s.vm.findClass R_O = some m.cls := hown
  have hl : lv_has ls 1 [(0, .ref (q 0))] := hl
  refine lv_aload_n hx hb d_O_space_0 rfl (lv_at hl 0 rfl) ?_
  refine va_get (D := D) (ci := 1) (v := .int (nI P)) (C := R_O) (T := T_O) (N := 17) hx hb hA inA_O hown hK hP 0 rfl rfl 4 (by decide) (hA _ wd_426) (fun _ h9 => h9) rfl d_O_space_1 ?_
  exact eR hx hb hr hlocks (rfl) d_O_space_4
end
