section
theorem d_O_valueIn_0 : decode b_O_valueIn 0 = .ok (.aload_n 0, 1) := by decide +kernel
theorem d_O_valueIn_1 : decode b_O_valueIn 1 = .ok (.getfield 7, 3) := by decide +kernel
theorem d_O_valueIn_4 : decode b_O_valueIn 4 = .ok (.iload_n 2, 1) := by decide +kernel
theorem d_O_valueIn_5 : decode b_O_valueIn 5 = .ok (.iaload, 1) := by decide +kernel
theorem d_O_valueIn_6 : decode b_O_valueIn 6 = .ok (.iload_n 1, 1) := by decide +kernel
theorem d_O_valueIn_7 : decode b_O_valueIn 7 = .ok (.aload_n 0, 1) := by decide +kernel
theorem d_O_valueIn_8 : decode b_O_valueIn 8 = .ok (.getfield 16, 3) := by decide +kernel
theorem d_O_valueIn_11 : decode b_O_valueIn 11 = .ok (.iload_n 2, 1) := by decide +kernel
theorem d_O_valueIn_12 : decode b_O_valueIn 12 = .ok (.iaload, 1) := by decide +kernel
theorem d_O_valueIn_13 : decode b_O_valueIn 13 = .ok (.idiv, 1) := by decide +kernel
theorem d_O_valueIn_14 : decode b_O_valueIn 14 = .ok (.aload_n 0, 1) := by decide +kernel
theorem d_O_valueIn_15 : decode b_O_valueIn 15 = .ok (.getfield 13, 3) := by decide +kernel
theorem d_O_valueIn_18 : decode b_O_valueIn 18 = .ok (.iload_n 2, 1) := by decide +kernel
theorem d_O_valueIn_19 : decode b_O_valueIn 19 = .ok (.iaload, 1) := by decide +kernel
theorem d_O_valueIn_20 : decode b_O_valueIn 20 = .ok (.irem, 1) := by decide +kernel
theorem d_O_valueIn_21 : decode b_O_valueIn 21 = .ok (.iadd, 1) := by decide +kernel
theorem d_O_valueIn_22 : decode b_O_valueIn 22 = .ok (.ireturn, 1) := by decide +kernel
set_option maxRecDepth 100000 in
set_option maxHeartbeats 4000000 in
theorem o_valueIn (l : Launch) (D : va_G) (q : Nat → Nat) (n P rw a : Nat) (kn an : Int32) (lw s1 sd kd pa : Nat → Int32) (wd : Nat → Int64) (ao fo uo ho xo : Nat → Int32) (nm i : Int32) (hi8 : vp_in i 8) (hd1 : ¬ sd i.toNatClampNeg = 0) (hd2 : ¬ s1 i.toNatClampNeg = 0) : Met l y_O_valueIn (wsm y_O_valueIn b_O_valueIn 3 (some .int)) { frames := 0, cells := 0, slots := 0, locals := 0 } (va_Pc [.ref (q 0), .int nm, .int i] (cPre D (ow D q n P rw a kn an lw s1 sd kd pa wd ao fo uo ho xo))) (vp_Si (fun r => r = vIn lw s1 sd nm i.toNatClampNeg)) 0 0 (fun _ => False) := by
  refine met_R (by decide) (Nat.le_of_ble_eq_true rfl) ?_
  intro p e s m below meth c ls hx hb hr hlocks hml hown hin hA hP hK hD hN hl
  have hown : s.vm.findClass R_O = some m.cls := hown
  have hl : lv_has ls 3 [(0, .ref (q 0)), (1, .int nm), (2, .int i)] := hl
  refine lv_aload_n hx hb d_O_valueIn_0 rfl (lv_at hl 0 rfl) ?_
  refine va_get (D := D) (ci := 1) (v := .ref (q 1)) (C := R_O) (T := T_O) (N := 17) hx hb hA inA_O hown hK hP 0 rfl rfl 1 (by decide) (hA _ wd_423) (fun _ h9 => h9) rfl d_O_valueIn_1 ?_
  refine lv_iload_n hx hb d_O_valueIn_4 rfl (lv_at hl 2 rfl) ?_
  refine va_iald hx hb hK hP 1 0 rfl rfl (hi8) d_O_valueIn_5 ?_
  refine lv_iload_n hx hb d_O_valueIn_6 rfl (lv_at hl 1 rfl) ?_
  refine lv_aload_n hx hb d_O_valueIn_7 rfl (lv_at hl 0 rfl) ?_
  refine va_get (D := D) (ci := 1) (v := .ref (q 3)) (C := R_O) (T := T_O) (N := 17) hx hb hA inA_O hown hK hP 0 rfl rfl 3 (by decide) (hA _ wd_425) (fun _ h9 => h9) rfl d_O_valueIn_8 ?_
  refine lv_iload_n hx hb d_O_valueIn_11 rfl (lv_at hl 2 rfl) ?_
  refine va_iald hx hb hK hP 3 0 rfl rfl (hi8) d_O_valueIn_12 ?_
  refine lv_idiv hx hb d_O_valueIn_13 (hd1) ?_
  refine lv_aload_n hx hb d_O_valueIn_14 rfl (lv_at hl 0 rfl) ?_
  refine va_get (D := D) (ci := 1) (v := .ref (q 2)) (C := R_O) (T := T_O) (N := 17) hx hb hA inA_O hown hK hP 0 rfl rfl 2 (by decide) (hA _ wd_424) (fun _ h9 => h9) rfl d_O_valueIn_15 ?_
  refine lv_iload_n hx hb d_O_valueIn_18 rfl (lv_at hl 2 rfl) ?_
  refine va_iald hx hb hK hP 2 0 rfl rfl (hi8) d_O_valueIn_19 ?_
  refine lv_irem hx hb d_O_valueIn_20 (hd2) ?_
  refine lv_iadd hx hb d_O_valueIn_21 ?_
  exact eR hx hb hr hlocks (rfl) d_O_valueIn_22
end
