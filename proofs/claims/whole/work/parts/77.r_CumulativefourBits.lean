section
set_option maxRecDepth 100000 in
set_option maxHeartbeats 4000000 in
theorem c_fourBits (l : Launch) (D : va_G) (row : Int64) (i : Int32) : Met l y_U_fourBits (wsm y_U_fourBits b_U_fourBits 3 (some .int)) { frames := 0, cells := 0, slots := 0, locals := 0 } (va_Pc [.long row, .int i] (cPre D ([]))) (vp_Si (fun r => r = fbs row i)) 0 0 (fun _ => False) := by
  refine met_R (by decide) (Nat.le_of_ble_eq_true rfl) ?_
  intro p e s m below meth c ls hx hb hr hlocks hml hown hin hA hP hK hD hN hl
  have hown : s.vm.findClass R_U = some m.cls := hown
  have hl : lv_has ls 3 [(0, .long row), (2, .int i)] := hl
  refine lv_lload_n hx hb d_U_fourBits_0 rfl (lv_at hl 0 rfl) ?_
  refine lv_iconst (v := 4) hx hb d_U_fourBits_1 (by decide) ?_
  refine lv_iload_n hx hb d_U_fourBits_2 rfl (lv_at hl 1 rfl) ?_
  refine lv_imul hx hb d_U_fourBits_3 ?_
  refine lv_lshr (v := row >>> ((4 * i).toInt64 &&& 63)) hx hb d_U_fourBits_4 rfl ?_
  refine lv_l2i (v := (row >>> ((4 * i).toInt64 &&& 63)).toInt32) hx hb d_U_fourBits_5 rfl ?_
  refine lv_bipush (v := 15) hx hb d_U_fourBits_6 (by decide) ?_
  refine lv_iand hx hb d_U_fourBits_8 ?_
  exact eR hx hb hr hlocks rfl d_U_fourBits_9
end
