section
theorem d_O_nibble_0 : decode b_O_nibble 0 = .ok (.lload_n 0, 1) := by decide +kernel
theorem d_O_nibble_1 : decode b_O_nibble 1 = .ok (.iconst 4, 1) := by decide +kernel
theorem d_O_nibble_2 : decode b_O_nibble 2 = .ok (.iload_n 2, 1) := by decide +kernel
theorem d_O_nibble_3 : decode b_O_nibble 3 = .ok (.imul, 1) := by decide +kernel
theorem d_O_nibble_4 : decode b_O_nibble 4 = .ok (.lshr, 1) := by decide +kernel
theorem d_O_nibble_5 : decode b_O_nibble 5 = .ok (.ldc2_w 94, 3) := by decide +kernel
theorem d_O_nibble_8 : decode b_O_nibble 8 = .ok (.land, 1) := by decide +kernel
theorem d_O_nibble_9 : decode b_O_nibble 9 = .ok (.l2i, 1) := by decide +kernel
theorem d_O_nibble_10 : decode b_O_nibble 10 = .ok (.ireturn, 1) := by decide +kernel
set_option maxRecDepth 100000 in
set_option maxHeartbeats 4000000 in
theorem o_nibble (l : Launch) (D : va_G) (row : Int64) (i : Int32) : Met l y_O_nibble (wsm y_O_nibble b_O_nibble 3 (some .int)) { frames := 0, cells := 0, slots := 0, locals := 0 } (va_Pc [.long row, .int i] (cPre D ([]))) (vp_Si (fun r => r = oNib row i)) 0 0 (fun _ => False) := by
  refine met_R (by decide) (Nat.le_of_ble_eq_true rfl) ?_
  intro p e s m below meth c ls hx hb hr hlocks hml hown hin hA hP hK hD hN hl
  have hown : s.vm.findClass R_O = some m.cls := hown
  have hl : lv_has ls 3 [(0, .long row), (2, .int i)] := hl
  refine lv_lload_n hx hb d_O_nibble_0 rfl (lv_at hl 0 rfl) ?_
  refine lv_iconst (v := 4) hx hb d_O_nibble_1 (by decide) ?_
  refine lv_iload_n hx hb d_O_nibble_2 rfl (lv_at hl 1 rfl) ?_
  refine lv_imul hx hb d_O_nibble_3 ?_
  refine lv_lshr (v := row >>> ((4 * i).toInt64 &&& 63)) hx hb d_O_nibble_4 rfl ?_
  refine lv_ldc2 (v := 15) hx hb hown (hA _ wd_602) d_O_nibble_5 ?_
  refine lv_land hx hb d_O_nibble_8 ?_
  refine lv_l2i (v := ((row >>> ((4 * i).toInt64 &&& 63)) &&& 15).toInt32) hx hb d_O_nibble_9 rfl ?_
  exact eR hx hb hr hlocks (rfl) d_O_nibble_10
end
