section
set_option maxRecDepth 100000 in
set_option maxHeartbeats 4000000 in
theorem c_isIn (l : Launch) (D : va_G) (i t : Int32) : Met l y_X_isIn (wsm y_X_isIn b_X_isIn 2 (some .boolean)) { frames := 0, cells := 0, slots := 0, locals := 0 } (va_Pc [.int i, .int t] (cPre D ([]))) (vp_Si (fun r => r = zb (decide (inS i t)))) 0 0 (fun _ => False) := by
  refine met_R (by decide) (Nat.le_of_ble_eq_true rfl) ?_
  intro p e s m below meth c ls hx hb hr hlocks hml hown hin hA hP hK hD hN hl
  have hown : s.vm.findClass R_X = some m.cls := hown
  have hl : lv_has ls 2 [(0, .int i), (1, .int t)] := hl
  refine lv_iload_n hx hb d_X_isIn_0 rfl (lv_at hl 1 rfl) ?_
  refine lv_iload_n hx hb d_X_isIn_1 rfl (lv_at hl 0 rfl) ?_
  refine lv_ishr hx hb d_X_isIn_2 ?_
  refine lv_iconst (v := 1) hx hb d_X_isIn_3 (by decide) ?_
  refine lv_iand hx hb d_X_isIn_4 ?_
  refine lv_iconst (v := 1) hx hb d_X_isIn_5 (by decide) ?_
  refine lv_icmp_ne (tgt := 13) hx hb d_X_isIn_6 (by decide) (fun h6 => ?_) (fun h6 => ?_)
  · skip
    refine lv_iconst (v := 0) hx hb d_X_isIn_13 (by decide) ?_
    exact eRz hx hb hr hlocks (by first | rfl | decide) (by first | exact zb_f (h6)) d_X_isIn_14
  · skip
    refine lv_iconst (v := 1) hx hb d_X_isIn_9 (by decide) ?_
    refine lv_goto (tgt := 14) hx hb d_X_isIn_10 (by decide) ?_
    exact eRz hx hb hr hlocks (by first | rfl | decide) (by first | exact zb_t (h6)) d_X_isIn_14
end
