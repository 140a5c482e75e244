section
set_option maxRecDepth 100000 in
set_option maxHeartbeats 4000000 in
theorem c_isWithin (l : Launch) (D : va_G) (x y : Int32) : Met l y_X_isWithin (wsm y_X_isWithin b_X_isWithin 2 (some .boolean)) { frames := 0, cells := 0, slots := 0, locals := 0 } (va_Pc [.int x, .int y] (cPre D ([]))) (vp_Si (fun r => r = zb (decide (wi x y)))) 0 0 (fun _ => False) := by
  refine met_R (by decide) (Nat.le_of_ble_eq_true rfl) ?_
  intro p e s m below meth c ls hx hb hr hlocks hml hown hin hA hP hK hD hN hl
  have hown : s.vm.findClass R_X = some m.cls := hown
  have hl : lv_has ls 2 [(0, .int x), (1, .int y)] := hl
  refine lv_iload_n hx hb d_X_isWithin_0 rfl (lv_at hl 0 rfl) ?_
  refine lv_iload_n hx hb d_X_isWithin_1 rfl (lv_at hl 1 rfl) ?_
  refine lv_ineg hx hb d_X_isWithin_2 ?_
  refine lv_icmp_lt (tgt := 15) hx hb d_X_isWithin_3 (by decide) (fun h3 => ?_) (fun h3 => ?_)
  · skip
    refine lv_iconst (v := 0) hx hb d_X_isWithin_15 (by decide) ?_
    exact eRz hx hb hr hlocks (by first | rfl | decide) (by first | exact zb_f (fun h => h.1 h3) | exact zb_f (fun h => h.2 h8)) d_X_isWithin_16
  · skip
    refine lv_iload_n hx hb d_X_isWithin_6 rfl (lv_at hl 0 rfl) ?_
    refine lv_iload_n hx hb d_X_isWithin_7 rfl (lv_at hl 1 rfl) ?_
    refine lv_icmp_gt (tgt := 15) hx hb d_X_isWithin_8 (by decide) (fun h8 => ?_) (fun h8 => ?_)
    · skip
      refine lv_iconst (v := 0) hx hb d_X_isWithin_15 (by decide) ?_
      exact eRz hx hb hr hlocks (by first | rfl | decide) (by first | exact zb_f (fun h => h.1 h3) | exact zb_f (fun h => h.2 h8)) d_X_isWithin_16
    · skip
      refine lv_iconst (v := 1) hx hb d_X_isWithin_11 (by decide) ?_
      refine lv_goto (tgt := 16) hx hb d_X_isWithin_12 (by decide) ?_
      exact eRz hx hb hr hlocks (by first | rfl | decide) (by first | exact zb_t (⟨h3, h8⟩)) d_X_isWithin_16
end
