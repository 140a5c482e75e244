section
theorem d_O_within_0 : decode b_O_within 0 = .ok (.iload_n 0, 1) := by decide +kernel
theorem d_O_within_1 : decode b_O_within 1 = .ok (.iload_n 1, 1) := by decide +kernel
theorem d_O_within_2 : decode b_O_within 2 = .ok (.if_icmp .lt 12, 3) := by decide +kernel
theorem d_O_within_5 : decode b_O_within 5 = .ok (.iload_n 0, 1) := by decide +kernel
theorem d_O_within_6 : decode b_O_within 6 = .ok (.iload_n 2, 1) := by decide +kernel
theorem d_O_within_7 : decode b_O_within 7 = .ok (.if_icmp .gt 7, 3) := by decide +kernel
theorem d_O_within_10 : decode b_O_within 10 = .ok (.iconst 1, 1) := by decide +kernel
theorem d_O_within_11 : decode b_O_within 11 = .ok (.goto 4, 3) := by decide +kernel
theorem d_O_within_14 : decode b_O_within 14 = .ok (.iconst 0, 1) := by decide +kernel
theorem d_O_within_15 : decode b_O_within 15 = .ok (.ireturn, 1) := by decide +kernel
set_option maxRecDepth 100000 in
set_option maxHeartbeats 4000000 in
theorem o_within (l : Launch) (D : va_G) (x y v : Int32) : Met l y_O_within (wsm y_O_within b_O_within 3 (some .boolean)) { frames := 0, cells := 0, slots := 0, locals := 0 } (va_Pc [.int x, .int y, .int v] (cPre D ([]))) (vp_Si (fun r => r = zb (decide (wi3 x y v)))) 0 0 (fun _ => False) := by
  refine met_R (by decide) (Nat.le_of_ble_eq_true rfl) ?_
  intro p e s m below meth c ls hx hb hr hlocks hml hown hin hA hP hK hD hN hl
  have hown : s.vm.findClass R_O = some m.cls := hown
  have hl : lv_has ls 3 [(0, .int x), (1, .int y), (2, .int v)] := hl
  refine lv_iload_n hx hb d_O_within_0 rfl (lv_at hl 0 rfl) ?_
  refine lv_iload_n hx hb d_O_within_1 rfl (lv_at hl 1 rfl) ?_
  refine lv_icmp_lt (tgt := 14) hx hb d_O_within_2 (by decide) (fun h2 => ?_) (fun h2 => ?_)
  · skip
    refine lv_iconst (v := 0) hx hb d_O_within_14 (by decide) ?_
    exact eRz hx hb hr hlocks (by first | rfl | decide) (by first | exact zb_f (fun h => h.1 h2) | exact zb_f (fun h => h.2 h7)) d_O_within_15
  · skip
    refine lv_iload_n hx hb d_O_within_5 rfl (lv_at hl 0 rfl) ?_
    refine lv_iload_n hx hb d_O_within_6 rfl (lv_at hl 2 rfl) ?_
    refine lv_icmp_gt (tgt := 14) hx hb d_O_within_7 (by decide) (fun h7 => ?_) (fun h7 => ?_)
    · skip
      refine lv_iconst (v := 0) hx hb d_O_within_14 (by decide) ?_
      exact eRz hx hb hr hlocks (by first | rfl | decide) (by first | exact zb_f (fun h => h.1 h2) | exact zb_f (fun h => h.2 h7)) d_O_within_15
    · skip
      refine lv_iconst (v := 1) hx hb d_O_within_10 (by decide) ?_
      refine lv_goto (tgt := 15) hx hb d_O_within_11 (by decide) ?_
      exact eRz hx hb hr hlocks (by first | rfl | decide) (by first | exact zb_t (⟨h2, h7⟩)) d_O_within_15
end
