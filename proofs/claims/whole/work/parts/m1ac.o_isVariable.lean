section
theorem d_O_isVariable_0 : decode b_O_isVariable 0 = .ok (.iload_n 1, 1) := by decide +kernel
theorem d_O_isVariable_1 : decode b_O_isVariable 1 = .ok (.ifCond .lt 15, 3) := by decide +kernel
theorem d_O_isVariable_4 : decode b_O_isVariable 4 = .ok (.iload_n 1, 1) := by decide +kernel
theorem d_O_isVariable_5 : decode b_O_isVariable 5 = .ok (.aload_n 0, 1) := by decide +kernel
theorem d_O_isVariable_6 : decode b_O_isVariable 6 = .ok (.getfield 56, 3) := by decide +kernel
theorem d_O_isVariable_9 : decode b_O_isVariable 9 = .ok (.if_icmp .ge 7, 3) := by decide +kernel
theorem d_O_isVariable_12 : decode b_O_isVariable 12 = .ok (.iconst 1, 1) := by decide +kernel
theorem d_O_isVariable_13 : decode b_O_isVariable 13 = .ok (.goto 4, 3) := by decide +kernel
theorem d_O_isVariable_16 : decode b_O_isVariable 16 = .ok (.iconst 0, 1) := by decide +kernel
theorem d_O_isVariable_17 : decode b_O_isVariable 17 = .ok (.ireturn, 1) := by decide +kernel
set_option maxRecDepth 100000 in
set_option maxHeartbeats 4000000 in
theorem o_isVariable (l : Launch) (D : va_G) (q : Nat → Nat) (n P rw a : Nat) (kn an : Int32) (lw s1 sd kd pa : Nat → Int32) (wd : Nat → Int64) (ao fo uo ho xo : Nat → Int32) (i : Int32) : Met l y_O_isVariable (wsm y_O_isVariable b_O_isVariable 2 (some .boolean)) { frames := 0, cells := 0, slots := 0, locals := 0 } (va_Pc [.ref (q 0), .int i] (cPre D (ow D q n P rw a kn an lw s1 sd kd pa wd ao fo uo ho xo))) (vp_Si (fun r => r = zb (decide (iv n i)))) 0 0 (fun _ => False) := by
  refine met_R (by decide) (Nat.le_of_ble_eq_true rfl) ?_
  intro p e s m below meth c ls hx hb hr hlocks hml hown hin hA hP hK hD hN hl
  have hown : s.vm.findClass R_O = some m.cls := hown
  have hl : lv_has ls 2 [(0, .ref (q 0)), (1, .int i)] := hl
  refine lv_iload_n hx hb d_O_isVariable_0 rfl (lv_at hl 1 rfl) ?_
  refine lv_if_lt (tgt := 16) hx hb d_O_isVariable_1 (by decide) (fun h1 => ?_) (fun h1 => ?_)
  · skip
    refine lv_iconst (v := 0) hx hb d_O_isVariable_16 (by decide) ?_
    exact eRz hx hb hr hlocks (by first | rfl | decide) (by first | exact zb_f (fun h => h.1 h1) | exact zb_f (fun h => h.2 h9)) d_O_isVariable_17
  · skip
    refine lv_iload_n hx hb d_O_isVariable_4 rfl (lv_at hl 1 rfl) ?_
    refine lv_aload_n hx hb d_O_isVariable_5 rfl (lv_at hl 0 rfl) ?_
    refine va_get (D := D) (ci := 1) (v := .int (nI n)) (C := R_O) (T := T_O) (N := 17) hx hb hA inA_O hown hK hP 0 rfl rfl 0 (by decide) (hA _ wd_422) (fun _ h9 => h9) rfl d_O_isVariable_6 ?_
    refine lv_icmp_ge (tgt := 16) hx hb d_O_isVariable_9 (by decide) (fun h9 => ?_) (fun h9 => ?_)
    · skip
      refine lv_iconst (v := 0) hx hb d_O_isVariable_16 (by decide) ?_
      exact eRz hx hb hr hlocks (by first | rfl | decide) (by first | exact zb_f (fun h => h.1 h1) | exact zb_f (fun h => h.2 h9)) d_O_isVariable_17
    · skip
      refine lv_iconst (v := 1) hx hb d_O_isVariable_12 (by decide) ?_
      refine lv_goto (tgt := 17) hx hb d_O_isVariable_13 (by decide) ?_
      exact eRz hx hb hr hlocks (by first | rfl | decide) (by first | exact zb_t (⟨h1, h9⟩)) d_O_isVariable_17
end
