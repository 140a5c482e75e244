section
theorem d_O_isSet_0 : decode b_O_isSet 0 = .ok (.iload_n 1, 1) := by decide +kernel
theorem d_O_isSet_1 : decode b_O_isSet 1 = .ok (.ifCond .lt 17, 3) := by decide +kernel
theorem d_O_isSet_4 : decode b_O_isSet 4 = .ok (.iload_n 1, 1) := by decide +kernel
theorem d_O_isSet_5 : decode b_O_isSet 5 = .ok (.iconst 1, 1) := by decide +kernel
theorem d_O_isSet_6 : decode b_O_isSet 6 = .ok (.aload_n 0, 1) := by decide +kernel
theorem d_O_isSet_7 : decode b_O_isSet 7 = .ok (.getfield 56, 3) := by decide +kernel
theorem d_O_isSet_10 : decode b_O_isSet 10 = .ok (.ishl, 1) := by decide +kernel
theorem d_O_isSet_11 : decode b_O_isSet 11 = .ok (.if_icmp .ge 7, 3) := by decide +kernel
theorem d_O_isSet_14 : decode b_O_isSet 14 = .ok (.iconst 1, 1) := by decide +kernel
theorem d_O_isSet_15 : decode b_O_isSet 15 = .ok (.goto 4, 3) := by decide +kernel
theorem d_O_isSet_18 : decode b_O_isSet 18 = .ok (.iconst 0, 1) := by decide +kernel
theorem d_O_isSet_19 : decode b_O_isSet 19 = .ok (.ireturn, 1) := by decide +kernel
set_option maxRecDepth 100000 in
set_option maxHeartbeats 4000000 in
theorem o_isSet (l : Launch) (D : va_G) (q : Nat → Nat) (n P rw a : Nat) (kn an : Int32) (lw s1 sd kd pa : Nat → Int32) (wd : Nat → Int64) (ao fo uo ho xo : Nat → Int32) (t : Int32) : Met l y_O_isSet (wsm y_O_isSet b_O_isSet 2 (some .boolean)) { frames := 0, cells := 0, slots := 0, locals := 0 } (va_Pc [.ref (q 0), .int t] (cPre D (ow D q n P rw a kn an lw s1 sd kd pa wd ao fo uo ho xo))) (vp_Si (fun r => r = zb (decide (ivs n t)))) 0 0 (fun _ => False) := by
  refine met_R (by decide) (Nat.le_of_ble_eq_true rfl) ?_
  intro p e s m below meth c ls hx hb hr hlocks hml hown hin hA hP hK hD hN hl
  have hown : s.vm.findClass R_O = some m.cls := hown
  have hl : lv_has ls 2 [(0, .ref (q 0)), (1, .int t)] := hl
  refine lv_iload_n hx hb d_O_isSet_0 rfl (lv_at hl 1 rfl) ?_
  refine lv_if_lt (tgt := 18) hx hb d_O_isSet_1 (by decide) (fun h1 => ?_) (fun h1 => ?_)
  · skip
    refine lv_iconst (v := 0) hx hb d_O_isSet_18 (by decide) ?_
    exact eRz hx hb hr hlocks (by first | rfl | decide) (by first | exact zb_f (fun h => h.1 h1) | exact zb_f (fun h => h.2 h11)) d_O_isSet_19
  · skip
    refine lv_iload_n hx hb d_O_isSet_4 rfl (lv_at hl 1 rfl) ?_
    refine lv_iconst (v := 1) hx hb d_O_isSet_5 (by decide) ?_
    refine lv_aload_n hx hb d_O_isSet_6 rfl (lv_at hl 0 rfl) ?_
    refine va_get (D := D) (ci := 1) (v := .int (nI n)) (C := R_O) (T := T_O) (N := 17) hx hb hA inA_O hown hK hP 0 rfl rfl 0 (by decide) (hA _ wd_422) (fun _ h9 => h9) rfl d_O_isSet_7 ?_
    refine lv_ishl hx hb d_O_isSet_10 ?_
    refine lv_icmp_ge (tgt := 18) hx hb d_O_isSet_11 (by decide) (fun h11 => ?_) (fun h11 => ?_)
    · skip
      refine lv_iconst (v := 0) hx hb d_O_isSet_18 (by decide) ?_
      exact eRz hx hb hr hlocks (by first | rfl | decide) (by first | exact zb_f (fun h => h.1 h1) | exact zb_f (fun h => h.2 h11)) d_O_isSet_19
    · skip
      refine lv_iconst (v := 1) hx hb d_O_isSet_14 (by decide) ?_
      refine lv_goto (tgt := 19) hx hb d_O_isSet_15 (by decide) ?_
      exact eRz hx hb hr hlocks (by first | rfl | decide) (by first | exact zb_t (⟨h1, h11⟩)) d_O_isSet_19
end
