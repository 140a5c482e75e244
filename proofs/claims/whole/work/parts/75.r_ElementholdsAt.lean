section
set_option maxRecDepth 100000 in
set_option maxHeartbeats 4000000 in
theorem c_Element (l : Launch) (D : va_G) (o b1 : Nat) (r1 : Int32) (i : Int32) (tb : Int64) (x : Nat → Int32) (hr19 : vp_in r1 8) (hi9 : vp_in i 8) : Met l y_E_holdsAt (wsm y_E_holdsAt b_E_holdsAt 2 (some .boolean)) { frames := 0, cells := 0, slots := 0, locals := 0 } (va_Pc [.ref o, .ref b1] (cPre D ([(o, .inr (5, [.int r1, .int i, .long tb])), (b1, .inl (D.1 100, 8, .inl x))]))) (vp_Si (fun r => r = zb (decide (kEle r1 i tb x)))) 0 0 (fun _ => False) := by
  refine met_R (by decide) (Nat.le_of_ble_eq_true rfl) ?_
  intro p e s m below meth c ls hx hb hr hlocks hml hown hin hA hP hK hD hN hl
  have hown : s.vm.findClass R_E = some m.cls := hown
  have hl : lv_has ls 2 [(0, .ref o), (1, .ref b1)] := hl
  refine lv_aload_n hx hb d_E_holdsAt_0 rfl (lv_at hl 1 rfl) ?_
  refine lv_aload_n hx hb d_E_holdsAt_1 rfl (lv_at hl 0 rfl) ?_
  refine va_get (D := D) (ci := 5) (v := .int i) (C := R_E) (T := T_E) (N := 3) hx hb hA inA_E hown hK hP 0 rfl rfl 1 (by decide) (hA _ wd_269) (fun _ h9 => h9) rfl d_E_holdsAt_2 ?_
  refine va_iald hx hb hK hP 1 0 rfl rfl (hi9) d_E_holdsAt_5 ?_
  refine lv_if_lt (tgt := 49) hx hb d_E_holdsAt_6 (by decide) (fun h6 => ?_) (fun h6 => ?_)
  · skip
    refine lv_iconst (v := 0) hx hb d_E_holdsAt_49 (by decide) ?_
    exact eRz hx hb hr hlocks (by first | rfl | decide) (by first | exact zb_f (fun h => h.1 h6) | exact zb_f (fun h => h.2.1 h17) | exact zb_f (fun h => h42 h.2.2)) d_E_holdsAt_50
  · skip
    refine lv_aload_n hx hb d_E_holdsAt_9 rfl (lv_at hl 1 rfl) ?_
    refine lv_aload_n hx hb d_E_holdsAt_10 rfl (lv_at hl 0 rfl) ?_
    refine va_get (D := D) (ci := 5) (v := .int i) (C := R_E) (T := T_E) (N := 3) hx hb hA inA_E hown hK hP 0 rfl rfl 1 (by decide) (hA _ wd_269) (fun _ h9 => h9) rfl d_E_holdsAt_11 ?_
    refine va_iald hx hb hK hP 1 0 rfl rfl (hi9) d_E_holdsAt_14 ?_
    refine lv_bipush (v := 7) hx hb d_E_holdsAt_15 (by decide) ?_
    refine lv_icmp_gt (tgt := 49) hx hb d_E_holdsAt_17 (by decide) (fun h17 => ?_) (fun h17 => ?_)
    · skip
      refine lv_iconst (v := 0) hx hb d_E_holdsAt_49 (by decide) ?_
      exact eRz hx hb hr hlocks (by first | rfl | decide) (by first | exact zb_f (fun h => h.1 h6) | exact zb_f (fun h => h.2.1 h17) | exact zb_f (fun h => h42 h.2.2)) d_E_holdsAt_50
    · skip
      refine lv_aload_n hx hb d_E_holdsAt_20 rfl (lv_at hl 1 rfl) ?_
      refine lv_aload_n hx hb d_E_holdsAt_21 rfl (lv_at hl 0 rfl) ?_
      refine va_get (D := D) (ci := 5) (v := .int r1) (C := R_E) (T := T_E) (N := 3) hx hb hA inA_E hown hK hP 0 rfl rfl 0 (by decide) (hA _ wd_268) (fun _ h9 => h9) rfl d_E_holdsAt_22 ?_
      refine va_iald hx hb hK hP 1 0 rfl rfl (hr19) d_E_holdsAt_25 ?_
      refine lv_aload_n hx hb d_E_holdsAt_26 rfl (lv_at hl 0 rfl) ?_
      refine va_get (D := D) (ci := 5) (v := .long tb) (C := R_E) (T := T_E) (N := 3) hx hb hA inA_E hown hK hP 0 rfl rfl 2 (by decide) (hA _ wd_270) (fun _ h9 => h9) rfl d_E_holdsAt_27 ?_
      refine lv_bipush (v := 8) hx hb d_E_holdsAt_30 (by decide) ?_
      refine lv_aload_n hx hb d_E_holdsAt_32 rfl (lv_at hl 1 rfl) ?_
      refine lv_aload_n hx hb d_E_holdsAt_33 rfl (lv_at hl 0 rfl) ?_
      refine va_get (D := D) (ci := 5) (v := .int i) (C := R_E) (T := T_E) (N := 3) hx hb hA inA_E hown hK hP 0 rfl rfl 1 (by decide) (hA _ wd_269) (fun _ h9 => h9) rfl d_E_holdsAt_34 ?_
      refine va_iald hx hb hK hP 1 0 rfl rfl (hi9) d_E_holdsAt_37 ?_
      refine lv_imul hx hb d_E_holdsAt_38 ?_
      refine lv_lshr (v := tb >>> ((8 * (x i.toNatClampNeg)).toInt64 &&& 63)) hx hb d_E_holdsAt_39 rfl ?_
      refine lv_l2i (v := (tb >>> ((8 * (x i.toNatClampNeg)).toInt64 &&& 63)).toInt32) hx hb d_E_holdsAt_40 rfl ?_
      refine lv_i2b (v := ((tb >>> ((8 * (x i.toNatClampNeg)).toInt64 &&& 63)).toInt32).toInt8.toInt32) hx hb d_E_holdsAt_41 rfl ?_
      refine lv_icmp_ne (tgt := 49) hx hb d_E_holdsAt_42 (by decide) (fun h42 => ?_) (fun h42 => ?_)
      · skip
        refine lv_iconst (v := 0) hx hb d_E_holdsAt_49 (by decide) ?_
        exact eRz hx hb hr hlocks (by first | rfl | decide) (by first | exact zb_f (fun h => h.1 h6) | exact zb_f (fun h => h.2.1 h17) | exact zb_f (fun h => h42 h.2.2)) d_E_holdsAt_50
      · skip
        refine lv_iconst (v := 1) hx hb d_E_holdsAt_45 (by decide) ?_
        refine lv_goto (tgt := 50) hx hb d_E_holdsAt_46 (by decide) ?_
        exact eRz hx hb hr hlocks (by first | rfl | decide) (by first | exact zb_t (⟨h6, h17, h42⟩)) d_E_holdsAt_50
end
