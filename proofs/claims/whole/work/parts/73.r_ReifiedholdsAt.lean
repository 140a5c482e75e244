section
set_option maxRecDepth 100000 in
set_option maxHeartbeats 4000000 in
theorem c_Reified (l : Launch) (D : va_G) (o b1 : Nat) (r1 : Int32) (i : Int32) (j : Int32) (c1 : Int32) (x : Nat → Int32) (hr19 : vp_in r1 8) (hi9 : vp_in i 8) (hj9 : vp_in j 8) : Met l y_R_holdsAt (wsm y_R_holdsAt b_R_holdsAt 2 (some .boolean)) { frames := 0, cells := 0, slots := 0, locals := 0 } (va_Pc [.ref o, .ref b1] (cPre D ([(o, .inr (3, [.int r1, .int i, .int j, .int c1])), (b1, .inl (D.1 100, 8, .inl x))]))) (vp_Si (fun r => r = zb (decide (kRei r1 i j c1 x)))) 0 0 (fun _ => False) := by
  refine met_R (by decide) (Nat.le_of_ble_eq_true rfl) ?_
  intro p e s m below meth c ls hx hb hr hlocks hml hown hin hA hP hK hD hN hl
  have hown : s.vm.findClass R_R = some m.cls := hown
  have hl : lv_has ls 2 [(0, .ref o), (1, .ref b1)] := hl
  refine lv_aload_n hx hb d_R_holdsAt_0 rfl (lv_at hl 1 rfl) ?_
  refine lv_aload_n hx hb d_R_holdsAt_1 rfl (lv_at hl 0 rfl) ?_
  refine va_get (D := D) (ci := 3) (v := .int r1) (C := R_R) (T := T_R) (N := 4) hx hb hA inA_R hown hK hP 0 rfl rfl 0 (by decide) (hA _ wd_222) (fun _ h9 => h9) rfl d_R_holdsAt_2 ?_
  refine va_iald hx hb hK hP 1 0 rfl rfl (hr19) d_R_holdsAt_5 ?_
  refine lv_iconst (v := 1) hx hb d_R_holdsAt_6 (by decide) ?_
  refine lv_icmp_lt (tgt := 14) hx hb d_R_holdsAt_7 (by decide) (fun h7 => ?_) (fun h7 => ?_)
  · skip
    refine lv_iconst (v := 0) hx hb d_R_holdsAt_14 (by decide) ?_
    refine lv_aload_n hx hb d_R_holdsAt_15 rfl (lv_at hl 1 rfl) ?_
    refine lv_aload_n hx hb d_R_holdsAt_16 rfl (lv_at hl 0 rfl) ?_
    refine va_get (D := D) (ci := 3) (v := .int i) (C := R_R) (T := T_R) (N := 4) hx hb hA inA_R hown hK hP 0 rfl rfl 1 (by decide) (hA _ wd_223) (fun _ h9 => h9) rfl d_R_holdsAt_17 ?_
    refine va_iald hx hb hK hP 1 0 rfl rfl (hi9) d_R_holdsAt_20 ?_
    refine lv_aload_n hx hb d_R_holdsAt_21 rfl (lv_at hl 1 rfl) ?_
    refine lv_aload_n hx hb d_R_holdsAt_22 rfl (lv_at hl 0 rfl) ?_
    refine va_get (D := D) (ci := 3) (v := .int j) (C := R_R) (T := T_R) (N := 4) hx hb hA inA_R hown hK hP 0 rfl rfl 2 (by decide) (hA _ wd_224) (fun _ h9 => h9) rfl d_R_holdsAt_23 ?_
    refine va_iald hx hb hK hP 1 0 rfl rfl (hj9) d_R_holdsAt_26 ?_
    refine lv_aload_n hx hb d_R_holdsAt_27 rfl (lv_at hl 0 rfl) ?_
    refine va_get (D := D) (ci := 3) (v := .int c1) (C := R_R) (T := T_R) (N := 4) hx hb hA inA_R hown hK hP 0 rfl rfl 3 (by decide) (hA _ wd_225) (fun _ h9 => h9) rfl d_R_holdsAt_28 ?_
    refine lv_iadd hx hb d_R_holdsAt_31 ?_
    refine lv_icmp_gt (tgt := 39) hx hb d_R_holdsAt_32 (by decide) (fun h32 => ?_) (fun h32 => ?_)
    · skip
      refine lv_iconst (v := 0) hx hb d_R_holdsAt_39 (by decide) ?_
      refine lv_icmp_ne (tgt := 47) hx hb d_R_holdsAt_40 (by decide) (fun h => absurd h (by decide)) (fun _ => ?_)
      refine lv_iconst (v := 1) hx hb d_R_holdsAt_43 (by decide) ?_
      refine lv_goto (tgt := 48) hx hb d_R_holdsAt_44 (by decide) ?_
      exact eRz hx hb hr hlocks (by first | rfl | decide) (by first | exact zb_t (⟨fun _ => h32, fun _ => h7⟩) | exact zb_t (⟨fun h => absurd h h7, fun h => absurd h h32⟩)) d_R_holdsAt_48
    · skip
      refine lv_iconst (v := 1) hx hb d_R_holdsAt_35 (by decide) ?_
      refine lv_goto (tgt := 40) hx hb d_R_holdsAt_36 (by decide) ?_
      refine lv_icmp_ne (tgt := 47) hx hb d_R_holdsAt_40 (by decide) (fun _ => ?_) (fun h => absurd h (by decide))
      refine lv_iconst (v := 0) hx hb d_R_holdsAt_47 (by decide) ?_
      exact eRz hx hb hr hlocks (by first | rfl | decide) (by first | exact zb_f (fun h => h32 (h.1 h7)) | exact zb_f (fun h => h7 (h.2 h32))) d_R_holdsAt_48
  · skip
    refine lv_iconst (v := 1) hx hb d_R_holdsAt_10 (by decide) ?_
    refine lv_goto (tgt := 15) hx hb d_R_holdsAt_11 (by decide) ?_
    refine lv_aload_n hx hb d_R_holdsAt_15 rfl (lv_at hl 1 rfl) ?_
    refine lv_aload_n hx hb d_R_holdsAt_16 rfl (lv_at hl 0 rfl) ?_
    refine va_get (D := D) (ci := 3) (v := .int i) (C := R_R) (T := T_R) (N := 4) hx hb hA inA_R hown hK hP 0 rfl rfl 1 (by decide) (hA _ wd_223) (fun _ h9 => h9) rfl d_R_holdsAt_17 ?_
    refine va_iald hx hb hK hP 1 0 rfl rfl (hi9) d_R_holdsAt_20 ?_
    refine lv_aload_n hx hb d_R_holdsAt_21 rfl (lv_at hl 1 rfl) ?_
    refine lv_aload_n hx hb d_R_holdsAt_22 rfl (lv_at hl 0 rfl) ?_
    refine va_get (D := D) (ci := 3) (v := .int j) (C := R_R) (T := T_R) (N := 4) hx hb hA inA_R hown hK hP 0 rfl rfl 2 (by decide) (hA _ wd_224) (fun _ h9 => h9) rfl d_R_holdsAt_23 ?_
    refine va_iald hx hb hK hP 1 0 rfl rfl (hj9) d_R_holdsAt_26 ?_
    refine lv_aload_n hx hb d_R_holdsAt_27 rfl (lv_at hl 0 rfl) ?_
    refine va_get (D := D) (ci := 3) (v := .int c1) (C := R_R) (T := T_R) (N := 4) hx hb hA inA_R hown hK hP 0 rfl rfl 3 (by decide) (hA _ wd_225) (fun _ h9 => h9) rfl d_R_holdsAt_28 ?_
    refine lv_iadd hx hb d_R_holdsAt_31 ?_
    refine lv_icmp_gt (tgt := 39) hx hb d_R_holdsAt_32 (by decide) (fun h32 => ?_) (fun h32 => ?_)
    · skip
      refine lv_iconst (v := 0) hx hb d_R_holdsAt_39 (by decide) ?_
      refine lv_icmp_ne (tgt := 47) hx hb d_R_holdsAt_40 (by decide) (fun _ => ?_) (fun h => absurd h (by decide))
      refine lv_iconst (v := 0) hx hb d_R_holdsAt_47 (by decide) ?_
      exact eRz hx hb hr hlocks (by first | rfl | decide) (by first | exact zb_f (fun h => h32 (h.1 h7)) | exact zb_f (fun h => h7 (h.2 h32))) d_R_holdsAt_48
    · skip
      refine lv_iconst (v := 1) hx hb d_R_holdsAt_35 (by decide) ?_
      refine lv_goto (tgt := 40) hx hb d_R_holdsAt_36 (by decide) ?_
      refine lv_icmp_ne (tgt := 47) hx hb d_R_holdsAt_40 (by decide) (fun h => absurd h (by decide)) (fun _ => ?_)
      refine lv_iconst (v := 1) hx hb d_R_holdsAt_43 (by decide) ?_
      refine lv_goto (tgt := 48) hx hb d_R_holdsAt_44 (by decide) ?_
      exact eRz hx hb hr hlocks (by first | rfl | decide) (by first | exact zb_t (⟨fun _ => h32, fun _ => h7⟩) | exact zb_t (⟨fun h => absurd h h7, fun h => absurd h h32⟩)) d_R_holdsAt_48
end
