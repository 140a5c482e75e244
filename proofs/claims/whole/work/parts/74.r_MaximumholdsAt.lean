section
set_option maxRecDepth 100000 in
set_option maxHeartbeats 4000000 in
theorem c_Maximum (l : Launch) (D : va_G) (o b1 : Nat) (r1 : Int32) (i : Int32) (j : Int32) (v : Int32) (x : Nat → Int32) (hr19 : vp_in r1 8) (hi9 : vp_in i 8) (hj9 : j = -1 ∨ vp_in j 8) (hv9 : v = -1 ∨ vp_in v 8) : Met l y_M_holdsAt (wsm y_M_holdsAt b_M_holdsAt 3 (some .boolean)) { frames := 1, cells := 0, slots := 0, locals := 13 } (va_Pc [.ref o, .ref b1] (cPre D ([(o, .inr (4, [.int r1, .int i, .int j, .int v])), (b1, .inl (D.1 100, 8, .inl x))]))) (vp_Si (fun r => r = zb (decide (kMax r1 i j v x)))) 0 0 (fun _ => False) := by
  refine met_R (by decide) (Nat.le_of_ble_eq_true rfl) ?_
  intro p e s m below meth c ls hx hb hr hlocks hml hown hin hA hP hK hD hN hl
  have hown : s.vm.findClass R_M = some m.cls := hown
  have hl : lv_has ls 3 [(0, .ref o), (1, .ref b1)] := hl
  refine lv_aload_n hx hb d_M_holdsAt_0 rfl (lv_at hl 1 rfl) ?_
  refine lv_aload_n hx hb d_M_holdsAt_1 rfl (lv_at hl 0 rfl) ?_
  refine va_get (D := D) (ci := 4) (v := .int i) (C := R_M) (T := T_M) (N := 4) hx hb hA inA_M hown hK hP 0 rfl rfl 1 (by decide) (hA _ wd_246) (fun _ h9 => h9) rfl d_M_holdsAt_2 ?_
  refine va_iald hx hb hK hP 1 0 rfl rfl (hi9) d_M_holdsAt_5 ?_
  refine lv_istore_n hx hb d_M_holdsAt_6 rfl hl (by decide) rfl (fun ls hl => ?_)
  have hl : lv_has ls 3 [(2, .int (x i.toNatClampNeg)), (0, .ref o), (1, .ref b1)] := hl
  refine lv_aload_n hx hb d_M_holdsAt_7 rfl (lv_at hl 1 rfl) ?_
  refine va_get (D := D) (ci := 4) (v := .int j) (C := R_M) (T := T_M) (N := 4) hx hb hA inA_M hown hK hP 0 rfl rfl 2 (by decide) (hA _ wd_247) (fun _ h9 => h9) rfl d_M_holdsAt_8 ?_
  refine lv_iconst (v := (-1)) hx hb d_M_holdsAt_11 (by decide) ?_
  refine lv_icmp_eq (tgt := 26) hx hb d_M_holdsAt_12 (by decide) (fun h12 => ?_) (fun h12 => ?_)
  · skip
    refine lv_aload_n hx hb d_M_holdsAt_26 rfl (lv_at hl 1 rfl) ?_
    refine va_get (D := D) (ci := 4) (v := .int v) (C := R_M) (T := T_M) (N := 4) hx hb hA inA_M hown hK hP 0 rfl rfl 3 (by decide) (hA _ wd_248) (fun _ h9 => h9) rfl d_M_holdsAt_27 ?_
    refine lv_iconst (v := (-1)) hx hb d_M_holdsAt_30 (by decide) ?_
    refine lv_icmp_eq (tgt := 45) hx hb d_M_holdsAt_31 (by decide) (fun h31 => ?_) (fun h31 => ?_)
    · skip
      refine lv_aload_n hx hb d_M_holdsAt_45 rfl (lv_at hl 2 rfl) ?_
      refine lv_aload_n hx hb d_M_holdsAt_46 rfl (lv_at hl 1 rfl) ?_
      refine va_get (D := D) (ci := 4) (v := .int r1) (C := R_M) (T := T_M) (N := 4) hx hb hA inA_M hown hK hP 0 rfl rfl 0 (by decide) (hA _ wd_245) (fun _ h9 => h9) rfl d_M_holdsAt_47 ?_
      refine va_iald hx hb hK hP 1 0 rfl rfl (hr19) d_M_holdsAt_50 ?_
      refine lv_iload_n hx hb d_M_holdsAt_51 rfl (lv_at hl 0 rfl) ?_
      refine lv_icmp_ne (tgt := 59) hx hb d_M_holdsAt_52 (by decide) (fun h52 => ?_) (fun h52 => ?_)
      · skip
        refine lv_iconst (v := 0) hx hb d_M_holdsAt_59 (by decide) ?_
        exact eRz hx hb hr hlocks (by first | rfl | decide) (by first | exact zb_f (fun h => h52 (by simp only [kMax, mx3, mx2, h12, h31, eq_self, ↓reduceIte] at h; exact h))) d_M_holdsAt_60
      · skip
        refine lv_iconst (v := 1) hx hb d_M_holdsAt_55 (by decide) ?_
        refine lv_goto (tgt := 60) hx hb d_M_holdsAt_56 (by decide) ?_
        exact eRz hx hb hr hlocks (by first | rfl | decide) (by first | exact zb_t (by simp only [kMax, mx3, mx2, h12, h31, eq_self, ↓reduceIte]; exact h52)) d_M_holdsAt_60
    · skip
      refine lv_iload_n hx hb d_M_holdsAt_34 rfl (lv_at hl 0 rfl) ?_
      refine lv_aload_n hx hb d_M_holdsAt_35 rfl (lv_at hl 2 rfl) ?_
      refine lv_aload_n hx hb d_M_holdsAt_36 rfl (lv_at hl 1 rfl) ?_
      refine va_get (D := D) (ci := 4) (v := .int v) (C := R_M) (T := T_M) (N := 4) hx hb hA inA_M hown hK hP 0 rfl rfl 3 (by decide) (hA _ wd_248) (fun _ h9 => h9) rfl d_M_holdsAt_37 ?_
      refine va_iald hx hb hK hP 1 0 rfl rfl (hv9.resolve_left h31) d_M_holdsAt_40 ?_
      refine va_mmax hx hb (hml.trans hl.1.symm) hown (hA _ wm_M_24.1) (hA _ wm_M_24.2.1) (hA _ wm_M_24.2.2.1) (hA _ wm_M_24.2.2.2) (by decide) (by decide) (by decide) (by decide) d_M_holdsAt_41 ?_
      refine lv_istore_n hx hb d_M_holdsAt_44 rfl hl (by decide) rfl (fun ls hl => ?_)
      have hl : lv_has ls 3 [(2, .int (if (x i.toNatClampNeg) < (x v.toNatClampNeg) then (x v.toNatClampNeg) else (x i.toNatClampNeg))), (0, .ref o), (1, .ref b1)] := hl
      refine lv_aload_n hx hb d_M_holdsAt_45 rfl (lv_at hl 2 rfl) ?_
      refine lv_aload_n hx hb d_M_holdsAt_46 rfl (lv_at hl 1 rfl) ?_
      refine va_get (D := D) (ci := 4) (v := .int r1) (C := R_M) (T := T_M) (N := 4) hx hb hA inA_M hown hK hP 0 rfl rfl 0 (by decide) (hA _ wd_245) (fun _ h9 => h9) rfl d_M_holdsAt_47 ?_
      refine va_iald hx hb hK hP 1 0 rfl rfl (hr19) d_M_holdsAt_50 ?_
      refine lv_iload_n hx hb d_M_holdsAt_51 rfl (lv_at hl 0 rfl) ?_
      refine lv_icmp_ne (tgt := 59) hx hb d_M_holdsAt_52 (by decide) (fun h52 => ?_) (fun h52 => ?_)
      · skip
        refine lv_iconst (v := 0) hx hb d_M_holdsAt_59 (by decide) ?_
        exact eRz hx hb hr hlocks (by first | rfl | decide) (by first | exact zb_f (fun h => h52 (by simp only [kMax, mx3, mx2, h12, h31, eq_self, ↓reduceIte] at h; exact h))) d_M_holdsAt_60
      · skip
        refine lv_iconst (v := 1) hx hb d_M_holdsAt_55 (by decide) ?_
        refine lv_goto (tgt := 60) hx hb d_M_holdsAt_56 (by decide) ?_
        exact eRz hx hb hr hlocks (by first | rfl | decide) (by first | exact zb_t (by simp only [kMax, mx3, mx2, h12, h31, eq_self, ↓reduceIte]; exact h52)) d_M_holdsAt_60
  · skip
    refine lv_iload_n hx hb d_M_holdsAt_15 rfl (lv_at hl 0 rfl) ?_
    refine lv_aload_n hx hb d_M_holdsAt_16 rfl (lv_at hl 2 rfl) ?_
    refine lv_aload_n hx hb d_M_holdsAt_17 rfl (lv_at hl 1 rfl) ?_
    refine va_get (D := D) (ci := 4) (v := .int j) (C := R_M) (T := T_M) (N := 4) hx hb hA inA_M hown hK hP 0 rfl rfl 2 (by decide) (hA _ wd_247) (fun _ h9 => h9) rfl d_M_holdsAt_18 ?_
    refine va_iald hx hb hK hP 1 0 rfl rfl (hj9.resolve_left h12) d_M_holdsAt_21 ?_
    refine va_mmax hx hb (hml.trans hl.1.symm) hown (hA _ wm_M_24.1) (hA _ wm_M_24.2.1) (hA _ wm_M_24.2.2.1) (hA _ wm_M_24.2.2.2) (by decide) (by decide) (by decide) (by decide) d_M_holdsAt_22 ?_
    refine lv_istore_n hx hb d_M_holdsAt_25 rfl hl (by decide) rfl (fun ls hl => ?_)
    have hl : lv_has ls 3 [(2, .int (if (x i.toNatClampNeg) < (x j.toNatClampNeg) then (x j.toNatClampNeg) else (x i.toNatClampNeg))), (0, .ref o), (1, .ref b1)] := hl
    refine lv_aload_n hx hb d_M_holdsAt_26 rfl (lv_at hl 1 rfl) ?_
    refine va_get (D := D) (ci := 4) (v := .int v) (C := R_M) (T := T_M) (N := 4) hx hb hA inA_M hown hK hP 0 rfl rfl 3 (by decide) (hA _ wd_248) (fun _ h9 => h9) rfl d_M_holdsAt_27 ?_
    refine lv_iconst (v := (-1)) hx hb d_M_holdsAt_30 (by decide) ?_
    refine lv_icmp_eq (tgt := 45) hx hb d_M_holdsAt_31 (by decide) (fun h31 => ?_) (fun h31 => ?_)
    · skip
      refine lv_aload_n hx hb d_M_holdsAt_45 rfl (lv_at hl 2 rfl) ?_
      refine lv_aload_n hx hb d_M_holdsAt_46 rfl (lv_at hl 1 rfl) ?_
      refine va_get (D := D) (ci := 4) (v := .int r1) (C := R_M) (T := T_M) (N := 4) hx hb hA inA_M hown hK hP 0 rfl rfl 0 (by decide) (hA _ wd_245) (fun _ h9 => h9) rfl d_M_holdsAt_47 ?_
      refine va_iald hx hb hK hP 1 0 rfl rfl (hr19) d_M_holdsAt_50 ?_
      refine lv_iload_n hx hb d_M_holdsAt_51 rfl (lv_at hl 0 rfl) ?_
      refine lv_icmp_ne (tgt := 59) hx hb d_M_holdsAt_52 (by decide) (fun h52 => ?_) (fun h52 => ?_)
      · skip
        refine lv_iconst (v := 0) hx hb d_M_holdsAt_59 (by decide) ?_
        exact eRz hx hb hr hlocks (by first | rfl | decide) (by first | exact zb_f (fun h => h52 (by simp only [kMax, mx3, mx2, h12, h31, eq_self, ↓reduceIte] at h; exact h))) d_M_holdsAt_60
      · skip
        refine lv_iconst (v := 1) hx hb d_M_holdsAt_55 (by decide) ?_
        refine lv_goto (tgt := 60) hx hb d_M_holdsAt_56 (by decide) ?_
        exact eRz hx hb hr hlocks (by first | rfl | decide) (by first | exact zb_t (by simp only [kMax, mx3, mx2, h12, h31, eq_self, ↓reduceIte]; exact h52)) d_M_holdsAt_60
    · skip
      refine lv_iload_n hx hb d_M_holdsAt_34 rfl (lv_at hl 0 rfl) ?_
      refine lv_aload_n hx hb d_M_holdsAt_35 rfl (lv_at hl 2 rfl) ?_
      refine lv_aload_n hx hb d_M_holdsAt_36 rfl (lv_at hl 1 rfl) ?_
      refine va_get (D := D) (ci := 4) (v := .int v) (C := R_M) (T := T_M) (N := 4) hx hb hA inA_M hown hK hP 0 rfl rfl 3 (by decide) (hA _ wd_248) (fun _ h9 => h9) rfl d_M_holdsAt_37 ?_
      refine va_iald hx hb hK hP 1 0 rfl rfl (hv9.resolve_left h31) d_M_holdsAt_40 ?_
      refine va_mmax hx hb (hml.trans hl.1.symm) hown (hA _ wm_M_24.1) (hA _ wm_M_24.2.1) (hA _ wm_M_24.2.2.1) (hA _ wm_M_24.2.2.2) (by decide) (by decide) (by decide) (by decide) d_M_holdsAt_41 ?_
      refine lv_istore_n hx hb d_M_holdsAt_44 rfl hl (by decide) rfl (fun ls hl => ?_)
      have hl : lv_has ls 3 [(2, .int (if (if (x i.toNatClampNeg) < (x j.toNatClampNeg) then (x j.toNatClampNeg) else (x i.toNatClampNeg)) < (x v.toNatClampNeg) then (x v.toNatClampNeg) else (if (x i.toNatClampNeg) < (x j.toNatClampNeg) then (x j.toNatClampNeg) else (x i.toNatClampNeg)))), (0, .ref o), (1, .ref b1)] := hl
      refine lv_aload_n hx hb d_M_holdsAt_45 rfl (lv_at hl 2 rfl) ?_
      refine lv_aload_n hx hb d_M_holdsAt_46 rfl (lv_at hl 1 rfl) ?_
      refine va_get (D := D) (ci := 4) (v := .int r1) (C := R_M) (T := T_M) (N := 4) hx hb hA inA_M hown hK hP 0 rfl rfl 0 (by decide) (hA _ wd_245) (fun _ h9 => h9) rfl d_M_holdsAt_47 ?_
      refine va_iald hx hb hK hP 1 0 rfl rfl (hr19) d_M_holdsAt_50 ?_
      refine lv_iload_n hx hb d_M_holdsAt_51 rfl (lv_at hl 0 rfl) ?_
      refine lv_icmp_ne (tgt := 59) hx hb d_M_holdsAt_52 (by decide) (fun h52 => ?_) (fun h52 => ?_)
      · skip
        refine lv_iconst (v := 0) hx hb d_M_holdsAt_59 (by decide) ?_
        exact eRz hx hb hr hlocks (by first | rfl | decide) (by first | exact zb_f (fun h => h52 (by simp only [kMax, mx3, mx2, h12, h31, eq_self, ↓reduceIte] at h; exact h))) d_M_holdsAt_60
      · skip
        refine lv_iconst (v := 1) hx hb d_M_holdsAt_55 (by decide) ?_
        refine lv_goto (tgt := 60) hx hb d_M_holdsAt_56 (by decide) ?_
        exact eRz hx hb hr hlocks (by first | rfl | decide) (by first | exact zb_t (by simp only [kMax, mx3, mx2, h12, h31, eq_self, ↓reduceIte]; exact h52)) d_M_holdsAt_60
end
