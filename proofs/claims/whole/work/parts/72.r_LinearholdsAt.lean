section
set_option maxRecDepth 100000 in
set_option maxHeartbeats 4000000 in
theorem c_Linear (l : Launch) (D : va_G) (o b1 : Nat) (i : Int32) (fa : Int32) (j : Int32) (fb : Int32) (v : Int32) (fc : Int32) (bd : Int32) (x : Nat → Int32) (hi9 : i = -1 ∨ vp_in i 8) (hj9 : j = -1 ∨ vp_in j 8) (hv9 : v = -1 ∨ vp_in v 8) : Met l y_L_holdsAt (wsm y_L_holdsAt b_L_holdsAt 2 (some .boolean)) { frames := 1, cells := 0, slots := 0, locals := 22 } (va_Pc [.ref o, .ref b1] (cPre D ([(o, .inr (2, [.int i, .int fa, .int j, .int fb, .int v, .int fc, .int bd])), (b1, .inl (D.1 100, 8, .inl x))]))) (vp_Si (fun r => r = zb (decide (kLin i fa j fb v fc bd x)))) 0 0 (fun _ => False) := by
  refine met_R (by decide) (Nat.le_of_ble_eq_true rfl) ?_
  intro p e s m below meth c ls hx hb hr hlocks hml hown hin hA hP hK hD hN hl
  have hown : s.vm.findClass R_L = some m.cls := hown
  have hl : lv_has ls 2 [(0, .ref o), (1, .ref b1)] := hl
  refine lv_aload_n hx hb d_L_holdsAt_0 rfl (lv_at hl 0 rfl) ?_
  refine va_get (D := D) (ci := 2) (v := .int fa) (C := R_L) (T := T_L) (N := 7) hx hb hA inA_L hown hK hP 0 rfl rfl 1 (by decide) (hA _ wd_106) (fun _ h9 => h9) rfl d_L_holdsAt_1 ?_
  refine lv_aload_n hx hb d_L_holdsAt_4 rfl (lv_at hl 0 rfl) ?_
  refine va_get (D := D) (ci := 2) (v := .int i) (C := R_L) (T := T_L) (N := 7) hx hb hA inA_L hown hK hP 0 rfl rfl 0 (by decide) (hA _ wd_105) (fun _ h9 => h9) rfl d_L_holdsAt_5 ?_
  refine lv_aload_n hx hb d_L_holdsAt_8 rfl (lv_at hl 1 rfl) ?_
  refine rS (n := 3) (rest := []) hx hb hml hown hA (c_product l D b1 fa i x hi9) wv_L_33 ⟨by decide, by decide, by decide +kernel⟩ ⟨rfl, rfl, by decide, by decide⟩ rfl hl.1 ⟨Nat.le_of_ble_eq_true rfl, Nat.le_of_ble_eq_true rfl⟩ (va_P.sub1 hP [1] rfl) hK (va_D.sub hD [1] (by decide) rfl) hN rfl (Nat.le_of_ble_eq_true rfl) d_L_holdsAt_9 (fun r hr9 => ?_)
  subst hr9
  refine lv_aload_n hx hb d_L_holdsAt_12 rfl (lv_at hl 0 rfl) ?_
  refine va_get (D := D) (ci := 2) (v := .int fb) (C := R_L) (T := T_L) (N := 7) hx hb hA inA_L hown hK hP 0 rfl rfl 3 (by decide) (hA _ wd_108) (fun _ h9 => h9) rfl d_L_holdsAt_13 ?_
  refine lv_aload_n hx hb d_L_holdsAt_16 rfl (lv_at hl 0 rfl) ?_
  refine va_get (D := D) (ci := 2) (v := .int j) (C := R_L) (T := T_L) (N := 7) hx hb hA inA_L hown hK hP 0 rfl rfl 2 (by decide) (hA _ wd_107) (fun _ h9 => h9) rfl d_L_holdsAt_17 ?_
  refine lv_aload_n hx hb d_L_holdsAt_20 rfl (lv_at hl 1 rfl) ?_
  refine rS (n := 3) (rest := [.int (lprod fa i x)]) hx hb hml hown hA (c_product l D b1 fb j x hj9) wv_L_33 ⟨by decide, by decide, by decide +kernel⟩ ⟨rfl, rfl, by decide, by decide⟩ rfl hl.1 ⟨Nat.le_of_ble_eq_true rfl, Nat.le_of_ble_eq_true rfl⟩ (va_P.sub1 hP [1] rfl) hK (va_D.sub hD [1] (by decide) rfl) hN rfl (Nat.le_of_ble_eq_true rfl) d_L_holdsAt_21 (fun r hr9 => ?_)
  subst hr9
  refine lv_iadd hx hb d_L_holdsAt_24 ?_
  refine lv_aload_n hx hb d_L_holdsAt_25 rfl (lv_at hl 0 rfl) ?_
  refine va_get (D := D) (ci := 2) (v := .int fc) (C := R_L) (T := T_L) (N := 7) hx hb hA inA_L hown hK hP 0 rfl rfl 5 (by decide) (hA _ wd_110) (fun _ h9 => h9) rfl d_L_holdsAt_26 ?_
  refine lv_aload_n hx hb d_L_holdsAt_29 rfl (lv_at hl 0 rfl) ?_
  refine va_get (D := D) (ci := 2) (v := .int v) (C := R_L) (T := T_L) (N := 7) hx hb hA inA_L hown hK hP 0 rfl rfl 4 (by decide) (hA _ wd_109) (fun _ h9 => h9) rfl d_L_holdsAt_30 ?_
  refine lv_aload_n hx hb d_L_holdsAt_33 rfl (lv_at hl 1 rfl) ?_
  refine rS (n := 3) (rest := [.int ((lprod fa i x) + (lprod fb j x))]) hx hb hml hown hA (c_product l D b1 fc v x hv9) wv_L_33 ⟨by decide, by decide, by decide +kernel⟩ ⟨rfl, rfl, by decide, by decide⟩ rfl hl.1 ⟨Nat.le_of_ble_eq_true rfl, Nat.le_of_ble_eq_true rfl⟩ (va_P.sub1 hP [1] rfl) hK (va_D.sub hD [1] (by decide) rfl) hN rfl (Nat.le_of_ble_eq_true rfl) d_L_holdsAt_34 (fun r hr9 => ?_)
  subst hr9
  refine lv_iadd hx hb d_L_holdsAt_37 ?_
  refine lv_aload_n hx hb d_L_holdsAt_38 rfl (lv_at hl 0 rfl) ?_
  refine va_get (D := D) (ci := 2) (v := .int bd) (C := R_L) (T := T_L) (N := 7) hx hb hA inA_L hown hK hP 0 rfl rfl 6 (by decide) (hA _ wd_111) (fun _ h9 => h9) rfl d_L_holdsAt_39 ?_
  refine lv_icmp_gt (tgt := 49) hx hb d_L_holdsAt_42 (by decide) (fun h42 => ?_) (fun h42 => ?_)
  · skip
    refine lv_iconst (v := 0) hx hb d_L_holdsAt_49 (by decide) ?_
    exact eRz hx hb hr hlocks (by first | rfl | decide) (by first | exact zb_f (fun h => h h42)) d_L_holdsAt_50
  · skip
    refine lv_iconst (v := 1) hx hb d_L_holdsAt_45 (by decide) ?_
    refine lv_goto (tgt := 50) hx hb d_L_holdsAt_46 (by decide) ?_
    exact eRz hx hb hr hlocks (by first | rfl | decide) (by first | exact zb_t (h42)) d_L_holdsAt_50
end
