section
set_option maxRecDepth 100000 in
set_option maxHeartbeats 4000000 in
theorem c_Clause (l : Launch) (D : va_G) (o b1 : Nat) (i : Int32) (w1 : Int32) (j : Int32) (w2 : Int32) (v : Int32) (w3 : Int32) (how : Int32) (x : Nat → Int32) (hi9 : i = -1 ∨ vp_in i 8) (hj9 : j = -1 ∨ vp_in j 8) (hv9 : v = -1 ∨ vp_in v 8) : Met l y_C_holdsAt (wsm y_C_holdsAt b_C_holdsAt 2 (some .boolean)) { frames := 2, cells := 0, slots := 0, locals := 45 } (va_Pc [.ref o, .ref b1] (cPre D ([(o, .inr (8, [.int i, .int w1, .int j, .int w2, .int v, .int w3, .int how])), (b1, .inl (D.1 100, 8, .inl x))]))) (vp_Si (fun r => r = zb (decide (kCla i w1 j w2 v w3 how x)))) 0 0 (fun _ => False) := by
  refine met_R (by decide) (Nat.le_of_ble_eq_true rfl) ?_
  intro p e s m below meth c ls hx hb hr hlocks hml hown hin hA hP hK hD hN hl
  have hown : s.vm.findClass R_C = some m.cls := hown
  have hl : lv_has ls 2 [(0, .ref o), (1, .ref b1)] := hl
  refine lv_aload_n hx hb d_C_holdsAt_0 rfl (lv_at hl 0 rfl) ?_
  refine lv_aload_n hx hb d_C_holdsAt_1 rfl (lv_at hl 0 rfl) ?_
  refine va_get (D := D) (ci := 8) (v := .int i) (C := R_C) (T := T_C) (N := 7) hx hb hA inA_C hown hK hP 0 rfl rfl 0 (by decide) (hA _ wd_327) (fun _ h9 => h9) rfl d_C_holdsAt_2 ?_
  refine lv_aload_n hx hb d_C_holdsAt_5 rfl (lv_at hl 0 rfl) ?_
  refine va_get (D := D) (ci := 8) (v := .int w1) (C := R_C) (T := T_C) (N := 7) hx hb hA inA_C hown hK hP 0 rfl rfl 1 (by decide) (hA _ wd_328) (fun _ h9 => h9) rfl d_C_holdsAt_6 ?_
  refine lv_iconst (v := 0) hx hb d_C_holdsAt_9 (by decide) ?_
  refine lv_aload_n hx hb d_C_holdsAt_10 rfl (lv_at hl 1 rfl) ?_
  refine rV (n := 4) (rest := []) hx hb hml hown hA (c_partHolds l D o b1 i w1 j w2 v w3 how i w1 0 x hi9) wv_C_33 ⟨by decide, by decide, by decide +kernel⟩ ⟨rfl, rfl, by decide, by decide⟩ rfl hl.1 ⟨Nat.le_of_ble_eq_true rfl, Nat.le_of_ble_eq_true rfl⟩ hP hK hD hN 0 8 rfl rfl rfl (Nat.le_of_ble_eq_true rfl) d_C_holdsAt_11 (fun r hr9 => ?_)
  rcases zb_c hr9 with ⟨rfl, h11⟩ | ⟨rfl, h11⟩
  · skip
    refine lv_if_ne (tgt := 51) hx hb d_C_holdsAt_14 (by decide) (fun _ => ?_) (fun h => absurd h (by decide))
    refine lv_iconst (v := 1) hx hb d_C_holdsAt_51 (by decide) ?_
    refine lv_goto (tgt := 56) hx hb d_C_holdsAt_52 (by decide) ?_
    exact eRz hx hb hr hlocks (by first | rfl | decide) (by first | exact zb_t (Or.inl h11) | exact zb_t (Or.inr (Or.inl h28)) | exact zb_t (Or.inr (Or.inr h45))) d_C_holdsAt_56
  · skip
    refine lv_if_ne (tgt := 51) hx hb d_C_holdsAt_14 (by decide) (fun h => absurd h (by decide)) (fun _ => ?_)
    refine lv_aload_n hx hb d_C_holdsAt_17 rfl (lv_at hl 0 rfl) ?_
    refine lv_aload_n hx hb d_C_holdsAt_18 rfl (lv_at hl 0 rfl) ?_
    refine va_get (D := D) (ci := 8) (v := .int j) (C := R_C) (T := T_C) (N := 7) hx hb hA inA_C hown hK hP 0 rfl rfl 2 (by decide) (hA _ wd_329) (fun _ h9 => h9) rfl d_C_holdsAt_19 ?_
    refine lv_aload_n hx hb d_C_holdsAt_22 rfl (lv_at hl 0 rfl) ?_
    refine va_get (D := D) (ci := 8) (v := .int w2) (C := R_C) (T := T_C) (N := 7) hx hb hA inA_C hown hK hP 0 rfl rfl 3 (by decide) (hA _ wd_330) (fun _ h9 => h9) rfl d_C_holdsAt_23 ?_
    refine lv_iconst (v := 1) hx hb d_C_holdsAt_26 (by decide) ?_
    refine lv_aload_n hx hb d_C_holdsAt_27 rfl (lv_at hl 1 rfl) ?_
    refine rV (n := 4) (rest := []) hx hb hml hown hA (c_partHolds l D o b1 i w1 j w2 v w3 how j w2 1 x hj9) wv_C_33 ⟨by decide, by decide, by decide +kernel⟩ ⟨rfl, rfl, by decide, by decide⟩ rfl hl.1 ⟨Nat.le_of_ble_eq_true rfl, Nat.le_of_ble_eq_true rfl⟩ hP hK hD hN 0 8 rfl rfl rfl (Nat.le_of_ble_eq_true rfl) d_C_holdsAt_28 (fun r hr9 => ?_)
    rcases zb_c hr9 with ⟨rfl, h28⟩ | ⟨rfl, h28⟩
    · skip
      refine lv_if_ne (tgt := 51) hx hb d_C_holdsAt_31 (by decide) (fun _ => ?_) (fun h => absurd h (by decide))
      refine lv_iconst (v := 1) hx hb d_C_holdsAt_51 (by decide) ?_
      refine lv_goto (tgt := 56) hx hb d_C_holdsAt_52 (by decide) ?_
      exact eRz hx hb hr hlocks (by first | rfl | decide) (by first | exact zb_t (Or.inl h11) | exact zb_t (Or.inr (Or.inl h28)) | exact zb_t (Or.inr (Or.inr h45))) d_C_holdsAt_56
    · skip
      refine lv_if_ne (tgt := 51) hx hb d_C_holdsAt_31 (by decide) (fun h => absurd h (by decide)) (fun _ => ?_)
      refine lv_aload_n hx hb d_C_holdsAt_34 rfl (lv_at hl 0 rfl) ?_
      refine lv_aload_n hx hb d_C_holdsAt_35 rfl (lv_at hl 0 rfl) ?_
      refine va_get (D := D) (ci := 8) (v := .int v) (C := R_C) (T := T_C) (N := 7) hx hb hA inA_C hown hK hP 0 rfl rfl 4 (by decide) (hA _ wd_331) (fun _ h9 => h9) rfl d_C_holdsAt_36 ?_
      refine lv_aload_n hx hb d_C_holdsAt_39 rfl (lv_at hl 0 rfl) ?_
      refine va_get (D := D) (ci := 8) (v := .int w3) (C := R_C) (T := T_C) (N := 7) hx hb hA inA_C hown hK hP 0 rfl rfl 5 (by decide) (hA _ wd_332) (fun _ h9 => h9) rfl d_C_holdsAt_40 ?_
      refine lv_iconst (v := 2) hx hb d_C_holdsAt_43 (by decide) ?_
      refine lv_aload_n hx hb d_C_holdsAt_44 rfl (lv_at hl 1 rfl) ?_
      refine rV (n := 4) (rest := []) hx hb hml hown hA (c_partHolds l D o b1 i w1 j w2 v w3 how v w3 2 x hv9) wv_C_33 ⟨by decide, by decide, by decide +kernel⟩ ⟨rfl, rfl, by decide, by decide⟩ rfl hl.1 ⟨Nat.le_of_ble_eq_true rfl, Nat.le_of_ble_eq_true rfl⟩ hP hK hD hN 0 8 rfl rfl rfl (Nat.le_of_ble_eq_true rfl) d_C_holdsAt_45 (fun r hr9 => ?_)
      rcases zb_c hr9 with ⟨rfl, h45⟩ | ⟨rfl, h45⟩
      · skip
        refine lv_if_eq (tgt := 55) hx hb d_C_holdsAt_48 (by decide) (fun h => absurd h (by decide)) (fun _ => ?_)
        refine lv_iconst (v := 1) hx hb d_C_holdsAt_51 (by decide) ?_
        refine lv_goto (tgt := 56) hx hb d_C_holdsAt_52 (by decide) ?_
        exact eRz hx hb hr hlocks (by first | rfl | decide) (by first | exact zb_t (Or.inl h11) | exact zb_t (Or.inr (Or.inl h28)) | exact zb_t (Or.inr (Or.inr h45))) d_C_holdsAt_56
      · skip
        refine lv_if_eq (tgt := 55) hx hb d_C_holdsAt_48 (by decide) (fun _ => ?_) (fun h => absurd h (by decide))
        refine lv_iconst (v := 0) hx hb d_C_holdsAt_55 (by decide) ?_
        exact eRz hx hb hr hlocks (by first | rfl | decide) (by first | exact zb_f (fun h => h.elim h11 (fun h => h.elim h28 h45))) d_C_holdsAt_56
end
