section
set_option maxRecDepth 100000 in
set_option maxHeartbeats 4000000 in
theorem c_value (l : Launch) (D : va_G) (q : Nat → Nat) (n P k a : Nat) (z : Int32) (lo hi B av al ah an pt fd : Nat → Int32) (i : Int32) (hn : n ≤ 8) : Met l y_X_value (wsm y_X_value b_X_value 2 (some .int)) { frames := 1, cells := 0, slots := 0, locals := 21 } (va_Pc [.ref (q 0), .int i] (cPre D (xw D q n P k a z lo hi B av al ah an pt fd))) (vp_Si (fun r => r = if ¬ z = 0 ∧ iv n i then an i.toNatClampNeg else 1000)) 0 0 (fun _ => False) := by
  refine met_R (by decide) (Nat.le_of_ble_eq_true rfl) ?_
  intro p e s m below meth c ls hx hb hr hlocks hml hown hin hA hP hK hD hN hl
  have hown : s.vm.findClass R_X = some m.cls := hown
  have hl : lv_has ls 2 [(0, .ref (q 0)), (1, .int i)] := hl
  refine lv_aload_n hx hb d_X_value_0 rfl (lv_at hl 0 rfl) ?_
  refine va_get (D := D) (ci := 0) (v := .int z) (C := R_X) (T := T_X) (N := 14) hx hb hA inA_X hown hK hP 0 rfl rfl 11 (by decide) (hA _ wd_36) (fun _ h9 => h9) rfl d_X_value_1 ?_
  refine lv_if_eq (tgt := 24) hx hb d_X_value_4 (by decide) (fun h4 => ?_) (fun h4 => ?_)
  · skip
    refine lv_sipush (v := 1000) hx hb d_X_value_24 (by decide) ?_
    exact eR hx hb hr hlocks (by first | exact Eq.symm (if_pos ⟨h4, h9⟩) | exact Eq.symm (if_neg (fun h : ¬ z = 0 ∧ iv n i => h9 h.2)) | exact Eq.symm (if_neg (fun h : ¬ z = 0 ∧ iv n i => h.1 h4))) d_X_value_27
  · skip
    refine lv_aload_n hx hb d_X_value_7 rfl (lv_at hl 0 rfl) ?_
    refine lv_iload_n hx hb d_X_value_8 rfl (lv_at hl 1 rfl) ?_
    refine rV (n := 1) (rest := []) hx hb hml hown hA (c_isVariable l D q n P k a z lo hi B av al ah an pt fd i) wv_X_75 ⟨by decide, by decide, by decide +kernel⟩ ⟨rfl, rfl, by decide, by decide⟩ rfl hl.1 ⟨Nat.le_of_ble_eq_true rfl, Nat.le_of_ble_eq_true rfl⟩ hP hK hD hN 0 0 rfl rfl rfl (Nat.le_of_ble_eq_true rfl) d_X_value_9 (fun r hr9 => ?_)
    rcases zb_c hr9 with ⟨rfl, h9⟩ | ⟨rfl, h9⟩
    · skip
      refine lv_if_eq (tgt := 24) hx hb d_X_value_12 (by decide) (fun h => absurd h (by decide)) (fun _ => ?_)
      refine lv_aload_n hx hb d_X_value_15 rfl (lv_at hl 0 rfl) ?_
      refine va_get (D := D) (ci := 0) (v := .ref (q 7)) (C := R_X) (T := T_X) (N := 14) hx hb hA inA_X hown hK hP 0 rfl rfl 10 (by decide) (hA _ wd_35) (fun _ h9 => h9) rfl d_X_value_16 ?_
      refine lv_iload_n hx hb d_X_value_19 rfl (lv_at hl 1 rfl) ?_
      refine va_iald hx hb hK hP 7 0 rfl rfl (iv_in h9 hn) d_X_value_20 ?_
      refine lv_goto (tgt := 27) hx hb d_X_value_21 (by decide) ?_
      exact eR hx hb hr hlocks (by first | exact Eq.symm (if_pos ⟨h4, h9⟩) | exact Eq.symm (if_neg (fun h : ¬ z = 0 ∧ iv n i => h9 h.2)) | exact Eq.symm (if_neg (fun h : ¬ z = 0 ∧ iv n i => h.1 h4))) d_X_value_27
    · skip
      refine lv_if_eq (tgt := 24) hx hb d_X_value_12 (by decide) (fun _ => ?_) (fun h => absurd h (by decide))
      refine lv_sipush (v := 1000) hx hb d_X_value_24 (by decide) ?_
      exact eR hx hb hr hlocks (by first | exact Eq.symm (if_pos ⟨h4, h9⟩) | exact Eq.symm (if_neg (fun h : ¬ z = 0 ∧ iv n i => h9 h.2)) | exact Eq.symm (if_neg (fun h : ¬ z = 0 ∧ iv n i => h.1 h4))) d_X_value_27
end
