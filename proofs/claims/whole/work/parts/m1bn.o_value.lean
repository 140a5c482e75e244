section
theorem d_O_value_0 : decode b_O_value 0 = .ok (.aload_n 0, 1) := by decide +kernel
theorem d_O_value_1 : decode b_O_value 1 = .ok (.getfield 46, 3) := by decide +kernel
theorem d_O_value_4 : decode b_O_value 4 = .ok (.ifCond .lt 11, 3) := by decide +kernel
theorem d_O_value_7 : decode b_O_value 7 = .ok (.aload_n 0, 1) := by decide +kernel
theorem d_O_value_8 : decode b_O_value 8 = .ok (.iload_n 1, 1) := by decide +kernel
theorem d_O_value_9 : decode b_O_value 9 = .ok (.invokevirtual 59, 3) := by decide +kernel
theorem d_O_value_12 : decode b_O_value 12 = .ok (.ifCond .ne 9, 3) := by decide +kernel
theorem d_O_value_15 : decode b_O_value 15 = .ok (.sipush 1000, 3) := by decide +kernel
theorem d_O_value_18 : decode b_O_value 18 = .ok (.goto 12, 3) := by decide +kernel
theorem d_O_value_21 : decode b_O_value 21 = .ok (.aload_n 0, 1) := by decide +kernel
theorem d_O_value_22 : decode b_O_value 22 = .ok (.aload_n 0, 1) := by decide +kernel
theorem d_O_value_23 : decode b_O_value 23 = .ok (.getfield 46, 3) := by decide +kernel
theorem d_O_value_26 : decode b_O_value 26 = .ok (.iload_n 1, 1) := by decide +kernel
theorem d_O_value_27 : decode b_O_value 27 = .ok (.invokevirtual 125, 3) := by decide +kernel
theorem d_O_value_30 : decode b_O_value 30 = .ok (.ireturn, 1) := by decide +kernel
set_option maxRecDepth 100000 in
set_option maxHeartbeats 4000000 in
theorem o_value (l : Launch) (D : va_G) (q : Nat → Nat) (n P rw a : Nat) (kn an : Int32) (lw s1 sd kd pa : Nat → Int32) (wd : Nat → Int64) (ao fo uo ho xo : Nat → Int32) (i : Int32) (hn : n ≤ 8) (hsd : ∀ i, i < n → ¬ sd i = 0 ∧ ¬ s1 i = 0) : Met l y_O_value (wsm y_O_value b_O_value 2 (some .int)) { frames := 1, cells := 0, slots := 0, locals := 22 } (va_Pc [.ref (q 0), .int i] (cPre D (ow D q n P rw a kn an lw s1 sd kd pa wd ao fo uo ho xo))) (vp_Si (fun r => r = if ¬ an < 0 ∧ iv n i then vIn lw s1 sd an i.toNatClampNeg else 1000)) 0 0 (fun _ => False) := by
  refine met_R (by decide) (Nat.le_of_ble_eq_true rfl) ?_
  intro p e s m below meth c ls hx hb hr hlocks hml hown hin hA hP hK hD hN hl
  have hown : s.vm.findClass R_O = some m.cls := hown
  have hl : lv_has ls 2 [(0, .ref (q 0)), (1, .int i)] := hl
  refine lv_aload_n hx hb d_O_value_0 rfl (lv_at hl 0 rfl) ?_
  refine va_get (D := D) (ci := 1) (v := .int an) (C := R_O) (T := T_O) (N := 17) hx hb hA inA_O hown hK hP 0 rfl rfl 15 (by decide) (hA _ wd_437) (fun _ h9 => h9) rfl d_O_value_1 ?_
  refine lv_if_lt (tgt := 15) hx hb d_O_value_4 (by decide) (fun h4 => ?_) (fun h4 => ?_)
  · skip
    refine lv_sipush (v := 1000) hx hb d_O_value_15 (by decide) ?_
    refine lv_goto (tgt := 30) hx hb d_O_value_18 (by decide) ?_
    exact eR hx hb hr hlocks (Eq.symm (if_neg (fun h => h.1 h4))) d_O_value_30
  · skip
    refine lv_aload_n hx hb d_O_value_7 rfl (lv_at hl 0 rfl) ?_
    refine lv_iload_n hx hb d_O_value_8 rfl (lv_at hl 1 rfl) ?_
    refine rV (n := 1) (rest := []) hx hb hml hown hA (o_isVariable l D q n P rw a kn an lw s1 sd kd pa wd ao fo uo ho xo i) wv_O_59 ⟨by decide, by decide, by decide +kernel⟩ ⟨rfl, rfl, by decide, by decide⟩ rfl hl.1 ⟨Nat.le_of_ble_eq_true rfl, Nat.le_of_ble_eq_true rfl⟩ hP hK hD hN 0 1 rfl rfl rfl (Nat.le_of_ble_eq_true rfl) d_O_value_9 (fun r hr9 => ?_)
    rcases zb_c hr9 with ⟨rfl, h9⟩ | ⟨rfl, h9⟩
    · skip
      refine lv_if_ne (tgt := 21) hx hb d_O_value_12 (by decide) (fun _ => ?_) (fun h => absurd h (by decide))
      refine lv_aload_n hx hb d_O_value_21 rfl (lv_at hl 0 rfl) ?_
      refine lv_aload_n hx hb d_O_value_22 rfl (lv_at hl 0 rfl) ?_
      refine va_get (D := D) (ci := 1) (v := .int an) (C := R_O) (T := T_O) (N := 17) hx hb hA inA_O hown hK hP 0 rfl rfl 15 (by decide) (hA _ wd_437) (fun _ h9 => h9) rfl d_O_value_23 ?_
      refine lv_iload_n hx hb d_O_value_26 rfl (lv_at hl 1 rfl) ?_
      refine rV (n := 2) (rest := []) hx hb hml hown hA (o_valueIn l D q n P rw a kn an lw s1 sd kd pa wd ao fo uo ho xo an i (viv h9 hn hsd).1 (viv h9 hn hsd).2.1 (viv h9 hn hsd).2.2) wv_O_125 ⟨by decide, by decide, by decide +kernel⟩ ⟨rfl, rfl, by decide, by decide⟩ rfl hl.1 ⟨Nat.le_of_ble_eq_true rfl, Nat.le_of_ble_eq_true rfl⟩ hP hK hD hN 0 1 rfl rfl rfl (Nat.le_of_ble_eq_true rfl) d_O_value_27 (fun r hr9 => ?_)
      subst hr9
      exact eR hx hb hr hlocks (Eq.symm (if_pos ⟨h4, h9⟩)) d_O_value_30
    · skip
      refine lv_if_ne (tgt := 21) hx hb d_O_value_12 (by decide) (fun h => absurd h (by decide)) (fun _ => ?_)
      refine lv_sipush (v := 1000) hx hb d_O_value_15 (by decide) ?_
      refine lv_goto (tgt := 30) hx hb d_O_value_18 (by decide) ?_
      exact eR hx hb hr hlocks (Eq.symm (if_neg (fun h => h9 h.2))) d_O_value_30
end
