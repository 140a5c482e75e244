section
set_option maxRecDepth 100000 in
set_option maxHeartbeats 4000000 in
theorem c_isSetOfVariables (l : Launch) (D : va_G) (q : Nat → Nat) (n P k a : Nat) (z : Int32) (lo hi B av al ah an pt fd : Nat → Int32) (t : Int32) : Met l y_X_isSetOfVariables (wsm y_X_isSetOfVariables b_X_isSetOfVariables 2 (some .boolean)) { frames := 0, cells := 0, slots := 0, locals := 0 } (va_Pc [.ref (q 0), .int t] (cPre D (xw D q n P k a z lo hi B av al ah an pt fd))) (vp_Si (fun r => r = zb (decide (ivs n t)))) 0 0 (fun _ => False) := by
  refine met_R (by decide) (Nat.le_of_ble_eq_true rfl) ?_
  intro p e s m below meth c ls hx hb hr hlocks hml hown hin hA hP hK hD hN hl
  have hown : s.vm.findClass R_X = some m.cls := hown
  have hl : lv_has ls 2 [(0, .ref (q 0)), (1, .int t)] := hl
  refine lv_iload_n hx hb d_X_isSetOfVariables_0 rfl (lv_at hl 1 rfl) ?_
  refine lv_if_lt (tgt := 18) hx hb d_X_isSetOfVariables_1 (by decide) (fun h1 => ?_) (fun h1 => ?_)
  · skip
    refine lv_iconst (v := 0) hx hb d_X_isSetOfVariables_18 (by decide) ?_
    exact eRz hx hb hr hlocks (by first | rfl | decide) (by first | exact zb_f (fun h => h.1 h1) | exact zb_f (fun h => h.2 h11)) d_X_isSetOfVariables_19
  · skip
    refine lv_iload_n hx hb d_X_isSetOfVariables_4 rfl (lv_at hl 1 rfl) ?_
    refine lv_iconst (v := 1) hx hb d_X_isSetOfVariables_5 (by decide) ?_
    refine lv_aload_n hx hb d_X_isSetOfVariables_6 rfl (lv_at hl 0 rfl) ?_
    refine va_get (D := D) (ci := 0) (v := .int (nI n)) (C := R_X) (T := T_X) (N := 14) hx hb hA inA_X hown hK hP 0 rfl rfl 2 (by decide) (hA _ wd_27) (fun _ h9 => h9) rfl d_X_isSetOfVariables_7 ?_
    refine lv_ishl hx hb d_X_isSetOfVariables_10 ?_
    refine lv_icmp_ge (tgt := 18) hx hb d_X_isSetOfVariables_11 (by decide) (fun h11 => ?_) (fun h11 => ?_)
    · skip
      refine lv_iconst (v := 0) hx hb d_X_isSetOfVariables_18 (by decide) ?_
      exact eRz hx hb hr hlocks (by first | rfl | decide) (by first | exact zb_f (fun h => h.1 h1) | exact zb_f (fun h => h.2 h11)) d_X_isSetOfVariables_19
    · skip
      refine lv_iconst (v := 1) hx hb d_X_isSetOfVariables_14 (by decide) ?_
      refine lv_goto (tgt := 19) hx hb d_X_isSetOfVariables_15 (by decide) ?_
      exact eRz hx hb hr hlocks (by first | rfl | decide) (by first | exact zb_t (⟨h1, h11⟩)) d_X_isSetOfVariables_19
end
