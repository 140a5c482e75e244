section
set_option maxRecDepth 100000 in
set_option maxHeartbeats 4000000 in
theorem c_space (l : Launch) (D : va_G) (q : Nat → Nat) (n P k a : Nat) (z : Int32) (lo hi B av al ah an pt fd : Nat → Int32) : Met l y_X_space (wsm y_X_space b_X_space 1 (some .int)) { frames := 0, cells := 0, slots := 0, locals := 0 } (va_Pc [.ref (q 0)] (cPre D (xw D q n P k a z lo hi B av al ah an pt fd))) (vp_Si (fun r => r = nI P)) 0 0 (fun _ => False) := by
  refine met_R (by decide) (Nat.le_of_ble_eq_true rfl) ?_
  intro p e s m below meth c ls hx hb hr hlocks hml hown hin hA hP hK hD hN hl
  have hown : s.vm.findClass R_X = some m.cls := hown
  have hl : lv_has ls 1 [(0, .ref (q 0))] := hl
  refine lv_aload_n hx hb d_X_space_0 rfl (lv_at hl 0 rfl) ?_
  refine va_get (D := D) (ci := 0) (v := .int (nI P)) (C := R_X) (T := T_X) (N := 14) hx hb hA inA_X hown hK hP 0 rfl rfl 4 (by decide) (hA _ wd_29) (fun _ h9 => h9) rfl d_X_space_1 ?_
  exact eR hx hb hr hlocks rfl d_X_space_4
end
