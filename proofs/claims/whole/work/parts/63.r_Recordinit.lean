section
set_option maxRecDepth 100000 in
set_option maxHeartbeats 4000000 in
theorem c_Record (l : Launch) (D : va_G) (o : Nat) : Met l y_JR_init (wsm y_JR_init b_JR_init 1 none) { frames := 1, cells := 0, slots := 0, locals := 12 } (va_Pc [.ref o] (cPre D ([]))) (va_Sv (fun _ => True)) 0 0 (fun _ => False) := by
  refine met_R (by decide) (Nat.le_of_ble_eq_true rfl) ?_
  intro p e s m below meth c ls hx hb hr hlocks hml hown hin hA hP hK hD hN hl
  have hown : s.vm.findClass R_JR = some m.cls := hown
  have hl : lv_has ls 1 [(0, .ref o)] := hl
  refine lv_aload_n hx hb d_JR_init_0 rfl (lv_at hl 0 rfl) ?_
  refine W.objInit hx hb hown (hA _ wo_JR_1.1) (hA _ wo_JR_1.2.1) (hA _ wo_JR_1.2.2) rfl (by rw [hml]; exact hl.1) rfl d_JR_init_1 (Nat.le_of_ble_eq_true rfl) (Nat.le_of_ble_eq_true rfl) ?_
  refine W.eq (g2 := F0 m 4 ls []) rfl ?_
  exact eRv hx hb hr hlocks d_JR_init_4
end
