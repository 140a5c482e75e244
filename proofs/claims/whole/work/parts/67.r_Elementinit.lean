section
set_option maxRecDepth 100000 in
set_option maxHeartbeats 4000000 in
theorem c_Element_init (l : Launch) (D : va_G) (o : Nat) (r1 : Int32) (i : Int32) (tb : Int64) (sz : Nat) : Met l y_E_init (wsm y_E_init b_E_init 5 none) { frames := 2, cells := 0, slots := 0, locals := 32 } (va_Pc [.ref o, .int r1, .int i, .long tb] (fun U => U.heap.size = sz ∧ cPre D ([(o, .inr (5, [.int 0, .int 0, .long 0]))]) U)) (va_Qv (fun u : va_W => u = [(o, .inr (5, [.int r1, .int i, .long tb]))]) (fun u t => xB D (idW u) (va_A ([(o, .inr (5, [.int 0, .int 0, .long 0]))]) sz) t) (va_A ([(o, .inr (5, [.int 0, .int 0, .long 0]))]) sz)) 0 0 (va_A ([(o, .inr (5, [.int 0, .int 0, .long 0]))]) sz) := by
  refine met_W (Qf := fun A => va_Qv (fun u : va_W => u = [(o, .inr (5, [.int r1, .int i, .long tb]))]) (fun u t => xB D (idW u) A t) A) (by decide) (Nat.le_of_ble_eq_true rfl) ?_
  intro p e s m below meth c ls A hx hb hr hlocks hml hown hin hA hP hK hD hN hl hS hAA
  have hown : s.vm.findClass R_E = some m.cls := hown
  have hl : lv_has ls 5 [(0, .ref o), (1, .int r1), (2, .int i), (3, .long tb)] := hl
  refine lv_aload_n hx hb d_E_init_0 rfl (lv_at hl 0 rfl) ?_
  refine rI (n := 0) (rest := []) hx hb hml hown hA (c_Record l D o) wv_E_1 rfl ⟨by decide, by decide, by decide +kernel⟩ ⟨rfl, rfl, by decide, by decide⟩ rfl hl.1 ⟨Nat.le_of_ble_eq_true rfl, Nat.le_of_ble_eq_true rfl⟩ (va_P.sub1 hP [] rfl) hK (va_D.sub hD [] rfl rfl) hN rfl (Nat.le_of_ble_eq_true rfl) d_E_init_1 ?_
  refine lv_aload_n hx hb d_E_init_4 rfl (lv_at hl 0 rfl) ?_
  refine lv_iload_n hx hb d_E_init_5 rfl (lv_at hl 1 rfl) ?_
  refine va_putF (D := D) (ci := 5) (v := .int r1) (ty := .int) (C := R_E) (T := T_E) (N := 3) hx hb hA inA_E ty_E tok_E nm_E hown hK hP hD hS 0 rfl rfl 0 (by decide) (hA _ wd_268) (fun _ h9 => h9) rfl hin rfl (by decide +kernel) (by first | rfl | decide) (by first | rfl | decide) (Nat.le_of_ble_eq_true rfl) d_E_init_6 (fun H locs hP hD hS => ?_)
  have hP : va_P D vwCl ([(o, .inr (5, [.int r1, .int 0, .long 0]))]) H := hP
  have hD : va_D A ([(o, .inr (5, [.int r1, .int 0, .long 0]))]) := hD
  refine lv_aload_n hx hb d_E_init_9 rfl (lv_at hl 0 rfl) ?_
  refine lv_iload_n hx hb d_E_init_10 rfl (lv_at hl 2 rfl) ?_
  refine va_putF (D := D) (ci := 5) (v := .int i) (ty := .int) (C := R_E) (T := T_E) (N := 3) hx hb hA inA_E ty_E tok_E nm_E hown hK hP hD hS 0 rfl rfl 1 (by decide) (hA _ wd_269) (fun _ h9 => h9) rfl hin rfl (by decide +kernel) (by first | rfl | decide) (by first | rfl | decide) (Nat.le_of_ble_eq_true rfl) d_E_init_11 (fun H locs hP hD hS => ?_)
  have hP : va_P D vwCl ([(o, .inr (5, [.int r1, .int i, .long 0]))]) H := hP
  have hD : va_D A ([(o, .inr (5, [.int r1, .int i, .long 0]))]) := hD
  refine lv_aload_n hx hb d_E_init_14 rfl (lv_at hl 0 rfl) ?_
  refine lv_lload_n hx hb d_E_init_15 rfl (lv_at hl 3 rfl) ?_
  refine va_putF (D := D) (ci := 5) (v := .long tb) (ty := .long) (C := R_E) (T := T_E) (N := 3) hx hb hA inA_E ty_E tok_E nm_E hown hK hP hD hS 0 rfl rfl 2 (by decide) (hA _ wd_270) (fun _ h9 => h9) rfl hin rfl (by decide +kernel) (by first | rfl | decide) (by first | rfl | decide) (Nat.le_of_ble_eq_true rfl) d_E_init_16 (fun H locs hP hD hS => ?_)
  have hP : va_P D vwCl ([(o, .inr (5, [.int r1, .int i, .long tb]))]) H := hP
  have hD : va_D A ([(o, .inr (5, [.int r1, .int i, .long tb]))]) := hD
  exact eWv [(o, .inr (5, [.int r1, .int i, .long tb]))] hx hb hr hlocks hP hK hD hS rfl d_E_init_19
end
