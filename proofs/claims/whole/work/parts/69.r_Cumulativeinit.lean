section
set_option maxRecDepth 100000 in
set_option maxHeartbeats 4000000 in
theorem c_Cumulative_init (l : Launch) (D : va_G) (o : Nat) (t1 : Int32) (du : Int64) (ne : Int64) (cp : Int32) (sz : Nat) : Met l y_U_init (wsm y_U_init b_U_init 7 none) { frames := 2, cells := 0, slots := 0, locals := 32 } (va_Pc [.ref o, .int t1, .long du, .long ne, .int cp] (fun U => U.heap.size = sz ∧ cPre D ([(o, .inr (7, [.int 0, .long 0, .long 0, .int 0]))]) U)) (va_Qv (fun u : va_W => u = [(o, .inr (7, [.int t1, .long du, .long ne, .int cp]))]) (fun u t => xB D (idW u) (va_A ([(o, .inr (7, [.int 0, .long 0, .long 0, .int 0]))]) sz) t) (va_A ([(o, .inr (7, [.int 0, .long 0, .long 0, .int 0]))]) sz)) 0 0 (va_A ([(o, .inr (7, [.int 0, .long 0, .long 0, .int 0]))]) sz) := by
  refine met_W (Qf := fun A => va_Qv (fun u : va_W => u = [(o, .inr (7, [.int t1, .long du, .long ne, .int cp]))]) (fun u t => xB D (idW u) A t) A) (by decide) (Nat.le_of_ble_eq_true rfl) ?_
  intro p e s m below meth c ls A hx hb hr hlocks hml hown hin hA hP hK hD hN hl hS hAA
  have hown : s.vm.findClass R_U = some m.cls := hown
  have hl : lv_has ls 7 [(0, .ref o), (1, .int t1), (2, .long du), (4, .long ne), (6, .int cp)] := hl
  refine lv_aload_n hx hb d_U_init_0 rfl (lv_at hl 0 rfl) ?_
  refine rI (n := 0) (rest := []) hx hb hml hown hA (c_Record l D o) wv_U_3 rfl ⟨by decide, by decide, by decide +kernel⟩ ⟨rfl, rfl, by decide, by decide⟩ rfl hl.1 ⟨Nat.le_of_ble_eq_true rfl, Nat.le_of_ble_eq_true rfl⟩ (va_P.sub1 hP [] rfl) hK (va_D.sub hD [] rfl rfl) hN rfl (Nat.le_of_ble_eq_true rfl) d_U_init_1 ?_
  refine lv_aload_n hx hb d_U_init_4 rfl (lv_at hl 0 rfl) ?_
  refine lv_iload_n hx hb d_U_init_5 rfl (lv_at hl 1 rfl) ?_
  refine va_putF (D := D) (ci := 7) (v := .int t1) (ty := .int) (C := R_U) (T := T_U) (N := 4) hx hb hA inA_U ty_U tok_U nm_U hown hK hP hD hS 0 rfl rfl 0 (by decide) (hA _ wd_305) (fun _ h9 => h9) rfl hin rfl (by decide +kernel) (by first | rfl | decide) (by first | rfl | decide) (Nat.le_of_ble_eq_true rfl) d_U_init_6 (fun H locs hP hD hS => ?_)
  have hP : va_P D vwCl ([(o, .inr (7, [.int t1, .long 0, .long 0, .int 0]))]) H := hP
  have hD : va_D A ([(o, .inr (7, [.int t1, .long 0, .long 0, .int 0]))]) := hD
  refine lv_aload_n hx hb d_U_init_9 rfl (lv_at hl 0 rfl) ?_
  refine lv_lload_n hx hb d_U_init_10 rfl (lv_at hl 2 rfl) ?_
  refine va_putF (D := D) (ci := 7) (v := .long du) (ty := .long) (C := R_U) (T := T_U) (N := 4) hx hb hA inA_U ty_U tok_U nm_U hown hK hP hD hS 0 rfl rfl 1 (by decide) (hA _ wd_306) (fun _ h9 => h9) rfl hin rfl (by decide +kernel) (by first | rfl | decide) (by first | rfl | decide) (Nat.le_of_ble_eq_true rfl) d_U_init_11 (fun H locs hP hD hS => ?_)
  have hP : va_P D vwCl ([(o, .inr (7, [.int t1, .long du, .long 0, .int 0]))]) H := hP
  have hD : va_D A ([(o, .inr (7, [.int t1, .long du, .long 0, .int 0]))]) := hD
  refine lv_aload_n hx hb d_U_init_14 rfl (lv_at hl 0 rfl) ?_
  refine lv_lload hx hb d_U_init_15 (lv_at hl 3 rfl) ?_
  refine va_putF (D := D) (ci := 7) (v := .long ne) (ty := .long) (C := R_U) (T := T_U) (N := 4) hx hb hA inA_U ty_U tok_U nm_U hown hK hP hD hS 0 rfl rfl 2 (by decide) (hA _ wd_307) (fun _ h9 => h9) rfl hin rfl (by decide +kernel) (by first | rfl | decide) (by first | rfl | decide) (Nat.le_of_ble_eq_true rfl) d_U_init_17 (fun H locs hP hD hS => ?_)
  have hP : va_P D vwCl ([(o, .inr (7, [.int t1, .long du, .long ne, .int 0]))]) H := hP
  have hD : va_D A ([(o, .inr (7, [.int t1, .long du, .long ne, .int 0]))]) := hD
  refine lv_aload_n hx hb d_U_init_20 rfl (lv_at hl 0 rfl) ?_
  refine lv_iload hx hb d_U_init_21 (lv_at hl 4 rfl) ?_
  refine va_putF (D := D) (ci := 7) (v := .int cp) (ty := .int) (C := R_U) (T := T_U) (N := 4) hx hb hA inA_U ty_U tok_U nm_U hown hK hP hD hS 0 rfl rfl 3 (by decide) (hA _ wd_308) (fun _ h9 => h9) rfl hin rfl (by decide +kernel) (by first | rfl | decide) (by first | rfl | decide) (Nat.le_of_ble_eq_true rfl) d_U_init_23 (fun H locs hP hD hS => ?_)
  have hP : va_P D vwCl ([(o, .inr (7, [.int t1, .long du, .long ne, .int cp]))]) H := hP
  have hD : va_D A ([(o, .inr (7, [.int t1, .long du, .long ne, .int cp]))]) := hD
  exact eWv [(o, .inr (7, [.int t1, .long du, .long ne, .int cp]))] hx hb hr hlocks hP hK hD hS rfl d_U_init_26
end
