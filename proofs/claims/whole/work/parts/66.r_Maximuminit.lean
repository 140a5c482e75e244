section
set_option maxRecDepth 100000 in
set_option maxHeartbeats 4000000 in
theorem c_Maximum_init (l : Launch) (D : va_G) (o : Nat) (r1 : Int32) (i : Int32) (j : Int32) (v : Int32) (sz : Nat) : Met l y_M_init (wsm y_M_init b_M_init 5 none) { frames := 2, cells := 0, slots := 0, locals := 32 } (va_Pc [.ref o, .int r1, .int i, .int j, .int v] (fun U => U.heap.size = sz ∧ cPre D ([(o, .inr (4, [.int 0, .int 0, .int 0, .int 0]))]) U)) (va_Qv (fun u : va_W => u = [(o, .inr (4, [.int r1, .int i, .int j, .int v]))]) (fun u t => xB D (idW u) (va_A ([(o, .inr (4, [.int 0, .int 0, .int 0, .int 0]))]) sz) t) (va_A ([(o, .inr (4, [.int 0, .int 0, .int 0, .int 0]))]) sz)) 0 0 (va_A ([(o, .inr (4, [.int 0, .int 0, .int 0, .int 0]))]) sz) := by
  refine met_W (Qf := fun A => va_Qv (fun u : va_W => u = [(o, .inr (4, [.int r1, .int i, .int j, .int v]))]) (fun u t => xB D (idW u) A t) A) (by decide) (Nat.le_of_ble_eq_true rfl) ?_
  intro p e s m below meth c ls A hx hb hr hlocks hml hown hin hA hP hK hD hN hl hS hAA
  have hown : s.vm.findClass R_M = some m.cls := hown
  have hl : lv_has ls 5 [(0, .ref o), (1, .int r1), (2, .int i), (3, .int j), (4, .int v)] := hl
  refine lv_aload_n hx hb d_M_init_0 rfl (lv_at hl 0 rfl) ?_
  refine rI (n := 0) (rest := []) hx hb hml hown hA (c_Record l D o) wv_M_3 rfl ⟨by decide, by decide, by decide +kernel⟩ ⟨rfl, rfl, by decide, by decide⟩ rfl hl.1 ⟨Nat.le_of_ble_eq_true rfl, Nat.le_of_ble_eq_true rfl⟩ (va_P.sub1 hP [] rfl) hK (va_D.sub hD [] rfl rfl) hN rfl (Nat.le_of_ble_eq_true rfl) d_M_init_1 ?_
  refine lv_aload_n hx hb d_M_init_4 rfl (lv_at hl 0 rfl) ?_
  refine lv_iload_n hx hb d_M_init_5 rfl (lv_at hl 1 rfl) ?_
  refine va_putF (D := D) (ci := 4) (v := .int r1) (ty := .int) (C := R_M) (T := T_M) (N := 4) hx hb hA inA_M ty_M tok_M nm_M hown hK hP hD hS 0 rfl rfl 0 (by decide) (hA _ wd_245) (fun _ h9 => h9) rfl hin rfl (by decide +kernel) (by first | rfl | decide) (by first | rfl | decide) (Nat.le_of_ble_eq_true rfl) d_M_init_6 (fun H locs hP hD hS => ?_)
  have hP : va_P D vwCl ([(o, .inr (4, [.int r1, .int 0, .int 0, .int 0]))]) H := hP
  have hD : va_D A ([(o, .inr (4, [.int r1, .int 0, .int 0, .int 0]))]) := hD
  refine lv_aload_n hx hb d_M_init_9 rfl (lv_at hl 0 rfl) ?_
  refine lv_iload_n hx hb d_M_init_10 rfl (lv_at hl 2 rfl) ?_
  refine va_putF (D := D) (ci := 4) (v := .int i) (ty := .int) (C := R_M) (T := T_M) (N := 4) hx hb hA inA_M ty_M tok_M nm_M hown hK hP hD hS 0 rfl rfl 1 (by decide) (hA _ wd_246) (fun _ h9 => h9) rfl hin rfl (by decide +kernel) (by first | rfl | decide) (by first | rfl | decide) (Nat.le_of_ble_eq_true rfl) d_M_init_11 (fun H locs hP hD hS => ?_)
  have hP : va_P D vwCl ([(o, .inr (4, [.int r1, .int i, .int 0, .int 0]))]) H := hP
  have hD : va_D A ([(o, .inr (4, [.int r1, .int i, .int 0, .int 0]))]) := hD
  refine lv_aload_n hx hb d_M_init_14 rfl (lv_at hl 0 rfl) ?_
  refine lv_iload_n hx hb d_M_init_15 rfl (lv_at hl 3 rfl) ?_
  refine va_putF (D := D) (ci := 4) (v := .int j) (ty := .int) (C := R_M) (T := T_M) (N := 4) hx hb hA inA_M ty_M tok_M nm_M hown hK hP hD hS 0 rfl rfl 2 (by decide) (hA _ wd_247) (fun _ h9 => h9) rfl hin rfl (by decide +kernel) (by first | rfl | decide) (by first | rfl | decide) (Nat.le_of_ble_eq_true rfl) d_M_init_16 (fun H locs hP hD hS => ?_)
  have hP : va_P D vwCl ([(o, .inr (4, [.int r1, .int i, .int j, .int 0]))]) H := hP
  have hD : va_D A ([(o, .inr (4, [.int r1, .int i, .int j, .int 0]))]) := hD
  refine lv_aload_n hx hb d_M_init_19 rfl (lv_at hl 0 rfl) ?_
  refine lv_iload hx hb d_M_init_20 (lv_at hl 4 rfl) ?_
  refine va_putF (D := D) (ci := 4) (v := .int v) (ty := .int) (C := R_M) (T := T_M) (N := 4) hx hb hA inA_M ty_M tok_M nm_M hown hK hP hD hS 0 rfl rfl 3 (by decide) (hA _ wd_248) (fun _ h9 => h9) rfl hin rfl (by decide +kernel) (by first | rfl | decide) (by first | rfl | decide) (Nat.le_of_ble_eq_true rfl) d_M_init_22 (fun H locs hP hD hS => ?_)
  have hP : va_P D vwCl ([(o, .inr (4, [.int r1, .int i, .int j, .int v]))]) H := hP
  have hD : va_D A ([(o, .inr (4, [.int r1, .int i, .int j, .int v]))]) := hD
  exact eWv [(o, .inr (4, [.int r1, .int i, .int j, .int v]))] hx hb hr hlocks hP hK hD hS rfl d_M_init_25
end
