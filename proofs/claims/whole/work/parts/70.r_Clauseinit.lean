section
set_option maxRecDepth 100000 in
set_option maxHeartbeats 4000000 in
theorem c_Clause_init (l : Launch) (D : va_G) (o : Nat) (i : Int32) (w1 : Int32) (j : Int32) (w2 : Int32) (v : Int32) (w3 : Int32) (how : Int32) (sz : Nat) : Met l y_C_init (wsm y_C_init b_C_init 8 none) { frames := 2, cells := 0, slots := 0, locals := 32 } (va_Pc [.ref o, .int i, .int w1, .int j, .int w2, .int v, .int w3, .int how] (fun U => U.heap.size = sz ∧ cPre D ([(o, .inr (8, [.int 0, .int 0, .int 0, .int 0, .int 0, .int 0, .int 0]))]) U)) (va_Qv (fun u : va_W => u = [(o, .inr (8, [.int i, .int w1, .int j, .int w2, .int v, .int w3, .int how]))]) (fun u t => xB D (idW u) (va_A ([(o, .inr (8, [.int 0, .int 0, .int 0, .int 0, .int 0, .int 0, .int 0]))]) sz) t) (va_A ([(o, .inr (8, [.int 0, .int 0, .int 0, .int 0, .int 0, .int 0, .int 0]))]) sz)) 0 0 (va_A ([(o, .inr (8, [.int 0, .int 0, .int 0, .int 0, .int 0, .int 0, .int 0]))]) sz) := by
  refine met_W (Qf := fun A => va_Qv (fun u : va_W => u = [(o, .inr (8, [.int i, .int w1, .int j, .int w2, .int v, .int w3, .int how]))]) (fun u t => xB D (idW u) A t) A) (by decide) (Nat.le_of_ble_eq_true rfl) ?_
  intro p e s m below meth c ls A hx hb hr hlocks hml hown hin hA hP hK hD hN hl hS hAA
  have hown : s.vm.findClass R_C = some m.cls := hown
  have hl : lv_has ls 8 [(0, .ref o), (1, .int i), (2, .int w1), (3, .int j), (4, .int w2), (5, .int v), (6, .int w3), (7, .int how)] := hl
  refine lv_aload_n hx hb d_C_init_0 rfl (lv_at hl 0 rfl) ?_
  refine rI (n := 0) (rest := []) hx hb hml hown hA (c_Record l D o) wv_C_3 rfl ⟨by decide, by decide, by decide +kernel⟩ ⟨rfl, rfl, by decide, by decide⟩ rfl hl.1 ⟨Nat.le_of_ble_eq_true rfl, Nat.le_of_ble_eq_true rfl⟩ (va_P.sub1 hP [] rfl) hK (va_D.sub hD [] rfl rfl) hN rfl (Nat.le_of_ble_eq_true rfl) d_C_init_1 ?_
  refine lv_aload_n hx hb d_C_init_4 rfl (lv_at hl 0 rfl) ?_
  refine lv_iload_n hx hb d_C_init_5 rfl (lv_at hl 1 rfl) ?_
  refine va_putF (D := D) (ci := 8) (v := .int i) (ty := .int) (C := R_C) (T := T_C) (N := 7) hx hb hA inA_C ty_C tok_C nm_C hown hK hP hD hS 0 rfl rfl 0 (by decide) (hA _ wd_327) (fun _ h9 => h9) rfl hin rfl (by decide +kernel) (by first | rfl | decide) (by first | rfl | decide) (Nat.le_of_ble_eq_true rfl) d_C_init_6 (fun H locs hP hD hS => ?_)
  have hP : va_P D vwCl ([(o, .inr (8, [.int i, .int 0, .int 0, .int 0, .int 0, .int 0, .int 0]))]) H := hP
  have hD : va_D A ([(o, .inr (8, [.int i, .int 0, .int 0, .int 0, .int 0, .int 0, .int 0]))]) := hD
  refine lv_aload_n hx hb d_C_init_9 rfl (lv_at hl 0 rfl) ?_
  refine lv_iload_n hx hb d_C_init_10 rfl (lv_at hl 2 rfl) ?_
  refine va_putF (D := D) (ci := 8) (v := .int w1) (ty := .int) (C := R_C) (T := T_C) (N := 7) hx hb hA inA_C ty_C tok_C nm_C hown hK hP hD hS 0 rfl rfl 1 (by decide) (hA _ wd_328) (fun _ h9 => h9) rfl hin rfl (by decide +kernel) (by first | rfl | decide) (by first | rfl | decide) (Nat.le_of_ble_eq_true rfl) d_C_init_11 (fun H locs hP hD hS => ?_)
  have hP : va_P D vwCl ([(o, .inr (8, [.int i, .int w1, .int 0, .int 0, .int 0, .int 0, .int 0]))]) H := hP
  have hD : va_D A ([(o, .inr (8, [.int i, .int w1, .int 0, .int 0, .int 0, .int 0, .int 0]))]) := hD
  refine lv_aload_n hx hb d_C_init_14 rfl (lv_at hl 0 rfl) ?_
  refine lv_iload_n hx hb d_C_init_15 rfl (lv_at hl 3 rfl) ?_
  refine va_putF (D := D) (ci := 8) (v := .int j) (ty := .int) (C := R_C) (T := T_C) (N := 7) hx hb hA inA_C ty_C tok_C nm_C hown hK hP hD hS 0 rfl rfl 2 (by decide) (hA _ wd_329) (fun _ h9 => h9) rfl hin rfl (by decide +kernel) (by first | rfl | decide) (by first | rfl | decide) (Nat.le_of_ble_eq_true rfl) d_C_init_16 (fun H locs hP hD hS => ?_)
  have hP : va_P D vwCl ([(o, .inr (8, [.int i, .int w1, .int j, .int 0, .int 0, .int 0, .int 0]))]) H := hP
  have hD : va_D A ([(o, .inr (8, [.int i, .int w1, .int j, .int 0, .int 0, .int 0, .int 0]))]) := hD
  refine lv_aload_n hx hb d_C_init_19 rfl (lv_at hl 0 rfl) ?_
  refine lv_iload hx hb d_C_init_20 (lv_at hl 4 rfl) ?_
  refine va_putF (D := D) (ci := 8) (v := .int w2) (ty := .int) (C := R_C) (T := T_C) (N := 7) hx hb hA inA_C ty_C tok_C nm_C hown hK hP hD hS 0 rfl rfl 3 (by decide) (hA _ wd_330) (fun _ h9 => h9) rfl hin rfl (by decide +kernel) (by first | rfl | decide) (by first | rfl | decide) (Nat.le_of_ble_eq_true rfl) d_C_init_22 (fun H locs hP hD hS => ?_)
  have hP : va_P D vwCl ([(o, .inr (8, [.int i, .int w1, .int j, .int w2, .int 0, .int 0, .int 0]))]) H := hP
  have hD : va_D A ([(o, .inr (8, [.int i, .int w1, .int j, .int w2, .int 0, .int 0, .int 0]))]) := hD
  refine lv_aload_n hx hb d_C_init_25 rfl (lv_at hl 0 rfl) ?_
  refine lv_iload hx hb d_C_init_26 (lv_at hl 5 rfl) ?_
  refine va_putF (D := D) (ci := 8) (v := .int v) (ty := .int) (C := R_C) (T := T_C) (N := 7) hx hb hA inA_C ty_C tok_C nm_C hown hK hP hD hS 0 rfl rfl 4 (by decide) (hA _ wd_331) (fun _ h9 => h9) rfl hin rfl (by decide +kernel) (by first | rfl | decide) (by first | rfl | decide) (Nat.le_of_ble_eq_true rfl) d_C_init_28 (fun H locs hP hD hS => ?_)
  have hP : va_P D vwCl ([(o, .inr (8, [.int i, .int w1, .int j, .int w2, .int v, .int 0, .int 0]))]) H := hP
  have hD : va_D A ([(o, .inr (8, [.int i, .int w1, .int j, .int w2, .int v, .int 0, .int 0]))]) := hD
  refine lv_aload_n hx hb d_C_init_31 rfl (lv_at hl 0 rfl) ?_
  refine lv_iload hx hb d_C_init_32 (lv_at hl 6 rfl) ?_
  refine va_putF (D := D) (ci := 8) (v := .int w3) (ty := .int) (C := R_C) (T := T_C) (N := 7) hx hb hA inA_C ty_C tok_C nm_C hown hK hP hD hS 0 rfl rfl 5 (by decide) (hA _ wd_332) (fun _ h9 => h9) rfl hin rfl (by decide +kernel) (by first | rfl | decide) (by first | rfl | decide) (Nat.le_of_ble_eq_true rfl) d_C_init_34 (fun H locs hP hD hS => ?_)
  have hP : va_P D vwCl ([(o, .inr (8, [.int i, .int w1, .int j, .int w2, .int v, .int w3, .int 0]))]) H := hP
  have hD : va_D A ([(o, .inr (8, [.int i, .int w1, .int j, .int w2, .int v, .int w3, .int 0]))]) := hD
  refine lv_aload_n hx hb d_C_init_37 rfl (lv_at hl 0 rfl) ?_
  refine lv_iload hx hb d_C_init_38 (lv_at hl 7 rfl) ?_
  refine va_putF (D := D) (ci := 8) (v := .int how) (ty := .int) (C := R_C) (T := T_C) (N := 7) hx hb hA inA_C ty_C tok_C nm_C hown hK hP hD hS 0 rfl rfl 6 (by decide) (hA _ wd_333) (fun _ h9 => h9) rfl hin rfl (by decide +kernel) (by first | rfl | decide) (by first | rfl | decide) (Nat.le_of_ble_eq_true rfl) d_C_init_40 (fun H locs hP hD hS => ?_)
  have hP : va_P D vwCl ([(o, .inr (8, [.int i, .int w1, .int j, .int w2, .int v, .int w3, .int how]))]) H := hP
  have hD : va_D A ([(o, .inr (8, [.int i, .int w1, .int j, .int w2, .int v, .int w3, .int how]))]) := hD
  exact eWv [(o, .inr (8, [.int i, .int w1, .int j, .int w2, .int v, .int w3, .int how]))] hx hb hr hlocks hP hK hD hS rfl d_C_init_43
end
