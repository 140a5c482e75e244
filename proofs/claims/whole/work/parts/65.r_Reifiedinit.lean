section
set_option maxRecDepth 100000 in
set_option maxHeartbeats 4000000 in
theorem c_Reified_init (l : Launch) (D : va_G) (o : Nat) (r1 : Int32) (i : Int32) (j : Int32) (c1 : Int32) (sz : Nat) : Met l y_R_init (wsm y_R_init b_R_init 5 none) { frames := 2, cells := 0, slots := 0, locals := 32 } (va_Pc [.ref o, .int r1, .int i, .int j, .int c1] (fun U => U.heap.size = sz ∧ cPre D ([(o, .inr (3, [.int 0, .int 0, .int 0, .int 0]))]) U)) (va_Qv (fun u : va_W => u = [(o, .inr (3, [.int r1, .int i, .int j, .int c1]))]) (fun u t => xB D (idW u) (va_A ([(o, .inr (3, [.int 0, .int 0, .int 0, .int 0]))]) sz) t) (va_A ([(o, .inr (3, [.int 0, .int 0, .int 0, .int 0]))]) sz)) 0 0 (va_A ([(o, .inr (3, [.int 0, .int 0, .int 0, .int 0]))]) sz) := by
  refine met_W (Qf := fun A => va_Qv (fun u : va_W => u = [(o, .inr (3, [.int r1, .int i, .int j, .int c1]))]) (fun u t => xB D (idW u) A t) A) (by decide) (Nat.le_of_ble_eq_true rfl) ?_
  intro p e s m below meth c ls A hx hb hr hlocks hml hown hin hA hP hK hD hN hl hS hAA
  have hown : s.vm.findClass R_R = some m.cls := hown
  have hl : lv_has ls 5 [(0, .ref o), (1, .int r1), (2, .int i), (3, .int j), (4, .int c1)] := hl
  refine lv_aload_n hx hb d_R_init_0 rfl (lv_at hl 0 rfl) ?_
  refine rI (n := 0) (rest := []) hx hb hml hown hA (c_Record l D o) wv_R_1 rfl ⟨by decide, by decide, by decide +kernel⟩ ⟨rfl, rfl, by decide, by decide⟩ rfl hl.1 ⟨Nat.le_of_ble_eq_true rfl, Nat.le_of_ble_eq_true rfl⟩ (va_P.sub1 hP [] rfl) hK (va_D.sub hD [] rfl rfl) hN rfl (Nat.le_of_ble_eq_true rfl) d_R_init_1 ?_
  refine lv_aload_n hx hb d_R_init_4 rfl (lv_at hl 0 rfl) ?_
  refine lv_iload_n hx hb d_R_init_5 rfl (lv_at hl 1 rfl) ?_
  refine va_putF (D := D) (ci := 3) (v := .int r1) (ty := .int) (C := R_R) (T := T_R) (N := 4) hx hb hA inA_R ty_R tok_R nm_R hown hK hP hD hS 0 rfl rfl 0 (by decide) (hA _ wd_222) (fun _ h9 => h9) rfl hin rfl (by decide +kernel) (by first | rfl | decide) (by first | rfl | decide) (Nat.le_of_ble_eq_true rfl) d_R_init_6 (fun H locs hP hD hS => ?_)
  have hP : va_P D vwCl ([(o, .inr (3, [.int r1, .int 0, .int 0, .int 0]))]) H := hP
  have hD : va_D A ([(o, .inr (3, [.int r1, .int 0, .int 0, .int 0]))]) := hD
  refine lv_aload_n hx hb d_R_init_9 rfl (lv_at hl 0 rfl) ?_
  refine lv_iload_n hx hb d_R_init_10 rfl (lv_at hl 2 rfl) ?_
  refine va_putF (D := D) (ci := 3) (v := .int i) (ty := .int) (C := R_R) (T := T_R) (N := 4) hx hb hA inA_R ty_R tok_R nm_R hown hK hP hD hS 0 rfl rfl 1 (by decide) (hA _ wd_223) (fun _ h9 => h9) rfl hin rfl (by decide +kernel) (by first | rfl | decide) (by first | rfl | decide) (Nat.le_of_ble_eq_true rfl) d_R_init_11 (fun H locs hP hD hS => ?_)
  have hP : va_P D vwCl ([(o, .inr (3, [.int r1, .int i, .int 0, .int 0]))]) H := hP
  have hD : va_D A ([(o, .inr (3, [.int r1, .int i, .int 0, .int 0]))]) := hD
  refine lv_aload_n hx hb d_R_init_14 rfl (lv_at hl 0 rfl) ?_
  refine lv_iload_n hx hb d_R_init_15 rfl (lv_at hl 3 rfl) ?_
  refine va_putF (D := D) (ci := 3) (v := .int j) (ty := .int) (C := R_R) (T := T_R) (N := 4) hx hb hA inA_R ty_R tok_R nm_R hown hK hP hD hS 0 rfl rfl 2 (by decide) (hA _ wd_224) (fun _ h9 => h9) rfl hin rfl (by decide +kernel) (by first | rfl | decide) (by first | rfl | decide) (Nat.le_of_ble_eq_true rfl) d_R_init_16 (fun H locs hP hD hS => ?_)
  have hP : va_P D vwCl ([(o, .inr (3, [.int r1, .int i, .int j, .int 0]))]) H := hP
  have hD : va_D A ([(o, .inr (3, [.int r1, .int i, .int j, .int 0]))]) := hD
  refine lv_aload_n hx hb d_R_init_19 rfl (lv_at hl 0 rfl) ?_
  refine lv_iload hx hb d_R_init_20 (lv_at hl 4 rfl) ?_
  refine va_putF (D := D) (ci := 3) (v := .int c1) (ty := .int) (C := R_R) (T := T_R) (N := 4) hx hb hA inA_R ty_R tok_R nm_R hown hK hP hD hS 0 rfl rfl 3 (by decide) (hA _ wd_225) (fun _ h9 => h9) rfl hin rfl (by decide +kernel) (by first | rfl | decide) (by first | rfl | decide) (Nat.le_of_ble_eq_true rfl) d_R_init_22 (fun H locs hP hD hS => ?_)
  have hP : va_P D vwCl ([(o, .inr (3, [.int r1, .int i, .int j, .int c1]))]) H := hP
  have hD : va_D A ([(o, .inr (3, [.int r1, .int i, .int j, .int c1]))]) := hD
  exact eWv [(o, .inr (3, [.int r1, .int i, .int j, .int c1]))] hx hb hr hlocks hP hK hD hS rfl d_R_init_25
end
