section
set_option maxRecDepth 100000 in
set_option maxHeartbeats 4000000 in
theorem c_Different_init (l : Launch) (D : va_G) (o : Nat) (t1 : Int32) (sz : Nat) : Met l y_D_init (wsm y_D_init b_D_init 2 none) { frames := 2, cells := 0, slots := 0, locals := 32 } (va_Pc [.ref o, .int t1] (fun U => U.heap.size = sz ∧ cPre D ([(o, .inr (6, [.int 0]))]) U)) (va_Qv (fun u : va_W => u = [(o, .inr (6, [.int t1]))]) (fun u t => xB D (idW u) (va_A ([(o, .inr (6, [.int 0]))]) sz) t) (va_A ([(o, .inr (6, [.int 0]))]) sz)) 0 0 (va_A ([(o, .inr (6, [.int 0]))]) sz) := by
  refine met_W (Qf := fun A => va_Qv (fun u : va_W => u = [(o, .inr (6, [.int t1]))]) (fun u t => xB D (idW u) A t) A) (by decide) (Nat.le_of_ble_eq_true rfl) ?_
  intro p e s m below meth c ls A hx hb hr hlocks hml hown hin hA hP hK hD hN hl hS hAA
  have hown : s.vm.findClass R_D = some m.cls := hown
  have hl : lv_has ls 2 [(0, .ref o), (1, .int t1)] := hl
  refine lv_aload_n hx hb d_D_init_0 rfl (lv_at hl 0 rfl) ?_
  refine rI (n := 0) (rest := []) hx hb hml hown hA (c_Record l D o) wv_D_3 rfl ⟨by decide, by decide, by decide +kernel⟩ ⟨rfl, rfl, by decide, by decide⟩ rfl hl.1 ⟨Nat.le_of_ble_eq_true rfl, Nat.le_of_ble_eq_true rfl⟩ (va_P.sub1 hP [] rfl) hK (va_D.sub hD [] rfl rfl) hN rfl (Nat.le_of_ble_eq_true rfl) d_D_init_1 ?_
  refine lv_aload_n hx hb d_D_init_4 rfl (lv_at hl 0 rfl) ?_
  refine lv_iload_n hx hb d_D_init_5 rfl (lv_at hl 1 rfl) ?_
  refine va_putF (D := D) (ci := 6) (v := .int t1) (ty := .int) (C := R_D) (T := T_D) (N := 1) hx hb hA inA_D ty_D tok_D nm_D hown hK hP hD hS 0 rfl rfl 0 (by decide) (hA _ wd_292) (fun _ h9 => h9) rfl hin rfl (by decide +kernel) (by first | rfl | decide) (by first | rfl | decide) (Nat.le_of_ble_eq_true rfl) d_D_init_6 (fun H locs hP hD hS => ?_)
  have hP : va_P D vwCl ([(o, .inr (6, [.int t1]))]) H := hP
  have hD : va_D A ([(o, .inr (6, [.int t1]))]) := hD
  exact eWv [(o, .inr (6, [.int t1]))] hx hb hr hlocks hP hK hD hS rfl d_D_init_9
end
