section
set_option maxRecDepth 100000 in
set_option maxHeartbeats 4000000 in
theorem c_Linear_init (l : Launch) (D : va_G) (o : Nat) (i : Int32) (fa : Int32) (j : Int32) (fb : Int32) (v : Int32) (fc : Int32) (bd : Int32) (sz : Nat) : Met l y_L_init (wsm y_L_init b_L_init 8 none) { frames := 2, cells := 0, slots := 0, locals := 32 } (va_Pc [.ref o, .int i, .int fa, .int j, .int fb, .int v, .int fc, .int bd] (fun U => U.heap.size = sz ∧ cPre D ([(o, .inr (2, [.int 0, .int 0, .int 0, .int 0, .int 0, .int 0, .int 0]))]) U)) (va_Qv (fun u : va_W => u = [(o, .inr (2, [.int i, .int fa, .int j, .int fb, .int v, .int fc, .int bd]))]) (fun u t => xB D (idW u) (va_A ([(o, .inr (2, [.int 0, .int 0, .int 0, .int 0, .int 0, .int 0, .int 0]))]) sz) t) (va_A ([(o, .inr (2, [.int 0, .int 0, .int 0, .int 0, .int 0, .int 0, .int 0]))]) sz)) 0 0 (va_A ([(o, .inr (2, [.int 0, .int 0, .int 0, .int 0, .int 0, .int 0, .int 0]))]) sz) := by
  refine met_W (Qf := fun A => va_Qv (fun u : va_W => u = [(o, .inr (2, [.int i, .int fa, .int j, .int fb, .int v, .int fc, .int bd]))]) (fun u t => xB D (idW u) A t) A) (by decide) (Nat.le_of_ble_eq_true rfl) ?_
  intro p e s m below meth c ls A hx hb hr hlocks hml hown hin hA hP hK hD hN hl hS hAA
  have hown : s.vm.findClass R_L = some m.cls := hown
  have hl : lv_has ls 8 [(0, .ref o), (1, .int i), (2, .int fa), (3, .int j), (4, .int fb), (5, .int v), (6, .int fc), (7, .int bd)] := hl
  refine lv_aload_n hx hb d_L_init_0 rfl (lv_at hl 0 rfl) ?_
  refine rI (n := 0) (rest := []) hx hb hml hown hA (c_Record l D o) wv_L_3 rfl ⟨by decide, by decide, by decide +kernel⟩ ⟨rfl, rfl, by decide, by decide⟩ rfl hl.1 ⟨Nat.le_of_ble_eq_true rfl, Nat.le_of_ble_eq_true rfl⟩ (va_P.sub1 hP [] rfl) hK (va_D.sub hD [] rfl rfl) hN rfl (Nat.le_of_ble_eq_true rfl) d_L_init_1 ?_
  refine lv_aload_n hx hb d_L_init_4 rfl (lv_at hl 0 rfl) ?_
  refine lv_iload_n hx hb d_L_init_5 rfl (lv_at hl 1 rfl) ?_
  refine va_putF (D := D) (ci := 2) (v := .int i) (ty := .int) (C := R_L) (T := T_L) (N := 7) hx hb hA inA_L ty_L tok_L nm_L hown hK hP hD hS 0 rfl rfl 0 (by decide) (hA _ wd_105) (fun _ h9 => h9) rfl hin rfl (by decide +kernel) (by first | rfl | decide) (by first | rfl | decide) (Nat.le_of_ble_eq_true rfl) d_L_init_6 (fun H locs hP hD hS => ?_)
  have hP : va_P D vwCl ([(o, .inr (2, [.int i, .int 0, .int 0, .int 0, .int 0, .int 0, .int 0]))]) H := hP
  have hD : va_D A ([(o, .inr (2, [.int i, .int 0, .int 0, .int 0, .int 0, .int 0, .int 0]))]) := hD
  refine lv_aload_n hx hb d_L_init_9 rfl (lv_at hl 0 rfl) ?_
  refine lv_iload_n hx hb d_L_init_10 rfl (lv_at hl 2 rfl) ?_
  refine va_putF (D := D) (ci := 2) (v := .int fa) (ty := .int) (C := R_L) (T := T_L) (N := 7) hx hb hA inA_L ty_L tok_L nm_L hown hK hP hD hS 0 rfl rfl 1 (by decide) (hA _ wd_106) (fun _ h9 => h9) rfl hin rfl (by decide +kernel) (by first | rfl | decide) (by first | rfl | decide) (Nat.le_of_ble_eq_true rfl) d_L_init_11 (fun H locs hP hD hS => ?_)
  have hP : va_P D vwCl ([(o, .inr (2, [.int i, .int fa, .int 0, .int 0, .int 0, .int 0, .int 0]))]) H := hP
  have hD : va_D A ([(o, .inr (2, [.int i, .int fa, .int 0, .int 0, .int 0, .int 0, .int 0]))]) := hD
  refine lv_aload_n hx hb d_L_init_14 rfl (lv_at hl 0 rfl) ?_
  refine lv_iload_n hx hb d_L_init_15 rfl (lv_at hl 3 rfl) ?_
  refine va_putF (D := D) (ci := 2) (v := .int j) (ty := .int) (C := R_L) (T := T_L) (N := 7) hx hb hA inA_L ty_L tok_L nm_L hown hK hP hD hS 0 rfl rfl 2 (by decide) (hA _ wd_107) (fun _ h9 => h9) rfl hin rfl (by decide +kernel) (by first | rfl | decide) (by first | rfl | decide) (Nat.le_of_ble_eq_true rfl) d_L_init_16 (fun H locs hP hD hS => ?_)
  have hP : va_P D vwCl ([(o, .inr (2, [.int i, .int fa, .int j, .int 0, .int 0, .int 0, .int 0]))]) H := hP
  have hD : va_D A ([(o, .inr (2, [.int i, .int fa, .int j, .int 0, .int 0, .int 0, .int 0]))]) := hD
  refine lv_aload_n hx hb d_L_init_19 rfl (lv_at hl 0 rfl) ?_
  refine lv_iload hx hb d_L_init_20 (lv_at hl 4 rfl) ?_
  refine va_putF (D := D) (ci := 2) (v := .int fb) (ty := .int) (C := R_L) (T := T_L) (N := 7) hx hb hA inA_L ty_L tok_L nm_L hown hK hP hD hS 0 rfl rfl 3 (by decide) (hA _ wd_108) (fun _ h9 => h9) rfl hin rfl (by decide +kernel) (by first | rfl | decide) (by first | rfl | decide) (Nat.le_of_ble_eq_true rfl) d_L_init_22 (fun H locs hP hD hS => ?_)
  have hP : va_P D vwCl ([(o, .inr (2, [.int i, .int fa, .int j, .int fb, .int 0, .int 0, .int 0]))]) H := hP
  have hD : va_D A ([(o, .inr (2, [.int i, .int fa, .int j, .int fb, .int 0, .int 0, .int 0]))]) := hD
  refine lv_aload_n hx hb d_L_init_25 rfl (lv_at hl 0 rfl) ?_
  refine lv_iload hx hb d_L_init_26 (lv_at hl 5 rfl) ?_
  refine va_putF (D := D) (ci := 2) (v := .int v) (ty := .int) (C := R_L) (T := T_L) (N := 7) hx hb hA inA_L ty_L tok_L nm_L hown hK hP hD hS 0 rfl rfl 4 (by decide) (hA _ wd_109) (fun _ h9 => h9) rfl hin rfl (by decide +kernel) (by first | rfl | decide) (by first | rfl | decide) (Nat.le_of_ble_eq_true rfl) d_L_init_28 (fun H locs hP hD hS => ?_)
  have hP : va_P D vwCl ([(o, .inr (2, [.int i, .int fa, .int j, .int fb, .int v, .int 0, .int 0]))]) H := hP
  have hD : va_D A ([(o, .inr (2, [.int i, .int fa, .int j, .int fb, .int v, .int 0, .int 0]))]) := hD
  refine lv_aload_n hx hb d_L_init_31 rfl (lv_at hl 0 rfl) ?_
  refine lv_iload hx hb d_L_init_32 (lv_at hl 6 rfl) ?_
  refine va_putF (D := D) (ci := 2) (v := .int fc) (ty := .int) (C := R_L) (T := T_L) (N := 7) hx hb hA inA_L ty_L tok_L nm_L hown hK hP hD hS 0 rfl rfl 5 (by decide) (hA _ wd_110) (fun _ h9 => h9) rfl hin rfl (by decide +kernel) (by first | rfl | decide) (by first | rfl | decide) (Nat.le_of_ble_eq_true rfl) d_L_init_34 (fun H locs hP hD hS => ?_)
  have hP : va_P D vwCl ([(o, .inr (2, [.int i, .int fa, .int j, .int fb, .int v, .int fc, .int 0]))]) H := hP
  have hD : va_D A ([(o, .inr (2, [.int i, .int fa, .int j, .int fb, .int v, .int fc, .int 0]))]) := hD
  refine lv_aload_n hx hb d_L_init_37 rfl (lv_at hl 0 rfl) ?_
  refine lv_iload hx hb d_L_init_38 (lv_at hl 7 rfl) ?_
  refine va_putF (D := D) (ci := 2) (v := .int bd) (ty := .int) (C := R_L) (T := T_L) (N := 7) hx hb hA inA_L ty_L tok_L nm_L hown hK hP hD hS 0 rfl rfl 6 (by decide) (hA _ wd_111) (fun _ h9 => h9) rfl hin rfl (by decide +kernel) (by first | rfl | decide) (by first | rfl | decide) (Nat.le_of_ble_eq_true rfl) d_L_init_40 (fun H locs hP hD hS => ?_)
  have hP : va_P D vwCl ([(o, .inr (2, [.int i, .int fa, .int j, .int fb, .int v, .int fc, .int bd]))]) H := hP
  have hD : va_D A ([(o, .inr (2, [.int i, .int fa, .int j, .int fb, .int v, .int fc, .int bd]))]) := hD
  exact eWv [(o, .inr (2, [.int i, .int fa, .int j, .int fb, .int v, .int fc, .int bd]))] hx hb hr hlocks hP hK hD hS rfl d_L_init_43
end
