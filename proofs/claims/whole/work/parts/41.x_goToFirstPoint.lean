section
set_option maxRecDepth 100000 in
set_option maxHeartbeats 4000000 in
theorem c_goToFirstPoint (l : Launch) (D : va_G) (q : Nat → Nat) (n P k a : Nat) (z : Int32) (lo hi B av al ah an pt fd : Nat → Int32) (sz : Nat) (hn : n ≤ 8) : Met l y_X_goToFirstPoint (wsm y_X_goToFirstPoint b_X_goToFirstPoint 1 none) { frames := 1, cells := 0, slots := 0, locals := 18 } (va_Pc [.ref (q 0)] (fun U => U.heap.size = sz ∧ cPre D (xw D q n P k a z lo hi B av al ah an pt fd) U)) (va_Qv (fun u : XS => u = (n, P, k, a, z, lo, hi, B, av, al, ah, an, va_cpy lo pt 0 0 n, fd)) (fun u t => xB D (xW D q u) (va_A (xw D q n P k a z lo hi B av al ah an pt fd) sz) t) (va_A (xw D q n P k a z lo hi B av al ah an pt fd) sz)) 0 0 (va_A (xw D q n P k a z lo hi B av al ah an pt fd) sz) := by
  refine met_W (Qf := fun A => va_Qv (fun u : XS => u = (n, P, k, a, z, lo, hi, B, av, al, ah, an, va_cpy lo pt 0 0 n, fd)) (fun u t => xB D (xW D q u) A t) A) (by decide) (Nat.le_of_ble_eq_true rfl) ?_
  intro p e s m below meth c ls A hx hb hr hlocks hml hown hin hA hP hK hD hN hl hS hAA
  have hown : s.vm.findClass R_X = some m.cls := hown
  have hl : lv_has ls 1 [(0, .ref (q 0))] := hl
  refine lv_aload_n hx hb d_X_goToFirstPoint_0 rfl (lv_at hl 0 rfl) ?_
  refine va_get (D := D) (ci := 0) (v := .ref (q 1)) (C := R_X) (T := T_X) (N := 14) hx hb hA inA_X hown hK hP 0 rfl rfl 0 (by decide) (hA _ wd_25) (fun _ h9 => h9) rfl d_X_goToFirstPoint_1 ?_
  refine lv_iconst (v := 0) hx hb d_X_goToFirstPoint_4 (by decide) ?_
  refine lv_aload_n hx hb d_X_goToFirstPoint_5 rfl (lv_at hl 0 rfl) ?_
  refine va_get (D := D) (ci := 0) (v := .ref (q 8)) (C := R_X) (T := T_X) (N := 14) hx hb hA inA_X hown hK hP 0 rfl rfl 12 (by decide) (hA _ wd_37) (fun _ h9 => h9) rfl d_X_goToFirstPoint_6 ?_
  refine lv_iconst (v := 0) hx hb d_X_goToFirstPoint_9 (by decide) ?_
  refine lv_aload_n hx hb d_X_goToFirstPoint_10 rfl (lv_at hl 0 rfl) ?_
  refine va_get (D := D) (ci := 0) (v := .int (nI n)) (C := R_X) (T := T_X) (N := 14) hx hb hA inA_X hown hK hP 0 rfl rfl 2 (by decide) (hA _ wd_27) (fun _ h9 => h9) rfl d_X_goToFirstPoint_11 ?_
  refine xi_copy hx hb (hml.trans hl.1.symm) hown (hA _ wc_X_135.1) (hA _ wc_X_135.2.1) (hA _ wc_X_135.2.2.1) (hA _ wc_X_135.2.2.2) hK hP hD hS 1 8 rfl rfl (k := n) (hn) (by decide) (by decide) (by decide) (by decide) d_X_goToFirstPoint_14 (fun H locs hP hD hS => ?_)
  have hP : va_P D vwCl (xw D q n P k a z lo hi B av al ah an (va_cpy lo pt 0 0 n) fd) H := hP
  have hD : va_D A (xw D q n P k a z lo hi B av al ah an (va_cpy lo pt 0 0 n) fd) := hD
  exact eWv (n, P, k, a, z, lo, hi, B, av, al, ah, an, va_cpy lo pt 0 0 n, fd) hx hb hr hlocks hP hK hD hS (rfl) d_X_goToFirstPoint_17
end
