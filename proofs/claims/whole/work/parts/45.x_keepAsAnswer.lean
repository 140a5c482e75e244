section
set_option maxRecDepth 100000 in
set_option maxHeartbeats 4000000 in
theorem c_keepAsAnswer (l : Launch) (D : va_G) (q : Nat → Nat) (n P k a : Nat) (z : Int32) (lo hi B av al ah an pt fd : Nat → Int32) (t : Int32) (sz : Nat) (hn : n ≤ 8) (ht : t = 0 ∨ t = 1) : Met l y_X_keepAsAnswer (wsm y_X_keepAsAnswer b_X_keepAsAnswer 2 (some .boolean)) { frames := 1, cells := 0, slots := 0, locals := 18 } (va_Pc [.ref (q 0), .int t] (fun U => U.heap.size = sz ∧ cPre D (xw D q n P k a z lo hi B av al ah an pt fd) U)) (va_Qi (fun (r : Int32) (u : XS) => r = t ∧ u = (n, P, k, a, t, lo, hi, B, av, al, ah, if t = 0 then an else va_cpy fd an 0 0 n, pt, fd)) (fun u t => xB D (xW D q u) (va_A (xw D q n P k a z lo hi B av al ah an pt fd) sz) t) (va_A (xw D q n P k a z lo hi B av al ah an pt fd) sz)) 0 0 (va_A (xw D q n P k a z lo hi B av al ah an pt fd) sz) := by
  refine met_W (Qf := fun A => va_Qi (fun (r : Int32) (u : XS) => r = t ∧ u = (n, P, k, a, t, lo, hi, B, av, al, ah, if t = 0 then an else va_cpy fd an 0 0 n, pt, fd)) (fun u t => xB D (xW D q u) A t) A) (by decide) (Nat.le_of_ble_eq_true rfl) ?_
  intro p e s m below meth c ls A hx hb hr hlocks hml hown hin hA hP hK hD hN hl hS hAA
  have hown : s.vm.findClass R_X = some m.cls := hown
  have hl : lv_has ls 2 [(0, .ref (q 0)), (1, .int t)] := hl
  rcases ht with rfl | rfl
  · skip
    have hl : lv_has ls 2 [(0, .ref (q 0)), (1, .int 0)] := hl
    refine lv_iload_n hx hb d_X_keepAsAnswer_0 rfl (lv_at hl 1 rfl) ?_
    refine lv_if_eq (tgt := 21) hx hb d_X_keepAsAnswer_1 (by decide) (fun _ => ?_) (fun h => absurd h (by decide))
    refine lv_aload_n hx hb d_X_keepAsAnswer_21 rfl (lv_at hl 0 rfl) ?_
    refine lv_iload_n hx hb d_X_keepAsAnswer_22 rfl (lv_at hl 1 rfl) ?_
    refine va_put (D := D) (ci := 0) (v := .int 0) (ty := .boolean) (C := R_X) (T := T_X) (N := 14) hx hb hA inA_X ty_X tok_X nm_X hown hK hP hD hS 0 rfl rfl 11 (by decide) (hA _ wd_36) (fun _ h9 => h9) rfl (by decide +kernel) (by first | rfl | decide) (by first | rfl | decide) (Nat.le_of_ble_eq_true rfl) d_X_keepAsAnswer_23 (fun H locs hP hD hS => ?_)
    have hP : va_P D vwCl (xw D q n P k a 0 lo hi B av al ah an pt fd) H := hP
    have hD : va_D A (xw D q n P k a 0 lo hi B av al ah an pt fd) := hD
    refine lv_iload_n hx hb d_X_keepAsAnswer_26 rfl (lv_at hl 1 rfl) ?_
    exact eWz (n, P, k, a, 0, lo, hi, B, av, al, ah, an, pt, fd) hx hb hr hlocks (by first | rfl | decide) hP hK hD hS (⟨rfl, rfl⟩) d_X_keepAsAnswer_27
  · skip
    have hl : lv_has ls 2 [(0, .ref (q 0)), (1, .int 1)] := hl
    refine lv_iload_n hx hb d_X_keepAsAnswer_0 rfl (lv_at hl 1 rfl) ?_
    refine lv_if_eq (tgt := 21) hx hb d_X_keepAsAnswer_1 (by decide) (fun h => absurd h (by decide)) (fun _ => ?_)
    refine lv_aload_n hx hb d_X_keepAsAnswer_4 rfl (lv_at hl 0 rfl) ?_
    refine va_get (D := D) (ci := 0) (v := .ref (q 9)) (C := R_X) (T := T_X) (N := 14) hx hb hA inA_X hown hK hP 0 rfl rfl 13 (by decide) (hA _ wd_38) (fun _ h9 => h9) rfl d_X_keepAsAnswer_5 ?_
    refine lv_iconst (v := 0) hx hb d_X_keepAsAnswer_8 (by decide) ?_
    refine lv_aload_n hx hb d_X_keepAsAnswer_9 rfl (lv_at hl 0 rfl) ?_
    refine va_get (D := D) (ci := 0) (v := .ref (q 7)) (C := R_X) (T := T_X) (N := 14) hx hb hA inA_X hown hK hP 0 rfl rfl 10 (by decide) (hA _ wd_35) (fun _ h9 => h9) rfl d_X_keepAsAnswer_10 ?_
    refine lv_iconst (v := 0) hx hb d_X_keepAsAnswer_13 (by decide) ?_
    refine lv_aload_n hx hb d_X_keepAsAnswer_14 rfl (lv_at hl 0 rfl) ?_
    refine va_get (D := D) (ci := 0) (v := .int (nI n)) (C := R_X) (T := T_X) (N := 14) hx hb hA inA_X hown hK hP 0 rfl rfl 2 (by decide) (hA _ wd_27) (fun _ h9 => h9) rfl d_X_keepAsAnswer_15 ?_
    refine xi_copy hx hb (hml.trans hl.1.symm) hown (hA _ wc_X_135.1) (hA _ wc_X_135.2.1) (hA _ wc_X_135.2.2.1) (hA _ wc_X_135.2.2.2) hK hP hD hS 9 7 rfl rfl (k := n) (hn) (by decide) (by decide) (by decide) (by decide) d_X_keepAsAnswer_18 (fun H locs hP hD hS => ?_)
    have hP : va_P D vwCl (xw D q n P k a z lo hi B av al ah (va_cpy fd an 0 0 n) pt fd) H := hP
    have hD : va_D A (xw D q n P k a z lo hi B av al ah (va_cpy fd an 0 0 n) pt fd) := hD
    refine lv_aload_n hx hb d_X_keepAsAnswer_21 rfl (lv_at hl 0 rfl) ?_
    refine lv_iload_n hx hb d_X_keepAsAnswer_22 rfl (lv_at hl 1 rfl) ?_
    refine va_put (D := D) (ci := 0) (v := .int 1) (ty := .boolean) (C := R_X) (T := T_X) (N := 14) hx hb hA inA_X ty_X tok_X nm_X hown hK hP hD hS 0 rfl rfl 11 (by decide) (hA _ wd_36) (fun _ h9 => h9) rfl (by decide +kernel) (by first | rfl | decide) (by first | rfl | decide) (Nat.le_of_ble_eq_true rfl) d_X_keepAsAnswer_23 (fun H locs hP hD hS => ?_)
    have hP : va_P D vwCl (xw D q n P k a 1 lo hi B av al ah (va_cpy fd an 0 0 n) pt fd) H := hP
    have hD : va_D A (xw D q n P k a 1 lo hi B av al ah (va_cpy fd an 0 0 n) pt fd) := hD
    refine lv_iload_n hx hb d_X_keepAsAnswer_26 rfl (lv_at hl 1 rfl) ?_
    exact eWz (n, P, k, a, 1, lo, hi, B, av, al, ah, va_cpy fd an 0 0 n, pt, fd) hx hb hr hlocks (by first | rfl | decide) hP hK hD hS (⟨rfl, rfl⟩) d_X_keepAsAnswer_27
end
