section
set_option maxRecDepth 100000 in
set_option maxHeartbeats 4000000 in
theorem c_assume (l : Launch) (D : va_G) (q : Nat → Nat) (n P k a : Nat) (z : Int32) (lo hi B av al ah an pt fd : Nat → Int32) (i x y : Int32) (sz : Nat) (ha : a ≤ 8) : Met l y_X_assume (wsm y_X_assume b_X_assume 4 (some .boolean)) { frames := 1, cells := 0, slots := 0, locals := 21 } (va_Pc [.ref (q 0), .int i, .int x, .int y] (fun U => U.heap.size = sz ∧ cPre D (xw D q n P k a z lo hi B av al ah an pt fd) U)) (va_Qi (fun (r : Int32) (u : XS) => (¬ (iv n i ∧ a < 8) ∧ r = 0 ∧ u = (n, P, k, a, z, lo, hi, B, av, al, ah, an, pt, fd)) ∨ (iv n i ∧ a < 8 ∧ r = 1 ∧ u = (n, P, k, a + 1, 0, lo, hi, B, upd av a i, upd al a x, upd ah a y, an, pt, fd))) (fun u t => xB D (xW D q u) (va_A (xw D q n P k a z lo hi B av al ah an pt fd) sz) t) (va_A (xw D q n P k a z lo hi B av al ah an pt fd) sz)) 0 0 (va_A (xw D q n P k a z lo hi B av al ah an pt fd) sz) := by
  refine met_W (Qf := fun A => va_Qi (fun (r : Int32) (u : XS) => (¬ (iv n i ∧ a < 8) ∧ r = 0 ∧ u = (n, P, k, a, z, lo, hi, B, av, al, ah, an, pt, fd)) ∨ (iv n i ∧ a < 8 ∧ r = 1 ∧ u = (n, P, k, a + 1, 0, lo, hi, B, upd av a i, upd al a x, upd ah a y, an, pt, fd))) (fun u t => xB D (xW D q u) A t) A) (by decide) (Nat.le_of_ble_eq_true rfl) ?_
  intro p e s m below meth c ls A hx hb hr hlocks hml hown hin hA hP hK hD hN hl hS hAA
  have hown : s.vm.findClass R_X = some m.cls := hown
  have hl : lv_has ls 4 [(0, .ref (q 0)), (1, .int i), (2, .int x), (3, .int y)] := hl
  refine lv_aload_n hx hb d_X_assume_0 rfl (lv_at hl 0 rfl) ?_
  refine lv_iload_n hx hb d_X_assume_1 rfl (lv_at hl 1 rfl) ?_
  refine rV (n := 1) (rest := []) hx hb hml hown hA (c_isVariable l D q n P k a z lo hi B av al ah an pt fd i) wv_X_75 ⟨by decide, by decide, by decide +kernel⟩ ⟨rfl, rfl, by decide, by decide⟩ rfl hl.1 ⟨Nat.le_of_ble_eq_true rfl, Nat.le_of_ble_eq_true rfl⟩ hP hK hD hN 0 0 rfl rfl rfl (Nat.le_of_ble_eq_true rfl) d_X_assume_2 (fun r hr9 => ?_)
  rcases zb_c hr9 with ⟨rfl, h2⟩ | ⟨rfl, h2⟩
  · skip
    refine lv_if_eq (tgt := 17) hx hb d_X_assume_5 (by decide) (fun h => absurd h (by decide)) (fun _ => ?_)
    refine lv_aload_n hx hb d_X_assume_8 rfl (lv_at hl 0 rfl) ?_
    refine va_get (D := D) (ci := 0) (v := .int (nI a)) (C := R_X) (T := T_X) (N := 14) hx hb hA inA_X hown hK hP 0 rfl rfl 9 (by decide) (hA _ wd_34) (fun _ h9 => h9) rfl d_X_assume_9 ?_
    refine lv_bipush (v := 8) hx hb d_X_assume_12 (by decide) ?_
    refine lv_icmp_lt (tgt := 19) hx hb d_X_assume_14 (by decide) (fun h14 => ?_) (fun h14 => ?_)
    · skip
      refine lv_aload_n hx hb d_X_assume_19 rfl (lv_at hl 0 rfl) ?_
      refine va_get (D := D) (ci := 0) (v := .ref (q 4)) (C := R_X) (T := T_X) (N := 14) hx hb hA inA_X hown hK hP 0 rfl rfl 6 (by decide) (hA _ wd_31) (fun _ h9 => h9) rfl d_X_assume_20 ?_
      refine lv_aload_n hx hb d_X_assume_23 rfl (lv_at hl 0 rfl) ?_
      refine va_get (D := D) (ci := 0) (v := .int (nI a)) (C := R_X) (T := T_X) (N := 14) hx hb hA inA_X hown hK hP 0 rfl rfl 9 (by decide) (hA _ wd_34) (fun _ h9 => h9) rfl d_X_assume_24 ?_
      refine lv_iload_n hx hb d_X_assume_27 rfl (lv_at hl 1 rfl) ?_
      refine xi_ast hx hb hK hP hD hS 4 rfl (lt8 h14 ha) (by decide) d_X_assume_28 (fun H locs hP hD hS => ?_)
      have hP : va_P D vwCl (xw D q n P k a z lo hi B (upd av a i) al ah an pt fd) H := hP
      have hD : va_D A (xw D q n P k a z lo hi B (upd av a i) al ah an pt fd) := hD
      refine lv_aload_n hx hb d_X_assume_29 rfl (lv_at hl 0 rfl) ?_
      refine va_get (D := D) (ci := 0) (v := .ref (q 5)) (C := R_X) (T := T_X) (N := 14) hx hb hA inA_X hown hK hP 0 rfl rfl 7 (by decide) (hA _ wd_32) (fun _ h9 => h9) rfl d_X_assume_30 ?_
      refine lv_aload_n hx hb d_X_assume_33 rfl (lv_at hl 0 rfl) ?_
      refine va_get (D := D) (ci := 0) (v := .int (nI a)) (C := R_X) (T := T_X) (N := 14) hx hb hA inA_X hown hK hP 0 rfl rfl 9 (by decide) (hA _ wd_34) (fun _ h9 => h9) rfl d_X_assume_34 ?_
      refine lv_iload_n hx hb d_X_assume_37 rfl (lv_at hl 2 rfl) ?_
      refine xi_ast hx hb hK hP hD hS 5 rfl (lt8 h14 ha) (by decide) d_X_assume_38 (fun H locs hP hD hS => ?_)
      have hP : va_P D vwCl (xw D q n P k a z lo hi B (upd av a i) (upd al a x) ah an pt fd) H := hP
      have hD : va_D A (xw D q n P k a z lo hi B (upd av a i) (upd al a x) ah an pt fd) := hD
      refine lv_aload_n hx hb d_X_assume_39 rfl (lv_at hl 0 rfl) ?_
      refine va_get (D := D) (ci := 0) (v := .ref (q 6)) (C := R_X) (T := T_X) (N := 14) hx hb hA inA_X hown hK hP 0 rfl rfl 8 (by decide) (hA _ wd_33) (fun _ h9 => h9) rfl d_X_assume_40 ?_
      refine lv_aload_n hx hb d_X_assume_43 rfl (lv_at hl 0 rfl) ?_
      refine va_get (D := D) (ci := 0) (v := .int (nI a)) (C := R_X) (T := T_X) (N := 14) hx hb hA inA_X hown hK hP 0 rfl rfl 9 (by decide) (hA _ wd_34) (fun _ h9 => h9) rfl d_X_assume_44 ?_
      refine lv_iload_n hx hb d_X_assume_47 rfl (lv_at hl 3 rfl) ?_
      refine xi_ast hx hb hK hP hD hS 6 rfl (lt8 h14 ha) (by decide) d_X_assume_48 (fun H locs hP hD hS => ?_)
      have hP : va_P D vwCl (xw D q n P k a z lo hi B (upd av a i) (upd al a x) (upd ah a y) an pt fd) H := hP
      have hD : va_D A (xw D q n P k a z lo hi B (upd av a i) (upd al a x) (upd ah a y) an pt fd) := hD
      refine lv_aload_n hx hb d_X_assume_49 rfl (lv_at hl 0 rfl) ?_
      refine lv_dup hx hb d_X_assume_50 rfl ?_
      refine va_get (D := D) (ci := 0) (v := .int (nI a)) (C := R_X) (T := T_X) (N := 14) hx hb hA inA_X hown hK hP 0 rfl rfl 9 (by decide) (hA _ wd_34) (fun _ h9 => h9) rfl d_X_assume_51 ?_
      refine lv_iconst (v := 1) hx hb d_X_assume_54 (by decide) ?_
      refine lv_iadd hx hb d_X_assume_55 ?_
      refine topi_to (v := nI (a + 1)) ((nI_succ a).symm) ?_
      refine va_put (D := D) (ci := 0) (v := .int (nI (a + 1))) (ty := .int) (C := R_X) (T := T_X) (N := 14) hx hb hA inA_X ty_X tok_X nm_X hown hK hP hD hS 0 rfl rfl 9 (by decide) (hA _ wd_34) (fun _ h9 => h9) rfl (by decide +kernel) (by first | rfl | decide) (by first | rfl | decide) (Nat.le_of_ble_eq_true rfl) d_X_assume_56 (fun H locs hP hD hS => ?_)
      have hP : va_P D vwCl (xw D q n P k (a + 1) z lo hi B (upd av a i) (upd al a x) (upd ah a y) an pt fd) H := hP
      have hD : va_D A (xw D q n P k (a + 1) z lo hi B (upd av a i) (upd al a x) (upd ah a y) an pt fd) := hD
      refine lv_aload_n hx hb d_X_assume_59 rfl (lv_at hl 0 rfl) ?_
      refine lv_iconst (v := 0) hx hb d_X_assume_60 (by decide) ?_
      refine va_put (D := D) (ci := 0) (v := .int 0) (ty := .boolean) (C := R_X) (T := T_X) (N := 14) hx hb hA inA_X ty_X tok_X nm_X hown hK hP hD hS 0 rfl rfl 11 (by decide) (hA _ wd_36) (fun _ h9 => h9) rfl (by decide +kernel) (by first | rfl | decide) (by first | rfl | decide) (Nat.le_of_ble_eq_true rfl) d_X_assume_61 (fun H locs hP hD hS => ?_)
      have hP : va_P D vwCl (xw D q n P k (a + 1) 0 lo hi B (upd av a i) (upd al a x) (upd ah a y) an pt fd) H := hP
      have hD : va_D A (xw D q n P k (a + 1) 0 lo hi B (upd av a i) (upd al a x) (upd ah a y) an pt fd) := hD
      refine lv_iconst (v := 1) hx hb d_X_assume_64 (by decide) ?_
      exact eWz (n, P, k, (a + 1), 0, lo, hi, B, upd av a i, upd al a x, upd ah a y, an, pt, fd) hx hb hr hlocks (by first | rfl | decide) hP hK hD hS (Or.inr ⟨h2, lt8 h14 ha, rfl, rfl⟩) d_X_assume_65
    · skip
      refine lv_iconst (v := 0) hx hb d_X_assume_17 (by decide) ?_
      exact eWz (n, P, k, a, z, lo, hi, B, av, al, ah, an, pt, fd) hx hb hr hlocks (by first | rfl | decide) hP hK hD hS (by first | exact Or.inl ⟨fun h => h2 h.1, rfl, rfl⟩ | exact Or.inl ⟨fun h => h14 (nI_lt h.2 (by decide)), rfl, rfl⟩) d_X_assume_18
  · skip
    refine lv_if_eq (tgt := 17) hx hb d_X_assume_5 (by decide) (fun _ => ?_) (fun h => absurd h (by decide))
    refine lv_iconst (v := 0) hx hb d_X_assume_17 (by decide) ?_
    exact eWz (n, P, k, a, z, lo, hi, B, av, al, ah, an, pt, fd) hx hb hr hlocks (by first | rfl | decide) hP hK hD hS (by first | exact Or.inl ⟨fun h => h2 h.1, rfl, rfl⟩ | exact Or.inl ⟨fun h => h14 (nI_lt h.2 (by decide)), rfl, rfl⟩) d_X_assume_18
end
