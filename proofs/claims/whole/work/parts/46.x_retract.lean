section
set_option maxRecDepth 100000 in
set_option maxHeartbeats 4000000 in
theorem c_retract (l : Launch) (D : va_G) (q : Nat → Nat) (n P k a : Nat) (z : Int32) (lo hi B av al ah an pt fd : Nat → Int32) (sz : Nat) (ha : a ≤ 8) : Met l y_X_retract (wsm y_X_retract b_X_retract 1 (some .boolean)) { frames := 0, cells := 0, slots := 0, locals := 0 } (va_Pc [.ref (q 0)] (fun U => U.heap.size = sz ∧ cPre D (xw D q n P k a z lo hi B av al ah an pt fd) U)) (va_Qi (fun (r : Int32) (u : XS) => (a = 0 ∧ r = 0 ∧ u = (n, P, k, a, z, lo, hi, B, av, al, ah, an, pt, fd)) ∨ (∃ b, a = b + 1 ∧ r = 1 ∧ u = (n, P, k, b, 0, lo, hi, B, av, al, ah, an, pt, fd))) (fun u t => xB D (xW D q u) (va_A (xw D q n P k a z lo hi B av al ah an pt fd) sz) t) (va_A (xw D q n P k a z lo hi B av al ah an pt fd) sz)) 0 0 (va_A (xw D q n P k a z lo hi B av al ah an pt fd) sz) := by
  refine met_W (Qf := fun A => va_Qi (fun (r : Int32) (u : XS) => (a = 0 ∧ r = 0 ∧ u = (n, P, k, a, z, lo, hi, B, av, al, ah, an, pt, fd)) ∨ (∃ b, a = b + 1 ∧ r = 1 ∧ u = (n, P, k, b, 0, lo, hi, B, av, al, ah, an, pt, fd))) (fun u t => xB D (xW D q u) A t) A) (by decide) (Nat.le_of_ble_eq_true rfl) ?_
  intro p e s m below meth c ls A hx hb hr hlocks hml hown hin hA hP hK hD hN hl hS hAA
  have hown : s.vm.findClass R_X = some m.cls := hown
  have hl : lv_has ls 1 [(0, .ref (q 0))] := hl
  rcases a with _ | b
  · skip
    have hP : va_P D vwCl (xw D q n P k 0 z lo hi B av al ah an pt fd) s.heap := hP
    have hD : va_D A (xw D q n P k 0 z lo hi B av al ah an pt fd) := hD
    refine lv_aload_n hx hb d_X_retract_0 rfl (lv_at hl 0 rfl) ?_
    refine va_get (D := D) (ci := 0) (v := .int (nI 0)) (C := R_X) (T := T_X) (N := 14) hx hb hA inA_X hown hK hP 0 rfl rfl 9 (by decide) (hA _ wd_34) (fun _ h9 => h9) rfl d_X_retract_1 ?_
    refine lv_if_ne (tgt := 9) hx hb d_X_retract_4 (by decide) (fun h => absurd h (fun h => h rfl)) (fun h4 => ?_)
    refine lv_iconst (v := 0) hx hb d_X_retract_7 (by decide) ?_
    exact eWz (n, P, k, 0, z, lo, hi, B, av, al, ah, an, pt, fd) hx hb hr hlocks (by first | rfl | decide) hP hK hD hS (Or.inl ⟨rfl, rfl, rfl⟩) d_X_retract_8
  · skip
    have hP : va_P D vwCl (xw D q n P k (b + 1) z lo hi B av al ah an pt fd) s.heap := hP
    have hD : va_D A (xw D q n P k (b + 1) z lo hi B av al ah an pt fd) := hD
    refine lv_aload_n hx hb d_X_retract_0 rfl (lv_at hl 0 rfl) ?_
    refine va_get (D := D) (ci := 0) (v := .int (nI (b + 1))) (C := R_X) (T := T_X) (N := 14) hx hb hA inA_X hown hK hP 0 rfl rfl 9 (by decide) (hA _ wd_34) (fun _ h9 => h9) rfl d_X_retract_1 ?_
    refine lv_if_ne (tgt := 9) hx hb d_X_retract_4 (by decide) (fun h4 => ?_) (fun h => absurd h (nI_ne0 (by omega) (by omega)))
    refine lv_aload_n hx hb d_X_retract_9 rfl (lv_at hl 0 rfl) ?_
    refine lv_dup hx hb d_X_retract_10 rfl ?_
    refine va_get (D := D) (ci := 0) (v := .int (nI (b + 1))) (C := R_X) (T := T_X) (N := 14) hx hb hA inA_X hown hK hP 0 rfl rfl 9 (by decide) (hA _ wd_34) (fun _ h9 => h9) rfl d_X_retract_11 ?_
    refine lv_iconst (v := 1) hx hb d_X_retract_14 (by decide) ?_
    refine lv_isub hx hb d_X_retract_15 ?_
    refine topi_to (v := nI b) (nI_pred b) ?_
    refine va_put (D := D) (ci := 0) (v := .int (nI b)) (ty := .int) (C := R_X) (T := T_X) (N := 14) hx hb hA inA_X ty_X tok_X nm_X hown hK hP hD hS 0 rfl rfl 9 (by decide) (hA _ wd_34) (fun _ h9 => h9) rfl (by decide +kernel) (by first | rfl | decide) (by first | rfl | decide) (Nat.le_of_ble_eq_true rfl) d_X_retract_16 (fun H locs hP hD hS => ?_)
    have hP : va_P D vwCl (xw D q n P k b z lo hi B av al ah an pt fd) H := hP
    have hD : va_D A (xw D q n P k b z lo hi B av al ah an pt fd) := hD
    refine lv_aload_n hx hb d_X_retract_19 rfl (lv_at hl 0 rfl) ?_
    refine lv_iconst (v := 0) hx hb d_X_retract_20 (by decide) ?_
    refine va_put (D := D) (ci := 0) (v := .int 0) (ty := .boolean) (C := R_X) (T := T_X) (N := 14) hx hb hA inA_X ty_X tok_X nm_X hown hK hP hD hS 0 rfl rfl 11 (by decide) (hA _ wd_36) (fun _ h9 => h9) rfl (by decide +kernel) (by first | rfl | decide) (by first | rfl | decide) (Nat.le_of_ble_eq_true rfl) d_X_retract_21 (fun H locs hP hD hS => ?_)
    have hP : va_P D vwCl (xw D q n P k b 0 lo hi B av al ah an pt fd) H := hP
    have hD : va_D A (xw D q n P k b 0 lo hi B av al ah an pt fd) := hD
    refine lv_iconst (v := 1) hx hb d_X_retract_24 (by decide) ?_
    exact eWz (n, P, k, b, 0, lo, hi, B, av, al, ah, an, pt, fd) hx hb hr hlocks (by first | rfl | decide) hP hK hD hS (Or.inr ⟨b, rfl, rfl, rfl⟩) d_X_retract_25
end
