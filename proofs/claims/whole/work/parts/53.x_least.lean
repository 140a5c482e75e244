section
set_option maxRecDepth 100000 in
set_option maxHeartbeats 4000000 in
theorem c_least (l : Launch) (D : va_G) (q : Nat → Nat) (n P k a : Nat) (z : Int32) (lo hi B av al ah an pt fd : Nat → Int32) (i : Int32) (sz : Nat) (hn : n ≤ 8) (hP4 : P ≤ 4096) (ha : a ≤ 8) (hav : ∀ m, m < a → vp_in (av m) 8) : Met l y_X_least (wsm y_X_least b_X_least 2 (some .int)) { frames := 3, cells := 0, slots := 0, locals := 63 } (va_Pc [.ref (q 0), .int i] (fun U => U.heap.size = sz ∧ cPre D (xw D q n P k a z lo hi B av al ah an pt fd) U)) (va_Qi (fun (r : Int32) (u : XS) => (¬ iv n i ∧ r = 1000 ∧ u = (n, P, k, a, z, lo, hi, B, av, al, ah, an, pt, fd)) ∨ (iv n i ∧ r = (if (srF n P a lo hi B av al ah pt fd i 1).1 = true then (srF n P a lo hi B av al ah pt fd i 1).2.2 i.toNatClampNeg else 1000) ∧ u = (n, P, k, a, z, lo, hi, B, av, al, ah, an, (srF n P a lo hi B av al ah pt fd i 1).2.1, (srF n P a lo hi B av al ah pt fd i 1).2.2))) (fun u t => xB D (xW D q u) (va_A (xw D q n P k a z lo hi B av al ah an pt fd) sz) t) (va_A (xw D q n P k a z lo hi B av al ah an pt fd) sz)) 0 0 (va_A (xw D q n P k a z lo hi B av al ah an pt fd) sz) := by
  refine met_W (Qf := fun A => va_Qi (fun (r : Int32) (u : XS) => (¬ iv n i ∧ r = 1000 ∧ u = (n, P, k, a, z, lo, hi, B, av, al, ah, an, pt, fd)) ∨ (iv n i ∧ r = (if (srF n P a lo hi B av al ah pt fd i 1).1 = true then (srF n P a lo hi B av al ah pt fd i 1).2.2 i.toNatClampNeg else 1000) ∧ u = (n, P, k, a, z, lo, hi, B, av, al, ah, an, (srF n P a lo hi B av al ah pt fd i 1).2.1, (srF n P a lo hi B av al ah pt fd i 1).2.2))) (fun u t => xB D (xW D q u) A t) A) (by decide) (Nat.le_of_ble_eq_true rfl) ?_
  intro p e s m below meth c ls A hx hb hr hlocks hml hown hin hA hP hK hD hN hl hS hAA
  have hown : s.vm.findClass R_X = some m.cls := hown
  have hl : lv_has ls 2 [(0, .ref (q 0)), (1, .int i)] := hl
  refine lv_aload_n hx hb d_X_least_0 rfl (lv_at hl 0 rfl) ?_
  refine lv_iload_n hx hb d_X_least_1 rfl (lv_at hl 1 rfl) ?_
  refine rV (n := 1) (rest := []) hx hb hml hown hA (c_isVariable l D q n P k a z lo hi B av al ah an pt fd i) wv_X_75 ⟨by decide, by decide, by decide +kernel⟩ ⟨rfl, rfl, by decide, by decide⟩ rfl hl.1 ⟨Nat.le_of_ble_eq_true rfl, Nat.le_of_ble_eq_true rfl⟩ hP hK hD hN 0 0 rfl rfl rfl (Nat.le_of_ble_eq_true rfl) d_X_least_2 (fun r hr9 => ?_)
  rcases zb_c hr9 with ⟨rfl, h2⟩ | ⟨rfl, h2⟩
  · skip
    refine lv_if_eq (tgt := 26) hx hb d_X_least_5 (by decide) (fun h => absurd h (by decide)) (fun _ => ?_)
    refine lv_aload_n hx hb d_X_least_8 rfl (lv_at hl 0 rfl) ?_
    refine lv_iload_n hx hb d_X_least_9 rfl (lv_at hl 1 rfl) ?_
    refine lv_iconst (v := 1) hx hb d_X_least_10 (by decide) ?_
    refine wVi (n := 2) (wr := []) (Wf := xW D q) (rest := []) hx hb hml hown hA (c_search l D q n P k a z lo hi B av al ah an pt fd i 1 _ hn hP4 ha hav (iv_in h2 hn)) wv_X_116 ⟨by decide, by decide, by decide +kernel⟩ ⟨rfl, rfl, by decide, by decide⟩ rfl hl.1 ⟨Nat.le_of_ble_eq_true rfl, Nat.le_of_ble_eq_true rfl⟩ hP hK hD hS hAA hN [0, 1, 2, 3, 4, 5, 6, 7, 8, 9] [] rfl rfl (by decide) (by decide) (by decide) 0 0 rfl rfl rfl (Nat.le_of_ble_eq_true rfl) d_X_least_11 (fun r u H locs hu hP hD hS => ?_)
    obtain ⟨hr9, rfl⟩ := hu
    have hP : va_P D vwCl (xw D q n P k a z lo hi B av al ah an ((srF n P a lo hi B av al ah pt fd i 1).2.1) ((srF n P a lo hi B av al ah pt fd i 1).2.2)) H := hP
    have hD : va_D A (xw D q n P k a z lo hi B av al ah an ((srF n P a lo hi B av al ah pt fd i 1).2.1) ((srF n P a lo hi B av al ah pt fd i 1).2.2)) := hD
    rcases zb_cb hr9 with ⟨rfl, h11⟩ | ⟨rfl, h11⟩
    · skip
      refine lv_if_eq (tgt := 26) hx hb d_X_least_14 (by decide) (fun h => absurd h (by decide)) (fun _ => ?_)
      refine lv_aload_n hx hb d_X_least_17 rfl (lv_at hl 0 rfl) ?_
      refine va_get (D := D) (ci := 0) (v := .ref (q 9)) (C := R_X) (T := T_X) (N := 14) hx hb hA inA_X hown hK hP 0 rfl rfl 13 (by decide) (hA _ wd_38) (fun _ h9 => h9) rfl d_X_least_18 ?_
      refine lv_iload_n hx hb d_X_least_21 rfl (lv_at hl 1 rfl) ?_
      refine va_iald hx hb hK hP 9 0 rfl rfl (iv_in h2 hn) d_X_least_22 ?_
      refine lv_goto (tgt := 29) hx hb d_X_least_23 (by decide) ?_
      exact eWi (n, P, k, a, z, lo, hi, B, av, al, ah, an, (srF n P a lo hi B av al ah pt fd i 1).2.1, (srF n P a lo hi B av al ah pt fd i 1).2.2) hx hb hr hlocks hP hK hD hS (by first | exact Or.inl ⟨h2, rfl, rfl⟩ | exact Or.inr ⟨h2, (Eq.symm (if_pos h11)), rfl⟩ | exact Or.inr ⟨h2, (Eq.symm (if_neg (by rw [h11]; decide))), rfl⟩) d_X_least_29
    · skip
      refine lv_if_eq (tgt := 26) hx hb d_X_least_14 (by decide) (fun _ => ?_) (fun h => absurd h (by decide))
      refine lv_sipush (v := 1000) hx hb d_X_least_26 (by decide) ?_
      exact eWi (n, P, k, a, z, lo, hi, B, av, al, ah, an, (srF n P a lo hi B av al ah pt fd i 1).2.1, (srF n P a lo hi B av al ah pt fd i 1).2.2) hx hb hr hlocks hP hK hD hS (by first | exact Or.inl ⟨h2, rfl, rfl⟩ | exact Or.inr ⟨h2, (Eq.symm (if_pos h11)), rfl⟩ | exact Or.inr ⟨h2, (Eq.symm (if_neg (by rw [h11]; decide))), rfl⟩) d_X_least_29
  · skip
    refine lv_if_eq (tgt := 26) hx hb d_X_least_5 (by decide) (fun _ => ?_) (fun h => absurd h (by decide))
    refine lv_sipush (v := 1000) hx hb d_X_least_26 (by decide) ?_
    exact eWi (n, P, k, a, z, lo, hi, B, av, al, ah, an, pt, fd) hx hb hr hlocks hP hK hD hS (by first | exact Or.inl ⟨h2, rfl, rfl⟩ | exact Or.inr ⟨h2, (Eq.symm (if_pos h11)), rfl⟩ | exact Or.inr ⟨h2, (Eq.symm (if_neg (by rw [h11]; decide))), rfl⟩) d_X_least_29
end
