section
set_option maxRecDepth 100000 in
set_option maxHeartbeats 4000000 in
theorem c_different (l : Launch) (D : va_G) (q : Nat → Nat) (n P k a : Nat) (z : Int32) (lo hi B av al ah an pt fd : Nat → Int32) (t1 : Int32) (sz : Nat) (hn : n ≤ 8) (hP4 : P ≤ 4096) (hk : k ≤ 12) : Met l y_X_different (wsm y_X_different b_X_different 2 (some .int)) { frames := 4, cells := 1, slots := 1, locals := 90 } (va_Pc [.ref (q 0), .int t1] (fun U => U.heap.size = sz ∧ cPre D (xw D q n P k a z lo hi B av al ah an pt fd) U)) (va_Qi (fun (r : Int32) (u : XS) => (¬ (ivs n t1) ∧ r = -1 ∧ u = (n, P, k, a, z, lo, hi, B, av, al, ah, an, pt, fd)) ∨ ((ivs n t1) ∧ addP (fun x => (kDif t1 x 8 0 0)) n P k a z lo hi B av al ah an pt fd r u)) (fun u t => xB D (xW D q u) (va_A (xw D q n P k a z lo hi B av al ah an pt fd) sz) t) (va_A (xw D q n P k a z lo hi B av al ah an pt fd) sz)) 1 1 (va_A (xw D q n P k a z lo hi B av al ah an pt fd) sz) := by
  refine met_W (Qf := fun A => va_Qi (fun (r : Int32) (u : XS) => (¬ (ivs n t1) ∧ r = -1 ∧ u = (n, P, k, a, z, lo, hi, B, av, al, ah, an, pt, fd)) ∨ ((ivs n t1) ∧ addP (fun x => (kDif t1 x 8 0 0)) n P k a z lo hi B av al ah an pt fd r u)) (fun u t => xB D (xW D q u) A t) A) (by decide) (Nat.le_of_ble_eq_true rfl) ?_
  intro p e s m below meth c ls A hx hb hr hlocks hml hown hin hA hP hK hD hN hl hS hAA
  have hown : s.vm.findClass R_X = some m.cls := hown
  have hl : lv_has ls 2 [(0, .ref (q 0)), (1, .int t1)] := hl
  refine lv_aload_n hx hb d_X_different_0 rfl (lv_at hl 0 rfl) ?_
  refine lv_iload_n hx hb d_X_different_1 rfl (lv_at hl 1 rfl) ?_
  refine rV (n := 1) (rest := []) hx hb hml hown hA (c_isSetOfVariables l D q n P k a z lo hi B av al ah an pt fd t1) wv_X_95 ⟨by decide, by decide, by decide +kernel⟩ ⟨rfl, rfl, by decide, by decide⟩ rfl hl.1 ⟨Nat.le_of_ble_eq_true rfl, Nat.le_of_ble_eq_true rfl⟩ hP hK hD hN 0 0 rfl rfl rfl (Nat.le_of_ble_eq_true rfl) d_X_different_2 (fun r hr9 => ?_)
  rcases zb_c hr9 with ⟨rfl, h2⟩ | ⟨rfl, h2⟩
  · skip
    refine lv_if_eq (tgt := 23) hx hb d_X_different_5 (by decide) (fun h => absurd h (by decide)) (fun _ => ?_)
    refine lv_aload_n hx hb d_X_different_8 rfl (lv_at hl 0 rfl) ?_
    refine va_new (ci := 6) (fs := [.int 0]) (C := R_D) (T := T_D) (N := 1) hx hb hA inA_D ty_D tok_D hown (hA _ wd_286) (hA _ wd_287) (hA _ wd_12) hK hP hD hS hAA rfl (by decide) (by decide) (by decide) d_X_different_9 (fun o1 H hP hD hS => ?_)
    refine W.widen (k := 1) (n := 1) (by decide) (by decide) ?_
    have hP : va_P D vwCl (xw D q n P k a z lo hi B av al ah an pt fd ++ [(o1, .inr (6, [.int 0]))]) H := hP
    have hD : va_D A (xw D q n P k a z lo hi B av al ah an pt fd ++ [(o1, .inr (6, [.int 0]))]) := hD
    refine lv_dup hx hb d_X_different_12 rfl ?_
    refine lv_iload_n hx hb d_X_different_13 rfl (lv_at hl 1 rfl) ?_
    refine wIN (n := 1) (wr := xw D q n P k a z lo hi B av al ah an pt fd) (Wf := idW) (rest := [.ref o1, .ref (q 0)]) hx hb hml hown hA (c_Different_init l D o1 t1 _) hN.1.2.2.2.2.2.2.2.1 wv_X_100 rfl ⟨by decide, by decide, by decide +kernel⟩ ⟨rfl, rfl, by decide, by decide⟩ rfl hl.1 ⟨Nat.le_of_ble_eq_true rfl, Nat.le_of_ble_eq_true rfl⟩ hP hK hD hS hAA hN [10] [0, 1, 2, 3, 4, 5, 6, 7, 8, 9] rfl rfl (by decide) (by decide) (by decide) rfl (Nat.le_of_ble_eq_true rfl) d_X_different_14 (fun u H locs hu hP hD hS => ?_)
    subst hu
    refine W.widen (k := 1) (n := 1) (by decide) (by decide) ?_
    have hP : va_P D vwCl (xw D q n P k a z lo hi B av al ah an pt fd ++ [(o1, .inr (6, [.int t1]))]) H := hP
    have hD : va_D A (xw D q n P k a z lo hi B av al ah an pt fd ++ [(o1, .inr (6, [.int t1]))]) := hD
    refine wVi (n := 1) (wr := []) (Wf := xW D q) (rest := []) hx hb hml hown hA (c_add l D q n P k a z lo hi B av al ah an pt fd (fun x => (kDif t1 x 8 0 0)) o1 6 [.int t1] R_D T_D 1 y_D_holdsAt b_D_holdsAt 7 _ _ hn hP4 hk (fun x => c_Different l D o1 (q 8) t1 x ) rfl (fun U hN => hN.2.2.2.2.2.1) wf_D ⟨rfl, rfl, by decide, by decide⟩) wv_X_71 ⟨by decide, by decide, by decide +kernel⟩ ⟨rfl, rfl, by decide, by decide⟩ rfl hl.1 ⟨Nat.le_of_ble_eq_true rfl, Nat.le_of_ble_eq_true rfl⟩ hP hK hD hS hAA hN [10, 0, 1, 2, 3, 4, 5, 6, 7, 8, 9] [] rfl rfl (by decide) (by decide) (by decide) 1 0 rfl rfl rfl (Nat.le_of_ble_eq_true rfl) d_X_different_17 (fun r u H locs hu hP hD hS => ?_)
    refine W.widen (k := 1) (n := 1) (by decide) (by decide) ?_
    have hP : va_P D vwCl (xW D q u) H := hP
    have hD : va_D A (xW D q u) := hD
    refine lv_goto (tgt := 24) hx hb d_X_different_20 (by decide) ?_
    exact eWi u hx hb hr hlocks hP hK hD hS (Or.inr ⟨h2, hu⟩) d_X_different_24
  · skip
    refine lv_if_eq (tgt := 23) hx hb d_X_different_5 (by decide) (fun _ => ?_) (fun h => absurd h (by decide))
    refine lv_iconst (v := (-1)) hx hb d_X_different_23 (by decide) ?_
    refine W.widen (k := 1) (n := 1) (by decide) (by decide) ?_
    exact eWi (n, P, k, a, z, lo, hi, B, av, al, ah, an, pt, fd) hx hb hr hlocks hP hK hD hS (by first | exact Or.inl ⟨h2, rfl, rfl⟩) d_X_different_24
end
