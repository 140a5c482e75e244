section
set_option maxRecDepth 100000 in
set_option maxHeartbeats 4000000 in
theorem c_element (l : Launch) (D : va_G) (q : Nat → Nat) (n P k a : Nat) (z : Int32) (lo hi B av al ah an pt fd : Nat → Int32) (r1 i : Int32) (tb : Int64) (sz : Nat) (hn : n ≤ 8) (hP4 : P ≤ 4096) (hk : k ≤ 12) : Met l y_X_element (wsm y_X_element b_X_element 6 (some .int)) { frames := 4, cells := 1, slots := 3, locals := 90 } (va_Pc [.ref (q 0), .int r1, .int i, .long tb] (fun U => U.heap.size = sz ∧ cPre D (xw D q n P k a z lo hi B av al ah an pt fd) U)) (va_Qi (fun (r : Int32) (u : XS) => (¬ (iv n r1 ∧ iv n i) ∧ r = -1 ∧ u = (n, P, k, a, z, lo, hi, B, av, al, ah, an, pt, fd)) ∨ ((iv n r1 ∧ iv n i) ∧ addP (fun x => (decide (kEle r1 i tb x))) n P k a z lo hi B av al ah an pt fd r u)) (fun u t => xB D (xW D q u) (va_A (xw D q n P k a z lo hi B av al ah an pt fd) sz) t) (va_A (xw D q n P k a z lo hi B av al ah an pt fd) sz)) 1 3 (va_A (xw D q n P k a z lo hi B av al ah an pt fd) sz) := by
  refine met_W (Qf := fun A => va_Qi (fun (r : Int32) (u : XS) => (¬ (iv n r1 ∧ iv n i) ∧ r = -1 ∧ u = (n, P, k, a, z, lo, hi, B, av, al, ah, an, pt, fd)) ∨ ((iv n r1 ∧ iv n i) ∧ addP (fun x => (decide (kEle r1 i tb x))) n P k a z lo hi B av al ah an pt fd r u)) (fun u t => xB D (xW D q u) A t) A) (by decide) (Nat.le_of_ble_eq_true rfl) ?_
  intro p e s m below meth c ls A hx hb hr hlocks hml hown hin hA hP hK hD hN hl hS hAA
  have hown : s.vm.findClass R_X = some m.cls := hown
  have hl : lv_has ls 6 [(0, .ref (q 0)), (1, .int r1), (2, .int i), (3, .long tb)] := hl
  refine lv_aload_n hx hb d_X_element_0 rfl (lv_at hl 0 rfl) ?_
  refine lv_iload_n hx hb d_X_element_1 rfl (lv_at hl 1 rfl) ?_
  refine rV (n := 1) (rest := []) hx hb hml hown hA (c_isVariable l D q n P k a z lo hi B av al ah an pt fd r1) wv_X_75 ⟨by decide, by decide, by decide +kernel⟩ ⟨rfl, rfl, by decide, by decide⟩ rfl hl.1 ⟨Nat.le_of_ble_eq_true rfl, Nat.le_of_ble_eq_true rfl⟩ hP hK hD hN 0 0 rfl rfl rfl (Nat.le_of_ble_eq_true rfl) d_X_element_2 (fun r hr9 => ?_)
  rcases zb_c hr9 with ⟨rfl, h2⟩ | ⟨rfl, h2⟩
  · skip
    refine lv_if_eq (tgt := 20) hx hb d_X_element_5 (by decide) (fun h => absurd h (by decide)) (fun _ => ?_)
    refine lv_aload_n hx hb d_X_element_8 rfl (lv_at hl 0 rfl) ?_
    refine lv_iload_n hx hb d_X_element_9 rfl (lv_at hl 2 rfl) ?_
    refine rV (n := 1) (rest := []) hx hb hml hown hA (c_isVariable l D q n P k a z lo hi B av al ah an pt fd i) wv_X_75 ⟨by decide, by decide, by decide +kernel⟩ ⟨rfl, rfl, by decide, by decide⟩ rfl hl.1 ⟨Nat.le_of_ble_eq_true rfl, Nat.le_of_ble_eq_true rfl⟩ hP hK hD hN 0 0 rfl rfl rfl (Nat.le_of_ble_eq_true rfl) d_X_element_10 (fun r hr9 => ?_)
    rcases zb_c hr9 with ⟨rfl, h10⟩ | ⟨rfl, h10⟩
    · skip
      refine lv_if_eq (tgt := 20) hx hb d_X_element_13 (by decide) (fun h => absurd h (by decide)) (fun _ => ?_)
      refine lv_iconst (v := 1) hx hb d_X_element_16 (by decide) ?_
      refine lv_goto (tgt := 21) hx hb d_X_element_17 (by decide) ?_
      refine lv_istore hx hb d_X_element_21 hl (by decide) rfl (fun ls hl => ?_)
      have hl : lv_has ls 6 [(5, .int 1), (0, .ref (q 0)), (1, .int r1), (2, .int i), (3, .long tb)] := hl
      refine lv_iload hx hb d_X_element_23 (lv_at hl 0 rfl) ?_
      refine lv_if_eq (tgt := 45) hx hb d_X_element_25 (by decide) (fun h => absurd h (by decide)) (fun _ => ?_)
      refine lv_aload_n hx hb d_X_element_28 rfl (lv_at hl 1 rfl) ?_
      refine va_new (ci := 5) (fs := [.int 0, .int 0, .long 0]) (C := R_E) (T := T_E) (N := 3) hx hb hA inA_E ty_E tok_E hown (hA _ wd_262) (hA _ wd_263) (hA _ wd_11) hK hP hD hS hAA rfl (by decide) (by decide) (by decide) d_X_element_29 (fun o1 H hP hD hS => ?_)
      refine W.widen (k := 1) (n := 3) (by decide) (by decide) ?_
      have hP : va_P D vwCl (xw D q n P k a z lo hi B av al ah an pt fd ++ [(o1, .inr (5, [.int 0, .int 0, .long 0]))]) H := hP
      have hD : va_D A (xw D q n P k a z lo hi B av al ah an pt fd ++ [(o1, .inr (5, [.int 0, .int 0, .long 0]))]) := hD
      refine lv_dup hx hb d_X_element_32 rfl ?_
      refine lv_iload_n hx hb d_X_element_33 rfl (lv_at hl 2 rfl) ?_
      refine lv_iload_n hx hb d_X_element_34 rfl (lv_at hl 3 rfl) ?_
      refine lv_lload_n hx hb d_X_element_35 rfl (lv_at hl 4 rfl) ?_
      refine wIN (n := 3) (wr := xw D q n P k a z lo hi B av al ah an pt fd) (Wf := idW) (rest := [.ref o1, .ref (q 0)]) hx hb hml hown hA (c_Element_init l D o1 r1 i tb _) hN.1.2.2.2.2.2.2.1 wv_X_92 rfl ⟨by decide, by decide, by decide +kernel⟩ ⟨rfl, rfl, by decide, by decide⟩ rfl hl.1 ⟨Nat.le_of_ble_eq_true rfl, Nat.le_of_ble_eq_true rfl⟩ hP hK hD hS hAA hN [10] [0, 1, 2, 3, 4, 5, 6, 7, 8, 9] rfl rfl (by decide) (by decide) (by decide) rfl (Nat.le_of_ble_eq_true rfl) d_X_element_36 (fun u H locs hu hP hD hS => ?_)
      subst hu
      refine W.widen (k := 1) (n := 3) (by decide) (by decide) ?_
      have hP : va_P D vwCl (xw D q n P k a z lo hi B av al ah an pt fd ++ [(o1, .inr (5, [.int r1, .int i, .long tb]))]) H := hP
      have hD : va_D A (xw D q n P k a z lo hi B av al ah an pt fd ++ [(o1, .inr (5, [.int r1, .int i, .long tb]))]) := hD
      refine wVi (n := 1) (wr := []) (Wf := xW D q) (rest := []) hx hb hml hown hA (c_add l D q n P k a z lo hi B av al ah an pt fd (fun x => (decide (kEle r1 i tb x))) o1 5 [.int r1, .int i, .long tb] R_E T_E 3 y_E_holdsAt b_E_holdsAt 2 _ _ hn hP4 hk (fun x => c_Element l D o1 (q 8) r1 i tb x (iv_in h2 hn) (iv_in h10 hn)) rfl (fun U hN => hN.2.2.2.2.1) wf_E ⟨rfl, rfl, by decide, by decide⟩) wv_X_71 ⟨by decide, by decide, by decide +kernel⟩ ⟨rfl, rfl, by decide, by decide⟩ rfl hl.1 ⟨Nat.le_of_ble_eq_true rfl, Nat.le_of_ble_eq_true rfl⟩ hP hK hD hS hAA hN [10, 0, 1, 2, 3, 4, 5, 6, 7, 8, 9] [] rfl rfl (by decide) (by decide) (by decide) 1 0 rfl rfl rfl (Nat.le_of_ble_eq_true rfl) d_X_element_39 (fun r u H locs hu hP hD hS => ?_)
      refine W.widen (k := 1) (n := 3) (by decide) (by decide) ?_
      have hP : va_P D vwCl (xW D q u) H := hP
      have hD : va_D A (xW D q u) := hD
      refine lv_goto (tgt := 46) hx hb d_X_element_42 (by decide) ?_
      exact eWi u hx hb hr hlocks hP hK hD hS (Or.inr ⟨⟨h2, h10⟩, hu⟩) d_X_element_46
    · skip
      refine lv_if_eq (tgt := 20) hx hb d_X_element_13 (by decide) (fun _ => ?_) (fun h => absurd h (by decide))
      refine lv_iconst (v := 0) hx hb d_X_element_20 (by decide) ?_
      refine lv_istore hx hb d_X_element_21 hl (by decide) rfl (fun ls hl => ?_)
      have hl : lv_has ls 6 [(5, .int 0), (0, .ref (q 0)), (1, .int r1), (2, .int i), (3, .long tb)] := hl
      refine lv_iload hx hb d_X_element_23 (lv_at hl 0 rfl) ?_
      refine lv_if_eq (tgt := 45) hx hb d_X_element_25 (by decide) (fun _ => ?_) (fun h => absurd h (by decide))
      refine lv_iconst (v := (-1)) hx hb d_X_element_45 (by decide) ?_
      refine W.widen (k := 1) (n := 3) (by decide) (by decide) ?_
      exact eWi (n, P, k, a, z, lo, hi, B, av, al, ah, an, pt, fd) hx hb hr hlocks hP hK hD hS (by first | exact Or.inl ⟨fun h => h2 h.1, rfl, rfl⟩ | exact Or.inl ⟨fun h => h10 h.2, rfl, rfl⟩) d_X_element_46
  · skip
    refine lv_if_eq (tgt := 20) hx hb d_X_element_5 (by decide) (fun _ => ?_) (fun h => absurd h (by decide))
    refine lv_iconst (v := 0) hx hb d_X_element_20 (by decide) ?_
    refine lv_istore hx hb d_X_element_21 hl (by decide) rfl (fun ls hl => ?_)
    have hl : lv_has ls 6 [(5, .int 0), (0, .ref (q 0)), (1, .int r1), (2, .int i), (3, .long tb)] := hl
    refine lv_iload hx hb d_X_element_23 (lv_at hl 0 rfl) ?_
    refine lv_if_eq (tgt := 45) hx hb d_X_element_25 (by decide) (fun _ => ?_) (fun h => absurd h (by decide))
    refine lv_iconst (v := (-1)) hx hb d_X_element_45 (by decide) ?_
    refine W.widen (k := 1) (n := 3) (by decide) (by decide) ?_
    exact eWi (n, P, k, a, z, lo, hi, B, av, al, ah, an, pt, fd) hx hb hr hlocks hP hK hD hS (by first | exact Or.inl ⟨fun h => h2 h.1, rfl, rfl⟩ | exact Or.inl ⟨fun h => h10 h.2, rfl, rfl⟩) d_X_element_46
end
