section
set_option maxRecDepth 100000 in
set_option maxHeartbeats 4000000 in
theorem c_maximum (l : Launch) (D : va_G) (q : Nat → Nat) (n P k a : Nat) (z : Int32) (lo hi B av al ah an pt fd : Nat → Int32) (r1 i j v : Int32) (sz : Nat) (hn : n ≤ 8) (hP4 : P ≤ 4096) (hk : k ≤ 12) : Met l y_X_maximum (wsm y_X_maximum b_X_maximum 6 (some .int)) { frames := 4, cells := 1, slots := 4, locals := 90 } (va_Pc [.ref (q 0), .int r1, .int i, .int j, .int v] (fun U => U.heap.size = sz ∧ cPre D (xw D q n P k a z lo hi B av al ah an pt fd) U)) (va_Qi (fun (r : Int32) (u : XS) => (¬ (iv n r1 ∧ iv n i ∧ iva n j ∧ iva n v) ∧ r = -1 ∧ u = (n, P, k, a, z, lo, hi, B, av, al, ah, an, pt, fd)) ∨ ((iv n r1 ∧ iv n i ∧ iva n j ∧ iva n v) ∧ addP (fun x => (decide (kMax r1 i j v x))) n P k a z lo hi B av al ah an pt fd r u)) (fun u t => xB D (xW D q u) (va_A (xw D q n P k a z lo hi B av al ah an pt fd) sz) t) (va_A (xw D q n P k a z lo hi B av al ah an pt fd) sz)) 1 4 (va_A (xw D q n P k a z lo hi B av al ah an pt fd) sz) := by
  refine met_W (Qf := fun A => va_Qi (fun (r : Int32) (u : XS) => (¬ (iv n r1 ∧ iv n i ∧ iva n j ∧ iva n v) ∧ r = -1 ∧ u = (n, P, k, a, z, lo, hi, B, av, al, ah, an, pt, fd)) ∨ ((iv n r1 ∧ iv n i ∧ iva n j ∧ iva n v) ∧ addP (fun x => (decide (kMax r1 i j v x))) n P k a z lo hi B av al ah an pt fd r u)) (fun u t => xB D (xW D q u) A t) A) (by decide) (Nat.le_of_ble_eq_true rfl) ?_
  intro p e s m below meth c ls A hx hb hr hlocks hml hown hin hA hP hK hD hN hl hS hAA
  have hown : s.vm.findClass R_X = some m.cls := hown
  have hl : lv_has ls 6 [(0, .ref (q 0)), (1, .int r1), (2, .int i), (3, .int j), (4, .int v)] := hl
  refine lv_aload_n hx hb d_X_maximum_0 rfl (lv_at hl 0 rfl) ?_
  refine lv_iload_n hx hb d_X_maximum_1 rfl (lv_at hl 1 rfl) ?_
  refine rV (n := 1) (rest := []) hx hb hml hown hA (c_isVariable l D q n P k a z lo hi B av al ah an pt fd r1) wv_X_75 ⟨by decide, by decide, by decide +kernel⟩ ⟨rfl, rfl, by decide, by decide⟩ rfl hl.1 ⟨Nat.le_of_ble_eq_true rfl, Nat.le_of_ble_eq_true rfl⟩ hP hK hD hN 0 0 rfl rfl rfl (Nat.le_of_ble_eq_true rfl) d_X_maximum_2 (fun r hr9 => ?_)
  rcases zb_c hr9 with ⟨rfl, h2⟩ | ⟨rfl, h2⟩
  · skip
    refine lv_if_eq (tgt := 37) hx hb d_X_maximum_5 (by decide) (fun h => absurd h (by decide)) (fun _ => ?_)
    refine lv_aload_n hx hb d_X_maximum_8 rfl (lv_at hl 0 rfl) ?_
    refine lv_iload_n hx hb d_X_maximum_9 rfl (lv_at hl 2 rfl) ?_
    refine rV (n := 1) (rest := []) hx hb hml hown hA (c_isVariable l D q n P k a z lo hi B av al ah an pt fd i) wv_X_75 ⟨by decide, by decide, by decide +kernel⟩ ⟨rfl, rfl, by decide, by decide⟩ rfl hl.1 ⟨Nat.le_of_ble_eq_true rfl, Nat.le_of_ble_eq_true rfl⟩ hP hK hD hN 0 0 rfl rfl rfl (Nat.le_of_ble_eq_true rfl) d_X_maximum_10 (fun r hr9 => ?_)
    rcases zb_c hr9 with ⟨rfl, h10⟩ | ⟨rfl, h10⟩
    · skip
      refine lv_if_eq (tgt := 37) hx hb d_X_maximum_13 (by decide) (fun h => absurd h (by decide)) (fun _ => ?_)
      refine lv_aload_n hx hb d_X_maximum_16 rfl (lv_at hl 0 rfl) ?_
      refine lv_iload_n hx hb d_X_maximum_17 rfl (lv_at hl 3 rfl) ?_
      refine rV (n := 1) (rest := []) hx hb hml hown hA (c_isVariableOrAbsent l D q n P k a z lo hi B av al ah an pt fd j) wv_X_84 ⟨by decide, by decide, by decide +kernel⟩ ⟨rfl, rfl, by decide, by decide⟩ rfl hl.1 ⟨Nat.le_of_ble_eq_true rfl, Nat.le_of_ble_eq_true rfl⟩ hP hK hD hN 0 0 rfl rfl rfl (Nat.le_of_ble_eq_true rfl) d_X_maximum_18 (fun r hr9 => ?_)
      rcases zb_c hr9 with ⟨rfl, h18⟩ | ⟨rfl, h18⟩
      · skip
        refine lv_if_eq (tgt := 37) hx hb d_X_maximum_21 (by decide) (fun h => absurd h (by decide)) (fun _ => ?_)
        refine lv_aload_n hx hb d_X_maximum_24 rfl (lv_at hl 0 rfl) ?_
        refine lv_iload hx hb d_X_maximum_25 (lv_at hl 4 rfl) ?_
        refine rV (n := 1) (rest := []) hx hb hml hown hA (c_isVariableOrAbsent l D q n P k a z lo hi B av al ah an pt fd v) wv_X_84 ⟨by decide, by decide, by decide +kernel⟩ ⟨rfl, rfl, by decide, by decide⟩ rfl hl.1 ⟨Nat.le_of_ble_eq_true rfl, Nat.le_of_ble_eq_true rfl⟩ hP hK hD hN 0 0 rfl rfl rfl (Nat.le_of_ble_eq_true rfl) d_X_maximum_27 (fun r hr9 => ?_)
        rcases zb_c hr9 with ⟨rfl, h27⟩ | ⟨rfl, h27⟩
        · skip
          refine lv_if_eq (tgt := 37) hx hb d_X_maximum_30 (by decide) (fun h => absurd h (by decide)) (fun _ => ?_)
          refine lv_iconst (v := 1) hx hb d_X_maximum_33 (by decide) ?_
          refine lv_goto (tgt := 38) hx hb d_X_maximum_34 (by decide) ?_
          refine lv_istore hx hb d_X_maximum_38 hl (by decide) rfl (fun ls hl => ?_)
          have hl : lv_has ls 6 [(5, .int 1), (0, .ref (q 0)), (1, .int r1), (2, .int i), (3, .int j), (4, .int v)] := hl
          refine lv_iload hx hb d_X_maximum_40 (lv_at hl 0 rfl) ?_
          refine lv_if_eq (tgt := 64) hx hb d_X_maximum_42 (by decide) (fun h => absurd h (by decide)) (fun _ => ?_)
          refine lv_aload_n hx hb d_X_maximum_45 rfl (lv_at hl 1 rfl) ?_
          refine va_new (ci := 4) (fs := [.int 0, .int 0, .int 0, .int 0]) (C := R_M) (T := T_M) (N := 4) hx hb hA inA_M ty_M tok_M hown (hA _ wd_239) (hA _ wd_240) (hA _ wd_10) hK hP hD hS hAA rfl (by decide) (by decide) (by decide) d_X_maximum_46 (fun o1 H hP hD hS => ?_)
          refine W.widen (k := 1) (n := 4) (by decide) (by decide) ?_
          have hP : va_P D vwCl (xw D q n P k a z lo hi B av al ah an pt fd ++ [(o1, .inr (4, [.int 0, .int 0, .int 0, .int 0]))]) H := hP
          have hD : va_D A (xw D q n P k a z lo hi B av al ah an pt fd ++ [(o1, .inr (4, [.int 0, .int 0, .int 0, .int 0]))]) := hD
          refine lv_dup hx hb d_X_maximum_49 rfl ?_
          refine lv_iload_n hx hb d_X_maximum_50 rfl (lv_at hl 2 rfl) ?_
          refine lv_iload_n hx hb d_X_maximum_51 rfl (lv_at hl 3 rfl) ?_
          refine lv_iload_n hx hb d_X_maximum_52 rfl (lv_at hl 4 rfl) ?_
          refine lv_iload hx hb d_X_maximum_53 (lv_at hl 5 rfl) ?_
          refine wIN (n := 4) (wr := xw D q n P k a z lo hi B av al ah an pt fd) (Wf := idW) (rest := [.ref o1, .ref (q 0)]) hx hb hml hown hA (c_Maximum_init l D o1 r1 i j v _) hN.1.2.2.2.2.2.1 wv_X_89 rfl ⟨by decide, by decide, by decide +kernel⟩ ⟨rfl, rfl, by decide, by decide⟩ rfl hl.1 ⟨Nat.le_of_ble_eq_true rfl, Nat.le_of_ble_eq_true rfl⟩ hP hK hD hS hAA hN [10] [0, 1, 2, 3, 4, 5, 6, 7, 8, 9] rfl rfl (by decide) (by decide) (by decide) rfl (Nat.le_of_ble_eq_true rfl) d_X_maximum_55 (fun u H locs hu hP hD hS => ?_)
          subst hu
          refine W.widen (k := 1) (n := 4) (by decide) (by decide) ?_
          have hP : va_P D vwCl (xw D q n P k a z lo hi B av al ah an pt fd ++ [(o1, .inr (4, [.int r1, .int i, .int j, .int v]))]) H := hP
          have hD : va_D A (xw D q n P k a z lo hi B av al ah an pt fd ++ [(o1, .inr (4, [.int r1, .int i, .int j, .int v]))]) := hD
          refine wVi (n := 1) (wr := []) (Wf := xW D q) (rest := []) hx hb hml hown hA (c_add l D q n P k a z lo hi B av al ah an pt fd (fun x => (decide (kMax r1 i j v x))) o1 4 [.int r1, .int i, .int j, .int v] R_M T_M 4 y_M_holdsAt b_M_holdsAt 3 _ _ hn hP4 hk (fun x => c_Maximum l D o1 (q 8) r1 i j v x (iv_in h2 hn) (iv_in h10 hn) (iva_in h18 hn) (iva_in h27 hn)) rfl (fun U hN => hN.2.2.2.1) wf_M ⟨rfl, rfl, by decide, by decide⟩) wv_X_71 ⟨by decide, by decide, by decide +kernel⟩ ⟨rfl, rfl, by decide, by decide⟩ rfl hl.1 ⟨Nat.le_of_ble_eq_true rfl, Nat.le_of_ble_eq_true rfl⟩ hP hK hD hS hAA hN [10, 0, 1, 2, 3, 4, 5, 6, 7, 8, 9] [] rfl rfl (by decide) (by decide) (by decide) 1 0 rfl rfl rfl (Nat.le_of_ble_eq_true rfl) d_X_maximum_58 (fun r u H locs hu hP hD hS => ?_)
          refine W.widen (k := 1) (n := 4) (by decide) (by decide) ?_
          have hP : va_P D vwCl (xW D q u) H := hP
          have hD : va_D A (xW D q u) := hD
          refine lv_goto (tgt := 65) hx hb d_X_maximum_61 (by decide) ?_
          exact eWi u hx hb hr hlocks hP hK hD hS (Or.inr ⟨⟨h2, h10, h18, h27⟩, hu⟩) d_X_maximum_65
        · skip
          refine lv_if_eq (tgt := 37) hx hb d_X_maximum_30 (by decide) (fun _ => ?_) (fun h => absurd h (by decide))
          refine lv_iconst (v := 0) hx hb d_X_maximum_37 (by decide) ?_
          refine lv_istore hx hb d_X_maximum_38 hl (by decide) rfl (fun ls hl => ?_)
          have hl : lv_has ls 6 [(5, .int 0), (0, .ref (q 0)), (1, .int r1), (2, .int i), (3, .int j), (4, .int v)] := hl
          refine lv_iload hx hb d_X_maximum_40 (lv_at hl 0 rfl) ?_
          refine lv_if_eq (tgt := 64) hx hb d_X_maximum_42 (by decide) (fun _ => ?_) (fun h => absurd h (by decide))
          refine lv_iconst (v := (-1)) hx hb d_X_maximum_64 (by decide) ?_
          refine W.widen (k := 1) (n := 4) (by decide) (by decide) ?_
          exact eWi (n, P, k, a, z, lo, hi, B, av, al, ah, an, pt, fd) hx hb hr hlocks hP hK hD hS (by first | exact Or.inl ⟨fun h => h2 h.1, rfl, rfl⟩ | exact Or.inl ⟨fun h => h10 h.2.1, rfl, rfl⟩ | exact Or.inl ⟨fun h => h18 h.2.2.1, rfl, rfl⟩ | exact Or.inl ⟨fun h => h27 h.2.2.2, rfl, rfl⟩) d_X_maximum_65
      · skip
        refine lv_if_eq (tgt := 37) hx hb d_X_maximum_21 (by decide) (fun _ => ?_) (fun h => absurd h (by decide))
        refine lv_iconst (v := 0) hx hb d_X_maximum_37 (by decide) ?_
        refine lv_istore hx hb d_X_maximum_38 hl (by decide) rfl (fun ls hl => ?_)
        have hl : lv_has ls 6 [(5, .int 0), (0, .ref (q 0)), (1, .int r1), (2, .int i), (3, .int j), (4, .int v)] := hl
        refine lv_iload hx hb d_X_maximum_40 (lv_at hl 0 rfl) ?_
        refine lv_if_eq (tgt := 64) hx hb d_X_maximum_42 (by decide) (fun _ => ?_) (fun h => absurd h (by decide))
        refine lv_iconst (v := (-1)) hx hb d_X_maximum_64 (by decide) ?_
        refine W.widen (k := 1) (n := 4) (by decide) (by decide) ?_
        exact eWi (n, P, k, a, z, lo, hi, B, av, al, ah, an, pt, fd) hx hb hr hlocks hP hK hD hS (by first | exact Or.inl ⟨fun h => h2 h.1, rfl, rfl⟩ | exact Or.inl ⟨fun h => h10 h.2.1, rfl, rfl⟩ | exact Or.inl ⟨fun h => h18 h.2.2.1, rfl, rfl⟩ | exact Or.inl ⟨fun h => h27 h.2.2.2, rfl, rfl⟩) d_X_maximum_65
    · skip
      refine lv_if_eq (tgt := 37) hx hb d_X_maximum_13 (by decide) (fun _ => ?_) (fun h => absurd h (by decide))
      refine lv_iconst (v := 0) hx hb d_X_maximum_37 (by decide) ?_
      refine lv_istore hx hb d_X_maximum_38 hl (by decide) rfl (fun ls hl => ?_)
      have hl : lv_has ls 6 [(5, .int 0), (0, .ref (q 0)), (1, .int r1), (2, .int i), (3, .int j), (4, .int v)] := hl
      refine lv_iload hx hb d_X_maximum_40 (lv_at hl 0 rfl) ?_
      refine lv_if_eq (tgt := 64) hx hb d_X_maximum_42 (by decide) (fun _ => ?_) (fun h => absurd h (by decide))
      refine lv_iconst (v := (-1)) hx hb d_X_maximum_64 (by decide) ?_
      refine W.widen (k := 1) (n := 4) (by decide) (by decide) ?_
      exact eWi (n, P, k, a, z, lo, hi, B, av, al, ah, an, pt, fd) hx hb hr hlocks hP hK hD hS (by first | exact Or.inl ⟨fun h => h2 h.1, rfl, rfl⟩ | exact Or.inl ⟨fun h => h10 h.2.1, rfl, rfl⟩ | exact Or.inl ⟨fun h => h18 h.2.2.1, rfl, rfl⟩ | exact Or.inl ⟨fun h => h27 h.2.2.2, rfl, rfl⟩) d_X_maximum_65
  · skip
    refine lv_if_eq (tgt := 37) hx hb d_X_maximum_5 (by decide) (fun _ => ?_) (fun h => absurd h (by decide))
    refine lv_iconst (v := 0) hx hb d_X_maximum_37 (by decide) ?_
    refine lv_istore hx hb d_X_maximum_38 hl (by decide) rfl (fun ls hl => ?_)
    have hl : lv_has ls 6 [(5, .int 0), (0, .ref (q 0)), (1, .int r1), (2, .int i), (3, .int j), (4, .int v)] := hl
    refine lv_iload hx hb d_X_maximum_40 (lv_at hl 0 rfl) ?_
    refine lv_if_eq (tgt := 64) hx hb d_X_maximum_42 (by decide) (fun _ => ?_) (fun h => absurd h (by decide))
    refine lv_iconst (v := (-1)) hx hb d_X_maximum_64 (by decide) ?_
    refine W.widen (k := 1) (n := 4) (by decide) (by decide) ?_
    exact eWi (n, P, k, a, z, lo, hi, B, av, al, ah, an, pt, fd) hx hb hr hlocks hP hK hD hS (by first | exact Or.inl ⟨fun h => h2 h.1, rfl, rfl⟩ | exact Or.inl ⟨fun h => h10 h.2.1, rfl, rfl⟩ | exact Or.inl ⟨fun h => h18 h.2.2.1, rfl, rfl⟩ | exact Or.inl ⟨fun h => h27 h.2.2.2, rfl, rfl⟩) d_X_maximum_65
end
