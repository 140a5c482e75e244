section
set_option maxRecDepth 100000 in
set_option maxHeartbeats 4000000 in
theorem c_reified (l : Launch) (D : va_G) (q : Nat → Nat) (n P k a : Nat) (z : Int32) (lo hi B av al ah an pt fd : Nat → Int32) (r1 i j c1 : Int32) (sz : Nat) (hn : n ≤ 8) (hP4 : P ≤ 4096) (hk : k ≤ 12) : Met l y_X_reified (wsm y_X_reified b_X_reified 6 (some .int)) { frames := 4, cells := 1, slots := 4, locals := 90 } (va_Pc [.ref (q 0), .int r1, .int i, .int j, .int c1] (fun U => U.heap.size = sz ∧ cPre D (xw D q n P k a z lo hi B av al ah an pt fd) U)) (va_Qi (fun (r : Int32) (u : XS) => (¬ (iv n r1 ∧ iv n i ∧ iv n j ∧ wi c1 100) ∧ r = -1 ∧ u = (n, P, k, a, z, lo, hi, B, av, al, ah, an, pt, fd)) ∨ ((iv n r1 ∧ iv n i ∧ iv n j ∧ wi c1 100) ∧ addP (fun x => (decide (kRei r1 i j c1 x))) n P k a z lo hi B av al ah an pt fd r u)) (fun u t => xB D (xW D q u) (va_A (xw D q n P k a z lo hi B av al ah an pt fd) sz) t) (va_A (xw D q n P k a z lo hi B av al ah an pt fd) sz)) 1 4 (va_A (xw D q n P k a z lo hi B av al ah an pt fd) sz) := by
  refine met_W (Qf := fun A => va_Qi (fun (r : Int32) (u : XS) => (¬ (iv n r1 ∧ iv n i ∧ iv n j ∧ wi c1 100) ∧ r = -1 ∧ u = (n, P, k, a, z, lo, hi, B, av, al, ah, an, pt, fd)) ∨ ((iv n r1 ∧ iv n i ∧ iv n j ∧ wi c1 100) ∧ addP (fun x => (decide (kRei r1 i j c1 x))) n P k a z lo hi B av al ah an pt fd r u)) (fun u t => xB D (xW D q u) A t) A) (by decide) (Nat.le_of_ble_eq_true rfl) ?_
  intro p e s m below meth c ls A hx hb hr hlocks hml hown hin hA hP hK hD hN hl hS hAA
  have hown : s.vm.findClass R_X = some m.cls := hown
  have hl : lv_has ls 6 [(0, .ref (q 0)), (1, .int r1), (2, .int i), (3, .int j), (4, .int c1)] := hl
  refine lv_aload_n hx hb d_X_reified_0 rfl (lv_at hl 0 rfl) ?_
  refine lv_iload_n hx hb d_X_reified_1 rfl (lv_at hl 1 rfl) ?_
  refine rV (n := 1) (rest := []) hx hb hml hown hA (c_isVariable l D q n P k a z lo hi B av al ah an pt fd r1) wv_X_75 ⟨by decide, by decide, by decide +kernel⟩ ⟨rfl, rfl, by decide, by decide⟩ rfl hl.1 ⟨Nat.le_of_ble_eq_true rfl, Nat.le_of_ble_eq_true rfl⟩ hP hK hD hN 0 0 rfl rfl rfl (Nat.le_of_ble_eq_true rfl) d_X_reified_2 (fun r hr9 => ?_)
  rcases zb_c hr9 with ⟨rfl, h2⟩ | ⟨rfl, h2⟩
  · skip
    refine lv_if_eq (tgt := 38) hx hb d_X_reified_5 (by decide) (fun h => absurd h (by decide)) (fun _ => ?_)
    refine lv_aload_n hx hb d_X_reified_8 rfl (lv_at hl 0 rfl) ?_
    refine lv_iload_n hx hb d_X_reified_9 rfl (lv_at hl 2 rfl) ?_
    refine rV (n := 1) (rest := []) hx hb hml hown hA (c_isVariable l D q n P k a z lo hi B av al ah an pt fd i) wv_X_75 ⟨by decide, by decide, by decide +kernel⟩ ⟨rfl, rfl, by decide, by decide⟩ rfl hl.1 ⟨Nat.le_of_ble_eq_true rfl, Nat.le_of_ble_eq_true rfl⟩ hP hK hD hN 0 0 rfl rfl rfl (Nat.le_of_ble_eq_true rfl) d_X_reified_10 (fun r hr9 => ?_)
    rcases zb_c hr9 with ⟨rfl, h10⟩ | ⟨rfl, h10⟩
    · skip
      refine lv_if_eq (tgt := 38) hx hb d_X_reified_13 (by decide) (fun h => absurd h (by decide)) (fun _ => ?_)
      refine lv_aload_n hx hb d_X_reified_16 rfl (lv_at hl 0 rfl) ?_
      refine lv_iload_n hx hb d_X_reified_17 rfl (lv_at hl 3 rfl) ?_
      refine rV (n := 1) (rest := []) hx hb hml hown hA (c_isVariable l D q n P k a z lo hi B av al ah an pt fd j) wv_X_75 ⟨by decide, by decide, by decide +kernel⟩ ⟨rfl, rfl, by decide, by decide⟩ rfl hl.1 ⟨Nat.le_of_ble_eq_true rfl, Nat.le_of_ble_eq_true rfl⟩ hP hK hD hN 0 0 rfl rfl rfl (Nat.le_of_ble_eq_true rfl) d_X_reified_18 (fun r hr9 => ?_)
      rcases zb_c hr9 with ⟨rfl, h18⟩ | ⟨rfl, h18⟩
      · skip
        refine lv_if_eq (tgt := 38) hx hb d_X_reified_21 (by decide) (fun h => absurd h (by decide)) (fun _ => ?_)
        refine lv_iload hx hb d_X_reified_24 (lv_at hl 4 rfl) ?_
        refine lv_bipush (v := 100) hx hb d_X_reified_26 (by decide) ?_
        refine rS (n := 2) (rest := []) hx hb hml hown hA (c_isWithin l D c1 100) wv_X_62 ⟨by decide, by decide, by decide +kernel⟩ ⟨rfl, rfl, by decide, by decide⟩ rfl hl.1 ⟨Nat.le_of_ble_eq_true rfl, Nat.le_of_ble_eq_true rfl⟩ (va_P.sub1 hP [] rfl) hK (va_D.sub hD [] rfl rfl) hN rfl (Nat.le_of_ble_eq_true rfl) d_X_reified_28 (fun r hr9 => ?_)
        rcases zb_c hr9 with ⟨rfl, h28⟩ | ⟨rfl, h28⟩
        · skip
          refine lv_if_eq (tgt := 38) hx hb d_X_reified_31 (by decide) (fun h => absurd h (by decide)) (fun _ => ?_)
          refine lv_iconst (v := 1) hx hb d_X_reified_34 (by decide) ?_
          refine lv_goto (tgt := 39) hx hb d_X_reified_35 (by decide) ?_
          refine lv_istore hx hb d_X_reified_39 hl (by decide) rfl (fun ls hl => ?_)
          have hl : lv_has ls 6 [(5, .int 1), (0, .ref (q 0)), (1, .int r1), (2, .int i), (3, .int j), (4, .int c1)] := hl
          refine lv_iload hx hb d_X_reified_41 (lv_at hl 0 rfl) ?_
          refine lv_if_eq (tgt := 65) hx hb d_X_reified_43 (by decide) (fun h => absurd h (by decide)) (fun _ => ?_)
          refine lv_aload_n hx hb d_X_reified_46 rfl (lv_at hl 1 rfl) ?_
          refine va_new (ci := 3) (fs := [.int 0, .int 0, .int 0, .int 0]) (C := R_R) (T := T_R) (N := 4) hx hb hA inA_R ty_R tok_R hown (hA _ wd_216) (hA _ wd_217) (hA _ wd_9) hK hP hD hS hAA rfl (by decide) (by decide) (by decide) d_X_reified_47 (fun o1 H hP hD hS => ?_)
          refine W.widen (k := 1) (n := 4) (by decide) (by decide) ?_
          have hP : va_P D vwCl (xw D q n P k a z lo hi B av al ah an pt fd ++ [(o1, .inr (3, [.int 0, .int 0, .int 0, .int 0]))]) H := hP
          have hD : va_D A (xw D q n P k a z lo hi B av al ah an pt fd ++ [(o1, .inr (3, [.int 0, .int 0, .int 0, .int 0]))]) := hD
          refine lv_dup hx hb d_X_reified_50 rfl ?_
          refine lv_iload_n hx hb d_X_reified_51 rfl (lv_at hl 2 rfl) ?_
          refine lv_iload_n hx hb d_X_reified_52 rfl (lv_at hl 3 rfl) ?_
          refine lv_iload_n hx hb d_X_reified_53 rfl (lv_at hl 4 rfl) ?_
          refine lv_iload hx hb d_X_reified_54 (lv_at hl 5 rfl) ?_
          refine wIN (n := 4) (wr := xw D q n P k a z lo hi B av al ah an pt fd) (Wf := idW) (rest := [.ref o1, .ref (q 0)]) hx hb hml hown hA (c_Reified_init l D o1 r1 i j c1 _) hN.1.2.2.2.2.1 wv_X_81 rfl ⟨by decide, by decide, by decide +kernel⟩ ⟨rfl, rfl, by decide, by decide⟩ rfl hl.1 ⟨Nat.le_of_ble_eq_true rfl, Nat.le_of_ble_eq_true rfl⟩ hP hK hD hS hAA hN [10] [0, 1, 2, 3, 4, 5, 6, 7, 8, 9] rfl rfl (by decide) (by decide) (by decide) rfl (Nat.le_of_ble_eq_true rfl) d_X_reified_56 (fun u H locs hu hP hD hS => ?_)
          subst hu
          refine W.widen (k := 1) (n := 4) (by decide) (by decide) ?_
          have hP : va_P D vwCl (xw D q n P k a z lo hi B av al ah an pt fd ++ [(o1, .inr (3, [.int r1, .int i, .int j, .int c1]))]) H := hP
          have hD : va_D A (xw D q n P k a z lo hi B av al ah an pt fd ++ [(o1, .inr (3, [.int r1, .int i, .int j, .int c1]))]) := hD
          refine wVi (n := 1) (wr := []) (Wf := xW D q) (rest := []) hx hb hml hown hA (c_add l D q n P k a z lo hi B av al ah an pt fd (fun x => (decide (kRei r1 i j c1 x))) o1 3 [.int r1, .int i, .int j, .int c1] R_R T_R 4 y_R_holdsAt b_R_holdsAt 2 _ _ hn hP4 hk (fun x => c_Reified l D o1 (q 8) r1 i j c1 x (iv_in h2 hn) (iv_in h10 hn) (iv_in h18 hn)) rfl (fun U hN => hN.2.2.1) wf_R ⟨rfl, rfl, by decide, by decide⟩) wv_X_71 ⟨by decide, by decide, by decide +kernel⟩ ⟨rfl, rfl, by decide, by decide⟩ rfl hl.1 ⟨Nat.le_of_ble_eq_true rfl, Nat.le_of_ble_eq_true rfl⟩ hP hK hD hS hAA hN [10, 0, 1, 2, 3, 4, 5, 6, 7, 8, 9] [] rfl rfl (by decide) (by decide) (by decide) 1 0 rfl rfl rfl (Nat.le_of_ble_eq_true rfl) d_X_reified_59 (fun r u H locs hu hP hD hS => ?_)
          refine W.widen (k := 1) (n := 4) (by decide) (by decide) ?_
          have hP : va_P D vwCl (xW D q u) H := hP
          have hD : va_D A (xW D q u) := hD
          refine lv_goto (tgt := 66) hx hb d_X_reified_62 (by decide) ?_
          exact eWi u hx hb hr hlocks hP hK hD hS (Or.inr ⟨⟨h2, h10, h18, h28⟩, hu⟩) d_X_reified_66
        · skip
          refine lv_if_eq (tgt := 38) hx hb d_X_reified_31 (by decide) (fun _ => ?_) (fun h => absurd h (by decide))
          refine lv_iconst (v := 0) hx hb d_X_reified_38 (by decide) ?_
          refine lv_istore hx hb d_X_reified_39 hl (by decide) rfl (fun ls hl => ?_)
          have hl : lv_has ls 6 [(5, .int 0), (0, .ref (q 0)), (1, .int r1), (2, .int i), (3, .int j), (4, .int c1)] := hl
          refine lv_iload hx hb d_X_reified_41 (lv_at hl 0 rfl) ?_
          refine lv_if_eq (tgt := 65) hx hb d_X_reified_43 (by decide) (fun _ => ?_) (fun h => absurd h (by decide))
          refine lv_iconst (v := (-1)) hx hb d_X_reified_65 (by decide) ?_
          refine W.widen (k := 1) (n := 4) (by decide) (by decide) ?_
          exact eWi (n, P, k, a, z, lo, hi, B, av, al, ah, an, pt, fd) hx hb hr hlocks hP hK hD hS (by first | exact Or.inl ⟨fun h => h2 h.1, rfl, rfl⟩ | exact Or.inl ⟨fun h => h10 h.2.1, rfl, rfl⟩ | exact Or.inl ⟨fun h => h18 h.2.2.1, rfl, rfl⟩ | exact Or.inl ⟨fun h => h28 h.2.2.2, rfl, rfl⟩) d_X_reified_66
      · skip
        refine lv_if_eq (tgt := 38) hx hb d_X_reified_21 (by decide) (fun _ => ?_) (fun h => absurd h (by decide))
        refine lv_iconst (v := 0) hx hb d_X_reified_38 (by decide) ?_
        refine lv_istore hx hb d_X_reified_39 hl (by decide) rfl (fun ls hl => ?_)
        have hl : lv_has ls 6 [(5, .int 0), (0, .ref (q 0)), (1, .int r1), (2, .int i), (3, .int j), (4, .int c1)] := hl
        refine lv_iload hx hb d_X_reified_41 (lv_at hl 0 rfl) ?_
        refine lv_if_eq (tgt := 65) hx hb d_X_reified_43 (by decide) (fun _ => ?_) (fun h => absurd h (by decide))
        refine lv_iconst (v := (-1)) hx hb d_X_reified_65 (by decide) ?_
        refine W.widen (k := 1) (n := 4) (by decide) (by decide) ?_
        exact eWi (n, P, k, a, z, lo, hi, B, av, al, ah, an, pt, fd) hx hb hr hlocks hP hK hD hS (by first | exact Or.inl ⟨fun h => h2 h.1, rfl, rfl⟩ | exact Or.inl ⟨fun h => h10 h.2.1, rfl, rfl⟩ | exact Or.inl ⟨fun h => h18 h.2.2.1, rfl, rfl⟩ | exact Or.inl ⟨fun h => h28 h.2.2.2, rfl, rfl⟩) d_X_reified_66
    · skip
      refine lv_if_eq (tgt := 38) hx hb d_X_reified_13 (by decide) (fun _ => ?_) (fun h => absurd h (by decide))
      refine lv_iconst (v := 0) hx hb d_X_reified_38 (by decide) ?_
      refine lv_istore hx hb d_X_reified_39 hl (by decide) rfl (fun ls hl => ?_)
      have hl : lv_has ls 6 [(5, .int 0), (0, .ref (q 0)), (1, .int r1), (2, .int i), (3, .int j), (4, .int c1)] := hl
      refine lv_iload hx hb d_X_reified_41 (lv_at hl 0 rfl) ?_
      refine lv_if_eq (tgt := 65) hx hb d_X_reified_43 (by decide) (fun _ => ?_) (fun h => absurd h (by decide))
      refine lv_iconst (v := (-1)) hx hb d_X_reified_65 (by decide) ?_
      refine W.widen (k := 1) (n := 4) (by decide) (by decide) ?_
      exact eWi (n, P, k, a, z, lo, hi, B, av, al, ah, an, pt, fd) hx hb hr hlocks hP hK hD hS (by first | exact Or.inl ⟨fun h => h2 h.1, rfl, rfl⟩ | exact Or.inl ⟨fun h => h10 h.2.1, rfl, rfl⟩ | exact Or.inl ⟨fun h => h18 h.2.2.1, rfl, rfl⟩ | exact Or.inl ⟨fun h => h28 h.2.2.2, rfl, rfl⟩) d_X_reified_66
  · skip
    refine lv_if_eq (tgt := 38) hx hb d_X_reified_5 (by decide) (fun _ => ?_) (fun h => absurd h (by decide))
    refine lv_iconst (v := 0) hx hb d_X_reified_38 (by decide) ?_
    refine lv_istore hx hb d_X_reified_39 hl (by decide) rfl (fun ls hl => ?_)
    have hl : lv_has ls 6 [(5, .int 0), (0, .ref (q 0)), (1, .int r1), (2, .int i), (3, .int j), (4, .int c1)] := hl
    refine lv_iload hx hb d_X_reified_41 (lv_at hl 0 rfl) ?_
    refine lv_if_eq (tgt := 65) hx hb d_X_reified_43 (by decide) (fun _ => ?_) (fun h => absurd h (by decide))
    refine lv_iconst (v := (-1)) hx hb d_X_reified_65 (by decide) ?_
    refine W.widen (k := 1) (n := 4) (by decide) (by decide) ?_
    exact eWi (n, P, k, a, z, lo, hi, B, av, al, ah, an, pt, fd) hx hb hr hlocks hP hK hD hS (by first | exact Or.inl ⟨fun h => h2 h.1, rfl, rfl⟩ | exact Or.inl ⟨fun h => h10 h.2.1, rfl, rfl⟩ | exact Or.inl ⟨fun h => h18 h.2.2.1, rfl, rfl⟩ | exact Or.inl ⟨fun h => h28 h.2.2.2, rfl, rfl⟩) d_X_reified_66
end
