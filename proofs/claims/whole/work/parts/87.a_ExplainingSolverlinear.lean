section
set_option maxRecDepth 100000 in
set_option maxHeartbeats 4000000 in
theorem c_linear (l : Launch) (D : va_G) (q : Nat → Nat) (n P k a : Nat) (z : Int32) (lo hi B av al ah an pt fd : Nat → Int32) (i fa j fb v fc bd : Int32) (sz : Nat) (hn : n ≤ 8) (hP4 : P ≤ 4096) (hk : k ≤ 12) : Met l y_X_linear (wsm y_X_linear b_X_linear 9 (some .int)) { frames := 4, cells := 1, slots := 7, locals := 90 } (va_Pc [.ref (q 0), .int i, .int fa, .int j, .int fb, .int v, .int fc, .int bd] (fun U => U.heap.size = sz ∧ cPre D (xw D q n P k a z lo hi B av al ah an pt fd) U)) (va_Qi (fun (r : Int32) (u : XS) => (¬ ((iva n i ∧ iva n j ∧ iva n v) ∧ wi fa 9 ∧ wi fb 9 ∧ wi fc 9 ∧ wi bd 1000) ∧ r = -1 ∧ u = (n, P, k, a, z, lo, hi, B, av, al, ah, an, pt, fd)) ∨ (((iva n i ∧ iva n j ∧ iva n v) ∧ wi fa 9 ∧ wi fb 9 ∧ wi fc 9 ∧ wi bd 1000) ∧ addP (fun x => (decide (kLin i fa j fb v fc bd x))) n P k a z lo hi B av al ah an pt fd r u)) (fun u t => xB D (xW D q u) (va_A (xw D q n P k a z lo hi B av al ah an pt fd) sz) t) (va_A (xw D q n P k a z lo hi B av al ah an pt fd) sz)) 1 7 (va_A (xw D q n P k a z lo hi B av al ah an pt fd) sz) := by
  refine met_W (Qf := fun A => va_Qi (fun (r : Int32) (u : XS) => (¬ ((iva n i ∧ iva n j ∧ iva n v) ∧ wi fa 9 ∧ wi fb 9 ∧ wi fc 9 ∧ wi bd 1000) ∧ r = -1 ∧ u = (n, P, k, a, z, lo, hi, B, av, al, ah, an, pt, fd)) ∨ (((iva n i ∧ iva n j ∧ iva n v) ∧ wi fa 9 ∧ wi fb 9 ∧ wi fc 9 ∧ wi bd 1000) ∧ addP (fun x => (decide (kLin i fa j fb v fc bd x))) n P k a z lo hi B av al ah an pt fd r u)) (fun u t => xB D (xW D q u) A t) A) (by decide) (Nat.le_of_ble_eq_true rfl) ?_
  intro p e s m below meth c ls A hx hb hr hlocks hml hown hin hA hP hK hD hN hl hS hAA
  have hown : s.vm.findClass R_X = some m.cls := hown
  have hl : lv_has ls 9 [(0, .ref (q 0)), (1, .int i), (2, .int fa), (3, .int j), (4, .int fb), (5, .int v), (6, .int fc), (7, .int bd)] := hl
  refine lv_aload_n hx hb d_X_linear_0 rfl (lv_at hl 0 rfl) ?_
  refine lv_iload_n hx hb d_X_linear_1 rfl (lv_at hl 1 rfl) ?_
  refine lv_iload_n hx hb d_X_linear_2 rfl (lv_at hl 3 rfl) ?_
  refine lv_iload hx hb d_X_linear_3 (lv_at hl 5 rfl) ?_
  refine rV (n := 3) (rest := []) hx hb hml hown hA (c_areVariablesOrAbsent l D q n P k a z lo hi B av al ah an pt fd i j v) wv_X_58 ⟨by decide, by decide, by decide +kernel⟩ ⟨rfl, rfl, by decide, by decide⟩ rfl hl.1 ⟨Nat.le_of_ble_eq_true rfl, Nat.le_of_ble_eq_true rfl⟩ hP hK hD hN 0 0 rfl rfl rfl (Nat.le_of_ble_eq_true rfl) d_X_linear_5 (fun r hr9 => ?_)
  rcases zb_c hr9 with ⟨rfl, h5⟩ | ⟨rfl, h5⟩
  · skip
    refine lv_if_eq (tgt := 55) hx hb d_X_linear_8 (by decide) (fun h => absurd h (by decide)) (fun _ => ?_)
    refine lv_iload_n hx hb d_X_linear_11 rfl (lv_at hl 2 rfl) ?_
    refine lv_bipush (v := 9) hx hb d_X_linear_12 (by decide) ?_
    refine rS (n := 2) (rest := []) hx hb hml hown hA (c_isWithin l D fa 9) wv_X_62 ⟨by decide, by decide, by decide +kernel⟩ ⟨rfl, rfl, by decide, by decide⟩ rfl hl.1 ⟨Nat.le_of_ble_eq_true rfl, Nat.le_of_ble_eq_true rfl⟩ (va_P.sub1 hP [] rfl) hK (va_D.sub hD [] rfl rfl) hN rfl (Nat.le_of_ble_eq_true rfl) d_X_linear_14 (fun r hr9 => ?_)
    rcases zb_c hr9 with ⟨rfl, h14⟩ | ⟨rfl, h14⟩
    · skip
      refine lv_if_eq (tgt := 55) hx hb d_X_linear_17 (by decide) (fun h => absurd h (by decide)) (fun _ => ?_)
      refine lv_iload hx hb d_X_linear_20 (lv_at hl 4 rfl) ?_
      refine lv_bipush (v := 9) hx hb d_X_linear_22 (by decide) ?_
      refine rS (n := 2) (rest := []) hx hb hml hown hA (c_isWithin l D fb 9) wv_X_62 ⟨by decide, by decide, by decide +kernel⟩ ⟨rfl, rfl, by decide, by decide⟩ rfl hl.1 ⟨Nat.le_of_ble_eq_true rfl, Nat.le_of_ble_eq_true rfl⟩ (va_P.sub1 hP [] rfl) hK (va_D.sub hD [] rfl rfl) hN rfl (Nat.le_of_ble_eq_true rfl) d_X_linear_24 (fun r hr9 => ?_)
      rcases zb_c hr9 with ⟨rfl, h24⟩ | ⟨rfl, h24⟩
      · skip
        refine lv_if_eq (tgt := 55) hx hb d_X_linear_27 (by decide) (fun h => absurd h (by decide)) (fun _ => ?_)
        refine lv_iload hx hb d_X_linear_30 (lv_at hl 6 rfl) ?_
        refine lv_bipush (v := 9) hx hb d_X_linear_32 (by decide) ?_
        refine rS (n := 2) (rest := []) hx hb hml hown hA (c_isWithin l D fc 9) wv_X_62 ⟨by decide, by decide, by decide +kernel⟩ ⟨rfl, rfl, by decide, by decide⟩ rfl hl.1 ⟨Nat.le_of_ble_eq_true rfl, Nat.le_of_ble_eq_true rfl⟩ (va_P.sub1 hP [] rfl) hK (va_D.sub hD [] rfl rfl) hN rfl (Nat.le_of_ble_eq_true rfl) d_X_linear_34 (fun r hr9 => ?_)
        rcases zb_c hr9 with ⟨rfl, h34⟩ | ⟨rfl, h34⟩
        · skip
          refine lv_if_eq (tgt := 55) hx hb d_X_linear_37 (by decide) (fun h => absurd h (by decide)) (fun _ => ?_)
          refine lv_iload hx hb d_X_linear_40 (lv_at hl 7 rfl) ?_
          refine lv_sipush (v := 1000) hx hb d_X_linear_42 (by decide) ?_
          refine rS (n := 2) (rest := []) hx hb hml hown hA (c_isWithin l D bd 1000) wv_X_62 ⟨by decide, by decide, by decide +kernel⟩ ⟨rfl, rfl, by decide, by decide⟩ rfl hl.1 ⟨Nat.le_of_ble_eq_true rfl, Nat.le_of_ble_eq_true rfl⟩ (va_P.sub1 hP [] rfl) hK (va_D.sub hD [] rfl rfl) hN rfl (Nat.le_of_ble_eq_true rfl) d_X_linear_45 (fun r hr9 => ?_)
          rcases zb_c hr9 with ⟨rfl, h45⟩ | ⟨rfl, h45⟩
          · skip
            refine lv_if_eq (tgt := 55) hx hb d_X_linear_48 (by decide) (fun h => absurd h (by decide)) (fun _ => ?_)
            refine lv_iconst (v := 1) hx hb d_X_linear_51 (by decide) ?_
            refine lv_goto (tgt := 56) hx hb d_X_linear_52 (by decide) ?_
            refine lv_istore hx hb d_X_linear_56 hl (by decide) rfl (fun ls hl => ?_)
            have hl : lv_has ls 9 [(8, .int 1), (0, .ref (q 0)), (1, .int i), (2, .int fa), (3, .int j), (4, .int fb), (5, .int v), (6, .int fc), (7, .int bd)] := hl
            refine lv_iload hx hb d_X_linear_58 (lv_at hl 0 rfl) ?_
            refine lv_if_eq (tgt := 88) hx hb d_X_linear_60 (by decide) (fun h => absurd h (by decide)) (fun _ => ?_)
            refine lv_aload_n hx hb d_X_linear_63 rfl (lv_at hl 1 rfl) ?_
            refine va_new (ci := 2) (fs := [.int 0, .int 0, .int 0, .int 0, .int 0, .int 0, .int 0]) (C := R_L) (T := T_L) (N := 7) hx hb hA inA_L ty_L tok_L hown (hA _ wd_96) (hA _ wd_97) (hA _ wd_5) hK hP hD hS hAA rfl (by decide) (by decide) (by decide) d_X_linear_64 (fun o1 H hP hD hS => ?_)
            refine W.widen (k := 1) (n := 7) (by decide) (by decide) ?_
            have hP : va_P D vwCl (xw D q n P k a z lo hi B av al ah an pt fd ++ [(o1, .inr (2, [.int 0, .int 0, .int 0, .int 0, .int 0, .int 0, .int 0]))]) H := hP
            have hD : va_D A (xw D q n P k a z lo hi B av al ah an pt fd ++ [(o1, .inr (2, [.int 0, .int 0, .int 0, .int 0, .int 0, .int 0, .int 0]))]) := hD
            refine lv_dup hx hb d_X_linear_67 rfl ?_
            refine lv_iload_n hx hb d_X_linear_68 rfl (lv_at hl 2 rfl) ?_
            refine lv_iload_n hx hb d_X_linear_69 rfl (lv_at hl 3 rfl) ?_
            refine lv_iload_n hx hb d_X_linear_70 rfl (lv_at hl 4 rfl) ?_
            refine lv_iload hx hb d_X_linear_71 (lv_at hl 5 rfl) ?_
            refine lv_iload hx hb d_X_linear_73 (lv_at hl 6 rfl) ?_
            refine lv_iload hx hb d_X_linear_75 (lv_at hl 7 rfl) ?_
            refine lv_iload hx hb d_X_linear_77 (lv_at hl 8 rfl) ?_
            refine wIN (n := 7) (wr := xw D q n P k a z lo hi B av al ah an pt fd) (Wf := idW) (rest := [.ref o1, .ref (q 0)]) hx hb hml hown hA (c_Linear_init l D o1 i fa j fb v fc bd _) hN.1.1 wv_X_68 rfl ⟨by decide, by decide, by decide +kernel⟩ ⟨rfl, rfl, by decide, by decide⟩ rfl hl.1 ⟨Nat.le_of_ble_eq_true rfl, Nat.le_of_ble_eq_true rfl⟩ hP hK hD hS hAA hN [10] [0, 1, 2, 3, 4, 5, 6, 7, 8, 9] rfl rfl (by decide) (by decide) (by decide) rfl (Nat.le_of_ble_eq_true rfl) d_X_linear_79 (fun u H locs hu hP hD hS => ?_)
            subst hu
            refine W.widen (k := 1) (n := 7) (by decide) (by decide) ?_
            have hP : va_P D vwCl (xw D q n P k a z lo hi B av al ah an pt fd ++ [(o1, .inr (2, [.int i, .int fa, .int j, .int fb, .int v, .int fc, .int bd]))]) H := hP
            have hD : va_D A (xw D q n P k a z lo hi B av al ah an pt fd ++ [(o1, .inr (2, [.int i, .int fa, .int j, .int fb, .int v, .int fc, .int bd]))]) := hD
            refine wVi (n := 1) (wr := []) (Wf := xW D q) (rest := []) hx hb hml hown hA (c_add l D q n P k a z lo hi B av al ah an pt fd (fun x => (decide (kLin i fa j fb v fc bd x))) o1 2 [.int i, .int fa, .int j, .int fb, .int v, .int fc, .int bd] R_L T_L 7 y_L_holdsAt b_L_holdsAt 2 _ _ hn hP4 hk (fun x => c_Linear l D o1 (q 8) i fa j fb v fc bd x (iva_in h5.1 hn) (iva_in h5.2.1 hn) (iva_in h5.2.2 hn)) rfl (fun U hN => hN.2.1) wf_L ⟨rfl, rfl, by decide, by decide⟩) wv_X_71 ⟨by decide, by decide, by decide +kernel⟩ ⟨rfl, rfl, by decide, by decide⟩ rfl hl.1 ⟨Nat.le_of_ble_eq_true rfl, Nat.le_of_ble_eq_true rfl⟩ hP hK hD hS hAA hN [10, 0, 1, 2, 3, 4, 5, 6, 7, 8, 9] [] rfl rfl (by decide) (by decide) (by decide) 1 0 rfl rfl rfl (Nat.le_of_ble_eq_true rfl) d_X_linear_82 (fun r u H locs hu hP hD hS => ?_)
            refine W.widen (k := 1) (n := 7) (by decide) (by decide) ?_
            have hP : va_P D vwCl (xW D q u) H := hP
            have hD : va_D A (xW D q u) := hD
            refine lv_goto (tgt := 89) hx hb d_X_linear_85 (by decide) ?_
            exact eWi u hx hb hr hlocks hP hK hD hS (Or.inr ⟨⟨h5, h14, h24, h34, h45⟩, hu⟩) d_X_linear_89
          · skip
            refine lv_if_eq (tgt := 55) hx hb d_X_linear_48 (by decide) (fun _ => ?_) (fun h => absurd h (by decide))
            refine lv_iconst (v := 0) hx hb d_X_linear_55 (by decide) ?_
            refine lv_istore hx hb d_X_linear_56 hl (by decide) rfl (fun ls hl => ?_)
            have hl : lv_has ls 9 [(8, .int 0), (0, .ref (q 0)), (1, .int i), (2, .int fa), (3, .int j), (4, .int fb), (5, .int v), (6, .int fc), (7, .int bd)] := hl
            refine lv_iload hx hb d_X_linear_58 (lv_at hl 0 rfl) ?_
            refine lv_if_eq (tgt := 88) hx hb d_X_linear_60 (by decide) (fun _ => ?_) (fun h => absurd h (by decide))
            refine lv_iconst (v := (-1)) hx hb d_X_linear_88 (by decide) ?_
            refine W.widen (k := 1) (n := 7) (by decide) (by decide) ?_
            exact eWi (n, P, k, a, z, lo, hi, B, av, al, ah, an, pt, fd) hx hb hr hlocks hP hK hD hS (by first | exact Or.inl ⟨fun h => h5 h.1, rfl, rfl⟩ | exact Or.inl ⟨fun h => h14 h.2.1, rfl, rfl⟩ | exact Or.inl ⟨fun h => h24 h.2.2.1, rfl, rfl⟩ | exact Or.inl ⟨fun h => h34 h.2.2.2.1, rfl, rfl⟩ | exact Or.inl ⟨fun h => h45 h.2.2.2.2, rfl, rfl⟩) d_X_linear_89
        · skip
          refine lv_if_eq (tgt := 55) hx hb d_X_linear_37 (by decide) (fun _ => ?_) (fun h => absurd h (by decide))
          refine lv_iconst (v := 0) hx hb d_X_linear_55 (by decide) ?_
          refine lv_istore hx hb d_X_linear_56 hl (by decide) rfl (fun ls hl => ?_)
          have hl : lv_has ls 9 [(8, .int 0), (0, .ref (q 0)), (1, .int i), (2, .int fa), (3, .int j), (4, .int fb), (5, .int v), (6, .int fc), (7, .int bd)] := hl
          refine lv_iload hx hb d_X_linear_58 (lv_at hl 0 rfl) ?_
          refine lv_if_eq (tgt := 88) hx hb d_X_linear_60 (by decide) (fun _ => ?_) (fun h => absurd h (by decide))
          refine lv_iconst (v := (-1)) hx hb d_X_linear_88 (by decide) ?_
          refine W.widen (k := 1) (n := 7) (by decide) (by decide) ?_
          exact eWi (n, P, k, a, z, lo, hi, B, av, al, ah, an, pt, fd) hx hb hr hlocks hP hK hD hS (by first | exact Or.inl ⟨fun h => h5 h.1, rfl, rfl⟩ | exact Or.inl ⟨fun h => h14 h.2.1, rfl, rfl⟩ | exact Or.inl ⟨fun h => h24 h.2.2.1, rfl, rfl⟩ | exact Or.inl ⟨fun h => h34 h.2.2.2.1, rfl, rfl⟩ | exact Or.inl ⟨fun h => h45 h.2.2.2.2, rfl, rfl⟩) d_X_linear_89
      · skip
        refine lv_if_eq (tgt := 55) hx hb d_X_linear_27 (by decide) (fun _ => ?_) (fun h => absurd h (by decide))
        refine lv_iconst (v := 0) hx hb d_X_linear_55 (by decide) ?_
        refine lv_istore hx hb d_X_linear_56 hl (by decide) rfl (fun ls hl => ?_)
        have hl : lv_has ls 9 [(8, .int 0), (0, .ref (q 0)), (1, .int i), (2, .int fa), (3, .int j), (4, .int fb), (5, .int v), (6, .int fc), (7, .int bd)] := hl
        refine lv_iload hx hb d_X_linear_58 (lv_at hl 0 rfl) ?_
        refine lv_if_eq (tgt := 88) hx hb d_X_linear_60 (by decide) (fun _ => ?_) (fun h => absurd h (by decide))
        refine lv_iconst (v := (-1)) hx hb d_X_linear_88 (by decide) ?_
        refine W.widen (k := 1) (n := 7) (by decide) (by decide) ?_
        exact eWi (n, P, k, a, z, lo, hi, B, av, al, ah, an, pt, fd) hx hb hr hlocks hP hK hD hS (by first | exact Or.inl ⟨fun h => h5 h.1, rfl, rfl⟩ | exact Or.inl ⟨fun h => h14 h.2.1, rfl, rfl⟩ | exact Or.inl ⟨fun h => h24 h.2.2.1, rfl, rfl⟩ | exact Or.inl ⟨fun h => h34 h.2.2.2.1, rfl, rfl⟩ | exact Or.inl ⟨fun h => h45 h.2.2.2.2, rfl, rfl⟩) d_X_linear_89
    · skip
      refine lv_if_eq (tgt := 55) hx hb d_X_linear_17 (by decide) (fun _ => ?_) (fun h => absurd h (by decide))
      refine lv_iconst (v := 0) hx hb d_X_linear_55 (by decide) ?_
      refine lv_istore hx hb d_X_linear_56 hl (by decide) rfl (fun ls hl => ?_)
      have hl : lv_has ls 9 [(8, .int 0), (0, .ref (q 0)), (1, .int i), (2, .int fa), (3, .int j), (4, .int fb), (5, .int v), (6, .int fc), (7, .int bd)] := hl
      refine lv_iload hx hb d_X_linear_58 (lv_at hl 0 rfl) ?_
      refine lv_if_eq (tgt := 88) hx hb d_X_linear_60 (by decide) (fun _ => ?_) (fun h => absurd h (by decide))
      refine lv_iconst (v := (-1)) hx hb d_X_linear_88 (by decide) ?_
      refine W.widen (k := 1) (n := 7) (by decide) (by decide) ?_
      exact eWi (n, P, k, a, z, lo, hi, B, av, al, ah, an, pt, fd) hx hb hr hlocks hP hK hD hS (by first | exact Or.inl ⟨fun h => h5 h.1, rfl, rfl⟩ | exact Or.inl ⟨fun h => h14 h.2.1, rfl, rfl⟩ | exact Or.inl ⟨fun h => h24 h.2.2.1, rfl, rfl⟩ | exact Or.inl ⟨fun h => h34 h.2.2.2.1, rfl, rfl⟩ | exact Or.inl ⟨fun h => h45 h.2.2.2.2, rfl, rfl⟩) d_X_linear_89
  · skip
    refine lv_if_eq (tgt := 55) hx hb d_X_linear_8 (by decide) (fun _ => ?_) (fun h => absurd h (by decide))
    refine lv_iconst (v := 0) hx hb d_X_linear_55 (by decide) ?_
    refine lv_istore hx hb d_X_linear_56 hl (by decide) rfl (fun ls hl => ?_)
    have hl : lv_has ls 9 [(8, .int 0), (0, .ref (q 0)), (1, .int i), (2, .int fa), (3, .int j), (4, .int fb), (5, .int v), (6, .int fc), (7, .int bd)] := hl
    refine lv_iload hx hb d_X_linear_58 (lv_at hl 0 rfl) ?_
    refine lv_if_eq (tgt := 88) hx hb d_X_linear_60 (by decide) (fun _ => ?_) (fun h => absurd h (by decide))
    refine lv_iconst (v := (-1)) hx hb d_X_linear_88 (by decide) ?_
    refine W.widen (k := 1) (n := 7) (by decide) (by decide) ?_
    exact eWi (n, P, k, a, z, lo, hi, B, av, al, ah, an, pt, fd) hx hb hr hlocks hP hK hD hS (by first | exact Or.inl ⟨fun h => h5 h.1, rfl, rfl⟩ | exact Or.inl ⟨fun h => h14 h.2.1, rfl, rfl⟩ | exact Or.inl ⟨fun h => h24 h.2.2.1, rfl, rfl⟩ | exact Or.inl ⟨fun h => h34 h.2.2.2.1, rfl, rfl⟩ | exact Or.inl ⟨fun h => h45 h.2.2.2.2, rfl, rfl⟩) d_X_linear_89
end
