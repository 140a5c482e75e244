section
set_option maxRecDepth 100000 in
set_option maxHeartbeats 4000000 in
theorem c_clause (l : Launch) (D : va_G) (q : Nat → Nat) (n P k a : Nat) (z : Int32) (lo hi B av al ah an pt fd : Nat → Int32) (i w1 j w2 v w3 how : Int32) (sz : Nat) (hn : n ≤ 8) (hP4 : P ≤ 4096) (hk : k ≤ 12) : Met l y_X_clause (wsm y_X_clause b_X_clause 9 (some .int)) { frames := 4, cells := 1, slots := 7, locals := 90 } (va_Pc [.ref (q 0), .int i, .int w1, .int j, .int w2, .int v, .int w3, .int how] (fun U => U.heap.size = sz ∧ cPre D (xw D q n P k a z lo hi B av al ah an pt fd) U)) (va_Qi (fun (r : Int32) (u : XS) => (¬ ((iva n i ∧ iva n j ∧ iva n v) ∧ wi w1 100 ∧ wi w2 100 ∧ wi w3 100 ∧ ¬ how < 0 ∧ ¬ 7 < how) ∧ r = -1 ∧ u = (n, P, k, a, z, lo, hi, B, av, al, ah, an, pt, fd)) ∨ (((iva n i ∧ iva n j ∧ iva n v) ∧ wi w1 100 ∧ wi w2 100 ∧ wi w3 100 ∧ ¬ how < 0 ∧ ¬ 7 < how) ∧ addP (fun x => (decide (kCla i w1 j w2 v w3 how x))) n P k a z lo hi B av al ah an pt fd r u)) (fun u t => xB D (xW D q u) (va_A (xw D q n P k a z lo hi B av al ah an pt fd) sz) t) (va_A (xw D q n P k a z lo hi B av al ah an pt fd) sz)) 1 7 (va_A (xw D q n P k a z lo hi B av al ah an pt fd) sz) := by
  refine met_W (Qf := fun A => va_Qi (fun (r : Int32) (u : XS) => (¬ ((iva n i ∧ iva n j ∧ iva n v) ∧ wi w1 100 ∧ wi w2 100 ∧ wi w3 100 ∧ ¬ how < 0 ∧ ¬ 7 < how) ∧ r = -1 ∧ u = (n, P, k, a, z, lo, hi, B, av, al, ah, an, pt, fd)) ∨ (((iva n i ∧ iva n j ∧ iva n v) ∧ wi w1 100 ∧ wi w2 100 ∧ wi w3 100 ∧ ¬ how < 0 ∧ ¬ 7 < how) ∧ addP (fun x => (decide (kCla i w1 j w2 v w3 how x))) n P k a z lo hi B av al ah an pt fd r u)) (fun u t => xB D (xW D q u) A t) A) (by decide) (Nat.le_of_ble_eq_true rfl) ?_
  intro p e s m below meth c ls A hx hb hr hlocks hml hown hin hA hP hK hD hN hl hS hAA
  have hown : s.vm.findClass R_X = some m.cls := hown
  have hl : lv_has ls 9 [(0, .ref (q 0)), (1, .int i), (2, .int w1), (3, .int j), (4, .int w2), (5, .int v), (6, .int w3), (7, .int how)] := hl
  refine lv_aload_n hx hb d_X_clause_0 rfl (lv_at hl 0 rfl) ?_
  refine lv_iload_n hx hb d_X_clause_1 rfl (lv_at hl 1 rfl) ?_
  refine lv_iload_n hx hb d_X_clause_2 rfl (lv_at hl 3 rfl) ?_
  refine lv_iload hx hb d_X_clause_3 (lv_at hl 5 rfl) ?_
  refine rV (n := 3) (rest := []) hx hb hml hown hA (c_areVariablesOrAbsent l D q n P k a z lo hi B av al ah an pt fd i j v) wv_X_58 ⟨by decide, by decide, by decide +kernel⟩ ⟨rfl, rfl, by decide, by decide⟩ rfl hl.1 ⟨Nat.le_of_ble_eq_true rfl, Nat.le_of_ble_eq_true rfl⟩ hP hK hD hN 0 0 rfl rfl rfl (Nat.le_of_ble_eq_true rfl) d_X_clause_5 (fun r hr9 => ?_)
  rcases zb_c hr9 with ⟨rfl, h5⟩ | ⟨rfl, h5⟩
  · skip
    refine lv_if_eq (tgt := 56) hx hb d_X_clause_8 (by decide) (fun h => absurd h (by decide)) (fun _ => ?_)
    refine lv_iload_n hx hb d_X_clause_11 rfl (lv_at hl 2 rfl) ?_
    refine lv_bipush (v := 100) hx hb d_X_clause_12 (by decide) ?_
    refine rS (n := 2) (rest := []) hx hb hml hown hA (c_isWithin l D w1 100) wv_X_62 ⟨by decide, by decide, by decide +kernel⟩ ⟨rfl, rfl, by decide, by decide⟩ rfl hl.1 ⟨Nat.le_of_ble_eq_true rfl, Nat.le_of_ble_eq_true rfl⟩ (va_P.sub1 hP [] rfl) hK (va_D.sub hD [] rfl rfl) hN rfl (Nat.le_of_ble_eq_true rfl) d_X_clause_14 (fun r hr9 => ?_)
    rcases zb_c hr9 with ⟨rfl, h14⟩ | ⟨rfl, h14⟩
    · skip
      refine lv_if_eq (tgt := 56) hx hb d_X_clause_17 (by decide) (fun h => absurd h (by decide)) (fun _ => ?_)
      refine lv_iload hx hb d_X_clause_20 (lv_at hl 4 rfl) ?_
      refine lv_bipush (v := 100) hx hb d_X_clause_22 (by decide) ?_
      refine rS (n := 2) (rest := []) hx hb hml hown hA (c_isWithin l D w2 100) wv_X_62 ⟨by decide, by decide, by decide +kernel⟩ ⟨rfl, rfl, by decide, by decide⟩ rfl hl.1 ⟨Nat.le_of_ble_eq_true rfl, Nat.le_of_ble_eq_true rfl⟩ (va_P.sub1 hP [] rfl) hK (va_D.sub hD [] rfl rfl) hN rfl (Nat.le_of_ble_eq_true rfl) d_X_clause_24 (fun r hr9 => ?_)
      rcases zb_c hr9 with ⟨rfl, h24⟩ | ⟨rfl, h24⟩
      · skip
        refine lv_if_eq (tgt := 56) hx hb d_X_clause_27 (by decide) (fun h => absurd h (by decide)) (fun _ => ?_)
        refine lv_iload hx hb d_X_clause_30 (lv_at hl 6 rfl) ?_
        refine lv_bipush (v := 100) hx hb d_X_clause_32 (by decide) ?_
        refine rS (n := 2) (rest := []) hx hb hml hown hA (c_isWithin l D w3 100) wv_X_62 ⟨by decide, by decide, by decide +kernel⟩ ⟨rfl, rfl, by decide, by decide⟩ rfl hl.1 ⟨Nat.le_of_ble_eq_true rfl, Nat.le_of_ble_eq_true rfl⟩ (va_P.sub1 hP [] rfl) hK (va_D.sub hD [] rfl rfl) hN rfl (Nat.le_of_ble_eq_true rfl) d_X_clause_34 (fun r hr9 => ?_)
        rcases zb_c hr9 with ⟨rfl, h34⟩ | ⟨rfl, h34⟩
        · skip
          refine lv_if_eq (tgt := 56) hx hb d_X_clause_37 (by decide) (fun h => absurd h (by decide)) (fun _ => ?_)
          refine lv_iload hx hb d_X_clause_40 (lv_at hl 7 rfl) ?_
          refine lv_if_lt (tgt := 56) hx hb d_X_clause_42 (by decide) (fun h42 => ?_) (fun h42 => ?_)
          · skip
            refine lv_iconst (v := 0) hx hb d_X_clause_56 (by decide) ?_
            refine lv_istore hx hb d_X_clause_57 hl (by decide) rfl (fun ls hl => ?_)
            have hl : lv_has ls 9 [(8, .int 0), (0, .ref (q 0)), (1, .int i), (2, .int w1), (3, .int j), (4, .int w2), (5, .int v), (6, .int w3), (7, .int how)] := hl
            refine lv_iload hx hb d_X_clause_59 (lv_at hl 0 rfl) ?_
            refine lv_if_eq (tgt := 89) hx hb d_X_clause_61 (by decide) (fun _ => ?_) (fun h => absurd h (by decide))
            refine lv_iconst (v := (-1)) hx hb d_X_clause_89 (by decide) ?_
            refine W.widen (k := 1) (n := 7) (by decide) (by decide) ?_
            exact eWi (n, P, k, a, z, lo, hi, B, av, al, ah, an, pt, fd) hx hb hr hlocks hP hK hD hS (by first | exact Or.inl ⟨fun h => h5 h.1, rfl, rfl⟩ | exact Or.inl ⟨fun h => h14 h.2.1, rfl, rfl⟩ | exact Or.inl ⟨fun h => h24 h.2.2.1, rfl, rfl⟩ | exact Or.inl ⟨fun h => h34 h.2.2.2.1, rfl, rfl⟩ | exact Or.inl ⟨fun h => h.2.2.2.2.1 h42, rfl, rfl⟩ | exact Or.inl ⟨fun h => h.2.2.2.2.2 h49, rfl, rfl⟩) d_X_clause_90
          · skip
            refine lv_iload hx hb d_X_clause_45 (lv_at hl 7 rfl) ?_
            refine lv_bipush (v := 7) hx hb d_X_clause_47 (by decide) ?_
            refine lv_icmp_gt (tgt := 56) hx hb d_X_clause_49 (by decide) (fun h49 => ?_) (fun h49 => ?_)
            · skip
              refine lv_iconst (v := 0) hx hb d_X_clause_56 (by decide) ?_
              refine lv_istore hx hb d_X_clause_57 hl (by decide) rfl (fun ls hl => ?_)
              have hl : lv_has ls 9 [(8, .int 0), (0, .ref (q 0)), (1, .int i), (2, .int w1), (3, .int j), (4, .int w2), (5, .int v), (6, .int w3), (7, .int how)] := hl
              refine lv_iload hx hb d_X_clause_59 (lv_at hl 0 rfl) ?_
              refine lv_if_eq (tgt := 89) hx hb d_X_clause_61 (by decide) (fun _ => ?_) (fun h => absurd h (by decide))
              refine lv_iconst (v := (-1)) hx hb d_X_clause_89 (by decide) ?_
              refine W.widen (k := 1) (n := 7) (by decide) (by decide) ?_
              exact eWi (n, P, k, a, z, lo, hi, B, av, al, ah, an, pt, fd) hx hb hr hlocks hP hK hD hS (by first | exact Or.inl ⟨fun h => h5 h.1, rfl, rfl⟩ | exact Or.inl ⟨fun h => h14 h.2.1, rfl, rfl⟩ | exact Or.inl ⟨fun h => h24 h.2.2.1, rfl, rfl⟩ | exact Or.inl ⟨fun h => h34 h.2.2.2.1, rfl, rfl⟩ | exact Or.inl ⟨fun h => h.2.2.2.2.1 h42, rfl, rfl⟩ | exact Or.inl ⟨fun h => h.2.2.2.2.2 h49, rfl, rfl⟩) d_X_clause_90
            · skip
              refine lv_iconst (v := 1) hx hb d_X_clause_52 (by decide) ?_
              refine lv_goto (tgt := 57) hx hb d_X_clause_53 (by decide) ?_
              refine lv_istore hx hb d_X_clause_57 hl (by decide) rfl (fun ls hl => ?_)
              have hl : lv_has ls 9 [(8, .int 1), (0, .ref (q 0)), (1, .int i), (2, .int w1), (3, .int j), (4, .int w2), (5, .int v), (6, .int w3), (7, .int how)] := hl
              refine lv_iload hx hb d_X_clause_59 (lv_at hl 0 rfl) ?_
              refine lv_if_eq (tgt := 89) hx hb d_X_clause_61 (by decide) (fun h => absurd h (by decide)) (fun _ => ?_)
              refine lv_aload_n hx hb d_X_clause_64 rfl (lv_at hl 1 rfl) ?_
              refine va_new (ci := 8) (fs := [.int 0, .int 0, .int 0, .int 0, .int 0, .int 0, .int 0]) (C := R_C) (T := T_C) (N := 7) hx hb hA inA_C ty_C tok_C hown (hA _ wd_322) (hA _ wd_151) (hA _ wd_13) hK hP hD hS hAA rfl (by decide) (by decide) (by decide) d_X_clause_65 (fun o1 H hP hD hS => ?_)
              refine W.widen (k := 1) (n := 7) (by decide) (by decide) ?_
              have hP : va_P D vwCl (xw D q n P k a z lo hi B av al ah an pt fd ++ [(o1, .inr (8, [.int 0, .int 0, .int 0, .int 0, .int 0, .int 0, .int 0]))]) H := hP
              have hD : va_D A (xw D q n P k a z lo hi B av al ah an pt fd ++ [(o1, .inr (8, [.int 0, .int 0, .int 0, .int 0, .int 0, .int 0, .int 0]))]) := hD
              refine lv_dup hx hb d_X_clause_68 rfl ?_
              refine lv_iload_n hx hb d_X_clause_69 rfl (lv_at hl 2 rfl) ?_
              refine lv_iload_n hx hb d_X_clause_70 rfl (lv_at hl 3 rfl) ?_
              refine lv_iload_n hx hb d_X_clause_71 rfl (lv_at hl 4 rfl) ?_
              refine lv_iload hx hb d_X_clause_72 (lv_at hl 5 rfl) ?_
              refine lv_iload hx hb d_X_clause_74 (lv_at hl 6 rfl) ?_
              refine lv_iload hx hb d_X_clause_76 (lv_at hl 7 rfl) ?_
              refine lv_iload hx hb d_X_clause_78 (lv_at hl 8 rfl) ?_
              refine wIN (n := 7) (wr := xw D q n P k a z lo hi B av al ah an pt fd) (Wf := idW) (rest := [.ref o1, .ref (q 0)]) hx hb hml hown hA (c_Clause_init l D o1 i w1 j w2 v w3 how _) hN.1.2.2.2.2.2.2.2.2.2 wv_X_109 rfl ⟨by decide, by decide, by decide +kernel⟩ ⟨rfl, rfl, by decide, by decide⟩ rfl hl.1 ⟨Nat.le_of_ble_eq_true rfl, Nat.le_of_ble_eq_true rfl⟩ hP hK hD hS hAA hN [10] [0, 1, 2, 3, 4, 5, 6, 7, 8, 9] rfl rfl (by decide) (by decide) (by decide) rfl (Nat.le_of_ble_eq_true rfl) d_X_clause_80 (fun u H locs hu hP hD hS => ?_)
              subst hu
              refine W.widen (k := 1) (n := 7) (by decide) (by decide) ?_
              have hP : va_P D vwCl (xw D q n P k a z lo hi B av al ah an pt fd ++ [(o1, .inr (8, [.int i, .int w1, .int j, .int w2, .int v, .int w3, .int how]))]) H := hP
              have hD : va_D A (xw D q n P k a z lo hi B av al ah an pt fd ++ [(o1, .inr (8, [.int i, .int w1, .int j, .int w2, .int v, .int w3, .int how]))]) := hD
              refine wVi (n := 1) (wr := []) (Wf := xW D q) (rest := []) hx hb hml hown hA (c_add l D q n P k a z lo hi B av al ah an pt fd (fun x => (decide (kCla i w1 j w2 v w3 how x))) o1 8 [.int i, .int w1, .int j, .int w2, .int v, .int w3, .int how] R_C T_C 7 y_C_holdsAt b_C_holdsAt 2 _ _ hn hP4 hk (fun x => c_Clause l D o1 (q 8) i w1 j w2 v w3 how x (iva_in h5.1 hn) (iva_in h5.2.1 hn) (iva_in h5.2.2 hn)) rfl (fun U hN => hN.2.2.2.2.2.2.2) wf_C ⟨rfl, rfl, by decide, by decide⟩) wv_X_71 ⟨by decide, by decide, by decide +kernel⟩ ⟨rfl, rfl, by decide, by decide⟩ rfl hl.1 ⟨Nat.le_of_ble_eq_true rfl, Nat.le_of_ble_eq_true rfl⟩ hP hK hD hS hAA hN [10, 0, 1, 2, 3, 4, 5, 6, 7, 8, 9] [] rfl rfl (by decide) (by decide) (by decide) 1 0 rfl rfl rfl (Nat.le_of_ble_eq_true rfl) d_X_clause_83 (fun r u H locs hu hP hD hS => ?_)
              refine W.widen (k := 1) (n := 7) (by decide) (by decide) ?_
              have hP : va_P D vwCl (xW D q u) H := hP
              have hD : va_D A (xW D q u) := hD
              refine lv_goto (tgt := 90) hx hb d_X_clause_86 (by decide) ?_
              exact eWi u hx hb hr hlocks hP hK hD hS (Or.inr ⟨⟨h5, h14, h24, h34, h42, h49⟩, hu⟩) d_X_clause_90
        · skip
          refine lv_if_eq (tgt := 56) hx hb d_X_clause_37 (by decide) (fun _ => ?_) (fun h => absurd h (by decide))
          refine lv_iconst (v := 0) hx hb d_X_clause_56 (by decide) ?_
          refine lv_istore hx hb d_X_clause_57 hl (by decide) rfl (fun ls hl => ?_)
          have hl : lv_has ls 9 [(8, .int 0), (0, .ref (q 0)), (1, .int i), (2, .int w1), (3, .int j), (4, .int w2), (5, .int v), (6, .int w3), (7, .int how)] := hl
          refine lv_iload hx hb d_X_clause_59 (lv_at hl 0 rfl) ?_
          refine lv_if_eq (tgt := 89) hx hb d_X_clause_61 (by decide) (fun _ => ?_) (fun h => absurd h (by decide))
          refine lv_iconst (v := (-1)) hx hb d_X_clause_89 (by decide) ?_
          refine W.widen (k := 1) (n := 7) (by decide) (by decide) ?_
          exact eWi (n, P, k, a, z, lo, hi, B, av, al, ah, an, pt, fd) hx hb hr hlocks hP hK hD hS (by first | exact Or.inl ⟨fun h => h5 h.1, rfl, rfl⟩ | exact Or.inl ⟨fun h => h14 h.2.1, rfl, rfl⟩ | exact Or.inl ⟨fun h => h24 h.2.2.1, rfl, rfl⟩ | exact Or.inl ⟨fun h => h34 h.2.2.2.1, rfl, rfl⟩ | exact Or.inl ⟨fun h => h.2.2.2.2.1 h42, rfl, rfl⟩ | exact Or.inl ⟨fun h => h.2.2.2.2.2 h49, rfl, rfl⟩) d_X_clause_90
      · skip
        refine lv_if_eq (tgt := 56) hx hb d_X_clause_27 (by decide) (fun _ => ?_) (fun h => absurd h (by decide))
        refine lv_iconst (v := 0) hx hb d_X_clause_56 (by decide) ?_
        refine lv_istore hx hb d_X_clause_57 hl (by decide) rfl (fun ls hl => ?_)
        have hl : lv_has ls 9 [(8, .int 0), (0, .ref (q 0)), (1, .int i), (2, .int w1), (3, .int j), (4, .int w2), (5, .int v), (6, .int w3), (7, .int how)] := hl
        refine lv_iload hx hb d_X_clause_59 (lv_at hl 0 rfl) ?_
        refine lv_if_eq (tgt := 89) hx hb d_X_clause_61 (by decide) (fun _ => ?_) (fun h => absurd h (by decide))
        refine lv_iconst (v := (-1)) hx hb d_X_clause_89 (by decide) ?_
        refine W.widen (k := 1) (n := 7) (by decide) (by decide) ?_
        exact eWi (n, P, k, a, z, lo, hi, B, av, al, ah, an, pt, fd) hx hb hr hlocks hP hK hD hS (by first | exact Or.inl ⟨fun h => h5 h.1, rfl, rfl⟩ | exact Or.inl ⟨fun h => h14 h.2.1, rfl, rfl⟩ | exact Or.inl ⟨fun h => h24 h.2.2.1, rfl, rfl⟩ | exact Or.inl ⟨fun h => h34 h.2.2.2.1, rfl, rfl⟩ | exact Or.inl ⟨fun h => h.2.2.2.2.1 h42, rfl, rfl⟩ | exact Or.inl ⟨fun h => h.2.2.2.2.2 h49, rfl, rfl⟩) d_X_clause_90
    · skip
      refine lv_if_eq (tgt := 56) hx hb d_X_clause_17 (by decide) (fun _ => ?_) (fun h => absurd h (by decide))
      refine lv_iconst (v := 0) hx hb d_X_clause_56 (by decide) ?_
      refine lv_istore hx hb d_X_clause_57 hl (by decide) rfl (fun ls hl => ?_)
      have hl : lv_has ls 9 [(8, .int 0), (0, .ref (q 0)), (1, .int i), (2, .int w1), (3, .int j), (4, .int w2), (5, .int v), (6, .int w3), (7, .int how)] := hl
      refine lv_iload hx hb d_X_clause_59 (lv_at hl 0 rfl) ?_
      refine lv_if_eq (tgt := 89) hx hb d_X_clause_61 (by decide) (fun _ => ?_) (fun h => absurd h (by decide))
      refine lv_iconst (v := (-1)) hx hb d_X_clause_89 (by decide) ?_
      refine W.widen (k := 1) (n := 7) (by decide) (by decide) ?_
      exact eWi (n, P, k, a, z, lo, hi, B, av, al, ah, an, pt, fd) hx hb hr hlocks hP hK hD hS (by first | exact Or.inl ⟨fun h => h5 h.1, rfl, rfl⟩ | exact Or.inl ⟨fun h => h14 h.2.1, rfl, rfl⟩ | exact Or.inl ⟨fun h => h24 h.2.2.1, rfl, rfl⟩ | exact Or.inl ⟨fun h => h34 h.2.2.2.1, rfl, rfl⟩ | exact Or.inl ⟨fun h => h.2.2.2.2.1 h42, rfl, rfl⟩ | exact Or.inl ⟨fun h => h.2.2.2.2.2 h49, rfl, rfl⟩) d_X_clause_90
  · skip
    refine lv_if_eq (tgt := 56) hx hb d_X_clause_8 (by decide) (fun _ => ?_) (fun h => absurd h (by decide))
    refine lv_iconst (v := 0) hx hb d_X_clause_56 (by decide) ?_
    refine lv_istore hx hb d_X_clause_57 hl (by decide) rfl (fun ls hl => ?_)
    have hl : lv_has ls 9 [(8, .int 0), (0, .ref (q 0)), (1, .int i), (2, .int w1), (3, .int j), (4, .int w2), (5, .int v), (6, .int w3), (7, .int how)] := hl
    refine lv_iload hx hb d_X_clause_59 (lv_at hl 0 rfl) ?_
    refine lv_if_eq (tgt := 89) hx hb d_X_clause_61 (by decide) (fun _ => ?_) (fun h => absurd h (by decide))
    refine lv_iconst (v := (-1)) hx hb d_X_clause_89 (by decide) ?_
    refine W.widen (k := 1) (n := 7) (by decide) (by decide) ?_
    exact eWi (n, P, k, a, z, lo, hi, B, av, al, ah, an, pt, fd) hx hb hr hlocks hP hK hD hS (by first | exact Or.inl ⟨fun h => h5 h.1, rfl, rfl⟩ | exact Or.inl ⟨fun h => h14 h.2.1, rfl, rfl⟩ | exact Or.inl ⟨fun h => h24 h.2.2.1, rfl, rfl⟩ | exact Or.inl ⟨fun h => h34 h.2.2.2.1, rfl, rfl⟩ | exact Or.inl ⟨fun h => h.2.2.2.2.1 h42, rfl, rfl⟩ | exact Or.inl ⟨fun h => h.2.2.2.2.2 h49, rfl, rfl⟩) d_X_clause_90
end
