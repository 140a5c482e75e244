section
set_option maxRecDepth 100000 in
set_option maxHeartbeats 4000000 in
theorem c_cumulative (l : Launch) (D : va_G) (q : Nat → Nat) (n P k a : Nat) (z : Int32) (lo hi B av al ah an pt fd : Nat → Int32) (t1 : Int32) (du ne : Int64) (cp : Int32) (sz : Nat) (hn : n ≤ 8) (hP4 : P ≤ 4096) (hk : k ≤ 12) : Met l y_X_cumulative (wsm y_X_cumulative b_X_cumulative 8 (some .int)) { frames := 4, cells := 1, slots := 4, locals := 90 } (va_Pc [.ref (q 0), .int t1, .long du, .long ne, .int cp] (fun U => U.heap.size = sz ∧ cPre D (xw D q n P k a z lo hi B av al ah an pt fd) U)) (va_Qi (fun (r : Int32) (u : XS) => (¬ (ivs n t1 ∧ ¬ cp < 0 ∧ ¬ 100 < cp) ∧ r = -1 ∧ u = (n, P, k, a, z, lo, hi, B, av, al, ah, an, pt, fd)) ∨ ((ivs n t1 ∧ ¬ cp < 0 ∧ ¬ 100 < cp) ∧ addP (fun x => (kCum t1 du ne cp x 8 0)) n P k a z lo hi B av al ah an pt fd r u)) (fun u t => xB D (xW D q u) (va_A (xw D q n P k a z lo hi B av al ah an pt fd) sz) t) (va_A (xw D q n P k a z lo hi B av al ah an pt fd) sz)) 1 4 (va_A (xw D q n P k a z lo hi B av al ah an pt fd) sz) := by
  refine met_W (Qf := fun A => va_Qi (fun (r : Int32) (u : XS) => (¬ (ivs n t1 ∧ ¬ cp < 0 ∧ ¬ 100 < cp) ∧ r = -1 ∧ u = (n, P, k, a, z, lo, hi, B, av, al, ah, an, pt, fd)) ∨ ((ivs n t1 ∧ ¬ cp < 0 ∧ ¬ 100 < cp) ∧ addP (fun x => (kCum t1 du ne cp x 8 0)) n P k a z lo hi B av al ah an pt fd r u)) (fun u t => xB D (xW D q u) A t) A) (by decide) (Nat.le_of_ble_eq_true rfl) ?_
  intro p e s m below meth c ls A hx hb hr hlocks hml hown hin hA hP hK hD hN hl hS hAA
  have hown : s.vm.findClass R_X = some m.cls := hown
  have hl : lv_has ls 8 [(0, .ref (q 0)), (1, .int t1), (2, .long du), (4, .long ne), (6, .int cp)] := hl
  refine lv_aload_n hx hb d_X_cumulative_0 rfl (lv_at hl 0 rfl) ?_
  refine lv_iload_n hx hb d_X_cumulative_1 rfl (lv_at hl 1 rfl) ?_
  refine rV (n := 1) (rest := []) hx hb hml hown hA (c_isSetOfVariables l D q n P k a z lo hi B av al ah an pt fd t1) wv_X_95 ⟨by decide, by decide, by decide +kernel⟩ ⟨rfl, rfl, by decide, by decide⟩ rfl hl.1 ⟨Nat.le_of_ble_eq_true rfl, Nat.le_of_ble_eq_true rfl⟩ hP hK hD hN 0 0 rfl rfl rfl (Nat.le_of_ble_eq_true rfl) d_X_cumulative_2 (fun r hr9 => ?_)
  rcases zb_c hr9 with ⟨rfl, h2⟩ | ⟨rfl, h2⟩
  · skip
    refine lv_if_eq (tgt := 24) hx hb d_X_cumulative_5 (by decide) (fun h => absurd h (by decide)) (fun _ => ?_)
    refine lv_iload hx hb d_X_cumulative_8 (lv_at hl 4 rfl) ?_
    refine lv_if_lt (tgt := 24) hx hb d_X_cumulative_10 (by decide) (fun h10 => ?_) (fun h10 => ?_)
    · skip
      refine lv_iconst (v := 0) hx hb d_X_cumulative_24 (by decide) ?_
      refine lv_istore hx hb d_X_cumulative_25 hl (by decide) rfl (fun ls hl => ?_)
      have hl : lv_has ls 8 [(7, .int 0), (0, .ref (q 0)), (1, .int t1), (2, .long du), (4, .long ne), (6, .int cp)] := hl
      refine lv_iload hx hb d_X_cumulative_27 (lv_at hl 0 rfl) ?_
      refine lv_if_eq (tgt := 52) hx hb d_X_cumulative_29 (by decide) (fun _ => ?_) (fun h => absurd h (by decide))
      refine lv_iconst (v := (-1)) hx hb d_X_cumulative_52 (by decide) ?_
      refine W.widen (k := 1) (n := 4) (by decide) (by decide) ?_
      exact eWi (n, P, k, a, z, lo, hi, B, av, al, ah, an, pt, fd) hx hb hr hlocks hP hK hD hS (by first | exact Or.inl ⟨fun h => h2 h.1, rfl, rfl⟩ | exact Or.inl ⟨fun h => h.2.1 h10, rfl, rfl⟩ | exact Or.inl ⟨fun h => h.2.2 h17, rfl, rfl⟩) d_X_cumulative_53
    · skip
      refine lv_iload hx hb d_X_cumulative_13 (lv_at hl 4 rfl) ?_
      refine lv_bipush (v := 100) hx hb d_X_cumulative_15 (by decide) ?_
      refine lv_icmp_gt (tgt := 24) hx hb d_X_cumulative_17 (by decide) (fun h17 => ?_) (fun h17 => ?_)
      · skip
        refine lv_iconst (v := 0) hx hb d_X_cumulative_24 (by decide) ?_
        refine lv_istore hx hb d_X_cumulative_25 hl (by decide) rfl (fun ls hl => ?_)
        have hl : lv_has ls 8 [(7, .int 0), (0, .ref (q 0)), (1, .int t1), (2, .long du), (4, .long ne), (6, .int cp)] := hl
        refine lv_iload hx hb d_X_cumulative_27 (lv_at hl 0 rfl) ?_
        refine lv_if_eq (tgt := 52) hx hb d_X_cumulative_29 (by decide) (fun _ => ?_) (fun h => absurd h (by decide))
        refine lv_iconst (v := (-1)) hx hb d_X_cumulative_52 (by decide) ?_
        refine W.widen (k := 1) (n := 4) (by decide) (by decide) ?_
        exact eWi (n, P, k, a, z, lo, hi, B, av, al, ah, an, pt, fd) hx hb hr hlocks hP hK hD hS (by first | exact Or.inl ⟨fun h => h2 h.1, rfl, rfl⟩ | exact Or.inl ⟨fun h => h.2.1 h10, rfl, rfl⟩ | exact Or.inl ⟨fun h => h.2.2 h17, rfl, rfl⟩) d_X_cumulative_53
      · skip
        refine lv_iconst (v := 1) hx hb d_X_cumulative_20 (by decide) ?_
        refine lv_goto (tgt := 25) hx hb d_X_cumulative_21 (by decide) ?_
        refine lv_istore hx hb d_X_cumulative_25 hl (by decide) rfl (fun ls hl => ?_)
        have hl : lv_has ls 8 [(7, .int 1), (0, .ref (q 0)), (1, .int t1), (2, .long du), (4, .long ne), (6, .int cp)] := hl
        refine lv_iload hx hb d_X_cumulative_27 (lv_at hl 0 rfl) ?_
        refine lv_if_eq (tgt := 52) hx hb d_X_cumulative_29 (by decide) (fun h => absurd h (by decide)) (fun _ => ?_)
        refine lv_aload_n hx hb d_X_cumulative_32 rfl (lv_at hl 1 rfl) ?_
        refine va_new (ci := 7) (fs := [.int 0, .long 0, .long 0, .int 0]) (C := R_U) (T := T_U) (N := 4) hx hb hA inA_U ty_U tok_U hown (hA _ wd_300) (hA _ wd_166) (hA _ wd_7) hK hP hD hS hAA rfl (by decide) (by decide) (by decide) d_X_cumulative_33 (fun o1 H hP hD hS => ?_)
        refine W.widen (k := 1) (n := 4) (by decide) (by decide) ?_
        have hP : va_P D vwCl (xw D q n P k a z lo hi B av al ah an pt fd ++ [(o1, .inr (7, [.int 0, .long 0, .long 0, .int 0]))]) H := hP
        have hD : va_D A (xw D q n P k a z lo hi B av al ah an pt fd ++ [(o1, .inr (7, [.int 0, .long 0, .long 0, .int 0]))]) := hD
        refine lv_dup hx hb d_X_cumulative_36 rfl ?_
        refine lv_iload_n hx hb d_X_cumulative_37 rfl (lv_at hl 2 rfl) ?_
        refine lv_lload_n hx hb d_X_cumulative_38 rfl (lv_at hl 3 rfl) ?_
        refine lv_lload hx hb d_X_cumulative_39 (lv_at hl 4 rfl) ?_
        refine lv_iload hx hb d_X_cumulative_41 (lv_at hl 5 rfl) ?_
        refine wIN (n := 4) (wr := xw D q n P k a z lo hi B av al ah an pt fd) (Wf := idW) (rest := [.ref o1, .ref (q 0)]) hx hb hml hown hA (c_Cumulative_init l D o1 t1 du ne cp _) hN.1.2.2.2.2.2.2.2.2.1 wv_X_104 rfl ⟨by decide, by decide, by decide +kernel⟩ ⟨rfl, rfl, by decide, by decide⟩ rfl hl.1 ⟨Nat.le_of_ble_eq_true rfl, Nat.le_of_ble_eq_true rfl⟩ hP hK hD hS hAA hN [10] [0, 1, 2, 3, 4, 5, 6, 7, 8, 9] rfl rfl (by decide) (by decide) (by decide) rfl (Nat.le_of_ble_eq_true rfl) d_X_cumulative_43 (fun u H locs hu hP hD hS => ?_)
        subst hu
        refine W.widen (k := 1) (n := 4) (by decide) (by decide) ?_
        have hP : va_P D vwCl (xw D q n P k a z lo hi B av al ah an pt fd ++ [(o1, .inr (7, [.int t1, .long du, .long ne, .int cp]))]) H := hP
        have hD : va_D A (xw D q n P k a z lo hi B av al ah an pt fd ++ [(o1, .inr (7, [.int t1, .long du, .long ne, .int cp]))]) := hD
        refine wVi (n := 1) (wr := []) (Wf := xW D q) (rest := []) hx hb hml hown hA (c_add l D q n P k a z lo hi B av al ah an pt fd (fun x => (kCum t1 du ne cp x 8 0)) o1 7 [.int t1, .long du, .long ne, .int cp] R_U T_U 4 y_U_holdsAt b_U_holdsAt 3 _ _ hn hP4 hk (fun x => c_Cumulative l D o1 (q 8) t1 du ne cp x ) rfl (fun U hN => hN.2.2.2.2.2.2.1) wf_U ⟨rfl, rfl, by decide, by decide⟩) wv_X_71 ⟨by decide, by decide, by decide +kernel⟩ ⟨rfl, rfl, by decide, by decide⟩ rfl hl.1 ⟨Nat.le_of_ble_eq_true rfl, Nat.le_of_ble_eq_true rfl⟩ hP hK hD hS hAA hN [10, 0, 1, 2, 3, 4, 5, 6, 7, 8, 9] [] rfl rfl (by decide) (by decide) (by decide) 1 0 rfl rfl rfl (Nat.le_of_ble_eq_true rfl) d_X_cumulative_46 (fun r u H locs hu hP hD hS => ?_)
        refine W.widen (k := 1) (n := 4) (by decide) (by decide) ?_
        have hP : va_P D vwCl (xW D q u) H := hP
        have hD : va_D A (xW D q u) := hD
        refine lv_goto (tgt := 53) hx hb d_X_cumulative_49 (by decide) ?_
        exact eWi u hx hb hr hlocks hP hK hD hS (Or.inr ⟨⟨h2, h10, h17⟩, hu⟩) d_X_cumulative_53
  · skip
    refine lv_if_eq (tgt := 24) hx hb d_X_cumulative_5 (by decide) (fun _ => ?_) (fun h => absurd h (by decide))
    refine lv_iconst (v := 0) hx hb d_X_cumulative_24 (by decide) ?_
    refine lv_istore hx hb d_X_cumulative_25 hl (by decide) rfl (fun ls hl => ?_)
    have hl : lv_has ls 8 [(7, .int 0), (0, .ref (q 0)), (1, .int t1), (2, .long du), (4, .long ne), (6, .int cp)] := hl
    refine lv_iload hx hb d_X_cumulative_27 (lv_at hl 0 rfl) ?_
    refine lv_if_eq (tgt := 52) hx hb d_X_cumulative_29 (by decide) (fun _ => ?_) (fun h => absurd h (by decide))
    refine lv_iconst (v := (-1)) hx hb d_X_cumulative_52 (by decide) ?_
    refine W.widen (k := 1) (n := 4) (by decide) (by decide) ?_
    exact eWi (n, P, k, a, z, lo, hi, B, av, al, ah, an, pt, fd) hx hb hr hlocks hP hK hD hS (by first | exact Or.inl ⟨fun h => h2 h.1, rfl, rfl⟩ | exact Or.inl ⟨fun h => h.2.1 h10, rfl, rfl⟩ | exact Or.inl ⟨fun h => h.2.2 h17, rfl, rfl⟩) d_X_cumulative_53
end
