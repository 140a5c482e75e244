section
set_option maxRecDepth 100000 in
set_option maxHeartbeats 4000000 in
theorem c_variable (l : Launch) (D : va_G) (q : Nat → Nat) (n P k a : Nat) (z : Int32) (lo hi B av al ah an pt fd : Nat → Int32) (x y : Int32) (sz : Nat) (hn : n ≤ 8) (hP4 : P ≤ 4096) : Met l y_X_variable (wsm y_X_variable b_X_variable 4 (some .int)) { frames := 1, cells := 0, slots := 0, locals := 24 } (va_Pc [.ref (q 0), .int x, .int y] (fun U => U.heap.size = sz ∧ cPre D (xw D q n P k a z lo hi B av al ah an pt fd) U)) (va_Qi (fun (r : Int32) (u : XS) => (¬ vok x y ∧ r = -1 ∧ u = (n, P, k, a, z, lo, hi, B, av, al, ah, an, pt, fd)) ∨ (vok x y ∧ ∃ v, 1 ≤ v ∧ v ≤ 8 ∧ y - x + 1 = nI v ∧ ((¬ (n < 8 ∧ P * v ≤ 4096) ∧ r = -2 ∧ u = (n, P, k, a, z, lo, hi, B, av, al, ah, an, pt, fd)) ∨ (n < 8 ∧ P * v ≤ 4096 ∧ r = nI n ∧ ∃ Bn, spI v P 0 B Bn ∧ u = (n + 1, P * v, k, a, 0, upd lo n x, upd hi n y, Bn, av, al, ah, an, pt, fd))))) (fun u t => xB D (xW D q u) (va_A (xw D q n P k a z lo hi B av al ah an pt fd) sz) t) (va_A (xw D q n P k a z lo hi B av al ah an pt fd) sz)) 0 0 (va_A (xw D q n P k a z lo hi B av al ah an pt fd) sz) := by
  refine met_W (Qf := fun A => va_Qi (fun (r : Int32) (u : XS) => (¬ vok x y ∧ r = -1 ∧ u = (n, P, k, a, z, lo, hi, B, av, al, ah, an, pt, fd)) ∨ (vok x y ∧ ∃ v, 1 ≤ v ∧ v ≤ 8 ∧ y - x + 1 = nI v ∧ ((¬ (n < 8 ∧ P * v ≤ 4096) ∧ r = -2 ∧ u = (n, P, k, a, z, lo, hi, B, av, al, ah, an, pt, fd)) ∨ (n < 8 ∧ P * v ≤ 4096 ∧ r = nI n ∧ ∃ Bn, spI v P 0 B Bn ∧ u = (n + 1, P * v, k, a, 0, upd lo n x, upd hi n y, Bn, av, al, ah, an, pt, fd))))) (fun u t => xB D (xW D q u) A t) A) (by decide) (Nat.le_of_ble_eq_true rfl) ?_
  intro p e s m below meth c ls A hx hb hr hlocks hml hown hin hA hP hK hD hN hl hS hAA
  have hown : s.vm.findClass R_X = some m.cls := hown
  have hl : lv_has ls 4 [(0, .ref (q 0)), (1, .int x), (2, .int y)] := hl
  refine lv_iload_n hx hb d_X_variable_0 rfl (lv_at hl 1 rfl) ?_
  refine lv_bipush (v := (-20)) hx hb d_X_variable_1 (by decide) ?_
  refine lv_icmp_lt (tgt := 25) hx hb d_X_variable_3 (by decide) (fun h3 => ?_) (fun h3 => ?_)
  · skip
    refine lv_iconst (v := (-1)) hx hb d_X_variable_25 (by decide) ?_
    exact eWi (n, P, k, a, z, lo, hi, B, av, al, ah, an, pt, fd) hx hb hr hlocks hP hK hD hS (by first | exact Or.inl ⟨fun h => h.1 h3, rfl, rfl⟩ | exact Or.inl ⟨fun h => h.2.1 h8, rfl, rfl⟩ | exact Or.inl ⟨fun h => h.2.2.1 h14, rfl, rfl⟩ | exact Or.inl ⟨fun h => h22 h.2.2.2, rfl, rfl⟩) d_X_variable_26
  · skip
    refine lv_iload_n hx hb d_X_variable_6 rfl (lv_at hl 1 rfl) ?_
    refine lv_iload_n hx hb d_X_variable_7 rfl (lv_at hl 2 rfl) ?_
    refine lv_icmp_gt (tgt := 25) hx hb d_X_variable_8 (by decide) (fun h8 => ?_) (fun h8 => ?_)
    · skip
      refine lv_iconst (v := (-1)) hx hb d_X_variable_25 (by decide) ?_
      exact eWi (n, P, k, a, z, lo, hi, B, av, al, ah, an, pt, fd) hx hb hr hlocks hP hK hD hS (by first | exact Or.inl ⟨fun h => h.1 h3, rfl, rfl⟩ | exact Or.inl ⟨fun h => h.2.1 h8, rfl, rfl⟩ | exact Or.inl ⟨fun h => h.2.2.1 h14, rfl, rfl⟩ | exact Or.inl ⟨fun h => h22 h.2.2.2, rfl, rfl⟩) d_X_variable_26
    · skip
      refine lv_iload_n hx hb d_X_variable_11 rfl (lv_at hl 2 rfl) ?_
      refine lv_bipush (v := 20) hx hb d_X_variable_12 (by decide) ?_
      refine lv_icmp_gt (tgt := 25) hx hb d_X_variable_14 (by decide) (fun h14 => ?_) (fun h14 => ?_)
      · skip
        refine lv_iconst (v := (-1)) hx hb d_X_variable_25 (by decide) ?_
        exact eWi (n, P, k, a, z, lo, hi, B, av, al, ah, an, pt, fd) hx hb hr hlocks hP hK hD hS (by first | exact Or.inl ⟨fun h => h.1 h3, rfl, rfl⟩ | exact Or.inl ⟨fun h => h.2.1 h8, rfl, rfl⟩ | exact Or.inl ⟨fun h => h.2.2.1 h14, rfl, rfl⟩ | exact Or.inl ⟨fun h => h22 h.2.2.2, rfl, rfl⟩) d_X_variable_26
      · skip
        refine lv_iload_n hx hb d_X_variable_17 rfl (lv_at hl 2 rfl) ?_
        refine lv_iload_n hx hb d_X_variable_18 rfl (lv_at hl 1 rfl) ?_
        refine lv_isub hx hb d_X_variable_19 ?_
        refine lv_bipush (v := 8) hx hb d_X_variable_20 (by decide) ?_
        refine lv_icmp_lt (tgt := 27) hx hb d_X_variable_22 (by decide) (fun h22 => ?_) (fun h22 => ?_)
        · skip
          refine lv_iload_n hx hb d_X_variable_27 rfl (lv_at hl 2 rfl) ?_
          refine lv_iload_n hx hb d_X_variable_28 rfl (lv_at hl 1 rfl) ?_
          refine lv_isub hx hb d_X_variable_29 ?_
          refine lv_iconst (v := 1) hx hb d_X_variable_30 (by decide) ?_
          refine lv_iadd hx hb d_X_variable_31 ?_
          obtain ⟨v, hv1, hv8, hve⟩ := vsz ⟨h3, h8, h14, h22⟩
          refine topi_to (v := nI v) hve ?_
          refine lv_istore_n hx hb d_X_variable_32 rfl hl (by decide) rfl (fun ls hl => ?_)
          have hl : lv_has ls 4 [(3, .int (nI v)), (0, .ref (q 0)), (1, .int x), (2, .int y)] := hl
          refine lv_aload_n hx hb d_X_variable_33 rfl (lv_at hl 1 rfl) ?_
          refine va_get (D := D) (ci := 0) (v := .int (nI n)) (C := R_X) (T := T_X) (N := 14) hx hb hA inA_X hown hK hP 0 rfl rfl 2 (by decide) (hA _ wd_27) (fun _ h9 => h9) rfl d_X_variable_34 ?_
          refine lv_bipush (v := 8) hx hb d_X_variable_37 (by decide) ?_
          refine lv_icmp_ge (tgt := 54) hx hb d_X_variable_39 (by decide) (fun h39 => ?_) (fun h39 => ?_)
          · skip
            refine lv_bipush (v := (-2)) hx hb d_X_variable_54 (by decide) ?_
            exact eWi (n, P, k, a, z, lo, hi, B, av, al, ah, an, pt, fd) hx hb hr hlocks hP hK hD hS (Or.inr ⟨⟨h3, h8, h14, h22⟩, v, hv1, hv8, hve, Or.inl ⟨by first | exact fun h => absurd (nI_lt h.1 (by decide)) (Int32.not_lt.mpr h39) | exact fun h => h51 (nI_le h.2 (by decide)), rfl, rfl⟩⟩) d_X_variable_56
          · skip
            refine lv_aload_n hx hb d_X_variable_42 rfl (lv_at hl 1 rfl) ?_
            refine va_get (D := D) (ci := 0) (v := .int (nI P)) (C := R_X) (T := T_X) (N := 14) hx hb hA inA_X hown hK hP 0 rfl rfl 4 (by decide) (hA _ wd_29) (fun _ h9 => h9) rfl d_X_variable_43 ?_
            refine lv_iload_n hx hb d_X_variable_46 rfl (lv_at hl 0 rfl) ?_
            refine lv_imul hx hb d_X_variable_47 ?_
            refine topi_to (v := nI (P * v)) (by rw [pk_mul]) ?_
            refine lv_sipush (v := 4096) hx hb d_X_variable_48 (by decide) ?_
            refine lv_icmp_le (tgt := 57) hx hb d_X_variable_51 (by decide) (fun h51 => ?_) (fun h51 => ?_)
            · skip
              have hn8 : n < 8 := lt8 (Int32.not_le.mp h39) hn
              have hPv : P * v ≤ 4096 := le4096 h51 hP4 hv8
              refine lv_aload_n hx hb d_X_variable_57 rfl (lv_at hl 1 rfl) ?_
              refine lv_iload_n hx hb d_X_variable_58 rfl (lv_at hl 0 rfl) ?_
              refine wVv (n := 1) (wr := []) (Wf := xW D q) (rest := []) hx hb hml hown hA (c_splitPoints l D q n P k a z lo hi B av al ah an pt fd v _ hv1 hv8 hPv hP4) wv_X_50 ⟨by decide, by decide, by decide +kernel⟩ ⟨rfl, rfl, by decide, by decide⟩ rfl hl.1 ⟨Nat.le_of_ble_eq_true rfl, Nat.le_of_ble_eq_true rfl⟩ hP hK hD hS hAA hN [0, 1, 2, 3, 4, 5, 6, 7, 8, 9] [] rfl rfl (by decide) (by decide) (by decide) 0 0 rfl rfl rfl (Nat.le_of_ble_eq_true rfl) d_X_variable_59 (fun u H locs hu hP hD hS => ?_)
              obtain ⟨Bn, hI, rfl⟩ := hu
              have hP : va_P D vwCl (xw D q n (P * v) k a z lo hi Bn av al ah an pt fd) H := hP
              have hD : va_D A (xw D q n (P * v) k a z lo hi Bn av al ah an pt fd) := hD
              refine lv_aload_n hx hb d_X_variable_62 rfl (lv_at hl 1 rfl) ?_
              refine va_get (D := D) (ci := 0) (v := .ref (q 1)) (C := R_X) (T := T_X) (N := 14) hx hb hA inA_X hown hK hP 0 rfl rfl 0 (by decide) (hA _ wd_25) (fun _ h9 => h9) rfl d_X_variable_63 ?_
              refine lv_aload_n hx hb d_X_variable_66 rfl (lv_at hl 1 rfl) ?_
              refine va_get (D := D) (ci := 0) (v := .int (nI n)) (C := R_X) (T := T_X) (N := 14) hx hb hA inA_X hown hK hP 0 rfl rfl 2 (by decide) (hA _ wd_27) (fun _ h9 => h9) rfl d_X_variable_67 ?_
              refine lv_iload_n hx hb d_X_variable_70 rfl (lv_at hl 2 rfl) ?_
              refine xi_ast hx hb hK hP hD hS 1 rfl (hn8) (by decide) d_X_variable_71 (fun H locs hP hD hS => ?_)
              have hP : va_P D vwCl (xw D q n (P * v) k a z (upd lo n x) hi Bn av al ah an pt fd) H := hP
              have hD : va_D A (xw D q n (P * v) k a z (upd lo n x) hi Bn av al ah an pt fd) := hD
              refine lv_aload_n hx hb d_X_variable_72 rfl (lv_at hl 1 rfl) ?_
              refine va_get (D := D) (ci := 0) (v := .ref (q 2)) (C := R_X) (T := T_X) (N := 14) hx hb hA inA_X hown hK hP 0 rfl rfl 1 (by decide) (hA _ wd_26) (fun _ h9 => h9) rfl d_X_variable_73 ?_
              refine lv_aload_n hx hb d_X_variable_76 rfl (lv_at hl 1 rfl) ?_
              refine va_get (D := D) (ci := 0) (v := .int (nI n)) (C := R_X) (T := T_X) (N := 14) hx hb hA inA_X hown hK hP 0 rfl rfl 2 (by decide) (hA _ wd_27) (fun _ h9 => h9) rfl d_X_variable_77 ?_
              refine lv_iload_n hx hb d_X_variable_80 rfl (lv_at hl 3 rfl) ?_
              refine xi_ast hx hb hK hP hD hS 2 rfl (hn8) (by decide) d_X_variable_81 (fun H locs hP hD hS => ?_)
              have hP : va_P D vwCl (xw D q n (P * v) k a z (upd lo n x) (upd hi n y) Bn av al ah an pt fd) H := hP
              have hD : va_D A (xw D q n (P * v) k a z (upd lo n x) (upd hi n y) Bn av al ah an pt fd) := hD
              refine lv_aload_n hx hb d_X_variable_82 rfl (lv_at hl 1 rfl) ?_
              refine lv_iconst (v := 0) hx hb d_X_variable_83 (by decide) ?_
              refine va_put (D := D) (ci := 0) (v := .int 0) (ty := .boolean) (C := R_X) (T := T_X) (N := 14) hx hb hA inA_X ty_X tok_X nm_X hown hK hP hD hS 0 rfl rfl 11 (by decide) (hA _ wd_36) (fun _ h9 => h9) rfl (by decide +kernel) (by first | rfl | decide) (by first | rfl | decide) (Nat.le_of_ble_eq_true rfl) d_X_variable_84 (fun H locs hP hD hS => ?_)
              have hP : va_P D vwCl (xw D q n (P * v) k a 0 (upd lo n x) (upd hi n y) Bn av al ah an pt fd) H := hP
              have hD : va_D A (xw D q n (P * v) k a 0 (upd lo n x) (upd hi n y) Bn av al ah an pt fd) := hD
              refine lv_aload_n hx hb d_X_variable_87 rfl (lv_at hl 1 rfl) ?_
              refine lv_dup hx hb d_X_variable_88 rfl ?_
              refine va_get (D := D) (ci := 0) (v := .int (nI n)) (C := R_X) (T := T_X) (N := 14) hx hb hA inA_X hown hK hP 0 rfl rfl 2 (by decide) (hA _ wd_27) (fun _ h9 => h9) rfl d_X_variable_89 ?_
              refine lv_dup_x1 hx hb d_X_variable_92 rfl rfl ?_
              refine lv_iconst (v := 1) hx hb d_X_variable_93 (by decide) ?_
              refine lv_iadd hx hb d_X_variable_94 ?_
              refine topi_to (v := nI (n + 1)) ((nI_succ n).symm) ?_
              refine va_put (D := D) (ci := 0) (v := .int (nI (n + 1))) (ty := .int) (C := R_X) (T := T_X) (N := 14) hx hb hA inA_X ty_X tok_X nm_X hown hK hP hD hS 0 rfl rfl 2 (by decide) (hA _ wd_27) (fun _ h9 => h9) rfl (by decide +kernel) (by first | rfl | decide) (by first | rfl | decide) (Nat.le_of_ble_eq_true rfl) d_X_variable_95 (fun H locs hP hD hS => ?_)
              have hP : va_P D vwCl (xw D q (n + 1) (P * v) k a 0 (upd lo n x) (upd hi n y) Bn av al ah an pt fd) H := hP
              have hD : va_D A (xw D q (n + 1) (P * v) k a 0 (upd lo n x) (upd hi n y) Bn av al ah an pt fd) := hD
              exact eWi ((n + 1), (P * v), k, a, 0, upd lo n x, upd hi n y, Bn, av, al, ah, an, pt, fd) hx hb hr hlocks hP hK hD hS (Or.inr ⟨⟨h3, h8, h14, h22⟩, v, hv1, hv8, hve, Or.inr ⟨hn8, hPv, rfl, Bn, hI, rfl⟩⟩) d_X_variable_98
            · skip
              refine lv_bipush (v := (-2)) hx hb d_X_variable_54 (by decide) ?_
              exact eWi (n, P, k, a, z, lo, hi, B, av, al, ah, an, pt, fd) hx hb hr hlocks hP hK hD hS (Or.inr ⟨⟨h3, h8, h14, h22⟩, v, hv1, hv8, hve, Or.inl ⟨by first | exact fun h => absurd (nI_lt h.1 (by decide)) (Int32.not_lt.mpr h39) | exact fun h => h51 (nI_le h.2 (by decide)), rfl, rfl⟩⟩) d_X_variable_56
        · skip
          refine lv_iconst (v := (-1)) hx hb d_X_variable_25 (by decide) ?_
          exact eWi (n, P, k, a, z, lo, hi, B, av, al, ah, an, pt, fd) hx hb hr hlocks hP hK hD hS (by first | exact Or.inl ⟨fun h => h.1 h3, rfl, rfl⟩ | exact Or.inl ⟨fun h => h.2.1 h8, rfl, rfl⟩ | exact Or.inl ⟨fun h => h.2.2.1 h14, rfl, rfl⟩ | exact Or.inl ⟨fun h => h22 h.2.2.2, rfl, rfl⟩) d_X_variable_26
end
