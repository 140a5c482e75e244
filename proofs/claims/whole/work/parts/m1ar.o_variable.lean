section
theorem d_O_variable_0 : decode b_O_variable 0 = .ok (.iload_n 1, 1) := by decide +kernel
theorem d_O_variable_1 : decode b_O_variable 1 = .ok (.bipush (-20), 2) := by decide +kernel
theorem d_O_variable_3 : decode b_O_variable 3 = .ok (.if_icmp .lt 22, 3) := by decide +kernel
theorem d_O_variable_6 : decode b_O_variable 6 = .ok (.iload_n 2, 1) := by decide +kernel
theorem d_O_variable_7 : decode b_O_variable 7 = .ok (.bipush 20, 2) := by decide +kernel
theorem d_O_variable_9 : decode b_O_variable 9 = .ok (.if_icmp .gt 16, 3) := by decide +kernel
theorem d_O_variable_12 : decode b_O_variable 12 = .ok (.iload_n 1, 1) := by decide +kernel
theorem d_O_variable_13 : decode b_O_variable 13 = .ok (.iload_n 2, 1) := by decide +kernel
theorem d_O_variable_14 : decode b_O_variable 14 = .ok (.if_icmp .gt 11, 3) := by decide +kernel
theorem d_O_variable_17 : decode b_O_variable 17 = .ok (.iload_n 2, 1) := by decide +kernel
theorem d_O_variable_18 : decode b_O_variable 18 = .ok (.iload_n 1, 1) := by decide +kernel
theorem d_O_variable_19 : decode b_O_variable 19 = .ok (.isub, 1) := by decide +kernel
theorem d_O_variable_20 : decode b_O_variable 20 = .ok (.bipush 7, 2) := by decide +kernel
theorem d_O_variable_22 : decode b_O_variable 22 = .ok (.if_icmp .le 5, 3) := by decide +kernel
theorem d_O_variable_25 : decode b_O_variable 25 = .ok (.iconst (-1), 1) := by decide +kernel
theorem d_O_variable_26 : decode b_O_variable 26 = .ok (.ireturn, 1) := by decide +kernel
theorem d_O_variable_27 : decode b_O_variable 27 = .ok (.iload_n 2, 1) := by decide +kernel
theorem d_O_variable_28 : decode b_O_variable 28 = .ok (.iload_n 1, 1) := by decide +kernel
theorem d_O_variable_29 : decode b_O_variable 29 = .ok (.isub, 1) := by decide +kernel
theorem d_O_variable_30 : decode b_O_variable 30 = .ok (.iconst 1, 1) := by decide +kernel
theorem d_O_variable_31 : decode b_O_variable 31 = .ok (.iadd, 1) := by decide +kernel
theorem d_O_variable_32 : decode b_O_variable 32 = .ok (.istore_n 3, 1) := by decide +kernel
theorem d_O_variable_33 : decode b_O_variable 33 = .ok (.aload_n 0, 1) := by decide +kernel
theorem d_O_variable_34 : decode b_O_variable 34 = .ok (.getfield 56, 3) := by decide +kernel
theorem d_O_variable_37 : decode b_O_variable 37 = .ok (.bipush 8, 2) := by decide +kernel
theorem d_O_variable_39 : decode b_O_variable 39 = .ok (.if_icmp .eq 15, 3) := by decide +kernel
theorem d_O_variable_42 : decode b_O_variable 42 = .ok (.aload_n 0, 1) := by decide +kernel
theorem d_O_variable_43 : decode b_O_variable 43 = .ok (.getfield 19, 3) := by decide +kernel
theorem d_O_variable_46 : decode b_O_variable 46 = .ok (.iload_n 3, 1) := by decide +kernel
theorem d_O_variable_47 : decode b_O_variable 47 = .ok (.imul, 1) := by decide +kernel
theorem d_O_variable_48 : decode b_O_variable 48 = .ok (.sipush 4096, 3) := by decide +kernel
theorem d_O_variable_51 : decode b_O_variable 51 = .ok (.if_icmp .le 6, 3) := by decide +kernel
theorem d_O_variable_54 : decode b_O_variable 54 = .ok (.bipush (-2), 2) := by decide +kernel
theorem d_O_variable_56 : decode b_O_variable 56 = .ok (.ireturn, 1) := by decide +kernel
theorem d_O_variable_57 : decode b_O_variable 57 = .ok (.iconst 0, 1) := by decide +kernel
theorem d_O_variable_58 : decode b_O_variable 58 = .ok (.istore 4, 2) := by decide +kernel
theorem d_O_variable_60 : decode b_O_variable 60 = .ok (.iload 4, 2) := by decide +kernel
theorem d_O_variable_62 : decode b_O_variable 62 = .ok (.aload_n 0, 1) := by decide +kernel
theorem d_O_variable_63 : decode b_O_variable 63 = .ok (.getfield 56, 3) := by decide +kernel
theorem d_O_variable_66 : decode b_O_variable 66 = .ok (.if_icmp .ge 25, 3) := by decide +kernel
theorem d_O_variable_69 : decode b_O_variable 69 = .ok (.aload_n 0, 1) := by decide +kernel
theorem d_O_variable_70 : decode b_O_variable 70 = .ok (.getfield 16, 3) := by decide +kernel
theorem d_O_variable_73 : decode b_O_variable 73 = .ok (.iload 4, 2) := by decide +kernel
theorem d_O_variable_75 : decode b_O_variable 75 = .ok (.aload_n 0, 1) := by decide +kernel
theorem d_O_variable_76 : decode b_O_variable 76 = .ok (.getfield 16, 3) := by decide +kernel
theorem d_O_variable_79 : decode b_O_variable 79 = .ok (.iload 4, 2) := by decide +kernel
theorem d_O_variable_81 : decode b_O_variable 81 = .ok (.iaload, 1) := by decide +kernel
theorem d_O_variable_82 : decode b_O_variable 82 = .ok (.iload_n 3, 1) := by decide +kernel
theorem d_O_variable_83 : decode b_O_variable 83 = .ok (.imul, 1) := by decide +kernel
theorem d_O_variable_84 : decode b_O_variable 84 = .ok (.iastore, 1) := by decide +kernel
theorem d_O_variable_85 : decode b_O_variable 85 = .ok (.iinc 4 1, 3) := by decide +kernel
theorem d_O_variable_88 : decode b_O_variable 88 = .ok (.goto (-28), 3) := by decide +kernel
theorem d_O_variable_91 : decode b_O_variable 91 = .ok (.aload_n 0, 1) := by decide +kernel
theorem d_O_variable_92 : decode b_O_variable 92 = .ok (.getfield 7, 3) := by decide +kernel
theorem d_O_variable_95 : decode b_O_variable 95 = .ok (.aload_n 0, 1) := by decide +kernel
theorem d_O_variable_96 : decode b_O_variable 96 = .ok (.getfield 56, 3) := by decide +kernel
theorem d_O_variable_99 : decode b_O_variable 99 = .ok (.iload_n 1, 1) := by decide +kernel
theorem d_O_variable_100 : decode b_O_variable 100 = .ok (.iastore, 1) := by decide +kernel
theorem d_O_variable_101 : decode b_O_variable 101 = .ok (.aload_n 0, 1) := by decide +kernel
theorem d_O_variable_102 : decode b_O_variable 102 = .ok (.getfield 13, 3) := by decide +kernel
theorem d_O_variable_105 : decode b_O_variable 105 = .ok (.aload_n 0, 1) := by decide +kernel
theorem d_O_variable_106 : decode b_O_variable 106 = .ok (.getfield 56, 3) := by decide +kernel
theorem d_O_variable_109 : decode b_O_variable 109 = .ok (.iload_n 3, 1) := by decide +kernel
theorem d_O_variable_110 : decode b_O_variable 110 = .ok (.iastore, 1) := by decide +kernel
theorem d_O_variable_111 : decode b_O_variable 111 = .ok (.aload_n 0, 1) := by decide +kernel
theorem d_O_variable_112 : decode b_O_variable 112 = .ok (.getfield 16, 3) := by decide +kernel
theorem d_O_variable_115 : decode b_O_variable 115 = .ok (.aload_n 0, 1) := by decide +kernel
theorem d_O_variable_116 : decode b_O_variable 116 = .ok (.getfield 56, 3) := by decide +kernel
theorem d_O_variable_119 : decode b_O_variable 119 = .ok (.iconst 1, 1) := by decide +kernel
theorem d_O_variable_120 : decode b_O_variable 120 = .ok (.iastore, 1) := by decide +kernel
theorem d_O_variable_121 : decode b_O_variable 121 = .ok (.aload_n 0, 1) := by decide +kernel
theorem d_O_variable_122 : decode b_O_variable 122 = .ok (.aload_n 0, 1) := by decide +kernel
theorem d_O_variable_123 : decode b_O_variable 123 = .ok (.getfield 19, 3) := by decide +kernel
theorem d_O_variable_126 : decode b_O_variable 126 = .ok (.iload_n 3, 1) := by decide +kernel
theorem d_O_variable_127 : decode b_O_variable 127 = .ok (.imul, 1) := by decide +kernel
theorem d_O_variable_128 : decode b_O_variable 128 = .ok (.putfield 19, 3) := by decide +kernel
theorem d_O_variable_131 : decode b_O_variable 131 = .ok (.aload_n 0, 1) := by decide +kernel
theorem d_O_variable_132 : decode b_O_variable 132 = .ok (.dup, 1) := by decide +kernel
theorem d_O_variable_133 : decode b_O_variable 133 = .ok (.getfield 56, 3) := by decide +kernel
theorem d_O_variable_136 : decode b_O_variable 136 = .ok (.iconst 1, 1) := by decide +kernel
theorem d_O_variable_137 : decode b_O_variable 137 = .ok (.iadd, 1) := by decide +kernel
theorem d_O_variable_138 : decode b_O_variable 138 = .ok (.putfield 56, 3) := by decide +kernel
theorem d_O_variable_141 : decode b_O_variable 141 = .ok (.aload_n 0, 1) := by decide +kernel
theorem d_O_variable_142 : decode b_O_variable 142 = .ok (.invokevirtual 63, 3) := by decide +kernel
theorem d_O_variable_145 : decode b_O_variable 145 = .ok (.aload_n 0, 1) := by decide +kernel
theorem d_O_variable_146 : decode b_O_variable 146 = .ok (.getfield 56, 3) := by decide +kernel
theorem d_O_variable_149 : decode b_O_variable 149 = .ok (.iconst 1, 1) := by decide +kernel
theorem d_O_variable_150 : decode b_O_variable 150 = .ok (.isub, 1) := by decide +kernel
theorem d_O_variable_151 : decode b_O_variable 151 = .ok (.ireturn, 1) := by decide +kernel
set_option maxRecDepth 100000 in
set_option maxHeartbeats 4000000 in
theorem o_variable (l : Launch) (D : va_G) (q : Nat → Nat) (n P rw a : Nat) (kn an : Int32) (lw s1 sd kd pa : Nat → Int32) (wd : Nat → Int64) (ao fo uo ho xo : Nat → Int32) (x y : Int32) (sz : Nat) (hn : n ≤ 8) (hP4 : P ≤ 4096) : Met l y_O_variable (wsm y_O_variable b_O_variable 5 (some .int)) { frames := 1, cells := 0, slots := 0, locals := 20 } (va_Pc [.ref (q 0), .int x, .int y] (fun U => U.heap.size = sz ∧ cPre D (ow D q n P rw a kn an lw s1 sd kd pa wd ao fo uo ho xo) U)) (va_Qi (fun (r : Int32) (u : OS) => (¬ vok x y ∧ r = -1 ∧ u = (n, P, rw, a, kn, an, lw, s1, sd, kd, pa, wd, ao, fo, uo, ho, xo)) ∨ (vok x y ∧ ∃ v, 1 ≤ v ∧ v ≤ 8 ∧ y - x + 1 = nI v ∧ ((¬ (n < 8 ∧ P * v ≤ 4096) ∧ r = -2 ∧ u = (n, P, rw, a, kn, an, lw, s1, sd, kd, pa, wd, ao, fo, uo, ho, xo)) ∨ (n < 8 ∧ P * v ≤ 4096 ∧ r = nI n ∧ ∃ g : Nat → Int32, (∀ i : Nat, i < n → g i = sd i * nI v) ∧ u = (n + 1, P * v, rw, a, 0, -1, upd lw n x, upd s1 n (nI v), upd g n 1, kd, pa, wd, ao, fo, uo, ho, xo))))) (fun u t => xB D (oW D q u) (va_A (ow D q n P rw a kn an lw s1 sd kd pa wd ao fo uo ho xo) sz) t) (va_A (ow D q n P rw a kn an lw s1 sd kd pa wd ao fo uo ho xo) sz)) 0 0 (va_A (ow D q n P rw a kn an lw s1 sd kd pa wd ao fo uo ho xo) sz) := by
  refine met_W (Qf := fun A => va_Qi (fun (r : Int32) (u : OS) => (¬ vok x y ∧ r = -1 ∧ u = (n, P, rw, a, kn, an, lw, s1, sd, kd, pa, wd, ao, fo, uo, ho, xo)) ∨ (vok x y ∧ ∃ v, 1 ≤ v ∧ v ≤ 8 ∧ y - x + 1 = nI v ∧ ((¬ (n < 8 ∧ P * v ≤ 4096) ∧ r = -2 ∧ u = (n, P, rw, a, kn, an, lw, s1, sd, kd, pa, wd, ao, fo, uo, ho, xo)) ∨ (n < 8 ∧ P * v ≤ 4096 ∧ r = nI n ∧ ∃ g : Nat → Int32, (∀ i : Nat, i < n → g i = sd i * nI v) ∧ u = (n + 1, P * v, rw, a, 0, -1, upd lw n x, upd s1 n (nI v), upd g n 1, kd, pa, wd, ao, fo, uo, ho, xo))))) (fun u t => xB D (oW D q u) A t) A) (by decide) (Nat.le_of_ble_eq_true rfl) ?_
  intro p e s m below meth c ls A hx hb hr hlocks hml hown hin hA hP hK hD hN hl hS hAA
  have hown : s.vm.findClass R_O = some m.cls := hown
  have hl : lv_has ls 5 [(0, .ref (q 0)), (1, .int x), (2, .int y)] := hl
  refine lv_iload_n hx hb d_O_variable_0 rfl (lv_at hl 1 rfl) ?_
  refine lv_bipush (v := (-20)) hx hb d_O_variable_1 (by decide) ?_
  refine lv_icmp_lt (tgt := 25) hx hb d_O_variable_3 (by decide) (fun h3 => ?_) (fun h3 => ?_)
  · skip
    refine lv_iconst (v := (-1)) hx hb d_O_variable_25 (by decide) ?_
    exact eWi (n, P, rw, a, kn, an, lw, s1, sd, kd, pa, wd, ao, fo, uo, ho, xo) hx hb hr hlocks hP hK hD hS (Or.inl ⟨fun h => h.1 h3, rfl, rfl⟩) d_O_variable_26
  · skip
    refine lv_iload_n hx hb d_O_variable_6 rfl (lv_at hl 2 rfl) ?_
    refine lv_bipush (v := 20) hx hb d_O_variable_7 (by decide) ?_
    refine lv_icmp_gt (tgt := 25) hx hb d_O_variable_9 (by decide) (fun h9 => ?_) (fun h9 => ?_)
    · skip
      refine lv_iconst (v := (-1)) hx hb d_O_variable_25 (by decide) ?_
      exact eWi (n, P, rw, a, kn, an, lw, s1, sd, kd, pa, wd, ao, fo, uo, ho, xo) hx hb hr hlocks hP hK hD hS (Or.inl ⟨fun h => h.2.2.1 h9, rfl, rfl⟩) d_O_variable_26
    · skip
      refine lv_iload_n hx hb d_O_variable_12 rfl (lv_at hl 1 rfl) ?_
      refine lv_iload_n hx hb d_O_variable_13 rfl (lv_at hl 2 rfl) ?_
      refine lv_icmp_gt (tgt := 25) hx hb d_O_variable_14 (by decide) (fun h14 => ?_) (fun h14 => ?_)
      · skip
        refine lv_iconst (v := (-1)) hx hb d_O_variable_25 (by decide) ?_
        exact eWi (n, P, rw, a, kn, an, lw, s1, sd, kd, pa, wd, ao, fo, uo, ho, xo) hx hb hr hlocks hP hK hD hS (Or.inl ⟨fun h => h.2.1 h14, rfl, rfl⟩) d_O_variable_26
      · skip
        refine lv_iload_n hx hb d_O_variable_17 rfl (lv_at hl 2 rfl) ?_
        refine lv_iload_n hx hb d_O_variable_18 rfl (lv_at hl 1 rfl) ?_
        refine lv_isub hx hb d_O_variable_19 ?_
        refine lv_bipush (v := 7) hx hb d_O_variable_20 (by decide) ?_
        refine lv_icmp_le (tgt := 27) hx hb d_O_variable_22 (by decide) (fun h22 => ?_) (fun h22 => ?_)
        · skip
          refine lv_iload_n hx hb d_O_variable_27 rfl (lv_at hl 2 rfl) ?_
          refine lv_iload_n hx hb d_O_variable_28 rfl (lv_at hl 1 rfl) ?_
          refine lv_isub hx hb d_O_variable_29 ?_
          refine lv_iconst (v := 1) hx hb d_O_variable_30 (by decide) ?_
          refine lv_iadd hx hb d_O_variable_31 ?_
          obtain ⟨v, hv1, hv8, hve⟩ := vsz (x := x) (y := y) ⟨h3, h14, h9, lt8i h22⟩
          refine topi_to (v := nI v) hve ?_
          refine lv_istore_n hx hb d_O_variable_32 rfl hl (by decide) rfl (fun ls hl => ?_)
          have hl : lv_has ls 5 [(3, .int (nI v)), (0, .ref (q 0)), (1, .int x), (2, .int y)] := hl
          refine lv_aload_n hx hb d_O_variable_33 rfl (lv_at hl 1 rfl) ?_
          refine va_get (D := D) (ci := 1) (v := .int (nI n)) (C := R_O) (T := T_O) (N := 17) hx hb hA inA_O hown hK hP 0 rfl rfl 0 (by decide) (hA _ wd_422) (fun _ h9 => h9) rfl d_O_variable_34 ?_
          refine lv_bipush (v := 8) hx hb d_O_variable_37 (by decide) ?_
          refine lv_icmp_eq (tgt := 54) hx hb d_O_variable_39 (by decide) (fun h39 => ?_) (fun h39 => ?_)
          · skip
            refine lv_bipush (v := (-2)) hx hb d_O_variable_54 (by decide) ?_
            exact eWi (n, P, rw, a, kn, an, lw, s1, sd, kd, pa, wd, ao, fo, uo, ho, xo) hx hb hr hlocks hP hK hD hS (Or.inr ⟨⟨h3, h14, h9, lt8i h22⟩, v, hv1, hv8, hve, Or.inl ⟨fun h => absurd (nI_ne (b := 8) h39 (by omega) (by decide)) (by omega), rfl, rfl⟩⟩) d_O_variable_56
          · skip
            refine lv_aload_n hx hb d_O_variable_42 rfl (lv_at hl 1 rfl) ?_
            refine va_get (D := D) (ci := 1) (v := .int (nI P)) (C := R_O) (T := T_O) (N := 17) hx hb hA inA_O hown hK hP 0 rfl rfl 4 (by decide) (hA _ wd_426) (fun _ h9 => h9) rfl d_O_variable_43 ?_
            refine lv_iload_n hx hb d_O_variable_46 rfl (lv_at hl 0 rfl) ?_
            refine lv_imul hx hb d_O_variable_47 ?_
            refine topi_to (v := nI (P * v)) (by rw [pk_mul]) ?_
            refine lv_sipush (v := 4096) hx hb d_O_variable_48 (by decide) ?_
            refine lv_icmp_le (tgt := 57) hx hb d_O_variable_51 (by decide) (fun h51 => ?_) (fun h51 => ?_)
            · skip
              have hn8 : n < 8 := ne8 h39 hn
              have hPv : P * v ≤ 4096 := le4096 h51 hP4 hv8
              refine lv_iconst (v := 0) hx hb d_O_variable_57 (by decide) ?_
              refine lv_istore hx hb d_O_variable_58 hl (by decide) rfl (fun ls hl => ?_)
              have hl : lv_has ls 5 [(4, .int 0), (3, .int (nI v)), (0, .ref (q 0)), (1, .int x), (2, .int y)] := hl
              have loop : ∀ (t j : Nat) (g : Nat → Int32) (H : Heap) (locs : List Loc) (ls : Array Slot), j + t = n → sdI sd v j g → lv_has ls 5 [(4, .int (nI j)), (3, .int (nI v)), (0, .ref (q 0)), (1, .int x), (2, .int y)] → va_P D vwCl (ow D q n P rw a kn an lw s1 g kd pa wd ao fo uo ho xo) H → va_D A (ow D q n P rw a kn an lw s1 g kd pa wd ao fo uo ho xo) → va_S A s.heap H locs → W p l e { frames := 1, cells := 0, slots := 0, locals := 20 } s m [.ref (q 0), .int x, .int y].toArray below meth c H locs 0 0 (MQ below (va_Qi (fun (r : Int32) (u : OS) => (¬ vok x y ∧ r = -1 ∧ u = (n, P, rw, a, kn, an, lw, s1, sd, kd, pa, wd, ao, fo, uo, ho, xo)) ∨ (vok x y ∧ ∃ v, 1 ≤ v ∧ v ≤ 8 ∧ y - x + 1 = nI v ∧ ((¬ (n < 8 ∧ P * v ≤ 4096) ∧ r = -2 ∧ u = (n, P, rw, a, kn, an, lw, s1, sd, kd, pa, wd, ao, fo, uo, ho, xo)) ∨ (n < 8 ∧ P * v ≤ 4096 ∧ r = nI n ∧ ∃ g : Nat → Int32, (∀ i : Nat, i < n → g i = sd i * nI v) ∧ u = (n + 1, P * v, rw, a, 0, -1, upd lw n x, upd s1 n (nI v), upd g n 1, kd, pa, wd, ao, fo, uo, ho, xo))))) (fun u t => xB D (oW D q u) A t) A) [.ref (q 0), .int x, .int y].toArray s 0 0 A) (F0 m 60 ls []) := by
                intro t
                induction t with
                | zero =>
                  intro j g H locs ls hj hg hl hP hD hS
                  refine lv_iload hx hb d_O_variable_60 (lv_at hl 0 rfl) ?_
                  refine lv_aload_n hx hb d_O_variable_62 rfl (lv_at hl 2 rfl) ?_
                  refine va_get (D := D) (ci := 1) (v := .int (nI n)) (C := R_O) (T := T_O) (N := 17) hx hb hA inA_O hown hK hP 0 rfl rfl 0 (by decide) (hA _ wd_422) (fun _ h9 => h9) rfl d_O_variable_63 ?_
                  refine lv_icmp_ge (tgt := 91) hx hb d_O_variable_66 (by decide) (fun h66 => ?_) (fun h => absurd (nI_le (by omega) (by omega)) h)
                  refine lv_aload_n hx hb d_O_variable_91 rfl (lv_at hl 2 rfl) ?_
                  refine va_get (D := D) (ci := 1) (v := .ref (q 1)) (C := R_O) (T := T_O) (N := 17) hx hb hA inA_O hown hK hP 0 rfl rfl 1 (by decide) (hA _ wd_423) (fun _ h9 => h9) rfl d_O_variable_92 ?_
                  refine lv_aload_n hx hb d_O_variable_95 rfl (lv_at hl 2 rfl) ?_
                  refine va_get (D := D) (ci := 1) (v := .int (nI n)) (C := R_O) (T := T_O) (N := 17) hx hb hA inA_O hown hK hP 0 rfl rfl 0 (by decide) (hA _ wd_422) (fun _ h9 => h9) rfl d_O_variable_96 ?_
                  refine lv_iload_n hx hb d_O_variable_99 rfl (lv_at hl 3 rfl) ?_
                  refine xi_ast hx hb hK hP hD hS 1 rfl (hn8) (by decide) d_O_variable_100 (fun H locs hP hD hS => ?_)
                  have hP : va_P D vwCl (ow D q n P rw a kn an (upd lw n x) s1 g kd pa wd ao fo uo ho xo) H := hP
                  have hD : va_D A (ow D q n P rw a kn an (upd lw n x) s1 g kd pa wd ao fo uo ho xo) := hD
                  refine lv_aload_n hx hb d_O_variable_101 rfl (lv_at hl 2 rfl) ?_
                  refine va_get (D := D) (ci := 1) (v := .ref (q 2)) (C := R_O) (T := T_O) (N := 17) hx hb hA inA_O hown hK hP 0 rfl rfl 2 (by decide) (hA _ wd_424) (fun _ h9 => h9) rfl d_O_variable_102 ?_
                  refine lv_aload_n hx hb d_O_variable_105 rfl (lv_at hl 2 rfl) ?_
                  refine va_get (D := D) (ci := 1) (v := .int (nI n)) (C := R_O) (T := T_O) (N := 17) hx hb hA inA_O hown hK hP 0 rfl rfl 0 (by decide) (hA _ wd_422) (fun _ h9 => h9) rfl d_O_variable_106 ?_
                  refine lv_iload_n hx hb d_O_variable_109 rfl (lv_at hl 1 rfl) ?_
                  refine xi_ast hx hb hK hP hD hS 2 rfl (hn8) (by decide) d_O_variable_110 (fun H locs hP hD hS => ?_)
                  have hP : va_P D vwCl (ow D q n P rw a kn an (upd lw n x) (upd s1 n (nI v)) g kd pa wd ao fo uo ho xo) H := hP
                  have hD : va_D A (ow D q n P rw a kn an (upd lw n x) (upd s1 n (nI v)) g kd pa wd ao fo uo ho xo) := hD
                  refine lv_aload_n hx hb d_O_variable_111 rfl (lv_at hl 2 rfl) ?_
                  refine va_get (D := D) (ci := 1) (v := .ref (q 3)) (C := R_O) (T := T_O) (N := 17) hx hb hA inA_O hown hK hP 0 rfl rfl 3 (by decide) (hA _ wd_425) (fun _ h9 => h9) rfl d_O_variable_112 ?_
                  refine lv_aload_n hx hb d_O_variable_115 rfl (lv_at hl 2 rfl) ?_
                  refine va_get (D := D) (ci := 1) (v := .int (nI n)) (C := R_O) (T := T_O) (N := 17) hx hb hA inA_O hown hK hP 0 rfl rfl 0 (by decide) (hA _ wd_422) (fun _ h9 => h9) rfl d_O_variable_116 ?_
                  refine lv_iconst (v := 1) hx hb d_O_variable_119 (by decide) ?_
                  refine xi_ast hx hb hK hP hD hS 3 rfl (hn8) (by decide) d_O_variable_120 (fun H locs hP hD hS => ?_)
                  have hP : va_P D vwCl (ow D q n P rw a kn an (upd lw n x) (upd s1 n (nI v)) (upd g n 1) kd pa wd ao fo uo ho xo) H := hP
                  have hD : va_D A (ow D q n P rw a kn an (upd lw n x) (upd s1 n (nI v)) (upd g n 1) kd pa wd ao fo uo ho xo) := hD
                  refine lv_aload_n hx hb d_O_variable_121 rfl (lv_at hl 2 rfl) ?_
                  refine lv_aload_n hx hb d_O_variable_122 rfl (lv_at hl 2 rfl) ?_
                  refine va_get (D := D) (ci := 1) (v := .int (nI P)) (C := R_O) (T := T_O) (N := 17) hx hb hA inA_O hown hK hP 0 rfl rfl 4 (by decide) (hA _ wd_426) (fun _ h9 => h9) rfl d_O_variable_123 ?_
                  refine lv_iload_n hx hb d_O_variable_126 rfl (lv_at hl 1 rfl) ?_
                  refine lv_imul hx hb d_O_variable_127 ?_
                  refine topi_to (v := nI (P * v)) (by rw [pk_mul]) ?_
                  refine va_put (D := D) (ci := 1) (v := .int (nI (P * v))) (ty := .int) (C := R_O) (T := T_O) (N := 17) hx hb hA inA_O ty_O tok_O nm_O hown hK hP hD hS 0 rfl rfl 4 (by decide) (hA _ wd_426) (fun _ h9 => h9) rfl (by decide +kernel) (by first | rfl | decide) (by first | rfl | decide) (Nat.le_of_ble_eq_true rfl) d_O_variable_128 (fun H locs hP hD hS => ?_)
                  have hP : va_P D vwCl (ow D q n (P * v) rw a kn an (upd lw n x) (upd s1 n (nI v)) (upd g n 1) kd pa wd ao fo uo ho xo) H := hP
                  have hD : va_D A (ow D q n (P * v) rw a kn an (upd lw n x) (upd s1 n (nI v)) (upd g n 1) kd pa wd ao fo uo ho xo) := hD
                  refine lv_aload_n hx hb d_O_variable_131 rfl (lv_at hl 2 rfl) ?_
                  refine lv_dup hx hb d_O_variable_132 rfl ?_
                  refine va_get (D := D) (ci := 1) (v := .int (nI n)) (C := R_O) (T := T_O) (N := 17) hx hb hA inA_O hown hK hP 0 rfl rfl 0 (by decide) (hA _ wd_422) (fun _ h9 => h9) rfl d_O_variable_133 ?_
                  refine lv_iconst (v := 1) hx hb d_O_variable_136 (by decide) ?_
                  refine lv_iadd hx hb d_O_variable_137 ?_
                  refine topi_to (v := nI (n + 1)) ((nI_succ n).symm) ?_
                  refine va_put (D := D) (ci := 1) (v := .int (nI (n + 1))) (ty := .int) (C := R_O) (T := T_O) (N := 17) hx hb hA inA_O ty_O tok_O nm_O hown hK hP hD hS 0 rfl rfl 0 (by decide) (hA _ wd_422) (fun _ h9 => h9) rfl (by decide +kernel) (by first | rfl | decide) (by first | rfl | decide) (Nat.le_of_ble_eq_true rfl) d_O_variable_138 (fun H locs hP hD hS => ?_)
                  have hP : va_P D vwCl (ow D q (n + 1) (P * v) rw a kn an (upd lw n x) (upd s1 n (nI v)) (upd g n 1) kd pa wd ao fo uo ho xo) H := hP
                  have hD : va_D A (ow D q (n + 1) (P * v) rw a kn an (upd lw n x) (upd s1 n (nI v)) (upd g n 1) kd pa wd ao fo uo ho xo) := hD
                  refine lv_aload_n hx hb d_O_variable_141 rfl (lv_at hl 2 rfl) ?_
                  refine wVv (n := 0) (wr := []) (Wf := oW D q) (rest := []) hx hb hml hown hA (o_changed l D q (n + 1) (P * v) rw a kn an (upd lw n x) (upd s1 n (nI v)) (upd g n 1) kd pa wd ao fo uo ho xo _) wv_O_63 ⟨by decide, by decide, by decide +kernel⟩ ⟨rfl, rfl, by decide, by decide⟩ rfl hl.1 ⟨Nat.le_of_ble_eq_true rfl, Nat.le_of_ble_eq_true rfl⟩ hP hK hD hS hAA hN [0, 1, 2, 3, 4, 5, 6, 7, 8, 9, 10, 11] [] rfl rfl (by decide) (by decide) (by decide) 0 1 rfl rfl rfl (Nat.le_of_ble_eq_true rfl) d_O_variable_142 (fun u H locs hu hP hD hS => ?_)
                  subst hu
                  have hP : va_P D vwCl (ow D q (n + 1) (P * v) rw a 0 (-1) (upd lw n x) (upd s1 n (nI v)) (upd g n 1) kd pa wd ao fo uo ho xo) H := hP
                  have hD : va_D A (ow D q (n + 1) (P * v) rw a 0 (-1) (upd lw n x) (upd s1 n (nI v)) (upd g n 1) kd pa wd ao fo uo ho xo) := hD
                  refine lv_aload_n hx hb d_O_variable_145 rfl (lv_at hl 2 rfl) ?_
                  refine va_get (D := D) (ci := 1) (v := .int (nI (n + 1))) (C := R_O) (T := T_O) (N := 17) hx hb hA inA_O hown hK hP 0 rfl rfl 0 (by decide) (hA _ wd_422) (fun _ h9 => h9) rfl d_O_variable_146 ?_
                  refine lv_iconst (v := 1) hx hb d_O_variable_149 (by decide) ?_
                  refine lv_isub hx hb d_O_variable_150 ?_
                  refine topi_to (v := nI n) (nI_pred n) ?_
                  exact eWi ((n + 1), (P * v), rw, a, 0, -1, upd lw n x, upd s1 n (nI v), upd g n 1, kd, pa, wd, ao, fo, uo, ho, xo) hx hb hr hlocks hP hK hD hS (Or.inr ⟨⟨h3, h14, h9, lt8i h22⟩, v, hv1, hv8, hve, Or.inr ⟨hn8, hPv, rfl, g, fun i hi => by rw [hg i, if_pos (by omega)], rfl⟩⟩) d_O_variable_151
                | succ t ih =>
                  intro j g H locs ls hj hg hl hP hD hS
                  refine lv_iload hx hb d_O_variable_60 (lv_at hl 0 rfl) ?_
                  refine lv_aload_n hx hb d_O_variable_62 rfl (lv_at hl 2 rfl) ?_
                  refine va_get (D := D) (ci := 1) (v := .int (nI n)) (C := R_O) (T := T_O) (N := 17) hx hb hA inA_O hown hK hP 0 rfl rfl 0 (by decide) (hA _ wd_422) (fun _ h9 => h9) rfl d_O_variable_63 ?_
                  refine lv_icmp_ge (tgt := 91) hx hb d_O_variable_66 (by decide) (fun h => absurd h (nI_ge (by omega) (by omega))) (fun h66 => ?_)
                  refine lv_aload_n hx hb d_O_variable_69 rfl (lv_at hl 2 rfl) ?_
                  refine va_get (D := D) (ci := 1) (v := .ref (q 3)) (C := R_O) (T := T_O) (N := 17) hx hb hA inA_O hown hK hP 0 rfl rfl 3 (by decide) (hA _ wd_425) (fun _ h9 => h9) rfl d_O_variable_70 ?_
                  refine lv_iload hx hb d_O_variable_73 (lv_at hl 0 rfl) ?_
                  refine lv_aload_n hx hb d_O_variable_75 rfl (lv_at hl 2 rfl) ?_
                  refine va_get (D := D) (ci := 1) (v := .ref (q 3)) (C := R_O) (T := T_O) (N := 17) hx hb hA inA_O hown hK hP 0 rfl rfl 3 (by decide) (hA _ wd_425) (fun _ h9 => h9) rfl d_O_variable_76 ?_
                  refine lv_iload hx hb d_O_variable_79 (lv_at hl 0 rfl) ?_
                  refine xi_ald hx hb hK hP 3 rfl (by omega) (by decide) d_O_variable_81 ?_
                  refine lv_iload_n hx hb d_O_variable_82 rfl (lv_at hl 1 rfl) ?_
                  refine lv_imul hx hb d_O_variable_83 ?_
                  refine xi_ast hx hb hK hP hD hS 3 rfl (by omega) (by decide) d_O_variable_84 (fun H locs hP hD hS => ?_)
                  have hP : va_P D vwCl (ow D q n P rw a kn an lw s1 (upd g j ((g j) * (nI v))) kd pa wd ao fo uo ho xo) H := hP
                  have hD : va_D A (ow D q n P rw a kn an lw s1 (upd g j ((g j) * (nI v))) kd pa wd ao fo uo ho xo) := hD
                  refine lv_iinc (v := nI (j + 1)) hx hb d_O_variable_85 hl (k := 0) rfl (by rw [nI_succ]; rfl) (by decide) rfl (fun ls hl => ?_)
                  have hl : lv_has ls 5 [(4, .int (nI (j + 1))), (3, .int (nI v)), (0, .ref (q 0)), (1, .int x), (2, .int y)] := hl
                  refine lv_goto (tgt := 60) hx hb d_O_variable_88 (by decide) ?_
                  exact ih (j + 1) _ _ _ _ (by omega) (sdI_s hg) (lv_sub hl [0, 1, 2, 3, 4] rfl) hP hD hS
              exact loop n 0 sd _ _ _ (by omega) (sdI_0 sd v) (lv_sub hl [0, 1, 2, 3, 4] rfl) hP hD hS
            · skip
              refine lv_bipush (v := (-2)) hx hb d_O_variable_54 (by decide) ?_
              exact eWi (n, P, rw, a, kn, an, lw, s1, sd, kd, pa, wd, ao, fo, uo, ho, xo) hx hb hr hlocks hP hK hD hS (Or.inr ⟨⟨h3, h14, h9, lt8i h22⟩, v, hv1, hv8, hve, Or.inl ⟨fun h => h51 (nI_le h.2 (by decide)), rfl, rfl⟩⟩) d_O_variable_56
        · skip
          refine lv_iconst (v := (-1)) hx hb d_O_variable_25 (by decide) ?_
          exact eWi (n, P, rw, a, kn, an, lw, s1, sd, kd, pa, wd, ao, fo, uo, ho, xo) hx hb hr hlocks hP hK hD hS (Or.inl ⟨fun h => h22 (le7 h.2.2.2), rfl, rfl⟩) d_O_variable_26
end
