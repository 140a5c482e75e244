section
theorem wv_O_96 : Cond.code y_O_nibble b_O_nibble 3 (some .int) ∈ cA ∧ Cond.initialized y_O_nibble.cls ∈ cA ∧ Cond.methodLink R_O 96 y_O_nibble ∈ cA ∧ Cond.static y_O_nibble ∈ cA := ⟨wd_601, wd_3, wd_599, wd_600⟩
theorem d_O_needed_0 : decode b_O_needed 0 = .ok (.iconst 0, 1) := by decide +kernel
theorem d_O_needed_1 : decode b_O_needed 1 = .ok (.istore_n 3, 1) := by decide +kernel
theorem d_O_needed_2 : decode b_O_needed 2 = .ok (.iconst 0, 1) := by decide +kernel
theorem d_O_needed_3 : decode b_O_needed 3 = .ok (.istore 4, 2) := by decide +kernel
theorem d_O_needed_5 : decode b_O_needed 5 = .ok (.iload 4, 2) := by decide +kernel
theorem d_O_needed_7 : decode b_O_needed 7 = .ok (.aload_n 0, 1) := by decide +kernel
theorem d_O_needed_8 : decode b_O_needed 8 = .ok (.getfield 56, 3) := by decide +kernel
theorem d_O_needed_11 : decode b_O_needed 11 = .ok (.if_icmp .ge 98, 3) := by decide +kernel
theorem d_O_needed_14 : decode b_O_needed 14 = .ok (.aload_n 0, 1) := by decide +kernel
theorem d_O_needed_15 : decode b_O_needed 15 = .ok (.iload_n 1, 1) := by decide +kernel
theorem d_O_needed_16 : decode b_O_needed 16 = .ok (.iconst 0, 1) := by decide +kernel
theorem d_O_needed_17 : decode b_O_needed 17 = .ok (.invokevirtual 90, 3) := by decide +kernel
theorem d_O_needed_20 : decode b_O_needed 20 = .ok (.iload 4, 2) := by decide +kernel
theorem d_O_needed_22 : decode b_O_needed 22 = .ok (.ishr, 1) := by decide +kernel
theorem d_O_needed_23 : decode b_O_needed 23 = .ok (.iconst 1, 1) := by decide +kernel
theorem d_O_needed_24 : decode b_O_needed 24 = .ok (.iand, 1) := by decide +kernel
theorem d_O_needed_25 : decode b_O_needed 25 = .ok (.iconst 1, 1) := by decide +kernel
theorem d_O_needed_26 : decode b_O_needed 26 = .ok (.if_icmp .ne 7, 3) := by decide +kernel
theorem d_O_needed_29 : decode b_O_needed 29 = .ok (.iconst 1, 1) := by decide +kernel
theorem d_O_needed_30 : decode b_O_needed 30 = .ok (.goto 4, 3) := by decide +kernel
theorem d_O_needed_33 : decode b_O_needed 33 = .ok (.iconst 0, 1) := by decide +kernel
theorem d_O_needed_34 : decode b_O_needed 34 = .ok (.istore 5, 2) := by decide +kernel
theorem d_O_needed_36 : decode b_O_needed 36 = .ok (.aload_n 0, 1) := by decide +kernel
theorem d_O_needed_37 : decode b_O_needed 37 = .ok (.getfield 49, 3) := by decide +kernel
theorem d_O_needed_40 : decode b_O_needed 40 = .ok (.iload 4, 2) := by decide +kernel
theorem d_O_needed_42 : decode b_O_needed 42 = .ok (.iaload, 1) := by decide +kernel
theorem d_O_needed_43 : decode b_O_needed 43 = .ok (.aload_n 0, 1) := by decide +kernel
theorem d_O_needed_44 : decode b_O_needed 44 = .ok (.getfield 29, 3) := by decide +kernel
theorem d_O_needed_47 : decode b_O_needed 47 = .ok (.iconst 2, 1) := by decide +kernel
theorem d_O_needed_48 : decode b_O_needed 48 = .ok (.iload_n 1, 1) := by decide +kernel
theorem d_O_needed_49 : decode b_O_needed 49 = .ok (.imul, 1) := by decide +kernel
theorem d_O_needed_50 : decode b_O_needed 50 = .ok (.laload, 1) := by decide +kernel
theorem d_O_needed_51 : decode b_O_needed 51 = .ok (.iload 4, 2) := by decide +kernel
theorem d_O_needed_53 : decode b_O_needed 53 = .ok (.invokestatic 96, 3) := by decide +kernel
theorem d_O_needed_56 : decode b_O_needed 56 = .ok (.iadd, 1) := by decide +kernel
theorem d_O_needed_57 : decode b_O_needed 57 = .ok (.istore 6, 2) := by decide +kernel
theorem d_O_needed_59 : decode b_O_needed 59 = .ok (.iload 5, 2) := by decide +kernel
theorem d_O_needed_61 : decode b_O_needed 61 = .ok (.ifCond .eq 40, 3) := by decide +kernel
theorem d_O_needed_64 : decode b_O_needed 64 = .ok (.aload_n 0, 1) := by decide +kernel
theorem d_O_needed_65 : decode b_O_needed 65 = .ok (.getfield 49, 3) := by decide +kernel
theorem d_O_needed_68 : decode b_O_needed 68 = .ok (.iload 4, 2) := by decide +kernel
theorem d_O_needed_70 : decode b_O_needed 70 = .ok (.iaload, 1) := by decide +kernel
theorem d_O_needed_71 : decode b_O_needed 71 = .ok (.iload_n 2, 1) := by decide +kernel
theorem d_O_needed_72 : decode b_O_needed 72 = .ok (.if_icmp .gt 29, 3) := by decide +kernel
theorem d_O_needed_75 : decode b_O_needed 75 = .ok (.iload_n 2, 1) := by decide +kernel
theorem d_O_needed_76 : decode b_O_needed 76 = .ok (.iload 6, 2) := by decide +kernel
theorem d_O_needed_78 : decode b_O_needed 78 = .ok (.if_icmp .ge 23, 3) := by decide +kernel
theorem d_O_needed_81 : decode b_O_needed 81 = .ok (.iload_n 3, 1) := by decide +kernel
theorem d_O_needed_82 : decode b_O_needed 82 = .ok (.aload_n 0, 1) := by decide +kernel
theorem d_O_needed_83 : decode b_O_needed 83 = .ok (.getfield 29, 3) := by decide +kernel
theorem d_O_needed_86 : decode b_O_needed 86 = .ok (.iconst 2, 1) := by decide +kernel
theorem d_O_needed_87 : decode b_O_needed 87 = .ok (.iload_n 1, 1) := by decide +kernel
theorem d_O_needed_88 : decode b_O_needed 88 = .ok (.imul, 1) := by decide +kernel
theorem d_O_needed_89 : decode b_O_needed 89 = .ok (.iconst 1, 1) := by decide +kernel
theorem d_O_needed_90 : decode b_O_needed 90 = .ok (.iadd, 1) := by decide +kernel
theorem d_O_needed_91 : decode b_O_needed 91 = .ok (.laload, 1) := by decide +kernel
theorem d_O_needed_92 : decode b_O_needed 92 = .ok (.iload 4, 2) := by decide +kernel
theorem d_O_needed_94 : decode b_O_needed 94 = .ok (.invokestatic 96, 3) := by decide +kernel
theorem d_O_needed_97 : decode b_O_needed 97 = .ok (.iadd, 1) := by decide +kernel
theorem d_O_needed_98 : decode b_O_needed 98 = .ok (.goto 4, 3) := by decide +kernel
theorem d_O_needed_101 : decode b_O_needed 101 = .ok (.iload_n 3, 1) := by decide +kernel
theorem d_O_needed_102 : decode b_O_needed 102 = .ok (.istore_n 3, 1) := by decide +kernel
theorem d_O_needed_103 : decode b_O_needed 103 = .ok (.iinc 4 1, 3) := by decide +kernel
theorem d_O_needed_106 : decode b_O_needed 106 = .ok (.goto (-101), 3) := by decide +kernel
theorem d_O_needed_109 : decode b_O_needed 109 = .ok (.iload_n 3, 1) := by decide +kernel
theorem d_O_needed_110 : decode b_O_needed 110 = .ok (.ireturn, 1) := by decide +kernel
set_option maxRecDepth 100000 in
set_option maxHeartbeats 4000000 in
theorem o_needed (l : Launch) (D : va_G) (q : Nat → Nat) (n P rw a : Nat) (kn an : Int32) (lw s1 sd kd pa : Nat → Int32) (wd : Nat → Int64) (ao fo uo ho xo : Nat → Int32) (j : Nat) (mo : Int32) (hj : j < 12) (hn : n ≤ 8) : Met l y_O_needed (wsm y_O_needed b_O_needed 7 (some .int)) { frames := 1, cells := 0, slots := 0, locals := 22 } (va_Pc [.ref (q 0), .int (nI j), .int mo] (cPre D (ow D q n P rw a kn an lw s1 sd kd pa wd ao fo uo ho xo))) (vp_Si (fun r => r = oNed (oRow pa j 0) (wd (2 * j)) (wd (2 * j + 1)) mo xo n 0 0)) 0 0 (fun _ => False) := by
  refine met_R (by decide) (Nat.le_of_ble_eq_true rfl) ?_
  intro p e s m below meth c ls hx hb hr hlocks hml hown hin hA hP hK hD hN hl
  have hown : s.vm.findClass R_O = some m.cls := hown
  have hl : lv_has ls 7 [(0, .ref (q 0)), (1, .int (nI j)), (2, .int mo)] := hl
  refine lv_iconst (v := 0) hx hb d_O_needed_0 (by decide) ?_
  refine lv_istore_n hx hb d_O_needed_1 rfl hl (by decide) rfl (fun ls hl => ?_)
  have hl : lv_has ls 7 [(3, .int 0), (0, .ref (q 0)), (1, .int (nI j)), (2, .int mo)] := hl
  refine lv_iconst (v := 0) hx hb d_O_needed_2 (by decide) ?_
  refine lv_istore hx hb d_O_needed_3 hl (by decide) rfl (fun ls hl => ?_)
  have hl : lv_has ls 7 [(4, .int 0), (3, .int 0), (0, .ref (q 0)), (1, .int (nI j)), (2, .int mo)] := hl
  have loop : ∀ (t i : Nat) (sm : Int32) (ls : Array Slot), i + t = n → oNed (oRow pa j 0) (wd (2 * j)) (wd (2 * j + 1)) mo xo t i sm = oNed (oRow pa j 0) (wd (2 * j)) (wd (2 * j + 1)) mo xo n 0 0 → lv_has ls 7 [(4, .int (nI i)), (3, .int sm), (0, .ref (q 0)), (1, .int (nI j)), (2, .int mo)] → W p l e { frames := 1, cells := 0, slots := 0, locals := 22 } s m [.ref (q 0), .int (nI j), .int mo].toArray below meth c s.heap [] 0 0 (MQ below (vp_Si (fun r => r = oNed (oRow pa j 0) (wd (2 * j)) (wd (2 * j + 1)) mo xo n 0 0)) [.ref (q 0), .int (nI j), .int mo].toArray s 0 0 (fun _ => False)) (F0 m 5 ls []) := by
    intro t
    induction t with
    | zero =>
      intro i sm ls hi hf hl
      refine lv_iload hx hb d_O_needed_5 (lv_at hl 0 rfl) ?_
      refine lv_aload_n hx hb d_O_needed_7 rfl (lv_at hl 2 rfl) ?_
      refine va_get (D := D) (ci := 1) (v := .int (nI n)) (C := R_O) (T := T_O) (N := 17) hx hb hA inA_O hown hK hP 0 rfl rfl 0 (by decide) (hA _ wd_422) (fun _ h9 => h9) rfl d_O_needed_8 ?_
      refine lv_icmp_ge (tgt := 109) hx hb d_O_needed_11 (by decide) (fun h11 => ?_) (fun h => absurd (nI_le (by omega) (by omega)) h)
      refine lv_iload_n hx hb d_O_needed_109 rfl (lv_at hl 1 rfl) ?_
      exact eR hx hb hr hlocks (by rw [← hf]; rfl) d_O_needed_110
    | succ t ih =>
      intro i sm ls hi hf hl
      refine lv_iload hx hb d_O_needed_5 (lv_at hl 0 rfl) ?_
      refine lv_aload_n hx hb d_O_needed_7 rfl (lv_at hl 2 rfl) ?_
      refine va_get (D := D) (ci := 1) (v := .int (nI n)) (C := R_O) (T := T_O) (N := 17) hx hb hA inA_O hown hK hP 0 rfl rfl 0 (by decide) (hA _ wd_422) (fun _ h9 => h9) rfl d_O_needed_8 ?_
      refine lv_icmp_ge (tgt := 109) hx hb d_O_needed_11 (by decide) (fun h => absurd h (nI_ge (by omega) (by omega))) (fun h11 => ?_)
      refine lv_aload_n hx hb d_O_needed_14 rfl (lv_at hl 2 rfl) ?_
      refine lv_iload_n hx hb d_O_needed_15 rfl (lv_at hl 3 rfl) ?_
      refine lv_iconst (v := 0) hx hb d_O_needed_16 (by decide) ?_
      refine rV (n := 2) (rest := []) hx hb hml hown hA (o_of l D q n P rw a kn an lw s1 sd kd pa wd ao fo uo ho xo j 0 (by omega) (by omega)) wv_O_90 ⟨by decide, by decide, by decide +kernel⟩ ⟨rfl, rfl, by decide, by decide⟩ rfl hl.1 ⟨Nat.le_of_ble_eq_true rfl, Nat.le_of_ble_eq_true rfl⟩ hP hK hD hN 0 1 rfl rfl rfl (Nat.le_of_ble_eq_true rfl) d_O_needed_17 (fun r hr9 => ?_)
      subst hr9
      refine lv_iload hx hb d_O_needed_20 (lv_at hl 0 rfl) ?_
      refine lv_ishr hx hb d_O_needed_22 ?_
      refine lv_iconst (v := 1) hx hb d_O_needed_23 (by decide) ?_
      refine lv_iand hx hb d_O_needed_24 ?_
      refine lv_iconst (v := 1) hx hb d_O_needed_25 (by decide) ?_
      refine lv_icmp_ne (tgt := 33) hx hb d_O_needed_26 (by decide) (fun h26 => ?_) (fun h26 => ?_)
      · skip
        refine lv_iconst (v := 0) hx hb d_O_needed_33 (by decide) ?_
        refine lv_istore hx hb d_O_needed_34 hl (by decide) rfl (fun ls hl => ?_)
        have hl : lv_has ls 7 [(5, .int 0), (4, .int (nI i)), (3, .int sm), (0, .ref (q 0)), (1, .int (nI j)), (2, .int mo)] := hl
        refine lv_aload_n hx hb d_O_needed_36 rfl (lv_at hl 3 rfl) ?_
        refine va_get (D := D) (ci := 1) (v := .ref (q 11)) (C := R_O) (T := T_O) (N := 17) hx hb hA inA_O hown hK hP 0 rfl rfl 16 (by decide) (hA _ wd_438) (fun _ h9 => h9) rfl d_O_needed_37 ?_
        refine lv_iload hx hb d_O_needed_40 (lv_at hl 1 rfl) ?_
        refine xi_ald hx hb hK hP 11 rfl (by omega) (by decide) d_O_needed_42 ?_
        refine lv_aload_n hx hb d_O_needed_43 rfl (lv_at hl 3 rfl) ?_
        refine va_get (D := D) (ci := 1) (v := .ref (q 6)) (C := R_O) (T := T_O) (N := 17) hx hb hA inA_O hown hK hP 0 rfl rfl 8 (by decide) (hA _ wd_430) (fun _ h9 => h9) rfl d_O_needed_44 ?_
        refine lv_iconst (v := 2) hx hb d_O_needed_47 (by decide) ?_
        refine lv_iload_n hx hb d_O_needed_48 rfl (lv_at hl 4 rfl) ?_
        refine lv_imul hx hb d_O_needed_49 ?_
        refine topi_to (v := nI (2 * j)) (by rw [← pk_mul]; rfl) ?_
        refine xl_ald hx hb hK hP 6 rfl (by omega) (by decide) d_O_needed_50 ?_
        refine lv_iload hx hb d_O_needed_51 (lv_at hl 1 rfl) ?_
        refine rS (n := 2) (rest := [.int (xo i)]) hx hb hml hown hA (o_nibble l D (wd (2 * j)) (nI i)) wv_O_96 ⟨by decide, by decide, by decide +kernel⟩ ⟨rfl, rfl, by decide, by decide⟩ rfl hl.1 ⟨Nat.le_of_ble_eq_true rfl, Nat.le_of_ble_eq_true rfl⟩ (va_P.sub1 hP [] rfl) hK (va_D.sub hD [] rfl rfl) hN rfl (Nat.le_of_ble_eq_true rfl) d_O_needed_53 (fun r hr9 => ?_)
        subst hr9
        refine lv_iadd hx hb d_O_needed_56 ?_
        refine lv_istore hx hb d_O_needed_57 hl (by decide) rfl (fun ls hl => ?_)
        have hl : lv_has ls 7 [(6, .int ((xo i) + (oNib (wd (2 * j)) (nI i)))), (5, .int 0), (4, .int (nI i)), (3, .int sm), (0, .ref (q 0)), (1, .int (nI j)), (2, .int mo)] := hl
        refine lv_iload hx hb d_O_needed_59 (lv_at hl 1 rfl) ?_
        refine lv_if_eq (tgt := 101) hx hb d_O_needed_61 (by decide) (fun _ => ?_) (fun h => absurd h (by decide))
        refine lv_iload_n hx hb d_O_needed_101 rfl (lv_at hl 3 rfl) ?_
        refine lv_istore_n hx hb d_O_needed_102 rfl hl (by decide) rfl (fun ls hl => ?_)
        have hl : lv_has ls 7 [(3, .int sm), (6, .int ((xo i) + (oNib (wd (2 * j)) (nI i)))), (5, .int 0), (4, .int (nI i)), (0, .ref (q 0)), (1, .int (nI j)), (2, .int mo)] := hl
        refine lv_iinc (v := nI (i + 1)) hx hb d_O_needed_103 hl (k := 3) rfl (by rw [nI_succ]; rfl) (by decide) rfl (fun ls hl => ?_)
        have hl : lv_has ls 7 [(4, .int (nI (i + 1))), (3, .int sm), (6, .int ((xo i) + (oNib (wd (2 * j)) (nI i)))), (5, .int 0), (0, .ref (q 0)), (1, .int (nI j)), (2, .int mo)] := hl
        refine lv_goto (tgt := 5) hx hb d_O_needed_106 (by decide) ?_
        exact ih (i + 1) _ _ (by omega) ((oNed_no (fun h => h26 h.1)).symm.trans hf) (lv_sub hl [0, 1, 4, 5, 6] rfl)
      · skip
        refine lv_iconst (v := 1) hx hb d_O_needed_29 (by decide) ?_
        refine lv_goto (tgt := 34) hx hb d_O_needed_30 (by decide) ?_
        refine lv_istore hx hb d_O_needed_34 hl (by decide) rfl (fun ls hl => ?_)
        have hl : lv_has ls 7 [(5, .int 1), (4, .int (nI i)), (3, .int sm), (0, .ref (q 0)), (1, .int (nI j)), (2, .int mo)] := hl
        refine lv_aload_n hx hb d_O_needed_36 rfl (lv_at hl 3 rfl) ?_
        refine va_get (D := D) (ci := 1) (v := .ref (q 11)) (C := R_O) (T := T_O) (N := 17) hx hb hA inA_O hown hK hP 0 rfl rfl 16 (by decide) (hA _ wd_438) (fun _ h9 => h9) rfl d_O_needed_37 ?_
        refine lv_iload hx hb d_O_needed_40 (lv_at hl 1 rfl) ?_
        refine xi_ald hx hb hK hP 11 rfl (by omega) (by decide) d_O_needed_42 ?_
        refine lv_aload_n hx hb d_O_needed_43 rfl (lv_at hl 3 rfl) ?_
        refine va_get (D := D) (ci := 1) (v := .ref (q 6)) (C := R_O) (T := T_O) (N := 17) hx hb hA inA_O hown hK hP 0 rfl rfl 8 (by decide) (hA _ wd_430) (fun _ h9 => h9) rfl d_O_needed_44 ?_
        refine lv_iconst (v := 2) hx hb d_O_needed_47 (by decide) ?_
        refine lv_iload_n hx hb d_O_needed_48 rfl (lv_at hl 4 rfl) ?_
        refine lv_imul hx hb d_O_needed_49 ?_
        refine topi_to (v := nI (2 * j)) (by rw [← pk_mul]; rfl) ?_
        refine xl_ald hx hb hK hP 6 rfl (by omega) (by decide) d_O_needed_50 ?_
        refine lv_iload hx hb d_O_needed_51 (lv_at hl 1 rfl) ?_
        refine rS (n := 2) (rest := [.int (xo i)]) hx hb hml hown hA (o_nibble l D (wd (2 * j)) (nI i)) wv_O_96 ⟨by decide, by decide, by decide +kernel⟩ ⟨rfl, rfl, by decide, by decide⟩ rfl hl.1 ⟨Nat.le_of_ble_eq_true rfl, Nat.le_of_ble_eq_true rfl⟩ (va_P.sub1 hP [] rfl) hK (va_D.sub hD [] rfl rfl) hN rfl (Nat.le_of_ble_eq_true rfl) d_O_needed_53 (fun r hr9 => ?_)
        subst hr9
        refine lv_iadd hx hb d_O_needed_56 ?_
        refine lv_istore hx hb d_O_needed_57 hl (by decide) rfl (fun ls hl => ?_)
        have hl : lv_has ls 7 [(6, .int ((xo i) + (oNib (wd (2 * j)) (nI i)))), (5, .int 1), (4, .int (nI i)), (3, .int sm), (0, .ref (q 0)), (1, .int (nI j)), (2, .int mo)] := hl
        refine lv_iload hx hb d_O_needed_59 (lv_at hl 1 rfl) ?_
        refine lv_if_eq (tgt := 101) hx hb d_O_needed_61 (by decide) (fun h => absurd h (by decide)) (fun _ => ?_)
        refine lv_aload_n hx hb d_O_needed_64 rfl (lv_at hl 4 rfl) ?_
        refine va_get (D := D) (ci := 1) (v := .ref (q 11)) (C := R_O) (T := T_O) (N := 17) hx hb hA inA_O hown hK hP 0 rfl rfl 16 (by decide) (hA _ wd_438) (fun _ h9 => h9) rfl d_O_needed_65 ?_
        refine lv_iload hx hb d_O_needed_68 (lv_at hl 2 rfl) ?_
        refine xi_ald hx hb hK hP 11 rfl (by omega) (by decide) d_O_needed_70 ?_
        refine lv_iload_n hx hb d_O_needed_71 rfl (lv_at hl 6 rfl) ?_
        refine lv_icmp_gt (tgt := 101) hx hb d_O_needed_72 (by decide) (fun h72 => ?_) (fun h72 => ?_)
        · skip
          refine lv_iload_n hx hb d_O_needed_101 rfl (lv_at hl 3 rfl) ?_
          refine lv_istore_n hx hb d_O_needed_102 rfl hl (by decide) rfl (fun ls hl => ?_)
          have hl : lv_has ls 7 [(3, .int sm), (6, .int ((xo i) + (oNib (wd (2 * j)) (nI i)))), (5, .int 1), (4, .int (nI i)), (0, .ref (q 0)), (1, .int (nI j)), (2, .int mo)] := hl
          refine lv_iinc (v := nI (i + 1)) hx hb d_O_needed_103 hl (k := 3) rfl (by rw [nI_succ]; rfl) (by decide) rfl (fun ls hl => ?_)
          have hl : lv_has ls 7 [(4, .int (nI (i + 1))), (3, .int sm), (6, .int ((xo i) + (oNib (wd (2 * j)) (nI i)))), (5, .int 1), (0, .ref (q 0)), (1, .int (nI j)), (2, .int mo)] := hl
          refine lv_goto (tgt := 5) hx hb d_O_needed_106 (by decide) ?_
          exact ih (i + 1) _ _ (by omega) ((oNed_no (fun h => h.2.1 h72)).symm.trans hf) (lv_sub hl [0, 1, 4, 5, 6] rfl)
        · skip
          refine lv_iload_n hx hb d_O_needed_75 rfl (lv_at hl 6 rfl) ?_
          refine lv_iload hx hb d_O_needed_76 (lv_at hl 0 rfl) ?_
          refine lv_icmp_ge (tgt := 101) hx hb d_O_needed_78 (by decide) (fun h78 => ?_) (fun h78 => ?_)
          · skip
            refine lv_iload_n hx hb d_O_needed_101 rfl (lv_at hl 3 rfl) ?_
            refine lv_istore_n hx hb d_O_needed_102 rfl hl (by decide) rfl (fun ls hl => ?_)
            have hl : lv_has ls 7 [(3, .int sm), (6, .int ((xo i) + (oNib (wd (2 * j)) (nI i)))), (5, .int 1), (4, .int (nI i)), (0, .ref (q 0)), (1, .int (nI j)), (2, .int mo)] := hl
            refine lv_iinc (v := nI (i + 1)) hx hb d_O_needed_103 hl (k := 3) rfl (by rw [nI_succ]; rfl) (by decide) rfl (fun ls hl => ?_)
            have hl : lv_has ls 7 [(4, .int (nI (i + 1))), (3, .int sm), (6, .int ((xo i) + (oNib (wd (2 * j)) (nI i)))), (5, .int 1), (0, .ref (q 0)), (1, .int (nI j)), (2, .int mo)] := hl
            refine lv_goto (tgt := 5) hx hb d_O_needed_106 (by decide) ?_
            exact ih (i + 1) _ _ (by omega) ((oNed_no (fun h => h.2.2 h78)).symm.trans hf) (lv_sub hl [0, 1, 4, 5, 6] rfl)
          · skip
            refine lv_iload_n hx hb d_O_needed_81 rfl (lv_at hl 3 rfl) ?_
            refine lv_aload_n hx hb d_O_needed_82 rfl (lv_at hl 4 rfl) ?_
            refine va_get (D := D) (ci := 1) (v := .ref (q 6)) (C := R_O) (T := T_O) (N := 17) hx hb hA inA_O hown hK hP 0 rfl rfl 8 (by decide) (hA _ wd_430) (fun _ h9 => h9) rfl d_O_needed_83 ?_
            refine lv_iconst (v := 2) hx hb d_O_needed_86 (by decide) ?_
            refine lv_iload_n hx hb d_O_needed_87 rfl (lv_at hl 5 rfl) ?_
            refine lv_imul hx hb d_O_needed_88 ?_
            refine lv_iconst (v := 1) hx hb d_O_needed_89 (by decide) ?_
            refine lv_iadd hx hb d_O_needed_90 ?_
            refine topi_to (v := nI (2 * j + 1)) (by rw [← nI_add, ← pk_mul]; rfl) ?_
            refine xl_ald hx hb hK hP 6 rfl (by omega) (by decide) d_O_needed_91 ?_
            refine lv_iload hx hb d_O_needed_92 (lv_at hl 2 rfl) ?_
            refine rS (n := 2) (rest := [.int sm]) hx hb hml hown hA (o_nibble l D (wd (2 * j + 1)) (nI i)) wv_O_96 ⟨by decide, by decide, by decide +kernel⟩ ⟨rfl, rfl, by decide, by decide⟩ rfl hl.1 ⟨Nat.le_of_ble_eq_true rfl, Nat.le_of_ble_eq_true rfl⟩ (va_P.sub1 hP [] rfl) hK (va_D.sub hD [] rfl rfl) hN rfl (Nat.le_of_ble_eq_true rfl) d_O_needed_94 (fun r hr9 => ?_)
            subst hr9
            refine lv_iadd hx hb d_O_needed_97 ?_
            refine lv_goto (tgt := 102) hx hb d_O_needed_98 (by decide) ?_
            refine lv_istore_n hx hb d_O_needed_102 rfl hl (by decide) rfl (fun ls hl => ?_)
            have hl : lv_has ls 7 [(3, .int (sm + (oNib (wd (2 * j + 1)) (nI i)))), (6, .int ((xo i) + (oNib (wd (2 * j)) (nI i)))), (5, .int 1), (4, .int (nI i)), (0, .ref (q 0)), (1, .int (nI j)), (2, .int mo)] := hl
            refine lv_iinc (v := nI (i + 1)) hx hb d_O_needed_103 hl (k := 3) rfl (by rw [nI_succ]; rfl) (by decide) rfl (fun ls hl => ?_)
            have hl : lv_has ls 7 [(4, .int (nI (i + 1))), (3, .int (sm + (oNib (wd (2 * j + 1)) (nI i)))), (6, .int ((xo i) + (oNib (wd (2 * j)) (nI i)))), (5, .int 1), (0, .ref (q 0)), (1, .int (nI j)), (2, .int mo)] := hl
            refine lv_goto (tgt := 5) hx hb d_O_needed_106 (by decide) ?_
            exact ih (i + 1) _ _ (by omega) ((oNed_go ⟨h26, h72, h78⟩).symm.trans hf) (lv_sub hl [0, 1, 4, 5, 6] rfl)
  exact loop n 0 0 _ (by omega) rfl (lv_sub hl [0, 1, 2, 3, 4] rfl)
end
