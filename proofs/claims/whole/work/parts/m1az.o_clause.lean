section
theorem d_O_clause_0 : decode b_O_clause 0 = .ok (.aload_n 0, 1) := by decide +kernel
theorem d_O_clause_1 : decode b_O_clause 1 = .ok (.iload_n 1, 1) := by decide +kernel
theorem d_O_clause_2 : decode b_O_clause 2 = .ok (.invokevirtual 69, 3) := by decide +kernel
theorem d_O_clause_5 : decode b_O_clause 5 = .ok (.ifCond .eq 70, 3) := by decide +kernel
theorem d_O_clause_8 : decode b_O_clause 8 = .ok (.aload_n 0, 1) := by decide +kernel
theorem d_O_clause_9 : decode b_O_clause 9 = .ok (.iload_n 3, 1) := by decide +kernel
theorem d_O_clause_10 : decode b_O_clause 10 = .ok (.invokevirtual 69, 3) := by decide +kernel
theorem d_O_clause_13 : decode b_O_clause 13 = .ok (.ifCond .eq 62, 3) := by decide +kernel
theorem d_O_clause_16 : decode b_O_clause 16 = .ok (.aload_n 0, 1) := by decide +kernel
theorem d_O_clause_17 : decode b_O_clause 17 = .ok (.iload 5, 2) := by decide +kernel
theorem d_O_clause_19 : decode b_O_clause 19 = .ok (.invokevirtual 69, 3) := by decide +kernel
theorem d_O_clause_22 : decode b_O_clause 22 = .ok (.ifCond .eq 53, 3) := by decide +kernel
theorem d_O_clause_25 : decode b_O_clause 25 = .ok (.iload_n 2, 1) := by decide +kernel
theorem d_O_clause_26 : decode b_O_clause 26 = .ok (.bipush (-100), 2) := by decide +kernel
theorem d_O_clause_28 : decode b_O_clause 28 = .ok (.bipush 100, 2) := by decide +kernel
theorem d_O_clause_30 : decode b_O_clause 30 = .ok (.invokestatic 72, 3) := by decide +kernel
theorem d_O_clause_33 : decode b_O_clause 33 = .ok (.ifCond .eq 42, 3) := by decide +kernel
theorem d_O_clause_36 : decode b_O_clause 36 = .ok (.iload 4, 2) := by decide +kernel
theorem d_O_clause_38 : decode b_O_clause 38 = .ok (.bipush (-100), 2) := by decide +kernel
theorem d_O_clause_40 : decode b_O_clause 40 = .ok (.bipush 100, 2) := by decide +kernel
theorem d_O_clause_42 : decode b_O_clause 42 = .ok (.invokestatic 72, 3) := by decide +kernel
theorem d_O_clause_45 : decode b_O_clause 45 = .ok (.ifCond .eq 30, 3) := by decide +kernel
theorem d_O_clause_48 : decode b_O_clause 48 = .ok (.iload 6, 2) := by decide +kernel
theorem d_O_clause_50 : decode b_O_clause 50 = .ok (.bipush (-100), 2) := by decide +kernel
theorem d_O_clause_52 : decode b_O_clause 52 = .ok (.bipush 100, 2) := by decide +kernel
theorem d_O_clause_54 : decode b_O_clause 54 = .ok (.invokestatic 72, 3) := by decide +kernel
theorem d_O_clause_57 : decode b_O_clause 57 = .ok (.ifCond .eq 18, 3) := by decide +kernel
theorem d_O_clause_60 : decode b_O_clause 60 = .ok (.iload 7, 2) := by decide +kernel
theorem d_O_clause_62 : decode b_O_clause 62 = .ok (.iconst 0, 1) := by decide +kernel
theorem d_O_clause_63 : decode b_O_clause 63 = .ok (.bipush 7, 2) := by decide +kernel
theorem d_O_clause_65 : decode b_O_clause 65 = .ok (.invokestatic 72, 3) := by decide +kernel
theorem d_O_clause_68 : decode b_O_clause 68 = .ok (.ifCond .eq 7, 3) := by decide +kernel
theorem d_O_clause_71 : decode b_O_clause 71 = .ok (.iconst 1, 1) := by decide +kernel
theorem d_O_clause_72 : decode b_O_clause 72 = .ok (.goto 4, 3) := by decide +kernel
theorem d_O_clause_75 : decode b_O_clause 75 = .ok (.iconst 0, 1) := by decide +kernel
theorem d_O_clause_76 : decode b_O_clause 76 = .ok (.istore 8, 2) := by decide +kernel
theorem d_O_clause_78 : decode b_O_clause 78 = .ok (.iload 8, 2) := by decide +kernel
theorem d_O_clause_80 : decode b_O_clause 80 = .ok (.ifCond .ne 5, 3) := by decide +kernel
theorem d_O_clause_83 : decode b_O_clause 83 = .ok (.iconst (-1), 1) := by decide +kernel
theorem d_O_clause_84 : decode b_O_clause 84 = .ok (.ireturn, 1) := by decide +kernel
theorem d_O_clause_85 : decode b_O_clause 85 = .ok (.aload_n 0, 1) := by decide +kernel
theorem d_O_clause_86 : decode b_O_clause 86 = .ok (.bipush 6, 2) := by decide +kernel
theorem d_O_clause_88 : decode b_O_clause 88 = .ok (.lconst 0, 1) := by decide +kernel
theorem d_O_clause_89 : decode b_O_clause 89 = .ok (.lconst 0, 1) := by decide +kernel
theorem d_O_clause_90 : decode b_O_clause 90 = .ok (.invokevirtual 76, 3) := by decide +kernel
theorem d_O_clause_93 : decode b_O_clause 93 = .ok (.istore 9, 2) := by decide +kernel
theorem d_O_clause_95 : decode b_O_clause 95 = .ok (.iload 9, 2) := by decide +kernel
theorem d_O_clause_97 : decode b_O_clause 97 = .ok (.ifCond .lt 64, 3) := by decide +kernel
theorem d_O_clause_100 : decode b_O_clause 100 = .ok (.aload_n 0, 1) := by decide +kernel
theorem d_O_clause_101 : decode b_O_clause 101 = .ok (.iload 9, 2) := by decide +kernel
theorem d_O_clause_103 : decode b_O_clause 103 = .ok (.iconst 0, 1) := by decide +kernel
theorem d_O_clause_104 : decode b_O_clause 104 = .ok (.iload_n 1, 1) := by decide +kernel
theorem d_O_clause_105 : decode b_O_clause 105 = .ok (.invokevirtual 80, 3) := by decide +kernel
theorem d_O_clause_108 : decode b_O_clause 108 = .ok (.aload_n 0, 1) := by decide +kernel
theorem d_O_clause_109 : decode b_O_clause 109 = .ok (.iload 9, 2) := by decide +kernel
theorem d_O_clause_111 : decode b_O_clause 111 = .ok (.iconst 1, 1) := by decide +kernel
theorem d_O_clause_112 : decode b_O_clause 112 = .ok (.iload_n 2, 1) := by decide +kernel
theorem d_O_clause_113 : decode b_O_clause 113 = .ok (.invokevirtual 80, 3) := by decide +kernel
theorem d_O_clause_116 : decode b_O_clause 116 = .ok (.aload_n 0, 1) := by decide +kernel
theorem d_O_clause_117 : decode b_O_clause 117 = .ok (.iload 9, 2) := by decide +kernel
theorem d_O_clause_119 : decode b_O_clause 119 = .ok (.iconst 2, 1) := by decide +kernel
theorem d_O_clause_120 : decode b_O_clause 120 = .ok (.iload_n 3, 1) := by decide +kernel
theorem d_O_clause_121 : decode b_O_clause 121 = .ok (.invokevirtual 80, 3) := by decide +kernel
theorem d_O_clause_124 : decode b_O_clause 124 = .ok (.aload_n 0, 1) := by decide +kernel
theorem d_O_clause_125 : decode b_O_clause 125 = .ok (.iload 9, 2) := by decide +kernel
theorem d_O_clause_127 : decode b_O_clause 127 = .ok (.iconst 3, 1) := by decide +kernel
theorem d_O_clause_128 : decode b_O_clause 128 = .ok (.iload 4, 2) := by decide +kernel
theorem d_O_clause_130 : decode b_O_clause 130 = .ok (.invokevirtual 80, 3) := by decide +kernel
theorem d_O_clause_133 : decode b_O_clause 133 = .ok (.aload_n 0, 1) := by decide +kernel
theorem d_O_clause_134 : decode b_O_clause 134 = .ok (.iload 9, 2) := by decide +kernel
theorem d_O_clause_136 : decode b_O_clause 136 = .ok (.iconst 4, 1) := by decide +kernel
theorem d_O_clause_137 : decode b_O_clause 137 = .ok (.iload 5, 2) := by decide +kernel
theorem d_O_clause_139 : decode b_O_clause 139 = .ok (.invokevirtual 80, 3) := by decide +kernel
theorem d_O_clause_142 : decode b_O_clause 142 = .ok (.aload_n 0, 1) := by decide +kernel
theorem d_O_clause_143 : decode b_O_clause 143 = .ok (.iload 9, 2) := by decide +kernel
theorem d_O_clause_145 : decode b_O_clause 145 = .ok (.iconst 5, 1) := by decide +kernel
theorem d_O_clause_146 : decode b_O_clause 146 = .ok (.iload 6, 2) := by decide +kernel
theorem d_O_clause_148 : decode b_O_clause 148 = .ok (.invokevirtual 80, 3) := by decide +kernel
theorem d_O_clause_151 : decode b_O_clause 151 = .ok (.aload_n 0, 1) := by decide +kernel
theorem d_O_clause_152 : decode b_O_clause 152 = .ok (.iload 9, 2) := by decide +kernel
theorem d_O_clause_154 : decode b_O_clause 154 = .ok (.bipush 6, 2) := by decide +kernel
theorem d_O_clause_156 : decode b_O_clause 156 = .ok (.iload 7, 2) := by decide +kernel
theorem d_O_clause_158 : decode b_O_clause 158 = .ok (.invokevirtual 80, 3) := by decide +kernel
theorem d_O_clause_161 : decode b_O_clause 161 = .ok (.iload 9, 2) := by decide +kernel
theorem d_O_clause_163 : decode b_O_clause 163 = .ok (.ireturn, 1) := by decide +kernel
set_option maxRecDepth 100000 in
set_option maxHeartbeats 4000000 in
theorem o_clause (l : Launch) (D : va_G) (q : Nat → Nat) (n P rw a : Nat) (kn an : Int32) (lw s1 sd kd pa : Nat → Int32) (wd : Nat → Int64) (ao fo uo ho xo : Nat → Int32) (i w1 j w2 v w3 how : Int32) (sz : Nat) (hrw : rw ≤ 12) : Met l y_O_clause (wsm y_O_clause b_O_clause 10 (some .int)) { frames := 2, cells := 0, slots := 0, locals := 46 } (va_Pc [.ref (q 0), .int i, .int w1, .int j, .int w2, .int v, .int w3, .int how] (fun U => U.heap.size = sz ∧ cPre D (ow D q n P rw a kn an lw s1 sd kd pa wd ao fo uo ho xo) U)) (va_Qi (fun (r : Int32) (u : OS) => (¬ (iva n i ∧ iva n j ∧ iva n v ∧ wi3 w1 (-100) 100 ∧ wi3 w2 (-100) 100 ∧ wi3 w3 (-100) 100 ∧ wi3 how 0 7) ∧ r = -1 ∧ u = (n, P, rw, a, kn, an, lw, s1, sd, kd, pa, wd, ao, fo, uo, ho, xo)) ∨ ((iva n i ∧ iva n j ∧ iva n v ∧ wi3 w1 (-100) 100 ∧ wi3 w2 (-100) 100 ∧ wi3 w3 (-100) 100 ∧ wi3 how 0 7) ∧ ((¬ rw < 12 ∧ r = -2 ∧ u = (n, P, rw, a, kn, an, lw, s1, sd, kd, pa, wd, ao, fo, uo, ho, xo)) ∨ (rw < 12 ∧ r = nI rw ∧ u = (n, P, rw + 1, a, 0, -1, lw, s1, sd, upd kd rw 6, upd (upd (upd (upd (upd (upd (upd (clr7 pa rw) (7 * rw + 0) i) (7 * rw + 1) w1) (7 * rw + 2) j) (7 * rw + 3) w2) (7 * rw + 4) v) (7 * rw + 5) w3) (7 * rw + 6) how, vp_updL (vp_updL wd (2 * rw) 0) (2 * rw + 1) 0, ao, fo, uo, ho, xo))))) (fun u t => xB D (oW D q u) (va_A (ow D q n P rw a kn an lw s1 sd kd pa wd ao fo uo ho xo) sz) t) (va_A (ow D q n P rw a kn an lw s1 sd kd pa wd ao fo uo ho xo) sz)) 0 0 (va_A (ow D q n P rw a kn an lw s1 sd kd pa wd ao fo uo ho xo) sz) := by
  refine met_W (Qf := fun A => va_Qi (fun (r : Int32) (u : OS) => (¬ (iva n i ∧ iva n j ∧ iva n v ∧ wi3 w1 (-100) 100 ∧ wi3 w2 (-100) 100 ∧ wi3 w3 (-100) 100 ∧ wi3 how 0 7) ∧ r = -1 ∧ u = (n, P, rw, a, kn, an, lw, s1, sd, kd, pa, wd, ao, fo, uo, ho, xo)) ∨ ((iva n i ∧ iva n j ∧ iva n v ∧ wi3 w1 (-100) 100 ∧ wi3 w2 (-100) 100 ∧ wi3 w3 (-100) 100 ∧ wi3 how 0 7) ∧ ((¬ rw < 12 ∧ r = -2 ∧ u = (n, P, rw, a, kn, an, lw, s1, sd, kd, pa, wd, ao, fo, uo, ho, xo)) ∨ (rw < 12 ∧ r = nI rw ∧ u = (n, P, rw + 1, a, 0, -1, lw, s1, sd, upd kd rw 6, upd (upd (upd (upd (upd (upd (upd (clr7 pa rw) (7 * rw + 0) i) (7 * rw + 1) w1) (7 * rw + 2) j) (7 * rw + 3) w2) (7 * rw + 4) v) (7 * rw + 5) w3) (7 * rw + 6) how, vp_updL (vp_updL wd (2 * rw) 0) (2 * rw + 1) 0, ao, fo, uo, ho, xo))))) (fun u t => xB D (oW D q u) A t) A) (by decide) (Nat.le_of_ble_eq_true rfl) ?_
  intro p e s m below meth c ls A hx hb hr hlocks hml hown hin hA hP hK hD hN hl hS hAA
  have hown : s.vm.findClass R_O = some m.cls := hown
  have hl : lv_has ls 10 [(0, .ref (q 0)), (1, .int i), (2, .int w1), (3, .int j), (4, .int w2), (5, .int v), (6, .int w3), (7, .int how)] := hl
  refine lv_aload_n hx hb d_O_clause_0 rfl (lv_at hl 0 rfl) ?_
  refine lv_iload_n hx hb d_O_clause_1 rfl (lv_at hl 1 rfl) ?_
  refine rV (n := 1) (rest := []) hx hb hml hown hA (o_isPart l D q n P rw a kn an lw s1 sd kd pa wd ao fo uo ho xo i) wv_O_69 ⟨by decide, by decide, by decide +kernel⟩ ⟨rfl, rfl, by decide, by decide⟩ rfl hl.1 ⟨Nat.le_of_ble_eq_true rfl, Nat.le_of_ble_eq_true rfl⟩ hP hK hD hN 0 1 rfl rfl rfl (Nat.le_of_ble_eq_true rfl) d_O_clause_2 (fun r hr9 => ?_)
  rcases zb_c hr9 with ⟨rfl, h2⟩ | ⟨rfl, h2⟩
  · skip
    refine lv_if_eq (tgt := 75) hx hb d_O_clause_5 (by decide) (fun h => absurd h (by decide)) (fun _ => ?_)
    refine lv_aload_n hx hb d_O_clause_8 rfl (lv_at hl 0 rfl) ?_
    refine lv_iload_n hx hb d_O_clause_9 rfl (lv_at hl 3 rfl) ?_
    refine rV (n := 1) (rest := []) hx hb hml hown hA (o_isPart l D q n P rw a kn an lw s1 sd kd pa wd ao fo uo ho xo j) wv_O_69 ⟨by decide, by decide, by decide +kernel⟩ ⟨rfl, rfl, by decide, by decide⟩ rfl hl.1 ⟨Nat.le_of_ble_eq_true rfl, Nat.le_of_ble_eq_true rfl⟩ hP hK hD hN 0 1 rfl rfl rfl (Nat.le_of_ble_eq_true rfl) d_O_clause_10 (fun r hr9 => ?_)
    rcases zb_c hr9 with ⟨rfl, h10⟩ | ⟨rfl, h10⟩
    · skip
      refine lv_if_eq (tgt := 75) hx hb d_O_clause_13 (by decide) (fun h => absurd h (by decide)) (fun _ => ?_)
      refine lv_aload_n hx hb d_O_clause_16 rfl (lv_at hl 0 rfl) ?_
      refine lv_iload hx hb d_O_clause_17 (lv_at hl 5 rfl) ?_
      refine rV (n := 1) (rest := []) hx hb hml hown hA (o_isPart l D q n P rw a kn an lw s1 sd kd pa wd ao fo uo ho xo v) wv_O_69 ⟨by decide, by decide, by decide +kernel⟩ ⟨rfl, rfl, by decide, by decide⟩ rfl hl.1 ⟨Nat.le_of_ble_eq_true rfl, Nat.le_of_ble_eq_true rfl⟩ hP hK hD hN 0 1 rfl rfl rfl (Nat.le_of_ble_eq_true rfl) d_O_clause_19 (fun r hr9 => ?_)
      rcases zb_c hr9 with ⟨rfl, h19⟩ | ⟨rfl, h19⟩
      · skip
        refine lv_if_eq (tgt := 75) hx hb d_O_clause_22 (by decide) (fun h => absurd h (by decide)) (fun _ => ?_)
        refine lv_iload_n hx hb d_O_clause_25 rfl (lv_at hl 2 rfl) ?_
        refine lv_bipush (v := (-100)) hx hb d_O_clause_26 (by decide) ?_
        refine lv_bipush (v := 100) hx hb d_O_clause_28 (by decide) ?_
        refine rS (n := 3) (rest := []) hx hb hml hown hA (o_within l D w1 (-100) 100) wv_O_72 ⟨by decide, by decide, by decide +kernel⟩ ⟨rfl, rfl, by decide, by decide⟩ rfl hl.1 ⟨Nat.le_of_ble_eq_true rfl, Nat.le_of_ble_eq_true rfl⟩ (va_P.sub1 hP [] rfl) hK (va_D.sub hD [] rfl rfl) hN rfl (Nat.le_of_ble_eq_true rfl) d_O_clause_30 (fun r hr9 => ?_)
        rcases zb_c hr9 with ⟨rfl, h30⟩ | ⟨rfl, h30⟩
        · skip
          refine lv_if_eq (tgt := 75) hx hb d_O_clause_33 (by decide) (fun h => absurd h (by decide)) (fun _ => ?_)
          refine lv_iload hx hb d_O_clause_36 (lv_at hl 4 rfl) ?_
          refine lv_bipush (v := (-100)) hx hb d_O_clause_38 (by decide) ?_
          refine lv_bipush (v := 100) hx hb d_O_clause_40 (by decide) ?_
          refine rS (n := 3) (rest := []) hx hb hml hown hA (o_within l D w2 (-100) 100) wv_O_72 ⟨by decide, by decide, by decide +kernel⟩ ⟨rfl, rfl, by decide, by decide⟩ rfl hl.1 ⟨Nat.le_of_ble_eq_true rfl, Nat.le_of_ble_eq_true rfl⟩ (va_P.sub1 hP [] rfl) hK (va_D.sub hD [] rfl rfl) hN rfl (Nat.le_of_ble_eq_true rfl) d_O_clause_42 (fun r hr9 => ?_)
          rcases zb_c hr9 with ⟨rfl, h42⟩ | ⟨rfl, h42⟩
          · skip
            refine lv_if_eq (tgt := 75) hx hb d_O_clause_45 (by decide) (fun h => absurd h (by decide)) (fun _ => ?_)
            refine lv_iload hx hb d_O_clause_48 (lv_at hl 6 rfl) ?_
            refine lv_bipush (v := (-100)) hx hb d_O_clause_50 (by decide) ?_
            refine lv_bipush (v := 100) hx hb d_O_clause_52 (by decide) ?_
            refine rS (n := 3) (rest := []) hx hb hml hown hA (o_within l D w3 (-100) 100) wv_O_72 ⟨by decide, by decide, by decide +kernel⟩ ⟨rfl, rfl, by decide, by decide⟩ rfl hl.1 ⟨Nat.le_of_ble_eq_true rfl, Nat.le_of_ble_eq_true rfl⟩ (va_P.sub1 hP [] rfl) hK (va_D.sub hD [] rfl rfl) hN rfl (Nat.le_of_ble_eq_true rfl) d_O_clause_54 (fun r hr9 => ?_)
            rcases zb_c hr9 with ⟨rfl, h54⟩ | ⟨rfl, h54⟩
            · skip
              refine lv_if_eq (tgt := 75) hx hb d_O_clause_57 (by decide) (fun h => absurd h (by decide)) (fun _ => ?_)
              refine lv_iload hx hb d_O_clause_60 (lv_at hl 7 rfl) ?_
              refine lv_iconst (v := 0) hx hb d_O_clause_62 (by decide) ?_
              refine lv_bipush (v := 7) hx hb d_O_clause_63 (by decide) ?_
              refine rS (n := 3) (rest := []) hx hb hml hown hA (o_within l D how 0 7) wv_O_72 ⟨by decide, by decide, by decide +kernel⟩ ⟨rfl, rfl, by decide, by decide⟩ rfl hl.1 ⟨Nat.le_of_ble_eq_true rfl, Nat.le_of_ble_eq_true rfl⟩ (va_P.sub1 hP [] rfl) hK (va_D.sub hD [] rfl rfl) hN rfl (Nat.le_of_ble_eq_true rfl) d_O_clause_65 (fun r hr9 => ?_)
              rcases zb_c hr9 with ⟨rfl, h65⟩ | ⟨rfl, h65⟩
              · skip
                refine lv_if_eq (tgt := 75) hx hb d_O_clause_68 (by decide) (fun h => absurd h (by decide)) (fun _ => ?_)
                refine lv_iconst (v := 1) hx hb d_O_clause_71 (by decide) ?_
                refine lv_goto (tgt := 76) hx hb d_O_clause_72 (by decide) ?_
                refine lv_istore hx hb d_O_clause_76 hl (by decide) rfl (fun ls hl => ?_)
                have hl : lv_has ls 10 [(8, .int 1), (0, .ref (q 0)), (1, .int i), (2, .int w1), (3, .int j), (4, .int w2), (5, .int v), (6, .int w3), (7, .int how)] := hl
                refine lv_iload hx hb d_O_clause_78 (lv_at hl 0 rfl) ?_
                refine lv_if_ne (tgt := 85) hx hb d_O_clause_80 (by decide) (fun _ => ?_) (fun h => absurd h (by decide))
                refine lv_aload_n hx hb d_O_clause_85 rfl (lv_at hl 1 rfl) ?_
                refine lv_bipush (v := 6) hx hb d_O_clause_86 (by decide) ?_
                refine lv_lconst (v := 0) hx hb d_O_clause_88 (by decide) ?_
                refine lv_lconst (v := 0) hx hb d_O_clause_89 (by decide) ?_
                refine wVi (n := 3) (wr := []) (Wf := oW D q) (rest := []) hx hb hml hown hA (o_add l D q n P rw a kn an lw s1 sd kd pa wd ao fo uo ho xo 6 0 0 _ hrw) wv_O_76 ⟨by decide, by decide, by decide +kernel⟩ ⟨rfl, rfl, by decide, by decide⟩ rfl hl.1 ⟨Nat.le_of_ble_eq_true rfl, Nat.le_of_ble_eq_true rfl⟩ hP hK hD hS hAA hN [0, 1, 2, 3, 4, 5, 6, 7, 8, 9, 10, 11] [] rfl rfl (by decide) (by decide) (by decide) 0 1 rfl rfl rfl (Nat.le_of_ble_eq_true rfl) d_O_clause_90 (fun r u H locs hu hP hD hS => ?_)
                rcases hu with ⟨hr12, rfl, rfl⟩ | ⟨hr12, rfl, rfl⟩
                · skip
                  have hP : va_P D vwCl (ow D q n P rw a kn an lw s1 sd kd pa wd ao fo uo ho xo) H := hP
                  have hD : va_D A (ow D q n P rw a kn an lw s1 sd kd pa wd ao fo uo ho xo) := hD
                  refine lv_istore hx hb d_O_clause_93 hl (by decide) rfl (fun ls hl => ?_)
                  have hl : lv_has ls 10 [(9, .int (-2)), (8, .int 1), (0, .ref (q 0)), (1, .int i), (2, .int w1), (3, .int j), (4, .int w2), (5, .int v), (6, .int w3), (7, .int how)] := hl
                  refine lv_iload hx hb d_O_clause_95 (lv_at hl 0 rfl) ?_
                  refine lv_if_lt (tgt := 161) hx hb d_O_clause_97 (by decide) (fun _ => ?_) (fun h => absurd h (by decide))
                  refine lv_iload hx hb d_O_clause_161 (lv_at hl 0 rfl) ?_
                  exact eWi (n, P, rw, a, kn, an, lw, s1, sd, kd, pa, wd, ao, fo, uo, ho, xo) hx hb hr hlocks hP hK hD hS (Or.inr ⟨⟨h2, h10, h19, h30, h42, h54, h65⟩, Or.inl ⟨hr12, rfl, rfl⟩⟩) d_O_clause_163
                · skip
                  have hP : va_P D vwCl (ow D q n P (rw + 1) a 0 (-1) lw s1 sd (upd kd rw 6) (clr7 pa rw) (vp_updL (vp_updL wd (2 * rw) 0) (2 * rw + 1) 0) ao fo uo ho xo) H := hP
                  have hD : va_D A (ow D q n P (rw + 1) a 0 (-1) lw s1 sd (upd kd rw 6) (clr7 pa rw) (vp_updL (vp_updL wd (2 * rw) 0) (2 * rw + 1) 0) ao fo uo ho xo) := hD
                  refine lv_istore hx hb d_O_clause_93 hl (by decide) rfl (fun ls hl => ?_)
                  have hl : lv_has ls 10 [(9, .int (nI rw)), (8, .int 1), (0, .ref (q 0)), (1, .int i), (2, .int w1), (3, .int j), (4, .int w2), (5, .int v), (6, .int w3), (7, .int how)] := hl
                  refine lv_iload hx hb d_O_clause_95 (lv_at hl 0 rfl) ?_
                  refine lv_if_lt (tgt := 161) hx hb d_O_clause_97 (by decide) (fun h => absurd h (nI_pos (by omega))) (fun h97 => ?_)
                  refine lv_aload_n hx hb d_O_clause_100 rfl (lv_at hl 2 rfl) ?_
                  refine lv_iload hx hb d_O_clause_101 (lv_at hl 0 rfl) ?_
                  refine lv_iconst (v := 0) hx hb d_O_clause_103 (by decide) ?_
                  refine lv_iload_n hx hb d_O_clause_104 rfl (lv_at hl 3 rfl) ?_
                  refine wVv (n := 3) (wr := []) (Wf := oW D q) (rest := []) hx hb hml hown hA (o_set l D q n P (rw + 1) a 0 (-1) lw s1 sd (upd kd rw 6) (clr7 pa rw) (vp_updL (vp_updL wd (2 * rw) 0) (2 * rw + 1) 0) ao fo uo ho xo rw 0 i _ (by omega) (by decide)) wv_O_80 ⟨by decide, by decide, by decide +kernel⟩ ⟨rfl, rfl, by decide, by decide⟩ rfl hl.1 ⟨Nat.le_of_ble_eq_true rfl, Nat.le_of_ble_eq_true rfl⟩ hP hK hD hS hAA hN [0, 1, 2, 3, 4, 5, 6, 7, 8, 9, 10, 11] [] rfl rfl (by decide) (by decide) (by decide) 0 1 rfl rfl rfl (Nat.le_of_ble_eq_true rfl) d_O_clause_105 (fun u H locs hu hP hD hS => ?_)
                  subst hu
                  have hP : va_P D vwCl (ow D q n P (rw + 1) a 0 (-1) lw s1 sd (upd kd rw 6) (upd (clr7 pa rw) (7 * rw + 0) i) (vp_updL (vp_updL wd (2 * rw) 0) (2 * rw + 1) 0) ao fo uo ho xo) H := hP
                  have hD : va_D A (ow D q n P (rw + 1) a 0 (-1) lw s1 sd (upd kd rw 6) (upd (clr7 pa rw) (7 * rw + 0) i) (vp_updL (vp_updL wd (2 * rw) 0) (2 * rw + 1) 0) ao fo uo ho xo) := hD
                  refine lv_aload_n hx hb d_O_clause_108 rfl (lv_at hl 2 rfl) ?_
                  refine lv_iload hx hb d_O_clause_109 (lv_at hl 0 rfl) ?_
                  refine lv_iconst (v := 1) hx hb d_O_clause_111 (by decide) ?_
                  refine lv_iload_n hx hb d_O_clause_112 rfl (lv_at hl 4 rfl) ?_
                  refine wVv (n := 3) (wr := []) (Wf := oW D q) (rest := []) hx hb hml hown hA (o_set l D q n P (rw + 1) a 0 (-1) lw s1 sd (upd kd rw 6) (upd (clr7 pa rw) (7 * rw + 0) i) (vp_updL (vp_updL wd (2 * rw) 0) (2 * rw + 1) 0) ao fo uo ho xo rw 1 w1 _ (by omega) (by decide)) wv_O_80 ⟨by decide, by decide, by decide +kernel⟩ ⟨rfl, rfl, by decide, by decide⟩ rfl hl.1 ⟨Nat.le_of_ble_eq_true rfl, Nat.le_of_ble_eq_true rfl⟩ hP hK hD hS hAA hN [0, 1, 2, 3, 4, 5, 6, 7, 8, 9, 10, 11] [] rfl rfl (by decide) (by decide) (by decide) 0 1 rfl rfl rfl (Nat.le_of_ble_eq_true rfl) d_O_clause_113 (fun u H locs hu hP hD hS => ?_)
                  subst hu
                  have hP : va_P D vwCl (ow D q n P (rw + 1) a 0 (-1) lw s1 sd (upd kd rw 6) (upd (upd (clr7 pa rw) (7 * rw + 0) i) (7 * rw + 1) w1) (vp_updL (vp_updL wd (2 * rw) 0) (2 * rw + 1) 0) ao fo uo ho xo) H := hP
                  have hD : va_D A (ow D q n P (rw + 1) a 0 (-1) lw s1 sd (upd kd rw 6) (upd (upd (clr7 pa rw) (7 * rw + 0) i) (7 * rw + 1) w1) (vp_updL (vp_updL wd (2 * rw) 0) (2 * rw + 1) 0) ao fo uo ho xo) := hD
                  refine lv_aload_n hx hb d_O_clause_116 rfl (lv_at hl 2 rfl) ?_
                  refine lv_iload hx hb d_O_clause_117 (lv_at hl 0 rfl) ?_
                  refine lv_iconst (v := 2) hx hb d_O_clause_119 (by decide) ?_
                  refine lv_iload_n hx hb d_O_clause_120 rfl (lv_at hl 5 rfl) ?_
                  refine wVv (n := 3) (wr := []) (Wf := oW D q) (rest := []) hx hb hml hown hA (o_set l D q n P (rw + 1) a 0 (-1) lw s1 sd (upd kd rw 6) (upd (upd (clr7 pa rw) (7 * rw + 0) i) (7 * rw + 1) w1) (vp_updL (vp_updL wd (2 * rw) 0) (2 * rw + 1) 0) ao fo uo ho xo rw 2 j _ (by omega) (by decide)) wv_O_80 ⟨by decide, by decide, by decide +kernel⟩ ⟨rfl, rfl, by decide, by decide⟩ rfl hl.1 ⟨Nat.le_of_ble_eq_true rfl, Nat.le_of_ble_eq_true rfl⟩ hP hK hD hS hAA hN [0, 1, 2, 3, 4, 5, 6, 7, 8, 9, 10, 11] [] rfl rfl (by decide) (by decide) (by decide) 0 1 rfl rfl rfl (Nat.le_of_ble_eq_true rfl) d_O_clause_121 (fun u H locs hu hP hD hS => ?_)
                  subst hu
                  have hP : va_P D vwCl (ow D q n P (rw + 1) a 0 (-1) lw s1 sd (upd kd rw 6) (upd (upd (upd (clr7 pa rw) (7 * rw + 0) i) (7 * rw + 1) w1) (7 * rw + 2) j) (vp_updL (vp_updL wd (2 * rw) 0) (2 * rw + 1) 0) ao fo uo ho xo) H := hP
                  have hD : va_D A (ow D q n P (rw + 1) a 0 (-1) lw s1 sd (upd kd rw 6) (upd (upd (upd (clr7 pa rw) (7 * rw + 0) i) (7 * rw + 1) w1) (7 * rw + 2) j) (vp_updL (vp_updL wd (2 * rw) 0) (2 * rw + 1) 0) ao fo uo ho xo) := hD
                  refine lv_aload_n hx hb d_O_clause_124 rfl (lv_at hl 2 rfl) ?_
                  refine lv_iload hx hb d_O_clause_125 (lv_at hl 0 rfl) ?_
                  refine lv_iconst (v := 3) hx hb d_O_clause_127 (by decide) ?_
                  refine lv_iload hx hb d_O_clause_128 (lv_at hl 6 rfl) ?_
                  refine wVv (n := 3) (wr := []) (Wf := oW D q) (rest := []) hx hb hml hown hA (o_set l D q n P (rw + 1) a 0 (-1) lw s1 sd (upd kd rw 6) (upd (upd (upd (clr7 pa rw) (7 * rw + 0) i) (7 * rw + 1) w1) (7 * rw + 2) j) (vp_updL (vp_updL wd (2 * rw) 0) (2 * rw + 1) 0) ao fo uo ho xo rw 3 w2 _ (by omega) (by decide)) wv_O_80 ⟨by decide, by decide, by decide +kernel⟩ ⟨rfl, rfl, by decide, by decide⟩ rfl hl.1 ⟨Nat.le_of_ble_eq_true rfl, Nat.le_of_ble_eq_true rfl⟩ hP hK hD hS hAA hN [0, 1, 2, 3, 4, 5, 6, 7, 8, 9, 10, 11] [] rfl rfl (by decide) (by decide) (by decide) 0 1 rfl rfl rfl (Nat.le_of_ble_eq_true rfl) d_O_clause_130 (fun u H locs hu hP hD hS => ?_)
                  subst hu
                  have hP : va_P D vwCl (ow D q n P (rw + 1) a 0 (-1) lw s1 sd (upd kd rw 6) (upd (upd (upd (upd (clr7 pa rw) (7 * rw + 0) i) (7 * rw + 1) w1) (7 * rw + 2) j) (7 * rw + 3) w2) (vp_updL (vp_updL wd (2 * rw) 0) (2 * rw + 1) 0) ao fo uo ho xo) H := hP
                  have hD : va_D A (ow D q n P (rw + 1) a 0 (-1) lw s1 sd (upd kd rw 6) (upd (upd (upd (upd (clr7 pa rw) (7 * rw + 0) i) (7 * rw + 1) w1) (7 * rw + 2) j) (7 * rw + 3) w2) (vp_updL (vp_updL wd (2 * rw) 0) (2 * rw + 1) 0) ao fo uo ho xo) := hD
                  refine lv_aload_n hx hb d_O_clause_133 rfl (lv_at hl 2 rfl) ?_
                  refine lv_iload hx hb d_O_clause_134 (lv_at hl 0 rfl) ?_
                  refine lv_iconst (v := 4) hx hb d_O_clause_136 (by decide) ?_
                  refine lv_iload hx hb d_O_clause_137 (lv_at hl 7 rfl) ?_
                  refine wVv (n := 3) (wr := []) (Wf := oW D q) (rest := []) hx hb hml hown hA (o_set l D q n P (rw + 1) a 0 (-1) lw s1 sd (upd kd rw 6) (upd (upd (upd (upd (clr7 pa rw) (7 * rw + 0) i) (7 * rw + 1) w1) (7 * rw + 2) j) (7 * rw + 3) w2) (vp_updL (vp_updL wd (2 * rw) 0) (2 * rw + 1) 0) ao fo uo ho xo rw 4 v _ (by omega) (by decide)) wv_O_80 ⟨by decide, by decide, by decide +kernel⟩ ⟨rfl, rfl, by decide, by decide⟩ rfl hl.1 ⟨Nat.le_of_ble_eq_true rfl, Nat.le_of_ble_eq_true rfl⟩ hP hK hD hS hAA hN [0, 1, 2, 3, 4, 5, 6, 7, 8, 9, 10, 11] [] rfl rfl (by decide) (by decide) (by decide) 0 1 rfl rfl rfl (Nat.le_of_ble_eq_true rfl) d_O_clause_139 (fun u H locs hu hP hD hS => ?_)
                  subst hu
                  have hP : va_P D vwCl (ow D q n P (rw + 1) a 0 (-1) lw s1 sd (upd kd rw 6) (upd (upd (upd (upd (upd (clr7 pa rw) (7 * rw + 0) i) (7 * rw + 1) w1) (7 * rw + 2) j) (7 * rw + 3) w2) (7 * rw + 4) v) (vp_updL (vp_updL wd (2 * rw) 0) (2 * rw + 1) 0) ao fo uo ho xo) H := hP
                  have hD : va_D A (ow D q n P (rw + 1) a 0 (-1) lw s1 sd (upd kd rw 6) (upd (upd (upd (upd (upd (clr7 pa rw) (7 * rw + 0) i) (7 * rw + 1) w1) (7 * rw + 2) j) (7 * rw + 3) w2) (7 * rw + 4) v) (vp_updL (vp_updL wd (2 * rw) 0) (2 * rw + 1) 0) ao fo uo ho xo) := hD
                  refine lv_aload_n hx hb d_O_clause_142 rfl (lv_at hl 2 rfl) ?_
                  refine lv_iload hx hb d_O_clause_143 (lv_at hl 0 rfl) ?_
                  refine lv_iconst (v := 5) hx hb d_O_clause_145 (by decide) ?_
                  refine lv_iload hx hb d_O_clause_146 (lv_at hl 8 rfl) ?_
                  refine wVv (n := 3) (wr := []) (Wf := oW D q) (rest := []) hx hb hml hown hA (o_set l D q n P (rw + 1) a 0 (-1) lw s1 sd (upd kd rw 6) (upd (upd (upd (upd (upd (clr7 pa rw) (7 * rw + 0) i) (7 * rw + 1) w1) (7 * rw + 2) j) (7 * rw + 3) w2) (7 * rw + 4) v) (vp_updL (vp_updL wd (2 * rw) 0) (2 * rw + 1) 0) ao fo uo ho xo rw 5 w3 _ (by omega) (by decide)) wv_O_80 ⟨by decide, by decide, by decide +kernel⟩ ⟨rfl, rfl, by decide, by decide⟩ rfl hl.1 ⟨Nat.le_of_ble_eq_true rfl, Nat.le_of_ble_eq_true rfl⟩ hP hK hD hS hAA hN [0, 1, 2, 3, 4, 5, 6, 7, 8, 9, 10, 11] [] rfl rfl (by decide) (by decide) (by decide) 0 1 rfl rfl rfl (Nat.le_of_ble_eq_true rfl) d_O_clause_148 (fun u H locs hu hP hD hS => ?_)
                  subst hu
                  have hP : va_P D vwCl (ow D q n P (rw + 1) a 0 (-1) lw s1 sd (upd kd rw 6) (upd (upd (upd (upd (upd (upd (clr7 pa rw) (7 * rw + 0) i) (7 * rw + 1) w1) (7 * rw + 2) j) (7 * rw + 3) w2) (7 * rw + 4) v) (7 * rw + 5) w3) (vp_updL (vp_updL wd (2 * rw) 0) (2 * rw + 1) 0) ao fo uo ho xo) H := hP
                  have hD : va_D A (ow D q n P (rw + 1) a 0 (-1) lw s1 sd (upd kd rw 6) (upd (upd (upd (upd (upd (upd (clr7 pa rw) (7 * rw + 0) i) (7 * rw + 1) w1) (7 * rw + 2) j) (7 * rw + 3) w2) (7 * rw + 4) v) (7 * rw + 5) w3) (vp_updL (vp_updL wd (2 * rw) 0) (2 * rw + 1) 0) ao fo uo ho xo) := hD
                  refine lv_aload_n hx hb d_O_clause_151 rfl (lv_at hl 2 rfl) ?_
                  refine lv_iload hx hb d_O_clause_152 (lv_at hl 0 rfl) ?_
                  refine lv_bipush (v := 6) hx hb d_O_clause_154 (by decide) ?_
                  refine lv_iload hx hb d_O_clause_156 (lv_at hl 9 rfl) ?_
                  refine wVv (n := 3) (wr := []) (Wf := oW D q) (rest := []) hx hb hml hown hA (o_set l D q n P (rw + 1) a 0 (-1) lw s1 sd (upd kd rw 6) (upd (upd (upd (upd (upd (upd (clr7 pa rw) (7 * rw + 0) i) (7 * rw + 1) w1) (7 * rw + 2) j) (7 * rw + 3) w2) (7 * rw + 4) v) (7 * rw + 5) w3) (vp_updL (vp_updL wd (2 * rw) 0) (2 * rw + 1) 0) ao fo uo ho xo rw 6 how _ (by omega) (by decide)) wv_O_80 ⟨by decide, by decide, by decide +kernel⟩ ⟨rfl, rfl, by decide, by decide⟩ rfl hl.1 ⟨Nat.le_of_ble_eq_true rfl, Nat.le_of_ble_eq_true rfl⟩ hP hK hD hS hAA hN [0, 1, 2, 3, 4, 5, 6, 7, 8, 9, 10, 11] [] rfl rfl (by decide) (by decide) (by decide) 0 1 rfl rfl rfl (Nat.le_of_ble_eq_true rfl) d_O_clause_158 (fun u H locs hu hP hD hS => ?_)
                  subst hu
                  have hP : va_P D vwCl (ow D q n P (rw + 1) a 0 (-1) lw s1 sd (upd kd rw 6) (upd (upd (upd (upd (upd (upd (upd (clr7 pa rw) (7 * rw + 0) i) (7 * rw + 1) w1) (7 * rw + 2) j) (7 * rw + 3) w2) (7 * rw + 4) v) (7 * rw + 5) w3) (7 * rw + 6) how) (vp_updL (vp_updL wd (2 * rw) 0) (2 * rw + 1) 0) ao fo uo ho xo) H := hP
                  have hD : va_D A (ow D q n P (rw + 1) a 0 (-1) lw s1 sd (upd kd rw 6) (upd (upd (upd (upd (upd (upd (upd (clr7 pa rw) (7 * rw + 0) i) (7 * rw + 1) w1) (7 * rw + 2) j) (7 * rw + 3) w2) (7 * rw + 4) v) (7 * rw + 5) w3) (7 * rw + 6) how) (vp_updL (vp_updL wd (2 * rw) 0) (2 * rw + 1) 0) ao fo uo ho xo) := hD
                  refine lv_iload hx hb d_O_clause_161 (lv_at hl 0 rfl) ?_
                  exact eWi (n, P, (rw + 1), a, 0, -1, lw, s1, sd, upd kd rw 6, upd (upd (upd (upd (upd (upd (upd (clr7 pa rw) (7 * rw + 0) i) (7 * rw + 1) w1) (7 * rw + 2) j) (7 * rw + 3) w2) (7 * rw + 4) v) (7 * rw + 5) w3) (7 * rw + 6) how, vp_updL (vp_updL wd (2 * rw) 0) (2 * rw + 1) 0, ao, fo, uo, ho, xo) hx hb hr hlocks hP hK hD hS (Or.inr ⟨⟨h2, h10, h19, h30, h42, h54, h65⟩, Or.inr ⟨hr12, rfl, rfl⟩⟩) d_O_clause_163
              · skip
                refine lv_if_eq (tgt := 75) hx hb d_O_clause_68 (by decide) (fun _ => ?_) (fun h => absurd h (by decide))
                refine lv_iconst (v := 0) hx hb d_O_clause_75 (by decide) ?_
                refine lv_istore hx hb d_O_clause_76 hl (by decide) rfl (fun ls hl => ?_)
                have hl : lv_has ls 10 [(8, .int 0), (0, .ref (q 0)), (1, .int i), (2, .int w1), (3, .int j), (4, .int w2), (5, .int v), (6, .int w3), (7, .int how)] := hl
                refine lv_iload hx hb d_O_clause_78 (lv_at hl 0 rfl) ?_
                refine lv_if_ne (tgt := 85) hx hb d_O_clause_80 (by decide) (fun h => absurd h (by decide)) (fun _ => ?_)
                refine lv_iconst (v := (-1)) hx hb d_O_clause_83 (by decide) ?_
                exact eWi (n, P, rw, a, kn, an, lw, s1, sd, kd, pa, wd, ao, fo, uo, ho, xo) hx hb hr hlocks hP hK hD hS (Or.inl ⟨fun h => h65 (h.2.2.2.2.2.2), rfl, rfl⟩) d_O_clause_84
            · skip
              refine lv_if_eq (tgt := 75) hx hb d_O_clause_57 (by decide) (fun _ => ?_) (fun h => absurd h (by decide))
              refine lv_iconst (v := 0) hx hb d_O_clause_75 (by decide) ?_
              refine lv_istore hx hb d_O_clause_76 hl (by decide) rfl (fun ls hl => ?_)
              have hl : lv_has ls 10 [(8, .int 0), (0, .ref (q 0)), (1, .int i), (2, .int w1), (3, .int j), (4, .int w2), (5, .int v), (6, .int w3), (7, .int how)] := hl
              refine lv_iload hx hb d_O_clause_78 (lv_at hl 0 rfl) ?_
              refine lv_if_ne (tgt := 85) hx hb d_O_clause_80 (by decide) (fun h => absurd h (by decide)) (fun _ => ?_)
              refine lv_iconst (v := (-1)) hx hb d_O_clause_83 (by decide) ?_
              exact eWi (n, P, rw, a, kn, an, lw, s1, sd, kd, pa, wd, ao, fo, uo, ho, xo) hx hb hr hlocks hP hK hD hS (Or.inl ⟨fun h => h54 (h.2.2.2.2.2.1), rfl, rfl⟩) d_O_clause_84
          · skip
            refine lv_if_eq (tgt := 75) hx hb d_O_clause_45 (by decide) (fun _ => ?_) (fun h => absurd h (by decide))
            refine lv_iconst (v := 0) hx hb d_O_clause_75 (by decide) ?_
            refine lv_istore hx hb d_O_clause_76 hl (by decide) rfl (fun ls hl => ?_)
            have hl : lv_has ls 10 [(8, .int 0), (0, .ref (q 0)), (1, .int i), (2, .int w1), (3, .int j), (4, .int w2), (5, .int v), (6, .int w3), (7, .int how)] := hl
            refine lv_iload hx hb d_O_clause_78 (lv_at hl 0 rfl) ?_
            refine lv_if_ne (tgt := 85) hx hb d_O_clause_80 (by decide) (fun h => absurd h (by decide)) (fun _ => ?_)
            refine lv_iconst (v := (-1)) hx hb d_O_clause_83 (by decide) ?_
            exact eWi (n, P, rw, a, kn, an, lw, s1, sd, kd, pa, wd, ao, fo, uo, ho, xo) hx hb hr hlocks hP hK hD hS (Or.inl ⟨fun h => h42 (h.2.2.2.2.1), rfl, rfl⟩) d_O_clause_84
        · skip
          refine lv_if_eq (tgt := 75) hx hb d_O_clause_33 (by decide) (fun _ => ?_) (fun h => absurd h (by decide))
          refine lv_iconst (v := 0) hx hb d_O_clause_75 (by decide) ?_
          refine lv_istore hx hb d_O_clause_76 hl (by decide) rfl (fun ls hl => ?_)
          have hl : lv_has ls 10 [(8, .int 0), (0, .ref (q 0)), (1, .int i), (2, .int w1), (3, .int j), (4, .int w2), (5, .int v), (6, .int w3), (7, .int how)] := hl
          refine lv_iload hx hb d_O_clause_78 (lv_at hl 0 rfl) ?_
          refine lv_if_ne (tgt := 85) hx hb d_O_clause_80 (by decide) (fun h => absurd h (by decide)) (fun _ => ?_)
          refine lv_iconst (v := (-1)) hx hb d_O_clause_83 (by decide) ?_
          exact eWi (n, P, rw, a, kn, an, lw, s1, sd, kd, pa, wd, ao, fo, uo, ho, xo) hx hb hr hlocks hP hK hD hS (Or.inl ⟨fun h => h30 (h.2.2.2.1), rfl, rfl⟩) d_O_clause_84
      · skip
        refine lv_if_eq (tgt := 75) hx hb d_O_clause_22 (by decide) (fun _ => ?_) (fun h => absurd h (by decide))
        refine lv_iconst (v := 0) hx hb d_O_clause_75 (by decide) ?_
        refine lv_istore hx hb d_O_clause_76 hl (by decide) rfl (fun ls hl => ?_)
        have hl : lv_has ls 10 [(8, .int 0), (0, .ref (q 0)), (1, .int i), (2, .int w1), (3, .int j), (4, .int w2), (5, .int v), (6, .int w3), (7, .int how)] := hl
        refine lv_iload hx hb d_O_clause_78 (lv_at hl 0 rfl) ?_
        refine lv_if_ne (tgt := 85) hx hb d_O_clause_80 (by decide) (fun h => absurd h (by decide)) (fun _ => ?_)
        refine lv_iconst (v := (-1)) hx hb d_O_clause_83 (by decide) ?_
        exact eWi (n, P, rw, a, kn, an, lw, s1, sd, kd, pa, wd, ao, fo, uo, ho, xo) hx hb hr hlocks hP hK hD hS (Or.inl ⟨fun h => h19 (h.2.2.1), rfl, rfl⟩) d_O_clause_84
    · skip
      refine lv_if_eq (tgt := 75) hx hb d_O_clause_13 (by decide) (fun _ => ?_) (fun h => absurd h (by decide))
      refine lv_iconst (v := 0) hx hb d_O_clause_75 (by decide) ?_
      refine lv_istore hx hb d_O_clause_76 hl (by decide) rfl (fun ls hl => ?_)
      have hl : lv_has ls 10 [(8, .int 0), (0, .ref (q 0)), (1, .int i), (2, .int w1), (3, .int j), (4, .int w2), (5, .int v), (6, .int w3), (7, .int how)] := hl
      refine lv_iload hx hb d_O_clause_78 (lv_at hl 0 rfl) ?_
      refine lv_if_ne (tgt := 85) hx hb d_O_clause_80 (by decide) (fun h => absurd h (by decide)) (fun _ => ?_)
      refine lv_iconst (v := (-1)) hx hb d_O_clause_83 (by decide) ?_
      exact eWi (n, P, rw, a, kn, an, lw, s1, sd, kd, pa, wd, ao, fo, uo, ho, xo) hx hb hr hlocks hP hK hD hS (Or.inl ⟨fun h => h10 (h.2.1), rfl, rfl⟩) d_O_clause_84
  · skip
    refine lv_if_eq (tgt := 75) hx hb d_O_clause_5 (by decide) (fun _ => ?_) (fun h => absurd h (by decide))
    refine lv_iconst (v := 0) hx hb d_O_clause_75 (by decide) ?_
    refine lv_istore hx hb d_O_clause_76 hl (by decide) rfl (fun ls hl => ?_)
    have hl : lv_has ls 10 [(8, .int 0), (0, .ref (q 0)), (1, .int i), (2, .int w1), (3, .int j), (4, .int w2), (5, .int v), (6, .int w3), (7, .int how)] := hl
    refine lv_iload hx hb d_O_clause_78 (lv_at hl 0 rfl) ?_
    refine lv_if_ne (tgt := 85) hx hb d_O_clause_80 (by decide) (fun h => absurd h (by decide)) (fun _ => ?_)
    refine lv_iconst (v := (-1)) hx hb d_O_clause_83 (by decide) ?_
    exact eWi (n, P, rw, a, kn, an, lw, s1, sd, kd, pa, wd, ao, fo, uo, ho, xo) hx hb hr hlocks hP hK hD hS (Or.inl ⟨fun h => h2 (h.1), rfl, rfl⟩) d_O_clause_84
end
