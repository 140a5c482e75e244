section
theorem ws_O_isPart : Cond.selects R_O y_O_isPart y_O_isPart ∈ cA := cA_in (List.mem_append_left _ (List.mem_of_getElem? (i := 14) (by decide +kernel))) rfl
theorem ws_O_add : Cond.selects R_O y_O_add y_O_add ∈ cA := cA_in (List.mem_append_left _ (List.mem_of_getElem? (i := 16) (by decide +kernel))) rfl
theorem ws_O_set : Cond.selects R_O y_O_set y_O_set ∈ cA := cA_in (List.mem_append_left _ (List.mem_of_getElem? (i := 17) (by decide +kernel))) rfl
theorem wv_O_69 : Cond.code y_O_isPart b_O_isPart 2 (some .boolean) ∈ cA ∧ Cond.initialized y_O_isPart.cls ∈ cA ∧ Cond.methodLink R_O 69 y_O_isPart ∈ cA ∧ Cond.instanceMethod y_O_isPart ∈ cA ∧ Cond.selects y_O_isPart.cls y_O_isPart y_O_isPart ∈ cA := ⟨wd_491, wd_3, wd_488, wd_490, ws_O_isPart⟩
theorem wv_O_72 : Cond.code y_O_within b_O_within 3 (some .boolean) ∈ cA ∧ Cond.initialized y_O_within.cls ∈ cA ∧ Cond.methodLink R_O 72 y_O_within ∈ cA ∧ Cond.static y_O_within ∈ cA := ⟨wd_498, wd_3, wd_496, wd_497⟩
theorem wv_O_76 : Cond.code y_O_add b_O_add 7 (some .int) ∈ cA ∧ Cond.initialized y_O_add.cls ∈ cA ∧ Cond.methodLink R_O 76 y_O_add ∈ cA ∧ Cond.instanceMethod y_O_add ∈ cA ∧ Cond.selects y_O_add.cls y_O_add y_O_add ∈ cA := ⟨wd_502, wd_3, wd_499, wd_501, ws_O_add⟩
theorem wv_O_80 : Cond.code y_O_set b_O_set 4 none ∈ cA ∧ Cond.initialized y_O_set.cls ∈ cA ∧ Cond.methodLink R_O 80 y_O_set ∈ cA ∧ Cond.instanceMethod y_O_set ∈ cA ∧ Cond.selects y_O_set.cls y_O_set y_O_set ∈ cA := ⟨wd_506, wd_3, wd_503, wd_505, ws_O_set⟩
theorem d_O_linear_0 : decode b_O_linear 0 = .ok (.aload_n 0, 1) := by decide +kernel
theorem d_O_linear_1 : decode b_O_linear 1 = .ok (.iload_n 1, 1) := by decide +kernel
theorem d_O_linear_2 : decode b_O_linear 2 = .ok (.invokevirtual 69, 3) := by decide +kernel
theorem d_O_linear_5 : decode b_O_linear 5 = .ok (.ifCond .eq 73, 3) := by decide +kernel
theorem d_O_linear_8 : decode b_O_linear 8 = .ok (.aload_n 0, 1) := by decide +kernel
theorem d_O_linear_9 : decode b_O_linear 9 = .ok (.iload_n 3, 1) := by decide +kernel
theorem d_O_linear_10 : decode b_O_linear 10 = .ok (.invokevirtual 69, 3) := by decide +kernel
theorem d_O_linear_13 : decode b_O_linear 13 = .ok (.ifCond .eq 65, 3) := by decide +kernel
theorem d_O_linear_16 : decode b_O_linear 16 = .ok (.aload_n 0, 1) := by decide +kernel
theorem d_O_linear_17 : decode b_O_linear 17 = .ok (.iload 5, 2) := by decide +kernel
theorem d_O_linear_19 : decode b_O_linear 19 = .ok (.invokevirtual 69, 3) := by decide +kernel
theorem d_O_linear_22 : decode b_O_linear 22 = .ok (.ifCond .eq 56, 3) := by decide +kernel
theorem d_O_linear_25 : decode b_O_linear 25 = .ok (.iload_n 2, 1) := by decide +kernel
theorem d_O_linear_26 : decode b_O_linear 26 = .ok (.bipush (-9), 2) := by decide +kernel
theorem d_O_linear_28 : decode b_O_linear 28 = .ok (.bipush 9, 2) := by decide +kernel
theorem d_O_linear_30 : decode b_O_linear 30 = .ok (.invokestatic 72, 3) := by decide +kernel
theorem d_O_linear_33 : decode b_O_linear 33 = .ok (.ifCond .eq 45, 3) := by decide +kernel
theorem d_O_linear_36 : decode b_O_linear 36 = .ok (.iload 4, 2) := by decide +kernel
theorem d_O_linear_38 : decode b_O_linear 38 = .ok (.bipush (-9), 2) := by decide +kernel
theorem d_O_linear_40 : decode b_O_linear 40 = .ok (.bipush 9, 2) := by decide +kernel
theorem d_O_linear_42 : decode b_O_linear 42 = .ok (.invokestatic 72, 3) := by decide +kernel
theorem d_O_linear_45 : decode b_O_linear 45 = .ok (.ifCond .eq 33, 3) := by decide +kernel
theorem d_O_linear_48 : decode b_O_linear 48 = .ok (.iload 6, 2) := by decide +kernel
theorem d_O_linear_50 : decode b_O_linear 50 = .ok (.bipush (-9), 2) := by decide +kernel
theorem d_O_linear_52 : decode b_O_linear 52 = .ok (.bipush 9, 2) := by decide +kernel
theorem d_O_linear_54 : decode b_O_linear 54 = .ok (.invokestatic 72, 3) := by decide +kernel
theorem d_O_linear_57 : decode b_O_linear 57 = .ok (.ifCond .eq 21, 3) := by decide +kernel
theorem d_O_linear_60 : decode b_O_linear 60 = .ok (.iload 7, 2) := by decide +kernel
theorem d_O_linear_62 : decode b_O_linear 62 = .ok (.sipush (-1000), 3) := by decide +kernel
theorem d_O_linear_65 : decode b_O_linear 65 = .ok (.sipush 1000, 3) := by decide +kernel
theorem d_O_linear_68 : decode b_O_linear 68 = .ok (.invokestatic 72, 3) := by decide +kernel
theorem d_O_linear_71 : decode b_O_linear 71 = .ok (.ifCond .eq 7, 3) := by decide +kernel
theorem d_O_linear_74 : decode b_O_linear 74 = .ok (.iconst 1, 1) := by decide +kernel
theorem d_O_linear_75 : decode b_O_linear 75 = .ok (.goto 4, 3) := by decide +kernel
theorem d_O_linear_78 : decode b_O_linear 78 = .ok (.iconst 0, 1) := by decide +kernel
theorem d_O_linear_79 : decode b_O_linear 79 = .ok (.istore 8, 2) := by decide +kernel
theorem d_O_linear_81 : decode b_O_linear 81 = .ok (.iload 8, 2) := by decide +kernel
theorem d_O_linear_83 : decode b_O_linear 83 = .ok (.ifCond .ne 5, 3) := by decide +kernel
theorem d_O_linear_86 : decode b_O_linear 86 = .ok (.iconst (-1), 1) := by decide +kernel
theorem d_O_linear_87 : decode b_O_linear 87 = .ok (.ireturn, 1) := by decide +kernel
theorem d_O_linear_88 : decode b_O_linear 88 = .ok (.aload_n 0, 1) := by decide +kernel
theorem d_O_linear_89 : decode b_O_linear 89 = .ok (.iconst 0, 1) := by decide +kernel
theorem d_O_linear_90 : decode b_O_linear 90 = .ok (.lconst 0, 1) := by decide +kernel
theorem d_O_linear_91 : decode b_O_linear 91 = .ok (.lconst 0, 1) := by decide +kernel
theorem d_O_linear_92 : decode b_O_linear 92 = .ok (.invokevirtual 76, 3) := by decide +kernel
theorem d_O_linear_95 : decode b_O_linear 95 = .ok (.istore 9, 2) := by decide +kernel
theorem d_O_linear_97 : decode b_O_linear 97 = .ok (.iload 9, 2) := by decide +kernel
theorem d_O_linear_99 : decode b_O_linear 99 = .ok (.ifCond .lt 64, 3) := by decide +kernel
theorem d_O_linear_102 : decode b_O_linear 102 = .ok (.aload_n 0, 1) := by decide +kernel
theorem d_O_linear_103 : decode b_O_linear 103 = .ok (.iload 9, 2) := by decide +kernel
theorem d_O_linear_105 : decode b_O_linear 105 = .ok (.iconst 0, 1) := by decide +kernel
theorem d_O_linear_106 : decode b_O_linear 106 = .ok (.iload_n 1, 1) := by decide +kernel
theorem d_O_linear_107 : decode b_O_linear 107 = .ok (.invokevirtual 80, 3) := by decide +kernel
theorem d_O_linear_110 : decode b_O_linear 110 = .ok (.aload_n 0, 1) := by decide +kernel
theorem d_O_linear_111 : decode b_O_linear 111 = .ok (.iload 9, 2) := by decide +kernel
theorem d_O_linear_113 : decode b_O_linear 113 = .ok (.iconst 1, 1) := by decide +kernel
theorem d_O_linear_114 : decode b_O_linear 114 = .ok (.iload_n 2, 1) := by decide +kernel
theorem d_O_linear_115 : decode b_O_linear 115 = .ok (.invokevirtual 80, 3) := by decide +kernel
theorem d_O_linear_118 : decode b_O_linear 118 = .ok (.aload_n 0, 1) := by decide +kernel
theorem d_O_linear_119 : decode b_O_linear 119 = .ok (.iload 9, 2) := by decide +kernel
theorem d_O_linear_121 : decode b_O_linear 121 = .ok (.iconst 2, 1) := by decide +kernel
theorem d_O_linear_122 : decode b_O_linear 122 = .ok (.iload_n 3, 1) := by decide +kernel
theorem d_O_linear_123 : decode b_O_linear 123 = .ok (.invokevirtual 80, 3) := by decide +kernel
theorem d_O_linear_126 : decode b_O_linear 126 = .ok (.aload_n 0, 1) := by decide +kernel
theorem d_O_linear_127 : decode b_O_linear 127 = .ok (.iload 9, 2) := by decide +kernel
theorem d_O_linear_129 : decode b_O_linear 129 = .ok (.iconst 3, 1) := by decide +kernel
theorem d_O_linear_130 : decode b_O_linear 130 = .ok (.iload 4, 2) := by decide +kernel
theorem d_O_linear_132 : decode b_O_linear 132 = .ok (.invokevirtual 80, 3) := by decide +kernel
theorem d_O_linear_135 : decode b_O_linear 135 = .ok (.aload_n 0, 1) := by decide +kernel
theorem d_O_linear_136 : decode b_O_linear 136 = .ok (.iload 9, 2) := by decide +kernel
theorem d_O_linear_138 : decode b_O_linear 138 = .ok (.iconst 4, 1) := by decide +kernel
theorem d_O_linear_139 : decode b_O_linear 139 = .ok (.iload 5, 2) := by decide +kernel
theorem d_O_linear_141 : decode b_O_linear 141 = .ok (.invokevirtual 80, 3) := by decide +kernel
theorem d_O_linear_144 : decode b_O_linear 144 = .ok (.aload_n 0, 1) := by decide +kernel
theorem d_O_linear_145 : decode b_O_linear 145 = .ok (.iload 9, 2) := by decide +kernel
theorem d_O_linear_147 : decode b_O_linear 147 = .ok (.iconst 5, 1) := by decide +kernel
theorem d_O_linear_148 : decode b_O_linear 148 = .ok (.iload 6, 2) := by decide +kernel
theorem d_O_linear_150 : decode b_O_linear 150 = .ok (.invokevirtual 80, 3) := by decide +kernel
theorem d_O_linear_153 : decode b_O_linear 153 = .ok (.aload_n 0, 1) := by decide +kernel
theorem d_O_linear_154 : decode b_O_linear 154 = .ok (.iload 9, 2) := by decide +kernel
theorem d_O_linear_156 : decode b_O_linear 156 = .ok (.bipush 6, 2) := by decide +kernel
theorem d_O_linear_158 : decode b_O_linear 158 = .ok (.iload 7, 2) := by decide +kernel
theorem d_O_linear_160 : decode b_O_linear 160 = .ok (.invokevirtual 80, 3) := by decide +kernel
theorem d_O_linear_163 : decode b_O_linear 163 = .ok (.iload 9, 2) := by decide +kernel
theorem d_O_linear_165 : decode b_O_linear 165 = .ok (.ireturn, 1) := by decide +kernel
set_option maxRecDepth 100000 in
set_option maxHeartbeats 4000000 in
theorem o_linear (l : Launch) (D : va_G) (q : Nat → Nat) (n P rw a : Nat) (kn an : Int32) (lw s1 sd kd pa : Nat → Int32) (wd : Nat → Int64) (ao fo uo ho xo : Nat → Int32) (i fa j fb v fc bd : Int32) (sz : Nat) (hrw : rw ≤ 12) : Met l y_O_linear (wsm y_O_linear b_O_linear 10 (some .int)) { frames := 2, cells := 0, slots := 0, locals := 46 } (va_Pc [.ref (q 0), .int i, .int fa, .int j, .int fb, .int v, .int fc, .int bd] (fun U => U.heap.size = sz ∧ cPre D (ow D q n P rw a kn an lw s1 sd kd pa wd ao fo uo ho xo) U)) (va_Qi (fun (r : Int32) (u : OS) => (¬ (iva n i ∧ iva n j ∧ iva n v ∧ wi3 fa (-9) 9 ∧ wi3 fb (-9) 9 ∧ wi3 fc (-9) 9 ∧ wi3 bd (-1000) 1000) ∧ r = -1 ∧ u = (n, P, rw, a, kn, an, lw, s1, sd, kd, pa, wd, ao, fo, uo, ho, xo)) ∨ ((iva n i ∧ iva n j ∧ iva n v ∧ wi3 fa (-9) 9 ∧ wi3 fb (-9) 9 ∧ wi3 fc (-9) 9 ∧ wi3 bd (-1000) 1000) ∧ ((¬ rw < 12 ∧ r = -2 ∧ u = (n, P, rw, a, kn, an, lw, s1, sd, kd, pa, wd, ao, fo, uo, ho, xo)) ∨ (rw < 12 ∧ r = nI rw ∧ u = (n, P, rw + 1, a, 0, -1, lw, s1, sd, upd kd rw 0, upd (upd (upd (upd (upd (upd (upd (clr7 pa rw) (7 * rw + 0) i) (7 * rw + 1) fa) (7 * rw + 2) j) (7 * rw + 3) fb) (7 * rw + 4) v) (7 * rw + 5) fc) (7 * rw + 6) bd, vp_updL (vp_updL wd (2 * rw) 0) (2 * rw + 1) 0, ao, fo, uo, ho, xo))))) (fun u t => xB D (oW D q u) (va_A (ow D q n P rw a kn an lw s1 sd kd pa wd ao fo uo ho xo) sz) t) (va_A (ow D q n P rw a kn an lw s1 sd kd pa wd ao fo uo ho xo) sz)) 0 0 (va_A (ow D q n P rw a kn an lw s1 sd kd pa wd ao fo uo ho xo) sz) := by
  refine met_W (Qf := fun A => va_Qi (fun (r : Int32) (u : OS) => (¬ (iva n i ∧ iva n j ∧ iva n v ∧ wi3 fa (-9) 9 ∧ wi3 fb (-9) 9 ∧ wi3 fc (-9) 9 ∧ wi3 bd (-1000) 1000) ∧ r = -1 ∧ u = (n, P, rw, a, kn, an, lw, s1, sd, kd, pa, wd, ao, fo, uo, ho, xo)) ∨ ((iva n i ∧ iva n j ∧ iva n v ∧ wi3 fa (-9) 9 ∧ wi3 fb (-9) 9 ∧ wi3 fc (-9) 9 ∧ wi3 bd (-1000) 1000) ∧ ((¬ rw < 12 ∧ r = -2 ∧ u = (n, P, rw, a, kn, an, lw, s1, sd, kd, pa, wd, ao, fo, uo, ho, xo)) ∨ (rw < 12 ∧ r = nI rw ∧ u = (n, P, rw + 1, a, 0, -1, lw, s1, sd, upd kd rw 0, upd (upd (upd (upd (upd (upd (upd (clr7 pa rw) (7 * rw + 0) i) (7 * rw + 1) fa) (7 * rw + 2) j) (7 * rw + 3) fb) (7 * rw + 4) v) (7 * rw + 5) fc) (7 * rw + 6) bd, vp_updL (vp_updL wd (2 * rw) 0) (2 * rw + 1) 0, ao, fo, uo, ho, xo))))) (fun u t => xB D (oW D q u) A t) A) (by decide) (Nat.le_of_ble_eq_true rfl) ?_
  intro p e s m below meth c ls A hx hb hr hlocks hml hown hin hA hP hK hD hN hl hS hAA
  have hown : s.vm.findClass R_O = some m.cls := hown
  have hl : lv_has ls 10 [(0, .ref (q 0)), (1, .int i), (2, .int fa), (3, .int j), (4, .int fb), (5, .int v), (6, .int fc), (7, .int bd)] := hl
  refine lv_aload_n hx hb d_O_linear_0 rfl (lv_at hl 0 rfl) ?_
  refine lv_iload_n hx hb d_O_linear_1 rfl (lv_at hl 1 rfl) ?_
  refine rV (n := 1) (rest := []) hx hb hml hown hA (o_isPart l D q n P rw a kn an lw s1 sd kd pa wd ao fo uo ho xo i) wv_O_69 ⟨by decide, by decide, by decide +kernel⟩ ⟨rfl, rfl, by decide, by decide⟩ rfl hl.1 ⟨Nat.le_of_ble_eq_true rfl, Nat.le_of_ble_eq_true rfl⟩ hP hK hD hN 0 1 rfl rfl rfl (Nat.le_of_ble_eq_true rfl) d_O_linear_2 (fun r hr9 => ?_)
  rcases zb_c hr9 with ⟨rfl, h2⟩ | ⟨rfl, h2⟩
  · skip
    refine lv_if_eq (tgt := 78) hx hb d_O_linear_5 (by decide) (fun h => absurd h (by decide)) (fun _ => ?_)
    refine lv_aload_n hx hb d_O_linear_8 rfl (lv_at hl 0 rfl) ?_
    refine lv_iload_n hx hb d_O_linear_9 rfl (lv_at hl 3 rfl) ?_
    refine rV (n := 1) (rest := []) hx hb hml hown hA (o_isPart l D q n P rw a kn an lw s1 sd kd pa wd ao fo uo ho xo j) wv_O_69 ⟨by decide, by decide, by decide +kernel⟩ ⟨rfl, rfl, by decide, by decide⟩ rfl hl.1 ⟨Nat.le_of_ble_eq_true rfl, Nat.le_of_ble_eq_true rfl⟩ hP hK hD hN 0 1 rfl rfl rfl (Nat.le_of_ble_eq_true rfl) d_O_linear_10 (fun r hr9 => ?_)
    rcases zb_c hr9 with ⟨rfl, h10⟩ | ⟨rfl, h10⟩
    · skip
      refine lv_if_eq (tgt := 78) hx hb d_O_linear_13 (by decide) (fun h => absurd h (by decide)) (fun _ => ?_)
      refine lv_aload_n hx hb d_O_linear_16 rfl (lv_at hl 0 rfl) ?_
      refine lv_iload hx hb d_O_linear_17 (lv_at hl 5 rfl) ?_
      refine rV (n := 1) (rest := []) hx hb hml hown hA (o_isPart l D q n P rw a kn an lw s1 sd kd pa wd ao fo uo ho xo v) wv_O_69 ⟨by decide, by decide, by decide +kernel⟩ ⟨rfl, rfl, by decide, by decide⟩ rfl hl.1 ⟨Nat.le_of_ble_eq_true rfl, Nat.le_of_ble_eq_true rfl⟩ hP hK hD hN 0 1 rfl rfl rfl (Nat.le_of_ble_eq_true rfl) d_O_linear_19 (fun r hr9 => ?_)
      rcases zb_c hr9 with ⟨rfl, h19⟩ | ⟨rfl, h19⟩
      · skip
        refine lv_if_eq (tgt := 78) hx hb d_O_linear_22 (by decide) (fun h => absurd h (by decide)) (fun _ => ?_)
        refine lv_iload_n hx hb d_O_linear_25 rfl (lv_at hl 2 rfl) ?_
        refine lv_bipush (v := (-9)) hx hb d_O_linear_26 (by decide) ?_
        refine lv_bipush (v := 9) hx hb d_O_linear_28 (by decide) ?_
        refine rS (n := 3) (rest := []) hx hb hml hown hA (o_within l D fa (-9) 9) wv_O_72 ⟨by decide, by decide, by decide +kernel⟩ ⟨rfl, rfl, by decide, by decide⟩ rfl hl.1 ⟨Nat.le_of_ble_eq_true rfl, Nat.le_of_ble_eq_true rfl⟩ (va_P.sub1 hP [] rfl) hK (va_D.sub hD [] rfl rfl) hN rfl (Nat.le_of_ble_eq_true rfl) d_O_linear_30 (fun r hr9 => ?_)
        rcases zb_c hr9 with ⟨rfl, h30⟩ | ⟨rfl, h30⟩
        · skip
          refine lv_if_eq (tgt := 78) hx hb d_O_linear_33 (by decide) (fun h => absurd h (by decide)) (fun _ => ?_)
          refine lv_iload hx hb d_O_linear_36 (lv_at hl 4 rfl) ?_
          refine lv_bipush (v := (-9)) hx hb d_O_linear_38 (by decide) ?_
          refine lv_bipush (v := 9) hx hb d_O_linear_40 (by decide) ?_
          refine rS (n := 3) (rest := []) hx hb hml hown hA (o_within l D fb (-9) 9) wv_O_72 ⟨by decide, by decide, by decide +kernel⟩ ⟨rfl, rfl, by decide, by decide⟩ rfl hl.1 ⟨Nat.le_of_ble_eq_true rfl, Nat.le_of_ble_eq_true rfl⟩ (va_P.sub1 hP [] rfl) hK (va_D.sub hD [] rfl rfl) hN rfl (Nat.le_of_ble_eq_true rfl) d_O_linear_42 (fun r hr9 => ?_)
          rcases zb_c hr9 with ⟨rfl, h42⟩ | ⟨rfl, h42⟩
          · skip
            refine lv_if_eq (tgt := 78) hx hb d_O_linear_45 (by decide) (fun h => absurd h (by decide)) (fun _ => ?_)
            refine lv_iload hx hb d_O_linear_48 (lv_at hl 6 rfl) ?_
            refine lv_bipush (v := (-9)) hx hb d_O_linear_50 (by decide) ?_
            refine lv_bipush (v := 9) hx hb d_O_linear_52 (by decide) ?_
            refine rS (n := 3) (rest := []) hx hb hml hown hA (o_within l D fc (-9) 9) wv_O_72 ⟨by decide, by decide, by decide +kernel⟩ ⟨rfl, rfl, by decide, by decide⟩ rfl hl.1 ⟨Nat.le_of_ble_eq_true rfl, Nat.le_of_ble_eq_true rfl⟩ (va_P.sub1 hP [] rfl) hK (va_D.sub hD [] rfl rfl) hN rfl (Nat.le_of_ble_eq_true rfl) d_O_linear_54 (fun r hr9 => ?_)
            rcases zb_c hr9 with ⟨rfl, h54⟩ | ⟨rfl, h54⟩
            · skip
              refine lv_if_eq (tgt := 78) hx hb d_O_linear_57 (by decide) (fun h => absurd h (by decide)) (fun _ => ?_)
              refine lv_iload hx hb d_O_linear_60 (lv_at hl 7 rfl) ?_
              refine lv_sipush (v := (-1000)) hx hb d_O_linear_62 (by decide) ?_
              refine lv_sipush (v := 1000) hx hb d_O_linear_65 (by decide) ?_
              refine rS (n := 3) (rest := []) hx hb hml hown hA (o_within l D bd (-1000) 1000) wv_O_72 ⟨by decide, by decide, by decide +kernel⟩ ⟨rfl, rfl, by decide, by decide⟩ rfl hl.1 ⟨Nat.le_of_ble_eq_true rfl, Nat.le_of_ble_eq_true rfl⟩ (va_P.sub1 hP [] rfl) hK (va_D.sub hD [] rfl rfl) hN rfl (Nat.le_of_ble_eq_true rfl) d_O_linear_68 (fun r hr9 => ?_)
              rcases zb_c hr9 with ⟨rfl, h68⟩ | ⟨rfl, h68⟩
              · skip
                refine lv_if_eq (tgt := 78) hx hb d_O_linear_71 (by decide) (fun h => absurd h (by decide)) (fun _ => ?_)
                refine lv_iconst (v := 1) hx hb d_O_linear_74 (by decide) ?_
                refine lv_goto (tgt := 79) hx hb d_O_linear_75 (by decide) ?_
                refine lv_istore hx hb d_O_linear_79 hl (by decide) rfl (fun ls hl => ?_)
                have hl : lv_has ls 10 [(8, .int 1), (0, .ref (q 0)), (1, .int i), (2, .int fa), (3, .int j), (4, .int fb), (5, .int v), (6, .int fc), (7, .int bd)] := hl
                refine lv_iload hx hb d_O_linear_81 (lv_at hl 0 rfl) ?_
                refine lv_if_ne (tgt := 88) hx hb d_O_linear_83 (by decide) (fun _ => ?_) (fun h => absurd h (by decide))
                refine lv_aload_n hx hb d_O_linear_88 rfl (lv_at hl 1 rfl) ?_
                refine lv_iconst (v := 0) hx hb d_O_linear_89 (by decide) ?_
                refine lv_lconst (v := 0) hx hb d_O_linear_90 (by decide) ?_
                refine lv_lconst (v := 0) hx hb d_O_linear_91 (by decide) ?_
                refine wVi (n := 3) (wr := []) (Wf := oW D q) (rest := []) hx hb hml hown hA (o_add l D q n P rw a kn an lw s1 sd kd pa wd ao fo uo ho xo 0 0 0 _ hrw) wv_O_76 ⟨by decide, by decide, by decide +kernel⟩ ⟨rfl, rfl, by decide, by decide⟩ rfl hl.1 ⟨Nat.le_of_ble_eq_true rfl, Nat.le_of_ble_eq_true rfl⟩ hP hK hD hS hAA hN [0, 1, 2, 3, 4, 5, 6, 7, 8, 9, 10, 11] [] rfl rfl (by decide) (by decide) (by decide) 0 1 rfl rfl rfl (Nat.le_of_ble_eq_true rfl) d_O_linear_92 (fun r u H locs hu hP hD hS => ?_)
                rcases hu with ⟨hr12, rfl, rfl⟩ | ⟨hr12, rfl, rfl⟩
                · skip
                  have hP : va_P D vwCl (ow D q n P rw a kn an lw s1 sd kd pa wd ao fo uo ho xo) H := hP
                  have hD : va_D A (ow D q n P rw a kn an lw s1 sd kd pa wd ao fo uo ho xo) := hD
                  refine lv_istore hx hb d_O_linear_95 hl (by decide) rfl (fun ls hl => ?_)
                  have hl : lv_has ls 10 [(9, .int (-2)), (8, .int 1), (0, .ref (q 0)), (1, .int i), (2, .int fa), (3, .int j), (4, .int fb), (5, .int v), (6, .int fc), (7, .int bd)] := hl
                  refine lv_iload hx hb d_O_linear_97 (lv_at hl 0 rfl) ?_
                  refine lv_if_lt (tgt := 163) hx hb d_O_linear_99 (by decide) (fun _ => ?_) (fun h => absurd h (by decide))
                  refine lv_iload hx hb d_O_linear_163 (lv_at hl 0 rfl) ?_
                  exact eWi (n, P, rw, a, kn, an, lw, s1, sd, kd, pa, wd, ao, fo, uo, ho, xo) hx hb hr hlocks hP hK hD hS (Or.inr ⟨⟨h2, h10, h19, h30, h42, h54, h68⟩, Or.inl ⟨hr12, rfl, rfl⟩⟩) d_O_linear_165
                · skip
                  have hP : va_P D vwCl (ow D q n P (rw + 1) a 0 (-1) lw s1 sd (upd kd rw 0) (clr7 pa rw) (vp_updL (vp_updL wd (2 * rw) 0) (2 * rw + 1) 0) ao fo uo ho xo) H := hP
                  have hD : va_D A (ow D q n P (rw + 1) a 0 (-1) lw s1 sd (upd kd rw 0) (clr7 pa rw) (vp_updL (vp_updL wd (2 * rw) 0) (2 * rw + 1) 0) ao fo uo ho xo) := hD
                  refine lv_istore hx hb d_O_linear_95 hl (by decide) rfl (fun ls hl => ?_)
                  have hl : lv_has ls 10 [(9, .int (nI rw)), (8, .int 1), (0, .ref (q 0)), (1, .int i), (2, .int fa), (3, .int j), (4, .int fb), (5, .int v), (6, .int fc), (7, .int bd)] := hl
                  refine lv_iload hx hb d_O_linear_97 (lv_at hl 0 rfl) ?_
                  refine lv_if_lt (tgt := 163) hx hb d_O_linear_99 (by decide) (fun h => absurd h (nI_pos (by omega))) (fun h99 => ?_)
                  refine lv_aload_n hx hb d_O_linear_102 rfl (lv_at hl 2 rfl) ?_
                  refine lv_iload hx hb d_O_linear_103 (lv_at hl 0 rfl) ?_
                  refine lv_iconst (v := 0) hx hb d_O_linear_105 (by decide) ?_
                  refine lv_iload_n hx hb d_O_linear_106 rfl (lv_at hl 3 rfl) ?_
                  refine wVv (n := 3) (wr := []) (Wf := oW D q) (rest := []) hx hb hml hown hA (o_set l D q n P (rw + 1) a 0 (-1) lw s1 sd (upd kd rw 0) (clr7 pa rw) (vp_updL (vp_updL wd (2 * rw) 0) (2 * rw + 1) 0) ao fo uo ho xo rw 0 i _ (by omega) (by decide)) wv_O_80 ⟨by decide, by decide, by decide +kernel⟩ ⟨rfl, rfl, by decide, by decide⟩ rfl hl.1 ⟨Nat.le_of_ble_eq_true rfl, Nat.le_of_ble_eq_true rfl⟩ hP hK hD hS hAA hN [0, 1, 2, 3, 4, 5, 6, 7, 8, 9, 10, 11] [] rfl rfl (by decide) (by decide) (by decide) 0 1 rfl rfl rfl (Nat.le_of_ble_eq_true rfl) d_O_linear_107 (fun u H locs hu hP hD hS => ?_)
                  subst hu
                  have hP : va_P D vwCl (ow D q n P (rw + 1) a 0 (-1) lw s1 sd (upd kd rw 0) (upd (clr7 pa rw) (7 * rw + 0) i) (vp_updL (vp_updL wd (2 * rw) 0) (2 * rw + 1) 0) ao fo uo ho xo) H := hP
                  have hD : va_D A (ow D q n P (rw + 1) a 0 (-1) lw s1 sd (upd kd rw 0) (upd (clr7 pa rw) (7 * rw + 0) i) (vp_updL (vp_updL wd (2 * rw) 0) (2 * rw + 1) 0) ao fo uo ho xo) := hD
                  refine lv_aload_n hx hb d_O_linear_110 rfl (lv_at hl 2 rfl) ?_
                  refine lv_iload hx hb d_O_linear_111 (lv_at hl 0 rfl) ?_
                  refine lv_iconst (v := 1) hx hb d_O_linear_113 (by decide) ?_
                  refine lv_iload_n hx hb d_O_linear_114 rfl (lv_at hl 4 rfl) ?_
                  refine wVv (n := 3) (wr := []) (Wf := oW D q) (rest := []) hx hb hml hown hA (o_set l D q n P (rw + 1) a 0 (-1) lw s1 sd (upd kd rw 0) (upd (clr7 pa rw) (7 * rw + 0) i) (vp_updL (vp_updL wd (2 * rw) 0) (2 * rw + 1) 0) ao fo uo ho xo rw 1 fa _ (by omega) (by decide)) wv_O_80 ⟨by decide, by decide, by decide +kernel⟩ ⟨rfl, rfl, by decide, by decide⟩ rfl hl.1 ⟨Nat.le_of_ble_eq_true rfl, Nat.le_of_ble_eq_true rfl⟩ hP hK hD hS hAA hN [0, 1, 2, 3, 4, 5, 6, 7, 8, 9, 10, 11] [] rfl rfl (by decide) (by decide) (by decide) 0 1 rfl rfl rfl (Nat.le_of_ble_eq_true rfl) d_O_linear_115 (fun u H locs hu hP hD hS => ?_)
                  subst hu
                  have hP : va_P D vwCl (ow D q n P (rw + 1) a 0 (-1) lw s1 sd (upd kd rw 0) (upd (upd (clr7 pa rw) (7 * rw + 0) i) (7 * rw + 1) fa) (vp_updL (vp_updL wd (2 * rw) 0) (2 * rw + 1) 0) ao fo uo ho xo) H := hP
                  have hD : va_D A (ow D q n P (rw + 1) a 0 (-1) lw s1 sd (upd kd rw 0) (upd (upd (clr7 pa rw) (7 * rw + 0) i) (7 * rw + 1) fa) (vp_updL (vp_updL wd (2 * rw) 0) (2 * rw + 1) 0) ao fo uo ho xo) := hD
                  refine lv_aload_n hx hb d_O_linear_118 rfl (lv_at hl 2 rfl) ?_
                  refine lv_iload hx hb d_O_linear_119 (lv_at hl 0 rfl) ?_
                  refine lv_iconst (v := 2) hx hb d_O_linear_121 (by decide) ?_
                  refine lv_iload_n hx hb d_O_linear_122 rfl (lv_at hl 5 rfl) ?_
                  refine wVv (n := 3) (wr := []) (Wf := oW D q) (rest := []) hx hb hml hown hA (o_set l D q n P (rw + 1) a 0 (-1) lw s1 sd (upd kd rw 0) (upd (upd (clr7 pa rw) (7 * rw + 0) i) (7 * rw + 1) fa) (vp_updL (vp_updL wd (2 * rw) 0) (2 * rw + 1) 0) ao fo uo ho xo rw 2 j _ (by omega) (by decide)) wv_O_80 ⟨by decide, by decide, by decide +kernel⟩ ⟨rfl, rfl, by decide, by decide⟩ rfl hl.1 ⟨Nat.le_of_ble_eq_true rfl, Nat.le_of_ble_eq_true rfl⟩ hP hK hD hS hAA hN [0, 1, 2, 3, 4, 5, 6, 7, 8, 9, 10, 11] [] rfl rfl (by decide) (by decide) (by decide) 0 1 rfl rfl rfl (Nat.le_of_ble_eq_true rfl) d_O_linear_123 (fun u H locs hu hP hD hS => ?_)
                  subst hu
                  have hP : va_P D vwCl (ow D q n P (rw + 1) a 0 (-1) lw s1 sd (upd kd rw 0) (upd (upd (upd (clr7 pa rw) (7 * rw + 0) i) (7 * rw + 1) fa) (7 * rw + 2) j) (vp_updL (vp_updL wd (2 * rw) 0) (2 * rw + 1) 0) ao fo uo ho xo) H := hP
                  have hD : va_D A (ow D q n P (rw + 1) a 0 (-1) lw s1 sd (upd kd rw 0) (upd (upd (upd (clr7 pa rw) (7 * rw + 0) i) (7 * rw + 1) fa) (7 * rw + 2) j) (vp_updL (vp_updL wd (2 * rw) 0) (2 * rw + 1) 0) ao fo uo ho xo) := hD
                  refine lv_aload_n hx hb d_O_linear_126 rfl (lv_at hl 2 rfl) ?_
                  refine lv_iload hx hb d_O_linear_127 (lv_at hl 0 rfl) ?_
                  refine lv_iconst (v := 3) hx hb d_O_linear_129 (by decide) ?_
                  refine lv_iload hx hb d_O_linear_130 (lv_at hl 6 rfl) ?_
                  refine wVv (n := 3) (wr := []) (Wf := oW D q) (rest := []) hx hb hml hown hA (o_set l D q n P (rw + 1) a 0 (-1) lw s1 sd (upd kd rw 0) (upd (upd (upd (clr7 pa rw) (7 * rw + 0) i) (7 * rw + 1) fa) (7 * rw + 2) j) (vp_updL (vp_updL wd (2 * rw) 0) (2 * rw + 1) 0) ao fo uo ho xo rw 3 fb _ (by omega) (by decide)) wv_O_80 ⟨by decide, by decide, by decide +kernel⟩ ⟨rfl, rfl, by decide, by decide⟩ rfl hl.1 ⟨Nat.le_of_ble_eq_true rfl, Nat.le_of_ble_eq_true rfl⟩ hP hK hD hS hAA hN [0, 1, 2, 3, 4, 5, 6, 7, 8, 9, 10, 11] [] rfl rfl (by decide) (by decide) (by decide) 0 1 rfl rfl rfl (Nat.le_of_ble_eq_true rfl) d_O_linear_132 (fun u H locs hu hP hD hS => ?_)
                  subst hu
                  have hP : va_P D vwCl (ow D q n P (rw + 1) a 0 (-1) lw s1 sd (upd kd rw 0) (upd (upd (upd (upd (clr7 pa rw) (7 * rw + 0) i) (7 * rw + 1) fa) (7 * rw + 2) j) (7 * rw + 3) fb) (vp_updL (vp_updL wd (2 * rw) 0) (2 * rw + 1) 0) ao fo uo ho xo) H := hP
                  have hD : va_D A (ow D q n P (rw + 1) a 0 (-1) lw s1 sd (upd kd rw 0) (upd (upd (upd (upd (clr7 pa rw) (7 * rw + 0) i) (7 * rw + 1) fa) (7 * rw + 2) j) (7 * rw + 3) fb) (vp_updL (vp_updL wd (2 * rw) 0) (2 * rw + 1) 0) ao fo uo ho xo) := hD
                  refine lv_aload_n hx hb d_O_linear_135 rfl (lv_at hl 2 rfl) ?_
                  refine lv_iload hx hb d_O_linear_136 (lv_at hl 0 rfl) ?_
                  refine lv_iconst (v := 4) hx hb d_O_linear_138 (by decide) ?_
                  refine lv_iload hx hb d_O_linear_139 (lv_at hl 7 rfl) ?_
                  refine wVv (n := 3) (wr := []) (Wf := oW D q) (rest := []) hx hb hml hown hA (o_set l D q n P (rw + 1) a 0 (-1) lw s1 sd (upd kd rw 0) (upd (upd (upd (upd (clr7 pa rw) (7 * rw + 0) i) (7 * rw + 1) fa) (7 * rw + 2) j) (7 * rw + 3) fb) (vp_updL (vp_updL wd (2 * rw) 0) (2 * rw + 1) 0) ao fo uo ho xo rw 4 v _ (by omega) (by decide)) wv_O_80 ⟨by decide, by decide, by decide +kernel⟩ ⟨rfl, rfl, by decide, by decide⟩ rfl hl.1 ⟨Nat.le_of_ble_eq_true rfl, Nat.le_of_ble_eq_true rfl⟩ hP hK hD hS hAA hN [0, 1, 2, 3, 4, 5, 6, 7, 8, 9, 10, 11] [] rfl rfl (by decide) (by decide) (by decide) 0 1 rfl rfl rfl (Nat.le_of_ble_eq_true rfl) d_O_linear_141 (fun u H locs hu hP hD hS => ?_)
                  subst hu
                  have hP : va_P D vwCl (ow D q n P (rw + 1) a 0 (-1) lw s1 sd (upd kd rw 0) (upd (upd (upd (upd (upd (clr7 pa rw) (7 * rw + 0) i) (7 * rw + 1) fa) (7 * rw + 2) j) (7 * rw + 3) fb) (7 * rw + 4) v) (vp_updL (vp_updL wd (2 * rw) 0) (2 * rw + 1) 0) ao fo uo ho xo) H := hP
                  have hD : va_D A (ow D q n P (rw + 1) a 0 (-1) lw s1 sd (upd kd rw 0) (upd (upd (upd (upd (upd (clr7 pa rw) (7 * rw + 0) i) (7 * rw + 1) fa) (7 * rw + 2) j) (7 * rw + 3) fb) (7 * rw + 4) v) (vp_updL (vp_updL wd (2 * rw) 0) (2 * rw + 1) 0) ao fo uo ho xo) := hD
                  refine lv_aload_n hx hb d_O_linear_144 rfl (lv_at hl 2 rfl) ?_
                  refine lv_iload hx hb d_O_linear_145 (lv_at hl 0 rfl) ?_
                  refine lv_iconst (v := 5) hx hb d_O_linear_147 (by decide) ?_
                  refine lv_iload hx hb d_O_linear_148 (lv_at hl 8 rfl) ?_
                  refine wVv (n := 3) (wr := []) (Wf := oW D q) (rest := []) hx hb hml hown hA (o_set l D q n P (rw + 1) a 0 (-1) lw s1 sd (upd kd rw 0) (upd (upd (upd (upd (upd (clr7 pa rw) (7 * rw + 0) i) (7 * rw + 1) fa) (7 * rw + 2) j) (7 * rw + 3) fb) (7 * rw + 4) v) (vp_updL (vp_updL wd (2 * rw) 0) (2 * rw + 1) 0) ao fo uo ho xo rw 5 fc _ (by omega) (by decide)) wv_O_80 ⟨by decide, by decide, by decide +kernel⟩ ⟨rfl, rfl, by decide, by decide⟩ rfl hl.1 ⟨Nat.le_of_ble_eq_true rfl, Nat.le_of_ble_eq_true rfl⟩ hP hK hD hS hAA hN [0, 1, 2, 3, 4, 5, 6, 7, 8, 9, 10, 11] [] rfl rfl (by decide) (by decide) (by decide) 0 1 rfl rfl rfl (Nat.le_of_ble_eq_true rfl) d_O_linear_150 (fun u H locs hu hP hD hS => ?_)
                  subst hu
                  have hP : va_P D vwCl (ow D q n P (rw + 1) a 0 (-1) lw s1 sd (upd kd rw 0) (upd (upd (upd (upd (upd (upd (clr7 pa rw) (7 * rw + 0) i) (7 * rw + 1) fa) (7 * rw + 2) j) (7 * rw + 3) fb) (7 * rw + 4) v) (7 * rw + 5) fc) (vp_updL (vp_updL wd (2 * rw) 0) (2 * rw + 1) 0) ao fo uo ho xo) H := hP
                  have hD : va_D A (ow D q n P (rw + 1) a 0 (-1) lw s1 sd (upd kd rw 0) (upd (upd (upd (upd (upd (upd (clr7 pa rw) (7 * rw + 0) i) (7 * rw + 1) fa) (7 * rw + 2) j) (7 * rw + 3) fb) (7 * rw + 4) v) (7 * rw + 5) fc) (vp_updL (vp_updL wd (2 * rw) 0) (2 * rw + 1) 0) ao fo uo ho xo) := hD
                  refine lv_aload_n hx hb d_O_linear_153 rfl (lv_at hl 2 rfl) ?_
                  refine lv_iload hx hb d_O_linear_154 (lv_at hl 0 rfl) ?_
                  refine lv_bipush (v := 6) hx hb d_O_linear_156 (by decide) ?_
                  refine lv_iload hx hb d_O_linear_158 (lv_at hl 9 rfl) ?_
                  refine wVv (n := 3) (wr := []) (Wf := oW D q) (rest := []) hx hb hml hown hA (o_set l D q n P (rw + 1) a 0 (-1) lw s1 sd (upd kd rw 0) (upd (upd (upd (upd (upd (upd (clr7 pa rw) (7 * rw + 0) i) (7 * rw + 1) fa) (7 * rw + 2) j) (7 * rw + 3) fb) (7 * rw + 4) v) (7 * rw + 5) fc) (vp_updL (vp_updL wd (2 * rw) 0) (2 * rw + 1) 0) ao fo uo ho xo rw 6 bd _ (by omega) (by decide)) wv_O_80 ⟨by decide, by decide, by decide +kernel⟩ ⟨rfl, rfl, by decide, by decide⟩ rfl hl.1 ⟨Nat.le_of_ble_eq_true rfl, Nat.le_of_ble_eq_true rfl⟩ hP hK hD hS hAA hN [0, 1, 2, 3, 4, 5, 6, 7, 8, 9, 10, 11] [] rfl rfl (by decide) (by decide) (by decide) 0 1 rfl rfl rfl (Nat.le_of_ble_eq_true rfl) d_O_linear_160 (fun u H locs hu hP hD hS => ?_)
                  subst hu
                  have hP : va_P D vwCl (ow D q n P (rw + 1) a 0 (-1) lw s1 sd (upd kd rw 0) (upd (upd (upd (upd (upd (upd (upd (clr7 pa rw) (7 * rw + 0) i) (7 * rw + 1) fa) (7 * rw + 2) j) (7 * rw + 3) fb) (7 * rw + 4) v) (7 * rw + 5) fc) (7 * rw + 6) bd) (vp_updL (vp_updL wd (2 * rw) 0) (2 * rw + 1) 0) ao fo uo ho xo) H := hP
                  have hD : va_D A (ow D q n P (rw + 1) a 0 (-1) lw s1 sd (upd kd rw 0) (upd (upd (upd (upd (upd (upd (upd (clr7 pa rw) (7 * rw + 0) i) (7 * rw + 1) fa) (7 * rw + 2) j) (7 * rw + 3) fb) (7 * rw + 4) v) (7 * rw + 5) fc) (7 * rw + 6) bd) (vp_updL (vp_updL wd (2 * rw) 0) (2 * rw + 1) 0) ao fo uo ho xo) := hD
                  refine lv_iload hx hb d_O_linear_163 (lv_at hl 0 rfl) ?_
                  exact eWi (n, P, (rw + 1), a, 0, -1, lw, s1, sd, upd kd rw 0, upd (upd (upd (upd (upd (upd (upd (clr7 pa rw) (7 * rw + 0) i) (7 * rw + 1) fa) (7 * rw + 2) j) (7 * rw + 3) fb) (7 * rw + 4) v) (7 * rw + 5) fc) (7 * rw + 6) bd, vp_updL (vp_updL wd (2 * rw) 0) (2 * rw + 1) 0, ao, fo, uo, ho, xo) hx hb hr hlocks hP hK hD hS (Or.inr ⟨⟨h2, h10, h19, h30, h42, h54, h68⟩, Or.inr ⟨hr12, rfl, rfl⟩⟩) d_O_linear_165
              · skip
                refine lv_if_eq (tgt := 78) hx hb d_O_linear_71 (by decide) (fun _ => ?_) (fun h => absurd h (by decide))
                refine lv_iconst (v := 0) hx hb d_O_linear_78 (by decide) ?_
                refine lv_istore hx hb d_O_linear_79 hl (by decide) rfl (fun ls hl => ?_)
                have hl : lv_has ls 10 [(8, .int 0), (0, .ref (q 0)), (1, .int i), (2, .int fa), (3, .int j), (4, .int fb), (5, .int v), (6, .int fc), (7, .int bd)] := hl
                refine lv_iload hx hb d_O_linear_81 (lv_at hl 0 rfl) ?_
                refine lv_if_ne (tgt := 88) hx hb d_O_linear_83 (by decide) (fun h => absurd h (by decide)) (fun _ => ?_)
                refine lv_iconst (v := (-1)) hx hb d_O_linear_86 (by decide) ?_
                exact eWi (n, P, rw, a, kn, an, lw, s1, sd, kd, pa, wd, ao, fo, uo, ho, xo) hx hb hr hlocks hP hK hD hS (Or.inl ⟨fun h => h68 (h.2.2.2.2.2.2), rfl, rfl⟩) d_O_linear_87
            · skip
              refine lv_if_eq (tgt := 78) hx hb d_O_linear_57 (by decide) (fun _ => ?_) (fun h => absurd h (by decide))
              refine lv_iconst (v := 0) hx hb d_O_linear_78 (by decide) ?_
              refine lv_istore hx hb d_O_linear_79 hl (by decide) rfl (fun ls hl => ?_)
              have hl : lv_has ls 10 [(8, .int 0), (0, .ref (q 0)), (1, .int i), (2, .int fa), (3, .int j), (4, .int fb), (5, .int v), (6, .int fc), (7, .int bd)] := hl
              refine lv_iload hx hb d_O_linear_81 (lv_at hl 0 rfl) ?_
              refine lv_if_ne (tgt := 88) hx hb d_O_linear_83 (by decide) (fun h => absurd h (by decide)) (fun _ => ?_)
              refine lv_iconst (v := (-1)) hx hb d_O_linear_86 (by decide) ?_
              exact eWi (n, P, rw, a, kn, an, lw, s1, sd, kd, pa, wd, ao, fo, uo, ho, xo) hx hb hr hlocks hP hK hD hS (Or.inl ⟨fun h => h54 (h.2.2.2.2.2.1), rfl, rfl⟩) d_O_linear_87
          · skip
            refine lv_if_eq (tgt := 78) hx hb d_O_linear_45 (by decide) (fun _ => ?_) (fun h => absurd h (by decide))
            refine lv_iconst (v := 0) hx hb d_O_linear_78 (by decide) ?_
            refine lv_istore hx hb d_O_linear_79 hl (by decide) rfl (fun ls hl => ?_)
            have hl : lv_has ls 10 [(8, .int 0), (0, .ref (q 0)), (1, .int i), (2, .int fa), (3, .int j), (4, .int fb), (5, .int v), (6, .int fc), (7, .int bd)] := hl
            refine lv_iload hx hb d_O_linear_81 (lv_at hl 0 rfl) ?_
            refine lv_if_ne (tgt := 88) hx hb d_O_linear_83 (by decide) (fun h => absurd h (by decide)) (fun _ => ?_)
            refine lv_iconst (v := (-1)) hx hb d_O_linear_86 (by decide) ?_
            exact eWi (n, P, rw, a, kn, an, lw, s1, sd, kd, pa, wd, ao, fo, uo, ho, xo) hx hb hr hlocks hP hK hD hS (Or.inl ⟨fun h => h42 (h.2.2.2.2.1), rfl, rfl⟩) d_O_linear_87
        · skip
          refine lv_if_eq (tgt := 78) hx hb d_O_linear_33 (by decide) (fun _ => ?_) (fun h => absurd h (by decide))
          refine lv_iconst (v := 0) hx hb d_O_linear_78 (by decide) ?_
          refine lv_istore hx hb d_O_linear_79 hl (by decide) rfl (fun ls hl => ?_)
          have hl : lv_has ls 10 [(8, .int 0), (0, .ref (q 0)), (1, .int i), (2, .int fa), (3, .int j), (4, .int fb), (5, .int v), (6, .int fc), (7, .int bd)] := hl
          refine lv_iload hx hb d_O_linear_81 (lv_at hl 0 rfl) ?_
          refine lv_if_ne (tgt := 88) hx hb d_O_linear_83 (by decide) (fun h => absurd h (by decide)) (fun _ => ?_)
          refine lv_iconst (v := (-1)) hx hb d_O_linear_86 (by decide) ?_
          exact eWi (n, P, rw, a, kn, an, lw, s1, sd, kd, pa, wd, ao, fo, uo, ho, xo) hx hb hr hlocks hP hK hD hS (Or.inl ⟨fun h => h30 (h.2.2.2.1), rfl, rfl⟩) d_O_linear_87
      · skip
        refine lv_if_eq (tgt := 78) hx hb d_O_linear_22 (by decide) (fun _ => ?_) (fun h => absurd h (by decide))
        refine lv_iconst (v := 0) hx hb d_O_linear_78 (by decide) ?_
        refine lv_istore hx hb d_O_linear_79 hl (by decide) rfl (fun ls hl => ?_)
        have hl : lv_has ls 10 [(8, .int 0), (0, .ref (q 0)), (1, .int i), (2, .int fa), (3, .int j), (4, .int fb), (5, .int v), (6, .int fc), (7, .int bd)] := hl
        refine lv_iload hx hb d_O_linear_81 (lv_at hl 0 rfl) ?_
        refine lv_if_ne (tgt := 88) hx hb d_O_linear_83 (by decide) (fun h => absurd h (by decide)) (fun _ => ?_)
        refine lv_iconst (v := (-1)) hx hb d_O_linear_86 (by decide) ?_
        exact eWi (n, P, rw, a, kn, an, lw, s1, sd, kd, pa, wd, ao, fo, uo, ho, xo) hx hb hr hlocks hP hK hD hS (Or.inl ⟨fun h => h19 (h.2.2.1), rfl, rfl⟩) d_O_linear_87
    · skip
      refine lv_if_eq (tgt := 78) hx hb d_O_linear_13 (by decide) (fun _ => ?_) (fun h => absurd h (by decide))
      refine lv_iconst (v := 0) hx hb d_O_linear_78 (by decide) ?_
      refine lv_istore hx hb d_O_linear_79 hl (by decide) rfl (fun ls hl => ?_)
      have hl : lv_has ls 10 [(8, .int 0), (0, .ref (q 0)), (1, .int i), (2, .int fa), (3, .int j), (4, .int fb), (5, .int v), (6, .int fc), (7, .int bd)] := hl
      refine lv_iload hx hb d_O_linear_81 (lv_at hl 0 rfl) ?_
      refine lv_if_ne (tgt := 88) hx hb d_O_linear_83 (by decide) (fun h => absurd h (by decide)) (fun _ => ?_)
      refine lv_iconst (v := (-1)) hx hb d_O_linear_86 (by decide) ?_
      exact eWi (n, P, rw, a, kn, an, lw, s1, sd, kd, pa, wd, ao, fo, uo, ho, xo) hx hb hr hlocks hP hK hD hS (Or.inl ⟨fun h => h10 (h.2.1), rfl, rfl⟩) d_O_linear_87
  · skip
    refine lv_if_eq (tgt := 78) hx hb d_O_linear_5 (by decide) (fun _ => ?_) (fun h => absurd h (by decide))
    refine lv_iconst (v := 0) hx hb d_O_linear_78 (by decide) ?_
    refine lv_istore hx hb d_O_linear_79 hl (by decide) rfl (fun ls hl => ?_)
    have hl : lv_has ls 10 [(8, .int 0), (0, .ref (q 0)), (1, .int i), (2, .int fa), (3, .int j), (4, .int fb), (5, .int v), (6, .int fc), (7, .int bd)] := hl
    refine lv_iload hx hb d_O_linear_81 (lv_at hl 0 rfl) ?_
    refine lv_if_ne (tgt := 88) hx hb d_O_linear_83 (by decide) (fun h => absurd h (by decide)) (fun _ => ?_)
    refine lv_iconst (v := (-1)) hx hb d_O_linear_86 (by decide) ?_
    exact eWi (n, P, rw, a, kn, an, lw, s1, sd, kd, pa, wd, ao, fo, uo, ho, xo) hx hb hr hlocks hP hK hD hS (Or.inl ⟨fun h => h2 (h.1), rfl, rfl⟩) d_O_linear_87
end
