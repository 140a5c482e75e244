section
theorem d_O_maximum_0 : decode b_O_maximum 0 = .ok (.aload_n 0, 1) := by decide +kernel
theorem d_O_maximum_1 : decode b_O_maximum 1 = .ok (.iload_n 1, 1) := by decide +kernel
theorem d_O_maximum_2 : decode b_O_maximum 2 = .ok (.invokevirtual 59, 3) := by decide +kernel
theorem d_O_maximum_5 : decode b_O_maximum 5 = .ok (.ifCond .eq 28, 3) := by decide +kernel
theorem d_O_maximum_8 : decode b_O_maximum 8 = .ok (.aload_n 0, 1) := by decide +kernel
theorem d_O_maximum_9 : decode b_O_maximum 9 = .ok (.iload_n 2, 1) := by decide +kernel
theorem d_O_maximum_10 : decode b_O_maximum 10 = .ok (.invokevirtual 59, 3) := by decide +kernel
theorem d_O_maximum_13 : decode b_O_maximum 13 = .ok (.ifCond .eq 20, 3) := by decide +kernel
theorem d_O_maximum_16 : decode b_O_maximum 16 = .ok (.aload_n 0, 1) := by decide +kernel
theorem d_O_maximum_17 : decode b_O_maximum 17 = .ok (.iload_n 3, 1) := by decide +kernel
theorem d_O_maximum_18 : decode b_O_maximum 18 = .ok (.invokevirtual 69, 3) := by decide +kernel
theorem d_O_maximum_21 : decode b_O_maximum 21 = .ok (.ifCond .eq 12, 3) := by decide +kernel
theorem d_O_maximum_24 : decode b_O_maximum 24 = .ok (.aload_n 0, 1) := by decide +kernel
theorem d_O_maximum_25 : decode b_O_maximum 25 = .ok (.iload 4, 2) := by decide +kernel
theorem d_O_maximum_27 : decode b_O_maximum 27 = .ok (.invokevirtual 69, 3) := by decide +kernel
theorem d_O_maximum_30 : decode b_O_maximum 30 = .ok (.ifCond .ne 5, 3) := by decide +kernel
theorem d_O_maximum_33 : decode b_O_maximum 33 = .ok (.iconst (-1), 1) := by decide +kernel
theorem d_O_maximum_34 : decode b_O_maximum 34 = .ok (.ireturn, 1) := by decide +kernel
theorem d_O_maximum_35 : decode b_O_maximum 35 = .ok (.aload_n 0, 1) := by decide +kernel
theorem d_O_maximum_36 : decode b_O_maximum 36 = .ok (.iconst 2, 1) := by decide +kernel
theorem d_O_maximum_37 : decode b_O_maximum 37 = .ok (.lconst 0, 1) := by decide +kernel
theorem d_O_maximum_38 : decode b_O_maximum 38 = .ok (.lconst 0, 1) := by decide +kernel
theorem d_O_maximum_39 : decode b_O_maximum 39 = .ok (.invokevirtual 76, 3) := by decide +kernel
theorem d_O_maximum_42 : decode b_O_maximum 42 = .ok (.istore 5, 2) := by decide +kernel
theorem d_O_maximum_44 : decode b_O_maximum 44 = .ok (.iload 5, 2) := by decide +kernel
theorem d_O_maximum_46 : decode b_O_maximum 46 = .ok (.ifCond .lt 36, 3) := by decide +kernel
theorem d_O_maximum_49 : decode b_O_maximum 49 = .ok (.aload_n 0, 1) := by decide +kernel
theorem d_O_maximum_50 : decode b_O_maximum 50 = .ok (.iload 5, 2) := by decide +kernel
theorem d_O_maximum_52 : decode b_O_maximum 52 = .ok (.iconst 0, 1) := by decide +kernel
theorem d_O_maximum_53 : decode b_O_maximum 53 = .ok (.iload_n 1, 1) := by decide +kernel
theorem d_O_maximum_54 : decode b_O_maximum 54 = .ok (.invokevirtual 80, 3) := by decide +kernel
theorem d_O_maximum_57 : decode b_O_maximum 57 = .ok (.aload_n 0, 1) := by decide +kernel
theorem d_O_maximum_58 : decode b_O_maximum 58 = .ok (.iload 5, 2) := by decide +kernel
theorem d_O_maximum_60 : decode b_O_maximum 60 = .ok (.iconst 1, 1) := by decide +kernel
theorem d_O_maximum_61 : decode b_O_maximum 61 = .ok (.iload_n 2, 1) := by decide +kernel
theorem d_O_maximum_62 : decode b_O_maximum 62 = .ok (.invokevirtual 80, 3) := by decide +kernel
theorem d_O_maximum_65 : decode b_O_maximum 65 = .ok (.aload_n 0, 1) := by decide +kernel
theorem d_O_maximum_66 : decode b_O_maximum 66 = .ok (.iload 5, 2) := by decide +kernel
theorem d_O_maximum_68 : decode b_O_maximum 68 = .ok (.iconst 2, 1) := by decide +kernel
theorem d_O_maximum_69 : decode b_O_maximum 69 = .ok (.iload_n 3, 1) := by decide +kernel
theorem d_O_maximum_70 : decode b_O_maximum 70 = .ok (.invokevirtual 80, 3) := by decide +kernel
theorem d_O_maximum_73 : decode b_O_maximum 73 = .ok (.aload_n 0, 1) := by decide +kernel
theorem d_O_maximum_74 : decode b_O_maximum 74 = .ok (.iload 5, 2) := by decide +kernel
theorem d_O_maximum_76 : decode b_O_maximum 76 = .ok (.iconst 3, 1) := by decide +kernel
theorem d_O_maximum_77 : decode b_O_maximum 77 = .ok (.iload 4, 2) := by decide +kernel
theorem d_O_maximum_79 : decode b_O_maximum 79 = .ok (.invokevirtual 80, 3) := by decide +kernel
theorem d_O_maximum_82 : decode b_O_maximum 82 = .ok (.iload 5, 2) := by decide +kernel
theorem d_O_maximum_84 : decode b_O_maximum 84 = .ok (.ireturn, 1) := by decide +kernel
set_option maxRecDepth 100000 in
set_option maxHeartbeats 4000000 in
theorem o_maximum (l : Launch) (D : va_G) (q : Nat → Nat) (n P rw a : Nat) (kn an : Int32) (lw s1 sd kd pa : Nat → Int32) (wd : Nat → Int64) (ao fo uo ho xo : Nat → Int32) (r1 i j v : Int32) (sz : Nat) (hrw : rw ≤ 12) : Met l y_O_maximum (wsm y_O_maximum b_O_maximum 6 (some .int)) { frames := 2, cells := 0, slots := 0, locals := 46 } (va_Pc [.ref (q 0), .int r1, .int i, .int j, .int v] (fun U => U.heap.size = sz ∧ cPre D (ow D q n P rw a kn an lw s1 sd kd pa wd ao fo uo ho xo) U)) (va_Qi (fun (r : Int32) (u : OS) => (¬ (iv n r1 ∧ iv n i ∧ iva n j ∧ iva n v) ∧ r = -1 ∧ u = (n, P, rw, a, kn, an, lw, s1, sd, kd, pa, wd, ao, fo, uo, ho, xo)) ∨ ((iv n r1 ∧ iv n i ∧ iva n j ∧ iva n v) ∧ ((¬ rw < 12 ∧ r = -2 ∧ u = (n, P, rw, a, kn, an, lw, s1, sd, kd, pa, wd, ao, fo, uo, ho, xo)) ∨ (rw < 12 ∧ r = nI rw ∧ u = (n, P, rw + 1, a, 0, -1, lw, s1, sd, upd kd rw 2, upd (upd (upd (upd (clr7 pa rw) (7 * rw + 0) r1) (7 * rw + 1) i) (7 * rw + 2) j) (7 * rw + 3) v, vp_updL (vp_updL wd (2 * rw) 0) (2 * rw + 1) 0, ao, fo, uo, ho, xo))))) (fun u t => xB D (oW D q u) (va_A (ow D q n P rw a kn an lw s1 sd kd pa wd ao fo uo ho xo) sz) t) (va_A (ow D q n P rw a kn an lw s1 sd kd pa wd ao fo uo ho xo) sz)) 0 0 (va_A (ow D q n P rw a kn an lw s1 sd kd pa wd ao fo uo ho xo) sz) := by
  refine met_W (Qf := fun A => va_Qi (fun (r : Int32) (u : OS) => (¬ (iv n r1 ∧ iv n i ∧ iva n j ∧ iva n v) ∧ r = -1 ∧ u = (n, P, rw, a, kn, an, lw, s1, sd, kd, pa, wd, ao, fo, uo, ho, xo)) ∨ ((iv n r1 ∧ iv n i ∧ iva n j ∧ iva n v) ∧ ((¬ rw < 12 ∧ r = -2 ∧ u = (n, P, rw, a, kn, an, lw, s1, sd, kd, pa, wd, ao, fo, uo, ho, xo)) ∨ (rw < 12 ∧ r = nI rw ∧ u = (n, P, rw + 1, a, 0, -1, lw, s1, sd, upd kd rw 2, upd (upd (upd (upd (clr7 pa rw) (7 * rw + 0) r1) (7 * rw + 1) i) (7 * rw + 2) j) (7 * rw + 3) v, vp_updL (vp_updL wd (2 * rw) 0) (2 * rw + 1) 0, ao, fo, uo, ho, xo))))) (fun u t => xB D (oW D q u) A t) A) (by decide) (Nat.le_of_ble_eq_true rfl) ?_
  intro p e s m below meth c ls A hx hb hr hlocks hml hown hin hA hP hK hD hN hl hS hAA
  have hown : s.vm.findClass R_O = some m.cls := hown
  have hl : lv_has ls 6 [(0, .ref (q 0)), (1, .int r1), (2, .int i), (3, .int j), (4, .int v)] := hl
  refine lv_aload_n hx hb d_O_maximum_0 rfl (lv_at hl 0 rfl) ?_
  refine lv_iload_n hx hb d_O_maximum_1 rfl (lv_at hl 1 rfl) ?_
  refine rV (n := 1) (rest := []) hx hb hml hown hA (o_isVariable l D q n P rw a kn an lw s1 sd kd pa wd ao fo uo ho xo r1) wv_O_59 ⟨by decide, by decide, by decide +kernel⟩ ⟨rfl, rfl, by decide, by decide⟩ rfl hl.1 ⟨Nat.le_of_ble_eq_true rfl, Nat.le_of_ble_eq_true rfl⟩ hP hK hD hN 0 1 rfl rfl rfl (Nat.le_of_ble_eq_true rfl) d_O_maximum_2 (fun r hr9 => ?_)
  rcases zb_c hr9 with ⟨rfl, h2⟩ | ⟨rfl, h2⟩
  · skip
    refine lv_if_eq (tgt := 33) hx hb d_O_maximum_5 (by decide) (fun h => absurd h (by decide)) (fun _ => ?_)
    refine lv_aload_n hx hb d_O_maximum_8 rfl (lv_at hl 0 rfl) ?_
    refine lv_iload_n hx hb d_O_maximum_9 rfl (lv_at hl 2 rfl) ?_
    refine rV (n := 1) (rest := []) hx hb hml hown hA (o_isVariable l D q n P rw a kn an lw s1 sd kd pa wd ao fo uo ho xo i) wv_O_59 ⟨by decide, by decide, by decide +kernel⟩ ⟨rfl, rfl, by decide, by decide⟩ rfl hl.1 ⟨Nat.le_of_ble_eq_true rfl, Nat.le_of_ble_eq_true rfl⟩ hP hK hD hN 0 1 rfl rfl rfl (Nat.le_of_ble_eq_true rfl) d_O_maximum_10 (fun r hr9 => ?_)
    rcases zb_c hr9 with ⟨rfl, h10⟩ | ⟨rfl, h10⟩
    · skip
      refine lv_if_eq (tgt := 33) hx hb d_O_maximum_13 (by decide) (fun h => absurd h (by decide)) (fun _ => ?_)
      refine lv_aload_n hx hb d_O_maximum_16 rfl (lv_at hl 0 rfl) ?_
      refine lv_iload_n hx hb d_O_maximum_17 rfl (lv_at hl 3 rfl) ?_
      refine rV (n := 1) (rest := []) hx hb hml hown hA (o_isPart l D q n P rw a kn an lw s1 sd kd pa wd ao fo uo ho xo j) wv_O_69 ⟨by decide, by decide, by decide +kernel⟩ ⟨rfl, rfl, by decide, by decide⟩ rfl hl.1 ⟨Nat.le_of_ble_eq_true rfl, Nat.le_of_ble_eq_true rfl⟩ hP hK hD hN 0 1 rfl rfl rfl (Nat.le_of_ble_eq_true rfl) d_O_maximum_18 (fun r hr9 => ?_)
      rcases zb_c hr9 with ⟨rfl, h18⟩ | ⟨rfl, h18⟩
      · skip
        refine lv_if_eq (tgt := 33) hx hb d_O_maximum_21 (by decide) (fun h => absurd h (by decide)) (fun _ => ?_)
        refine lv_aload_n hx hb d_O_maximum_24 rfl (lv_at hl 0 rfl) ?_
        refine lv_iload hx hb d_O_maximum_25 (lv_at hl 4 rfl) ?_
        refine rV (n := 1) (rest := []) hx hb hml hown hA (o_isPart l D q n P rw a kn an lw s1 sd kd pa wd ao fo uo ho xo v) wv_O_69 ⟨by decide, by decide, by decide +kernel⟩ ⟨rfl, rfl, by decide, by decide⟩ rfl hl.1 ⟨Nat.le_of_ble_eq_true rfl, Nat.le_of_ble_eq_true rfl⟩ hP hK hD hN 0 1 rfl rfl rfl (Nat.le_of_ble_eq_true rfl) d_O_maximum_27 (fun r hr9 => ?_)
        rcases zb_c hr9 with ⟨rfl, h27⟩ | ⟨rfl, h27⟩
        · skip
          refine lv_if_ne (tgt := 35) hx hb d_O_maximum_30 (by decide) (fun _ => ?_) (fun h => absurd h (by decide))
          refine lv_aload_n hx hb d_O_maximum_35 rfl (lv_at hl 0 rfl) ?_
          refine lv_iconst (v := 2) hx hb d_O_maximum_36 (by decide) ?_
          refine lv_lconst (v := 0) hx hb d_O_maximum_37 (by decide) ?_
          refine lv_lconst (v := 0) hx hb d_O_maximum_38 (by decide) ?_
          refine wVi (n := 3) (wr := []) (Wf := oW D q) (rest := []) hx hb hml hown hA (o_add l D q n P rw a kn an lw s1 sd kd pa wd ao fo uo ho xo 2 0 0 _ hrw) wv_O_76 ⟨by decide, by decide, by decide +kernel⟩ ⟨rfl, rfl, by decide, by decide⟩ rfl hl.1 ⟨Nat.le_of_ble_eq_true rfl, Nat.le_of_ble_eq_true rfl⟩ hP hK hD hS hAA hN [0, 1, 2, 3, 4, 5, 6, 7, 8, 9, 10, 11] [] rfl rfl (by decide) (by decide) (by decide) 0 1 rfl rfl rfl (Nat.le_of_ble_eq_true rfl) d_O_maximum_39 (fun r u H locs hu hP hD hS => ?_)
          rcases hu with ⟨hr12, rfl, rfl⟩ | ⟨hr12, rfl, rfl⟩
          · skip
            have hP : va_P D vwCl (ow D q n P rw a kn an lw s1 sd kd pa wd ao fo uo ho xo) H := hP
            have hD : va_D A (ow D q n P rw a kn an lw s1 sd kd pa wd ao fo uo ho xo) := hD
            refine lv_istore hx hb d_O_maximum_42 hl (by decide) rfl (fun ls hl => ?_)
            have hl : lv_has ls 6 [(5, .int (-2)), (0, .ref (q 0)), (1, .int r1), (2, .int i), (3, .int j), (4, .int v)] := hl
            refine lv_iload hx hb d_O_maximum_44 (lv_at hl 0 rfl) ?_
            refine lv_if_lt (tgt := 82) hx hb d_O_maximum_46 (by decide) (fun _ => ?_) (fun h => absurd h (by decide))
            refine lv_iload hx hb d_O_maximum_82 (lv_at hl 0 rfl) ?_
            exact eWi (n, P, rw, a, kn, an, lw, s1, sd, kd, pa, wd, ao, fo, uo, ho, xo) hx hb hr hlocks hP hK hD hS (Or.inr ⟨⟨h2, h10, h18, h27⟩, Or.inl ⟨hr12, rfl, rfl⟩⟩) d_O_maximum_84
          · skip
            have hP : va_P D vwCl (ow D q n P (rw + 1) a 0 (-1) lw s1 sd (upd kd rw 2) (clr7 pa rw) (vp_updL (vp_updL wd (2 * rw) 0) (2 * rw + 1) 0) ao fo uo ho xo) H := hP
            have hD : va_D A (ow D q n P (rw + 1) a 0 (-1) lw s1 sd (upd kd rw 2) (clr7 pa rw) (vp_updL (vp_updL wd (2 * rw) 0) (2 * rw + 1) 0) ao fo uo ho xo) := hD
            refine lv_istore hx hb d_O_maximum_42 hl (by decide) rfl (fun ls hl => ?_)
            have hl : lv_has ls 6 [(5, .int (nI rw)), (0, .ref (q 0)), (1, .int r1), (2, .int i), (3, .int j), (4, .int v)] := hl
            refine lv_iload hx hb d_O_maximum_44 (lv_at hl 0 rfl) ?_
            refine lv_if_lt (tgt := 82) hx hb d_O_maximum_46 (by decide) (fun h => absurd h (nI_pos (by omega))) (fun h46 => ?_)
            refine lv_aload_n hx hb d_O_maximum_49 rfl (lv_at hl 1 rfl) ?_
            refine lv_iload hx hb d_O_maximum_50 (lv_at hl 0 rfl) ?_
            refine lv_iconst (v := 0) hx hb d_O_maximum_52 (by decide) ?_
            refine lv_iload_n hx hb d_O_maximum_53 rfl (lv_at hl 2 rfl) ?_
            refine wVv (n := 3) (wr := []) (Wf := oW D q) (rest := []) hx hb hml hown hA (o_set l D q n P (rw + 1) a 0 (-1) lw s1 sd (upd kd rw 2) (clr7 pa rw) (vp_updL (vp_updL wd (2 * rw) 0) (2 * rw + 1) 0) ao fo uo ho xo rw 0 r1 _ (by omega) (by decide)) wv_O_80 ⟨by decide, by decide, by decide +kernel⟩ ⟨rfl, rfl, by decide, by decide⟩ rfl hl.1 ⟨Nat.le_of_ble_eq_true rfl, Nat.le_of_ble_eq_true rfl⟩ hP hK hD hS hAA hN [0, 1, 2, 3, 4, 5, 6, 7, 8, 9, 10, 11] [] rfl rfl (by decide) (by decide) (by decide) 0 1 rfl rfl rfl (Nat.le_of_ble_eq_true rfl) d_O_maximum_54 (fun u H locs hu hP hD hS => ?_)
            subst hu
            have hP : va_P D vwCl (ow D q n P (rw + 1) a 0 (-1) lw s1 sd (upd kd rw 2) (upd (clr7 pa rw) (7 * rw + 0) r1) (vp_updL (vp_updL wd (2 * rw) 0) (2 * rw + 1) 0) ao fo uo ho xo) H := hP
            have hD : va_D A (ow D q n P (rw + 1) a 0 (-1) lw s1 sd (upd kd rw 2) (upd (clr7 pa rw) (7 * rw + 0) r1) (vp_updL (vp_updL wd (2 * rw) 0) (2 * rw + 1) 0) ao fo uo ho xo) := hD
            refine lv_aload_n hx hb d_O_maximum_57 rfl (lv_at hl 1 rfl) ?_
            refine lv_iload hx hb d_O_maximum_58 (lv_at hl 0 rfl) ?_
            refine lv_iconst (v := 1) hx hb d_O_maximum_60 (by decide) ?_
            refine lv_iload_n hx hb d_O_maximum_61 rfl (lv_at hl 3 rfl) ?_
            refine wVv (n := 3) (wr := []) (Wf := oW D q) (rest := []) hx hb hml hown hA (o_set l D q n P (rw + 1) a 0 (-1) lw s1 sd (upd kd rw 2) (upd (clr7 pa rw) (7 * rw + 0) r1) (vp_updL (vp_updL wd (2 * rw) 0) (2 * rw + 1) 0) ao fo uo ho xo rw 1 i _ (by omega) (by decide)) wv_O_80 ⟨by decide, by decide, by decide +kernel⟩ ⟨rfl, rfl, by decide, by decide⟩ rfl hl.1 ⟨Nat.le_of_ble_eq_true rfl, Nat.le_of_ble_eq_true rfl⟩ hP hK hD hS hAA hN [0, 1, 2, 3, 4, 5, 6, 7, 8, 9, 10, 11] [] rfl rfl (by decide) (by decide) (by decide) 0 1 rfl rfl rfl (Nat.le_of_ble_eq_true rfl) d_O_maximum_62 (fun u H locs hu hP hD hS => ?_)
            subst hu
            have hP : va_P D vwCl (ow D q n P (rw + 1) a 0 (-1) lw s1 sd (upd kd rw 2) (upd (upd (clr7 pa rw) (7 * rw + 0) r1) (7 * rw + 1) i) (vp_updL (vp_updL wd (2 * rw) 0) (2 * rw + 1) 0) ao fo uo ho xo) H := hP
            have hD : va_D A (ow D q n P (rw + 1) a 0 (-1) lw s1 sd (upd kd rw 2) (upd (upd (clr7 pa rw) (7 * rw + 0) r1) (7 * rw + 1) i) (vp_updL (vp_updL wd (2 * rw) 0) (2 * rw + 1) 0) ao fo uo ho xo) := hD
            refine lv_aload_n hx hb d_O_maximum_65 rfl (lv_at hl 1 rfl) ?_
            refine lv_iload hx hb d_O_maximum_66 (lv_at hl 0 rfl) ?_
            refine lv_iconst (v := 2) hx hb d_O_maximum_68 (by decide) ?_
            refine lv_iload_n hx hb d_O_maximum_69 rfl (lv_at hl 4 rfl) ?_
            refine wVv (n := 3) (wr := []) (Wf := oW D q) (rest := []) hx hb hml hown hA (o_set l D q n P (rw + 1) a 0 (-1) lw s1 sd (upd kd rw 2) (upd (upd (clr7 pa rw) (7 * rw + 0) r1) (7 * rw + 1) i) (vp_updL (vp_updL wd (2 * rw) 0) (2 * rw + 1) 0) ao fo uo ho xo rw 2 j _ (by omega) (by decide)) wv_O_80 ⟨by decide, by decide, by decide +kernel⟩ ⟨rfl, rfl, by decide, by decide⟩ rfl hl.1 ⟨Nat.le_of_ble_eq_true rfl, Nat.le_of_ble_eq_true rfl⟩ hP hK hD hS hAA hN [0, 1, 2, 3, 4, 5, 6, 7, 8, 9, 10, 11] [] rfl rfl (by decide) (by decide) (by decide) 0 1 rfl rfl rfl (Nat.le_of_ble_eq_true rfl) d_O_maximum_70 (fun u H locs hu hP hD hS => ?_)
            subst hu
            have hP : va_P D vwCl (ow D q n P (rw + 1) a 0 (-1) lw s1 sd (upd kd rw 2) (upd (upd (upd (clr7 pa rw) (7 * rw + 0) r1) (7 * rw + 1) i) (7 * rw + 2) j) (vp_updL (vp_updL wd (2 * rw) 0) (2 * rw + 1) 0) ao fo uo ho xo) H := hP
            have hD : va_D A (ow D q n P (rw + 1) a 0 (-1) lw s1 sd (upd kd rw 2) (upd (upd (upd (clr7 pa rw) (7 * rw + 0) r1) (7 * rw + 1) i) (7 * rw + 2) j) (vp_updL (vp_updL wd (2 * rw) 0) (2 * rw + 1) 0) ao fo uo ho xo) := hD
            refine lv_aload_n hx hb d_O_maximum_73 rfl (lv_at hl 1 rfl) ?_
            refine lv_iload hx hb d_O_maximum_74 (lv_at hl 0 rfl) ?_
            refine lv_iconst (v := 3) hx hb d_O_maximum_76 (by decide) ?_
            refine lv_iload hx hb d_O_maximum_77 (lv_at hl 5 rfl) ?_
            refine wVv (n := 3) (wr := []) (Wf := oW D q) (rest := []) hx hb hml hown hA (o_set l D q n P (rw + 1) a 0 (-1) lw s1 sd (upd kd rw 2) (upd (upd (upd (clr7 pa rw) (7 * rw + 0) r1) (7 * rw + 1) i) (7 * rw + 2) j) (vp_updL (vp_updL wd (2 * rw) 0) (2 * rw + 1) 0) ao fo uo ho xo rw 3 v _ (by omega) (by decide)) wv_O_80 ⟨by decide, by decide, by decide +kernel⟩ ⟨rfl, rfl, by decide, by decide⟩ rfl hl.1 ⟨Nat.le_of_ble_eq_true rfl, Nat.le_of_ble_eq_true rfl⟩ hP hK hD hS hAA hN [0, 1, 2, 3, 4, 5, 6, 7, 8, 9, 10, 11] [] rfl rfl (by decide) (by decide) (by decide) 0 1 rfl rfl rfl (Nat.le_of_ble_eq_true rfl) d_O_maximum_79 (fun u H locs hu hP hD hS => ?_)
            subst hu
            have hP : va_P D vwCl (ow D q n P (rw + 1) a 0 (-1) lw s1 sd (upd kd rw 2) (upd (upd (upd (upd (clr7 pa rw) (7 * rw + 0) r1) (7 * rw + 1) i) (7 * rw + 2) j) (7 * rw + 3) v) (vp_updL (vp_updL wd (2 * rw) 0) (2 * rw + 1) 0) ao fo uo ho xo) H := hP
            have hD : va_D A (ow D q n P (rw + 1) a 0 (-1) lw s1 sd (upd kd rw 2) (upd (upd (upd (upd (clr7 pa rw) (7 * rw + 0) r1) (7 * rw + 1) i) (7 * rw + 2) j) (7 * rw + 3) v) (vp_updL (vp_updL wd (2 * rw) 0) (2 * rw + 1) 0) ao fo uo ho xo) := hD
            refine lv_iload hx hb d_O_maximum_82 (lv_at hl 0 rfl) ?_
            exact eWi (n, P, (rw + 1), a, 0, -1, lw, s1, sd, upd kd rw 2, upd (upd (upd (upd (clr7 pa rw) (7 * rw + 0) r1) (7 * rw + 1) i) (7 * rw + 2) j) (7 * rw + 3) v, vp_updL (vp_updL wd (2 * rw) 0) (2 * rw + 1) 0, ao, fo, uo, ho, xo) hx hb hr hlocks hP hK hD hS (Or.inr ⟨⟨h2, h10, h18, h27⟩, Or.inr ⟨hr12, rfl, rfl⟩⟩) d_O_maximum_84
        · skip
          refine lv_if_ne (tgt := 35) hx hb d_O_maximum_30 (by decide) (fun h => absurd h (by decide)) (fun _ => ?_)
          refine lv_iconst (v := (-1)) hx hb d_O_maximum_33 (by decide) ?_
          exact eWi (n, P, rw, a, kn, an, lw, s1, sd, kd, pa, wd, ao, fo, uo, ho, xo) hx hb hr hlocks hP hK hD hS (Or.inl ⟨fun h => h27 (h.2.2.2), rfl, rfl⟩) d_O_maximum_34
      · skip
        refine lv_if_eq (tgt := 33) hx hb d_O_maximum_21 (by decide) (fun _ => ?_) (fun h => absurd h (by decide))
        refine lv_iconst (v := (-1)) hx hb d_O_maximum_33 (by decide) ?_
        exact eWi (n, P, rw, a, kn, an, lw, s1, sd, kd, pa, wd, ao, fo, uo, ho, xo) hx hb hr hlocks hP hK hD hS (Or.inl ⟨fun h => h18 (h.2.2.1), rfl, rfl⟩) d_O_maximum_34
    · skip
      refine lv_if_eq (tgt := 33) hx hb d_O_maximum_13 (by decide) (fun _ => ?_) (fun h => absurd h (by decide))
      refine lv_iconst (v := (-1)) hx hb d_O_maximum_33 (by decide) ?_
      exact eWi (n, P, rw, a, kn, an, lw, s1, sd, kd, pa, wd, ao, fo, uo, ho, xo) hx hb hr hlocks hP hK hD hS (Or.inl ⟨fun h => h10 (h.2.1), rfl, rfl⟩) d_O_maximum_34
  · skip
    refine lv_if_eq (tgt := 33) hx hb d_O_maximum_5 (by decide) (fun _ => ?_) (fun h => absurd h (by decide))
    refine lv_iconst (v := (-1)) hx hb d_O_maximum_33 (by decide) ?_
    exact eWi (n, P, rw, a, kn, an, lw, s1, sd, kd, pa, wd, ao, fo, uo, ho, xo) hx hb hr hlocks hP hK hD hS (Or.inl ⟨fun h => h2 (h.1), rfl, rfl⟩) d_O_maximum_34
end
