section
theorem d_O_reified_0 : decode b_O_reified 0 = .ok (.aload_n 0, 1) := by decide +kernel
theorem d_O_reified_1 : decode b_O_reified 1 = .ok (.iload_n 1, 1) := by decide +kernel
theorem d_O_reified_2 : decode b_O_reified 2 = .ok (.invokevirtual 59, 3) := by decide +kernel
theorem d_O_reified_5 : decode b_O_reified 5 = .ok (.ifCond .eq 31, 3) := by decide +kernel
theorem d_O_reified_8 : decode b_O_reified 8 = .ok (.aload_n 0, 1) := by decide +kernel
theorem d_O_reified_9 : decode b_O_reified 9 = .ok (.iload_n 2, 1) := by decide +kernel
theorem d_O_reified_10 : decode b_O_reified 10 = .ok (.invokevirtual 59, 3) := by decide +kernel
theorem d_O_reified_13 : decode b_O_reified 13 = .ok (.ifCond .eq 23, 3) := by decide +kernel
theorem d_O_reified_16 : decode b_O_reified 16 = .ok (.aload_n 0, 1) := by decide +kernel
theorem d_O_reified_17 : decode b_O_reified 17 = .ok (.iload_n 3, 1) := by decide +kernel
theorem d_O_reified_18 : decode b_O_reified 18 = .ok (.invokevirtual 59, 3) := by decide +kernel
theorem d_O_reified_21 : decode b_O_reified 21 = .ok (.ifCond .eq 15, 3) := by decide +kernel
theorem d_O_reified_24 : decode b_O_reified 24 = .ok (.iload 4, 2) := by decide +kernel
theorem d_O_reified_26 : decode b_O_reified 26 = .ok (.bipush (-100), 2) := by decide +kernel
theorem d_O_reified_28 : decode b_O_reified 28 = .ok (.bipush 100, 2) := by decide +kernel
theorem d_O_reified_30 : decode b_O_reified 30 = .ok (.invokestatic 72, 3) := by decide +kernel
theorem d_O_reified_33 : decode b_O_reified 33 = .ok (.ifCond .ne 5, 3) := by decide +kernel
theorem d_O_reified_36 : decode b_O_reified 36 = .ok (.iconst (-1), 1) := by decide +kernel
theorem d_O_reified_37 : decode b_O_reified 37 = .ok (.ireturn, 1) := by decide +kernel
theorem d_O_reified_38 : decode b_O_reified 38 = .ok (.aload_n 0, 1) := by decide +kernel
theorem d_O_reified_39 : decode b_O_reified 39 = .ok (.iconst 1, 1) := by decide +kernel
theorem d_O_reified_40 : decode b_O_reified 40 = .ok (.lconst 0, 1) := by decide +kernel
theorem d_O_reified_41 : decode b_O_reified 41 = .ok (.lconst 0, 1) := by decide +kernel
theorem d_O_reified_42 : decode b_O_reified 42 = .ok (.invokevirtual 76, 3) := by decide +kernel
theorem d_O_reified_45 : decode b_O_reified 45 = .ok (.istore 5, 2) := by decide +kernel
theorem d_O_reified_47 : decode b_O_reified 47 = .ok (.iload 5, 2) := by decide +kernel
theorem d_O_reified_49 : decode b_O_reified 49 = .ok (.ifCond .lt 36, 3) := by decide +kernel
theorem d_O_reified_52 : decode b_O_reified 52 = .ok (.aload_n 0, 1) := by decide +kernel
theorem d_O_reified_53 : decode b_O_reified 53 = .ok (.iload 5, 2) := by decide +kernel
theorem d_O_reified_55 : decode b_O_reified 55 = .ok (.iconst 0, 1) := by decide +kernel
theorem d_O_reified_56 : decode b_O_reified 56 = .ok (.iload_n 1, 1) := by decide +kernel
theorem d_O_reified_57 : decode b_O_reified 57 = .ok (.invokevirtual 80, 3) := by decide +kernel
theorem d_O_reified_60 : decode b_O_reified 60 = .ok (.aload_n 0, 1) := by decide +kernel
theorem d_O_reified_61 : decode b_O_reified 61 = .ok (.iload 5, 2) := by decide +kernel
theorem d_O_reified_63 : decode b_O_reified 63 = .ok (.iconst 1, 1) := by decide +kernel
theorem d_O_reified_64 : decode b_O_reified 64 = .ok (.iload_n 2, 1) := by decide +kernel
theorem d_O_reified_65 : decode b_O_reified 65 = .ok (.invokevirtual 80, 3) := by decide +kernel
theorem d_O_reified_68 : decode b_O_reified 68 = .ok (.aload_n 0, 1) := by decide +kernel
theorem d_O_reified_69 : decode b_O_reified 69 = .ok (.iload 5, 2) := by decide +kernel
theorem d_O_reified_71 : decode b_O_reified 71 = .ok (.iconst 2, 1) := by decide +kernel
theorem d_O_reified_72 : decode b_O_reified 72 = .ok (.iload_n 3, 1) := by decide +kernel
theorem d_O_reified_73 : decode b_O_reified 73 = .ok (.invokevirtual 80, 3) := by decide +kernel
theorem d_O_reified_76 : decode b_O_reified 76 = .ok (.aload_n 0, 1) := by decide +kernel
theorem d_O_reified_77 : decode b_O_reified 77 = .ok (.iload 5, 2) := by decide +kernel
theorem d_O_reified_79 : decode b_O_reified 79 = .ok (.iconst 3, 1) := by decide +kernel
theorem d_O_reified_80 : decode b_O_reified 80 = .ok (.iload 4, 2) := by decide +kernel
theorem d_O_reified_82 : decode b_O_reified 82 = .ok (.invokevirtual 80, 3) := by decide +kernel
theorem d_O_reified_85 : decode b_O_reified 85 = .ok (.iload 5, 2) := by decide +kernel
theorem d_O_reified_87 : decode b_O_reified 87 = .ok (.ireturn, 1) := by decide +kernel
set_option maxRecDepth 100000 in
set_option maxHeartbeats 4000000 in
theorem o_reified (l : Launch) (D : va_G) (q : Nat → Nat) (n P rw a : Nat) (kn an : Int32) (lw s1 sd kd pa : Nat → Int32) (wd : Nat → Int64) (ao fo uo ho xo : Nat → Int32) (r1 i j c1 : Int32) (sz : Nat) (hrw : rw ≤ 12) : Met l y_O_reified (wsm y_O_reified b_O_reified 6 (some .int)) { frames := 2, cells := 0, slots := 0, locals := 46 } (va_Pc [.ref (q 0), .int r1, .int i, .int j, .int c1] (fun U => U.heap.size = sz ∧ cPre D (ow D q n P rw a kn an lw s1 sd kd pa wd ao fo uo ho xo) U)) (va_Qi (fun (r : Int32) (u : OS) => (¬ (iv n r1 ∧ iv n i ∧ iv n j ∧ wi3 c1 (-100) 100) ∧ r = -1 ∧ u = (n, P, rw, a, kn, an, lw, s1, sd, kd, pa, wd, ao, fo, uo, ho, xo)) ∨ ((iv n r1 ∧ iv n i ∧ iv n j ∧ wi3 c1 (-100) 100) ∧ ((¬ rw < 12 ∧ r = -2 ∧ u = (n, P, rw, a, kn, an, lw, s1, sd, kd, pa, wd, ao, fo, uo, ho, xo)) ∨ (rw < 12 ∧ r = nI rw ∧ u = (n, P, rw + 1, a, 0, -1, lw, s1, sd, upd kd rw 1, upd (upd (upd (upd (clr7 pa rw) (7 * rw + 0) r1) (7 * rw + 1) i) (7 * rw + 2) j) (7 * rw + 3) c1, vp_updL (vp_updL wd (2 * rw) 0) (2 * rw + 1) 0, ao, fo, uo, ho, xo))))) (fun u t => xB D (oW D q u) (va_A (ow D q n P rw a kn an lw s1 sd kd pa wd ao fo uo ho xo) sz) t) (va_A (ow D q n P rw a kn an lw s1 sd kd pa wd ao fo uo ho xo) sz)) 0 0 (va_A (ow D q n P rw a kn an lw s1 sd kd pa wd ao fo uo ho xo) sz) := by
  refine met_W (Qf := fun A => va_Qi (fun (r : Int32) (u : OS) => (¬ (iv n r1 ∧ iv n i ∧ iv n j ∧ wi3 c1 (-100) 100) ∧ r = -1 ∧ u = (n, P, rw, a, kn, an, lw, s1, sd, kd, pa, wd, ao, fo, uo, ho, xo)) ∨ ((iv n r1 ∧ iv n i ∧ iv n j ∧ wi3 c1 (-100) 100) ∧ ((¬ rw < 12 ∧ r = -2 ∧ u = (n, P, rw, a, kn, an, lw, s1, sd, kd, pa, wd, ao, fo, uo, ho, xo)) ∨ (rw < 12 ∧ r = nI rw ∧ u = (n, P, rw + 1, a, 0, -1, lw, s1, sd, upd kd rw 1, upd (upd (upd (upd (clr7 pa rw) (7 * rw + 0) r1) (7 * rw + 1) i) (7 * rw + 2) j) (7 * rw + 3) c1, vp_updL (vp_updL wd (2 * rw) 0) (2 * rw + 1) 0, ao, fo, uo, ho, xo))))) (fun u t => xB D (oW D q u) A t) A) (by decide) (Nat.le_of_ble_eq_true rfl) ?_
  intro p e s m below meth c ls A hx hb hr hlocks hml hown hin hA hP hK hD hN hl hS hAA
  have hown : s.vm.findClass R_O = some m.cls := hown
  have hl : lv_has ls 6 [(0, .ref (q 0)), (1, .int r1), (2, .int i), (3, .int j), (4, .int c1)] := hl
  refine lv_aload_n hx hb d_O_reified_0 rfl (lv_at hl 0 rfl) ?_
  refine lv_iload_n hx hb d_O_reified_1 rfl (lv_at hl 1 rfl) ?_
  refine rV (n := 1) (rest := []) hx hb hml hown hA (o_isVariable l D q n P rw a kn an lw s1 sd kd pa wd ao fo uo ho xo r1) wv_O_59 ⟨by decide, by decide, by decide +kernel⟩ ⟨rfl, rfl, by decide, by decide⟩ rfl hl.1 ⟨Nat.le_of_ble_eq_true rfl, Nat.le_of_ble_eq_true rfl⟩ hP hK hD hN 0 1 rfl rfl rfl (Nat.le_of_ble_eq_true rfl) d_O_reified_2 (fun r hr9 => ?_)
  rcases zb_c hr9 with ⟨rfl, h2⟩ | ⟨rfl, h2⟩
  · skip
    refine lv_if_eq (tgt := 36) hx hb d_O_reified_5 (by decide) (fun h => absurd h (by decide)) (fun _ => ?_)
    refine lv_aload_n hx hb d_O_reified_8 rfl (lv_at hl 0 rfl) ?_
    refine lv_iload_n hx hb d_O_reified_9 rfl (lv_at hl 2 rfl) ?_
    refine rV (n := 1) (rest := []) hx hb hml hown hA (o_isVariable l D q n P rw a kn an lw s1 sd kd pa wd ao fo uo ho xo i) wv_O_59 ⟨by decide, by decide, by decide +kernel⟩ ⟨rfl, rfl, by decide, by decide⟩ rfl hl.1 ⟨Nat.le_of_ble_eq_true rfl, Nat.le_of_ble_eq_true rfl⟩ hP hK hD hN 0 1 rfl rfl rfl (Nat.le_of_ble_eq_true rfl) d_O_reified_10 (fun r hr9 => ?_)
    rcases zb_c hr9 with ⟨rfl, h10⟩ | ⟨rfl, h10⟩
    · skip
      refine lv_if_eq (tgt := 36) hx hb d_O_reified_13 (by decide) (fun h => absurd h (by decide)) (fun _ => ?_)
      refine lv_aload_n hx hb d_O_reified_16 rfl (lv_at hl 0 rfl) ?_
      refine lv_iload_n hx hb d_O_reified_17 rfl (lv_at hl 3 rfl) ?_
      refine rV (n := 1) (rest := []) hx hb hml hown hA (o_isVariable l D q n P rw a kn an lw s1 sd kd pa wd ao fo uo ho xo j) wv_O_59 ⟨by decide, by decide, by decide +kernel⟩ ⟨rfl, rfl, by decide, by decide⟩ rfl hl.1 ⟨Nat.le_of_ble_eq_true rfl, Nat.le_of_ble_eq_true rfl⟩ hP hK hD hN 0 1 rfl rfl rfl (Nat.le_of_ble_eq_true rfl) d_O_reified_18 (fun r hr9 => ?_)
      rcases zb_c hr9 with ⟨rfl, h18⟩ | ⟨rfl, h18⟩
      · skip
        refine lv_if_eq (tgt := 36) hx hb d_O_reified_21 (by decide) (fun h => absurd h (by decide)) (fun _ => ?_)
        refine lv_iload hx hb d_O_reified_24 (lv_at hl 4 rfl) ?_
        refine lv_bipush (v := (-100)) hx hb d_O_reified_26 (by decide) ?_
        refine lv_bipush (v := 100) hx hb d_O_reified_28 (by decide) ?_
        refine rS (n := 3) (rest := []) hx hb hml hown hA (o_within l D c1 (-100) 100) wv_O_72 ⟨by decide, by decide, by decide +kernel⟩ ⟨rfl, rfl, by decide, by decide⟩ rfl hl.1 ⟨Nat.le_of_ble_eq_true rfl, Nat.le_of_ble_eq_true rfl⟩ (va_P.sub1 hP [] rfl) hK (va_D.sub hD [] rfl rfl) hN rfl (Nat.le_of_ble_eq_true rfl) d_O_reified_30 (fun r hr9 => ?_)
        rcases zb_c hr9 with ⟨rfl, h30⟩ | ⟨rfl, h30⟩
        · skip
          refine lv_if_ne (tgt := 38) hx hb d_O_reified_33 (by decide) (fun _ => ?_) (fun h => absurd h (by decide))
          refine lv_aload_n hx hb d_O_reified_38 rfl (lv_at hl 0 rfl) ?_
          refine lv_iconst (v := 1) hx hb d_O_reified_39 (by decide) ?_
          refine lv_lconst (v := 0) hx hb d_O_reified_40 (by decide) ?_
          refine lv_lconst (v := 0) hx hb d_O_reified_41 (by decide) ?_
          refine wVi (n := 3) (wr := []) (Wf := oW D q) (rest := []) hx hb hml hown hA (o_add l D q n P rw a kn an lw s1 sd kd pa wd ao fo uo ho xo 1 0 0 _ hrw) wv_O_76 ⟨by decide, by decide, by decide +kernel⟩ ⟨rfl, rfl, by decide, by decide⟩ rfl hl.1 ⟨Nat.le_of_ble_eq_true rfl, Nat.le_of_ble_eq_true rfl⟩ hP hK hD hS hAA hN [0, 1, 2, 3, 4, 5, 6, 7, 8, 9, 10, 11] [] rfl rfl (by decide) (by decide) (by decide) 0 1 rfl rfl rfl (Nat.le_of_ble_eq_true rfl) d_O_reified_42 (fun r u H locs hu hP hD hS => ?_)
          rcases hu with ⟨hr12, rfl, rfl⟩ | ⟨hr12, rfl, rfl⟩
          · skip
            have hP : va_P D vwCl (ow D q n P rw a kn an lw s1 sd kd pa wd ao fo uo ho xo) H := hP
            have hD : va_D A (ow D q n P rw a kn an lw s1 sd kd pa wd ao fo uo ho xo) := hD
            refine lv_istore hx hb d_O_reified_45 hl (by decide) rfl (fun ls hl => ?_)
            have hl : lv_has ls 6 [(5, .int (-2)), (0, .ref (q 0)), (1, .int r1), (2, .int i), (3, .int j), (4, .int c1)] := hl
            refine lv_iload hx hb d_O_reified_47 (lv_at hl 0 rfl) ?_
            refine lv_if_lt (tgt := 85) hx hb d_O_reified_49 (by decide) (fun _ => ?_) (fun h => absurd h (by decide))
            refine lv_iload hx hb d_O_reified_85 (lv_at hl 0 rfl) ?_
            exact eWi (n, P, rw, a, kn, an, lw, s1, sd, kd, pa, wd, ao, fo, uo, ho, xo) hx hb hr hlocks hP hK hD hS (Or.inr ⟨⟨h2, h10, h18, h30⟩, Or.inl ⟨hr12, rfl, rfl⟩⟩) d_O_reified_87
          · skip
            have hP : va_P D vwCl (ow D q n P (rw + 1) a 0 (-1) lw s1 sd (upd kd rw 1) (clr7 pa rw) (vp_updL (vp_updL wd (2 * rw) 0) (2 * rw + 1) 0) ao fo uo ho xo) H := hP
            have hD : va_D A (ow D q n P (rw + 1) a 0 (-1) lw s1 sd (upd kd rw 1) (clr7 pa rw) (vp_updL (vp_updL wd (2 * rw) 0) (2 * rw + 1) 0) ao fo uo ho xo) := hD
            refine lv_istore hx hb d_O_reified_45 hl (by decide) rfl (fun ls hl => ?_)
            have hl : lv_has ls 6 [(5, .int (nI rw)), (0, .ref (q 0)), (1, .int r1), (2, .int i), (3, .int j), (4, .int c1)] := hl
            refine lv_iload hx hb d_O_reified_47 (lv_at hl 0 rfl) ?_
            refine lv_if_lt (tgt := 85) hx hb d_O_reified_49 (by decide) (fun h => absurd h (nI_pos (by omega))) (fun h49 => ?_)
            refine lv_aload_n hx hb d_O_reified_52 rfl (lv_at hl 1 rfl) ?_
            refine lv_iload hx hb d_O_reified_53 (lv_at hl 0 rfl) ?_
            refine lv_iconst (v := 0) hx hb d_O_reified_55 (by decide) ?_
            refine lv_iload_n hx hb d_O_reified_56 rfl (lv_at hl 2 rfl) ?_
            refine wVv (n := 3) (wr := []) (Wf := oW D q) (rest := []) hx hb hml hown hA (o_set l D q n P (rw + 1) a 0 (-1) lw s1 sd (upd kd rw 1) (clr7 pa rw) (vp_updL (vp_updL wd (2 * rw) 0) (2 * rw + 1) 0) ao fo uo ho xo rw 0 r1 _ (by omega) (by decide)) wv_O_80 ⟨by decide, by decide, by decide +kernel⟩ ⟨rfl, rfl, by decide, by decide⟩ rfl hl.1 ⟨Nat.le_of_ble_eq_true rfl, Nat.le_of_ble_eq_true rfl⟩ hP hK hD hS hAA hN [0, 1, 2, 3, 4, 5, 6, 7, 8, 9, 10, 11] [] rfl rfl (by decide) (by decide) (by decide) 0 1 rfl rfl rfl (Nat.le_of_ble_eq_true rfl) d_O_reified_57 (fun u H locs hu hP hD hS => ?_)
            subst hu
            have hP : va_P D vwCl (ow D q n P (rw + 1) a 0 (-1) lw s1 sd (upd kd rw 1) (upd (clr7 pa rw) (7 * rw + 0) r1) (vp_updL (vp_updL wd (2 * rw) 0) (2 * rw + 1) 0) ao fo uo ho xo) H := hP
            have hD : va_D A (ow D q n P (rw + 1) a 0 (-1) lw s1 sd (upd kd rw 1) (upd (clr7 pa rw) (7 * rw + 0) r1) (vp_updL (vp_updL wd (2 * rw) 0) (2 * rw + 1) 0) ao fo uo ho xo) := hD
            refine lv_aload_n hx hb d_O_reified_60 rfl (lv_at hl 1 rfl) ?_
            refine lv_iload hx hb d_O_reified_61 (lv_at hl 0 rfl) ?_
            refine lv_iconst (v := 1) hx hb d_O_reified_63 (by decide) ?_
            refine lv_iload_n hx hb d_O_reified_64 rfl (lv_at hl 3 rfl) ?_
            refine wVv (n := 3) (wr := []) (Wf := oW D q) (rest := []) hx hb hml hown hA (o_set l D q n P (rw + 1) a 0 (-1) lw s1 sd (upd kd rw 1) (upd (clr7 pa rw) (7 * rw + 0) r1) (vp_updL (vp_updL wd (2 * rw) 0) (2 * rw + 1) 0) ao fo uo ho xo rw 1 i _ (by omega) (by decide)) wv_O_80 ⟨by decide, by decide, by decide +kernel⟩ ⟨rfl, rfl, by decide, by decide⟩ rfl hl.1 ⟨Nat.le_of_ble_eq_true rfl, Nat.le_of_ble_eq_true rfl⟩ hP hK hD hS hAA hN [0, 1, 2, 3, 4, 5, 6, 7, 8, 9, 10, 11] [] rfl rfl (by decide) (by decide) (by decide) 0 1 rfl rfl rfl (Nat.le_of_ble_eq_true rfl) d_O_reified_65 (fun u H locs hu hP hD hS => ?_)
            subst hu
            have hP : va_P D vwCl (ow D q n P (rw + 1) a 0 (-1) lw s1 sd (upd kd rw 1) (upd (upd (clr7 pa rw) (7 * rw + 0) r1) (7 * rw + 1) i) (vp_updL (vp_updL wd (2 * rw) 0) (2 * rw + 1) 0) ao fo uo ho xo) H := hP
            have hD : va_D A (ow D q n P (rw + 1) a 0 (-1) lw s1 sd (upd kd rw 1) (upd (upd (clr7 pa rw) (7 * rw + 0) r1) (7 * rw + 1) i) (vp_updL (vp_updL wd (2 * rw) 0) (2 * rw + 1) 0) ao fo uo ho xo) := hD
            refine lv_aload_n hx hb d_O_reified_68 rfl (lv_at hl 1 rfl) ?_
            refine lv_iload hx hb d_O_reified_69 (lv_at hl 0 rfl) ?_
            refine lv_iconst (v := 2) hx hb d_O_reified_71 (by decide) ?_
            refine lv_iload_n hx hb d_O_reified_72 rfl (lv_at hl 4 rfl) ?_
            refine wVv (n := 3) (wr := []) (Wf := oW D q) (rest := []) hx hb hml hown hA (o_set l D q n P (rw + 1) a 0 (-1) lw s1 sd (upd kd rw 1) (upd (upd (clr7 pa rw) (7 * rw + 0) r1) (7 * rw + 1) i) (vp_updL (vp_updL wd (2 * rw) 0) (2 * rw + 1) 0) ao fo uo ho xo rw 2 j _ (by omega) (by decide)) wv_O_80 ⟨by decide, by decide, by decide +kernel⟩ ⟨rfl, rfl, by decide, by decide⟩ rfl hl.1 ⟨Nat.le_of_ble_eq_true rfl, Nat.le_of_ble_eq_true rfl⟩ hP hK hD hS hAA hN [0, 1, 2, 3, 4, 5, 6, 7, 8, 9, 10, 11] [] rfl rfl (by decide) (by decide) (by decide) 0 1 rfl rfl rfl (Nat.le_of_ble_eq_true rfl) d_O_reified_73 (fun u H locs hu hP hD hS => ?_)
            subst hu
            have hP : va_P D vwCl (ow D q n P (rw + 1) a 0 (-1) lw s1 sd (upd kd rw 1) (upd (upd (upd (clr7 pa rw) (7 * rw + 0) r1) (7 * rw + 1) i) (7 * rw + 2) j) (vp_updL (vp_updL wd (2 * rw) 0) (2 * rw + 1) 0) ao fo uo ho xo) H := hP
            have hD : va_D A (ow D q n P (rw + 1) a 0 (-1) lw s1 sd (upd kd rw 1) (upd (upd (upd (clr7 pa rw) (7 * rw + 0) r1) (7 * rw + 1) i) (7 * rw + 2) j) (vp_updL (vp_updL wd (2 * rw) 0) (2 * rw + 1) 0) ao fo uo ho xo) := hD
            refine lv_aload_n hx hb d_O_reified_76 rfl (lv_at hl 1 rfl) ?_
            refine lv_iload hx hb d_O_reified_77 (lv_at hl 0 rfl) ?_
            refine lv_iconst (v := 3) hx hb d_O_reified_79 (by decide) ?_
            refine lv_iload hx hb d_O_reified_80 (lv_at hl 5 rfl) ?_
            refine wVv (n := 3) (wr := []) (Wf := oW D q) (rest := []) hx hb hml hown hA (o_set l D q n P (rw + 1) a 0 (-1) lw s1 sd (upd kd rw 1) (upd (upd (upd (clr7 pa rw) (7 * rw + 0) r1) (7 * rw + 1) i) (7 * rw + 2) j) (vp_updL (vp_updL wd (2 * rw) 0) (2 * rw + 1) 0) ao fo uo ho xo rw 3 c1 _ (by omega) (by decide)) wv_O_80 ⟨by decide, by decide, by decide +kernel⟩ ⟨rfl, rfl, by decide, by decide⟩ rfl hl.1 ⟨Nat.le_of_ble_eq_true rfl, Nat.le_of_ble_eq_true rfl⟩ hP hK hD hS hAA hN [0, 1, 2, 3, 4, 5, 6, 7, 8, 9, 10, 11] [] rfl rfl (by decide) (by decide) (by decide) 0 1 rfl rfl rfl (Nat.le_of_ble_eq_true rfl) d_O_reified_82 (fun u H locs hu hP hD hS => ?_)
            subst hu
            have hP : va_P D vwCl (ow D q n P (rw + 1) a 0 (-1) lw s1 sd (upd kd rw 1) (upd (upd (upd (upd (clr7 pa rw) (7 * rw + 0) r1) (7 * rw + 1) i) (7 * rw + 2) j) (7 * rw + 3) c1) (vp_updL (vp_updL wd (2 * rw) 0) (2 * rw + 1) 0) ao fo uo ho xo) H := hP
            have hD : va_D A (ow D q n P (rw + 1) a 0 (-1) lw s1 sd (upd kd rw 1) (upd (upd (upd (upd (clr7 pa rw) (7 * rw + 0) r1) (7 * rw + 1) i) (7 * rw + 2) j) (7 * rw + 3) c1) (vp_updL (vp_updL wd (2 * rw) 0) (2 * rw + 1) 0) ao fo uo ho xo) := hD
            refine lv_iload hx hb d_O_reified_85 (lv_at hl 0 rfl) ?_
            exact eWi (n, P, (rw + 1), a, 0, -1, lw, s1, sd, upd kd rw 1, upd (upd (upd (upd (clr7 pa rw) (7 * rw + 0) r1) (7 * rw + 1) i) (7 * rw + 2) j) (7 * rw + 3) c1, vp_updL (vp_updL wd (2 * rw) 0) (2 * rw + 1) 0, ao, fo, uo, ho, xo) hx hb hr hlocks hP hK hD hS (Or.inr ⟨⟨h2, h10, h18, h30⟩, Or.inr ⟨hr12, rfl, rfl⟩⟩) d_O_reified_87
        · skip
          refine lv_if_ne (tgt := 38) hx hb d_O_reified_33 (by decide) (fun h => absurd h (by decide)) (fun _ => ?_)
          refine lv_iconst (v := (-1)) hx hb d_O_reified_36 (by decide) ?_
          exact eWi (n, P, rw, a, kn, an, lw, s1, sd, kd, pa, wd, ao, fo, uo, ho, xo) hx hb hr hlocks hP hK hD hS (Or.inl ⟨fun h => h30 (h.2.2.2), rfl, rfl⟩) d_O_reified_37
      · skip
        refine lv_if_eq (tgt := 36) hx hb d_O_reified_21 (by decide) (fun _ => ?_) (fun h => absurd h (by decide))
        refine lv_iconst (v := (-1)) hx hb d_O_reified_36 (by decide) ?_
        exact eWi (n, P, rw, a, kn, an, lw, s1, sd, kd, pa, wd, ao, fo, uo, ho, xo) hx hb hr hlocks hP hK hD hS (Or.inl ⟨fun h => h18 (h.2.2.1), rfl, rfl⟩) d_O_reified_37
    · skip
      refine lv_if_eq (tgt := 36) hx hb d_O_reified_13 (by decide) (fun _ => ?_) (fun h => absurd h (by decide))
      refine lv_iconst (v := (-1)) hx hb d_O_reified_36 (by decide) ?_
      exact eWi (n, P, rw, a, kn, an, lw, s1, sd, kd, pa, wd, ao, fo, uo, ho, xo) hx hb hr hlocks hP hK hD hS (Or.inl ⟨fun h => h10 (h.2.1), rfl, rfl⟩) d_O_reified_37
  · skip
    refine lv_if_eq (tgt := 36) hx hb d_O_reified_5 (by decide) (fun _ => ?_) (fun h => absurd h (by decide))
    refine lv_iconst (v := (-1)) hx hb d_O_reified_36 (by decide) ?_
    exact eWi (n, P, rw, a, kn, an, lw, s1, sd, kd, pa, wd, ao, fo, uo, ho, xo) hx hb hr hlocks hP hK hD hS (Or.inl ⟨fun h => h2 (h.1), rfl, rfl⟩) d_O_reified_37
end
