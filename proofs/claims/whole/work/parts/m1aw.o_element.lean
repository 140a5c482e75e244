section
theorem d_O_element_0 : decode b_O_element 0 = .ok (.aload_n 0, 1) := by decide +kernel
theorem d_O_element_1 : decode b_O_element 1 = .ok (.iload_n 1, 1) := by decide +kernel
theorem d_O_element_2 : decode b_O_element 2 = .ok (.invokevirtual 59, 3) := by decide +kernel
theorem d_O_element_5 : decode b_O_element 5 = .ok (.ifCond .eq 11, 3) := by decide +kernel
theorem d_O_element_8 : decode b_O_element 8 = .ok (.aload_n 0, 1) := by decide +kernel
theorem d_O_element_9 : decode b_O_element 9 = .ok (.iload_n 2, 1) := by decide +kernel
theorem d_O_element_10 : decode b_O_element 10 = .ok (.invokevirtual 59, 3) := by decide +kernel
theorem d_O_element_13 : decode b_O_element 13 = .ok (.ifCond .ne 5, 3) := by decide +kernel
theorem d_O_element_16 : decode b_O_element 16 = .ok (.iconst (-1), 1) := by decide +kernel
theorem d_O_element_17 : decode b_O_element 17 = .ok (.ireturn, 1) := by decide +kernel
theorem d_O_element_18 : decode b_O_element 18 = .ok (.aload_n 0, 1) := by decide +kernel
theorem d_O_element_19 : decode b_O_element 19 = .ok (.iconst 3, 1) := by decide +kernel
theorem d_O_element_20 : decode b_O_element 20 = .ok (.lload_n 3, 1) := by decide +kernel
theorem d_O_element_21 : decode b_O_element 21 = .ok (.lconst 0, 1) := by decide +kernel
theorem d_O_element_22 : decode b_O_element 22 = .ok (.invokevirtual 76, 3) := by decide +kernel
theorem d_O_element_25 : decode b_O_element 25 = .ok (.istore 5, 2) := by decide +kernel
theorem d_O_element_27 : decode b_O_element 27 = .ok (.iload 5, 2) := by decide +kernel
theorem d_O_element_29 : decode b_O_element 29 = .ok (.ifCond .lt 19, 3) := by decide +kernel
theorem d_O_element_32 : decode b_O_element 32 = .ok (.aload_n 0, 1) := by decide +kernel
theorem d_O_element_33 : decode b_O_element 33 = .ok (.iload 5, 2) := by decide +kernel
theorem d_O_element_35 : decode b_O_element 35 = .ok (.iconst 0, 1) := by decide +kernel
theorem d_O_element_36 : decode b_O_element 36 = .ok (.iload_n 1, 1) := by decide +kernel
theorem d_O_element_37 : decode b_O_element 37 = .ok (.invokevirtual 80, 3) := by decide +kernel
theorem d_O_element_40 : decode b_O_element 40 = .ok (.aload_n 0, 1) := by decide +kernel
theorem d_O_element_41 : decode b_O_element 41 = .ok (.iload 5, 2) := by decide +kernel
theorem d_O_element_43 : decode b_O_element 43 = .ok (.iconst 1, 1) := by decide +kernel
theorem d_O_element_44 : decode b_O_element 44 = .ok (.iload_n 2, 1) := by decide +kernel
theorem d_O_element_45 : decode b_O_element 45 = .ok (.invokevirtual 80, 3) := by decide +kernel
theorem d_O_element_48 : decode b_O_element 48 = .ok (.iload 5, 2) := by decide +kernel
theorem d_O_element_50 : decode b_O_element 50 = .ok (.ireturn, 1) := by decide +kernel
set_option maxRecDepth 100000 in
set_option maxHeartbeats 4000000 in
theorem o_element (l : Launch) (D : va_G) (q : Nat → Nat) (n P rw a : Nat) (kn an : Int32) (lw s1 sd kd pa : Nat → Int32) (wd : Nat → Int64) (ao fo uo ho xo : Nat → Int32) (r1 i : Int32) (tb : Int64) (sz : Nat) (hrw : rw ≤ 12) : Met l y_O_element (wsm y_O_element b_O_element 6 (some .int)) { frames := 2, cells := 0, slots := 0, locals := 46 } (va_Pc [.ref (q 0), .int r1, .int i, .long tb] (fun U => U.heap.size = sz ∧ cPre D (ow D q n P rw a kn an lw s1 sd kd pa wd ao fo uo ho xo) U)) (va_Qi (fun (r : Int32) (u : OS) => (¬ (iv n r1 ∧ iv n i) ∧ r = -1 ∧ u = (n, P, rw, a, kn, an, lw, s1, sd, kd, pa, wd, ao, fo, uo, ho, xo)) ∨ ((iv n r1 ∧ iv n i) ∧ ((¬ rw < 12 ∧ r = -2 ∧ u = (n, P, rw, a, kn, an, lw, s1, sd, kd, pa, wd, ao, fo, uo, ho, xo)) ∨ (rw < 12 ∧ r = nI rw ∧ u = (n, P, rw + 1, a, 0, -1, lw, s1, sd, upd kd rw 3, upd (upd (clr7 pa rw) (7 * rw + 0) r1) (7 * rw + 1) i, vp_updL (vp_updL wd (2 * rw) tb) (2 * rw + 1) 0, ao, fo, uo, ho, xo))))) (fun u t => xB D (oW D q u) (va_A (ow D q n P rw a kn an lw s1 sd kd pa wd ao fo uo ho xo) sz) t) (va_A (ow D q n P rw a kn an lw s1 sd kd pa wd ao fo uo ho xo) sz)) 0 0 (va_A (ow D q n P rw a kn an lw s1 sd kd pa wd ao fo uo ho xo) sz) := by
  refine met_W (Qf := fun A => va_Qi (fun (r : Int32) (u : OS) => (¬ (iv n r1 ∧ iv n i) ∧ r = -1 ∧ u = (n, P, rw, a, kn, an, lw, s1, sd, kd, pa, wd, ao, fo, uo, ho, xo)) ∨ ((iv n r1 ∧ iv n i) ∧ ((¬ rw < 12 ∧ r = -2 ∧ u = (n, P, rw, a, kn, an, lw, s1, sd, kd, pa, wd, ao, fo, uo, ho, xo)) ∨ (rw < 12 ∧ r = nI rw ∧ u = (n, P, rw + 1, a, 0, -1, lw, s1, sd, upd kd rw 3, upd (upd (clr7 pa rw) (7 * rw + 0) r1) (7 * rw + 1) i, vp_updL (vp_updL wd (2 * rw) tb) (2 * rw + 1) 0, ao, fo, uo, ho, xo))))) (fun u t => xB D (oW D q u) A t) A) (by decide) (Nat.le_of_ble_eq_true rfl) ?_
  intro p e s m below meth c ls A hx hb hr hlocks hml hown hin hA hP hK hD hN hl hS hAA
  have hown : s.vm.findClass R_O = some m.cls := hown
  have hl : lv_has ls 6 [(0, .ref (q 0)), (1, .int r1), (2, .int i), (3, .long tb)] := hl
  refine lv_aload_n hx hb d_O_element_0 rfl (lv_at hl 0 rfl) ?_
  refine lv_iload_n hx hb d_O_element_1 rfl (lv_at hl 1 rfl) ?_
  refine rV (n := 1) (rest := []) hx hb hml hown hA (o_isVariable l D q n P rw a kn an lw s1 sd kd pa wd ao fo uo ho xo r1) wv_O_59 ⟨by decide, by decide, by decide +kernel⟩ ⟨rfl, rfl, by decide, by decide⟩ rfl hl.1 ⟨Nat.le_of_ble_eq_true rfl, Nat.le_of_ble_eq_true rfl⟩ hP hK hD hN 0 1 rfl rfl rfl (Nat.le_of_ble_eq_true rfl) d_O_element_2 (fun r hr9 => ?_)
  rcases zb_c hr9 with ⟨rfl, h2⟩ | ⟨rfl, h2⟩
  · skip
    refine lv_if_eq (tgt := 16) hx hb d_O_element_5 (by decide) (fun h => absurd h (by decide)) (fun _ => ?_)
    refine lv_aload_n hx hb d_O_element_8 rfl (lv_at hl 0 rfl) ?_
    refine lv_iload_n hx hb d_O_element_9 rfl (lv_at hl 2 rfl) ?_
    refine rV (n := 1) (rest := []) hx hb hml hown hA (o_isVariable l D q n P rw a kn an lw s1 sd kd pa wd ao fo uo ho xo i) wv_O_59 ⟨by decide, by decide, by decide +kernel⟩ ⟨rfl, rfl, by decide, by decide⟩ rfl hl.1 ⟨Nat.le_of_ble_eq_true rfl, Nat.le_of_ble_eq_true rfl⟩ hP hK hD hN 0 1 rfl rfl rfl (Nat.le_of_ble_eq_true rfl) d_O_element_10 (fun r hr9 => ?_)
    rcases zb_c hr9 with ⟨rfl, h10⟩ | ⟨rfl, h10⟩
    · skip
      refine lv_if_ne (tgt := 18) hx hb d_O_element_13 (by decide) (fun _ => ?_) (fun h => absurd h (by decide))
      refine lv_aload_n hx hb d_O_element_18 rfl (lv_at hl 0 rfl) ?_
      refine lv_iconst (v := 3) hx hb d_O_element_19 (by decide) ?_
      refine lv_lload_n hx hb d_O_element_20 rfl (lv_at hl 3 rfl) ?_
      refine lv_lconst (v := 0) hx hb d_O_element_21 (by decide) ?_
      refine wVi (n := 3) (wr := []) (Wf := oW D q) (rest := []) hx hb hml hown hA (o_add l D q n P rw a kn an lw s1 sd kd pa wd ao fo uo ho xo 3 tb 0 _ hrw) wv_O_76 ⟨by decide, by decide, by decide +kernel⟩ ⟨rfl, rfl, by decide, by decide⟩ rfl hl.1 ⟨Nat.le_of_ble_eq_true rfl, Nat.le_of_ble_eq_true rfl⟩ hP hK hD hS hAA hN [0, 1, 2, 3, 4, 5, 6, 7, 8, 9, 10, 11] [] rfl rfl (by decide) (by decide) (by decide) 0 1 rfl rfl rfl (Nat.le_of_ble_eq_true rfl) d_O_element_22 (fun r u H locs hu hP hD hS => ?_)
      rcases hu with ⟨hr12, rfl, rfl⟩ | ⟨hr12, rfl, rfl⟩
      · skip
        have hP : va_P D vwCl (ow D q n P rw a kn an lw s1 sd kd pa wd ao fo uo ho xo) H := hP
        have hD : va_D A (ow D q n P rw a kn an lw s1 sd kd pa wd ao fo uo ho xo) := hD
        refine lv_istore hx hb d_O_element_25 hl (by decide) rfl (fun ls hl => ?_)
        have hl : lv_has ls 6 [(5, .int (-2)), (0, .ref (q 0)), (1, .int r1), (2, .int i), (3, .long tb)] := hl
        refine lv_iload hx hb d_O_element_27 (lv_at hl 0 rfl) ?_
        refine lv_if_lt (tgt := 48) hx hb d_O_element_29 (by decide) (fun _ => ?_) (fun h => absurd h (by decide))
        refine lv_iload hx hb d_O_element_48 (lv_at hl 0 rfl) ?_
        exact eWi (n, P, rw, a, kn, an, lw, s1, sd, kd, pa, wd, ao, fo, uo, ho, xo) hx hb hr hlocks hP hK hD hS (Or.inr ⟨⟨h2, h10⟩, Or.inl ⟨hr12, rfl, rfl⟩⟩) d_O_element_50
      · skip
        have hP : va_P D vwCl (ow D q n P (rw + 1) a 0 (-1) lw s1 sd (upd kd rw 3) (clr7 pa rw) (vp_updL (vp_updL wd (2 * rw) tb) (2 * rw + 1) 0) ao fo uo ho xo) H := hP
        have hD : va_D A (ow D q n P (rw + 1) a 0 (-1) lw s1 sd (upd kd rw 3) (clr7 pa rw) (vp_updL (vp_updL wd (2 * rw) tb) (2 * rw + 1) 0) ao fo uo ho xo) := hD
        refine lv_istore hx hb d_O_element_25 hl (by decide) rfl (fun ls hl => ?_)
        have hl : lv_has ls 6 [(5, .int (nI rw)), (0, .ref (q 0)), (1, .int r1), (2, .int i), (3, .long tb)] := hl
        refine lv_iload hx hb d_O_element_27 (lv_at hl 0 rfl) ?_
        refine lv_if_lt (tgt := 48) hx hb d_O_element_29 (by decide) (fun h => absurd h (nI_pos (by omega))) (fun h29 => ?_)
        refine lv_aload_n hx hb d_O_element_32 rfl (lv_at hl 1 rfl) ?_
        refine lv_iload hx hb d_O_element_33 (lv_at hl 0 rfl) ?_
        refine lv_iconst (v := 0) hx hb d_O_element_35 (by decide) ?_
        refine lv_iload_n hx hb d_O_element_36 rfl (lv_at hl 2 rfl) ?_
        refine wVv (n := 3) (wr := []) (Wf := oW D q) (rest := []) hx hb hml hown hA (o_set l D q n P (rw + 1) a 0 (-1) lw s1 sd (upd kd rw 3) (clr7 pa rw) (vp_updL (vp_updL wd (2 * rw) tb) (2 * rw + 1) 0) ao fo uo ho xo rw 0 r1 _ (by omega) (by decide)) wv_O_80 ⟨by decide, by decide, by decide +kernel⟩ ⟨rfl, rfl, by decide, by decide⟩ rfl hl.1 ⟨Nat.le_of_ble_eq_true rfl, Nat.le_of_ble_eq_true rfl⟩ hP hK hD hS hAA hN [0, 1, 2, 3, 4, 5, 6, 7, 8, 9, 10, 11] [] rfl rfl (by decide) (by decide) (by decide) 0 1 rfl rfl rfl (Nat.le_of_ble_eq_true rfl) d_O_element_37 (fun u H locs hu hP hD hS => ?_)
        subst hu
        have hP : va_P D vwCl (ow D q n P (rw + 1) a 0 (-1) lw s1 sd (upd kd rw 3) (upd (clr7 pa rw) (7 * rw + 0) r1) (vp_updL (vp_updL wd (2 * rw) tb) (2 * rw + 1) 0) ao fo uo ho xo) H := hP
        have hD : va_D A (ow D q n P (rw + 1) a 0 (-1) lw s1 sd (upd kd rw 3) (upd (clr7 pa rw) (7 * rw + 0) r1) (vp_updL (vp_updL wd (2 * rw) tb) (2 * rw + 1) 0) ao fo uo ho xo) := hD
        refine lv_aload_n hx hb d_O_element_40 rfl (lv_at hl 1 rfl) ?_
        refine lv_iload hx hb d_O_element_41 (lv_at hl 0 rfl) ?_
        refine lv_iconst (v := 1) hx hb d_O_element_43 (by decide) ?_
        refine lv_iload_n hx hb d_O_element_44 rfl (lv_at hl 3 rfl) ?_
        refine wVv (n := 3) (wr := []) (Wf := oW D q) (rest := []) hx hb hml hown hA (o_set l D q n P (rw + 1) a 0 (-1) lw s1 sd (upd kd rw 3) (upd (clr7 pa rw) (7 * rw + 0) r1) (vp_updL (vp_updL wd (2 * rw) tb) (2 * rw + 1) 0) ao fo uo ho xo rw 1 i _ (by omega) (by decide)) wv_O_80 ⟨by decide, by decide, by decide +kernel⟩ ⟨rfl, rfl, by decide, by decide⟩ rfl hl.1 ⟨Nat.le_of_ble_eq_true rfl, Nat.le_of_ble_eq_true rfl⟩ hP hK hD hS hAA hN [0, 1, 2, 3, 4, 5, 6, 7, 8, 9, 10, 11] [] rfl rfl (by decide) (by decide) (by decide) 0 1 rfl rfl rfl (Nat.le_of_ble_eq_true rfl) d_O_element_45 (fun u H locs hu hP hD hS => ?_)
        subst hu
        have hP : va_P D vwCl (ow D q n P (rw + 1) a 0 (-1) lw s1 sd (upd kd rw 3) (upd (upd (clr7 pa rw) (7 * rw + 0) r1) (7 * rw + 1) i) (vp_updL (vp_updL wd (2 * rw) tb) (2 * rw + 1) 0) ao fo uo ho xo) H := hP
        have hD : va_D A (ow D q n P (rw + 1) a 0 (-1) lw s1 sd (upd kd rw 3) (upd (upd (clr7 pa rw) (7 * rw + 0) r1) (7 * rw + 1) i) (vp_updL (vp_updL wd (2 * rw) tb) (2 * rw + 1) 0) ao fo uo ho xo) := hD
        refine lv_iload hx hb d_O_element_48 (lv_at hl 0 rfl) ?_
        exact eWi (n, P, (rw + 1), a, 0, -1, lw, s1, sd, upd kd rw 3, upd (upd (clr7 pa rw) (7 * rw + 0) r1) (7 * rw + 1) i, vp_updL (vp_updL wd (2 * rw) tb) (2 * rw + 1) 0, ao, fo, uo, ho, xo) hx hb hr hlocks hP hK hD hS (Or.inr ⟨⟨h2, h10⟩, Or.inr ⟨hr12, rfl, rfl⟩⟩) d_O_element_50
    · skip
      refine lv_if_ne (tgt := 18) hx hb d_O_element_13 (by decide) (fun h => absurd h (by decide)) (fun _ => ?_)
      refine lv_iconst (v := (-1)) hx hb d_O_element_16 (by decide) ?_
      exact eWi (n, P, rw, a, kn, an, lw, s1, sd, kd, pa, wd, ao, fo, uo, ho, xo) hx hb hr hlocks hP hK hD hS (Or.inl ⟨fun h => h10 (h.2), rfl, rfl⟩) d_O_element_17
  · skip
    refine lv_if_eq (tgt := 16) hx hb d_O_element_5 (by decide) (fun _ => ?_) (fun h => absurd h (by decide))
    refine lv_iconst (v := (-1)) hx hb d_O_element_16 (by decide) ?_
    exact eWi (n, P, rw, a, kn, an, lw, s1, sd, kd, pa, wd, ao, fo, uo, ho, xo) hx hb hr hlocks hP hK hD hS (Or.inl ⟨fun h => h2 (h.1), rfl, rfl⟩) d_O_element_17
end
