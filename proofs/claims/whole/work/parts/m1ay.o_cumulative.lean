section
theorem d_O_cumulative_0 : decode b_O_cumulative 0 = .ok (.aload_n 0, 1) := by decide +kernel
theorem d_O_cumulative_1 : decode b_O_cumulative 1 = .ok (.iload_n 1, 1) := by decide +kernel
theorem d_O_cumulative_2 : decode b_O_cumulative 2 = .ok (.invokevirtual 84, 3) := by decide +kernel
theorem d_O_cumulative_5 : decode b_O_cumulative 5 = .ok (.ifCond .eq 14, 3) := by decide +kernel
theorem d_O_cumulative_8 : decode b_O_cumulative 8 = .ok (.iload 6, 2) := by decide +kernel
theorem d_O_cumulative_10 : decode b_O_cumulative 10 = .ok (.iconst 0, 1) := by decide +kernel
theorem d_O_cumulative_11 : decode b_O_cumulative 11 = .ok (.bipush 100, 2) := by decide +kernel
theorem d_O_cumulative_13 : decode b_O_cumulative 13 = .ok (.invokestatic 72, 3) := by decide +kernel
theorem d_O_cumulative_16 : decode b_O_cumulative 16 = .ok (.ifCond .ne 5, 3) := by decide +kernel
theorem d_O_cumulative_19 : decode b_O_cumulative 19 = .ok (.iconst (-1), 1) := by decide +kernel
theorem d_O_cumulative_20 : decode b_O_cumulative 20 = .ok (.ireturn, 1) := by decide +kernel
theorem d_O_cumulative_21 : decode b_O_cumulative 21 = .ok (.aload_n 0, 1) := by decide +kernel
theorem d_O_cumulative_22 : decode b_O_cumulative 22 = .ok (.iconst 5, 1) := by decide +kernel
theorem d_O_cumulative_23 : decode b_O_cumulative 23 = .ok (.lload_n 2, 1) := by decide +kernel
theorem d_O_cumulative_24 : decode b_O_cumulative 24 = .ok (.lload 4, 2) := by decide +kernel
theorem d_O_cumulative_26 : decode b_O_cumulative 26 = .ok (.invokevirtual 76, 3) := by decide +kernel
theorem d_O_cumulative_29 : decode b_O_cumulative 29 = .ok (.istore 7, 2) := by decide +kernel
theorem d_O_cumulative_31 : decode b_O_cumulative 31 = .ok (.iload 7, 2) := by decide +kernel
theorem d_O_cumulative_33 : decode b_O_cumulative 33 = .ok (.ifCond .lt 20, 3) := by decide +kernel
theorem d_O_cumulative_36 : decode b_O_cumulative 36 = .ok (.aload_n 0, 1) := by decide +kernel
theorem d_O_cumulative_37 : decode b_O_cumulative 37 = .ok (.iload 7, 2) := by decide +kernel
theorem d_O_cumulative_39 : decode b_O_cumulative 39 = .ok (.iconst 0, 1) := by decide +kernel
theorem d_O_cumulative_40 : decode b_O_cumulative 40 = .ok (.iload_n 1, 1) := by decide +kernel
theorem d_O_cumulative_41 : decode b_O_cumulative 41 = .ok (.invokevirtual 80, 3) := by decide +kernel
theorem d_O_cumulative_44 : decode b_O_cumulative 44 = .ok (.aload_n 0, 1) := by decide +kernel
theorem d_O_cumulative_45 : decode b_O_cumulative 45 = .ok (.iload 7, 2) := by decide +kernel
theorem d_O_cumulative_47 : decode b_O_cumulative 47 = .ok (.iconst 1, 1) := by decide +kernel
theorem d_O_cumulative_48 : decode b_O_cumulative 48 = .ok (.iload 6, 2) := by decide +kernel
theorem d_O_cumulative_50 : decode b_O_cumulative 50 = .ok (.invokevirtual 80, 3) := by decide +kernel
theorem d_O_cumulative_53 : decode b_O_cumulative 53 = .ok (.iload 7, 2) := by decide +kernel
theorem d_O_cumulative_55 : decode b_O_cumulative 55 = .ok (.ireturn, 1) := by decide +kernel
set_option maxRecDepth 100000 in
set_option maxHeartbeats 4000000 in
theorem o_cumulative (l : Launch) (D : va_G) (q : Nat → Nat) (n P rw a : Nat) (kn an : Int32) (lw s1 sd kd pa : Nat → Int32) (wd : Nat → Int64) (ao fo uo ho xo : Nat → Int32) (t1 : Int32) (du ne : Int64) (cp : Int32) (sz : Nat) (hrw : rw ≤ 12) : Met l y_O_cumulative (wsm y_O_cumulative b_O_cumulative 8 (some .int)) { frames := 2, cells := 0, slots := 0, locals := 46 } (va_Pc [.ref (q 0), .int t1, .long du, .long ne, .int cp] (fun U => U.heap.size = sz ∧ cPre D (ow D q n P rw a kn an lw s1 sd kd pa wd ao fo uo ho xo) U)) (va_Qi (fun (r : Int32) (u : OS) => (¬ (ivs n t1 ∧ wi3 cp 0 100) ∧ r = -1 ∧ u = (n, P, rw, a, kn, an, lw, s1, sd, kd, pa, wd, ao, fo, uo, ho, xo)) ∨ ((ivs n t1 ∧ wi3 cp 0 100) ∧ ((¬ rw < 12 ∧ r = -2 ∧ u = (n, P, rw, a, kn, an, lw, s1, sd, kd, pa, wd, ao, fo, uo, ho, xo)) ∨ (rw < 12 ∧ r = nI rw ∧ u = (n, P, rw + 1, a, 0, -1, lw, s1, sd, upd kd rw 5, upd (upd (clr7 pa rw) (7 * rw + 0) t1) (7 * rw + 1) cp, vp_updL (vp_updL wd (2 * rw) du) (2 * rw + 1) ne, ao, fo, uo, ho, xo))))) (fun u t => xB D (oW D q u) (va_A (ow D q n P rw a kn an lw s1 sd kd pa wd ao fo uo ho xo) sz) t) (va_A (ow D q n P rw a kn an lw s1 sd kd pa wd ao fo uo ho xo) sz)) 0 0 (va_A (ow D q n P rw a kn an lw s1 sd kd pa wd ao fo uo ho xo) sz) := by
  refine met_W (Qf := fun A => va_Qi (fun (r : Int32) (u : OS) => (¬ (ivs n t1 ∧ wi3 cp 0 100) ∧ r = -1 ∧ u = (n, P, rw, a, kn, an, lw, s1, sd, kd, pa, wd, ao, fo, uo, ho, xo)) ∨ ((ivs n t1 ∧ wi3 cp 0 100) ∧ ((¬ rw < 12 ∧ r = -2 ∧ u = (n, P, rw, a, kn, an, lw, s1, sd, kd, pa, wd, ao, fo, uo, ho, xo)) ∨ (rw < 12 ∧ r = nI rw ∧ u = (n, P, rw + 1, a, 0, -1, lw, s1, sd, upd kd rw 5, upd (upd (clr7 pa rw) (7 * rw + 0) t1) (7 * rw + 1) cp, vp_updL (vp_updL wd (2 * rw) du) (2 * rw + 1) ne, ao, fo, uo, ho, xo))))) (fun u t => xB D (oW D q u) A t) A) (by decide) (Nat.le_of_ble_eq_true rfl) ?_
  intro p e s m below meth c ls A hx hb hr hlocks hml hown hin hA hP hK hD hN hl hS hAA
  have hown : s.vm.findClass R_O = some m.cls := hown
  have hl : lv_has ls 8 [(0, .ref (q 0)), (1, .int t1), (2, .long du), (4, .long ne), (6, .int cp)] := hl
  refine lv_aload_n hx hb d_O_cumulative_0 rfl (lv_at hl 0 rfl) ?_
  refine lv_iload_n hx hb d_O_cumulative_1 rfl (lv_at hl 1 rfl) ?_
  refine rV (n := 1) (rest := []) hx hb hml hown hA (o_isSet l D q n P rw a kn an lw s1 sd kd pa wd ao fo uo ho xo t1) wv_O_84 ⟨by decide, by decide, by decide +kernel⟩ ⟨rfl, rfl, by decide, by decide⟩ rfl hl.1 ⟨Nat.le_of_ble_eq_true rfl, Nat.le_of_ble_eq_true rfl⟩ hP hK hD hN 0 1 rfl rfl rfl (Nat.le_of_ble_eq_true rfl) d_O_cumulative_2 (fun r hr9 => ?_)
  rcases zb_c hr9 with ⟨rfl, h2⟩ | ⟨rfl, h2⟩
  · skip
    refine lv_if_eq (tgt := 19) hx hb d_O_cumulative_5 (by decide) (fun h => absurd h (by decide)) (fun _ => ?_)
    refine lv_iload hx hb d_O_cumulative_8 (lv_at hl 4 rfl) ?_
    refine lv_iconst (v := 0) hx hb d_O_cumulative_10 (by decide) ?_
    refine lv_bipush (v := 100) hx hb d_O_cumulative_11 (by decide) ?_
    refine rS (n := 3) (rest := []) hx hb hml hown hA (o_within l D cp 0 100) wv_O_72 ⟨by decide, by decide, by decide +kernel⟩ ⟨rfl, rfl, by decide, by decide⟩ rfl hl.1 ⟨Nat.le_of_ble_eq_true rfl, Nat.le_of_ble_eq_true rfl⟩ (va_P.sub1 hP [] rfl) hK (va_D.sub hD [] rfl rfl) hN rfl (Nat.le_of_ble_eq_true rfl) d_O_cumulative_13 (fun r hr9 => ?_)
    rcases zb_c hr9 with ⟨rfl, h13⟩ | ⟨rfl, h13⟩
    · skip
      refine lv_if_ne (tgt := 21) hx hb d_O_cumulative_16 (by decide) (fun _ => ?_) (fun h => absurd h (by decide))
      refine lv_aload_n hx hb d_O_cumulative_21 rfl (lv_at hl 0 rfl) ?_
      refine lv_iconst (v := 5) hx hb d_O_cumulative_22 (by decide) ?_
      refine lv_lload_n hx hb d_O_cumulative_23 rfl (lv_at hl 2 rfl) ?_
      refine lv_lload hx hb d_O_cumulative_24 (lv_at hl 3 rfl) ?_
      refine wVi (n := 3) (wr := []) (Wf := oW D q) (rest := []) hx hb hml hown hA (o_add l D q n P rw a kn an lw s1 sd kd pa wd ao fo uo ho xo 5 du ne _ hrw) wv_O_76 ⟨by decide, by decide, by decide +kernel⟩ ⟨rfl, rfl, by decide, by decide⟩ rfl hl.1 ⟨Nat.le_of_ble_eq_true rfl, Nat.le_of_ble_eq_true rfl⟩ hP hK hD hS hAA hN [0, 1, 2, 3, 4, 5, 6, 7, 8, 9, 10, 11] [] rfl rfl (by decide) (by decide) (by decide) 0 1 rfl rfl rfl (Nat.le_of_ble_eq_true rfl) d_O_cumulative_26 (fun r u H locs hu hP hD hS => ?_)
      rcases hu with ⟨hr12, rfl, rfl⟩ | ⟨hr12, rfl, rfl⟩
      · skip
        have hP : va_P D vwCl (ow D q n P rw a kn an lw s1 sd kd pa wd ao fo uo ho xo) H := hP
        have hD : va_D A (ow D q n P rw a kn an lw s1 sd kd pa wd ao fo uo ho xo) := hD
        refine lv_istore hx hb d_O_cumulative_29 hl (by decide) rfl (fun ls hl => ?_)
        have hl : lv_has ls 8 [(7, .int (-2)), (0, .ref (q 0)), (1, .int t1), (2, .long du), (4, .long ne), (6, .int cp)] := hl
        refine lv_iload hx hb d_O_cumulative_31 (lv_at hl 0 rfl) ?_
        refine lv_if_lt (tgt := 53) hx hb d_O_cumulative_33 (by decide) (fun _ => ?_) (fun h => absurd h (by decide))
        refine lv_iload hx hb d_O_cumulative_53 (lv_at hl 0 rfl) ?_
        exact eWi (n, P, rw, a, kn, an, lw, s1, sd, kd, pa, wd, ao, fo, uo, ho, xo) hx hb hr hlocks hP hK hD hS (Or.inr ⟨⟨h2, h13⟩, Or.inl ⟨hr12, rfl, rfl⟩⟩) d_O_cumulative_55
      · skip
        have hP : va_P D vwCl (ow D q n P (rw + 1) a 0 (-1) lw s1 sd (upd kd rw 5) (clr7 pa rw) (vp_updL (vp_updL wd (2 * rw) du) (2 * rw + 1) ne) ao fo uo ho xo) H := hP
        have hD : va_D A (ow D q n P (rw + 1) a 0 (-1) lw s1 sd (upd kd rw 5) (clr7 pa rw) (vp_updL (vp_updL wd (2 * rw) du) (2 * rw + 1) ne) ao fo uo ho xo) := hD
        refine lv_istore hx hb d_O_cumulative_29 hl (by decide) rfl (fun ls hl => ?_)
        have hl : lv_has ls 8 [(7, .int (nI rw)), (0, .ref (q 0)), (1, .int t1), (2, .long du), (4, .long ne), (6, .int cp)] := hl
        refine lv_iload hx hb d_O_cumulative_31 (lv_at hl 0 rfl) ?_
        refine lv_if_lt (tgt := 53) hx hb d_O_cumulative_33 (by decide) (fun h => absurd h (nI_pos (by omega))) (fun h33 => ?_)
        refine lv_aload_n hx hb d_O_cumulative_36 rfl (lv_at hl 1 rfl) ?_
        refine lv_iload hx hb d_O_cumulative_37 (lv_at hl 0 rfl) ?_
        refine lv_iconst (v := 0) hx hb d_O_cumulative_39 (by decide) ?_
        refine lv_iload_n hx hb d_O_cumulative_40 rfl (lv_at hl 2 rfl) ?_
        refine wVv (n := 3) (wr := []) (Wf := oW D q) (rest := []) hx hb hml hown hA (o_set l D q n P (rw + 1) a 0 (-1) lw s1 sd (upd kd rw 5) (clr7 pa rw) (vp_updL (vp_updL wd (2 * rw) du) (2 * rw + 1) ne) ao fo uo ho xo rw 0 t1 _ (by omega) (by decide)) wv_O_80 ⟨by decide, by decide, by decide +kernel⟩ ⟨rfl, rfl, by decide, by decide⟩ rfl hl.1 ⟨Nat.le_of_ble_eq_true rfl, Nat.le_of_ble_eq_true rfl⟩ hP hK hD hS hAA hN [0, 1, 2, 3, 4, 5, 6, 7, 8, 9, 10, 11] [] rfl rfl (by decide) (by decide) (by decide) 0 1 rfl rfl rfl (Nat.le_of_ble_eq_true rfl) d_O_cumulative_41 (fun u H locs hu hP hD hS => ?_)
        subst hu
        have hP : va_P D vwCl (ow D q n P (rw + 1) a 0 (-1) lw s1 sd (upd kd rw 5) (upd (clr7 pa rw) (7 * rw + 0) t1) (vp_updL (vp_updL wd (2 * rw) du) (2 * rw + 1) ne) ao fo uo ho xo) H := hP
        have hD : va_D A (ow D q n P (rw + 1) a 0 (-1) lw s1 sd (upd kd rw 5) (upd (clr7 pa rw) (7 * rw + 0) t1) (vp_updL (vp_updL wd (2 * rw) du) (2 * rw + 1) ne) ao fo uo ho xo) := hD
        refine lv_aload_n hx hb d_O_cumulative_44 rfl (lv_at hl 1 rfl) ?_
        refine lv_iload hx hb d_O_cumulative_45 (lv_at hl 0 rfl) ?_
        refine lv_iconst (v := 1) hx hb d_O_cumulative_47 (by decide) ?_
        refine lv_iload hx hb d_O_cumulative_48 (lv_at hl 5 rfl) ?_
        refine wVv (n := 3) (wr := []) (Wf := oW D q) (rest := []) hx hb hml hown hA (o_set l D q n P (rw + 1) a 0 (-1) lw s1 sd (upd kd rw 5) (upd (clr7 pa rw) (7 * rw + 0) t1) (vp_updL (vp_updL wd (2 * rw) du) (2 * rw + 1) ne) ao fo uo ho xo rw 1 cp _ (by omega) (by decide)) wv_O_80 ⟨by decide, by decide, by decide +kernel⟩ ⟨rfl, rfl, by decide, by decide⟩ rfl hl.1 ⟨Nat.le_of_ble_eq_true rfl, Nat.le_of_ble_eq_true rfl⟩ hP hK hD hS hAA hN [0, 1, 2, 3, 4, 5, 6, 7, 8, 9, 10, 11] [] rfl rfl (by decide) (by decide) (by decide) 0 1 rfl rfl rfl (Nat.le_of_ble_eq_true rfl) d_O_cumulative_50 (fun u H locs hu hP hD hS => ?_)
        subst hu
        have hP : va_P D vwCl (ow D q n P (rw + 1) a 0 (-1) lw s1 sd (upd kd rw 5) (upd (upd (clr7 pa rw) (7 * rw + 0) t1) (7 * rw + 1) cp) (vp_updL (vp_updL wd (2 * rw) du) (2 * rw + 1) ne) ao fo uo ho xo) H := hP
        have hD : va_D A (ow D q n P (rw + 1) a 0 (-1) lw s1 sd (upd kd rw 5) (upd (upd (clr7 pa rw) (7 * rw + 0) t1) (7 * rw + 1) cp) (vp_updL (vp_updL wd (2 * rw) du) (2 * rw + 1) ne) ao fo uo ho xo) := hD
        refine lv_iload hx hb d_O_cumulative_53 (lv_at hl 0 rfl) ?_
        exact eWi (n, P, (rw + 1), a, 0, -1, lw, s1, sd, upd kd rw 5, upd (upd (clr7 pa rw) (7 * rw + 0) t1) (7 * rw + 1) cp, vp_updL (vp_updL wd (2 * rw) du) (2 * rw + 1) ne, ao, fo, uo, ho, xo) hx hb hr hlocks hP hK hD hS (Or.inr ⟨⟨h2, h13⟩, Or.inr ⟨hr12, rfl, rfl⟩⟩) d_O_cumulative_55
    · skip
      refine lv_if_ne (tgt := 21) hx hb d_O_cumulative_16 (by decide) (fun h => absurd h (by decide)) (fun _ => ?_)
      refine lv_iconst (v := (-1)) hx hb d_O_cumulative_19 (by decide) ?_
      exact eWi (n, P, rw, a, kn, an, lw, s1, sd, kd, pa, wd, ao, fo, uo, ho, xo) hx hb hr hlocks hP hK hD hS (Or.inl ⟨fun h => h13 (h.2), rfl, rfl⟩) d_O_cumulative_20
  · skip
    refine lv_if_eq (tgt := 19) hx hb d_O_cumulative_5 (by decide) (fun _ => ?_) (fun h => absurd h (by decide))
    refine lv_iconst (v := (-1)) hx hb d_O_cumulative_19 (by decide) ?_
    exact eWi (n, P, rw, a, kn, an, lw, s1, sd, kd, pa, wd, ao, fo, uo, ho, xo) hx hb hr hlocks hP hK hD hS (Or.inl ⟨fun h => h2 (h.1), rfl, rfl⟩) d_O_cumulative_20
end
