section
theorem ws_O_isSet : Cond.selects R_O y_O_isSet y_O_isSet ∈ cA := cA_in (List.mem_append_left _ (List.mem_of_getElem? (i := 18) (by decide +kernel))) rfl
theorem wv_O_84 : Cond.code y_O_isSet b_O_isSet 2 (some .boolean) ∈ cA ∧ Cond.initialized y_O_isSet.cls ∈ cA ∧ Cond.methodLink R_O 84 y_O_isSet ∈ cA ∧ Cond.instanceMethod y_O_isSet ∈ cA ∧ Cond.selects y_O_isSet.cls y_O_isSet y_O_isSet ∈ cA := ⟨wd_526, wd_3, wd_523, wd_525, ws_O_isSet⟩
theorem d_O_different_0 : decode b_O_different 0 = .ok (.aload_n 0, 1) := by decide +kernel
theorem d_O_different_1 : decode b_O_different 1 = .ok (.iload_n 1, 1) := by decide +kernel
theorem d_O_different_2 : decode b_O_different 2 = .ok (.invokevirtual 84, 3) := by decide +kernel
theorem d_O_different_5 : decode b_O_different 5 = .ok (.ifCond .ne 5, 3) := by decide +kernel
theorem d_O_different_8 : decode b_O_different 8 = .ok (.iconst (-1), 1) := by decide +kernel
theorem d_O_different_9 : decode b_O_different 9 = .ok (.ireturn, 1) := by decide +kernel
theorem d_O_different_10 : decode b_O_different 10 = .ok (.aload_n 0, 1) := by decide +kernel
theorem d_O_different_11 : decode b_O_different 11 = .ok (.iconst 4, 1) := by decide +kernel
theorem d_O_different_12 : decode b_O_different 12 = .ok (.lconst 0, 1) := by decide +kernel
theorem d_O_different_13 : decode b_O_different 13 = .ok (.lconst 0, 1) := by decide +kernel
theorem d_O_different_14 : decode b_O_different 14 = .ok (.invokevirtual 76, 3) := by decide +kernel
theorem d_O_different_17 : decode b_O_different 17 = .ok (.istore_n 2, 1) := by decide +kernel
theorem d_O_different_18 : decode b_O_different 18 = .ok (.iload_n 2, 1) := by decide +kernel
theorem d_O_different_19 : decode b_O_different 19 = .ok (.ifCond .lt 10, 3) := by decide +kernel
theorem d_O_different_22 : decode b_O_different 22 = .ok (.aload_n 0, 1) := by decide +kernel
theorem d_O_different_23 : decode b_O_different 23 = .ok (.iload_n 2, 1) := by decide +kernel
theorem d_O_different_24 : decode b_O_different 24 = .ok (.iconst 0, 1) := by decide +kernel
theorem d_O_different_25 : decode b_O_different 25 = .ok (.iload_n 1, 1) := by decide +kernel
theorem d_O_different_26 : decode b_O_different 26 = .ok (.invokevirtual 80, 3) := by decide +kernel
theorem d_O_different_29 : decode b_O_different 29 = .ok (.iload_n 2, 1) := by decide +kernel
theorem d_O_different_30 : decode b_O_different 30 = .ok (.ireturn, 1) := by decide +kernel
set_option maxRecDepth 100000 in
set_option maxHeartbeats 4000000 in
theorem o_different (l : Launch) (D : va_G) (q : Nat → Nat) (n P rw a : Nat) (kn an : Int32) (lw s1 sd kd pa : Nat → Int32) (wd : Nat → Int64) (ao fo uo ho xo : Nat → Int32) (t1 : Int32) (sz : Nat) (hrw : rw ≤ 12) : Met l y_O_different (wsm y_O_different b_O_different 3 (some .int)) { frames := 2, cells := 0, slots := 0, locals := 46 } (va_Pc [.ref (q 0), .int t1] (fun U => U.heap.size = sz ∧ cPre D (ow D q n P rw a kn an lw s1 sd kd pa wd ao fo uo ho xo) U)) (va_Qi (fun (r : Int32) (u : OS) => (¬ (ivs n t1) ∧ r = -1 ∧ u = (n, P, rw, a, kn, an, lw, s1, sd, kd, pa, wd, ao, fo, uo, ho, xo)) ∨ ((ivs n t1) ∧ ((¬ rw < 12 ∧ r = -2 ∧ u = (n, P, rw, a, kn, an, lw, s1, sd, kd, pa, wd, ao, fo, uo, ho, xo)) ∨ (rw < 12 ∧ r = nI rw ∧ u = (n, P, rw + 1, a, 0, -1, lw, s1, sd, upd kd rw 4, upd (clr7 pa rw) (7 * rw + 0) t1, vp_updL (vp_updL wd (2 * rw) 0) (2 * rw + 1) 0, ao, fo, uo, ho, xo))))) (fun u t => xB D (oW D q u) (va_A (ow D q n P rw a kn an lw s1 sd kd pa wd ao fo uo ho xo) sz) t) (va_A (ow D q n P rw a kn an lw s1 sd kd pa wd ao fo uo ho xo) sz)) 0 0 (va_A (ow D q n P rw a kn an lw s1 sd kd pa wd ao fo uo ho xo) sz) := by
  refine met_W (Qf := fun A => va_Qi (fun (r : Int32) (u : OS) => (¬ (ivs n t1) ∧ r = -1 ∧ u = (n, P, rw, a, kn, an, lw, s1, sd, kd, pa, wd, ao, fo, uo, ho, xo)) ∨ ((ivs n t1) ∧ ((¬ rw < 12 ∧ r = -2 ∧ u = (n, P, rw, a, kn, an, lw, s1, sd, kd, pa, wd, ao, fo, uo, ho, xo)) ∨ (rw < 12 ∧ r = nI rw ∧ u = (n, P, rw + 1, a, 0, -1, lw, s1, sd, upd kd rw 4, upd (clr7 pa rw) (7 * rw + 0) t1, vp_updL (vp_updL wd (2 * rw) 0) (2 * rw + 1) 0, ao, fo, uo, ho, xo))))) (fun u t => xB D (oW D q u) A t) A) (by decide) (Nat.le_of_ble_eq_true rfl) ?_
  intro p e s m below meth c ls A hx hb hr hlocks hml hown hin hA hP hK hD hN hl hS hAA
  have hown : s.vm.findClass R_O = some m.cls := hown
  have hl : lv_has ls 3 [(0, .ref (q 0)), (1, .int t1)] := hl
  refine lv_aload_n hx hb d_O_different_0 rfl (lv_at hl 0 rfl) ?_
  refine lv_iload_n hx hb d_O_different_1 rfl (lv_at hl 1 rfl) ?_
  refine rV (n := 1) (rest := []) hx hb hml hown hA (o_isSet l D q n P rw a kn an lw s1 sd kd pa wd ao fo uo ho xo t1) wv_O_84 ⟨by decide, by decide, by decide +kernel⟩ ⟨rfl, rfl, by decide, by decide⟩ rfl hl.1 ⟨Nat.le_of_ble_eq_true rfl, Nat.le_of_ble_eq_true rfl⟩ hP hK hD hN 0 1 rfl rfl rfl (Nat.le_of_ble_eq_true rfl) d_O_different_2 (fun r hr9 => ?_)
  rcases zb_c hr9 with ⟨rfl, h2⟩ | ⟨rfl, h2⟩
  · skip
    refine lv_if_ne (tgt := 10) hx hb d_O_different_5 (by decide) (fun _ => ?_) (fun h => absurd h (by decide))
    refine lv_aload_n hx hb d_O_different_10 rfl (lv_at hl 0 rfl) ?_
    refine lv_iconst (v := 4) hx hb d_O_different_11 (by decide) ?_
    refine lv_lconst (v := 0) hx hb d_O_different_12 (by decide) ?_
    refine lv_lconst (v := 0) hx hb d_O_different_13 (by decide) ?_
    refine wVi (n := 3) (wr := []) (Wf := oW D q) (rest := []) hx hb hml hown hA (o_add l D q n P rw a kn an lw s1 sd kd pa wd ao fo uo ho xo 4 0 0 _ hrw) wv_O_76 ⟨by decide, by decide, by decide +kernel⟩ ⟨rfl, rfl, by decide, by decide⟩ rfl hl.1 ⟨Nat.le_of_ble_eq_true rfl, Nat.le_of_ble_eq_true rfl⟩ hP hK hD hS hAA hN [0, 1, 2, 3, 4, 5, 6, 7, 8, 9, 10, 11] [] rfl rfl (by decide) (by decide) (by decide) 0 1 rfl rfl rfl (Nat.le_of_ble_eq_true rfl) d_O_different_14 (fun r u H locs hu hP hD hS => ?_)
    rcases hu with ⟨hr12, rfl, rfl⟩ | ⟨hr12, rfl, rfl⟩
    · skip
      have hP : va_P D vwCl (ow D q n P rw a kn an lw s1 sd kd pa wd ao fo uo ho xo) H := hP
      have hD : va_D A (ow D q n P rw a kn an lw s1 sd kd pa wd ao fo uo ho xo) := hD
      refine lv_istore_n hx hb d_O_different_17 rfl hl (by decide) rfl (fun ls hl => ?_)
      have hl : lv_has ls 3 [(2, .int (-2)), (0, .ref (q 0)), (1, .int t1)] := hl
      refine lv_iload_n hx hb d_O_different_18 rfl (lv_at hl 0 rfl) ?_
      refine lv_if_lt (tgt := 29) hx hb d_O_different_19 (by decide) (fun _ => ?_) (fun h => absurd h (by decide))
      refine lv_iload_n hx hb d_O_different_29 rfl (lv_at hl 0 rfl) ?_
      exact eWi (n, P, rw, a, kn, an, lw, s1, sd, kd, pa, wd, ao, fo, uo, ho, xo) hx hb hr hlocks hP hK hD hS (Or.inr ⟨h2, Or.inl ⟨hr12, rfl, rfl⟩⟩) d_O_different_30
    · skip
      have hP : va_P D vwCl (ow D q n P (rw + 1) a 0 (-1) lw s1 sd (upd kd rw 4) (clr7 pa rw) (vp_updL (vp_updL wd (2 * rw) 0) (2 * rw + 1) 0) ao fo uo ho xo) H := hP
      have hD : va_D A (ow D q n P (rw + 1) a 0 (-1) lw s1 sd (upd kd rw 4) (clr7 pa rw) (vp_updL (vp_updL wd (2 * rw) 0) (2 * rw + 1) 0) ao fo uo ho xo) := hD
      refine lv_istore_n hx hb d_O_different_17 rfl hl (by decide) rfl (fun ls hl => ?_)
      have hl : lv_has ls 3 [(2, .int (nI rw)), (0, .ref (q 0)), (1, .int t1)] := hl
      refine lv_iload_n hx hb d_O_different_18 rfl (lv_at hl 0 rfl) ?_
      refine lv_if_lt (tgt := 29) hx hb d_O_different_19 (by decide) (fun h => absurd h (nI_pos (by omega))) (fun h19 => ?_)
      refine lv_aload_n hx hb d_O_different_22 rfl (lv_at hl 1 rfl) ?_
      refine lv_iload_n hx hb d_O_different_23 rfl (lv_at hl 0 rfl) ?_
      refine lv_iconst (v := 0) hx hb d_O_different_24 (by decide) ?_
      refine lv_iload_n hx hb d_O_different_25 rfl (lv_at hl 2 rfl) ?_
      refine wVv (n := 3) (wr := []) (Wf := oW D q) (rest := []) hx hb hml hown hA (o_set l D q n P (rw + 1) a 0 (-1) lw s1 sd (upd kd rw 4) (clr7 pa rw) (vp_updL (vp_updL wd (2 * rw) 0) (2 * rw + 1) 0) ao fo uo ho xo rw 0 t1 _ (by omega) (by decide)) wv_O_80 ⟨by decide, by decide, by decide +kernel⟩ ⟨rfl, rfl, by decide, by decide⟩ rfl hl.1 ⟨Nat.le_of_ble_eq_true rfl, Nat.le_of_ble_eq_true rfl⟩ hP hK hD hS hAA hN [0, 1, 2, 3, 4, 5, 6, 7, 8, 9, 10, 11] [] rfl rfl (by decide) (by decide) (by decide) 0 1 rfl rfl rfl (Nat.le_of_ble_eq_true rfl) d_O_different_26 (fun u H locs hu hP hD hS => ?_)
      subst hu
      have hP : va_P D vwCl (ow D q n P (rw + 1) a 0 (-1) lw s1 sd (upd kd rw 4) (upd (clr7 pa rw) (7 * rw + 0) t1) (vp_updL (vp_updL wd (2 * rw) 0) (2 * rw + 1) 0) ao fo uo ho xo) H := hP
      have hD : va_D A (ow D q n P (rw + 1) a 0 (-1) lw s1 sd (upd kd rw 4) (upd (clr7 pa rw) (7 * rw + 0) t1) (vp_updL (vp_updL wd (2 * rw) 0) (2 * rw + 1) 0) ao fo uo ho xo) := hD
      refine lv_iload_n hx hb d_O_different_29 rfl (lv_at hl 0 rfl) ?_
      exact eWi (n, P, (rw + 1), a, 0, -1, lw, s1, sd, upd kd rw 4, upd (clr7 pa rw) (7 * rw + 0) t1, vp_updL (vp_updL wd (2 * rw) 0) (2 * rw + 1) 0, ao, fo, uo, ho, xo) hx hb hr hlocks hP hK hD hS (Or.inr ⟨h2, Or.inr ⟨hr12, rfl, rfl⟩⟩) d_O_different_30
  · skip
    refine lv_if_ne (tgt := 10) hx hb d_O_different_5 (by decide) (fun h => absurd h (by decide)) (fun _ => ?_)
    refine lv_iconst (v := (-1)) hx hb d_O_different_8 (by decide) ?_
    exact eWi (n, P, rw, a, kn, an, lw, s1, sd, kd, pa, wd, ao, fo, uo, ho, xo) hx hb hr hlocks hP hK hD hS (Or.inl ⟨fun h => h2 (h), rfl, rfl⟩) d_O_different_9
end
