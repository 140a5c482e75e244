section
theorem d_O_drop_0 : decode b_O_drop 0 = .ok (.aload_n 0, 1) := by decide +kernel
theorem d_O_drop_1 : decode b_O_drop 1 = .ok (.getfield 66, 3) := by decide +kernel
theorem d_O_drop_4 : decode b_O_drop 4 = .ok (.ifCond .ne 5, 3) := by decide +kernel
theorem d_O_drop_7 : decode b_O_drop 7 = .ok (.iconst 0, 1) := by decide +kernel
theorem d_O_drop_8 : decode b_O_drop 8 = .ok (.ireturn, 1) := by decide +kernel
theorem d_O_drop_9 : decode b_O_drop 9 = .ok (.aload_n 0, 1) := by decide +kernel
theorem d_O_drop_10 : decode b_O_drop 10 = .ok (.dup, 1) := by decide +kernel
theorem d_O_drop_11 : decode b_O_drop 11 = .ok (.getfield 66, 3) := by decide +kernel
theorem d_O_drop_14 : decode b_O_drop 14 = .ok (.iconst 1, 1) := by decide +kernel
theorem d_O_drop_15 : decode b_O_drop 15 = .ok (.isub, 1) := by decide +kernel
theorem d_O_drop_16 : decode b_O_drop 16 = .ok (.putfield 66, 3) := by decide +kernel
theorem d_O_drop_19 : decode b_O_drop 19 = .ok (.aload_n 0, 1) := by decide +kernel
theorem d_O_drop_20 : decode b_O_drop 20 = .ok (.invokevirtual 63, 3) := by decide +kernel
theorem d_O_drop_23 : decode b_O_drop 23 = .ok (.iconst 1, 1) := by decide +kernel
theorem d_O_drop_24 : decode b_O_drop 24 = .ok (.ireturn, 1) := by decide +kernel
set_option maxRecDepth 100000 in
set_option maxHeartbeats 4000000 in
theorem o_drop (l : Launch) (D : va_G) (q : Nat → Nat) (n P rw a : Nat) (kn an : Int32) (lw s1 sd kd pa : Nat → Int32) (wd : Nat → Int64) (ao fo uo ho xo : Nat → Int32) (sz : Nat) (h9 : rw ≤ 12) : Met l y_O_drop (wsm y_O_drop b_O_drop 1 (some .boolean)) { frames := 1, cells := 0, slots := 0, locals := 20 } (va_Pc [.ref (q 0)] (fun U => U.heap.size = sz ∧ cPre D (ow D q n P rw a kn an lw s1 sd kd pa wd ao fo uo ho xo) U)) (va_Qi (fun (r : Int32) (u : OS) => (rw = 0 ∧ r = 0 ∧ u = (n, P, rw, a, kn, an, lw, s1, sd, kd, pa, wd, ao, fo, uo, ho, xo)) ∨ (∃ b, rw = b + 1 ∧ r = 1 ∧ u = (n, P, b, a, 0, -1, lw, s1, sd, kd, pa, wd, ao, fo, uo, ho, xo))) (fun u t => xB D (oW D q u) (va_A (ow D q n P rw a kn an lw s1 sd kd pa wd ao fo uo ho xo) sz) t) (va_A (ow D q n P rw a kn an lw s1 sd kd pa wd ao fo uo ho xo) sz)) 0 0 (va_A (ow D q n P rw a kn an lw s1 sd kd pa wd ao fo uo ho xo) sz) := by
  refine met_W (Qf := fun A => va_Qi (fun (r : Int32) (u : OS) => (rw = 0 ∧ r = 0 ∧ u = (n, P, rw, a, kn, an, lw, s1, sd, kd, pa, wd, ao, fo, uo, ho, xo)) ∨ (∃ b, rw = b + 1 ∧ r = 1 ∧ u = (n, P, b, a, 0, -1, lw, s1, sd, kd, pa, wd, ao, fo, uo, ho, xo))) (fun u t => xB D (oW D q u) A t) A) (by decide) (Nat.le_of_ble_eq_true rfl) ?_
  intro p e s m below meth c ls A hx hb hr hlocks hml hown hin hA hP hK hD hN hl hS hAA
  have hown : s.vm.findClass R_O = some m.cls := hown
  have hl : lv_has ls 1 [(0, .ref (q 0))] := hl
  rcases rw with _ | b9
  · skip
    have hP : va_P D vwCl (ow D q n P 0 a kn an lw s1 sd kd pa wd ao fo uo ho xo) s.heap := hP
    have hD : va_D A (ow D q n P 0 a kn an lw s1 sd kd pa wd ao fo uo ho xo) := hD
    refine lv_aload_n hx hb d_O_drop_0 rfl (lv_at hl 0 rfl) ?_
    refine va_get (D := D) (ci := 1) (v := .int (nI 0)) (C := R_O) (T := T_O) (N := 17) hx hb hA inA_O hown hK hP 0 rfl rfl 5 (by decide) (hA _ wd_427) (fun _ h9 => h9) rfl d_O_drop_1 ?_
    refine lv_if_ne (tgt := 9) hx hb d_O_drop_4 (by decide) (fun h => absurd h (fun h => h rfl)) (fun h4 => ?_)
    refine lv_iconst (v := 0) hx hb d_O_drop_7 (by decide) ?_
    exact eWz (n, P, 0, a, kn, an, lw, s1, sd, kd, pa, wd, ao, fo, uo, ho, xo) hx hb hr hlocks (by first | rfl | decide) hP hK hD hS (Or.inl ⟨rfl, rfl, rfl⟩) d_O_drop_8
  · skip
    have hP : va_P D vwCl (ow D q n P (b9 + 1) a kn an lw s1 sd kd pa wd ao fo uo ho xo) s.heap := hP
    have hD : va_D A (ow D q n P (b9 + 1) a kn an lw s1 sd kd pa wd ao fo uo ho xo) := hD
    refine lv_aload_n hx hb d_O_drop_0 rfl (lv_at hl 0 rfl) ?_
    refine va_get (D := D) (ci := 1) (v := .int (nI (b9 + 1))) (C := R_O) (T := T_O) (N := 17) hx hb hA inA_O hown hK hP 0 rfl rfl 5 (by decide) (hA _ wd_427) (fun _ h9 => h9) rfl d_O_drop_1 ?_
    refine lv_if_ne (tgt := 9) hx hb d_O_drop_4 (by decide) (fun h4 => ?_) (fun h => absurd h (nI_ne0 (by omega) (by omega)))
    refine lv_aload_n hx hb d_O_drop_9 rfl (lv_at hl 0 rfl) ?_
    refine lv_dup hx hb d_O_drop_10 rfl ?_
    refine va_get (D := D) (ci := 1) (v := .int (nI (b9 + 1))) (C := R_O) (T := T_O) (N := 17) hx hb hA inA_O hown hK hP 0 rfl rfl 5 (by decide) (hA _ wd_427) (fun _ h9 => h9) rfl d_O_drop_11 ?_
    refine lv_iconst (v := 1) hx hb d_O_drop_14 (by decide) ?_
    refine lv_isub hx hb d_O_drop_15 ?_
    refine topi_to (v := nI b9) (nI_pred b9) ?_
    refine va_put (D := D) (ci := 1) (v := .int (nI b9)) (ty := .int) (C := R_O) (T := T_O) (N := 17) hx hb hA inA_O ty_O tok_O nm_O hown hK hP hD hS 0 rfl rfl 5 (by decide) (hA _ wd_427) (fun _ h9 => h9) rfl (by decide +kernel) (by first | rfl | decide) (by first | rfl | decide) (Nat.le_of_ble_eq_true rfl) d_O_drop_16 (fun H locs hP hD hS => ?_)
    have hP : va_P D vwCl (ow D q n P b9 a kn an lw s1 sd kd pa wd ao fo uo ho xo) H := hP
    have hD : va_D A (ow D q n P b9 a kn an lw s1 sd kd pa wd ao fo uo ho xo) := hD
    refine lv_aload_n hx hb d_O_drop_19 rfl (lv_at hl 0 rfl) ?_
    refine wVv (n := 0) (wr := []) (Wf := oW D q) (rest := []) hx hb hml hown hA (o_changed l D q n P b9 a kn an lw s1 sd kd pa wd ao fo uo ho xo _) wv_O_63 ⟨by decide, by decide, by decide +kernel⟩ ⟨rfl, rfl, by decide, by decide⟩ rfl hl.1 ⟨Nat.le_of_ble_eq_true rfl, Nat.le_of_ble_eq_true rfl⟩ hP hK hD hS hAA hN [0, 1, 2, 3, 4, 5, 6, 7, 8, 9, 10, 11] [] rfl rfl (by decide) (by decide) (by decide) 0 1 rfl rfl rfl (Nat.le_of_ble_eq_true rfl) d_O_drop_20 (fun u H locs hu hP hD hS => ?_)
    subst hu
    have hP : va_P D vwCl (ow D q n P b9 a 0 (-1) lw s1 sd kd pa wd ao fo uo ho xo) H := hP
    have hD : va_D A (ow D q n P b9 a 0 (-1) lw s1 sd kd pa wd ao fo uo ho xo) := hD
    refine lv_iconst (v := 1) hx hb d_O_drop_23 (by decide) ?_
    exact eWz (n, P, b9, a, 0, -1, lw, s1, sd, kd, pa, wd, ao, fo, uo, ho, xo) hx hb hr hlocks (by first | rfl | decide) hP hK hD hS (Or.inr ⟨b9, rfl, rfl, rfl⟩) d_O_drop_24
end
