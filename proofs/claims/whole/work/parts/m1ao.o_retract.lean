section
theorem ws_O_changed : Cond.selects R_O y_O_changed y_O_changed ∈ cA := cA_in (List.mem_append_left _ (List.mem_of_getElem? (i := 13) (by decide +kernel))) rfl
theorem wv_O_63 : Cond.code y_O_changed b_O_changed 1 none ∈ cA ∧ Cond.initialized y_O_changed.cls ∈ cA ∧ Cond.methodLink R_O 63 y_O_changed ∈ cA ∧ Cond.instanceMethod y_O_changed ∈ cA ∧ Cond.selects y_O_changed.cls y_O_changed y_O_changed ∈ cA := ⟨wd_483, wd_3, wd_480, wd_482, ws_O_changed⟩
theorem d_O_retract_0 : decode b_O_retract 0 = .ok (.aload_n 0, 1) := by decide +kernel
theorem d_O_retract_1 : decode b_O_retract 1 = .ok (.getfield 87, 3) := by decide +kernel
theorem d_O_retract_4 : decode b_O_retract 4 = .ok (.ifCond .ne 5, 3) := by decide +kernel
theorem d_O_retract_7 : decode b_O_retract 7 = .ok (.iconst 0, 1) := by decide +kernel
theorem d_O_retract_8 : decode b_O_retract 8 = .ok (.ireturn, 1) := by decide +kernel
theorem d_O_retract_9 : decode b_O_retract 9 = .ok (.aload_n 0, 1) := by decide +kernel
theorem d_O_retract_10 : decode b_O_retract 10 = .ok (.dup, 1) := by decide +kernel
theorem d_O_retract_11 : decode b_O_retract 11 = .ok (.getfield 87, 3) := by decide +kernel
theorem d_O_retract_14 : decode b_O_retract 14 = .ok (.iconst 1, 1) := by decide +kernel
theorem d_O_retract_15 : decode b_O_retract 15 = .ok (.isub, 1) := by decide +kernel
theorem d_O_retract_16 : decode b_O_retract 16 = .ok (.putfield 87, 3) := by decide +kernel
theorem d_O_retract_19 : decode b_O_retract 19 = .ok (.aload_n 0, 1) := by decide +kernel
theorem d_O_retract_20 : decode b_O_retract 20 = .ok (.invokevirtual 63, 3) := by decide +kernel
theorem d_O_retract_23 : decode b_O_retract 23 = .ok (.iconst 1, 1) := by decide +kernel
theorem d_O_retract_24 : decode b_O_retract 24 = .ok (.ireturn, 1) := by decide +kernel
set_option maxRecDepth 100000 in
set_option maxHeartbeats 4000000 in
theorem o_retract (l : Launch) (D : va_G) (q : Nat → Nat) (n P rw a : Nat) (kn an : Int32) (lw s1 sd kd pa : Nat → Int32) (wd : Nat → Int64) (ao fo uo ho xo : Nat → Int32) (sz : Nat) (h9 : a ≤ 12) : Met l y_O_retract (wsm y_O_retract b_O_retract 1 (some .boolean)) { frames := 1, cells := 0, slots := 0, locals := 20 } (va_Pc [.ref (q 0)] (fun U => U.heap.size = sz ∧ cPre D (ow D q n P rw a kn an lw s1 sd kd pa wd ao fo uo ho xo) U)) (va_Qi (fun (r : Int32) (u : OS) => (a = 0 ∧ r = 0 ∧ u = (n, P, rw, a, kn, an, lw, s1, sd, kd, pa, wd, ao, fo, uo, ho, xo)) ∨ (∃ b, a = b + 1 ∧ r = 1 ∧ u = (n, P, rw, b, 0, -1, lw, s1, sd, kd, pa, wd, ao, fo, uo, ho, xo))) (fun u t => xB D (oW D q u) (va_A (ow D q n P rw a kn an lw s1 sd kd pa wd ao fo uo ho xo) sz) t) (va_A (ow D q n P rw a kn an lw s1 sd kd pa wd ao fo uo ho xo) sz)) 0 0 (va_A (ow D q n P rw a kn an lw s1 sd kd pa wd ao fo uo ho xo) sz) := by
  refine met_W (Qf := fun A => va_Qi (fun (r : Int32) (u : OS) => (a = 0 ∧ r = 0 ∧ u = (n, P, rw, a, kn, an, lw, s1, sd, kd, pa, wd, ao, fo, uo, ho, xo)) ∨ (∃ b, a = b + 1 ∧ r = 1 ∧ u = (n, P, rw, b, 0, -1, lw, s1, sd, kd, pa, wd, ao, fo, uo, ho, xo))) (fun u t => xB D (oW D q u) A t) A) (by decide) (Nat.le_of_ble_eq_true rfl) ?_
  intro p e s m below meth c ls A hx hb hr hlocks hml hown hin hA hP hK hD hN hl hS hAA
  have hown : s.vm.findClass R_O = some m.cls := hown
  have hl : lv_has ls 1 [(0, .ref (q 0))] := hl
  rcases a with _ | b9
  · skip
    have hP : va_P D vwCl (ow D q n P rw 0 kn an lw s1 sd kd pa wd ao fo uo ho xo) s.heap := hP
    have hD : va_D A (ow D q n P rw 0 kn an lw s1 sd kd pa wd ao fo uo ho xo) := hD
    refine lv_aload_n hx hb d_O_retract_0 rfl (lv_at hl 0 rfl) ?_
    refine va_get (D := D) (ci := 1) (v := .int (nI 0)) (C := R_O) (T := T_O) (N := 17) hx hb hA inA_O hown hK hP 0 rfl rfl 9 (by decide) (hA _ wd_431) (fun _ h9 => h9) rfl d_O_retract_1 ?_
    refine lv_if_ne (tgt := 9) hx hb d_O_retract_4 (by decide) (fun h => absurd h (fun h => h rfl)) (fun h4 => ?_)
    refine lv_iconst (v := 0) hx hb d_O_retract_7 (by decide) ?_
    exact eWz (n, P, rw, 0, kn, an, lw, s1, sd, kd, pa, wd, ao, fo, uo, ho, xo) hx hb hr hlocks (by first | rfl | decide) hP hK hD hS (Or.inl ⟨rfl, rfl, rfl⟩) d_O_retract_8
  · skip
    have hP : va_P D vwCl (ow D q n P rw (b9 + 1) kn an lw s1 sd kd pa wd ao fo uo ho xo) s.heap := hP
    have hD : va_D A (ow D q n P rw (b9 + 1) kn an lw s1 sd kd pa wd ao fo uo ho xo) := hD
    refine lv_aload_n hx hb d_O_retract_0 rfl (lv_at hl 0 rfl) ?_
    refine va_get (D := D) (ci := 1) (v := .int (nI (b9 + 1))) (C := R_O) (T := T_O) (N := 17) hx hb hA inA_O hown hK hP 0 rfl rfl 9 (by decide) (hA _ wd_431) (fun _ h9 => h9) rfl d_O_retract_1 ?_
    refine lv_if_ne (tgt := 9) hx hb d_O_retract_4 (by decide) (fun h4 => ?_) (fun h => absurd h (nI_ne0 (by omega) (by omega)))
    refine lv_aload_n hx hb d_O_retract_9 rfl (lv_at hl 0 rfl) ?_
    refine lv_dup hx hb d_O_retract_10 rfl ?_
    refine va_get (D := D) (ci := 1) (v := .int (nI (b9 + 1))) (C := R_O) (T := T_O) (N := 17) hx hb hA inA_O hown hK hP 0 rfl rfl 9 (by decide) (hA _ wd_431) (fun _ h9 => h9) rfl d_O_retract_11 ?_
    refine lv_iconst (v := 1) hx hb d_O_retract_14 (by decide) ?_
    refine lv_isub hx hb d_O_retract_15 ?_
    refine topi_to (v := nI b9) (nI_pred b9) ?_
    refine va_put (D := D) (ci := 1) (v := .int (nI b9)) (ty := .int) (C := R_O) (T := T_O) (N := 17) hx hb hA inA_O ty_O tok_O nm_O hown hK hP hD hS 0 rfl rfl 9 (by decide) (hA _ wd_431) (fun _ h9 => h9) rfl (by decide +kernel) (by first | rfl | decide) (by first | rfl | decide) (Nat.le_of_ble_eq_true rfl) d_O_retract_16 (fun H locs hP hD hS => ?_)
    have hP : va_P D vwCl (ow D q n P rw b9 kn an lw s1 sd kd pa wd ao fo uo ho xo) H := hP
    have hD : va_D A (ow D q n P rw b9 kn an lw s1 sd kd pa wd ao fo uo ho xo) := hD
    refine lv_aload_n hx hb d_O_retract_19 rfl (lv_at hl 0 rfl) ?_
    refine wVv (n := 0) (wr := []) (Wf := oW D q) (rest := []) hx hb hml hown hA (o_changed l D q n P rw b9 kn an lw s1 sd kd pa wd ao fo uo ho xo _) wv_O_63 ⟨by decide, by decide, by decide +kernel⟩ ⟨rfl, rfl, by decide, by decide⟩ rfl hl.1 ⟨Nat.le_of_ble_eq_true rfl, Nat.le_of_ble_eq_true rfl⟩ hP hK hD hS hAA hN [0, 1, 2, 3, 4, 5, 6, 7, 8, 9, 10, 11] [] rfl rfl (by decide) (by decide) (by decide) 0 1 rfl rfl rfl (Nat.le_of_ble_eq_true rfl) d_O_retract_20 (fun u H locs hu hP hD hS => ?_)
    subst hu
    have hP : va_P D vwCl (ow D q n P rw b9 0 (-1) lw s1 sd kd pa wd ao fo uo ho xo) H := hP
    have hD : va_D A (ow D q n P rw b9 0 (-1) lw s1 sd kd pa wd ao fo uo ho xo) := hD
    refine lv_iconst (v := 1) hx hb d_O_retract_23 (by decide) ?_
    exact eWz (n, P, rw, b9, 0, -1, lw, s1, sd, kd, pa, wd, ao, fo, uo, ho, xo) hx hb hr hlocks (by first | rfl | decide) hP hK hD hS (Or.inr ⟨b9, rfl, rfl, rfl⟩) d_O_retract_24
end
