section
theorem ws_O_first : Cond.selects R_O y_O_first y_O_first ∈ cA := cA_in (List.mem_append_left _ (List.mem_of_getElem? (i := 19) (by decide +kernel))) rfl
theorem wv_O_135 : Cond.code y_O_first b_O_first 4 (some .int) ∈ cA ∧ Cond.initialized y_O_first.cls ∈ cA ∧ Cond.methodLink R_O 135 y_O_first ∈ cA ∧ Cond.instanceMethod y_O_first ∈ cA ∧ Cond.selects y_O_first.cls y_O_first y_O_first ∈ cA := ⟨wd_554, wd_3, wd_551, wd_553, ws_O_first⟩
theorem d_O_solve_0 : decode b_O_solve 0 = .ok (.aload_n 0, 1) := by decide +kernel
theorem d_O_solve_1 : decode b_O_solve 1 = .ok (.aload_n 0, 1) := by decide +kernel
theorem d_O_solve_2 : decode b_O_solve 2 = .ok (.iconst (-1), 1) := by decide +kernel
theorem d_O_solve_3 : decode b_O_solve 3 = .ok (.iconst 0, 1) := by decide +kernel
theorem d_O_solve_4 : decode b_O_solve 4 = .ok (.invokevirtual 135, 3) := by decide +kernel
theorem d_O_solve_7 : decode b_O_solve 7 = .ok (.putfield 46, 3) := by decide +kernel
theorem d_O_solve_10 : decode b_O_solve 10 = .ok (.aload_n 0, 1) := by decide +kernel
theorem d_O_solve_11 : decode b_O_solve 11 = .ok (.getfield 46, 3) := by decide +kernel
theorem d_O_solve_14 : decode b_O_solve 14 = .ok (.ifCond .lt 7, 3) := by decide +kernel
theorem d_O_solve_17 : decode b_O_solve 17 = .ok (.iconst 1, 1) := by decide +kernel
theorem d_O_solve_18 : decode b_O_solve 18 = .ok (.goto 4, 3) := by decide +kernel
theorem d_O_solve_21 : decode b_O_solve 21 = .ok (.iconst 0, 1) := by decide +kernel
theorem d_O_solve_22 : decode b_O_solve 22 = .ok (.ireturn, 1) := by decide +kernel
set_option maxRecDepth 100000 in
set_option maxHeartbeats 4000000 in
theorem o_solve (l : Launch) (D : va_G) (q : Nat → Nat) (n P rw a : Nat) (kn an : Int32) (lw s1 sd kd pa : Nat → Int32) (wd : Nat → Int64) (ao fo uo ho xo : Nat → Int32) (sz : Nat) (hn : n ≤ 8) (ha : a ≤ 8) (hav : ∀ m, m < a → vp_in (ao m) 8) (hrw : rw ≤ 12) (hok : ∀ r, r < rw → rowOk (kd r) (oRow pa r)) (hP4 : P ≤ 4096) (hsd : ∀ i, i < n → ¬ sd i = 0 ∧ ¬ s1 i = 0) (hkn : lkP n P rw a lw s1 sd kd pa wd ao fo uo kn ho) : Met l y_O_solve (wsm y_O_solve b_O_solve 1 (some .boolean)) { frames := 7, cells := 0, slots := 0, locals := 159 } (va_Pc [.ref (q 0)] (fun U => U.heap.size = sz ∧ cPre D (ow D q n P rw a kn an lw s1 sd kd pa wd ao fo uo ho xo) U)) (va_Qi (fun (r : Int32) (u : OS) => ∃ (kn9 an9 : Int32) (ho9 xo9 : Nat → Int32), kn9 = 1 ∧ (∀ p9, p9 < P → lkOk n rw a lw s1 sd kd pa wd ao fo uo ho9 p9) ∧ ((∃ p9, p9 < P ∧ an9 = nI p9 ∧ r = 1 ∧ fst9 lw s1 sd ho9 (-1) 0 p9 ∧ ∀ p8, p8 < p9 → ¬ fst9 lw s1 sd ho9 (-1) 0 p8) ∨ (an9 = -1 ∧ r = 0 ∧ ∀ p9, p9 < P → ¬ fst9 lw s1 sd ho9 (-1) 0 p9)) ∧ u = (n, P, rw, a, kn9, an9, lw, s1, sd, kd, pa, wd, ao, fo, uo, ho9, xo9)) (fun u t => xB D (oW D q u) (va_A (ow D q n P rw a kn an lw s1 sd kd pa wd ao fo uo ho xo) sz) t) (va_A (ow D q n P rw a kn an lw s1 sd kd pa wd ao fo uo ho xo) sz)) 0 0 (va_A (ow D q n P rw a kn an lw s1 sd kd pa wd ao fo uo ho xo) sz) := by
  refine met_W (Qf := fun A => va_Qi (fun (r : Int32) (u : OS) => ∃ (kn9 an9 : Int32) (ho9 xo9 : Nat → Int32), kn9 = 1 ∧ (∀ p9, p9 < P → lkOk n rw a lw s1 sd kd pa wd ao fo uo ho9 p9) ∧ ((∃ p9, p9 < P ∧ an9 = nI p9 ∧ r = 1 ∧ fst9 lw s1 sd ho9 (-1) 0 p9 ∧ ∀ p8, p8 < p9 → ¬ fst9 lw s1 sd ho9 (-1) 0 p8) ∨ (an9 = -1 ∧ r = 0 ∧ ∀ p9, p9 < P → ¬ fst9 lw s1 sd ho9 (-1) 0 p9)) ∧ u = (n, P, rw, a, kn9, an9, lw, s1, sd, kd, pa, wd, ao, fo, uo, ho9, xo9)) (fun u t => xB D (oW D q u) A t) A) (by decide) (Nat.le_of_ble_eq_true rfl) ?_
  intro p e s m below meth c ls A hx hb hr hlocks hml hown hin hA hP hK hD hN hl hS hAA
  have hown : s.vm.findClass R_O = some m.cls := hown
  have hl : lv_has ls 1 [(0, .ref (q 0))] := hl
  refine lv_aload_n hx hb d_O_solve_0 rfl (lv_at hl 0 rfl) ?_
  refine lv_aload_n hx hb d_O_solve_1 rfl (lv_at hl 0 rfl) ?_
  refine lv_iconst (v := (-1)) hx hb d_O_solve_2 (by decide) ?_
  refine lv_iconst (v := 0) hx hb d_O_solve_3 (by decide) ?_
  refine wVi (n := 2) (wr := []) (Wf := oW D q) (rest := [.ref (q 0)]) hx hb hml hown hA (o_first l D q n P rw a kn an lw s1 sd kd pa wd ao fo uo ho xo (-1) 0 _ hn ha hav hrw hok hP4 hsd (hkn) (fun h => absurd (show (-1 : Int32) < 0 by decide) h)) wv_O_135 ⟨by decide, by decide, by decide +kernel⟩ ⟨rfl, rfl, by decide, by decide⟩ rfl hl.1 ⟨Nat.le_of_ble_eq_true rfl, Nat.le_of_ble_eq_true rfl⟩ hP hK hD hS hAA hN [0, 1, 2, 3, 4, 5, 6, 7, 8, 9, 10, 11] [] rfl rfl (by decide) (by decide) (by decide) 0 1 rfl rfl rfl (Nat.le_of_ble_eq_true rfl) d_O_solve_4 (fun r u H locs hu hP hD hS => ?_)
  obtain ⟨kn9, ho9, xo9, rfl, hlk, hfr, rfl⟩ := hu
  rcases hfr with ⟨p9, hp9, rfl, hf1, hf2⟩ | ⟨rfl, hf⟩
  · skip
    have hP : va_P D vwCl (ow D q n P rw a 1 an lw s1 sd kd pa wd ao fo uo ho9 xo9) H := hP
    have hD : va_D A (ow D q n P rw a 1 an lw s1 sd kd pa wd ao fo uo ho9 xo9) := hD
    refine va_put (D := D) (ci := 1) (v := .int (nI p9)) (ty := .int) (C := R_O) (T := T_O) (N := 17) hx hb hA inA_O ty_O tok_O nm_O hown hK hP hD hS 0 rfl rfl 15 (by decide) (hA _ wd_437) (fun _ h9 => h9) rfl (by decide +kernel) (by first | rfl | decide) (by first | rfl | decide) (Nat.le_of_ble_eq_true rfl) d_O_solve_7 (fun H locs hP hD hS => ?_)
    have hP : va_P D vwCl (ow D q n P rw a 1 (nI p9) lw s1 sd kd pa wd ao fo uo ho9 xo9) H := hP
    have hD : va_D A (ow D q n P rw a 1 (nI p9) lw s1 sd kd pa wd ao fo uo ho9 xo9) := hD
    refine lv_aload_n hx hb d_O_solve_10 rfl (lv_at hl 0 rfl) ?_
    refine va_get (D := D) (ci := 1) (v := .int (nI p9)) (C := R_O) (T := T_O) (N := 17) hx hb hA inA_O hown hK hP 0 rfl rfl 15 (by decide) (hA _ wd_437) (fun _ h9 => h9) rfl d_O_solve_11 ?_
    refine lv_if_lt (tgt := 21) hx hb d_O_solve_14 (by decide) (fun h => absurd h (nI_pos (by omega))) (fun h14 => ?_)
    refine lv_iconst (v := 1) hx hb d_O_solve_17 (by decide) ?_
    refine lv_goto (tgt := 22) hx hb d_O_solve_18 (by decide) ?_
    exact eWz (n, P, rw, a, 1, nI p9, lw, s1, sd, kd, pa, wd, ao, fo, uo, ho9, xo9) hx hb hr hlocks (by first | rfl | decide) hP hK hD hS (⟨1, _, ho9, xo9, rfl, hlk, Or.inl ⟨p9, hp9, rfl, rfl, hf1, hf2⟩, rfl⟩) d_O_solve_22
  · skip
    have hP : va_P D vwCl (ow D q n P rw a 1 an lw s1 sd kd pa wd ao fo uo ho9 xo9) H := hP
    have hD : va_D A (ow D q n P rw a 1 an lw s1 sd kd pa wd ao fo uo ho9 xo9) := hD
    refine va_put (D := D) (ci := 1) (v := .int (-1)) (ty := .int) (C := R_O) (T := T_O) (N := 17) hx hb hA inA_O ty_O tok_O nm_O hown hK hP hD hS 0 rfl rfl 15 (by decide) (hA _ wd_437) (fun _ h9 => h9) rfl (by decide +kernel) (by first | rfl | decide) (by first | rfl | decide) (Nat.le_of_ble_eq_true rfl) d_O_solve_7 (fun H locs hP hD hS => ?_)
    have hP : va_P D vwCl (ow D q n P rw a 1 (-1) lw s1 sd kd pa wd ao fo uo ho9 xo9) H := hP
    have hD : va_D A (ow D q n P rw a 1 (-1) lw s1 sd kd pa wd ao fo uo ho9 xo9) := hD
    refine lv_aload_n hx hb d_O_solve_10 rfl (lv_at hl 0 rfl) ?_
    refine va_get (D := D) (ci := 1) (v := .int (-1)) (C := R_O) (T := T_O) (N := 17) hx hb hA inA_O hown hK hP 0 rfl rfl 15 (by decide) (hA _ wd_437) (fun _ h9 => h9) rfl d_O_solve_11 ?_
    refine lv_if_lt (tgt := 21) hx hb d_O_solve_14 (by decide) (fun _ => ?_) (fun h => absurd h (by decide))
    refine lv_iconst (v := 0) hx hb d_O_solve_21 (by decide) ?_
    exact eWz (n, P, rw, a, 1, (-1), lw, s1, sd, kd, pa, wd, ao, fo, uo, ho9, xo9) hx hb hr hlocks (by first | rfl | decide) hP hK hD hS (⟨1, _, ho9, xo9, rfl, hlk, Or.inr ⟨rfl, rfl, hf⟩, rfl⟩) d_O_solve_22
end
