section
theorem ws_O_extreme : Cond.selects R_O y_O_extreme y_O_extreme ∈ cA := cA_in (List.mem_append_left _ (List.mem_of_getElem? (i := 32) (by decide +kernel))) rfl
theorem wv_O_138 : Cond.code y_O_extreme b_O_extreme 7 (some .int) ∈ cA ∧ Cond.initialized y_O_extreme.cls ∈ cA ∧ Cond.methodLink R_O 138 y_O_extreme ∈ cA ∧ Cond.instanceMethod y_O_extreme ∈ cA ∧ Cond.selects y_O_extreme.cls y_O_extreme y_O_extreme ∈ cA := ⟨wd_614, wd_3, wd_611, wd_613, ws_O_extreme⟩
theorem d_O_best_0 : decode b_O_best 0 = .ok (.aload_n 0, 1) := by decide +kernel
theorem d_O_best_1 : decode b_O_best 1 = .ok (.iload_n 1, 1) := by decide +kernel
theorem d_O_best_2 : decode b_O_best 2 = .ok (.invokevirtual 59, 3) := by decide +kernel
theorem d_O_best_5 : decode b_O_best 5 = .ok (.ifCond .ne 5, 3) := by decide +kernel
theorem d_O_best_8 : decode b_O_best 8 = .ok (.iconst 0, 1) := by decide +kernel
theorem d_O_best_9 : decode b_O_best 9 = .ok (.ireturn, 1) := by decide +kernel
theorem d_O_best_10 : decode b_O_best 10 = .ok (.aload_n 0, 1) := by decide +kernel
theorem d_O_best_11 : decode b_O_best 11 = .ok (.iload_n 1, 1) := by decide +kernel
theorem d_O_best_12 : decode b_O_best 12 = .ok (.iload_n 2, 1) := by decide +kernel
theorem d_O_best_13 : decode b_O_best 13 = .ok (.invokevirtual 138, 3) := by decide +kernel
theorem d_O_best_16 : decode b_O_best 16 = .ok (.istore_n 3, 1) := by decide +kernel
theorem d_O_best_17 : decode b_O_best 17 = .ok (.aload_n 0, 1) := by decide +kernel
theorem d_O_best_18 : decode b_O_best 18 = .ok (.iload_n 3, 1) := by decide +kernel
theorem d_O_best_19 : decode b_O_best 19 = .ok (.sipush 1000, 3) := by decide +kernel
theorem d_O_best_22 : decode b_O_best 22 = .ok (.if_icmp .ne 7, 3) := by decide +kernel
theorem d_O_best_25 : decode b_O_best 25 = .ok (.iconst (-1), 1) := by decide +kernel
theorem d_O_best_26 : decode b_O_best 26 = .ok (.goto 9, 3) := by decide +kernel
theorem d_O_best_29 : decode b_O_best 29 = .ok (.aload_n 0, 1) := by decide +kernel
theorem d_O_best_30 : decode b_O_best 30 = .ok (.iload_n 1, 1) := by decide +kernel
theorem d_O_best_31 : decode b_O_best 31 = .ok (.iload_n 3, 1) := by decide +kernel
theorem d_O_best_32 : decode b_O_best 32 = .ok (.invokevirtual 135, 3) := by decide +kernel
theorem d_O_best_35 : decode b_O_best 35 = .ok (.putfield 46, 3) := by decide +kernel
theorem d_O_best_38 : decode b_O_best 38 = .ok (.aload_n 0, 1) := by decide +kernel
theorem d_O_best_39 : decode b_O_best 39 = .ok (.getfield 46, 3) := by decide +kernel
theorem d_O_best_42 : decode b_O_best 42 = .ok (.ifCond .lt 7, 3) := by decide +kernel
theorem d_O_best_45 : decode b_O_best 45 = .ok (.iconst 1, 1) := by decide +kernel
theorem d_O_best_46 : decode b_O_best 46 = .ok (.goto 4, 3) := by decide +kernel
theorem d_O_best_49 : decode b_O_best 49 = .ok (.iconst 0, 1) := by decide +kernel
theorem d_O_best_50 : decode b_O_best 50 = .ok (.ireturn, 1) := by decide +kernel
set_option maxRecDepth 100000 in
set_option maxHeartbeats 4000000 in
theorem o_best (l : Launch) (D : va_G) (q : Nat → Nat) (n P rw a : Nat) (kn an : Int32) (lw s1 sd kd pa : Nat → Int32) (wd : Nat → Int64) (ao fo uo ho xo : Nat → Int32) (i mo : Int32) (sz : Nat) (hn : n ≤ 8) (ha : a ≤ 8) (hav : ∀ m, m < a → vp_in (ao m) 8) (hrw : rw ≤ 12) (hok : ∀ r, r < rw → rowOk (kd r) (oRow pa r)) (hP4 : P ≤ 4096) (hsd : ∀ i, i < n → ¬ sd i = 0 ∧ ¬ s1 i = 0) (hkn : lkP n P rw a lw s1 sd kd pa wd ao fo uo kn ho) : Met l y_O_best (wsm y_O_best b_O_best 4 (some .boolean)) { frames := 7, cells := 0, slots := 0, locals := 162 } (va_Pc [.ref (q 0), .int i, .int mo] (fun U => U.heap.size = sz ∧ cPre D (ow D q n P rw a kn an lw s1 sd kd pa wd ao fo uo ho xo) U)) (va_Qi (fun (r : Int32) (u : OS) => (¬ iv n i ∧ r = 0 ∧ u = (n, P, rw, a, kn, an, lw, s1, sd, kd, pa, wd, ao, fo, uo, ho, xo)) ∨ (iv n i ∧ ∃ hoE : Nat → Int32, (∀ p9, p9 < P → lkOk n rw a lw s1 sd kd pa wd ao fo uo hoE p9) ∧ ∃ (kn9 an9 : Int32) (ho9 xo9 : Nat → Int32), kn9 = 1 ∧ (∀ p9, p9 < P → lkOk n rw a lw s1 sd kd pa wd ao fo uo ho9 p9) ∧ ((exF hoE (fun p7 => vIn lw s1 sd (nI p7) i.toNatClampNeg) mo P 0 1000 = 1000 ∧ an9 = -1 ∧ r = 0) ∨ (¬ exF hoE (fun p7 => vIn lw s1 sd (nI p7) i.toNatClampNeg) mo P 0 1000 = 1000 ∧ ((∃ p9, p9 < P ∧ an9 = nI p9 ∧ r = 1 ∧ fst9 lw s1 sd ho9 i (exF hoE (fun p7 => vIn lw s1 sd (nI p7) i.toNatClampNeg) mo P 0 1000) p9 ∧ ∀ p8, p8 < p9 → ¬ fst9 lw s1 sd ho9 i (exF hoE (fun p7 => vIn lw s1 sd (nI p7) i.toNatClampNeg) mo P 0 1000) p8) ∨ (an9 = -1 ∧ r = 0 ∧ ∀ p9, p9 < P → ¬ fst9 lw s1 sd ho9 i (exF hoE (fun p7 => vIn lw s1 sd (nI p7) i.toNatClampNeg) mo P 0 1000) p9)))) ∧ u = (n, P, rw, a, kn9, an9, lw, s1, sd, kd, pa, wd, ao, fo, uo, ho9, xo9))) (fun u t => xB D (oW D q u) (va_A (ow D q n P rw a kn an lw s1 sd kd pa wd ao fo uo ho xo) sz) t) (va_A (ow D q n P rw a kn an lw s1 sd kd pa wd ao fo uo ho xo) sz)) 0 0 (va_A (ow D q n P rw a kn an lw s1 sd kd pa wd ao fo uo ho xo) sz) := by
  refine met_W (Qf := fun A => va_Qi (fun (r : Int32) (u : OS) => (¬ iv n i ∧ r = 0 ∧ u = (n, P, rw, a, kn, an, lw, s1, sd, kd, pa, wd, ao, fo, uo, ho, xo)) ∨ (iv n i ∧ ∃ hoE : Nat → Int32, (∀ p9, p9 < P → lkOk n rw a lw s1 sd kd pa wd ao fo uo hoE p9) ∧ ∃ (kn9 an9 : Int32) (ho9 xo9 : Nat → Int32), kn9 = 1 ∧ (∀ p9, p9 < P → lkOk n rw a lw s1 sd kd pa wd ao fo uo ho9 p9) ∧ ((exF hoE (fun p7 => vIn lw s1 sd (nI p7) i.toNatClampNeg) mo P 0 1000 = 1000 ∧ an9 = -1 ∧ r = 0) ∨ (¬ exF hoE (fun p7 => vIn lw s1 sd (nI p7) i.toNatClampNeg) mo P 0 1000 = 1000 ∧ ((∃ p9, p9 < P ∧ an9 = nI p9 ∧ r = 1 ∧ fst9 lw s1 sd ho9 i (exF hoE (fun p7 => vIn lw s1 sd (nI p7) i.toNatClampNeg) mo P 0 1000) p9 ∧ ∀ p8, p8 < p9 → ¬ fst9 lw s1 sd ho9 i (exF hoE (fun p7 => vIn lw s1 sd (nI p7) i.toNatClampNeg) mo P 0 1000) p8) ∨ (an9 = -1 ∧ r = 0 ∧ ∀ p9, p9 < P → ¬ fst9 lw s1 sd ho9 i (exF hoE (fun p7 => vIn lw s1 sd (nI p7) i.toNatClampNeg) mo P 0 1000) p9)))) ∧ u = (n, P, rw, a, kn9, an9, lw, s1, sd, kd, pa, wd, ao, fo, uo, ho9, xo9))) (fun u t => xB D (oW D q u) A t) A) (by decide) (Nat.le_of_ble_eq_true rfl) ?_
  intro p e s m below meth c ls A hx hb hr hlocks hml hown hin hA hP hK hD hN hl hS hAA
  have hown : s.vm.findClass R_O = some m.cls := hown
  have hl : lv_has ls 4 [(0, .ref (q 0)), (1, .int i), (2, .int mo)] := hl
  refine lv_aload_n hx hb d_O_best_0 rfl (lv_at hl 0 rfl) ?_
  refine lv_iload_n hx hb d_O_best_1 rfl (lv_at hl 1 rfl) ?_
  refine rV (n := 1) (rest := []) hx hb hml hown hA (o_isVariable l D q n P rw a kn an lw s1 sd kd pa wd ao fo uo ho xo i) wv_O_59 ⟨by decide, by decide, by decide +kernel⟩ ⟨rfl, rfl, by decide, by decide⟩ rfl hl.1 ⟨Nat.le_of_ble_eq_true rfl, Nat.le_of_ble_eq_true rfl⟩ hP hK hD hN 0 1 rfl rfl rfl (Nat.le_of_ble_eq_true rfl) d_O_best_2 (fun r hr9 => ?_)
  rcases zb_c hr9 with ⟨rfl, h2⟩ | ⟨rfl, h2⟩
  · skip
    refine lv_if_ne (tgt := 10) hx hb d_O_best_5 (by decide) (fun _ => ?_) (fun h => absurd h (by decide))
    refine lv_aload_n hx hb d_O_best_10 rfl (lv_at hl 0 rfl) ?_
    refine lv_iload_n hx hb d_O_best_11 rfl (lv_at hl 1 rfl) ?_
    refine lv_iload_n hx hb d_O_best_12 rfl (lv_at hl 2 rfl) ?_
    refine wVi (n := 2) (wr := []) (Wf := oW D q) (rest := []) hx hb hml hown hA (o_extreme l D q n P rw a kn an lw s1 sd kd pa wd ao fo uo ho xo i mo _ hn ha hav hrw hok hP4 hsd hkn (viv h2 hn hsd)) wv_O_138 ⟨by decide, by decide, by decide +kernel⟩ ⟨rfl, rfl, by decide, by decide⟩ rfl hl.1 ⟨Nat.le_of_ble_eq_true rfl, Nat.le_of_ble_eq_true rfl⟩ hP hK hD hS hAA hN [0, 1, 2, 3, 4, 5, 6, 7, 8, 9, 10, 11] [] rfl rfl (by decide) (by decide) (by decide) 0 1 rfl rfl rfl (Nat.le_of_ble_eq_true rfl) d_O_best_13 (fun r u H locs hu hP hD hS => ?_)
    obtain ⟨kn9, ho9, xo9, rfl, hlk, rfl, rfl⟩ := hu
    have hP : va_P D vwCl (ow D q n P rw a 1 an lw s1 sd kd pa wd ao fo uo ho9 xo9) H := hP
    have hD : va_D A (ow D q n P rw a 1 an lw s1 sd kd pa wd ao fo uo ho9 xo9) := hD
    refine lv_istore_n hx hb d_O_best_16 rfl hl (by decide) rfl (fun ls hl => ?_)
    have hl : lv_has ls 4 [(3, .int (exF ho9 (fun p7 => vIn lw s1 sd (nI p7) i.toNatClampNeg) mo P 0 1000)), (0, .ref (q 0)), (1, .int i), (2, .int mo)] := hl
    refine lv_aload_n hx hb d_O_best_17 rfl (lv_at hl 1 rfl) ?_
    refine lv_iload_n hx hb d_O_best_18 rfl (lv_at hl 0 rfl) ?_
    refine lv_sipush (v := 1000) hx hb d_O_best_19 (by decide) ?_
    refine lv_icmp_ne (tgt := 29) hx hb d_O_best_22 (by decide) (fun h22 => ?_) (fun h22 => ?_)
    · skip
      refine lv_aload_n hx hb d_O_best_29 rfl (lv_at hl 1 rfl) ?_
      refine lv_iload_n hx hb d_O_best_30 rfl (lv_at hl 2 rfl) ?_
      refine lv_iload_n hx hb d_O_best_31 rfl (lv_at hl 0 rfl) ?_
      refine wVi (n := 2) (wr := []) (Wf := oW D q) (rest := [.ref (q 0)]) hx hb hml hown hA (o_first l D q n P rw a 1 an lw s1 sd kd pa wd ao fo uo ho9 xo9 i (exF ho9 (fun p7 => vIn lw s1 sd (nI p7) i.toNatClampNeg) mo P 0 1000) _ hn ha hav hrw hok hP4 hsd (⟨Or.inr rfl, fun _ => hlk⟩) (fun _ => viv h2 hn hsd)) wv_O_135 ⟨by decide, by decide, by decide +kernel⟩ ⟨rfl, rfl, by decide, by decide⟩ rfl hl.1 ⟨Nat.le_of_ble_eq_true rfl, Nat.le_of_ble_eq_true rfl⟩ hP hK hD hS hAA hN [0, 1, 2, 3, 4, 5, 6, 7, 8, 9, 10, 11] [] rfl rfl (by decide) (by decide) (by decide) 0 1 rfl rfl rfl (Nat.le_of_ble_eq_true rfl) d_O_best_32 (fun r u H locs hu hP hD hS => ?_)
      obtain ⟨kn8, ho8, xo8, rfl, hlk8, hfr, rfl⟩ := hu
      rcases hfr with ⟨p9, hp9, rfl, hf1, hf2⟩ | ⟨rfl, hf⟩
      · skip
        have hP : va_P D vwCl (ow D q n P rw a 1 an lw s1 sd kd pa wd ao fo uo ho8 xo8) H := hP
        have hD : va_D A (ow D q n P rw a 1 an lw s1 sd kd pa wd ao fo uo ho8 xo8) := hD
        refine va_put (D := D) (ci := 1) (v := .int (nI p9)) (ty := .int) (C := R_O) (T := T_O) (N := 17) hx hb hA inA_O ty_O tok_O nm_O hown hK hP hD hS 0 rfl rfl 15 (by decide) (hA _ wd_437) (fun _ h9 => h9) rfl (by decide +kernel) (by first | rfl | decide) (by first | rfl | decide) (Nat.le_of_ble_eq_true rfl) d_O_best_35 (fun H locs hP hD hS => ?_)
        have hP : va_P D vwCl (ow D q n P rw a 1 (nI p9) lw s1 sd kd pa wd ao fo uo ho8 xo8) H := hP
        have hD : va_D A (ow D q n P rw a 1 (nI p9) lw s1 sd kd pa wd ao fo uo ho8 xo8) := hD
        refine lv_aload_n hx hb d_O_best_38 rfl (lv_at hl 1 rfl) ?_
        refine va_get (D := D) (ci := 1) (v := .int (nI p9)) (C := R_O) (T := T_O) (N := 17) hx hb hA inA_O hown hK hP 0 rfl rfl 15 (by decide) (hA _ wd_437) (fun _ h9 => h9) rfl d_O_best_39 ?_
        refine lv_if_lt (tgt := 49) hx hb d_O_best_42 (by decide) (fun h => absurd h (nI_pos (by omega))) (fun h42 => ?_)
        refine lv_iconst (v := 1) hx hb d_O_best_45 (by decide) ?_
        refine lv_goto (tgt := 50) hx hb d_O_best_46 (by decide) ?_
        exact eWz (n, P, rw, a, 1, nI p9, lw, s1, sd, kd, pa, wd, ao, fo, uo, ho8, xo8) hx hb hr hlocks (by first | rfl | decide) hP hK hD hS (Or.inr ⟨h2, ho9, hlk, 1, _, ho8, xo8, rfl, hlk8, Or.inr ⟨h22, Or.inl ⟨p9, hp9, rfl, rfl, hf1, hf2⟩⟩, rfl⟩) d_O_best_50
      · skip
        have hP : va_P D vwCl (ow D q n P rw a 1 an lw s1 sd kd pa wd ao fo uo ho8 xo8) H := hP
        have hD : va_D A (ow D q n P rw a 1 an lw s1 sd kd pa wd ao fo uo ho8 xo8) := hD
        refine va_put (D := D) (ci := 1) (v := .int (-1)) (ty := .int) (C := R_O) (T := T_O) (N := 17) hx hb hA inA_O ty_O tok_O nm_O hown hK hP hD hS 0 rfl rfl 15 (by decide) (hA _ wd_437) (fun _ h9 => h9) rfl (by decide +kernel) (by first | rfl | decide) (by first | rfl | decide) (Nat.le_of_ble_eq_true rfl) d_O_best_35 (fun H locs hP hD hS => ?_)
        have hP : va_P D vwCl (ow D q n P rw a 1 (-1) lw s1 sd kd pa wd ao fo uo ho8 xo8) H := hP
        have hD : va_D A (ow D q n P rw a 1 (-1) lw s1 sd kd pa wd ao fo uo ho8 xo8) := hD
        refine lv_aload_n hx hb d_O_best_38 rfl (lv_at hl 1 rfl) ?_
        refine va_get (D := D) (ci := 1) (v := .int (-1)) (C := R_O) (T := T_O) (N := 17) hx hb hA inA_O hown hK hP 0 rfl rfl 15 (by decide) (hA _ wd_437) (fun _ h9 => h9) rfl d_O_best_39 ?_
        refine lv_if_lt (tgt := 49) hx hb d_O_best_42 (by decide) (fun _ => ?_) (fun h => absurd h (by decide))
        refine lv_iconst (v := 0) hx hb d_O_best_49 (by decide) ?_
        exact eWz (n, P, rw, a, 1, (-1), lw, s1, sd, kd, pa, wd, ao, fo, uo, ho8, xo8) hx hb hr hlocks (by first | rfl | decide) hP hK hD hS (Or.inr ⟨h2, ho9, hlk, 1, _, ho8, xo8, rfl, hlk8, Or.inr ⟨h22, Or.inr ⟨rfl, rfl, hf⟩⟩, rfl⟩) d_O_best_50
    · skip
      refine lv_iconst (v := (-1)) hx hb d_O_best_25 (by decide) ?_
      refine lv_goto (tgt := 35) hx hb d_O_best_26 (by decide) ?_
      refine va_put (D := D) (ci := 1) (v := .int (-1)) (ty := .int) (C := R_O) (T := T_O) (N := 17) hx hb hA inA_O ty_O tok_O nm_O hown hK hP hD hS 0 rfl rfl 15 (by decide) (hA _ wd_437) (fun _ h9 => h9) rfl (by decide +kernel) (by first | rfl | decide) (by first | rfl | decide) (Nat.le_of_ble_eq_true rfl) d_O_best_35 (fun H locs hP hD hS => ?_)
      have hP : va_P D vwCl (ow D q n P rw a 1 (-1) lw s1 sd kd pa wd ao fo uo ho9 xo9) H := hP
      have hD : va_D A (ow D q n P rw a 1 (-1) lw s1 sd kd pa wd ao fo uo ho9 xo9) := hD
      refine lv_aload_n hx hb d_O_best_38 rfl (lv_at hl 1 rfl) ?_
      refine va_get (D := D) (ci := 1) (v := .int (-1)) (C := R_O) (T := T_O) (N := 17) hx hb hA inA_O hown hK hP 0 rfl rfl 15 (by decide) (hA _ wd_437) (fun _ h9 => h9) rfl d_O_best_39 ?_
      refine lv_if_lt (tgt := 49) hx hb d_O_best_42 (by decide) (fun _ => ?_) (fun h => absurd h (by decide))
      refine lv_iconst (v := 0) hx hb d_O_best_49 (by decide) ?_
      exact eWz (n, P, rw, a, 1, (-1), lw, s1, sd, kd, pa, wd, ao, fo, uo, ho9, xo9) hx hb hr hlocks (by first | rfl | decide) hP hK hD hS (Or.inr ⟨h2, ho9, hlk, 1, _, ho9, xo9, rfl, hlk, Or.inl ⟨h22, rfl, rfl⟩, rfl⟩) d_O_best_50
  · skip
    refine lv_if_ne (tgt := 10) hx hb d_O_best_5 (by decide) (fun h => absurd h (by decide)) (fun _ => ?_)
    refine lv_iconst (v := 0) hx hb d_O_best_8 (by decide) ?_
    exact eWz (n, P, rw, a, kn, an, lw, s1, sd, kd, pa, wd, ao, fo, uo, ho, xo) hx hb hr hlocks (by first | rfl | decide) hP hK hD hS (Or.inl ⟨h2, rfl, rfl⟩) d_O_best_9
end
