section
theorem ws_O_look : Cond.selects R_O y_O_look y_O_look ∈ cA := cA_in (List.mem_append_left _ (List.mem_of_getElem? (i := 20) (by decide +kernel))) rfl
theorem wv_O_132 : Cond.code y_O_look b_O_look 3 none ∈ cA ∧ Cond.initialized y_O_look.cls ∈ cA ∧ Cond.methodLink R_O 132 y_O_look ∈ cA ∧ Cond.instanceMethod y_O_look ∈ cA ∧ Cond.selects y_O_look.cls y_O_look y_O_look ∈ cA := ⟨wd_558, wd_3, wd_555, wd_557, ws_O_look⟩
theorem d_O_first_0 : decode b_O_first 0 = .ok (.aload_n 0, 1) := by decide +kernel
theorem d_O_first_1 : decode b_O_first 1 = .ok (.invokevirtual 132, 3) := by decide +kernel
theorem d_O_first_4 : decode b_O_first 4 = .ok (.iconst 0, 1) := by decide +kernel
theorem d_O_first_5 : decode b_O_first 5 = .ok (.istore_n 3, 1) := by decide +kernel
theorem d_O_first_6 : decode b_O_first 6 = .ok (.iload_n 3, 1) := by decide +kernel
theorem d_O_first_7 : decode b_O_first 7 = .ok (.aload_n 0, 1) := by decide +kernel
theorem d_O_first_8 : decode b_O_first 8 = .ok (.getfield 19, 3) := by decide +kernel
theorem d_O_first_11 : decode b_O_first 11 = .ok (.if_icmp .ge 32, 3) := by decide +kernel
theorem d_O_first_14 : decode b_O_first 14 = .ok (.aload_n 0, 1) := by decide +kernel
theorem d_O_first_15 : decode b_O_first 15 = .ok (.getfield 42, 3) := by decide +kernel
theorem d_O_first_18 : decode b_O_first 18 = .ok (.iload_n 3, 1) := by decide +kernel
theorem d_O_first_19 : decode b_O_first 19 = .ok (.baload, 1) := by decide +kernel
theorem d_O_first_20 : decode b_O_first 20 = .ok (.ifCond .eq 17, 3) := by decide +kernel
theorem d_O_first_23 : decode b_O_first 23 = .ok (.iload_n 1, 1) := by decide +kernel
theorem d_O_first_24 : decode b_O_first 24 = .ok (.ifCond .lt 19, 3) := by decide +kernel
theorem d_O_first_27 : decode b_O_first 27 = .ok (.aload_n 0, 1) := by decide +kernel
theorem d_O_first_28 : decode b_O_first 28 = .ok (.iload_n 3, 1) := by decide +kernel
theorem d_O_first_29 : decode b_O_first 29 = .ok (.iload_n 1, 1) := by decide +kernel
theorem d_O_first_30 : decode b_O_first 30 = .ok (.invokevirtual 125, 3) := by decide +kernel
theorem d_O_first_33 : decode b_O_first 33 = .ok (.iload_n 2, 1) := by decide +kernel
theorem d_O_first_34 : decode b_O_first 34 = .ok (.if_icmp .eq 9, 3) := by decide +kernel
theorem d_O_first_37 : decode b_O_first 37 = .ok (.iinc 3 1, 3) := by decide +kernel
theorem d_O_first_40 : decode b_O_first 40 = .ok (.goto (-34), 3) := by decide +kernel
theorem d_O_first_43 : decode b_O_first 43 = .ok (.iload_n 3, 1) := by decide +kernel
theorem d_O_first_44 : decode b_O_first 44 = .ok (.aload_n 0, 1) := by decide +kernel
theorem d_O_first_45 : decode b_O_first 45 = .ok (.getfield 19, 3) := by decide +kernel
theorem d_O_first_48 : decode b_O_first 48 = .ok (.if_icmp .ne 7, 3) := by decide +kernel
theorem d_O_first_51 : decode b_O_first 51 = .ok (.iconst (-1), 1) := by decide +kernel
theorem d_O_first_52 : decode b_O_first 52 = .ok (.goto 4, 3) := by decide +kernel
theorem d_O_first_55 : decode b_O_first 55 = .ok (.iload_n 3, 1) := by decide +kernel
theorem d_O_first_56 : decode b_O_first 56 = .ok (.ireturn, 1) := by decide +kernel
set_option maxRecDepth 100000 in
set_option maxHeartbeats 4000000 in
theorem o_first (l : Launch) (D : va_G) (q : Nat → Nat) (n P rw a : Nat) (kn an : Int32) (lw s1 sd kd pa : Nat → Int32) (wd : Nat → Int64) (ao fo uo ho xo : Nat → Int32) (i v : Int32) (sz : Nat) (hn : n ≤ 8) (ha : a ≤ 8) (hav : ∀ m, m < a → vp_in (ao m) 8) (hrw : rw ≤ 12) (hok : ∀ r, r < rw → rowOk (kd r) (oRow pa r)) (hP4 : P ≤ 4096) (hsd : ∀ i, i < n → ¬ sd i = 0 ∧ ¬ s1 i = 0) (hkn : lkP n P rw a lw s1 sd kd pa wd ao fo uo kn ho) (hiv : ¬ i < 0 → vp_in i 8 ∧ ¬ sd i.toNatClampNeg = 0 ∧ ¬ s1 i.toNatClampNeg = 0) : Met l y_O_first (wsm y_O_first b_O_first 4 (some .int)) { frames := 6, cells := 0, slots := 0, locals := 136 } (va_Pc [.ref (q 0), .int i, .int v] (fun U => U.heap.size = sz ∧ cPre D (ow D q n P rw a kn an lw s1 sd kd pa wd ao fo uo ho xo) U)) (va_Qi (fun (r : Int32) (u : OS) => ∃ (kn9 : Int32) (ho9 xo9 : Nat → Int32), kn9 = 1 ∧ (∀ p9, p9 < P → lkOk n rw a lw s1 sd kd pa wd ao fo uo ho9 p9) ∧ ((∃ p9, p9 < P ∧ r = nI p9 ∧ fst9 lw s1 sd ho9 i v p9 ∧ ∀ p8, p8 < p9 → ¬ fst9 lw s1 sd ho9 i v p8) ∨ (r = -1 ∧ ∀ p9, p9 < P → ¬ fst9 lw s1 sd ho9 i v p9)) ∧ u = (n, P, rw, a, kn9, an, lw, s1, sd, kd, pa, wd, ao, fo, uo, ho9, xo9)) (fun u t => xB D (oW D q u) (va_A (ow D q n P rw a kn an lw s1 sd kd pa wd ao fo uo ho xo) sz) t) (va_A (ow D q n P rw a kn an lw s1 sd kd pa wd ao fo uo ho xo) sz)) 0 0 (va_A (ow D q n P rw a kn an lw s1 sd kd pa wd ao fo uo ho xo) sz) := by
  refine met_W (Qf := fun A => va_Qi (fun (r : Int32) (u : OS) => ∃ (kn9 : Int32) (ho9 xo9 : Nat → Int32), kn9 = 1 ∧ (∀ p9, p9 < P → lkOk n rw a lw s1 sd kd pa wd ao fo uo ho9 p9) ∧ ((∃ p9, p9 < P ∧ r = nI p9 ∧ fst9 lw s1 sd ho9 i v p9 ∧ ∀ p8, p8 < p9 → ¬ fst9 lw s1 sd ho9 i v p8) ∨ (r = -1 ∧ ∀ p9, p9 < P → ¬ fst9 lw s1 sd ho9 i v p9)) ∧ u = (n, P, rw, a, kn9, an, lw, s1, sd, kd, pa, wd, ao, fo, uo, ho9, xo9)) (fun u t => xB D (oW D q u) A t) A) (by decide) (Nat.le_of_ble_eq_true rfl) ?_
  intro p e s m below meth c ls A hx hb hr hlocks hml hown hin hA hP hK hD hN hl hS hAA
  have hown : s.vm.findClass R_O = some m.cls := hown
  have hl : lv_has ls 4 [(0, .ref (q 0)), (1, .int i), (2, .int v)] := hl
  refine lv_aload_n hx hb d_O_first_0 rfl (lv_at hl 0 rfl) ?_
  refine wVv (n := 0) (wr := []) (Wf := oW D q) (rest := []) hx hb hml hown hA (o_look l D q n P rw a kn an lw s1 sd kd pa wd ao fo uo ho xo _ hn ha hav hrw hok hP4 hsd hkn) wv_O_132 ⟨by decide, by decide, by decide +kernel⟩ ⟨rfl, rfl, by decide, by decide⟩ rfl hl.1 ⟨Nat.le_of_ble_eq_true rfl, Nat.le_of_ble_eq_true rfl⟩ hP hK hD hS hAA hN [0, 1, 2, 3, 4, 5, 6, 7, 8, 9, 10, 11] [] rfl rfl (by decide) (by decide) (by decide) 0 1 rfl rfl rfl (Nat.le_of_ble_eq_true rfl) d_O_first_1 (fun u H locs hu hP hD hS => ?_)
  obtain ⟨kn9, ho9, xo9, rfl, hlk, rfl⟩ := hu
  have hP : va_P D vwCl (ow D q n P rw a 1 an lw s1 sd kd pa wd ao fo uo ho9 xo9) H := hP
  have hD : va_D A (ow D q n P rw a 1 an lw s1 sd kd pa wd ao fo uo ho9 xo9) := hD
  refine lv_iconst (v := 0) hx hb d_O_first_4 (by decide) ?_
  refine lv_istore_n hx hb d_O_first_5 rfl hl (by decide) rfl (fun ls hl => ?_)
  have hl : lv_has ls 4 [(3, .int 0), (0, .ref (q 0)), (1, .int i), (2, .int v)] := hl
  have loop : ∀ (t p9 : Nat) (ls : Array Slot), p9 + t = P → (∀ p8, p8 < p9 → ¬ fst9 lw s1 sd ho9 i v p8) → lv_has ls 4 [(3, .int (nI p9)), (0, .ref (q 0)), (1, .int i), (2, .int v)] → W p l e { frames := 6, cells := 0, slots := 0, locals := 136 } s m [.ref (q 0), .int i, .int v].toArray below meth c H locs 0 0 (MQ below (va_Qi (fun (r : Int32) (u : OS) => ∃ (kn9 : Int32) (ho9 xo9 : Nat → Int32), kn9 = 1 ∧ (∀ p9, p9 < P → lkOk n rw a lw s1 sd kd pa wd ao fo uo ho9 p9) ∧ ((∃ p9, p9 < P ∧ r = nI p9 ∧ fst9 lw s1 sd ho9 i v p9 ∧ ∀ p8, p8 < p9 → ¬ fst9 lw s1 sd ho9 i v p8) ∨ (r = -1 ∧ ∀ p9, p9 < P → ¬ fst9 lw s1 sd ho9 i v p9)) ∧ u = (n, P, rw, a, kn9, an, lw, s1, sd, kd, pa, wd, ao, fo, uo, ho9, xo9)) (fun u t => xB D (oW D q u) A t) A) [.ref (q 0), .int i, .int v].toArray s 0 0 A) (F0 m 6 ls []) := by
    intro t
    induction t with
    | zero =>
      intro p9 ls hp9 hno hl
      refine lv_iload_n hx hb d_O_first_6 rfl (lv_at hl 0 rfl) ?_
      refine lv_aload_n hx hb d_O_first_7 rfl (lv_at hl 1 rfl) ?_
      refine va_get (D := D) (ci := 1) (v := .int (nI P)) (C := R_O) (T := T_O) (N := 17) hx hb hA inA_O hown hK hP 0 rfl rfl 4 (by decide) (hA _ wd_426) (fun _ h9 => h9) rfl d_O_first_8 ?_
      refine lv_icmp_ge (tgt := 43) hx hb d_O_first_11 (by decide) (fun h11 => ?_) (fun h => absurd (nI_le (by omega) (by omega)) h)
      refine lv_iload_n hx hb d_O_first_43 rfl (lv_at hl 0 rfl) ?_
      refine lv_aload_n hx hb d_O_first_44 rfl (lv_at hl 1 rfl) ?_
      refine va_get (D := D) (ci := 1) (v := .int (nI P)) (C := R_O) (T := T_O) (N := 17) hx hb hA inA_O hown hK hP 0 rfl rfl 4 (by decide) (hA _ wd_426) (fun _ h9 => h9) rfl d_O_first_45 ?_
      refine lv_icmp_ne (tgt := 55) hx hb d_O_first_48 (by decide) (fun h => absurd h (fun h => h (by rw [show p9 = P by omega]))) (fun h48 => ?_)
      refine lv_iconst (v := (-1)) hx hb d_O_first_51 (by decide) ?_
      refine lv_goto (tgt := 56) hx hb d_O_first_52 (by decide) ?_
      exact eWi (n, P, rw, a, 1, an, lw, s1, sd, kd, pa, wd, ao, fo, uo, ho9, xo9) hx hb hr hlocks hP hK hD hS (⟨1, ho9, xo9, rfl, hlk, Or.inr ⟨rfl, fun p8 h8 => hno p8 (by omega)⟩, rfl⟩) d_O_first_56
    | succ t ih =>
      intro p9 ls hp9 hno hl
      refine lv_iload_n hx hb d_O_first_6 rfl (lv_at hl 0 rfl) ?_
      refine lv_aload_n hx hb d_O_first_7 rfl (lv_at hl 1 rfl) ?_
      refine va_get (D := D) (ci := 1) (v := .int (nI P)) (C := R_O) (T := T_O) (N := 17) hx hb hA inA_O hown hK hP 0 rfl rfl 4 (by decide) (hA _ wd_426) (fun _ h9 => h9) rfl d_O_first_8 ?_
      refine lv_icmp_ge (tgt := 43) hx hb d_O_first_11 (by decide) (fun h => absurd h (nI_ge (by omega) (by omega))) (fun h11 => ?_)
      refine lv_aload_n hx hb d_O_first_14 rfl (lv_at hl 1 rfl) ?_
      refine va_get (D := D) (ci := 1) (v := .ref (q 10)) (C := R_O) (T := T_O) (N := 17) hx hb hA inA_O hown hK hP 0 rfl rfl 14 (by decide) (hA _ wd_436) (fun _ h9 => h9) rfl d_O_first_15 ?_
      refine lv_iload_n hx hb d_O_first_18 rfl (lv_at hl 0 rfl) ?_
      refine xz_ald hx hb hK hP 10 rfl (by omega) (by decide) d_O_first_19 ?_
      refine lv_if_eq (tgt := 37) hx hb d_O_first_20 (by decide) (fun h20 => ?_) (fun h20 => ?_)
      · skip
        refine lv_iinc (v := nI (p9 + 1)) hx hb d_O_first_37 hl (k := 0) rfl (by rw [nI_succ]; rfl) (by decide) rfl (fun ls hl => ?_)
        have hl : lv_has ls 4 [(3, .int (nI (p9 + 1))), (0, .ref (q 0)), (1, .int i), (2, .int v)] := hl
        refine lv_goto (tgt := 6) hx hb d_O_first_40 (by decide) ?_
        exact ih (p9 + 1) _ (by omega) (lt_s hno (fun h => h.1 h20)) (lv_sub hl [0, 1, 2, 3] rfl)
      · skip
        refine lv_iload_n hx hb d_O_first_23 rfl (lv_at hl 2 rfl) ?_
        refine lv_if_lt (tgt := 43) hx hb d_O_first_24 (by decide) (fun h24 => ?_) (fun h24 => ?_)
        · skip
          refine lv_iload_n hx hb d_O_first_43 rfl (lv_at hl 0 rfl) ?_
          refine lv_aload_n hx hb d_O_first_44 rfl (lv_at hl 1 rfl) ?_
          refine va_get (D := D) (ci := 1) (v := .int (nI P)) (C := R_O) (T := T_O) (N := 17) hx hb hA inA_O hown hK hP 0 rfl rfl 4 (by decide) (hA _ wd_426) (fun _ h9 => h9) rfl d_O_first_45 ?_
          refine lv_icmp_ne (tgt := 55) hx hb d_O_first_48 (by decide) (fun h48 => ?_) (fun h => absurd h (fun h => absurd (nI_ne h (by omega) (by omega)) (by omega)))
          refine lv_iload_n hx hb d_O_first_55 rfl (lv_at hl 0 rfl) ?_
          exact eWi (n, P, rw, a, 1, an, lw, s1, sd, kd, pa, wd, ao, fo, uo, ho9, xo9) hx hb hr hlocks hP hK hD hS (⟨1, ho9, xo9, rfl, hlk, Or.inl ⟨p9, by omega, rfl, ⟨h20, Or.inl h24⟩, hno⟩, rfl⟩) d_O_first_56
        · skip
          refine lv_aload_n hx hb d_O_first_27 rfl (lv_at hl 1 rfl) ?_
          refine lv_iload_n hx hb d_O_first_28 rfl (lv_at hl 0 rfl) ?_
          refine lv_iload_n hx hb d_O_first_29 rfl (lv_at hl 2 rfl) ?_
          refine rV (n := 2) (rest := []) hx hb hml hown hA (o_valueIn l D q n P rw a 1 an lw s1 sd kd pa wd ao fo uo ho9 xo9 (nI p9) i (hiv h24).1 (hiv h24).2.1 (hiv h24).2.2) wv_O_125 ⟨by decide, by decide, by decide +kernel⟩ ⟨rfl, rfl, by decide, by decide⟩ rfl hl.1 ⟨Nat.le_of_ble_eq_true rfl, Nat.le_of_ble_eq_true rfl⟩ hP hK hD hN 0 1 rfl rfl rfl (Nat.le_of_ble_eq_true rfl) d_O_first_30 (fun r hr9 => ?_)
          subst hr9
          refine lv_iload_n hx hb d_O_first_33 rfl (lv_at hl 3 rfl) ?_
          refine lv_icmp_eq (tgt := 43) hx hb d_O_first_34 (by decide) (fun h34 => ?_) (fun h34 => ?_)
          · skip
            refine lv_iload_n hx hb d_O_first_43 rfl (lv_at hl 0 rfl) ?_
            refine lv_aload_n hx hb d_O_first_44 rfl (lv_at hl 1 rfl) ?_
            refine va_get (D := D) (ci := 1) (v := .int (nI P)) (C := R_O) (T := T_O) (N := 17) hx hb hA inA_O hown hK hP 0 rfl rfl 4 (by decide) (hA _ wd_426) (fun _ h9 => h9) rfl d_O_first_45 ?_
            refine lv_icmp_ne (tgt := 55) hx hb d_O_first_48 (by decide) (fun h48 => ?_) (fun h => absurd h (fun h => absurd (nI_ne h (by omega) (by omega)) (by omega)))
            refine lv_iload_n hx hb d_O_first_55 rfl (lv_at hl 0 rfl) ?_
            exact eWi (n, P, rw, a, 1, an, lw, s1, sd, kd, pa, wd, ao, fo, uo, ho9, xo9) hx hb hr hlocks hP hK hD hS (⟨1, ho9, xo9, rfl, hlk, Or.inl ⟨p9, by omega, rfl, ⟨h20, Or.inr h34⟩, hno⟩, rfl⟩) d_O_first_56
          · skip
            refine lv_iinc (v := nI (p9 + 1)) hx hb d_O_first_37 hl (k := 0) rfl (by rw [nI_succ]; rfl) (by decide) rfl (fun ls hl => ?_)
            have hl : lv_has ls 4 [(3, .int (nI (p9 + 1))), (0, .ref (q 0)), (1, .int i), (2, .int v)] := hl
            refine lv_goto (tgt := 6) hx hb d_O_first_40 (by decide) ?_
            exact ih (p9 + 1) _ (by omega) (lt_s hno (fun h => h.2.elim h24 h34)) (lv_sub hl [0, 1, 2, 3] rfl)
  exact loop P 0 _ (by omega) (fun p8 h => absurd h (by omega)) (lv_sub hl [0, 1, 2, 3] rfl)
end
