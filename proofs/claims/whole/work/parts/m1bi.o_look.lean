section
theorem ws_O_all : Cond.selects R_O y_O_all y_O_all ∈ cA := cA_in (List.mem_append_left _ (List.mem_of_getElem? (i := 22) (by decide +kernel))) rfl
theorem ws_O_valueIn : Cond.selects R_O y_O_valueIn y_O_valueIn ∈ cA := cA_in (List.mem_append_left _ (List.mem_of_getElem? (i := 21) (by decide +kernel))) rfl
theorem wv_O_128 : Cond.code y_O_all b_O_all 3 (some .boolean) ∈ cA ∧ Cond.initialized y_O_all.cls ∈ cA ∧ Cond.methodLink R_O 128 y_O_all ∈ cA ∧ Cond.instanceMethod y_O_all ∈ cA ∧ Cond.selects y_O_all.cls y_O_all y_O_all ∈ cA := ⟨wd_566, wd_3, wd_563, wd_565, ws_O_all⟩
theorem wv_O_125 : Cond.code y_O_valueIn b_O_valueIn 3 (some .int) ∈ cA ∧ Cond.initialized y_O_valueIn.cls ∈ cA ∧ Cond.methodLink R_O 125 y_O_valueIn ∈ cA ∧ Cond.instanceMethod y_O_valueIn ∈ cA ∧ Cond.selects y_O_valueIn.cls y_O_valueIn y_O_valueIn ∈ cA := ⟨wd_562, wd_3, wd_559, wd_561, ws_O_valueIn⟩
theorem d_O_look_0 : decode b_O_look 0 = .ok (.aload_n 0, 1) := by decide +kernel
theorem d_O_look_1 : decode b_O_look 1 = .ok (.getfield 52, 3) := by decide +kernel
theorem d_O_look_4 : decode b_O_look 4 = .ok (.ifCond .eq 4, 3) := by decide +kernel
theorem d_O_look_7 : decode b_O_look 7 = .ok (.return_, 1) := by decide +kernel
theorem d_O_look_8 : decode b_O_look 8 = .ok (.aload_n 0, 1) := by decide +kernel
theorem d_O_look_9 : decode b_O_look 9 = .ok (.iconst 1, 1) := by decide +kernel
theorem d_O_look_10 : decode b_O_look 10 = .ok (.putfield 52, 3) := by decide +kernel
theorem d_O_look_13 : decode b_O_look 13 = .ok (.iconst 0, 1) := by decide +kernel
theorem d_O_look_14 : decode b_O_look 14 = .ok (.istore_n 1, 1) := by decide +kernel
theorem d_O_look_15 : decode b_O_look 15 = .ok (.iload_n 1, 1) := by decide +kernel
theorem d_O_look_16 : decode b_O_look 16 = .ok (.aload_n 0, 1) := by decide +kernel
theorem d_O_look_17 : decode b_O_look 17 = .ok (.getfield 19, 3) := by decide +kernel
theorem d_O_look_20 : decode b_O_look 20 = .ok (.if_icmp .ge 47, 3) := by decide +kernel
theorem d_O_look_23 : decode b_O_look 23 = .ok (.iconst 0, 1) := by decide +kernel
theorem d_O_look_24 : decode b_O_look 24 = .ok (.istore_n 2, 1) := by decide +kernel
theorem d_O_look_25 : decode b_O_look 25 = .ok (.iload_n 2, 1) := by decide +kernel
theorem d_O_look_26 : decode b_O_look 26 = .ok (.aload_n 0, 1) := by decide +kernel
theorem d_O_look_27 : decode b_O_look 27 = .ok (.getfield 56, 3) := by decide +kernel
theorem d_O_look_30 : decode b_O_look 30 = .ok (.if_icmp .ge 21, 3) := by decide +kernel
theorem d_O_look_33 : decode b_O_look 33 = .ok (.aload_n 0, 1) := by decide +kernel
theorem d_O_look_34 : decode b_O_look 34 = .ok (.getfield 49, 3) := by decide +kernel
theorem d_O_look_37 : decode b_O_look 37 = .ok (.iload_n 2, 1) := by decide +kernel
theorem d_O_look_38 : decode b_O_look 38 = .ok (.aload_n 0, 1) := by decide +kernel
theorem d_O_look_39 : decode b_O_look 39 = .ok (.iload_n 1, 1) := by decide +kernel
theorem d_O_look_40 : decode b_O_look 40 = .ok (.iload_n 2, 1) := by decide +kernel
theorem d_O_look_41 : decode b_O_look 41 = .ok (.invokevirtual 125, 3) := by decide +kernel
theorem d_O_look_44 : decode b_O_look 44 = .ok (.iastore, 1) := by decide +kernel
theorem d_O_look_45 : decode b_O_look 45 = .ok (.iinc 2 1, 3) := by decide +kernel
theorem d_O_look_48 : decode b_O_look 48 = .ok (.goto (-23), 3) := by decide +kernel
theorem d_O_look_51 : decode b_O_look 51 = .ok (.aload_n 0, 1) := by decide +kernel
theorem d_O_look_52 : decode b_O_look 52 = .ok (.getfield 42, 3) := by decide +kernel
theorem d_O_look_55 : decode b_O_look 55 = .ok (.iload_n 1, 1) := by decide +kernel
theorem d_O_look_56 : decode b_O_look 56 = .ok (.aload_n 0, 1) := by decide +kernel
theorem d_O_look_57 : decode b_O_look 57 = .ok (.invokevirtual 128, 3) := by decide +kernel
theorem d_O_look_60 : decode b_O_look 60 = .ok (.bastore, 1) := by decide +kernel
theorem d_O_look_61 : decode b_O_look 61 = .ok (.iinc 1 1, 3) := by decide +kernel
theorem d_O_look_64 : decode b_O_look 64 = .ok (.goto (-49), 3) := by decide +kernel
theorem d_O_look_67 : decode b_O_look 67 = .ok (.return_, 1) := by decide +kernel
set_option maxRecDepth 100000 in
set_option maxHeartbeats 4000000 in
theorem o_look (l : Launch) (D : va_G) (q : Nat → Nat) (n P rw a : Nat) (kn an : Int32) (lw s1 sd kd pa : Nat → Int32) (wd : Nat → Int64) (ao fo uo ho xo : Nat → Int32) (sz : Nat) (hn : n ≤ 8) (ha : a ≤ 8) (hav : ∀ m, m < a → vp_in (ao m) 8) (hrw : rw ≤ 12) (hok : ∀ r, r < rw → rowOk (kd r) (oRow pa r)) (hP4 : P ≤ 4096) (hsd : ∀ i, i < n → ¬ sd i = 0 ∧ ¬ s1 i = 0) (hkn : lkP n P rw a lw s1 sd kd pa wd ao fo uo kn ho) : Met l y_O_look (wsm y_O_look b_O_look 3 none) { frames := 5, cells := 0, slots := 0, locals := 114 } (va_Pc [.ref (q 0)] (fun U => U.heap.size = sz ∧ cPre D (ow D q n P rw a kn an lw s1 sd kd pa wd ao fo uo ho xo) U)) (va_Qv (fun u : OS => ∃ (kn9 : Int32) (ho9 xo9 : Nat → Int32), kn9 = 1 ∧ (∀ p9, p9 < P → lkOk n rw a lw s1 sd kd pa wd ao fo uo ho9 p9) ∧ u = (n, P, rw, a, kn9, an, lw, s1, sd, kd, pa, wd, ao, fo, uo, ho9, xo9)) (fun u t => xB D (oW D q u) (va_A (ow D q n P rw a kn an lw s1 sd kd pa wd ao fo uo ho xo) sz) t) (va_A (ow D q n P rw a kn an lw s1 sd kd pa wd ao fo uo ho xo) sz)) 0 0 (va_A (ow D q n P rw a kn an lw s1 sd kd pa wd ao fo uo ho xo) sz) := by
  refine met_W (Qf := fun A => va_Qv (fun u : OS => ∃ (kn9 : Int32) (ho9 xo9 : Nat → Int32), kn9 = 1 ∧ (∀ p9, p9 < P → lkOk n rw a lw s1 sd kd pa wd ao fo uo ho9 p9) ∧ u = (n, P, rw, a, kn9, an, lw, s1, sd, kd, pa, wd, ao, fo, uo, ho9, xo9)) (fun u t => xB D (oW D q u) A t) A) (by decide) (Nat.le_of_ble_eq_true rfl) ?_
  intro p e s m below meth c ls A hx hb hr hlocks hml hown hin hA hP hK hD hN hl hS hAA
  have hown : s.vm.findClass R_O = some m.cls := hown
  have hl : lv_has ls 3 [(0, .ref (q 0))] := hl
  refine lv_aload_n hx hb d_O_look_0 rfl (lv_at hl 0 rfl) ?_
  refine va_get (D := D) (ci := 1) (v := .int kn) (C := R_O) (T := T_O) (N := 17) hx hb hA inA_O hown hK hP 0 rfl rfl 13 (by decide) (hA _ wd_435) (fun _ h9 => h9) rfl d_O_look_1 ?_
  refine lv_if_eq (tgt := 8) hx hb d_O_look_4 (by decide) (fun h4 => ?_) (fun h4 => ?_)
  · skip
    refine lv_aload_n hx hb d_O_look_8 rfl (lv_at hl 0 rfl) ?_
    refine lv_iconst (v := 1) hx hb d_O_look_9 (by decide) ?_
    refine va_put (D := D) (ci := 1) (v := .int 1) (ty := .boolean) (C := R_O) (T := T_O) (N := 17) hx hb hA inA_O ty_O tok_O nm_O hown hK hP hD hS 0 rfl rfl 13 (by decide) (hA _ wd_435) (fun _ h9 => h9) rfl (by decide +kernel) (by first | rfl | decide) (by first | rfl | decide) (Nat.le_of_ble_eq_true rfl) d_O_look_10 (fun H locs hP hD hS => ?_)
    have hP : va_P D vwCl (ow D q n P rw a 1 an lw s1 sd kd pa wd ao fo uo ho xo) H := hP
    have hD : va_D A (ow D q n P rw a 1 an lw s1 sd kd pa wd ao fo uo ho xo) := hD
    refine lv_iconst (v := 0) hx hb d_O_look_13 (by decide) ?_
    refine lv_istore_n hx hb d_O_look_14 rfl hl (by decide) rfl (fun ls hl => ?_)
    have hl : lv_has ls 3 [(1, .int 0), (0, .ref (q 0))] := hl
    have loop : ∀ (t p9 : Nat) (ho9 xo9 : Nat → Int32) (H : Heap) (locs : List Loc) (ls : Array Slot), p9 + t = P → (∀ p8, p8 < p9 → lkOk n rw a lw s1 sd kd pa wd ao fo uo ho9 p8) → lv_has ls 3 [(1, .int (nI p9)), (0, .ref (q 0))] → va_P D vwCl (ow D q n P rw a 1 an lw s1 sd kd pa wd ao fo uo ho9 xo9) H → va_D A (ow D q n P rw a 1 an lw s1 sd kd pa wd ao fo uo ho9 xo9) → va_S A s.heap H locs → W p l e { frames := 5, cells := 0, slots := 0, locals := 114 } s m [.ref (q 0)].toArray below meth c H locs 0 0 (MQ below (va_Qv (fun u : OS => ∃ (kn9 : Int32) (ho9 xo9 : Nat → Int32), kn9 = 1 ∧ (∀ p9, p9 < P → lkOk n rw a lw s1 sd kd pa wd ao fo uo ho9 p9) ∧ u = (n, P, rw, a, kn9, an, lw, s1, sd, kd, pa, wd, ao, fo, uo, ho9, xo9)) (fun u t => xB D (oW D q u) A t) A) [.ref (q 0)].toArray s 0 0 A) (F0 m 15 ls []) := by
      intro t
      induction t with
      | zero =>
        intro p9 ho9 xo9 H locs ls hp9 hlk hl hP hD hS
        refine lv_iload_n hx hb d_O_look_15 rfl (lv_at hl 0 rfl) ?_
        refine lv_aload_n hx hb d_O_look_16 rfl (lv_at hl 1 rfl) ?_
        refine va_get (D := D) (ci := 1) (v := .int (nI P)) (C := R_O) (T := T_O) (N := 17) hx hb hA inA_O hown hK hP 0 rfl rfl 4 (by decide) (hA _ wd_426) (fun _ h9 => h9) rfl d_O_look_17 ?_
        refine lv_icmp_ge (tgt := 67) hx hb d_O_look_20 (by decide) (fun h20 => ?_) (fun h => absurd (nI_le (by omega) (by omega)) h)
        exact eWv (n, P, rw, a, 1, an, lw, s1, sd, kd, pa, wd, ao, fo, uo, ho9, xo9) hx hb hr hlocks hP hK hD hS (⟨1, _, _, rfl, fun p8 h8 => hlk p8 (by omega), rfl⟩) d_O_look_67
      | succ t ih =>
        intro p9 ho9 xo9 H locs ls hp9 hlk hl hP hD hS
        refine lv_iload_n hx hb d_O_look_15 rfl (lv_at hl 0 rfl) ?_
        refine lv_aload_n hx hb d_O_look_16 rfl (lv_at hl 1 rfl) ?_
        refine va_get (D := D) (ci := 1) (v := .int (nI P)) (C := R_O) (T := T_O) (N := 17) hx hb hA inA_O hown hK hP 0 rfl rfl 4 (by decide) (hA _ wd_426) (fun _ h9 => h9) rfl d_O_look_17 ?_
        refine lv_icmp_ge (tgt := 67) hx hb d_O_look_20 (by decide) (fun h => absurd h (nI_ge (by omega) (by omega))) (fun h20 => ?_)
        refine lv_iconst (v := 0) hx hb d_O_look_23 (by decide) ?_
        refine lv_istore_n hx hb d_O_look_24 rfl hl (by decide) rfl (fun ls hl => ?_)
        have hl : lv_has ls 3 [(2, .int 0), (1, .int (nI p9)), (0, .ref (q 0))] := hl
        have inner : ∀ (t2 i9 : Nat) (xo8 : Nat → Int32) (H : Heap) (locs : List Loc) (ls : Array Slot), i9 + t2 = n → (∀ i, i < i9 → xo8 i = vIn lw s1 sd (nI p9) i) → lv_has ls 3 [(2, .int (nI i9)), (1, .int (nI p9)), (0, .ref (q 0))] → va_P D vwCl (ow D q n P rw a 1 an lw s1 sd kd pa wd ao fo uo ho9 xo8) H → va_D A (ow D q n P rw a 1 an lw s1 sd kd pa wd ao fo uo ho9 xo8) → va_S A s.heap H locs → W p l e { frames := 5, cells := 0, slots := 0, locals := 114 } s m [.ref (q 0)].toArray below meth c H locs 0 0 (MQ below (va_Qv (fun u : OS => ∃ (kn9 : Int32) (ho9 xo9 : Nat → Int32), kn9 = 1 ∧ (∀ p9, p9 < P → lkOk n rw a lw s1 sd kd pa wd ao fo uo ho9 p9) ∧ u = (n, P, rw, a, kn9, an, lw, s1, sd, kd, pa, wd, ao, fo, uo, ho9, xo9)) (fun u t => xB D (oW D q u) A t) A) [.ref (q 0)].toArray s 0 0 A) (F0 m 25 ls []) := by
          intro t2
          induction t2 with
          | zero =>
            intro i9 xo8 H locs ls hi9 hx9 hl hP hD hS
            refine lv_iload_n hx hb d_O_look_25 rfl (lv_at hl 0 rfl) ?_
            refine lv_aload_n hx hb d_O_look_26 rfl (lv_at hl 2 rfl) ?_
            refine va_get (D := D) (ci := 1) (v := .int (nI n)) (C := R_O) (T := T_O) (N := 17) hx hb hA inA_O hown hK hP 0 rfl rfl 0 (by decide) (hA _ wd_422) (fun _ h9 => h9) rfl d_O_look_27 ?_
            refine lv_icmp_ge (tgt := 51) hx hb d_O_look_30 (by decide) (fun h30 => ?_) (fun h => absurd (nI_le (by omega) (by omega)) h)
            refine lv_aload_n hx hb d_O_look_51 rfl (lv_at hl 2 rfl) ?_
            refine va_get (D := D) (ci := 1) (v := .ref (q 10)) (C := R_O) (T := T_O) (N := 17) hx hb hA inA_O hown hK hP 0 rfl rfl 14 (by decide) (hA _ wd_436) (fun _ h9 => h9) rfl d_O_look_52 ?_
            refine lv_iload_n hx hb d_O_look_55 rfl (lv_at hl 1 rfl) ?_
            refine lv_aload_n hx hb d_O_look_56 rfl (lv_at hl 2 rfl) ?_
            refine rV (n := 0) (rest := [.int (nI p9), .ref (q 10)]) hx hb hml hown hA (o_all l D q n P rw a 1 an lw s1 sd kd pa wd ao fo uo ho9 xo8 hn ha hav hrw hok) wv_O_128 ⟨by decide, by decide, by decide +kernel⟩ ⟨rfl, rfl, by decide, by decide⟩ rfl hl.1 ⟨Nat.le_of_ble_eq_true rfl, Nat.le_of_ble_eq_true rfl⟩ hP hK hD hN 0 1 rfl rfl rfl (Nat.le_of_ble_eq_true rfl) d_O_look_57 (fun r hr9 => ?_)
            rcases zb_c hr9 with ⟨rfl, h57⟩ | ⟨rfl, h57⟩
            · skip
              refine xz_ast hx hb hK hP hD hS 10 rfl (by first | rfl | decide) (by omega) (by decide) d_O_look_60 (fun H locs hP hD hS => ?_)
              have hP : va_P D vwCl (ow D q n P rw a 1 an lw s1 sd kd pa wd ao fo uo (upd ho9 p9 1) xo8) H := hP
              have hD : va_D A (ow D q n P rw a 1 an lw s1 sd kd pa wd ao fo uo (upd ho9 p9 1) xo8) := hD
              refine lv_iinc (v := nI (p9 + 1)) hx hb d_O_look_61 hl (k := 1) rfl (by rw [nI_succ]; rfl) (by decide) rfl (fun ls hl => ?_)
              have hl : lv_has ls 3 [(1, .int (nI (p9 + 1))), (2, .int (nI i9)), (0, .ref (q 0))] := hl
              refine lv_goto (tgt := 15) hx hb d_O_look_64 (by decide) ?_
              exact ih (p9 + 1) _ _ _ _ _ (by omega) (lk_s hlk (fun i hi => hx9 i (by omega)) (zb_t h57)) (lv_sub hl [0, 2] rfl) hP hD hS
            · skip
              refine xz_ast hx hb hK hP hD hS 10 rfl (by first | rfl | decide) (by omega) (by decide) d_O_look_60 (fun H locs hP hD hS => ?_)
              have hP : va_P D vwCl (ow D q n P rw a 1 an lw s1 sd kd pa wd ao fo uo (upd ho9 p9 0) xo8) H := hP
              have hD : va_D A (ow D q n P rw a 1 an lw s1 sd kd pa wd ao fo uo (upd ho9 p9 0) xo8) := hD
              refine lv_iinc (v := nI (p9 + 1)) hx hb d_O_look_61 hl (k := 1) rfl (by rw [nI_succ]; rfl) (by decide) rfl (fun ls hl => ?_)
              have hl : lv_has ls 3 [(1, .int (nI (p9 + 1))), (2, .int (nI i9)), (0, .ref (q 0))] := hl
              refine lv_goto (tgt := 15) hx hb d_O_look_64 (by decide) ?_
              exact ih (p9 + 1) _ _ _ _ _ (by omega) (lk_s hlk (fun i hi => hx9 i (by omega)) (zb_f h57)) (lv_sub hl [0, 2] rfl) hP hD hS
          | succ t2 ih2 =>
            intro i9 xo8 H locs ls hi9 hx9 hl hP hD hS
            refine lv_iload_n hx hb d_O_look_25 rfl (lv_at hl 0 rfl) ?_
            refine lv_aload_n hx hb d_O_look_26 rfl (lv_at hl 2 rfl) ?_
            refine va_get (D := D) (ci := 1) (v := .int (nI n)) (C := R_O) (T := T_O) (N := 17) hx hb hA inA_O hown hK hP 0 rfl rfl 0 (by decide) (hA _ wd_422) (fun _ h9 => h9) rfl d_O_look_27 ?_
            refine lv_icmp_ge (tgt := 51) hx hb d_O_look_30 (by decide) (fun h => absurd h (nI_ge (by omega) (by omega))) (fun h30 => ?_)
            refine lv_aload_n hx hb d_O_look_33 rfl (lv_at hl 2 rfl) ?_
            refine va_get (D := D) (ci := 1) (v := .ref (q 11)) (C := R_O) (T := T_O) (N := 17) hx hb hA inA_O hown hK hP 0 rfl rfl 16 (by decide) (hA _ wd_438) (fun _ h9 => h9) rfl d_O_look_34 ?_
            refine lv_iload_n hx hb d_O_look_37 rfl (lv_at hl 0 rfl) ?_
            refine lv_aload_n hx hb d_O_look_38 rfl (lv_at hl 2 rfl) ?_
            refine lv_iload_n hx hb d_O_look_39 rfl (lv_at hl 1 rfl) ?_
            refine lv_iload_n hx hb d_O_look_40 rfl (lv_at hl 0 rfl) ?_
            refine rV (n := 2) (rest := [.int (nI i9), .ref (q 11)]) hx hb hml hown hA (o_valueIn l D q n P rw a 1 an lw s1 sd kd pa wd ao fo uo ho9 xo8 (nI p9) (nI i9) (vp_in_nI (by omega) (by decide)) (by rw [nI_clamp (by omega)]; exact (hsd i9 (by omega)).1) (by rw [nI_clamp (by omega)]; exact (hsd i9 (by omega)).2)) wv_O_125 ⟨by decide, by decide, by decide +kernel⟩ ⟨rfl, rfl, by decide, by decide⟩ rfl hl.1 ⟨Nat.le_of_ble_eq_true rfl, Nat.le_of_ble_eq_true rfl⟩ hP hK hD hN 0 1 rfl rfl rfl (Nat.le_of_ble_eq_true rfl) d_O_look_41 (fun r hr9 => ?_)
            rw [nI_clamp (by omega)] at hr9
            subst hr9
            refine xi_ast hx hb hK hP hD hS 11 rfl (by omega) (by decide) d_O_look_44 (fun H locs hP hD hS => ?_)
            have hP : va_P D vwCl (ow D q n P rw a 1 an lw s1 sd kd pa wd ao fo uo ho9 (upd xo8 i9 (vIn lw s1 sd (nI p9) i9))) H := hP
            have hD : va_D A (ow D q n P rw a 1 an lw s1 sd kd pa wd ao fo uo ho9 (upd xo8 i9 (vIn lw s1 sd (nI p9) i9))) := hD
            refine lv_iinc (v := nI (i9 + 1)) hx hb d_O_look_45 hl (k := 0) rfl (by rw [nI_succ]; rfl) (by decide) rfl (fun ls hl => ?_)
            have hl : lv_has ls 3 [(2, .int (nI (i9 + 1))), (1, .int (nI p9)), (0, .ref (q 0))] := hl
            refine lv_goto (tgt := 25) hx hb d_O_look_48 (by decide) ?_
            exact ih2 (i9 + 1) _ _ _ _ (by omega) (up_s hx9) (lv_sub hl [0, 1, 2] rfl) hP hD hS
        exact inner n 0 _ _ _ _ (by omega) (fun i h => absurd h (by omega)) (lv_sub hl [0, 1, 2] rfl) hP hD hS
    exact loop P 0 ho xo _ _ _ (by omega) (fun p8 h => absurd h (by omega)) (lv_sub hl [0, 1] rfl) hP hD hS
  · skip
    exact eWv (n, P, rw, a, kn, an, lw, s1, sd, kd, pa, wd, ao, fo, uo, ho, xo) hx hb hr hlocks hP hK hD hS (⟨kn, ho, xo, hkn.1.resolve_left h4, hkn.2 h4, rfl⟩) d_O_look_7
end
