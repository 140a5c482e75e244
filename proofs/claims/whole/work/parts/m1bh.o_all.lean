section
theorem ws_O_satisfied : Cond.selects R_O y_O_satisfied y_O_satisfied ∈ cA := cA_in (List.mem_append_left _ (List.mem_of_getElem? (i := 23) (by decide +kernel))) rfl
theorem wv_O_122 : Cond.code y_O_satisfied b_O_satisfied 2 (some .boolean) ∈ cA ∧ Cond.initialized y_O_satisfied.cls ∈ cA ∧ Cond.methodLink R_O 122 y_O_satisfied ∈ cA ∧ Cond.instanceMethod y_O_satisfied ∈ cA ∧ Cond.selects y_O_satisfied.cls y_O_satisfied y_O_satisfied ∈ cA := ⟨wd_570, wd_3, wd_567, wd_569, ws_O_satisfied⟩
theorem d_O_all_0 : decode b_O_all 0 = .ok (.iconst 0, 1) := by decide +kernel
theorem d_O_all_1 : decode b_O_all 1 = .ok (.istore_n 1, 1) := by decide +kernel
theorem d_O_all_2 : decode b_O_all 2 = .ok (.iload_n 1, 1) := by decide +kernel
theorem d_O_all_3 : decode b_O_all 3 = .ok (.aload_n 0, 1) := by decide +kernel
theorem d_O_all_4 : decode b_O_all 4 = .ok (.getfield 87, 3) := by decide +kernel
theorem d_O_all_7 : decode b_O_all 7 = .ok (.if_icmp .ge 43, 3) := by decide +kernel
theorem d_O_all_10 : decode b_O_all 10 = .ok (.aload_n 0, 1) := by decide +kernel
theorem d_O_all_11 : decode b_O_all 11 = .ok (.getfield 49, 3) := by decide +kernel
theorem d_O_all_14 : decode b_O_all 14 = .ok (.aload_n 0, 1) := by decide +kernel
theorem d_O_all_15 : decode b_O_all 15 = .ok (.getfield 33, 3) := by decide +kernel
theorem d_O_all_18 : decode b_O_all 18 = .ok (.iload_n 1, 1) := by decide +kernel
theorem d_O_all_19 : decode b_O_all 19 = .ok (.iaload, 1) := by decide +kernel
theorem d_O_all_20 : decode b_O_all 20 = .ok (.iaload, 1) := by decide +kernel
theorem d_O_all_21 : decode b_O_all 21 = .ok (.istore_n 2, 1) := by decide +kernel
theorem d_O_all_22 : decode b_O_all 22 = .ok (.iload_n 2, 1) := by decide +kernel
theorem d_O_all_23 : decode b_O_all 23 = .ok (.aload_n 0, 1) := by decide +kernel
theorem d_O_all_24 : decode b_O_all 24 = .ok (.getfield 36, 3) := by decide +kernel
theorem d_O_all_27 : decode b_O_all 27 = .ok (.iload_n 1, 1) := by decide +kernel
theorem d_O_all_28 : decode b_O_all 28 = .ok (.iaload, 1) := by decide +kernel
theorem d_O_all_29 : decode b_O_all 29 = .ok (.if_icmp .lt 13, 3) := by decide +kernel
theorem d_O_all_32 : decode b_O_all 32 = .ok (.iload_n 2, 1) := by decide +kernel
theorem d_O_all_33 : decode b_O_all 33 = .ok (.aload_n 0, 1) := by decide +kernel
theorem d_O_all_34 : decode b_O_all 34 = .ok (.getfield 39, 3) := by decide +kernel
theorem d_O_all_37 : decode b_O_all 37 = .ok (.iload_n 1, 1) := by decide +kernel
theorem d_O_all_38 : decode b_O_all 38 = .ok (.iaload, 1) := by decide +kernel
theorem d_O_all_39 : decode b_O_all 39 = .ok (.if_icmp .le 5, 3) := by decide +kernel
theorem d_O_all_42 : decode b_O_all 42 = .ok (.iconst 0, 1) := by decide +kernel
theorem d_O_all_43 : decode b_O_all 43 = .ok (.ireturn, 1) := by decide +kernel
theorem d_O_all_44 : decode b_O_all 44 = .ok (.iinc 1 1, 3) := by decide +kernel
theorem d_O_all_47 : decode b_O_all 47 = .ok (.goto (-45), 3) := by decide +kernel
theorem d_O_all_50 : decode b_O_all 50 = .ok (.iconst 0, 1) := by decide +kernel
theorem d_O_all_51 : decode b_O_all 51 = .ok (.istore_n 1, 1) := by decide +kernel
theorem d_O_all_52 : decode b_O_all 52 = .ok (.iload_n 1, 1) := by decide +kernel
theorem d_O_all_53 : decode b_O_all 53 = .ok (.aload_n 0, 1) := by decide +kernel
theorem d_O_all_54 : decode b_O_all 54 = .ok (.getfield 66, 3) := by decide +kernel
theorem d_O_all_57 : decode b_O_all 57 = .ok (.if_icmp .ge 19, 3) := by decide +kernel
theorem d_O_all_60 : decode b_O_all 60 = .ok (.aload_n 0, 1) := by decide +kernel
theorem d_O_all_61 : decode b_O_all 61 = .ok (.iload_n 1, 1) := by decide +kernel
theorem d_O_all_62 : decode b_O_all 62 = .ok (.invokevirtual 122, 3) := by decide +kernel
theorem d_O_all_65 : decode b_O_all 65 = .ok (.ifCond .ne 5, 3) := by decide +kernel
theorem d_O_all_68 : decode b_O_all 68 = .ok (.iconst 0, 1) := by decide +kernel
theorem d_O_all_69 : decode b_O_all 69 = .ok (.ireturn, 1) := by decide +kernel
theorem d_O_all_70 : decode b_O_all 70 = .ok (.iinc 1 1, 3) := by decide +kernel
theorem d_O_all_73 : decode b_O_all 73 = .ok (.goto (-21), 3) := by decide +kernel
theorem d_O_all_76 : decode b_O_all 76 = .ok (.iconst 1, 1) := by decide +kernel
theorem d_O_all_77 : decode b_O_all 77 = .ok (.ireturn, 1) := by decide +kernel
set_option maxRecDepth 100000 in
set_option maxHeartbeats 4000000 in
theorem o_all (l : Launch) (D : va_G) (q : Nat → Nat) (n P rw a : Nat) (kn an : Int32) (lw s1 sd kd pa : Nat → Int32) (wd : Nat → Int64) (ao fo uo ho xo : Nat → Int32) (hn : n ≤ 8) (ha : a ≤ 8) (hav : ∀ m, m < a → vp_in (ao m) 8) (hrw : rw ≤ 12) (hok : ∀ r, r < rw → rowOk (kd r) (oRow pa r)) : Met l y_O_all (wsm y_O_all b_O_all 3 (some .boolean)) { frames := 4, cells := 0, slots := 0, locals := 92 } (va_Pc [.ref (q 0)] (cPre D (ow D q n P rw a kn an lw s1 sd kd pa wd ao fo uo ho xo))) (vp_Si (fun r => r = zb (decide (oAll n rw a kd pa wd ao fo uo xo)))) 0 0 (fun _ => False) := by
  refine met_R (by decide) (Nat.le_of_ble_eq_true rfl) ?_
  intro p e s m below meth c ls hx hb hr hlocks hml hown hin hA hP hK hD hN hl
  have hown : s.vm.findClass R_O = some m.cls := hown
  have hl : lv_has ls 3 [(0, .ref (q 0))] := hl
  refine lv_iconst (v := 0) hx hb d_O_all_0 (by decide) ?_
  refine lv_istore_n hx hb d_O_all_1 rfl hl (by decide) rfl (fun ls hl => ?_)
  have hl : lv_has ls 3 [(1, .int 0), (0, .ref (q 0))] := hl
  have loop : ∀ (t j : Nat) (ls : Array Slot), j + t = a → (∀ m, m < j → asok ao fo uo xo m) → lv_has ls 3 [(1, .int (nI j)), (0, .ref (q 0))] → W p l e { frames := 4, cells := 0, slots := 0, locals := 92 } s m [.ref (q 0)].toArray below meth c s.heap [] 0 0 (MQ below (vp_Si (fun r => r = zb (decide (oAll n rw a kd pa wd ao fo uo xo)))) [.ref (q 0)].toArray s 0 0 (fun _ => False)) (F0 m 2 ls []) := by
    intro t
    induction t with
    | zero =>
      intro j ls hj hok1 hl
      refine lv_iload_n hx hb d_O_all_2 rfl (lv_at hl 0 rfl) ?_
      refine lv_aload_n hx hb d_O_all_3 rfl (lv_at hl 1 rfl) ?_
      refine va_get (D := D) (ci := 1) (v := .int (nI a)) (C := R_O) (T := T_O) (N := 17) hx hb hA inA_O hown hK hP 0 rfl rfl 9 (by decide) (hA _ wd_431) (fun _ h9 => h9) rfl d_O_all_4 ?_
      refine lv_icmp_ge (tgt := 50) hx hb d_O_all_7 (by decide) (fun h7 => ?_) (fun h => absurd (nI_le (by omega) (by omega)) h)
      refine lv_iconst (v := 0) hx hb d_O_all_50 (by decide) ?_
      refine lv_istore_n hx hb d_O_all_51 rfl hl (by decide) rfl (fun ls hl => ?_)
      have hl : lv_has ls 3 [(1, .int 0), (0, .ref (q 0))] := hl
      have loop2 : ∀ (t2 i : Nat) (ls : Array Slot), i + t2 = rw → (∀ r9, r9 < i → oSr n kd pa wd xo r9 = true) → lv_has ls 3 [(1, .int (nI i)), (0, .ref (q 0))] → W p l e { frames := 4, cells := 0, slots := 0, locals := 92 } s m [.ref (q 0)].toArray below meth c s.heap [] 0 0 (MQ below (vp_Si (fun r => r = zb (decide (oAll n rw a kd pa wd ao fo uo xo)))) [.ref (q 0)].toArray s 0 0 (fun _ => False)) (F0 m 52 ls []) := by
        intro t2
        induction t2 with
        | zero =>
          intro i ls hi hok2 hl
          refine lv_iload_n hx hb d_O_all_52 rfl (lv_at hl 0 rfl) ?_
          refine lv_aload_n hx hb d_O_all_53 rfl (lv_at hl 1 rfl) ?_
          refine va_get (D := D) (ci := 1) (v := .int (nI rw)) (C := R_O) (T := T_O) (N := 17) hx hb hA inA_O hown hK hP 0 rfl rfl 5 (by decide) (hA _ wd_427) (fun _ h9 => h9) rfl d_O_all_54 ?_
          refine lv_icmp_ge (tgt := 76) hx hb d_O_all_57 (by decide) (fun h57 => ?_) (fun h => absurd (nI_le (by omega) (by omega)) h)
          refine lv_iconst (v := 1) hx hb d_O_all_76 (by decide) ?_
          exact eRz hx hb hr hlocks (by first | rfl | decide) (zb_t ⟨fun m hm => hok1 m (by omega), fun r9 h9 => hok2 r9 (by omega)⟩) d_O_all_77
        | succ t2 ih2 =>
          intro i ls hi hok2 hl
          refine lv_iload_n hx hb d_O_all_52 rfl (lv_at hl 0 rfl) ?_
          refine lv_aload_n hx hb d_O_all_53 rfl (lv_at hl 1 rfl) ?_
          refine va_get (D := D) (ci := 1) (v := .int (nI rw)) (C := R_O) (T := T_O) (N := 17) hx hb hA inA_O hown hK hP 0 rfl rfl 5 (by decide) (hA _ wd_427) (fun _ h9 => h9) rfl d_O_all_54 ?_
          refine lv_icmp_ge (tgt := 76) hx hb d_O_all_57 (by decide) (fun h => absurd h (nI_ge (by omega) (by omega))) (fun h57 => ?_)
          refine lv_aload_n hx hb d_O_all_60 rfl (lv_at hl 1 rfl) ?_
          refine lv_iload_n hx hb d_O_all_61 rfl (lv_at hl 0 rfl) ?_
          refine rV (n := 1) (rest := []) hx hb hml hown hA (o_satisfied l D q n P rw a kn an lw s1 sd kd pa wd ao fo uo ho xo i (by omega) hn (hok i (by omega))) wv_O_122 ⟨by decide, by decide, by decide +kernel⟩ ⟨rfl, rfl, by decide, by decide⟩ rfl hl.1 ⟨Nat.le_of_ble_eq_true rfl, Nat.le_of_ble_eq_true rfl⟩ hP hK hD hN 0 1 rfl rfl rfl (Nat.le_of_ble_eq_true rfl) d_O_all_62 (fun r hr9 => ?_)
          rcases zb_cb hr9 with ⟨rfl, h62⟩ | ⟨rfl, h62⟩
          · skip
            refine lv_if_ne (tgt := 70) hx hb d_O_all_65 (by decide) (fun _ => ?_) (fun h => absurd h (by decide))
            refine lv_iinc (v := nI (i + 1)) hx hb d_O_all_70 hl (k := 0) rfl (by rw [nI_succ]; rfl) (by decide) rfl (fun ls hl => ?_)
            have hl : lv_has ls 3 [(1, .int (nI (i + 1))), (0, .ref (q 0))] := hl
            refine lv_goto (tgt := 52) hx hb d_O_all_73 (by decide) ?_
            exact ih2 (i + 1) _ (by omega) (lt_s hok2 h62) (lv_sub hl [0, 1] rfl)
          · skip
            refine lv_if_ne (tgt := 70) hx hb d_O_all_65 (by decide) (fun h => absurd h (by decide)) (fun _ => ?_)
            refine lv_iconst (v := 0) hx hb d_O_all_68 (by decide) ?_
            exact eRz hx hb hr hlocks (by first | rfl | decide) (zb_f (fun h => absurd (h.2 i (by omega)) (by rw [h62]; decide))) d_O_all_69
      exact loop2 rw 0 _ (by omega) (fun m h => absurd h (by omega)) (lv_sub hl [0, 1] rfl)
    | succ t ih =>
      intro j ls hj hok1 hl
      refine lv_iload_n hx hb d_O_all_2 rfl (lv_at hl 0 rfl) ?_
      refine lv_aload_n hx hb d_O_all_3 rfl (lv_at hl 1 rfl) ?_
      refine va_get (D := D) (ci := 1) (v := .int (nI a)) (C := R_O) (T := T_O) (N := 17) hx hb hA inA_O hown hK hP 0 rfl rfl 9 (by decide) (hA _ wd_431) (fun _ h9 => h9) rfl d_O_all_4 ?_
      refine lv_icmp_ge (tgt := 50) hx hb d_O_all_7 (by decide) (fun h => absurd h (nI_ge (by omega) (by omega))) (fun h7 => ?_)
      refine lv_aload_n hx hb d_O_all_10 rfl (lv_at hl 1 rfl) ?_
      refine va_get (D := D) (ci := 1) (v := .ref (q 11)) (C := R_O) (T := T_O) (N := 17) hx hb hA inA_O hown hK hP 0 rfl rfl 16 (by decide) (hA _ wd_438) (fun _ h9 => h9) rfl d_O_all_11 ?_
      refine lv_aload_n hx hb d_O_all_14 rfl (lv_at hl 1 rfl) ?_
      refine va_get (D := D) (ci := 1) (v := .ref (q 7)) (C := R_O) (T := T_O) (N := 17) hx hb hA inA_O hown hK hP 0 rfl rfl 10 (by decide) (hA _ wd_432) (fun _ h9 => h9) rfl d_O_all_15 ?_
      refine lv_iload_n hx hb d_O_all_18 rfl (lv_at hl 0 rfl) ?_
      refine xi_ald hx hb hK hP 7 rfl (by omega) (by decide) d_O_all_19 ?_
      refine va_iald hx hb hK hP 11 0 rfl rfl (hav j (by omega)) d_O_all_20 ?_
      refine lv_istore_n hx hb d_O_all_21 rfl hl (by decide) rfl (fun ls hl => ?_)
      have hl : lv_has ls 3 [(2, .int (xo (ao j).toNatClampNeg)), (1, .int (nI j)), (0, .ref (q 0))] := hl
      refine lv_iload_n hx hb d_O_all_22 rfl (lv_at hl 0 rfl) ?_
      refine lv_aload_n hx hb d_O_all_23 rfl (lv_at hl 2 rfl) ?_
      refine va_get (D := D) (ci := 1) (v := .ref (q 8)) (C := R_O) (T := T_O) (N := 17) hx hb hA inA_O hown hK hP 0 rfl rfl 11 (by decide) (hA _ wd_433) (fun _ h9 => h9) rfl d_O_all_24 ?_
      refine lv_iload_n hx hb d_O_all_27 rfl (lv_at hl 1 rfl) ?_
      refine xi_ald hx hb hK hP 8 rfl (by omega) (by decide) d_O_all_28 ?_
      refine lv_icmp_lt (tgt := 42) hx hb d_O_all_29 (by decide) (fun h29 => ?_) (fun h29 => ?_)
      · skip
        refine lv_iconst (v := 0) hx hb d_O_all_42 (by decide) ?_
        exact eRz hx hb hr hlocks (by first | rfl | decide) (zb_f (fun h => (h.1 j (by omega)).1 h29)) d_O_all_43
      · skip
        refine lv_iload_n hx hb d_O_all_32 rfl (lv_at hl 0 rfl) ?_
        refine lv_aload_n hx hb d_O_all_33 rfl (lv_at hl 2 rfl) ?_
        refine va_get (D := D) (ci := 1) (v := .ref (q 9)) (C := R_O) (T := T_O) (N := 17) hx hb hA inA_O hown hK hP 0 rfl rfl 12 (by decide) (hA _ wd_434) (fun _ h9 => h9) rfl d_O_all_34 ?_
        refine lv_iload_n hx hb d_O_all_37 rfl (lv_at hl 1 rfl) ?_
        refine xi_ald hx hb hK hP 9 rfl (by omega) (by decide) d_O_all_38 ?_
        refine lv_icmp_le (tgt := 44) hx hb d_O_all_39 (by decide) (fun h39 => ?_) (fun h39 => ?_)
        · skip
          refine lv_iinc (v := nI (j + 1)) hx hb d_O_all_44 hl (k := 1) rfl (by rw [nI_succ]; rfl) (by decide) rfl (fun ls hl => ?_)
          have hl : lv_has ls 3 [(1, .int (nI (j + 1))), (2, .int (xo (ao j).toNatClampNeg)), (0, .ref (q 0))] := hl
          refine lv_goto (tgt := 2) hx hb d_O_all_47 (by decide) ?_
          exact ih (j + 1) _ (by omega) (lt_s hok1 ⟨h29, h39⟩) (lv_sub hl [0, 2] rfl)
        · skip
          refine lv_iconst (v := 0) hx hb d_O_all_42 (by decide) ?_
          exact eRz hx hb hr hlocks (by first | rfl | decide) (zb_f (fun h => h39 (h.1 j (by omega)).2)) d_O_all_43
  exact loop a 0 _ (by omega) (fun m h => absurd h (by omega)) (lv_sub hl [0, 1] rfl)
end
