section
theorem ws_O_needed : Cond.selects R_O y_O_needed y_O_needed ∈ cA := cA_in (List.mem_append_left _ (List.mem_of_getElem? (i := 30) (by decide +kernel))) rfl
theorem wv_O_100 : Cond.code y_O_needed b_O_needed 7 (some .int) ∈ cA ∧ Cond.initialized y_O_needed.cls ∈ cA ∧ Cond.methodLink R_O 100 y_O_needed ∈ cA ∧ Cond.instanceMethod y_O_needed ∈ cA ∧ Cond.selects y_O_needed.cls y_O_needed y_O_needed ∈ cA := ⟨wd_598, wd_3, wd_595, wd_597, ws_O_needed⟩
theorem d_O_fits_0 : decode b_O_fits 0 = .ok (.iconst 1, 1) := by decide +kernel
theorem d_O_fits_1 : decode b_O_fits 1 = .ok (.istore_n 2, 1) := by decide +kernel
theorem d_O_fits_2 : decode b_O_fits 2 = .ok (.iconst 0, 1) := by decide +kernel
theorem d_O_fits_3 : decode b_O_fits 3 = .ok (.istore_n 3, 1) := by decide +kernel
theorem d_O_fits_4 : decode b_O_fits 4 = .ok (.iload_n 3, 1) := by decide +kernel
theorem d_O_fits_5 : decode b_O_fits 5 = .ok (.aload_n 0, 1) := by decide +kernel
theorem d_O_fits_6 : decode b_O_fits 6 = .ok (.getfield 56, 3) := by decide +kernel
theorem d_O_fits_9 : decode b_O_fits 9 = .ok (.if_icmp .ge 52, 3) := by decide +kernel
theorem d_O_fits_12 : decode b_O_fits 12 = .ok (.iload_n 2, 1) := by decide +kernel
theorem d_O_fits_13 : decode b_O_fits 13 = .ok (.ifCond .eq 40, 3) := by decide +kernel
theorem d_O_fits_16 : decode b_O_fits 16 = .ok (.aload_n 0, 1) := by decide +kernel
theorem d_O_fits_17 : decode b_O_fits 17 = .ok (.iload_n 1, 1) := by decide +kernel
theorem d_O_fits_18 : decode b_O_fits 18 = .ok (.iconst 0, 1) := by decide +kernel
theorem d_O_fits_19 : decode b_O_fits 19 = .ok (.invokevirtual 90, 3) := by decide +kernel
theorem d_O_fits_22 : decode b_O_fits 22 = .ok (.iload_n 3, 1) := by decide +kernel
theorem d_O_fits_23 : decode b_O_fits 23 = .ok (.ishr, 1) := by decide +kernel
theorem d_O_fits_24 : decode b_O_fits 24 = .ok (.iconst 1, 1) := by decide +kernel
theorem d_O_fits_25 : decode b_O_fits 25 = .ok (.iand, 1) := by decide +kernel
theorem d_O_fits_26 : decode b_O_fits 26 = .ok (.ifCond .eq 23, 3) := by decide +kernel
theorem d_O_fits_29 : decode b_O_fits 29 = .ok (.aload_n 0, 1) := by decide +kernel
theorem d_O_fits_30 : decode b_O_fits 30 = .ok (.iload_n 1, 1) := by decide +kernel
theorem d_O_fits_31 : decode b_O_fits 31 = .ok (.aload_n 0, 1) := by decide +kernel
theorem d_O_fits_32 : decode b_O_fits 32 = .ok (.getfield 49, 3) := by decide +kernel
theorem d_O_fits_35 : decode b_O_fits 35 = .ok (.iload_n 3, 1) := by decide +kernel
theorem d_O_fits_36 : decode b_O_fits 36 = .ok (.iaload, 1) := by decide +kernel
theorem d_O_fits_37 : decode b_O_fits 37 = .ok (.invokevirtual 100, 3) := by decide +kernel
theorem d_O_fits_40 : decode b_O_fits 40 = .ok (.aload_n 0, 1) := by decide +kernel
theorem d_O_fits_41 : decode b_O_fits 41 = .ok (.iload_n 1, 1) := by decide +kernel
theorem d_O_fits_42 : decode b_O_fits 42 = .ok (.iconst 1, 1) := by decide +kernel
theorem d_O_fits_43 : decode b_O_fits 43 = .ok (.invokevirtual 90, 3) := by decide +kernel
theorem d_O_fits_46 : decode b_O_fits 46 = .ok (.if_icmp .gt 7, 3) := by decide +kernel
theorem d_O_fits_49 : decode b_O_fits 49 = .ok (.iconst 1, 1) := by decide +kernel
theorem d_O_fits_50 : decode b_O_fits 50 = .ok (.goto 4, 3) := by decide +kernel
theorem d_O_fits_53 : decode b_O_fits 53 = .ok (.iconst 0, 1) := by decide +kernel
theorem d_O_fits_54 : decode b_O_fits 54 = .ok (.istore_n 2, 1) := by decide +kernel
theorem d_O_fits_55 : decode b_O_fits 55 = .ok (.iinc 3 1, 3) := by decide +kernel
theorem d_O_fits_58 : decode b_O_fits 58 = .ok (.goto (-54), 3) := by decide +kernel
theorem d_O_fits_61 : decode b_O_fits 61 = .ok (.iload_n 2, 1) := by decide +kernel
theorem d_O_fits_62 : decode b_O_fits 62 = .ok (.ireturn, 1) := by decide +kernel
set_option maxRecDepth 100000 in
set_option maxHeartbeats 4000000 in
theorem o_fits (l : Launch) (D : va_G) (q : Nat → Nat) (n P rw a : Nat) (kn an : Int32) (lw s1 sd kd pa : Nat → Int32) (wd : Nat → Int64) (ao fo uo ho xo : Nat → Int32) (j : Nat) (hj : j < 12) (hn : n ≤ 8) : Met l y_O_fits (wsm y_O_fits b_O_fits 4 (some .boolean)) { frames := 2, cells := 0, slots := 0, locals := 48 } (va_Pc [.ref (q 0), .int (nI j)] (cPre D (ow D q n P rw a kn an lw s1 sd kd pa wd ao fo uo ho xo))) (vp_Si (fun r => r = zb (decide (oFit n (oRow pa j 0) (oRow pa j 1) (wd (2 * j)) (wd (2 * j + 1)) xo)))) 0 0 (fun _ => False) := by
  refine met_R (by decide) (Nat.le_of_ble_eq_true rfl) ?_
  intro p e s m below meth c ls hx hb hr hlocks hml hown hin hA hP hK hD hN hl
  have hown : s.vm.findClass R_O = some m.cls := hown
  have hl : lv_has ls 4 [(0, .ref (q 0)), (1, .int (nI j))] := hl
  refine lv_iconst (v := 1) hx hb d_O_fits_0 (by decide) ?_
  refine lv_istore_n hx hb d_O_fits_1 rfl hl (by decide) rfl (fun ls hl => ?_)
  have hl : lv_has ls 4 [(2, .int 1), (0, .ref (q 0)), (1, .int (nI j))] := hl
  refine lv_iconst (v := 0) hx hb d_O_fits_2 (by decide) ?_
  refine lv_istore_n hx hb d_O_fits_3 rfl hl (by decide) rfl (fun ls hl => ?_)
  have hl : lv_has ls 4 [(3, .int 0), (2, .int 1), (0, .ref (q 0)), (1, .int (nI j))] := hl
  have loop : ∀ (t i : Nat) (g9 : Bool) (ls : Array Slot), i + t = n → (g9 = true ↔ True ∧ ∀ a9, a9 < i → oFi n (oRow pa j 0) (oRow pa j 1) (wd (2 * j)) (wd (2 * j + 1)) xo a9) → lv_has ls 4 [(3, .int (nI i)), (2, .int (zb g9)), (0, .ref (q 0)), (1, .int (nI j))] → W p l e { frames := 2, cells := 0, slots := 0, locals := 48 } s m [.ref (q 0), .int (nI j)].toArray below meth c s.heap [] 0 0 (MQ below (vp_Si (fun r => r = zb (decide (oFit n (oRow pa j 0) (oRow pa j 1) (wd (2 * j)) (wd (2 * j + 1)) xo)))) [.ref (q 0), .int (nI j)].toArray s 0 0 (fun _ => False)) (F0 m 4 ls []) := by
    intro t
    induction t with
    | zero =>
      intro i g9 ls hi hg hl
      refine lv_iload_n hx hb d_O_fits_4 rfl (lv_at hl 0 rfl) ?_
      refine lv_aload_n hx hb d_O_fits_5 rfl (lv_at hl 2 rfl) ?_
      refine va_get (D := D) (ci := 1) (v := .int (nI n)) (C := R_O) (T := T_O) (N := 17) hx hb hA inA_O hown hK hP 0 rfl rfl 0 (by decide) (hA _ wd_422) (fun _ h9 => h9) rfl d_O_fits_6 ?_
      refine lv_icmp_ge (tgt := 61) hx hb d_O_fits_9 (by decide) (fun h9 => ?_) (fun h => absurd (nI_le (by omega) (by omega)) h)
      refine lv_iload_n hx hb d_O_fits_61 rfl (lv_at hl 1 rfl) ?_
      exact eRz hx hb hr hlocks (zb_n _) (bl_e ⟨fun h => ((show i = n by omega) ▸ (hg.mp h).2), fun h => hg.mpr ⟨trivial, (show n = i by omega) ▸ h⟩⟩) d_O_fits_62
    | succ t ih =>
      intro i g9 ls hi hg hl
      refine lv_iload_n hx hb d_O_fits_4 rfl (lv_at hl 0 rfl) ?_
      refine lv_aload_n hx hb d_O_fits_5 rfl (lv_at hl 2 rfl) ?_
      refine va_get (D := D) (ci := 1) (v := .int (nI n)) (C := R_O) (T := T_O) (N := 17) hx hb hA inA_O hown hK hP 0 rfl rfl 0 (by decide) (hA _ wd_422) (fun _ h9 => h9) rfl d_O_fits_6 ?_
      refine lv_icmp_ge (tgt := 61) hx hb d_O_fits_9 (by decide) (fun h => absurd h (nI_ge (by omega) (by omega))) (fun h9 => ?_)
      rcases g9 with _ | _
      · skip
        have hl : lv_has ls 4 [(3, .int (nI i)), (2, .int 0), (0, .ref (q 0)), (1, .int (nI j))] := hl
        refine lv_iload_n hx hb d_O_fits_12 rfl (lv_at hl 1 rfl) ?_
        refine lv_if_eq (tgt := 53) hx hb d_O_fits_13 (by decide) (fun _ => ?_) (fun h => absurd h (by decide))
        refine lv_iconst (v := 0) hx hb d_O_fits_53 (by decide) ?_
        refine lv_istore_n hx hb d_O_fits_54 rfl hl (by decide) rfl (fun ls hl => ?_)
        have hl : lv_has ls 4 [(2, .int 0), (3, .int (nI i)), (0, .ref (q 0)), (1, .int (nI j))] := hl
        refine lv_iinc (v := nI (i + 1)) hx hb d_O_fits_55 hl (k := 1) rfl (by rw [nI_succ]; rfl) (by decide) rfl (fun ls hl => ?_)
        have hl : lv_has ls 4 [(3, .int (nI (i + 1))), (2, .int 0), (0, .ref (q 0)), (1, .int (nI j))] := hl
        refine lv_goto (tgt := 4) hx hb d_O_fits_58 (by decide) ?_
        exact ih (i + 1) false _ (by omega) (bl_k hg) (lv_sub hl [0, 1, 2, 3] rfl)
      · skip
        have hl : lv_has ls 4 [(3, .int (nI i)), (2, .int 1), (0, .ref (q 0)), (1, .int (nI j))] := hl
        refine lv_iload_n hx hb d_O_fits_12 rfl (lv_at hl 1 rfl) ?_
        refine lv_if_eq (tgt := 53) hx hb d_O_fits_13 (by decide) (fun h => absurd h (by decide)) (fun _ => ?_)
        refine lv_aload_n hx hb d_O_fits_16 rfl (lv_at hl 2 rfl) ?_
        refine lv_iload_n hx hb d_O_fits_17 rfl (lv_at hl 3 rfl) ?_
        refine lv_iconst (v := 0) hx hb d_O_fits_18 (by decide) ?_
        refine rV (n := 2) (rest := []) hx hb hml hown hA (o_of l D q n P rw a kn an lw s1 sd kd pa wd ao fo uo ho xo j 0 (by omega) (by omega)) wv_O_90 ⟨by decide, by decide, by decide +kernel⟩ ⟨rfl, rfl, by decide, by decide⟩ rfl hl.1 ⟨Nat.le_of_ble_eq_true rfl, Nat.le_of_ble_eq_true rfl⟩ hP hK hD hN 0 1 rfl rfl rfl (Nat.le_of_ble_eq_true rfl) d_O_fits_19 (fun r hr9 => ?_)
        subst hr9
        refine lv_iload_n hx hb d_O_fits_22 rfl (lv_at hl 0 rfl) ?_
        refine lv_ishr hx hb d_O_fits_23 ?_
        refine lv_iconst (v := 1) hx hb d_O_fits_24 (by decide) ?_
        refine lv_iand hx hb d_O_fits_25 ?_
        refine lv_if_eq (tgt := 49) hx hb d_O_fits_26 (by decide) (fun h26 => ?_) (fun h26 => ?_)
        · skip
          refine lv_iconst (v := 1) hx hb d_O_fits_49 (by decide) ?_
          refine lv_goto (tgt := 54) hx hb d_O_fits_50 (by decide) ?_
          refine lv_istore_n hx hb d_O_fits_54 rfl hl (by decide) rfl (fun ls hl => ?_)
          have hl : lv_has ls 4 [(2, .int 1), (3, .int (nI i)), (0, .ref (q 0)), (1, .int (nI j))] := hl
          refine lv_iinc (v := nI (i + 1)) hx hb d_O_fits_55 hl (k := 1) rfl (by rw [nI_succ]; rfl) (by decide) rfl (fun ls hl => ?_)
          have hl : lv_has ls 4 [(3, .int (nI (i + 1))), (2, .int 1), (0, .ref (q 0)), (1, .int (nI j))] := hl
          refine lv_goto (tgt := 4) hx hb d_O_fits_58 (by decide) ?_
          exact ih (i + 1) true _ (by omega) (bl_t hg (Or.inl h26)) (lv_sub hl [0, 1, 2, 3] rfl)
        · skip
          refine lv_aload_n hx hb d_O_fits_29 rfl (lv_at hl 2 rfl) ?_
          refine lv_iload_n hx hb d_O_fits_30 rfl (lv_at hl 3 rfl) ?_
          refine lv_aload_n hx hb d_O_fits_31 rfl (lv_at hl 2 rfl) ?_
          refine va_get (D := D) (ci := 1) (v := .ref (q 11)) (C := R_O) (T := T_O) (N := 17) hx hb hA inA_O hown hK hP 0 rfl rfl 16 (by decide) (hA _ wd_438) (fun _ h9 => h9) rfl d_O_fits_32 ?_
          refine lv_iload_n hx hb d_O_fits_35 rfl (lv_at hl 0 rfl) ?_
          refine xi_ald hx hb hK hP 11 rfl (by omega) (by decide) d_O_fits_36 ?_
          refine rV (n := 2) (rest := []) hx hb hml hown hA (o_needed l D q n P rw a kn an lw s1 sd kd pa wd ao fo uo ho xo j (xo i) hj hn) wv_O_100 ⟨by decide, by decide, by decide +kernel⟩ ⟨rfl, rfl, by decide, by decide⟩ rfl hl.1 ⟨Nat.le_of_ble_eq_true rfl, Nat.le_of_ble_eq_true rfl⟩ hP hK hD hN 0 1 rfl rfl rfl (Nat.le_of_ble_eq_true rfl) d_O_fits_37 (fun r hr9 => ?_)
          subst hr9
          refine lv_aload_n hx hb d_O_fits_40 rfl (lv_at hl 2 rfl) ?_
          refine lv_iload_n hx hb d_O_fits_41 rfl (lv_at hl 3 rfl) ?_
          refine lv_iconst (v := 1) hx hb d_O_fits_42 (by decide) ?_
          refine rV (n := 2) (rest := [.int (oNed (oRow pa j 0) (wd (2 * j)) (wd (2 * j + 1)) (xo i) xo n 0 0)]) hx hb hml hown hA (o_of l D q n P rw a kn an lw s1 sd kd pa wd ao fo uo ho xo j 1 (by omega) (by omega)) wv_O_90 ⟨by decide, by decide, by decide +kernel⟩ ⟨rfl, rfl, by decide, by decide⟩ rfl hl.1 ⟨Nat.le_of_ble_eq_true rfl, Nat.le_of_ble_eq_true rfl⟩ hP hK hD hN 0 1 rfl rfl rfl (Nat.le_of_ble_eq_true rfl) d_O_fits_43 (fun r hr9 => ?_)
          subst hr9
          refine lv_icmp_gt (tgt := 53) hx hb d_O_fits_46 (by decide) (fun h46 => ?_) (fun h46 => ?_)
          · skip
            refine lv_iconst (v := 0) hx hb d_O_fits_53 (by decide) ?_
            refine lv_istore_n hx hb d_O_fits_54 rfl hl (by decide) rfl (fun ls hl => ?_)
            have hl : lv_has ls 4 [(2, .int 0), (3, .int (nI i)), (0, .ref (q 0)), (1, .int (nI j))] := hl
            refine lv_iinc (v := nI (i + 1)) hx hb d_O_fits_55 hl (k := 1) rfl (by rw [nI_succ]; rfl) (by decide) rfl (fun ls hl => ?_)
            have hl : lv_has ls 4 [(3, .int (nI (i + 1))), (2, .int 0), (0, .ref (q 0)), (1, .int (nI j))] := hl
            refine lv_goto (tgt := 4) hx hb d_O_fits_58 (by decide) ?_
            exact ih (i + 1) false _ (by omega) (bl_f (fun h => h.elim h26 (fun h => h h46))) (lv_sub hl [0, 1, 2, 3] rfl)
          · skip
            refine lv_iconst (v := 1) hx hb d_O_fits_49 (by decide) ?_
            refine lv_goto (tgt := 54) hx hb d_O_fits_50 (by decide) ?_
            refine lv_istore_n hx hb d_O_fits_54 rfl hl (by decide) rfl (fun ls hl => ?_)
            have hl : lv_has ls 4 [(2, .int 1), (3, .int (nI i)), (0, .ref (q 0)), (1, .int (nI j))] := hl
            refine lv_iinc (v := nI (i + 1)) hx hb d_O_fits_55 hl (k := 1) rfl (by rw [nI_succ]; rfl) (by decide) rfl (fun ls hl => ?_)
            have hl : lv_has ls 4 [(3, .int (nI (i + 1))), (2, .int 1), (0, .ref (q 0)), (1, .int (nI j))] := hl
            refine lv_goto (tgt := 4) hx hb d_O_fits_58 (by decide) ?_
            exact ih (i + 1) true _ (by omega) (bl_t hg (Or.inr h46)) (lv_sub hl [0, 1, 2, 3] rfl)
  exact loop n 0 true _ (by omega) ⟨fun _ => ⟨trivial, fun a h => absurd h (by omega)⟩, fun _ => rfl⟩ (lv_sub hl [0, 1, 2, 3] rfl)
end
