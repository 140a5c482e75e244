section
theorem d_O_differ_0 : decode b_O_differ 0 = .ok (.iconst 1, 1) := by decide +kernel
theorem d_O_differ_1 : decode b_O_differ 1 = .ok (.istore_n 2, 1) := by decide +kernel
theorem d_O_differ_2 : decode b_O_differ 2 = .ok (.iconst 0, 1) := by decide +kernel
theorem d_O_differ_3 : decode b_O_differ 3 = .ok (.istore_n 3, 1) := by decide +kernel
theorem d_O_differ_4 : decode b_O_differ 4 = .ok (.iload_n 3, 1) := by decide +kernel
theorem d_O_differ_5 : decode b_O_differ 5 = .ok (.aload_n 0, 1) := by decide +kernel
theorem d_O_differ_6 : decode b_O_differ 6 = .ok (.getfield 56, 3) := by decide +kernel
theorem d_O_differ_9 : decode b_O_differ 9 = .ok (.if_icmp .ge 81, 3) := by decide +kernel
theorem d_O_differ_12 : decode b_O_differ 12 = .ok (.iconst 0, 1) := by decide +kernel
theorem d_O_differ_13 : decode b_O_differ 13 = .ok (.istore 4, 2) := by decide +kernel
theorem d_O_differ_15 : decode b_O_differ 15 = .ok (.iload 4, 2) := by decide +kernel
theorem d_O_differ_17 : decode b_O_differ 17 = .ok (.iload_n 3, 1) := by decide +kernel
theorem d_O_differ_18 : decode b_O_differ 18 = .ok (.if_icmp .ge 66, 3) := by decide +kernel
theorem d_O_differ_21 : decode b_O_differ 21 = .ok (.iload_n 1, 1) := by decide +kernel
theorem d_O_differ_22 : decode b_O_differ 22 = .ok (.iload_n 3, 1) := by decide +kernel
theorem d_O_differ_23 : decode b_O_differ 23 = .ok (.ishr, 1) := by decide +kernel
theorem d_O_differ_24 : decode b_O_differ 24 = .ok (.iconst 1, 1) := by decide +kernel
theorem d_O_differ_25 : decode b_O_differ 25 = .ok (.iand, 1) := by decide +kernel
theorem d_O_differ_26 : decode b_O_differ 26 = .ok (.iconst 1, 1) := by decide +kernel
theorem d_O_differ_27 : decode b_O_differ 27 = .ok (.if_icmp .ne 17, 3) := by decide +kernel
theorem d_O_differ_30 : decode b_O_differ 30 = .ok (.iload_n 1, 1) := by decide +kernel
theorem d_O_differ_31 : decode b_O_differ 31 = .ok (.iload 4, 2) := by decide +kernel
theorem d_O_differ_33 : decode b_O_differ 33 = .ok (.ishr, 1) := by decide +kernel
theorem d_O_differ_34 : decode b_O_differ 34 = .ok (.iconst 1, 1) := by decide +kernel
theorem d_O_differ_35 : decode b_O_differ 35 = .ok (.iand, 1) := by decide +kernel
theorem d_O_differ_36 : decode b_O_differ 36 = .ok (.iconst 1, 1) := by decide +kernel
theorem d_O_differ_37 : decode b_O_differ 37 = .ok (.if_icmp .ne 7, 3) := by decide +kernel
theorem d_O_differ_40 : decode b_O_differ 40 = .ok (.iconst 1, 1) := by decide +kernel
theorem d_O_differ_41 : decode b_O_differ 41 = .ok (.goto 4, 3) := by decide +kernel
theorem d_O_differ_44 : decode b_O_differ 44 = .ok (.iconst 0, 1) := by decide +kernel
theorem d_O_differ_45 : decode b_O_differ 45 = .ok (.istore 5, 2) := by decide +kernel
theorem d_O_differ_47 : decode b_O_differ 47 = .ok (.iload_n 2, 1) := by decide +kernel
theorem d_O_differ_48 : decode b_O_differ 48 = .ok (.ifCond .eq 28, 3) := by decide +kernel
theorem d_O_differ_51 : decode b_O_differ 51 = .ok (.iload 5, 2) := by decide +kernel
theorem d_O_differ_53 : decode b_O_differ 53 = .ok (.ifCond .eq 19, 3) := by decide +kernel
theorem d_O_differ_56 : decode b_O_differ 56 = .ok (.aload_n 0, 1) := by decide +kernel
theorem d_O_differ_57 : decode b_O_differ 57 = .ok (.getfield 49, 3) := by decide +kernel
theorem d_O_differ_60 : decode b_O_differ 60 = .ok (.iload_n 3, 1) := by decide +kernel
theorem d_O_differ_61 : decode b_O_differ 61 = .ok (.iaload, 1) := by decide +kernel
theorem d_O_differ_62 : decode b_O_differ 62 = .ok (.aload_n 0, 1) := by decide +kernel
theorem d_O_differ_63 : decode b_O_differ 63 = .ok (.getfield 49, 3) := by decide +kernel
theorem d_O_differ_66 : decode b_O_differ 66 = .ok (.iload 4, 2) := by decide +kernel
theorem d_O_differ_68 : decode b_O_differ 68 = .ok (.iaload, 1) := by decide +kernel
theorem d_O_differ_69 : decode b_O_differ 69 = .ok (.if_icmp .eq 7, 3) := by decide +kernel
theorem d_O_differ_72 : decode b_O_differ 72 = .ok (.iconst 1, 1) := by decide +kernel
theorem d_O_differ_73 : decode b_O_differ 73 = .ok (.goto 4, 3) := by decide +kernel
theorem d_O_differ_76 : decode b_O_differ 76 = .ok (.iconst 0, 1) := by decide +kernel
theorem d_O_differ_77 : decode b_O_differ 77 = .ok (.istore_n 2, 1) := by decide +kernel
theorem d_O_differ_78 : decode b_O_differ 78 = .ok (.iinc 4 1, 3) := by decide +kernel
theorem d_O_differ_81 : decode b_O_differ 81 = .ok (.goto (-66), 3) := by decide +kernel
theorem d_O_differ_84 : decode b_O_differ 84 = .ok (.iinc 3 1, 3) := by decide +kernel
theorem d_O_differ_87 : decode b_O_differ 87 = .ok (.goto (-83), 3) := by decide +kernel
theorem d_O_differ_90 : decode b_O_differ 90 = .ok (.iload_n 2, 1) := by decide +kernel
theorem d_O_differ_91 : decode b_O_differ 91 = .ok (.ireturn, 1) := by decide +kernel
set_option maxRecDepth 100000 in
set_option maxHeartbeats 4000000 in
theorem o_differ (l : Launch) (D : va_G) (q : Nat → Nat) (n P rw a : Nat) (kn an : Int32) (lw s1 sd kd pa : Nat → Int32) (wd : Nat → Int64) (ao fo uo ho xo : Nat → Int32) (t1 : Int32) (hn : n ≤ 8) : Met l y_O_differ (wsm y_O_differ b_O_differ 6 (some .boolean)) { frames := 0, cells := 0, slots := 0, locals := 0 } (va_Pc [.ref (q 0), .int t1] (cPre D (ow D q n P rw a kn an lw s1 sd kd pa wd ao fo uo ho xo))) (vp_Si (fun r => r = zb (decide (oDif n t1 xo)))) 0 0 (fun _ => False) := by
  refine met_R (by decide) (Nat.le_of_ble_eq_true rfl) ?_
  intro p e s m below meth c ls hx hb hr hlocks hml hown hin hA hP hK hD hN hl
  have hown : s.vm.findClass R_O = some m.cls := hown
  have hl : lv_has ls 6 [(0, .ref (q 0)), (1, .int t1)] := hl
  refine lv_iconst (v := 1) hx hb d_O_differ_0 (by decide) ?_
  refine lv_istore_n hx hb d_O_differ_1 rfl hl (by decide) rfl (fun ls hl => ?_)
  have hl : lv_has ls 6 [(2, .int 1), (0, .ref (q 0)), (1, .int t1)] := hl
  refine lv_iconst (v := 0) hx hb d_O_differ_2 (by decide) ?_
  refine lv_istore_n hx hb d_O_differ_3 rfl hl (by decide) rfl (fun ls hl => ?_)
  have hl : lv_has ls 6 [(3, .int 0), (2, .int 1), (0, .ref (q 0)), (1, .int t1)] := hl
  have loop : ∀ (t i : Nat) (g9 : Bool) (ls : Array Slot), i + t = n → (g9 = true ↔ ∀ a9, a9 < i → ∀ j, j < a9 → oPr t1 xo a9 j) → lv_has ls 6 [(3, .int (nI i)), (2, .int (zb g9)), (0, .ref (q 0)), (1, .int t1)] → W p l e { frames := 0, cells := 0, slots := 0, locals := 0 } s m [.ref (q 0), .int t1].toArray below meth c s.heap [] 0 0 (MQ below (vp_Si (fun r => r = zb (decide (oDif n t1 xo)))) [.ref (q 0), .int t1].toArray s 0 0 (fun _ => False)) (F0 m 4 ls []) := by
    intro t
    induction t with
    | zero =>
      intro i g9 ls hi hg hl
      refine lv_iload_n hx hb d_O_differ_4 rfl (lv_at hl 0 rfl) ?_
      refine lv_aload_n hx hb d_O_differ_5 rfl (lv_at hl 2 rfl) ?_
      refine va_get (D := D) (ci := 1) (v := .int (nI n)) (C := R_O) (T := T_O) (N := 17) hx hb hA inA_O hown hK hP 0 rfl rfl 0 (by decide) (hA _ wd_422) (fun _ h9 => h9) rfl d_O_differ_6 ?_
      refine lv_icmp_ge (tgt := 90) hx hb d_O_differ_9 (by decide) (fun h9 => ?_) (fun h => absurd (nI_le (by omega) (by omega)) h)
      refine lv_iload_n hx hb d_O_differ_90 rfl (lv_at hl 1 rfl) ?_
      exact eRz hx hb hr hlocks (zb_n _) (bl_e ((show i = n by omega) ▸ hg)) d_O_differ_91
    | succ t ih =>
      intro i g9 ls hi hg hl
      refine lv_iload_n hx hb d_O_differ_4 rfl (lv_at hl 0 rfl) ?_
      refine lv_aload_n hx hb d_O_differ_5 rfl (lv_at hl 2 rfl) ?_
      refine va_get (D := D) (ci := 1) (v := .int (nI n)) (C := R_O) (T := T_O) (N := 17) hx hb hA inA_O hown hK hP 0 rfl rfl 0 (by decide) (hA _ wd_422) (fun _ h9 => h9) rfl d_O_differ_6 ?_
      refine lv_icmp_ge (tgt := 90) hx hb d_O_differ_9 (by decide) (fun h => absurd h (nI_ge (by omega) (by omega))) (fun h9 => ?_)
      refine lv_iconst (v := 0) hx hb d_O_differ_12 (by decide) ?_
      refine lv_istore hx hb d_O_differ_13 hl (by decide) rfl (fun ls hl => ?_)
      have hl : lv_has ls 6 [(4, .int 0), (3, .int (nI i)), (2, .int (zb g9)), (0, .ref (q 0)), (1, .int t1)] := hl
      have inner : ∀ (t2 j9 : Nat) (g9 : Bool) (ls : Array Slot), j9 + t2 = i → (g9 = true ↔ (∀ a9, a9 < i → ∀ j, j < a9 → oPr t1 xo a9 j) ∧ ∀ a9, a9 < j9 → oPr t1 xo i a9) → lv_has ls 6 [(4, .int (nI j9)), (3, .int (nI i)), (2, .int (zb g9)), (0, .ref (q 0)), (1, .int t1)] → W p l e { frames := 0, cells := 0, slots := 0, locals := 0 } s m [.ref (q 0), .int t1].toArray below meth c s.heap [] 0 0 (MQ below (vp_Si (fun r => r = zb (decide (oDif n t1 xo)))) [.ref (q 0), .int t1].toArray s 0 0 (fun _ => False)) (F0 m 15 ls []) := by
        intro t2
        induction t2 with
        | zero =>
          intro j9 g9 ls hj9 hg hl
          refine lv_iload hx hb d_O_differ_15 (lv_at hl 0 rfl) ?_
          refine lv_iload_n hx hb d_O_differ_17 rfl (lv_at hl 1 rfl) ?_
          refine lv_icmp_ge (tgt := 84) hx hb d_O_differ_18 (by decide) (fun h18 => ?_) (fun h => absurd (nI_le (by omega) (by omega)) h)
          refine lv_iinc (v := nI (i + 1)) hx hb d_O_differ_84 hl (k := 1) rfl (by rw [nI_succ]; rfl) (by decide) rfl (fun ls hl => ?_)
          have hl : lv_has ls 6 [(3, .int (nI (i + 1))), (4, .int (nI j9)), (2, .int (zb g9)), (0, .ref (q 0)), (1, .int t1)] := hl
          refine lv_goto (tgt := 4) hx hb d_O_differ_87 (by decide) ?_
          exact ih (i + 1) _ _ (by omega) (bl_o (p := fun a => ∀ j, j < a → oPr t1 xo a j) ((show j9 = i by omega) ▸ hg)) (lv_sub hl [0, 2, 3, 4] rfl)
        | succ t2 ih2 =>
          intro j9 g9 ls hj9 hg hl
          refine lv_iload hx hb d_O_differ_15 (lv_at hl 0 rfl) ?_
          refine lv_iload_n hx hb d_O_differ_17 rfl (lv_at hl 1 rfl) ?_
          refine lv_icmp_ge (tgt := 84) hx hb d_O_differ_18 (by decide) (fun h => absurd h (nI_ge (by omega) (by omega))) (fun h18 => ?_)
          refine lv_iload_n hx hb d_O_differ_21 rfl (lv_at hl 4 rfl) ?_
          refine lv_iload_n hx hb d_O_differ_22 rfl (lv_at hl 1 rfl) ?_
          refine lv_ishr hx hb d_O_differ_23 ?_
          refine lv_iconst (v := 1) hx hb d_O_differ_24 (by decide) ?_
          refine lv_iand hx hb d_O_differ_25 ?_
          refine lv_iconst (v := 1) hx hb d_O_differ_26 (by decide) ?_
          refine lv_icmp_ne (tgt := 44) hx hb d_O_differ_27 (by decide) (fun h27 => ?_) (fun h27 => ?_)
          · skip
            refine lv_iconst (v := 0) hx hb d_O_differ_44 (by decide) ?_
            refine lv_istore hx hb d_O_differ_45 hl (by decide) rfl (fun ls hl => ?_)
            have hl : lv_has ls 6 [(5, .int 0), (4, .int (nI j9)), (3, .int (nI i)), (2, .int (zb g9)), (0, .ref (q 0)), (1, .int t1)] := hl
            rcases g9 with _ | _
            · skip
              have hl : lv_has ls 6 [(5, .int 0), (4, .int (nI j9)), (3, .int (nI i)), (2, .int 0), (0, .ref (q 0)), (1, .int t1)] := hl
              refine lv_iload_n hx hb d_O_differ_47 rfl (lv_at hl 3 rfl) ?_
              refine lv_if_eq (tgt := 76) hx hb d_O_differ_48 (by decide) (fun _ => ?_) (fun h => absurd h (by decide))
              refine lv_iconst (v := 0) hx hb d_O_differ_76 (by decide) ?_
              refine lv_istore_n hx hb d_O_differ_77 rfl hl (by decide) rfl (fun ls hl => ?_)
              have hl : lv_has ls 6 [(2, .int 0), (5, .int 0), (4, .int (nI j9)), (3, .int (nI i)), (0, .ref (q 0)), (1, .int t1)] := hl
              refine lv_iinc (v := nI (j9 + 1)) hx hb d_O_differ_78 hl (k := 2) rfl (by rw [nI_succ]; rfl) (by decide) rfl (fun ls hl => ?_)
              have hl : lv_has ls 6 [(4, .int (nI (j9 + 1))), (2, .int 0), (5, .int 0), (3, .int (nI i)), (0, .ref (q 0)), (1, .int t1)] := hl
              refine lv_goto (tgt := 15) hx hb d_O_differ_81 (by decide) ?_
              exact ih2 (j9 + 1) false _ (by omega) (bl_k hg) (lv_sub hl [0, 3, 1, 4, 5] rfl)
            · skip
              have hl : lv_has ls 6 [(5, .int 0), (4, .int (nI j9)), (3, .int (nI i)), (2, .int 1), (0, .ref (q 0)), (1, .int t1)] := hl
              refine lv_iload_n hx hb d_O_differ_47 rfl (lv_at hl 3 rfl) ?_
              refine lv_if_eq (tgt := 76) hx hb d_O_differ_48 (by decide) (fun h => absurd h (by decide)) (fun _ => ?_)
              refine lv_iload hx hb d_O_differ_51 (lv_at hl 0 rfl) ?_
              refine lv_if_eq (tgt := 72) hx hb d_O_differ_53 (by decide) (fun _ => ?_) (fun h => absurd h (by decide))
              refine lv_iconst (v := 1) hx hb d_O_differ_72 (by decide) ?_
              refine lv_goto (tgt := 77) hx hb d_O_differ_73 (by decide) ?_
              refine lv_istore_n hx hb d_O_differ_77 rfl hl (by decide) rfl (fun ls hl => ?_)
              have hl : lv_has ls 6 [(2, .int 1), (5, .int 0), (4, .int (nI j9)), (3, .int (nI i)), (0, .ref (q 0)), (1, .int t1)] := hl
              refine lv_iinc (v := nI (j9 + 1)) hx hb d_O_differ_78 hl (k := 2) rfl (by rw [nI_succ]; rfl) (by decide) rfl (fun ls hl => ?_)
              have hl : lv_has ls 6 [(4, .int (nI (j9 + 1))), (2, .int 1), (5, .int 0), (3, .int (nI i)), (0, .ref (q 0)), (1, .int t1)] := hl
              refine lv_goto (tgt := 15) hx hb d_O_differ_81 (by decide) ?_
              exact ih2 (j9 + 1) true _ (by omega) (bl_t hg (fun h => h27 h.1)) (lv_sub hl [0, 3, 1, 4, 5] rfl)
          · skip
            refine lv_iload_n hx hb d_O_differ_30 rfl (lv_at hl 4 rfl) ?_
            refine lv_iload hx hb d_O_differ_31 (lv_at hl 0 rfl) ?_
            refine lv_ishr hx hb d_O_differ_33 ?_
            refine lv_iconst (v := 1) hx hb d_O_differ_34 (by decide) ?_
            refine lv_iand hx hb d_O_differ_35 ?_
            refine lv_iconst (v := 1) hx hb d_O_differ_36 (by decide) ?_
            refine lv_icmp_ne (tgt := 44) hx hb d_O_differ_37 (by decide) (fun h37 => ?_) (fun h37 => ?_)
            · skip
              refine lv_iconst (v := 0) hx hb d_O_differ_44 (by decide) ?_
              refine lv_istore hx hb d_O_differ_45 hl (by decide) rfl (fun ls hl => ?_)
              have hl : lv_has ls 6 [(5, .int 0), (4, .int (nI j9)), (3, .int (nI i)), (2, .int (zb g9)), (0, .ref (q 0)), (1, .int t1)] := hl
              rcases g9 with _ | _
              · skip
                have hl : lv_has ls 6 [(5, .int 0), (4, .int (nI j9)), (3, .int (nI i)), (2, .int 0), (0, .ref (q 0)), (1, .int t1)] := hl
                refine lv_iload_n hx hb d_O_differ_47 rfl (lv_at hl 3 rfl) ?_
                refine lv_if_eq (tgt := 76) hx hb d_O_differ_48 (by decide) (fun _ => ?_) (fun h => absurd h (by decide))
                refine lv_iconst (v := 0) hx hb d_O_differ_76 (by decide) ?_
                refine lv_istore_n hx hb d_O_differ_77 rfl hl (by decide) rfl (fun ls hl => ?_)
                have hl : lv_has ls 6 [(2, .int 0), (5, .int 0), (4, .int (nI j9)), (3, .int (nI i)), (0, .ref (q 0)), (1, .int t1)] := hl
                refine lv_iinc (v := nI (j9 + 1)) hx hb d_O_differ_78 hl (k := 2) rfl (by rw [nI_succ]; rfl) (by decide) rfl (fun ls hl => ?_)
                have hl : lv_has ls 6 [(4, .int (nI (j9 + 1))), (2, .int 0), (5, .int 0), (3, .int (nI i)), (0, .ref (q 0)), (1, .int t1)] := hl
                refine lv_goto (tgt := 15) hx hb d_O_differ_81 (by decide) ?_
                exact ih2 (j9 + 1) false _ (by omega) (bl_k hg) (lv_sub hl [0, 3, 1, 4, 5] rfl)
              · skip
                have hl : lv_has ls 6 [(5, .int 0), (4, .int (nI j9)), (3, .int (nI i)), (2, .int 1), (0, .ref (q 0)), (1, .int t1)] := hl
                refine lv_iload_n hx hb d_O_differ_47 rfl (lv_at hl 3 rfl) ?_
                refine lv_if_eq (tgt := 76) hx hb d_O_differ_48 (by decide) (fun h => absurd h (by decide)) (fun _ => ?_)
                refine lv_iload hx hb d_O_differ_51 (lv_at hl 0 rfl) ?_
                refine lv_if_eq (tgt := 72) hx hb d_O_differ_53 (by decide) (fun _ => ?_) (fun h => absurd h (by decide))
                refine lv_iconst (v := 1) hx hb d_O_differ_72 (by decide) ?_
                refine lv_goto (tgt := 77) hx hb d_O_differ_73 (by decide) ?_
                refine lv_istore_n hx hb d_O_differ_77 rfl hl (by decide) rfl (fun ls hl => ?_)
                have hl : lv_has ls 6 [(2, .int 1), (5, .int 0), (4, .int (nI j9)), (3, .int (nI i)), (0, .ref (q 0)), (1, .int t1)] := hl
                refine lv_iinc (v := nI (j9 + 1)) hx hb d_O_differ_78 hl (k := 2) rfl (by rw [nI_succ]; rfl) (by decide) rfl (fun ls hl => ?_)
                have hl : lv_has ls 6 [(4, .int (nI (j9 + 1))), (2, .int 1), (5, .int 0), (3, .int (nI i)), (0, .ref (q 0)), (1, .int t1)] := hl
                refine lv_goto (tgt := 15) hx hb d_O_differ_81 (by decide) ?_
                exact ih2 (j9 + 1) true _ (by omega) (bl_t hg (fun h => h37 h.2.1)) (lv_sub hl [0, 3, 1, 4, 5] rfl)
            · skip
              refine lv_iconst (v := 1) hx hb d_O_differ_40 (by decide) ?_
              refine lv_goto (tgt := 45) hx hb d_O_differ_41 (by decide) ?_
              refine lv_istore hx hb d_O_differ_45 hl (by decide) rfl (fun ls hl => ?_)
              have hl : lv_has ls 6 [(5, .int 1), (4, .int (nI j9)), (3, .int (nI i)), (2, .int (zb g9)), (0, .ref (q 0)), (1, .int t1)] := hl
              rcases g9 with _ | _
              · skip
                have hl : lv_has ls 6 [(5, .int 1), (4, .int (nI j9)), (3, .int (nI i)), (2, .int 0), (0, .ref (q 0)), (1, .int t1)] := hl
                refine lv_iload_n hx hb d_O_differ_47 rfl (lv_at hl 3 rfl) ?_
                refine lv_if_eq (tgt := 76) hx hb d_O_differ_48 (by decide) (fun _ => ?_) (fun h => absurd h (by decide))
                refine lv_iconst (v := 0) hx hb d_O_differ_76 (by decide) ?_
                refine lv_istore_n hx hb d_O_differ_77 rfl hl (by decide) rfl (fun ls hl => ?_)
                have hl : lv_has ls 6 [(2, .int 0), (5, .int 1), (4, .int (nI j9)), (3, .int (nI i)), (0, .ref (q 0)), (1, .int t1)] := hl
                refine lv_iinc (v := nI (j9 + 1)) hx hb d_O_differ_78 hl (k := 2) rfl (by rw [nI_succ]; rfl) (by decide) rfl (fun ls hl => ?_)
                have hl : lv_has ls 6 [(4, .int (nI (j9 + 1))), (2, .int 0), (5, .int 1), (3, .int (nI i)), (0, .ref (q 0)), (1, .int t1)] := hl
                refine lv_goto (tgt := 15) hx hb d_O_differ_81 (by decide) ?_
                exact ih2 (j9 + 1) false _ (by omega) (bl_k hg) (lv_sub hl [0, 3, 1, 4, 5] rfl)
              · skip
                have hl : lv_has ls 6 [(5, .int 1), (4, .int (nI j9)), (3, .int (nI i)), (2, .int 1), (0, .ref (q 0)), (1, .int t1)] := hl
                refine lv_iload_n hx hb d_O_differ_47 rfl (lv_at hl 3 rfl) ?_
                refine lv_if_eq (tgt := 76) hx hb d_O_differ_48 (by decide) (fun h => absurd h (by decide)) (fun _ => ?_)
                refine lv_iload hx hb d_O_differ_51 (lv_at hl 0 rfl) ?_
                refine lv_if_eq (tgt := 72) hx hb d_O_differ_53 (by decide) (fun h => absurd h (by decide)) (fun _ => ?_)
                refine lv_aload_n hx hb d_O_differ_56 rfl (lv_at hl 4 rfl) ?_
                refine va_get (D := D) (ci := 1) (v := .ref (q 11)) (C := R_O) (T := T_O) (N := 17) hx hb hA inA_O hown hK hP 0 rfl rfl 16 (by decide) (hA _ wd_438) (fun _ h9 => h9) rfl d_O_differ_57 ?_
                refine lv_iload_n hx hb d_O_differ_60 rfl (lv_at hl 2 rfl) ?_
                refine xi_ald hx hb hK hP 11 rfl (by omega) (by decide) d_O_differ_61 ?_
                refine lv_aload_n hx hb d_O_differ_62 rfl (lv_at hl 4 rfl) ?_
                refine va_get (D := D) (ci := 1) (v := .ref (q 11)) (C := R_O) (T := T_O) (N := 17) hx hb hA inA_O hown hK hP 0 rfl rfl 16 (by decide) (hA _ wd_438) (fun _ h9 => h9) rfl d_O_differ_63 ?_
                refine lv_iload hx hb d_O_differ_66 (lv_at hl 1 rfl) ?_
                refine xi_ald hx hb hK hP 11 rfl (by omega) (by decide) d_O_differ_68 ?_
                refine lv_icmp_eq (tgt := 76) hx hb d_O_differ_69 (by decide) (fun h69 => ?_) (fun h69 => ?_)
                · skip
                  refine lv_iconst (v := 0) hx hb d_O_differ_76 (by decide) ?_
                  refine lv_istore_n hx hb d_O_differ_77 rfl hl (by decide) rfl (fun ls hl => ?_)
                  have hl : lv_has ls 6 [(2, .int 0), (5, .int 1), (4, .int (nI j9)), (3, .int (nI i)), (0, .ref (q 0)), (1, .int t1)] := hl
                  refine lv_iinc (v := nI (j9 + 1)) hx hb d_O_differ_78 hl (k := 2) rfl (by rw [nI_succ]; rfl) (by decide) rfl (fun ls hl => ?_)
                  have hl : lv_has ls 6 [(4, .int (nI (j9 + 1))), (2, .int 0), (5, .int 1), (3, .int (nI i)), (0, .ref (q 0)), (1, .int t1)] := hl
                  refine lv_goto (tgt := 15) hx hb d_O_differ_81 (by decide) ?_
                  exact ih2 (j9 + 1) false _ (by omega) (bl_f (fun h => h ⟨h27, h37, h69⟩)) (lv_sub hl [0, 3, 1, 4, 5] rfl)
                · skip
                  refine lv_iconst (v := 1) hx hb d_O_differ_72 (by decide) ?_
                  refine lv_goto (tgt := 77) hx hb d_O_differ_73 (by decide) ?_
                  refine lv_istore_n hx hb d_O_differ_77 rfl hl (by decide) rfl (fun ls hl => ?_)
                  have hl : lv_has ls 6 [(2, .int 1), (5, .int 1), (4, .int (nI j9)), (3, .int (nI i)), (0, .ref (q 0)), (1, .int t1)] := hl
                  refine lv_iinc (v := nI (j9 + 1)) hx hb d_O_differ_78 hl (k := 2) rfl (by rw [nI_succ]; rfl) (by decide) rfl (fun ls hl => ?_)
                  have hl : lv_has ls 6 [(4, .int (nI (j9 + 1))), (2, .int 1), (5, .int 1), (3, .int (nI i)), (0, .ref (q 0)), (1, .int t1)] := hl
                  refine lv_goto (tgt := 15) hx hb d_O_differ_81 (by decide) ?_
                  exact ih2 (j9 + 1) true _ (by omega) (bl_t hg (fun h => h69 h.2.2)) (lv_sub hl [0, 3, 1, 4, 5] rfl)
      exact inner i 0 g9 _ (by omega) (bl_0 hg) (lv_sub hl [0, 1, 2, 3, 4] rfl)
  exact loop n 0 true _ (by omega) ⟨fun _ a h => absurd h (by omega), fun _ => rfl⟩ (lv_sub hl [0, 1, 2, 3] rfl)
end
