section
theorem d_O_anyPart_0 : decode b_O_anyPart 0 = .ok (.iconst 0, 1) := by decide +kernel
theorem d_O_anyPart_1 : decode b_O_anyPart 1 = .ok (.istore_n 2, 1) := by decide +kernel
theorem d_O_anyPart_2 : decode b_O_anyPart 2 = .ok (.iconst 0, 1) := by decide +kernel
theorem d_O_anyPart_3 : decode b_O_anyPart 3 = .ok (.istore_n 3, 1) := by decide +kernel
theorem d_O_anyPart_4 : decode b_O_anyPart 4 = .ok (.iload_n 3, 1) := by decide +kernel
theorem d_O_anyPart_5 : decode b_O_anyPart 5 = .ok (.iconst 3, 1) := by decide +kernel
theorem d_O_anyPart_6 : decode b_O_anyPart 6 = .ok (.if_icmp .ge 100, 3) := by decide +kernel
theorem d_O_anyPart_9 : decode b_O_anyPart 9 = .ok (.aload_n 0, 1) := by decide +kernel
theorem d_O_anyPart_10 : decode b_O_anyPart 10 = .ok (.iload_n 1, 1) := by decide +kernel
theorem d_O_anyPart_11 : decode b_O_anyPart 11 = .ok (.iconst 2, 1) := by decide +kernel
theorem d_O_anyPart_12 : decode b_O_anyPart 12 = .ok (.iload_n 3, 1) := by decide +kernel
theorem d_O_anyPart_13 : decode b_O_anyPart 13 = .ok (.imul, 1) := by decide +kernel
theorem d_O_anyPart_14 : decode b_O_anyPart 14 = .ok (.invokevirtual 90, 3) := by decide +kernel
theorem d_O_anyPart_17 : decode b_O_anyPart 17 = .ok (.istore 4, 2) := by decide +kernel
theorem d_O_anyPart_19 : decode b_O_anyPart 19 = .ok (.aload_n 0, 1) := by decide +kernel
theorem d_O_anyPart_20 : decode b_O_anyPart 20 = .ok (.iload_n 1, 1) := by decide +kernel
theorem d_O_anyPart_21 : decode b_O_anyPart 21 = .ok (.iconst 2, 1) := by decide +kernel
theorem d_O_anyPart_22 : decode b_O_anyPart 22 = .ok (.iload_n 3, 1) := by decide +kernel
theorem d_O_anyPart_23 : decode b_O_anyPart 23 = .ok (.imul, 1) := by decide +kernel
theorem d_O_anyPart_24 : decode b_O_anyPart 24 = .ok (.iconst 1, 1) := by decide +kernel
theorem d_O_anyPart_25 : decode b_O_anyPart 25 = .ok (.iadd, 1) := by decide +kernel
theorem d_O_anyPart_26 : decode b_O_anyPart 26 = .ok (.invokevirtual 90, 3) := by decide +kernel
theorem d_O_anyPart_29 : decode b_O_anyPart 29 = .ok (.istore 5, 2) := by decide +kernel
theorem d_O_anyPart_31 : decode b_O_anyPart 31 = .ok (.aload_n 0, 1) := by decide +kernel
theorem d_O_anyPart_32 : decode b_O_anyPart 32 = .ok (.iload_n 1, 1) := by decide +kernel
theorem d_O_anyPart_33 : decode b_O_anyPart 33 = .ok (.bipush 6, 2) := by decide +kernel
theorem d_O_anyPart_35 : decode b_O_anyPart 35 = .ok (.invokevirtual 90, 3) := by decide +kernel
theorem d_O_anyPart_38 : decode b_O_anyPart 38 = .ok (.iload_n 3, 1) := by decide +kernel
theorem d_O_anyPart_39 : decode b_O_anyPart 39 = .ok (.ishr, 1) := by decide +kernel
theorem d_O_anyPart_40 : decode b_O_anyPart 40 = .ok (.iconst 1, 1) := by decide +kernel
theorem d_O_anyPart_41 : decode b_O_anyPart 41 = .ok (.iand, 1) := by decide +kernel
theorem d_O_anyPart_42 : decode b_O_anyPart 42 = .ok (.iconst 1, 1) := by decide +kernel
theorem d_O_anyPart_43 : decode b_O_anyPart 43 = .ok (.if_icmp .ne 7, 3) := by decide +kernel
theorem d_O_anyPart_46 : decode b_O_anyPart 46 = .ok (.iconst 1, 1) := by decide +kernel
theorem d_O_anyPart_47 : decode b_O_anyPart 47 = .ok (.goto 4, 3) := by decide +kernel
theorem d_O_anyPart_50 : decode b_O_anyPart 50 = .ok (.iconst 0, 1) := by decide +kernel
theorem d_O_anyPart_51 : decode b_O_anyPart 51 = .ok (.istore 6, 2) := by decide +kernel
theorem d_O_anyPart_53 : decode b_O_anyPart 53 = .ok (.iload_n 2, 1) := by decide +kernel
theorem d_O_anyPart_54 : decode b_O_anyPart 54 = .ok (.ifCond .ne 40, 3) := by decide +kernel
theorem d_O_anyPart_57 : decode b_O_anyPart 57 = .ok (.iload 4, 2) := by decide +kernel
theorem d_O_anyPart_59 : decode b_O_anyPart 59 = .ok (.ifCond .lt 39, 3) := by decide +kernel
theorem d_O_anyPart_62 : decode b_O_anyPart 62 = .ok (.iload 6, 2) := by decide +kernel
theorem d_O_anyPart_64 : decode b_O_anyPart 64 = .ok (.ifCond .eq 18, 3) := by decide +kernel
theorem d_O_anyPart_67 : decode b_O_anyPart 67 = .ok (.aload_n 0, 1) := by decide +kernel
theorem d_O_anyPart_68 : decode b_O_anyPart 68 = .ok (.getfield 49, 3) := by decide +kernel
theorem d_O_anyPart_71 : decode b_O_anyPart 71 = .ok (.iload 4, 2) := by decide +kernel
theorem d_O_anyPart_73 : decode b_O_anyPart 73 = .ok (.iaload, 1) := by decide +kernel
theorem d_O_anyPart_74 : decode b_O_anyPart 74 = .ok (.iload 5, 2) := by decide +kernel
theorem d_O_anyPart_76 : decode b_O_anyPart 76 = .ok (.if_icmp .lt 22, 3) := by decide +kernel
theorem d_O_anyPart_79 : decode b_O_anyPart 79 = .ok (.goto 15, 3) := by decide +kernel
theorem d_O_anyPart_82 : decode b_O_anyPart 82 = .ok (.aload_n 0, 1) := by decide +kernel
theorem d_O_anyPart_83 : decode b_O_anyPart 83 = .ok (.getfield 49, 3) := by decide +kernel
theorem d_O_anyPart_86 : decode b_O_anyPart 86 = .ok (.iload 4, 2) := by decide +kernel
theorem d_O_anyPart_88 : decode b_O_anyPart 88 = .ok (.iaload, 1) := by decide +kernel
theorem d_O_anyPart_89 : decode b_O_anyPart 89 = .ok (.iload 5, 2) := by decide +kernel
theorem d_O_anyPart_91 : decode b_O_anyPart 91 = .ok (.if_icmp .gt 7, 3) := by decide +kernel
theorem d_O_anyPart_94 : decode b_O_anyPart 94 = .ok (.iconst 1, 1) := by decide +kernel
theorem d_O_anyPart_95 : decode b_O_anyPart 95 = .ok (.goto 4, 3) := by decide +kernel
theorem d_O_anyPart_98 : decode b_O_anyPart 98 = .ok (.iconst 0, 1) := by decide +kernel
theorem d_O_anyPart_99 : decode b_O_anyPart 99 = .ok (.istore_n 2, 1) := by decide +kernel
theorem d_O_anyPart_100 : decode b_O_anyPart 100 = .ok (.iinc 3 1, 3) := by decide +kernel
theorem d_O_anyPart_103 : decode b_O_anyPart 103 = .ok (.goto (-99), 3) := by decide +kernel
theorem d_O_anyPart_106 : decode b_O_anyPart 106 = .ok (.iload_n 2, 1) := by decide +kernel
theorem d_O_anyPart_107 : decode b_O_anyPart 107 = .ok (.ireturn, 1) := by decide +kernel
set_option maxRecDepth 100000 in
set_option maxHeartbeats 4000000 in
theorem o_anyPart (l : Launch) (D : va_G) (q : Nat → Nat) (n P rw a : Nat) (kn an : Int32) (lw s1 sd kd pa : Nat → Int32) (wd : Nat → Int64) (ao fo uo ho xo : Nat → Int32) (j : Nat) (hj : j < 12) (hbx : ∀ a9, a9 < 3 → bx (oRow pa j (2 * a9))) : Met l y_O_anyPart (wsm y_O_anyPart b_O_anyPart 7 (some .boolean)) { frames := 1, cells := 0, slots := 0, locals := 22 } (va_Pc [.ref (q 0), .int (nI j)] (cPre D (ow D q n P rw a kn an lw s1 sd kd pa wd ao fo uo ho xo))) (vp_Si (fun r => r = zb (decide (oAny (oRow pa j) xo)))) 0 0 (fun _ => False) := by
  refine met_R (by decide) (Nat.le_of_ble_eq_true rfl) ?_
  intro p e s m below meth c ls hx hb hr hlocks hml hown hin hA hP hK hD hN hl
  have hown : s.vm.findClass R_O = some m.cls := hown
  have hl : lv_has ls 7 [(0, .ref (q 0)), (1, .int (nI j))] := hl
  refine lv_iconst (v := 0) hx hb d_O_anyPart_0 (by decide) ?_
  refine lv_istore_n hx hb d_O_anyPart_1 rfl hl (by decide) rfl (fun ls hl => ?_)
  have hl : lv_has ls 7 [(2, .int 0), (0, .ref (q 0)), (1, .int (nI j))] := hl
  refine lv_iconst (v := 0) hx hb d_O_anyPart_2 (by decide) ?_
  refine lv_istore_n hx hb d_O_anyPart_3 rfl hl (by decide) rfl (fun ls hl => ?_)
  have hl : lv_has ls 7 [(3, .int 0), (2, .int 0), (0, .ref (q 0)), (1, .int (nI j))] := hl
  have loop : ∀ (t i : Nat) (g9 : Bool) (ls : Array Slot), i + t = 3 → (g9 = true ↔ ∃ a9, a9 < i ∧ oPt (oRow pa j (2 * a9)) (oRow pa j (2 * a9 + 1)) (nI a9) (oRow pa j 6) xo) → lv_has ls 7 [(3, .int (nI i)), (2, .int (zb g9)), (0, .ref (q 0)), (1, .int (nI j))] → W p l e { frames := 1, cells := 0, slots := 0, locals := 22 } s m [.ref (q 0), .int (nI j)].toArray below meth c s.heap [] 0 0 (MQ below (vp_Si (fun r => r = zb (decide (oAny (oRow pa j) xo)))) [.ref (q 0), .int (nI j)].toArray s 0 0 (fun _ => False)) (F0 m 4 ls []) := by
    intro t
    induction t with
    | zero =>
      intro i g9 ls hi hg hl
      refine lv_iload_n hx hb d_O_anyPart_4 rfl (lv_at hl 0 rfl) ?_
      refine lv_iconst (v := 3) hx hb d_O_anyPart_5 (by decide) ?_
      refine lv_icmp_ge (tgt := 106) hx hb d_O_anyPart_6 (by decide) (fun h6 => ?_) (fun h => absurd (nI_le (a := 3) (by omega) (by omega)) h)
      refine lv_iload_n hx hb d_O_anyPart_106 rfl (lv_at hl 1 rfl) ?_
      exact eRz hx hb hr hlocks (zb_n _) (bl_e (ex_3 (show i = 3 by omega) hg)) d_O_anyPart_107
    | succ t ih =>
      intro i g9 ls hi hg hl
      refine lv_iload_n hx hb d_O_anyPart_4 rfl (lv_at hl 0 rfl) ?_
      refine lv_iconst (v := 3) hx hb d_O_anyPart_5 (by decide) ?_
      refine lv_icmp_ge (tgt := 106) hx hb d_O_anyPart_6 (by decide) (fun h => absurd h (nI_ge (b := 3) (by omega) (by decide))) (fun h6 => ?_)
      refine lv_aload_n hx hb d_O_anyPart_9 rfl (lv_at hl 2 rfl) ?_
      refine lv_iload_n hx hb d_O_anyPart_10 rfl (lv_at hl 3 rfl) ?_
      refine lv_iconst (v := 2) hx hb d_O_anyPart_11 (by decide) ?_
      refine lv_iload_n hx hb d_O_anyPart_12 rfl (lv_at hl 0 rfl) ?_
      refine lv_imul hx hb d_O_anyPart_13 ?_
      refine topi_to (v := nI (2 * i)) (by rw [← pk_mul]; rfl) ?_
      refine rV (n := 2) (rest := []) hx hb hml hown hA (o_of l D q n P rw a kn an lw s1 sd kd pa wd ao fo uo ho xo j (2 * i) (by omega) (by omega)) wv_O_90 ⟨by decide, by decide, by decide +kernel⟩ ⟨rfl, rfl, by decide, by decide⟩ rfl hl.1 ⟨Nat.le_of_ble_eq_true rfl, Nat.le_of_ble_eq_true rfl⟩ hP hK hD hN 0 1 rfl rfl rfl (Nat.le_of_ble_eq_true rfl) d_O_anyPart_14 (fun r hr9 => ?_)
      subst hr9
      refine lv_istore hx hb d_O_anyPart_17 hl (by decide) rfl (fun ls hl => ?_)
      have hl : lv_has ls 7 [(4, .int (oRow pa j (2 * i))), (3, .int (nI i)), (2, .int (zb g9)), (0, .ref (q 0)), (1, .int (nI j))] := hl
      refine lv_aload_n hx hb d_O_anyPart_19 rfl (lv_at hl 3 rfl) ?_
      refine lv_iload_n hx hb d_O_anyPart_20 rfl (lv_at hl 4 rfl) ?_
      refine lv_iconst (v := 2) hx hb d_O_anyPart_21 (by decide) ?_
      refine lv_iload_n hx hb d_O_anyPart_22 rfl (lv_at hl 1 rfl) ?_
      refine lv_imul hx hb d_O_anyPart_23 ?_
      refine lv_iconst (v := 1) hx hb d_O_anyPart_24 (by decide) ?_
      refine lv_iadd hx hb d_O_anyPart_25 ?_
      refine topi_to (v := nI (2 * i + 1)) (by rw [← nI_add, ← pk_mul]; rfl) ?_
      refine rV (n := 2) (rest := []) hx hb hml hown hA (o_of l D q n P rw a kn an lw s1 sd kd pa wd ao fo uo ho xo j (2 * i + 1) (by omega) (by omega)) wv_O_90 ⟨by decide, by decide, by decide +kernel⟩ ⟨rfl, rfl, by decide, by decide⟩ rfl hl.1 ⟨Nat.le_of_ble_eq_true rfl, Nat.le_of_ble_eq_true rfl⟩ hP hK hD hN 0 1 rfl rfl rfl (Nat.le_of_ble_eq_true rfl) d_O_anyPart_26 (fun r hr9 => ?_)
      subst hr9
      refine lv_istore hx hb d_O_anyPart_29 hl (by decide) rfl (fun ls hl => ?_)
      have hl : lv_has ls 7 [(5, .int (oRow pa j (2 * i + 1))), (4, .int (oRow pa j (2 * i))), (3, .int (nI i)), (2, .int (zb g9)), (0, .ref (q 0)), (1, .int (nI j))] := hl
      refine lv_aload_n hx hb d_O_anyPart_31 rfl (lv_at hl 4 rfl) ?_
      refine lv_iload_n hx hb d_O_anyPart_32 rfl (lv_at hl 5 rfl) ?_
      refine lv_bipush (v := 6) hx hb d_O_anyPart_33 (by decide) ?_
      refine rV (n := 2) (rest := []) hx hb hml hown hA (o_of l D q n P rw a kn an lw s1 sd kd pa wd ao fo uo ho xo j 6 (by omega) (by omega)) wv_O_90 ⟨by decide, by decide, by decide +kernel⟩ ⟨rfl, rfl, by decide, by decide⟩ rfl hl.1 ⟨Nat.le_of_ble_eq_true rfl, Nat.le_of_ble_eq_true rfl⟩ hP hK hD hN 0 1 rfl rfl rfl (Nat.le_of_ble_eq_true rfl) d_O_anyPart_35 (fun r hr9 => ?_)
      subst hr9
      refine lv_iload_n hx hb d_O_anyPart_38 rfl (lv_at hl 2 rfl) ?_
      refine lv_ishr hx hb d_O_anyPart_39 ?_
      refine lv_iconst (v := 1) hx hb d_O_anyPart_40 (by decide) ?_
      refine lv_iand hx hb d_O_anyPart_41 ?_
      refine lv_iconst (v := 1) hx hb d_O_anyPart_42 (by decide) ?_
      refine lv_icmp_ne (tgt := 50) hx hb d_O_anyPart_43 (by decide) (fun h43 => ?_) (fun h43 => ?_)
      · skip
        refine lv_iconst (v := 0) hx hb d_O_anyPart_50 (by decide) ?_
        refine lv_istore hx hb d_O_anyPart_51 hl (by decide) rfl (fun ls hl => ?_)
        have hl : lv_has ls 7 [(6, .int 0), (5, .int (oRow pa j (2 * i + 1))), (4, .int (oRow pa j (2 * i))), (3, .int (nI i)), (2, .int (zb g9)), (0, .ref (q 0)), (1, .int (nI j))] := hl
        rcases g9 with _ | _
        · skip
          have hl : lv_has ls 7 [(6, .int 0), (5, .int (oRow pa j (2 * i + 1))), (4, .int (oRow pa j (2 * i))), (3, .int (nI i)), (2, .int 0), (0, .ref (q 0)), (1, .int (nI j))] := hl
          refine lv_iload_n hx hb d_O_anyPart_53 rfl (lv_at hl 4 rfl) ?_
          refine lv_if_ne (tgt := 94) hx hb d_O_anyPart_54 (by decide) (fun h => absurd h (by decide)) (fun _ => ?_)
          refine lv_iload hx hb d_O_anyPart_57 (lv_at hl 2 rfl) ?_
          refine lv_if_lt (tgt := 98) hx hb d_O_anyPart_59 (by decide) (fun h59 => ?_) (fun h59 => ?_)
          · skip
            refine lv_iconst (v := 0) hx hb d_O_anyPart_98 (by decide) ?_
            refine lv_istore_n hx hb d_O_anyPart_99 rfl hl (by decide) rfl (fun ls hl => ?_)
            have hl : lv_has ls 7 [(2, .int 0), (6, .int 0), (5, .int (oRow pa j (2 * i + 1))), (4, .int (oRow pa j (2 * i))), (3, .int (nI i)), (0, .ref (q 0)), (1, .int (nI j))] := hl
            refine lv_iinc (v := nI (i + 1)) hx hb d_O_anyPart_100 hl (k := 4) rfl (by rw [nI_succ]; rfl) (by decide) rfl (fun ls hl => ?_)
            have hl : lv_has ls 7 [(3, .int (nI (i + 1))), (2, .int 0), (6, .int 0), (5, .int (oRow pa j (2 * i + 1))), (4, .int (oRow pa j (2 * i))), (0, .ref (q 0)), (1, .int (nI j))] := hl
            refine lv_goto (tgt := 4) hx hb d_O_anyPart_103 (by decide) ?_
            exact ih (i + 1) false _ (by omega) (ex_f hg (fun h => h.1 h59)) (lv_sub hl [0, 1, 5, 6] rfl)
          · skip
            refine lv_iload hx hb d_O_anyPart_62 (lv_at hl 0 rfl) ?_
            refine lv_if_eq (tgt := 82) hx hb d_O_anyPart_64 (by decide) (fun _ => ?_) (fun h => absurd h (by decide))
            refine lv_aload_n hx hb d_O_anyPart_82 rfl (lv_at hl 5 rfl) ?_
            refine va_get (D := D) (ci := 1) (v := .ref (q 11)) (C := R_O) (T := T_O) (N := 17) hx hb hA inA_O hown hK hP 0 rfl rfl 16 (by decide) (hA _ wd_438) (fun _ h9 => h9) rfl d_O_anyPart_83 ?_
            refine lv_iload hx hb d_O_anyPart_86 (lv_at hl 2 rfl) ?_
            refine va_iald hx hb hK hP 11 0 rfl rfl (hbx i (by omega) h59) d_O_anyPart_88 ?_
            refine lv_iload hx hb d_O_anyPart_89 (lv_at hl 1 rfl) ?_
            refine lv_icmp_gt (tgt := 98) hx hb d_O_anyPart_91 (by decide) (fun h91 => ?_) (fun h91 => ?_)
            · skip
              refine lv_iconst (v := 0) hx hb d_O_anyPart_98 (by decide) ?_
              refine lv_istore_n hx hb d_O_anyPart_99 rfl hl (by decide) rfl (fun ls hl => ?_)
              have hl : lv_has ls 7 [(2, .int 0), (6, .int 0), (5, .int (oRow pa j (2 * i + 1))), (4, .int (oRow pa j (2 * i))), (3, .int (nI i)), (0, .ref (q 0)), (1, .int (nI j))] := hl
              refine lv_iinc (v := nI (i + 1)) hx hb d_O_anyPart_100 hl (k := 4) rfl (by rw [nI_succ]; rfl) (by decide) rfl (fun ls hl => ?_)
              have hl : lv_has ls 7 [(3, .int (nI (i + 1))), (2, .int 0), (6, .int 0), (5, .int (oRow pa j (2 * i + 1))), (4, .int (oRow pa j (2 * i))), (0, .ref (q 0)), (1, .int (nI j))] := hl
              refine lv_goto (tgt := 4) hx hb d_O_anyPart_103 (by decide) ?_
              exact ih (i + 1) false _ (by omega) (ex_f hg (fun h => by have h5 := h.2; rw [if_neg h43] at h5; exact h5 h91)) (lv_sub hl [0, 1, 5, 6] rfl)
            · skip
              refine lv_iconst (v := 1) hx hb d_O_anyPart_94 (by decide) ?_
              refine lv_goto (tgt := 99) hx hb d_O_anyPart_95 (by decide) ?_
              refine lv_istore_n hx hb d_O_anyPart_99 rfl hl (by decide) rfl (fun ls hl => ?_)
              have hl : lv_has ls 7 [(2, .int 1), (6, .int 0), (5, .int (oRow pa j (2 * i + 1))), (4, .int (oRow pa j (2 * i))), (3, .int (nI i)), (0, .ref (q 0)), (1, .int (nI j))] := hl
              refine lv_iinc (v := nI (i + 1)) hx hb d_O_anyPart_100 hl (k := 4) rfl (by rw [nI_succ]; rfl) (by decide) rfl (fun ls hl => ?_)
              have hl : lv_has ls 7 [(3, .int (nI (i + 1))), (2, .int 1), (6, .int 0), (5, .int (oRow pa j (2 * i + 1))), (4, .int (oRow pa j (2 * i))), (0, .ref (q 0)), (1, .int (nI j))] := hl
              refine lv_goto (tgt := 4) hx hb d_O_anyPart_103 (by decide) ?_
              exact ih (i + 1) true _ (by omega) (ex_t ⟨h59, by rw [if_neg h43]; exact h91⟩) (lv_sub hl [0, 1, 5, 6] rfl)
        · skip
          have hl : lv_has ls 7 [(6, .int 0), (5, .int (oRow pa j (2 * i + 1))), (4, .int (oRow pa j (2 * i))), (3, .int (nI i)), (2, .int 1), (0, .ref (q 0)), (1, .int (nI j))] := hl
          refine lv_iload_n hx hb d_O_anyPart_53 rfl (lv_at hl 4 rfl) ?_
          refine lv_if_ne (tgt := 94) hx hb d_O_anyPart_54 (by decide) (fun _ => ?_) (fun h => absurd h (by decide))
          refine lv_iconst (v := 1) hx hb d_O_anyPart_94 (by decide) ?_
          refine lv_goto (tgt := 99) hx hb d_O_anyPart_95 (by decide) ?_
          refine lv_istore_n hx hb d_O_anyPart_99 rfl hl (by decide) rfl (fun ls hl => ?_)
          have hl : lv_has ls 7 [(2, .int 1), (6, .int 0), (5, .int (oRow pa j (2 * i + 1))), (4, .int (oRow pa j (2 * i))), (3, .int (nI i)), (0, .ref (q 0)), (1, .int (nI j))] := hl
          refine lv_iinc (v := nI (i + 1)) hx hb d_O_anyPart_100 hl (k := 4) rfl (by rw [nI_succ]; rfl) (by decide) rfl (fun ls hl => ?_)
          have hl : lv_has ls 7 [(3, .int (nI (i + 1))), (2, .int 1), (6, .int 0), (5, .int (oRow pa j (2 * i + 1))), (4, .int (oRow pa j (2 * i))), (0, .ref (q 0)), (1, .int (nI j))] := hl
          refine lv_goto (tgt := 4) hx hb d_O_anyPart_103 (by decide) ?_
          exact ih (i + 1) true _ (by omega) (ex_k hg) (lv_sub hl [0, 1, 5, 6] rfl)
      · skip
        refine lv_iconst (v := 1) hx hb d_O_anyPart_46 (by decide) ?_
        refine lv_goto (tgt := 51) hx hb d_O_anyPart_47 (by decide) ?_
        refine lv_istore hx hb d_O_anyPart_51 hl (by decide) rfl (fun ls hl => ?_)
        have hl : lv_has ls 7 [(6, .int 1), (5, .int (oRow pa j (2 * i + 1))), (4, .int (oRow pa j (2 * i))), (3, .int (nI i)), (2, .int (zb g9)), (0, .ref (q 0)), (1, .int (nI j))] := hl
        rcases g9 with _ | _
        · skip
          have hl : lv_has ls 7 [(6, .int 1), (5, .int (oRow pa j (2 * i + 1))), (4, .int (oRow pa j (2 * i))), (3, .int (nI i)), (2, .int 0), (0, .ref (q 0)), (1, .int (nI j))] := hl
          refine lv_iload_n hx hb d_O_anyPart_53 rfl (lv_at hl 4 rfl) ?_
          refine lv_if_ne (tgt := 94) hx hb d_O_anyPart_54 (by decide) (fun h => absurd h (by decide)) (fun _ => ?_)
          refine lv_iload hx hb d_O_anyPart_57 (lv_at hl 2 rfl) ?_
          refine lv_if_lt (tgt := 98) hx hb d_O_anyPart_59 (by decide) (fun h59 => ?_) (fun h59 => ?_)
          · skip
            refine lv_iconst (v := 0) hx hb d_O_anyPart_98 (by decide) ?_
            refine lv_istore_n hx hb d_O_anyPart_99 rfl hl (by decide) rfl (fun ls hl => ?_)
            have hl : lv_has ls 7 [(2, .int 0), (6, .int 1), (5, .int (oRow pa j (2 * i + 1))), (4, .int (oRow pa j (2 * i))), (3, .int (nI i)), (0, .ref (q 0)), (1, .int (nI j))] := hl
            refine lv_iinc (v := nI (i + 1)) hx hb d_O_anyPart_100 hl (k := 4) rfl (by rw [nI_succ]; rfl) (by decide) rfl (fun ls hl => ?_)
            have hl : lv_has ls 7 [(3, .int (nI (i + 1))), (2, .int 0), (6, .int 1), (5, .int (oRow pa j (2 * i + 1))), (4, .int (oRow pa j (2 * i))), (0, .ref (q 0)), (1, .int (nI j))] := hl
            refine lv_goto (tgt := 4) hx hb d_O_anyPart_103 (by decide) ?_
            exact ih (i + 1) false _ (by omega) (ex_f hg (fun h => h.1 h59)) (lv_sub hl [0, 1, 5, 6] rfl)
          · skip
            refine lv_iload hx hb d_O_anyPart_62 (lv_at hl 0 rfl) ?_
            refine lv_if_eq (tgt := 82) hx hb d_O_anyPart_64 (by decide) (fun h => absurd h (by decide)) (fun _ => ?_)
            refine lv_aload_n hx hb d_O_anyPart_67 rfl (lv_at hl 5 rfl) ?_
            refine va_get (D := D) (ci := 1) (v := .ref (q 11)) (C := R_O) (T := T_O) (N := 17) hx hb hA inA_O hown hK hP 0 rfl rfl 16 (by decide) (hA _ wd_438) (fun _ h9 => h9) rfl d_O_anyPart_68 ?_
            refine lv_iload hx hb d_O_anyPart_71 (lv_at hl 2 rfl) ?_
            refine va_iald hx hb hK hP 11 0 rfl rfl (hbx i (by omega) h59) d_O_anyPart_73 ?_
            refine lv_iload hx hb d_O_anyPart_74 (lv_at hl 1 rfl) ?_
            refine lv_icmp_lt (tgt := 98) hx hb d_O_anyPart_76 (by decide) (fun h76 => ?_) (fun h76 => ?_)
            · skip
              refine lv_iconst (v := 0) hx hb d_O_anyPart_98 (by decide) ?_
              refine lv_istore_n hx hb d_O_anyPart_99 rfl hl (by decide) rfl (fun ls hl => ?_)
              have hl : lv_has ls 7 [(2, .int 0), (6, .int 1), (5, .int (oRow pa j (2 * i + 1))), (4, .int (oRow pa j (2 * i))), (3, .int (nI i)), (0, .ref (q 0)), (1, .int (nI j))] := hl
              refine lv_iinc (v := nI (i + 1)) hx hb d_O_anyPart_100 hl (k := 4) rfl (by rw [nI_succ]; rfl) (by decide) rfl (fun ls hl => ?_)
              have hl : lv_has ls 7 [(3, .int (nI (i + 1))), (2, .int 0), (6, .int 1), (5, .int (oRow pa j (2 * i + 1))), (4, .int (oRow pa j (2 * i))), (0, .ref (q 0)), (1, .int (nI j))] := hl
              refine lv_goto (tgt := 4) hx hb d_O_anyPart_103 (by decide) ?_
              exact ih (i + 1) false _ (by omega) (ex_f hg (fun h => by have h5 := h.2; rw [if_pos h43] at h5; exact h5 h76)) (lv_sub hl [0, 1, 5, 6] rfl)
            · skip
              refine lv_goto (tgt := 94) hx hb d_O_anyPart_79 (by decide) ?_
              refine lv_iconst (v := 1) hx hb d_O_anyPart_94 (by decide) ?_
              refine lv_goto (tgt := 99) hx hb d_O_anyPart_95 (by decide) ?_
              refine lv_istore_n hx hb d_O_anyPart_99 rfl hl (by decide) rfl (fun ls hl => ?_)
              have hl : lv_has ls 7 [(2, .int 1), (6, .int 1), (5, .int (oRow pa j (2 * i + 1))), (4, .int (oRow pa j (2 * i))), (3, .int (nI i)), (0, .ref (q 0)), (1, .int (nI j))] := hl
              refine lv_iinc (v := nI (i + 1)) hx hb d_O_anyPart_100 hl (k := 4) rfl (by rw [nI_succ]; rfl) (by decide) rfl (fun ls hl => ?_)
              have hl : lv_has ls 7 [(3, .int (nI (i + 1))), (2, .int 1), (6, .int 1), (5, .int (oRow pa j (2 * i + 1))), (4, .int (oRow pa j (2 * i))), (0, .ref (q 0)), (1, .int (nI j))] := hl
              refine lv_goto (tgt := 4) hx hb d_O_anyPart_103 (by decide) ?_
              exact ih (i + 1) true _ (by omega) (ex_t ⟨h59, by rw [if_pos h43]; exact h76⟩) (lv_sub hl [0, 1, 5, 6] rfl)
        · skip
          have hl : lv_has ls 7 [(6, .int 1), (5, .int (oRow pa j (2 * i + 1))), (4, .int (oRow pa j (2 * i))), (3, .int (nI i)), (2, .int 1), (0, .ref (q 0)), (1, .int (nI j))] := hl
          refine lv_iload_n hx hb d_O_anyPart_53 rfl (lv_at hl 4 rfl) ?_
          refine lv_if_ne (tgt := 94) hx hb d_O_anyPart_54 (by decide) (fun _ => ?_) (fun h => absurd h (by decide))
          refine lv_iconst (v := 1) hx hb d_O_anyPart_94 (by decide) ?_
          refine lv_goto (tgt := 99) hx hb d_O_anyPart_95 (by decide) ?_
          refine lv_istore_n hx hb d_O_anyPart_99 rfl hl (by decide) rfl (fun ls hl => ?_)
          have hl : lv_has ls 7 [(2, .int 1), (6, .int 1), (5, .int (oRow pa j (2 * i + 1))), (4, .int (oRow pa j (2 * i))), (3, .int (nI i)), (0, .ref (q 0)), (1, .int (nI j))] := hl
          refine lv_iinc (v := nI (i + 1)) hx hb d_O_anyPart_100 hl (k := 4) rfl (by rw [nI_succ]; rfl) (by decide) rfl (fun ls hl => ?_)
          have hl : lv_has ls 7 [(3, .int (nI (i + 1))), (2, .int 1), (6, .int 1), (5, .int (oRow pa j (2 * i + 1))), (4, .int (oRow pa j (2 * i))), (0, .ref (q 0)), (1, .int (nI j))] := hl
          refine lv_goto (tgt := 4) hx hb d_O_anyPart_103 (by decide) ?_
          exact ih (i + 1) true _ (by omega) (ex_k hg) (lv_sub hl [0, 1, 5, 6] rfl)
  exact loop 3 0 false _ (by omega) ⟨fun h => absurd h (by decide), fun ⟨a, h, _⟩ => absurd h (by omega)⟩ (lv_sub hl [0, 1, 2, 3] rfl)
end
