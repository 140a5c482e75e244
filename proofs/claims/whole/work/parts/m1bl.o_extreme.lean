section
theorem d_O_extreme_0 : decode b_O_extreme 0 = .ok (.aload_n 0, 1) := by decide +kernel
theorem d_O_extreme_1 : decode b_O_extreme 1 = .ok (.invokevirtual 132, 3) := by decide +kernel
theorem d_O_extreme_4 : decode b_O_extreme 4 = .ok (.sipush 1000, 3) := by decide +kernel
theorem d_O_extreme_7 : decode b_O_extreme 7 = .ok (.istore_n 3, 1) := by decide +kernel
theorem d_O_extreme_8 : decode b_O_extreme 8 = .ok (.iconst 0, 1) := by decide +kernel
theorem d_O_extreme_9 : decode b_O_extreme 9 = .ok (.istore 4, 2) := by decide +kernel
theorem d_O_extreme_11 : decode b_O_extreme 11 = .ok (.iload 4, 2) := by decide +kernel
theorem d_O_extreme_13 : decode b_O_extreme 13 = .ok (.aload_n 0, 1) := by decide +kernel
theorem d_O_extreme_14 : decode b_O_extreme 14 = .ok (.getfield 19, 3) := by decide +kernel
theorem d_O_extreme_17 : decode b_O_extreme 17 = .ok (.if_icmp .ge 73, 3) := by decide +kernel
theorem d_O_extreme_20 : decode b_O_extreme 20 = .ok (.aload_n 0, 1) := by decide +kernel
theorem d_O_extreme_21 : decode b_O_extreme 21 = .ok (.iload 4, 2) := by decide +kernel
theorem d_O_extreme_23 : decode b_O_extreme 23 = .ok (.iload_n 1, 1) := by decide +kernel
theorem d_O_extreme_24 : decode b_O_extreme 24 = .ok (.invokevirtual 125, 3) := by decide +kernel
theorem d_O_extreme_27 : decode b_O_extreme 27 = .ok (.istore 5, 2) := by decide +kernel
theorem d_O_extreme_29 : decode b_O_extreme 29 = .ok (.iload_n 3, 1) := by decide +kernel
theorem d_O_extreme_30 : decode b_O_extreme 30 = .ok (.sipush 1000, 3) := by decide +kernel
theorem d_O_extreme_33 : decode b_O_extreme 33 = .ok (.if_icmp .eq 22, 3) := by decide +kernel
theorem d_O_extreme_36 : decode b_O_extreme 36 = .ok (.iload_n 2, 1) := by decide +kernel
theorem d_O_extreme_37 : decode b_O_extreme 37 = .ok (.ifCond .eq 12, 3) := by decide +kernel
theorem d_O_extreme_40 : decode b_O_extreme 40 = .ok (.iload 5, 2) := by decide +kernel
theorem d_O_extreme_42 : decode b_O_extreme 42 = .ok (.iload_n 3, 1) := by decide +kernel
theorem d_O_extreme_43 : decode b_O_extreme 43 = .ok (.if_icmp .le 16, 3) := by decide +kernel
theorem d_O_extreme_46 : decode b_O_extreme 46 = .ok (.goto 9, 3) := by decide +kernel
theorem d_O_extreme_49 : decode b_O_extreme 49 = .ok (.iload 5, 2) := by decide +kernel
theorem d_O_extreme_51 : decode b_O_extreme 51 = .ok (.iload_n 3, 1) := by decide +kernel
theorem d_O_extreme_52 : decode b_O_extreme 52 = .ok (.if_icmp .ge 7, 3) := by decide +kernel
theorem d_O_extreme_55 : decode b_O_extreme 55 = .ok (.iconst 1, 1) := by decide +kernel
theorem d_O_extreme_56 : decode b_O_extreme 56 = .ok (.goto 4, 3) := by decide +kernel
theorem d_O_extreme_59 : decode b_O_extreme 59 = .ok (.iconst 0, 1) := by decide +kernel
theorem d_O_extreme_60 : decode b_O_extreme 60 = .ok (.istore 6, 2) := by decide +kernel
theorem d_O_extreme_62 : decode b_O_extreme 62 = .ok (.aload_n 0, 1) := by decide +kernel
theorem d_O_extreme_63 : decode b_O_extreme 63 = .ok (.getfield 42, 3) := by decide +kernel
theorem d_O_extreme_66 : decode b_O_extreme 66 = .ok (.iload 4, 2) := by decide +kernel
theorem d_O_extreme_68 : decode b_O_extreme 68 = .ok (.baload, 1) := by decide +kernel
theorem d_O_extreme_69 : decode b_O_extreme 69 = .ok (.ifCond .eq 13, 3) := by decide +kernel
theorem d_O_extreme_72 : decode b_O_extreme 72 = .ok (.iload 6, 2) := by decide +kernel
theorem d_O_extreme_74 : decode b_O_extreme 74 = .ok (.ifCond .eq 8, 3) := by decide +kernel
theorem d_O_extreme_77 : decode b_O_extreme 77 = .ok (.iload 5, 2) := by decide +kernel
theorem d_O_extreme_79 : decode b_O_extreme 79 = .ok (.goto 4, 3) := by decide +kernel
theorem d_O_extreme_82 : decode b_O_extreme 82 = .ok (.iload_n 3, 1) := by decide +kernel
theorem d_O_extreme_83 : decode b_O_extreme 83 = .ok (.istore_n 3, 1) := by decide +kernel
theorem d_O_extreme_84 : decode b_O_extreme 84 = .ok (.iinc 4 1, 3) := by decide +kernel
theorem d_O_extreme_87 : decode b_O_extreme 87 = .ok (.goto (-76), 3) := by decide +kernel
theorem d_O_extreme_90 : decode b_O_extreme 90 = .ok (.iload_n 3, 1) := by decide +kernel
theorem d_O_extreme_91 : decode b_O_extreme 91 = .ok (.ireturn, 1) := by decide +kernel
set_option maxRecDepth 100000 in
set_option maxHeartbeats 4000000 in
theorem o_extreme (l : Launch) (D : va_G) (q : Nat → Nat) (n P rw a : Nat) (kn an : Int32) (lw s1 sd kd pa : Nat → Int32) (wd : Nat → Int64) (ao fo uo ho xo : Nat → Int32) (i mo : Int32) (sz : Nat) (hn : n ≤ 8) (ha : a ≤ 8) (hav : ∀ m, m < a → vp_in (ao m) 8) (hrw : rw ≤ 12) (hok : ∀ r, r < rw → rowOk (kd r) (oRow pa r)) (hP4 : P ≤ 4096) (hsd : ∀ i, i < n → ¬ sd i = 0 ∧ ¬ s1 i = 0) (hkn : lkP n P rw a lw s1 sd kd pa wd ao fo uo kn ho) (hiv : vp_in i 8 ∧ ¬ sd i.toNatClampNeg = 0 ∧ ¬ s1 i.toNatClampNeg = 0) : Met l y_O_extreme (wsm y_O_extreme b_O_extreme 7 (some .int)) { frames := 6, cells := 0, slots := 0, locals := 136 } (va_Pc [.ref (q 0), .int i, .int mo] (fun U => U.heap.size = sz ∧ cPre D (ow D q n P rw a kn an lw s1 sd kd pa wd ao fo uo ho xo) U)) (va_Qi (fun (r : Int32) (u : OS) => ∃ (kn9 : Int32) (ho9 xo9 : Nat → Int32), kn9 = 1 ∧ (∀ p9, p9 < P → lkOk n rw a lw s1 sd kd pa wd ao fo uo ho9 p9) ∧ r = exF ho9 (fun p7 => vIn lw s1 sd (nI p7) i.toNatClampNeg) mo P 0 1000 ∧ u = (n, P, rw, a, kn9, an, lw, s1, sd, kd, pa, wd, ao, fo, uo, ho9, xo9)) (fun u t => xB D (oW D q u) (va_A (ow D q n P rw a kn an lw s1 sd kd pa wd ao fo uo ho xo) sz) t) (va_A (ow D q n P rw a kn an lw s1 sd kd pa wd ao fo uo ho xo) sz)) 0 0 (va_A (ow D q n P rw a kn an lw s1 sd kd pa wd ao fo uo ho xo) sz) := by
  refine met_W (Qf := fun A => va_Qi (fun (r : Int32) (u : OS) => ∃ (kn9 : Int32) (ho9 xo9 : Nat → Int32), kn9 = 1 ∧ (∀ p9, p9 < P → lkOk n rw a lw s1 sd kd pa wd ao fo uo ho9 p9) ∧ r = exF ho9 (fun p7 => vIn lw s1 sd (nI p7) i.toNatClampNeg) mo P 0 1000 ∧ u = (n, P, rw, a, kn9, an, lw, s1, sd, kd, pa, wd, ao, fo, uo, ho9, xo9)) (fun u t => xB D (oW D q u) A t) A) (by decide) (Nat.le_of_ble_eq_true rfl) ?_
  intro p e s m below meth c ls A hx hb hr hlocks hml hown hin hA hP hK hD hN hl hS hAA
  have hown : s.vm.findClass R_O = some m.cls := hown
  have hl : lv_has ls 7 [(0, .ref (q 0)), (1, .int i), (2, .int mo)] := hl
  refine lv_aload_n hx hb d_O_extreme_0 rfl (lv_at hl 0 rfl) ?_
  refine wVv (n := 0) (wr := []) (Wf := oW D q) (rest := []) hx hb hml hown hA (o_look l D q n P rw a kn an lw s1 sd kd pa wd ao fo uo ho xo _ hn ha hav hrw hok hP4 hsd hkn) wv_O_132 ⟨by decide, by decide, by decide +kernel⟩ ⟨rfl, rfl, by decide, by decide⟩ rfl hl.1 ⟨Nat.le_of_ble_eq_true rfl, Nat.le_of_ble_eq_true rfl⟩ hP hK hD hS hAA hN [0, 1, 2, 3, 4, 5, 6, 7, 8, 9, 10, 11] [] rfl rfl (by decide) (by decide) (by decide) 0 1 rfl rfl rfl (Nat.le_of_ble_eq_true rfl) d_O_extreme_1 (fun u H locs hu hP hD hS => ?_)
  obtain ⟨kn9, ho9, xo9, rfl, hlk, rfl⟩ := hu
  have hP : va_P D vwCl (ow D q n P rw a 1 an lw s1 sd kd pa wd ao fo uo ho9 xo9) H := hP
  have hD : va_D A (ow D q n P rw a 1 an lw s1 sd kd pa wd ao fo uo ho9 xo9) := hD
  refine lv_sipush (v := 1000) hx hb d_O_extreme_4 (by decide) ?_
  refine lv_istore_n hx hb d_O_extreme_7 rfl hl (by decide) rfl (fun ls hl => ?_)
  have hl : lv_has ls 7 [(3, .int 1000), (0, .ref (q 0)), (1, .int i), (2, .int mo)] := hl
  refine lv_iconst (v := 0) hx hb d_O_extreme_8 (by decide) ?_
  refine lv_istore hx hb d_O_extreme_9 hl (by decide) rfl (fun ls hl => ?_)
  have hl : lv_has ls 7 [(4, .int 0), (3, .int 1000), (0, .ref (q 0)), (1, .int i), (2, .int mo)] := hl
  have loop : ∀ (t p9 : Nat) (fd : Int32) (ls : Array Slot), p9 + t = P → exF ho9 (fun p7 => vIn lw s1 sd (nI p7) i.toNatClampNeg) mo t p9 fd = exF ho9 (fun p7 => vIn lw s1 sd (nI p7) i.toNatClampNeg) mo P 0 1000 → lv_has ls 7 [(4, .int (nI p9)), (3, .int fd), (0, .ref (q 0)), (1, .int i), (2, .int mo)] → W p l e { frames := 6, cells := 0, slots := 0, locals := 136 } s m [.ref (q 0), .int i, .int mo].toArray below meth c H locs 0 0 (MQ below (va_Qi (fun (r : Int32) (u : OS) => ∃ (kn9 : Int32) (ho9 xo9 : Nat → Int32), kn9 = 1 ∧ (∀ p9, p9 < P → lkOk n rw a lw s1 sd kd pa wd ao fo uo ho9 p9) ∧ r = exF ho9 (fun p7 => vIn lw s1 sd (nI p7) i.toNatClampNeg) mo P 0 1000 ∧ u = (n, P, rw, a, kn9, an, lw, s1, sd, kd, pa, wd, ao, fo, uo, ho9, xo9)) (fun u t => xB D (oW D q u) A t) A) [.ref (q 0), .int i, .int mo].toArray s 0 0 A) (F0 m 11 ls []) := by
    intro t
    induction t with
    | zero =>
      intro p9 fd ls hp9 hf hl
      refine lv_iload hx hb d_O_extreme_11 (lv_at hl 0 rfl) ?_
      refine lv_aload_n hx hb d_O_extreme_13 rfl (lv_at hl 2 rfl) ?_
      refine va_get (D := D) (ci := 1) (v := .int (nI P)) (C := R_O) (T := T_O) (N := 17) hx hb hA inA_O hown hK hP 0 rfl rfl 4 (by decide) (hA _ wd_426) (fun _ h9 => h9) rfl d_O_extreme_14 ?_
      refine lv_icmp_ge (tgt := 90) hx hb d_O_extreme_17 (by decide) (fun h17 => ?_) (fun h => absurd (nI_le (by omega) (by omega)) h)
      refine lv_iload_n hx hb d_O_extreme_90 rfl (lv_at hl 1 rfl) ?_
      exact eWi (n, P, rw, a, 1, an, lw, s1, sd, kd, pa, wd, ao, fo, uo, ho9, xo9) hx hb hr hlocks hP hK hD hS (⟨1, ho9, xo9, rfl, hlk, by rw [← hf]; rfl, rfl⟩) d_O_extreme_91
    | succ t ih =>
      intro p9 fd ls hp9 hf hl
      refine lv_iload hx hb d_O_extreme_11 (lv_at hl 0 rfl) ?_
      refine lv_aload_n hx hb d_O_extreme_13 rfl (lv_at hl 2 rfl) ?_
      refine va_get (D := D) (ci := 1) (v := .int (nI P)) (C := R_O) (T := T_O) (N := 17) hx hb hA inA_O hown hK hP 0 rfl rfl 4 (by decide) (hA _ wd_426) (fun _ h9 => h9) rfl d_O_extreme_14 ?_
      refine lv_icmp_ge (tgt := 90) hx hb d_O_extreme_17 (by decide) (fun h => absurd h (nI_ge (by omega) (by omega))) (fun h17 => ?_)
      refine lv_aload_n hx hb d_O_extreme_20 rfl (lv_at hl 2 rfl) ?_
      refine lv_iload hx hb d_O_extreme_21 (lv_at hl 0 rfl) ?_
      refine lv_iload_n hx hb d_O_extreme_23 rfl (lv_at hl 3 rfl) ?_
      refine rV (n := 2) (rest := []) hx hb hml hown hA (o_valueIn l D q n P rw a 1 an lw s1 sd kd pa wd ao fo uo ho9 xo9 (nI p9) i (hiv).1 (hiv).2.1 (hiv).2.2) wv_O_125 ⟨by decide, by decide, by decide +kernel⟩ ⟨rfl, rfl, by decide, by decide⟩ rfl hl.1 ⟨Nat.le_of_ble_eq_true rfl, Nat.le_of_ble_eq_true rfl⟩ hP hK hD hN 0 1 rfl rfl rfl (Nat.le_of_ble_eq_true rfl) d_O_extreme_24 (fun r hr9 => ?_)
      subst hr9
      refine lv_istore hx hb d_O_extreme_27 hl (by decide) rfl (fun ls hl => ?_)
      have hl : lv_has ls 7 [(5, .int (vIn lw s1 sd (nI p9) i.toNatClampNeg)), (4, .int (nI p9)), (3, .int fd), (0, .ref (q 0)), (1, .int i), (2, .int mo)] := hl
      refine lv_iload_n hx hb d_O_extreme_29 rfl (lv_at hl 2 rfl) ?_
      refine lv_sipush (v := 1000) hx hb d_O_extreme_30 (by decide) ?_
      refine lv_icmp_eq (tgt := 55) hx hb d_O_extreme_33 (by decide) (fun h33 => ?_) (fun h33 => ?_)
      · skip
        refine lv_iconst (v := 1) hx hb d_O_extreme_55 (by decide) ?_
        refine lv_goto (tgt := 60) hx hb d_O_extreme_56 (by decide) ?_
        refine lv_istore hx hb d_O_extreme_60 hl (by decide) rfl (fun ls hl => ?_)
        have hl : lv_has ls 7 [(6, .int 1), (5, .int (vIn lw s1 sd (nI p9) i.toNatClampNeg)), (4, .int (nI p9)), (3, .int fd), (0, .ref (q 0)), (1, .int i), (2, .int mo)] := hl
        refine lv_aload_n hx hb d_O_extreme_62 rfl (lv_at hl 4 rfl) ?_
        refine va_get (D := D) (ci := 1) (v := .ref (q 10)) (C := R_O) (T := T_O) (N := 17) hx hb hA inA_O hown hK hP 0 rfl rfl 14 (by decide) (hA _ wd_436) (fun _ h9 => h9) rfl d_O_extreme_63 ?_
        refine lv_iload hx hb d_O_extreme_66 (lv_at hl 2 rfl) ?_
        refine xz_ald hx hb hK hP 10 rfl (by omega) (by decide) d_O_extreme_68 ?_
        refine lv_if_eq (tgt := 82) hx hb d_O_extreme_69 (by decide) (fun h69 => ?_) (fun h69 => ?_)
        · skip
          refine lv_iload_n hx hb d_O_extreme_82 rfl (lv_at hl 3 rfl) ?_
          refine lv_istore_n hx hb d_O_extreme_83 rfl hl (by decide) rfl (fun ls hl => ?_)
          have hl : lv_has ls 7 [(3, .int fd), (6, .int 1), (5, .int (vIn lw s1 sd (nI p9) i.toNatClampNeg)), (4, .int (nI p9)), (0, .ref (q 0)), (1, .int i), (2, .int mo)] := hl
          refine lv_iinc (v := nI (p9 + 1)) hx hb d_O_extreme_84 hl (k := 3) rfl (by rw [nI_succ]; rfl) (by decide) rfl (fun ls hl => ?_)
          have hl : lv_has ls 7 [(4, .int (nI (p9 + 1))), (3, .int fd), (6, .int 1), (5, .int (vIn lw s1 sd (nI p9) i.toNatClampNeg)), (0, .ref (q 0)), (1, .int i), (2, .int mo)] := hl
          refine lv_goto (tgt := 11) hx hb d_O_extreme_87 (by decide) ?_
          exact ih (p9 + 1) _ _ (by omega) ((exF_no (fun h => h.1 h69)).symm.trans hf) (lv_sub hl [0, 1, 4, 5, 6] rfl)
        · skip
          refine lv_iload hx hb d_O_extreme_72 (lv_at hl 0 rfl) ?_
          refine lv_if_eq (tgt := 82) hx hb d_O_extreme_74 (by decide) (fun h => absurd h (by decide)) (fun _ => ?_)
          refine lv_iload hx hb d_O_extreme_77 (lv_at hl 1 rfl) ?_
          refine lv_goto (tgt := 83) hx hb d_O_extreme_79 (by decide) ?_
          refine lv_istore_n hx hb d_O_extreme_83 rfl hl (by decide) rfl (fun ls hl => ?_)
          have hl : lv_has ls 7 [(3, .int (vIn lw s1 sd (nI p9) i.toNatClampNeg)), (6, .int 1), (5, .int (vIn lw s1 sd (nI p9) i.toNatClampNeg)), (4, .int (nI p9)), (0, .ref (q 0)), (1, .int i), (2, .int mo)] := hl
          refine lv_iinc (v := nI (p9 + 1)) hx hb d_O_extreme_84 hl (k := 3) rfl (by rw [nI_succ]; rfl) (by decide) rfl (fun ls hl => ?_)
          have hl : lv_has ls 7 [(4, .int (nI (p9 + 1))), (3, .int (vIn lw s1 sd (nI p9) i.toNatClampNeg)), (6, .int 1), (5, .int (vIn lw s1 sd (nI p9) i.toNatClampNeg)), (0, .ref (q 0)), (1, .int i), (2, .int mo)] := hl
          refine lv_goto (tgt := 11) hx hb d_O_extreme_87 (by decide) ?_
          exact ih (p9 + 1) _ _ (by omega) ((exF_go ⟨h69, Or.inl h33⟩).symm.trans hf) (lv_sub hl [0, 1, 4, 5, 6] rfl)
      · skip
        refine lv_iload_n hx hb d_O_extreme_36 rfl (lv_at hl 5 rfl) ?_
        refine lv_if_eq (tgt := 49) hx hb d_O_extreme_37 (by decide) (fun h37 => ?_) (fun h37 => ?_)
        · skip
          refine lv_iload hx hb d_O_extreme_49 (lv_at hl 0 rfl) ?_
          refine lv_iload_n hx hb d_O_extreme_51 rfl (lv_at hl 2 rfl) ?_
          refine lv_icmp_ge (tgt := 59) hx hb d_O_extreme_52 (by decide) (fun h52 => ?_) (fun h52 => ?_)
          · skip
            refine lv_iconst (v := 0) hx hb d_O_extreme_59 (by decide) ?_
            refine lv_istore hx hb d_O_extreme_60 hl (by decide) rfl (fun ls hl => ?_)
            have hl : lv_has ls 7 [(6, .int 0), (5, .int (vIn lw s1 sd (nI p9) i.toNatClampNeg)), (4, .int (nI p9)), (3, .int fd), (0, .ref (q 0)), (1, .int i), (2, .int mo)] := hl
            refine lv_aload_n hx hb d_O_extreme_62 rfl (lv_at hl 4 rfl) ?_
            refine va_get (D := D) (ci := 1) (v := .ref (q 10)) (C := R_O) (T := T_O) (N := 17) hx hb hA inA_O hown hK hP 0 rfl rfl 14 (by decide) (hA _ wd_436) (fun _ h9 => h9) rfl d_O_extreme_63 ?_
            refine lv_iload hx hb d_O_extreme_66 (lv_at hl 2 rfl) ?_
            refine xz_ald hx hb hK hP 10 rfl (by omega) (by decide) d_O_extreme_68 ?_
            refine lv_if_eq (tgt := 82) hx hb d_O_extreme_69 (by decide) (fun h69 => ?_) (fun h69 => ?_)
            · skip
              refine lv_iload_n hx hb d_O_extreme_82 rfl (lv_at hl 3 rfl) ?_
              refine lv_istore_n hx hb d_O_extreme_83 rfl hl (by decide) rfl (fun ls hl => ?_)
              have hl : lv_has ls 7 [(3, .int fd), (6, .int 0), (5, .int (vIn lw s1 sd (nI p9) i.toNatClampNeg)), (4, .int (nI p9)), (0, .ref (q 0)), (1, .int i), (2, .int mo)] := hl
              refine lv_iinc (v := nI (p9 + 1)) hx hb d_O_extreme_84 hl (k := 3) rfl (by rw [nI_succ]; rfl) (by decide) rfl (fun ls hl => ?_)
              have hl : lv_has ls 7 [(4, .int (nI (p9 + 1))), (3, .int fd), (6, .int 0), (5, .int (vIn lw s1 sd (nI p9) i.toNatClampNeg)), (0, .ref (q 0)), (1, .int i), (2, .int mo)] := hl
              refine lv_goto (tgt := 11) hx hb d_O_extreme_87 (by decide) ?_
              exact ih (p9 + 1) _ _ (by omega) ((exF_no (fun h => h.1 h69)).symm.trans hf) (lv_sub hl [0, 1, 4, 5, 6] rfl)
            · skip
              refine lv_iload hx hb d_O_extreme_72 (lv_at hl 0 rfl) ?_
              refine lv_if_eq (tgt := 82) hx hb d_O_extreme_74 (by decide) (fun _ => ?_) (fun h => absurd h (by decide))
              refine lv_iload_n hx hb d_O_extreme_82 rfl (lv_at hl 3 rfl) ?_
              refine lv_istore_n hx hb d_O_extreme_83 rfl hl (by decide) rfl (fun ls hl => ?_)
              have hl : lv_has ls 7 [(3, .int fd), (6, .int 0), (5, .int (vIn lw s1 sd (nI p9) i.toNatClampNeg)), (4, .int (nI p9)), (0, .ref (q 0)), (1, .int i), (2, .int mo)] := hl
              refine lv_iinc (v := nI (p9 + 1)) hx hb d_O_extreme_84 hl (k := 3) rfl (by rw [nI_succ]; rfl) (by decide) rfl (fun ls hl => ?_)
              have hl : lv_has ls 7 [(4, .int (nI (p9 + 1))), (3, .int fd), (6, .int 0), (5, .int (vIn lw s1 sd (nI p9) i.toNatClampNeg)), (0, .ref (q 0)), (1, .int i), (2, .int mo)] := hl
              refine lv_goto (tgt := 11) hx hb d_O_extreme_87 (by decide) ?_
              exact ih (p9 + 1) _ _ (by omega) ((exF_no (fun h => h.2.elim h33 (fun h => by rw [if_pos h37] at h; exact h h52))).symm.trans hf) (lv_sub hl [0, 1, 4, 5, 6] rfl)
          · skip
            refine lv_iconst (v := 1) hx hb d_O_extreme_55 (by decide) ?_
            refine lv_goto (tgt := 60) hx hb d_O_extreme_56 (by decide) ?_
            refine lv_istore hx hb d_O_extreme_60 hl (by decide) rfl (fun ls hl => ?_)
            have hl : lv_has ls 7 [(6, .int 1), (5, .int (vIn lw s1 sd (nI p9) i.toNatClampNeg)), (4, .int (nI p9)), (3, .int fd), (0, .ref (q 0)), (1, .int i), (2, .int mo)] := hl
            refine lv_aload_n hx hb d_O_extreme_62 rfl (lv_at hl 4 rfl) ?_
            refine va_get (D := D) (ci := 1) (v := .ref (q 10)) (C := R_O) (T := T_O) (N := 17) hx hb hA inA_O hown hK hP 0 rfl rfl 14 (by decide) (hA _ wd_436) (fun _ h9 => h9) rfl d_O_extreme_63 ?_
            refine lv_iload hx hb d_O_extreme_66 (lv_at hl 2 rfl) ?_
            refine xz_ald hx hb hK hP 10 rfl (by omega) (by decide) d_O_extreme_68 ?_
            refine lv_if_eq (tgt := 82) hx hb d_O_extreme_69 (by decide) (fun h69 => ?_) (fun h69 => ?_)
            · skip
              refine lv_iload_n hx hb d_O_extreme_82 rfl (lv_at hl 3 rfl) ?_
              refine lv_istore_n hx hb d_O_extreme_83 rfl hl (by decide) rfl (fun ls hl => ?_)
              have hl : lv_has ls 7 [(3, .int fd), (6, .int 1), (5, .int (vIn lw s1 sd (nI p9) i.toNatClampNeg)), (4, .int (nI p9)), (0, .ref (q 0)), (1, .int i), (2, .int mo)] := hl
              refine lv_iinc (v := nI (p9 + 1)) hx hb d_O_extreme_84 hl (k := 3) rfl (by rw [nI_succ]; rfl) (by decide) rfl (fun ls hl => ?_)
              have hl : lv_has ls 7 [(4, .int (nI (p9 + 1))), (3, .int fd), (6, .int 1), (5, .int (vIn lw s1 sd (nI p9) i.toNatClampNeg)), (0, .ref (q 0)), (1, .int i), (2, .int mo)] := hl
              refine lv_goto (tgt := 11) hx hb d_O_extreme_87 (by decide) ?_
              exact ih (p9 + 1) _ _ (by omega) ((exF_no (fun h => h.1 h69)).symm.trans hf) (lv_sub hl [0, 1, 4, 5, 6] rfl)
            · skip
              refine lv_iload hx hb d_O_extreme_72 (lv_at hl 0 rfl) ?_
              refine lv_if_eq (tgt := 82) hx hb d_O_extreme_74 (by decide) (fun h => absurd h (by decide)) (fun _ => ?_)
              refine lv_iload hx hb d_O_extreme_77 (lv_at hl 1 rfl) ?_
              refine lv_goto (tgt := 83) hx hb d_O_extreme_79 (by decide) ?_
              refine lv_istore_n hx hb d_O_extreme_83 rfl hl (by decide) rfl (fun ls hl => ?_)
              have hl : lv_has ls 7 [(3, .int (vIn lw s1 sd (nI p9) i.toNatClampNeg)), (6, .int 1), (5, .int (vIn lw s1 sd (nI p9) i.toNatClampNeg)), (4, .int (nI p9)), (0, .ref (q 0)), (1, .int i), (2, .int mo)] := hl
              refine lv_iinc (v := nI (p9 + 1)) hx hb d_O_extreme_84 hl (k := 3) rfl (by rw [nI_succ]; rfl) (by decide) rfl (fun ls hl => ?_)
              have hl : lv_has ls 7 [(4, .int (nI (p9 + 1))), (3, .int (vIn lw s1 sd (nI p9) i.toNatClampNeg)), (6, .int 1), (5, .int (vIn lw s1 sd (nI p9) i.toNatClampNeg)), (0, .ref (q 0)), (1, .int i), (2, .int mo)] := hl
              refine lv_goto (tgt := 11) hx hb d_O_extreme_87 (by decide) ?_
              exact ih (p9 + 1) _ _ (by omega) ((exF_go ⟨h69, Or.inr (by rw [if_pos h37]; exact h52)⟩).symm.trans hf) (lv_sub hl [0, 1, 4, 5, 6] rfl)
        · skip
          refine lv_iload hx hb d_O_extreme_40 (lv_at hl 0 rfl) ?_
          refine lv_iload_n hx hb d_O_extreme_42 rfl (lv_at hl 2 rfl) ?_
          refine lv_icmp_le (tgt := 59) hx hb d_O_extreme_43 (by decide) (fun h43 => ?_) (fun h43 => ?_)
          · skip
            refine lv_iconst (v := 0) hx hb d_O_extreme_59 (by decide) ?_
            refine lv_istore hx hb d_O_extreme_60 hl (by decide) rfl (fun ls hl => ?_)
            have hl : lv_has ls 7 [(6, .int 0), (5, .int (vIn lw s1 sd (nI p9) i.toNatClampNeg)), (4, .int (nI p9)), (3, .int fd), (0, .ref (q 0)), (1, .int i), (2, .int mo)] := hl
            refine lv_aload_n hx hb d_O_extreme_62 rfl (lv_at hl 4 rfl) ?_
            refine va_get (D := D) (ci := 1) (v := .ref (q 10)) (C := R_O) (T := T_O) (N := 17) hx hb hA inA_O hown hK hP 0 rfl rfl 14 (by decide) (hA _ wd_436) (fun _ h9 => h9) rfl d_O_extreme_63 ?_
            refine lv_iload hx hb d_O_extreme_66 (lv_at hl 2 rfl) ?_
            refine xz_ald hx hb hK hP 10 rfl (by omega) (by decide) d_O_extreme_68 ?_
            refine lv_if_eq (tgt := 82) hx hb d_O_extreme_69 (by decide) (fun h69 => ?_) (fun h69 => ?_)
            · skip
              refine lv_iload_n hx hb d_O_extreme_82 rfl (lv_at hl 3 rfl) ?_
              refine lv_istore_n hx hb d_O_extreme_83 rfl hl (by decide) rfl (fun ls hl => ?_)
              have hl : lv_has ls 7 [(3, .int fd), (6, .int 0), (5, .int (vIn lw s1 sd (nI p9) i.toNatClampNeg)), (4, .int (nI p9)), (0, .ref (q 0)), (1, .int i), (2, .int mo)] := hl
              refine lv_iinc (v := nI (p9 + 1)) hx hb d_O_extreme_84 hl (k := 3) rfl (by rw [nI_succ]; rfl) (by decide) rfl (fun ls hl => ?_)
              have hl : lv_has ls 7 [(4, .int (nI (p9 + 1))), (3, .int fd), (6, .int 0), (5, .int (vIn lw s1 sd (nI p9) i.toNatClampNeg)), (0, .ref (q 0)), (1, .int i), (2, .int mo)] := hl
              refine lv_goto (tgt := 11) hx hb d_O_extreme_87 (by decide) ?_
              exact ih (p9 + 1) _ _ (by omega) ((exF_no (fun h => h.1 h69)).symm.trans hf) (lv_sub hl [0, 1, 4, 5, 6] rfl)
            · skip
              refine lv_iload hx hb d_O_extreme_72 (lv_at hl 0 rfl) ?_
              refine lv_if_eq (tgt := 82) hx hb d_O_extreme_74 (by decide) (fun _ => ?_) (fun h => absurd h (by decide))
              refine lv_iload_n hx hb d_O_extreme_82 rfl (lv_at hl 3 rfl) ?_
              refine lv_istore_n hx hb d_O_extreme_83 rfl hl (by decide) rfl (fun ls hl => ?_)
              have hl : lv_has ls 7 [(3, .int fd), (6, .int 0), (5, .int (vIn lw s1 sd (nI p9) i.toNatClampNeg)), (4, .int (nI p9)), (0, .ref (q 0)), (1, .int i), (2, .int mo)] := hl
              refine lv_iinc (v := nI (p9 + 1)) hx hb d_O_extreme_84 hl (k := 3) rfl (by rw [nI_succ]; rfl) (by decide) rfl (fun ls hl => ?_)
              have hl : lv_has ls 7 [(4, .int (nI (p9 + 1))), (3, .int fd), (6, .int 0), (5, .int (vIn lw s1 sd (nI p9) i.toNatClampNeg)), (0, .ref (q 0)), (1, .int i), (2, .int mo)] := hl
              refine lv_goto (tgt := 11) hx hb d_O_extreme_87 (by decide) ?_
              exact ih (p9 + 1) _ _ (by omega) ((exF_no (fun h => h.2.elim h33 (fun h => by rw [if_neg h37] at h; exact h h43))).symm.trans hf) (lv_sub hl [0, 1, 4, 5, 6] rfl)
          · skip
            refine lv_goto (tgt := 55) hx hb d_O_extreme_46 (by decide) ?_
            refine lv_iconst (v := 1) hx hb d_O_extreme_55 (by decide) ?_
            refine lv_goto (tgt := 60) hx hb d_O_extreme_56 (by decide) ?_
            refine lv_istore hx hb d_O_extreme_60 hl (by decide) rfl (fun ls hl => ?_)
            have hl : lv_has ls 7 [(6, .int 1), (5, .int (vIn lw s1 sd (nI p9) i.toNatClampNeg)), (4, .int (nI p9)), (3, .int fd), (0, .ref (q 0)), (1, .int i), (2, .int mo)] := hl
            refine lv_aload_n hx hb d_O_extreme_62 rfl (lv_at hl 4 rfl) ?_
            refine va_get (D := D) (ci := 1) (v := .ref (q 10)) (C := R_O) (T := T_O) (N := 17) hx hb hA inA_O hown hK hP 0 rfl rfl 14 (by decide) (hA _ wd_436) (fun _ h9 => h9) rfl d_O_extreme_63 ?_
            refine lv_iload hx hb d_O_extreme_66 (lv_at hl 2 rfl) ?_
            refine xz_ald hx hb hK hP 10 rfl (by omega) (by decide) d_O_extreme_68 ?_
            refine lv_if_eq (tgt := 82) hx hb d_O_extreme_69 (by decide) (fun h69 => ?_) (fun h69 => ?_)
            · skip
              refine lv_iload_n hx hb d_O_extreme_82 rfl (lv_at hl 3 rfl) ?_
              refine lv_istore_n hx hb d_O_extreme_83 rfl hl (by decide) rfl (fun ls hl => ?_)
              have hl : lv_has ls 7 [(3, .int fd), (6, .int 1), (5, .int (vIn lw s1 sd (nI p9) i.toNatClampNeg)), (4, .int (nI p9)), (0, .ref (q 0)), (1, .int i), (2, .int mo)] := hl
              refine lv_iinc (v := nI (p9 + 1)) hx hb d_O_extreme_84 hl (k := 3) rfl (by rw [nI_succ]; rfl) (by decide) rfl (fun ls hl => ?_)
              have hl : lv_has ls 7 [(4, .int (nI (p9 + 1))), (3, .int fd), (6, .int 1), (5, .int (vIn lw s1 sd (nI p9) i.toNatClampNeg)), (0, .ref (q 0)), (1, .int i), (2, .int mo)] := hl
              refine lv_goto (tgt := 11) hx hb d_O_extreme_87 (by decide) ?_
              exact ih (p9 + 1) _ _ (by omega) ((exF_no (fun h => h.1 h69)).symm.trans hf) (lv_sub hl [0, 1, 4, 5, 6] rfl)
            · skip
              refine lv_iload hx hb d_O_extreme_72 (lv_at hl 0 rfl) ?_
              refine lv_if_eq (tgt := 82) hx hb d_O_extreme_74 (by decide) (fun h => absurd h (by decide)) (fun _ => ?_)
              refine lv_iload hx hb d_O_extreme_77 (lv_at hl 1 rfl) ?_
              refine lv_goto (tgt := 83) hx hb d_O_extreme_79 (by decide) ?_
              refine lv_istore_n hx hb d_O_extreme_83 rfl hl (by decide) rfl (fun ls hl => ?_)
              have hl : lv_has ls 7 [(3, .int (vIn lw s1 sd (nI p9) i.toNatClampNeg)), (6, .int 1), (5, .int (vIn lw s1 sd (nI p9) i.toNatClampNeg)), (4, .int (nI p9)), (0, .ref (q 0)), (1, .int i), (2, .int mo)] := hl
              refine lv_iinc (v := nI (p9 + 1)) hx hb d_O_extreme_84 hl (k := 3) rfl (by rw [nI_succ]; rfl) (by decide) rfl (fun ls hl => ?_)
              have hl : lv_has ls 7 [(4, .int (nI (p9 + 1))), (3, .int (vIn lw s1 sd (nI p9) i.toNatClampNeg)), (6, .int 1), (5, .int (vIn lw s1 sd (nI p9) i.toNatClampNeg)), (0, .ref (q 0)), (1, .int i), (2, .int mo)] := hl
              refine lv_goto (tgt := 11) hx hb d_O_extreme_87 (by decide) ?_
              exact ih (p9 + 1) _ _ (by omega) ((exF_go ⟨h69, Or.inr (by rw [if_neg h37]; exact h43)⟩).symm.trans hf) (lv_sub hl [0, 1, 4, 5, 6] rfl)
  exact loop P 0 1000 _ (by omega) rfl (lv_sub hl [0, 1, 2, 3, 4] rfl)
end
