section
theorem d_O_implies_0 : decode b_O_implies 0 = .ok (.aload_n 0, 1) := by decide +kernel
theorem d_O_implies_1 : decode b_O_implies 1 = .ok (.iload_n 1, 1) := by decide +kernel
theorem d_O_implies_2 : decode b_O_implies 2 = .ok (.invokevirtual 59, 3) := by decide +kernel
theorem d_O_implies_5 : decode b_O_implies 5 = .ok (.ifCond .ne 5, 3) := by decide +kernel
theorem d_O_implies_8 : decode b_O_implies 8 = .ok (.iconst 0, 1) := by decide +kernel
theorem d_O_implies_9 : decode b_O_implies 9 = .ok (.ireturn, 1) := by decide +kernel
theorem d_O_implies_10 : decode b_O_implies 10 = .ok (.aload_n 0, 1) := by decide +kernel
theorem d_O_implies_11 : decode b_O_implies 11 = .ok (.iload_n 1, 1) := by decide +kernel
theorem d_O_implies_12 : decode b_O_implies 12 = .ok (.iconst 1, 1) := by decide +kernel
theorem d_O_implies_13 : decode b_O_implies 13 = .ok (.invokevirtual 138, 3) := by decide +kernel
theorem d_O_implies_16 : decode b_O_implies 16 = .ok (.istore_n 3, 1) := by decide +kernel
theorem d_O_implies_17 : decode b_O_implies 17 = .ok (.iload_n 3, 1) := by decide +kernel
theorem d_O_implies_18 : decode b_O_implies 18 = .ok (.sipush 1000, 3) := by decide +kernel
theorem d_O_implies_21 : decode b_O_implies 21 = .ok (.if_icmp .eq 8, 3) := by decide +kernel
theorem d_O_implies_24 : decode b_O_implies 24 = .ok (.iload_n 3, 1) := by decide +kernel
theorem d_O_implies_25 : decode b_O_implies 25 = .ok (.iload_n 2, 1) := by decide +kernel
theorem d_O_implies_26 : decode b_O_implies 26 = .ok (.if_icmp .gt 7, 3) := by decide +kernel
theorem d_O_implies_29 : decode b_O_implies 29 = .ok (.iconst 1, 1) := by decide +kernel
theorem d_O_implies_30 : decode b_O_implies 30 = .ok (.goto 4, 3) := by decide +kernel
theorem d_O_implies_33 : decode b_O_implies 33 = .ok (.iconst 0, 1) := by decide +kernel
theorem d_O_implies_34 : decode b_O_implies 34 = .ok (.ireturn, 1) := by decide +kernel
set_option maxRecDepth 100000 in
set_option maxHeartbeats 4000000 in
theorem o_implies (l : Launch) (D : va_G) (q : Nat → Nat) (n P rw a : Nat) (kn an : Int32) (lw s1 sd kd pa : Nat → Int32) (wd : Nat → Int64) (ao fo uo ho xo : Nat → Int32) (i v : Int32) (sz : Nat) (hn : n ≤ 8) (ha : a ≤ 8) (hav : ∀ m, m < a → vp_in (ao m) 8) (hrw : rw ≤ 12) (hok : ∀ r, r < rw → rowOk (kd r) (oRow pa r)) (hP4 : P ≤ 4096) (hsd : ∀ i, i < n → ¬ sd i = 0 ∧ ¬ s1 i = 0) (hkn : lkP n P rw a lw s1 sd kd pa wd ao fo uo kn ho) : Met l y_O_implies (wsm y_O_implies b_O_implies 4 (some .boolean)) { frames := 7, cells := 0, slots := 0, locals := 162 } (va_Pc [.ref (q 0), .int i, .int v] (fun U => U.heap.size = sz ∧ cPre D (ow D q n P rw a kn an lw s1 sd kd pa wd ao fo uo ho xo) U)) (va_Qi (fun (r : Int32) (u : OS) => (¬ iv n i ∧ r = 0 ∧ u = (n, P, rw, a, kn, an, lw, s1, sd, kd, pa, wd, ao, fo, uo, ho, xo)) ∨ (iv n i ∧ ∃ (kn9 : Int32) (ho9 xo9 : Nat → Int32), kn9 = 1 ∧ (∀ p9, p9 < P → lkOk n rw a lw s1 sd kd pa wd ao fo uo ho9 p9) ∧ r = zb (decide (exF ho9 (fun p7 => vIn lw s1 sd (nI p7) i.toNatClampNeg) 1 P 0 1000 = 1000 ∨ ¬ v < exF ho9 (fun p7 => vIn lw s1 sd (nI p7) i.toNatClampNeg) 1 P 0 1000)) ∧ u = (n, P, rw, a, kn9, an, lw, s1, sd, kd, pa, wd, ao, fo, uo, ho9, xo9))) (fun u t => xB D (oW D q u) (va_A (ow D q n P rw a kn an lw s1 sd kd pa wd ao fo uo ho xo) sz) t) (va_A (ow D q n P rw a kn an lw s1 sd kd pa wd ao fo uo ho xo) sz)) 0 0 (va_A (ow D q n P rw a kn an lw s1 sd kd pa wd ao fo uo ho xo) sz) := by
  refine met_W (Qf := fun A => va_Qi (fun (r : Int32) (u : OS) => (¬ iv n i ∧ r = 0 ∧ u = (n, P, rw, a, kn, an, lw, s1, sd, kd, pa, wd, ao, fo, uo, ho, xo)) ∨ (iv n i ∧ ∃ (kn9 : Int32) (ho9 xo9 : Nat → Int32), kn9 = 1 ∧ (∀ p9, p9 < P → lkOk n rw a lw s1 sd kd pa wd ao fo uo ho9 p9) ∧ r = zb (decide (exF ho9 (fun p7 => vIn lw s1 sd (nI p7) i.toNatClampNeg) 1 P 0 1000 = 1000 ∨ ¬ v < exF ho9 (fun p7 => vIn lw s1 sd (nI p7) i.toNatClampNeg) 1 P 0 1000)) ∧ u = (n, P, rw, a, kn9, an, lw, s1, sd, kd, pa, wd, ao, fo, uo, ho9, xo9))) (fun u t => xB D (oW D q u) A t) A) (by decide) (Nat.le_of_ble_eq_true rfl) ?_
  intro p e s m below meth c ls A hx hb hr hlocks hml hown hin hA hP hK hD hN hl hS hAA
  have hown : s.vm.findClass R_O = some m.cls := hown
  have hl : lv_has ls 4 [(0, .ref (q 0)), (1, .int i), (2, .int v)] := hl
  refine lv_aload_n hx hb d_O_implies_0 rfl (lv_at hl 0 rfl) ?_
  refine lv_iload_n hx hb d_O_implies_1 rfl (lv_at hl 1 rfl) ?_
  refine rV (n := 1) (rest := []) hx hb hml hown hA (o_isVariable l D q n P rw a kn an lw s1 sd kd pa wd ao fo uo ho xo i) wv_O_59 ⟨by decide, by decide, by decide +kernel⟩ ⟨rfl, rfl, by decide, by decide⟩ rfl hl.1 ⟨Nat.le_of_ble_eq_true rfl, Nat.le_of_ble_eq_true rfl⟩ hP hK hD hN 0 1 rfl rfl rfl (Nat.le_of_ble_eq_true rfl) d_O_implies_2 (fun r hr9 => ?_)
  rcases zb_c hr9 with ⟨rfl, h2⟩ | ⟨rfl, h2⟩
  · skip
    refine lv_if_ne (tgt := 10) hx hb d_O_implies_5 (by decide) (fun _ => ?_) (fun h => absurd h (by decide))
    refine lv_aload_n hx hb d_O_implies_10 rfl (lv_at hl 0 rfl) ?_
    refine lv_iload_n hx hb d_O_implies_11 rfl (lv_at hl 1 rfl) ?_
    refine lv_iconst (v := 1) hx hb d_O_implies_12 (by decide) ?_
    refine wVi (n := 2) (wr := []) (Wf := oW D q) (rest := []) hx hb hml hown hA (o_extreme l D q n P rw a kn an lw s1 sd kd pa wd ao fo uo ho xo i 1 _ hn ha hav hrw hok hP4 hsd hkn (viv h2 hn hsd)) wv_O_138 ⟨by decide, by decide, by decide +kernel⟩ ⟨rfl, rfl, by decide, by decide⟩ rfl hl.1 ⟨Nat.le_of_ble_eq_true rfl, Nat.le_of_ble_eq_true rfl⟩ hP hK hD hS hAA hN [0, 1, 2, 3, 4, 5, 6, 7, 8, 9, 10, 11] [] rfl rfl (by decide) (by decide) (by decide) 0 1 rfl rfl rfl (Nat.le_of_ble_eq_true rfl) d_O_implies_13 (fun r u H locs hu hP hD hS => ?_)
    obtain ⟨kn9, ho9, xo9, rfl, hlk, rfl, rfl⟩ := hu
    have hP : va_P D vwCl (ow D q n P rw a 1 an lw s1 sd kd pa wd ao fo uo ho9 xo9) H := hP
    have hD : va_D A (ow D q n P rw a 1 an lw s1 sd kd pa wd ao fo uo ho9 xo9) := hD
    refine lv_istore_n hx hb d_O_implies_16 rfl hl (by decide) rfl (fun ls hl => ?_)
    have hl : lv_has ls 4 [(3, .int (exF ho9 (fun p7 => vIn lw s1 sd (nI p7) i.toNatClampNeg) 1 P 0 1000)), (0, .ref (q 0)), (1, .int i), (2, .int v)] := hl
    refine lv_iload_n hx hb d_O_implies_17 rfl (lv_at hl 0 rfl) ?_
    refine lv_sipush (v := 1000) hx hb d_O_implies_18 (by decide) ?_
    refine lv_icmp_eq (tgt := 29) hx hb d_O_implies_21 (by decide) (fun h21 => ?_) (fun h21 => ?_)
    · skip
      refine lv_iconst (v := 1) hx hb d_O_implies_29 (by decide) ?_
      refine lv_goto (tgt := 34) hx hb d_O_implies_30 (by decide) ?_
      exact eWz (n, P, rw, a, 1, an, lw, s1, sd, kd, pa, wd, ao, fo, uo, ho9, xo9) hx hb hr hlocks (by first | rfl | decide) hP hK hD hS (Or.inr ⟨h2, 1, ho9, xo9, rfl, hlk, zb_t (Or.inl h21), rfl⟩) d_O_implies_34
    · skip
      refine lv_iload_n hx hb d_O_implies_24 rfl (lv_at hl 0 rfl) ?_
      refine lv_iload_n hx hb d_O_implies_25 rfl (lv_at hl 3 rfl) ?_
      refine lv_icmp_gt (tgt := 33) hx hb d_O_implies_26 (by decide) (fun h26 => ?_) (fun h26 => ?_)
      · skip
        refine lv_iconst (v := 0) hx hb d_O_implies_33 (by decide) ?_
        exact eWz (n, P, rw, a, 1, an, lw, s1, sd, kd, pa, wd, ao, fo, uo, ho9, xo9) hx hb hr hlocks (by first | rfl | decide) hP hK hD hS (Or.inr ⟨h2, 1, ho9, xo9, rfl, hlk, zb_f (fun h => h.elim h21 (fun h => h h26)), rfl⟩) d_O_implies_34
      · skip
        refine lv_iconst (v := 1) hx hb d_O_implies_29 (by decide) ?_
        refine lv_goto (tgt := 34) hx hb d_O_implies_30 (by decide) ?_
        exact eWz (n, P, rw, a, 1, an, lw, s1, sd, kd, pa, wd, ao, fo, uo, ho9, xo9) hx hb hr hlocks (by first | rfl | decide) hP hK hD hS (Or.inr ⟨h2, 1, ho9, xo9, rfl, hlk, zb_t (Or.inr h26), rfl⟩) d_O_implies_34
  · skip
    refine lv_if_ne (tgt := 10) hx hb d_O_implies_5 (by decide) (fun h => absurd h (by decide)) (fun _ => ?_)
    refine lv_iconst (v := 0) hx hb d_O_implies_8 (by decide) ?_
    exact eWz (n, P, rw, a, kn, an, lw, s1, sd, kd, pa, wd, ao, fo, uo, ho, xo) hx hb hr hlocks (by first | rfl | decide) hP hK hD hS (Or.inl ⟨h2, rfl, rfl⟩) d_O_implies_9
end
