section
theorem ws_O_of : Cond.selects R_O y_O_of y_O_of ∈ cA := cA_in (List.mem_append_left _ (List.mem_of_getElem? (i := 24) (by decide +kernel))) rfl
theorem wv_O_90 : Cond.code y_O_of b_O_of 3 (some .int) ∈ cA ∧ Cond.initialized y_O_of.cls ∈ cA ∧ Cond.methodLink R_O 90 y_O_of ∈ cA ∧ Cond.instanceMethod y_O_of ∈ cA ∧ Cond.selects y_O_of.cls y_O_of y_O_of ∈ cA := ⟨wd_574, wd_3, wd_571, wd_573, ws_O_of⟩
theorem d_O_greatestOf_0 : decode b_O_greatestOf 0 = .ok (.aload_n 0, 1) := by decide +kernel
theorem d_O_greatestOf_1 : decode b_O_greatestOf 1 = .ok (.getfield 49, 3) := by decide +kernel
theorem d_O_greatestOf_4 : decode b_O_greatestOf 4 = .ok (.aload_n 0, 1) := by decide +kernel
theorem d_O_greatestOf_5 : decode b_O_greatestOf 5 = .ok (.iload_n 1, 1) := by decide +kernel
theorem d_O_greatestOf_6 : decode b_O_greatestOf 6 = .ok (.iconst 1, 1) := by decide +kernel
theorem d_O_greatestOf_7 : decode b_O_greatestOf 7 = .ok (.invokevirtual 90, 3) := by decide +kernel
theorem d_O_greatestOf_10 : decode b_O_greatestOf 10 = .ok (.iaload, 1) := by decide +kernel
theorem d_O_greatestOf_11 : decode b_O_greatestOf 11 = .ok (.istore_n 2, 1) := by decide +kernel
theorem d_O_greatestOf_12 : decode b_O_greatestOf 12 = .ok (.iconst 2, 1) := by decide +kernel
theorem d_O_greatestOf_13 : decode b_O_greatestOf 13 = .ok (.istore_n 3, 1) := by decide +kernel
theorem d_O_greatestOf_14 : decode b_O_greatestOf 14 = .ok (.iload_n 3, 1) := by decide +kernel
theorem d_O_greatestOf_15 : decode b_O_greatestOf 15 = .ok (.iconst 4, 1) := by decide +kernel
theorem d_O_greatestOf_16 : decode b_O_greatestOf 16 = .ok (.if_icmp .ge 45, 3) := by decide +kernel
theorem d_O_greatestOf_19 : decode b_O_greatestOf 19 = .ok (.aload_n 0, 1) := by decide +kernel
theorem d_O_greatestOf_20 : decode b_O_greatestOf 20 = .ok (.iload_n 1, 1) := by decide +kernel
theorem d_O_greatestOf_21 : decode b_O_greatestOf 21 = .ok (.iload_n 3, 1) := by decide +kernel
theorem d_O_greatestOf_22 : decode b_O_greatestOf 22 = .ok (.invokevirtual 90, 3) := by decide +kernel
theorem d_O_greatestOf_25 : decode b_O_greatestOf 25 = .ok (.istore 4, 2) := by decide +kernel
theorem d_O_greatestOf_27 : decode b_O_greatestOf 27 = .ok (.iload 4, 2) := by decide +kernel
theorem d_O_greatestOf_29 : decode b_O_greatestOf 29 = .ok (.ifCond .lt 24, 3) := by decide +kernel
theorem d_O_greatestOf_32 : decode b_O_greatestOf 32 = .ok (.aload_n 0, 1) := by decide +kernel
theorem d_O_greatestOf_33 : decode b_O_greatestOf 33 = .ok (.getfield 49, 3) := by decide +kernel
theorem d_O_greatestOf_36 : decode b_O_greatestOf 36 = .ok (.iload 4, 2) := by decide +kernel
theorem d_O_greatestOf_38 : decode b_O_greatestOf 38 = .ok (.iaload, 1) := by decide +kernel
theorem d_O_greatestOf_39 : decode b_O_greatestOf 39 = .ok (.iload_n 2, 1) := by decide +kernel
theorem d_O_greatestOf_40 : decode b_O_greatestOf 40 = .ok (.if_icmp .le 13, 3) := by decide +kernel
theorem d_O_greatestOf_43 : decode b_O_greatestOf 43 = .ok (.aload_n 0, 1) := by decide +kernel
theorem d_O_greatestOf_44 : decode b_O_greatestOf 44 = .ok (.getfield 49, 3) := by decide +kernel
theorem d_O_greatestOf_47 : decode b_O_greatestOf 47 = .ok (.iload 4, 2) := by decide +kernel
theorem d_O_greatestOf_49 : decode b_O_greatestOf 49 = .ok (.iaload, 1) := by decide +kernel
theorem d_O_greatestOf_50 : decode b_O_greatestOf 50 = .ok (.goto 4, 3) := by decide +kernel
theorem d_O_greatestOf_53 : decode b_O_greatestOf 53 = .ok (.iload_n 2, 1) := by decide +kernel
theorem d_O_greatestOf_54 : decode b_O_greatestOf 54 = .ok (.istore_n 2, 1) := by decide +kernel
theorem d_O_greatestOf_55 : decode b_O_greatestOf 55 = .ok (.iinc 3 1, 3) := by decide +kernel
theorem d_O_greatestOf_58 : decode b_O_greatestOf 58 = .ok (.goto (-44), 3) := by decide +kernel
theorem d_O_greatestOf_61 : decode b_O_greatestOf 61 = .ok (.iload_n 2, 1) := by decide +kernel
theorem d_O_greatestOf_62 : decode b_O_greatestOf 62 = .ok (.ireturn, 1) := by decide +kernel
set_option maxRecDepth 100000 in
set_option maxHeartbeats 4000000 in
theorem o_greatestOf (l : Launch) (D : va_G) (q : Nat → Nat) (n P rw a : Nat) (kn an : Int32) (lw s1 sd kd pa : Nat → Int32) (wd : Nat → Int64) (ao fo uo ho xo : Nat → Int32) (j : Nat) (hj : j < 12) (hp1 : vp_in (oRow pa j 1) 8) (hb2 : bx (oRow pa j 2)) (hb3 : bx (oRow pa j 3)) : Met l y_O_greatestOf (wsm y_O_greatestOf b_O_greatestOf 5 (some .int)) { frames := 1, cells := 0, slots := 0, locals := 22 } (va_Pc [.ref (q 0), .int (nI j)] (cPre D (ow D q n P rw a kn an lw s1 sd kd pa wd ao fo uo ho xo))) (vp_Si (fun r => r = gst (gst (xo (oRow pa j 1).toNatClampNeg) (oRow pa j 2) xo) (oRow pa j 3) xo)) 0 0 (fun _ => False) := by
  refine met_R (by decide) (Nat.le_of_ble_eq_true rfl) ?_
  intro p e s m below meth c ls hx hb hr hlocks hml hown hin hA hP hK hD hN hl
  have hown : s.vm.findClass R_O = some m.cls := hown
  have hl : lv_has ls 5 [(0, .ref (q 0)), (1, .int (nI j))] := hl
  refine lv_aload_n hx hb d_O_greatestOf_0 rfl (lv_at hl 0 rfl) ?_
  refine va_get (D := D) (ci := 1) (v := .ref (q 11)) (C := R_O) (T := T_O) (N := 17) hx hb hA inA_O hown hK hP 0 rfl rfl 16 (by decide) (hA _ wd_438) (fun _ h9 => h9) rfl d_O_greatestOf_1 ?_
  refine lv_aload_n hx hb d_O_greatestOf_4 rfl (lv_at hl 0 rfl) ?_
  refine lv_iload_n hx hb d_O_greatestOf_5 rfl (lv_at hl 1 rfl) ?_
  refine lv_iconst (v := 1) hx hb d_O_greatestOf_6 (by decide) ?_
  refine rV (n := 2) (rest := [.ref (q 11)]) hx hb hml hown hA (o_of l D q n P rw a kn an lw s1 sd kd pa wd ao fo uo ho xo j 1 (by omega) (by omega)) wv_O_90 ⟨by decide, by decide, by decide +kernel⟩ ⟨rfl, rfl, by decide, by decide⟩ rfl hl.1 ⟨Nat.le_of_ble_eq_true rfl, Nat.le_of_ble_eq_true rfl⟩ hP hK hD hN 0 1 rfl rfl rfl (Nat.le_of_ble_eq_true rfl) d_O_greatestOf_7 (fun r hr9 => ?_)
  subst hr9
  refine va_iald hx hb hK hP 11 0 rfl rfl (hp1) d_O_greatestOf_10 ?_
  refine lv_istore_n hx hb d_O_greatestOf_11 rfl hl (by decide) rfl (fun ls hl => ?_)
  have hl : lv_has ls 5 [(2, .int (xo (oRow pa j 1).toNatClampNeg)), (0, .ref (q 0)), (1, .int (nI j))] := hl
  refine lv_iconst (v := 2) hx hb d_O_greatestOf_12 (by decide) ?_
  refine lv_istore_n hx hb d_O_greatestOf_13 rfl hl (by decide) rfl (fun ls hl => ?_)
  have hl : lv_has ls 5 [(3, .int 2), (2, .int (xo (oRow pa j 1).toNatClampNeg)), (0, .ref (q 0)), (1, .int (nI j))] := hl
  refine lv_iload_n hx hb d_O_greatestOf_14 rfl (lv_at hl 0 rfl) ?_
  refine lv_iconst (v := 4) hx hb d_O_greatestOf_15 (by decide) ?_
  refine lv_icmp_ge (tgt := 61) hx hb d_O_greatestOf_16 (by decide) (fun h => absurd h (by decide)) (fun _ => ?_)
  refine lv_aload_n hx hb d_O_greatestOf_19 rfl (lv_at hl 2 rfl) ?_
  refine lv_iload_n hx hb d_O_greatestOf_20 rfl (lv_at hl 3 rfl) ?_
  refine lv_iload_n hx hb d_O_greatestOf_21 rfl (lv_at hl 0 rfl) ?_
  refine rV (n := 2) (rest := []) hx hb hml hown hA (o_of l D q n P rw a kn an lw s1 sd kd pa wd ao fo uo ho xo j 2 (by omega) (by omega)) wv_O_90 ⟨by decide, by decide, by decide +kernel⟩ ⟨rfl, rfl, by decide, by decide⟩ rfl hl.1 ⟨Nat.le_of_ble_eq_true rfl, Nat.le_of_ble_eq_true rfl⟩ hP hK hD hN 0 1 rfl rfl rfl (Nat.le_of_ble_eq_true rfl) d_O_greatestOf_22 (fun r hr9 => ?_)
  subst hr9
  refine lv_istore hx hb d_O_greatestOf_25 hl (by decide) rfl (fun ls hl => ?_)
  have hl : lv_has ls 5 [(4, .int (oRow pa j 2)), (3, .int 2), (2, .int (xo (oRow pa j 1).toNatClampNeg)), (0, .ref (q 0)), (1, .int (nI j))] := hl
  refine lv_iload hx hb d_O_greatestOf_27 (lv_at hl 0 rfl) ?_
  refine lv_if_lt (tgt := 53) hx hb d_O_greatestOf_29 (by decide) (fun h29 => ?_) (fun h29 => ?_)
  · skip
    refine lv_iload_n hx hb d_O_greatestOf_53 rfl (lv_at hl 2 rfl) ?_
    refine topi_to (v := gst (xo (oRow pa j 1).toNatClampNeg) (oRow pa j 2) xo) (gst_1 h29) ?_
    refine lv_istore_n hx hb d_O_greatestOf_54 rfl hl (by decide) rfl (fun ls hl => ?_)
    have hl : lv_has ls 5 [(2, .int (gst (xo (oRow pa j 1).toNatClampNeg) (oRow pa j 2) xo)), (4, .int (oRow pa j 2)), (3, .int 2), (0, .ref (q 0)), (1, .int (nI j))] := hl
    refine lv_iinc (v := 3) hx hb d_O_greatestOf_55 hl (k := 2) rfl (by decide) (by decide) rfl (fun ls hl => ?_)
    have hl : lv_has ls 5 [(3, .int 3), (2, .int (gst (xo (oRow pa j 1).toNatClampNeg) (oRow pa j 2) xo)), (4, .int (oRow pa j 2)), (0, .ref (q 0)), (1, .int (nI j))] := hl
    refine lv_goto (tgt := 14) hx hb d_O_greatestOf_58 (by decide) ?_
    refine lv_iload_n hx hb d_O_greatestOf_14 rfl (lv_at hl 0 rfl) ?_
    refine lv_iconst (v := 4) hx hb d_O_greatestOf_15 (by decide) ?_
    refine lv_icmp_ge (tgt := 61) hx hb d_O_greatestOf_16 (by decide) (fun h => absurd h (by decide)) (fun _ => ?_)
    refine lv_aload_n hx hb d_O_greatestOf_19 rfl (lv_at hl 3 rfl) ?_
    refine lv_iload_n hx hb d_O_greatestOf_20 rfl (lv_at hl 4 rfl) ?_
    refine lv_iload_n hx hb d_O_greatestOf_21 rfl (lv_at hl 0 rfl) ?_
    refine rV (n := 2) (rest := []) hx hb hml hown hA (o_of l D q n P rw a kn an lw s1 sd kd pa wd ao fo uo ho xo j 3 (by omega) (by omega)) wv_O_90 ⟨by decide, by decide, by decide +kernel⟩ ⟨rfl, rfl, by decide, by decide⟩ rfl hl.1 ⟨Nat.le_of_ble_eq_true rfl, Nat.le_of_ble_eq_true rfl⟩ hP hK hD hN 0 1 rfl rfl rfl (Nat.le_of_ble_eq_true rfl) d_O_greatestOf_22 (fun r hr9 => ?_)
    subst hr9
    refine lv_istore hx hb d_O_greatestOf_25 hl (by decide) rfl (fun ls hl => ?_)
    have hl : lv_has ls 5 [(4, .int (oRow pa j 3)), (3, .int 3), (2, .int (gst (xo (oRow pa j 1).toNatClampNeg) (oRow pa j 2) xo)), (0, .ref (q 0)), (1, .int (nI j))] := hl
    refine lv_iload hx hb d_O_greatestOf_27 (lv_at hl 0 rfl) ?_
    refine lv_if_lt (tgt := 53) hx hb d_O_greatestOf_29 (by decide) (fun h29 => ?_) (fun h29 => ?_)
    · skip
      refine lv_iload_n hx hb d_O_greatestOf_53 rfl (lv_at hl 2 rfl) ?_
      refine topi_to (v := gst (gst (xo (oRow pa j 1).toNatClampNeg) (oRow pa j 2) xo) (oRow pa j 3) xo) (gst_1 h29) ?_
      refine lv_istore_n hx hb d_O_greatestOf_54 rfl hl (by decide) rfl (fun ls hl => ?_)
      have hl : lv_has ls 5 [(2, .int (gst (gst (xo (oRow pa j 1).toNatClampNeg) (oRow pa j 2) xo) (oRow pa j 3) xo)), (4, .int (oRow pa j 3)), (3, .int 3), (0, .ref (q 0)), (1, .int (nI j))] := hl
      refine lv_iinc (v := 4) hx hb d_O_greatestOf_55 hl (k := 2) rfl (by decide) (by decide) rfl (fun ls hl => ?_)
      have hl : lv_has ls 5 [(3, .int 4), (2, .int (gst (gst (xo (oRow pa j 1).toNatClampNeg) (oRow pa j 2) xo) (oRow pa j 3) xo)), (4, .int (oRow pa j 3)), (0, .ref (q 0)), (1, .int (nI j))] := hl
      refine lv_goto (tgt := 14) hx hb d_O_greatestOf_58 (by decide) ?_
      refine lv_iload_n hx hb d_O_greatestOf_14 rfl (lv_at hl 0 rfl) ?_
      refine lv_iconst (v := 4) hx hb d_O_greatestOf_15 (by decide) ?_
      refine lv_icmp_ge (tgt := 61) hx hb d_O_greatestOf_16 (by decide) (fun _ => ?_) (fun h => absurd h (by decide))
      refine lv_iload_n hx hb d_O_greatestOf_61 rfl (lv_at hl 1 rfl) ?_
      exact eR hx hb hr hlocks (rfl) d_O_greatestOf_62
    · skip
      refine lv_aload_n hx hb d_O_greatestOf_32 rfl (lv_at hl 3 rfl) ?_
      refine va_get (D := D) (ci := 1) (v := .ref (q 11)) (C := R_O) (T := T_O) (N := 17) hx hb hA inA_O hown hK hP 0 rfl rfl 16 (by decide) (hA _ wd_438) (fun _ h9 => h9) rfl d_O_greatestOf_33 ?_
      refine lv_iload hx hb d_O_greatestOf_36 (lv_at hl 0 rfl) ?_
      refine va_iald hx hb hK hP 11 0 rfl rfl (hb3 h29) d_O_greatestOf_38 ?_
      refine lv_iload_n hx hb d_O_greatestOf_39 rfl (lv_at hl 2 rfl) ?_
      refine lv_icmp_le (tgt := 53) hx hb d_O_greatestOf_40 (by decide) (fun h40 => ?_) (fun h40 => ?_)
      · skip
        refine lv_iload_n hx hb d_O_greatestOf_53 rfl (lv_at hl 2 rfl) ?_
        refine topi_to (v := gst (gst (xo (oRow pa j 1).toNatClampNeg) (oRow pa j 2) xo) (oRow pa j 3) xo) (gst_2 h40) ?_
        refine lv_istore_n hx hb d_O_greatestOf_54 rfl hl (by decide) rfl (fun ls hl => ?_)
        have hl : lv_has ls 5 [(2, .int (gst (gst (xo (oRow pa j 1).toNatClampNeg) (oRow pa j 2) xo) (oRow pa j 3) xo)), (4, .int (oRow pa j 3)), (3, .int 3), (0, .ref (q 0)), (1, .int (nI j))] := hl
        refine lv_iinc (v := 4) hx hb d_O_greatestOf_55 hl (k := 2) rfl (by decide) (by decide) rfl (fun ls hl => ?_)
        have hl : lv_has ls 5 [(3, .int 4), (2, .int (gst (gst (xo (oRow pa j 1).toNatClampNeg) (oRow pa j 2) xo) (oRow pa j 3) xo)), (4, .int (oRow pa j 3)), (0, .ref (q 0)), (1, .int (nI j))] := hl
        refine lv_goto (tgt := 14) hx hb d_O_greatestOf_58 (by decide) ?_
        refine lv_iload_n hx hb d_O_greatestOf_14 rfl (lv_at hl 0 rfl) ?_
        refine lv_iconst (v := 4) hx hb d_O_greatestOf_15 (by decide) ?_
        refine lv_icmp_ge (tgt := 61) hx hb d_O_greatestOf_16 (by decide) (fun _ => ?_) (fun h => absurd h (by decide))
        refine lv_iload_n hx hb d_O_greatestOf_61 rfl (lv_at hl 1 rfl) ?_
        exact eR hx hb hr hlocks (rfl) d_O_greatestOf_62
      · skip
        refine lv_aload_n hx hb d_O_greatestOf_43 rfl (lv_at hl 3 rfl) ?_
        refine va_get (D := D) (ci := 1) (v := .ref (q 11)) (C := R_O) (T := T_O) (N := 17) hx hb hA inA_O hown hK hP 0 rfl rfl 16 (by decide) (hA _ wd_438) (fun _ h9 => h9) rfl d_O_greatestOf_44 ?_
        refine lv_iload hx hb d_O_greatestOf_47 (lv_at hl 0 rfl) ?_
        refine va_iald hx hb hK hP 11 0 rfl rfl (hb3 h29) d_O_greatestOf_49 ?_
        refine lv_goto (tgt := 54) hx hb d_O_greatestOf_50 (by decide) ?_
        refine topi_to (v := gst (gst (xo (oRow pa j 1).toNatClampNeg) (oRow pa j 2) xo) (oRow pa j 3) xo) (gst_p h29 h40) ?_
        refine lv_istore_n hx hb d_O_greatestOf_54 rfl hl (by decide) rfl (fun ls hl => ?_)
        have hl : lv_has ls 5 [(2, .int (gst (gst (xo (oRow pa j 1).toNatClampNeg) (oRow pa j 2) xo) (oRow pa j 3) xo)), (4, .int (oRow pa j 3)), (3, .int 3), (0, .ref (q 0)), (1, .int (nI j))] := hl
        refine lv_iinc (v := 4) hx hb d_O_greatestOf_55 hl (k := 2) rfl (by decide) (by decide) rfl (fun ls hl => ?_)
        have hl : lv_has ls 5 [(3, .int 4), (2, .int (gst (gst (xo (oRow pa j 1).toNatClampNeg) (oRow pa j 2) xo) (oRow pa j 3) xo)), (4, .int (oRow pa j 3)), (0, .ref (q 0)), (1, .int (nI j))] := hl
        refine lv_goto (tgt := 14) hx hb d_O_greatestOf_58 (by decide) ?_
        refine lv_iload_n hx hb d_O_greatestOf_14 rfl (lv_at hl 0 rfl) ?_
        refine lv_iconst (v := 4) hx hb d_O_greatestOf_15 (by decide) ?_
        refine lv_icmp_ge (tgt := 61) hx hb d_O_greatestOf_16 (by decide) (fun _ => ?_) (fun h => absurd h (by decide))
        refine lv_iload_n hx hb d_O_greatestOf_61 rfl (lv_at hl 1 rfl) ?_
        exact eR hx hb hr hlocks (rfl) d_O_greatestOf_62
  · skip
    refine lv_aload_n hx hb d_O_greatestOf_32 rfl (lv_at hl 3 rfl) ?_
    refine va_get (D := D) (ci := 1) (v := .ref (q 11)) (C := R_O) (T := T_O) (N := 17) hx hb hA inA_O hown hK hP 0 rfl rfl 16 (by decide) (hA _ wd_438) (fun _ h9 => h9) rfl d_O_greatestOf_33 ?_
    refine lv_iload hx hb d_O_greatestOf_36 (lv_at hl 0 rfl) ?_
    refine va_iald hx hb hK hP 11 0 rfl rfl (hb2 h29) d_O_greatestOf_38 ?_
    refine lv_iload_n hx hb d_O_greatestOf_39 rfl (lv_at hl 2 rfl) ?_
    refine lv_icmp_le (tgt := 53) hx hb d_O_greatestOf_40 (by decide) (fun h40 => ?_) (fun h40 => ?_)
    · skip
      refine lv_iload_n hx hb d_O_greatestOf_53 rfl (lv_at hl 2 rfl) ?_
      refine topi_to (v := gst (xo (oRow pa j 1).toNatClampNeg) (oRow pa j 2) xo) (gst_2 h40) ?_
      refine lv_istore_n hx hb d_O_greatestOf_54 rfl hl (by decide) rfl (fun ls hl => ?_)
      have hl : lv_has ls 5 [(2, .int (gst (xo (oRow pa j 1).toNatClampNeg) (oRow pa j 2) xo)), (4, .int (oRow pa j 2)), (3, .int 2), (0, .ref (q 0)), (1, .int (nI j))] := hl
      refine lv_iinc (v := 3) hx hb d_O_greatestOf_55 hl (k := 2) rfl (by decide) (by decide) rfl (fun ls hl => ?_)
      have hl : lv_has ls 5 [(3, .int 3), (2, .int (gst (xo (oRow pa j 1).toNatClampNeg) (oRow pa j 2) xo)), (4, .int (oRow pa j 2)), (0, .ref (q 0)), (1, .int (nI j))] := hl
      refine lv_goto (tgt := 14) hx hb d_O_greatestOf_58 (by decide) ?_
      refine lv_iload_n hx hb d_O_greatestOf_14 rfl (lv_at hl 0 rfl) ?_
      refine lv_iconst (v := 4) hx hb d_O_greatestOf_15 (by decide) ?_
      refine lv_icmp_ge (tgt := 61) hx hb d_O_greatestOf_16 (by decide) (fun h => absurd h (by decide)) (fun _ => ?_)
      refine lv_aload_n hx hb d_O_greatestOf_19 rfl (lv_at hl 3 rfl) ?_
      refine lv_iload_n hx hb d_O_greatestOf_20 rfl (lv_at hl 4 rfl) ?_
      refine lv_iload_n hx hb d_O_greatestOf_21 rfl (lv_at hl 0 rfl) ?_
      refine rV (n := 2) (rest := []) hx hb hml hown hA (o_of l D q n P rw a kn an lw s1 sd kd pa wd ao fo uo ho xo j 3 (by omega) (by omega)) wv_O_90 ⟨by decide, by decide, by decide +kernel⟩ ⟨rfl, rfl, by decide, by decide⟩ rfl hl.1 ⟨Nat.le_of_ble_eq_true rfl, Nat.le_of_ble_eq_true rfl⟩ hP hK hD hN 0 1 rfl rfl rfl (Nat.le_of_ble_eq_true rfl) d_O_greatestOf_22 (fun r hr9 => ?_)
      subst hr9
      refine lv_istore hx hb d_O_greatestOf_25 hl (by decide) rfl (fun ls hl => ?_)
      have hl : lv_has ls 5 [(4, .int (oRow pa j 3)), (3, .int 3), (2, .int (gst (xo (oRow pa j 1).toNatClampNeg) (oRow pa j 2) xo)), (0, .ref (q 0)), (1, .int (nI j))] := hl
      refine lv_iload hx hb d_O_greatestOf_27 (lv_at hl 0 rfl) ?_
      refine lv_if_lt (tgt := 53) hx hb d_O_greatestOf_29 (by decide) (fun h29 => ?_) (fun h29 => ?_)
      · skip
        refine lv_iload_n hx hb d_O_greatestOf_53 rfl (lv_at hl 2 rfl) ?_
        refine topi_to (v := gst (gst (xo (oRow pa j 1).toNatClampNeg) (oRow pa j 2) xo) (oRow pa j 3) xo) (gst_1 h29) ?_
        refine lv_istore_n hx hb d_O_greatestOf_54 rfl hl (by decide) rfl (fun ls hl => ?_)
        have hl : lv_has ls 5 [(2, .int (gst (gst (xo (oRow pa j 1).toNatClampNeg) (oRow pa j 2) xo) (oRow pa j 3) xo)), (4, .int (oRow pa j 3)), (3, .int 3), (0, .ref (q 0)), (1, .int (nI j))] := hl
        refine lv_iinc (v := 4) hx hb d_O_greatestOf_55 hl (k := 2) rfl (by decide) (by decide) rfl (fun ls hl => ?_)
        have hl : lv_has ls 5 [(3, .int 4), (2, .int (gst (gst (xo (oRow pa j 1).toNatClampNeg) (oRow pa j 2) xo) (oRow pa j 3) xo)), (4, .int (oRow pa j 3)), (0, .ref (q 0)), (1, .int (nI j))] := hl
        refine lv_goto (tgt := 14) hx hb d_O_greatestOf_58 (by decide) ?_
        refine lv_iload_n hx hb d_O_greatestOf_14 rfl (lv_at hl 0 rfl) ?_
        refine lv_iconst (v := 4) hx hb d_O_greatestOf_15 (by decide) ?_
        refine lv_icmp_ge (tgt := 61) hx hb d_O_greatestOf_16 (by decide) (fun _ => ?_) (fun h => absurd h (by decide))
        refine lv_iload_n hx hb d_O_greatestOf_61 rfl (lv_at hl 1 rfl) ?_
        exact eR hx hb hr hlocks (rfl) d_O_greatestOf_62
      · skip
        refine lv_aload_n hx hb d_O_greatestOf_32 rfl (lv_at hl 3 rfl) ?_
        refine va_get (D := D) (ci := 1) (v := .ref (q 11)) (C := R_O) (T := T_O) (N := 17) hx hb hA inA_O hown hK hP 0 rfl rfl 16 (by decide) (hA _ wd_438) (fun _ h9 => h9) rfl d_O_greatestOf_33 ?_
        refine lv_iload hx hb d_O_greatestOf_36 (lv_at hl 0 rfl) ?_
        refine va_iald hx hb hK hP 11 0 rfl rfl (hb3 h29) d_O_greatestOf_38 ?_
        refine lv_iload_n hx hb d_O_greatestOf_39 rfl (lv_at hl 2 rfl) ?_
        refine lv_icmp_le (tgt := 53) hx hb d_O_greatestOf_40 (by decide) (fun h40 => ?_) (fun h40 => ?_)
        · skip
          refine lv_iload_n hx hb d_O_greatestOf_53 rfl (lv_at hl 2 rfl) ?_
          refine topi_to (v := gst (gst (xo (oRow pa j 1).toNatClampNeg) (oRow pa j 2) xo) (oRow pa j 3) xo) (gst_2 h40) ?_
          refine lv_istore_n hx hb d_O_greatestOf_54 rfl hl (by decide) rfl (fun ls hl => ?_)
          have hl : lv_has ls 5 [(2, .int (gst (gst (xo (oRow pa j 1).toNatClampNeg) (oRow pa j 2) xo) (oRow pa j 3) xo)), (4, .int (oRow pa j 3)), (3, .int 3), (0, .ref (q 0)), (1, .int (nI j))] := hl
          refine lv_iinc (v := 4) hx hb d_O_greatestOf_55 hl (k := 2) rfl (by decide) (by decide) rfl (fun ls hl => ?_)
          have hl : lv_has ls 5 [(3, .int 4), (2, .int (gst (gst (xo (oRow pa j 1).toNatClampNeg) (oRow pa j 2) xo) (oRow pa j 3) xo)), (4, .int (oRow pa j 3)), (0, .ref (q 0)), (1, .int (nI j))] := hl
          refine lv_goto (tgt := 14) hx hb d_O_greatestOf_58 (by decide) ?_
          refine lv_iload_n hx hb d_O_greatestOf_14 rfl (lv_at hl 0 rfl) ?_
          refine lv_iconst (v := 4) hx hb d_O_greatestOf_15 (by decide) ?_
          refine lv_icmp_ge (tgt := 61) hx hb d_O_greatestOf_16 (by decide) (fun _ => ?_) (fun h => absurd h (by decide))
          refine lv_iload_n hx hb d_O_greatestOf_61 rfl (lv_at hl 1 rfl) ?_
          exact eR hx hb hr hlocks (rfl) d_O_greatestOf_62
        · skip
          refine lv_aload_n hx hb d_O_greatestOf_43 rfl (lv_at hl 3 rfl) ?_
          refine va_get (D := D) (ci := 1) (v := .ref (q 11)) (C := R_O) (T := T_O) (N := 17) hx hb hA inA_O hown hK hP 0 rfl rfl 16 (by decide) (hA _ wd_438) (fun _ h9 => h9) rfl d_O_greatestOf_44 ?_
          refine lv_iload hx hb d_O_greatestOf_47 (lv_at hl 0 rfl) ?_
          refine va_iald hx hb hK hP 11 0 rfl rfl (hb3 h29) d_O_greatestOf_49 ?_
          refine lv_goto (tgt := 54) hx hb d_O_greatestOf_50 (by decide) ?_
          refine topi_to (v := gst (gst (xo (oRow pa j 1).toNatClampNeg) (oRow pa j 2) xo) (oRow pa j 3) xo) (gst_p h29 h40) ?_
          refine lv_istore_n hx hb d_O_greatestOf_54 rfl hl (by decide) rfl (fun ls hl => ?_)
          have hl : lv_has ls 5 [(2, .int (gst (gst (xo (oRow pa j 1).toNatClampNeg) (oRow pa j 2) xo) (oRow pa j 3) xo)), (4, .int (oRow pa j 3)), (3, .int 3), (0, .ref (q 0)), (1, .int (nI j))] := hl
          refine lv_iinc (v := 4) hx hb d_O_greatestOf_55 hl (k := 2) rfl (by decide) (by decide) rfl (fun ls hl => ?_)
          have hl : lv_has ls 5 [(3, .int 4), (2, .int (gst (gst (xo (oRow pa j 1).toNatClampNeg) (oRow pa j 2) xo) (oRow pa j 3) xo)), (4, .int (oRow pa j 3)), (0, .ref (q 0)), (1, .int (nI j))] := hl
          refine lv_goto (tgt := 14) hx hb d_O_greatestOf_58 (by decide) ?_
          refine lv_iload_n hx hb d_O_greatestOf_14 rfl (lv_at hl 0 rfl) ?_
          refine lv_iconst (v := 4) hx hb d_O_greatestOf_15 (by decide) ?_
          refine lv_icmp_ge (tgt := 61) hx hb d_O_greatestOf_16 (by decide) (fun _ => ?_) (fun h => absurd h (by decide))
          refine lv_iload_n hx hb d_O_greatestOf_61 rfl (lv_at hl 1 rfl) ?_
          exact eR hx hb hr hlocks (rfl) d_O_greatestOf_62
    · skip
      refine lv_aload_n hx hb d_O_greatestOf_43 rfl (lv_at hl 3 rfl) ?_
      refine va_get (D := D) (ci := 1) (v := .ref (q 11)) (C := R_O) (T := T_O) (N := 17) hx hb hA inA_O hown hK hP 0 rfl rfl 16 (by decide) (hA _ wd_438) (fun _ h9 => h9) rfl d_O_greatestOf_44 ?_
      refine lv_iload hx hb d_O_greatestOf_47 (lv_at hl 0 rfl) ?_
      refine va_iald hx hb hK hP 11 0 rfl rfl (hb2 h29) d_O_greatestOf_49 ?_
      refine lv_goto (tgt := 54) hx hb d_O_greatestOf_50 (by decide) ?_
      refine topi_to (v := gst (xo (oRow pa j 1).toNatClampNeg) (oRow pa j 2) xo) (gst_p h29 h40) ?_
      refine lv_istore_n hx hb d_O_greatestOf_54 rfl hl (by decide) rfl (fun ls hl => ?_)
      have hl : lv_has ls 5 [(2, .int (gst (xo (oRow pa j 1).toNatClampNeg) (oRow pa j 2) xo)), (4, .int (oRow pa j 2)), (3, .int 2), (0, .ref (q 0)), (1, .int (nI j))] := hl
      refine lv_iinc (v := 3) hx hb d_O_greatestOf_55 hl (k := 2) rfl (by decide) (by decide) rfl (fun ls hl => ?_)
      have hl : lv_has ls 5 [(3, .int 3), (2, .int (gst (xo (oRow pa j 1).toNatClampNeg) (oRow pa j 2) xo)), (4, .int (oRow pa j 2)), (0, .ref (q 0)), (1, .int (nI j))] := hl
      refine lv_goto (tgt := 14) hx hb d_O_greatestOf_58 (by decide) ?_
      refine lv_iload_n hx hb d_O_greatestOf_14 rfl (lv_at hl 0 rfl) ?_
      refine lv_iconst (v := 4) hx hb d_O_greatestOf_15 (by decide) ?_
      refine lv_icmp_ge (tgt := 61) hx hb d_O_greatestOf_16 (by decide) (fun h => absurd h (by decide)) (fun _ => ?_)
      refine lv_aload_n hx hb d_O_greatestOf_19 rfl (lv_at hl 3 rfl) ?_
      refine lv_iload_n hx hb d_O_greatestOf_20 rfl (lv_at hl 4 rfl) ?_
      refine lv_iload_n hx hb d_O_greatestOf_21 rfl (lv_at hl 0 rfl) ?_
      refine rV (n := 2) (rest := []) hx hb hml hown hA (o_of l D q n P rw a kn an lw s1 sd kd pa wd ao fo uo ho xo j 3 (by omega) (by omega)) wv_O_90 ⟨by decide, by decide, by decide +kernel⟩ ⟨rfl, rfl, by decide, by decide⟩ rfl hl.1 ⟨Nat.le_of_ble_eq_true rfl, Nat.le_of_ble_eq_true rfl⟩ hP hK hD hN 0 1 rfl rfl rfl (Nat.le_of_ble_eq_true rfl) d_O_greatestOf_22 (fun r hr9 => ?_)
      subst hr9
      refine lv_istore hx hb d_O_greatestOf_25 hl (by decide) rfl (fun ls hl => ?_)
      have hl : lv_has ls 5 [(4, .int (oRow pa j 3)), (3, .int 3), (2, .int (gst (xo (oRow pa j 1).toNatClampNeg) (oRow pa j 2) xo)), (0, .ref (q 0)), (1, .int (nI j))] := hl
      refine lv_iload hx hb d_O_greatestOf_27 (lv_at hl 0 rfl) ?_
      refine lv_if_lt (tgt := 53) hx hb d_O_greatestOf_29 (by decide) (fun h29 => ?_) (fun h29 => ?_)
      · skip
        refine lv_iload_n hx hb d_O_greatestOf_53 rfl (lv_at hl 2 rfl) ?_
        refine topi_to (v := gst (gst (xo (oRow pa j 1).toNatClampNeg) (oRow pa j 2) xo) (oRow pa j 3) xo) (gst_1 h29) ?_
        refine lv_istore_n hx hb d_O_greatestOf_54 rfl hl (by decide) rfl (fun ls hl => ?_)
        have hl : lv_has ls 5 [(2, .int (gst (gst (xo (oRow pa j 1).toNatClampNeg) (oRow pa j 2) xo) (oRow pa j 3) xo)), (4, .int (oRow pa j 3)), (3, .int 3), (0, .ref (q 0)), (1, .int (nI j))] := hl
        refine lv_iinc (v := 4) hx hb d_O_greatestOf_55 hl (k := 2) rfl (by decide) (by decide) rfl (fun ls hl => ?_)
        have hl : lv_has ls 5 [(3, .int 4), (2, .int (gst (gst (xo (oRow pa j 1).toNatClampNeg) (oRow pa j 2) xo) (oRow pa j 3) xo)), (4, .int (oRow pa j 3)), (0, .ref (q 0)), (1, .int (nI j))] := hl
        refine lv_goto (tgt := 14) hx hb d_O_greatestOf_58 (by decide) ?_
        refine lv_iload_n hx hb d_O_greatestOf_14 rfl (lv_at hl 0 rfl) ?_
        refine lv_iconst (v := 4) hx hb d_O_greatestOf_15 (by decide) ?_
        refine lv_icmp_ge (tgt := 61) hx hb d_O_greatestOf_16 (by decide) (fun _ => ?_) (fun h => absurd h (by decide))
        refine lv_iload_n hx hb d_O_greatestOf_61 rfl (lv_at hl 1 rfl) ?_
        exact eR hx hb hr hlocks (rfl) d_O_greatestOf_62
      · skip
        refine lv_aload_n hx hb d_O_greatestOf_32 rfl (lv_at hl 3 rfl) ?_
        refine va_get (D := D) (ci := 1) (v := .ref (q 11)) (C := R_O) (T := T_O) (N := 17) hx hb hA inA_O hown hK hP 0 rfl rfl 16 (by decide) (hA _ wd_438) (fun _ h9 => h9) rfl d_O_greatestOf_33 ?_
        refine lv_iload hx hb d_O_greatestOf_36 (lv_at hl 0 rfl) ?_
        refine va_iald hx hb hK hP 11 0 rfl rfl (hb3 h29) d_O_greatestOf_38 ?_
        refine lv_iload_n hx hb d_O_greatestOf_39 rfl (lv_at hl 2 rfl) ?_
        refine lv_icmp_le (tgt := 53) hx hb d_O_greatestOf_40 (by decide) (fun h40 => ?_) (fun h40 => ?_)
        · skip
          refine lv_iload_n hx hb d_O_greatestOf_53 rfl (lv_at hl 2 rfl) ?_
          refine topi_to (v := gst (gst (xo (oRow pa j 1).toNatClampNeg) (oRow pa j 2) xo) (oRow pa j 3) xo) (gst_2 h40) ?_
          refine lv_istore_n hx hb d_O_greatestOf_54 rfl hl (by decide) rfl (fun ls hl => ?_)
          have hl : lv_has ls 5 [(2, .int (gst (gst (xo (oRow pa j 1).toNatClampNeg) (oRow pa j 2) xo) (oRow pa j 3) xo)), (4, .int (oRow pa j 3)), (3, .int 3), (0, .ref (q 0)), (1, .int (nI j))] := hl
          refine lv_iinc (v := 4) hx hb d_O_greatestOf_55 hl (k := 2) rfl (by decide) (by decide) rfl (fun ls hl => ?_)
          have hl : lv_has ls 5 [(3, .int 4), (2, .int (gst (gst (xo (oRow pa j 1).toNatClampNeg) (oRow pa j 2) xo) (oRow pa j 3) xo)), (4, .int (oRow pa j 3)), (0, .ref (q 0)), (1, .int (nI j))] := hl
          refine lv_goto (tgt := 14) hx hb d_O_greatestOf_58 (by decide) ?_
          refine lv_iload_n hx hb d_O_greatestOf_14 rfl (lv_at hl 0 rfl) ?_
          refine lv_iconst (v := 4) hx hb d_O_greatestOf_15 (by decide) ?_
          refine lv_icmp_ge (tgt := 61) hx hb d_O_greatestOf_16 (by decide) (fun _ => ?_) (fun h => absurd h (by decide))
          refine lv_iload_n hx hb d_O_greatestOf_61 rfl (lv_at hl 1 rfl) ?_
          exact eR hx hb hr hlocks (rfl) d_O_greatestOf_62
        · skip
          refine lv_aload_n hx hb d_O_greatestOf_43 rfl (lv_at hl 3 rfl) ?_
          refine va_get (D := D) (ci := 1) (v := .ref (q 11)) (C := R_O) (T := T_O) (N := 17) hx hb hA inA_O hown hK hP 0 rfl rfl 16 (by decide) (hA _ wd_438) (fun _ h9 => h9) rfl d_O_greatestOf_44 ?_
          refine lv_iload hx hb d_O_greatestOf_47 (lv_at hl 0 rfl) ?_
          refine va_iald hx hb hK hP 11 0 rfl rfl (hb3 h29) d_O_greatestOf_49 ?_
          refine lv_goto (tgt := 54) hx hb d_O_greatestOf_50 (by decide) ?_
          refine topi_to (v := gst (gst (xo (oRow pa j 1).toNatClampNeg) (oRow pa j 2) xo) (oRow pa j 3) xo) (gst_p h29 h40) ?_
          refine lv_istore_n hx hb d_O_greatestOf_54 rfl hl (by decide) rfl (fun ls hl => ?_)
          have hl : lv_has ls 5 [(2, .int (gst (gst (xo (oRow pa j 1).toNatClampNeg) (oRow pa j 2) xo) (oRow pa j 3) xo)), (4, .int (oRow pa j 3)), (3, .int 3), (0, .ref (q 0)), (1, .int (nI j))] := hl
          refine lv_iinc (v := 4) hx hb d_O_greatestOf_55 hl (k := 2) rfl (by decide) (by decide) rfl (fun ls hl => ?_)
          have hl : lv_has ls 5 [(3, .int 4), (2, .int (gst (gst (xo (oRow pa j 1).toNatClampNeg) (oRow pa j 2) xo) (oRow pa j 3) xo)), (4, .int (oRow pa j 3)), (0, .ref (q 0)), (1, .int (nI j))] := hl
          refine lv_goto (tgt := 14) hx hb d_O_greatestOf_58 (by decide) ?_
          refine lv_iload_n hx hb d_O_greatestOf_14 rfl (lv_at hl 0 rfl) ?_
          refine lv_iconst (v := 4) hx hb d_O_greatestOf_15 (by decide) ?_
          refine lv_icmp_ge (tgt := 61) hx hb d_O_greatestOf_16 (by decide) (fun _ => ?_) (fun h => absurd h (by decide))
          refine lv_iload_n hx hb d_O_greatestOf_61 rfl (lv_at hl 1 rfl) ?_
          exact eR hx hb hr hlocks (rfl) d_O_greatestOf_62
end
