section
theorem d_O_entryIs_0 : decode b_O_entryIs 0 = .ok (.aload_n 0, 1) := by decide +kernel
theorem d_O_entryIs_1 : decode b_O_entryIs 1 = .ok (.getfield 49, 3) := by decide +kernel
theorem d_O_entryIs_4 : decode b_O_entryIs 4 = .ok (.aload_n 0, 1) := by decide +kernel
theorem d_O_entryIs_5 : decode b_O_entryIs 5 = .ok (.iload_n 1, 1) := by decide +kernel
theorem d_O_entryIs_6 : decode b_O_entryIs 6 = .ok (.iconst 1, 1) := by decide +kernel
theorem d_O_entryIs_7 : decode b_O_entryIs 7 = .ok (.invokevirtual 90, 3) := by decide +kernel
theorem d_O_entryIs_10 : decode b_O_entryIs 10 = .ok (.iaload, 1) := by decide +kernel
theorem d_O_entryIs_11 : decode b_O_entryIs 11 = .ok (.istore_n 2, 1) := by decide +kernel
theorem d_O_entryIs_12 : decode b_O_entryIs 12 = .ok (.iload_n 2, 1) := by decide +kernel
theorem d_O_entryIs_13 : decode b_O_entryIs 13 = .ok (.ifCond .lt 9, 3) := by decide +kernel
theorem d_O_entryIs_16 : decode b_O_entryIs 16 = .ok (.iload_n 2, 1) := by decide +kernel
theorem d_O_entryIs_17 : decode b_O_entryIs 17 = .ok (.bipush 7, 2) := by decide +kernel
theorem d_O_entryIs_19 : decode b_O_entryIs 19 = .ok (.if_icmp .le 5, 3) := by decide +kernel
theorem d_O_entryIs_22 : decode b_O_entryIs 22 = .ok (.iconst 0, 1) := by decide +kernel
theorem d_O_entryIs_23 : decode b_O_entryIs 23 = .ok (.ireturn, 1) := by decide +kernel
theorem d_O_entryIs_24 : decode b_O_entryIs 24 = .ok (.aload_n 0, 1) := by decide +kernel
theorem d_O_entryIs_25 : decode b_O_entryIs 25 = .ok (.getfield 29, 3) := by decide +kernel
theorem d_O_entryIs_28 : decode b_O_entryIs 28 = .ok (.iconst 2, 1) := by decide +kernel
theorem d_O_entryIs_29 : decode b_O_entryIs 29 = .ok (.iload_n 1, 1) := by decide +kernel
theorem d_O_entryIs_30 : decode b_O_entryIs 30 = .ok (.imul, 1) := by decide +kernel
theorem d_O_entryIs_31 : decode b_O_entryIs 31 = .ok (.laload, 1) := by decide +kernel
theorem d_O_entryIs_32 : decode b_O_entryIs 32 = .ok (.bipush 8, 2) := by decide +kernel
theorem d_O_entryIs_34 : decode b_O_entryIs 34 = .ok (.iload_n 2, 1) := by decide +kernel
theorem d_O_entryIs_35 : decode b_O_entryIs 35 = .ok (.imul, 1) := by decide +kernel
theorem d_O_entryIs_36 : decode b_O_entryIs 36 = .ok (.lshr, 1) := by decide +kernel
theorem d_O_entryIs_37 : decode b_O_entryIs 37 = .ok (.l2i, 1) := by decide +kernel
theorem d_O_entryIs_38 : decode b_O_entryIs 38 = .ok (.i2b, 1) := by decide +kernel
theorem d_O_entryIs_39 : decode b_O_entryIs 39 = .ok (.istore_n 3, 1) := by decide +kernel
theorem d_O_entryIs_40 : decode b_O_entryIs 40 = .ok (.aload_n 0, 1) := by decide +kernel
theorem d_O_entryIs_41 : decode b_O_entryIs 41 = .ok (.getfield 49, 3) := by decide +kernel
theorem d_O_entryIs_44 : decode b_O_entryIs 44 = .ok (.aload_n 0, 1) := by decide +kernel
theorem d_O_entryIs_45 : decode b_O_entryIs 45 = .ok (.iload_n 1, 1) := by decide +kernel
theorem d_O_entryIs_46 : decode b_O_entryIs 46 = .ok (.iconst 0, 1) := by decide +kernel
theorem d_O_entryIs_47 : decode b_O_entryIs 47 = .ok (.invokevirtual 90, 3) := by decide +kernel
theorem d_O_entryIs_50 : decode b_O_entryIs 50 = .ok (.iaload, 1) := by decide +kernel
theorem d_O_entryIs_51 : decode b_O_entryIs 51 = .ok (.iload_n 3, 1) := by decide +kernel
theorem d_O_entryIs_52 : decode b_O_entryIs 52 = .ok (.if_icmp .ne 7, 3) := by decide +kernel
theorem d_O_entryIs_55 : decode b_O_entryIs 55 = .ok (.iconst 1, 1) := by decide +kernel
theorem d_O_entryIs_56 : decode b_O_entryIs 56 = .ok (.goto 4, 3) := by decide +kernel
theorem d_O_entryIs_59 : decode b_O_entryIs 59 = .ok (.iconst 0, 1) := by decide +kernel
theorem d_O_entryIs_60 : decode b_O_entryIs 60 = .ok (.ireturn, 1) := by decide +kernel
set_option maxRecDepth 100000 in
set_option maxHeartbeats 4000000 in
theorem o_entryIs (l : Launch) (D : va_G) (q : Nat → Nat) (n P rw a : Nat) (kn an : Int32) (lw s1 sd kd pa : Nat → Int32) (wd : Nat → Int64) (ao fo uo ho xo : Nat → Int32) (j : Nat) (hj : j < 12) (hp0 : vp_in (oRow pa j 0) 8) (hp1 : vp_in (oRow pa j 1) 8) : Met l y_O_entryIs (wsm y_O_entryIs b_O_entryIs 4 (some .boolean)) { frames := 1, cells := 0, slots := 0, locals := 22 } (va_Pc [.ref (q 0), .int (nI j)] (cPre D (ow D q n P rw a kn an lw s1 sd kd pa wd ao fo uo ho xo))) (vp_Si (fun r => r = zb (decide (oEle (oRow pa j 0) (oRow pa j 1) (wd (2 * j)) xo)))) 0 0 (fun _ => False) := by
  refine met_R (by decide) (Nat.le_of_ble_eq_true rfl) ?_
  intro p e s m below meth c ls hx hb hr hlocks hml hown hin hA hP hK hD hN hl
  have hown : s.vm.findClass R_O = some m.cls := hown
  have hl : lv_has ls 4 [(0, .ref (q 0)), (1, .int (nI j))] := hl
  refine lv_aload_n hx hb d_O_entryIs_0 rfl (lv_at hl 0 rfl) ?_
  refine va_get (D := D) (ci := 1) (v := .ref (q 11)) (C := R_O) (T := T_O) (N := 17) hx hb hA inA_O hown hK hP 0 rfl rfl 16 (by decide) (hA _ wd_438) (fun _ h9 => h9) rfl d_O_entryIs_1 ?_
  refine lv_aload_n hx hb d_O_entryIs_4 rfl (lv_at hl 0 rfl) ?_
  refine lv_iload_n hx hb d_O_entryIs_5 rfl (lv_at hl 1 rfl) ?_
  refine lv_iconst (v := 1) hx hb d_O_entryIs_6 (by decide) ?_
  refine rV (n := 2) (rest := [.ref (q 11)]) hx hb hml hown hA (o_of l D q n P rw a kn an lw s1 sd kd pa wd ao fo uo ho xo j 1 (by omega) (by omega)) wv_O_90 ⟨by decide, by decide, by decide +kernel⟩ ⟨rfl, rfl, by decide, by decide⟩ rfl hl.1 ⟨Nat.le_of_ble_eq_true rfl, Nat.le_of_ble_eq_true rfl⟩ hP hK hD hN 0 1 rfl rfl rfl (Nat.le_of_ble_eq_true rfl) d_O_entryIs_7 (fun r hr9 => ?_)
  subst hr9
  refine va_iald hx hb hK hP 11 0 rfl rfl (hp1) d_O_entryIs_10 ?_
  refine lv_istore_n hx hb d_O_entryIs_11 rfl hl (by decide) rfl (fun ls hl => ?_)
  have hl : lv_has ls 4 [(2, .int (xo (oRow pa j 1).toNatClampNeg)), (0, .ref (q 0)), (1, .int (nI j))] := hl
  refine lv_iload_n hx hb d_O_entryIs_12 rfl (lv_at hl 0 rfl) ?_
  refine lv_if_lt (tgt := 22) hx hb d_O_entryIs_13 (by decide) (fun h13 => ?_) (fun h13 => ?_)
  · skip
    refine lv_iconst (v := 0) hx hb d_O_entryIs_22 (by decide) ?_
    exact eRz hx hb hr hlocks (by first | rfl | decide) (by first | exact zb_f (fun h => h.1 h13) | exact zb_f (fun h => h19 h.2.1) | exact zb_f (fun h => h52 h.2.2)) d_O_entryIs_23
  · skip
    refine lv_iload_n hx hb d_O_entryIs_16 rfl (lv_at hl 0 rfl) ?_
    refine lv_bipush (v := 7) hx hb d_O_entryIs_17 (by decide) ?_
    refine lv_icmp_le (tgt := 24) hx hb d_O_entryIs_19 (by decide) (fun h19 => ?_) (fun h19 => ?_)
    · skip
      refine lv_aload_n hx hb d_O_entryIs_24 rfl (lv_at hl 1 rfl) ?_
      refine va_get (D := D) (ci := 1) (v := .ref (q 6)) (C := R_O) (T := T_O) (N := 17) hx hb hA inA_O hown hK hP 0 rfl rfl 8 (by decide) (hA _ wd_430) (fun _ h9 => h9) rfl d_O_entryIs_25 ?_
      refine lv_iconst (v := 2) hx hb d_O_entryIs_28 (by decide) ?_
      refine lv_iload_n hx hb d_O_entryIs_29 rfl (lv_at hl 2 rfl) ?_
      refine lv_imul hx hb d_O_entryIs_30 ?_
      refine topi_to (v := nI (2 * j)) (by rw [← pk_mul]; rfl) ?_
      refine xl_ald hx hb hK hP 6 rfl (by omega) (by decide) d_O_entryIs_31 ?_
      refine lv_bipush (v := 8) hx hb d_O_entryIs_32 (by decide) ?_
      refine lv_iload_n hx hb d_O_entryIs_34 rfl (lv_at hl 0 rfl) ?_
      refine lv_imul hx hb d_O_entryIs_35 ?_
      refine lv_lshr (v := (wd (2 * j)) >>> ((8 * (xo (oRow pa j 1).toNatClampNeg)).toInt64 &&& 63)) hx hb d_O_entryIs_36 rfl ?_
      refine lv_l2i (v := ((wd (2 * j)) >>> ((8 * (xo (oRow pa j 1).toNatClampNeg)).toInt64 &&& 63)).toInt32) hx hb d_O_entryIs_37 rfl ?_
      refine lv_i2b (v := (((wd (2 * j)) >>> ((8 * (xo (oRow pa j 1).toNatClampNeg)).toInt64 &&& 63)).toInt32).toInt8.toInt32) hx hb d_O_entryIs_38 rfl ?_
      refine lv_istore_n hx hb d_O_entryIs_39 rfl hl (by decide) rfl (fun ls hl => ?_)
      have hl : lv_has ls 4 [(3, .int ((((wd (2 * j)) >>> ((8 * (xo (oRow pa j 1).toNatClampNeg)).toInt64 &&& 63)).toInt32).toInt8.toInt32)), (2, .int (xo (oRow pa j 1).toNatClampNeg)), (0, .ref (q 0)), (1, .int (nI j))] := hl
      refine lv_aload_n hx hb d_O_entryIs_40 rfl (lv_at hl 2 rfl) ?_
      refine va_get (D := D) (ci := 1) (v := .ref (q 11)) (C := R_O) (T := T_O) (N := 17) hx hb hA inA_O hown hK hP 0 rfl rfl 16 (by decide) (hA _ wd_438) (fun _ h9 => h9) rfl d_O_entryIs_41 ?_
      refine lv_aload_n hx hb d_O_entryIs_44 rfl (lv_at hl 2 rfl) ?_
      refine lv_iload_n hx hb d_O_entryIs_45 rfl (lv_at hl 3 rfl) ?_
      refine lv_iconst (v := 0) hx hb d_O_entryIs_46 (by decide) ?_
      refine rV (n := 2) (rest := [.ref (q 11)]) hx hb hml hown hA (o_of l D q n P rw a kn an lw s1 sd kd pa wd ao fo uo ho xo j 0 (by omega) (by omega)) wv_O_90 ⟨by decide, by decide, by decide +kernel⟩ ⟨rfl, rfl, by decide, by decide⟩ rfl hl.1 ⟨Nat.le_of_ble_eq_true rfl, Nat.le_of_ble_eq_true rfl⟩ hP hK hD hN 0 1 rfl rfl rfl (Nat.le_of_ble_eq_true rfl) d_O_entryIs_47 (fun r hr9 => ?_)
      subst hr9
      refine va_iald hx hb hK hP 11 0 rfl rfl (hp0) d_O_entryIs_50 ?_
      refine lv_iload_n hx hb d_O_entryIs_51 rfl (lv_at hl 0 rfl) ?_
      refine lv_icmp_ne (tgt := 59) hx hb d_O_entryIs_52 (by decide) (fun h52 => ?_) (fun h52 => ?_)
      · skip
        refine lv_iconst (v := 0) hx hb d_O_entryIs_59 (by decide) ?_
        exact eRz hx hb hr hlocks (by first | rfl | decide) (by first | exact zb_f (fun h => h.1 h13) | exact zb_f (fun h => h19 h.2.1) | exact zb_f (fun h => h52 h.2.2)) d_O_entryIs_60
      · skip
        refine lv_iconst (v := 1) hx hb d_O_entryIs_55 (by decide) ?_
        refine lv_goto (tgt := 60) hx hb d_O_entryIs_56 (by decide) ?_
        exact eRz hx hb hr hlocks (by first | rfl | decide) (by first | exact zb_t (⟨h13, h19, h52⟩)) d_O_entryIs_60
    · skip
      refine lv_iconst (v := 0) hx hb d_O_entryIs_22 (by decide) ?_
      exact eRz hx hb hr hlocks (by first | rfl | decide) (by first | exact zb_f (fun h => h.1 h13) | exact zb_f (fun h => h19 h.2.1) | exact zb_f (fun h => h52 h.2.2)) d_O_entryIs_23
end
