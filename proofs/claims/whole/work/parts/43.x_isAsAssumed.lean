section
set_option maxRecDepth 100000 in
set_option maxHeartbeats 4000000 in
theorem c_isAsAssumed (l : Launch) (D : va_G) (q : Nat → Nat) (n P k a : Nat) (z : Int32) (lo hi B av al ah an pt fd : Nat → Int32) (ha : a ≤ 8) (hav : ∀ m, m < a → vp_in (av m) 8) : Met l y_X_isAsAssumed (wsm y_X_isAsAssumed b_X_isAsAssumed 3 (some .boolean)) { frames := 0, cells := 0, slots := 0, locals := 0 } (va_Pc [.ref (q 0)] (cPre D (xw D q n P k a z lo hi B av al ah an pt fd))) (vp_Si (fun r => r = zb (decide (asall a av al ah pt)))) 0 0 (fun _ => False) := by
  refine met_R (by decide) (Nat.le_of_ble_eq_true rfl) ?_
  intro p e s m below meth c ls hx hb hr hlocks hml hown hin hA hP hK hD hN hl
  have hown : s.vm.findClass R_X = some m.cls := hown
  have hl : lv_has ls 3 [(0, .ref (q 0))] := hl
  refine lv_iconst (v := 0) hx hb d_X_isAsAssumed_0 (by decide) ?_
  refine lv_istore_n hx hb d_X_isAsAssumed_1 rfl hl (by decide) rfl (fun ls hl => ?_)
  have hl : lv_has ls 3 [(1, .int 0), (0, .ref (q 0))] := hl
  have loop : ∀ (t j : Nat) (ls : Array Slot), j + t = a → (∀ m, m < j → asok av al ah pt m) → lv_has ls 3 [(1, .int (nI j)), (0, .ref (q 0))] → W p l e { frames := 0, cells := 0, slots := 0, locals := 0 } s m [.ref (q 0)].toArray below meth c s.heap [] 0 0 (MQ below (vp_Si (fun r => r = zb (decide (asall a av al ah pt)))) [.ref (q 0)].toArray s 0 0 (fun _ => False)) (F0 m 2 ls []) := by
    intro t
    induction t with
    | zero =>
      intro j ls hj hok hl
      refine lv_iload_n hx hb d_X_isAsAssumed_2 rfl (lv_at hl 0 rfl) ?_
      refine lv_aload_n hx hb d_X_isAsAssumed_3 rfl (lv_at hl 1 rfl) ?_
      refine va_get (D := D) (ci := 0) (v := .int (nI a)) (C := R_X) (T := T_X) (N := 14) hx hb hA inA_X hown hK hP 0 rfl rfl 9 (by decide) (hA _ wd_34) (fun _ h9 => h9) rfl d_X_isAsAssumed_4 ?_
      refine lv_icmp_ge (tgt := 50) hx hb d_X_isAsAssumed_7 (by decide) (fun h7 => ?_) (fun h => absurd (nI_le (by omega) (by omega)) h)
      refine lv_iconst (v := 1) hx hb d_X_isAsAssumed_50 (by decide) ?_
      exact eRz hx hb hr hlocks (by first | rfl | decide) (zb_t (fun m hm => hok m (by omega))) d_X_isAsAssumed_51
    | succ t ih =>
      intro j ls hj hok hl
      refine lv_iload_n hx hb d_X_isAsAssumed_2 rfl (lv_at hl 0 rfl) ?_
      refine lv_aload_n hx hb d_X_isAsAssumed_3 rfl (lv_at hl 1 rfl) ?_
      refine va_get (D := D) (ci := 0) (v := .int (nI a)) (C := R_X) (T := T_X) (N := 14) hx hb hA inA_X hown hK hP 0 rfl rfl 9 (by decide) (hA _ wd_34) (fun _ h9 => h9) rfl d_X_isAsAssumed_4 ?_
      refine lv_icmp_ge (tgt := 50) hx hb d_X_isAsAssumed_7 (by decide) (fun h => absurd h (nI_ge (by omega) (by omega))) (fun h7 => ?_)
      refine lv_aload_n hx hb d_X_isAsAssumed_10 rfl (lv_at hl 1 rfl) ?_
      refine va_get (D := D) (ci := 0) (v := .ref (q 8)) (C := R_X) (T := T_X) (N := 14) hx hb hA inA_X hown hK hP 0 rfl rfl 12 (by decide) (hA _ wd_37) (fun _ h9 => h9) rfl d_X_isAsAssumed_11 ?_
      refine lv_aload_n hx hb d_X_isAsAssumed_14 rfl (lv_at hl 1 rfl) ?_
      refine va_get (D := D) (ci := 0) (v := .ref (q 4)) (C := R_X) (T := T_X) (N := 14) hx hb hA inA_X hown hK hP 0 rfl rfl 6 (by decide) (hA _ wd_31) (fun _ h9 => h9) rfl d_X_isAsAssumed_15 ?_
      refine lv_iload_n hx hb d_X_isAsAssumed_18 rfl (lv_at hl 0 rfl) ?_
      refine xi_ald hx hb hK hP 4 rfl (by omega) (by decide) d_X_isAsAssumed_19 ?_
      refine va_iald hx hb hK hP 8 0 rfl rfl (hav j (by omega)) d_X_isAsAssumed_20 ?_
      refine lv_istore_n hx hb d_X_isAsAssumed_21 rfl hl (by decide) rfl (fun ls hl => ?_)
      have hl : lv_has ls 3 [(2, .int (pt (av j).toNatClampNeg)), (1, .int (nI j)), (0, .ref (q 0))] := hl
      refine lv_iload_n hx hb d_X_isAsAssumed_22 rfl (lv_at hl 0 rfl) ?_
      refine lv_aload_n hx hb d_X_isAsAssumed_23 rfl (lv_at hl 2 rfl) ?_
      refine va_get (D := D) (ci := 0) (v := .ref (q 5)) (C := R_X) (T := T_X) (N := 14) hx hb hA inA_X hown hK hP 0 rfl rfl 7 (by decide) (hA _ wd_32) (fun _ h9 => h9) rfl d_X_isAsAssumed_24 ?_
      refine lv_iload_n hx hb d_X_isAsAssumed_27 rfl (lv_at hl 1 rfl) ?_
      refine xi_ald hx hb hK hP 5 rfl (by omega) (by decide) d_X_isAsAssumed_28 ?_
      refine lv_icmp_lt (tgt := 42) hx hb d_X_isAsAssumed_29 (by decide) (fun h29 => ?_) (fun h29 => ?_)
      · skip
        refine lv_iconst (v := 0) hx hb d_X_isAsAssumed_42 (by decide) ?_
        exact eRz hx hb hr hlocks (by first | rfl | decide) (by first | exact zb_f (fun h => (h j (by omega)).1 h29) | exact zb_f (fun h => h39 (h j (by omega)).2)) d_X_isAsAssumed_43
      · skip
        refine lv_iload_n hx hb d_X_isAsAssumed_32 rfl (lv_at hl 0 rfl) ?_
        refine lv_aload_n hx hb d_X_isAsAssumed_33 rfl (lv_at hl 2 rfl) ?_
        refine va_get (D := D) (ci := 0) (v := .ref (q 6)) (C := R_X) (T := T_X) (N := 14) hx hb hA inA_X hown hK hP 0 rfl rfl 8 (by decide) (hA _ wd_33) (fun _ h9 => h9) rfl d_X_isAsAssumed_34 ?_
        refine lv_iload_n hx hb d_X_isAsAssumed_37 rfl (lv_at hl 1 rfl) ?_
        refine xi_ald hx hb hK hP 6 rfl (by omega) (by decide) d_X_isAsAssumed_38 ?_
        refine lv_icmp_le (tgt := 44) hx hb d_X_isAsAssumed_39 (by decide) (fun h39 => ?_) (fun h39 => ?_)
        · skip
          refine lv_iinc (v := nI (j + 1)) hx hb d_X_isAsAssumed_44 hl (k := 1) rfl (by rw [nI_succ]; rfl) (by decide) rfl (fun ls hl => ?_)
          have hl : lv_has ls 3 [(1, .int (nI (j + 1))), (2, .int (pt (av j).toNatClampNeg)), (0, .ref (q 0))] := hl
          refine lv_goto (tgt := 2) hx hb d_X_isAsAssumed_47 (by decide) ?_
          exact ih (j + 1) _ (by omega) (lt_s hok ⟨h29, h39⟩) (lv_sub hl [0, 2] rfl)
        · skip
          refine lv_iconst (v := 0) hx hb d_X_isAsAssumed_42 (by decide) ?_
          exact eRz hx hb hr hlocks (by first | rfl | decide) (by first | exact zb_f (fun h => (h j (by omega)).1 h29) | exact zb_f (fun h => h39 (h j (by omega)).2)) d_X_isAsAssumed_43
  exact loop a 0 _ (by omega) (fun m h => absurd h (by omega)) (lv_sub hl [0, 1] rfl)
end
