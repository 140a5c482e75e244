section
set_option maxRecDepth 100000 in
set_option maxHeartbeats 4000000 in
theorem c_Different (l : Launch) (D : va_G) (o b1 : Nat) (t1 : Int32) (x : Nat → Int32) : Met l y_D_holdsAt (wsm y_D_holdsAt b_D_holdsAt 7 (some .boolean)) { frames := 1, cells := 0, slots := 0, locals := 21 } (va_Pc [.ref o, .ref b1] (cPre D ([(o, .inr (6, [.int t1])), (b1, .inl (D.1 100, 8, .inl x))]))) (vp_Si (fun r => r = zb (kDif t1 x 8 0 0))) 0 0 (fun _ => False) := by
  refine met_R (by decide) (Nat.le_of_ble_eq_true rfl) ?_
  intro p e s m below meth c ls hx hb hr hlocks hml hown hin hA hP hK hD hN hl
  have hown : s.vm.findClass R_D = some m.cls := hown
  have hl : lv_has ls 7 [(0, .ref o), (1, .ref b1)] := hl
  refine lv_lconst (v := 0) hx hb d_D_holdsAt_0 (by decide) ?_
  refine lv_lstore_n hx hb d_D_holdsAt_1 rfl hl (by decide) rfl (fun ls hl => ?_)
  have hl : lv_has ls 7 [(2, .long 0), (0, .ref o), (1, .ref b1)] := hl
  refine lv_iconst (v := 0) hx hb d_D_holdsAt_2 (by decide) ?_
  refine lv_istore hx hb d_D_holdsAt_3 hl (by decide) rfl (fun ls hl => ?_)
  have hl : lv_has ls 7 [(4, .int 0), (2, .long 0), (0, .ref o), (1, .ref b1)] := hl
  have loop : ∀ (t i : Nat) (sn : Int64) (ls : Array Slot), i + t = 8 → kDif t1 x t i sn = kDif t1 x 8 0 0 → lv_has ls 7 [(4, .int (nI i)), (2, .long sn), (0, .ref o), (1, .ref b1)] → W p l e { frames := 1, cells := 0, slots := 0, locals := 21 } s m [.ref o, .ref b1].toArray below meth c s.heap [] 0 0 (MQ below (vp_Si (fun r => r = zb (kDif t1 x 8 0 0))) [.ref o, .ref b1].toArray s 0 0 (fun _ => False)) (F0 m 5 ls []) := by
    intro t
    induction t with
    | zero =>
      intro i sn ls hi8 hf hl
      refine lv_iload hx hb d_D_holdsAt_5 (lv_at hl 0 rfl) ?_
      refine lv_bipush (v := 8) hx hb d_D_holdsAt_7 (by decide) ?_
      refine lv_icmp_ge (tgt := 57) hx hb d_D_holdsAt_9 (by decide) (fun h9 => ?_) (fun h => absurd (nI_le (a := 8) (by omega) (by omega)) h)
      refine lv_iconst (v := 1) hx hb d_D_holdsAt_57 (by decide) ?_
      exact eRz hx hb hr hlocks (by first | rfl | decide) (by rw [← hf]; rfl) d_D_holdsAt_58
    | succ t ih =>
      intro i sn ls hi8 hf hl
      refine lv_iload hx hb d_D_holdsAt_5 (lv_at hl 0 rfl) ?_
      refine lv_bipush (v := 8) hx hb d_D_holdsAt_7 (by decide) ?_
      refine lv_icmp_ge (tgt := 57) hx hb d_D_holdsAt_9 (by decide) (fun h => absurd h (nI_ge (b := 8) (by omega) (by decide))) (fun h9 => ?_)
      refine lv_iload hx hb d_D_holdsAt_12 (lv_at hl 0 rfl) ?_
      refine lv_aload_n hx hb d_D_holdsAt_14 rfl (lv_at hl 2 rfl) ?_
      refine va_get (D := D) (ci := 6) (v := .int t1) (C := R_D) (T := T_D) (N := 1) hx hb hA inA_D hown hK hP 0 rfl rfl 0 (by decide) (hA _ wd_292) (fun _ h9 => h9) rfl d_D_holdsAt_15 ?_
      refine rSN (n := 2) (rest := []) hx hb hml hown hA (c_isIn l D (nI i) t1) hN.1.2.2.2.1 wv_D_15 ⟨by decide, by decide, by decide +kernel⟩ ⟨rfl, rfl, by decide, by decide⟩ rfl hl.1 ⟨Nat.le_of_ble_eq_true rfl, Nat.le_of_ble_eq_true rfl⟩ (va_P.sub1 hP [] rfl) hK (va_D.sub hD [] rfl rfl) hN rfl (Nat.le_of_ble_eq_true rfl) d_D_holdsAt_18 (fun r hr9 => ?_)
      rcases zb_c hr9 with ⟨rfl, h18⟩ | ⟨rfl, h18⟩
      · skip
        refine lv_if_eq (tgt := 51) hx hb d_D_holdsAt_21 (by decide) (fun h => absurd h (by decide)) (fun _ => ?_)
        refine lv_lconst (v := 1) hx hb d_D_holdsAt_24 (by decide) ?_
        refine lv_aload_n hx hb d_D_holdsAt_25 rfl (lv_at hl 3 rfl) ?_
        refine lv_iload hx hb d_D_holdsAt_26 (lv_at hl 0 rfl) ?_
        refine xi_ald hx hb hK hP 1 rfl (by omega) (by decide) d_D_holdsAt_28 ?_
        refine lv_bipush (v := (-20)) hx hb d_D_holdsAt_29 (by decide) ?_
        refine lv_isub hx hb d_D_holdsAt_31 ?_
        refine lv_lshl (v := 1 <<< (((x i) - (-20)).toInt64 &&& 63)) hx hb d_D_holdsAt_32 rfl ?_
        refine lv_lstore hx hb d_D_holdsAt_33 hl (by decide) rfl (fun ls hl => ?_)
        have hl : lv_has ls 7 [(5, .long (1 <<< (((x i) - (-20)).toInt64 &&& 63))), (4, .int (nI i)), (2, .long sn), (0, .ref o), (1, .ref b1)] := hl
        refine lv_lload_n hx hb d_D_holdsAt_35 rfl (lv_at hl 2 rfl) ?_
        refine lv_lload hx hb d_D_holdsAt_36 (lv_at hl 0 rfl) ?_
        refine lv_land hx hb d_D_holdsAt_38 ?_
        refine lv_lconst (v := 0) hx hb d_D_holdsAt_39 (by decide) ?_
        refine W.lcmp hx hb d_D_holdsAt_40 ?_
        refine lv_if_eq (tgt := 46) hx hb d_D_holdsAt_41 (by decide) (fun h41 => ?_) (fun h41 => ?_)
        · skip
          refine lv_lload_n hx hb d_D_holdsAt_46 rfl (lv_at hl 2 rfl) ?_
          refine lv_lload hx hb d_D_holdsAt_47 (lv_at hl 0 rfl) ?_
          refine lv_lor hx hb d_D_holdsAt_49 ?_
          refine lv_lstore_n hx hb d_D_holdsAt_50 rfl hl (by decide) rfl (fun ls hl => ?_)
          have hl : lv_has ls 7 [(2, .long (sn ||| (1 <<< (((x i) - (-20)).toInt64 &&& 63)))), (5, .long (1 <<< (((x i) - (-20)).toInt64 &&& 63))), (4, .int (nI i)), (0, .ref o), (1, .ref b1)] := hl
          refine lv_iinc (v := nI (i + 1)) hx hb d_D_holdsAt_51 hl (k := 2) rfl (by rw [nI_succ]; rfl) (by decide) rfl (fun ls hl => ?_)
          have hl : lv_has ls 7 [(4, .int (nI (i + 1))), (2, .long (sn ||| (1 <<< (((x i) - (-20)).toInt64 &&& 63)))), (5, .long (1 <<< (((x i) - (-20)).toInt64 &&& 63))), (0, .ref o), (1, .ref b1)] := hl
          refine lv_goto (tgt := 5) hx hb d_D_holdsAt_54 (by decide) ?_
          exact ih (i + 1) _ _ (by omega) (by rw [← hf]; simp only [kDif]; first | rw [if_neg h18] | rw [if_pos h18, if_pos (lg_cmp_z.mp h41)]) (lv_sub hl [0, 1, 3, 4] rfl)
        · skip
          refine lv_iconst (v := 0) hx hb d_D_holdsAt_44 (by decide) ?_
          exact eRz hx hb hr hlocks (by first | rfl | decide) (by rw [← hf]; simp only [kDif]; rw [if_pos h18, if_neg (fun h => h41 (lg_cmp_z.mpr h))]; rfl) d_D_holdsAt_45
      · skip
        refine lv_if_eq (tgt := 51) hx hb d_D_holdsAt_21 (by decide) (fun _ => ?_) (fun h => absurd h (by decide))
        refine lv_iinc (v := nI (i + 1)) hx hb d_D_holdsAt_51 hl (k := 0) rfl (by rw [nI_succ]; rfl) (by decide) rfl (fun ls hl => ?_)
        have hl : lv_has ls 7 [(4, .int (nI (i + 1))), (2, .long sn), (0, .ref o), (1, .ref b1)] := hl
        refine lv_goto (tgt := 5) hx hb d_D_holdsAt_54 (by decide) ?_
        exact ih (i + 1) _ _ (by omega) (by rw [← hf]; simp only [kDif]; first | rw [if_neg h18] | rw [if_pos h18, if_pos (lg_cmp_z.mp h41)]) (lv_sub hl [0, 1, 2, 3] rfl)
  exact loop 8 0 0 _ (by omega) rfl (lv_sub hl [0, 1, 2, 3] rfl)
end
