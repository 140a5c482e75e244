section
set_option maxRecDepth 100000 in
set_option maxHeartbeats 4000000 in
theorem c_Cumulative (l : Launch) (D : va_G) (o b1 : Nat) (t1 : Int32) (du : Int64) (ne : Int64) (cp : Int32) (x : Nat → Int32) : Met l y_U_holdsAt (wsm y_U_holdsAt b_U_holdsAt 3 (some .boolean)) { frames := 2, cells := 0, slots := 0, locals := 46 } (va_Pc [.ref o, .ref b1] (cPre D ([(o, .inr (7, [.int t1, .long du, .long ne, .int cp])), (b1, .inl (D.1 100, 8, .inl x))]))) (vp_Si (fun r => r = zb (kCum t1 du ne cp x 8 0))) 0 0 (fun _ => False) := by
  refine met_R (by decide) (Nat.le_of_ble_eq_true rfl) ?_
  intro p e s m below meth c ls hx hb hr hlocks hml hown hin hA hP hK hD hN hl
  have hown : s.vm.findClass R_U = some m.cls := hown
  have hl : lv_has ls 3 [(0, .ref o), (1, .ref b1)] := hl
  refine lv_iconst (v := 0) hx hb d_U_holdsAt_0 (by decide) ?_
  refine lv_istore_n hx hb d_U_holdsAt_1 rfl hl (by decide) rfl (fun ls hl => ?_)
  have hl : lv_has ls 3 [(2, .int 0), (0, .ref o), (1, .ref b1)] := hl
  have loop : ∀ (t i : Nat) (ls : Array Slot), i + t = 8 → kCum t1 du ne cp x t i = kCum t1 du ne cp x 8 0 → lv_has ls 3 [(2, .int (nI i)), (0, .ref o), (1, .ref b1)] → W p l e { frames := 2, cells := 0, slots := 0, locals := 46 } s m [.ref o, .ref b1].toArray below meth c s.heap [] 0 0 (MQ below (vp_Si (fun r => r = zb (kCum t1 du ne cp x 8 0))) [.ref o, .ref b1].toArray s 0 0 (fun _ => False)) (F0 m 2 ls []) := by
    intro t
    induction t with
    | zero =>
      intro i ls hi8 hf hl
      refine lv_iload_n hx hb d_U_holdsAt_2 rfl (lv_at hl 0 rfl) ?_
      refine lv_bipush (v := 8) hx hb d_U_holdsAt_3 (by decide) ?_
      refine lv_icmp_ge (tgt := 42) hx hb d_U_holdsAt_5 (by decide) (fun h5 => ?_) (fun h => absurd (nI_le (a := 8) (by omega) (by omega)) h)
      refine lv_iconst (v := 1) hx hb d_U_holdsAt_42 (by decide) ?_
      exact eRz hx hb hr hlocks (by first | rfl | decide) (by rw [← hf]; rfl) d_U_holdsAt_43
    | succ t ih =>
      intro i ls hi8 hf hl
      refine lv_iload_n hx hb d_U_holdsAt_2 rfl (lv_at hl 0 rfl) ?_
      refine lv_bipush (v := 8) hx hb d_U_holdsAt_3 (by decide) ?_
      refine lv_icmp_ge (tgt := 42) hx hb d_U_holdsAt_5 (by decide) (fun h => absurd h (nI_ge (b := 8) (by omega) (by decide))) (fun h5 => ?_)
      refine lv_iload_n hx hb d_U_holdsAt_8 rfl (lv_at hl 0 rfl) ?_
      refine lv_aload_n hx hb d_U_holdsAt_9 rfl (lv_at hl 1 rfl) ?_
      refine va_get (D := D) (ci := 7) (v := .int t1) (C := R_U) (T := T_U) (N := 4) hx hb hA inA_U hown hK hP 0 rfl rfl 0 (by decide) (hA _ wd_305) (fun _ h9 => h9) rfl d_U_holdsAt_10 ?_
      refine rSN (n := 2) (rest := []) hx hb hml hown hA (c_isIn l D (nI i) t1) hN.1.2.2.1 wv_U_25 ⟨by decide, by decide, by decide +kernel⟩ ⟨rfl, rfl, by decide, by decide⟩ rfl hl.1 ⟨Nat.le_of_ble_eq_true rfl, Nat.le_of_ble_eq_true rfl⟩ (va_P.sub1 hP [] rfl) hK (va_D.sub hD [] rfl rfl) hN rfl (Nat.le_of_ble_eq_true rfl) d_U_holdsAt_13 (fun r hr9 => ?_)
      rcases zb_c hr9 with ⟨rfl, h13⟩ | ⟨rfl, h13⟩
      · skip
        refine lv_if_eq (tgt := 36) hx hb d_U_holdsAt_16 (by decide) (fun h => absurd h (by decide)) (fun _ => ?_)
        refine lv_aload_n hx hb d_U_holdsAt_19 rfl (lv_at hl 1 rfl) ?_
        refine lv_aload_n hx hb d_U_holdsAt_20 rfl (lv_at hl 2 rfl) ?_
        refine lv_iload_n hx hb d_U_holdsAt_21 rfl (lv_at hl 0 rfl) ?_
        refine xi_ald hx hb hK hP 1 rfl (by omega) (by decide) d_U_holdsAt_22 ?_
        refine lv_aload_n hx hb d_U_holdsAt_23 rfl (lv_at hl 2 rfl) ?_
        refine rV (n := 2) (rest := []) hx hb hml hown hA (c_needAt l D o b1 t1 du ne cp (x i) x) wv_U_29 ⟨by decide, by decide, by decide +kernel⟩ ⟨rfl, rfl, by decide, by decide⟩ rfl hl.1 ⟨Nat.le_of_ble_eq_true rfl, Nat.le_of_ble_eq_true rfl⟩ hP hK hD hN 0 7 rfl rfl rfl (Nat.le_of_ble_eq_true rfl) d_U_holdsAt_24 (fun r hr9 => ?_)
        subst hr9
        refine lv_aload_n hx hb d_U_holdsAt_27 rfl (lv_at hl 1 rfl) ?_
        refine va_get (D := D) (ci := 7) (v := .int cp) (C := R_U) (T := T_U) (N := 4) hx hb hA inA_U hown hK hP 0 rfl rfl 3 (by decide) (hA _ wd_308) (fun _ h9 => h9) rfl d_U_holdsAt_28 ?_
        refine lv_icmp_le (tgt := 36) hx hb d_U_holdsAt_31 (by decide) (fun h31 => ?_) (fun h31 => ?_)
        · skip
          refine lv_iinc (v := nI (i + 1)) hx hb d_U_holdsAt_36 hl (k := 0) rfl (by rw [nI_succ]; rfl) (by decide) rfl (fun ls hl => ?_)
          have hl : lv_has ls 3 [(2, .int (nI (i + 1))), (0, .ref o), (1, .ref b1)] := hl
          refine lv_goto (tgt := 2) hx hb d_U_holdsAt_39 (by decide) ?_
          exact ih (i + 1) _ (by omega) ((kCum_no (fun h => h.2 h31)).symm.trans hf) (lv_sub hl [0, 1, 2] rfl)
        · skip
          refine lv_iconst (v := 0) hx hb d_U_holdsAt_34 (by decide) ?_
          exact eRz hx hb hr hlocks (by first | rfl | decide) (by rw [← hf, kCum_hit ⟨h13, h31⟩]; rfl) d_U_holdsAt_35
      · skip
        refine lv_if_eq (tgt := 36) hx hb d_U_holdsAt_16 (by decide) (fun _ => ?_) (fun h => absurd h (by decide))
        refine lv_iinc (v := nI (i + 1)) hx hb d_U_holdsAt_36 hl (k := 0) rfl (by rw [nI_succ]; rfl) (by decide) rfl (fun ls hl => ?_)
        have hl : lv_has ls 3 [(2, .int (nI (i + 1))), (0, .ref o), (1, .ref b1)] := hl
        refine lv_goto (tgt := 2) hx hb d_U_holdsAt_39 (by decide) ?_
        exact ih (i + 1) _ (by omega) ((kCum_no (fun h => h13 h.1)).symm.trans hf) (lv_sub hl [0, 1, 2] rfl)
  exact loop 8 0 _ (by omega) rfl (lv_sub hl [0, 1, 2] rfl)
end
