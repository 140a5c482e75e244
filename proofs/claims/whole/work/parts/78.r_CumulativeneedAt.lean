section
set_option maxRecDepth 100000 in
set_option maxHeartbeats 4000000 in
theorem c_needAt (l : Launch) (D : va_G) (o b1 : Nat) (t1 : Int32) (du : Int64) (ne : Int64) (cp : Int32) (mo : Int32) (x : Nat → Int32) : Met l y_U_needAt (wsm y_U_needAt b_U_needAt 5 (some .int)) { frames := 1, cells := 0, slots := 0, locals := 22 } (va_Pc [.ref o, .int mo, .ref b1] (cPre D ([(o, .inr (7, [.int t1, .long du, .long ne, .int cp])), (b1, .inl (D.1 100, 8, .inl x))]))) (vp_Si (fun r => r = cumN t1 du ne mo x 8 0 0)) 0 0 (fun _ => False) := by
  refine met_R (by decide) (Nat.le_of_ble_eq_true rfl) ?_
  intro p e s m below meth c ls hx hb hr hlocks hml hown hin hA hP hK hD hN hl
  have hown : s.vm.findClass R_U = some m.cls := hown
  have hl : lv_has ls 5 [(0, .ref o), (1, .int mo), (2, .ref b1)] := hl
  refine lv_iconst (v := 0) hx hb d_U_needAt_0 (by decide) ?_
  refine lv_istore_n hx hb d_U_needAt_1 rfl hl (by decide) rfl (fun ls hl => ?_)
  have hl : lv_has ls 5 [(3, .int 0), (0, .ref o), (1, .int mo), (2, .ref b1)] := hl
  refine lv_iconst (v := 0) hx hb d_U_needAt_2 (by decide) ?_
  refine lv_istore hx hb d_U_needAt_3 hl (by decide) rfl (fun ls hl => ?_)
  have hl : lv_has ls 5 [(4, .int 0), (3, .int 0), (0, .ref o), (1, .int mo), (2, .ref b1)] := hl
  have loop : ∀ (t i : Nat) (nd : Int32) (ls : Array Slot), i + t = 8 → cumN t1 du ne mo x t i nd = cumN t1 du ne mo x 8 0 0 → lv_has ls 5 [(4, .int (nI i)), (3, .int nd), (0, .ref o), (1, .int mo), (2, .ref b1)] → W p l e { frames := 1, cells := 0, slots := 0, locals := 22 } s m [.ref o, .int mo, .ref b1].toArray below meth c s.heap [] 0 0 (MQ below (vp_Si (fun r => r = cumN t1 du ne mo x 8 0 0)) [.ref o, .int mo, .ref b1].toArray s 0 0 (fun _ => False)) (F0 m 5 ls []) := by
    intro t
    induction t with
    | zero =>
      intro i nd ls hi8 hf hl
      refine lv_iload hx hb d_U_needAt_5 (lv_at hl 0 rfl) ?_
      refine lv_bipush (v := 8) hx hb d_U_needAt_7 (by decide) ?_
      refine lv_icmp_ge (tgt := 68) hx hb d_U_needAt_9 (by decide) (fun h9 => ?_) (fun h => absurd (nI_le (a := 8) (by omega) (by omega)) h)
      refine lv_iload_n hx hb d_U_needAt_68 rfl (lv_at hl 1 rfl) ?_
      exact eR hx hb hr hlocks (by rw [← hf]; rfl) d_U_needAt_69
    | succ t ih =>
      intro i nd ls hi8 hf hl
      refine lv_iload hx hb d_U_needAt_5 (lv_at hl 0 rfl) ?_
      refine lv_bipush (v := 8) hx hb d_U_needAt_7 (by decide) ?_
      refine lv_icmp_ge (tgt := 68) hx hb d_U_needAt_9 (by decide) (fun h => absurd h (nI_ge (b := 8) (by omega) (by decide))) (fun h9 => ?_)
      refine lv_iload hx hb d_U_needAt_12 (lv_at hl 0 rfl) ?_
      refine lv_aload_n hx hb d_U_needAt_14 rfl (lv_at hl 2 rfl) ?_
      refine va_get (D := D) (ci := 7) (v := .int t1) (C := R_U) (T := T_U) (N := 4) hx hb hA inA_U hown hK hP 0 rfl rfl 0 (by decide) (hA _ wd_305) (fun _ h9 => h9) rfl d_U_needAt_15 ?_
      refine rSN (n := 2) (rest := []) hx hb hml hown hA (c_isIn l D (nI i) t1) hN.1.2.2.1 wv_U_25 ⟨by decide, by decide, by decide +kernel⟩ ⟨rfl, rfl, by decide, by decide⟩ rfl hl.1 ⟨Nat.le_of_ble_eq_true rfl, Nat.le_of_ble_eq_true rfl⟩ (va_P.sub1 hP [] rfl) hK (va_D.sub hD [] rfl rfl) hN rfl (Nat.le_of_ble_eq_true rfl) d_U_needAt_18 (fun r hr9 => ?_)
      rcases zb_c hr9 with ⟨rfl, h18⟩ | ⟨rfl, h18⟩
      · skip
        refine lv_if_eq (tgt := 62) hx hb d_U_needAt_21 (by decide) (fun h => absurd h (by decide)) (fun _ => ?_)
        refine lv_aload_n hx hb d_U_needAt_24 rfl (lv_at hl 4 rfl) ?_
        refine lv_iload hx hb d_U_needAt_25 (lv_at hl 0 rfl) ?_
        refine xi_ald hx hb hK hP 1 rfl (by omega) (by decide) d_U_needAt_27 ?_
        refine lv_iload_n hx hb d_U_needAt_28 rfl (lv_at hl 3 rfl) ?_
        refine lv_icmp_gt (tgt := 62) hx hb d_U_needAt_29 (by decide) (fun h29 => ?_) (fun h29 => ?_)
        · skip
          refine lv_iinc (v := nI (i + 1)) hx hb d_U_needAt_62 hl (k := 0) rfl (by rw [nI_succ]; rfl) (by decide) rfl (fun ls hl => ?_)
          have hl : lv_has ls 5 [(4, .int (nI (i + 1))), (3, .int nd), (0, .ref o), (1, .int mo), (2, .ref b1)] := hl
          refine lv_goto (tgt := 5) hx hb d_U_needAt_65 (by decide) ?_
          exact ih (i + 1) _ _ (by omega) ((cumN_no (fun h => h.2.1 h29)).symm.trans hf) (lv_sub hl [0, 1, 2, 3, 4] rfl)
        · skip
          refine lv_iload_n hx hb d_U_needAt_32 rfl (lv_at hl 3 rfl) ?_
          refine lv_aload_n hx hb d_U_needAt_33 rfl (lv_at hl 4 rfl) ?_
          refine lv_iload hx hb d_U_needAt_34 (lv_at hl 0 rfl) ?_
          refine xi_ald hx hb hK hP 1 rfl (by omega) (by decide) d_U_needAt_36 ?_
          refine lv_aload_n hx hb d_U_needAt_37 rfl (lv_at hl 2 rfl) ?_
          refine va_get (D := D) (ci := 7) (v := .long du) (C := R_U) (T := T_U) (N := 4) hx hb hA inA_U hown hK hP 0 rfl rfl 1 (by decide) (hA _ wd_306) (fun _ h9 => h9) rfl d_U_needAt_38 ?_
          refine lv_iload hx hb d_U_needAt_41 (lv_at hl 0 rfl) ?_
          refine rS (n := 2) (rest := [.int (x i), .int mo]) hx hb hml hown hA (c_fourBits l D du (nI i)) wv_U_33 ⟨by decide, by decide, by decide +kernel⟩ ⟨rfl, rfl, by decide, by decide⟩ rfl hl.1 ⟨Nat.le_of_ble_eq_true rfl, Nat.le_of_ble_eq_true rfl⟩ (va_P.sub1 hP [] rfl) hK (va_D.sub hD [] rfl rfl) hN rfl (Nat.le_of_ble_eq_true rfl) d_U_needAt_43 (fun r hr9 => ?_)
          subst hr9
          refine lv_iadd hx hb d_U_needAt_46 ?_
          refine lv_icmp_ge (tgt := 62) hx hb d_U_needAt_47 (by decide) (fun h47 => ?_) (fun h47 => ?_)
          · skip
            refine lv_iinc (v := nI (i + 1)) hx hb d_U_needAt_62 hl (k := 0) rfl (by rw [nI_succ]; rfl) (by decide) rfl (fun ls hl => ?_)
            have hl : lv_has ls 5 [(4, .int (nI (i + 1))), (3, .int nd), (0, .ref o), (1, .int mo), (2, .ref b1)] := hl
            refine lv_goto (tgt := 5) hx hb d_U_needAt_65 (by decide) ?_
            exact ih (i + 1) _ _ (by omega) ((cumN_no (fun h => h.2.2 h47)).symm.trans hf) (lv_sub hl [0, 1, 2, 3, 4] rfl)
          · skip
            refine lv_iload_n hx hb d_U_needAt_50 rfl (lv_at hl 1 rfl) ?_
            refine lv_aload_n hx hb d_U_needAt_51 rfl (lv_at hl 2 rfl) ?_
            refine va_get (D := D) (ci := 7) (v := .long ne) (C := R_U) (T := T_U) (N := 4) hx hb hA inA_U hown hK hP 0 rfl rfl 2 (by decide) (hA _ wd_307) (fun _ h9 => h9) rfl d_U_needAt_52 ?_
            refine lv_iload hx hb d_U_needAt_55 (lv_at hl 0 rfl) ?_
            refine rS (n := 2) (rest := [.int nd]) hx hb hml hown hA (c_fourBits l D ne (nI i)) wv_U_33 ⟨by decide, by decide, by decide +kernel⟩ ⟨rfl, rfl, by decide, by decide⟩ rfl hl.1 ⟨Nat.le_of_ble_eq_true rfl, Nat.le_of_ble_eq_true rfl⟩ (va_P.sub1 hP [] rfl) hK (va_D.sub hD [] rfl rfl) hN rfl (Nat.le_of_ble_eq_true rfl) d_U_needAt_57 (fun r hr9 => ?_)
            subst hr9
            refine lv_iadd hx hb d_U_needAt_60 ?_
            refine lv_istore_n hx hb d_U_needAt_61 rfl hl (by decide) rfl (fun ls hl => ?_)
            have hl : lv_has ls 5 [(3, .int (nd + (fbs ne (nI i)))), (4, .int (nI i)), (0, .ref o), (1, .int mo), (2, .ref b1)] := hl
            refine lv_iinc (v := nI (i + 1)) hx hb d_U_needAt_62 hl (k := 1) rfl (by rw [nI_succ]; rfl) (by decide) rfl (fun ls hl => ?_)
            have hl : lv_has ls 5 [(4, .int (nI (i + 1))), (3, .int (nd + (fbs ne (nI i)))), (0, .ref o), (1, .int mo), (2, .ref b1)] := hl
            refine lv_goto (tgt := 5) hx hb d_U_needAt_65 (by decide) ?_
            exact ih (i + 1) _ _ (by omega) ((cumN_go ⟨h18, h29, h47⟩).symm.trans hf) (lv_sub hl [0, 1, 2, 3, 4] rfl)
      · skip
        refine lv_if_eq (tgt := 62) hx hb d_U_needAt_21 (by decide) (fun _ => ?_) (fun h => absurd h (by decide))
        refine lv_iinc (v := nI (i + 1)) hx hb d_U_needAt_62 hl (k := 0) rfl (by rw [nI_succ]; rfl) (by decide) rfl (fun ls hl => ?_)
        have hl : lv_has ls 5 [(4, .int (nI (i + 1))), (3, .int nd), (0, .ref o), (1, .int mo), (2, .ref b1)] := hl
        refine lv_goto (tgt := 5) hx hb d_U_needAt_65 (by decide) ?_
        exact ih (i + 1) _ _ (by omega) ((cumN_no (fun h => h18 h.1)).symm.trans hf) (lv_sub hl [0, 1, 2, 3, 4] rfl)
  exact loop 8 0 0 _ (by omega) rfl (lv_sub hl [0, 1, 2, 3, 4] rfl)
end
