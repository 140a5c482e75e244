section
set_option maxRecDepth 100000 in
set_option maxHeartbeats 4000000 in
theorem c_partHolds (l : Launch) (D : va_G) (o b1 : Nat) (i : Int32) (w1 : Int32) (j : Int32) (w2 : Int32) (v : Int32) (w3 : Int32) (how : Int32) (n1 nu pa : Int32) (x : Nat → Int32) (h19 : n1 = -1 ∨ vp_in n1 8) : Met l y_C_partHolds (wsm y_C_partHolds b_C_partHolds 5 (some .boolean)) { frames := 1, cells := 0, slots := 0, locals := 21 } (va_Pc [.ref o, .int n1, .int nu, .int pa, .ref b1] (cPre D ([(o, .inr (8, [.int i, .int w1, .int j, .int w2, .int v, .int w3, .int how])), (b1, .inl (D.1 100, 8, .inl x))]))) (vp_Si (fun r => r = zb (decide (clP n1 nu pa how x)))) 0 0 (fun _ => False) := by
  refine met_R (by decide) (Nat.le_of_ble_eq_true rfl) ?_
  intro p e s m below meth c ls hx hb hr hlocks hml hown hin hA hP hK hD hN hl
  have hown : s.vm.findClass R_C = some m.cls := hown
  have hl : lv_has ls 5 [(0, .ref o), (1, .int n1), (2, .int nu), (3, .int pa), (4, .ref b1)] := hl
  refine lv_iload_n hx hb d_C_partHolds_0 rfl (lv_at hl 1 rfl) ?_
  refine lv_iconst (v := (-1)) hx hb d_C_partHolds_1 (by decide) ?_
  refine lv_icmp_ne (tgt := 7) hx hb d_C_partHolds_2 (by decide) (fun h2 => ?_) (fun h2 => ?_)
  · skip
    refine lv_iload_n hx hb d_C_partHolds_7 rfl (lv_at hl 3 rfl) ?_
    refine lv_aload_n hx hb d_C_partHolds_8 rfl (lv_at hl 0 rfl) ?_
    refine va_get (D := D) (ci := 8) (v := .int how) (C := R_C) (T := T_C) (N := 7) hx hb hA inA_C hown hK hP 0 rfl rfl 6 (by decide) (hA _ wd_333) (fun _ h9 => h9) rfl d_C_partHolds_9 ?_
    refine rSN (n := 2) (rest := []) hx hb hml hown hA (c_isIn l D pa how) hN.1.2.1 wv_C_37 ⟨by decide, by decide, by decide +kernel⟩ ⟨rfl, rfl, by decide, by decide⟩ rfl hl.1 ⟨Nat.le_of_ble_eq_true rfl, Nat.le_of_ble_eq_true rfl⟩ (va_P.sub1 hP [] rfl) hK (va_D.sub hD [] rfl rfl) hN rfl (Nat.le_of_ble_eq_true rfl) d_C_partHolds_12 (fun r hr9 => ?_)
    rcases zb_c hr9 with ⟨rfl, h12⟩ | ⟨rfl, h12⟩
    · skip
      refine lv_if_eq (tgt := 34) hx hb d_C_partHolds_15 (by decide) (fun h => absurd h (by decide)) (fun _ => ?_)
      refine lv_aload hx hb d_C_partHolds_18 (lv_at hl 4 rfl) ?_
      refine lv_iload_n hx hb d_C_partHolds_20 rfl (lv_at hl 1 rfl) ?_
      refine va_iald hx hb hK hP 1 0 rfl rfl (h19.resolve_left h2) d_C_partHolds_21 ?_
      refine lv_iload_n hx hb d_C_partHolds_22 rfl (lv_at hl 2 rfl) ?_
      refine lv_icmp_lt (tgt := 30) hx hb d_C_partHolds_23 (by decide) (fun h23 => ?_) (fun h23 => ?_)
      · skip
        refine lv_iconst (v := 0) hx hb d_C_partHolds_30 (by decide) ?_
        refine lv_goto (tgt := 47) hx hb d_C_partHolds_31 (by decide) ?_
        exact eRz hx hb hr hlocks (by first | rfl | decide) (by first | exact zb_f (fun h => h.1 h2) | exact zb_f (fun h => by have h5 := h.2; rw [if_pos h12] at h5; exact h5 h23) | exact zb_f (fun h => by have h5 := h.2; rw [if_neg h12] at h5; exact h5 h39)) d_C_partHolds_47
      · skip
        refine lv_iconst (v := 1) hx hb d_C_partHolds_26 (by decide) ?_
        refine lv_goto (tgt := 47) hx hb d_C_partHolds_27 (by decide) ?_
        exact eRz hx hb hr hlocks (by first | rfl | decide) (by first | exact zb_t (⟨h2, by rw [if_pos h12]; exact h23⟩) | exact zb_t (⟨h2, by rw [if_neg h12]; exact h39⟩)) d_C_partHolds_47
    · skip
      refine lv_if_eq (tgt := 34) hx hb d_C_partHolds_15 (by decide) (fun _ => ?_) (fun h => absurd h (by decide))
      refine lv_aload hx hb d_C_partHolds_34 (lv_at hl 4 rfl) ?_
      refine lv_iload_n hx hb d_C_partHolds_36 rfl (lv_at hl 1 rfl) ?_
      refine va_iald hx hb hK hP 1 0 rfl rfl (h19.resolve_left h2) d_C_partHolds_37 ?_
      refine lv_iload_n hx hb d_C_partHolds_38 rfl (lv_at hl 2 rfl) ?_
      refine lv_icmp_gt (tgt := 46) hx hb d_C_partHolds_39 (by decide) (fun h39 => ?_) (fun h39 => ?_)
      · skip
        refine lv_iconst (v := 0) hx hb d_C_partHolds_46 (by decide) ?_
        exact eRz hx hb hr hlocks (by first | rfl | decide) (by first | exact zb_f (fun h => h.1 h2) | exact zb_f (fun h => by have h5 := h.2; rw [if_pos h12] at h5; exact h5 h23) | exact zb_f (fun h => by have h5 := h.2; rw [if_neg h12] at h5; exact h5 h39)) d_C_partHolds_47
      · skip
        refine lv_iconst (v := 1) hx hb d_C_partHolds_42 (by decide) ?_
        refine lv_goto (tgt := 47) hx hb d_C_partHolds_43 (by decide) ?_
        exact eRz hx hb hr hlocks (by first | rfl | decide) (by first | exact zb_t (⟨h2, by rw [if_pos h12]; exact h23⟩) | exact zb_t (⟨h2, by rw [if_neg h12]; exact h39⟩)) d_C_partHolds_47
  · skip
    refine lv_iconst (v := 0) hx hb d_C_partHolds_5 (by decide) ?_
    exact eRz hx hb hr hlocks (by first | rfl | decide) (by first | exact zb_f (fun h => h.1 h2) | exact zb_f (fun h => by have h5 := h.2; rw [if_pos h12] at h5; exact h5 h23) | exact zb_f (fun h => by have h5 := h.2; rw [if_neg h12] at h5; exact h5 h39)) d_C_partHolds_6
end
