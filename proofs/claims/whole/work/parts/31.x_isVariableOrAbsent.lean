section
set_option maxRecDepth 100000 in
set_option maxHeartbeats 4000000 in
theorem c_isVariableOrAbsent (l : Launch) (D : va_G) (q : Nat → Nat) (n P k a : Nat) (z : Int32) (lo hi B av al ah an pt fd : Nat → Int32) (i : Int32) : Met l y_X_isVariableOrAbsent (wsm y_X_isVariableOrAbsent b_X_isVariableOrAbsent 2 (some .boolean)) { frames := 1, cells := 0, slots := 0, locals := 21 } (va_Pc [.ref (q 0), .int i] (cPre D (xw D q n P k a z lo hi B av al ah an pt fd))) (vp_Si (fun r => r = zb (decide (iva n i)))) 0 0 (fun _ => False) := by
  refine met_R (by decide) (Nat.le_of_ble_eq_true rfl) ?_
  intro p e s m below meth c ls hx hb hr hlocks hml hown hin hA hP hK hD hN hl
  have hown : s.vm.findClass R_X = some m.cls := hown
  have hl : lv_has ls 2 [(0, .ref (q 0)), (1, .int i)] := hl
  refine lv_iload_n hx hb d_X_isVariableOrAbsent_0 rfl (lv_at hl 1 rfl) ?_
  refine lv_iconst (v := (-1)) hx hb d_X_isVariableOrAbsent_1 (by decide) ?_
  refine lv_icmp_eq (tgt := 13) hx hb d_X_isVariableOrAbsent_2 (by decide) (fun h2 => ?_) (fun h2 => ?_)
  · skip
    refine lv_iconst (v := 1) hx hb d_X_isVariableOrAbsent_13 (by decide) ?_
    refine lv_goto (tgt := 18) hx hb d_X_isVariableOrAbsent_14 (by decide) ?_
    exact eRz hx hb hr hlocks (by first | rfl | decide) (by first | exact zb_t (Or.inl h2) | exact zb_t (Or.inr h7)) d_X_isVariableOrAbsent_18
  · skip
    refine lv_aload_n hx hb d_X_isVariableOrAbsent_5 rfl (lv_at hl 0 rfl) ?_
    refine lv_iload_n hx hb d_X_isVariableOrAbsent_6 rfl (lv_at hl 1 rfl) ?_
    refine rV (n := 1) (rest := []) hx hb hml hown hA (c_isVariable l D q n P k a z lo hi B av al ah an pt fd i) wv_X_75 ⟨by decide, by decide, by decide +kernel⟩ ⟨rfl, rfl, by decide, by decide⟩ rfl hl.1 ⟨Nat.le_of_ble_eq_true rfl, Nat.le_of_ble_eq_true rfl⟩ hP hK hD hN 0 0 rfl rfl rfl (Nat.le_of_ble_eq_true rfl) d_X_isVariableOrAbsent_7 (fun r hr9 => ?_)
    rcases zb_c hr9 with ⟨rfl, h7⟩ | ⟨rfl, h7⟩
    · skip
      refine lv_if_eq (tgt := 17) hx hb d_X_isVariableOrAbsent_10 (by decide) (fun h => absurd h (by decide)) (fun _ => ?_)
      refine lv_iconst (v := 1) hx hb d_X_isVariableOrAbsent_13 (by decide) ?_
      refine lv_goto (tgt := 18) hx hb d_X_isVariableOrAbsent_14 (by decide) ?_
      exact eRz hx hb hr hlocks (by first | rfl | decide) (by first | exact zb_t (Or.inl h2) | exact zb_t (Or.inr h7)) d_X_isVariableOrAbsent_18
    · skip
      refine lv_if_eq (tgt := 17) hx hb d_X_isVariableOrAbsent_10 (by decide) (fun _ => ?_) (fun h => absurd h (by decide))
      refine lv_iconst (v := 0) hx hb d_X_isVariableOrAbsent_17 (by decide) ?_
      exact eRz hx hb hr hlocks (by first | rfl | decide) (by first | exact zb_f (fun h => h.elim h2 h7)) d_X_isVariableOrAbsent_18
end
