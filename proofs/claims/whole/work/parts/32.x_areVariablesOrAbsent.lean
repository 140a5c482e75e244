section
set_option maxRecDepth 100000 in
set_option maxHeartbeats 4000000 in
theorem c_areVariablesOrAbsent (l : Launch) (D : va_G) (q : Nat → Nat) (n P k a : Nat) (z : Int32) (lo hi B av al ah an pt fd : Nat → Int32) (i j v : Int32) : Met l y_X_areVariablesOrAbsent (wsm y_X_areVariablesOrAbsent b_X_areVariablesOrAbsent 4 (some .boolean)) { frames := 2, cells := 0, slots := 0, locals := 42 } (va_Pc [.ref (q 0), .int i, .int j, .int v] (cPre D (xw D q n P k a z lo hi B av al ah an pt fd))) (vp_Si (fun r => r = zb (decide (iva n i ∧ iva n j ∧ iva n v)))) 0 0 (fun _ => False) := by
  refine met_R (by decide) (Nat.le_of_ble_eq_true rfl) ?_
  intro p e s m below meth c ls hx hb hr hlocks hml hown hin hA hP hK hD hN hl
  have hown : s.vm.findClass R_X = some m.cls := hown
  have hl : lv_has ls 4 [(0, .ref (q 0)), (1, .int i), (2, .int j), (3, .int v)] := hl
  refine lv_aload_n hx hb d_X_areVariablesOrAbsent_0 rfl (lv_at hl 0 rfl) ?_
  refine lv_iload_n hx hb d_X_areVariablesOrAbsent_1 rfl (lv_at hl 1 rfl) ?_
  refine rV (n := 1) (rest := []) hx hb hml hown hA (c_isVariableOrAbsent l D q n P k a z lo hi B av al ah an pt fd i) wv_X_84 ⟨by decide, by decide, by decide +kernel⟩ ⟨rfl, rfl, by decide, by decide⟩ rfl hl.1 ⟨Nat.le_of_ble_eq_true rfl, Nat.le_of_ble_eq_true rfl⟩ hP hK hD hN 0 0 rfl rfl rfl (Nat.le_of_ble_eq_true rfl) d_X_areVariablesOrAbsent_2 (fun r hr9 => ?_)
  rcases zb_c hr9 with ⟨rfl, h2⟩ | ⟨rfl, h2⟩
  · skip
    refine lv_if_eq (tgt := 28) hx hb d_X_areVariablesOrAbsent_5 (by decide) (fun h => absurd h (by decide)) (fun _ => ?_)
    refine lv_aload_n hx hb d_X_areVariablesOrAbsent_8 rfl (lv_at hl 0 rfl) ?_
    refine lv_iload_n hx hb d_X_areVariablesOrAbsent_9 rfl (lv_at hl 2 rfl) ?_
    refine rV (n := 1) (rest := []) hx hb hml hown hA (c_isVariableOrAbsent l D q n P k a z lo hi B av al ah an pt fd j) wv_X_84 ⟨by decide, by decide, by decide +kernel⟩ ⟨rfl, rfl, by decide, by decide⟩ rfl hl.1 ⟨Nat.le_of_ble_eq_true rfl, Nat.le_of_ble_eq_true rfl⟩ hP hK hD hN 0 0 rfl rfl rfl (Nat.le_of_ble_eq_true rfl) d_X_areVariablesOrAbsent_10 (fun r hr9 => ?_)
    rcases zb_c hr9 with ⟨rfl, h10⟩ | ⟨rfl, h10⟩
    · skip
      refine lv_if_eq (tgt := 28) hx hb d_X_areVariablesOrAbsent_13 (by decide) (fun h => absurd h (by decide)) (fun _ => ?_)
      refine lv_aload_n hx hb d_X_areVariablesOrAbsent_16 rfl (lv_at hl 0 rfl) ?_
      refine lv_iload_n hx hb d_X_areVariablesOrAbsent_17 rfl (lv_at hl 3 rfl) ?_
      refine rV (n := 1) (rest := []) hx hb hml hown hA (c_isVariableOrAbsent l D q n P k a z lo hi B av al ah an pt fd v) wv_X_84 ⟨by decide, by decide, by decide +kernel⟩ ⟨rfl, rfl, by decide, by decide⟩ rfl hl.1 ⟨Nat.le_of_ble_eq_true rfl, Nat.le_of_ble_eq_true rfl⟩ hP hK hD hN 0 0 rfl rfl rfl (Nat.le_of_ble_eq_true rfl) d_X_areVariablesOrAbsent_18 (fun r hr9 => ?_)
      rcases zb_c hr9 with ⟨rfl, h18⟩ | ⟨rfl, h18⟩
      · skip
        refine lv_if_eq (tgt := 28) hx hb d_X_areVariablesOrAbsent_21 (by decide) (fun h => absurd h (by decide)) (fun _ => ?_)
        refine lv_iconst (v := 1) hx hb d_X_areVariablesOrAbsent_24 (by decide) ?_
        refine lv_goto (tgt := 29) hx hb d_X_areVariablesOrAbsent_25 (by decide) ?_
        exact eRz hx hb hr hlocks (by first | rfl | decide) (by first | exact zb_t (⟨h2, h10, h18⟩)) d_X_areVariablesOrAbsent_29
      · skip
        refine lv_if_eq (tgt := 28) hx hb d_X_areVariablesOrAbsent_21 (by decide) (fun _ => ?_) (fun h => absurd h (by decide))
        refine lv_iconst (v := 0) hx hb d_X_areVariablesOrAbsent_28 (by decide) ?_
        exact eRz hx hb hr hlocks (by first | rfl | decide) (by first | exact zb_f (fun h => h2 h.1) | exact zb_f (fun h => h10 h.2.1) | exact zb_f (fun h => h18 h.2.2)) d_X_areVariablesOrAbsent_29
    · skip
      refine lv_if_eq (tgt := 28) hx hb d_X_areVariablesOrAbsent_13 (by decide) (fun _ => ?_) (fun h => absurd h (by decide))
      refine lv_iconst (v := 0) hx hb d_X_areVariablesOrAbsent_28 (by decide) ?_
      exact eRz hx hb hr hlocks (by first | rfl | decide) (by first | exact zb_f (fun h => h2 h.1) | exact zb_f (fun h => h10 h.2.1) | exact zb_f (fun h => h18 h.2.2)) d_X_areVariablesOrAbsent_29
  · skip
    refine lv_if_eq (tgt := 28) hx hb d_X_areVariablesOrAbsent_5 (by decide) (fun _ => ?_) (fun h => absurd h (by decide))
    refine lv_iconst (v := 0) hx hb d_X_areVariablesOrAbsent_28 (by decide) ?_
    exact eRz hx hb hr hlocks (by first | rfl | decide) (by first | exact zb_f (fun h => h2 h.1) | exact zb_f (fun h => h10 h.2.1) | exact zb_f (fun h => h18 h.2.2)) d_X_areVariablesOrAbsent_29
end
