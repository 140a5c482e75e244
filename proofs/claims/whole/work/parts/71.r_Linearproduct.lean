section
set_option maxRecDepth 100000 in
set_option maxHeartbeats 4000000 in
theorem c_product (l : Launch) (D : va_G) (b1 : Nat) (f i : Int32) (x : Nat → Int32) (hi9 : i = -1 ∨ vp_in i 8) : Met l y_L_product (wsm y_L_product b_L_product 3 (some .int)) { frames := 0, cells := 0, slots := 0, locals := 0 } (va_Pc [.int f, .int i, .ref b1] (cPre D ([(b1, .inl (D.1 100, 8, .inl x))]))) (vp_Si (fun r => r = lprod f i x)) 0 0 (fun _ => False) := by
  refine met_R (by decide) (Nat.le_of_ble_eq_true rfl) ?_
  intro p e s m below meth c ls hx hb hr hlocks hml hown hin hA hP hK hD hN hl
  have hown : s.vm.findClass R_L = some m.cls := hown
  have hl : lv_has ls 3 [(0, .int f), (1, .int i), (2, .ref b1)] := hl
  refine lv_iload_n hx hb d_L_product_0 rfl (lv_at hl 1 rfl) ?_
  refine lv_iconst (v := (-1)) hx hb d_L_product_1 (by decide) ?_
  refine lv_icmp_ne (tgt := 9) hx hb d_L_product_2 (by decide) (fun h2 => ?_) (fun h2 => ?_)
  · skip
    refine lv_iload_n hx hb d_L_product_9 rfl (lv_at hl 0 rfl) ?_
    refine lv_aload_n hx hb d_L_product_10 rfl (lv_at hl 2 rfl) ?_
    refine lv_iload_n hx hb d_L_product_11 rfl (lv_at hl 1 rfl) ?_
    refine va_iald hx hb hK hP 0 0 rfl rfl (hi9.resolve_left h2) d_L_product_12 ?_
    refine lv_imul hx hb d_L_product_13 ?_
    exact eR hx hb hr hlocks (by first | exact Eq.symm ((if_pos h2)) | exact Eq.symm ((if_neg h2))) d_L_product_14
  · skip
    refine lv_iconst (v := 0) hx hb d_L_product_5 (by decide) ?_
    refine lv_goto (tgt := 14) hx hb d_L_product_6 (by decide) ?_
    exact eR hx hb hr hlocks (by first | exact Eq.symm ((if_pos h2)) | exact Eq.symm ((if_neg h2))) d_L_product_14
end
