section
theorem ws_O_isVariable : Cond.selects R_O y_O_isVariable y_O_isVariable ∈ cA := cA_in (List.mem_append_left _ (List.mem_of_getElem? (i := 15) (by decide +kernel))) rfl
theorem wv_O_59 : Cond.code y_O_isVariable b_O_isVariable 2 (some .boolean) ∈ cA ∧ Cond.initialized y_O_isVariable.cls ∈ cA ∧ Cond.methodLink R_O 59 y_O_isVariable ∈ cA ∧ Cond.instanceMethod y_O_isVariable ∈ cA ∧ Cond.selects y_O_isVariable.cls y_O_isVariable y_O_isVariable ∈ cA := ⟨wd_495, wd_3, wd_492, wd_494, ws_O_isVariable⟩
theorem d_O_isPart_0 : decode b_O_isPart 0 = .ok (.iload_n 1, 1) := by decide +kernel
theorem d_O_isPart_1 : decode b_O_isPart 1 = .ok (.iconst (-1), 1) := by decide +kernel
theorem d_O_isPart_2 : decode b_O_isPart 2 = .ok (.if_icmp .eq 11, 3) := by decide +kernel
theorem d_O_isPart_5 : decode b_O_isPart 5 = .ok (.aload_n 0, 1) := by decide +kernel
theorem d_O_isPart_6 : decode b_O_isPart 6 = .ok (.iload_n 1, 1) := by decide +kernel
theorem d_O_isPart_7 : decode b_O_isPart 7 = .ok (.invokevirtual 59, 3) := by decide +kernel
theorem d_O_isPart_10 : decode b_O_isPart 10 = .ok (.ifCond .eq 7, 3) := by decide +kernel
theorem d_O_isPart_13 : decode b_O_isPart 13 = .ok (.iconst 1, 1) := by decide +kernel
theorem d_O_isPart_14 : decode b_O_isPart 14 = .ok (.goto 4, 3) := by decide +kernel
theorem d_O_isPart_17 : decode b_O_isPart 17 = .ok (.iconst 0, 1) := by decide +kernel
theorem d_O_isPart_18 : decode b_O_isPart 18 = .ok (.ireturn, 1) := by decide +kernel
set_option maxRecDepth 100000 in
set_option maxHeartbeats 4000000 in
theorem o_isPart (l : Launch) (D : va_G) (q : Nat → Nat) (n P rw a : Nat) (kn an : Int32) (lw s1 sd kd pa : Nat → Int32) (wd : Nat → Int64) (ao fo uo ho xo : Nat → Int32) (i : Int32) : Met l y_O_isPart (wsm y_O_isPart b_O_isPart 2 (some .boolean)) { frames := 1, cells := 0, slots := 0, locals := 21 } (va_Pc [.ref (q 0), .int i] (cPre D (ow D q n P rw a kn an lw s1 sd kd pa wd ao fo uo ho xo))) (vp_Si (fun r => r = zb (decide (iva n i)))) 0 0 (fun _ => False) := by
  refine met_R (by decide) (Nat.le_of_ble_eq_true rfl) ?_
  intro p e s m below meth c ls hx hb hr hlocks hml hown hin hA hP hK hD hN hl
  have hown : s.vm.findClass R_O = some m.cls := hown
  have hl : lv_has ls 2 [(0, .ref (q 0)), (1, .int i)] := hl
  refine lv_iload_n hx hb d_O_isPart_0 rfl (lv_at hl 1 rfl) ?_
  refine lv_iconst (v := (-1)) hx hb d_O_isPart_1 (by decide) ?_
  refine lv_icmp_eq (tgt := 13) hx hb d_O_isPart_2 (by decide) (fun h2 => ?_) (fun h2 => ?_)
  · skip
    refine lv_iconst (v := 1) hx hb d_O_isPart_13 (by decide) ?_
    refine lv_goto (tgt := 18) hx hb d_O_isPart_14 (by decide) ?_
    exact eRz hx hb hr hlocks (by first | rfl | decide) (by first | exact zb_t (Or.inl h2) | exact zb_t (Or.inr h7)) d_O_isPart_18
  · skip
    refine lv_aload_n hx hb d_O_isPart_5 rfl (lv_at hl 0 rfl) ?_
    refine lv_iload_n hx hb d_O_isPart_6 rfl (lv_at hl 1 rfl) ?_
    refine rV (n := 1) (rest := []) hx hb hml hown hA (o_isVariable l D q n P rw a kn an lw s1 sd kd pa wd ao fo uo ho xo i) wv_O_59 ⟨by decide, by decide, by decide +kernel⟩ ⟨rfl, rfl, by decide, by decide⟩ rfl hl.1 ⟨Nat.le_of_ble_eq_true rfl, Nat.le_of_ble_eq_true rfl⟩ hP hK hD hN 0 1 rfl rfl rfl (Nat.le_of_ble_eq_true rfl) d_O_isPart_7 (fun r hr9 => ?_)
    rcases zb_c hr9 with ⟨rfl, h7⟩ | ⟨rfl, h7⟩
    · skip
      refine lv_if_eq (tgt := 17) hx hb d_O_isPart_10 (by decide) (fun h => absurd h (by decide)) (fun _ => ?_)
      refine lv_iconst (v := 1) hx hb d_O_isPart_13 (by decide) ?_
      refine lv_goto (tgt := 18) hx hb d_O_isPart_14 (by decide) ?_
      exact eRz hx hb hr hlocks (by first | rfl | decide) (by first | exact zb_t (Or.inl h2) | exact zb_t (Or.inr h7)) d_O_isPart_18
    · skip
      refine lv_if_eq (tgt := 17) hx hb d_O_isPart_10 (by decide) (fun _ => ?_) (fun h => absurd h (by decide))
      refine lv_iconst (v := 0) hx hb d_O_isPart_17 (by decide) ?_
      exact eRz hx hb hr hlocks (by first | rfl | decide) (by first | exact zb_f (fun h => h.elim h2 h7)) d_O_isPart_18
end
