section
set_option maxRecDepth 100000 in
set_option maxHeartbeats 4000000 in
theorem c_fill (l : Launch) (D : va_G) (b1 : Nat) (f : Nat → Int32) (v : Int32) (sz : Nat) : Met l y_JA_fill (wsm y_JA_fill b_JA_fill 4 none) { frames := 0, cells := 0, slots := 0, locals := 0 } (va_Pc [.ref b1, .int v] (fun U => U.heap.size = sz ∧ cPre D ([(b1, .inl (D.1 100, 4096, .inl f))]) U)) (va_Qv (fun u : (Nat → Int32) => ∀ j, j < 4096 → u j = v) (fun u t => xB D (fW D b1 u) (va_A ([(b1, .inl (D.1 100, 4096, .inl f))]) sz) t) (va_A ([(b1, .inl (D.1 100, 4096, .inl f))]) sz)) 0 0 (va_A ([(b1, .inl (D.1 100, 4096, .inl f))]) sz) := by
  refine met_W (Qf := fun A => va_Qv (fun u : (Nat → Int32) => ∀ j, j < 4096 → u j = v) (fun u t => xB D (fW D b1 u) A t) A) (by decide) (Nat.le_of_ble_eq_true rfl) ?_
  intro p e s m below meth c ls A hx hb hr hlocks hml hown hin hA hP hK hD hN hl hS hAA
  have hown : s.vm.findClass R_JA = some m.cls := hown
  have hl : lv_has ls 4 [(0, .ref b1), (1, .int v)] := hl
  refine lv_iconst (v := 0) hx hb d_JA_fill_0 (by decide) ?_
  refine lv_istore_n hx hb d_JA_fill_1 rfl hl (by decide) rfl (fun ls hl => ?_)
  have hl : lv_has ls 4 [(2, .int 0), (0, .ref b1), (1, .int v)] := hl
  refine lv_aload_n hx hb d_JA_fill_2 rfl (lv_at hl 1 rfl) ?_
  refine va_alen (v := nI 4096) hx hb hK hP 0 0 rfl rfl rfl d_JA_fill_3 ?_
  refine lv_istore_n hx hb d_JA_fill_4 rfl hl (by decide) rfl (fun ls hl => ?_)
  have hl : lv_has ls 4 [(3, .int (nI 4096)), (2, .int 0), (0, .ref b1), (1, .int v)] := hl
  have loop : ∀ (t j : Nat) (g : Nat → Int32) (H : Heap) (locs : List Loc) (ls : Array Slot), j + t = 4096 → (∀ i, i < j → g i = v) → lv_has ls 4 [(2, .int (nI j)), (3, .int (nI 4096)), (0, .ref b1), (1, .int v)] → va_P D vwCl ([(b1, .inl (D.1 100, 4096, .inl g))]) H → va_D A ([(b1, .inl (D.1 100, 4096, .inl g))]) → va_S A s.heap H locs → W p l e { frames := 0, cells := 0, slots := 0, locals := 0 } s m [.ref b1, .int v].toArray below meth c H locs 0 0 (MQ below (va_Qv (fun u : (Nat → Int32) => ∀ j, j < 4096 → u j = v) (fun u t => xB D (fW D b1 u) A t) A) [.ref b1, .int v].toArray s 0 0 A) (F0 m 5 ls []) := by
    intro t
    induction t with
    | zero =>
      intro j g H locs ls hj hg hl hP hD hS
      refine lv_iload_n hx hb d_JA_fill_5 rfl (lv_at hl 0 rfl) ?_
      refine lv_iload_n hx hb d_JA_fill_6 rfl (lv_at hl 1 rfl) ?_
      refine lv_icmp_ge (tgt := 20) hx hb d_JA_fill_7 (by decide) (fun h7 => ?_) (fun h => absurd (nI_le (by omega) (by omega)) h)
      exact eWv g hx hb hr hlocks hP hK hD hS (fun i hi => hg i (by omega)) d_JA_fill_20
    | succ t ih =>
      intro j g H locs ls hj hg hl hP hD hS
      refine lv_iload_n hx hb d_JA_fill_5 rfl (lv_at hl 0 rfl) ?_
      refine lv_iload_n hx hb d_JA_fill_6 rfl (lv_at hl 1 rfl) ?_
      refine lv_icmp_ge (tgt := 20) hx hb d_JA_fill_7 (by decide) (fun h => absurd h (nI_ge (by omega) (by omega))) (fun h7 => ?_)
      refine lv_aload_n hx hb d_JA_fill_10 rfl (lv_at hl 2 rfl) ?_
      refine lv_iload_n hx hb d_JA_fill_11 rfl (lv_at hl 0 rfl) ?_
      refine lv_iload_n hx hb d_JA_fill_12 rfl (lv_at hl 3 rfl) ?_
      refine xi_ast hx hb hK hP hD hS 0 rfl (by omega) (by decide) d_JA_fill_13 (fun H locs hP hD hS => ?_)
      have hP : va_P D vwCl ([(b1, .inl (D.1 100, 4096, .inl (upd g j v)))]) H := hP
      have hD : va_D A ([(b1, .inl (D.1 100, 4096, .inl (upd g j v)))]) := hD
      refine lv_iinc (v := nI (j + 1)) hx hb d_JA_fill_14 hl (k := 0) rfl (by rw [nI_succ]; rfl) (by decide) rfl (fun ls hl => ?_)
      have hl : lv_has ls 4 [(2, .int (nI (j + 1))), (3, .int (nI 4096)), (0, .ref b1), (1, .int v)] := hl
      refine lv_goto (tgt := 5) hx hb d_JA_fill_17 (by decide) ?_
      exact ih (j + 1) _ _ _ _ (by omega) (fl_s hg) (lv_sub hl [0, 1, 2, 3] rfl) hP hD hS
  exact loop 4096 0 f _ _ _ (by omega) (fun i h => absurd h (by omega)) (lv_sub hl [1, 0, 2, 3] rfl) hP hD hS
end
