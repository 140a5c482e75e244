section
set_option maxRecDepth 100000 in
set_option maxHeartbeats 4000000 in
theorem c_goToNextPoint (l : Launch) (D : va_G) (q : Nat → Nat) (n P k a : Nat) (z : Int32) (lo hi B av al ah an pt fd : Nat → Int32) (sz : Nat) (hn : n ≤ 8) : Met l y_X_goToNextPoint (wsm y_X_goToNextPoint b_X_goToNextPoint 2 none) { frames := 0, cells := 0, slots := 0, locals := 0 } (va_Pc [.ref (q 0)] (fun U => U.heap.size = sz ∧ cPre D (xw D q n P k a z lo hi B av al ah an pt fd) U)) (va_Qv (fun u : XS => u = (n, P, k, a, z, lo, hi, B, av, al, ah, an, nx lo hi n pt, fd)) (fun u t => xB D (xW D q u) (va_A (xw D q n P k a z lo hi B av al ah an pt fd) sz) t) (va_A (xw D q n P k a z lo hi B av al ah an pt fd) sz)) 0 0 (va_A (xw D q n P k a z lo hi B av al ah an pt fd) sz) := by
  refine met_W (Qf := fun A => va_Qv (fun u : XS => u = (n, P, k, a, z, lo, hi, B, av, al, ah, an, nx lo hi n pt, fd)) (fun u t => xB D (xW D q u) A t) A) (by decide) (Nat.le_of_ble_eq_true rfl) ?_
  intro p e s m below meth c ls A hx hb hr hlocks hml hown hin hA hP hK hD hN hl hS hAA
  have hown : s.vm.findClass R_X = some m.cls := hown
  have hl : lv_has ls 2 [(0, .ref (q 0))] := hl
  refine lv_aload_n hx hb d_X_goToNextPoint_0 rfl (lv_at hl 0 rfl) ?_
  refine va_get (D := D) (ci := 0) (v := .int (nI n)) (C := R_X) (T := T_X) (N := 14) hx hb hA inA_X hown hK hP 0 rfl rfl 2 (by decide) (hA _ wd_27) (fun _ h9 => h9) rfl d_X_goToNextPoint_1 ?_
  refine lv_iconst (v := 1) hx hb d_X_goToNextPoint_4 (by decide) ?_
  refine lv_isub hx hb d_X_goToNextPoint_5 ?_
  refine lv_istore_n hx hb d_X_goToNextPoint_6 rfl hl (by decide) rfl (fun ls hl => ?_)
  have hl : lv_has ls 2 [(1, .int ((nI n) - 1)), (0, .ref (q 0))] := hl
  have loop : ∀ (j : Nat) (x : Nat → Int32) (H : Heap) (locs : List Loc) (ls : Array Slot), j ≤ 8 → nx lo hi j x = nx lo hi n pt → lv_has ls 2 [(1, .int (nI j - 1)), (0, .ref (q 0))] → va_P D vwCl (xw D q n P k a z lo hi B av al ah an x fd) H → va_D A (xw D q n P k a z lo hi B av al ah an x fd) → va_S A s.heap H locs → W p l e { frames := 0, cells := 0, slots := 0, locals := 0 } s m [.ref (q 0)].toArray below meth c H locs 0 0 (MQ below (va_Qv (fun u : XS => u = (n, P, k, a, z, lo, hi, B, av, al, ah, an, nx lo hi n pt, fd)) (fun u t => xB D (xW D q u) A t) A) [.ref (q 0)].toArray s 0 0 A) (F0 m 7 ls []) := by
    intro j
    induction j with
    | zero =>
      intro x H locs ls hj hf hl hP hD hS
      refine lv_iload_n hx hb d_X_goToNextPoint_7 rfl (lv_at hl 0 rfl) ?_
      refine lv_if_lt (tgt := 55) hx hb d_X_goToNextPoint_8 (by decide) (fun h8 => ?_) (fun h => absurd (by decide) h)
      have hf2 : x = nx lo hi n pt := (by rw [← hf]; rfl)
      exact eWv (n, P, k, a, z, lo, hi, B, av, al, ah, an, x, fd) hx hb hr hlocks hP hK hD hS (by rw [hf2]) d_X_goToNextPoint_55
    | succ j ih =>
      intro x H locs ls hj hf hl hP hD hS
      rw [nI_pred] at hl
      refine lv_iload_n hx hb d_X_goToNextPoint_7 rfl (lv_at hl 0 rfl) ?_
      refine lv_if_lt (tgt := 55) hx hb d_X_goToNextPoint_8 (by decide) (fun h => absurd h (nI_pos (by omega))) (fun h8 => ?_)
      refine lv_aload_n hx hb d_X_goToNextPoint_11 rfl (lv_at hl 1 rfl) ?_
      refine va_get (D := D) (ci := 0) (v := .ref (q 8)) (C := R_X) (T := T_X) (N := 14) hx hb hA inA_X hown hK hP 0 rfl rfl 12 (by decide) (hA _ wd_37) (fun _ h9 => h9) rfl d_X_goToNextPoint_12 ?_
      refine lv_iload_n hx hb d_X_goToNextPoint_15 rfl (lv_at hl 0 rfl) ?_
      refine xi_ald hx hb hK hP 8 rfl (by omega) (by decide) d_X_goToNextPoint_16 ?_
      refine lv_aload_n hx hb d_X_goToNextPoint_17 rfl (lv_at hl 1 rfl) ?_
      refine va_get (D := D) (ci := 0) (v := .ref (q 2)) (C := R_X) (T := T_X) (N := 14) hx hb hA inA_X hown hK hP 0 rfl rfl 1 (by decide) (hA _ wd_26) (fun _ h9 => h9) rfl d_X_goToNextPoint_18 ?_
      refine lv_iload_n hx hb d_X_goToNextPoint_21 rfl (lv_at hl 0 rfl) ?_
      refine xi_ald hx hb hK hP 2 rfl (by omega) (by decide) d_X_goToNextPoint_22 ?_
      refine lv_icmp_ge (tgt := 37) hx hb d_X_goToNextPoint_23 (by decide) (fun h23 => ?_) (fun h23 => ?_)
      · skip
        refine lv_aload_n hx hb d_X_goToNextPoint_37 rfl (lv_at hl 1 rfl) ?_
        refine va_get (D := D) (ci := 0) (v := .ref (q 8)) (C := R_X) (T := T_X) (N := 14) hx hb hA inA_X hown hK hP 0 rfl rfl 12 (by decide) (hA _ wd_37) (fun _ h9 => h9) rfl d_X_goToNextPoint_38 ?_
        refine lv_iload_n hx hb d_X_goToNextPoint_41 rfl (lv_at hl 0 rfl) ?_
        refine lv_aload_n hx hb d_X_goToNextPoint_42 rfl (lv_at hl 1 rfl) ?_
        refine va_get (D := D) (ci := 0) (v := .ref (q 1)) (C := R_X) (T := T_X) (N := 14) hx hb hA inA_X hown hK hP 0 rfl rfl 0 (by decide) (hA _ wd_25) (fun _ h9 => h9) rfl d_X_goToNextPoint_43 ?_
        refine lv_iload_n hx hb d_X_goToNextPoint_46 rfl (lv_at hl 0 rfl) ?_
        refine xi_ald hx hb hK hP 1 rfl (by omega) (by decide) d_X_goToNextPoint_47 ?_
        refine xi_ast hx hb hK hP hD hS 8 rfl (by omega) (by decide) d_X_goToNextPoint_48 (fun H locs hP hD hS => ?_)
        have hP : va_P D vwCl (xw D q n P k a z lo hi B av al ah an (upd x j (lo j)) fd) H := hP
        have hD : va_D A (xw D q n P k a z lo hi B av al ah an (upd x j (lo j)) fd) := hD
        refine lv_iinc (v := nI j - 1) hx hb d_X_goToNextPoint_49 hl (k := 0) rfl (i32_dec _) (by decide) rfl (fun ls hl => ?_)
        have hl : lv_has ls 2 [(1, .int (nI j - 1)), (0, .ref (q 0))] := hl
        refine lv_goto (tgt := 7) hx hb d_X_goToNextPoint_52 (by decide) ?_
        exact ih _ _ _ _ (by omega) (by rw [← hf]; simp only [nx]; rw [if_neg (by simpa using h23)]) (lv_sub hl [0, 1] rfl) hP hD hS
      · skip
        refine lv_aload_n hx hb d_X_goToNextPoint_26 rfl (lv_at hl 1 rfl) ?_
        refine va_get (D := D) (ci := 0) (v := .ref (q 8)) (C := R_X) (T := T_X) (N := 14) hx hb hA inA_X hown hK hP 0 rfl rfl 12 (by decide) (hA _ wd_37) (fun _ h9 => h9) rfl d_X_goToNextPoint_27 ?_
        refine lv_iload_n hx hb d_X_goToNextPoint_30 rfl (lv_at hl 0 rfl) ?_
        refine lv_dup2_11 hx hb d_X_goToNextPoint_31 rfl rfl ?_
        refine xi_ald hx hb hK hP 8 rfl (by omega) (by decide) d_X_goToNextPoint_32 ?_
        refine lv_iconst (v := 1) hx hb d_X_goToNextPoint_33 (by decide) ?_
        refine lv_iadd hx hb d_X_goToNextPoint_34 ?_
        refine xi_ast hx hb hK hP hD hS 8 rfl (by omega) (by decide) d_X_goToNextPoint_35 (fun H locs hP hD hS => ?_)
        have hP : va_P D vwCl (xw D q n P k a z lo hi B av al ah an (upd x j ((x j) + 1)) fd) H := hP
        have hD : va_D A (xw D q n P k a z lo hi B av al ah an (upd x j ((x j) + 1)) fd) := hD
        have hf2 : upd x j ((x j) + 1) = nx lo hi n pt := (by rw [← hf]; simp only [nx]; rw [if_pos (by simpa using h23)])
        exact eWv (n, P, k, a, z, lo, hi, B, av, al, ah, an, upd x j ((x j) + 1), fd) hx hb hr hlocks hP hK hD hS (by rw [hf2]) d_X_goToNextPoint_36
  exact loop n pt _ _ _ hn rfl (lv_sub hl [0, 1] rfl) hP hD hS
end
