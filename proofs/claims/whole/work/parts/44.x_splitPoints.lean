section
set_option maxRecDepth 100000 in
set_option maxHeartbeats 4000000 in
theorem c_splitPoints (l : Launch) (D : va_G) (q : Nat → Nat) (n P k a : Nat) (z : Int32) (lo hi B av al ah an pt fd : Nat → Int32) (v : Nat) (sz : Nat) (hv : 1 ≤ v) (hv8 : v ≤ 8) (hPv : P * v ≤ 4096) (hP4 : P ≤ 4096) : Met l y_X_splitPoints (wsm y_X_splitPoints b_X_splitPoints 5 none) { frames := 0, cells := 0, slots := 0, locals := 0 } (va_Pc [.ref (q 0), .int (nI v)] (fun U => U.heap.size = sz ∧ cPre D (xw D q n P k a z lo hi B av al ah an pt fd) U)) (va_Qv (fun u : XS => ∃ Bn, spI v P 0 B Bn ∧ u = (n, P * v, k, a, z, lo, hi, Bn, av, al, ah, an, pt, fd)) (fun u t => xB D (xW D q u) (va_A (xw D q n P k a z lo hi B av al ah an pt fd) sz) t) (va_A (xw D q n P k a z lo hi B av al ah an pt fd) sz)) 0 0 (va_A (xw D q n P k a z lo hi B av al ah an pt fd) sz) := by
  refine met_W (Qf := fun A => va_Qv (fun u : XS => ∃ Bn, spI v P 0 B Bn ∧ u = (n, P * v, k, a, z, lo, hi, Bn, av, al, ah, an, pt, fd)) (fun u t => xB D (xW D q u) A t) A) (by decide) (Nat.le_of_ble_eq_true rfl) ?_
  intro p e s m below meth c ls A hx hb hr hlocks hml hown hin hA hP hK hD hN hl hS hAA
  have hown : s.vm.findClass R_X = some m.cls := hown
  have hl : lv_has ls 5 [(0, .ref (q 0)), (1, .int (nI v))] := hl
  refine lv_aload_n hx hb d_X_splitPoints_0 rfl (lv_at hl 0 rfl) ?_
  refine va_get (D := D) (ci := 0) (v := .int (nI P)) (C := R_X) (T := T_X) (N := 14) hx hb hA inA_X hown hK hP 0 rfl rfl 4 (by decide) (hA _ wd_29) (fun _ h9 => h9) rfl d_X_splitPoints_1 ?_
  refine lv_iconst (v := 1) hx hb d_X_splitPoints_4 (by decide) ?_
  refine lv_isub hx hb d_X_splitPoints_5 ?_
  refine lv_istore_n hx hb d_X_splitPoints_6 rfl hl (by decide) rfl (fun ls hl => ?_)
  have hl : lv_has ls 5 [(2, .int ((nI P) - 1)), (0, .ref (q 0)), (1, .int (nI v))] := hl
  have loop : ∀ (j : Nat) (Bc : Nat → Int32) (H : Heap) (locs : List Loc) (ls : Array Slot), j ≤ P → spI v P j B Bc → lv_has ls 5 [(2, .int (nI j - 1)), (0, .ref (q 0)), (1, .int (nI v))] → va_P D vwCl (xw D q n P k a z lo hi Bc av al ah an pt fd) H → va_D A (xw D q n P k a z lo hi Bc av al ah an pt fd) → va_S A s.heap H locs → W p l e { frames := 0, cells := 0, slots := 0, locals := 0 } s m [.ref (q 0), .int (nI v)].toArray below meth c H locs 0 0 (MQ below (va_Qv (fun u : XS => ∃ Bn, spI v P 0 B Bn ∧ u = (n, P * v, k, a, z, lo, hi, Bn, av, al, ah, an, pt, fd)) (fun u t => xB D (xW D q u) A t) A) [.ref (q 0), .int (nI v)].toArray s 0 0 A) (F0 m 7 ls []) := by
    intro j
    induction j with
    | zero =>
      intro Bc H locs ls hj hI hl hP hD hS
      refine lv_iload_n hx hb d_X_splitPoints_7 rfl (lv_at hl 0 rfl) ?_
      refine lv_if_lt (tgt := 51) hx hb d_X_splitPoints_8 (by decide) (fun h8 => ?_) (fun h => absurd (by decide) h)
      refine lv_aload_n hx hb d_X_splitPoints_51 rfl (lv_at hl 1 rfl) ?_
      refine lv_aload_n hx hb d_X_splitPoints_52 rfl (lv_at hl 1 rfl) ?_
      refine va_get (D := D) (ci := 0) (v := .int (nI P)) (C := R_X) (T := T_X) (N := 14) hx hb hA inA_X hown hK hP 0 rfl rfl 4 (by decide) (hA _ wd_29) (fun _ h9 => h9) rfl d_X_splitPoints_53 ?_
      refine lv_iload_n hx hb d_X_splitPoints_56 rfl (lv_at hl 2 rfl) ?_
      refine lv_imul hx hb d_X_splitPoints_57 ?_
      refine topi_to (v := nI (P * v)) (by rw [pk_mul]) ?_
      refine va_put (D := D) (ci := 0) (v := .int (nI (P * v))) (ty := .int) (C := R_X) (T := T_X) (N := 14) hx hb hA inA_X ty_X tok_X nm_X hown hK hP hD hS 0 rfl rfl 4 (by decide) (hA _ wd_29) (fun _ h9 => h9) rfl (by decide +kernel) (by first | rfl | decide) (by first | rfl | decide) (Nat.le_of_ble_eq_true rfl) d_X_splitPoints_58 (fun H locs hP hD hS => ?_)
      have hP : va_P D vwCl (xw D q n (P * v) k a z lo hi Bc av al ah an pt fd) H := hP
      have hD : va_D A (xw D q n (P * v) k a z lo hi Bc av al ah an pt fd) := hD
      exact eWv (n, (P * v), k, a, z, lo, hi, Bc, av, al, ah, an, pt, fd) hx hb hr hlocks hP hK hD hS (⟨_, hI, rfl⟩) d_X_splitPoints_61
    | succ j ih =>
      intro Bc H locs ls hj hI hl hP hD hS
      rw [nI_pred] at hl
      refine lv_iload_n hx hb d_X_splitPoints_7 rfl (lv_at hl 0 rfl) ?_
      refine lv_if_lt (tgt := 51) hx hb d_X_splitPoints_8 (by decide) (fun h => absurd h (nI_pos (by omega))) (fun h8 => ?_)
      refine lv_aload_n hx hb d_X_splitPoints_11 rfl (lv_at hl 1 rfl) ?_
      refine va_get (D := D) (ci := 0) (v := .ref (q 3)) (C := R_X) (T := T_X) (N := 14) hx hb hA inA_X hown hK hP 0 rfl rfl 3 (by decide) (hA _ wd_28) (fun _ h9 => h9) rfl d_X_splitPoints_12 ?_
      refine lv_iload_n hx hb d_X_splitPoints_15 rfl (lv_at hl 0 rfl) ?_
      refine xi_ald hx hb hK hP 3 rfl (by omega) (by decide) d_X_splitPoints_16 ?_
      refine topi_to (v := B j) (hI.1 j (by omega)) ?_
      refine lv_istore_n hx hb d_X_splitPoints_17 rfl hl (by decide) rfl (fun ls hl => ?_)
      have hl : lv_has ls 5 [(3, .int (B j)), (2, .int (nI j)), (0, .ref (q 0)), (1, .int (nI v))] := hl
      refine lv_iconst (v := 0) hx hb d_X_splitPoints_18 (by decide) ?_
      refine lv_istore hx hb d_X_splitPoints_19 hl (by decide) rfl (fun ls hl => ?_)
      have hl : lv_has ls 5 [(4, .int 0), (3, .int (B j)), (2, .int (nI j)), (0, .ref (q 0)), (1, .int (nI v))] := hl
      have inner : ∀ (t r : Nat) (Bd : Nat → Int32) (H : Heap) (locs : List Loc) (ls : Array Slot), r + t = v → spJ v P j r B Bd → lv_has ls 5 [(4, .int (nI r)), (3, .int (B j)), (2, .int (nI j)), (0, .ref (q 0)), (1, .int (nI v))] → va_P D vwCl (xw D q n P k a z lo hi Bd av al ah an pt fd) H → va_D A (xw D q n P k a z lo hi Bd av al ah an pt fd) → va_S A s.heap H locs → W p l e { frames := 0, cells := 0, slots := 0, locals := 0 } s m [.ref (q 0), .int (nI v)].toArray below meth c H locs 0 0 (MQ below (va_Qv (fun u : XS => ∃ Bn, spI v P 0 B Bn ∧ u = (n, P * v, k, a, z, lo, hi, Bn, av, al, ah, an, pt, fd)) (fun u t => xB D (xW D q u) A t) A) [.ref (q 0), .int (nI v)].toArray s 0 0 A) (F0 m 21 ls []) := by
        intro t
        induction t with
        | zero =>
          intro r Bd H locs ls hr9 hJ hl hP hD hS
          have hJ : spJ v P j v B Bd := (show r = v by omega) ▸ hJ
          refine lv_iload hx hb d_X_splitPoints_21 (lv_at hl 0 rfl) ?_
          refine lv_iload_n hx hb d_X_splitPoints_23 rfl (lv_at hl 4 rfl) ?_
          refine lv_icmp_ge (tgt := 45) hx hb d_X_splitPoints_24 (by decide) (fun h24 => ?_) (fun h => absurd (nI_le (by omega) (by omega)) h)
          refine lv_iinc (v := nI j - 1) hx hb d_X_splitPoints_45 hl (k := 2) rfl (i32_dec _) (by decide) rfl (fun ls hl => ?_)
          have hl : lv_has ls 5 [(2, .int (nI j - 1)), (4, .int (nI r)), (3, .int (B j)), (0, .ref (q 0)), (1, .int (nI v))] := hl
          refine lv_goto (tgt := 7) hx hb d_X_splitPoints_48 (by decide) ?_
          exact ih _ _ _ _ (by omega) (spJ_I hJ) (lv_sub hl [0, 3, 4] rfl) hP hD hS
        | succ t ih2 =>
          intro r Bd H locs ls hr9 hJ hl hP hD hS
          refine lv_iload hx hb d_X_splitPoints_21 (lv_at hl 0 rfl) ?_
          refine lv_iload_n hx hb d_X_splitPoints_23 rfl (lv_at hl 4 rfl) ?_
          refine lv_icmp_ge (tgt := 45) hx hb d_X_splitPoints_24 (by decide) (fun h => absurd h (nI_ge (by omega) (by omega))) (fun h24 => ?_)
          refine lv_aload_n hx hb d_X_splitPoints_27 rfl (lv_at hl 3 rfl) ?_
          refine va_get (D := D) (ci := 0) (v := .ref (q 3)) (C := R_X) (T := T_X) (N := 14) hx hb hA inA_X hown hK hP 0 rfl rfl 3 (by decide) (hA _ wd_28) (fun _ h9 => h9) rfl d_X_splitPoints_28 ?_
          refine lv_iload_n hx hb d_X_splitPoints_31 rfl (lv_at hl 2 rfl) ?_
          refine lv_iload_n hx hb d_X_splitPoints_32 rfl (lv_at hl 4 rfl) ?_
          refine lv_imul hx hb d_X_splitPoints_33 ?_
          refine lv_iload hx hb d_X_splitPoints_34 (lv_at hl 0 rfl) ?_
          refine lv_iadd hx hb d_X_splitPoints_36 ?_
          refine topi_to (v := nI (j * v + r)) (by rw [pk_mul, nI_add]) ?_
          refine lv_iload_n hx hb d_X_splitPoints_37 rfl (lv_at hl 1 rfl) ?_
          refine xi_ast hx hb hK hP hD hS 3 rfl (sp_lt (by omega) (by omega) hPv) (by decide) d_X_splitPoints_38 (fun H locs hP hD hS => ?_)
          have hP : va_P D vwCl (xw D q n P k a z lo hi (upd Bd (j * v + r) (B j)) av al ah an pt fd) H := hP
          have hD : va_D A (xw D q n P k a z lo hi (upd Bd (j * v + r) (B j)) av al ah an pt fd) := hD
          refine lv_iinc (v := nI (r + 1)) hx hb d_X_splitPoints_39 hl (k := 0) rfl (by rw [nI_succ]; rfl) (by decide) rfl (fun ls hl => ?_)
          have hl : lv_has ls 5 [(4, .int (nI (r + 1))), (3, .int (B j)), (2, .int (nI j)), (0, .ref (q 0)), (1, .int (nI v))] := hl
          refine lv_goto (tgt := 21) hx hb d_X_splitPoints_42 (by decide) ?_
          exact ih2 (r + 1) _ _ _ _ (by omega) (spJ_s (by omega) (by omega) hJ) (lv_sub hl [0, 1, 2, 3, 4] rfl) hP hD hS
      exact inner v 0 _ _ _ _ (by omega) (spI_J hI) (lv_sub hl [0, 1, 2, 3, 4] rfl) hP hD hS
  exact loop P B _ _ _ (Nat.le_refl _) (spI_0 v P B) (lv_sub hl [0, 1, 2] rfl) hP hD hS
end
