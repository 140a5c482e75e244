section
set_option maxRecDepth 100000 in
set_option maxHeartbeats 4000000 in
theorem c_drop (l : Launch) (D : va_G) (q : Nat → Nat) (n P k a : Nat) (z : Int32) (lo hi B av al ah an pt fd : Nat → Int32) (sz : Nat) (hP4 : P ≤ 4096) (hk : k ≤ 12) : Met l y_X_drop (wsm y_X_drop b_X_drop 2 (some .boolean)) { frames := 0, cells := 0, slots := 0, locals := 0 } (va_Pc [.ref (q 0)] (fun U => U.heap.size = sz ∧ cPre D (xw D q n P k a z lo hi B av al ah an pt fd) U)) (va_Qi (fun (r : Int32) (u : XS) => drP n P k a z lo hi B av al ah an pt fd r u) (fun u t => xB D (xW D q u) (va_A (xw D q n P k a z lo hi B av al ah an pt fd) sz) t) (va_A (xw D q n P k a z lo hi B av al ah an pt fd) sz)) 0 0 (va_A (xw D q n P k a z lo hi B av al ah an pt fd) sz) := by
  refine met_W (Qf := fun A => va_Qi (fun (r : Int32) (u : XS) => drP n P k a z lo hi B av al ah an pt fd r u) (fun u t => xB D (xW D q u) A t) A) (by decide) (Nat.le_of_ble_eq_true rfl) ?_
  intro p e s m below meth c ls A hx hb hr hlocks hml hown hin hA hP hK hD hN hl hS hAA
  have hown : s.vm.findClass R_X = some m.cls := hown
  have hl : lv_has ls 2 [(0, .ref (q 0))] := hl
  rcases k with _ | b
  · skip
    have hP : va_P D vwCl (xw D q n P 0 a z lo hi B av al ah an pt fd) s.heap := hP
    have hD : va_D A (xw D q n P 0 a z lo hi B av al ah an pt fd) := hD
    refine lv_aload_n hx hb d_X_drop_0 rfl (lv_at hl 0 rfl) ?_
    refine va_get (D := D) (ci := 0) (v := .int (nI 0)) (C := R_X) (T := T_X) (N := 14) hx hb hA inA_X hown hK hP 0 rfl rfl 5 (by decide) (hA _ wd_30) (fun _ h9 => h9) rfl d_X_drop_1 ?_
    refine lv_if_ne (tgt := 9) hx hb d_X_drop_4 (by decide) (fun h => absurd h (fun h => h rfl)) (fun h4 => ?_)
    refine lv_iconst (v := 0) hx hb d_X_drop_7 (by decide) ?_
    exact eWz (n, P, 0, a, z, lo, hi, B, av, al, ah, an, pt, fd) hx hb hr hlocks (by first | rfl | decide) hP hK hD hS (Or.inl ⟨rfl, rfl, rfl⟩) d_X_drop_8
  · skip
    have hP : va_P D vwCl (xw D q n P (b + 1) a z lo hi B av al ah an pt fd) s.heap := hP
    have hD : va_D A (xw D q n P (b + 1) a z lo hi B av al ah an pt fd) := hD
    refine lv_aload_n hx hb d_X_drop_0 rfl (lv_at hl 0 rfl) ?_
    refine va_get (D := D) (ci := 0) (v := .int (nI (b + 1))) (C := R_X) (T := T_X) (N := 14) hx hb hA inA_X hown hK hP 0 rfl rfl 5 (by decide) (hA _ wd_30) (fun _ h9 => h9) rfl d_X_drop_1 ?_
    refine lv_if_ne (tgt := 9) hx hb d_X_drop_4 (by decide) (fun h4 => ?_) (fun h => absurd h (nI_ne0 (by omega) (by omega)))
    refine lv_aload_n hx hb d_X_drop_9 rfl (lv_at hl 0 rfl) ?_
    refine lv_dup hx hb d_X_drop_10 rfl ?_
    refine va_get (D := D) (ci := 0) (v := .int (nI (b + 1))) (C := R_X) (T := T_X) (N := 14) hx hb hA inA_X hown hK hP 0 rfl rfl 5 (by decide) (hA _ wd_30) (fun _ h9 => h9) rfl d_X_drop_11 ?_
    refine lv_iconst (v := 1) hx hb d_X_drop_14 (by decide) ?_
    refine lv_isub hx hb d_X_drop_15 ?_
    refine topi_to (v := nI b) (nI_pred b) ?_
    refine va_put (D := D) (ci := 0) (v := .int (nI b)) (ty := .int) (C := R_X) (T := T_X) (N := 14) hx hb hA inA_X ty_X tok_X nm_X hown hK hP hD hS 0 rfl rfl 5 (by decide) (hA _ wd_30) (fun _ h9 => h9) rfl (by decide +kernel) (by first | rfl | decide) (by first | rfl | decide) (Nat.le_of_ble_eq_true rfl) d_X_drop_16 (fun H locs hP hD hS => ?_)
    have hP : va_P D vwCl (xw D q n P b a z lo hi B av al ah an pt fd) H := hP
    have hD : va_D A (xw D q n P b a z lo hi B av al ah an pt fd) := hD
    refine lv_iconst (v := 0) hx hb d_X_drop_19 (by decide) ?_
    refine lv_istore_n hx hb d_X_drop_20 rfl hl (by decide) rfl (fun ls hl => ?_)
    have hl : lv_has ls 2 [(1, .int 0), (0, .ref (q 0))] := hl
    have loop : ∀ (t p9 : Nat) (Bc : Nat → Int32) (H : Heap) (locs : List Loc) (ls : Array Slot), p9 + t = P → dF b t p9 Bc = dF b P 0 B → lv_has ls 2 [(1, .int (nI p9)), (0, .ref (q 0))] → va_P D vwCl (xw D q n P b a z lo hi Bc av al ah an pt fd) H → va_D A (xw D q n P b a z lo hi Bc av al ah an pt fd) → va_S A s.heap H locs → W p l e { frames := 0, cells := 0, slots := 0, locals := 0 } s m [.ref (q 0)].toArray below meth c H locs 0 0 (MQ below (va_Qi (fun (r : Int32) (u : XS) => drP n P (b + 1) a z lo hi B av al ah an pt fd r u) (fun u t => xB D (xW D q u) A t) A) [.ref (q 0)].toArray s 0 0 A) (F0 m 21 ls []) := by
      intro t
      induction t with
      | zero =>
        intro p9 Bc H locs ls hp9 hf hl hP hD hS
        refine lv_iload_n hx hb d_X_drop_21 rfl (lv_at hl 0 rfl) ?_
        refine lv_aload_n hx hb d_X_drop_22 rfl (lv_at hl 1 rfl) ?_
        refine va_get (D := D) (ci := 0) (v := .int (nI P)) (C := R_X) (T := T_X) (N := 14) hx hb hA inA_X hown hK hP 0 rfl rfl 4 (by decide) (hA _ wd_29) (fun _ h9 => h9) rfl d_X_drop_23 ?_
        refine lv_icmp_ge (tgt := 56) hx hb d_X_drop_26 (by decide) (fun h26 => ?_) (fun h => absurd (nI_le (by omega) (by omega)) h)
        refine lv_aload_n hx hb d_X_drop_56 rfl (lv_at hl 1 rfl) ?_
        refine lv_iconst (v := 0) hx hb d_X_drop_57 (by decide) ?_
        refine va_put (D := D) (ci := 0) (v := .int 0) (ty := .boolean) (C := R_X) (T := T_X) (N := 14) hx hb hA inA_X ty_X tok_X nm_X hown hK hP hD hS 0 rfl rfl 11 (by decide) (hA _ wd_36) (fun _ h9 => h9) rfl (by decide +kernel) (by first | rfl | decide) (by first | rfl | decide) (Nat.le_of_ble_eq_true rfl) d_X_drop_58 (fun H locs hP hD hS => ?_)
        have hP : va_P D vwCl (xw D q n P b a 0 lo hi Bc av al ah an pt fd) H := hP
        have hD : va_D A (xw D q n P b a 0 lo hi Bc av al ah an pt fd) := hD
        refine lv_iconst (v := 1) hx hb d_X_drop_61 (by decide) ?_
        exact eWz (n, P, b, a, 0, lo, hi, Bc, av, al, ah, an, pt, fd) hx hb hr hlocks (by first | rfl | decide) hP hK hD hS (Or.inr ⟨b, rfl, rfl, by rw [← hf]; rfl⟩) d_X_drop_62
      | succ t ih =>
        intro p9 Bc H locs ls hp9 hf hl hP hD hS
        refine lv_iload_n hx hb d_X_drop_21 rfl (lv_at hl 0 rfl) ?_
        refine lv_aload_n hx hb d_X_drop_22 rfl (lv_at hl 1 rfl) ?_
        refine va_get (D := D) (ci := 0) (v := .int (nI P)) (C := R_X) (T := T_X) (N := 14) hx hb hA inA_X hown hK hP 0 rfl rfl 4 (by decide) (hA _ wd_29) (fun _ h9 => h9) rfl d_X_drop_23 ?_
        refine lv_icmp_ge (tgt := 56) hx hb d_X_drop_26 (by decide) (fun h => absurd h (nI_ge (by omega) (by omega))) (fun h26 => ?_)
        refine lv_aload_n hx hb d_X_drop_29 rfl (lv_at hl 1 rfl) ?_
        refine va_get (D := D) (ci := 0) (v := .ref (q 3)) (C := R_X) (T := T_X) (N := 14) hx hb hA inA_X hown hK hP 0 rfl rfl 3 (by decide) (hA _ wd_28) (fun _ h9 => h9) rfl d_X_drop_30 ?_
        refine lv_iload_n hx hb d_X_drop_33 rfl (lv_at hl 0 rfl) ?_
        refine xi_ald hx hb hK hP 3 rfl (by omega) (by decide) d_X_drop_34 ?_
        refine lv_aload_n hx hb d_X_drop_35 rfl (lv_at hl 1 rfl) ?_
        refine va_get (D := D) (ci := 0) (v := .int (nI b)) (C := R_X) (T := T_X) (N := 14) hx hb hA inA_X hown hK hP 0 rfl rfl 5 (by decide) (hA _ wd_30) (fun _ h9 => h9) rfl d_X_drop_36 ?_
        refine lv_icmp_ne (tgt := 50) hx hb d_X_drop_39 (by decide) (fun h39 => ?_) (fun h39 => ?_)
        · skip
          refine lv_iinc (v := nI (p9 + 1)) hx hb d_X_drop_50 hl (k := 0) rfl (by rw [nI_succ]; rfl) (by decide) rfl (fun ls hl => ?_)
          have hl : lv_has ls 2 [(1, .int (nI (p9 + 1))), (0, .ref (q 0))] := hl
          refine lv_goto (tgt := 21) hx hb d_X_drop_53 (by decide) ?_
          exact ih (p9 + 1) _ _ _ _ (by omega) (by rw [← hf]; simp only [dF]; first | rw [if_pos h39] | rw [if_neg h39]) (lv_sub hl [0, 1] rfl) hP hD hS
        · skip
          refine lv_aload_n hx hb d_X_drop_42 rfl (lv_at hl 1 rfl) ?_
          refine va_get (D := D) (ci := 0) (v := .ref (q 3)) (C := R_X) (T := T_X) (N := 14) hx hb hA inA_X hown hK hP 0 rfl rfl 3 (by decide) (hA _ wd_28) (fun _ h9 => h9) rfl d_X_drop_43 ?_
          refine lv_iload_n hx hb d_X_drop_46 rfl (lv_at hl 0 rfl) ?_
          refine lv_bipush (v := 12) hx hb d_X_drop_47 (by decide) ?_
          refine xi_ast hx hb hK hP hD hS 3 rfl (by omega) (by decide) d_X_drop_49 (fun H locs hP hD hS => ?_)
          have hP : va_P D vwCl (xw D q n P b a z lo hi (upd Bc p9 12) av al ah an pt fd) H := hP
          have hD : va_D A (xw D q n P b a z lo hi (upd Bc p9 12) av al ah an pt fd) := hD
          refine lv_iinc (v := nI (p9 + 1)) hx hb d_X_drop_50 hl (k := 0) rfl (by rw [nI_succ]; rfl) (by decide) rfl (fun ls hl => ?_)
          have hl : lv_has ls 2 [(1, .int (nI (p9 + 1))), (0, .ref (q 0))] := hl
          refine lv_goto (tgt := 21) hx hb d_X_drop_53 (by decide) ?_
          exact ih (p9 + 1) _ _ _ _ (by omega) (by rw [← hf]; simp only [dF]; first | rw [if_pos h39] | rw [if_neg h39]) (lv_sub hl [0, 1] rfl) hP hD hS
    exact loop P 0 B _ _ _ (by omega) rfl (lv_sub hl [0, 1] rfl) hP hD hS
end
