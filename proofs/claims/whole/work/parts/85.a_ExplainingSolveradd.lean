section
set_option maxRecDepth 100000 in
set_option maxHeartbeats 4000000 in
theorem c_add (l : Launch) (D : va_G) (q : Nat → Nat) (n P k a : Nat) (z : Int32) (lo hi B av al ah an pt fd : Nat → Int32) (f : (Nat → Int32) → Bool) (o ci : Nat) (fs : List Value) (C : String) (T : u_T) (N : Nat) (y : MethodName) (by9 : ByteArray) (mL : Nat) (rm : Room) (sz : Nat) (hn : n ≤ 8) (hP4 : P ≤ 4096) (hk : k ≤ 12) (hM : ∀ x : Nat → Int32, Met l y (wsm y by9 mL (some .boolean)) rm (va_Pc [.ref o, .ref (q 8)] (cPre D [(o, .inr (ci, fs)), (q 8, .inl (D.1 100, 8, .inl x))])) (vp_Si (fun r => r = zb (f x))) 0 0 (fun _ => False)) (hc : vwCl[ci]? = some (C, T, N)) (hFw : ∀ U : State, xN U → va_Fw C y_K_holdsAt y U) (hwd : Cond.code y by9 mL (some .boolean) ∈ cA ∧ Cond.initialized y.cls ∈ cA ∧ Cond.methodLink R_X 126 y_K_holdsAt ∈ cA ∧ Cond.instanceMethod y ∈ cA ∧ Cond.selects C y_K_holdsAt y ∈ cA) (hrm : rm.cells = 0 ∧ rm.slots = 0 ∧ rm.frames + 1 ≤ 3 ∧ 8 + (mL + 11) + rm.locals ≤ 68) : Met l y_X_add (wsm y_X_add b_X_add 3 (some .int)) { frames := 3, cells := 0, slots := 0, locals := 68 } (va_Pc [.ref (q 0), .ref o] (fun U => U.heap.size = sz ∧ cPre D ((o, .inr (ci, fs)) :: xw D q n P k a z lo hi B av al ah an pt fd) U)) (va_Qi (fun (r : Int32) (u : XS) => addP f n P k a z lo hi B av al ah an pt fd r u) (fun u t => xB D (xW D q u) (va_A ((o, .inr (ci, fs)) :: xw D q n P k a z lo hi B av al ah an pt fd) sz) t) (va_A ((o, .inr (ci, fs)) :: xw D q n P k a z lo hi B av al ah an pt fd) sz)) 0 0 (va_A ((o, .inr (ci, fs)) :: xw D q n P k a z lo hi B av al ah an pt fd) sz) := by
  refine met_W (Qf := fun A => va_Qi (fun (r : Int32) (u : XS) => addP f n P k a z lo hi B av al ah an pt fd r u) (fun u t => xB D (xW D q u) A t) A) (by decide) (Nat.le_of_ble_eq_true rfl) ?_
  intro p e s m below meth c ls A hx hb hr hlocks hml hown hin hA hP hK hD hN hl hS hAA
  have hown : s.vm.findClass R_X = some m.cls := hown
  have hl : lv_has ls 3 [(0, .ref (q 0)), (1, .ref o)] := hl
  refine lv_aload_n hx hb d_X_add_0 rfl (lv_at hl 0 rfl) ?_
  refine va_get (D := D) (ci := 0) (v := .int (nI k)) (C := R_X) (T := T_X) (N := 14) hx hb hA inA_X hown hK hP 1 rfl rfl 5 (by decide) (hA _ wd_30) (fun _ h9 => h9) rfl d_X_add_1 ?_
  refine lv_bipush (v := 12) hx hb d_X_add_4 (by decide) ?_
  refine lv_icmp_lt (tgt := 12) hx hb d_X_add_6 (by decide) (fun h6 => ?_) (fun h6 => ?_)
  · skip
    refine lv_aload_n hx hb d_X_add_12 rfl (lv_at hl 0 rfl) ?_
    refine wVv (n := 0) (wr := [(o, .inr (ci, fs))]) (Wf := xW D q) (rest := []) hx hb hml hown hA (c_goToFirstPoint l D q n P k a z lo hi B av al ah an pt fd _ hn) wv_X_123 ⟨by decide, by decide, by decide +kernel⟩ ⟨rfl, rfl, by decide, by decide⟩ rfl hl.1 ⟨Nat.le_of_ble_eq_true rfl, Nat.le_of_ble_eq_true rfl⟩ hP hK hD hS hAA hN [1, 2, 3, 4, 5, 6, 7, 8, 9, 10] [0] rfl rfl (by decide) (by decide) (by decide) 0 0 rfl rfl rfl (Nat.le_of_ble_eq_true rfl) d_X_add_13 (fun u H locs hu hP hD hS => ?_)
    subst hu
    have hP : va_P D vwCl ((o, .inr (ci, fs)) :: xw D q n P k a z lo hi B av al ah an (va_cpy lo pt 0 0 n) fd) H := hP
    have hD : va_D A ((o, .inr (ci, fs)) :: xw D q n P k a z lo hi B av al ah an (va_cpy lo pt 0 0 n) fd) := hD
    refine lv_iconst (v := 0) hx hb d_X_add_16 (by decide) ?_
    refine lv_istore_n hx hb d_X_add_17 rfl hl (by decide) rfl (fun ls hl => ?_)
    have hl : lv_has ls 3 [(2, .int 0), (0, .ref (q 0)), (1, .ref o)] := hl
    have loop : ∀ (t p9 : Nat) (x Bc : Nat → Int32) (H : Heap) (locs : List Loc) (ls : Array Slot), p9 + t = P → aF lo hi n k f t p9 x Bc = aF lo hi n k f P 0 (va_cpy lo pt 0 0 n) B → lv_has ls 3 [(2, .int (nI p9)), (0, .ref (q 0)), (1, .ref o)] → va_P D vwCl ((o, .inr (ci, fs)) :: xw D q n P k a z lo hi Bc av al ah an x fd) H → va_D A ((o, .inr (ci, fs)) :: xw D q n P k a z lo hi Bc av al ah an x fd) → va_S A s.heap H locs → W p l e { frames := 3, cells := 0, slots := 0, locals := 68 } s m [.ref (q 0), .ref o].toArray below meth c H locs 0 0 (MQ below (va_Qi (fun (r : Int32) (u : XS) => addP f n P k a z lo hi B av al ah an pt fd r u) (fun u t => xB D (xW D q u) A t) A) [.ref (q 0), .ref o].toArray s 0 0 A) (F0 m 18 ls []) := by
      intro t
      induction t with
      | zero =>
        intro p9 x Bc H locs ls hp9 hf hl hP hD hS
        refine lv_iload_n hx hb d_X_add_18 rfl (lv_at hl 0 rfl) ?_
        refine lv_aload_n hx hb d_X_add_19 rfl (lv_at hl 1 rfl) ?_
        refine va_get (D := D) (ci := 0) (v := .int (nI P)) (C := R_X) (T := T_X) (N := 14) hx hb hA inA_X hown hK hP 1 rfl rfl 4 (by decide) (hA _ wd_29) (fun _ h9 => h9) rfl d_X_add_20 ?_
        refine lv_icmp_ge (tgt := 70) hx hb d_X_add_23 (by decide) (fun h23 => ?_) (fun h => absurd (nI_le (by omega) (by omega)) h)
        refine lv_aload_n hx hb d_X_add_70 rfl (lv_at hl 1 rfl) ?_
        refine lv_iconst (v := 0) hx hb d_X_add_71 (by decide) ?_
        refine va_put (D := D) (ci := 0) (v := .int 0) (ty := .boolean) (C := R_X) (T := T_X) (N := 14) hx hb hA inA_X ty_X tok_X nm_X hown hK hP hD hS 1 rfl rfl 11 (by decide) (hA _ wd_36) (fun _ h9 => h9) rfl (by decide +kernel) (by first | rfl | decide) (by first | rfl | decide) (Nat.le_of_ble_eq_true rfl) d_X_add_72 (fun H locs hP hD hS => ?_)
        have hP : va_P D vwCl ((o, .inr (ci, fs)) :: xw D q n P k a 0 lo hi Bc av al ah an x fd) H := hP
        have hD : va_D A ((o, .inr (ci, fs)) :: xw D q n P k a 0 lo hi Bc av al ah an x fd) := hD
        refine lv_aload_n hx hb d_X_add_75 rfl (lv_at hl 1 rfl) ?_
        refine lv_dup hx hb d_X_add_76 rfl ?_
        refine va_get (D := D) (ci := 0) (v := .int (nI k)) (C := R_X) (T := T_X) (N := 14) hx hb hA inA_X hown hK hP 1 rfl rfl 5 (by decide) (hA _ wd_30) (fun _ h9 => h9) rfl d_X_add_77 ?_
        refine lv_dup_x1 hx hb d_X_add_80 rfl rfl ?_
        refine lv_iconst (v := 1) hx hb d_X_add_81 (by decide) ?_
        refine lv_iadd hx hb d_X_add_82 ?_
        refine topi_to (v := nI (k + 1)) ((nI_succ k).symm) ?_
        refine va_put (D := D) (ci := 0) (v := .int (nI (k + 1))) (ty := .int) (C := R_X) (T := T_X) (N := 14) hx hb hA inA_X ty_X tok_X nm_X hown hK hP hD hS 1 rfl rfl 5 (by decide) (hA _ wd_30) (fun _ h9 => h9) rfl (by decide +kernel) (by first | rfl | decide) (by first | rfl | decide) (Nat.le_of_ble_eq_true rfl) d_X_add_83 (fun H locs hP hD hS => ?_)
        have hP : va_P D vwCl ((o, .inr (ci, fs)) :: xw D q n P (k + 1) a 0 lo hi Bc av al ah an x fd) H := hP
        have hD : va_D A ((o, .inr (ci, fs)) :: xw D q n P (k + 1) a 0 lo hi Bc av al ah an x fd) := hD
        have hP : va_P D vwCl (xw D q n P (k + 1) a 0 lo hi Bc av al ah an x fd) _ := va_P.sub1 hP [1, 2, 3, 4, 5, 6, 7, 8, 9, 10] rfl
        have hD : va_D A (xw D q n P (k + 1) a 0 lo hi Bc av al ah an x fd) := va_D.sub hD [1, 2, 3, 4, 5, 6, 7, 8, 9, 10] (by decide) rfl
        exact eWi (n, P, (k + 1), a, 0, lo, hi, Bc, av, al, ah, an, x, fd) hx hb hr hlocks hP hK hD hS (Or.inr ⟨lt12 h6 hk, rfl, by rw [← hf]; rfl⟩) d_X_add_86
      | succ t ih =>
        intro p9 x Bc H locs ls hp9 hf hl hP hD hS
        refine lv_iload_n hx hb d_X_add_18 rfl (lv_at hl 0 rfl) ?_
        refine lv_aload_n hx hb d_X_add_19 rfl (lv_at hl 1 rfl) ?_
        refine va_get (D := D) (ci := 0) (v := .int (nI P)) (C := R_X) (T := T_X) (N := 14) hx hb hA inA_X hown hK hP 1 rfl rfl 4 (by decide) (hA _ wd_29) (fun _ h9 => h9) rfl d_X_add_20 ?_
        refine lv_icmp_ge (tgt := 70) hx hb d_X_add_23 (by decide) (fun h => absurd h (nI_ge (by omega) (by omega))) (fun h23 => ?_)
        refine lv_aload_n hx hb d_X_add_26 rfl (lv_at hl 1 rfl) ?_
        refine va_get (D := D) (ci := 0) (v := .ref (q 3)) (C := R_X) (T := T_X) (N := 14) hx hb hA inA_X hown hK hP 1 rfl rfl 3 (by decide) (hA _ wd_28) (fun _ h9 => h9) rfl d_X_add_27 ?_
        refine lv_iload_n hx hb d_X_add_30 rfl (lv_at hl 0 rfl) ?_
        refine xi_ald hx hb hK hP 4 rfl (by omega) (by decide) d_X_add_31 ?_
        refine lv_bipush (v := 12) hx hb d_X_add_32 (by decide) ?_
        refine lv_icmp_ne (tgt := 60) hx hb d_X_add_34 (by decide) (fun h34 => ?_) (fun h34 => ?_)
        · skip
          refine lv_aload_n hx hb d_X_add_60 rfl (lv_at hl 1 rfl) ?_
          refine wVv (n := 0) (wr := [(o, .inr (ci, fs))]) (Wf := xW D q) (rest := []) hx hb hml hown hA (c_goToNextPoint l D q n P k a z lo hi Bc av al ah an x fd _ hn) wv_X_132 ⟨by decide, by decide, by decide +kernel⟩ ⟨rfl, rfl, by decide, by decide⟩ rfl hl.1 ⟨Nat.le_of_ble_eq_true rfl, Nat.le_of_ble_eq_true rfl⟩ hP hK hD hS hAA hN [1, 2, 3, 4, 5, 6, 7, 8, 9, 10] [0] rfl rfl (by decide) (by decide) (by decide) 0 0 rfl rfl rfl (Nat.le_of_ble_eq_true rfl) d_X_add_61 (fun u H locs hu hP hD hS => ?_)
          subst hu
          have hP : va_P D vwCl ((o, .inr (ci, fs)) :: xw D q n P k a z lo hi Bc av al ah an (nx lo hi n x) fd) H := hP
          have hD : va_D A ((o, .inr (ci, fs)) :: xw D q n P k a z lo hi Bc av al ah an (nx lo hi n x) fd) := hD
          refine lv_iinc (v := nI (p9 + 1)) hx hb d_X_add_64 hl (k := 0) rfl (by rw [nI_succ]; rfl) (by decide) rfl (fun ls hl => ?_)
          have hl : lv_has ls 3 [(2, .int (nI (p9 + 1))), (0, .ref (q 0)), (1, .ref o)] := hl
          refine lv_goto (tgt := 18) hx hb d_X_add_67 (by decide) ?_
          exact ih (p9 + 1) _ _ _ _ _ (by omega) ((aF_no (fun h => h34 h.1)).symm.trans hf) (lv_sub hl [0, 1, 2] rfl) hP hD hS
        · skip
          refine lv_aload_n hx hb d_X_add_37 rfl (lv_at hl 2 rfl) ?_
          refine lv_aload_n hx hb d_X_add_38 rfl (lv_at hl 1 rfl) ?_
          refine va_get (D := D) (ci := 0) (v := .ref (q 8)) (C := R_X) (T := T_X) (N := 14) hx hb hA inA_X hown hK hP 1 rfl rfl 12 (by decide) (hA _ wd_37) (fun _ h9 => h9) rfl d_X_add_39 ?_
          refine rF (n := 1) (rest := []) hx hb hml hown hA (hM x) (hFw s hN) hwd ⟨by decide, by decide, by decide +kernel⟩ ⟨hrm.1, hrm.2.1, hrm.2.2.1, hrm.2.2.2⟩ rfl hl.1 ⟨Nat.le_of_ble_eq_true rfl, Nat.le_of_ble_eq_true rfl⟩ (va_P.sub1 hP [0, 9] rfl) hK (va_D.sub hD [0, 9] (by decide) rfl) hN 0 ci rfl hc (hK.1 ci _ hc).2 rfl (Nat.le_of_ble_eq_true rfl) d_X_add_42 (fun r hr9 => ?_)
          rcases zb_cb hr9 with ⟨rfl, h42⟩ | ⟨rfl, h42⟩
          · skip
            refine lv_if_ne (tgt := 60) hx hb d_X_add_47 (by decide) (fun _ => ?_) (fun h => absurd h (by decide))
            refine lv_aload_n hx hb d_X_add_60 rfl (lv_at hl 1 rfl) ?_
            refine wVv (n := 0) (wr := [(o, .inr (ci, fs))]) (Wf := xW D q) (rest := []) hx hb hml hown hA (c_goToNextPoint l D q n P k a z lo hi Bc av al ah an x fd _ hn) wv_X_132 ⟨by decide, by decide, by decide +kernel⟩ ⟨rfl, rfl, by decide, by decide⟩ rfl hl.1 ⟨Nat.le_of_ble_eq_true rfl, Nat.le_of_ble_eq_true rfl⟩ hP hK hD hS hAA hN [1, 2, 3, 4, 5, 6, 7, 8, 9, 10] [0] rfl rfl (by decide) (by decide) (by decide) 0 0 rfl rfl rfl (Nat.le_of_ble_eq_true rfl) d_X_add_61 (fun u H locs hu hP hD hS => ?_)
            subst hu
            have hP : va_P D vwCl ((o, .inr (ci, fs)) :: xw D q n P k a z lo hi Bc av al ah an (nx lo hi n x) fd) H := hP
            have hD : va_D A ((o, .inr (ci, fs)) :: xw D q n P k a z lo hi Bc av al ah an (nx lo hi n x) fd) := hD
            refine lv_iinc (v := nI (p9 + 1)) hx hb d_X_add_64 hl (k := 0) rfl (by rw [nI_succ]; rfl) (by decide) rfl (fun ls hl => ?_)
            have hl : lv_has ls 3 [(2, .int (nI (p9 + 1))), (0, .ref (q 0)), (1, .ref o)] := hl
            refine lv_goto (tgt := 18) hx hb d_X_add_67 (by decide) ?_
            exact ih (p9 + 1) _ _ _ _ _ (by omega) ((aF_no (fun h => absurd h.2 (by rw [h42]; decide))).symm.trans hf) (lv_sub hl [0, 1, 2] rfl) hP hD hS
          · skip
            refine lv_if_ne (tgt := 60) hx hb d_X_add_47 (by decide) (fun h => absurd h (by decide)) (fun _ => ?_)
            refine lv_aload_n hx hb d_X_add_50 rfl (lv_at hl 1 rfl) ?_
            refine va_get (D := D) (ci := 0) (v := .ref (q 3)) (C := R_X) (T := T_X) (N := 14) hx hb hA inA_X hown hK hP 1 rfl rfl 3 (by decide) (hA _ wd_28) (fun _ h9 => h9) rfl d_X_add_51 ?_
            refine lv_iload_n hx hb d_X_add_54 rfl (lv_at hl 0 rfl) ?_
            refine lv_aload_n hx hb d_X_add_55 rfl (lv_at hl 1 rfl) ?_
            refine va_get (D := D) (ci := 0) (v := .int (nI k)) (C := R_X) (T := T_X) (N := 14) hx hb hA inA_X hown hK hP 1 rfl rfl 5 (by decide) (hA _ wd_30) (fun _ h9 => h9) rfl d_X_add_56 ?_
            refine xi_ast hx hb hK hP hD hS 4 rfl (by omega) (by decide) d_X_add_59 (fun H locs hP hD hS => ?_)
            have hP : va_P D vwCl ((o, .inr (ci, fs)) :: xw D q n P k a z lo hi (upd Bc p9 (nI k)) av al ah an x fd) H := hP
            have hD : va_D A ((o, .inr (ci, fs)) :: xw D q n P k a z lo hi (upd Bc p9 (nI k)) av al ah an x fd) := hD
            refine lv_aload_n hx hb d_X_add_60 rfl (lv_at hl 1 rfl) ?_
            refine wVv (n := 0) (wr := [(o, .inr (ci, fs))]) (Wf := xW D q) (rest := []) hx hb hml hown hA (c_goToNextPoint l D q n P k a z lo hi (upd Bc p9 (nI k)) av al ah an x fd _ hn) wv_X_132 ⟨by decide, by decide, by decide +kernel⟩ ⟨rfl, rfl, by decide, by decide⟩ rfl hl.1 ⟨Nat.le_of_ble_eq_true rfl, Nat.le_of_ble_eq_true rfl⟩ hP hK hD hS hAA hN [1, 2, 3, 4, 5, 6, 7, 8, 9, 10] [0] rfl rfl (by decide) (by decide) (by decide) 0 0 rfl rfl rfl (Nat.le_of_ble_eq_true rfl) d_X_add_61 (fun u H locs hu hP hD hS => ?_)
            subst hu
            have hP : va_P D vwCl ((o, .inr (ci, fs)) :: xw D q n P k a z lo hi (upd Bc p9 (nI k)) av al ah an (nx lo hi n x) fd) H := hP
            have hD : va_D A ((o, .inr (ci, fs)) :: xw D q n P k a z lo hi (upd Bc p9 (nI k)) av al ah an (nx lo hi n x) fd) := hD
            refine lv_iinc (v := nI (p9 + 1)) hx hb d_X_add_64 hl (k := 0) rfl (by rw [nI_succ]; rfl) (by decide) rfl (fun ls hl => ?_)
            have hl : lv_has ls 3 [(2, .int (nI (p9 + 1))), (0, .ref (q 0)), (1, .ref o)] := hl
            refine lv_goto (tgt := 18) hx hb d_X_add_67 (by decide) ?_
            exact ih (p9 + 1) _ _ _ _ _ (by omega) ((aF_go ⟨h34, h42⟩).symm.trans hf) (lv_sub hl [0, 1, 2] rfl) hP hD hS
    exact loop P 0 _ B _ _ _ (by omega) rfl (lv_sub hl [0, 1, 2] rfl) hP hD hS
  · skip
    refine lv_bipush (v := (-2)) hx hb d_X_add_9 (by decide) ?_
    have hP : va_P D vwCl (xw D q n P k a z lo hi B av al ah an pt fd) _ := va_P.sub1 hP [1, 2, 3, 4, 5, 6, 7, 8, 9, 10] rfl
    have hD : va_D A (xw D q n P k a z lo hi B av al ah an pt fd) := va_D.sub hD [1, 2, 3, 4, 5, 6, 7, 8, 9, 10] (by decide) rfl
    exact eWi (n, P, k, a, z, lo, hi, B, av, al, ah, an, pt, fd) hx hb hr hlocks hP hK hD hS (Or.inl ⟨fun h => h6 (nI_lt h (by decide)), rfl, rfl⟩) d_X_add_11
end
