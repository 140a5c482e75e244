section
set_option maxRecDepth 100000 in
set_option maxHeartbeats 4000000 in
theorem c_search (l : Launch) (D : va_G) (q : Nat → Nat) (n P k a : Nat) (z : Int32) (lo hi B av al ah an pt fd : Nat → Int32) (i w : Int32) (sz : Nat) (hn : n ≤ 8) (hP4 : P ≤ 4096) (ha : a ≤ 8) (hav : ∀ m, m < a → vp_in (av m) 8) (hi8 : vp_in i 8) : Met l y_X_search (wsm y_X_search b_X_search 6 (some .boolean)) { frames := 2, cells := 0, slots := 0, locals := 38 } (va_Pc [.ref (q 0), .int i, .int w] (fun U => U.heap.size = sz ∧ cPre D (xw D q n P k a z lo hi B av al ah an pt fd) U)) (va_Qi (fun (r : Int32) (u : XS) => r = zb (srF n P a lo hi B av al ah pt fd i w).1 ∧ u = (n, P, k, a, z, lo, hi, B, av, al, ah, an, (srF n P a lo hi B av al ah pt fd i w).2.1, (srF n P a lo hi B av al ah pt fd i w).2.2)) (fun u t => xB D (xW D q u) (va_A (xw D q n P k a z lo hi B av al ah an pt fd) sz) t) (va_A (xw D q n P k a z lo hi B av al ah an pt fd) sz)) 0 0 (va_A (xw D q n P k a z lo hi B av al ah an pt fd) sz) := by
  refine met_W (Qf := fun A => va_Qi (fun (r : Int32) (u : XS) => r = zb (srF n P a lo hi B av al ah pt fd i w).1 ∧ u = (n, P, k, a, z, lo, hi, B, av, al, ah, an, (srF n P a lo hi B av al ah pt fd i w).2.1, (srF n P a lo hi B av al ah pt fd i w).2.2)) (fun u t => xB D (xW D q u) A t) A) (by decide) (Nat.le_of_ble_eq_true rfl) ?_
  intro p e s m below meth c ls A hx hb hr hlocks hml hown hin hA hP hK hD hN hl hS hAA
  have hown : s.vm.findClass R_X = some m.cls := hown
  have hl : lv_has ls 6 [(0, .ref (q 0)), (1, .int i), (2, .int w)] := hl
  refine lv_iload_n hx hb d_X_search_0 rfl (lv_at hl 2 rfl) ?_
  refine lv_aload_n hx hb d_X_search_1 rfl (lv_at hl 0 rfl) ?_
  refine va_get (D := D) (ci := 0) (v := .ref (q 1)) (C := R_X) (T := T_X) (N := 14) hx hb hA inA_X hown hK hP 0 rfl rfl 0 (by decide) (hA _ wd_25) (fun _ h9 => h9) rfl d_X_search_2 ?_
  refine lv_iload_n hx hb d_X_search_5 rfl (lv_at hl 1 rfl) ?_
  refine va_iald hx hb hK hP 1 0 rfl rfl (hi8) d_X_search_6 ?_
  refine lv_imul hx hb d_X_search_7 ?_
  refine lv_iload_n hx hb d_X_search_8 rfl (lv_at hl 2 rfl) ?_
  refine lv_aload_n hx hb d_X_search_9 rfl (lv_at hl 0 rfl) ?_
  refine va_get (D := D) (ci := 0) (v := .ref (q 2)) (C := R_X) (T := T_X) (N := 14) hx hb hA inA_X hown hK hP 0 rfl rfl 1 (by decide) (hA _ wd_26) (fun _ h9 => h9) rfl d_X_search_10 ?_
  refine lv_iload_n hx hb d_X_search_13 rfl (lv_at hl 1 rfl) ?_
  refine va_iald hx hb hK hP 2 0 rfl rfl (hi8) d_X_search_14 ?_
  refine lv_imul hx hb d_X_search_15 ?_
  refine va_mmin hx hb (hml.trans hl.1.symm) hown (hA _ wm_X_141.1) (hA _ wm_X_141.2.1) (hA _ wm_X_141.2.2.1) (hA _ wm_X_141.2.2.2) (by decide) (by decide) (by decide) (by decide) d_X_search_16 ?_
  refine topi_to (v := sG w lo hi i.toNatClampNeg) (rfl) ?_
  refine lv_istore_n hx hb d_X_search_19 rfl hl (by decide) rfl (fun ls hl => ?_)
  have hl : lv_has ls 6 [(3, .int (sG w lo hi i.toNatClampNeg)), (0, .ref (q 0)), (1, .int i), (2, .int w)] := hl
  refine lv_iconst (v := 0) hx hb d_X_search_20 (by decide) ?_
  refine lv_istore hx hb d_X_search_21 hl (by decide) rfl (fun ls hl => ?_)
  have hl : lv_has ls 6 [(4, .int 0), (3, .int (sG w lo hi i.toNatClampNeg)), (0, .ref (q 0)), (1, .int i), (2, .int w)] := hl
  refine lv_aload_n hx hb d_X_search_23 rfl (lv_at hl 2 rfl) ?_
  refine wVv (n := 0) (wr := []) (Wf := xW D q) (rest := []) hx hb hml hown hA (c_goToFirstPoint l D q n P k a z lo hi B av al ah an pt fd _ hn) wv_X_123 ⟨by decide, by decide, by decide +kernel⟩ ⟨rfl, rfl, by decide, by decide⟩ rfl hl.1 ⟨Nat.le_of_ble_eq_true rfl, Nat.le_of_ble_eq_true rfl⟩ hP hK hD hS hAA hN [0, 1, 2, 3, 4, 5, 6, 7, 8, 9] [] rfl rfl (by decide) (by decide) (by decide) 0 0 rfl rfl rfl (Nat.le_of_ble_eq_true rfl) d_X_search_24 (fun u H locs hu hP hD hS => ?_)
  subst hu
  have hP : va_P D vwCl (xw D q n P k a z lo hi B av al ah an (va_cpy lo pt 0 0 n) fd) H := hP
  have hD : va_D A (xw D q n P k a z lo hi B av al ah an (va_cpy lo pt 0 0 n) fd) := hD
  refine lv_iconst (v := 0) hx hb d_X_search_27 (by decide) ?_
  refine lv_istore hx hb d_X_search_28 hl (by decide) rfl (fun ls hl => ?_)
  have hl : lv_has ls 6 [(5, .int 0), (4, .int 0), (3, .int (sG w lo hi i.toNatClampNeg)), (0, .ref (q 0)), (1, .int i), (2, .int w)] := hl
  have loop : ∀ (t p9 : Nat) (any : Bool) (x y : Nat → Int32) (H : Heap) (locs : List Loc) (ls : Array Slot), p9 + t = P → sF B lo hi n (fun x => decide (asall a av al ah x)) w (sG w lo hi i.toNatClampNeg) i.toNatClampNeg t p9 x y any = srF n P a lo hi B av al ah pt fd i w → lv_has ls 6 [(5, .int (nI p9)), (4, .int (zb any)), (3, .int (sG w lo hi i.toNatClampNeg)), (0, .ref (q 0)), (1, .int i), (2, .int w)] → va_P D vwCl (xw D q n P k a z lo hi B av al ah an x y) H → va_D A (xw D q n P k a z lo hi B av al ah an x y) → va_S A s.heap H locs → W p l e { frames := 2, cells := 0, slots := 0, locals := 38 } s m [.ref (q 0), .int i, .int w].toArray below meth c H locs 0 0 (MQ below (va_Qi (fun (r : Int32) (u : XS) => r = zb (srF n P a lo hi B av al ah pt fd i w).1 ∧ u = (n, P, k, a, z, lo, hi, B, av, al, ah, an, (srF n P a lo hi B av al ah pt fd i w).2.1, (srF n P a lo hi B av al ah pt fd i w).2.2)) (fun u t => xB D (xW D q u) A t) A) [.ref (q 0), .int i, .int w].toArray s 0 0 A) (F0 m 30 ls []) := by
    intro t
    induction t with
    | zero =>
      intro p9 any x y H locs ls hp9 hf hl hP hD hS
      refine lv_iload hx hb d_X_search_30 (lv_at hl 0 rfl) ?_
      refine lv_aload_n hx hb d_X_search_32 rfl (lv_at hl 3 rfl) ?_
      refine va_get (D := D) (ci := 0) (v := .int (nI P)) (C := R_X) (T := T_X) (N := 14) hx hb hA inA_X hown hK hP 0 rfl rfl 4 (by decide) (hA _ wd_29) (fun _ h9 => h9) rfl d_X_search_33 ?_
      refine lv_icmp_ge (tgt := 126) hx hb d_X_search_36 (by decide) (fun h36 => ?_) (fun h => absurd (nI_le (by omega) (by omega)) h)
      refine lv_iload hx hb d_X_search_126 (lv_at hl 1 rfl) ?_
      exact eWz (n, P, k, a, z, lo, hi, B, av, al, ah, an, x, y) hx hb hr hlocks (zb_n _) hP hK hD hS (⟨by rw [← hf]; rfl, by rw [← hf]; rfl⟩) d_X_search_128
    | succ t ih =>
      intro p9 any x y H locs ls hp9 hf hl hP hD hS
      refine lv_iload hx hb d_X_search_30 (lv_at hl 0 rfl) ?_
      refine lv_aload_n hx hb d_X_search_32 rfl (lv_at hl 3 rfl) ?_
      refine va_get (D := D) (ci := 0) (v := .int (nI P)) (C := R_X) (T := T_X) (N := 14) hx hb hA inA_X hown hK hP 0 rfl rfl 4 (by decide) (hA _ wd_29) (fun _ h9 => h9) rfl d_X_search_33 ?_
      refine lv_icmp_ge (tgt := 126) hx hb d_X_search_36 (by decide) (fun h => absurd h (nI_ge (by omega) (by omega))) (fun h36 => ?_)
      refine lv_aload_n hx hb d_X_search_39 rfl (lv_at hl 3 rfl) ?_
      refine va_get (D := D) (ci := 0) (v := .ref (q 3)) (C := R_X) (T := T_X) (N := 14) hx hb hA inA_X hown hK hP 0 rfl rfl 3 (by decide) (hA _ wd_28) (fun _ h9 => h9) rfl d_X_search_40 ?_
      refine lv_iload hx hb d_X_search_43 (lv_at hl 0 rfl) ?_
      refine xi_ald hx hb hK hP 3 rfl (by omega) (by decide) d_X_search_45 ?_
      refine lv_bipush (v := 12) hx hb d_X_search_46 (by decide) ?_
      refine lv_icmp_ne (tgt := 116) hx hb d_X_search_48 (by decide) (fun h48 => ?_) (fun h48 => ?_)
      · skip
        refine lv_aload_n hx hb d_X_search_116 rfl (lv_at hl 3 rfl) ?_
        refine wVv (n := 0) (wr := []) (Wf := xW D q) (rest := []) hx hb hml hown hA (c_goToNextPoint l D q n P k a z lo hi B av al ah an x y _ hn) wv_X_132 ⟨by decide, by decide, by decide +kernel⟩ ⟨rfl, rfl, by decide, by decide⟩ rfl hl.1 ⟨Nat.le_of_ble_eq_true rfl, Nat.le_of_ble_eq_true rfl⟩ hP hK hD hS hAA hN [0, 1, 2, 3, 4, 5, 6, 7, 8, 9] [] rfl rfl (by decide) (by decide) (by decide) 0 0 rfl rfl rfl (Nat.le_of_ble_eq_true rfl) d_X_search_117 (fun u H locs hu hP hD hS => ?_)
        subst hu
        have hP : va_P D vwCl (xw D q n P k a z lo hi B av al ah an (nx lo hi n x) y) H := hP
        have hD : va_D A (xw D q n P k a z lo hi B av al ah an (nx lo hi n x) y) := hD
        refine lv_iinc (v := nI (p9 + 1)) hx hb d_X_search_120 hl (k := 0) rfl (by rw [nI_succ]; rfl) (by decide) rfl (fun ls hl => ?_)
        have hl : lv_has ls 6 [(5, .int (nI (p9 + 1))), (4, .int (zb any)), (3, .int (sG w lo hi i.toNatClampNeg)), (0, .ref (q 0)), (1, .int i), (2, .int w)] := hl
        refine lv_goto (tgt := 30) hx hb d_X_search_123 (by decide) ?_
        exact ih (p9 + 1) any _ _ _ _ _ (by omega) ((sF_no (fun h => h48 h.1)).symm.trans hf) (lv_sub hl [0, 1, 2, 3, 4, 5] rfl) hP hD hS
      · skip
        refine lv_aload_n hx hb d_X_search_51 rfl (lv_at hl 3 rfl) ?_
        refine rV (n := 0) (rest := []) hx hb hml hown hA (c_isAsAssumed l D q n P k a z lo hi B av al ah an x y ha hav) wv_X_147 ⟨by decide, by decide, by decide +kernel⟩ ⟨rfl, rfl, by decide, by decide⟩ rfl hl.1 ⟨Nat.le_of_ble_eq_true rfl, Nat.le_of_ble_eq_true rfl⟩ hP hK hD hN 0 0 rfl rfl rfl (Nat.le_of_ble_eq_true rfl) d_X_search_52 (fun r hr9 => ?_)
        rcases zb_c hr9 with ⟨rfl, h52⟩ | ⟨rfl, h52⟩
        · skip
          refine lv_if_eq (tgt := 116) hx hb d_X_search_55 (by decide) (fun h => absurd h (by decide)) (fun _ => ?_)
          rcases any with _ | _
          · skip
            have hl : lv_has ls 6 [(5, .int (nI p9)), (4, .int 0), (3, .int (sG w lo hi i.toNatClampNeg)), (0, .ref (q 0)), (1, .int i), (2, .int w)] := hl
            refine lv_iload hx hb d_X_search_58 (lv_at hl 1 rfl) ?_
            refine lv_if_eq (tgt := 82) hx hb d_X_search_60 (by decide) (fun _ => ?_) (fun h => absurd h (by decide))
            refine lv_aload_n hx hb d_X_search_82 rfl (lv_at hl 3 rfl) ?_
            refine va_get (D := D) (ci := 0) (v := .ref (q 8)) (C := R_X) (T := T_X) (N := 14) hx hb hA inA_X hown hK hP 0 rfl rfl 12 (by decide) (hA _ wd_37) (fun _ h9 => h9) rfl d_X_search_83 ?_
            refine lv_iconst (v := 0) hx hb d_X_search_86 (by decide) ?_
            refine lv_aload_n hx hb d_X_search_87 rfl (lv_at hl 3 rfl) ?_
            refine va_get (D := D) (ci := 0) (v := .ref (q 9)) (C := R_X) (T := T_X) (N := 14) hx hb hA inA_X hown hK hP 0 rfl rfl 13 (by decide) (hA _ wd_38) (fun _ h9 => h9) rfl d_X_search_88 ?_
            refine lv_iconst (v := 0) hx hb d_X_search_91 (by decide) ?_
            refine lv_aload_n hx hb d_X_search_92 rfl (lv_at hl 3 rfl) ?_
            refine va_get (D := D) (ci := 0) (v := .int (nI n)) (C := R_X) (T := T_X) (N := 14) hx hb hA inA_X hown hK hP 0 rfl rfl 2 (by decide) (hA _ wd_27) (fun _ h9 => h9) rfl d_X_search_93 ?_
            refine xi_copy hx hb (hml.trans hl.1.symm) hown (hA _ wc_X_135.1) (hA _ wc_X_135.2.1) (hA _ wc_X_135.2.2.1) (hA _ wc_X_135.2.2.2) hK hP hD hS 8 9 rfl rfl (k := n) (hn) (by decide) (by decide) (by decide) (by decide) d_X_search_96 (fun H locs hP hD hS => ?_)
            have hP : va_P D vwCl (xw D q n P k a z lo hi B av al ah an x (va_cpy x y 0 0 n)) H := hP
            have hD : va_D A (xw D q n P k a z lo hi B av al ah an x (va_cpy x y 0 0 n)) := hD
            refine lv_iconst (v := 1) hx hb d_X_search_99 (by decide) ?_
            refine lv_istore hx hb d_X_search_100 hl (by decide) rfl (fun ls hl => ?_)
            have hl : lv_has ls 6 [(4, .int 1), (5, .int (nI p9)), (3, .int (sG w lo hi i.toNatClampNeg)), (0, .ref (q 0)), (1, .int i), (2, .int w)] := hl
            refine lv_iload_n hx hb d_X_search_102 rfl (lv_at hl 5 rfl) ?_
            refine lv_aload_n hx hb d_X_search_103 rfl (lv_at hl 3 rfl) ?_
            refine va_get (D := D) (ci := 0) (v := .ref (q 8)) (C := R_X) (T := T_X) (N := 14) hx hb hA inA_X hown hK hP 0 rfl rfl 12 (by decide) (hA _ wd_37) (fun _ h9 => h9) rfl d_X_search_104 ?_
            refine lv_iload_n hx hb d_X_search_107 rfl (lv_at hl 4 rfl) ?_
            refine va_iald hx hb hK hP 8 0 rfl rfl (hi8) d_X_search_108 ?_
            refine lv_imul hx hb d_X_search_109 ?_
            refine lv_iload_n hx hb d_X_search_110 rfl (lv_at hl 2 rfl) ?_
            refine lv_icmp_ne (tgt := 116) hx hb d_X_search_111 (by decide) (fun h111 => ?_) (fun h111 => ?_)
            · skip
              refine lv_aload_n hx hb d_X_search_116 rfl (lv_at hl 3 rfl) ?_
              refine wVv (n := 0) (wr := []) (Wf := xW D q) (rest := []) hx hb hml hown hA (c_goToNextPoint l D q n P k a z lo hi B av al ah an x (va_cpy x y 0 0 n) _ hn) wv_X_132 ⟨by decide, by decide, by decide +kernel⟩ ⟨rfl, rfl, by decide, by decide⟩ rfl hl.1 ⟨Nat.le_of_ble_eq_true rfl, Nat.le_of_ble_eq_true rfl⟩ hP hK hD hS hAA hN [0, 1, 2, 3, 4, 5, 6, 7, 8, 9] [] rfl rfl (by decide) (by decide) (by decide) 0 0 rfl rfl rfl (Nat.le_of_ble_eq_true rfl) d_X_search_117 (fun u H locs hu hP hD hS => ?_)
              subst hu
              have hP : va_P D vwCl (xw D q n P k a z lo hi B av al ah an (nx lo hi n x) (va_cpy x y 0 0 n)) H := hP
              have hD : va_D A (xw D q n P k a z lo hi B av al ah an (nx lo hi n x) (va_cpy x y 0 0 n)) := hD
              refine lv_iinc (v := nI (p9 + 1)) hx hb d_X_search_120 hl (k := 1) rfl (by rw [nI_succ]; rfl) (by decide) rfl (fun ls hl => ?_)
              have hl : lv_has ls 6 [(5, .int (nI (p9 + 1))), (4, .int 1), (3, .int (sG w lo hi i.toNatClampNeg)), (0, .ref (q 0)), (1, .int i), (2, .int w)] := hl
              refine lv_goto (tgt := 30) hx hb d_X_search_123 (by decide) ?_
              exact ih (p9 + 1) true _ _ _ _ _ (by omega) ((sF_go ⟨h48, decide_eq_true h52, Or.inl rfl⟩ h111).symm.trans hf) (lv_sub hl [0, 1, 2, 3, 4, 5] rfl) hP hD hS
            · skip
              refine lv_iconst (v := 1) hx hb d_X_search_114 (by decide) ?_
              have hg := (sF_hit ⟨h48, decide_eq_true h52, Or.inl rfl⟩ h111).symm.trans hf
              exact eWz (n, P, k, a, z, lo, hi, B, av, al, ah, an, x, va_cpy x y 0 0 n) hx hb hr hlocks (by first | rfl | decide) hP hK hD hS (by rw [← hg]; exact ⟨rfl, rfl⟩) d_X_search_115
          · skip
            have hl : lv_has ls 6 [(5, .int (nI p9)), (4, .int 1), (3, .int (sG w lo hi i.toNatClampNeg)), (0, .ref (q 0)), (1, .int i), (2, .int w)] := hl
            refine lv_iload hx hb d_X_search_58 (lv_at hl 1 rfl) ?_
            refine lv_if_eq (tgt := 82) hx hb d_X_search_60 (by decide) (fun h => absurd h (by decide)) (fun _ => ?_)
            refine lv_iload_n hx hb d_X_search_63 rfl (lv_at hl 5 rfl) ?_
            refine lv_aload_n hx hb d_X_search_64 rfl (lv_at hl 3 rfl) ?_
            refine va_get (D := D) (ci := 0) (v := .ref (q 8)) (C := R_X) (T := T_X) (N := 14) hx hb hA inA_X hown hK hP 0 rfl rfl 12 (by decide) (hA _ wd_37) (fun _ h9 => h9) rfl d_X_search_65 ?_
            refine lv_iload_n hx hb d_X_search_68 rfl (lv_at hl 4 rfl) ?_
            refine va_iald hx hb hK hP 8 0 rfl rfl (hi8) d_X_search_69 ?_
            refine lv_imul hx hb d_X_search_70 ?_
            refine lv_iload_n hx hb d_X_search_71 rfl (lv_at hl 5 rfl) ?_
            refine lv_aload_n hx hb d_X_search_72 rfl (lv_at hl 3 rfl) ?_
            refine va_get (D := D) (ci := 0) (v := .ref (q 9)) (C := R_X) (T := T_X) (N := 14) hx hb hA inA_X hown hK hP 0 rfl rfl 13 (by decide) (hA _ wd_38) (fun _ h9 => h9) rfl d_X_search_73 ?_
            refine lv_iload_n hx hb d_X_search_76 rfl (lv_at hl 4 rfl) ?_
            refine va_iald hx hb hK hP 9 0 rfl rfl (hi8) d_X_search_77 ?_
            refine lv_imul hx hb d_X_search_78 ?_
            refine lv_icmp_ge (tgt := 116) hx hb d_X_search_79 (by decide) (fun h79 => ?_) (fun h79 => ?_)
            · skip
              refine lv_aload_n hx hb d_X_search_116 rfl (lv_at hl 3 rfl) ?_
              refine wVv (n := 0) (wr := []) (Wf := xW D q) (rest := []) hx hb hml hown hA (c_goToNextPoint l D q n P k a z lo hi B av al ah an x y _ hn) wv_X_132 ⟨by decide, by decide, by decide +kernel⟩ ⟨rfl, rfl, by decide, by decide⟩ rfl hl.1 ⟨Nat.le_of_ble_eq_true rfl, Nat.le_of_ble_eq_true rfl⟩ hP hK hD hS hAA hN [0, 1, 2, 3, 4, 5, 6, 7, 8, 9] [] rfl rfl (by decide) (by decide) (by decide) 0 0 rfl rfl rfl (Nat.le_of_ble_eq_true rfl) d_X_search_117 (fun u H locs hu hP hD hS => ?_)
              subst hu
              have hP : va_P D vwCl (xw D q n P k a z lo hi B av al ah an (nx lo hi n x) y) H := hP
              have hD : va_D A (xw D q n P k a z lo hi B av al ah an (nx lo hi n x) y) := hD
              refine lv_iinc (v := nI (p9 + 1)) hx hb d_X_search_120 hl (k := 0) rfl (by rw [nI_succ]; rfl) (by decide) rfl (fun ls hl => ?_)
              have hl : lv_has ls 6 [(5, .int (nI (p9 + 1))), (4, .int 1), (3, .int (sG w lo hi i.toNatClampNeg)), (0, .ref (q 0)), (1, .int i), (2, .int w)] := hl
              refine lv_goto (tgt := 30) hx hb d_X_search_123 (by decide) ?_
              exact ih (p9 + 1) true _ _ _ _ _ (by omega) ((sF_no (fun h => h.2.2.elim (fun e => absurd e (by decide)) (fun e => absurd e (Int32.not_lt.mpr h79)))).symm.trans hf) (lv_sub hl [0, 1, 2, 3, 4, 5] rfl) hP hD hS
            · skip
              refine lv_aload_n hx hb d_X_search_82 rfl (lv_at hl 3 rfl) ?_
              refine va_get (D := D) (ci := 0) (v := .ref (q 8)) (C := R_X) (T := T_X) (N := 14) hx hb hA inA_X hown hK hP 0 rfl rfl 12 (by decide) (hA _ wd_37) (fun _ h9 => h9) rfl d_X_search_83 ?_
              refine lv_iconst (v := 0) hx hb d_X_search_86 (by decide) ?_
              refine lv_aload_n hx hb d_X_search_87 rfl (lv_at hl 3 rfl) ?_
              refine va_get (D := D) (ci := 0) (v := .ref (q 9)) (C := R_X) (T := T_X) (N := 14) hx hb hA inA_X hown hK hP 0 rfl rfl 13 (by decide) (hA _ wd_38) (fun _ h9 => h9) rfl d_X_search_88 ?_
              refine lv_iconst (v := 0) hx hb d_X_search_91 (by decide) ?_
              refine lv_aload_n hx hb d_X_search_92 rfl (lv_at hl 3 rfl) ?_
              refine va_get (D := D) (ci := 0) (v := .int (nI n)) (C := R_X) (T := T_X) (N := 14) hx hb hA inA_X hown hK hP 0 rfl rfl 2 (by decide) (hA _ wd_27) (fun _ h9 => h9) rfl d_X_search_93 ?_
              refine xi_copy hx hb (hml.trans hl.1.symm) hown (hA _ wc_X_135.1) (hA _ wc_X_135.2.1) (hA _ wc_X_135.2.2.1) (hA _ wc_X_135.2.2.2) hK hP hD hS 8 9 rfl rfl (k := n) (hn) (by decide) (by decide) (by decide) (by decide) d_X_search_96 (fun H locs hP hD hS => ?_)
              have hP : va_P D vwCl (xw D q n P k a z lo hi B av al ah an x (va_cpy x y 0 0 n)) H := hP
              have hD : va_D A (xw D q n P k a z lo hi B av al ah an x (va_cpy x y 0 0 n)) := hD
              refine lv_iconst (v := 1) hx hb d_X_search_99 (by decide) ?_
              refine lv_istore hx hb d_X_search_100 hl (by decide) rfl (fun ls hl => ?_)
              have hl : lv_has ls 6 [(4, .int 1), (5, .int (nI p9)), (3, .int (sG w lo hi i.toNatClampNeg)), (0, .ref (q 0)), (1, .int i), (2, .int w)] := hl
              refine lv_iload_n hx hb d_X_search_102 rfl (lv_at hl 5 rfl) ?_
              refine lv_aload_n hx hb d_X_search_103 rfl (lv_at hl 3 rfl) ?_
              refine va_get (D := D) (ci := 0) (v := .ref (q 8)) (C := R_X) (T := T_X) (N := 14) hx hb hA inA_X hown hK hP 0 rfl rfl 12 (by decide) (hA _ wd_37) (fun _ h9 => h9) rfl d_X_search_104 ?_
              refine lv_iload_n hx hb d_X_search_107 rfl (lv_at hl 4 rfl) ?_
              refine va_iald hx hb hK hP 8 0 rfl rfl (hi8) d_X_search_108 ?_
              refine lv_imul hx hb d_X_search_109 ?_
              refine lv_iload_n hx hb d_X_search_110 rfl (lv_at hl 2 rfl) ?_
              refine lv_icmp_ne (tgt := 116) hx hb d_X_search_111 (by decide) (fun h111 => ?_) (fun h111 => ?_)
              · skip
                refine lv_aload_n hx hb d_X_search_116 rfl (lv_at hl 3 rfl) ?_
                refine wVv (n := 0) (wr := []) (Wf := xW D q) (rest := []) hx hb hml hown hA (c_goToNextPoint l D q n P k a z lo hi B av al ah an x (va_cpy x y 0 0 n) _ hn) wv_X_132 ⟨by decide, by decide, by decide +kernel⟩ ⟨rfl, rfl, by decide, by decide⟩ rfl hl.1 ⟨Nat.le_of_ble_eq_true rfl, Nat.le_of_ble_eq_true rfl⟩ hP hK hD hS hAA hN [0, 1, 2, 3, 4, 5, 6, 7, 8, 9] [] rfl rfl (by decide) (by decide) (by decide) 0 0 rfl rfl rfl (Nat.le_of_ble_eq_true rfl) d_X_search_117 (fun u H locs hu hP hD hS => ?_)
                subst hu
                have hP : va_P D vwCl (xw D q n P k a z lo hi B av al ah an (nx lo hi n x) (va_cpy x y 0 0 n)) H := hP
                have hD : va_D A (xw D q n P k a z lo hi B av al ah an (nx lo hi n x) (va_cpy x y 0 0 n)) := hD
                refine lv_iinc (v := nI (p9 + 1)) hx hb d_X_search_120 hl (k := 1) rfl (by rw [nI_succ]; rfl) (by decide) rfl (fun ls hl => ?_)
                have hl : lv_has ls 6 [(5, .int (nI (p9 + 1))), (4, .int 1), (3, .int (sG w lo hi i.toNatClampNeg)), (0, .ref (q 0)), (1, .int i), (2, .int w)] := hl
                refine lv_goto (tgt := 30) hx hb d_X_search_123 (by decide) ?_
                exact ih (p9 + 1) true _ _ _ _ _ (by omega) ((sF_go ⟨h48, decide_eq_true h52, Or.inr (Int32.not_le.mp h79)⟩ h111).symm.trans hf) (lv_sub hl [0, 1, 2, 3, 4, 5] rfl) hP hD hS
              · skip
                refine lv_iconst (v := 1) hx hb d_X_search_114 (by decide) ?_
                have hg := (sF_hit ⟨h48, decide_eq_true h52, Or.inr (Int32.not_le.mp h79)⟩ h111).symm.trans hf
                exact eWz (n, P, k, a, z, lo, hi, B, av, al, ah, an, x, va_cpy x y 0 0 n) hx hb hr hlocks (by first | rfl | decide) hP hK hD hS (by rw [← hg]; exact ⟨rfl, rfl⟩) d_X_search_115
        · skip
          refine lv_if_eq (tgt := 116) hx hb d_X_search_55 (by decide) (fun _ => ?_) (fun h => absurd h (by decide))
          refine lv_aload_n hx hb d_X_search_116 rfl (lv_at hl 3 rfl) ?_
          refine wVv (n := 0) (wr := []) (Wf := xW D q) (rest := []) hx hb hml hown hA (c_goToNextPoint l D q n P k a z lo hi B av al ah an x y _ hn) wv_X_132 ⟨by decide, by decide, by decide +kernel⟩ ⟨rfl, rfl, by decide, by decide⟩ rfl hl.1 ⟨Nat.le_of_ble_eq_true rfl, Nat.le_of_ble_eq_true rfl⟩ hP hK hD hS hAA hN [0, 1, 2, 3, 4, 5, 6, 7, 8, 9] [] rfl rfl (by decide) (by decide) (by decide) 0 0 rfl rfl rfl (Nat.le_of_ble_eq_true rfl) d_X_search_117 (fun u H locs hu hP hD hS => ?_)
          subst hu
          have hP : va_P D vwCl (xw D q n P k a z lo hi B av al ah an (nx lo hi n x) y) H := hP
          have hD : va_D A (xw D q n P k a z lo hi B av al ah an (nx lo hi n x) y) := hD
          refine lv_iinc (v := nI (p9 + 1)) hx hb d_X_search_120 hl (k := 0) rfl (by rw [nI_succ]; rfl) (by decide) rfl (fun ls hl => ?_)
          have hl : lv_has ls 6 [(5, .int (nI (p9 + 1))), (4, .int (zb any)), (3, .int (sG w lo hi i.toNatClampNeg)), (0, .ref (q 0)), (1, .int i), (2, .int w)] := hl
          refine lv_goto (tgt := 30) hx hb d_X_search_123 (by decide) ?_
          exact ih (p9 + 1) any _ _ _ _ _ (by omega) ((sF_no (fun h => h52 (of_decide_eq_true h.2.1))).symm.trans hf) (lv_sub hl [0, 1, 2, 3, 4, 5] rfl) hP hD hS
  exact loop P 0 false _ fd _ _ _ (by omega) rfl (lv_sub hl [0, 1, 2, 3, 4, 5] rfl) hP hD hS
end
