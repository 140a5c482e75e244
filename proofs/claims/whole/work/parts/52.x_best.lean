section
set_option maxRecDepth 100000 in
set_option maxHeartbeats 4000000 in
theorem c_best (l : Launch) (D : va_G) (q : Nat → Nat) (n P k a : Nat) (z : Int32) (lo hi B av al ah an pt fd : Nat → Int32) (i z9 w : Int32) (sz : Nat) (hn : n ≤ 8) (hP4 : P ≤ 4096) (ha : a ≤ 8) (hav : ∀ m, m < a → vp_in (av m) 8) (hz9 : (z9 = 0 ∧ w = 1) ∨ (z9 = 1 ∧ w = -1)) : Met l y_X_best (wsm y_X_best b_X_best 3 (some .boolean)) { frames := 3, cells := 0, slots := 0, locals := 63 } (va_Pc [.ref (q 0), .int i, .int z9] (fun U => U.heap.size = sz ∧ cPre D (xw D q n P k a z lo hi B av al ah an pt fd) U)) (va_Qi (fun (r : Int32) (u : XS) => (¬ iv n i ∧ r = 0 ∧ u = (n, P, k, a, z, lo, hi, B, av, al, ah, an, pt, fd)) ∨ (iv n i ∧ r = zb (srF n P a lo hi B av al ah pt fd i w).1 ∧ u = (n, P, k, a, zb (srF n P a lo hi B av al ah pt fd i w).1, lo, hi, B, av, al, ah, if (srF n P a lo hi B av al ah pt fd i w).1 = true then va_cpy (srF n P a lo hi B av al ah pt fd i w).2.2 an 0 0 n else an, (srF n P a lo hi B av al ah pt fd i w).2.1, (srF n P a lo hi B av al ah pt fd i w).2.2))) (fun u t => xB D (xW D q u) (va_A (xw D q n P k a z lo hi B av al ah an pt fd) sz) t) (va_A (xw D q n P k a z lo hi B av al ah an pt fd) sz)) 0 0 (va_A (xw D q n P k a z lo hi B av al ah an pt fd) sz) := by
  refine met_W (Qf := fun A => va_Qi (fun (r : Int32) (u : XS) => (¬ iv n i ∧ r = 0 ∧ u = (n, P, k, a, z, lo, hi, B, av, al, ah, an, pt, fd)) ∨ (iv n i ∧ r = zb (srF n P a lo hi B av al ah pt fd i w).1 ∧ u = (n, P, k, a, zb (srF n P a lo hi B av al ah pt fd i w).1, lo, hi, B, av, al, ah, if (srF n P a lo hi B av al ah pt fd i w).1 = true then va_cpy (srF n P a lo hi B av al ah pt fd i w).2.2 an 0 0 n else an, (srF n P a lo hi B av al ah pt fd i w).2.1, (srF n P a lo hi B av al ah pt fd i w).2.2))) (fun u t => xB D (xW D q u) A t) A) (by decide) (Nat.le_of_ble_eq_true rfl) ?_
  intro p e s m below meth c ls A hx hb hr hlocks hml hown hin hA hP hK hD hN hl hS hAA
  have hown : s.vm.findClass R_X = some m.cls := hown
  have hl : lv_has ls 3 [(0, .ref (q 0)), (1, .int i), (2, .int z9)] := hl
  rcases hz9 with ⟨rfl, rfl⟩ | ⟨rfl, rfl⟩
  · skip
    have hl : lv_has ls 3 [(0, .ref (q 0)), (1, .int i), (2, .int 0)] := hl
    refine lv_aload_n hx hb d_X_best_0 rfl (lv_at hl 0 rfl) ?_
    refine lv_iload_n hx hb d_X_best_1 rfl (lv_at hl 1 rfl) ?_
    refine rV (n := 1) (rest := []) hx hb hml hown hA (c_isVariable l D q n P k a z lo hi B av al ah an pt fd i) wv_X_75 ⟨by decide, by decide, by decide +kernel⟩ ⟨rfl, rfl, by decide, by decide⟩ rfl hl.1 ⟨Nat.le_of_ble_eq_true rfl, Nat.le_of_ble_eq_true rfl⟩ hP hK hD hN 0 0 rfl rfl rfl (Nat.le_of_ble_eq_true rfl) d_X_best_2 (fun r hr9 => ?_)
    rcases zb_c hr9 with ⟨rfl, h2⟩ | ⟨rfl, h2⟩
    · skip
      refine lv_if_eq (tgt := 33) hx hb d_X_best_5 (by decide) (fun h => absurd h (by decide)) (fun _ => ?_)
      refine lv_aload_n hx hb d_X_best_8 rfl (lv_at hl 0 rfl) ?_
      refine lv_aload_n hx hb d_X_best_9 rfl (lv_at hl 0 rfl) ?_
      refine lv_iload_n hx hb d_X_best_10 rfl (lv_at hl 1 rfl) ?_
      refine lv_iload_n hx hb d_X_best_11 rfl (lv_at hl 2 rfl) ?_
      refine lv_if_eq (tgt := 19) hx hb d_X_best_12 (by decide) (fun _ => ?_) (fun h => absurd h (by decide))
      refine lv_iconst (v := 1) hx hb d_X_best_19 (by decide) ?_
      refine wVi (n := 2) (wr := []) (Wf := xW D q) (rest := [.ref (q 0)]) hx hb hml hown hA (c_search l D q n P k a z lo hi B av al ah an pt fd i 1 _ hn hP4 ha hav (iv_in h2 hn)) wv_X_116 ⟨by decide, by decide, by decide +kernel⟩ ⟨rfl, rfl, by decide, by decide⟩ rfl hl.1 ⟨Nat.le_of_ble_eq_true rfl, Nat.le_of_ble_eq_true rfl⟩ hP hK hD hS hAA hN [0, 1, 2, 3, 4, 5, 6, 7, 8, 9] [] rfl rfl (by decide) (by decide) (by decide) 0 0 rfl rfl rfl (Nat.le_of_ble_eq_true rfl) d_X_best_20 (fun r u H locs hu hP hD hS => ?_)
      obtain ⟨hr9, rfl⟩ := hu
      have hP : va_P D vwCl (xw D q n P k a z lo hi B av al ah an ((srF n P a lo hi B av al ah pt fd i 1).2.1) ((srF n P a lo hi B av al ah pt fd i 1).2.2)) H := hP
      have hD : va_D A (xw D q n P k a z lo hi B av al ah an ((srF n P a lo hi B av al ah pt fd i 1).2.1) ((srF n P a lo hi B av al ah pt fd i 1).2.2)) := hD
      rcases zb_cb hr9 with ⟨rfl, h20⟩ | ⟨rfl, h20⟩
      · skip
        refine wVi (n := 1) (wr := []) (Wf := xW D q) (rest := []) hx hb hml hown hA (c_keepAsAnswer l D q n P k a z lo hi B av al ah an ((srF n P a lo hi B av al ah pt fd i 1).2.1) ((srF n P a lo hi B av al ah pt fd i 1).2.2) 1 _ hn (by decide)) wv_X_119 ⟨by decide, by decide, by decide +kernel⟩ ⟨rfl, rfl, by decide, by decide⟩ rfl hl.1 ⟨Nat.le_of_ble_eq_true rfl, Nat.le_of_ble_eq_true rfl⟩ hP hK hD hS hAA hN [0, 1, 2, 3, 4, 5, 6, 7, 8, 9] [] rfl rfl (by decide) (by decide) (by decide) 0 0 rfl rfl rfl (Nat.le_of_ble_eq_true rfl) d_X_best_23 (fun r u H locs hu hP hD hS => ?_)
        obtain ⟨rfl, rfl⟩ := hu
        have hP : va_P D vwCl (xw D q n P k a 1 lo hi B av al ah (if (1 : Int32) = 0 then an else va_cpy ((srF n P a lo hi B av al ah pt fd i 1).2.2) an 0 0 n) ((srF n P a lo hi B av al ah pt fd i 1).2.1) ((srF n P a lo hi B av al ah pt fd i 1).2.2)) H := hP
        have hD : va_D A (xw D q n P k a 1 lo hi B av al ah (if (1 : Int32) = 0 then an else va_cpy ((srF n P a lo hi B av al ah pt fd i 1).2.2) an 0 0 n) ((srF n P a lo hi B av al ah pt fd i 1).2.1) ((srF n P a lo hi B av al ah pt fd i 1).2.2)) := hD
        refine lv_if_eq (tgt := 33) hx hb d_X_best_26 (by decide) (fun h => absurd h (by decide)) (fun _ => ?_)
        refine lv_iconst (v := 1) hx hb d_X_best_29 (by decide) ?_
        refine lv_goto (tgt := 34) hx hb d_X_best_30 (by decide) ?_
        exact eWz (n, P, k, a, 1, lo, hi, B, av, al, ah, if (1 : Int32) = 0 then an else va_cpy ((srF n P a lo hi B av al ah pt fd i 1).2.2) an 0 0 n, (srF n P a lo hi B av al ah pt fd i 1).2.1, (srF n P a lo hi B av al ah pt fd i 1).2.2) hx hb hr hlocks (by first | rfl | decide) hP hK hD hS (by first | exact Or.inl ⟨h2, rfl, rfl⟩ | exact Or.inr ⟨h2, by rw [h20]; exact ⟨rfl, rfl⟩⟩) d_X_best_34
      · skip
        refine wVi (n := 1) (wr := []) (Wf := xW D q) (rest := []) hx hb hml hown hA (c_keepAsAnswer l D q n P k a z lo hi B av al ah an ((srF n P a lo hi B av al ah pt fd i 1).2.1) ((srF n P a lo hi B av al ah pt fd i 1).2.2) 0 _ hn (by decide)) wv_X_119 ⟨by decide, by decide, by decide +kernel⟩ ⟨rfl, rfl, by decide, by decide⟩ rfl hl.1 ⟨Nat.le_of_ble_eq_true rfl, Nat.le_of_ble_eq_true rfl⟩ hP hK hD hS hAA hN [0, 1, 2, 3, 4, 5, 6, 7, 8, 9] [] rfl rfl (by decide) (by decide) (by decide) 0 0 rfl rfl rfl (Nat.le_of_ble_eq_true rfl) d_X_best_23 (fun r u H locs hu hP hD hS => ?_)
        obtain ⟨rfl, rfl⟩ := hu
        have hP : va_P D vwCl (xw D q n P k a 0 lo hi B av al ah (if (0 : Int32) = 0 then an else va_cpy ((srF n P a lo hi B av al ah pt fd i 1).2.2) an 0 0 n) ((srF n P a lo hi B av al ah pt fd i 1).2.1) ((srF n P a lo hi B av al ah pt fd i 1).2.2)) H := hP
        have hD : va_D A (xw D q n P k a 0 lo hi B av al ah (if (0 : Int32) = 0 then an else va_cpy ((srF n P a lo hi B av al ah pt fd i 1).2.2) an 0 0 n) ((srF n P a lo hi B av al ah pt fd i 1).2.1) ((srF n P a lo hi B av al ah pt fd i 1).2.2)) := hD
        refine lv_if_eq (tgt := 33) hx hb d_X_best_26 (by decide) (fun _ => ?_) (fun h => absurd h (by decide))
        refine lv_iconst (v := 0) hx hb d_X_best_33 (by decide) ?_
        exact eWz (n, P, k, a, 0, lo, hi, B, av, al, ah, if (0 : Int32) = 0 then an else va_cpy ((srF n P a lo hi B av al ah pt fd i 1).2.2) an 0 0 n, (srF n P a lo hi B av al ah pt fd i 1).2.1, (srF n P a lo hi B av al ah pt fd i 1).2.2) hx hb hr hlocks (by first | rfl | decide) hP hK hD hS (by first | exact Or.inl ⟨h2, rfl, rfl⟩ | exact Or.inr ⟨h2, by rw [h20]; exact ⟨rfl, rfl⟩⟩) d_X_best_34
    · skip
      refine lv_if_eq (tgt := 33) hx hb d_X_best_5 (by decide) (fun _ => ?_) (fun h => absurd h (by decide))
      refine lv_iconst (v := 0) hx hb d_X_best_33 (by decide) ?_
      exact eWz (n, P, k, a, z, lo, hi, B, av, al, ah, an, pt, fd) hx hb hr hlocks (by first | rfl | decide) hP hK hD hS (by first | exact Or.inl ⟨h2, rfl, rfl⟩ | exact Or.inr ⟨h2, by rw [h20]; exact ⟨rfl, rfl⟩⟩) d_X_best_34
  · skip
    have hl : lv_has ls 3 [(0, .ref (q 0)), (1, .int i), (2, .int 1)] := hl
    refine lv_aload_n hx hb d_X_best_0 rfl (lv_at hl 0 rfl) ?_
    refine lv_iload_n hx hb d_X_best_1 rfl (lv_at hl 1 rfl) ?_
    refine rV (n := 1) (rest := []) hx hb hml hown hA (c_isVariable l D q n P k a z lo hi B av al ah an pt fd i) wv_X_75 ⟨by decide, by decide, by decide +kernel⟩ ⟨rfl, rfl, by decide, by decide⟩ rfl hl.1 ⟨Nat.le_of_ble_eq_true rfl, Nat.le_of_ble_eq_true rfl⟩ hP hK hD hN 0 0 rfl rfl rfl (Nat.le_of_ble_eq_true rfl) d_X_best_2 (fun r hr9 => ?_)
    rcases zb_c hr9 with ⟨rfl, h2⟩ | ⟨rfl, h2⟩
    · skip
      refine lv_if_eq (tgt := 33) hx hb d_X_best_5 (by decide) (fun h => absurd h (by decide)) (fun _ => ?_)
      refine lv_aload_n hx hb d_X_best_8 rfl (lv_at hl 0 rfl) ?_
      refine lv_aload_n hx hb d_X_best_9 rfl (lv_at hl 0 rfl) ?_
      refine lv_iload_n hx hb d_X_best_10 rfl (lv_at hl 1 rfl) ?_
      refine lv_iload_n hx hb d_X_best_11 rfl (lv_at hl 2 rfl) ?_
      refine lv_if_eq (tgt := 19) hx hb d_X_best_12 (by decide) (fun h => absurd h (by decide)) (fun _ => ?_)
      refine lv_iconst (v := (-1)) hx hb d_X_best_15 (by decide) ?_
      refine lv_goto (tgt := 20) hx hb d_X_best_16 (by decide) ?_
      refine wVi (n := 2) (wr := []) (Wf := xW D q) (rest := [.ref (q 0)]) hx hb hml hown hA (c_search l D q n P k a z lo hi B av al ah an pt fd i (-1) _ hn hP4 ha hav (iv_in h2 hn)) wv_X_116 ⟨by decide, by decide, by decide +kernel⟩ ⟨rfl, rfl, by decide, by decide⟩ rfl hl.1 ⟨Nat.le_of_ble_eq_true rfl, Nat.le_of_ble_eq_true rfl⟩ hP hK hD hS hAA hN [0, 1, 2, 3, 4, 5, 6, 7, 8, 9] [] rfl rfl (by decide) (by decide) (by decide) 0 0 rfl rfl rfl (Nat.le_of_ble_eq_true rfl) d_X_best_20 (fun r u H locs hu hP hD hS => ?_)
      obtain ⟨hr9, rfl⟩ := hu
      have hP : va_P D vwCl (xw D q n P k a z lo hi B av al ah an ((srF n P a lo hi B av al ah pt fd i (-1)).2.1) ((srF n P a lo hi B av al ah pt fd i (-1)).2.2)) H := hP
      have hD : va_D A (xw D q n P k a z lo hi B av al ah an ((srF n P a lo hi B av al ah pt fd i (-1)).2.1) ((srF n P a lo hi B av al ah pt fd i (-1)).2.2)) := hD
      rcases zb_cb hr9 with ⟨rfl, h20⟩ | ⟨rfl, h20⟩
      · skip
        refine wVi (n := 1) (wr := []) (Wf := xW D q) (rest := []) hx hb hml hown hA (c_keepAsAnswer l D q n P k a z lo hi B av al ah an ((srF n P a lo hi B av al ah pt fd i (-1)).2.1) ((srF n P a lo hi B av al ah pt fd i (-1)).2.2) 1 _ hn (by decide)) wv_X_119 ⟨by decide, by decide, by decide +kernel⟩ ⟨rfl, rfl, by decide, by decide⟩ rfl hl.1 ⟨Nat.le_of_ble_eq_true rfl, Nat.le_of_ble_eq_true rfl⟩ hP hK hD hS hAA hN [0, 1, 2, 3, 4, 5, 6, 7, 8, 9] [] rfl rfl (by decide) (by decide) (by decide) 0 0 rfl rfl rfl (Nat.le_of_ble_eq_true rfl) d_X_best_23 (fun r u H locs hu hP hD hS => ?_)
        obtain ⟨rfl, rfl⟩ := hu
        have hP : va_P D vwCl (xw D q n P k a 1 lo hi B av al ah (if (1 : Int32) = 0 then an else va_cpy ((srF n P a lo hi B av al ah pt fd i (-1)).2.2) an 0 0 n) ((srF n P a lo hi B av al ah pt fd i (-1)).2.1) ((srF n P a lo hi B av al ah pt fd i (-1)).2.2)) H := hP
        have hD : va_D A (xw D q n P k a 1 lo hi B av al ah (if (1 : Int32) = 0 then an else va_cpy ((srF n P a lo hi B av al ah pt fd i (-1)).2.2) an 0 0 n) ((srF n P a lo hi B av al ah pt fd i (-1)).2.1) ((srF n P a lo hi B av al ah pt fd i (-1)).2.2)) := hD
        refine lv_if_eq (tgt := 33) hx hb d_X_best_26 (by decide) (fun h => absurd h (by decide)) (fun _ => ?_)
        refine lv_iconst (v := 1) hx hb d_X_best_29 (by decide) ?_
        refine lv_goto (tgt := 34) hx hb d_X_best_30 (by decide) ?_
        exact eWz (n, P, k, a, 1, lo, hi, B, av, al, ah, if (1 : Int32) = 0 then an else va_cpy ((srF n P a lo hi B av al ah pt fd i (-1)).2.2) an 0 0 n, (srF n P a lo hi B av al ah pt fd i (-1)).2.1, (srF n P a lo hi B av al ah pt fd i (-1)).2.2) hx hb hr hlocks (by first | rfl | decide) hP hK hD hS (by first | exact Or.inl ⟨h2, rfl, rfl⟩ | exact Or.inr ⟨h2, by rw [h20]; exact ⟨rfl, rfl⟩⟩) d_X_best_34
      · skip
        refine wVi (n := 1) (wr := []) (Wf := xW D q) (rest := []) hx hb hml hown hA (c_keepAsAnswer l D q n P k a z lo hi B av al ah an ((srF n P a lo hi B av al ah pt fd i (-1)).2.1) ((srF n P a lo hi B av al ah pt fd i (-1)).2.2) 0 _ hn (by decide)) wv_X_119 ⟨by decide, by decide, by decide +kernel⟩ ⟨rfl, rfl, by decide, by decide⟩ rfl hl.1 ⟨Nat.le_of_ble_eq_true rfl, Nat.le_of_ble_eq_true rfl⟩ hP hK hD hS hAA hN [0, 1, 2, 3, 4, 5, 6, 7, 8, 9] [] rfl rfl (by decide) (by decide) (by decide) 0 0 rfl rfl rfl (Nat.le_of_ble_eq_true rfl) d_X_best_23 (fun r u H locs hu hP hD hS => ?_)
        obtain ⟨rfl, rfl⟩ := hu
        have hP : va_P D vwCl (xw D q n P k a 0 lo hi B av al ah (if (0 : Int32) = 0 then an else va_cpy ((srF n P a lo hi B av al ah pt fd i (-1)).2.2) an 0 0 n) ((srF n P a lo hi B av al ah pt fd i (-1)).2.1) ((srF n P a lo hi B av al ah pt fd i (-1)).2.2)) H := hP
        have hD : va_D A (xw D q n P k a 0 lo hi B av al ah (if (0 : Int32) = 0 then an else va_cpy ((srF n P a lo hi B av al ah pt fd i (-1)).2.2) an 0 0 n) ((srF n P a lo hi B av al ah pt fd i (-1)).2.1) ((srF n P a lo hi B av al ah pt fd i (-1)).2.2)) := hD
        refine lv_if_eq (tgt := 33) hx hb d_X_best_26 (by decide) (fun _ => ?_) (fun h => absurd h (by decide))
        refine lv_iconst (v := 0) hx hb d_X_best_33 (by decide) ?_
        exact eWz (n, P, k, a, 0, lo, hi, B, av, al, ah, if (0 : Int32) = 0 then an else va_cpy ((srF n P a lo hi B av al ah pt fd i (-1)).2.2) an 0 0 n, (srF n P a lo hi B av al ah pt fd i (-1)).2.1, (srF n P a lo hi B av al ah pt fd i (-1)).2.2) hx hb hr hlocks (by first | rfl | decide) hP hK hD hS (by first | exact Or.inl ⟨h2, rfl, rfl⟩ | exact Or.inr ⟨h2, by rw [h20]; exact ⟨rfl, rfl⟩⟩) d_X_best_34
    · skip
      refine lv_if_eq (tgt := 33) hx hb d_X_best_5 (by decide) (fun _ => ?_) (fun h => absurd h (by decide))
      refine lv_iconst (v := 0) hx hb d_X_best_33 (by decide) ?_
      exact eWz (n, P, k, a, z, lo, hi, B, av, al, ah, an, pt, fd) hx hb hr hlocks (by first | rfl | decide) hP hK hD hS (by first | exact Or.inl ⟨h2, rfl, rfl⟩ | exact Or.inr ⟨h2, by rw [h20]; exact ⟨rfl, rfl⟩⟩) d_X_best_34
end
