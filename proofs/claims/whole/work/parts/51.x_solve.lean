section
set_option maxRecDepth 100000 in
set_option maxHeartbeats 4000000 in
theorem c_solve (l : Launch) (D : va_G) (q : Nat → Nat) (n P k a : Nat) (z : Int32) (lo hi B av al ah an pt fd : Nat → Int32) (sz : Nat) (hn : n ≤ 8) (hP4 : P ≤ 4096) (ha : a ≤ 8) (hav : ∀ m, m < a → vp_in (av m) 8) : Met l y_X_solve (wsm y_X_solve b_X_solve 1 (some .boolean)) { frames := 3, cells := 0, slots := 0, locals := 63 } (va_Pc [.ref (q 0)] (fun U => U.heap.size = sz ∧ cPre D (xw D q n P k a z lo hi B av al ah an pt fd) U)) (va_Qi (fun (r : Int32) (u : XS) => r = zb (srF n P a lo hi B av al ah pt fd 0 0).1 ∧ u = (n, P, k, a, zb (srF n P a lo hi B av al ah pt fd 0 0).1, lo, hi, B, av, al, ah, if (srF n P a lo hi B av al ah pt fd 0 0).1 = true then va_cpy (srF n P a lo hi B av al ah pt fd 0 0).2.2 an 0 0 n else an, (srF n P a lo hi B av al ah pt fd 0 0).2.1, (srF n P a lo hi B av al ah pt fd 0 0).2.2)) (fun u t => xB D (xW D q u) (va_A (xw D q n P k a z lo hi B av al ah an pt fd) sz) t) (va_A (xw D q n P k a z lo hi B av al ah an pt fd) sz)) 0 0 (va_A (xw D q n P k a z lo hi B av al ah an pt fd) sz) := by
  refine met_W (Qf := fun A => va_Qi (fun (r : Int32) (u : XS) => r = zb (srF n P a lo hi B av al ah pt fd 0 0).1 ∧ u = (n, P, k, a, zb (srF n P a lo hi B av al ah pt fd 0 0).1, lo, hi, B, av, al, ah, if (srF n P a lo hi B av al ah pt fd 0 0).1 = true then va_cpy (srF n P a lo hi B av al ah pt fd 0 0).2.2 an 0 0 n else an, (srF n P a lo hi B av al ah pt fd 0 0).2.1, (srF n P a lo hi B av al ah pt fd 0 0).2.2)) (fun u t => xB D (xW D q u) A t) A) (by decide) (Nat.le_of_ble_eq_true rfl) ?_
  intro p e s m below meth c ls A hx hb hr hlocks hml hown hin hA hP hK hD hN hl hS hAA
  have hown : s.vm.findClass R_X = some m.cls := hown
  have hl : lv_has ls 1 [(0, .ref (q 0))] := hl
  refine lv_aload_n hx hb d_X_solve_0 rfl (lv_at hl 0 rfl) ?_
  refine lv_aload_n hx hb d_X_solve_1 rfl (lv_at hl 0 rfl) ?_
  refine lv_iconst (v := 0) hx hb d_X_solve_2 (by decide) ?_
  refine lv_iconst (v := 0) hx hb d_X_solve_3 (by decide) ?_
  refine wVi (n := 2) (wr := []) (Wf := xW D q) (rest := [.ref (q 0)]) hx hb hml hown hA (c_search l D q n P k a z lo hi B av al ah an pt fd 0 0 _ hn hP4 ha hav (vp_in_nI (n := 0) (N := 8) (by decide) (by decide))) wv_X_116 ⟨by decide, by decide, by decide +kernel⟩ ⟨rfl, rfl, by decide, by decide⟩ rfl hl.1 ⟨Nat.le_of_ble_eq_true rfl, Nat.le_of_ble_eq_true rfl⟩ hP hK hD hS hAA hN [0, 1, 2, 3, 4, 5, 6, 7, 8, 9] [] rfl rfl (by decide) (by decide) (by decide) 0 0 rfl rfl rfl (Nat.le_of_ble_eq_true rfl) d_X_solve_4 (fun r u H locs hu hP hD hS => ?_)
  obtain ⟨hr9, rfl⟩ := hu
  have hP : va_P D vwCl (xw D q n P k a z lo hi B av al ah an ((srF n P a lo hi B av al ah pt fd 0 0).2.1) ((srF n P a lo hi B av al ah pt fd 0 0).2.2)) H := hP
  have hD : va_D A (xw D q n P k a z lo hi B av al ah an ((srF n P a lo hi B av al ah pt fd 0 0).2.1) ((srF n P a lo hi B av al ah pt fd 0 0).2.2)) := hD
  rcases zb_cb hr9 with ⟨rfl, h4⟩ | ⟨rfl, h4⟩
  · skip
    refine wVi (n := 1) (wr := []) (Wf := xW D q) (rest := []) hx hb hml hown hA (c_keepAsAnswer l D q n P k a z lo hi B av al ah an ((srF n P a lo hi B av al ah pt fd 0 0).2.1) ((srF n P a lo hi B av al ah pt fd 0 0).2.2) 1 _ hn (by decide)) wv_X_119 ⟨by decide, by decide, by decide +kernel⟩ ⟨rfl, rfl, by decide, by decide⟩ rfl hl.1 ⟨Nat.le_of_ble_eq_true rfl, Nat.le_of_ble_eq_true rfl⟩ hP hK hD hS hAA hN [0, 1, 2, 3, 4, 5, 6, 7, 8, 9] [] rfl rfl (by decide) (by decide) (by decide) 0 0 rfl rfl rfl (Nat.le_of_ble_eq_true rfl) d_X_solve_7 (fun r u H locs hu hP hD hS => ?_)
    obtain ⟨rfl, rfl⟩ := hu
    have hP : va_P D vwCl (xw D q n P k a 1 lo hi B av al ah (if (1 : Int32) = 0 then an else va_cpy ((srF n P a lo hi B av al ah pt fd 0 0).2.2) an 0 0 n) ((srF n P a lo hi B av al ah pt fd 0 0).2.1) ((srF n P a lo hi B av al ah pt fd 0 0).2.2)) H := hP
    have hD : va_D A (xw D q n P k a 1 lo hi B av al ah (if (1 : Int32) = 0 then an else va_cpy ((srF n P a lo hi B av al ah pt fd 0 0).2.2) an 0 0 n) ((srF n P a lo hi B av al ah pt fd 0 0).2.1) ((srF n P a lo hi B av al ah pt fd 0 0).2.2)) := hD
    exact eWz (n, P, k, a, 1, lo, hi, B, av, al, ah, if (1 : Int32) = 0 then an else va_cpy ((srF n P a lo hi B av al ah pt fd 0 0).2.2) an 0 0 n, (srF n P a lo hi B av al ah pt fd 0 0).2.1, (srF n P a lo hi B av al ah pt fd 0 0).2.2) hx hb hr hlocks (by first | rfl | decide) hP hK hD hS (by rw [h4]; exact ⟨rfl, rfl⟩) d_X_solve_10
  · skip
    refine wVi (n := 1) (wr := []) (Wf := xW D q) (rest := []) hx hb hml hown hA (c_keepAsAnswer l D q n P k a z lo hi B av al ah an ((srF n P a lo hi B av al ah pt fd 0 0).2.1) ((srF n P a lo hi B av al ah pt fd 0 0).2.2) 0 _ hn (by decide)) wv_X_119 ⟨by decide, by decide, by decide +kernel⟩ ⟨rfl, rfl, by decide, by decide⟩ rfl hl.1 ⟨Nat.le_of_ble_eq_true rfl, Nat.le_of_ble_eq_true rfl⟩ hP hK hD hS hAA hN [0, 1, 2, 3, 4, 5, 6, 7, 8, 9] [] rfl rfl (by decide) (by decide) (by decide) 0 0 rfl rfl rfl (Nat.le_of_ble_eq_true rfl) d_X_solve_7 (fun r u H locs hu hP hD hS => ?_)
    obtain ⟨rfl, rfl⟩ := hu
    have hP : va_P D vwCl (xw D q n P k a 0 lo hi B av al ah (if (0 : Int32) = 0 then an else va_cpy ((srF n P a lo hi B av al ah pt fd 0 0).2.2) an 0 0 n) ((srF n P a lo hi B av al ah pt fd 0 0).2.1) ((srF n P a lo hi B av al ah pt fd 0 0).2.2)) H := hP
    have hD : va_D A (xw D q n P k a 0 lo hi B av al ah (if (0 : Int32) = 0 then an else va_cpy ((srF n P a lo hi B av al ah pt fd 0 0).2.2) an 0 0 n) ((srF n P a lo hi B av al ah pt fd 0 0).2.1) ((srF n P a lo hi B av al ah pt fd 0 0).2.2)) := hD
    exact eWz (n, P, k, a, 0, lo, hi, B, av, al, ah, if (0 : Int32) = 0 then an else va_cpy ((srF n P a lo hi B av al ah pt fd 0 0).2.2) an 0 0 n, (srF n P a lo hi B av al ah pt fd 0 0).2.1, (srF n P a lo hi B av al ah pt fd 0 0).2.2) hx hb hr hlocks (by first | rfl | decide) hP hK hD hS (by rw [h4]; exact ⟨rfl, rfl⟩) d_X_solve_10
end
