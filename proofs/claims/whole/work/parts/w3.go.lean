section
theorem lw_D {args : Array Value} {s : State} (hA : ∀ w ∈ cA, w.before args s = true) : ∃ D : va_G, va_K D vwCl (vT D) s := by
  obtain ⟨c0, i0, k0⟩ := u_known hA inA_X (hA _ wd_15)
  obtain ⟨c1, i1, k1⟩ := u_known hA inA_O (hA _ wd_417)
  obtain ⟨c2, i2, k2⟩ := u_known hA inA_L (hA _ wd_97)
  obtain ⟨c3, i3, k3⟩ := u_known hA inA_R (hA _ wd_217)
  obtain ⟨c4, i4, k4⟩ := u_known hA inA_M (hA _ wd_240)
  obtain ⟨c5, i5, k5⟩ := u_known hA inA_E (hA _ wd_263)
  obtain ⟨c6, i6, k6⟩ := u_known hA inA_D (hA _ wd_287)
  obtain ⟨c7, i7, k7⟩ := u_known hA inA_U (hA _ wd_166)
  obtain ⟨c8, i8, k8⟩ := u_known hA inA_C (hA _ wd_151)
  obtain ⟨a0, kA0, comp0, p0, r0, t0⟩ := Cond.arrayClass_spec (hA _ wd_68)
  obtain ⟨a1, kA1, comp1, p1, r1, t1⟩ := Cond.arrayClass_spec (hA _ wd_474)
  obtain ⟨a2, kA2, comp2, p2, r2, t2⟩ := Cond.arrayClass_spec (hA _ wd_475)
  refine ⟨(fun k => match k with | 0 => c0 | 1 => c1 | 2 => c2 | 3 => c3 | 4 => c4 | 5 => c5 | 6 => c6 | 7 => c7 | 8 => c8 | 100 => a0 | 101 => a1 | _ => a2, fun k => match k with | 0 => i0 | 1 => i1 | 2 => i2 | 3 => i3 | 4 => i4 | 5 => i5 | 6 => i6 | 7 => i7 | _ => i8), fun c q h => ?_, fun k q h => ?_⟩
  · have hc : c < 9 := (List.getElem?_eq_some_iff.mp h).1
    rcases (show c = 0 ∨ c = 1 ∨ c = 2 ∨ c = 3 ∨ c = 4 ∨ c = 5 ∨ c = 6 ∨ c = 7 ∨ c = 8 by omega) with rfl | rfl | rfl | rfl | rfl | rfl | rfl | rfl | rfl <;> cases h
    · exact k0
    · exact k1
    · exact k2
    · exact k3
    · exact k4
    · exact k5
    · exact k6
    · exact k7
    · exact k8
  · have hk : k < 3 := (List.getElem?_eq_some_iff.mp h).1
    rcases (show k = 0 ∨ k = 1 ∨ k = 2 by omega) with rfl | rfl | rfl <;> cases h
    · exact ⟨fun n z => ⟨fun k h => (by cases h), kA0, r0, comp0, t0⟩, p0⟩
    · exact ⟨fun n z => ⟨fun k h => (by cases h), kA1, r1, comp1, t1⟩, p1⟩
    · exact ⟨fun n z => ⟨fun k h => (by cases h), kA2, r2, comp2, t2⟩, p2⟩
theorem lw_I0 {B pt fd xo : Nat → Int32} (hB : ∀ j, j < 4096 → B j = 12) : IU (0, 1, 0, 0, 0, (fun _ => 0), (fun _ => 0), B, (fun _ => 0), (fun _ => 0), (fun _ => 0), (fun _ => 0), pt, fd) (0, 1, 0, 0, 0, -1, (fun _ => 0), (fun _ => 0), (fun _ => 0), (fun _ => 0), (fun _ => 0), (fun _ => 0), (fun _ => 0), (fun _ => 0), (fun _ => 0), (fun _ => 0), xo) :=
  IU.of (sz := fun _ => 1) (K := fun _ _ => true) ⟨⟨by omega, by omega, by omega, by omega, rfl, fun _ h => absurd h (by omega)⟩, fun _ h => absurd h (by omega), fun _ h => absurd h (by omega), fun p h => hB p (by omega), fun _ h => absurd h (by omega), lk_no, Or.inl ⟨rfl, by decide⟩⟩

theorem wv_W_9 : Cond.code y_X_init b_X_init 1 none ∈ cA ∧ Cond.initialized y_X_init.cls ∈ cA ∧ Cond.methodLink R_W 9 y_X_init ∈ cA ∧ Cond.instanceMethod y_X_init ∈ cA := ⟨wd_18, wd_1, wd_16, wd_17⟩
theorem wv_W_12 : Cond.code y_O_init b_O_init 1 none ∈ cA ∧ Cond.initialized y_O_init.cls ∈ cA ∧ Cond.methodLink R_W 12 y_O_init ∈ cA ∧ Cond.instanceMethod y_O_init ∈ cA := ⟨wd_420, wd_3, wd_418, wd_419⟩
set_option maxRecDepth 100000 in
theorem lw_go {p : Program} {e : Env} {s : State} {m : MethodId} {below : List Frame} {meth : Method} {c : Code} (l : Launch) {b L : Nat} {xs : Nat → Int32} {D : va_G} (hx : p.tables.exec = Jvm.exec) (hb : c.code = code) (hml : c.maxLocals = 4) (hown : s.vm.findClass R_W = some m.cls) (hA : ∀ w ∈ cA, w.before #[Value.ref b] s = true) (hN : xN s) (hK : va_K D vwCl (vT D) s) (hX : va_X b L xs s s.heap) (hbl : b < s.heap.size) (hr : meth.sig.returnType = ret) (hlocks : meth.locks = false) (hL : L ≤ 4096) {ls : Array Slot} (hl : lv_has ls 4 [(0, .ref b)]) : W p l e room_1 s m #[Value.ref b] below meth c s.heap [] 0 0 (lw_Z below #[Value.ref b] s) (F0 m 0 ls []) := by
  have hAA : ∀ q, s.heap.size ≤ q → AL s q := fun _ h => h
  have hP : va_P D vwCl [] s.heap := fun k q h => by cases h
  have hD : va_D (AL s) [] := ⟨fun i j p q h => (by cases h), fun k q h => (by cases h)⟩
  have hS : va_S (AL s) s.heap s.heap [] := va_S.rf
  refine va_new (ci := 0) (fs := [.null, .null, .int 0, .null, .int 0, .int 0, .null, .null, .null, .int 0, .null, .int 0, .null, .null]) (C := R_X) (T := T_X) (N := 14) hx hb hA inA_X ty_X tok_X hown (hA _ wd_14) (hA _ wd_15) (hA _ wd_1) hK hP hD hS hAA rfl dz_X (by decide) (by decide) d_W_law_0 (fun o1 H hP hD hS => ?_)
  have hP : va_P D vwCl [(o1, .inr (0, [.null, .null, .int 0, .null, .int 0, .int 0, .null, .null, .null, .int 0, .null, .int 0, .null, .null]))] H := hP
  have hD : va_D (AL s) [(o1, .inr (0, [.null, .null, .int 0, .null, .int 0, .int 0, .null, .null, .null, .int 0, .null, .int 0, .null, .null]))] := hD
  refine lv_dup hx hb d_W_law_3 rfl ?_
  refine wI (n := 0) (wr := []) (Wf := xC D) (rest := [.ref o1]) hx hb hml hown hA (c_X_init l D o1 _) wv_W_9 rfl ⟨by decide, by decide, by decide +kernel⟩ ⟨rfl, rfl, by decide, by decide⟩ rfl hl.1 ⟨by decide, by decide⟩ hP hK hD hS hAA hN [0] [] rfl rfl (by decide) (by decide) (by decide) rfl (Nat.le_of_ble_eq_true rfl) d_W_law_4 (fun u H locs hu hP hD hS => ?_)
  obtain ⟨qx, B⟩ := u
  obtain ⟨hq, hB⟩ := hu
  have hq : qx 0 = o1 := hq
  have hB : ∀ j, j < 4096 → B j = 12 := hB
  have hP2 : va_P D vwCl (xC D (qx, B)) H := hP
  have hD2 : va_D (AL s) (xC D (qx, B)) := hD
  clear hP hD
  subst hq
  refine lv_astore_n hx hb d_W_law_7 rfl hl (by decide) rfl (fun ls hl => ?_)
  have hl : lv_has ls 4 [(1, .ref (qx 0)), (0, .ref b)] := hl
  refine va_new (ci := 1) (fs := [.int 0, .null, .null, .null, .int 0, .int 0, .null, .null, .null, .int 0, .null, .null, .null, .int 0, .null, .int 0, .null]) (C := R_O) (T := T_O) (N := 17) hx hb hA inA_O ty_O tok_O hown (hA _ wd_416) (hA _ wd_417) (hA _ wd_3) hK hP2 hD2 hS hAA rfl dz_O (by decide) (by decide) d_W_law_8 (fun o2 H hP hD hS => ?_)
  refine lv_dup hx hb d_W_law_11 rfl ?_
  refine wI (n := 0) (wr := xC D (qx, B)) (Wf := oC D) (rest := [.ref o2]) hx hb hml hown hA (o_init l D o2 _) wv_W_12 rfl ⟨by decide, by decide, by decide +kernel⟩ ⟨rfl, rfl, by decide, by decide⟩ rfl hl.1 ⟨by decide, by decide⟩ hP hK hD hS hAA hN [10] [0, 1, 2, 3, 4, 5, 6, 7, 8, 9] rfl rfl (by decide) (by decide) (by decide) rfl (Nat.le_of_ble_eq_true rfl) d_W_law_12 (fun qo H locs hq hP hD hS => ?_)
  have hq : qo 0 = o2 := hq
  have hP3 : va_P D vwCl (xC D (qx, B) ++ oC D qo) H := hP
  have hD3 : va_D (AL s) (xC D (qx, B) ++ oC D qo) := hD
  have hS3 : va_S (AL s) s.heap H locs := hS
  clear hP hD hS
  subst hq
  refine lv_astore_n hx hb d_W_law_15 rfl hl (by decide) rfl (fun ls hl => ?_)
  refine lv_iconst (v := 0) hx hb d_W_law_16 (by decide) ?_
  refine lv_istore_n hx hb d_W_law_17 rfl hl (by decide) rfl (fun ls hl => ?_)
  have hl : lv_has ls 4 [(3, .int (nI (8 * 0))), (2, .ref (qo 0)), (1, .ref (qx 0)), (0, .ref b)] := hl
  exact lw_loop l hx hb hml hown hA hN hK hX hbl hr hlocks hL (L / 8) 0 _ _ H locs ls _ _ (by omega) (by omega) (lw_I0 (pt := (fun _ => 0)) (fd := (fun _ => 0)) (xo := (fun _ => 0)) hB) (by omega) (by omega) hl hP3 hD3 hS3
end
