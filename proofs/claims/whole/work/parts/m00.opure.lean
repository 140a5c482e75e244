section
-- the reference, as it works things out
abbrev wi3 (v a b : Int32) : Prop := ¬ v < a ∧ ¬ b < v
abbrev tm (i a : Int32) (x : Nat → Int32) : Int32 := if 0 ≤ i then a * x i.toNatClampNeg else 0
abbrev gst (m i : Int32) (x : Nat → Int32) : Int32 := if ¬ i < 0 ∧ ¬ x i.toNatClampNeg ≤ m then x i.toNatClampNeg else m
abbrev oLin (i a j b v c bd : Int32) (x : Nat → Int32) : Prop := ¬ bd < tm i a x + tm j b x + tm v c x
abbrev oMax (r i j v : Int32) (x : Nat → Int32) : Prop := x r.toNatClampNeg = gst (gst (x i.toNatClampNeg) j x) v x
abbrev oEle (r i : Int32) (tb : Int64) (x : Nat → Int32) : Prop := ¬ x i.toNatClampNeg < 0 ∧ x i.toNatClampNeg ≤ 7 ∧ x r.toNatClampNeg = (tb >>> ((8 * x i.toNatClampNeg).toInt64 &&& 63)).toInt32.toInt8.toInt32
abbrev oPr (st : Int32) (x : Nat → Int32) (i j : Nat) : Prop := ¬ (inS (nI i) st ∧ inS (nI j) st ∧ x i = x j)
abbrev oDif (n : Nat) (st : Int32) (x : Nat → Int32) : Prop := ∀ i, i < n → ∀ j, j < i → oPr st x i j
abbrev oNib (row : Int64) (i : Int32) : Int32 := ((row >>> ((4 * i).toInt64 &&& 63)) &&& 15).toInt32
def oNed (st : Int32) (w0 w1 : Int64) (mo : Int32) (x : Nat → Int32) : Nat → Nat → Int32 → Int32
  | 0, _, sm => sm
  | t + 1, i, sm => oNed st w0 w1 mo x t (i + 1) (if inS (nI i) st ∧ ¬ mo < x i ∧ ¬ x i + oNib w0 (nI i) ≤ mo then sm + oNib w1 (nI i) else sm)
abbrev oFi (n : Nat) (st cp : Int32) (w0 w1 : Int64) (x : Nat → Int32) (i : Nat) : Prop := (st >>> (nI i &&& 31)) &&& 1 = 0 ∨ ¬ cp < oNed st w0 w1 (x i) x n 0 0
abbrev oFit (n : Nat) (st cp : Int32) (w0 w1 : Int64) (x : Nat → Int32) : Prop := ∀ i, i < n → oFi n st cp w0 w1 x i
abbrev oPt (i v pa how : Int32) (x : Nat → Int32) : Prop := ¬ i < 0 ∧ if inS pa how then ¬ x i.toNatClampNeg < v else ¬ v < x i.toNatClampNeg
abbrev oAny (p : Nat → Int32) (x : Nat → Int32) : Prop := oPt (p 0) (p 1) (nI 0) (p 6) x ∨ oPt (p 2) (p 3) (nI 1) (p 6) x ∨ oPt (p 4) (p 5) (nI 2) (p 6) x
abbrev oRow (pa : Nat → Int32) (r : Nat) : Nat → Int32 := fun k => pa (7 * r + k)
def oSat (n : Nat) (kd : Int32) (p : Nat → Int32) (w0 w1 : Int64) (x : Nat → Int32) : Bool :=
  if kd = 0 then decide (oLin (p 0) (p 1) (p 2) (p 3) (p 4) (p 5) (p 6) x) else
  if kd = 1 then decide (kRei (p 0) (p 1) (p 2) (p 3) x) else
  if kd = 2 then decide (oMax (p 0) (p 1) (p 2) (p 3) x) else
  if kd = 3 then decide (oEle (p 0) (p 1) w0 x) else
  if kd = 4 then decide (oDif n (p 0) x) else
  if kd = 5 then decide (oFit n (p 0) (p 1) w0 w1 x) else decide (oAny p x)
abbrev bx (i : Int32) : Prop := ¬ i < 0 → vp_in i 8
/-- a row's numbers are such that nothing is read outside -/
def rowOk (kd : Int32) (p : Nat → Int32) : Prop :=
  (kd = 0 ∧ bx (p 0) ∧ bx (p 2) ∧ bx (p 4)) ∨ (kd = 1 ∧ vp_in (p 0) 8 ∧ vp_in (p 1) 8 ∧ vp_in (p 2) 8) ∨ (kd = 2 ∧ vp_in (p 0) 8 ∧ vp_in (p 1) 8 ∧ bx (p 2) ∧ bx (p 3)) ∨ (kd = 3 ∧ vp_in (p 0) 8 ∧ vp_in (p 1) 8) ∨ kd = 4 ∨ kd = 5 ∨ (kd = 6 ∧ bx (p 0) ∧ bx (p 2) ∧ bx (p 4))
abbrev oSr (n : Nat) (kd pa : Nat → Int32) (wd : Nat → Int64) (x : Nat → Int32) (r : Nat) : Bool := oSat n (kd r) (oRow pa r) (wd (2 * r)) (wd (2 * r + 1)) x
abbrev oAll (n rw a : Nat) (kd pa : Nat → Int32) (wd : Nat → Int64) (ao fo uo x : Nat → Int32) : Prop := asall a ao fo uo x ∧ ∀ r, r < rw → oSr n kd pa wd x r = true
abbrev vIn (lw s1 sd : Nat → Int32) (nm : Int32) (i : Nat) : Int32 := lw i + (nm / sd i - nm / sd i / s1 i * s1 i)
/-- what look() leaves: of each point whether all holds there -/
abbrev lkOk (n rw a : Nat) (lw s1 sd kd pa : Nat → Int32) (wd : Nat → Int64) (ao fo uo ho : Nat → Int32) (p : Nat) : Prop :=
  ∃ x : Nat → Int32, (∀ i, i < n → x i = vIn lw s1 sd (nI p) i) ∧ ho p = zb (decide (oAll n rw a kd pa wd ao fo uo x))
def exF (ho v : Nat → Int32) (mo : Int32) : Nat → Nat → Int32 → Int32
  | 0, _, fd => fd
  | t + 1, p, fd => exF ho v mo t (p + 1) (if ¬ ho p = 0 ∧ (fd = 1000 ∨ (if mo = 0 then ¬ fd ≤ v p else ¬ v p ≤ fd)) then v p else fd)
abbrev OS : Type := Nat × Nat × Nat × Nat × Int32 × Int32 × (Nat → Int32) × (Nat → Int32) × (Nat → Int32) × (Nat → Int32) × (Nat → Int32) × (Nat → Int64) × (Nat → Int32) × (Nat → Int32) × (Nat → Int32) × (Nat → Int32) × (Nat → Int32)
end
section
variable {p : Program} {l : Launch} {e : Env} {R : Room} {s : State} {m : MethodId} {args : Array Value} {below : List Frame} {meth : Method} {c : Code} {H : Heap} {locs : List Loc} {cells slots : Nat} {Q : State → Prop}
variable {pc : Nat} {ls : Array Slot} {rest st0 : List Value} {D : va_G} {ws wc wr : va_W} {cc : ByteArray} {own : String} {nL : Nat} {A : Nat → Prop} {H0 : Heap}
theorem xl_ald (hx : p.tables.exec = Jvm.exec) (hb : c.code = cc) (hK : va_K D vwCl (vT D) s) (hP : va_P D vwCl ws H) (q0 : Nat) {a N : Nat} {f : Nat → Int64} (ha : ws[q0]? = some (a, .inl (D.1 101, N, .inr (.inl f)))) {k : Nat} (hk : k < N) (hN : N < 2 ^ 31) (hdg : decode cc pc = .ok (.laload, 1))
    (kk : W p l e R s m args below meth c H locs cells slots Q (F0 m (pc + 1) ls (.long (f k) :: rest))) : W p l e R s m args below meth c H locs cells slots Q (F0 m pc ls (.int (nI k) :: .ref a :: rest)) :=
  va_lald hx hb hK hP q0 1 ha rfl (vp_in_nI hk hN) hdg (by rw [nI_clamp (Nat.lt_trans hk hN)]; exact kk)
theorem xl_ast (hx : p.tables.exec = Jvm.exec) (hb : c.code = cc) (hK : va_K D vwCl (vT D) s) (hP : va_P D vwCl ws H) (hD : va_D A ws) (hS : va_S A H0 H locs) (q0 : Nat) {a N : Nat} {f : Nat → Int64} (ha : ws[q0]? = some (a, .inl (D.1 101, N, .inr (.inl f)))) {k : Nat} {x : Int64} (hk : k < N) (hN : N < 2 ^ 31) (hdg : decode cc pc = .ok (.lastore, 1))
    (kk : ∀ (H1 : Heap) (locs1 : List Loc), va_P D vwCl (ws.set q0 (a, .inl (D.1 101, N, .inr (.inl (vp_updL f k x))))) H1 → va_D A (ws.set q0 (a, .inl (D.1 101, N, .inr (.inl (vp_updL f k x))))) → va_S A H0 H1 locs1 → W p l e R s m args below meth c H1 locs1 cells slots Q (F0 m (pc + 1) ls rest)) : W p l e R s m args below meth c H locs cells slots Q (F0 m pc ls (.long x :: .int (nI k) :: .ref a :: rest)) :=
  va_last hx hb hK hP hD hS q0 1 ha rfl (vp_in_nI hk hN) hdg (by rw [nI_clamp (Nat.lt_trans hk hN)]; exact kk)
theorem xz_ald (hx : p.tables.exec = Jvm.exec) (hb : c.code = cc) (hK : va_K D vwCl (vT D) s) (hP : va_P D vwCl ws H) (q0 : Nat) {a N : Nat} {f : Nat → Int32} (ha : ws[q0]? = some (a, .inl (D.1 102, N, .inl f))) {k : Nat} (hk : k < N) (hN : N < 2 ^ 31) (hdg : decode cc pc = .ok (.baload, 1))
    (kk : W p l e R s m args below meth c H locs cells slots Q (F0 m (pc + 1) ls (.int (f k) :: rest))) : W p l e R s m args below meth c H locs cells slots Q (F0 m pc ls (.int (nI k) :: .ref a :: rest)) :=
  va_zald hx hb hK hP q0 2 ha rfl (vp_in_nI hk hN) hdg (by rw [nI_clamp (Nat.lt_trans hk hN)]; exact kk)
theorem nar_zb (b : Bool) : vp_nar .boolean (zb b) = zb b := by cases b <;> first | rfl | decide
theorem xz_ast (hx : p.tables.exec = Jvm.exec) (hb : c.code = cc) (hK : va_K D vwCl (vT D) s) (hP : va_P D vwCl ws H) (hD : va_D A ws) (hS : va_S A H0 H locs) (q0 : Nat) {a N : Nat} {f : Nat → Int32} (ha : ws[q0]? = some (a, .inl (D.1 102, N, .inl f))) {k : Nat} {x : Int32} (hxn : vp_nar .boolean x = x) (hk : k < N) (hN : N < 2 ^ 31) (hdg : decode cc pc = .ok (.bastore, 1))
    (kk : ∀ (H1 : Heap) (locs1 : List Loc), va_P D vwCl (ws.set q0 (a, .inl (D.1 102, N, .inl (upd f k x)))) H1 → va_D A (ws.set q0 (a, .inl (D.1 102, N, .inl (upd f k x)))) → va_S A H0 H1 locs1 → W p l e R s m args below meth c H1 locs1 cells slots Q (F0 m (pc + 1) ls rest)) : W p l e R s m args below meth c H locs cells slots Q (F0 m pc ls (.int x :: .int (nI k) :: .ref a :: rest)) :=
  va_zast hx hb hK hP hD hS q0 2 ha rfl (vp_in_nI hk hN) hdg (by rw [nI_clamp (Nat.lt_trans hk hN), hxn]; exact kk)
theorem xl_new {N : Nat} {v : Int32} (hx : p.tables.exec = Jvm.exec) (hb : c.code = cc) (harr : (Cond.arrayClass .long).before args s = true) (hK : va_K D vwCl (vT D) s) (hP : va_P D vwCl ws H) (hD : va_D A ws) (hS : va_S A H0 H locs) (hA : ∀ q, H0.size ≤ q → A q)
    (hv : ¬ v < 0) (hN : v.toNatClampNeg = N) (hbytes : N * componentBytes .long ≤ 536870912) (hcells : cells + 1 ≤ R.cells) (hslots : slots + N ≤ R.slots) (hdg : decode cc pc = .ok (.newarray .long, 2))
    (kk : ∀ (q : Nat) (H1 : Heap), va_P D vwCl (ws ++ [(q, .inl (D.1 101, N, .inr (.inl (fun _ => 0))))]) H1 → va_D A (ws ++ [(q, .inl (D.1 101, N, .inr (.inl (fun _ => 0))))]) → va_S A H0 H1 locs → W p l e R s m args below meth c H1 locs (cells + 1) (slots + N) Q (F0 m (pc + 2) ls (.ref q :: rest))) : W p l e R s m args below meth c H locs cells slots Q (F0 m pc ls (.int v :: rest)) := by
  refine va_newa (atype := .long) hx hb harr rfl hK hP hD hS hA (a0 := (N, .inr (.inl (fun _ => 0)))) (fun _ => rfl) hv hN hbytes hcells hslots hdg ?_
  intro q cA H1 hK1 hP1 hD1 hS1
  have e1 := (hK.2 1 (D.1 101, .long) rfl).2
  have e2 := (hK1.2 3 (cA, .long) rfl).2
  have e : cA = D.1 101 := Option.some.inj (Eq.trans (Eq.symm e2) e1)
  subst e
  exact kk q H1 hP1 hD1 hS1
theorem xz_new {N : Nat} {v : Int32} (hx : p.tables.exec = Jvm.exec) (hb : c.code = cc) (harr : (Cond.arrayClass .boolean).before args s = true) (hK : va_K D vwCl (vT D) s) (hP : va_P D vwCl ws H) (hD : va_D A ws) (hS : va_S A H0 H locs) (hA : ∀ q, H0.size ≤ q → A q)
    (hv : ¬ v < 0) (hN : v.toNatClampNeg = N) (hbytes : N * componentBytes .boolean ≤ 536870912) (hcells : cells + 1 ≤ R.cells) (hslots : slots + N ≤ R.slots) (hdg : decode cc pc = .ok (.newarray .boolean, 2))
    (kk : ∀ (q : Nat) (H1 : Heap), va_P D vwCl (ws ++ [(q, .inl (D.1 102, N, .inl (fun _ => 0)))]) H1 → va_D A (ws ++ [(q, .inl (D.1 102, N, .inl (fun _ => 0)))]) → va_S A H0 H1 locs → W p l e R s m args below meth c H1 locs (cells + 1) (slots + N) Q (F0 m (pc + 2) ls (.ref q :: rest))) : W p l e R s m args below meth c H locs cells slots Q (F0 m pc ls (.int v :: rest)) := by
  refine va_newa (atype := .boolean) hx hb harr rfl hK hP hD hS hA (a0 := (N, .inl (fun _ => 0))) (fun _ => rfl) hv hN hbytes hcells hslots hdg ?_
  intro q cA H1 hK1 hP1 hD1 hS1
  have e1 := (hK.2 2 (D.1 102, .boolean) rfl).2
  have e2 := (hK1.2 3 (cA, .boolean) rfl).2
  have e : cA = D.1 102 := Option.some.inj (Eq.trans (Eq.symm e2) e1)
  subst e
  exact kk q H1 hP1 hD1 hS1
end
section
abbrev ow (D : va_G) (q : Nat → Nat) (n P rw a : Nat) (kn an : Int32) (lw s1 sd kd pa : Nat → Int32) (wd : Nat → Int64) (ao fo uo ho xo : Nat → Int32) : va_W := [(q 0, .inr (1, [.int (nI n), .ref (q 1), .ref (q 2), .ref (q 3), .int (nI P), .int (nI rw), .ref (q 4), .ref (q 5), .ref (q 6), .int (nI a), .ref (q 7), .ref (q 8), .ref (q 9), .int (kn), .ref (q 10), .int (an), .ref (q 11)])), (q 1, .inl (D.1 100, 8, .inl lw)), (q 2, .inl (D.1 100, 8, .inl s1)), (q 3, .inl (D.1 100, 8, .inl sd)), (q 4, .inl (D.1 100, 12, .inl kd)), (q 5, .inl (D.1 100, 84, .inl pa)), (q 6, .inl (D.1 101, 24, .inr (.inl wd))), (q 7, .inl (D.1 100, 8, .inl ao)), (q 8, .inl (D.1 100, 8, .inl fo)), (q 9, .inl (D.1 100, 8, .inl uo)), (q 10, .inl (D.1 102, 4096, .inl ho)), (q 11, .inl (D.1 100, 8, .inl xo))]
abbrev oW (D : va_G) (q : Nat → Nat) (u : OS) : va_W := ow D q (u.1) (u.2.1) (u.2.2.1) (u.2.2.2.1) (u.2.2.2.2.1) (u.2.2.2.2.2.1) (u.2.2.2.2.2.2.1) (u.2.2.2.2.2.2.2.1) (u.2.2.2.2.2.2.2.2.1) (u.2.2.2.2.2.2.2.2.2.1) (u.2.2.2.2.2.2.2.2.2.2.1) (u.2.2.2.2.2.2.2.2.2.2.2.1) (u.2.2.2.2.2.2.2.2.2.2.2.2.1) (u.2.2.2.2.2.2.2.2.2.2.2.2.2.1) (u.2.2.2.2.2.2.2.2.2.2.2.2.2.2.1) (u.2.2.2.2.2.2.2.2.2.2.2.2.2.2.2.1) (u.2.2.2.2.2.2.2.2.2.2.2.2.2.2.2.2)
end
