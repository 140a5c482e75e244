section
theorem xN.same {u U : State} (h : u.vm = U.vm) (hN : xN u) : xN U := xN_same h hN
/-- what a method takes for granted of its cells -/
def cPre (D : va_G) (Wd : va_W) (U : State) : Prop := va_P D vwCl Wd U.heap ∧ va_K D vwCl (vT D) U ∧ va_D (fun _ => True) Wd ∧ xN U
/-- what it leaves -/
def xB (D : va_G) (Wd : va_W) (A : Nat → Prop) (t : State) : Prop := va_P D vwCl Wd t.heap ∧ va_K D vwCl (vT D) t ∧ va_D A Wd
theorem va_P.sub1 {D : va_G} {ws wc : va_W} {H : Heap} (hP : va_P D vwCl ws H) (is : List Nat) (hs : is.map (fun i => ws[i]?) = wc.map some) : va_P D vwCl wc H := by
  intro k q hk
  have h1 : (wc.map some)[k]? = some (some q) := by rw [List.getElem?_map, hk]; rfl
  rw [← hs, List.getElem?_map] at h1
  cases hi : is[k]? with
  | none => rw [hi] at h1; cases h1
  | some i =>
    rw [hi] at h1
    exact hP i q (Option.some.inj h1)
theorem met_R {l : Launch} {y : MethodName} {b : ByteArray} {n : Nat} {r : Option FieldType} {rm : Room} {av : List Value} {D : va_G} {Wd : va_W} {Qc : Array Value → State → Outcome → State → Prop} {mc ms : Nat} {free : Nat → Prop}
    (hy : plainName y.cls = true) (hn : (lg_sl av).length ≤ n)
    (body : ∀ (p : Program) (e : Env) (s : State) (m : MethodId) (below : List Frame) (meth : Method) (c : Code) (ls : Array Slot), p.tables.exec = Jvm.exec → c.code = b → meth.sig.returnType = r → meth.locks = false → c.maxLocals = n → s.vm.findClass y.cls = some m.cls → meth.name = y.name → (∀ w ∈ cA, w.before av.toArray s = true) → va_P D vwCl Wd s.heap → va_K D vwCl (vT D) s → va_D (fun _ => True) Wd → xN s → lv_has ls n (lv_args 0 av) →
      W p l e rm s m av.toArray below meth c s.heap [] 0 0 (MQ below Qc av.toArray s mc ms free) (F0 m 0 ls [])) :
    Met l y (wsm y b n r) rm (va_Pc av (cPre D Wd)) Qc mc ms free := by
  refine Met.ofW (cc := b) (maxL := n) (ret := r) hy rfl ?_
  intro p e s m args below meth c s₁ B hml hv
  obtain ⟨rfl, hP, hK, hD, hN⟩ := hv
  have hts := atoms_spec (ws := wsm y b n r) B.pre
  have hl := lv_entry av (n := n) hn
  rw [lg_entry_eq]
  generalize (lg_sl av ++ List.replicate (n - (lg_sl av).length) Slot.unset).toArray = ls at hl ⊢
  exact body p e s m below meth c ls B.exec B.bytes B.returns B.notSynchronized hml (findClass_of_methodNamed B.named) (name_of_methodNamed B.named B.method).1 (fun w h => hts w (List.mem_cons_of_mem _ h)) hP hK hD hN hl
theorem met_W {l : Launch} {y : MethodName} {b : ByteArray} {n : Nat} {r : Option FieldType} {rm : Room} {av : List Value} {D : va_G} {Wd : va_W} {Qf : (Nat → Prop) → Array Value → State → Outcome → State → Prop} {mc ms sz : Nat}
    (hy : plainName y.cls = true) (hn : (lg_sl av).length ≤ n)
    (body : ∀ (p : Program) (e : Env) (s : State) (m : MethodId) (below : List Frame) (meth : Method) (c : Code) (ls : Array Slot) (A : Nat → Prop), p.tables.exec = Jvm.exec → c.code = b → meth.sig.returnType = r → meth.locks = false → c.maxLocals = n → s.vm.findClass y.cls = some m.cls → meth.name = y.name → (∀ w ∈ cA, w.before av.toArray s = true) → va_P D vwCl Wd s.heap → va_K D vwCl (vT D) s → va_D A Wd → xN s → lv_has ls n (lv_args 0 av) → va_S A s.heap s.heap [] → (∀ q, s.heap.size ≤ q → A q) →
      W p l e rm s m av.toArray below meth c s.heap [] 0 0 (MQ below (Qf A) av.toArray s mc ms A) (F0 m 0 ls [])) :
    Met l y (wsm y b n r) rm (va_Pc av (fun U => U.heap.size = sz ∧ cPre D Wd U)) (Qf (va_A Wd sz)) mc ms (va_A Wd sz) := by
  refine Met.ofW (cc := b) (maxL := n) (ret := r) hy rfl ?_
  intro p e s m args below meth c s₁ B hml hv
  obtain ⟨rfl, hsz, hP, hK, hD, hN⟩ := hv
  subst hsz
  have hts := atoms_spec (ws := wsm y b n r) B.pre
  have hl := lv_entry av (n := n) hn
  rw [lg_entry_eq]
  generalize (lg_sl av ++ List.replicate (n - (lg_sl av).length) Slot.unset).toArray = ls at hl ⊢
  exact body p e s m below meth c ls (va_A Wd s.heap.size) B.exec B.bytes B.returns B.notSynchronized hml (findClass_of_methodNamed B.named) (name_of_methodNamed B.named B.method).1 (fun w h => hts w (List.mem_cons_of_mem _ h)) hP hK hD.self hN hl va_S.rf (fun q h => Or.inr h)
end
section
variable {p : Program} {l : Launch} {e : Env} {R : Room} {s : State} {m : MethodId} {args : Array Value} {below : List Frame} {meth : Method} {c : Code} {H : Heap} {locs : List Loc} {cells slots : Nat} {Q : State → Prop}
variable {pc : Nat} {ls : Array Slot} {rest st0 : List Value} {D : va_G} {ws wc wr : va_W} {cc : ByteArray} {own : String} {nL : Nat} {A : Nat → Prop} {H0 : Heap}
variable {y : MethodName} {bytes : ByteArray} {maxL n index mc ms : Nat} {ret : Option FieldType} {rm : Room} {o : Nat} {As : List Value}
theorem topi_to {x v : Int32} (h : x = v) (k : W p l e R s m args below meth c H locs cells slots Q (F0 m pc ls (.int v :: rest))) : W p l e R s m args below meth c H locs cells slots Q (F0 m pc ls (.int x :: rest)) := h ▸ k
theorem topl_to {x v : Int64} (h : x = v) (k : W p l e R s m args below meth c H locs cells slots Q (F0 m pc ls (.long v :: rest))) : W p l e R s m args below meth c H locs cells slots Q (F0 m pc ls (.long x :: rest)) := h ▸ k
theorem xi_ald (hx : p.tables.exec = Jvm.exec) (hb : c.code = cc) (hK : va_K D vwCl (vT D) s) (hP : va_P D vwCl ws H) (q0 : Nat) {a N : Nat} {f : Nat → Int32} (ha : ws[q0]? = some (a, .inl (D.1 100, N, .inl f))) {k : Nat} (hk : k < N) (hN : N < 2 ^ 31) (hdg : decode cc pc = .ok (.iaload, 1))
    (kk : W p l e R s m args below meth c H locs cells slots Q (F0 m (pc + 1) ls (.int (f k) :: rest))) : W p l e R s m args below meth c H locs cells slots Q (F0 m pc ls (.int (nI k) :: .ref a :: rest)) :=
  va_iald hx hb hK hP q0 0 ha rfl (vp_in_nI hk hN) hdg (by rw [nI_clamp (Nat.lt_trans hk hN)]; exact kk)
theorem xi_ast (hx : p.tables.exec = Jvm.exec) (hb : c.code = cc) (hK : va_K D vwCl (vT D) s) (hP : va_P D vwCl ws H) (hD : va_D A ws) (hS : va_S A H0 H locs) (q0 : Nat) {a N : Nat} {f : Nat → Int32} (ha : ws[q0]? = some (a, .inl (D.1 100, N, .inl f))) {k : Nat} {x : Int32} (hk : k < N) (hN : N < 2 ^ 31) (hdg : decode cc pc = .ok (.iastore, 1))
    (kk : ∀ (H1 : Heap) (locs1 : List Loc), va_P D vwCl (ws.set q0 (a, .inl (D.1 100, N, .inl (upd f k x)))) H1 → va_D A (ws.set q0 (a, .inl (D.1 100, N, .inl (upd f k x)))) → va_S A H0 H1 locs1 → W p l e R s m args below meth c H1 locs1 cells slots Q (F0 m (pc + 1) ls rest)) : W p l e R s m args below meth c H locs cells slots Q (F0 m pc ls (.int x :: .int (nI k) :: .ref a :: rest)) :=
  va_iast hx hb hK hP hD hS q0 0 ha rfl (vp_in_nI hk hN) hdg (by rw [nI_clamp (Nat.lt_trans hk hN)]; exact kk)
theorem pre_blind {av : List Value} : FrameBlind (va_Pc av (cPre D wc)) := fun a U g mk q => by
  obtain ⟨q0, qP, qK, qD, qN⟩ := q
  exact ⟨q0, qP, va_K.moved (u := U) (U := U.calling g mk a) (Vm.Alike.refl U.vm) qK, qD, xN.same rfl qN⟩
theorem pre_blindW {av : List Value} {sz : Nat} : FrameBlind (va_Pc av (fun U => U.heap.size = sz ∧ cPre D wc U)) := fun a U g mk q => by
  obtain ⟨q0, q1, qP, qK, qD, qN⟩ := q
  exact ⟨q0, q1, qP, va_K.moved (u := U) (U := U.calling g mk a) (Vm.Alike.refl U.vm) qK, qD, xN.same rfl qN⟩
theorem pre_at (av : List Value) (hP : va_P D vwCl wc H) (hK : va_K D vwCl (vT D) s) (hD : va_D A wc) (hN : xN s) : ∀ U : State, U.heap = H → s.WarmedH U.vm → va_Pc av (cPre D wc) av.toArray U :=
  fun U hU hW => ⟨rfl, by rw [hU]; exact hP, va_K.moved hW.alike hK, hD.weaken (fun _ _ _ _ => trivial), xN_warm hW hN⟩
theorem pre_atW (av : List Value) (hP : va_P D vwCl wc H) (hK : va_K D vwCl (vT D) s) (hD : va_D A wc) (hN : xN s) : ∀ U : State, U.heap = H → s.WarmedH U.vm → va_Pc av (fun U => U.heap.size = H.size ∧ cPre D wc U) av.toArray U :=
  fun U hU hW => ⟨rfl, by rw [hU], by rw [hU]; exact hP, va_K.moved hW.alike hK, hD.weaken (fun _ _ _ _ => trivial), xN_warm hW hN⟩
/-- a method that reads, on an object: virtual or private -/
theorem rV {post : Int32 → Prop} (hx : p.tables.exec = Jvm.exec) (hb : c.code = cc) (hml : c.maxLocals = nL) (hown : s.vm.findClass own = some m.cls) (hA : ∀ w ∈ cA, w.before args s = true)
    (hM : Met l y (wsm y bytes maxL ret) rm (va_Pc (.ref o :: As) (cPre D wc)) (vp_Si post) 0 0 (fun _ => False))
    (wds : Cond.code y bytes maxL ret ∈ cA ∧ Cond.initialized y.cls ∈ cA ∧ Cond.methodLink own index y ∈ cA ∧ Cond.instanceMethod y ∈ cA ∧ Cond.selects y.cls y y ∈ cA)
    (hd : y.cls ≠ "java/lang/invoke/MethodHandle" ∧ y.cls ≠ "java/lang/invoke/VarHandle" ∧ (parseMethodDescriptor y.desc).map (fun d => d.parameters.length) = some n)
    (hrm : rm.cells = 0 ∧ rm.slots = 0 ∧ rm.frames + 1 ≤ R.frames ∧ 8 + (maxL + 11) + rm.locals ≤ R.locals) (hn : As.length = n) (hsz : ls.size = nL) (hcs : cells ≤ R.cells ∧ slots ≤ R.slots)
    (hP : va_P D vwCl wc H) (hK : va_K D vwCl (vT D) s) (hD : va_D A wc) (hN : xN s)
    (q0 ci : Nat) {fs : List Value} {T : u_T} {N : Nat} (he : wc[q0]? = some (o, .inr (ci, fs))) (hc : vwCl[ci]? = some (y.cls, T, N))
    (hst : st0 = As.reverse ++ .ref o :: rest) (hroom : (rest.map fun v => v.category).sum ≤ 8) (hdg : decode cc pc = .ok (.invokevirtual index, 3))
    (kk : ∀ r : Int32, post r → W p l e R s m args below meth c H locs cells slots Q (F0 m (pc + 3) ls (.int r :: rest))) : W p l e R s m args below meth c H locs cells slots Q (F0 m pc ls st0) := by
  obtain ⟨w1, w2, w3, w4, w5⟩ := wds
  obtain ⟨r1, r2, r3, r4⟩ := hrm
  exact vp_callSi (W.runV (Ts := cA) (C := y.cls) ⟨hx, hb, hml, hown, hA⟩ hM ⟨callB_of n hA (gdA w1) rfl r1 r2 (hA _ w2) (hA _ w3) hd ⟨r3, r4⟩, hA _ w4, hA _ w5⟩ ⟨pre_blind, va_recv hK hP hc he, pre_at _ hP hK hD hN⟩ rfl hn hsz hst (lv_room hroom) hdg ⟨hcs.1, hcs.2⟩) kk
/-- a static method of the own class that reads -/
theorem rS {post : Int32 → Prop} (hx : p.tables.exec = Jvm.exec) (hb : c.code = cc) (hml : c.maxLocals = nL) (hown : s.vm.findClass own = some m.cls) (hA : ∀ w ∈ cA, w.before args s = true)
    (hM : Met l y (wsm y bytes maxL ret) rm (va_Pc As (cPre D wc)) (vp_Si post) 0 0 (fun _ => False))
    (wds : Cond.code y bytes maxL ret ∈ cA ∧ Cond.initialized y.cls ∈ cA ∧ Cond.methodLink own index y ∈ cA ∧ Cond.static y ∈ cA)
    (hd : y.cls ≠ "java/lang/invoke/MethodHandle" ∧ y.cls ≠ "java/lang/invoke/VarHandle" ∧ (parseMethodDescriptor y.desc).map (fun d => d.parameters.length) = some n)
    (hrm : rm.cells = 0 ∧ rm.slots = 0 ∧ rm.frames + 1 ≤ R.frames ∧ 8 + (maxL + 11) + rm.locals ≤ R.locals) (hn : As.length = n) (hsz : ls.size = nL) (hcs : cells ≤ R.cells ∧ slots ≤ R.slots)
    (hP : va_P D vwCl wc H) (hK : va_K D vwCl (vT D) s) (hD : va_D A wc) (hN : xN s)
    (hst : st0 = As.reverse ++ rest) (hroom : (rest.map fun v => v.category).sum ≤ 8) (hdg : decode cc pc = .ok (.invokestatic index, 3))
    (kk : ∀ r : Int32, post r → W p l e R s m args below meth c H locs cells slots Q (F0 m (pc + 3) ls (.int r :: rest))) : W p l e R s m args below meth c H locs cells slots Q (F0 m pc ls st0) := by
  obtain ⟨w1, w2, w3, w4⟩ := wds
  obtain ⟨r1, r2, r3, r4⟩ := hrm
  exact vp_callSi (W.runS (Ts := cA) ⟨hx, hb, hml, hown, hA⟩ hM ⟨callB_of n hA (gdA w1) rfl r1 r2 (hA _ w2) (hA _ w3) hd ⟨r3, r4⟩, hA _ w4⟩ ⟨pre_blind, pre_at _ hP hK hD hN⟩ rfl hn hsz hst (lv_room hroom) hdg ⟨hcs.1, hcs.2⟩) kk
/-- a private static method of a nest mate that reads -/
theorem rSN {host : String} {post : Int32 → Prop} (hx : p.tables.exec = Jvm.exec) (hb : c.code = cc) (hml : c.maxLocals = nL) (hown : s.vm.findClass own = some m.cls) (hA : ∀ w ∈ cA, w.before args s = true)
    (hM : Met l y (wsm y bytes maxL ret) rm (va_Pc As (cPre D wc)) (vp_Si post) 0 0 (fun _ => False))
    (hlk : va_Nw (.methodLinkNest own index y host) s) (wds : Cond.code y bytes maxL ret ∈ cA ∧ Cond.initialized y.cls ∈ cA ∧ Cond.static y ∈ cA)
    (hd : y.cls ≠ "java/lang/invoke/MethodHandle" ∧ y.cls ≠ "java/lang/invoke/VarHandle" ∧ (parseMethodDescriptor y.desc).map (fun d => d.parameters.length) = some n)
    (hrm : rm.cells = 0 ∧ rm.slots = 0 ∧ rm.frames + 1 ≤ R.frames ∧ 8 + (maxL + 11) + rm.locals ≤ R.locals) (hn : As.length = n) (hsz : ls.size = nL) (hcs : cells ≤ R.cells ∧ slots ≤ R.slots)
    (hP : va_P D vwCl wc H) (hK : va_K D vwCl (vT D) s) (hD : va_D A wc) (hN : xN s)
    (hst : st0 = As.reverse ++ rest) (hroom : (rest.map fun v => v.category).sum ≤ 8) (hdg : decode cc pc = .ok (.invokestatic index, 3))
    (kk : ∀ r : Int32, post r → W p l e R s m args below meth c H locs cells slots Q (F0 m (pc + 3) ls (.int r :: rest))) : W p l e R s m args below meth c H locs cells slots Q (F0 m pc ls st0) := by
  obtain ⟨w1, w2, w4⟩ := wds
  obtain ⟨r1, r2, r3, r4⟩ := hrm
  exact vp_callSi (va_runSN (Ts := cA) (host := host) ⟨hx, hb, hml, hown, hA⟩ hM ⟨va_cnB n hA (gdA w1) rfl r1 r2 hlk (hA _ w2) hd ⟨r3, r4⟩, hA _ w4, trivial⟩ ⟨pre_blind, pre_at _ hP hK hD hN⟩ rfl hn hsz hst (lv_room hroom) hdg ⟨hcs.1, hcs.2⟩).run kk
/-- a reader through an interface -/
theorem rF {C : String} {x : MethodName} {count : Nat} {cC : ClassId} {post : Int32 → Prop} (hx : p.tables.exec = Jvm.exec) (hb : c.code = cc) (hml : c.maxLocals = nL) (hown : s.vm.findClass own = some m.cls) (hA : ∀ w ∈ cA, w.before args s = true)
    (hM : Met l y (wsm y bytes maxL ret) rm (va_Pc (.ref o :: As) (cPre D wc)) (vp_Si post) 0 0 (fun _ => False))
    (hF : va_Fw C x y s) (wds : Cond.code y bytes maxL ret ∈ cA ∧ Cond.initialized y.cls ∈ cA ∧ Cond.methodLink own index x ∈ cA ∧ Cond.instanceMethod y ∈ cA ∧ Cond.selects C x y ∈ cA)
    (hd : x.cls ≠ "java/lang/invoke/MethodHandle" ∧ x.cls ≠ "java/lang/invoke/VarHandle" ∧ (parseMethodDescriptor x.desc).map (fun d => d.parameters.length) = some n)
    (hrm : rm.cells = 0 ∧ rm.slots = 0 ∧ rm.frames + 1 ≤ R.frames ∧ 8 + (maxL + 11) + rm.locals ≤ R.locals) (hn : As.length = n) (hsz : ls.size = nL) (hcs : cells ≤ R.cells ∧ slots ≤ R.slots)
    (hP : va_P D vwCl wc H) (hK : va_K D vwCl (vT D) s) (hD : va_D A wc) (hN : xN s)
    (q0 ci : Nat) {fs : List Value} {T : u_T} {N : Nat} (he : wc[q0]? = some (o, .inr (ci, fs))) (hc : vwCl[ci]? = some (C, T, N)) (hat : ClassAt s C cC)
    (hst : st0 = As.reverse ++ .ref o :: rest) (hroom : (rest.map fun v => v.category).sum ≤ 8) (hdg : decode cc pc = .ok (.invokeinterface index count, 5))
    (kk : ∀ r : Int32, post r → W p l e R s m args below meth c H locs cells slots Q (F0 m (pc + 5) ls (.int r :: rest))) : W p l e R s m args below meth c H locs cells slots Q (F0 m pc ls st0) := by
  obtain ⟨w1, w2, w3, w4, w5⟩ := wds
  obtain ⟨r1, r2, r3, r4⟩ := hrm
  have hG : GoodIn cA (va_wsF own index C x y (wsm y bytes maxL ret)) := by
    intro w hw
    have h1 : w ∈ cA := by
      rcases List.mem_append.mp hw with h2 | h2
      · simp only [List.mem_cons, List.not_mem_nil, or_false] at h2
        rcases h2 with h2 | h2 | h2 | h2 <;> rw [h2] <;> assumption
      · exact (gdA w1 w h2).1
    exact ⟨h1, good_of_word (List.mem_filter.mp h1).2⟩
  exact va_csFi (va_runF (Ts := cA) hat ⟨hx, hb, hml, hown, hA⟩ hM (va_cwF n hA hG rfl r1 r2 hF hd ⟨r3, r4⟩) ⟨pre_blind, va_recv hK hP hc he, pre_at _ hP hK hD hN⟩ rfl hn hsz hst (lv_room hroom) hdg ⟨hcs.1, hcs.2⟩) kk
/-- behind a call that writes: the rest and what came back -/
theorem jn {Wf : va_W} {H1 : Heap} {t : State} (hP : va_P D vwCl ws H) (hD : va_D A ws) (isC isR : List Nat) (hC : isC.map (fun i => ws[i]?) = wc.map some) (hR : isR.map (fun i => ws[i]?) = wr.map some) (hn : va_nd isR = true) (hdis : ∀ i ∈ isR, i ∉ isC)
    (hk : ∀ q : Nat, q < H.size → ¬ va_A wc H.size q → H1[q]? = H[q]?) (hF : ∀ q, va_A wc H.size q → A q) (ht : t.heap = H1) (hB : xB D Wf (va_A wc H.size) t) : va_P D vwCl (wr ++ Wf) H1 ∧ va_D A (wr ++ Wf) := by
  obtain ⟨b1, b2, b3⟩ := hB
  rw [ht] at b1
  exact va_join hP hD isC isR hC hR hn hdis hk hF b1 b3
/-- a void method that writes, on an object -/
theorem wVv {S : Type} {post : S → Prop} {Wf : S → va_W} (hx : p.tables.exec = Jvm.exec) (hb : c.code = cc) (hml : c.maxLocals = nL) (hown : s.vm.findClass own = some m.cls) (hA : ∀ w ∈ cA, w.before args s = true)
    (hM : Met l y (wsm y bytes maxL ret) rm (va_Pc (.ref o :: As) (fun U => U.heap.size = H.size ∧ cPre D wc U)) (va_Qv post (fun u t => xB D (Wf u) (va_A wc H.size) t) (va_A wc H.size)) mc ms (va_A wc H.size))
    (wds : Cond.code y bytes maxL ret ∈ cA ∧ Cond.initialized y.cls ∈ cA ∧ Cond.methodLink own index y ∈ cA ∧ Cond.instanceMethod y ∈ cA ∧ Cond.selects y.cls y y ∈ cA)
    (hd : y.cls ≠ "java/lang/invoke/MethodHandle" ∧ y.cls ≠ "java/lang/invoke/VarHandle" ∧ (parseMethodDescriptor y.desc).map (fun d => d.parameters.length) = some n)
    (hrm : rm.cells = mc ∧ rm.slots = ms ∧ rm.frames + 1 ≤ R.frames ∧ 8 + (maxL + 11) + rm.locals ≤ R.locals) (hn : As.length = n) (hsz : ls.size = nL) (hcs : cells + mc ≤ R.cells ∧ slots + ms ≤ R.slots)
    (hP : va_P D vwCl ws H) (hK : va_K D vwCl (vT D) s) (hD : va_D A ws) (hS : va_S A H0 H locs) (hAA : ∀ q, H0.size ≤ q → A q) (hN : xN s) (isC isR : List Nat) (hC : isC.map (fun i => ws[i]?) = wc.map some) (hR : isR.map (fun i => ws[i]?) = wr.map some) (hnC : va_nd isC = true) (hnR : va_nd isR = true) (hdis : ∀ i ∈ isR, i ∉ isC)
    (q0 ci : Nat) {fs : List Value} {T : u_T} {N : Nat} (he : wc[q0]? = some (o, .inr (ci, fs))) (hc : vwCl[ci]? = some (y.cls, T, N))
    (hst : st0 = As.reverse ++ .ref o :: rest) (hroom : (rest.map fun v => v.category).sum ≤ 8) (hdg : decode cc pc = .ok (.invokevirtual index, 3))
    (kk : ∀ (u : S) (H1 : Heap) (locs1 : List Loc), post u → va_P D vwCl (wr ++ Wf u) H1 → va_D A (wr ++ Wf u) → va_S A H0 H1 locs1 → W p l e R s m args below meth c H1 locs1 (cells + mc) (slots + ms) Q (F0 m (pc + 3) ls rest)) : W p l e R s m args below meth c H locs cells slots Q (F0 m pc ls st0) := by
  obtain ⟨w1, w2, w3, w4, w5⟩ := wds
  obtain ⟨r1, r2, r3, r4⟩ := hrm
  have hPc := hP.sub1 isC hC
  have hDc := hD.sub isC hnC hC
  have hFc := va_free (wc := wc) hD hS hAA isC hC
  exact va_callv (va_runV (Ts := cA) (C := y.cls) ⟨hx, hb, hml, hown, hA⟩ hM ⟨callB_of n hA (gdA w1) rfl r1 r2 (hA _ w2) (hA _ w3) hd ⟨r3, r4⟩, hA _ w4, hA _ w5⟩ ⟨pre_blindW, va_recv hK hPc hc he, pre_atW _ hPc hK hDc hN⟩ rfl hn hsz hst (lv_room hroom) hdg hcs) hS (fun q _ h => hFc q h) hFc
    (fun u t H1 locs1 ht hvm hp hB hz hk hS1 => by
      obtain ⟨j1, j2⟩ := jn hP hD isC isR hC hR hnR hdis hk hFc ht hB
      exact kk u H1 locs1 hp j1 j2 hS1)
/-- an int method that writes, on an object -/
theorem wVi {S : Type} {post : Int32 → S → Prop} {Wf : S → va_W} (hx : p.tables.exec = Jvm.exec) (hb : c.code = cc) (hml : c.maxLocals = nL) (hown : s.vm.findClass own = some m.cls) (hA : ∀ w ∈ cA, w.before args s = true)
    (hM : Met l y (wsm y bytes maxL ret) rm (va_Pc (.ref o :: As) (fun U => U.heap.size = H.size ∧ cPre D wc U)) (va_Qi post (fun u t => xB D (Wf u) (va_A wc H.size) t) (va_A wc H.size)) mc ms (va_A wc H.size))
    (wds : Cond.code y bytes maxL ret ∈ cA ∧ Cond.initialized y.cls ∈ cA ∧ Cond.methodLink own index y ∈ cA ∧ Cond.instanceMethod y ∈ cA ∧ Cond.selects y.cls y y ∈ cA)
    (hd : y.cls ≠ "java/lang/invoke/MethodHandle" ∧ y.cls ≠ "java/lang/invoke/VarHandle" ∧ (parseMethodDescriptor y.desc).map (fun d => d.parameters.length) = some n)
    (hrm : rm.cells = mc ∧ rm.slots = ms ∧ rm.frames + 1 ≤ R.frames ∧ 8 + (maxL + 11) + rm.locals ≤ R.locals) (hn : As.length = n) (hsz : ls.size = nL) (hcs : cells + mc ≤ R.cells ∧ slots + ms ≤ R.slots)
    (hP : va_P D vwCl ws H) (hK : va_K D vwCl (vT D) s) (hD : va_D A ws) (hS : va_S A H0 H locs) (hAA : ∀ q, H0.size ≤ q → A q) (hN : xN s) (isC isR : List Nat) (hC : isC.map (fun i => ws[i]?) = wc.map some) (hR : isR.map (fun i => ws[i]?) = wr.map some) (hnC : va_nd isC = true) (hnR : va_nd isR = true) (hdis : ∀ i ∈ isR, i ∉ isC)
    (q0 ci : Nat) {fs : List Value} {T : u_T} {N : Nat} (he : wc[q0]? = some (o, .inr (ci, fs))) (hc : vwCl[ci]? = some (y.cls, T, N))
    (hst : st0 = As.reverse ++ .ref o :: rest) (hroom : (rest.map fun v => v.category).sum ≤ 8) (hdg : decode cc pc = .ok (.invokevirtual index, 3))
    (kk : ∀ (r : Int32) (u : S) (H1 : Heap) (locs1 : List Loc), post r u → va_P D vwCl (wr ++ Wf u) H1 → va_D A (wr ++ Wf u) → va_S A H0 H1 locs1 → W p l e R s m args below meth c H1 locs1 (cells + mc) (slots + ms) Q (F0 m (pc + 3) ls (.int r :: rest))) : W p l e R s m args below meth c H locs cells slots Q (F0 m pc ls st0) := by
  obtain ⟨w1, w2, w3, w4, w5⟩ := wds
  obtain ⟨r1, r2, r3, r4⟩ := hrm
  have hPc := hP.sub1 isC hC
  have hDc := hD.sub isC hnC hC
  have hFc := va_free (wc := wc) hD hS hAA isC hC
  exact va_calli (va_runV (Ts := cA) (C := y.cls) ⟨hx, hb, hml, hown, hA⟩ hM ⟨callB_of n hA (gdA w1) rfl r1 r2 (hA _ w2) (hA _ w3) hd ⟨r3, r4⟩, hA _ w4, hA _ w5⟩ ⟨pre_blindW, va_recv hK hPc hc he, pre_atW _ hPc hK hDc hN⟩ rfl hn hsz hst (lv_room hroom) hdg hcs) hS (fun q _ h => hFc q h) hFc
    (fun r u t H1 locs1 ht hvm hp hB hz hk hS1 => by
      obtain ⟨j1, j2⟩ := jn hP hD isC isR hC hR hnR hdis hk hFc ht hB
      exact kk r u H1 locs1 hp j1 j2 hS1)
/-- a private constructor of a nest mate -/
theorem wIN {host : String} {S : Type} {post : S → Prop} {Wf : S → va_W} (hx : p.tables.exec = Jvm.exec) (hb : c.code = cc) (hml : c.maxLocals = nL) (hown : s.vm.findClass own = some m.cls) (hA : ∀ w ∈ cA, w.before args s = true)
    (hM : Met l y (wsm y bytes maxL none) rm (va_Pc (.ref o :: As) (fun U => U.heap.size = H.size ∧ cPre D wc U)) (va_Qv post (fun u t => xB D (Wf u) (va_A wc H.size) t) (va_A wc H.size)) mc ms (va_A wc H.size))
    (hlk : va_Nw (.methodLinkNest own index y host) s) (wds : Cond.code y bytes maxL none ∈ cA ∧ Cond.initialized y.cls ∈ cA ∧ Cond.instanceMethod y ∈ cA) (hy1 : y.name = "<init>")
    (hd : y.cls ≠ "java/lang/invoke/MethodHandle" ∧ y.cls ≠ "java/lang/invoke/VarHandle" ∧ (parseMethodDescriptor y.desc).map (fun d => d.parameters.length) = some n)
    (hrm : rm.cells = mc ∧ rm.slots = ms ∧ rm.frames + 1 ≤ R.frames ∧ 8 + (maxL + 11) + rm.locals ≤ R.locals) (hn : As.length = n) (hsz : ls.size = nL) (hcs : cells + mc ≤ R.cells ∧ slots + ms ≤ R.slots)
    (hP : va_P D vwCl ws H) (hK : va_K D vwCl (vT D) s) (hD : va_D A ws) (hS : va_S A H0 H locs) (hAA : ∀ q, H0.size ≤ q → A q) (hN : xN s) (isC isR : List Nat) (hC : isC.map (fun i => ws[i]?) = wc.map some) (hR : isR.map (fun i => ws[i]?) = wr.map some) (hnC : va_nd isC = true) (hnR : va_nd isR = true) (hdis : ∀ i ∈ isR, i ∉ isC)
    (hst : st0 = As.reverse ++ .ref o :: rest) (hroom : (rest.map fun v => v.category).sum ≤ 8) (hdg : decode cc pc = .ok (.invokespecial index, 3))
    (kk : ∀ (u : S) (H1 : Heap) (locs1 : List Loc), post u → va_P D vwCl (wr ++ Wf u) H1 → va_D A (wr ++ Wf u) → va_S A H0 H1 locs1 → W p l e R s m args below meth c H1 locs1 (cells + mc) (slots + ms) Q (F0 m (pc + 3) ls rest)) : W p l e R s m args below meth c H locs cells slots Q (F0 m pc ls st0) := by
  obtain ⟨w1, w2, w4⟩ := wds
  obtain ⟨r1, r2, r3, r4⟩ := hrm
  have hPc := hP.sub1 isC hC
  have hDc := hD.sub isC hnC hC
  have hFc := va_free (wc := wc) hD hS hAA isC hC
  exact va_callv (va_runIN (Ts := cA) (host := host) ⟨hx, hb, hml, hown, hA⟩ hM ⟨va_cnB n hA (gdA w1) rfl r1 r2 hlk (hA _ w2) hd ⟨r3, r4⟩, hy1, hA _ w4⟩ ⟨pre_blindW, pre_atW _ hPc hK hDc hN⟩ rfl hn hsz hst (lv_room hroom) hdg hcs) hS (fun q _ h => hFc q h) hFc
    (fun u t H1 locs1 ht hvm hp hB hz hk hS1 => by
      obtain ⟨j1, j2⟩ := jn hP hD isC isR hC hR hnR hdis hk hFc ht hB
      exact kk u H1 locs1 hp j1 j2 hS1)
/-- a constructor -/
theorem wI {S : Type} {post : S → Prop} {Wf : S → va_W} (hx : p.tables.exec = Jvm.exec) (hb : c.code = cc) (hml : c.maxLocals = nL) (hown : s.vm.findClass own = some m.cls) (hA : ∀ w ∈ cA, w.before args s = true)
    (hM : Met l y (wsm y bytes maxL none) rm (va_Pc (.ref o :: As) (fun U => U.heap.size = H.size ∧ cPre D wc U)) (va_Qv post (fun u t => xB D (Wf u) (va_A wc H.size) t) (va_A wc H.size)) mc ms (va_A wc H.size))
    (wds : Cond.code y bytes maxL none ∈ cA ∧ Cond.initialized y.cls ∈ cA ∧ Cond.methodLink own index y ∈ cA ∧ Cond.instanceMethod y ∈ cA) (hy1 : y.name = "<init>")
    (hd : y.cls ≠ "java/lang/invoke/MethodHandle" ∧ y.cls ≠ "java/lang/invoke/VarHandle" ∧ (parseMethodDescriptor y.desc).map (fun d => d.parameters.length) = some n)
    (hrm : rm.cells = mc ∧ rm.slots = ms ∧ rm.frames + 1 ≤ R.frames ∧ 8 + (maxL + 11) + rm.locals ≤ R.locals) (hn : As.length = n) (hsz : ls.size = nL) (hcs : cells + mc ≤ R.cells ∧ slots + ms ≤ R.slots)
    (hP : va_P D vwCl ws H) (hK : va_K D vwCl (vT D) s) (hD : va_D A ws) (hS : va_S A H0 H locs) (hAA : ∀ q, H0.size ≤ q → A q) (hN : xN s) (isC isR : List Nat) (hC : isC.map (fun i => ws[i]?) = wc.map some) (hR : isR.map (fun i => ws[i]?) = wr.map some) (hnC : va_nd isC = true) (hnR : va_nd isR = true) (hdis : ∀ i ∈ isR, i ∉ isC)
    (hst : st0 = As.reverse ++ .ref o :: rest) (hroom : (rest.map fun v => v.category).sum ≤ 8) (hdg : decode cc pc = .ok (.invokespecial index, 3))
    (kk : ∀ (u : S) (H1 : Heap) (locs1 : List Loc), post u → va_P D vwCl (wr ++ Wf u) H1 → va_D A (wr ++ Wf u) → va_S A H0 H1 locs1 → W p l e R s m args below meth c H1 locs1 (cells + mc) (slots + ms) Q (F0 m (pc + 3) ls rest)) : W p l e R s m args below meth c H locs cells slots Q (F0 m pc ls st0) := by
  obtain ⟨w1, w2, w3, w4⟩ := wds
  obtain ⟨r1, r2, r3, r4⟩ := hrm
  have hPc := hP.sub1 isC hC
  have hDc := hD.sub isC hnC hC
  have hFc := va_free (wc := wc) hD hS hAA isC hC
  exact va_callv (va_runI (Ts := cA) ⟨hx, hb, hml, hown, hA⟩ hM ⟨callB_of n hA (gdA w1) rfl r1 r2 (hA _ w2) (hA _ w3) hd ⟨r3, r4⟩, hy1, hA _ w4⟩ ⟨pre_blindW, pre_atW _ hPc hK hDc hN⟩ rfl hn hsz hst (lv_room hroom) hdg hcs) hS (fun q _ h => hFc q h) hFc
    (fun u t H1 locs1 ht hvm hp hB hz hk hS1 => by
      obtain ⟨j1, j2⟩ := jn hP hD isC isR hC hR hnR hdis hk hFc ht hB
      exact kk u H1 locs1 hp j1 j2 hS1)
/-- a superclass's constructor that touches nothing -/
theorem rI (hx : p.tables.exec = Jvm.exec) (hb : c.code = cc) (hml : c.maxLocals = nL) (hown : s.vm.findClass own = some m.cls) (hA : ∀ w ∈ cA, w.before args s = true)
    (hM : Met l y (wsm y bytes maxL none) rm (va_Pc (.ref o :: As) (cPre D wc)) (va_Sv (fun _ => True)) 0 0 (fun _ => False))
    (wds : Cond.code y bytes maxL none ∈ cA ∧ Cond.initialized y.cls ∈ cA ∧ Cond.methodLink own index y ∈ cA ∧ Cond.instanceMethod y ∈ cA) (hy1 : y.name = "<init>")
    (hd : y.cls ≠ "java/lang/invoke/MethodHandle" ∧ y.cls ≠ "java/lang/invoke/VarHandle" ∧ (parseMethodDescriptor y.desc).map (fun d => d.parameters.length) = some n)
    (hrm : rm.cells = 0 ∧ rm.slots = 0 ∧ rm.frames + 1 ≤ R.frames ∧ 8 + (maxL + 11) + rm.locals ≤ R.locals) (hn : As.length = n) (hsz : ls.size = nL) (hcs : cells ≤ R.cells ∧ slots ≤ R.slots)
    (hP : va_P D vwCl wc H) (hK : va_K D vwCl (vT D) s) (hD : va_D A wc) (hN : xN s)
    (hst : st0 = As.reverse ++ .ref o :: rest) (hroom : (rest.map fun v => v.category).sum ≤ 8) (hdg : decode cc pc = .ok (.invokespecial index, 3))
    (kk : W p l e R s m args below meth c H locs cells slots Q (F0 m (pc + 3) ls rest)) : W p l e R s m args below meth c H locs cells slots Q (F0 m pc ls st0) := by
  obtain ⟨w1, w2, w3, w4⟩ := wds
  obtain ⟨r1, r2, r3, r4⟩ := hrm
  exact va_csv (W.runI (Ts := cA) ⟨hx, hb, hml, hown, hA⟩ hM ⟨callB_of n hA (gdA w1) rfl r1 r2 (hA _ w2) (hA _ w3) hd ⟨r3, r4⟩, hy1, hA _ w4⟩ ⟨pre_blind, pre_at _ hP hK hD hN⟩ rfl hn hsz hst (lv_room hroom) hdg ⟨hcs.1, hcs.2⟩) (fun _ => kk)
-- ends
theorem eR {post : Int32 → Prop} {v : Int32} (hx : p.tables.exec = Jvm.exec) (hb : c.code = cc) (hr : meth.sig.returnType = some .int) (hlocks : meth.locks = false) (hpost : post v) (hdg : decode cc pc = .ok (.ireturn, 1)) :
    W p l e R s m args below meth c s.heap [] 0 0 (MQ below (vp_Si post) args s 0 0 (fun _ => False)) (F0 m pc ls [.int v]) :=
  W.iret hx hb hr (fun t ht _ => ⟨v, rfl, hpost, ht⟩) (fun _ h => absurd h List.not_mem_nil) hdg hlocks
theorem eRz {post : Int32 → Prop} {v : Int32} (hx : p.tables.exec = Jvm.exec) (hb : c.code = cc) (hr : meth.sig.returnType = some .boolean) (hlocks : meth.locks = false) (hv : narrow .boolean (.int v) = .int v) (hpost : post v) (hdg : decode cc pc = .ok (.ireturn, 1)) :
    W p l e R s m args below meth c s.heap [] 0 0 (MQ below (vp_Si post) args s 0 0 (fun _ => False)) (F0 m pc ls [.int v]) :=
  W.zret hx hb hr hv (fun t ht _ => ⟨v, rfl, hpost, ht⟩) (fun _ h => absurd h List.not_mem_nil) hdg hlocks
theorem eRv (hx : p.tables.exec = Jvm.exec) (hb : c.code = cc) (hr : meth.sig.returnType = none) (hlocks : meth.locks = false) (hdg : decode cc pc = .ok (.return_, 1)) :
    W p l e R s m args below meth c s.heap [] 0 0 (MQ below (va_Sv (fun _ => True)) args s 0 0 (fun _ => False)) (F0 m pc ls []) :=
  W.vret hx hb hr (fun t ht _ => ⟨rfl, trivial, ht⟩) (fun _ h => absurd h List.not_mem_nil) hdg hlocks
theorem eWi {S : Type} {post : Int32 → S → Prop} {Wf : S → va_W} {v : Int32} (u : S) (hx : p.tables.exec = Jvm.exec) (hb : c.code = cc) (hr : meth.sig.returnType = some .int) (hlocks : meth.locks = false) (hP : va_P D vwCl (Wf u) H) (hK : va_K D vwCl (vT D) s) (hD : va_D A (Wf u)) (hS : va_S A s.heap H locs) (hpost : post v u) (hdg : decode cc pc = .ok (.ireturn, 1)) :
    W p l e R s m args below meth c H locs cells slots (MQ below (va_Qi post (fun u t => xB D (Wf u) A t) A) args s cells slots A) (F0 m pc ls [.int v]) :=
  W.iret hx hb hr (fun t ht hW => ⟨⟨v, u, rfl, hpost, by rw [ht]; exact hP, va_K.moved hW.alike hK, hD⟩, hS.F ht⟩) hS.2.2 hdg hlocks
theorem eWz {S : Type} {post : Int32 → S → Prop} {Wf : S → va_W} {v : Int32} (u : S) (hx : p.tables.exec = Jvm.exec) (hb : c.code = cc) (hr : meth.sig.returnType = some .boolean) (hlocks : meth.locks = false) (hv : narrow .boolean (.int v) = .int v) (hP : va_P D vwCl (Wf u) H) (hK : va_K D vwCl (vT D) s) (hD : va_D A (Wf u)) (hS : va_S A s.heap H locs) (hpost : post v u) (hdg : decode cc pc = .ok (.ireturn, 1)) :
    W p l e R s m args below meth c H locs cells slots (MQ below (va_Qi post (fun u t => xB D (Wf u) A t) A) args s cells slots A) (F0 m pc ls [.int v]) :=
  W.zret hx hb hr hv (fun t ht hW => ⟨⟨v, u, rfl, hpost, by rw [ht]; exact hP, va_K.moved hW.alike hK, hD⟩, hS.F ht⟩) hS.2.2 hdg hlocks
theorem eWv {S : Type} {post : S → Prop} {Wf : S → va_W} (u : S) (hx : p.tables.exec = Jvm.exec) (hb : c.code = cc) (hr : meth.sig.returnType = none) (hlocks : meth.locks = false) (hP : va_P D vwCl (Wf u) H) (hK : va_K D vwCl (vT D) s) (hD : va_D A (Wf u)) (hS : va_S A s.heap H locs) (hpost : post u) (hdg : decode cc pc = .ok (.return_, 1)) :
    W p l e R s m args below meth c H locs cells slots (MQ below (va_Qv post (fun u t => xB D (Wf u) A t) A) args s cells slots A) (F0 m pc ls []) :=
  W.vret hx hb hr (fun t ht hW => ⟨⟨u, rfl, hpost, by rw [ht]; exact hP, va_K.moved hW.alike hK, hD⟩, hS.F ht⟩) hS.2.2 hdg hlocks
-- arrays: made, copied
theorem xi_new {N : Nat} {v : Int32} (hx : p.tables.exec = Jvm.exec) (hb : c.code = cc) (harr : (Cond.arrayClass .int).before args s = true) (hK : va_K D vwCl (vT D) s) (hP : va_P D vwCl ws H) (hD : va_D A ws) (hS : va_S A H0 H locs) (hA : ∀ q, H0.size ≤ q → A q)
    (hv : ¬ v < 0) (hN : v.toNatClampNeg = N) (hbytes : N * componentBytes .int ≤ 536870912) (hcells : cells + 1 ≤ R.cells) (hslots : slots + N ≤ R.slots) (hdg : decode cc pc = .ok (.newarray .int, 2))
    (kk : ∀ (q : Nat) (H1 : Heap), va_P D vwCl (ws ++ [(q, .inl (D.1 100, N, .inl (fun _ => 0)))]) H1 → va_D A (ws ++ [(q, .inl (D.1 100, N, .inl (fun _ => 0)))]) → va_S A H0 H1 locs → W p l e R s m args below meth c H1 locs (cells + 1) (slots + N) Q (F0 m (pc + 2) ls (.ref q :: rest))) : W p l e R s m args below meth c H locs cells slots Q (F0 m pc ls (.int v :: rest)) := by
  refine va_newa (atype := .int) hx hb harr rfl hK hP hD hS hA (a0 := (N, .inl (fun _ => 0))) (fun _ => rfl) hv hN hbytes hcells hslots hdg ?_
  intro q cA H1 hK1 hP1 hD1 hS1
  have e1 := (hK.2 0 (D.1 100, .int) rfl).2
  have e2 := (hK1.2 3 (cA, .int) rfl).2
  have e : cA = D.1 100 := Option.some.inj (Eq.trans (Eq.symm e2) e1)
  subst e
  exact kk q H1 hP1 hD1 hS1
theorem xi_copy (hx : p.tables.exec = Jvm.exec) (hb : c.code = cc) (hml : c.maxLocals = ls.size) (hown : s.vm.findClass own = some m.cls) (hlink : (Cond.methodLink own index arraycopyName).before args s = true) (hnat : (Cond.native arraycopyName).before args s = true) (hstat : (Cond.static arraycopyName).before args s = true) (hini : (Cond.initialized "java/lang/System").before args s = true)
    (hK : va_K D vwCl (vT D) s) (hP : va_P D vwCl ws H) (hD : va_D A ws) (hS : va_S A H0 H locs) (q0 q1 : Nat) {a a0 n0 n1 : Nat} {f g : Nat → Int32} (ha0 : ws[q0]? = some (a0, .inl (D.1 100, n0, .inl f))) (ha1 : ws[q1]? = some (a, .inl (D.1 100, n1, .inl g))) {k : Nat} (hk : k ≤ 8) (h0 : 8 ≤ n0) (h1 : 8 ≤ n1)
    (hframes : 1 ≤ R.frames) (hlocals : (rest.map fun v => v.category).sum + 18 ≤ R.locals) (hdg : decode cc pc = .ok (.invokestatic index, 3))
    (kk : ∀ (H1 : Heap) (locs1 : List Loc), va_P D vwCl (ws.set q1 (a, .inl (D.1 100, n1, .inl (va_cpy f g 0 0 k)))) H1 → va_D A (ws.set q1 (a, .inl (D.1 100, n1, .inl (va_cpy f g 0 0 k)))) → va_S A H0 H1 locs1 → W p l e R s m args below meth c H1 locs1 cells slots Q (F0 m (pc + 3) ls rest)) : W p l e R s m args below meth c H locs cells slots Q (F0 m pc ls (.int (nI k) :: .int 0 :: .ref a :: .int 0 :: .ref a0 :: rest)) := by
  have ek : (nI k).toNatClampNeg = k := nI_clamp (by omega)
  have e0 : (0 : Int32).toNatClampNeg = 0 := by decide
  refine va_copyi (ty := .int) hx hb hml hown hlink hnat hstat hini hK hP hD hS q0 q1 0 0 ha0 ha1 rfl rfl rfl (by decide) (by decide) (nI_pos (by omega)) (by rw [ek, e0]; omega) (by rw [ek, e0]; omega) (fun _ _ => rfl) hframes hlocals hdg ?_
  rw [ek, e0]
  exact kk
/-- a static void method of any class, on cells handed in -/
theorem wSv {S : Type} {post : S → Prop} {Wf : S → va_W} (hx : p.tables.exec = Jvm.exec) (hb : c.code = cc) (hml : c.maxLocals = nL) (hown : s.vm.findClass own = some m.cls) (hA : ∀ w ∈ cA, w.before args s = true)
    (hM : Met l y (wsm y bytes maxL ret) rm (va_Pc As (fun U => U.heap.size = H.size ∧ cPre D wc U)) (va_Qv post (fun u t => xB D (Wf u) (va_A wc H.size) t) (va_A wc H.size)) mc ms (va_A wc H.size))
    (wds : Cond.code y bytes maxL ret ∈ cA ∧ Cond.initialized y.cls ∈ cA ∧ Cond.methodLink own index y ∈ cA ∧ Cond.static y ∈ cA)
    (hd : y.cls ≠ "java/lang/invoke/MethodHandle" ∧ y.cls ≠ "java/lang/invoke/VarHandle" ∧ (parseMethodDescriptor y.desc).map (fun d => d.parameters.length) = some n)
    (hrm : rm.cells = mc ∧ rm.slots = ms ∧ rm.frames + 1 ≤ R.frames ∧ 8 + (maxL + 11) + rm.locals ≤ R.locals) (hn : As.length = n) (hsz : ls.size = nL) (hcs : cells + mc ≤ R.cells ∧ slots + ms ≤ R.slots)
    (hP : va_P D vwCl ws H) (hK : va_K D vwCl (vT D) s) (hD : va_D A ws) (hS : va_S A H0 H locs) (hAA : ∀ q, H0.size ≤ q → A q) (hN : xN s) (isC isR : List Nat) (hC : isC.map (fun i => ws[i]?) = wc.map some) (hR : isR.map (fun i => ws[i]?) = wr.map some) (hnC : va_nd isC = true) (hnR : va_nd isR = true) (hdis : ∀ i ∈ isR, i ∉ isC)
    (hst : st0 = As.reverse ++ rest) (hroom : (rest.map fun v => v.category).sum ≤ 8) (hdg : decode cc pc = .ok (.invokestatic index, 3))
    (kk : ∀ (u : S) (H1 : Heap) (locs1 : List Loc), post u → va_P D vwCl (wr ++ Wf u) H1 → va_D A (wr ++ Wf u) → va_S A H0 H1 locs1 → W p l e R s m args below meth c H1 locs1 (cells + mc) (slots + ms) Q (F0 m (pc + 3) ls rest)) : W p l e R s m args below meth c H locs cells slots Q (F0 m pc ls st0) := by
  obtain ⟨w1, w2, w3, w4⟩ := wds
  obtain ⟨r1, r2, r3, r4⟩ := hrm
  have hPc := hP.sub1 isC hC
  have hDc := hD.sub isC hnC hC
  have hFc := va_free (wc := wc) hD hS hAA isC hC
  exact va_callv (va_runS (Ts := cA) ⟨hx, hb, hml, hown, hA⟩ hM ⟨callB_of n hA (gdA w1) rfl r1 r2 (hA _ w2) (hA _ w3) hd ⟨r3, r4⟩, hA _ w4⟩ ⟨pre_blindW, pre_atW _ hPc hK hDc hN⟩ rfl hn hsz hst (lv_room hroom) hdg hcs) hS (fun q _ h => hFc q h) hFc
    (fun u t H1 locs1 ht hvm hp hB hz hk hS1 => by
      obtain ⟨j1, j2⟩ := jn hP hD isC isR hC hR hnR hdis hk hFc ht hB
      exact kk u H1 locs1 hp j1 j2 hS1)
end
