section
theorem d_W_law_0 : decode code 0 = .ok (.new 7, 3) := by decide +kernel
theorem d_W_law_3 : decode code 3 = .ok (.dup, 1) := by decide +kernel
theorem d_W_law_4 : decode code 4 = .ok (.invokespecial 9, 3) := by decide +kernel
theorem d_W_law_7 : decode code 7 = .ok (.astore_n 1, 1) := by decide +kernel
theorem d_W_law_8 : decode code 8 = .ok (.new 10, 3) := by decide +kernel
theorem d_W_law_11 : decode code 11 = .ok (.dup, 1) := by decide +kernel
theorem d_W_law_12 : decode code 12 = .ok (.invokespecial 12, 3) := by decide +kernel
theorem d_W_law_15 : decode code 15 = .ok (.astore_n 2, 1) := by decide +kernel
theorem d_W_law_16 : decode code 16 = .ok (.iconst 0, 1) := by decide +kernel
theorem d_W_law_17 : decode code 17 = .ok (.istore_n 3, 1) := by decide +kernel
theorem d_W_law_18 : decode code 18 = .ok (.iload_n 3, 1) := by decide +kernel
theorem d_W_law_19 : decode code 19 = .ok (.aload_n 0, 1) := by decide +kernel
theorem d_W_law_20 : decode code 20 = .ok (.arraylength, 1) := by decide +kernel
theorem d_W_law_21 : decode code 21 = .ok (.bipush 8, 2) := by decide +kernel
theorem d_W_law_23 : decode code 23 = .ok (.isub, 1) := by decide +kernel
theorem d_W_law_24 : decode code 24 = .ok (.if_icmp .gt 923, 3) := by decide +kernel
theorem d_W_law_27 : decode code 27 = .ok (.aload_n 0, 1) := by decide +kernel
theorem d_W_law_28 : decode code 28 = .ok (.iload_n 3, 1) := by decide +kernel
theorem d_W_law_29 : decode code 29 = .ok (.iaload, 1) := by decide +kernel
theorem d_W_law_30 : decode code 30 = .ok (.bipush 31, 2) := by decide +kernel
theorem d_W_law_32 : decode code 32 = .ok (.iand, 1) := by decide +kernel
theorem d_W_law_33 : decode code 33 = .ok (.tableswitch 908 0 20 #[99, 132, 219, 272, 325, 398, 421, 536, 623, 636, 679, 692, 705, 754, 777, 800, 823, 856, 869, 882, 895], 99) := by decide +kernel
theorem d_W_law_941 : decode code 941 = .ok (.iinc 3 8, 3) := by decide +kernel
theorem d_W_law_944 : decode code 944 = .ok (.goto (-926), 3) := by decide +kernel
theorem d_W_law_947 : decode code 947 = .ok (.iconst 1, 1) := by decide +kernel
theorem d_W_law_948 : decode code 948 = .ok (.ireturn, 1) := by decide +kernel
theorem lw_cmp {L j : Nat} (hL : L ≤ 4096) (hj : 8 * j ≤ L) : (nI L - 8 < nI (8 * j)) ↔ L < 8 * j + 8 := by
  rw [Int32.lt_iff_toInt_lt, show (8 : Int32) = nI 8 from rfl, pk_sub_toInt (by omega) (by omega), nI_toInt (by omega)]
  omega
theorem lw_head {p : Program} {e : Env} {s : State} {m : MethodId} {below : List Frame} {meth : Method} {c : Code} (l : Launch) {b L : Nat} {xs : Nat → Int32} {D : va_G} {qx qo : Nat → Nat} (hx : p.tables.exec = Jvm.exec) (hb : c.code = code) (hml : c.maxLocals = 4) (hown : s.vm.findClass R_W = some m.cls) (hA : ∀ w ∈ cA, w.before #[Value.ref b] s = true) (hN : xN s) (hK : va_K D vwCl (vT D) s) (hX : va_X b L xs s s.heap) (hbl : b < s.heap.size) {j : Nat} (hj : 8 * j ≤ L) (hL : L ≤ 4096) {u : XS} {v : OS} {H : Heap} {locs : List Loc} {ls : Array Slot} {cells slots : Nat} (hl : lv_has ls 4 [(3, .int (nI (8 * j))), (2, .ref (qo 0)), (1, .ref (qx 0)), (0, .ref b)]) (hS : va_S (AL s) s.heap H locs)
    (kx : L < 8 * j + 8 → W p l e room_1 s m #[Value.ref b] below meth c H locs cells slots (lw_Z below #[Value.ref b] s) (F0 m 947 ls []))
    (kb : 8 * j + 8 ≤ L → W p l e room_1 s m #[Value.ref b] below meth c H locs cells slots (lw_Z below #[Value.ref b] s) (F0 m 27 ls [])) : W p l e room_1 s m #[Value.ref b] below meth c H locs cells slots (lw_Z below #[Value.ref b] s) (F0 m 18 ls []) := by
  have hbA : ¬ AL s b := Nat.not_le.mpr hbl
  refine lv_iload_n hx hb d_W_law_18 rfl (lv_at hl 0 rfl) ?_
  refine lv_aload_n hx hb d_W_law_19 rfl (lv_at hl 3 rfl) ?_
  refine va_slen hx hb hX hbl hbA hS d_W_law_20 ?_
  refine topi_to (v := nI L) rfl ?_
  refine lv_bipush (v := 8) hx hb d_W_law_21 (by decide) ?_
  refine lv_isub hx hb d_W_law_23 ?_
  exact lv_icmp_gt (tgt := 947) hx hb d_W_law_24 (by decide) (fun h => kx ((lw_cmp hL hj).mp h)) (fun h => kb (Nat.not_lt.mp (fun h2 => h ((lw_cmp hL hj).mpr h2))))
set_option maxRecDepth 100000 in
theorem lw_disp {p : Program} {e : Env} {s : State} {m : MethodId} {below : List Frame} {meth : Method} {c : Code} (l : Launch) {b L : Nat} {xs : Nat → Int32} {D : va_G} {qx qo : Nat → Nat} (hx : p.tables.exec = Jvm.exec) (hb : c.code = code) (hml : c.maxLocals = 4) (hown : s.vm.findClass R_W = some m.cls) (hA : ∀ w ∈ cA, w.before #[Value.ref b] s = true) (hN : xN s) (hK : va_K D vwCl (vT D) s) (hX : va_X b L xs s s.heap) (hbl : b < s.heap.size) {j : Nat} (hj : 8 * j + 8 ≤ L) (hL : L ≤ 4096) {u : XS} {v : OS} (hI : IU u v) {H : Heap} {locs : List Loc} {ls : Array Slot} {cells slots : Nat} (hc : cells + 1 ≤ 600000) (hs : slots + 7 ≤ 7302250) (hl : lv_has ls 4 [(3, .int (nI (8 * j))), (2, .ref (qo 0)), (1, .ref (qx 0)), (0, .ref b)]) (hP : va_P D vwCl (xW D qx u ++ oW D qo v) H) (hD : va_D (AL s) (xW D qx u ++ oW D qo v)) (hS : va_S (AL s) s.heap H locs)
    (kk : ∀ (u2 : XS) (v2 : OS) (H2 : Heap) (locs2 : List Loc), IU u2 v2 → va_P D vwCl (xW D qx u2 ++ oW D qo v2) H2 → va_D (AL s) (xW D qx u2 ++ oW D qo v2) → va_S (AL s) s.heap H2 locs2 → W p l e room_1 s m #[Value.ref b] below meth c H2 locs2 (cells + 1) (slots + 7) (lw_Z below #[Value.ref b] s) (F0 m 941 ls [])) :
    W p l e room_1 s m #[Value.ref b] below meth c H locs cells slots (lw_Z below #[Value.ref b] s) (F0 m 27 ls []) := by
  have hbA : ¬ AL s b := Nat.not_le.mpr hbl
  refine lv_aload_n hx hb d_W_law_27 rfl (lv_at hl 3 rfl) ?_
  refine lv_iload_n hx hb d_W_law_28 rfl (lv_at hl 0 rfl) ?_
  refine xs_ald hx hb hX hbl hbA hS (k := 8 * j) (by omega) (by omega) d_W_law_29 ?_
  refine lv_bipush (v := 31) hx hb d_W_law_30 (by decide) ?_
  refine lv_iand hx hb d_W_law_32 ?_
  obtain ⟨d, hd, he⟩ := pk_andE (xs (8 * j)) (m := 31) 5 (by decide)
  refine topi_to he ?_
  by_cases h21 : 21 ≤ d
  · refine lv_tableOut (tgt := 941) hx hb d_W_law_33 (Or.inr (by rw [nI_toInt (by omega)]; omega)) (by decide) ?_
    refine W.widen (k := cells + 1) (n := slots + 7) (by omega) (by omega) ?_
    exact kk u v H locs hI hP hD hS
  rcases (show d = 0 ∨ d = 1 ∨ d = 2 ∨ d = 3 ∨ d = 4 ∨ d = 5 ∨ d = 6 ∨ d = 7 ∨ d = 8 ∨ d = 9 ∨ d = 10 ∨ d = 11 ∨ d = 12 ∨ d = 13 ∨ d = 14 ∨ d = 15 ∨ d = 16 ∨ d = 17 ∨ d = 18 ∨ d = 19 ∨ d = 20 by omega) with rfl | rfl | rfl | rfl | rfl | rfl | rfl | rfl | rfl | rfl | rfl | rfl | rfl | rfl | rfl | rfl | rfl | rfl | rfl | rfl | rfl
  · exact lv_tableIn (off := 99) (tgt := 132) hx hb d_W_law_33 (by decide) (by decide) (by decide +kernel) (by decide) (lc_0 l hx hb hml hown hA hN hK hX hbl hj hL hI hc hs hl hP hD hS kk)
  · exact lv_tableIn (off := 132) (tgt := 165) hx hb d_W_law_33 (by decide) (by decide) (by decide +kernel) (by decide) (lc_1 l hx hb hml hown hA hN hK hX hbl hj hL hI hc hs hl hP hD hS kk)
  · exact lv_tableIn (off := 219) (tgt := 252) hx hb d_W_law_33 (by decide) (by decide) (by decide +kernel) (by decide) (lc_2 l hx hb hml hown hA hN hK hX hbl hj hL hI hc hs hl hP hD hS kk)
  · exact lv_tableIn (off := 272) (tgt := 305) hx hb d_W_law_33 (by decide) (by decide) (by decide +kernel) (by decide) (lc_3 l hx hb hml hown hA hN hK hX hbl hj hL hI hc hs hl hP hD hS kk)
  · exact lv_tableIn (off := 325) (tgt := 358) hx hb d_W_law_33 (by decide) (by decide) (by decide +kernel) (by decide) (lc_4 l hx hb hml hown hA hN hK hX hbl hj hL hI hc hs hl hP hD hS kk)
  · exact lv_tableIn (off := 398) (tgt := 431) hx hb d_W_law_33 (by decide) (by decide) (by decide +kernel) (by decide) (lc_5 l hx hb hml hown hA hN hK hX hbl hj hL hI hc hs hl hP hD hS kk)
  · exact lv_tableIn (off := 421) (tgt := 454) hx hb d_W_law_33 (by decide) (by decide) (by decide +kernel) (by decide) (lc_6 l hx hb hml hown hA hN hK hX hbl hj hL hI hc hs hl hP hD hS kk)
  · exact lv_tableIn (off := 536) (tgt := 569) hx hb d_W_law_33 (by decide) (by decide) (by decide +kernel) (by decide) (lc_7 l hx hb hml hown hA hN hK hX hbl hj hL hI hc hs hl hP hD hS kk)
  · exact lv_tableIn (off := 623) (tgt := 656) hx hb d_W_law_33 (by decide) (by decide) (by decide +kernel) (by decide) (lc_8 l hx hb hml hown hA hN hK hX hbl hj hL hI hc hs hl hP hD hS kk)
  · exact lv_tableIn (off := 636) (tgt := 669) hx hb d_W_law_33 (by decide) (by decide) (by decide +kernel) (by decide) (lc_9 l hx hb hml hown hA hN hK hX hbl hj hL hI hc hs hl hP hD hS kk)
  · exact lv_tableIn (off := 679) (tgt := 712) hx hb d_W_law_33 (by decide) (by decide) (by decide +kernel) (by decide) (lc_10 l hx hb hml hown hA hN hK hX hbl hj hL hI hc hs hl hP hD hS kk)
  · exact lv_tableIn (off := 692) (tgt := 725) hx hb d_W_law_33 (by decide) (by decide) (by decide +kernel) (by decide) (lc_11 l hx hb hml hown hA hN hK hX hbl hj hL hI hc hs hl hP hD hS kk)
  · exact lv_tableIn (off := 705) (tgt := 738) hx hb d_W_law_33 (by decide) (by decide) (by decide +kernel) (by decide) (lc_12 l hx hb hml hown hA hN hK hX hbl hj hL hI hc hs hl hP hD hS kk)
  · exact lv_tableIn (off := 754) (tgt := 787) hx hb d_W_law_33 (by decide) (by decide) (by decide +kernel) (by decide) (lc_13 l hx hb hml hown hA hN hK hX hbl hj hL hI hc hs hl hP hD hS kk)
  · exact lv_tableIn (off := 777) (tgt := 810) hx hb d_W_law_33 (by decide) (by decide) (by decide +kernel) (by decide) (lc_14 l hx hb hml hown hA hN hK hX hbl hj hL hI hc hs hl hP hD hS kk)
  · exact lv_tableIn (off := 800) (tgt := 833) hx hb d_W_law_33 (by decide) (by decide) (by decide +kernel) (by decide) (lc_15 l hx hb hml hown hA hN hK hX hbl hj hL hI hc hs hl hP hD hS kk)
  · exact lv_tableIn (off := 823) (tgt := 856) hx hb d_W_law_33 (by decide) (by decide) (by decide +kernel) (by decide) (lc_16 l hx hb hml hown hA hN hK hX hbl hj hL hI hc hs hl hP hD hS kk)
  · exact lv_tableIn (off := 856) (tgt := 889) hx hb d_W_law_33 (by decide) (by decide) (by decide +kernel) (by decide) (lc_17 l hx hb hml hown hA hN hK hX hbl hj hL hI hc hs hl hP hD hS kk)
  · exact lv_tableIn (off := 869) (tgt := 902) hx hb d_W_law_33 (by decide) (by decide) (by decide +kernel) (by decide) (lc_18 l hx hb hml hown hA hN hK hX hbl hj hL hI hc hs hl hP hD hS kk)
  · exact lv_tableIn (off := 882) (tgt := 915) hx hb d_W_law_33 (by decide) (by decide) (by decide +kernel) (by decide) (lc_19 l hx hb hml hown hA hN hK hX hbl hj hL hI hc hs hl hP hD hS kk)
  · exact lv_tableIn (off := 895) (tgt := 928) hx hb d_W_law_33 (by decide) (by decide) (by decide +kernel) (by decide) (lc_20 l hx hb hml hown hA hN hK hX hbl hj hL hI hc hs hl hP hD hS kk)
theorem lw_exit {p : Program} {e : Env} {s : State} {m : MethodId} {below : List Frame} {meth : Method} {c : Code} (l : Launch) {b L : Nat} {xs : Nat → Int32} {D : va_G} {qx qo : Nat → Nat} (hx : p.tables.exec = Jvm.exec) (hb : c.code = code) (hml : c.maxLocals = 4) (hown : s.vm.findClass R_W = some m.cls) (hA : ∀ w ∈ cA, w.before #[Value.ref b] s = true) (hN : xN s) (hK : va_K D vwCl (vT D) s) (hX : va_X b L xs s s.heap) (hbl : b < s.heap.size) (hr : meth.sig.returnType = ret) (hlocks : meth.locks = false) {H : Heap} {locs : List Loc} {ls : Array Slot} {cells slots : Nat} (hc : cells ≤ 600000) (hs : slots ≤ 7302250) (hS : va_S (AL s) s.heap H locs) : W p l e room_1 s m #[Value.ref b] below meth c H locs cells slots (lw_Z below #[Value.ref b] s) (F0 m 947 ls []) := by
  refine lv_iconst (v := 1) hx hb d_W_law_947 (by decide) ?_
  refine va_forget (fun q h => hS.2.2 q h) ?_
  refine W.widen (k := 600000) (n := 7302250) hc hs ?_
  exact lw_ret hx hb hr hlocks d_W_law_948
theorem lw_loop {p : Program} {e : Env} {s : State} {m : MethodId} {below : List Frame} {meth : Method} {c : Code} (l : Launch) {b L : Nat} {xs : Nat → Int32} {D : va_G} {qx qo : Nat → Nat} (hx : p.tables.exec = Jvm.exec) (hb : c.code = code) (hml : c.maxLocals = 4) (hown : s.vm.findClass R_W = some m.cls) (hA : ∀ w ∈ cA, w.before #[Value.ref b] s = true) (hN : xN s) (hK : va_K D vwCl (vT D) s) (hX : va_X b L xs s s.heap) (hbl : b < s.heap.size) (hr : meth.sig.returnType = ret) (hlocks : meth.locks = false) (hL : L ≤ 4096) (t : Nat) : ∀ (j : Nat) (u : XS) (v : OS) (H : Heap) (locs : List Loc) (ls : Array Slot) (cells slots : Nat), 8 * j ≤ L → L < 8 * (j + t) + 8 → IU u v → cells + t ≤ 600000 → slots + 7 * t ≤ 7302250 → lv_has ls 4 [(3, .int (nI (8 * j))), (2, .ref (qo 0)), (1, .ref (qx 0)), (0, .ref b)] → va_P D vwCl (xW D qx u ++ oW D qo v) H → va_D (AL s) (xW D qx u ++ oW D qo v) → va_S (AL s) s.heap H locs →
    W p l e room_1 s m #[Value.ref b] below meth c H locs cells slots (lw_Z below #[Value.ref b] s) (F0 m 18 ls []) := by
  induction t with
  | zero =>
    intro j u v H locs ls cells slots hj ht hI hc hs hl hP hD hS
    exact lw_head l hx hb hml hown hA hN hK hX hbl hj hL (u := u) (v := v) hl hS (fun _ => lw_exit (qx := qx) (qo := qo) l hx hb hml hown hA hN hK hX hbl hr hlocks (by omega) (by omega) hS) (fun h => absurd h (by omega))
  | succ t ih =>
    intro j u v H locs ls cells slots hj ht hI hc hs hl hP hD hS
    refine lw_head l hx hb hml hown hA hN hK hX hbl hj hL (u := u) (v := v) hl hS (fun _ => lw_exit (qx := qx) (qo := qo) l hx hb hml hown hA hN hK hX hbl hr hlocks (by omega) (by omega) hS) (fun h => ?_)
    refine lw_disp l hx hb hml hown hA hN hK hX hbl h hL hI (by omega) (by omega) hl hP hD hS (fun u2 v2 H2 locs2 hI2 hP2 hD2 hS2 => ?_)
    refine lv_iinc (v := nI (8 * (j + 1))) hx hb d_W_law_941 hl (k := 0) rfl (by rw [show 8 * (j + 1) = 8 * j + 8 from rfl, ← nI_add]; rfl) (by decide) rfl (fun ls hl => ?_)
    refine lv_goto (tgt := 18) hx hb d_W_law_944 (by decide) ?_
    exact ih (j + 1) u2 v2 H2 locs2 ls _ _ (by omega) (by omega) hI2 (by omega) (by omega) hl hP2 hD2 hS2
end
