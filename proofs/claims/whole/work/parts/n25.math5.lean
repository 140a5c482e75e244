section
theorem iv_n1 {n : Nat} {i : Int32} (h : iv n i) : ¬ i = -1 := fun e => h.1 (by rw [e]; decide)
theorem tm_eq {n : Nat} {i a : Int32} {x : Nat → Int32} (h : iva n i) : tm i a x = lprod a i x := by
  unfold tm lprod
  rcases h with rfl | h
  · rw [if_neg (by decide), if_pos rfl]
  · rw [if_pos (Int32.not_lt.mp h.1), if_neg (iv_n1 h)]
theorem gst_a {m : Int32} {x : Nat → Int32} : gst m (-1) x = m := if_neg (fun h => h.1 (by decide))
theorem gst_v {n : Nat} {i m : Int32} {x : Nat → Int32} (h : iv n i) : gst m i x = mx2 m (x i.toNatClampNeg) := by
  unfold gst mx2
  by_cases hc : m < x i.toNatClampNeg
  · rw [if_pos ⟨h.1, Int32.not_le.mpr hc⟩, if_pos hc]
  · rw [if_neg (fun q => q.2 (Int32.not_lt.mp hc)), if_neg hc]
theorem mx_eq {n : Nat} {i j v : Int32} {x : Nat → Int32} (hj : iva n j) (hv : iva n v) : gst (gst (x i.toNatClampNeg) j x) v x = mx3 i j v x := by
  unfold mx3
  rcases hj with rfl | hj <;> rcases hv with rfl | hv
  · rw [gst_a, gst_a, if_pos rfl, if_pos rfl]
  · rw [gst_a, gst_v hv, if_neg (iv_n1 hv), if_pos rfl]
  · rw [gst_a, gst_v hj, if_pos rfl, if_neg (iv_n1 hj)]
  · rw [gst_v hv, gst_v hj, if_neg (iv_n1 hv), if_neg (iv_n1 hj)]
theorem neg_iff {n : Nat} {i : Int32} (h : iva n i) : ¬ i < 0 ↔ ¬ i = -1 := by
  rcases h with rfl | h
  · exact ⟨fun h => absurd (by decide) h, fun h => absurd rfl h⟩
  · exact ⟨fun _ => iv_n1 h, fun _ => h.1⟩
theorem pt_eq {n : Nat} {i v pa how : Int32} {x : Nat → Int32} (h : iva n i) : oPt i v pa how x ↔ clP i v pa how x := by
  unfold oPt clP
  rw [neg_iff h]
theorem dec_iff {P Q : Prop} [Decidable P] [Decidable Q] (h : P ↔ Q) : decide P = decide Q := by
  by_cases hp : P
  · rw [decide_eq_true hp, decide_eq_true (h.mp hp)]
  · rw [decide_eq_false hp, decide_eq_false (fun q => hp (h.mpr q))]
/-- a row of the reference, and the class's function of points for it -/
def KR (n : Nat) (f : (Nat → Int32) → Bool) (kd : Int32) (p : Nat → Int32) (w0 w1 : Int64) : Prop :=
  (kd = 0 ∧ (iva n (p 0) ∧ iva n (p 2) ∧ iva n (p 4)) ∧ f = fun x => decide (kLin (p 0) (p 1) (p 2) (p 3) (p 4) (p 5) (p 6) x)) ∨
  (kd = 1 ∧ (iv n (p 0) ∧ iv n (p 1) ∧ iv n (p 2)) ∧ f = fun x => decide (kRei (p 0) (p 1) (p 2) (p 3) x)) ∨
  (kd = 2 ∧ (iv n (p 0) ∧ iv n (p 1) ∧ iva n (p 2) ∧ iva n (p 3)) ∧ f = fun x => decide (kMax (p 0) (p 1) (p 2) (p 3) x)) ∨
  (kd = 3 ∧ (iv n (p 0) ∧ iv n (p 1)) ∧ f = fun x => decide (kEle (p 0) (p 1) w0 x)) ∨
  (kd = 4 ∧ ivs n (p 0) ∧ f = fun x => kDif (p 0) x 8 0 0) ∨
  (kd = 5 ∧ ivs n (p 0) ∧ f = fun x => kCum (p 0) w0 w1 (p 1) x 8 0) ∨
  (kd = 6 ∧ (iva n (p 0) ∧ iva n (p 2) ∧ iva n (p 4)) ∧ f = fun x => decide (kCla (p 0) (p 1) (p 2) (p 3) (p 4) (p 5) (p 6) x))
theorem KR_m {n : Nat} {f : (Nat → Int32) → Bool} {kd : Int32} {p : Nat → Int32} {w0 w1 : Int64} (h : KR n f kd p w0 w1) (hn : n + 1 ≤ 8) : KR (n + 1) f kd p w0 w1 := by
  rcases h with ⟨h1, ⟨a, b, c⟩, h3⟩ | ⟨h1, ⟨a, b, c⟩, h3⟩ | ⟨h1, ⟨a, b, c, d⟩, h3⟩ | ⟨h1, ⟨a, b⟩, h3⟩ | ⟨h1, a, h3⟩ | ⟨h1, a, h3⟩ | ⟨h1, ⟨a, b, c⟩, h3⟩
  · exact Or.inl ⟨h1, ⟨iva_m a hn, iva_m b hn, iva_m c hn⟩, h3⟩
  · exact Or.inr (Or.inl ⟨h1, ⟨iv_m a hn, iv_m b hn, iv_m c hn⟩, h3⟩)
  · exact Or.inr (Or.inr (Or.inl ⟨h1, ⟨iv_m a hn, iv_m b hn, iva_m c hn, iva_m d hn⟩, h3⟩))
  · exact Or.inr (Or.inr (Or.inr (Or.inl ⟨h1, ⟨iv_m a hn, iv_m b hn⟩, h3⟩)))
  · exact Or.inr (Or.inr (Or.inr (Or.inr (Or.inl ⟨h1, ivs_m a hn, h3⟩))))
  · exact Or.inr (Or.inr (Or.inr (Or.inr (Or.inr (Or.inl ⟨h1, ivs_m a hn, h3⟩)))))
  · exact Or.inr (Or.inr (Or.inr (Or.inr (Or.inr (Or.inr ⟨h1, ⟨iva_m a hn, iva_m b hn, iva_m c hn⟩, h3⟩)))))
theorem KR_c {n : Nat} {f : (Nat → Int32) → Bool} {kd : Int32} {p p' : Nat → Int32} {w0 w1 : Int64} (h : KR n f kd p w0 w1) (hp : ∀ j, j < 7 → p' j = p j) : KR n f kd p' w0 w1 := by
  unfold KR at h ⊢
  rw [hp 0 (by omega), hp 1 (by omega), hp 2 (by omega), hp 3 (by omega), hp 4 (by omega), hp 5 (by omega), hp 6 (by omega)]
  exact h
theorem bx_iv {n : Nat} {i : Int32} (h : iv n i) (hn : n ≤ 8) : bx i := fun _ => iv_in h hn
theorem bx_iva {n : Nat} {i : Int32} (h : iva n i) (hn : n ≤ 8) : bx i := fun q => (iva_in h hn).resolve_left ((neg_iff h).mp q)
theorem KR_ok {n : Nat} {f : (Nat → Int32) → Bool} {kd : Int32} {p : Nat → Int32} {w0 w1 : Int64} (h : KR n f kd p w0 w1) (hn : n ≤ 8) : rowOk kd p := by
  rcases h with ⟨h1, ⟨a, b, c⟩, h3⟩ | ⟨h1, ⟨a, b, c⟩, h3⟩ | ⟨h1, ⟨a, b, c, d⟩, h3⟩ | ⟨h1, ⟨a, b⟩, h3⟩ | ⟨h1, a, h3⟩ | ⟨h1, a, h3⟩ | ⟨h1, ⟨a, b, c⟩, h3⟩
  · exact Or.inl ⟨h1, bx_iva a hn, bx_iva b hn, bx_iva c hn⟩
  · exact Or.inr (Or.inl ⟨h1, iv_in a hn, iv_in b hn, iv_in c hn⟩)
  · exact Or.inr (Or.inr (Or.inl ⟨h1, iv_in a hn, iv_in b hn, bx_iva c hn, bx_iva d hn⟩))
  · exact Or.inr (Or.inr (Or.inr (Or.inl ⟨h1, iv_in a hn, iv_in b hn⟩)))
  · exact Or.inr (Or.inr (Or.inr (Or.inr (Or.inl h1))))
  · exact Or.inr (Or.inr (Or.inr (Or.inr (Or.inr (Or.inl h1)))))
  · exact Or.inr (Or.inr (Or.inr (Or.inr (Or.inr (Or.inr ⟨h1, bx_iva a hn, bx_iva b hn, bx_iva c hn⟩)))))
theorem KR_sat {n : Nat} {f : (Nat → Int32) → Bool} {kd : Int32} {p : Nat → Int32} {w0 w1 : Int64} {x : Nat → Int32} (h : KR n f kd p w0 w1) (hn : n ≤ 8) (hx : inr n x) : oSat n kd p w0 w1 x = f x := by
  rcases h with ⟨h1, ⟨a, b, c⟩, h3⟩ | ⟨h1, ⟨a, b, c⟩, h3⟩ | ⟨h1, ⟨a, b, c, d⟩, h3⟩ | ⟨h1, ⟨a, b⟩, h3⟩ | ⟨h1, a, h3⟩ | ⟨h1, a, h3⟩ | ⟨h1, ⟨a, b, c⟩, h3⟩
  · rw [oSat_0 h1, h3]
    exact dec_iff (by unfold oLin kLin; rw [tm_eq a, tm_eq b, tm_eq c])
  · rw [oSat_1 h1, h3]
  · rw [oSat_2 h1, h3]
    exact dec_iff (by unfold oMax kMax; rw [mx_eq c d])
  · rw [oSat_3 h1, h3]
    exact dec_iff (by unfold oEle kEle; rw [Int32.not_lt (a := 7)])
  · rw [oSat_4 h1, h3]
    exact kDif_eq hn a hx
  · rw [oSat_5 h1, h3]
    exact kCum_eq hn a
  · rw [oSat_6 h1, h3]
    exact dec_iff (by unfold oAny kCla; rw [pt_eq a, pt_eq b, pt_eq c]; exact Iff.rfl)
-- what a function looks at
theorem agv {n : Nat} {i : Int32} {x y : Nat → Int32} (h : iv n i) (hn : n ≤ 8) (hxy : agr n x y) : x i.toNatClampNeg = y i.toNatClampNeg := hxy _ (iv_lt h hn)
theorem lprod_agr {n : Nat} {i a : Int32} {x y : Nat → Int32} (h : iva n i) (hn : n ≤ 8) (hxy : agr n x y) : lprod a i x = lprod a i y := by
  unfold lprod
  rcases h with rfl | h
  · rw [if_pos rfl, if_pos rfl]
  · rw [agv h hn hxy]
theorem gst_agr {n : Nat} {i m : Int32} {x y : Nat → Int32} (h : iva n i) (hn : n ≤ 8) (hxy : agr n x y) : gst m i x = gst m i y := by
  rcases h with rfl | h
  · rw [gst_a, gst_a]
  · rw [gst_v h, gst_v h, agv h hn hxy]
theorem mx3_agr {n : Nat} {i j v : Int32} {x y : Nat → Int32} (hi : iv n i) (hj : iva n j) (hv : iva n v) (hn : n ≤ 8) (hxy : agr n x y) : mx3 i j v x = mx3 i j v y := by
  rw [← mx_eq hj hv, ← mx_eq hj hv, agv hi hn hxy, gst_agr hj hn hxy, gst_agr hv hn hxy]
theorem clP_agr {n : Nat} {i v pa how : Int32} {x y : Nat → Int32} (h : iva n i) (hn : n ≤ 8) (hxy : agr n x y) : clP i v pa how x ↔ clP i v pa how y := by
  unfold clP
  rcases h with rfl | h
  · exact ⟨fun q => absurd rfl q.1, fun q => absurd rfl q.1⟩
  · rw [agv h hn hxy]
theorem kDif_agr {n : Nat} {st : Int32} {x y : Nat → Int32} (hn : n ≤ 8) (hst : ivs n st) (hxy : agr n x y) : ∀ (t i : Nat) (sn : Int64), i + t = 8 → kDif st x t i sn = kDif st y t i sn
  | 0, _, _, _ => rfl
  | t + 1, i, sn, h => by
    simp only [kDif]
    by_cases hs : inS (nI i) st
    · rw [if_pos hs, if_pos hs, hxy i (inS_lt hst hn (by omega) hs), kDif_agr hn hst hxy t (i + 1) _ (by omega)]
    · rw [if_neg hs, if_neg hs, kDif_agr hn hst hxy t (i + 1) _ (by omega)]
theorem cumN_agr {n : Nat} {st : Int32} {du ne : Int64} {mo : Int32} {x y : Nat → Int32} (hn : n ≤ 8) (hst : ivs n st) (hxy : agr n x y) : ∀ (t i : Nat) (nd : Int32), i + t = 8 → cumN st du ne mo x t i nd = cumN st du ne mo y t i nd
  | 0, _, _, _ => rfl
  | t + 1, i, nd, h => by
    simp only [cumN]
    by_cases hs : inS (nI i) st
    · rw [hxy i (inS_lt hst hn (by omega) hs), cumN_agr hn hst hxy t (i + 1) _ (by omega), cumN_agr hn hst hxy t (i + 1) _ (by omega)]
    · rw [if_neg (fun q => hs q.1), if_neg (fun q => hs q.1), cumN_agr hn hst hxy t (i + 1) _ (by omega)]
theorem kCum_agr {n : Nat} {st : Int32} {du ne : Int64} {cp : Int32} {x y : Nat → Int32} (hn : n ≤ 8) (hst : ivs n st) (hxy : agr n x y) : ∀ (t i : Nat), i + t = 8 → kCum st du ne cp x t i = kCum st du ne cp y t i
  | 0, _, _ => rfl
  | t + 1, i, h => by
    simp only [kCum]
    by_cases hs : inS (nI i) st
    · rw [hxy i (inS_lt hst hn (by omega) hs), cumN_agr hn hst hxy 8 0 0 (by omega), kCum_agr hn hst hxy t (i + 1) (by omega)]
    · rw [if_neg (fun q => hs q.1), if_neg (fun q => hs q.1), kCum_agr hn hst hxy t (i + 1) (by omega)]
theorem KR_sup {n : Nat} {f : (Nat → Int32) → Bool} {kd : Int32} {p : Nat → Int32} {w0 w1 : Int64} (h : KR n f kd p w0 w1) (hn : n ≤ 8) : sup n f := by
  intro x y hxy
  rcases h with ⟨h1, ⟨a, b, c⟩, h3⟩ | ⟨h1, ⟨a, b, c⟩, h3⟩ | ⟨h1, ⟨a, b, c, d⟩, h3⟩ | ⟨h1, ⟨a, b⟩, h3⟩ | ⟨h1, a, h3⟩ | ⟨h1, a, h3⟩ | ⟨h1, ⟨a, b, c⟩, h3⟩
  · rw [h3]
    exact dec_iff (by unfold kLin; rw [lprod_agr a hn hxy, lprod_agr b hn hxy, lprod_agr c hn hxy])
  · rw [h3]
    exact dec_iff (by unfold kRei; rw [agv a hn hxy, agv b hn hxy, agv c hn hxy])
  · rw [h3]
    exact dec_iff (by unfold kMax; rw [agv a hn hxy, mx3_agr b c d hn hxy])
  · rw [h3]
    exact dec_iff (by unfold kEle; rw [agv a hn hxy, agv b hn hxy])
  · rw [h3]
    exact kDif_agr hn a hxy 8 0 0 (by omega)
  · rw [h3]
    exact kCum_agr hn a hxy 8 0 (by omega)
  · rw [h3]
    exact dec_iff (by unfold kCla; rw [clP_agr a hn hxy, clP_agr b hn hxy, clP_agr c hn hxy])
theorem asall_agr {n a : Nat} {av al ah x y : Nat → Int32} (hn : n ≤ 8) (hav : ∀ m, m < a → iv n (av m)) (hxy : agr n x y) : asall a av al ah x ↔ asall a av al ah y := by
  constructor
  · intro h m hm
    have h1 := h m hm
    unfold asok at h1 ⊢
    rw [← agv (hav m hm) hn hxy]; exact h1
  · intro h m hm
    have h1 := h m hm
    unfold asok at h1 ⊢
    rw [agv (hav m hm) hn hxy]; exact h1
end
