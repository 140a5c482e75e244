section
abbrev iv (n : Nat) (i : Int32) : Prop := ¬ i < 0 ∧ ¬ nI n ≤ i
abbrev iva (n : Nat) (i : Int32) : Prop := i = -1 ∨ iv n i
abbrev ivs (n : Nat) (t : Int32) : Prop := ¬ t < 0 ∧ ¬ (1 : Int32) <<< (nI n &&& 31) ≤ t
abbrev wi (x y : Int32) : Prop := ¬ x < -y ∧ ¬ y < x
abbrev inS (i t : Int32) : Prop := (t >>> (i &&& 31)) &&& 1 = 1
/-- the next point: from place i - 1 down -/
def nx (lo hi : Nat → Int32) : Nat → (Nat → Int32) → (Nat → Int32)
  | 0, x => x
  | i + 1, x => if x i < hi i then upd x i (x i + 1) else nx lo hi i (upd x i (lo i))
abbrev asok (av al ah x : Nat → Int32) (m : Nat) : Prop := ¬ x (av m).toNatClampNeg < al m ∧ x (av m).toNatClampNeg ≤ ah m
abbrev asall (a : Nat) (av al ah x : Nat → Int32) : Prop := ∀ m, m < a → asok av al ah x m
/-- the points are split: from the last one down -/
def spI (w P j : Nat) (B Bc : Nat → Int32) : Prop := (∀ p, p < j → Bc p = B p) ∧ ∀ p, j ≤ p → p < P → ∀ r, r < w → Bc (p * w + r) = B p
def spJ (w P j r : Nat) (B Bc : Nat → Int32) : Prop := (∀ p, p < j → Bc p = B p) ∧ (∀ p, j + 1 ≤ p → p < P → ∀ t, t < w → Bc (p * w + t) = B p) ∧ ∀ t, t < r → Bc (j * w + t) = B j
theorem spI_0 (w P : Nat) (B : Nat → Int32) : spI w P P B B := ⟨fun _ _ => rfl, fun p h1 h2 => absurd h2 (by omega)⟩
theorem spI_J {w P j : Nat} {B Bc : Nat → Int32} (h : spI w P (j + 1) B Bc) : spJ w P j 0 B Bc := ⟨fun p hp => h.1 p (by omega), h.2, fun t ht => absurd ht (by omega)⟩
theorem spJ_I {w P j : Nat} {B Bc : Nat → Int32} (h : spJ w P j w B Bc) : spI w P j B Bc := by
  refine ⟨h.1, fun p h1 h2 r hr => ?_⟩
  by_cases e : p = j
  · rw [e]; exact h.2.2 r hr
  · exact h.2.1 p (by omega) h2 r hr
theorem spJ_s {w P j r : Nat} {B Bc : Nat → Int32} (hw : 0 < w) (hr : r < w) (h : spJ w P j r B Bc) : spJ w P j (r + 1) B (upd Bc (j * w + r) (B j)) := by
  have hjw : j ≤ j * w := Nat.le_mul_of_pos_right j hw
  refine ⟨fun p hp => ?_, fun p h1 h2 t ht => ?_, fun t ht => ?_⟩
  · rw [pk_un (by omega)]; exact h.1 p hp
  · have h3 : (j + 1) * w ≤ p * w := Nat.mul_le_mul_right w h1
    rw [Nat.succ_mul] at h3
    rw [pk_un (by omega)]; exact h.2.1 p h1 h2 t ht
  · by_cases e : t = r
    · rw [e, pk_us]
    · rw [pk_un (by omega)]; exact h.2.2 t (by omega)
theorem sp_lt {w P j r : Nat} (hj : j < P) (hr : r < w) (h : P * w ≤ 4096) : j * w + r < 4096 := by
  have h1 : (j + 1) * w ≤ P * w := Nat.mul_le_mul_right w hj
  rw [Nat.succ_mul] at h1
  omega
/-- a constraint is added: number k, over t points from p on -/
def aF (lo hi : Nat → Int32) (n k : Nat) (f : (Nat → Int32) → Bool) : Nat → Nat → (Nat → Int32) → (Nat → Int32) → (Nat → Int32) × (Nat → Int32)
  | 0, _, x, B => (B, x)
  | t + 1, p, x, B => aF lo hi n k f t (p + 1) (nx lo hi n x) (if B p = 12 ∧ f x = false then upd B p (nI k) else B)
/-- a constraint is dropped -/
def dF (k : Nat) : Nat → Nat → (Nat → Int32) → (Nat → Int32)
  | 0, _, B => B
  | t + 1, p, B => dF k t (p + 1) (if B p = nI k then upd B p 12 else B)
/-- the search -/
def sF (B lo hi : Nat → Int32) (n : Nat) (ok : (Nat → Int32) → Bool) (w g : Int32) (i : Nat) : Nat → Nat → (Nat → Int32) → (Nat → Int32) → Bool → Bool × (Nat → Int32) × (Nat → Int32)
  | 0, _, x, fd, any => (any, x, fd)
  | t + 1, p, x, fd, any =>
    if B p = 12 ∧ ok x = true ∧ (any = false ∨ w * x i < w * fd i) then
      (if w * x i = g then (true, x, va_cpy x fd 0 0 n) else sF B lo hi n ok w g i t (p + 1) (nx lo hi n x) (va_cpy x fd 0 0 n) true)
    else sF B lo hi n ok w g i t (p + 1) (nx lo hi n x) fd any
abbrev sG (w : Int32) (lo hi : Nat → Int32) (i : Nat) : Int32 := if w * hi i < w * lo i then w * hi i else w * lo i
abbrev srF (n P a : Nat) (lo hi B av al ah pt fd : Nat → Int32) (i w : Int32) : Bool × (Nat → Int32) × (Nat → Int32) :=
  sF B lo hi n (fun x => decide (asall a av al ah x)) w (sG w lo hi i.toNatClampNeg) i.toNatClampNeg P 0 (va_cpy lo pt 0 0 n) fd false
abbrev XS : Type := Nat × Nat × Nat × Nat × Int32 × (Nat → Int32) × (Nat → Int32) × (Nat → Int32) × (Nat → Int32) × (Nat → Int32) × (Nat → Int32) × (Nat → Int32) × (Nat → Int32) × (Nat → Int32)
abbrev drP (n P k a : Nat) (z : Int32) (lo hi B av al ah an pt fd : Nat → Int32) (r : Int32) (u : XS) : Prop :=
  (k = 0 ∧ r = 0 ∧ u = (n, P, k, a, z, lo, hi, B, av, al, ah, an, pt, fd)) ∨ ∃ b, k = b + 1 ∧ r = 1 ∧ u = (n, P, b, a, 0, lo, hi, dF b P 0 B, av, al, ah, an, pt, fd)
theorem zb_n (b : Bool) : narrow .boolean (.int (zb b)) = .int (zb b) := by cases b <;> first | rfl | decide
theorem lt8 {a : Nat} (h : nI a < 8) (ha : a ≤ 8) : a < 8 := by
  rcases Nat.lt_or_ge a 8 with h1 | h1
  · exact h1
  · obtain rfl : a = 8 := by omega
    exact absurd h (by decide)
theorem iv_in {n : Nat} {i : Int32} (h : iv n i) (hn : n ≤ 8) : vp_in i 8 := by
  obtain ⟨j, hj, rfl⟩ := nI_of h.1
  rcases Nat.lt_or_ge j n with h1 | h1
  · exact vp_in_nI (by omega) (by decide)
  · exact absurd (nI_le h1 hj) h.2
-- the seven kinds, as the class works them out
abbrev lprod (f i : Int32) (x : Nat → Int32) : Int32 := if i = -1 then 0 else f * x i.toNatClampNeg
abbrev kLin (i a j b v c bd : Int32) (x : Nat → Int32) : Prop := ¬ bd < lprod a i x + lprod b j x + lprod c v x
abbrev kRei (r i j c : Int32) (x : Nat → Int32) : Prop := x r.toNatClampNeg < 1 ↔ x j.toNatClampNeg + c < x i.toNatClampNeg
abbrev mx2 (a b : Int32) : Int32 := if a < b then b else a
def mx3 (i j v : Int32) (x : Nat → Int32) : Int32 := if v = -1 then (if j = -1 then x i.toNatClampNeg else mx2 (x i.toNatClampNeg) (x j.toNatClampNeg)) else mx2 (if j = -1 then x i.toNatClampNeg else mx2 (x i.toNatClampNeg) (x j.toNatClampNeg)) (x v.toNatClampNeg)
abbrev kMax (r i j v : Int32) (x : Nat → Int32) : Prop := x r.toNatClampNeg = mx3 i j v x
abbrev kEle (r i : Int32) (tb : Int64) (x : Nat → Int32) : Prop := ¬ x i.toNatClampNeg < 0 ∧ ¬ 7 < x i.toNatClampNeg ∧ x r.toNatClampNeg = (tb >>> ((8 * x i.toNatClampNeg).toInt64 &&& 63)).toInt32.toInt8.toInt32
abbrev difB (v : Int32) : Int64 := 1 <<< ((v - (-20)).toInt64 &&& 63)
def kDif (st : Int32) (x : Nat → Int32) : Nat → Nat → Int64 → Bool
  | 0, _, _ => true
  | t + 1, i, sn => if inS (nI i) st then (if sn &&& difB (x i) = 0 then kDif st x t (i + 1) (sn ||| difB (x i)) else false) else kDif st x t (i + 1) sn
abbrev fbs (row : Int64) (i : Int32) : Int32 := (row >>> ((4 * i).toInt64 &&& 63)).toInt32 &&& 15
def cumN (st : Int32) (du ne : Int64) (mo : Int32) (x : Nat → Int32) : Nat → Nat → Int32 → Int32
  | 0, _, nd => nd
  | t + 1, i, nd => if inS (nI i) st ∧ ¬ mo < x i ∧ ¬ x i + fbs du (nI i) ≤ mo then cumN st du ne mo x t (i + 1) (nd + fbs ne (nI i)) else cumN st du ne mo x t (i + 1) nd
def kCum (st : Int32) (du ne : Int64) (cp : Int32) (x : Nat → Int32) : Nat → Nat → Bool
  | 0, _ => true
  | t + 1, i => if inS (nI i) st ∧ ¬ cumN st du ne (x i) x 8 0 0 ≤ cp then false else kCum st du ne cp x t (i + 1)
abbrev clP (v w pa how : Int32) (x : Nat → Int32) : Prop := ¬ v = -1 ∧ if inS pa how then ¬ x v.toNatClampNeg < w else ¬ w < x v.toNatClampNeg
abbrev kCla (i v j w k u how : Int32) (x : Nat → Int32) : Prop := clP i v 0 how x ∨ clP j w 1 how x ∨ clP k u 2 how x
theorem lg_cmp_z {x y : Int64} : lg_cmp x y = 0 ↔ x = y := by
  unfold lg_cmp
  constructor
  · intro h
    split at h
    · exact absurd h (by decide)
    · split at h
      · assumption
      · exact absurd h (by decide)
  · intro h
    subst h
    simp
abbrev vok (x y : Int32) : Prop := ¬ x < -20 ∧ ¬ y < x ∧ ¬ 20 < y ∧ y - x < 8
theorem vsz {x y : Int32} (h : vok x y) : ∃ v, 1 ≤ v ∧ v ≤ 8 ∧ y - x + 1 = nI v := by
  obtain ⟨h1, h2, h3, h4⟩ := h
  rw [Int32.lt_iff_toInt_lt] at h1 h2 h3
  have e20 : (20 : Int32).toInt = 20 := by decide
  have em : (-20 : Int32).toInt = -20 := by decide
  rw [em] at h1
  rw [e20] at h3
  have hs : (y - x).toInt = y.toInt - x.toInt := by
    rw [Int32.toInt_sub]
    exact Int.bmod_eq_of_le (by omega) (by omega)
  rw [Int32.lt_iff_toInt_lt, hs, show (8 : Int32).toInt = 8 by decide] at h4
  refine ⟨(y.toInt - x.toInt + 1).toNat, by omega, by omega, ?_⟩
  have h5 : (y - x + 1).toInt = y.toInt - x.toInt + 1 := by
    rw [Int32.toInt_add, hs, show (1 : Int32).toInt = 1 by decide]
    exact Int.bmod_eq_of_le (by omega) (by omega)
  apply Int32.toInt_inj.mp
  rw [h5, nI_toInt (by omega)]
  omega
theorem le4096 {P v : Nat} (h : nI (P * v) ≤ 4096) (hP : P ≤ 4096) (hv : v ≤ 8) : P * v ≤ 4096 := by
  have h1 : P * v ≤ 4096 * 8 := Nat.mul_le_mul hP hv
  rw [Int32.le_iff_toInt_le, nI_toInt (by omega), show (4096 : Int32).toInt = 4096 by decide] at h
  omega
abbrev addP (f : (Nat → Int32) → Bool) (n P k a : Nat) (z : Int32) (lo hi B av al ah an pt fd : Nat → Int32) (r : Int32) (u : XS) : Prop :=
  (¬ k < 12 ∧ r = -2 ∧ u = (n, P, k, a, z, lo, hi, B, av, al, ah, an, pt, fd)) ∨ (k < 12 ∧ r = nI k ∧ u = (n, P, k + 1, a, 0, lo, hi, (aF lo hi n k f P 0 (va_cpy lo pt 0 0 n) B).1, av, al, ah, an, (aF lo hi n k f P 0 (va_cpy lo pt 0 0 n) B).2, fd))
theorem lt12 {a : Nat} (h : nI a < 12) (ha : a ≤ 12) : a < 12 := by
  rcases Nat.lt_or_ge a 12 with h1 | h1
  · exact h1
  · obtain rfl : a = 12 := by omega
    exact absurd h (by decide)
theorem iva_in {n : Nat} {i : Int32} (h : iva n i) (hn : n ≤ 8) : i = -1 ∨ vp_in i 8 := h.elim Or.inl (fun h => Or.inr (iv_in h hn))
end
section
abbrev xw (D : va_G) (q : Nat → Nat) (n P k a : Nat) (z : Int32) (lo hi B av al ah an pt fd : Nat → Int32) : va_W := [(q 0, .inr (0, [.ref (q 1), .ref (q 2), .int (nI n), .ref (q 3), .int (nI P), .int (nI k), .ref (q 4), .ref (q 5), .ref (q 6), .int (nI a), .ref (q 7), .int (z), .ref (q 8), .ref (q 9)])), (q 1, .inl (D.1 100, 8, .inl lo)), (q 2, .inl (D.1 100, 8, .inl hi)), (q 3, .inl (D.1 100, 4096, .inl B)), (q 4, .inl (D.1 100, 8, .inl av)), (q 5, .inl (D.1 100, 8, .inl al)), (q 6, .inl (D.1 100, 8, .inl ah)), (q 7, .inl (D.1 100, 8, .inl an)), (q 8, .inl (D.1 100, 8, .inl pt)), (q 9, .inl (D.1 100, 8, .inl fd))]
abbrev xW (D : va_G) (q : Nat → Nat) (u : XS) : va_W := xw D q (u.1) (u.2.1) (u.2.2.1) (u.2.2.2.1) (u.2.2.2.2.1) (u.2.2.2.2.2.1) (u.2.2.2.2.2.2.1) (u.2.2.2.2.2.2.2.1) (u.2.2.2.2.2.2.2.2.1) (u.2.2.2.2.2.2.2.2.2.1) (u.2.2.2.2.2.2.2.2.2.2.1) (u.2.2.2.2.2.2.2.2.2.2.2.1) (u.2.2.2.2.2.2.2.2.2.2.2.2.1) (u.2.2.2.2.2.2.2.2.2.2.2.2.2)
end
