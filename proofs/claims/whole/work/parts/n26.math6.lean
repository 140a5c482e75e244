section
def std (sz : Nat → Nat) : Nat → Nat → Nat
  | 0, _ => 1
  | n + 1, i => if i = n then 1 else std sz n i * sz n
theorem prd_pos {sz : Nat → Nat} : ∀ n, (∀ i, i < n → 1 ≤ sz i) → 1 ≤ prd sz n
  | 0, _ => Nat.le_refl 1
  | n + 1, h => Nat.mul_pos (prd_pos n (fun i hi => h i (by omega))) (h n (by omega))
theorem std_pos {sz : Nat → Nat} : ∀ (n i : Nat), (∀ i, i < n → 1 ≤ sz i) → 1 ≤ std sz n i
  | 0, _, _ => Nat.le_refl 1
  | n + 1, i, h => by
    simp only [std]
    by_cases e : i = n
    · rw [if_pos e]; exact Nat.le_refl 1
    · rw [if_neg e]
      exact Nat.mul_pos (std_pos n i (fun i hi => h i (by omega))) (h n (by omega))
theorem std_le {sz : Nat → Nat} : ∀ (n i : Nat), (∀ i, i < n → 1 ≤ sz i) → std sz n i ≤ prd sz n
  | 0, _, _ => Nat.le_refl 1
  | n + 1, i, h => by
    simp only [std, prd]
    by_cases e : i = n
    · rw [if_pos e]
      exact Nat.mul_pos (prd_pos n (fun i hi => h i (by omega))) (h n (by omega))
    · rw [if_neg e]
      exact Nat.mul_le_mul_right _ (std_le n i (fun i hi => h i (by omega)))
theorem pt_val {lo : Nat → Int32} {sz : Nat → Nat} : ∀ (n p i : Nat), i < n → ptA lo sz n p i = lo i + nI (p / std sz n i % sz i)
  | 0, _, _, h => absurd h (by omega)
  | n + 1, p, i, h => by
    simp only [ptA, std]
    by_cases e : i = n
    · rw [e, pk_us, if_pos rfl, Nat.div_one]
    · rw [pk_un e, if_neg e, pt_val n (p / sz n) i (by omega), Nat.div_div_eq_div_mul, Nat.mul_comm (sz n)]
theorem pt_rng {n : Nat} {lo hi : Nat → Int32} {sz : Nat → Nat} (hr : rng n lo hi sz) (p : Nat) {i : Nat} (h : i < n) : (lo i).toInt ≤ (ptA lo sz n p i).toInt ∧ (ptA lo sz n p i).toInt ≤ (hi i).toInt := by
  obtain ⟨b1, b2, b3, b4, b5⟩ := hr i h
  have hm : p / std sz n i % sz i < sz i := Nat.mod_lt _ (by omega)
  rw [pt_val n p i h, lo_add hr h hm]
  omega
theorem pt_inr {n : Nat} {lo hi : Nat → Int32} {sz : Nat → Nat} (hr : rng n lo hi sz) (p : Nat) : inr n (ptA lo sz n p) := fun i h => by
  obtain ⟨b1, b2, b3, b4, b5⟩ := hr i h
  obtain ⟨c1, c2⟩ := pt_rng hr p h
  omega
theorem vIn_eq {n : Nat} {lo hi lw s1 sd : Nat → Int32} {sz : Nat → Nat} (hr : rng n lo hi sz) (h4 : prd sz n ≤ 4096) {p i : Nat} (hi' : i < n) (hp : p < prd sz n) (h1 : lw i = lo i) (h2 : s1 i = nI (sz i)) (h3 : sd i = nI (std sz n i)) : vIn lw s1 sd (nI p) i = ptA lo sz n p i := by
  have hs : ∀ j, j < n → 1 ≤ sz j := fun j hj => (hr j hj).2.2.1
  obtain ⟨b1, b2, b3, b4, b5⟩ := hr i hi'
  have q1 := std_pos n i hs
  have q2 := std_le n i hs
  have q3 : p / std sz n i ≤ p := Nat.div_le_self _ _
  unfold vIn
  rw [h1, h2, h3, pk_div (by omega) (by omega) (by omega), pk_rem (by omega) (by omega) (by omega), pt_val n p i hi']
/-- THE TIE between the class's state and the reference's -/
def INV (n P k a : Nat) (z : Int32) (lo hi B av al ah ac : Nat → Int32) (kn an : Int32) (lw s1 sd kd pa : Nat → Int32) (wd : Nat → Int64) (ao fo uo ho : Nat → Int32) (sz : Nat → Nat) (K : Nat → (Nat → Int32) → Bool) : Prop :=
  (n ≤ 8 ∧ k ≤ 12 ∧ a ≤ 8 ∧ P ≤ 4096 ∧ P = prd sz n ∧ rng n lo hi sz) ∧
  (∀ i, i < n → lw i = lo i ∧ s1 i = nI (sz i) ∧ sd i = nI (std sz n i)) ∧
  (∀ r, r < k → KR n (K r) (kd r) (oRow pa r) (wd (2 * r)) (wd (2 * r + 1))) ∧
  (∀ p, p < P → B p = fb K k (ptA lo sz n p)) ∧
  (∀ m, m < a → ao m = av m ∧ fo m = al m ∧ uo m = ah m ∧ iv n (av m)) ∧
  lkP n P k a lw s1 sd kd pa wd ao fo uo kn ho ∧
  ((z = 0 ∧ an < 0) ∨ (z = 1 ∧ ∃ p, p < P ∧ an = nI p ∧ agr n ac (ptA lo sz n p)))
abbrev slv (a n : Nat) (lo B av al ah : Nat → Int32) (sz : Nat → Nat) (p : Nat) : Prop := B p = 12 ∧ asall a av al ah (ptA lo sz n p)
theorem zb_nz {Q : Prop} [Decidable Q] : ¬ zb (decide Q) = 0 ↔ Q := by
  by_cases h : Q
  · simp [zb, h]
  · simp [zb, h]
theorem nI_z {a : Nat} (h : 1 ≤ a) (h2 : a < 2 ^ 31) : ¬ nI a = 0 := nI_ne0 h h2
section
variable {n P k a : Nat} {z : Int32} {lo hi B av al ah ac : Nat → Int32} {kn an : Int32} {lw s1 sd kd pa : Nat → Int32} {wd : Nat → Int64} {ao fo uo ho : Nat → Int32} {sz : Nat → Nat} {K : Nat → (Nat → Int32) → Bool}
theorem INV.sd9 (I : INV n P k a z lo hi B av al ah ac kn an lw s1 sd kd pa wd ao fo uo ho sz K) : ∀ i, i < n → ¬ sd i = 0 ∧ ¬ s1 i = 0 := by
  obtain ⟨⟨hn, hk, ha, hP, hPe, hr⟩, h2, -⟩ := I
  intro i hi'
  have hs : ∀ j, j < n → 1 ≤ sz j := fun j hj => (hr j hj).2.2.1
  obtain ⟨b1, b2, b3, b4, b5⟩ := hr i hi'
  obtain ⟨e1, e2, e3⟩ := h2 i hi'
  have q1 := std_pos n i hs
  have q2 := std_le n i hs
  rw [e2, e3]
  exact ⟨nI_ne0 (by omega) (by omega), nI_ne0 (by omega) (by omega)⟩
theorem INV.ok9 (I : INV n P k a z lo hi B av al ah ac kn an lw s1 sd kd pa wd ao fo uo ho sz K) : ∀ r, r < k → rowOk (kd r) (oRow pa r) := fun r hr => KR_ok (I.2.2.1 r hr) I.1.1
theorem INV.av9 (I : INV n P k a z lo hi B av al ah ac kn an lw s1 sd kd pa wd ao fo uo ho sz K) : ∀ m, m < a → vp_in (av m) 8 := fun m hm => iv_in (I.2.2.2.2.1 m hm).2.2.2 I.1.1
theorem INV.ao9 (I : INV n P k a z lo hi B av al ah ac kn an lw s1 sd kd pa wd ao fo uo ho sz K) : ∀ m, m < a → vp_in (ao m) 8 := fun m hm => by
  rw [(I.2.2.2.2.1 m hm).1]; exact I.av9 m hm
/-- what look() says of a point: it is a solution -/
theorem INV.sol (I : INV n P k a z lo hi B av al ah ac kn an lw s1 sd kd pa wd ao fo uo ho sz K) {ho9 : Nat → Int32} (hlk : ∀ p, p < P → lkOk n k a lw s1 sd kd pa wd ao fo uo ho9 p) : ∀ p, p < P → (¬ ho9 p = 0 ↔ slv a n lo B av al ah sz p) := by
  obtain ⟨⟨hn, hk, ha, hP, hPe, hr⟩, h2, h3, h4, h5, -⟩ := I
  intro p hp
  obtain ⟨x, hx, he⟩ := hlk p hp
  have hag : agr n x (ptA lo sz n p) := fun i hi' => (hx i hi').trans (vIn_eq hr (by omega) hi' (by omega) (h2 i hi').1 (h2 i hi').2.1 (h2 i hi').2.2)
  have hir : inr n x := fun i hi' => by rw [hag i hi']; exact pt_inr hr p i hi'
  have hav : ∀ m, m < a → iv n (av m) := fun m hm => (h5 m hm).2.2.2
  have e1 : asall a ao fo uo x ↔ asall a av al ah (ptA lo sz n p) := by
    rw [← asall_agr hn hav hag]
    constructor
    · intro h m hm
      have q := h m hm
      unfold asok at q ⊢
      rw [← (h5 m hm).1, ← (h5 m hm).2.1, ← (h5 m hm).2.2.1]; exact q
    · intro h m hm
      have q := h m hm
      unfold asok at q ⊢
      rw [(h5 m hm).1, (h5 m hm).2.1, (h5 m hm).2.2.1]; exact q
  have e2 : ∀ r, r < k → oSr n kd pa wd x r = K r (ptA lo sz n p) := fun r hr' => by
    unfold oSr
    rw [KR_sat (h3 r hr') hn hir]
    exact KR_sup (h3 r hr') hn _ _ hag
  rw [he, zb_nz]
  unfold oAll slv
  rw [h4 p hp, fb_12 K _ k hk, e1]
  constructor
  · rintro ⟨q1, q2⟩
    exact ⟨fun r hr' => (e2 r hr') ▸ q2 r hr', q1⟩
  · rintro ⟨q1, q2⟩
    exact ⟨q2, fun r hr' => (e2 r hr').trans (q1 r hr')⟩
end
theorem wm {w x : Int32} (hw : w = 0 ∨ w = 1 ∨ w = -1) (h1 : -20 ≤ x.toInt) (h2 : x.toInt ≤ 20) : (w * x).toInt = w.toInt * x.toInt := by
  rw [Int32.toInt_mul]
  rcases hw with rfl | rfl | rfl
  · rw [show (0 : Int32).toInt = 0 by decide]
    exact Int.bmod_eq_of_le (by omega) (by omega)
  · rw [show (1 : Int32).toInt = 1 by decide]
    exact Int.bmod_eq_of_le (by omega) (by omega)
  · rw [show (-1 : Int32).toInt = -1 by decide]
    exact Int.bmod_eq_of_le (by omega) (by omega)
section
variable {n P k a : Nat} {z : Int32} {lo hi B av al ah ac : Nat → Int32} {kn an : Int32} {lw s1 sd kd pa : Nat → Int32} {wd : Nat → Int64} {ao fo uo ho : Nat → Int32} {sz : Nat → Nat} {K : Nat → (Nat → Int32) → Bool}
theorem sG_low {lo hi : Nat → Int32} {sz : Nat → Nat} {n : Nat} (hr : rng n lo hi sz) {w : Int32} (hw : w = 0 ∨ w = 1 ∨ w = -1) {i : Nat} (hi' : i < n ∨ w = 0) (p : Nat) : ¬ w * ptA lo sz n p i < sG w lo hi i := by
  unfold sG
  rcases hi' with hi' | h0
  · obtain ⟨b1, b2, b3, b4, b5⟩ := hr i hi'
    obtain ⟨c1, c2⟩ := pt_rng hr p hi'
    have m1 := wm (x := lo i) hw (by omega) (by omega)
    have m2 := wm (x := hi i) hw (by omega) (by omega)
    have m3 := wm (x := ptA lo sz n p i) hw (by omega) (by omega)
    have hwt : w.toInt = 0 ∨ w.toInt = 1 ∨ w.toInt = -1 := by
      rcases hw with rfl | rfl | rfl
      · exact Or.inl (by decide)
      · exact Or.inr (Or.inl (by decide))
      · exact Or.inr (Or.inr (by decide))
    by_cases hc : w * hi i < w * lo i
    · rw [if_pos hc, Int32.lt_iff_toInt_lt, m2, m3]
      rw [Int32.lt_iff_toInt_lt, m1, m2] at hc
      rcases hwt with e | e | e <;> rw [e] at hc ⊢ <;> omega
    · rw [if_neg hc, Int32.lt_iff_toInt_lt, m1, m3]
      rw [Int32.lt_iff_toInt_lt, m1, m2] at hc
      rcases hwt with e | e | e <;> rw [e] at hc ⊢ <;> omega
  · subst h0
    rw [Int32.zero_mul, Int32.zero_mul, Int32.zero_mul]
    decide
theorem INV.srch (I : INV n P k a z lo hi B av al ah ac kn an lw s1 sd kd pa wd ao fo uo ho sz K) (pt fd : Nat → Int32) {i w : Int32} (hi' : iv n i ∨ w = 0) (hw : w = 0 ∨ w = 1 ∨ w = -1) :
    ((srF n P a lo hi B av al ah pt fd i w).1 = false → ∀ p, p < P → ¬ slv a n lo B av al ah sz p) ∧ ((srF n P a lo hi B av al ah pt fd i w).1 = true → ∃ b, bst P (slv a n lo B av al ah sz) (fun p => w * ptA lo sz n p i.toNatClampNeg) b ∧ agr n (srF n P a lo hi B av al ah pt fd i w).2.2 (ptA lo sz n b)) := by
  obtain ⟨⟨hn, hk, ha, hP, hPe, hr⟩, h2, h3, h4, h5, -⟩ := I
  have hav : ∀ m, m < a → iv n (av m) := fun m hm => (h5 m hm).2.2.2
  have hi2 : i.toNatClampNeg < n ∨ w = 0 := hi'.elim (fun h => Or.inl (iv_lt h hn)) Or.inr
  have h := sF_spec (B := B) (lo := lo) (hi := hi) (sz := sz) (n := n) (ok := fun x => decide (asall a av al ah x)) (w := w) (g := sG w lo hi i.toNatClampNeg) (i := i.toNatClampNeg) hr
    (fun x y hxy => dec_iff (asall_agr hn hav hxy)) hi2 (fun p _ => sG_low hr hw hi2 p) (slv a n lo B av al ah sz) (fun p => by
      constructor
      · rintro ⟨q1, q2⟩; exact ⟨q1, decide_eq_true q2⟩
      · rintro ⟨q1, q2⟩; exact ⟨q1, of_decide_eq_true q2⟩) (fun p => w * ptA lo sz n p i.toNatClampNeg) (fun _ => rfl) (prd sz n) 0 (va_cpy lo pt 0 0 n) fd false (by omega) (Or.inr ((cpy_agr n lo pt).trans (pt_first lo hi sz n))) (fun _ c hc => absurd hc (by omega)) (fun h => absurd h (by decide))
  unfold srF
  rw [hPe]
  exact h
end
-- the greatest and the least
def kx (mo x : Int32) : Int := if mo = 0 then x.toInt else -x.toInt
theorem kx_lt {mo x y : Int32} : (if mo = 0 then ¬ y ≤ x else ¬ x ≤ y) ↔ kx mo x < kx mo y := by
  unfold kx
  by_cases h : mo = 0
  · rw [if_pos h, if_pos h, if_pos h, Int32.le_iff_toInt_le]; omega
  · rw [if_neg h, if_neg h, if_neg h, Int32.le_iff_toInt_le]; omega
theorem n1000 {x : Int32} (h : x.toInt ≤ 20) : ¬ x = 1000 := fun e => by
  rw [e, show (1000 : Int32).toInt = 1000 by decide] at h
  omega
theorem exF_spec {ho v : Nat → Int32} {mo : Int32} {P : Nat} (hv : ∀ p, p < P → (v p).toInt ≤ 20) : ∀ (t p : Nat) (fd : Int32), p + t = P →
    ((fd = 1000 ∧ ∀ c, c < p → ho c = 0) ∨ ∃ b, b < p ∧ ¬ ho b = 0 ∧ fd = v b ∧ ∀ c, c < p → ¬ ho c = 0 → kx mo fd ≤ kx mo (v c)) →
    ((exF ho v mo t p fd = 1000 ∧ ∀ c, c < P → ho c = 0) ∨ ∃ b, b < P ∧ ¬ ho b = 0 ∧ exF ho v mo t p fd = v b ∧ ∀ c, c < P → ¬ ho c = 0 → kx mo (exF ho v mo t p fd) ≤ kx mo (v c))
  | 0, p, fd, hp, h => by
    have e : p = P := by omega
    subst e
    exact h
  | t + 1, p, fd, hp, h => by
    by_cases hc : ¬ ho p = 0 ∧ (fd = 1000 ∨ (if mo = 0 then ¬ fd ≤ v p else ¬ v p ≤ fd))
    · rw [exF_go hc]
      refine exF_spec hv t (p + 1) (v p) (by omega) (Or.inr ⟨p, by omega, hc.1, rfl, fun c hcp hz => ?_⟩)
      by_cases e : c = p
      · rw [e]; exact Int.le_refl _
      · rcases h with ⟨h1, h2⟩ | ⟨b, h1, h2, h3, h4⟩
        · exact absurd (h2 c (by omega)) hz
        · have q := h4 c (by omega) hz
          rcases hc.2 with h5 | h5
          · rw [h3] at h5
            exact absurd h5 (n1000 (hv b (by omega)))
          · have h6 := kx_lt.mp h5
            omega
    · rw [exF_no hc]
      refine exF_spec hv t (p + 1) fd (by omega) ?_
      rcases h with ⟨h1, h2⟩ | ⟨b, h1, h2, h3, h4⟩
      · refine Or.inl ⟨h1, fun c hcp => ?_⟩
        by_cases e : c = p
        · rw [e]
          by_cases hz : ho p = 0
          · exact hz
          · exact absurd ⟨hz, Or.inl h1⟩ hc
        · exact h2 c (by omega)
      · refine Or.inr ⟨b, by omega, h2, h3, fun c hcp hz => ?_⟩
        by_cases e : c = p
        · rw [e] at hz ⊢
          have h5 : ¬ kx mo (v p) < kx mo fd := fun q => hc ⟨hz, Or.inr (kx_lt.mpr q)⟩
          omega
        · exact h4 c (by omega) hz
end
