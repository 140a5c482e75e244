section
theorem prd_s (sz : Nat → Nat) (n : Nat) : prd sz (n + 1) = prd sz n * sz n := rfl
theorem std_s (sz : Nat → Nat) (n i : Nat) : std sz (n + 1) i = if i = n then 1 else std sz n i * sz n := rfl
theorem ptA_s (lo : Nat → Int32) (sz : Nat → Nat) (n p : Nat) : ptA lo sz (n + 1) p = upd (ptA lo sz n (p / sz n)) n (lo n + nI (p % sz n)) := rfl
theorem fb_s (K : Nat → (Nat → Int32) → Bool) (c : Nat) (x : Nat → Int32) : fb K (c + 1) x = if fb K c x = 12 then (if K c x = true then 12 else nI c) else fb K c x := rfl
theorem prd_congr {s t : Nat → Nat} : ∀ n, (∀ i, i < n → s i = t i) → prd s n = prd t n
  | 0, _ => rfl
  | n + 1, h => by
    simp only [prd]
    rw [prd_congr n (fun i hi => h i (by omega)), h n (by omega)]
theorem std_congr {s t : Nat → Nat} : ∀ (n i : Nat), (∀ i, i < n → s i = t i) → std s n i = std t n i
  | 0, _, _ => rfl
  | n + 1, i, h => by
    simp only [std]
    rw [std_congr n i (fun i hi => h i (by omega)), h n (by omega)]
theorem ptA_congr {lo lo' : Nat → Int32} {s t : Nat → Nat} : ∀ (n p : Nat), (∀ i, i < n → s i = t i) → (∀ i, i < n → lo i = lo' i) → ptA lo s n p = ptA lo' t n p
  | 0, _, _, _ => rfl
  | n + 1, p, h, h2 => by
    simp only [ptA]
    rw [h n (by omega), h2 n (by omega), ptA_congr n _ (fun i hi => h i (by omega)) (fun i hi => h2 i (by omega))]
theorem vok_int {x y : Int32} (h : vok x y) : -20 ≤ x.toInt ∧ y.toInt ≤ 20 ∧ x.toInt ≤ y.toInt ∧ (y - x + 1).toInt = y.toInt - x.toInt + 1 := by
  obtain ⟨h1, h2, h3, h4⟩ := h
  rw [Int32.lt_iff_toInt_lt] at h1 h2 h3
  rw [show (-20 : Int32).toInt = -20 by decide] at h1
  rw [show (20 : Int32).toInt = 20 by decide] at h3
  have hs : (y - x).toInt = y.toInt - x.toInt := by
    rw [Int32.toInt_sub]
    exact Int.bmod_eq_of_le (by omega) (by omega)
  refine ⟨by omega, by omega, by omega, ?_⟩
  rw [Int32.toInt_add, hs, show (1 : Int32).toInt = 1 by decide]
  exact Int.bmod_eq_of_le (by omega) (by omega)
def IU (u : XS) (v : OS) : Prop := (v.1 = u.1 ∧ v.2.1 = u.2.1 ∧ v.2.2.1 = u.2.2.1 ∧ v.2.2.2.1 = u.2.2.2.1) ∧ ∃ (sz : Nat → Nat) (K : Nat → (Nat → Int32) → Bool),
  INV u.1 u.2.1 u.2.2.1 u.2.2.2.1 u.2.2.2.2.1 u.2.2.2.2.2.1 u.2.2.2.2.2.2.1 u.2.2.2.2.2.2.2.1 u.2.2.2.2.2.2.2.2.1 u.2.2.2.2.2.2.2.2.2.1 u.2.2.2.2.2.2.2.2.2.2.1 u.2.2.2.2.2.2.2.2.2.2.2.1
    v.2.2.2.2.1 v.2.2.2.2.2.1 v.2.2.2.2.2.2.1 v.2.2.2.2.2.2.2.1 v.2.2.2.2.2.2.2.2.1 v.2.2.2.2.2.2.2.2.2.1 v.2.2.2.2.2.2.2.2.2.2.1 v.2.2.2.2.2.2.2.2.2.2.2.1 v.2.2.2.2.2.2.2.2.2.2.2.2.1 v.2.2.2.2.2.2.2.2.2.2.2.2.2.1 v.2.2.2.2.2.2.2.2.2.2.2.2.2.2.1 v.2.2.2.2.2.2.2.2.2.2.2.2.2.2.2.1 sz K
section
variable {n P k a : Nat} {z : Int32} {lo hi B av al ah ac pt fd : Nat → Int32} {kn an : Int32} {lw s1 sd kd pa : Nat → Int32} {wd : Nat → Int64} {ao fo uo ho xo : Nat → Int32} {sz : Nat → Nat} {K : Nat → (Nat → Int32) → Bool}
theorem IU.of {kn2 an2 : Int32} {lw2 s12 sd2 kd2 pa2 : Nat → Int32} {wd2 : Nat → Int64} {ao2 fo2 uo2 ho2 xo2 : Nat → Int32} (I : INV n P k a z lo hi B av al ah ac kn2 an2 lw2 s12 sd2 kd2 pa2 wd2 ao2 fo2 uo2 ho2 sz K) : IU (n, P, k, a, z, lo, hi, B, av, al, ah, ac, pt, fd) (n, P, k, a, kn2, an2, lw2, s12, sd2, kd2, pa2, wd2, ao2, fo2, uo2, ho2, xo2) := ⟨⟨rfl, rfl, rfl, rfl⟩, sz, K, I⟩
theorem INV.lk0 (I : INV n P k a z lo hi B av al ah ac kn an lw s1 sd kd pa wd ao fo uo ho sz K) {ho9 : Nat → Int32} (hlk : ∀ p, p < P → lkOk n k a lw s1 sd kd pa wd ao fo uo ho9 p) : INV n P k a z lo hi B av al ah ac 1 an lw s1 sd kd pa wd ao fo uo ho9 sz K := by
  obtain ⟨h1, h2, h3, h4, h5, -, h7⟩ := I
  exact ⟨h1, h2, h3, h4, h5, ⟨Or.inr rfl, fun _ => hlk⟩, h7⟩
theorem INV.ans (I : INV n P k a z lo hi B av al ah ac kn an lw s1 sd kd pa wd ao fo uo ho sz K) {ac2 : Nat → Int32} {z2 an2 : Int32} (h : (z2 = 0 ∧ an2 < 0) ∨ (z2 = 1 ∧ ∃ p, p < P ∧ an2 = nI p ∧ agr n ac2 (ptA lo sz n p))) : INV n P k a z2 lo hi B av al ah ac2 kn an2 lw s1 sd kd pa wd ao fo uo ho sz K := by
  obtain ⟨h1, h2, h3, h4, h5, h6, -⟩ := I
  exact ⟨h1, h2, h3, h4, h5, h6, h⟩
theorem lk_no {n P k a : Nat} {lw s1 sd kd pa : Nat → Int32} {wd : Nat → Int64} {ao fo uo ho : Nat → Int32} : lkP n P k a lw s1 sd kd pa wd ao fo uo 0 ho := ⟨Or.inl rfl, fun h => absurd rfl h⟩
theorem INV.var (I : INV n P k a z lo hi B av al ah ac kn an lw s1 sd kd pa wd ao fo uo ho sz K) {x y : Int32} {w : Nat} (hv1 : 1 ≤ w) (hv8 : w ≤ 8) (hvk : vok x y) (hwe : y - x + 1 = nI w) (hn8 : n < 8) (hPw : P * w ≤ 4096) {Bn g : Nat → Int32} (hI : spI w P 0 B Bn) (hg : ∀ i, i < n → g i = sd i * nI w) :
    INV (n + 1) (P * w) k a 0 (upd lo n x) (upd hi n y) Bn av al ah ac 0 (-1) (upd lw n x) (upd s1 n (nI w)) (upd g n 1) kd pa wd ao fo uo ho (va_up sz n w) K := by
  obtain ⟨⟨hn, hk, ha, hP, hPe, hr⟩, h2, h3, h4, h5, h6, h7⟩ := I
  have hsz : ∀ i, i < n → va_up sz n w i = sz i := fun i hi' => va_up_ne sz w (by omega)
  have hszn : va_up sz n w n = w := va_up_self sz n w
  have hlo : ∀ i, i < n → upd lo n x i = lo i := fun i hi' => pk_un (by omega)
  obtain ⟨x1, x2, x3, x4⟩ := vok_int hvk
  rw [hwe, nI_toInt (by omega)] at x4
  refine ⟨⟨by omega, hk, ha, hPw, ?_, ?_⟩, ?_, fun r hr' => KR_m (h3 r hr') (by omega), ?_, fun m hm => ⟨(h5 m hm).1, (h5 m hm).2.1, (h5 m hm).2.2.1, iv_m (h5 m hm).2.2.2 (by omega)⟩, lk_no, Or.inl ⟨rfl, by decide⟩⟩
  · rw [prd_s, prd_congr n hsz, hszn, hPe]
  · intro i hi'
    by_cases e : i = n
    · subst e
      rw [pk_us, pk_us, hszn]
      exact ⟨x1, x2, hv1, hv8, by omega⟩
    · rw [pk_un e, pk_un e, hsz i (by omega)]
      exact hr i (by omega)
  · intro i hi'
    by_cases e : i = n
    · subst e
      refine ⟨by rw [pk_us, pk_us], by rw [pk_us, hszn], ?_⟩
      rw [pk_us, std_s, if_pos rfl]; rfl
    · have hin : i < n := by omega
      obtain ⟨e1, e2, e3⟩ := h2 i hin
      refine ⟨by rw [pk_un e, pk_un e, e1], by rw [pk_un e, hsz i hin, e2], ?_⟩
      rw [pk_un e, hg i hin, e3, std_s, if_neg e, hszn, std_congr n i hsz, pk_mul]
  · intro p hp
    have hw : 0 < w := by omega
    have hd : p / w < P := Nat.div_lt_of_lt_mul (by rw [Nat.mul_comm]; exact hp)
    have hm : p % w < w := Nat.mod_lt _ hw
    have he : p / w * w + p % w = p := by rw [Nat.mul_comm]; exact Nat.div_add_mod p w
    have hb := hI.2 (p / w) (Nat.zero_le _) hd (p % w) hm
    rw [he] at hb
    rw [hb, h4 _ hd]
    apply fb_congr
    intro j hj
    apply KR_sup (h3 j hj) hn
    intro i hi'
    rw [ptA_s, pk_un (by omega), hszn, ptA_congr n (p / w) hsz hlo]
theorem INV.add (I : INV n P k a z lo hi B av al ah ac kn an lw s1 sd kd pa wd ao fo uo ho sz K) (pt : Nat → Int32) {f : (Nat → Int32) → Bool} {wh : Int32} {pa2 : Nat → Int32} {w0 w1 : Int64} (hk12 : k < 12) (hf : KR n f wh (oRow pa2 k) w0 w1) (hrk : ∀ r, r < k → ∀ j, j < 7 → pa2 (7 * r + j) = pa (7 * r + j)) :
    INV n P (k + 1) a 0 lo hi (aF lo hi n k f P 0 (va_cpy lo pt 0 0 n) B).1 av al ah ac 0 (-1) lw s1 sd (upd kd k wh) pa2 (vp_updL (vp_updL wd (2 * k) w0) (2 * k + 1) w1) ao fo uo ho sz (va_up K k f) := by
  obtain ⟨⟨hn, hk, ha, hP, hPe, hr⟩, h2, h3, h4, h5, h6, h7⟩ := I
  refine ⟨⟨hn, by omega, ha, hP, hPe, hr⟩, h2, ?_, ?_, h5, lk_no, Or.inl ⟨rfl, by decide⟩⟩
  · intro r hr'
    by_cases e : r = k
    · subst e
      rw [va_up_self, pk_us, pk_uLn (by omega), pk_uLs, pk_uLs]
      exact hf
    · have hrk' : r < k := by omega
      rw [va_up_ne K f e, pk_un e, pk_uLn (by omega), pk_uLn (by omega), pk_uLn (by omega), pk_uLn (by omega)]
      exact KR_c (h3 r hrk') (fun j hj => hrk r hrk' j hj)
  · intro p hp
    have hsf : sup n f := KR_sup hf hn
    have h := aF_spec (k := k) hr hsf P 0 (va_cpy lo pt 0 0 n) B (by omega) (Or.inr ((cpy_agr n lo pt).trans (pt_first lo hi sz n))) p
    have e1 : fb (va_up K k f) k (ptA lo sz n p) = fb K k (ptA lo sz n p) := fb_ext k (fun j hj => by rw [va_up_ne K f (by omega)])
    rw [h, h4 p hp, fb_s, e1, va_up_self]
    by_cases c1 : fb K k (ptA lo sz n p) = 12
    · rw [if_pos c1]
      by_cases c2 : f (ptA lo sz n p) = true
      · rw [if_pos c2, if_neg (fun q => by rw [c2] at q; exact absurd q.2.2.2 (by decide)), c1]
      · rw [if_neg c2, if_pos ⟨Nat.zero_le _, by omega, c1, by simpa using c2⟩]
    · rw [if_neg c1, if_neg (fun q => c1 q.2.2.1)]
theorem INV.drop {b : Nat} (I : INV n P (b + 1) a z lo hi B av al ah ac kn an lw s1 sd kd pa wd ao fo uo ho sz K) : INV n P b a 0 lo hi (dF b P 0 B) av al ah ac 0 (-1) lw s1 sd kd pa wd ao fo uo ho sz K := by
  obtain ⟨⟨hn, hk, ha, hP, hPe, hr⟩, h2, h3, h4, h5, h6, h7⟩ := I
  refine ⟨⟨hn, by omega, ha, hP, hPe, hr⟩, h2, fun r hr' => h3 r (by omega), ?_, h5, lk_no, Or.inl ⟨rfl, by decide⟩⟩
  intro p hp
  rw [dF_spec, h4 p hp, ← fb_drop K (ptA lo sz n p) (c := b) (by omega)]
  by_cases c1 : fb K (b + 1) (ptA lo sz n p) = nI b
  · rw [if_pos ⟨Nat.zero_le _, by omega, c1⟩, if_pos c1]
  · rw [if_neg (fun q => c1 q.2.2), if_neg c1]
theorem INV.asm (I : INV n P k a z lo hi B av al ah ac kn an lw s1 sd kd pa wd ao fo uo ho sz K) {i x y : Int32} (hi' : iv n i) (ha8 : a < 8) : INV n P k (a + 1) 0 lo hi B (upd av a i) (upd al a x) (upd ah a y) ac 0 (-1) lw s1 sd kd pa wd (upd ao a i) (upd fo a x) (upd uo a y) ho sz K := by
  obtain ⟨⟨hn, hk, ha, hP, hPe, hr⟩, h2, h3, h4, h5, h6, h7⟩ := I
  refine ⟨⟨hn, hk, by omega, hP, hPe, hr⟩, h2, h3, h4, ?_, lk_no, Or.inl ⟨rfl, by decide⟩⟩
  intro m hm
  by_cases e : m = a
  · subst e
    rw [pk_us, pk_us, pk_us, pk_us, pk_us, pk_us]
    exact ⟨rfl, rfl, rfl, hi'⟩
  · rw [pk_un e, pk_un e, pk_un e, pk_un e, pk_un e, pk_un e]
    exact h5 m (by omega)
theorem INV.ret {b : Nat} (I : INV n P k (b + 1) z lo hi B av al ah ac kn an lw s1 sd kd pa wd ao fo uo ho sz K) : INV n P k b 0 lo hi B av al ah ac 0 (-1) lw s1 sd kd pa wd ao fo uo ho sz K := by
  obtain ⟨⟨hn, hk, ha, hP, hPe, hr⟩, h2, h3, h4, h5, h6, h7⟩ := I
  exact ⟨⟨hn, hk, by omega, hP, hPe, hr⟩, h2, h3, h4, fun m hm => h5 m (by omega), lk_no, Or.inl ⟨rfl, by decide⟩⟩
/-- the extreme value, in both -/
theorem INV.ext (I : INV n P k a z lo hi B av al ah ac kn an lw s1 sd kd pa wd ao fo uo ho sz K) (pt fd : Nat → Int32) {i mo w : Int32} (hi' : iv n i) (hmw : (mo = 0 ∧ w = 1) ∨ (¬ mo = 0 ∧ w = -1)) {ho9 : Nat → Int32} (hlk : ∀ p, p < P → lkOk n k a lw s1 sd kd pa wd ao fo uo ho9 p) :
    ((srF n P a lo hi B av al ah pt fd i w).1 = false ∧ exF ho9 (fun p7 => vIn lw s1 sd (nI p7) i.toNatClampNeg) mo P 0 1000 = 1000 ∧ ∀ p, p < P → ¬ slv a n lo B av al ah sz p) ∨
    ((srF n P a lo hi B av al ah pt fd i w).1 = true ∧ ¬ exF ho9 (fun p7 => vIn lw s1 sd (nI p7) i.toNatClampNeg) mo P 0 1000 = 1000 ∧ ∃ b, bst P (slv a n lo B av al ah sz) (fun p => w * ptA lo sz n p i.toNatClampNeg) b ∧ agr n (srF n P a lo hi B av al ah pt fd i w).2.2 (ptA lo sz n b) ∧
      exF ho9 (fun p7 => vIn lw s1 sd (nI p7) i.toNatClampNeg) mo P 0 1000 = ptA lo sz n b i.toNatClampNeg) := by
  have hw : w = 0 ∨ w = 1 ∨ w = -1 := hmw.elim (fun h => Or.inr (Or.inl h.2)) (fun h => Or.inr (Or.inr h.2))
  obtain ⟨s1', s2'⟩ := I.srch pt fd (Or.inl hi') hw
  have hsol := I.sol hlk
  obtain ⟨⟨hn, hk, ha, hP, hPe, hr⟩, h2, h3, h4, h5, h6, h7⟩ := I
  have hin := iv_lt hi' hn
  have hv : ∀ p, p < P → vIn lw s1 sd (nI p) i.toNatClampNeg = ptA lo sz n p i.toNatClampNeg := fun p hp => vIn_eq hr (by omega) hin (by omega) (h2 _ hin).1 (h2 _ hin).2.1 (h2 _ hin).2.2
  have hsm : ∀ p, (-20 ≤ (ptA lo sz n p i.toNatClampNeg).toInt ∧ (ptA lo sz n p i.toNatClampNeg).toInt ≤ 20) := fun p => pt_inr hr p _ hin
  have hkx : ∀ p, (w * ptA lo sz n p i.toNatClampNeg).toInt = kx mo (ptA lo sz n p i.toNatClampNeg) := fun p => by
    rw [wm hw (hsm p).1 (hsm p).2]
    unfold kx
    rcases hmw with ⟨e1, e2⟩ | ⟨e1, e2⟩
    · rw [if_pos e1, e2, show (1 : Int32).toInt = 1 by decide]; omega
    · rw [if_neg e1, e2, show (-1 : Int32).toInt = -1 by decide]; omega
  have hx := exF_spec (ho := ho9) (v := fun p7 => vIn lw s1 sd (nI p7) i.toNatClampNeg) (mo := mo) (P := P) (fun p hp => by
    show (vIn lw s1 sd (nI p) i.toNatClampNeg).toInt ≤ 20
    rw [hv p hp]; exact (hsm p).2) P 0 1000 (by omega) (Or.inl ⟨rfl, fun c hc => absurd hc (by omega)⟩)
  rcases hx with ⟨x1, x2⟩ | ⟨b, x1, x2, x3, x4⟩
  · have hno : ∀ p, p < P → ¬ slv a n lo B av al ah sz p := fun p hp hs => (hsol p hp).mpr hs (x2 p hp)
    refine Or.inl ⟨?_, x1, hno⟩
    cases hc : (srF n P a lo hi B av al ah pt fd i w).1
    · rfl
    · obtain ⟨b, hb, -⟩ := s2' hc
      exact absurd hb.2.1 (hno b hb.1)
  · have hsb : slv a n lo B av al ah sz b := (hsol b x1).mp x2
    have hbv : exF ho9 (fun p7 => vIn lw s1 sd (nI p7) i.toNatClampNeg) mo P 0 1000 = ptA lo sz n b i.toNatClampNeg := x3.trans (hv b x1)
    cases hc : (srF n P a lo hi B av al ah pt fd i w).1
    · exact absurd hsb (s1' hc b x1)
    · obtain ⟨c, hb, hag⟩ := s2' hc
      have hcs := (hsol c hb.1).mpr hb.2.1
      have q1 := x4 c hb.1 hcs
      have q2 := hb.2.2.1 b x1 hsb
      simp only at q1 q2
      rw [hbv, hv c hb.1] at q1
      rw [Int32.le_iff_toInt_le, hkx, hkx] at q2
      have q3 : ptA lo sz n b i.toNatClampNeg = ptA lo sz n c i.toNatClampNeg := by
        apply Int32.toInt_inj.mp
        unfold kx at q1 q2
        by_cases e : mo = 0
        · rw [if_pos e, if_pos e] at q1 q2; omega
        · rw [if_neg e, if_neg e] at q1 q2; omega
      exact Or.inr ⟨rfl, by rw [hbv]; exact n1000 (hsm b).2, c, hb, hag, hbv.trans q3⟩
end
end
