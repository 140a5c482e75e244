section
theorem wb_tb (n : Nat) : (lN n).toBitVec = BitVec.ofNat 64 n := rfl
theorem wb_inj {a b : Int64} (h : a.toBitVec = b.toBitVec) : a = b := Int64.toBitVec_inj.mp h
theorem wb_c : ∀ k, k < 64 → ((nI k).toInt64 &&& 63) = lN k := by decide +kernel
theorem wb_sm : ∀ k, k < 64 → (BitVec.ofNat 64 k).smod 64 = BitVec.ofNat 64 k := by decide +kernel
theorem wb_lt2 {a b : Nat} (h : a < b) : 2 ^ a < 2 ^ b := Nat.pow_lt_pow_right (by decide) h
theorem wb_shl (n : Nat) {k : Nat} (hk : k < 64) : lN n <<< ((nI k).toInt64 &&& 63) = lN (n * 2 ^ k) := by
  rw [wb_c k hk]
  apply wb_inj
  rw [Int64.toBitVec_shiftLeft, wb_tb, wb_tb, wb_tb, wb_sm k hk]
  apply BitVec.eq_of_toNat_eq
  rw [BitVec.shiftLeft_eq', BitVec.toNat_shiftLeft, BitVec.toNat_ofNat, BitVec.toNat_ofNat, BitVec.toNat_ofNat, Nat.mod_eq_of_lt (show k < 2 ^ 64 by omega), Nat.shiftLeft_eq, Nat.mul_mod, Nat.mod_mod, ← Nat.mul_mod]
theorem wb_and {a b : Nat} (ha : a < 2 ^ 64) (hb : b < 2 ^ 64) : lN a &&& lN b = lN (a &&& b) := by
  apply wb_inj
  rw [Int64.toBitVec_and, wb_tb, wb_tb, wb_tb]
  apply BitVec.eq_of_toNat_eq
  rw [BitVec.toNat_and, BitVec.toNat_ofNat, BitVec.toNat_ofNat, BitVec.toNat_ofNat, Nat.mod_eq_of_lt ha, Nat.mod_eq_of_lt hb, Nat.mod_eq_of_lt (Nat.and_lt_two_pow _ hb)]
theorem wb_or {a b : Nat} (ha : a < 2 ^ 64) (hb : b < 2 ^ 64) : lN a ||| lN b = lN (a ||| b) := by
  apply wb_inj
  rw [Int64.toBitVec_or, wb_tb, wb_tb, wb_tb]
  apply BitVec.eq_of_toNat_eq
  rw [BitVec.toNat_or, BitVec.toNat_ofNat, BitVec.toNat_ofNat, BitVec.toNat_ofNat, Nat.mod_eq_of_lt ha, Nat.mod_eq_of_lt hb, Nat.mod_eq_of_lt (Nat.or_lt_two_pow ha hb)]
theorem iv_nI {n : Nat} {i : Int32} (h : iv n i) : ∃ j, j < n ∧ i = nI j := by
  obtain ⟨j, hj, rfl⟩ := nI_of h.1
  rcases Nat.lt_or_ge j n with h1 | h1
  · exact ⟨j, h1, rfl⟩
  · exact absurd (nI_le h1 hj) h.2
theorem iv_of {n j : Nat} (h : j < n) (hn : n ≤ 8) : iv n (nI j) := ⟨nI_pos (by omega), nI_ge h (by omega)⟩
theorem iv_m {n : Nat} {i : Int32} (h : iv n i) (hn : n + 1 ≤ 8) : iv (n + 1) i := by
  obtain ⟨j, hj, rfl⟩ := iv_nI h
  exact iv_of (by omega) hn
theorem iva_m {n : Nat} {i : Int32} (h : iva n i) (hn : n + 1 ≤ 8) : iva (n + 1) i := h.elim Or.inl (fun h => Or.inr (iv_m h hn))
theorem sh1 : ∀ n, n < 9 → (1 : Int32) <<< (nI n &&& 31) = nI (2 ^ n) := by decide +kernel
theorem ivs_nI {n : Nat} {t : Int32} (h : ivs n t) (hn : n ≤ 8) : ∃ m, m < 2 ^ n ∧ t = nI m := by
  obtain ⟨m, hm, rfl⟩ := nI_of h.1
  have h2 := h.2
  rw [sh1 n (by omega)] at h2
  rcases Nat.lt_or_ge m (2 ^ n) with h1 | h1
  · exact ⟨m, h1, rfl⟩
  · exact absurd (nI_le h1 hm) h2
theorem p2_le {n : Nat} (hn : n ≤ 8) : 2 ^ n ≤ 256 := Nat.pow_le_pow_right (n := 2) (by decide) hn
theorem ivs_of {n m : Nat} (h : m < 2 ^ n) (hn : n ≤ 8) : ivs n (nI m) := by
  have hp := p2_le hn
  refine ⟨nI_pos (by omega), ?_⟩
  rw [sh1 n (by omega)]
  exact nI_ge h (by omega)
theorem ivs_m {n : Nat} {t : Int32} (h : ivs n t) (hn : n + 1 ≤ 8) : ivs (n + 1) t := by
  obtain ⟨m, hm, rfl⟩ := ivs_nI h (by omega)
  exact ivs_of (by rw [Nat.pow_succ]; omega) hn
theorem s_l : ∀ n, n < 32 → ((nI n &&& 31).toBitVec.smod 32).toNat = n := by decide +kernel
theorem bit_nI {m i : Nat} (hm : m < 2 ^ 31) (hi : i < 32) : (nI m >>> (nI i &&& 31)) &&& 1 = nI (m / 2 ^ i % 2) := by
  rw [pk_shrN hm _ i (s_l i hi)]
  exact pk_andN (Nat.lt_of_le_of_lt (Nat.div_le_self _ _) (by omega)) 1 (by decide)
theorem inS_nI {m i : Nat} (hm : m < 2 ^ 31) (hi : i < 32) : inS (nI i) (nI m) ↔ m / 2 ^ i % 2 = 1 := by
  unfold inS
  rw [bit_nI hm hi]
  have hlt : m / 2 ^ i % 2 < 2 := Nat.mod_lt _ (by decide)
  constructor
  · intro h
    exact (nI_eq (a := m / 2 ^ i % 2) (b := 1) (by omega) (by decide)).mp h
  · intro h
    rw [h]; rfl
theorem inS_0 {n i : Nat} {t : Int32} (h : ivs n t) (hn : n ≤ 8) (hi : i < 32) : (t >>> (nI i &&& 31)) &&& 1 = 0 ↔ ¬ inS (nI i) t := by
  obtain ⟨m, hm, rfl⟩ := ivs_nI h hn
  have hp := p2_le hn
  rw [inS_nI (by omega) hi, bit_nI (by omega) hi]
  have hlt : m / 2 ^ i % 2 < 2 := Nat.mod_lt _ (by decide)
  constructor
  · intro h
    have := (nI_eq (a := m / 2 ^ i % 2) (b := 0) (by omega) (by decide)).mp h
    omega
  · intro h
    rw [show m / 2 ^ i % 2 = 0 by omega]; rfl
theorem inS_lt {n i : Nat} {t : Int32} (h : ivs n t) (hn : n ≤ 8) (hi : i < 32) (hs : inS (nI i) t) : i < n := by
  obtain ⟨m, hm, rfl⟩ := ivs_nI h hn
  have hp := p2_le hn
  rcases Nat.lt_or_ge i n with h1 | h1
  · exact h1
  · exfalso
    have h2 := (inS_nI (by omega) hi).mp hs
    have h3 : m < 2 ^ i := Nat.lt_of_lt_of_le hm (Nat.pow_le_pow_right (by decide) h1)
    rw [Nat.div_eq_of_lt h3] at h2
    omega
/-- small values -/
abbrev inr (n : Nat) (x : Nat → Int32) : Prop := ∀ j, j < n → -20 ≤ (x j).toInt ∧ (x j).toInt ≤ 20
theorem difB_eq {v : Int32} (h1 : -20 ≤ v.toInt) (h2 : v.toInt ≤ 20) : ∃ m : Nat, m ≤ 40 ∧ (m : Int) = v.toInt + 20 ∧ difB v = lN (2 ^ m) := by
  refine ⟨(v.toInt + 20).toNat, by omega, by omega, ?_⟩
  have e : v - (-20) = nI (v.toInt + 20).toNat := by
    apply Int32.toInt_inj.mp
    rw [nI_toInt (by omega), Int32.toInt_sub, show (-20 : Int32).toInt = -20 by decide, Int.bmod_eq_of_le (by omega) (by omega)]
    omega
  unfold difB
  rw [e]
  have h := wb_shl 1 (k := (v.toInt + 20).toNat) (by omega)
  rw [Nat.one_mul] at h
  exact h
theorem and_tp {s m : Nat} : s &&& 2 ^ m = 0 ↔ s.testBit m = false := by
  constructor
  · intro h
    have h1 := congrArg (fun z => Nat.testBit z m) h
    simp only [Nat.testBit_and, Nat.testBit_two_pow_self, Bool.and_true, Nat.zero_testBit] at h1
    exact h1
  · intro h
    apply Nat.eq_of_testBit_eq
    intro i
    rw [Nat.testBit_and, Nat.testBit_two_pow, Nat.zero_testBit]
    by_cases e : m = i
    · subst e; rw [h]; rfl
    · simp [e]
theorem kDif_iff {n : Nat} {st : Int32} {x : Nat → Int32} (hn : n ≤ 8) (hst : ivs n st) (hx : inr n x) : ∀ (t i sn : Nat), i + t = 8 → sn < 2 ^ 41 → (∀ m, sn.testBit m = true ↔ ∃ j, j < i ∧ inS (nI j) st ∧ (m : Int) = (x j).toInt + 20) →
    (kDif st x t i (lN sn) = true ↔ ∀ a, i ≤ a → a < 8 → ∀ b, b < a → oPr st x a b)
  | 0, i, sn, hi, _, _ => ⟨fun _ a h1 h2 => absurd h2 (by omega), fun _ => rfl⟩
  | t + 1, i, sn, hi, hsn, hinv => by
    simp only [kDif]
    by_cases hs : inS (nI i) st
    · have hin : i < n := inS_lt hst hn (by omega) hs
      obtain ⟨m, hm, hme, he⟩ := difB_eq (hx i hin).1 (hx i hin).2
      have hp : 2 ^ m < 2 ^ 41 := Nat.pow_lt_pow_right (by decide) (by omega)
      have hand : lN sn &&& lN (2 ^ m) = lN (sn &&& 2 ^ m) := wb_and (by omega) (by omega)
      have hor : lN sn ||| lN (2 ^ m) = lN (sn ||| 2 ^ m) := wb_or (by omega) (by omega)
      have hlt : sn &&& 2 ^ m < 2 ^ 41 := Nat.and_lt_two_pow _ hp
      rw [if_pos hs, he, hand, hor]
      by_cases hb : sn.testBit m = true
      · have hne : ¬ lN (sn &&& 2 ^ m) = 0 := fun h => by
          have h1 := (pk_lEQ (a := sn &&& 2 ^ m) (b := 0) (by omega) (by decide)).mp h
          rw [and_tp.mp h1] at hb
          exact absurd hb (by decide)
        rw [if_neg hne]
        refine ⟨fun h => absurd h (by decide), fun h => ?_⟩
        obtain ⟨j, hj, hsj, hej⟩ := (hinv m).mp hb
        exact absurd ⟨hs, hsj, Int32.toInt_inj.mp (by omega)⟩ (h i (Nat.le_refl i) (by omega) j hj)
      · have hbf : sn.testBit m = false := by simpa using hb
        have h0 : lN (sn &&& 2 ^ m) = 0 := by rw [and_tp.mpr hbf]; rfl
        rw [if_pos h0, kDif_iff hn hst hx t (i + 1) (sn ||| 2 ^ m) (by omega) (Nat.or_lt_two_pow hsn hp) (fun m2 => ?_)]
        · constructor
          · intro h a h1 h2 b hb2
            by_cases e : a = i
            · subst e
              rintro ⟨_, q2, q3⟩
              have : sn.testBit m = true := (hinv m).mpr ⟨b, hb2, q2, by rw [hme, q3]⟩
              exact hb this
            · exact h a (by omega) h2 b hb2
          · intro h a h1 h2
            exact h a (by omega) h2
        · rw [Nat.testBit_or, Bool.or_eq_true, hinv m2, Nat.testBit_two_pow, decide_eq_true_iff]
          constructor
          · rintro (⟨j, h1, h2, h3⟩ | h1)
            · exact ⟨j, by omega, h2, h3⟩
            · subst h1
              exact ⟨i, by omega, hs, hme⟩
          · rintro ⟨j, h1, h2, h3⟩
            by_cases e : j = i
            · subst e
              exact Or.inr (by omega)
            · exact Or.inl ⟨j, by omega, h2, h3⟩
    · rw [if_neg hs, kDif_iff hn hst hx t (i + 1) sn (by omega) hsn (fun m2 => ?_)]
      · constructor
        · intro h a h1 h2 b hb2
          by_cases e : a = i
          · subst e
            exact fun q => hs q.1
          · exact h a (by omega) h2 b hb2
        · intro h a h1 h2
          exact h a (by omega) h2
      · rw [hinv m2]
        constructor
        · rintro ⟨j, h1, h2, h3⟩
          exact ⟨j, by omega, h2, h3⟩
        · rintro ⟨j, h1, h2, h3⟩
          by_cases e : j = i
          · subst e; exact absurd h2 hs
          · exact ⟨j, by omega, h2, h3⟩
theorem kDif_eq {n : Nat} {st : Int32} {x : Nat → Int32} (hn : n ≤ 8) (hst : ivs n st) (hx : inr n x) : decide (oDif n st x) = kDif st x 8 0 0 := by
  have h := kDif_iff hn hst hx 8 0 0 (by omega) (by decide) (fun m => by
    rw [Nat.zero_testBit]
    exact ⟨fun h => absurd h (by decide), fun ⟨j, h1, _⟩ => absurd h1 (by omega)⟩)
  have h2 : kDif st x 8 0 0 = true ↔ oDif n st x := h.trans ⟨fun h a ha => h a (by omega) (by omega), fun h a _ ha b hb => by
    by_cases e : a < n
    · exact h a e b hb
    · exact fun q => e (inS_lt hst hn (by omega) q.1)⟩
  by_cases hd : oDif n st x
  · rw [decide_eq_true hd]; exact (h2.mpr hd).symm
  · rw [decide_eq_false hd]
    cases hk : kDif st x 8 0 0
    · rfl
    · exact absurd (h2.mp hk) hd
theorem fbs_eq (row : Int64) (i : Int32) : fbs row i = oNib row i := by
  unfold fbs oNib
  rw [Int64.toInt32_and, show (15 : Int64).toInt32 = 15 by decide]
theorem cumN_end {n : Nat} {st : Int32} {du ne : Int64} {mo : Int32} {x : Nat → Int32} (hn : n ≤ 8) (hst : ivs n st) : ∀ (t i : Nat) (nd : Int32), n ≤ i → i + t = 8 → cumN st du ne mo x t i nd = nd
  | 0, _, _, _, _ => rfl
  | t + 1, i, nd, h1, h2 => by
    rw [cumN_no (fun h => absurd (inS_lt hst hn (by omega) h.1) (by omega)), cumN_end hn hst t (i + 1) nd (by omega) (by omega)]
theorem cum_ned {n : Nat} {st : Int32} {du ne : Int64} {mo : Int32} {x : Nat → Int32} (hn : n ≤ 8) (hst : ivs n st) : ∀ (s i : Nat) (nd : Int32), i + s = n → cumN st du ne mo x (8 - i) i nd = oNed st du ne mo x s i nd
  | 0, i, nd, h => by
    rw [cumN_end hn hst (8 - i) i nd (by omega) (by omega)]; rfl
  | s + 1, i, nd, h => by
    have e : 8 - i = (8 - (i + 1)) + 1 := by omega
    rw [e]
    by_cases hc : inS (nI i) st ∧ ¬ mo < x i ∧ ¬ x i + fbs du (nI i) ≤ mo
    · rw [cumN_go hc, cum_ned hn hst s (i + 1) _ (by omega), oNed_go (by rw [← fbs_eq]; exact hc), fbs_eq]
    · rw [cumN_no hc, cum_ned hn hst s (i + 1) _ (by omega), oNed_no (by rw [← fbs_eq]; exact hc)]
theorem kCum_iff {st : Int32} {du ne : Int64} {cp : Int32} {x : Nat → Int32} : ∀ (t i : Nat), kCum st du ne cp x t i = true ↔ ∀ a, i ≤ a → a < i + t → ¬ (inS (nI a) st ∧ ¬ cumN st du ne (x a) x 8 0 0 ≤ cp)
  | 0, i => ⟨fun _ a h1 h2 => absurd h2 (by omega), fun _ => rfl⟩
  | t + 1, i => by
    by_cases hc : inS (nI i) st ∧ ¬ cumN st du ne (x i) x 8 0 0 ≤ cp
    · rw [kCum_hit hc]
      exact ⟨fun h => absurd h (by decide), fun h => absurd hc (h i (Nat.le_refl i) (by omega))⟩
    · rw [kCum_no hc, kCum_iff t (i + 1)]
      constructor
      · intro h a h1 h2
        by_cases e : a = i
        · rw [e]; exact hc
        · exact h a (by omega) (by omega)
      · intro h a h1 h2
        exact h a (by omega) (by omega)
theorem kCum_eq {n : Nat} {st : Int32} {du ne : Int64} {cp : Int32} {x : Nat → Int32} (hn : n ≤ 8) (hst : ivs n st) : decide (oFit n st cp du ne x) = kCum st du ne cp x 8 0 := by
  have e : ∀ mo, cumN st du ne mo x 8 0 0 = oNed st du ne mo x n 0 0 := fun mo => cum_ned hn hst n 0 0 (by omega)
  have h2 : kCum st du ne cp x 8 0 = true ↔ oFit n st cp du ne x := by
    rw [kCum_iff]
    constructor
    · intro h a ha
      by_cases hs : inS (nI a) st
      · refine Or.inr (fun hlt => h a (by omega) (by omega) ⟨hs, ?_⟩)
        rw [e]
        exact Int32.not_le.mpr hlt
      · exact Or.inl ((inS_0 hst hn (by omega)).mpr hs)
    · rintro h a _ ha ⟨hs, hc⟩
      have han := inS_lt hst hn (by omega) hs
      rw [e] at hc
      rcases h a han with h1 | h1
      · exact (inS_0 hst hn (by omega)).mp h1 hs
      · exact h1 (Int32.not_le.mp hc)
  by_cases hd : oFit n st cp du ne x
  · rw [decide_eq_true hd]; exact (h2.mpr hd).symm
  · rw [decide_eq_false hd]
    cases hk : kCum st du ne cp x 8 0
    · rfl
    · exact absurd (h2.mp hk) hd
end
