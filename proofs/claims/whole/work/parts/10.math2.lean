section
/-- the number of the first constraint that fails at a point; 12: none does -/
def fb (K : Nat → (Nat → Int32) → Bool) : Nat → (Nat → Int32) → Int32
  | 0, _ => 12
  | c + 1, x => if fb K c x = 12 then (if K c x = true then 12 else nI c) else fb K c x
theorem nI_n12 {c : Nat} (h : c < 12) : nI c ≠ 12 := by
  intro e
  have h1 := (nI_eq (a := c) (b := 12) (by omega) (by decide)).mp e
  omega
theorem fb_12 (K : Nat → (Nat → Int32) → Bool) (x : Nat → Int32) : ∀ c, c ≤ 12 → (fb K c x = 12 ↔ ∀ j, j < c → K j x = true)
  | 0, _ => ⟨fun _ j hj => absurd hj (by omega), fun _ => rfl⟩
  | c + 1, hc => by
    have ih := fb_12 K x c (by omega)
    simp only [fb]
    constructor
    · intro h j hj
      by_cases h1 : fb K c x = 12
      · rw [if_pos h1] at h
        by_cases h2 : K c x = true
        · by_cases e : j = c
          · rw [e]; exact h2
          · exact ih.mp h1 j (by omega)
        · rw [if_neg h2] at h
          exact absurd h (nI_n12 (by omega))
      · rw [if_neg h1] at h
        exact absurd h h1
    · intro h
      have h1 : fb K c x = 12 := ih.mpr (fun j hj => h j (by omega))
      rw [if_pos h1, if_pos (h c (by omega))]
theorem fb_val (K : Nat → (Nat → Int32) → Bool) (x : Nat → Int32) : ∀ c, fb K c x = 12 ∨ ∃ j, j < c ∧ fb K c x = nI j
  | 0 => Or.inl rfl
  | c + 1 => by
    simp only [fb]
    by_cases h1 : fb K c x = 12
    · rw [if_pos h1]
      by_cases h2 : K c x = true
      · rw [if_pos h2]; exact Or.inl rfl
      · rw [if_neg h2]; exact Or.inr ⟨c, by omega, rfl⟩
    · rw [if_neg h1]
      rcases fb_val K x c with h | ⟨j, hj, h⟩
      · exact absurd h h1
      · exact Or.inr ⟨j, by omega, h⟩
theorem fb_congr {K : Nat → (Nat → Int32) → Bool} {x y : Nat → Int32} : ∀ c, (∀ j, j < c → K j x = K j y) → fb K c x = fb K c y
  | 0, _ => rfl
  | c + 1, h => by
    simp only [fb]
    rw [fb_congr c (fun j hj => h j (by omega)), h c (by omega)]
theorem fb_ext {K L : Nat → (Nat → Int32) → Bool} {x : Nat → Int32} : ∀ c, (∀ j, j < c → K j x = L j x) → fb K c x = fb L c x
  | 0, _ => rfl
  | c + 1, h => by
    simp only [fb]
    rw [fb_ext c (fun j hj => h j (by omega)), h c (by omega)]
/-- dropping the last one -/
theorem fb_drop (K : Nat → (Nat → Int32) → Bool) (x : Nat → Int32) {c : Nat} (hc : c < 12) : (if fb K (c + 1) x = nI c then 12 else fb K (c + 1) x) = fb K c x := by
  by_cases h1 : fb K c x = 12
  · by_cases h2 : K c x = true
    · have e : fb K (c + 1) x = 12 := by simp only [fb]; rw [if_pos h1, if_pos h2]
      rw [e, h1, if_neg (fun h => nI_n12 hc h.symm)]
    · have e : fb K (c + 1) x = nI c := by simp only [fb]; rw [if_pos h1, if_neg h2]
      rw [e, h1, if_pos rfl]
  · have e : fb K (c + 1) x = fb K c x := by simp only [fb]; rw [if_neg h1]
    rw [e]
    rcases fb_val K x c with h | ⟨j, hj, h⟩
    · exact absurd h h1
    · rw [if_neg]
      rw [h]
      intro e
      have := (nI_eq (a := j) (b := c) (by omega) (by omega)).mp e
      omega
/-- a function of points that looks at the first n places alone -/
abbrev sup (n : Nat) (f : (Nat → Int32) → Bool) : Prop := ∀ x y, agr n x y → f x = f y
theorem aF_spec {lo hi : Nat → Int32} {sz : Nat → Nat} {n k : Nat} {f : (Nat → Int32) → Bool} (hr : rng n lo hi sz) (hf : sup n f) :
    ∀ (t p : Nat) (x B : Nat → Int32), p + t = prd sz n → (t = 0 ∨ agr n x (ptA lo sz n p)) → ∀ j, (aF lo hi n k f t p x B).1 j = if p ≤ j ∧ j < p + t ∧ B j = 12 ∧ f (ptA lo sz n j) = false then nI k else B j
  | 0, p, x, B, _, _, j => by
    simp only [aF]
    rw [if_neg (by omega)]
  | t + 1, p, x, B, hp, hx, j => by
    have hx : agr n x (ptA lo sz n p) := hx.resolve_left (by omega)
    have hfx : f x = f (ptA lo sz n p) := hf _ _ hx
    simp only [aF]
    rw [aF_spec hr hf t (p + 1) _ _ (by omega) (by
      rcases Nat.eq_zero_or_pos t with h0 | h0
      · exact Or.inl h0
      · exact Or.inr ((nx_agr lo hi n _ _ (Nat.le_refl n) hx).trans (pt_next lo hi sz n p hr (by omega)))) j]
    by_cases e : j = p
    · subst e
      rw [if_neg (by omega)]
      by_cases h : B j = 12 ∧ f x = false
      · rw [if_pos h, pk_us, if_pos ⟨Nat.le_refl j, by omega, h.1, by rw [← hfx]; exact h.2⟩]
      · rw [if_neg h, if_neg (fun h2 => h ⟨h2.2.2.1, by rw [hfx]; exact h2.2.2.2⟩)]
    · have hB : (if B p = 12 ∧ f x = false then upd B p (nI k) else B) j = B j := by
        by_cases h : B p = 12 ∧ f x = false
        · rw [if_pos h, pk_un e]
        · rw [if_neg h]
      rw [hB]
      by_cases h : p + 1 ≤ j ∧ j < p + 1 + t ∧ B j = 12 ∧ f (ptA lo sz n j) = false
      · rw [if_pos h, if_pos ⟨by omega, by omega, h.2.2⟩]
      · rw [if_neg h, if_neg (fun h2 => h ⟨by omega, by omega, h2.2.2⟩)]
theorem dF_spec (k : Nat) : ∀ (t p : Nat) (B : Nat → Int32) (j : Nat), dF k t p B j = if p ≤ j ∧ j < p + t ∧ B j = nI k then 12 else B j
  | 0, p, B, j => by
    simp only [dF]
    rw [if_neg (by omega)]
  | t + 1, p, B, j => by
    simp only [dF]
    rw [dF_spec k t (p + 1)]
    by_cases e : j = p
    · subst e
      rw [if_neg (by omega)]
      by_cases h : B j = nI k
      · rw [if_pos h, pk_us, if_pos ⟨Nat.le_refl j, by omega, h⟩]
      · rw [if_neg h, if_neg (fun h2 => h h2.2.2)]
    · have hB : (if B p = nI k then upd B p 12 else B) j = B j := by
        by_cases h : B p = nI k
        · rw [if_pos h, pk_un e]
        · rw [if_neg h]
      rw [hB]
      by_cases h : p + 1 ≤ j ∧ j < p + 1 + t ∧ B j = nI k
      · rw [if_pos h, if_pos ⟨by omega, by omega, h.2.2⟩]
      · rw [if_neg h, if_neg (fun h2 => h ⟨by omega, by omega, h2.2.2⟩)]
end
