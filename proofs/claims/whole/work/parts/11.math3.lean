section
/-- the first of the best: b is a solution below P, none below P has a smaller v, and every earlier one a greater -/
def bst (P : Nat) (sol : Nat → Prop) (v : Nat → Int32) (b : Nat) : Prop := b < P ∧ sol b ∧ (∀ p, p < P → sol p → v b ≤ v p) ∧ ∀ p, p < b → sol p → v b < v p
theorem bst_uniq {P : Nat} {sol : Nat → Prop} {v : Nat → Int32} {b c : Nat} (h : bst P sol v b) (g : bst P sol v c) : b = c := by
  obtain ⟨h1, h2, h3, h4⟩ := h
  obtain ⟨g1, g2, g3, g4⟩ := g
  rcases Nat.lt_trichotomy b c with e | e | e
  · have a1 := g4 b e h2
    have a2 := h3 c g1 g2
    rw [Int32.lt_iff_toInt_lt] at a1
    rw [Int32.le_iff_toInt_le] at a2
    omega
  · exact e
  · have a1 := h4 c e g2
    have a2 := g3 b h1 h2
    rw [Int32.lt_iff_toInt_lt] at a1
    rw [Int32.le_iff_toInt_le] at a2
    omega
theorem cpy_agr (n : Nat) (x f : Nat → Int32) : agr n (va_cpy x f 0 0 n) x := fun j hj => by
  rw [pk_cpy_in (Nat.zero_le j) (by omega)]
  congr 1
  omega
theorem sF_spec {B lo hi : Nat → Int32} {sz : Nat → Nat} {n : Nat} {ok : (Nat → Int32) → Bool} {w g : Int32} {i : Nat} (hr : rng n lo hi sz) (hok : sup n ok) (hi' : i < n ∨ w = 0)
    (hg : ∀ p, p < prd sz n → ¬ w * ptA lo sz n p i < g) (sol : Nat → Prop) (hsol : ∀ p, sol p ↔ B p = 12 ∧ ok (ptA lo sz n p) = true) (v : Nat → Int32) (hv : ∀ p, v p = w * ptA lo sz n p i) :
    ∀ (t p : Nat) (x fd : Nat → Int32) (any : Bool), p + t = prd sz n → (t = 0 ∨ agr n x (ptA lo sz n p)) → (any = false → ∀ c, c < p → ¬ sol c) → (any = true → ∃ b, bst p sol v b ∧ agr n fd (ptA lo sz n b)) →
      ((sF B lo hi n ok w g i t p x fd any).1 = false → ∀ c, c < prd sz n → ¬ sol c) ∧ ((sF B lo hi n ok w g i t p x fd any).1 = true → ∃ b, bst (prd sz n) sol v b ∧ agr n (sF B lo hi n ok w g i t p x fd any).2.2 (ptA lo sz n b))
  | 0, p, x, fd, any, hp, _, h1, h2 => by
    simp only [sF]
    rw [← hp, Nat.add_zero]
    exact ⟨h1, h2⟩
  | t + 1, p, x, fd, any, hp, hx, h1, h2 => by
    have hx : agr n x (ptA lo sz n p) := hx.resolve_left (by omega)
    have hval : ∀ (y : Nat → Int32) (c : Nat), agr n y (ptA lo sz n c) → w * y i = v c := fun y c hy => by
      rw [hv c]
      rcases hi' with h | h
      · rw [hy i h]
      · rw [h, Int32.zero_mul, Int32.zero_mul]
    have hox : ok x = ok (ptA lo sz n p) := hok _ _ hx
    have hxn : t = 0 ∨ agr n (nx lo hi n x) (ptA lo sz n (p + 1)) := by
      rcases Nat.eq_zero_or_pos t with h0 | h0
      · exact Or.inl h0
      · exact Or.inr ((nx_agr lo hi n _ _ (Nat.le_refl n) hx).trans (pt_next lo hi sz n p hr (by omega)))
    have ih := sF_spec hr hok hi' hg sol hsol v hv t (p + 1)
    simp only [sF]
    by_cases hc : B p = 12 ∧ ok x = true ∧ (any = false ∨ w * x i < w * fd i)
    · rw [if_pos hc]
      obtain ⟨c1, c2, c3⟩ := hc
      have hsp : sol p := (hsol p).mpr ⟨c1, by rw [← hox]; exact c2⟩
      have hlt : ∀ c, c < p → sol c → v p < v c := fun c hcp hsc => by
        rcases any with _ | _
        · exact absurd hsc (h1 rfl c hcp)
        · obtain ⟨b, ⟨b1, b2, b3, b4⟩, hb⟩ := h2 rfl
          have a1 : w * x i < w * fd i := c3.resolve_left (by decide)
          rw [hval x p hx, hval fd b hb] at a1
          have a2 := b3 c hcp hsc
          rw [Int32.lt_iff_toInt_lt] at a1 ⊢
          rw [Int32.le_iff_toInt_le] at a2
          omega
      have hfd : agr n (va_cpy x fd 0 0 n) (ptA lo sz n p) := (cpy_agr n x fd).trans hx
      by_cases hgl : w * x i = g
      · rw [if_pos hgl]
        refine ⟨fun h => absurd h (by simp), fun _ => ⟨p, ⟨by omega, hsp, fun c hcp hsc => ?_, hlt⟩, hfd⟩⟩
        have a1 := hg c hcp
        rw [← hv c, ← hgl, hval x p hx] at a1
        exact Int32.not_lt.mp a1
      · rw [if_neg hgl]
        refine ih _ _ true (by omega) hxn (fun h => absurd h (by simp)) (fun _ => ⟨p, ⟨by omega, hsp, fun c hcp hsc => ?_, hlt⟩, hfd⟩)
        by_cases e : c = p
        · rw [e]; exact Int32.le_refl _
        · exact Int32.le_of_lt (hlt c (by omega) hsc)
    · rw [if_neg hc]
      refine ih _ _ any (by omega) hxn (fun ha c hcp => ?_) (fun ha => ?_)
      · by_cases e : c = p
        · rw [e]
          intro hs
          have hs := (hsol p).mp hs
          exact hc ⟨hs.1, by rw [hox]; exact hs.2, Or.inl ha⟩
        · exact h1 ha c (by omega)
      · obtain ⟨b, ⟨b1, b2, b3, b4⟩, hb⟩ := h2 ha
        refine ⟨b, ⟨by omega, b2, fun c hcp hsc => ?_, b4⟩, hb⟩
        by_cases e : c = p
        · rw [e] at hsc ⊢
          have hs := (hsol p).mp hsc
          have a1 : ¬ w * x i < w * fd i := fun h => hc ⟨hs.1, by rw [hox]; exact hs.2, Or.inr h⟩
          rw [hval x p hx, hval fd b hb] at a1
          exact Int32.not_lt.mp a1
        · exact b3 c (by omega) hsc
end
