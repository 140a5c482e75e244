section
theorem le7 {x : Int32} (h : x < 8) : x ≤ 7 := by
  rw [Int32.lt_iff_toInt_lt, show (8 : Int32).toInt = 8 by decide] at h
  rw [Int32.le_iff_toInt_le, show (7 : Int32).toInt = 7 by decide]
  omega
theorem lt8i {x : Int32} (h : x ≤ 7) : x < 8 := by
  rw [Int32.le_iff_toInt_le, show (7 : Int32).toInt = 7 by decide] at h
  rw [Int32.lt_iff_toInt_lt, show (8 : Int32).toInt = 8 by decide]
  omega
theorem ne8 {a : Nat} (h : ¬ nI a = 8) (ha : a ≤ 8) : a < 8 := by
  rcases Nat.lt_or_ge a 8 with h1 | h1
  · exact h1
  · obtain rfl : a = 8 := by omega
    exact absurd rfl h
theorem ne12 {a : Nat} (h : ¬ nI a = 12) (ha : a ≤ 12) : a < 12 := by
  rcases Nat.lt_or_ge a 12 with h1 | h1
  · exact h1
  · obtain rfl : a = 12 := by omega
    exact absurd rfl h
theorem nI_ne {a b : Nat} (h : nI a = nI b) (ha : a < 2 ^ 31) (hb : b < 2 ^ 31) : a = b := (nI_eq ha hb).mp h
def sdI (sd : Nat → Int32) (v j : Nat) (g : Nat → Int32) : Prop := ∀ i, g i = if i < j then sd i * nI v else sd i
theorem sdI_0 (sd : Nat → Int32) (v : Nat) : sdI sd v 0 sd := fun i => by rw [if_neg (by omega)]
theorem sdI_s {sd g : Nat → Int32} {v j : Nat} (h : sdI sd v j g) : sdI sd v (j + 1) (upd g j (g j * nI v)) := fun i => by
  by_cases e : i = j
  · rw [e, pk_us, h j, if_neg (by omega), if_pos (by omega)]
  · rw [pk_un e, h i]
    by_cases h1 : i < j
    · rw [if_pos h1, if_pos (by omega)]
    · rw [if_neg h1, if_neg (by omega)]
abbrev clr7 (pa : Nat → Int32) (r : Nat) : Nat → Int32 := upd (upd (upd (upd (upd (upd (upd pa (7 * r + 0) 0) (7 * r + 1) 0) (7 * r + 2) 0) (7 * r + 3) 0) (7 * r + 4) 0) (7 * r + 5) 0) (7 * r + 6) 0
theorem gst_p {m i : Int32} {x : Nat → Int32} (h : ¬ i < 0) (h2 : ¬ x i.toNatClampNeg ≤ m) : x i.toNatClampNeg = gst m i x := (if_pos ⟨h, h2⟩).symm
theorem gst_1 {m i : Int32} {x : Nat → Int32} (h : i < 0) : m = gst m i x := (if_neg (fun h2 => h2.1 h)).symm
theorem gst_2 {m i : Int32} {x : Nat → Int32} (h : x i.toNatClampNeg ≤ m) : m = gst m i x := (if_neg (fun h2 => h2.2 h)).symm
-- a boolean that says whether all of the first j hold
theorem bl_t {A : Prop} {p : Nat → Prop} {j : Nat} (h : true = true ↔ A ∧ ∀ a, a < j → p a) (hp : p j) : true = true ↔ A ∧ ∀ a, a < j + 1 → p a := ⟨fun _ => ⟨(h.mp rfl).1, lt_s (h.mp rfl).2 hp⟩, fun _ => rfl⟩
theorem bl_f {A : Prop} {p : Nat → Prop} {j : Nat} (hp : ¬ p j) : false = true ↔ A ∧ ∀ a, a < j + 1 → p a := ⟨fun h => absurd h (by decide), fun h => absurd (h.2 j (by omega)) hp⟩
theorem bl_k {A : Prop} {p : Nat → Prop} {j : Nat} (h : false = true ↔ A ∧ ∀ a, a < j → p a) : false = true ↔ A ∧ ∀ a, a < j + 1 → p a := ⟨fun h => absurd h (by decide), fun h2 => h.mpr ⟨h2.1, fun a ha => h2.2 a (by omega)⟩⟩
theorem bl_0 {A : Prop} {p : Nat → Prop} {g : Bool} (h : g = true ↔ A) : g = true ↔ A ∧ ∀ a, a < 0 → p a := ⟨fun h2 => ⟨h.mp h2, fun a ha => absurd ha (by omega)⟩, fun h2 => h.mpr h2.1⟩
theorem bl_o {p : Nat → Prop} {g : Bool} {i : Nat} (h : g = true ↔ (∀ a, a < i → p a) ∧ p i) : g = true ↔ ∀ a, a < i + 1 → p a := ⟨fun h2 => lt_s (h.mp h2).1 (h.mp h2).2, fun h2 => h.mpr ⟨fun a ha => h2 a (by omega), h2 i (by omega)⟩⟩
theorem bl_e {P : Prop} [Decidable P] {g : Bool} (h : g = true ↔ P) : zb g = zb (decide P) := by
  congr 1
  by_cases hp : P
  · rw [decide_eq_true hp]; exact h.mpr hp
  · rw [decide_eq_false hp]
    cases g
    · rfl
    · exact absurd (h.mp rfl) hp
-- .. and one that says whether one of them does
theorem ex_k {p : Nat → Prop} {j : Nat} (h : true = true ↔ ∃ a, a < j ∧ p a) : true = true ↔ ∃ a, a < j + 1 ∧ p a := ⟨fun _ => by obtain ⟨a, h1, h2⟩ := h.mp rfl; exact ⟨a, by omega, h2⟩, fun _ => rfl⟩
theorem ex_t {p : Nat → Prop} {j : Nat} (hp : p j) : true = true ↔ ∃ a, a < j + 1 ∧ p a := ⟨fun _ => ⟨j, by omega, hp⟩, fun _ => rfl⟩
theorem ex_f {p : Nat → Prop} {j : Nat} (h : false = true ↔ ∃ a, a < j ∧ p a) (hp : ¬ p j) : false = true ↔ ∃ a, a < j + 1 ∧ p a := ⟨fun h => absurd h (by decide), fun ⟨a, h1, h2⟩ => by
  by_cases e : a = j
  · rw [e] at h2; exact absurd h2 hp
  · exact h.mpr ⟨a, by omega, h2⟩⟩
theorem ex_3 {p : Nat → Prop} {g : Bool} {j : Nat} (hj : j = 3) (h : g = true ↔ ∃ a, a < j ∧ p a) : g = true ↔ p 0 ∨ p 1 ∨ p 2 := by
  subst hj
  rw [h]
  constructor
  · rintro ⟨a, h1, h2⟩
    rcases (show a = 0 ∨ a = 1 ∨ a = 2 by omega) with rfl | rfl | rfl
    · exact Or.inl h2
    · exact Or.inr (Or.inl h2)
    · exact Or.inr (Or.inr h2)
  · rintro (h1 | h1 | h1)
    · exact ⟨0, by omega, h1⟩
    · exact ⟨1, by omega, h1⟩
    · exact ⟨2, by omega, h1⟩
theorem oNed_no {st mo : Int32} {w0 w1 : Int64} {x : Nat → Int32} {t i : Nat} {sm : Int32} (h : ¬ (inS (nI i) st ∧ ¬ mo < x i ∧ ¬ x i + oNib w0 (nI i) ≤ mo)) : oNed st w0 w1 mo x (t + 1) i sm = oNed st w0 w1 mo x t (i + 1) sm := by
  simp only [oNed]; rw [if_neg h]
theorem oNed_go {st mo : Int32} {w0 w1 : Int64} {x : Nat → Int32} {t i : Nat} {sm : Int32} (h : inS (nI i) st ∧ ¬ mo < x i ∧ ¬ x i + oNib w0 (nI i) ≤ mo) : oNed st w0 w1 mo x (t + 1) i sm = oNed st w0 w1 mo x t (i + 1) (sm + oNib w1 (nI i)) := by
  simp only [oNed]; rw [if_pos h]
theorem exF_no {ho v : Nat → Int32} {mo : Int32} {t p : Nat} {fd : Int32} (h : ¬ (¬ ho p = 0 ∧ (fd = 1000 ∨ (if mo = 0 then ¬ fd ≤ v p else ¬ v p ≤ fd)))) : exF ho v mo (t + 1) p fd = exF ho v mo t (p + 1) fd := by
  simp only [exF]; rw [if_neg h]
theorem exF_go {ho v : Nat → Int32} {mo : Int32} {t p : Nat} {fd : Int32} (h : ¬ ho p = 0 ∧ (fd = 1000 ∨ (if mo = 0 then ¬ fd ≤ v p else ¬ v p ≤ fd))) : exF ho v mo (t + 1) p fd = exF ho v mo t (p + 1) (v p) := by
  simp only [exF]; rw [if_pos h]
section
variable {n : Nat} {kd : Int32} {p : Nat → Int32} {w0 w1 : Int64} {x : Nat → Int32}
theorem oSat_0 (h : kd = 0) : oSat n kd p w0 w1 x = decide (oLin (p 0) (p 1) (p 2) (p 3) (p 4) (p 5) (p 6) x) := by subst h; rfl
theorem oSat_1 (h : kd = 1) : oSat n kd p w0 w1 x = decide (kRei (p 0) (p 1) (p 2) (p 3) x) := by subst h; rfl
theorem oSat_2 (h : kd = 2) : oSat n kd p w0 w1 x = decide (oMax (p 0) (p 1) (p 2) (p 3) x) := by subst h; rfl
theorem oSat_3 (h : kd = 3) : oSat n kd p w0 w1 x = decide (oEle (p 0) (p 1) w0 x) := by subst h; rfl
theorem oSat_4 (h : kd = 4) : oSat n kd p w0 w1 x = decide (oDif n (p 0) x) := by subst h; rfl
theorem oSat_5 (h : kd = 5) : oSat n kd p w0 w1 x = decide (oFit n (p 0) (p 1) w0 w1 x) := by subst h; rfl
theorem oSat_6 (h : kd = 6) : oSat n kd p w0 w1 x = decide (oAny p x) := by subst h; rfl
end
end
