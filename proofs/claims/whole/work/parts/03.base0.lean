section
def zb (b : Bool) : Int32 := if b then 1 else 0
theorem zb_t {P : Prop} [Decidable P] (h : P) : 1 = zb (decide P) := by simp [zb, h]
theorem zb_f {P : Prop} [Decidable P] (h : ¬ P) : 0 = zb (decide P) := by simp [zb, h]
theorem zb_c {P : Prop} [Decidable P] {r : Int32} (h : r = zb (decide P)) : (r = 1 ∧ P) ∨ (r = 0 ∧ ¬ P) := by
  by_cases hp : P
  · exact Or.inl ⟨by rw [h]; simp [zb, hp], hp⟩
  · exact Or.inr ⟨by rw [h]; simp [zb, hp], hp⟩
theorem zb_cb {b : Bool} {r : Int32} (h : r = zb b) : (r = 1 ∧ b = true) ∨ (r = 0 ∧ b = false) := by
  cases b
  · exact Or.inr ⟨by rw [h]; rfl, rfl⟩
  · exact Or.inl ⟨by rw [h]; rfl, rfl⟩
/-- the steady words of the tables: every method's words are its own code's and these -/
def cA : List Cond := lw_tbl.filter goodWord
theorem cA_in {w : Cond} (h : w ∈ lw_tbl) (g : goodWord w = true) : w ∈ cA := List.mem_filter.mpr ⟨h, g⟩
theorem cA_tbl {w : Cond} (h : w ∈ tables_1) (g : goodWord w = true) : w ∈ cA := cA_in (List.mem_append_right _ h) g
abbrev wsm (y : MethodName) (b : ByteArray) (n : Nat) (r : Option FieldType) : List Cond := .code y b n r :: cA
theorem gdA {y : MethodName} {b : ByteArray} {n : Nat} {r : Option FieldType} (h : Cond.code y b n r ∈ cA) : GoodIn cA (wsm y b n r) := by
  intro w hw
  have h1 : w ∈ cA := by
    rcases List.mem_cons.mp hw with h2 | h2
    · rw [h2]; exact h
    · exact h2
  exact ⟨h1, good_of_word (List.mem_filter.mp h1).2⟩
/-- the classes of the arrays: of ints, of longs, of booleans -/
abbrev vT (D : va_G) : List (ClassId × FieldType) := [(D.1 100, .int), (D.1 101, .long), (D.1 102, .boolean)]
end
