section
theorem i32_dec (x : Int32) : x + Int32.ofInt (-1) = x - 1 := by
  have h : Int32.ofInt (-1) = -1 := by decide
  rw [h, Int32.sub_eq_add_neg]
section
variable {B lo hi : Nat → Int32} {n : Nat} {ok : (Nat → Int32) → Bool} {w g : Int32} {i t p : Nat} {x fd : Nat → Int32} {any : Bool}
theorem sF_no (h : ¬ (B p = 12 ∧ ok x = true ∧ (any = false ∨ w * x i < w * fd i))) : sF B lo hi n ok w g i (t + 1) p x fd any = sF B lo hi n ok w g i t (p + 1) (nx lo hi n x) fd any := if_neg h
theorem sF_go (h : B p = 12 ∧ ok x = true ∧ (any = false ∨ w * x i < w * fd i)) (hg : ¬ w * x i = g) : sF B lo hi n ok w g i (t + 1) p x fd any = sF B lo hi n ok w g i t (p + 1) (nx lo hi n x) (va_cpy x fd 0 0 n) true := (if_pos h).trans (if_neg hg)
theorem sF_hit (h : B p = 12 ∧ ok x = true ∧ (any = false ∨ w * x i < w * fd i)) (hg : w * x i = g) : sF B lo hi n ok w g i (t + 1) p x fd any = (true, x, va_cpy x fd 0 0 n) := (if_pos h).trans (if_pos hg)
end
end
