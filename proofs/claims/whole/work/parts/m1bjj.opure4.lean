section
theorem viv {n : Nat} {sd s1 : Nat → Int32} {i : Int32} (h : iv n i) (hn : n ≤ 8) (hsd : ∀ i, i < n → ¬ sd i = 0 ∧ ¬ s1 i = 0) : vp_in i 8 ∧ ¬ sd i.toNatClampNeg = 0 ∧ ¬ s1 i.toNatClampNeg = 0 := ⟨iv_in h hn, (hsd _ (iv_lt h hn)).1, (hsd _ (iv_lt h hn)).2⟩
abbrev oC (D : va_G) (q : Nat → Nat) : va_W := ow D q 0 1 0 0 0 (-1) (fun _ => 0) (fun _ => 0) (fun _ => 0) (fun _ => 0) (fun _ => 0) (fun _ => 0) (fun _ => 0) (fun _ => 0) (fun _ => 0) (fun _ => 0) (fun _ => 0)
end
