section
theorem up_s {j : Nat} {g v : Nat → Int32} (h : ∀ i, i < j → g i = v i) : ∀ i, i < j + 1 → upd g j (v j) i = v i := fun i hi => by
  by_cases e : i = j
  · rw [e, pk_us]
  · rw [pk_un e]; exact h i (by omega)
theorem lk_s {n rw a : Nat} {lw s1 sd kd pa : Nat → Int32} {wd : Nat → Int64} {ao fo uo ho x : Nat → Int32} {p : Nat} {z : Int32} (h : ∀ p9, p9 < p → lkOk n rw a lw s1 sd kd pa wd ao fo uo ho p9) (hx : ∀ i, i < n → x i = vIn lw s1 sd (nI p) i) (hz : z = zb (decide (oAll n rw a kd pa wd ao fo uo x))) : ∀ p9, p9 < p + 1 → lkOk n rw a lw s1 sd kd pa wd ao fo uo (upd ho p z) p9 := fun p9 hp => by
  by_cases e : p9 = p
  · rw [e]
    exact ⟨x, hx, by rw [pk_us]; exact hz⟩
  · obtain ⟨y, h1, h2⟩ := h p9 (by omega)
    exact ⟨y, h1, by rw [pk_un e]; exact h2⟩
theorem iv_lt {n : Nat} {i : Int32} (h : iv n i) (hn : n ≤ 8) : i.toNatClampNeg < n := by
  obtain ⟨j, hj, rfl⟩ := nI_of h.1
  rw [nI_clamp hj]
  rcases Nat.lt_or_ge j n with h1 | h1
  · exact h1
  · exact absurd (nI_le h1 hj) h.2
abbrev fst9 (lw s1 sd ho : Nat → Int32) (i v : Int32) (p : Nat) : Prop := ¬ ho p = 0 ∧ (i < 0 ∨ vIn lw s1 sd (nI p) i.toNatClampNeg = v)
abbrev lkP (n P rw a : Nat) (lw s1 sd kd pa : Nat → Int32) (wd : Nat → Int64) (ao fo uo : Nat → Int32) (kn : Int32) (ho : Nat → Int32) : Prop := (kn = 0 ∨ kn = 1) ∧ (¬ kn = 0 → ∀ p, p < P → lkOk n rw a lw s1 sd kd pa wd ao fo uo ho p)
end
