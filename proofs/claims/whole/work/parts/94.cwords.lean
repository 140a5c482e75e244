section
abbrev fW (D : va_G) (b1 : Nat) (g : Nat → Int32) : va_W := [(b1, .inl (D.1 100, 4096, .inl g))]
abbrev qf (l : List Nat) : Nat → Nat := fun i => l.getD i 0
abbrev xC (D : va_G) (u : (Nat → Nat) × (Nat → Int32)) : va_W := xw D u.1 0 1 0 0 0 (fun _ => 0) (fun _ => 0) u.2 (fun _ => 0) (fun _ => 0) (fun _ => 0) (fun _ => 0) (fun _ => 0) (fun _ => 0)
theorem fl_s {j : Nat} {g : Nat → Int32} {v : Int32} (h : ∀ i, i < j → g i = v) : ∀ i, i < j + 1 → upd g j v i = v := fun i hi => by
  by_cases e : i = j
  · rw [e, pk_us]
  · rw [pk_un e]; exact h i (by omega)
theorem wo_X_3 : Cond.methodLink R_X 3 objectInit ∈ cA ∧ Cond.instanceMethod objectInit ∈ cA ∧ Cond.code objectInit ⟨#[0xb1]⟩ 1 none ∈ cA := ⟨wd_19, wd_20, wd_21⟩
theorem wv_X_41 : Cond.code y_JA_fill b_JA_fill 4 none ∈ cA ∧ Cond.initialized y_JA_fill.cls ∈ cA ∧ Cond.methodLink R_X 41 y_JA_fill ∈ cA ∧ Cond.static y_JA_fill ∈ cA := ⟨wd_24, wd_2, wd_22, wd_23⟩
end
