section
def xN (U : State) : Prop := (va_Nw (Cond.methodLinkNest R_X 68 y_L_init R_X) U ∧ va_Nw (Cond.methodLinkNest R_C 37 y_X_isIn R_X) U ∧ va_Nw (Cond.methodLinkNest R_U 25 y_X_isIn R_X) U ∧ va_Nw (Cond.methodLinkNest R_D 15 y_X_isIn R_X) U ∧ va_Nw (Cond.methodLinkNest R_X 81 y_R_init R_X) U ∧ va_Nw (Cond.methodLinkNest R_X 89 y_M_init R_X) U ∧ va_Nw (Cond.methodLinkNest R_X 92 y_E_init R_X) U ∧ va_Nw (Cond.methodLinkNest R_X 100 y_D_init R_X) U ∧ va_Nw (Cond.methodLinkNest R_X 104 y_U_init R_X) U ∧ va_Nw (Cond.methodLinkNest R_X 109 y_C_init R_X) U) ∧ (va_Fw R_L y_K_holdsAt y_L_holdsAt U ∧ va_Fw R_R y_K_holdsAt y_R_holdsAt U ∧ va_Fw R_M y_K_holdsAt y_M_holdsAt U ∧ va_Fw R_E y_K_holdsAt y_E_holdsAt U ∧ va_Fw R_D y_K_holdsAt y_D_holdsAt U ∧ va_Fw R_U y_K_holdsAt y_U_holdsAt U ∧ va_Fw R_C y_K_holdsAt y_C_holdsAt U)
theorem xN_same {u U : State} (h : u.vm = U.vm) (hN : xN u) : xN U := by
  have ha : u.vm.Alike U.vm := by rw [h]; exact Vm.Alike.refl U.vm
  exact ⟨⟨va_Nw.same rfl h hN.1.1, va_Nw.same rfl h hN.1.2.1, va_Nw.same rfl h hN.1.2.2.1, va_Nw.same rfl h hN.1.2.2.2.1, va_Nw.same rfl h hN.1.2.2.2.2.1, va_Nw.same rfl h hN.1.2.2.2.2.2.1, va_Nw.same rfl h hN.1.2.2.2.2.2.2.1, va_Nw.same rfl h hN.1.2.2.2.2.2.2.2.1, va_Nw.same rfl h hN.1.2.2.2.2.2.2.2.2.1, va_Nw.same rfl h hN.1.2.2.2.2.2.2.2.2.2⟩, ⟨va_Fw.moved ⟨by decide, by decide⟩ ha hN.2.1, va_Fw.moved ⟨by decide, by decide⟩ ha hN.2.2.1, va_Fw.moved ⟨by decide, by decide⟩ ha hN.2.2.2.1, va_Fw.moved ⟨by decide, by decide⟩ ha hN.2.2.2.2.1, va_Fw.moved ⟨by decide, by decide⟩ ha hN.2.2.2.2.2.1, va_Fw.moved ⟨by decide, by decide⟩ ha hN.2.2.2.2.2.2.1, va_Fw.moved ⟨by decide, by decide⟩ ha hN.2.2.2.2.2.2.2⟩⟩
theorem xN_warm {s U : State} (hW : s.WarmedH U.vm) (hN : xN s) : xN U :=
  ⟨⟨va_Nw.warmM hW hN.1.1, va_Nw.warmM hW hN.1.2.1, va_Nw.warmM hW hN.1.2.2.1, va_Nw.warmM hW hN.1.2.2.2.1, va_Nw.warmM hW hN.1.2.2.2.2.1, va_Nw.warmM hW hN.1.2.2.2.2.2.1, va_Nw.warmM hW hN.1.2.2.2.2.2.2.1, va_Nw.warmM hW hN.1.2.2.2.2.2.2.2.1, va_Nw.warmM hW hN.1.2.2.2.2.2.2.2.2.1, va_Nw.warmM hW hN.1.2.2.2.2.2.2.2.2.2⟩, ⟨va_Fw.moved ⟨by decide, by decide⟩ hW.alike hN.2.1, va_Fw.moved ⟨by decide, by decide⟩ hW.alike hN.2.2.1, va_Fw.moved ⟨by decide, by decide⟩ hW.alike hN.2.2.2.1, va_Fw.moved ⟨by decide, by decide⟩ hW.alike hN.2.2.2.2.1, va_Fw.moved ⟨by decide, by decide⟩ hW.alike hN.2.2.2.2.2.1, va_Fw.moved ⟨by decide, by decide⟩ hW.alike hN.2.2.2.2.2.2.1, va_Fw.moved ⟨by decide, by decide⟩ hW.alike hN.2.2.2.2.2.2.2⟩⟩
theorem xN_of {args : Array Value} {s : State} (hts : ∀ w ∈ lw_tbl, w.before args s = true) : xN s :=
  ⟨⟨va_Nw.of rfl (hts _ wd_98), va_Nw.of rfl (hts _ wd_153), va_Nw.of rfl (hts _ wd_162), va_Nw.of rfl (hts _ wd_177), va_Nw.of rfl (hts _ wd_218), va_Nw.of rfl (hts _ wd_241), va_Nw.of rfl (hts _ wd_264), va_Nw.of rfl (hts _ wd_288), va_Nw.of rfl (hts _ wd_301), va_Nw.of rfl (hts _ wd_323)⟩, ⟨va_Fw.of (hts _ wd_141) (hts _ wd_140) (hts _ wd_188) (hts _ wd_186) (hts _ wd_184), va_Fw.of (hts _ wd_141) (hts _ wd_140) (hts _ wd_206) (hts _ wd_204) (hts _ wd_202), va_Fw.of (hts _ wd_141) (hts _ wd_140) (hts _ wd_197) (hts _ wd_195) (hts _ wd_193), va_Fw.of (hts _ wd_141) (hts _ wd_140) (hts _ wd_182) (hts _ wd_180) (hts _ wd_178), va_Fw.of (hts _ wd_141) (hts _ wd_140) (hts _ wd_175) (hts _ wd_173) (hts _ wd_171), va_Fw.of (hts _ wd_141) (hts _ wd_140) (hts _ wd_160) (hts _ wd_158) (hts _ wd_156), va_Fw.of (hts _ wd_141) (hts _ wd_140) (hts _ wd_146) (hts _ wd_144) (hts _ wd_142)⟩⟩
end
section
theorem inA_X : ∀ w ∈ u_ws R_X T_X 14, w ∈ cA := by decide +kernel
theorem inA_O : ∀ w ∈ u_ws R_O T_O 17, w ∈ cA := by decide +kernel
theorem inA_L : ∀ w ∈ u_ws R_L T_L 7, w ∈ cA := by decide +kernel
theorem inA_R : ∀ w ∈ u_ws R_R T_R 4, w ∈ cA := by decide +kernel
theorem inA_M : ∀ w ∈ u_ws R_M T_M 4, w ∈ cA := by decide +kernel
theorem inA_E : ∀ w ∈ u_ws R_E T_E 3, w ∈ cA := by decide +kernel
theorem inA_D : ∀ w ∈ u_ws R_D T_D 1, w ∈ cA := by decide +kernel
theorem inA_U : ∀ w ∈ u_ws R_U T_U 4, w ∈ cA := by decide +kernel
theorem inA_C : ∀ w ∈ u_ws R_C T_C 7, w ∈ cA := by decide +kernel
end
