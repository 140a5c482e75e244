section
theorem ws_O_isVariable : Cond.selects R_O y_O_isVariable y_O_isVariable ∈ cA := cA_in (List.mem_append_left _ (List.mem_of_getElem? (i := 15) (by decide +kernel))) rfl
theorem ws_O_changed : Cond.selects R_O y_O_changed y_O_changed ∈ cA := cA_in (List.mem_append_left _ (List.mem_of_getElem? (i := 13) (by decide +kernel))) rfl
theorem wv_O_59 : Cond.code y_O_isVariable b_O_isVariable 2 (some .boolean) ∈ cA ∧ Cond.initialized y_O_isVariable.cls ∈ cA ∧ Cond.methodLink R_O 59 y_O_isVariable ∈ cA ∧ Cond.instanceMethod y_O_isVariable ∈ cA ∧ Cond.selects y_O_isVariable.cls y_O_isVariable y_O_isVariable ∈ cA := ⟨wd_495, wd_3, wd_492, wd_494, ws_O_isVariable⟩
theorem wv_O_63 : Cond.code y_O_changed b_O_changed 1 none ∈ cA ∧ Cond.initialized y_O_changed.cls ∈ cA ∧ Cond.methodLink R_O 63 y_O_changed ∈ cA ∧ Cond.instanceMethod y_O_changed ∈ cA ∧ Cond.selects y_O_changed.cls y_O_changed y_O_changed ∈ cA := ⟨wd_483, wd_3, wd_480, wd_482, ws_O_changed⟩
end
