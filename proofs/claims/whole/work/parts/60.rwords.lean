section
abbrev idW (w : va_W) : va_W := w
theorem cumN_no {st mo : Int32} {du ne : Int64} {x : Nat → Int32} {t i : Nat} {nd : Int32} (h : ¬ (inS (nI i) st ∧ ¬ mo < x i ∧ ¬ x i + fbs du (nI i) ≤ mo)) : cumN st du ne mo x (t + 1) i nd = cumN st du ne mo x t (i + 1) nd := if_neg h
theorem cumN_go {st mo : Int32} {du ne : Int64} {x : Nat → Int32} {t i : Nat} {nd : Int32} (h : inS (nI i) st ∧ ¬ mo < x i ∧ ¬ x i + fbs du (nI i) ≤ mo) : cumN st du ne mo x (t + 1) i nd = cumN st du ne mo x t (i + 1) (nd + fbs ne (nI i)) := if_pos h
theorem kCum_no {st cp : Int32} {du ne : Int64} {x : Nat → Int32} {t i : Nat} (h : ¬ (inS (nI i) st ∧ ¬ cumN st du ne (x i) x 8 0 0 ≤ cp)) : kCum st du ne cp x (t + 1) i = kCum st du ne cp x t (i + 1) := if_neg h
theorem kCum_hit {st cp : Int32} {du ne : Int64} {x : Nat → Int32} {t i : Nat} (h : inS (nI i) st ∧ ¬ cumN st du ne (x i) x 8 0 0 ≤ cp) : kCum st du ne cp x (t + 1) i = false := if_pos h
theorem aF_no {lo hi : Nat → Int32} {n k : Nat} {f : (Nat → Int32) → Bool} {t p : Nat} {x B : Nat → Int32} (h : ¬ (B p = 12 ∧ f x = false)) : aF lo hi n k f (t + 1) p x B = aF lo hi n k f t (p + 1) (nx lo hi n x) B := by
  simp only [aF]; rw [if_neg h]
theorem aF_go {lo hi : Nat → Int32} {n k : Nat} {f : (Nat → Int32) → Bool} {t p : Nat} {x B : Nat → Int32} (h : B p = 12 ∧ f x = false) : aF lo hi n k f (t + 1) p x B = aF lo hi n k f t (p + 1) (nx lo hi n x) (upd B p (nI k)) := by
  simp only [aF]; rw [if_pos h]
theorem ws_U_needAt : Cond.selects R_U y_U_needAt y_U_needAt ∈ cA := cA_in (List.mem_append_left _ (List.mem_of_getElem? (i := 7) (by decide +kernel))) rfl
theorem ws_C_partHolds : Cond.selects R_C y_C_partHolds y_C_partHolds ∈ cA := cA_in (List.mem_append_left _ (List.mem_of_getElem? (i := 6) (by decide +kernel))) rfl
theorem wo_JR_1 : Cond.methodLink R_JR 1 objectInit ∈ cA ∧ Cond.instanceMethod objectInit ∈ cA ∧ Cond.code objectInit ⟨#[0xb1]⟩ 1 none ∈ cA := ⟨wd_104, wd_20, wd_21⟩
theorem wv_L_3 : Cond.code y_JR_init b_JR_init 1 none ∈ cA ∧ Cond.initialized y_JR_init.cls ∈ cA ∧ Cond.methodLink R_L 3 y_JR_init ∈ cA ∧ Cond.instanceMethod y_JR_init ∈ cA := ⟨wd_103, wd_4, wd_101, wd_102⟩
theorem wv_R_1 : Cond.code y_JR_init b_JR_init 1 none ∈ cA ∧ Cond.initialized y_JR_init.cls ∈ cA ∧ Cond.methodLink R_R 1 y_JR_init ∈ cA ∧ Cond.instanceMethod y_JR_init ∈ cA := ⟨wd_103, wd_4, wd_221, wd_102⟩
theorem wv_M_3 : Cond.code y_JR_init b_JR_init 1 none ∈ cA ∧ Cond.initialized y_JR_init.cls ∈ cA ∧ Cond.methodLink R_M 3 y_JR_init ∈ cA ∧ Cond.instanceMethod y_JR_init ∈ cA := ⟨wd_103, wd_4, wd_244, wd_102⟩
theorem wv_E_1 : Cond.code y_JR_init b_JR_init 1 none ∈ cA ∧ Cond.initialized y_JR_init.cls ∈ cA ∧ Cond.methodLink R_E 1 y_JR_init ∈ cA ∧ Cond.instanceMethod y_JR_init ∈ cA := ⟨wd_103, wd_4, wd_267, wd_102⟩
theorem wv_D_3 : Cond.code y_JR_init b_JR_init 1 none ∈ cA ∧ Cond.initialized y_JR_init.cls ∈ cA ∧ Cond.methodLink R_D 3 y_JR_init ∈ cA ∧ Cond.instanceMethod y_JR_init ∈ cA := ⟨wd_103, wd_4, wd_291, wd_102⟩
theorem wv_U_3 : Cond.code y_JR_init b_JR_init 1 none ∈ cA ∧ Cond.initialized y_JR_init.cls ∈ cA ∧ Cond.methodLink R_U 3 y_JR_init ∈ cA ∧ Cond.instanceMethod y_JR_init ∈ cA := ⟨wd_103, wd_4, wd_304, wd_102⟩
theorem wv_C_3 : Cond.code y_JR_init b_JR_init 1 none ∈ cA ∧ Cond.initialized y_JR_init.cls ∈ cA ∧ Cond.methodLink R_C 3 y_JR_init ∈ cA ∧ Cond.instanceMethod y_JR_init ∈ cA := ⟨wd_103, wd_4, wd_326, wd_102⟩
theorem wv_L_33 : Cond.code y_L_product b_L_product 3 (some .int) ∈ cA ∧ Cond.initialized y_L_product.cls ∈ cA ∧ Cond.methodLink R_L 33 y_L_product ∈ cA ∧ Cond.static y_L_product ∈ cA := ⟨wd_192, wd_5, wd_190, wd_191⟩
theorem wm_M_24 : Cond.methodLink R_M 24 Lib.Math.max.name ∈ cA ∧ Cond.static Lib.Math.max.name ∈ cA ∧ Cond.initialized "java/lang/Math" ∈ cA ∧ Cond.code Lib.Math.max.name Lib.Math.max.code 2 (some .int) ∈ cA := ⟨wd_199, wd_200, wd_8, wd_201⟩
theorem wv_D_15 : Cond.code y_X_isIn b_X_isIn 2 (some .boolean) ∈ cA ∧ Cond.initialized y_X_isIn.cls ∈ cA ∧ Cond.static y_X_isIn ∈ cA := ⟨wd_155, wd_1, wd_154⟩
theorem wv_U_25 : Cond.code y_X_isIn b_X_isIn 2 (some .boolean) ∈ cA ∧ Cond.initialized y_X_isIn.cls ∈ cA ∧ Cond.static y_X_isIn ∈ cA := ⟨wd_155, wd_1, wd_154⟩
theorem wv_U_33 : Cond.code y_U_fourBits b_U_fourBits 3 (some .int) ∈ cA ∧ Cond.initialized y_U_fourBits.cls ∈ cA ∧ Cond.methodLink R_U 33 y_U_fourBits ∈ cA ∧ Cond.static y_U_fourBits ∈ cA := ⟨wd_170, wd_7, wd_168, wd_169⟩
theorem wv_U_29 : Cond.code y_U_needAt b_U_needAt 5 (some .int) ∈ cA ∧ Cond.initialized y_U_needAt.cls ∈ cA ∧ Cond.methodLink R_U 29 y_U_needAt ∈ cA ∧ Cond.instanceMethod y_U_needAt ∈ cA ∧ Cond.selects y_U_needAt.cls y_U_needAt y_U_needAt ∈ cA := ⟨wd_167, wd_7, wd_163, wd_165, ws_U_needAt⟩
theorem wv_C_37 : Cond.code y_X_isIn b_X_isIn 2 (some .boolean) ∈ cA ∧ Cond.initialized y_X_isIn.cls ∈ cA ∧ Cond.static y_X_isIn ∈ cA := ⟨wd_155, wd_1, wd_154⟩
theorem wv_C_33 : Cond.code y_C_partHolds b_C_partHolds 5 (some .boolean) ∈ cA ∧ Cond.initialized y_C_partHolds.cls ∈ cA ∧ Cond.methodLink R_C 33 y_C_partHolds ∈ cA ∧ Cond.instanceMethod y_C_partHolds ∈ cA ∧ Cond.selects y_C_partHolds.cls y_C_partHolds y_C_partHolds ∈ cA := ⟨wd_152, wd_13, wd_148, wd_150, ws_C_partHolds⟩
end
