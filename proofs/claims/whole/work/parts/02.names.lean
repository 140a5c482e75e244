section
def R_X : String := "ExplainingSolver"
def T_X : u_T := fun k => match k with
  | 0 => ("ExplainingSolver", "rangeLo", "[I", true)
  | 1 => ("ExplainingSolver", "rangeHi", "[I", true)
  | 2 => ("ExplainingSolver", "variableCount", "I", false)
  | 3 => ("ExplainingSolver", "brokenBy", "[I", true)
  | 4 => ("ExplainingSolver", "pointCount", "I", false)
  | 5 => ("ExplainingSolver", "constraintCount", "I", false)
  | 6 => ("ExplainingSolver", "assumedVariable", "[I", true)
  | 7 => ("ExplainingSolver", "assumedLo", "[I", true)
  | 8 => ("ExplainingSolver", "assumedHi", "[I", true)
  | 9 => ("ExplainingSolver", "assumptionCount", "I", false)
  | 10 => ("ExplainingSolver", "answer", "[I", true)
  | 11 => ("ExplainingSolver", "answered", "Z", false)
  | 12 => ("ExplainingSolver", "point", "[I", true)
  | _ => ("ExplainingSolver", "found", "[I", true)
def ty_X : Nat → FieldType := fun k => match k with
  | 0 => .array .int
  | 1 => .array .int
  | 2 => .int
  | 3 => .array .int
  | 4 => .int
  | 5 => .int
  | 6 => .array .int
  | 7 => .array .int
  | 8 => .array .int
  | 9 => .int
  | 10 => .array .int
  | 11 => .boolean
  | 12 => .array .int
  | _ => .array .int
theorem nm_X : ∀ a, a < 14 → ∀ b, b < 14 → a ≠ b → (T_X a).2.1 ≠ (T_X b).2.1 := by decide +kernel
theorem tok_X : ∀ k, k < 14 → parseFieldDescriptor (T_X k).2.2.1 = some (ty_X k) := by decide +kernel
theorem dz_X : ∀ j, j < 14 → defaultValue (ty_X j) = vp_V [.null, .null, .int 0, .null, .int 0, .int 0, .null, .null, .null, .int 0, .null, .int 0, .null, .null] j := fun j hj => by
  rcases (show j = 0 ∨ j = 1 ∨ j = 2 ∨ j = 3 ∨ j = 4 ∨ j = 5 ∨ j = 6 ∨ j = 7 ∨ j = 8 ∨ j = 9 ∨ j = 10 ∨ j = 11 ∨ j = 12 ∨ j = 13 by omega) with rfl | rfl | rfl | rfl | rfl | rfl | rfl | rfl | rfl | rfl | rfl | rfl | rfl | rfl <;> rfl
def R_O : String := "ExplainingSolverModel"
def T_O : u_T := fun k => match k with
  | 0 => ("ExplainingSolverModel", "count", "I", false)
  | 1 => ("ExplainingSolverModel", "low", "[I", true)
  | 2 => ("ExplainingSolverModel", "size", "[I", true)
  | 3 => ("ExplainingSolverModel", "stride", "[I", true)
  | 4 => ("ExplainingSolverModel", "space", "I", false)
  | 5 => ("ExplainingSolverModel", "rows", "I", false)
  | 6 => ("ExplainingSolverModel", "kind", "[I", true)
  | 7 => ("ExplainingSolverModel", "part", "[I", true)
  | 8 => ("ExplainingSolverModel", "wide", "[J", true)
  | 9 => ("ExplainingSolverModel", "piled", "I", false)
  | 10 => ("ExplainingSolverModel", "assumed", "[I", true)
  | 11 => ("ExplainingSolverModel", "from", "[I", true)
  | 12 => ("ExplainingSolverModel", "to", "[I", true)
  | 13 => ("ExplainingSolverModel", "known", "Z", false)
  | 14 => ("ExplainingSolverModel", "holds", "[Z", true)
  | 15 => ("ExplainingSolverModel", "answer", "I", false)
  | _ => ("ExplainingSolverModel", "x", "[I", true)
def ty_O : Nat → FieldType := fun k => match k with
  | 0 => .int
  | 1 => .array .int
  | 2 => .array .int
  | 3 => .array .int
  | 4 => .int
  | 5 => .int
  | 6 => .array .int
  | 7 => .array .int
  | 8 => .array .long
  | 9 => .int
  | 10 => .array .int
  | 11 => .array .int
  | 12 => .array .int
  | 13 => .boolean
  | 14 => .array .boolean
  | 15 => .int
  | _ => .array .int
theorem nm_O : ∀ a, a < 17 → ∀ b, b < 17 → a ≠ b → (T_O a).2.1 ≠ (T_O b).2.1 := by decide +kernel
theorem tok_O : ∀ k, k < 17 → parseFieldDescriptor (T_O k).2.2.1 = some (ty_O k) := by decide +kernel
theorem dz_O : ∀ j, j < 17 → defaultValue (ty_O j) = vp_V [.int 0, .null, .null, .null, .int 0, .int 0, .null, .null, .null, .int 0, .null, .null, .null, .int 0, .null, .int 0, .null] j := fun j hj => by
  rcases (show j = 0 ∨ j = 1 ∨ j = 2 ∨ j = 3 ∨ j = 4 ∨ j = 5 ∨ j = 6 ∨ j = 7 ∨ j = 8 ∨ j = 9 ∨ j = 10 ∨ j = 11 ∨ j = 12 ∨ j = 13 ∨ j = 14 ∨ j = 15 ∨ j = 16 by omega) with rfl | rfl | rfl | rfl | rfl | rfl | rfl | rfl | rfl | rfl | rfl | rfl | rfl | rfl | rfl | rfl | rfl <;> rfl
def R_L : String := "ExplainingSolver$Linear"
def T_L : u_T := fun k => match k with
  | 0 => ("ExplainingSolver$Linear", "i", "I", true)
  | 1 => ("ExplainingSolver$Linear", "a", "I", true)
  | 2 => ("ExplainingSolver$Linear", "j", "I", true)
  | 3 => ("ExplainingSolver$Linear", "b", "I", true)
  | 4 => ("ExplainingSolver$Linear", "k", "I", true)
  | 5 => ("ExplainingSolver$Linear", "c", "I", true)
  | _ => ("ExplainingSolver$Linear", "bound", "I", true)
def ty_L : Nat → FieldType := fun k => match k with
  | 0 => .int
  | 1 => .int
  | 2 => .int
  | 3 => .int
  | 4 => .int
  | 5 => .int
  | _ => .int
theorem nm_L : ∀ a, a < 7 → ∀ b, b < 7 → a ≠ b → (T_L a).2.1 ≠ (T_L b).2.1 := by decide +kernel
theorem tok_L : ∀ k, k < 7 → parseFieldDescriptor (T_L k).2.2.1 = some (ty_L k) := by decide +kernel
theorem dz_L : ∀ j, j < 7 → defaultValue (ty_L j) = vp_V [.int 0, .int 0, .int 0, .int 0, .int 0, .int 0, .int 0] j := fun j hj => by
  rcases (show j = 0 ∨ j = 1 ∨ j = 2 ∨ j = 3 ∨ j = 4 ∨ j = 5 ∨ j = 6 by omega) with rfl | rfl | rfl | rfl | rfl | rfl | rfl <;> rfl
def R_R : String := "ExplainingSolver$Reified"
def T_R : u_T := fun k => match k with
  | 0 => ("ExplainingSolver$Reified", "\x72", "I", true)
  | 1 => ("ExplainingSolver$Reified", "i", "I", true)
  | 2 => ("ExplainingSolver$Reified", "j", "I", true)
  | _ => ("ExplainingSolver$Reified", "c", "I", true)
def ty_R : Nat → FieldType := fun k => match k with
  | 0 => .int
  | 1 => .int
  | 2 => .int
  | _ => .int
theorem nm_R : ∀ a, a < 4 → ∀ b, b < 4 → a ≠ b → (T_R a).2.1 ≠ (T_R b).2.1 := by decide +kernel
theorem tok_R : ∀ k, k < 4 → parseFieldDescriptor (T_R k).2.2.1 = some (ty_R k) := by decide +kernel
theorem dz_R : ∀ j, j < 4 → defaultValue (ty_R j) = vp_V [.int 0, .int 0, .int 0, .int 0] j := fun j hj => by
  rcases (show j = 0 ∨ j = 1 ∨ j = 2 ∨ j = 3 by omega) with rfl | rfl | rfl | rfl <;> rfl
def R_M : String := "ExplainingSolver$Maximum"
def T_M : u_T := fun k => match k with
  | 0 => ("ExplainingSolver$Maximum", "\x72", "I", true)
  | 1 => ("ExplainingSolver$Maximum", "i", "I", true)
  | 2 => ("ExplainingSolver$Maximum", "j", "I", true)
  | _ => ("ExplainingSolver$Maximum", "k", "I", true)
def ty_M : Nat → FieldType := fun k => match k with
  | 0 => .int
  | 1 => .int
  | 2 => .int
  | _ => .int
theorem nm_M : ∀ a, a < 4 → ∀ b, b < 4 → a ≠ b → (T_M a).2.1 ≠ (T_M b).2.1 := by decide +kernel
theorem tok_M : ∀ k, k < 4 → parseFieldDescriptor (T_M k).2.2.1 = some (ty_M k) := by decide +kernel
theorem dz_M : ∀ j, j < 4 → defaultValue (ty_M j) = vp_V [.int 0, .int 0, .int 0, .int 0] j := fun j hj => by
  rcases (show j = 0 ∨ j = 1 ∨ j = 2 ∨ j = 3 by omega) with rfl | rfl | rfl | rfl <;> rfl
def R_E : String := "ExplainingSolver$Element"
def T_E : u_T := fun k => match k with
  | 0 => ("ExplainingSolver$Element", "\x72", "I", true)
  | 1 => ("ExplainingSolver$Element", "i", "I", true)
  | _ => ("ExplainingSolver$Element", "table", "J", true)
def ty_E : Nat → FieldType := fun k => match k with
  | 0 => .int
  | 1 => .int
  | _ => .long
theorem nm_E : ∀ a, a < 3 → ∀ b, b < 3 → a ≠ b → (T_E a).2.1 ≠ (T_E b).2.1 := by decide +kernel
theorem tok_E : ∀ k, k < 3 → parseFieldDescriptor (T_E k).2.2.1 = some (ty_E k) := by decide +kernel
theorem dz_E : ∀ j, j < 3 → defaultValue (ty_E j) = vp_V [.int 0, .int 0, .long 0] j := fun j hj => by
  rcases (show j = 0 ∨ j = 1 ∨ j = 2 by omega) with rfl | rfl | rfl <;> rfl
def R_D : String := "ExplainingSolver$Different"
def T_D : u_T := fun k => match k with
  | _ => ("ExplainingSolver$Different", "set", "I", true)
def ty_D : Nat → FieldType := fun k => match k with
  | _ => .int
theorem nm_D : ∀ a, a < 1 → ∀ b, b < 1 → a ≠ b → (T_D a).2.1 ≠ (T_D b).2.1 := by decide +kernel
theorem tok_D : ∀ k, k < 1 → parseFieldDescriptor (T_D k).2.2.1 = some (ty_D k) := by decide +kernel
theorem dz_D : ∀ j, j < 1 → defaultValue (ty_D j) = vp_V [.int 0] j := fun j hj => by
  rcases (show j = 0 by omega) with rfl <;> rfl
def R_U : String := "ExplainingSolver$Cumulative"
def T_U : u_T := fun k => match k with
  | 0 => ("ExplainingSolver$Cumulative", "set", "I", true)
  | 1 => ("ExplainingSolver$Cumulative", "durations", "J", true)
  | 2 => ("ExplainingSolver$Cumulative", "needs", "J", true)
  | _ => ("ExplainingSolver$Cumulative", "capacity", "I", true)
def ty_U : Nat → FieldType := fun k => match k with
  | 0 => .int
  | 1 => .long
  | 2 => .long
  | _ => .int
theorem nm_U : ∀ a, a < 4 → ∀ b, b < 4 → a ≠ b → (T_U a).2.1 ≠ (T_U b).2.1 := by decide +kernel
theorem tok_U : ∀ k, k < 4 → parseFieldDescriptor (T_U k).2.2.1 = some (ty_U k) := by decide +kernel
theorem dz_U : ∀ j, j < 4 → defaultValue (ty_U j) = vp_V [.int 0, .long 0, .long 0, .int 0] j := fun j hj => by
  rcases (show j = 0 ∨ j = 1 ∨ j = 2 ∨ j = 3 by omega) with rfl | rfl | rfl | rfl <;> rfl
def R_C : String := "ExplainingSolver$Clause"
def T_C : u_T := fun k => match k with
  | 0 => ("ExplainingSolver$Clause", "i", "I", true)
  | 1 => ("ExplainingSolver$Clause", "v", "I", true)
  | 2 => ("ExplainingSolver$Clause", "j", "I", true)
  | 3 => ("ExplainingSolver$Clause", "w", "I", true)
  | 4 => ("ExplainingSolver$Clause", "k", "I", true)
  | 5 => ("ExplainingSolver$Clause", "u", "I", true)
  | _ => ("ExplainingSolver$Clause", "how", "I", true)
def ty_C : Nat → FieldType := fun k => match k with
  | 0 => .int
  | 1 => .int
  | 2 => .int
  | 3 => .int
  | 4 => .int
  | 5 => .int
  | _ => .int
theorem nm_C : ∀ a, a < 7 → ∀ b, b < 7 → a ≠ b → (T_C a).2.1 ≠ (T_C b).2.1 := by decide +kernel
theorem tok_C : ∀ k, k < 7 → parseFieldDescriptor (T_C k).2.2.1 = some (ty_C k) := by decide +kernel
theorem dz_C : ∀ j, j < 7 → defaultValue (ty_C j) = vp_V [.int 0, .int 0, .int 0, .int 0, .int 0, .int 0, .int 0] j := fun j hj => by
  rcases (show j = 0 ∨ j = 1 ∨ j = 2 ∨ j = 3 ∨ j = 4 ∨ j = 5 ∨ j = 6 by omega) with rfl | rfl | rfl | rfl | rfl | rfl | rfl <;> rfl
def R_JR : String := "java/lang/Record"
def R_JA : String := "java/util/Arrays"
def R_JM : String := "java/lang/Math"
def R_W : String := "ExplainingSolverLaw"
def R_K : String := "ExplainingSolver$Constraint"
def R_JO : String := "java/lang/Object"
def R_JS : String := "java/lang/System"
abbrev b_X_init : ByteArray := prog_1_method_1_code
def y_X_init : MethodName := ⟨R_X, "<init>", "()V"⟩
abbrev b_X_variable : ByteArray := prog_1_method_2_code
def y_X_variable : MethodName := ⟨R_X, "variable", "(II)I"⟩
abbrev b_X_linear : ByteArray := prog_1_method_3_code
def y_X_linear : MethodName := ⟨R_X, "linear", "(IIIIIII)I"⟩
abbrev b_X_reified : ByteArray := prog_1_method_4_code
def y_X_reified : MethodName := ⟨R_X, "reified", "(IIII)I"⟩
abbrev b_X_maximum : ByteArray := prog_1_method_5_code
def y_X_maximum : MethodName := ⟨R_X, "maximum", "(IIII)I"⟩
abbrev b_X_element : ByteArray := prog_1_method_6_code
def y_X_element : MethodName := ⟨R_X, "element", "(IIJ)I"⟩
abbrev b_X_different : ByteArray := prog_1_method_7_code
def y_X_different : MethodName := ⟨R_X, "different", "(I)I"⟩
abbrev b_X_cumulative : ByteArray := prog_1_method_8_code
def y_X_cumulative : MethodName := ⟨R_X, "cumulative", "(IJJI)I"⟩
abbrev b_X_clause : ByteArray := prog_1_method_9_code
def y_X_clause : MethodName := ⟨R_X, "clause", "(IIIIIII)I"⟩
abbrev b_X_drop : ByteArray := prog_1_method_10_code
def y_X_drop : MethodName := ⟨R_X, "drop", "()Z"⟩
abbrev b_X_assume : ByteArray := prog_1_method_11_code
def y_X_assume : MethodName := ⟨R_X, "assume", "(III)Z"⟩
abbrev b_X_retract : ByteArray := prog_1_method_12_code
def y_X_retract : MethodName := ⟨R_X, "retract", "()Z"⟩
abbrev b_X_solve : ByteArray := prog_1_method_13_code
def y_X_solve : MethodName := ⟨R_X, "solve", "()Z"⟩
abbrev b_X_best : ByteArray := prog_1_method_14_code
def y_X_best : MethodName := ⟨R_X, "best", "(IZ)Z"⟩
abbrev b_X_value : ByteArray := prog_1_method_15_code
def y_X_value : MethodName := ⟨R_X, "value", "(I)I"⟩
abbrev b_X_least : ByteArray := prog_1_method_16_code
def y_X_least : MethodName := ⟨R_X, "least", "(I)I"⟩
abbrev b_X_greatest : ByteArray := prog_1_method_17_code
def y_X_greatest : MethodName := ⟨R_X, "greatest", "(I)I"⟩
abbrev b_X_implies : ByteArray := prog_1_method_18_code
def y_X_implies : MethodName := ⟨R_X, "implies", "(II)Z"⟩
abbrev b_X_variables : ByteArray := prog_1_method_19_code
def y_X_variables : MethodName := ⟨R_X, "variables", "()I"⟩
abbrev b_X_constraints : ByteArray := prog_1_method_20_code
def y_X_constraints : MethodName := ⟨R_X, "constraints", "()I"⟩
abbrev b_X_assumptions : ByteArray := prog_1_method_21_code
def y_X_assumptions : MethodName := ⟨R_X, "assumptions", "()I"⟩
abbrev b_X_space : ByteArray := prog_1_method_22_code
def y_X_space : MethodName := ⟨R_X, "space", "()I"⟩
abbrev b_X_isVariable : ByteArray := prog_1_method_23_code
def y_X_isVariable : MethodName := ⟨R_X, "isVariable", "(I)Z"⟩
abbrev b_X_isVariableOrAbsent : ByteArray := prog_1_method_24_code
def y_X_isVariableOrAbsent : MethodName := ⟨R_X, "isVariableOrAbsent", "(I)Z"⟩
abbrev b_X_areVariablesOrAbsent : ByteArray := prog_1_method_25_code
def y_X_areVariablesOrAbsent : MethodName := ⟨R_X, "areVariablesOrAbsent", "(III)Z"⟩
abbrev b_X_isSetOfVariables : ByteArray := prog_1_method_26_code
def y_X_isSetOfVariables : MethodName := ⟨R_X, "isSetOfVariables", "(I)Z"⟩
abbrev b_X_isWithin : ByteArray := prog_1_method_27_code
def y_X_isWithin : MethodName := ⟨R_X, "isWithin", "(II)Z"⟩
abbrev b_X_isIn : ByteArray := prog_1_method_28_code
def y_X_isIn : MethodName := ⟨R_X, "isIn", "(II)Z"⟩
abbrev b_X_splitPoints : ByteArray := prog_1_method_29_code
def y_X_splitPoints : MethodName := ⟨R_X, "splitPoints", "(I)V"⟩
abbrev b_X_add : ByteArray := prog_1_method_30_code
def y_X_add : MethodName := ⟨R_X, "add", "(LExplainingSolver$Constraint;)I"⟩
abbrev b_X_goToFirstPoint : ByteArray := prog_1_method_31_code
def y_X_goToFirstPoint : MethodName := ⟨R_X, "goToFirstPoint", "()V"⟩
abbrev b_X_goToNextPoint : ByteArray := prog_1_method_32_code
def y_X_goToNextPoint : MethodName := ⟨R_X, "goToNextPoint", "()V"⟩
abbrev b_X_search : ByteArray := prog_1_method_33_code
def y_X_search : MethodName := ⟨R_X, "search", "(II)Z"⟩
abbrev b_X_isAsAssumed : ByteArray := prog_1_method_34_code
def y_X_isAsAssumed : MethodName := ⟨R_X, "isAsAssumed", "()Z"⟩
abbrev b_X_keepAsAnswer : ByteArray := prog_1_method_35_code
def y_X_keepAsAnswer : MethodName := ⟨R_X, "keepAsAnswer", "(Z)Z"⟩
abbrev b_O_init : ByteArray := prog_11_method_1_code
def y_O_init : MethodName := ⟨R_O, "<init>", "()V"⟩
abbrev b_O_changed : ByteArray := prog_11_method_2_code
def y_O_changed : MethodName := ⟨R_O, "changed", "()V"⟩
abbrev b_O_within : ByteArray := prog_11_method_3_code
def y_O_within : MethodName := ⟨R_O, "within", "(III)Z"⟩
abbrev b_O_isVariable : ByteArray := prog_11_method_4_code
def y_O_isVariable : MethodName := ⟨R_O, "isVariable", "(I)Z"⟩
abbrev b_O_isPart : ByteArray := prog_11_method_5_code
def y_O_isPart : MethodName := ⟨R_O, "isPart", "(I)Z"⟩
abbrev b_O_variable : ByteArray := prog_11_method_6_code
def y_O_variable : MethodName := ⟨R_O, "variable", "(II)I"⟩
abbrev b_O_add : ByteArray := prog_11_method_7_code
def y_O_add : MethodName := ⟨R_O, "add", "(IJJ)I"⟩
abbrev b_O_set : ByteArray := prog_11_method_8_code
def y_O_set : MethodName := ⟨R_O, "set", "(III)V"⟩
abbrev b_O_linear : ByteArray := prog_11_method_9_code
def y_O_linear : MethodName := ⟨R_O, "linear", "(IIIIIII)I"⟩
abbrev b_O_reified : ByteArray := prog_11_method_10_code
def y_O_reified : MethodName := ⟨R_O, "reified", "(IIII)I"⟩
abbrev b_O_maximum : ByteArray := prog_11_method_11_code
def y_O_maximum : MethodName := ⟨R_O, "maximum", "(IIII)I"⟩
abbrev b_O_element : ByteArray := prog_11_method_12_code
def y_O_element : MethodName := ⟨R_O, "element", "(IIJ)I"⟩
abbrev b_O_isSet : ByteArray := prog_11_method_13_code
def y_O_isSet : MethodName := ⟨R_O, "isSet", "(I)Z"⟩
abbrev b_O_different : ByteArray := prog_11_method_14_code
def y_O_different : MethodName := ⟨R_O, "different", "(I)I"⟩
abbrev b_O_cumulative : ByteArray := prog_11_method_15_code
def y_O_cumulative : MethodName := ⟨R_O, "cumulative", "(IJJI)I"⟩
abbrev b_O_clause : ByteArray := prog_11_method_16_code
def y_O_clause : MethodName := ⟨R_O, "clause", "(IIIIIII)I"⟩
abbrev b_O_drop : ByteArray := prog_11_method_17_code
def y_O_drop : MethodName := ⟨R_O, "drop", "()Z"⟩
abbrev b_O_assume : ByteArray := prog_11_method_18_code
def y_O_assume : MethodName := ⟨R_O, "assume", "(III)Z"⟩
abbrev b_O_retract : ByteArray := prog_11_method_19_code
def y_O_retract : MethodName := ⟨R_O, "retract", "()Z"⟩
abbrev b_O_of : ByteArray := prog_11_method_20_code
def y_O_of : MethodName := ⟨R_O, "of", "(II)I"⟩
abbrev b_O_times : ByteArray := prog_11_method_21_code
def y_O_times : MethodName := ⟨R_O, "times", "(II)I"⟩
abbrev b_O_greatestOf : ByteArray := prog_11_method_22_code
def y_O_greatestOf : MethodName := ⟨R_O, "greatestOf", "(I)I"⟩
abbrev b_O_entryIs : ByteArray := prog_11_method_23_code
def y_O_entryIs : MethodName := ⟨R_O, "entryIs", "(I)Z"⟩
abbrev b_O_differ : ByteArray := prog_11_method_24_code
def y_O_differ : MethodName := ⟨R_O, "differ", "(I)Z"⟩
abbrev b_O_nibble : ByteArray := prog_11_method_25_code
def y_O_nibble : MethodName := ⟨R_O, "nibble", "(JI)I"⟩
abbrev b_O_needed : ByteArray := prog_11_method_26_code
def y_O_needed : MethodName := ⟨R_O, "needed", "(II)I"⟩
abbrev b_O_fits : ByteArray := prog_11_method_27_code
def y_O_fits : MethodName := ⟨R_O, "fits", "(I)Z"⟩
abbrev b_O_anyPart : ByteArray := prog_11_method_28_code
def y_O_anyPart : MethodName := ⟨R_O, "anyPart", "(I)Z"⟩
abbrev b_O_satisfied : ByteArray := prog_11_method_29_code
def y_O_satisfied : MethodName := ⟨R_O, "satisfied", "(I)Z"⟩
abbrev b_O_all : ByteArray := prog_11_method_30_code
def y_O_all : MethodName := ⟨R_O, "all", "()Z"⟩
abbrev b_O_valueIn : ByteArray := prog_11_method_31_code
def y_O_valueIn : MethodName := ⟨R_O, "valueIn", "(II)I"⟩
abbrev b_O_look : ByteArray := prog_11_method_32_code
def y_O_look : MethodName := ⟨R_O, "look", "()V"⟩
abbrev b_O_first : ByteArray := prog_11_method_33_code
def y_O_first : MethodName := ⟨R_O, "first", "(II)I"⟩
abbrev b_O_solve : ByteArray := prog_11_method_34_code
def y_O_solve : MethodName := ⟨R_O, "solve", "()Z"⟩
abbrev b_O_extreme : ByteArray := prog_11_method_35_code
def y_O_extreme : MethodName := ⟨R_O, "extreme", "(IZ)I"⟩
abbrev b_O_best : ByteArray := prog_11_method_36_code
def y_O_best : MethodName := ⟨R_O, "best", "(IZ)Z"⟩
abbrev b_O_value : ByteArray := prog_11_method_37_code
def y_O_value : MethodName := ⟨R_O, "value", "(I)I"⟩
abbrev b_O_least : ByteArray := prog_11_method_38_code
def y_O_least : MethodName := ⟨R_O, "least", "(I)I"⟩
abbrev b_O_greatest : ByteArray := prog_11_method_39_code
def y_O_greatest : MethodName := ⟨R_O, "greatest", "(I)I"⟩
abbrev b_O_implies : ByteArray := prog_11_method_40_code
def y_O_implies : MethodName := ⟨R_O, "implies", "(II)Z"⟩
abbrev b_O_variables : ByteArray := prog_11_method_41_code
def y_O_variables : MethodName := ⟨R_O, "variables", "()I"⟩
abbrev b_O_constraints : ByteArray := prog_11_method_42_code
def y_O_constraints : MethodName := ⟨R_O, "constraints", "()I"⟩
abbrev b_O_assumptions : ByteArray := prog_11_method_43_code
def y_O_assumptions : MethodName := ⟨R_O, "assumptions", "()I"⟩
abbrev b_O_space : ByteArray := prog_11_method_44_code
def y_O_space : MethodName := ⟨R_O, "space", "()I"⟩
abbrev b_C_init : ByteArray := prog_2_method_1_code
def y_C_init : MethodName := ⟨R_C, "<init>", "(IIIIIII)V"⟩
abbrev b_C_holdsAt : ByteArray := prog_2_method_2_code
def y_C_holdsAt : MethodName := ⟨R_C, "holdsAt", "([I)Z"⟩
abbrev b_C_partHolds : ByteArray := prog_2_method_3_code
def y_C_partHolds : MethodName := ⟨R_C, "partHolds", "(III[I)Z"⟩
abbrev b_U_init : ByteArray := prog_4_method_1_code
def y_U_init : MethodName := ⟨R_U, "<init>", "(IJJI)V"⟩
abbrev b_U_holdsAt : ByteArray := prog_4_method_2_code
def y_U_holdsAt : MethodName := ⟨R_U, "holdsAt", "([I)Z"⟩
abbrev b_U_needAt : ByteArray := prog_4_method_3_code
def y_U_needAt : MethodName := ⟨R_U, "needAt", "(I[I)I"⟩
abbrev b_U_fourBits : ByteArray := prog_4_method_4_code
def y_U_fourBits : MethodName := ⟨R_U, "fourBits", "(JI)I"⟩
abbrev b_D_init : ByteArray := prog_5_method_1_code
def y_D_init : MethodName := ⟨R_D, "<init>", "(I)V"⟩
abbrev b_D_holdsAt : ByteArray := prog_5_method_2_code
def y_D_holdsAt : MethodName := ⟨R_D, "holdsAt", "([I)Z"⟩
abbrev b_E_init : ByteArray := prog_6_method_1_code
def y_E_init : MethodName := ⟨R_E, "<init>", "(IIJ)V"⟩
abbrev b_E_holdsAt : ByteArray := prog_6_method_2_code
def y_E_holdsAt : MethodName := ⟨R_E, "holdsAt", "([I)Z"⟩
abbrev b_L_init : ByteArray := prog_7_method_1_code
def y_L_init : MethodName := ⟨R_L, "<init>", "(IIIIIII)V"⟩
abbrev b_L_holdsAt : ByteArray := prog_7_method_2_code
def y_L_holdsAt : MethodName := ⟨R_L, "holdsAt", "([I)Z"⟩
abbrev b_L_product : ByteArray := prog_7_method_3_code
def y_L_product : MethodName := ⟨R_L, "product", "(II[I)I"⟩
abbrev b_M_init : ByteArray := prog_8_method_1_code
def y_M_init : MethodName := ⟨R_M, "<init>", "(IIII)V"⟩
abbrev b_M_holdsAt : ByteArray := prog_8_method_2_code
def y_M_holdsAt : MethodName := ⟨R_M, "holdsAt", "([I)Z"⟩
abbrev b_R_init : ByteArray := prog_9_method_1_code
def y_R_init : MethodName := ⟨R_R, "<init>", "(IIII)V"⟩
abbrev b_R_holdsAt : ByteArray := prog_9_method_2_code
def y_R_holdsAt : MethodName := ⟨R_R, "holdsAt", "([I)Z"⟩
abbrev b_JR_init : ByteArray := prog_13_method_1_code
def y_JR_init : MethodName := ⟨R_JR, "<init>", "()V"⟩
abbrev b_JA_fill : ByteArray := prog_15_method_103_code
def y_JA_fill : MethodName := ⟨R_JA, "fill", "([II)V"⟩
def y_K_holdsAt : MethodName := ⟨R_K, "holdsAt", "([I)Z"⟩
abbrev vwCl : List vw_C := [(R_X, T_X, 14), (R_O, T_O, 17), (R_L, T_L, 7), (R_R, T_R, 4), (R_M, T_M, 4), (R_E, T_E, 3), (R_D, T_D, 1), (R_U, T_U, 4), (R_C, T_C, 7)]
end
