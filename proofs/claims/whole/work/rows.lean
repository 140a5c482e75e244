section
-- ===== PART A: goes FIRST, ahead of the names: the tables' words, and 'selects' of the private methods out of them =====
/-- a private method of a class that the tables say can be made, by its rows of tables_1 -/
def lw_okq (q : MethodName × Nat) : Prop := (q.1.cls ≠ "java/lang/invoke/MethodHandle" ∧ q.1.cls ≠ "java/lang/invoke/VarHandle") ∧ Cond.instantiable q.1.cls q.2 ∈ tables_1 ∧ Cond.privateMethod q.1 ∈ tables_1 ∧ Cond.instanceMethod q.1 ∈ tables_1
theorem lw_p0 : lw_okq (⟨"ExplainingSolver", "splitPoints", "(I)V"⟩, 14) := ⟨⟨by decide +kernel, by decide +kernel⟩, List.mem_of_getElem? (i := 15) (by decide +kernel), List.mem_of_getElem? (i := 74) (by decide +kernel), List.mem_of_getElem? (i := 75) (by decide +kernel)⟩
theorem lw_p1 : lw_okq (⟨"ExplainingSolver", "areVariablesOrAbsent", "(III)Z"⟩, 14) := ⟨⟨by decide +kernel, by decide +kernel⟩, List.mem_of_getElem? (i := 15) (by decide +kernel), List.mem_of_getElem? (i := 82) (by decide +kernel), List.mem_of_getElem? (i := 83) (by decide +kernel)⟩
theorem lw_p2 : lw_okq (⟨"ExplainingSolver", "isVariableOrAbsent", "(I)Z"⟩, 14) := ⟨⟨by decide +kernel, by decide +kernel⟩, List.mem_of_getElem? (i := 15) (by decide +kernel), List.mem_of_getElem? (i := 86) (by decide +kernel), List.mem_of_getElem? (i := 87) (by decide +kernel)⟩
theorem lw_p3 : lw_okq (⟨"ExplainingSolver", "isVariable", "(I)Z"⟩, 14) := ⟨⟨by decide +kernel, by decide +kernel⟩, List.mem_of_getElem? (i := 15) (by decide +kernel), List.mem_of_getElem? (i := 90) (by decide +kernel), List.mem_of_getElem? (i := 91) (by decide +kernel)⟩
theorem lw_p4 : lw_okq (⟨"ExplainingSolver", "add", "(LExplainingSolver$Constraint;)I"⟩, 14) := ⟨⟨by decide +kernel, by decide +kernel⟩, List.mem_of_getElem? (i := 15) (by decide +kernel), List.mem_of_getElem? (i := 128) (by decide +kernel), List.mem_of_getElem? (i := 129) (by decide +kernel)⟩
theorem lw_p5 : lw_okq (⟨"ExplainingSolver", "goToFirstPoint", "()V"⟩, 14) := ⟨⟨by decide +kernel, by decide +kernel⟩, List.mem_of_getElem? (i := 15) (by decide +kernel), List.mem_of_getElem? (i := 132) (by decide +kernel), List.mem_of_getElem? (i := 133) (by decide +kernel)⟩
theorem lw_p6 : lw_okq (⟨"ExplainingSolver$Clause", "partHolds", "(III[I)Z"⟩, 7) := ⟨⟨by decide +kernel, by decide +kernel⟩, List.mem_of_getElem? (i := 151) (by decide +kernel), List.mem_of_getElem? (i := 149) (by decide +kernel), List.mem_of_getElem? (i := 150) (by decide +kernel)⟩
theorem lw_p7 : lw_okq (⟨"ExplainingSolver$Cumulative", "needAt", "(I[I)I"⟩, 4) := ⟨⟨by decide +kernel, by decide +kernel⟩, List.mem_of_getElem? (i := 166) (by decide +kernel), List.mem_of_getElem? (i := 164) (by decide +kernel), List.mem_of_getElem? (i := 165) (by decide +kernel)⟩
theorem lw_p8 : lw_okq (⟨"ExplainingSolver", "goToNextPoint", "()V"⟩, 14) := ⟨⟨by decide +kernel, by decide +kernel⟩, List.mem_of_getElem? (i := 15) (by decide +kernel), List.mem_of_getElem? (i := 209) (by decide +kernel), List.mem_of_getElem? (i := 210) (by decide +kernel)⟩
theorem lw_p9 : lw_okq (⟨"ExplainingSolver", "isSetOfVariables", "(I)Z"⟩, 14) := ⟨⟨by decide +kernel, by decide +kernel⟩, List.mem_of_getElem? (i := 15) (by decide +kernel), List.mem_of_getElem? (i := 283) (by decide +kernel), List.mem_of_getElem? (i := 284) (by decide +kernel)⟩
theorem lw_p10 : lw_okq (⟨"ExplainingSolver", "search", "(II)Z"⟩, 14) := ⟨⟨by decide +kernel, by decide +kernel⟩, List.mem_of_getElem? (i := 15) (by decide +kernel), List.mem_of_getElem? (i := 366) (by decide +kernel), List.mem_of_getElem? (i := 367) (by decide +kernel)⟩
theorem lw_p11 : lw_okq (⟨"ExplainingSolver", "isAsAssumed", "()Z"⟩, 14) := ⟨⟨by decide +kernel, by decide +kernel⟩, List.mem_of_getElem? (i := 15) (by decide +kernel), List.mem_of_getElem? (i := 373) (by decide +kernel), List.mem_of_getElem? (i := 374) (by decide +kernel)⟩
theorem lw_p12 : lw_okq (⟨"ExplainingSolver", "keepAsAnswer", "(Z)Z"⟩, 14) := ⟨⟨by decide +kernel, by decide +kernel⟩, List.mem_of_getElem? (i := 15) (by decide +kernel), List.mem_of_getElem? (i := 377) (by decide +kernel), List.mem_of_getElem? (i := 378) (by decide +kernel)⟩
theorem lw_p13 : lw_okq (⟨"ExplainingSolverModel", "changed", "()V"⟩, 17) := ⟨⟨by decide +kernel, by decide +kernel⟩, List.mem_of_getElem? (i := 417) (by decide +kernel), List.mem_of_getElem? (i := 481) (by decide +kernel), List.mem_of_getElem? (i := 482) (by decide +kernel)⟩
theorem lw_p14 : lw_okq (⟨"ExplainingSolverModel", "isPart", "(I)Z"⟩, 17) := ⟨⟨by decide +kernel, by decide +kernel⟩, List.mem_of_getElem? (i := 417) (by decide +kernel), List.mem_of_getElem? (i := 489) (by decide +kernel), List.mem_of_getElem? (i := 490) (by decide +kernel)⟩
theorem lw_p15 : lw_okq (⟨"ExplainingSolverModel", "isVariable", "(I)Z"⟩, 17) := ⟨⟨by decide +kernel, by decide +kernel⟩, List.mem_of_getElem? (i := 417) (by decide +kernel), List.mem_of_getElem? (i := 493) (by decide +kernel), List.mem_of_getElem? (i := 494) (by decide +kernel)⟩
def lw_privs_1 : List (MethodName × Nat) := [(⟨"ExplainingSolver", "splitPoints", "(I)V"⟩, 14), (⟨"ExplainingSolver", "areVariablesOrAbsent", "(III)Z"⟩, 14), (⟨"ExplainingSolver", "isVariableOrAbsent", "(I)Z"⟩, 14), (⟨"ExplainingSolver", "isVariable", "(I)Z"⟩, 14), (⟨"ExplainingSolver", "add", "(LExplainingSolver$Constraint;)I"⟩, 14), (⟨"ExplainingSolver", "goToFirstPoint", "()V"⟩, 14), (⟨"ExplainingSolver$Clause", "partHolds", "(III[I)Z"⟩, 7), (⟨"ExplainingSolver$Cumulative", "needAt", "(I[I)I"⟩, 4), (⟨"ExplainingSolver", "goToNextPoint", "()V"⟩, 14), (⟨"ExplainingSolver", "isSetOfVariables", "(I)Z"⟩, 14), (⟨"ExplainingSolver", "search", "(II)Z"⟩, 14), (⟨"ExplainingSolver", "isAsAssumed", "()Z"⟩, 14), (⟨"ExplainingSolver", "keepAsAnswer", "(Z)Z"⟩, 14), (⟨"ExplainingSolverModel", "changed", "()V"⟩, 17), (⟨"ExplainingSolverModel", "isPart", "(I)Z"⟩, 17), (⟨"ExplainingSolverModel", "isVariable", "(I)Z"⟩, 17)]
theorem lw_r1 : ∀ q ∈ lw_privs_1, lw_okq q := List.forall_mem_cons.mpr ⟨lw_p0, List.forall_mem_cons.mpr ⟨lw_p1, List.forall_mem_cons.mpr ⟨lw_p2, List.forall_mem_cons.mpr ⟨lw_p3, List.forall_mem_cons.mpr ⟨lw_p4, List.forall_mem_cons.mpr ⟨lw_p5, List.forall_mem_cons.mpr ⟨lw_p6, List.forall_mem_cons.mpr ⟨lw_p7, List.forall_mem_cons.mpr ⟨lw_p8, List.forall_mem_cons.mpr ⟨lw_p9, List.forall_mem_cons.mpr ⟨lw_p10, List.forall_mem_cons.mpr ⟨lw_p11, List.forall_mem_cons.mpr ⟨lw_p12, List.forall_mem_cons.mpr ⟨lw_p13, List.forall_mem_cons.mpr ⟨lw_p14, List.forall_mem_cons.mpr ⟨lw_p15, fun _ h => absurd h List.not_mem_nil⟩⟩⟩⟩⟩⟩⟩⟩⟩⟩⟩⟩⟩⟩⟩⟩
theorem lw_p16 : lw_okq (⟨"ExplainingSolverModel", "add", "(IJJ)I"⟩, 17) := ⟨⟨by decide +kernel, by decide +kernel⟩, List.mem_of_getElem? (i := 417) (by decide +kernel), List.mem_of_getElem? (i := 500) (by decide +kernel), List.mem_of_getElem? (i := 501) (by decide +kernel)⟩
theorem lw_p17 : lw_okq (⟨"ExplainingSolverModel", "set", "(III)V"⟩, 17) := ⟨⟨by decide +kernel, by decide +kernel⟩, List.mem_of_getElem? (i := 417) (by decide +kernel), List.mem_of_getElem? (i := 504) (by decide +kernel), List.mem_of_getElem? (i := 505) (by decide +kernel)⟩
theorem lw_p18 : lw_okq (⟨"ExplainingSolverModel", "isSet", "(I)Z"⟩, 17) := ⟨⟨by decide +kernel, by decide +kernel⟩, List.mem_of_getElem? (i := 417) (by decide +kernel), List.mem_of_getElem? (i := 524) (by decide +kernel), List.mem_of_getElem? (i := 525) (by decide +kernel)⟩
theorem lw_p19 : lw_okq (⟨"ExplainingSolverModel", "first", "(II)I"⟩, 17) := ⟨⟨by decide +kernel, by decide +kernel⟩, List.mem_of_getElem? (i := 417) (by decide +kernel), List.mem_of_getElem? (i := 552) (by decide +kernel), List.mem_of_getElem? (i := 553) (by decide +kernel)⟩
theorem lw_p20 : lw_okq (⟨"ExplainingSolverModel", "look", "()V"⟩, 17) := ⟨⟨by decide +kernel, by decide +kernel⟩, List.mem_of_getElem? (i := 417) (by decide +kernel), List.mem_of_getElem? (i := 556) (by decide +kernel), List.mem_of_getElem? (i := 557) (by decide +kernel)⟩
theorem lw_p21 : lw_okq (⟨"ExplainingSolverModel", "valueIn", "(II)I"⟩, 17) := ⟨⟨by decide +kernel, by decide +kernel⟩, List.mem_of_getElem? (i := 417) (by decide +kernel), List.mem_of_getElem? (i := 560) (by decide +kernel), List.mem_of_getElem? (i := 561) (by decide +kernel)⟩
theorem lw_p22 : lw_okq (⟨"ExplainingSolverModel", "all", "()Z"⟩, 17) := ⟨⟨by decide +kernel, by decide +kernel⟩, List.mem_of_getElem? (i := 417) (by decide +kernel), List.mem_of_getElem? (i := 564) (by decide +kernel), List.mem_of_getElem? (i := 565) (by decide +kernel)⟩
theorem lw_p23 : lw_okq (⟨"ExplainingSolverModel", "satisfied", "(I)Z"⟩, 17) := ⟨⟨by decide +kernel, by decide +kernel⟩, List.mem_of_getElem? (i := 417) (by decide +kernel), List.mem_of_getElem? (i := 568) (by decide +kernel), List.mem_of_getElem? (i := 569) (by decide +kernel)⟩
theorem lw_p24 : lw_okq (⟨"ExplainingSolverModel", "of", "(II)I"⟩, 17) := ⟨⟨by decide +kernel, by decide +kernel⟩, List.mem_of_getElem? (i := 417) (by decide +kernel), List.mem_of_getElem? (i := 572) (by decide +kernel), List.mem_of_getElem? (i := 573) (by decide +kernel)⟩
theorem lw_p25 : lw_okq (⟨"ExplainingSolverModel", "times", "(II)I"⟩, 17) := ⟨⟨by decide +kernel, by decide +kernel⟩, List.mem_of_getElem? (i := 417) (by decide +kernel), List.mem_of_getElem? (i := 576) (by decide +kernel), List.mem_of_getElem? (i := 577) (by decide +kernel)⟩
theorem lw_p26 : lw_okq (⟨"ExplainingSolverModel", "greatestOf", "(I)I"⟩, 17) := ⟨⟨by decide +kernel, by decide +kernel⟩, List.mem_of_getElem? (i := 417) (by decide +kernel), List.mem_of_getElem? (i := 580) (by decide +kernel), List.mem_of_getElem? (i := 581) (by decide +kernel)⟩
theorem lw_p27 : lw_okq (⟨"ExplainingSolverModel", "entryIs", "(I)Z"⟩, 17) := ⟨⟨by decide +kernel, by decide +kernel⟩, List.mem_of_getElem? (i := 417) (by decide +kernel), List.mem_of_getElem? (i := 584) (by decide +kernel), List.mem_of_getElem? (i := 585) (by decide +kernel)⟩
theorem lw_p28 : lw_okq (⟨"ExplainingSolverModel", "differ", "(I)Z"⟩, 17) := ⟨⟨by decide +kernel, by decide +kernel⟩, List.mem_of_getElem? (i := 417) (by decide +kernel), List.mem_of_getElem? (i := 588) (by decide +kernel), List.mem_of_getElem? (i := 589) (by decide +kernel)⟩
theorem lw_p29 : lw_okq (⟨"ExplainingSolverModel", "fits", "(I)Z"⟩, 17) := ⟨⟨by decide +kernel, by decide +kernel⟩, List.mem_of_getElem? (i := 417) (by decide +kernel), List.mem_of_getElem? (i := 592) (by decide +kernel), List.mem_of_getElem? (i := 593) (by decide +kernel)⟩
theorem lw_p30 : lw_okq (⟨"ExplainingSolverModel", "needed", "(II)I"⟩, 17) := ⟨⟨by decide +kernel, by decide +kernel⟩, List.mem_of_getElem? (i := 417) (by decide +kernel), List.mem_of_getElem? (i := 596) (by decide +kernel), List.mem_of_getElem? (i := 597) (by decide +kernel)⟩
theorem lw_p31 : lw_okq (⟨"ExplainingSolverModel", "anyPart", "(I)Z"⟩, 17) := ⟨⟨by decide +kernel, by decide +kernel⟩, List.mem_of_getElem? (i := 417) (by decide +kernel), List.mem_of_getElem? (i := 604) (by decide +kernel), List.mem_of_getElem? (i := 605) (by decide +kernel)⟩
def lw_privs_2 : List (MethodName × Nat) := [(⟨"ExplainingSolverModel", "add", "(IJJ)I"⟩, 17), (⟨"ExplainingSolverModel", "set", "(III)V"⟩, 17), (⟨"ExplainingSolverModel", "isSet", "(I)Z"⟩, 17), (⟨"ExplainingSolverModel", "first", "(II)I"⟩, 17), (⟨"ExplainingSolverModel", "look", "()V"⟩, 17), (⟨"ExplainingSolverModel", "valueIn", "(II)I"⟩, 17), (⟨"ExplainingSolverModel", "all", "()Z"⟩, 17), (⟨"ExplainingSolverModel", "satisfied", "(I)Z"⟩, 17), (⟨"ExplainingSolverModel", "of", "(II)I"⟩, 17), (⟨"ExplainingSolverModel", "times", "(II)I"⟩, 17), (⟨"ExplainingSolverModel", "greatestOf", "(I)I"⟩, 17), (⟨"ExplainingSolverModel", "entryIs", "(I)Z"⟩, 17), (⟨"ExplainingSolverModel", "differ", "(I)Z"⟩, 17), (⟨"ExplainingSolverModel", "fits", "(I)Z"⟩, 17), (⟨"ExplainingSolverModel", "needed", "(II)I"⟩, 17), (⟨"ExplainingSolverModel", "anyPart", "(I)Z"⟩, 17)]
theorem lw_r2 : ∀ q ∈ lw_privs_2, lw_okq q := List.forall_mem_cons.mpr ⟨lw_p16, List.forall_mem_cons.mpr ⟨lw_p17, List.forall_mem_cons.mpr ⟨lw_p18, List.forall_mem_cons.mpr ⟨lw_p19, List.forall_mem_cons.mpr ⟨lw_p20, List.forall_mem_cons.mpr ⟨lw_p21, List.forall_mem_cons.mpr ⟨lw_p22, List.forall_mem_cons.mpr ⟨lw_p23, List.forall_mem_cons.mpr ⟨lw_p24, List.forall_mem_cons.mpr ⟨lw_p25, List.forall_mem_cons.mpr ⟨lw_p26, List.forall_mem_cons.mpr ⟨lw_p27, List.forall_mem_cons.mpr ⟨lw_p28, List.forall_mem_cons.mpr ⟨lw_p29, List.forall_mem_cons.mpr ⟨lw_p30, List.forall_mem_cons.mpr ⟨lw_p31, fun _ h => absurd h List.not_mem_nil⟩⟩⟩⟩⟩⟩⟩⟩⟩⟩⟩⟩⟩⟩⟩⟩
theorem lw_p32 : lw_okq (⟨"ExplainingSolverModel", "extreme", "(IZ)I"⟩, 17) := ⟨⟨by decide +kernel, by decide +kernel⟩, List.mem_of_getElem? (i := 417) (by decide +kernel), List.mem_of_getElem? (i := 612) (by decide +kernel), List.mem_of_getElem? (i := 613) (by decide +kernel)⟩
def lw_privs_3 : List (MethodName × Nat) := [(⟨"ExplainingSolverModel", "extreme", "(IZ)I"⟩, 17)]
theorem lw_r3 : ∀ q ∈ lw_privs_3, lw_okq q := List.forall_mem_cons.mpr ⟨lw_p32, fun _ h => absurd h List.not_mem_nil⟩
def lw_privs : List (MethodName × Nat) := lw_privs_1 ++ (lw_privs_2 ++ (lw_privs_3))
def lw_tbl : List Cond := k2_sels lw_privs ++ tables_1
theorem lw_privs_ok : ∀ q ∈ lw_privs, lw_okq q := by
  show ∀ q ∈ lw_privs_1 ++ (lw_privs_2 ++ (lw_privs_3)), lw_okq q
  exact List.forall_mem_append.mpr ⟨lw_r1, List.forall_mem_append.mpr ⟨lw_r2, lw_r3⟩⟩
end
section
section
def R_X : String := "ExplainingSolver"
def T_X : u_T := fun k => match k with
  | 0 => ("ExplainingSolver", "rangeLo", "[I", true)
  | 1 => ("ExplainingSolver", "rangeHi", "[I", true)
  | 2 => ("ExplainingSolver", "variableCount", "I", false)
  | 3 => ("ExplainingSolver", "brokenBy", "[I", true)
  | 4 => ("ExplainingSolver", "pointCount", "I", false)
  | 5 => ("ExplainingSolver", "constraintCount", "I", false)
  | 6 => ("ExplainingSolver", "assumedVariable", "[I", true)
  | 7 => ("ExplainingSolver", "assumedLo", "[I", true)
  | 8 => ("ExplainingSolver", "assumedHi", "[I", true)
  | 9 => ("ExplainingSolver", "assumptionCount", "I", false)
  | 10 => ("ExplainingSolver", "answer", "[I", true)
  | 11 => ("ExplainingSolver", "answered", "Z", false)
  | 12 => ("ExplainingSolver", "point", "[I", true)
  | _ => ("ExplainingSolver", "found", "[I", true)
def ty_X : Nat → FieldType := fun k => match k with
  | 0 => .array .int
  | 1 => .array .int
  | 2 => .int
  | 3 => .array .int
  | 4 => .int
  | 5 => .int
  | 6 => .array .int
  | 7 => .array .int
  | 8 => .array .int
  | 9 => .int
  | 10 => .array .int
  | 11 => .boolean
  | 12 => .array .int
  | _ => .array .int
theorem nm_X : ∀ a, a < 14 → ∀ b, b < 14 → a ≠ b → (T_X a).2.1 ≠ (T_X b).2.1 := by decide +kernel
theorem tok_X : ∀ k, k < 14 → parseFieldDescriptor (T_X k).2.2.1 = some (ty_X k) := by decide +kernel
theorem dz_X : ∀ j, j < 14 → defaultValue (ty_X j) = vp_V [.null, .null, .int 0, .null, .int 0, .int 0, .null, .null, .null, .int 0, .null, .int 0, .null, .null] j := fun j hj => by
  rcases (show j = 0 ∨ j = 1 ∨ j = 2 ∨ j = 3 ∨ j = 4 ∨ j = 5 ∨ j = 6 ∨ j = 7 ∨ j = 8 ∨ j = 9 ∨ j = 10 ∨ j = 11 ∨ j = 12 ∨ j = 13 by omega) with rfl | rfl | rfl | rfl | rfl | rfl | rfl | rfl | rfl | rfl | rfl | rfl | rfl | rfl <;> rfl
def R_O : String := "ExplainingSolverModel"
def T_O : u_T := fun k => match k with
  | 0 => ("ExplainingSolverModel", "count", "I", false)
  | 1 => ("ExplainingSolverModel", "low", "[I", true)
  | 2 => ("ExplainingSolverModel", "size", "[I", true)
  | 3 => ("ExplainingSolverModel", "stride", "[I", true)
  | 4 => ("ExplainingSolverModel", "space", "I", false)
  | 5 => ("ExplainingSolverModel", "rows", "I", false)
  | 6 => ("ExplainingSolverModel", "kind", "[I", true)
  | 7 => ("ExplainingSolverModel", "part", "[I", true)
  | 8 => ("ExplainingSolverModel", "wide", "[J", true)
  | 9 => ("ExplainingSolverModel", "piled", "I", false)
  | 10 => ("ExplainingSolverModel", "assumed", "[I", true)
  | 11 => ("ExplainingSolverModel", "from", "[I", true)
  | 12 => ("ExplainingSolverModel", "to", "[I", true)
  | 13 => ("ExplainingSolverModel", "known", "Z", false)
  | 14 => ("ExplainingSolverModel", "holds", "[Z", true)
  | 15 => ("ExplainingSolverModel", "answer", "I", false)
  | _ => ("ExplainingSolverModel", "x", "[I", true)
def ty_O : Nat → FieldType := fun k => match k with
  | 0 => .int
  | 1 => .array .int
  | 2 => .array .int
  | 3 => .array .int
  | 4 => .int
  | 5 => .int
  | 6 => .array .int
  | 7 => .array .int
  | 8 => .array .long
  | 9 => .int
  | 10 => .array .int
  | 11 => .array .int
  | 12 => .array .int
  | 13 => .boolean
  | 14 => .array .boolean
  | 15 => .int
  | _ => .array .int
theorem nm_O : ∀ a, a < 17 → ∀ b, b < 17 → a ≠ b → (T_O a).2.1 ≠ (T_O b).2.1 := by decide +kernel
theorem tok_O : ∀ k, k < 17 → parseFieldDescriptor (T_O k).2.2.1 = some (ty_O k) := by decide +kernel
theorem dz_O : ∀ j, j < 17 → defaultValue (ty_O j) = vp_V [.int 0, .null, .null, .null, .int 0, .int 0, .null, .null, .null, .int 0, .null, .null, .null, .int 0, .null, .int 0, .null] j := fun j hj => by
  rcases (show j = 0 ∨ j = 1 ∨ j = 2 ∨ j = 3 ∨ j = 4 ∨ j = 5 ∨ j = 6 ∨ j = 7 ∨ j = 8 ∨ j = 9 ∨ j = 10 ∨ j = 11 ∨ j = 12 ∨ j = 13 ∨ j = 14 ∨ j = 15 ∨ j = 16 by omega) with rfl | rfl | rfl | rfl | rfl | rfl | rfl | rfl | rfl | rfl | rfl | rfl | rfl | rfl | rfl | rfl | rfl <;> rfl
def R_L : String := "ExplainingSolver$Linear"
def T_L : u_T := fun k => match k with
  | 0 => ("ExplainingSolver$Linear", "i", "I", true)
  | 1 => ("ExplainingSolver$Linear", "a", "I", true)
  | 2 => ("ExplainingSolver$Linear", "j", "I", true)
  | 3 => ("ExplainingSolver$Linear", "b", "I", true)
  | 4 => ("ExplainingSolver$Linear", "k", "I", true)
  | 5 => ("ExplainingSolver$Linear", "c", "I", true)
  | _ => ("ExplainingSolver$Linear", "bound", "I", true)
def ty_L : Nat → FieldType := fun k => match k with
  | 0 => .int
  | 1 => .int
  | 2 => .int
  | 3 => .int
  | 4 => .int
  | 5 => .int
  | _ => .int
theorem nm_L : ∀ a, a < 7 → ∀ b, b < 7 → a ≠ b → (T_L a).2.1 ≠ (T_L b).2.1 := by decide +kernel
theorem tok_L : ∀ k, k < 7 → parseFieldDescriptor (T_L k).2.2.1 = some (ty_L k) := by decide +kernel
theorem dz_L : ∀ j, j < 7 → defaultValue (ty_L j) = vp_V [.int 0, .int 0, .int 0, .int 0, .int 0, .int 0, .int 0] j := fun j hj => by
  rcases (show j = 0 ∨ j = 1 ∨ j = 2 ∨ j = 3 ∨ j = 4 ∨ j = 5 ∨ j = 6 by omega) with rfl | rfl | rfl | rfl | rfl | rfl | rfl <;> rfl
def R_R : String := "ExplainingSolver$Reified"
def T_R : u_T := fun k => match k with
  | 0 => ("ExplainingSolver$Reified", "\x72", "I", true)
  | 1 => ("ExplainingSolver$Reified", "i", "I", true)
  | 2 => ("ExplainingSolver$Reified", "j", "I", true)
  | _ => ("ExplainingSolver$Reified", "c", "I", true)
def ty_R : Nat → FieldType := fun k => match k with
  | 0 => .int
  | 1 => .int
  | 2 => .int
  | _ => .int
theorem nm_R : ∀ a, a < 4 → ∀ b, b < 4 → a ≠ b → (T_R a).2.1 ≠ (T_R b).2.1 := by decide +kernel
theorem tok_R : ∀ k, k < 4 → parseFieldDescriptor (T_R k).2.2.1 = some (ty_R k) := by decide +kernel
theorem dz_R : ∀ j, j < 4 → defaultValue (ty_R j) = vp_V [.int 0, .int 0, .int 0, .int 0] j := fun j hj => by
  rcases (show j = 0 ∨ j = 1 ∨ j = 2 ∨ j = 3 by omega) with rfl | rfl | rfl | rfl <;> rfl
def R_M : String := "ExplainingSolver$Maximum"
def T_M : u_T := fun k => match k with
  | 0 => ("ExplainingSolver$Maximum", "\x72", "I", true)
  | 1 => ("ExplainingSolver$Maximum", "i", "I", true)
  | 2 => ("ExplainingSolver$Maximum", "j", "I", true)
  | _ => ("ExplainingSolver$Maximum", "k", "I", true)
def ty_M : Nat → FieldType := fun k => match k with
  | 0 => .int
  | 1 => .int
  | 2 => .int
  | _ => .int
theorem nm_M : ∀ a, a < 4 → ∀ b, b < 4 → a ≠ b → (T_M a).2.1 ≠ (T_M b).2.1 := by decide +kernel
theorem tok_M : ∀ k, k < 4 → parseFieldDescriptor (T_M k).2.2.1 = some (ty_M k) := by decide +kernel
theorem dz_M : ∀ j, j < 4 → defaultValue (ty_M j) = vp_V [.int 0, .int 0, .int 0, .int 0] j := fun j hj => by
  rcases (show j = 0 ∨ j = 1 ∨ j = 2 ∨ j = 3 by omega) with rfl | rfl | rfl | rfl <;> rfl
def R_E : String := "ExplainingSolver$Element"
def T_E : u_T := fun k => match k with
  | 0 => ("ExplainingSolver$Element", "\x72", "I", true)
  | 1 => ("ExplainingSolver$Element", "i", "I", true)
  | _ => ("ExplainingSolver$Element", "table", "J", true)
def ty_E : Nat → FieldType := fun k => match k with
  | 0 => .int
  | 1 => .int
  | _ => .long
theorem nm_E : ∀ a, a < 3 → ∀ b, b < 3 → a ≠ b → (T_E a).2.1 ≠ (T_E b).2.1 := by decide +kernel
theorem tok_E : ∀ k, k < 3 → parseFieldDescriptor (T_E k).2.2.1 = some (ty_E k) := by decide +kernel
theorem dz_E : ∀ j, j < 3 → defaultValue (ty_E j) = vp_V [.int 0, .int 0, .long 0] j := fun j hj => by
  rcases (show j = 0 ∨ j = 1 ∨ j = 2 by omega) with rfl | rfl | rfl <;> rfl
def R_D : String := "ExplainingSolver$Different"
def T_D : u_T := fun k => match k with
  | _ => ("ExplainingSolver$Different", "set", "I", true)
def ty_D : Nat → FieldType := fun k => match k with
  | _ => .int
theorem nm_D : ∀ a, a < 1 → ∀ b, b < 1 → a ≠ b → (T_D a).2.1 ≠ (T_D b).2.1 := by decide +kernel
theorem tok_D : ∀ k, k < 1 → parseFieldDescriptor (T_D k).2.2.1 = some (ty_D k) := by decide +kernel
theorem dz_D : ∀ j, j < 1 → defaultValue (ty_D j) = vp_V [.int 0] j := fun j hj => by
  rcases (show j = 0 by omega) with rfl <;> rfl
def R_U : String := "ExplainingSolver$Cumulative"
def T_U : u_T := fun k => match k with
  | 0 => ("ExplainingSolver$Cumulative", "set", "I", true)
  | 1 => ("ExplainingSolver$Cumulative", "durations", "J", true)
  | 2 => ("ExplainingSolver$Cumulative", "needs", "J", true)
  | _ => ("ExplainingSolver$Cumulative", "capacity", "I", true)
def ty_U : Nat → FieldType := fun k => match k with
  | 0 => .int
  | 1 => .long
  | 2 => .long
  | _ => .int
theorem nm_U : ∀ a, a < 4 → ∀ b, b < 4 → a ≠ b → (T_U a).2.1 ≠ (T_U b).2.1 := by decide +kernel
theorem tok_U : ∀ k, k < 4 → parseFieldDescriptor (T_U k).2.2.1 = some (ty_U k) := by decide +kernel
theorem dz_U : ∀ j, j < 4 → defaultValue (ty_U j) = vp_V [.int 0, .long 0, .long 0, .int 0] j := fun j hj => by
  rcases (show j = 0 ∨ j = 1 ∨ j = 2 ∨ j = 3 by omega) with rfl | rfl | rfl | rfl <;> rfl
def R_C : String := "ExplainingSolver$Clause"
def T_C : u_T := fun k => match k with
  | 0 => ("ExplainingSolver$Clause", "i", "I", true)
  | 1 => ("ExplainingSolver$Clause", "v", "I", true)
  | 2 => ("ExplainingSolver$Clause", "j", "I", true)
  | 3 => ("ExplainingSolver$Clause", "w", "I", true)
  | 4 => ("ExplainingSolver$Clause", "k", "I", true)
  | 5 => ("ExplainingSolver$Clause", "u", "I", true)
  | _ => ("ExplainingSolver$Clause", "how", "I", true)
def ty_C : Nat → FieldType := fun k => match k with
  | 0 => .int
  | 1 => .int
  | 2 => .int
  | 3 => .int
  | 4 => .int
  | 5 => .int
  | _ => .int
theorem nm_C : ∀ a, a < 7 → ∀ b, b < 7 → a ≠ b → (T_C a).2.1 ≠ (T_C b).2.1 := by decide +kernel
theorem tok_C : ∀ k, k < 7 → parseFieldDescriptor (T_C k).2.2.1 = some (ty_C k) := by decide +kernel
theorem dz_C : ∀ j, j < 7 → defaultValue (ty_C j) = vp_V [.int 0, .int 0, .int 0, .int 0, .int 0, .int 0, .int 0] j := fun j hj => by
  rcases (show j = 0 ∨ j = 1 ∨ j = 2 ∨ j = 3 ∨ j = 4 ∨ j = 5 ∨ j = 6 by omega) with rfl | rfl | rfl | rfl | rfl | rfl | rfl <;> rfl
def R_JR : String := "java/lang/Record"
def R_JA : String := "java/util/Arrays"
def R_JM : String := "java/lang/Math"
def R_W : String := "ExplainingSolverLaw"
def R_K : String := "ExplainingSolver$Constraint"
def R_JO : String := "java/lang/Object"
def R_JS : String := "java/lang/System"
abbrev b_X_init : ByteArray := prog_1_method_1_code
def y_X_init : MethodName := ⟨R_X, "<init>", "()V"⟩
abbrev b_X_variable : ByteArray := prog_1_method_2_code
def y_X_variable : MethodName := ⟨R_X, "variable", "(II)I"⟩
abbrev b_X_linear : ByteArray := prog_1_method_3_code
def y_X_linear : MethodName := ⟨R_X, "linear", "(IIIIIII)I"⟩
abbrev b_X_reified : ByteArray := prog_1_method_4_code
def y_X_reified : MethodName := ⟨R_X, "reified", "(IIII)I"⟩
abbrev b_X_maximum : ByteArray := prog_1_method_5_code
def y_X_maximum : MethodName := ⟨R_X, "maximum", "(IIII)I"⟩
abbrev b_X_element : ByteArray := prog_1_method_6_code
def y_X_element : MethodName := ⟨R_X, "element", "(IIJ)I"⟩
abbrev b_X_different : ByteArray := prog_1_method_7_code
def y_X_different : MethodName := ⟨R_X, "different", "(I)I"⟩
abbrev b_X_cumulative : ByteArray := prog_1_method_8_code
def y_X_cumulative : MethodName := ⟨R_X, "cumulative", "(IJJI)I"⟩
abbrev b_X_clause : ByteArray := prog_1_method_9_code
def y_X_clause : MethodName := ⟨R_X, "clause", "(IIIIIII)I"⟩
abbrev b_X_drop : ByteArray := prog_1_method_10_code
def y_X_drop : MethodName := ⟨R_X, "drop", "()Z"⟩
abbrev b_X_assume : ByteArray := prog_1_method_11_code
def y_X_assume : MethodName := ⟨R_X, "assume", "(III)Z"⟩
abbrev b_X_retract : ByteArray := prog_1_method_12_code
def y_X_retract : MethodName := ⟨R_X, "retract", "()Z"⟩
abbrev b_X_solve : ByteArray := prog_1_method_13_code
def y_X_solve : MethodName := ⟨R_X, "solve", "()Z"⟩
abbrev b_X_best : ByteArray := prog_1_method_14_code
def y_X_best : MethodName := ⟨R_X, "best", "(IZ)Z"⟩
abbrev b_X_value : ByteArray := prog_1_method_15_code
def y_X_value : MethodName := ⟨R_X, "value", "(I)I"⟩
abbrev b_X_least : ByteArray := prog_1_method_16_code
def y_X_least : MethodName := ⟨R_X, "least", "(I)I"⟩
abbrev b_X_greatest : ByteArray := prog_1_method_17_code
def y_X_greatest : MethodName := ⟨R_X, "greatest", "(I)I"⟩
abbrev b_X_implies : ByteArray := prog_1_method_18_code
def y_X_implies : MethodName := ⟨R_X, "implies", "(II)Z"⟩
abbrev b_X_variables : ByteArray := prog_1_method_19_code
def y_X_variables : MethodName := ⟨R_X, "variables", "()I"⟩
abbrev b_X_constraints : ByteArray := prog_1_method_20_code
def y_X_constraints : MethodName := ⟨R_X, "constraints", "()I"⟩
abbrev b_X_assumptions : ByteArray := prog_1_method_21_code
def y_X_assumptions : MethodName := ⟨R_X, "assumptions", "()I"⟩
abbrev b_X_space : ByteArray := prog_1_method_22_code
def y_X_space : MethodName := ⟨R_X, "space", "()I"⟩
abbrev b_X_isVariable : ByteArray := prog_1_method_23_code
def y_X_isVariable : MethodName := ⟨R_X, "isVariable", "(I)Z"⟩
abbrev b_X_isVariableOrAbsent : ByteArray := prog_1_method_24_code
def y_X_isVariableOrAbsent : MethodName := ⟨R_X, "isVariableOrAbsent", "(I)Z"⟩
abbrev b_X_areVariablesOrAbsent : ByteArray := prog_1_method_25_code
def y_X_areVariablesOrAbsent : MethodName := ⟨R_X, "areVariablesOrAbsent", "(III)Z"⟩
abbrev b_X_isSetOfVariables : ByteArray := prog_1_method_26_code
def y_X_isSetOfVariables : MethodName := ⟨R_X, "isSetOfVariables", "(I)Z"⟩
abbrev b_X_isWithin : ByteArray := prog_1_method_27_code
def y_X_isWithin : MethodName := ⟨R_X, "isWithin", "(II)Z"⟩
abbrev b_X_isIn : ByteArray := prog_1_method_28_code
def y_X_isIn : MethodName := ⟨R_X, "isIn", "(II)Z"⟩
abbrev b_X_splitPoints : ByteArray := prog_1_method_29_code
def y_X_splitPoints : MethodName := ⟨R_X, "splitPoints", "(I)V"⟩
abbrev b_X_add : ByteArray := prog_1_method_30_code
def y_X_add : MethodName := ⟨R_X, "add", "(LExplainingSolver$Constraint;)I"⟩
abbrev b_X_goToFirstPoint : ByteArray := prog_1_method_31_code
def y_X_goToFirstPoint : MethodName := ⟨R_X, "goToFirstPoint", "()V"⟩
abbrev b_X_goToNextPoint : ByteArray := prog_1_method_32_code
def y_X_goToNextPoint : MethodName := ⟨R_X, "goToNextPoint", "()V"⟩
abbrev b_X_search : ByteArray := prog_1_method_33_code
def y_X_search : MethodName := ⟨R_X, "search", "(II)Z"⟩
abbrev b_X_isAsAssumed : ByteArray := prog_1_method_34_code
def y_X_isAsAssumed : MethodName := ⟨R_X, "isAsAssumed", "()Z"⟩
abbrev b_X_keepAsAnswer : ByteArray := prog_1_method_35_code
def y_X_keepAsAnswer : MethodName := ⟨R_X, "keepAsAnswer", "(Z)Z"⟩
abbrev b_O_init : ByteArray := prog_11_method_1_code
def y_O_init : MethodName := ⟨R_O, "<init>", "()V"⟩
abbrev b_O_changed : ByteArray := prog_11_method_2_code
def y_O_changed : MethodName := ⟨R_O, "changed", "()V"⟩
abbrev b_O_within : ByteArray := prog_11_method_3_code
def y_O_within : MethodName := ⟨R_O, "within", "(III)Z"⟩
abbrev b_O_isVariable : ByteArray := prog_11_method_4_code
def y_O_isVariable : MethodName := ⟨R_O, "isVariable", "(I)Z"⟩
abbrev b_O_isPart : ByteArray := prog_11_method_5_code
def y_O_isPart : MethodName := ⟨R_O, "isPart", "(I)Z"⟩
abbrev b_O_variable : ByteArray := prog_11_method_6_code
def y_O_variable : MethodName := ⟨R_O, "variable", "(II)I"⟩
abbrev b_O_add : ByteArray := prog_11_method_7_code
def y_O_add : MethodName := ⟨R_O, "add", "(IJJ)I"⟩
abbrev b_O_set : ByteArray := prog_11_method_8_code
def y_O_set : MethodName := ⟨R_O, "set", "(III)V"⟩
abbrev b_O_linear : ByteArray := prog_11_method_9_code
def y_O_linear : MethodName := ⟨R_O, "linear", "(IIIIIII)I"⟩
abbrev b_O_reified : ByteArray := prog_11_method_10_code
def y_O_reified : MethodName := ⟨R_O, "reified", "(IIII)I"⟩
abbrev b_O_maximum : ByteArray := prog_11_method_11_code
def y_O_maximum : MethodName := ⟨R_O, "maximum", "(IIII)I"⟩
abbrev b_O_element : ByteArray := prog_11_method_12_code
def y_O_element : MethodName := ⟨R_O, "element", "(IIJ)I"⟩
abbrev b_O_isSet : ByteArray := prog_11_method_13_code
def y_O_isSet : MethodName := ⟨R_O, "isSet", "(I)Z"⟩
abbrev b_O_different : ByteArray := prog_11_method_14_code
def y_O_different : MethodName := ⟨R_O, "different", "(I)I"⟩
abbrev b_O_cumulative : ByteArray := prog_11_method_15_code
def y_O_cumulative : MethodName := ⟨R_O, "cumulative", "(IJJI)I"⟩
abbrev b_O_clause : ByteArray := prog_11_method_16_code
def y_O_clause : MethodName := ⟨R_O, "clause", "(IIIIIII)I"⟩
abbrev b_O_drop : ByteArray := prog_11_method_17_code
def y_O_drop : MethodName := ⟨R_O, "drop", "()Z"⟩
abbrev b_O_assume : ByteArray := prog_11_method_18_code
def y_O_assume : MethodName := ⟨R_O, "assume", "(III)Z"⟩
abbrev b_O_retract : ByteArray := prog_11_method_19_code
def y_O_retract : MethodName := ⟨R_O, "retract", "()Z"⟩
abbrev b_O_of : ByteArray := prog_11_method_20_code
def y_O_of : MethodName := ⟨R_O, "of", "(II)I"⟩
abbrev b_O_times : ByteArray := prog_11_method_21_code
def y_O_times : MethodName := ⟨R_O, "times", "(II)I"⟩
abbrev b_O_greatestOf : ByteArray := prog_11_method_22_code
def y_O_greatestOf : MethodName := ⟨R_O, "greatestOf", "(I)I"⟩
abbrev b_O_entryIs : ByteArray := prog_11_method_23_code
def y_O_entryIs : MethodName := ⟨R_O, "entryIs", "(I)Z"⟩
abbrev b_O_differ : ByteArray := prog_11_method_24_code
def y_O_differ : MethodName := ⟨R_O, "differ", "(I)Z"⟩
abbrev b_O_nibble : ByteArray := prog_11_method_25_code
def y_O_nibble : MethodName := ⟨R_O, "nibble", "(JI)I"⟩
abbrev b_O_needed : ByteArray := prog_11_method_26_code
def y_O_needed : MethodName := ⟨R_O, "needed", "(II)I"⟩
abbrev b_O_fits : ByteArray := prog_11_method_27_code
def y_O_fits : MethodName := ⟨R_O, "fits", "(I)Z"⟩
abbrev b_O_anyPart : ByteArray := prog_11_method_28_code
def y_O_anyPart : MethodName := ⟨R_O, "anyPart", "(I)Z"⟩
abbrev b_O_satisfied : ByteArray := prog_11_method_29_code
def y_O_satisfied : MethodName := ⟨R_O, "satisfied", "(I)Z"⟩
abbrev b_O_all : ByteArray := prog_11_method_30_code
def y_O_all : MethodName := ⟨R_O, "all", "()Z"⟩
abbrev b_O_valueIn : ByteArray := prog_11_method_31_code
def y_O_valueIn : MethodName := ⟨R_O, "valueIn", "(II)I"⟩
abbrev b_O_look : ByteArray := prog_11_method_32_code
def y_O_look : MethodName := ⟨R_O, "look", "()V"⟩
abbrev b_O_first : ByteArray := prog_11_method_33_code
def y_O_first : MethodName := ⟨R_O, "first", "(II)I"⟩
abbrev b_O_solve : ByteArray := prog_11_method_34_code
def y_O_solve : MethodName := ⟨R_O, "solve", "()Z"⟩
abbrev b_O_extreme : ByteArray := prog_11_method_35_code
def y_O_extreme : MethodName := ⟨R_O, "extreme", "(IZ)I"⟩
abbrev b_O_best : ByteArray := prog_11_method_36_code
def y_O_best : MethodName := ⟨R_O, "best", "(IZ)Z"⟩
abbrev b_O_value : ByteArray := prog_11_method_37_code
def y_O_value : MethodName := ⟨R_O, "value", "(I)I"⟩
abbrev b_O_least : ByteArray := prog_11_method_38_code
def y_O_least : MethodName := ⟨R_O, "least", "(I)I"⟩
abbrev b_O_greatest : ByteArray := prog_11_method_39_code
def y_O_greatest : MethodName := ⟨R_O, "greatest", "(I)I"⟩
abbrev b_O_implies : ByteArray := prog_11_method_40_code
def y_O_implies : MethodName := ⟨R_O, "implies", "(II)Z"⟩
abbrev b_O_variables : ByteArray := prog_11_method_41_code
def y_O_variables : MethodName := ⟨R_O, "variables", "()I"⟩
abbrev b_O_constraints : ByteArray := prog_11_method_42_code
def y_O_constraints : MethodName := ⟨R_O, "constraints", "()I"⟩
abbrev b_O_assumptions : ByteArray := prog_11_method_43_code
def y_O_assumptions : MethodName := ⟨R_O, "assumptions", "()I"⟩
abbrev b_O_space : ByteArray := prog_11_method_44_code
def y_O_space : MethodName := ⟨R_O, "space", "()I"⟩
abbrev b_C_init : ByteArray := prog_2_method_1_code
def y_C_init : MethodName := ⟨R_C, "<init>", "(IIIIIII)V"⟩
abbrev b_C_holdsAt : ByteArray := prog_2_method_2_code
def y_C_holdsAt : MethodName := ⟨R_C, "holdsAt", "([I)Z"⟩
abbrev b_C_partHolds : ByteArray := prog_2_method_3_code
def y_C_partHolds : MethodName := ⟨R_C, "partHolds", "(III[I)Z"⟩
abbrev b_U_init : ByteArray := prog_4_method_1_code
def y_U_init : MethodName := ⟨R_U, "<init>", "(IJJI)V"⟩
abbrev b_U_holdsAt : ByteArray := prog_4_method_2_code
def y_U_holdsAt : MethodName := ⟨R_U, "holdsAt", "([I)Z"⟩
abbrev b_U_needAt : ByteArray := prog_4_method_3_code
def y_U_needAt : MethodName := ⟨R_U, "needAt", "(I[I)I"⟩
abbrev b_U_fourBits : ByteArray := prog_4_method_4_code
def y_U_fourBits : MethodName := ⟨R_U, "fourBits", "(JI)I"⟩
abbrev b_D_init : ByteArray := prog_5_method_1_code
def y_D_init : MethodName := ⟨R_D, "<init>", "(I)V"⟩
abbrev b_D_holdsAt : ByteArray := prog_5_method_2_code
def y_D_holdsAt : MethodName := ⟨R_D, "holdsAt", "([I)Z"⟩
abbrev b_E_init : ByteArray := prog_6_method_1_code
def y_E_init : MethodName := ⟨R_E, "<init>", "(IIJ)V"⟩
abbrev b_E_holdsAt : ByteArray := prog_6_method_2_code
def y_E_holdsAt : MethodName := ⟨R_E, "holdsAt", "([I)Z"⟩
abbrev b_L_init : ByteArray := prog_7_method_1_code
def y_L_init : MethodName := ⟨R_L, "<init>", "(IIIIIII)V"⟩
abbrev b_L_holdsAt : ByteArray := prog_7_method_2_code
def y_L_holdsAt : MethodName := ⟨R_L, "holdsAt", "([I)Z"⟩
abbrev b_L_product : ByteArray := prog_7_method_3_code
def y_L_product : MethodName := ⟨R_L, "product", "(II[I)I"⟩
abbrev b_M_init : ByteArray := prog_8_method_1_code
def y_M_init : MethodName := ⟨R_M, "<init>", "(IIII)V"⟩
abbrev b_M_holdsAt : ByteArray := prog_8_method_2_code
def y_M_holdsAt : MethodName := ⟨R_M, "holdsAt", "([I)Z"⟩
abbrev b_R_init : ByteArray := prog_9_method_1_code
def y_R_init : MethodName := ⟨R_R, "<init>", "(IIII)V"⟩
abbrev b_R_holdsAt : ByteArray := prog_9_method_2_code
def y_R_holdsAt : MethodName := ⟨R_R, "holdsAt", "([I)Z"⟩
abbrev b_JR_init : ByteArray := prog_13_method_1_code
def y_JR_init : MethodName := ⟨R_JR, "<init>", "()V"⟩
abbrev b_JA_fill : ByteArray := prog_15_method_103_code
def y_JA_fill : MethodName := ⟨R_JA, "fill", "([II)V"⟩
def y_K_holdsAt : MethodName := ⟨R_K, "holdsAt", "([I)Z"⟩
abbrev vwCl : List vw_C := [(R_X, T_X, 14), (R_O, T_O, 17), (R_L, T_L, 7), (R_R, T_R, 4), (R_M, T_M, 4), (R_E, T_E, 3), (R_D, T_D, 1), (R_U, T_U, 4), (R_C, T_C, 7)]
end
end
section
section
def zb (b : Bool) : Int32 := if b then 1 else 0
theorem zb_t {P : Prop} [Decidable P] (h : P) : 1 = zb (decide P) := by simp [zb, h]
theorem zb_f {P : Prop} [Decidable P] (h : ¬ P) : 0 = zb (decide P) := by simp [zb, h]
theorem zb_c {P : Prop} [Decidable P] {r : Int32} (h : r = zb (decide P)) : (r = 1 ∧ P) ∨ (r = 0 ∧ ¬ P) := by
  by_cases hp : P
  · exact Or.inl ⟨by rw [h]; simp [zb, hp], hp⟩
  · exact Or.inr ⟨by rw [h]; simp [zb, hp], hp⟩
theorem zb_cb {b : Bool} {r : Int32} (h : r = zb b) : (r = 1 ∧ b = true) ∨ (r = 0 ∧ b = false) := by
  cases b
  · exact Or.inr ⟨by rw [h]; rfl, rfl⟩
  · exact Or.inl ⟨by rw [h]; rfl, rfl⟩
/-- the steady words of the tables: every method's words are its own code's and these -/
def cA : List Cond := lw_tbl.filter goodWord
theorem cA_in {w : Cond} (h : w ∈ lw_tbl) (g : goodWord w = true) : w ∈ cA := List.mem_filter.mpr ⟨h, g⟩
theorem cA_tbl {w : Cond} (h : w ∈ tables_1) (g : goodWord w = true) : w ∈ cA := cA_in (List.mem_append_right _ h) g
abbrev wsm (y : MethodName) (b : ByteArray) (n : Nat) (r : Option FieldType) : List Cond := .code y b n r :: cA
theorem gdA {y : MethodName} {b : ByteArray} {n : Nat} {r : Option FieldType} (h : Cond.code y b n r ∈ cA) : GoodIn cA (wsm y b n r) := by
  intro w hw
  have h1 : w ∈ cA := by
    rcases List.mem_cons.mp hw with h2 | h2
    · rw [h2]; exact h
    · exact h2
  exact ⟨h1, good_of_word (List.mem_filter.mp h1).2⟩
/-- the classes of the arrays: of ints, of longs, of booleans -/
abbrev vT (D : va_G) : List (ClassId × FieldType) := [(D.1 100, .int), (D.1 101, .long), (D.1 102, .boolean)]
end
end
section
section
theorem wd_0 : Cond.initialized R_W ∈ cA := cA_tbl (List.mem_of_getElem? (i := 0) (by decide +kernel)) rfl
theorem wd_1 : Cond.initialized R_X ∈ cA := cA_tbl (List.mem_of_getElem? (i := 1) (by decide +kernel)) rfl
theorem wd_2 : Cond.initialized R_JA ∈ cA := cA_tbl (List.mem_of_getElem? (i := 2) (by decide +kernel)) rfl
theorem wd_3 : Cond.initialized R_O ∈ cA := cA_tbl (List.mem_of_getElem? (i := 3) (by decide +kernel)) rfl
theorem wd_4 : Cond.initialized R_JR ∈ cA := cA_tbl (List.mem_of_getElem? (i := 4) (by decide +kernel)) rfl
theorem wd_5 : Cond.initialized R_L ∈ cA := cA_tbl (List.mem_of_getElem? (i := 5) (by decide +kernel)) rfl
theorem wd_6 : Cond.initialized "java/lang/System" ∈ cA := cA_tbl (List.mem_of_getElem? (i := 6) (by decide +kernel)) rfl
theorem wd_7 : Cond.initialized R_U ∈ cA := cA_tbl (List.mem_of_getElem? (i := 7) (by decide +kernel)) rfl
theorem wd_8 : Cond.initialized "java/lang/Math" ∈ cA := cA_tbl (List.mem_of_getElem? (i := 8) (by decide +kernel)) rfl
theorem wd_9 : Cond.initialized R_R ∈ cA := cA_tbl (List.mem_of_getElem? (i := 9) (by decide +kernel)) rfl
theorem wd_10 : Cond.initialized R_M ∈ cA := cA_tbl (List.mem_of_getElem? (i := 10) (by decide +kernel)) rfl
theorem wd_11 : Cond.initialized R_E ∈ cA := cA_tbl (List.mem_of_getElem? (i := 11) (by decide +kernel)) rfl
theorem wd_12 : Cond.initialized R_D ∈ cA := cA_tbl (List.mem_of_getElem? (i := 12) (by decide +kernel)) rfl
theorem wd_13 : Cond.initialized R_C ∈ cA := cA_tbl (List.mem_of_getElem? (i := 13) (by decide +kernel)) rfl
theorem wd_14 : Cond.classLink R_W 7 R_X ∈ cA := cA_tbl (List.mem_of_getElem? (i := 14) (by decide +kernel)) rfl
theorem wd_15 : Cond.instantiable R_X 14 ∈ cA := cA_tbl (List.mem_of_getElem? (i := 15) (by decide +kernel)) rfl
theorem wd_16 : Cond.methodLink R_W 9 y_X_init ∈ cA := cA_tbl (List.mem_of_getElem? (i := 16) (by decide +kernel)) rfl
theorem wd_17 : Cond.instanceMethod y_X_init ∈ cA := cA_tbl (List.mem_of_getElem? (i := 17) (by decide +kernel)) rfl
theorem wd_18 : Cond.code y_X_init b_X_init 1 none ∈ cA := cA_tbl (List.mem_of_getElem? (i := 18) (by decide +kernel)) rfl
theorem wd_19 : Cond.methodLink R_X 3 objectInit ∈ cA := cA_tbl (List.mem_of_getElem? (i := 19) (by decide +kernel)) rfl
theorem wd_20 : Cond.instanceMethod objectInit ∈ cA := cA_tbl (List.mem_of_getElem? (i := 20) (by decide +kernel)) rfl
theorem wd_21 : Cond.code objectInit ⟨#[0xb1]⟩ 1 none ∈ cA := cA_tbl (List.mem_of_getElem? (i := 21) (by decide +kernel)) rfl
theorem wd_22 : Cond.methodLink R_X 41 y_JA_fill ∈ cA := cA_tbl (List.mem_of_getElem? (i := 22) (by decide +kernel)) rfl
theorem wd_23 : Cond.static y_JA_fill ∈ cA := cA_tbl (List.mem_of_getElem? (i := 23) (by decide +kernel)) rfl
theorem wd_24 : Cond.code y_JA_fill b_JA_fill 4 none ∈ cA := cA_tbl (List.mem_of_getElem? (i := 24) (by decide +kernel)) rfl
theorem wd_25 : Cond.fieldLink R_X 9 "ExplainingSolver" "rangeLo" "[I" ∈ cA := cA_tbl (List.mem_of_getElem? (i := 25) (by decide +kernel)) rfl
theorem wd_26 : Cond.fieldLink R_X 13 "ExplainingSolver" "rangeHi" "[I" ∈ cA := cA_tbl (List.mem_of_getElem? (i := 26) (by decide +kernel)) rfl
theorem wd_27 : Cond.fieldLink R_X 47 "ExplainingSolver" "variableCount" "I" ∈ cA := cA_tbl (List.mem_of_getElem? (i := 27) (by decide +kernel)) rfl
theorem wd_28 : Cond.fieldLink R_X 16 "ExplainingSolver" "brokenBy" "[I" ∈ cA := cA_tbl (List.mem_of_getElem? (i := 28) (by decide +kernel)) rfl
theorem wd_29 : Cond.fieldLink R_X 37 "ExplainingSolver" "pointCount" "I" ∈ cA := cA_tbl (List.mem_of_getElem? (i := 29) (by decide +kernel)) rfl
theorem wd_30 : Cond.fieldLink R_X 110 "ExplainingSolver" "constraintCount" "I" ∈ cA := cA_tbl (List.mem_of_getElem? (i := 30) (by decide +kernel)) rfl
theorem wd_31 : Cond.fieldLink R_X 19 "ExplainingSolver" "assumedVariable" "[I" ∈ cA := cA_tbl (List.mem_of_getElem? (i := 31) (by decide +kernel)) rfl
theorem wd_32 : Cond.fieldLink R_X 22 "ExplainingSolver" "assumedLo" "[I" ∈ cA := cA_tbl (List.mem_of_getElem? (i := 32) (by decide +kernel)) rfl
theorem wd_33 : Cond.fieldLink R_X 25 "ExplainingSolver" "assumedHi" "[I" ∈ cA := cA_tbl (List.mem_of_getElem? (i := 33) (by decide +kernel)) rfl
theorem wd_34 : Cond.fieldLink R_X 113 "ExplainingSolver" "assumptionCount" "I" ∈ cA := cA_tbl (List.mem_of_getElem? (i := 34) (by decide +kernel)) rfl
theorem wd_35 : Cond.fieldLink R_X 28 "ExplainingSolver" "answer" "[I" ∈ cA := cA_tbl (List.mem_of_getElem? (i := 35) (by decide +kernel)) rfl
theorem wd_36 : Cond.fieldLink R_X 54 "ExplainingSolver" "answered" "Z" ∈ cA := cA_tbl (List.mem_of_getElem? (i := 36) (by decide +kernel)) rfl
theorem wd_37 : Cond.fieldLink R_X 31 "ExplainingSolver" "point" "[I" ∈ cA := cA_tbl (List.mem_of_getElem? (i := 37) (by decide +kernel)) rfl
theorem wd_38 : Cond.fieldLink R_X 34 "ExplainingSolver" "found" "[I" ∈ cA := cA_tbl (List.mem_of_getElem? (i := 38) (by decide +kernel)) rfl
theorem wd_39 : Cond.laysFinal "ExplainingSolver" "ExplainingSolver" "rangeLo" "[I" ∈ cA := cA_tbl (List.mem_of_getElem? (i := 39) (by decide +kernel)) rfl
theorem wd_41 : Cond.laysFinal "ExplainingSolver" "ExplainingSolver" "rangeHi" "[I" ∈ cA := cA_tbl (List.mem_of_getElem? (i := 41) (by decide +kernel)) rfl
theorem wd_43 : Cond.lays "ExplainingSolver" "ExplainingSolver" "variableCount" "I" ∈ cA := cA_tbl (List.mem_of_getElem? (i := 43) (by decide +kernel)) rfl
theorem wd_45 : Cond.laysFinal "ExplainingSolver" "ExplainingSolver" "brokenBy" "[I" ∈ cA := cA_tbl (List.mem_of_getElem? (i := 45) (by decide +kernel)) rfl
theorem wd_47 : Cond.lays "ExplainingSolver" "ExplainingSolver" "pointCount" "I" ∈ cA := cA_tbl (List.mem_of_getElem? (i := 47) (by decide +kernel)) rfl
theorem wd_49 : Cond.lays "ExplainingSolver" "ExplainingSolver" "constraintCount" "I" ∈ cA := cA_tbl (List.mem_of_getElem? (i := 49) (by decide +kernel)) rfl
theorem wd_51 : Cond.laysFinal "ExplainingSolver" "ExplainingSolver" "assumedVariable" "[I" ∈ cA := cA_tbl (List.mem_of_getElem? (i := 51) (by decide +kernel)) rfl
theorem wd_53 : Cond.laysFinal "ExplainingSolver" "ExplainingSolver" "assumedLo" "[I" ∈ cA := cA_tbl (List.mem_of_getElem? (i := 53) (by decide +kernel)) rfl
theorem wd_55 : Cond.laysFinal "ExplainingSolver" "ExplainingSolver" "assumedHi" "[I" ∈ cA := cA_tbl (List.mem_of_getElem? (i := 55) (by decide +kernel)) rfl
theorem wd_57 : Cond.lays "ExplainingSolver" "ExplainingSolver" "assumptionCount" "I" ∈ cA := cA_tbl (List.mem_of_getElem? (i := 57) (by decide +kernel)) rfl
theorem wd_59 : Cond.laysFinal "ExplainingSolver" "ExplainingSolver" "answer" "[I" ∈ cA := cA_tbl (List.mem_of_getElem? (i := 59) (by decide +kernel)) rfl
theorem wd_61 : Cond.lays "ExplainingSolver" "ExplainingSolver" "answered" "Z" ∈ cA := cA_tbl (List.mem_of_getElem? (i := 61) (by decide +kernel)) rfl
theorem wd_63 : Cond.laysFinal "ExplainingSolver" "ExplainingSolver" "point" "[I" ∈ cA := cA_tbl (List.mem_of_getElem? (i := 63) (by decide +kernel)) rfl
theorem wd_65 : Cond.laysFinal "ExplainingSolver" "ExplainingSolver" "found" "[I" ∈ cA := cA_tbl (List.mem_of_getElem? (i := 65) (by decide +kernel)) rfl
theorem wd_68 : Cond.arrayClass .int ∈ cA := cA_tbl (List.mem_of_getElem? (i := 68) (by decide +kernel)) rfl
theorem wd_69 : Cond.methodLink R_W 13 y_X_variable ∈ cA := cA_tbl (List.mem_of_getElem? (i := 69) (by decide +kernel)) rfl
theorem wd_70 : Cond.instanceMethod y_X_variable ∈ cA := cA_tbl (List.mem_of_getElem? (i := 70) (by decide +kernel)) rfl
theorem wd_71 : Cond.selects R_X y_X_variable y_X_variable ∈ cA := cA_tbl (List.mem_of_getElem? (i := 71) (by decide +kernel)) rfl
theorem wd_72 : Cond.code y_X_variable b_X_variable 4 (some .int) ∈ cA := cA_tbl (List.mem_of_getElem? (i := 72) (by decide +kernel)) rfl
theorem wd_73 : Cond.methodLink R_X 50 y_X_splitPoints ∈ cA := cA_tbl (List.mem_of_getElem? (i := 73) (by decide +kernel)) rfl
theorem wd_75 : Cond.instanceMethod y_X_splitPoints ∈ cA := cA_tbl (List.mem_of_getElem? (i := 75) (by decide +kernel)) rfl
theorem wd_76 : Cond.code y_X_splitPoints b_X_splitPoints 5 none ∈ cA := cA_tbl (List.mem_of_getElem? (i := 76) (by decide +kernel)) rfl
theorem wd_77 : Cond.methodLink R_W 18 y_X_linear ∈ cA := cA_tbl (List.mem_of_getElem? (i := 77) (by decide +kernel)) rfl
theorem wd_78 : Cond.instanceMethod y_X_linear ∈ cA := cA_tbl (List.mem_of_getElem? (i := 78) (by decide +kernel)) rfl
theorem wd_79 : Cond.selects R_X y_X_linear y_X_linear ∈ cA := cA_tbl (List.mem_of_getElem? (i := 79) (by decide +kernel)) rfl
theorem wd_80 : Cond.code y_X_linear b_X_linear 9 (some .int) ∈ cA := cA_tbl (List.mem_of_getElem? (i := 80) (by decide +kernel)) rfl
theorem wd_81 : Cond.methodLink R_X 58 y_X_areVariablesOrAbsent ∈ cA := cA_tbl (List.mem_of_getElem? (i := 81) (by decide +kernel)) rfl
theorem wd_83 : Cond.instanceMethod y_X_areVariablesOrAbsent ∈ cA := cA_tbl (List.mem_of_getElem? (i := 83) (by decide +kernel)) rfl
theorem wd_84 : Cond.code y_X_areVariablesOrAbsent b_X_areVariablesOrAbsent 4 (some .boolean) ∈ cA := cA_tbl (List.mem_of_getElem? (i := 84) (by decide +kernel)) rfl
theorem wd_85 : Cond.methodLink R_X 84 y_X_isVariableOrAbsent ∈ cA := cA_tbl (List.mem_of_getElem? (i := 85) (by decide +kernel)) rfl
theorem wd_87 : Cond.instanceMethod y_X_isVariableOrAbsent ∈ cA := cA_tbl (List.mem_of_getElem? (i := 87) (by decide +kernel)) rfl
theorem wd_88 : Cond.code y_X_isVariableOrAbsent b_X_isVariableOrAbsent 2 (some .boolean) ∈ cA := cA_tbl (List.mem_of_getElem? (i := 88) (by decide +kernel)) rfl
theorem wd_89 : Cond.methodLink R_X 75 y_X_isVariable ∈ cA := cA_tbl (List.mem_of_getElem? (i := 89) (by decide +kernel)) rfl
theorem wd_91 : Cond.instanceMethod y_X_isVariable ∈ cA := cA_tbl (List.mem_of_getElem? (i := 91) (by decide +kernel)) rfl
theorem wd_92 : Cond.code y_X_isVariable b_X_isVariable 2 (some .boolean) ∈ cA := cA_tbl (List.mem_of_getElem? (i := 92) (by decide +kernel)) rfl
theorem wd_93 : Cond.methodLink R_X 62 y_X_isWithin ∈ cA := cA_tbl (List.mem_of_getElem? (i := 93) (by decide +kernel)) rfl
theorem wd_94 : Cond.static y_X_isWithin ∈ cA := cA_tbl (List.mem_of_getElem? (i := 94) (by decide +kernel)) rfl
theorem wd_95 : Cond.code y_X_isWithin b_X_isWithin 2 (some .boolean) ∈ cA := cA_tbl (List.mem_of_getElem? (i := 95) (by decide +kernel)) rfl
theorem wd_96 : Cond.classLink R_X 66 R_L ∈ cA := cA_tbl (List.mem_of_getElem? (i := 96) (by decide +kernel)) rfl
theorem wd_97 : Cond.instantiable R_L 7 ∈ cA := cA_tbl (List.mem_of_getElem? (i := 97) (by decide +kernel)) rfl
theorem wd_98 : Cond.methodLinkNest R_X 68 y_L_init R_X ∈ lw_tbl := List.mem_append_right _ (List.mem_of_getElem? (i := 98) (by decide +kernel))
theorem wd_99 : Cond.instanceMethod y_L_init ∈ cA := cA_tbl (List.mem_of_getElem? (i := 99) (by decide +kernel)) rfl
theorem wd_100 : Cond.code y_L_init b_L_init 8 none ∈ cA := cA_tbl (List.mem_of_getElem? (i := 100) (by decide +kernel)) rfl
theorem wd_101 : Cond.methodLink R_L 3 y_JR_init ∈ cA := cA_tbl (List.mem_of_getElem? (i := 101) (by decide +kernel)) rfl
theorem wd_102 : Cond.instanceMethod y_JR_init ∈ cA := cA_tbl (List.mem_of_getElem? (i := 102) (by decide +kernel)) rfl
theorem wd_103 : Cond.code y_JR_init b_JR_init 1 none ∈ cA := cA_tbl (List.mem_of_getElem? (i := 103) (by decide +kernel)) rfl
theorem wd_104 : Cond.methodLink R_JR 1 objectInit ∈ cA := cA_tbl (List.mem_of_getElem? (i := 104) (by decide +kernel)) rfl
theorem wd_105 : Cond.fieldLink R_L 9 "ExplainingSolver$Linear" "i" "I" ∈ cA := cA_tbl (List.mem_of_getElem? (i := 105) (by decide +kernel)) rfl
theorem wd_106 : Cond.fieldLink R_L 15 "ExplainingSolver$Linear" "a" "I" ∈ cA := cA_tbl (List.mem_of_getElem? (i := 106) (by decide +kernel)) rfl
theorem wd_107 : Cond.fieldLink R_L 18 "ExplainingSolver$Linear" "j" "I" ∈ cA := cA_tbl (List.mem_of_getElem? (i := 107) (by decide +kernel)) rfl
theorem wd_108 : Cond.fieldLink R_L 21 "ExplainingSolver$Linear" "b" "I" ∈ cA := cA_tbl (List.mem_of_getElem? (i := 108) (by decide +kernel)) rfl
theorem wd_109 : Cond.fieldLink R_L 24 "ExplainingSolver$Linear" "k" "I" ∈ cA := cA_tbl (List.mem_of_getElem? (i := 109) (by decide +kernel)) rfl
theorem wd_110 : Cond.fieldLink R_L 27 "ExplainingSolver$Linear" "c" "I" ∈ cA := cA_tbl (List.mem_of_getElem? (i := 110) (by decide +kernel)) rfl
theorem wd_111 : Cond.fieldLink R_L 30 "ExplainingSolver$Linear" "bound" "I" ∈ cA := cA_tbl (List.mem_of_getElem? (i := 111) (by decide +kernel)) rfl
theorem wd_112 : Cond.laysFinal "ExplainingSolver$Linear" "ExplainingSolver$Linear" "i" "I" ∈ cA := cA_tbl (List.mem_of_getElem? (i := 112) (by decide +kernel)) rfl
theorem wd_114 : Cond.laysFinal "ExplainingSolver$Linear" "ExplainingSolver$Linear" "a" "I" ∈ cA := cA_tbl (List.mem_of_getElem? (i := 114) (by decide +kernel)) rfl
theorem wd_116 : Cond.laysFinal "ExplainingSolver$Linear" "ExplainingSolver$Linear" "j" "I" ∈ cA := cA_tbl (List.mem_of_getElem? (i := 116) (by decide +kernel)) rfl
theorem wd_118 : Cond.laysFinal "ExplainingSolver$Linear" "ExplainingSolver$Linear" "b" "I" ∈ cA := cA_tbl (List.mem_of_getElem? (i := 118) (by decide +kernel)) rfl
theorem wd_120 : Cond.laysFinal "ExplainingSolver$Linear" "ExplainingSolver$Linear" "k" "I" ∈ cA := cA_tbl (List.mem_of_getElem? (i := 120) (by decide +kernel)) rfl
theorem wd_122 : Cond.laysFinal "ExplainingSolver$Linear" "ExplainingSolver$Linear" "c" "I" ∈ cA := cA_tbl (List.mem_of_getElem? (i := 122) (by decide +kernel)) rfl
theorem wd_124 : Cond.laysFinal "ExplainingSolver$Linear" "ExplainingSolver$Linear" "bound" "I" ∈ cA := cA_tbl (List.mem_of_getElem? (i := 124) (by decide +kernel)) rfl
theorem wd_127 : Cond.methodLink R_X 71 y_X_add ∈ cA := cA_tbl (List.mem_of_getElem? (i := 127) (by decide +kernel)) rfl
theorem wd_129 : Cond.instanceMethod y_X_add ∈ cA := cA_tbl (List.mem_of_getElem? (i := 129) (by decide +kernel)) rfl
theorem wd_130 : Cond.code y_X_add b_X_add 3 (some .int) ∈ cA := cA_tbl (List.mem_of_getElem? (i := 130) (by decide +kernel)) rfl
theorem wd_131 : Cond.methodLink R_X 123 y_X_goToFirstPoint ∈ cA := cA_tbl (List.mem_of_getElem? (i := 131) (by decide +kernel)) rfl
theorem wd_133 : Cond.instanceMethod y_X_goToFirstPoint ∈ cA := cA_tbl (List.mem_of_getElem? (i := 133) (by decide +kernel)) rfl
theorem wd_134 : Cond.code y_X_goToFirstPoint b_X_goToFirstPoint 1 none ∈ cA := cA_tbl (List.mem_of_getElem? (i := 134) (by decide +kernel)) rfl
theorem wd_135 : Cond.methodLink R_X 135 arraycopyName ∈ cA := cA_tbl (List.mem_of_getElem? (i := 135) (by decide +kernel)) rfl
theorem wd_136 : Cond.static arraycopyName ∈ cA := cA_tbl (List.mem_of_getElem? (i := 136) (by decide +kernel)) rfl
theorem wd_137 : Cond.native arraycopyName ∈ cA := cA_tbl (List.mem_of_getElem? (i := 137) (by decide +kernel)) rfl
theorem wd_139 : Cond.methodLink R_X 126 y_K_holdsAt ∈ cA := cA_tbl (List.mem_of_getElem? (i := 139) (by decide +kernel)) rfl
theorem wd_140 : Cond.interfaceMethod "ExplainingSolver$Constraint" "ExplainingSolver$Constraint" "holdsAt" "([I)Z" ∈ lw_tbl := List.mem_append_right _ (List.mem_of_getElem? (i := 140) (by decide +kernel))
theorem wd_141 : Cond.declares y_K_holdsAt ∈ lw_tbl := List.mem_append_right _ (List.mem_of_getElem? (i := 141) (by decide +kernel))
theorem wd_142 : Cond.castable R_C R_K ∈ lw_tbl := List.mem_append_right _ (List.mem_of_getElem? (i := 142) (by decide +kernel))
theorem wd_143 : Cond.selects R_C y_K_holdsAt y_C_holdsAt ∈ cA := cA_tbl (List.mem_of_getElem? (i := 143) (by decide +kernel)) rfl
theorem wd_144 : Cond.unhidden R_C "holdsAt" "([I)Z" ∈ lw_tbl := List.mem_append_right _ (List.mem_of_getElem? (i := 144) (by decide +kernel))
theorem wd_145 : Cond.instanceMethod y_C_holdsAt ∈ cA := cA_tbl (List.mem_of_getElem? (i := 145) (by decide +kernel)) rfl
theorem wd_146 : Cond.publicMethod y_C_holdsAt ∈ lw_tbl := List.mem_append_right _ (List.mem_of_getElem? (i := 146) (by decide +kernel))
theorem wd_147 : Cond.code y_C_holdsAt b_C_holdsAt 2 (some .boolean) ∈ cA := cA_tbl (List.mem_of_getElem? (i := 147) (by decide +kernel)) rfl
theorem wd_148 : Cond.methodLink R_C 33 y_C_partHolds ∈ cA := cA_tbl (List.mem_of_getElem? (i := 148) (by decide +kernel)) rfl
theorem wd_150 : Cond.instanceMethod y_C_partHolds ∈ cA := cA_tbl (List.mem_of_getElem? (i := 150) (by decide +kernel)) rfl
theorem wd_151 : Cond.instantiable R_C 7 ∈ cA := cA_tbl (List.mem_of_getElem? (i := 151) (by decide +kernel)) rfl
theorem wd_152 : Cond.code y_C_partHolds b_C_partHolds 5 (some .boolean) ∈ cA := cA_tbl (List.mem_of_getElem? (i := 152) (by decide +kernel)) rfl
theorem wd_153 : Cond.methodLinkNest R_C 37 y_X_isIn R_X ∈ lw_tbl := List.mem_append_right _ (List.mem_of_getElem? (i := 153) (by decide +kernel))
theorem wd_154 : Cond.static y_X_isIn ∈ cA := cA_tbl (List.mem_of_getElem? (i := 154) (by decide +kernel)) rfl
theorem wd_155 : Cond.code y_X_isIn b_X_isIn 2 (some .boolean) ∈ cA := cA_tbl (List.mem_of_getElem? (i := 155) (by decide +kernel)) rfl
theorem wd_156 : Cond.castable R_U R_K ∈ lw_tbl := List.mem_append_right _ (List.mem_of_getElem? (i := 156) (by decide +kernel))
theorem wd_157 : Cond.selects R_U y_K_holdsAt y_U_holdsAt ∈ cA := cA_tbl (List.mem_of_getElem? (i := 157) (by decide +kernel)) rfl
theorem wd_158 : Cond.unhidden R_U "holdsAt" "([I)Z" ∈ lw_tbl := List.mem_append_right _ (List.mem_of_getElem? (i := 158) (by decide +kernel))
theorem wd_159 : Cond.instanceMethod y_U_holdsAt ∈ cA := cA_tbl (List.mem_of_getElem? (i := 159) (by decide +kernel)) rfl
theorem wd_160 : Cond.publicMethod y_U_holdsAt ∈ lw_tbl := List.mem_append_right _ (List.mem_of_getElem? (i := 160) (by decide +kernel))
theorem wd_161 : Cond.code y_U_holdsAt b_U_holdsAt 3 (some .boolean) ∈ cA := cA_tbl (List.mem_of_getElem? (i := 161) (by decide +kernel)) rfl
theorem wd_162 : Cond.methodLinkNest R_U 25 y_X_isIn R_X ∈ lw_tbl := List.mem_append_right _ (List.mem_of_getElem? (i := 162) (by decide +kernel))
theorem wd_163 : Cond.methodLink R_U 29 y_U_needAt ∈ cA := cA_tbl (List.mem_of_getElem? (i := 163) (by decide +kernel)) rfl
theorem wd_165 : Cond.instanceMethod y_U_needAt ∈ cA := cA_tbl (List.mem_of_getElem? (i := 165) (by decide +kernel)) rfl
theorem wd_166 : Cond.instantiable R_U 4 ∈ cA := cA_tbl (List.mem_of_getElem? (i := 166) (by decide +kernel)) rfl
theorem wd_167 : Cond.code y_U_needAt b_U_needAt 5 (some .int) ∈ cA := cA_tbl (List.mem_of_getElem? (i := 167) (by decide +kernel)) rfl
theorem wd_168 : Cond.methodLink R_U 33 y_U_fourBits ∈ cA := cA_tbl (List.mem_of_getElem? (i := 168) (by decide +kernel)) rfl
theorem wd_169 : Cond.static y_U_fourBits ∈ cA := cA_tbl (List.mem_of_getElem? (i := 169) (by decide +kernel)) rfl
theorem wd_170 : Cond.code y_U_fourBits b_U_fourBits 3 (some .int) ∈ cA := cA_tbl (List.mem_of_getElem? (i := 170) (by decide +kernel)) rfl
theorem wd_171 : Cond.castable R_D R_K ∈ lw_tbl := List.mem_append_right _ (List.mem_of_getElem? (i := 171) (by decide +kernel))
theorem wd_172 : Cond.selects R_D y_K_holdsAt y_D_holdsAt ∈ cA := cA_tbl (List.mem_of_getElem? (i := 172) (by decide +kernel)) rfl
theorem wd_173 : Cond.unhidden R_D "holdsAt" "([I)Z" ∈ lw_tbl := List.mem_append_right _ (List.mem_of_getElem? (i := 173) (by decide +kernel))
theorem wd_174 : Cond.instanceMethod y_D_holdsAt ∈ cA := cA_tbl (List.mem_of_getElem? (i := 174) (by decide +kernel)) rfl
theorem wd_175 : Cond.publicMethod y_D_holdsAt ∈ lw_tbl := List.mem_append_right _ (List.mem_of_getElem? (i := 175) (by decide +kernel))
theorem wd_176 : Cond.code y_D_holdsAt b_D_holdsAt 7 (some .boolean) ∈ cA := cA_tbl (List.mem_of_getElem? (i := 176) (by decide +kernel)) rfl
theorem wd_177 : Cond.methodLinkNest R_D 15 y_X_isIn R_X ∈ lw_tbl := List.mem_append_right _ (List.mem_of_getElem? (i := 177) (by decide +kernel))
theorem wd_178 : Cond.castable R_E R_K ∈ lw_tbl := List.mem_append_right _ (List.mem_of_getElem? (i := 178) (by decide +kernel))
theorem wd_179 : Cond.selects R_E y_K_holdsAt y_E_holdsAt ∈ cA := cA_tbl (List.mem_of_getElem? (i := 179) (by decide +kernel)) rfl
theorem wd_180 : Cond.unhidden R_E "holdsAt" "([I)Z" ∈ lw_tbl := List.mem_append_right _ (List.mem_of_getElem? (i := 180) (by decide +kernel))
theorem wd_181 : Cond.instanceMethod y_E_holdsAt ∈ cA := cA_tbl (List.mem_of_getElem? (i := 181) (by decide +kernel)) rfl
theorem wd_182 : Cond.publicMethod y_E_holdsAt ∈ lw_tbl := List.mem_append_right _ (List.mem_of_getElem? (i := 182) (by decide +kernel))
theorem wd_183 : Cond.code y_E_holdsAt b_E_holdsAt 2 (some .boolean) ∈ cA := cA_tbl (List.mem_of_getElem? (i := 183) (by decide +kernel)) rfl
theorem wd_184 : Cond.castable R_L R_K ∈ lw_tbl := List.mem_append_right _ (List.mem_of_getElem? (i := 184) (by decide +kernel))
theorem wd_185 : Cond.selects R_L y_K_holdsAt y_L_holdsAt ∈ cA := cA_tbl (List.mem_of_getElem? (i := 185) (by decide +kernel)) rfl
theorem wd_186 : Cond.unhidden R_L "holdsAt" "([I)Z" ∈ lw_tbl := List.mem_append_right _ (List.mem_of_getElem? (i := 186) (by decide +kernel))
theorem wd_187 : Cond.instanceMethod y_L_holdsAt ∈ cA := cA_tbl (List.mem_of_getElem? (i := 187) (by decide +kernel)) rfl
theorem wd_188 : Cond.publicMethod y_L_holdsAt ∈ lw_tbl := List.mem_append_right _ (List.mem_of_getElem? (i := 188) (by decide +kernel))
theorem wd_189 : Cond.code y_L_holdsAt b_L_holdsAt 2 (some .boolean) ∈ cA := cA_tbl (List.mem_of_getElem? (i := 189) (by decide +kernel)) rfl
theorem wd_190 : Cond.methodLink R_L 33 y_L_product ∈ cA := cA_tbl (List.mem_of_getElem? (i := 190) (by decide +kernel)) rfl
theorem wd_191 : Cond.static y_L_product ∈ cA := cA_tbl (List.mem_of_getElem? (i := 191) (by decide +kernel)) rfl
theorem wd_192 : Cond.code y_L_product b_L_product 3 (some .int) ∈ cA := cA_tbl (List.mem_of_getElem? (i := 192) (by decide +kernel)) rfl
theorem wd_193 : Cond.castable R_M R_K ∈ lw_tbl := List.mem_append_right _ (List.mem_of_getElem? (i := 193) (by decide +kernel))
theorem wd_194 : Cond.selects R_M y_K_holdsAt y_M_holdsAt ∈ cA := cA_tbl (List.mem_of_getElem? (i := 194) (by decide +kernel)) rfl
theorem wd_195 : Cond.unhidden R_M "holdsAt" "([I)Z" ∈ lw_tbl := List.mem_append_right _ (List.mem_of_getElem? (i := 195) (by decide +kernel))
theorem wd_196 : Cond.instanceMethod y_M_holdsAt ∈ cA := cA_tbl (List.mem_of_getElem? (i := 196) (by decide +kernel)) rfl
theorem wd_197 : Cond.publicMethod y_M_holdsAt ∈ lw_tbl := List.mem_append_right _ (List.mem_of_getElem? (i := 197) (by decide +kernel))
theorem wd_198 : Cond.code y_M_holdsAt b_M_holdsAt 3 (some .boolean) ∈ cA := cA_tbl (List.mem_of_getElem? (i := 198) (by decide +kernel)) rfl
theorem wd_199 : Cond.methodLink R_M 24 Lib.Math.max.name ∈ cA := cA_tbl (List.mem_of_getElem? (i := 199) (by decide +kernel)) rfl
theorem wd_200 : Cond.static Lib.Math.max.name ∈ cA := cA_tbl (List.mem_of_getElem? (i := 200) (by decide +kernel)) rfl
theorem wd_201 : Cond.code Lib.Math.max.name Lib.Math.max.code 2 (some .int) ∈ cA := cA_tbl (List.mem_of_getElem? (i := 201) (by decide +kernel)) rfl
theorem wd_202 : Cond.castable R_R R_K ∈ lw_tbl := List.mem_append_right _ (List.mem_of_getElem? (i := 202) (by decide +kernel))
theorem wd_203 : Cond.selects R_R y_K_holdsAt y_R_holdsAt ∈ cA := cA_tbl (List.mem_of_getElem? (i := 203) (by decide +kernel)) rfl
theorem wd_204 : Cond.unhidden R_R "holdsAt" "([I)Z" ∈ lw_tbl := List.mem_append_right _ (List.mem_of_getElem? (i := 204) (by decide +kernel))
theorem wd_205 : Cond.instanceMethod y_R_holdsAt ∈ cA := cA_tbl (List.mem_of_getElem? (i := 205) (by decide +kernel)) rfl
theorem wd_206 : Cond.publicMethod y_R_holdsAt ∈ lw_tbl := List.mem_append_right _ (List.mem_of_getElem? (i := 206) (by decide +kernel))
theorem wd_207 : Cond.code y_R_holdsAt b_R_holdsAt 2 (some .boolean) ∈ cA := cA_tbl (List.mem_of_getElem? (i := 207) (by decide +kernel)) rfl
theorem wd_208 : Cond.methodLink R_X 132 y_X_goToNextPoint ∈ cA := cA_tbl (List.mem_of_getElem? (i := 208) (by decide +kernel)) rfl
theorem wd_210 : Cond.instanceMethod y_X_goToNextPoint ∈ cA := cA_tbl (List.mem_of_getElem? (i := 210) (by decide +kernel)) rfl
theorem wd_211 : Cond.code y_X_goToNextPoint b_X_goToNextPoint 2 none ∈ cA := cA_tbl (List.mem_of_getElem? (i := 211) (by decide +kernel)) rfl
theorem wd_212 : Cond.methodLink R_W 23 y_X_reified ∈ cA := cA_tbl (List.mem_of_getElem? (i := 212) (by decide +kernel)) rfl
theorem wd_213 : Cond.instanceMethod y_X_reified ∈ cA := cA_tbl (List.mem_of_getElem? (i := 213) (by decide +kernel)) rfl
theorem wd_214 : Cond.selects R_X y_X_reified y_X_reified ∈ cA := cA_tbl (List.mem_of_getElem? (i := 214) (by decide +kernel)) rfl
theorem wd_215 : Cond.code y_X_reified b_X_reified 6 (some .int) ∈ cA := cA_tbl (List.mem_of_getElem? (i := 215) (by decide +kernel)) rfl
theorem wd_216 : Cond.classLink R_X 79 R_R ∈ cA := cA_tbl (List.mem_of_getElem? (i := 216) (by decide +kernel)) rfl
theorem wd_217 : Cond.instantiable R_R 4 ∈ cA := cA_tbl (List.mem_of_getElem? (i := 217) (by decide +kernel)) rfl
theorem wd_218 : Cond.methodLinkNest R_X 81 y_R_init R_X ∈ lw_tbl := List.mem_append_right _ (List.mem_of_getElem? (i := 218) (by decide +kernel))
theorem wd_219 : Cond.instanceMethod y_R_init ∈ cA := cA_tbl (List.mem_of_getElem? (i := 219) (by decide +kernel)) rfl
theorem wd_220 : Cond.code y_R_init b_R_init 5 none ∈ cA := cA_tbl (List.mem_of_getElem? (i := 220) (by decide +kernel)) rfl
theorem wd_221 : Cond.methodLink R_R 1 y_JR_init ∈ cA := cA_tbl (List.mem_of_getElem? (i := 221) (by decide +kernel)) rfl
theorem wd_222 : Cond.fieldLink R_R 7 "ExplainingSolver$Reified" "\x72" "I" ∈ cA := cA_tbl (List.mem_of_getElem? (i := 222) (by decide +kernel)) rfl
theorem wd_223 : Cond.fieldLink R_R 13 "ExplainingSolver$Reified" "i" "I" ∈ cA := cA_tbl (List.mem_of_getElem? (i := 223) (by decide +kernel)) rfl
theorem wd_224 : Cond.fieldLink R_R 16 "ExplainingSolver$Reified" "j" "I" ∈ cA := cA_tbl (List.mem_of_getElem? (i := 224) (by decide +kernel)) rfl
theorem wd_225 : Cond.fieldLink R_R 19 "ExplainingSolver$Reified" "c" "I" ∈ cA := cA_tbl (List.mem_of_getElem? (i := 225) (by decide +kernel)) rfl
theorem wd_226 : Cond.laysFinal "ExplainingSolver$Reified" "ExplainingSolver$Reified" "\x72" "I" ∈ cA := cA_tbl (List.mem_of_getElem? (i := 226) (by decide +kernel)) rfl
theorem wd_228 : Cond.laysFinal "ExplainingSolver$Reified" "ExplainingSolver$Reified" "i" "I" ∈ cA := cA_tbl (List.mem_of_getElem? (i := 228) (by decide +kernel)) rfl
theorem wd_230 : Cond.laysFinal "ExplainingSolver$Reified" "ExplainingSolver$Reified" "j" "I" ∈ cA := cA_tbl (List.mem_of_getElem? (i := 230) (by decide +kernel)) rfl
theorem wd_232 : Cond.laysFinal "ExplainingSolver$Reified" "ExplainingSolver$Reified" "c" "I" ∈ cA := cA_tbl (List.mem_of_getElem? (i := 232) (by decide +kernel)) rfl
theorem wd_235 : Cond.methodLink R_W 28 y_X_maximum ∈ cA := cA_tbl (List.mem_of_getElem? (i := 235) (by decide +kernel)) rfl
theorem wd_236 : Cond.instanceMethod y_X_maximum ∈ cA := cA_tbl (List.mem_of_getElem? (i := 236) (by decide +kernel)) rfl
theorem wd_237 : Cond.selects R_X y_X_maximum y_X_maximum ∈ cA := cA_tbl (List.mem_of_getElem? (i := 237) (by decide +kernel)) rfl
theorem wd_238 : Cond.code y_X_maximum b_X_maximum 6 (some .int) ∈ cA := cA_tbl (List.mem_of_getElem? (i := 238) (by decide +kernel)) rfl
theorem wd_239 : Cond.classLink R_X 87 R_M ∈ cA := cA_tbl (List.mem_of_getElem? (i := 239) (by decide +kernel)) rfl
theorem wd_240 : Cond.instantiable R_M 4 ∈ cA := cA_tbl (List.mem_of_getElem? (i := 240) (by decide +kernel)) rfl
theorem wd_241 : Cond.methodLinkNest R_X 89 y_M_init R_X ∈ lw_tbl := List.mem_append_right _ (List.mem_of_getElem? (i := 241) (by decide +kernel))
theorem wd_242 : Cond.instanceMethod y_M_init ∈ cA := cA_tbl (List.mem_of_getElem? (i := 242) (by decide +kernel)) rfl
theorem wd_243 : Cond.code y_M_init b_M_init 5 none ∈ cA := cA_tbl (List.mem_of_getElem? (i := 243) (by decide +kernel)) rfl
theorem wd_244 : Cond.methodLink R_M 3 y_JR_init ∈ cA := cA_tbl (List.mem_of_getElem? (i := 244) (by decide +kernel)) rfl
theorem wd_245 : Cond.fieldLink R_M 9 "ExplainingSolver$Maximum" "\x72" "I" ∈ cA := cA_tbl (List.mem_of_getElem? (i := 245) (by decide +kernel)) rfl
theorem wd_246 : Cond.fieldLink R_M 15 "ExplainingSolver$Maximum" "i" "I" ∈ cA := cA_tbl (List.mem_of_getElem? (i := 246) (by decide +kernel)) rfl
theorem wd_247 : Cond.fieldLink R_M 18 "ExplainingSolver$Maximum" "j" "I" ∈ cA := cA_tbl (List.mem_of_getElem? (i := 247) (by decide +kernel)) rfl
theorem wd_248 : Cond.fieldLink R_M 21 "ExplainingSolver$Maximum" "k" "I" ∈ cA := cA_tbl (List.mem_of_getElem? (i := 248) (by decide +kernel)) rfl
theorem wd_249 : Cond.laysFinal "ExplainingSolver$Maximum" "ExplainingSolver$Maximum" "\x72" "I" ∈ cA := cA_tbl (List.mem_of_getElem? (i := 249) (by decide +kernel)) rfl
theorem wd_251 : Cond.laysFinal "ExplainingSolver$Maximum" "ExplainingSolver$Maximum" "i" "I" ∈ cA := cA_tbl (List.mem_of_getElem? (i := 251) (by decide +kernel)) rfl
theorem wd_253 : Cond.laysFinal "ExplainingSolver$Maximum" "ExplainingSolver$Maximum" "j" "I" ∈ cA := cA_tbl (List.mem_of_getElem? (i := 253) (by decide +kernel)) rfl
theorem wd_255 : Cond.laysFinal "ExplainingSolver$Maximum" "ExplainingSolver$Maximum" "k" "I" ∈ cA := cA_tbl (List.mem_of_getElem? (i := 255) (by decide +kernel)) rfl
theorem wd_258 : Cond.methodLink R_W 34 y_X_element ∈ cA := cA_tbl (List.mem_of_getElem? (i := 258) (by decide +kernel)) rfl
theorem wd_259 : Cond.instanceMethod y_X_element ∈ cA := cA_tbl (List.mem_of_getElem? (i := 259) (by decide +kernel)) rfl
theorem wd_260 : Cond.selects R_X y_X_element y_X_element ∈ cA := cA_tbl (List.mem_of_getElem? (i := 260) (by decide +kernel)) rfl
theorem wd_261 : Cond.code y_X_element b_X_element 6 (some .int) ∈ cA := cA_tbl (List.mem_of_getElem? (i := 261) (by decide +kernel)) rfl
theorem wd_262 : Cond.classLink R_X 90 R_E ∈ cA := cA_tbl (List.mem_of_getElem? (i := 262) (by decide +kernel)) rfl
theorem wd_263 : Cond.instantiable R_E 3 ∈ cA := cA_tbl (List.mem_of_getElem? (i := 263) (by decide +kernel)) rfl
theorem wd_264 : Cond.methodLinkNest R_X 92 y_E_init R_X ∈ lw_tbl := List.mem_append_right _ (List.mem_of_getElem? (i := 264) (by decide +kernel))
theorem wd_265 : Cond.instanceMethod y_E_init ∈ cA := cA_tbl (List.mem_of_getElem? (i := 265) (by decide +kernel)) rfl
theorem wd_266 : Cond.code y_E_init b_E_init 5 none ∈ cA := cA_tbl (List.mem_of_getElem? (i := 266) (by decide +kernel)) rfl
theorem wd_267 : Cond.methodLink R_E 1 y_JR_init ∈ cA := cA_tbl (List.mem_of_getElem? (i := 267) (by decide +kernel)) rfl
theorem wd_268 : Cond.fieldLink R_E 7 "ExplainingSolver$Element" "\x72" "I" ∈ cA := cA_tbl (List.mem_of_getElem? (i := 268) (by decide +kernel)) rfl
theorem wd_269 : Cond.fieldLink R_E 13 "ExplainingSolver$Element" "i" "I" ∈ cA := cA_tbl (List.mem_of_getElem? (i := 269) (by decide +kernel)) rfl
theorem wd_270 : Cond.fieldLink R_E 16 "ExplainingSolver$Element" "table" "J" ∈ cA := cA_tbl (List.mem_of_getElem? (i := 270) (by decide +kernel)) rfl
theorem wd_271 : Cond.laysFinal "ExplainingSolver$Element" "ExplainingSolver$Element" "\x72" "I" ∈ cA := cA_tbl (List.mem_of_getElem? (i := 271) (by decide +kernel)) rfl
theorem wd_273 : Cond.laysFinal "ExplainingSolver$Element" "ExplainingSolver$Element" "i" "I" ∈ cA := cA_tbl (List.mem_of_getElem? (i := 273) (by decide +kernel)) rfl
theorem wd_275 : Cond.laysFinal "ExplainingSolver$Element" "ExplainingSolver$Element" "table" "J" ∈ cA := cA_tbl (List.mem_of_getElem? (i := 275) (by decide +kernel)) rfl
theorem wd_278 : Cond.methodLink R_W 39 y_X_different ∈ cA := cA_tbl (List.mem_of_getElem? (i := 278) (by decide +kernel)) rfl
theorem wd_279 : Cond.instanceMethod y_X_different ∈ cA := cA_tbl (List.mem_of_getElem? (i := 279) (by decide +kernel)) rfl
theorem wd_280 : Cond.selects R_X y_X_different y_X_different ∈ cA := cA_tbl (List.mem_of_getElem? (i := 280) (by decide +kernel)) rfl
theorem wd_281 : Cond.code y_X_different b_X_different 2 (some .int) ∈ cA := cA_tbl (List.mem_of_getElem? (i := 281) (by decide +kernel)) rfl
theorem wd_282 : Cond.methodLink R_X 95 y_X_isSetOfVariables ∈ cA := cA_tbl (List.mem_of_getElem? (i := 282) (by decide +kernel)) rfl
theorem wd_284 : Cond.instanceMethod y_X_isSetOfVariables ∈ cA := cA_tbl (List.mem_of_getElem? (i := 284) (by decide +kernel)) rfl
theorem wd_285 : Cond.code y_X_isSetOfVariables b_X_isSetOfVariables 2 (some .boolean) ∈ cA := cA_tbl (List.mem_of_getElem? (i := 285) (by decide +kernel)) rfl
theorem wd_286 : Cond.classLink R_X 98 R_D ∈ cA := cA_tbl (List.mem_of_getElem? (i := 286) (by decide +kernel)) rfl
theorem wd_287 : Cond.instantiable R_D 1 ∈ cA := cA_tbl (List.mem_of_getElem? (i := 287) (by decide +kernel)) rfl
theorem wd_288 : Cond.methodLinkNest R_X 100 y_D_init R_X ∈ lw_tbl := List.mem_append_right _ (List.mem_of_getElem? (i := 288) (by decide +kernel))
theorem wd_289 : Cond.instanceMethod y_D_init ∈ cA := cA_tbl (List.mem_of_getElem? (i := 289) (by decide +kernel)) rfl
theorem wd_290 : Cond.code y_D_init b_D_init 2 none ∈ cA := cA_tbl (List.mem_of_getElem? (i := 290) (by decide +kernel)) rfl
theorem wd_291 : Cond.methodLink R_D 3 y_JR_init ∈ cA := cA_tbl (List.mem_of_getElem? (i := 291) (by decide +kernel)) rfl
theorem wd_292 : Cond.fieldLink R_D 9 "ExplainingSolver$Different" "set" "I" ∈ cA := cA_tbl (List.mem_of_getElem? (i := 292) (by decide +kernel)) rfl
theorem wd_293 : Cond.laysFinal "ExplainingSolver$Different" "ExplainingSolver$Different" "set" "I" ∈ cA := cA_tbl (List.mem_of_getElem? (i := 293) (by decide +kernel)) rfl
theorem wd_296 : Cond.methodLink R_W 44 y_X_cumulative ∈ cA := cA_tbl (List.mem_of_getElem? (i := 296) (by decide +kernel)) rfl
theorem wd_297 : Cond.instanceMethod y_X_cumulative ∈ cA := cA_tbl (List.mem_of_getElem? (i := 297) (by decide +kernel)) rfl
theorem wd_298 : Cond.selects R_X y_X_cumulative y_X_cumulative ∈ cA := cA_tbl (List.mem_of_getElem? (i := 298) (by decide +kernel)) rfl
theorem wd_299 : Cond.code y_X_cumulative b_X_cumulative 8 (some .int) ∈ cA := cA_tbl (List.mem_of_getElem? (i := 299) (by decide +kernel)) rfl
theorem wd_300 : Cond.classLink R_X 102 R_U ∈ cA := cA_tbl (List.mem_of_getElem? (i := 300) (by decide +kernel)) rfl
theorem wd_301 : Cond.methodLinkNest R_X 104 y_U_init R_X ∈ lw_tbl := List.mem_append_right _ (List.mem_of_getElem? (i := 301) (by decide +kernel))
theorem wd_302 : Cond.instanceMethod y_U_init ∈ cA := cA_tbl (List.mem_of_getElem? (i := 302) (by decide +kernel)) rfl
theorem wd_303 : Cond.code y_U_init b_U_init 7 none ∈ cA := cA_tbl (List.mem_of_getElem? (i := 303) (by decide +kernel)) rfl
theorem wd_304 : Cond.methodLink R_U 3 y_JR_init ∈ cA := cA_tbl (List.mem_of_getElem? (i := 304) (by decide +kernel)) rfl
theorem wd_305 : Cond.fieldLink R_U 9 "ExplainingSolver$Cumulative" "set" "I" ∈ cA := cA_tbl (List.mem_of_getElem? (i := 305) (by decide +kernel)) rfl
theorem wd_306 : Cond.fieldLink R_U 15 "ExplainingSolver$Cumulative" "durations" "J" ∈ cA := cA_tbl (List.mem_of_getElem? (i := 306) (by decide +kernel)) rfl
theorem wd_307 : Cond.fieldLink R_U 19 "ExplainingSolver$Cumulative" "needs" "J" ∈ cA := cA_tbl (List.mem_of_getElem? (i := 307) (by decide +kernel)) rfl
theorem wd_308 : Cond.fieldLink R_U 22 "ExplainingSolver$Cumulative" "capacity" "I" ∈ cA := cA_tbl (List.mem_of_getElem? (i := 308) (by decide +kernel)) rfl
theorem wd_309 : Cond.laysFinal "ExplainingSolver$Cumulative" "ExplainingSolver$Cumulative" "set" "I" ∈ cA := cA_tbl (List.mem_of_getElem? (i := 309) (by decide +kernel)) rfl
theorem wd_311 : Cond.laysFinal "ExplainingSolver$Cumulative" "ExplainingSolver$Cumulative" "durations" "J" ∈ cA := cA_tbl (List.mem_of_getElem? (i := 311) (by decide +kernel)) rfl
theorem wd_313 : Cond.laysFinal "ExplainingSolver$Cumulative" "ExplainingSolver$Cumulative" "needs" "J" ∈ cA := cA_tbl (List.mem_of_getElem? (i := 313) (by decide +kernel)) rfl
theorem wd_315 : Cond.laysFinal "ExplainingSolver$Cumulative" "ExplainingSolver$Cumulative" "capacity" "I" ∈ cA := cA_tbl (List.mem_of_getElem? (i := 315) (by decide +kernel)) rfl
theorem wd_318 : Cond.methodLink R_W 49 y_X_clause ∈ cA := cA_tbl (List.mem_of_getElem? (i := 318) (by decide +kernel)) rfl
theorem wd_319 : Cond.instanceMethod y_X_clause ∈ cA := cA_tbl (List.mem_of_getElem? (i := 319) (by decide +kernel)) rfl
theorem wd_320 : Cond.selects R_X y_X_clause y_X_clause ∈ cA := cA_tbl (List.mem_of_getElem? (i := 320) (by decide +kernel)) rfl
theorem wd_321 : Cond.code y_X_clause b_X_clause 9 (some .int) ∈ cA := cA_tbl (List.mem_of_getElem? (i := 321) (by decide +kernel)) rfl
theorem wd_322 : Cond.classLink R_X 107 R_C ∈ cA := cA_tbl (List.mem_of_getElem? (i := 322) (by decide +kernel)) rfl
theorem wd_323 : Cond.methodLinkNest R_X 109 y_C_init R_X ∈ lw_tbl := List.mem_append_right _ (List.mem_of_getElem? (i := 323) (by decide +kernel))
theorem wd_324 : Cond.instanceMethod y_C_init ∈ cA := cA_tbl (List.mem_of_getElem? (i := 324) (by decide +kernel)) rfl
theorem wd_325 : Cond.code y_C_init b_C_init 8 none ∈ cA := cA_tbl (List.mem_of_getElem? (i := 325) (by decide +kernel)) rfl
theorem wd_326 : Cond.methodLink R_C 3 y_JR_init ∈ cA := cA_tbl (List.mem_of_getElem? (i := 326) (by decide +kernel)) rfl
end
end
section
section
theorem wd_327 : Cond.fieldLink R_C 9 "ExplainingSolver$Clause" "i" "I" ∈ cA := cA_tbl (List.mem_of_getElem? (i := 327) (by decide +kernel)) rfl
theorem wd_328 : Cond.fieldLink R_C 15 "ExplainingSolver$Clause" "v" "I" ∈ cA := cA_tbl (List.mem_of_getElem? (i := 328) (by decide +kernel)) rfl
theorem wd_329 : Cond.fieldLink R_C 18 "ExplainingSolver$Clause" "j" "I" ∈ cA := cA_tbl (List.mem_of_getElem? (i := 329) (by decide +kernel)) rfl
theorem wd_330 : Cond.fieldLink R_C 21 "ExplainingSolver$Clause" "w" "I" ∈ cA := cA_tbl (List.mem_of_getElem? (i := 330) (by decide +kernel)) rfl
theorem wd_331 : Cond.fieldLink R_C 24 "ExplainingSolver$Clause" "k" "I" ∈ cA := cA_tbl (List.mem_of_getElem? (i := 331) (by decide +kernel)) rfl
theorem wd_332 : Cond.fieldLink R_C 27 "ExplainingSolver$Clause" "u" "I" ∈ cA := cA_tbl (List.mem_of_getElem? (i := 332) (by decide +kernel)) rfl
theorem wd_333 : Cond.fieldLink R_C 30 "ExplainingSolver$Clause" "how" "I" ∈ cA := cA_tbl (List.mem_of_getElem? (i := 333) (by decide +kernel)) rfl
theorem wd_334 : Cond.laysFinal "ExplainingSolver$Clause" "ExplainingSolver$Clause" "i" "I" ∈ cA := cA_tbl (List.mem_of_getElem? (i := 334) (by decide +kernel)) rfl
theorem wd_336 : Cond.laysFinal "ExplainingSolver$Clause" "ExplainingSolver$Clause" "v" "I" ∈ cA := cA_tbl (List.mem_of_getElem? (i := 336) (by decide +kernel)) rfl
theorem wd_338 : Cond.laysFinal "ExplainingSolver$Clause" "ExplainingSolver$Clause" "j" "I" ∈ cA := cA_tbl (List.mem_of_getElem? (i := 338) (by decide +kernel)) rfl
theorem wd_340 : Cond.laysFinal "ExplainingSolver$Clause" "ExplainingSolver$Clause" "w" "I" ∈ cA := cA_tbl (List.mem_of_getElem? (i := 340) (by decide +kernel)) rfl
theorem wd_342 : Cond.laysFinal "ExplainingSolver$Clause" "ExplainingSolver$Clause" "k" "I" ∈ cA := cA_tbl (List.mem_of_getElem? (i := 342) (by decide +kernel)) rfl
theorem wd_344 : Cond.laysFinal "ExplainingSolver$Clause" "ExplainingSolver$Clause" "u" "I" ∈ cA := cA_tbl (List.mem_of_getElem? (i := 344) (by decide +kernel)) rfl
theorem wd_346 : Cond.laysFinal "ExplainingSolver$Clause" "ExplainingSolver$Clause" "how" "I" ∈ cA := cA_tbl (List.mem_of_getElem? (i := 346) (by decide +kernel)) rfl
theorem wd_349 : Cond.methodLink R_W 53 y_X_drop ∈ cA := cA_tbl (List.mem_of_getElem? (i := 349) (by decide +kernel)) rfl
theorem wd_350 : Cond.instanceMethod y_X_drop ∈ cA := cA_tbl (List.mem_of_getElem? (i := 350) (by decide +kernel)) rfl
theorem wd_351 : Cond.selects R_X y_X_drop y_X_drop ∈ cA := cA_tbl (List.mem_of_getElem? (i := 351) (by decide +kernel)) rfl
theorem wd_352 : Cond.code y_X_drop b_X_drop 2 (some .boolean) ∈ cA := cA_tbl (List.mem_of_getElem? (i := 352) (by decide +kernel)) rfl
theorem wd_353 : Cond.methodLink R_W 58 y_X_assume ∈ cA := cA_tbl (List.mem_of_getElem? (i := 353) (by decide +kernel)) rfl
theorem wd_354 : Cond.instanceMethod y_X_assume ∈ cA := cA_tbl (List.mem_of_getElem? (i := 354) (by decide +kernel)) rfl
theorem wd_355 : Cond.selects R_X y_X_assume y_X_assume ∈ cA := cA_tbl (List.mem_of_getElem? (i := 355) (by decide +kernel)) rfl
theorem wd_356 : Cond.code y_X_assume b_X_assume 4 (some .boolean) ∈ cA := cA_tbl (List.mem_of_getElem? (i := 356) (by decide +kernel)) rfl
theorem wd_357 : Cond.methodLink R_W 63 y_X_retract ∈ cA := cA_tbl (List.mem_of_getElem? (i := 357) (by decide +kernel)) rfl
theorem wd_358 : Cond.instanceMethod y_X_retract ∈ cA := cA_tbl (List.mem_of_getElem? (i := 358) (by decide +kernel)) rfl
theorem wd_359 : Cond.selects R_X y_X_retract y_X_retract ∈ cA := cA_tbl (List.mem_of_getElem? (i := 359) (by decide +kernel)) rfl
theorem wd_360 : Cond.code y_X_retract b_X_retract 1 (some .boolean) ∈ cA := cA_tbl (List.mem_of_getElem? (i := 360) (by decide +kernel)) rfl
theorem wd_361 : Cond.methodLink R_W 67 y_X_solve ∈ cA := cA_tbl (List.mem_of_getElem? (i := 361) (by decide +kernel)) rfl
theorem wd_362 : Cond.instanceMethod y_X_solve ∈ cA := cA_tbl (List.mem_of_getElem? (i := 362) (by decide +kernel)) rfl
theorem wd_363 : Cond.selects R_X y_X_solve y_X_solve ∈ cA := cA_tbl (List.mem_of_getElem? (i := 363) (by decide +kernel)) rfl
theorem wd_364 : Cond.code y_X_solve b_X_solve 1 (some .boolean) ∈ cA := cA_tbl (List.mem_of_getElem? (i := 364) (by decide +kernel)) rfl
theorem wd_365 : Cond.methodLink R_X 116 y_X_search ∈ cA := cA_tbl (List.mem_of_getElem? (i := 365) (by decide +kernel)) rfl
theorem wd_367 : Cond.instanceMethod y_X_search ∈ cA := cA_tbl (List.mem_of_getElem? (i := 367) (by decide +kernel)) rfl
theorem wd_368 : Cond.code y_X_search b_X_search 6 (some .boolean) ∈ cA := cA_tbl (List.mem_of_getElem? (i := 368) (by decide +kernel)) rfl
theorem wd_369 : Cond.methodLink R_X 141 Lib.Math.min.name ∈ cA := cA_tbl (List.mem_of_getElem? (i := 369) (by decide +kernel)) rfl
theorem wd_370 : Cond.static Lib.Math.min.name ∈ cA := cA_tbl (List.mem_of_getElem? (i := 370) (by decide +kernel)) rfl
theorem wd_371 : Cond.code Lib.Math.min.name Lib.Math.min.code 2 (some .int) ∈ cA := cA_tbl (List.mem_of_getElem? (i := 371) (by decide +kernel)) rfl
theorem wd_372 : Cond.methodLink R_X 147 y_X_isAsAssumed ∈ cA := cA_tbl (List.mem_of_getElem? (i := 372) (by decide +kernel)) rfl
theorem wd_374 : Cond.instanceMethod y_X_isAsAssumed ∈ cA := cA_tbl (List.mem_of_getElem? (i := 374) (by decide +kernel)) rfl
theorem wd_375 : Cond.code y_X_isAsAssumed b_X_isAsAssumed 3 (some .boolean) ∈ cA := cA_tbl (List.mem_of_getElem? (i := 375) (by decide +kernel)) rfl
theorem wd_376 : Cond.methodLink R_X 119 y_X_keepAsAnswer ∈ cA := cA_tbl (List.mem_of_getElem? (i := 376) (by decide +kernel)) rfl
theorem wd_378 : Cond.instanceMethod y_X_keepAsAnswer ∈ cA := cA_tbl (List.mem_of_getElem? (i := 378) (by decide +kernel)) rfl
theorem wd_379 : Cond.code y_X_keepAsAnswer b_X_keepAsAnswer 2 (some .boolean) ∈ cA := cA_tbl (List.mem_of_getElem? (i := 379) (by decide +kernel)) rfl
theorem wd_380 : Cond.methodLink R_W 71 y_X_best ∈ cA := cA_tbl (List.mem_of_getElem? (i := 380) (by decide +kernel)) rfl
theorem wd_381 : Cond.instanceMethod y_X_best ∈ cA := cA_tbl (List.mem_of_getElem? (i := 381) (by decide +kernel)) rfl
theorem wd_382 : Cond.selects R_X y_X_best y_X_best ∈ cA := cA_tbl (List.mem_of_getElem? (i := 382) (by decide +kernel)) rfl
theorem wd_383 : Cond.code y_X_best b_X_best 3 (some .boolean) ∈ cA := cA_tbl (List.mem_of_getElem? (i := 383) (by decide +kernel)) rfl
theorem wd_384 : Cond.methodLink R_W 76 y_X_value ∈ cA := cA_tbl (List.mem_of_getElem? (i := 384) (by decide +kernel)) rfl
theorem wd_385 : Cond.instanceMethod y_X_value ∈ cA := cA_tbl (List.mem_of_getElem? (i := 385) (by decide +kernel)) rfl
theorem wd_386 : Cond.selects R_X y_X_value y_X_value ∈ cA := cA_tbl (List.mem_of_getElem? (i := 386) (by decide +kernel)) rfl
theorem wd_387 : Cond.code y_X_value b_X_value 2 (some .int) ∈ cA := cA_tbl (List.mem_of_getElem? (i := 387) (by decide +kernel)) rfl
theorem wd_388 : Cond.methodLink R_W 80 y_X_least ∈ cA := cA_tbl (List.mem_of_getElem? (i := 388) (by decide +kernel)) rfl
theorem wd_389 : Cond.instanceMethod y_X_least ∈ cA := cA_tbl (List.mem_of_getElem? (i := 389) (by decide +kernel)) rfl
theorem wd_390 : Cond.selects R_X y_X_least y_X_least ∈ cA := cA_tbl (List.mem_of_getElem? (i := 390) (by decide +kernel)) rfl
theorem wd_391 : Cond.code y_X_least b_X_least 2 (some .int) ∈ cA := cA_tbl (List.mem_of_getElem? (i := 391) (by decide +kernel)) rfl
theorem wd_392 : Cond.methodLink R_W 84 y_X_greatest ∈ cA := cA_tbl (List.mem_of_getElem? (i := 392) (by decide +kernel)) rfl
theorem wd_393 : Cond.instanceMethod y_X_greatest ∈ cA := cA_tbl (List.mem_of_getElem? (i := 393) (by decide +kernel)) rfl
theorem wd_394 : Cond.selects R_X y_X_greatest y_X_greatest ∈ cA := cA_tbl (List.mem_of_getElem? (i := 394) (by decide +kernel)) rfl
theorem wd_395 : Cond.code y_X_greatest b_X_greatest 2 (some .int) ∈ cA := cA_tbl (List.mem_of_getElem? (i := 395) (by decide +kernel)) rfl
theorem wd_396 : Cond.methodLink R_W 88 y_X_implies ∈ cA := cA_tbl (List.mem_of_getElem? (i := 396) (by decide +kernel)) rfl
theorem wd_397 : Cond.instanceMethod y_X_implies ∈ cA := cA_tbl (List.mem_of_getElem? (i := 397) (by decide +kernel)) rfl
theorem wd_398 : Cond.selects R_X y_X_implies y_X_implies ∈ cA := cA_tbl (List.mem_of_getElem? (i := 398) (by decide +kernel)) rfl
theorem wd_399 : Cond.code y_X_implies b_X_implies 3 (some .boolean) ∈ cA := cA_tbl (List.mem_of_getElem? (i := 399) (by decide +kernel)) rfl
theorem wd_400 : Cond.methodLink R_W 93 y_X_variables ∈ cA := cA_tbl (List.mem_of_getElem? (i := 400) (by decide +kernel)) rfl
theorem wd_401 : Cond.instanceMethod y_X_variables ∈ cA := cA_tbl (List.mem_of_getElem? (i := 401) (by decide +kernel)) rfl
theorem wd_402 : Cond.selects R_X y_X_variables y_X_variables ∈ cA := cA_tbl (List.mem_of_getElem? (i := 402) (by decide +kernel)) rfl
theorem wd_403 : Cond.code y_X_variables b_X_variables 1 (some .int) ∈ cA := cA_tbl (List.mem_of_getElem? (i := 403) (by decide +kernel)) rfl
theorem wd_404 : Cond.methodLink R_W 98 y_X_constraints ∈ cA := cA_tbl (List.mem_of_getElem? (i := 404) (by decide +kernel)) rfl
theorem wd_405 : Cond.instanceMethod y_X_constraints ∈ cA := cA_tbl (List.mem_of_getElem? (i := 405) (by decide +kernel)) rfl
theorem wd_406 : Cond.selects R_X y_X_constraints y_X_constraints ∈ cA := cA_tbl (List.mem_of_getElem? (i := 406) (by decide +kernel)) rfl
theorem wd_407 : Cond.code y_X_constraints b_X_constraints 1 (some .int) ∈ cA := cA_tbl (List.mem_of_getElem? (i := 407) (by decide +kernel)) rfl
theorem wd_408 : Cond.methodLink R_W 102 y_X_assumptions ∈ cA := cA_tbl (List.mem_of_getElem? (i := 408) (by decide +kernel)) rfl
theorem wd_409 : Cond.instanceMethod y_X_assumptions ∈ cA := cA_tbl (List.mem_of_getElem? (i := 409) (by decide +kernel)) rfl
theorem wd_410 : Cond.selects R_X y_X_assumptions y_X_assumptions ∈ cA := cA_tbl (List.mem_of_getElem? (i := 410) (by decide +kernel)) rfl
theorem wd_411 : Cond.code y_X_assumptions b_X_assumptions 1 (some .int) ∈ cA := cA_tbl (List.mem_of_getElem? (i := 411) (by decide +kernel)) rfl
theorem wd_412 : Cond.methodLink R_W 106 y_X_space ∈ cA := cA_tbl (List.mem_of_getElem? (i := 412) (by decide +kernel)) rfl
theorem wd_413 : Cond.instanceMethod y_X_space ∈ cA := cA_tbl (List.mem_of_getElem? (i := 413) (by decide +kernel)) rfl
theorem wd_414 : Cond.selects R_X y_X_space y_X_space ∈ cA := cA_tbl (List.mem_of_getElem? (i := 414) (by decide +kernel)) rfl
theorem wd_415 : Cond.code y_X_space b_X_space 1 (some .int) ∈ cA := cA_tbl (List.mem_of_getElem? (i := 415) (by decide +kernel)) rfl
theorem wd_416 : Cond.classLink R_W 10 R_O ∈ cA := cA_tbl (List.mem_of_getElem? (i := 416) (by decide +kernel)) rfl
theorem wd_417 : Cond.instantiable R_O 17 ∈ cA := cA_tbl (List.mem_of_getElem? (i := 417) (by decide +kernel)) rfl
theorem wd_418 : Cond.methodLink R_W 12 y_O_init ∈ cA := cA_tbl (List.mem_of_getElem? (i := 418) (by decide +kernel)) rfl
theorem wd_419 : Cond.instanceMethod y_O_init ∈ cA := cA_tbl (List.mem_of_getElem? (i := 419) (by decide +kernel)) rfl
theorem wd_420 : Cond.code y_O_init b_O_init 1 none ∈ cA := cA_tbl (List.mem_of_getElem? (i := 420) (by decide +kernel)) rfl
theorem wd_421 : Cond.methodLink R_O 1 objectInit ∈ cA := cA_tbl (List.mem_of_getElem? (i := 421) (by decide +kernel)) rfl
theorem wd_422 : Cond.fieldLink R_O 56 "ExplainingSolverModel" "count" "I" ∈ cA := cA_tbl (List.mem_of_getElem? (i := 422) (by decide +kernel)) rfl
theorem wd_423 : Cond.fieldLink R_O 7 "ExplainingSolverModel" "low" "[I" ∈ cA := cA_tbl (List.mem_of_getElem? (i := 423) (by decide +kernel)) rfl
theorem wd_424 : Cond.fieldLink R_O 13 "ExplainingSolverModel" "size" "[I" ∈ cA := cA_tbl (List.mem_of_getElem? (i := 424) (by decide +kernel)) rfl
theorem wd_425 : Cond.fieldLink R_O 16 "ExplainingSolverModel" "stride" "[I" ∈ cA := cA_tbl (List.mem_of_getElem? (i := 425) (by decide +kernel)) rfl
theorem wd_426 : Cond.fieldLink R_O 19 "ExplainingSolverModel" "space" "I" ∈ cA := cA_tbl (List.mem_of_getElem? (i := 426) (by decide +kernel)) rfl
theorem wd_427 : Cond.fieldLink R_O 66 "ExplainingSolverModel" "rows" "I" ∈ cA := cA_tbl (List.mem_of_getElem? (i := 427) (by decide +kernel)) rfl
theorem wd_428 : Cond.fieldLink R_O 23 "ExplainingSolverModel" "kind" "[I" ∈ cA := cA_tbl (List.mem_of_getElem? (i := 428) (by decide +kernel)) rfl
theorem wd_429 : Cond.fieldLink R_O 26 "ExplainingSolverModel" "part" "[I" ∈ cA := cA_tbl (List.mem_of_getElem? (i := 429) (by decide +kernel)) rfl
theorem wd_430 : Cond.fieldLink R_O 29 "ExplainingSolverModel" "wide" "[J" ∈ cA := cA_tbl (List.mem_of_getElem? (i := 430) (by decide +kernel)) rfl
theorem wd_431 : Cond.fieldLink R_O 87 "ExplainingSolverModel" "piled" "I" ∈ cA := cA_tbl (List.mem_of_getElem? (i := 431) (by decide +kernel)) rfl
theorem wd_432 : Cond.fieldLink R_O 33 "ExplainingSolverModel" "assumed" "[I" ∈ cA := cA_tbl (List.mem_of_getElem? (i := 432) (by decide +kernel)) rfl
theorem wd_433 : Cond.fieldLink R_O 36 "ExplainingSolverModel" "from" "[I" ∈ cA := cA_tbl (List.mem_of_getElem? (i := 433) (by decide +kernel)) rfl
theorem wd_434 : Cond.fieldLink R_O 39 "ExplainingSolverModel" "to" "[I" ∈ cA := cA_tbl (List.mem_of_getElem? (i := 434) (by decide +kernel)) rfl
theorem wd_435 : Cond.fieldLink R_O 52 "ExplainingSolverModel" "known" "Z" ∈ cA := cA_tbl (List.mem_of_getElem? (i := 435) (by decide +kernel)) rfl
theorem wd_436 : Cond.fieldLink R_O 42 "ExplainingSolverModel" "holds" "[Z" ∈ cA := cA_tbl (List.mem_of_getElem? (i := 436) (by decide +kernel)) rfl
theorem wd_437 : Cond.fieldLink R_O 46 "ExplainingSolverModel" "answer" "I" ∈ cA := cA_tbl (List.mem_of_getElem? (i := 437) (by decide +kernel)) rfl
theorem wd_438 : Cond.fieldLink R_O 49 "ExplainingSolverModel" "x" "[I" ∈ cA := cA_tbl (List.mem_of_getElem? (i := 438) (by decide +kernel)) rfl
theorem wd_439 : Cond.lays "ExplainingSolverModel" "ExplainingSolverModel" "count" "I" ∈ cA := cA_tbl (List.mem_of_getElem? (i := 439) (by decide +kernel)) rfl
theorem wd_441 : Cond.laysFinal "ExplainingSolverModel" "ExplainingSolverModel" "low" "[I" ∈ cA := cA_tbl (List.mem_of_getElem? (i := 441) (by decide +kernel)) rfl
theorem wd_443 : Cond.laysFinal "ExplainingSolverModel" "ExplainingSolverModel" "size" "[I" ∈ cA := cA_tbl (List.mem_of_getElem? (i := 443) (by decide +kernel)) rfl
theorem wd_445 : Cond.laysFinal "ExplainingSolverModel" "ExplainingSolverModel" "stride" "[I" ∈ cA := cA_tbl (List.mem_of_getElem? (i := 445) (by decide +kernel)) rfl
theorem wd_447 : Cond.lays "ExplainingSolverModel" "ExplainingSolverModel" "space" "I" ∈ cA := cA_tbl (List.mem_of_getElem? (i := 447) (by decide +kernel)) rfl
theorem wd_449 : Cond.lays "ExplainingSolverModel" "ExplainingSolverModel" "rows" "I" ∈ cA := cA_tbl (List.mem_of_getElem? (i := 449) (by decide +kernel)) rfl
theorem wd_451 : Cond.laysFinal "ExplainingSolverModel" "ExplainingSolverModel" "kind" "[I" ∈ cA := cA_tbl (List.mem_of_getElem? (i := 451) (by decide +kernel)) rfl
theorem wd_453 : Cond.laysFinal "ExplainingSolverModel" "ExplainingSolverModel" "part" "[I" ∈ cA := cA_tbl (List.mem_of_getElem? (i := 453) (by decide +kernel)) rfl
theorem wd_455 : Cond.laysFinal "ExplainingSolverModel" "ExplainingSolverModel" "wide" "[J" ∈ cA := cA_tbl (List.mem_of_getElem? (i := 455) (by decide +kernel)) rfl
theorem wd_457 : Cond.lays "ExplainingSolverModel" "ExplainingSolverModel" "piled" "I" ∈ cA := cA_tbl (List.mem_of_getElem? (i := 457) (by decide +kernel)) rfl
theorem wd_459 : Cond.laysFinal "ExplainingSolverModel" "ExplainingSolverModel" "assumed" "[I" ∈ cA := cA_tbl (List.mem_of_getElem? (i := 459) (by decide +kernel)) rfl
theorem wd_461 : Cond.laysFinal "ExplainingSolverModel" "ExplainingSolverModel" "from" "[I" ∈ cA := cA_tbl (List.mem_of_getElem? (i := 461) (by decide +kernel)) rfl
theorem wd_463 : Cond.laysFinal "ExplainingSolverModel" "ExplainingSolverModel" "to" "[I" ∈ cA := cA_tbl (List.mem_of_getElem? (i := 463) (by decide +kernel)) rfl
theorem wd_465 : Cond.lays "ExplainingSolverModel" "ExplainingSolverModel" "known" "Z" ∈ cA := cA_tbl (List.mem_of_getElem? (i := 465) (by decide +kernel)) rfl
theorem wd_467 : Cond.laysFinal "ExplainingSolverModel" "ExplainingSolverModel" "holds" "[Z" ∈ cA := cA_tbl (List.mem_of_getElem? (i := 467) (by decide +kernel)) rfl
theorem wd_469 : Cond.lays "ExplainingSolverModel" "ExplainingSolverModel" "answer" "I" ∈ cA := cA_tbl (List.mem_of_getElem? (i := 469) (by decide +kernel)) rfl
theorem wd_471 : Cond.laysFinal "ExplainingSolverModel" "ExplainingSolverModel" "x" "[I" ∈ cA := cA_tbl (List.mem_of_getElem? (i := 471) (by decide +kernel)) rfl
theorem wd_474 : Cond.arrayClass .long ∈ cA := cA_tbl (List.mem_of_getElem? (i := 474) (by decide +kernel)) rfl
theorem wd_475 : Cond.arrayClass .boolean ∈ cA := cA_tbl (List.mem_of_getElem? (i := 475) (by decide +kernel)) rfl
theorem wd_476 : Cond.methodLink R_W 17 y_O_variable ∈ cA := cA_tbl (List.mem_of_getElem? (i := 476) (by decide +kernel)) rfl
theorem wd_477 : Cond.instanceMethod y_O_variable ∈ cA := cA_tbl (List.mem_of_getElem? (i := 477) (by decide +kernel)) rfl
theorem wd_478 : Cond.selects R_O y_O_variable y_O_variable ∈ cA := cA_tbl (List.mem_of_getElem? (i := 478) (by decide +kernel)) rfl
theorem wd_479 : Cond.code y_O_variable b_O_variable 5 (some .int) ∈ cA := cA_tbl (List.mem_of_getElem? (i := 479) (by decide +kernel)) rfl
theorem wd_480 : Cond.methodLink R_O 63 y_O_changed ∈ cA := cA_tbl (List.mem_of_getElem? (i := 480) (by decide +kernel)) rfl
theorem wd_482 : Cond.instanceMethod y_O_changed ∈ cA := cA_tbl (List.mem_of_getElem? (i := 482) (by decide +kernel)) rfl
theorem wd_483 : Cond.code y_O_changed b_O_changed 1 none ∈ cA := cA_tbl (List.mem_of_getElem? (i := 483) (by decide +kernel)) rfl
theorem wd_484 : Cond.methodLink R_W 22 y_O_linear ∈ cA := cA_tbl (List.mem_of_getElem? (i := 484) (by decide +kernel)) rfl
theorem wd_485 : Cond.instanceMethod y_O_linear ∈ cA := cA_tbl (List.mem_of_getElem? (i := 485) (by decide +kernel)) rfl
theorem wd_486 : Cond.selects R_O y_O_linear y_O_linear ∈ cA := cA_tbl (List.mem_of_getElem? (i := 486) (by decide +kernel)) rfl
theorem wd_487 : Cond.code y_O_linear b_O_linear 10 (some .int) ∈ cA := cA_tbl (List.mem_of_getElem? (i := 487) (by decide +kernel)) rfl
theorem wd_488 : Cond.methodLink R_O 69 y_O_isPart ∈ cA := cA_tbl (List.mem_of_getElem? (i := 488) (by decide +kernel)) rfl
theorem wd_490 : Cond.instanceMethod y_O_isPart ∈ cA := cA_tbl (List.mem_of_getElem? (i := 490) (by decide +kernel)) rfl
theorem wd_491 : Cond.code y_O_isPart b_O_isPart 2 (some .boolean) ∈ cA := cA_tbl (List.mem_of_getElem? (i := 491) (by decide +kernel)) rfl
theorem wd_492 : Cond.methodLink R_O 59 y_O_isVariable ∈ cA := cA_tbl (List.mem_of_getElem? (i := 492) (by decide +kernel)) rfl
theorem wd_494 : Cond.instanceMethod y_O_isVariable ∈ cA := cA_tbl (List.mem_of_getElem? (i := 494) (by decide +kernel)) rfl
theorem wd_495 : Cond.code y_O_isVariable b_O_isVariable 2 (some .boolean) ∈ cA := cA_tbl (List.mem_of_getElem? (i := 495) (by decide +kernel)) rfl
theorem wd_496 : Cond.methodLink R_O 72 y_O_within ∈ cA := cA_tbl (List.mem_of_getElem? (i := 496) (by decide +kernel)) rfl
theorem wd_497 : Cond.static y_O_within ∈ cA := cA_tbl (List.mem_of_getElem? (i := 497) (by decide +kernel)) rfl
theorem wd_498 : Cond.code y_O_within b_O_within 3 (some .boolean) ∈ cA := cA_tbl (List.mem_of_getElem? (i := 498) (by decide +kernel)) rfl
theorem wd_499 : Cond.methodLink R_O 76 y_O_add ∈ cA := cA_tbl (List.mem_of_getElem? (i := 499) (by decide +kernel)) rfl
theorem wd_501 : Cond.instanceMethod y_O_add ∈ cA := cA_tbl (List.mem_of_getElem? (i := 501) (by decide +kernel)) rfl
theorem wd_502 : Cond.code y_O_add b_O_add 7 (some .int) ∈ cA := cA_tbl (List.mem_of_getElem? (i := 502) (by decide +kernel)) rfl
theorem wd_503 : Cond.methodLink R_O 80 y_O_set ∈ cA := cA_tbl (List.mem_of_getElem? (i := 503) (by decide +kernel)) rfl
theorem wd_505 : Cond.instanceMethod y_O_set ∈ cA := cA_tbl (List.mem_of_getElem? (i := 505) (by decide +kernel)) rfl
theorem wd_506 : Cond.code y_O_set b_O_set 4 none ∈ cA := cA_tbl (List.mem_of_getElem? (i := 506) (by decide +kernel)) rfl
theorem wd_507 : Cond.methodLink R_W 27 y_O_reified ∈ cA := cA_tbl (List.mem_of_getElem? (i := 507) (by decide +kernel)) rfl
theorem wd_508 : Cond.instanceMethod y_O_reified ∈ cA := cA_tbl (List.mem_of_getElem? (i := 508) (by decide +kernel)) rfl
theorem wd_509 : Cond.selects R_O y_O_reified y_O_reified ∈ cA := cA_tbl (List.mem_of_getElem? (i := 509) (by decide +kernel)) rfl
theorem wd_510 : Cond.code y_O_reified b_O_reified 6 (some .int) ∈ cA := cA_tbl (List.mem_of_getElem? (i := 510) (by decide +kernel)) rfl
theorem wd_511 : Cond.methodLink R_W 31 y_O_maximum ∈ cA := cA_tbl (List.mem_of_getElem? (i := 511) (by decide +kernel)) rfl
theorem wd_512 : Cond.instanceMethod y_O_maximum ∈ cA := cA_tbl (List.mem_of_getElem? (i := 512) (by decide +kernel)) rfl
theorem wd_513 : Cond.selects R_O y_O_maximum y_O_maximum ∈ cA := cA_tbl (List.mem_of_getElem? (i := 513) (by decide +kernel)) rfl
theorem wd_514 : Cond.code y_O_maximum b_O_maximum 6 (some .int) ∈ cA := cA_tbl (List.mem_of_getElem? (i := 514) (by decide +kernel)) rfl
theorem wd_515 : Cond.methodLink R_W 38 y_O_element ∈ cA := cA_tbl (List.mem_of_getElem? (i := 515) (by decide +kernel)) rfl
theorem wd_516 : Cond.instanceMethod y_O_element ∈ cA := cA_tbl (List.mem_of_getElem? (i := 516) (by decide +kernel)) rfl
theorem wd_517 : Cond.selects R_O y_O_element y_O_element ∈ cA := cA_tbl (List.mem_of_getElem? (i := 517) (by decide +kernel)) rfl
theorem wd_518 : Cond.code y_O_element b_O_element 6 (some .int) ∈ cA := cA_tbl (List.mem_of_getElem? (i := 518) (by decide +kernel)) rfl
theorem wd_519 : Cond.methodLink R_W 43 y_O_different ∈ cA := cA_tbl (List.mem_of_getElem? (i := 519) (by decide +kernel)) rfl
theorem wd_520 : Cond.instanceMethod y_O_different ∈ cA := cA_tbl (List.mem_of_getElem? (i := 520) (by decide +kernel)) rfl
theorem wd_521 : Cond.selects R_O y_O_different y_O_different ∈ cA := cA_tbl (List.mem_of_getElem? (i := 521) (by decide +kernel)) rfl
theorem wd_522 : Cond.code y_O_different b_O_different 3 (some .int) ∈ cA := cA_tbl (List.mem_of_getElem? (i := 522) (by decide +kernel)) rfl
theorem wd_523 : Cond.methodLink R_O 84 y_O_isSet ∈ cA := cA_tbl (List.mem_of_getElem? (i := 523) (by decide +kernel)) rfl
theorem wd_525 : Cond.instanceMethod y_O_isSet ∈ cA := cA_tbl (List.mem_of_getElem? (i := 525) (by decide +kernel)) rfl
theorem wd_526 : Cond.code y_O_isSet b_O_isSet 2 (some .boolean) ∈ cA := cA_tbl (List.mem_of_getElem? (i := 526) (by decide +kernel)) rfl
theorem wd_527 : Cond.methodLink R_W 48 y_O_cumulative ∈ cA := cA_tbl (List.mem_of_getElem? (i := 527) (by decide +kernel)) rfl
theorem wd_528 : Cond.instanceMethod y_O_cumulative ∈ cA := cA_tbl (List.mem_of_getElem? (i := 528) (by decide +kernel)) rfl
theorem wd_529 : Cond.selects R_O y_O_cumulative y_O_cumulative ∈ cA := cA_tbl (List.mem_of_getElem? (i := 529) (by decide +kernel)) rfl
theorem wd_530 : Cond.code y_O_cumulative b_O_cumulative 8 (some .int) ∈ cA := cA_tbl (List.mem_of_getElem? (i := 530) (by decide +kernel)) rfl
theorem wd_531 : Cond.methodLink R_W 52 y_O_clause ∈ cA := cA_tbl (List.mem_of_getElem? (i := 531) (by decide +kernel)) rfl
theorem wd_532 : Cond.instanceMethod y_O_clause ∈ cA := cA_tbl (List.mem_of_getElem? (i := 532) (by decide +kernel)) rfl
theorem wd_533 : Cond.selects R_O y_O_clause y_O_clause ∈ cA := cA_tbl (List.mem_of_getElem? (i := 533) (by decide +kernel)) rfl
theorem wd_534 : Cond.code y_O_clause b_O_clause 10 (some .int) ∈ cA := cA_tbl (List.mem_of_getElem? (i := 534) (by decide +kernel)) rfl
theorem wd_535 : Cond.methodLink R_W 57 y_O_drop ∈ cA := cA_tbl (List.mem_of_getElem? (i := 535) (by decide +kernel)) rfl
theorem wd_536 : Cond.instanceMethod y_O_drop ∈ cA := cA_tbl (List.mem_of_getElem? (i := 536) (by decide +kernel)) rfl
theorem wd_537 : Cond.selects R_O y_O_drop y_O_drop ∈ cA := cA_tbl (List.mem_of_getElem? (i := 537) (by decide +kernel)) rfl
theorem wd_538 : Cond.code y_O_drop b_O_drop 1 (some .boolean) ∈ cA := cA_tbl (List.mem_of_getElem? (i := 538) (by decide +kernel)) rfl
theorem wd_539 : Cond.methodLink R_W 62 y_O_assume ∈ cA := cA_tbl (List.mem_of_getElem? (i := 539) (by decide +kernel)) rfl
theorem wd_540 : Cond.instanceMethod y_O_assume ∈ cA := cA_tbl (List.mem_of_getElem? (i := 540) (by decide +kernel)) rfl
theorem wd_541 : Cond.selects R_O y_O_assume y_O_assume ∈ cA := cA_tbl (List.mem_of_getElem? (i := 541) (by decide +kernel)) rfl
theorem wd_542 : Cond.code y_O_assume b_O_assume 4 (some .boolean) ∈ cA := cA_tbl (List.mem_of_getElem? (i := 542) (by decide +kernel)) rfl
theorem wd_543 : Cond.methodLink R_W 66 y_O_retract ∈ cA := cA_tbl (List.mem_of_getElem? (i := 543) (by decide +kernel)) rfl
theorem wd_544 : Cond.instanceMethod y_O_retract ∈ cA := cA_tbl (List.mem_of_getElem? (i := 544) (by decide +kernel)) rfl
theorem wd_545 : Cond.selects R_O y_O_retract y_O_retract ∈ cA := cA_tbl (List.mem_of_getElem? (i := 545) (by decide +kernel)) rfl
theorem wd_546 : Cond.code y_O_retract b_O_retract 1 (some .boolean) ∈ cA := cA_tbl (List.mem_of_getElem? (i := 546) (by decide +kernel)) rfl
theorem wd_547 : Cond.methodLink R_W 70 y_O_solve ∈ cA := cA_tbl (List.mem_of_getElem? (i := 547) (by decide +kernel)) rfl
theorem wd_548 : Cond.instanceMethod y_O_solve ∈ cA := cA_tbl (List.mem_of_getElem? (i := 548) (by decide +kernel)) rfl
theorem wd_549 : Cond.selects R_O y_O_solve y_O_solve ∈ cA := cA_tbl (List.mem_of_getElem? (i := 549) (by decide +kernel)) rfl
theorem wd_550 : Cond.code y_O_solve b_O_solve 1 (some .boolean) ∈ cA := cA_tbl (List.mem_of_getElem? (i := 550) (by decide +kernel)) rfl
theorem wd_551 : Cond.methodLink R_O 135 y_O_first ∈ cA := cA_tbl (List.mem_of_getElem? (i := 551) (by decide +kernel)) rfl
theorem wd_553 : Cond.instanceMethod y_O_first ∈ cA := cA_tbl (List.mem_of_getElem? (i := 553) (by decide +kernel)) rfl
theorem wd_554 : Cond.code y_O_first b_O_first 4 (some .int) ∈ cA := cA_tbl (List.mem_of_getElem? (i := 554) (by decide +kernel)) rfl
theorem wd_555 : Cond.methodLink R_O 132 y_O_look ∈ cA := cA_tbl (List.mem_of_getElem? (i := 555) (by decide +kernel)) rfl
theorem wd_557 : Cond.instanceMethod y_O_look ∈ cA := cA_tbl (List.mem_of_getElem? (i := 557) (by decide +kernel)) rfl
theorem wd_558 : Cond.code y_O_look b_O_look 3 none ∈ cA := cA_tbl (List.mem_of_getElem? (i := 558) (by decide +kernel)) rfl
theorem wd_559 : Cond.methodLink R_O 125 y_O_valueIn ∈ cA := cA_tbl (List.mem_of_getElem? (i := 559) (by decide +kernel)) rfl
theorem wd_561 : Cond.instanceMethod y_O_valueIn ∈ cA := cA_tbl (List.mem_of_getElem? (i := 561) (by decide +kernel)) rfl
theorem wd_562 : Cond.code y_O_valueIn b_O_valueIn 3 (some .int) ∈ cA := cA_tbl (List.mem_of_getElem? (i := 562) (by decide +kernel)) rfl
theorem wd_563 : Cond.methodLink R_O 128 y_O_all ∈ cA := cA_tbl (List.mem_of_getElem? (i := 563) (by decide +kernel)) rfl
theorem wd_565 : Cond.instanceMethod y_O_all ∈ cA := cA_tbl (List.mem_of_getElem? (i := 565) (by decide +kernel)) rfl
theorem wd_566 : Cond.code y_O_all b_O_all 3 (some .boolean) ∈ cA := cA_tbl (List.mem_of_getElem? (i := 566) (by decide +kernel)) rfl
theorem wd_567 : Cond.methodLink R_O 122 y_O_satisfied ∈ cA := cA_tbl (List.mem_of_getElem? (i := 567) (by decide +kernel)) rfl
theorem wd_569 : Cond.instanceMethod y_O_satisfied ∈ cA := cA_tbl (List.mem_of_getElem? (i := 569) (by decide +kernel)) rfl
theorem wd_570 : Cond.code y_O_satisfied b_O_satisfied 2 (some .boolean) ∈ cA := cA_tbl (List.mem_of_getElem? (i := 570) (by decide +kernel)) rfl
theorem wd_571 : Cond.methodLink R_O 90 y_O_of ∈ cA := cA_tbl (List.mem_of_getElem? (i := 571) (by decide +kernel)) rfl
theorem wd_573 : Cond.instanceMethod y_O_of ∈ cA := cA_tbl (List.mem_of_getElem? (i := 573) (by decide +kernel)) rfl
theorem wd_574 : Cond.code y_O_of b_O_of 3 (some .int) ∈ cA := cA_tbl (List.mem_of_getElem? (i := 574) (by decide +kernel)) rfl
theorem wd_575 : Cond.methodLink R_O 103 y_O_times ∈ cA := cA_tbl (List.mem_of_getElem? (i := 575) (by decide +kernel)) rfl
theorem wd_577 : Cond.instanceMethod y_O_times ∈ cA := cA_tbl (List.mem_of_getElem? (i := 577) (by decide +kernel)) rfl
theorem wd_578 : Cond.code y_O_times b_O_times 3 (some .int) ∈ cA := cA_tbl (List.mem_of_getElem? (i := 578) (by decide +kernel)) rfl
theorem wd_579 : Cond.methodLink R_O 106 y_O_greatestOf ∈ cA := cA_tbl (List.mem_of_getElem? (i := 579) (by decide +kernel)) rfl
theorem wd_581 : Cond.instanceMethod y_O_greatestOf ∈ cA := cA_tbl (List.mem_of_getElem? (i := 581) (by decide +kernel)) rfl
theorem wd_582 : Cond.code y_O_greatestOf b_O_greatestOf 5 (some .int) ∈ cA := cA_tbl (List.mem_of_getElem? (i := 582) (by decide +kernel)) rfl
theorem wd_583 : Cond.methodLink R_O 110 y_O_entryIs ∈ cA := cA_tbl (List.mem_of_getElem? (i := 583) (by decide +kernel)) rfl
theorem wd_585 : Cond.instanceMethod y_O_entryIs ∈ cA := cA_tbl (List.mem_of_getElem? (i := 585) (by decide +kernel)) rfl
theorem wd_586 : Cond.code y_O_entryIs b_O_entryIs 4 (some .boolean) ∈ cA := cA_tbl (List.mem_of_getElem? (i := 586) (by decide +kernel)) rfl
theorem wd_587 : Cond.methodLink R_O 113 y_O_differ ∈ cA := cA_tbl (List.mem_of_getElem? (i := 587) (by decide +kernel)) rfl
theorem wd_589 : Cond.instanceMethod y_O_differ ∈ cA := cA_tbl (List.mem_of_getElem? (i := 589) (by decide +kernel)) rfl
theorem wd_590 : Cond.code y_O_differ b_O_differ 6 (some .boolean) ∈ cA := cA_tbl (List.mem_of_getElem? (i := 590) (by decide +kernel)) rfl
theorem wd_591 : Cond.methodLink R_O 116 y_O_fits ∈ cA := cA_tbl (List.mem_of_getElem? (i := 591) (by decide +kernel)) rfl
theorem wd_593 : Cond.instanceMethod y_O_fits ∈ cA := cA_tbl (List.mem_of_getElem? (i := 593) (by decide +kernel)) rfl
theorem wd_594 : Cond.code y_O_fits b_O_fits 4 (some .boolean) ∈ cA := cA_tbl (List.mem_of_getElem? (i := 594) (by decide +kernel)) rfl
theorem wd_595 : Cond.methodLink R_O 100 y_O_needed ∈ cA := cA_tbl (List.mem_of_getElem? (i := 595) (by decide +kernel)) rfl
theorem wd_597 : Cond.instanceMethod y_O_needed ∈ cA := cA_tbl (List.mem_of_getElem? (i := 597) (by decide +kernel)) rfl
theorem wd_598 : Cond.code y_O_needed b_O_needed 7 (some .int) ∈ cA := cA_tbl (List.mem_of_getElem? (i := 598) (by decide +kernel)) rfl
theorem wd_599 : Cond.methodLink R_O 96 y_O_nibble ∈ cA := cA_tbl (List.mem_of_getElem? (i := 599) (by decide +kernel)) rfl
theorem wd_600 : Cond.static y_O_nibble ∈ cA := cA_tbl (List.mem_of_getElem? (i := 600) (by decide +kernel)) rfl
theorem wd_601 : Cond.code y_O_nibble b_O_nibble 3 (some .int) ∈ cA := cA_tbl (List.mem_of_getElem? (i := 601) (by decide +kernel)) rfl
theorem wd_602 : Cond.constantLong R_O 94 (15 : Int64) ∈ cA := cA_tbl (List.mem_of_getElem? (i := 602) (by decide +kernel)) rfl
theorem wd_603 : Cond.methodLink R_O 119 y_O_anyPart ∈ cA := cA_tbl (List.mem_of_getElem? (i := 603) (by decide +kernel)) rfl
theorem wd_605 : Cond.instanceMethod y_O_anyPart ∈ cA := cA_tbl (List.mem_of_getElem? (i := 605) (by decide +kernel)) rfl
theorem wd_606 : Cond.code y_O_anyPart b_O_anyPart 7 (some .boolean) ∈ cA := cA_tbl (List.mem_of_getElem? (i := 606) (by decide +kernel)) rfl
theorem wd_607 : Cond.methodLink R_W 75 y_O_best ∈ cA := cA_tbl (List.mem_of_getElem? (i := 607) (by decide +kernel)) rfl
theorem wd_608 : Cond.instanceMethod y_O_best ∈ cA := cA_tbl (List.mem_of_getElem? (i := 608) (by decide +kernel)) rfl
theorem wd_609 : Cond.selects R_O y_O_best y_O_best ∈ cA := cA_tbl (List.mem_of_getElem? (i := 609) (by decide +kernel)) rfl
theorem wd_610 : Cond.code y_O_best b_O_best 4 (some .boolean) ∈ cA := cA_tbl (List.mem_of_getElem? (i := 610) (by decide +kernel)) rfl
theorem wd_611 : Cond.methodLink R_O 138 y_O_extreme ∈ cA := cA_tbl (List.mem_of_getElem? (i := 611) (by decide +kernel)) rfl
theorem wd_613 : Cond.instanceMethod y_O_extreme ∈ cA := cA_tbl (List.mem_of_getElem? (i := 613) (by decide +kernel)) rfl
theorem wd_614 : Cond.code y_O_extreme b_O_extreme 7 (some .int) ∈ cA := cA_tbl (List.mem_of_getElem? (i := 614) (by decide +kernel)) rfl
theorem wd_615 : Cond.methodLink R_W 79 y_O_value ∈ cA := cA_tbl (List.mem_of_getElem? (i := 615) (by decide +kernel)) rfl
theorem wd_616 : Cond.instanceMethod y_O_value ∈ cA := cA_tbl (List.mem_of_getElem? (i := 616) (by decide +kernel)) rfl
theorem wd_617 : Cond.selects R_O y_O_value y_O_value ∈ cA := cA_tbl (List.mem_of_getElem? (i := 617) (by decide +kernel)) rfl
theorem wd_618 : Cond.code y_O_value b_O_value 2 (some .int) ∈ cA := cA_tbl (List.mem_of_getElem? (i := 618) (by decide +kernel)) rfl
theorem wd_619 : Cond.methodLink R_W 83 y_O_least ∈ cA := cA_tbl (List.mem_of_getElem? (i := 619) (by decide +kernel)) rfl
theorem wd_620 : Cond.instanceMethod y_O_least ∈ cA := cA_tbl (List.mem_of_getElem? (i := 620) (by decide +kernel)) rfl
theorem wd_621 : Cond.selects R_O y_O_least y_O_least ∈ cA := cA_tbl (List.mem_of_getElem? (i := 621) (by decide +kernel)) rfl
theorem wd_622 : Cond.code y_O_least b_O_least 2 (some .int) ∈ cA := cA_tbl (List.mem_of_getElem? (i := 622) (by decide +kernel)) rfl
theorem wd_623 : Cond.methodLink R_W 87 y_O_greatest ∈ cA := cA_tbl (List.mem_of_getElem? (i := 623) (by decide +kernel)) rfl
theorem wd_624 : Cond.instanceMethod y_O_greatest ∈ cA := cA_tbl (List.mem_of_getElem? (i := 624) (by decide +kernel)) rfl
theorem wd_625 : Cond.selects R_O y_O_greatest y_O_greatest ∈ cA := cA_tbl (List.mem_of_getElem? (i := 625) (by decide +kernel)) rfl
theorem wd_626 : Cond.code y_O_greatest b_O_greatest 2 (some .int) ∈ cA := cA_tbl (List.mem_of_getElem? (i := 626) (by decide +kernel)) rfl
theorem wd_627 : Cond.methodLink R_W 92 y_O_implies ∈ cA := cA_tbl (List.mem_of_getElem? (i := 627) (by decide +kernel)) rfl
theorem wd_628 : Cond.instanceMethod y_O_implies ∈ cA := cA_tbl (List.mem_of_getElem? (i := 628) (by decide +kernel)) rfl
theorem wd_629 : Cond.selects R_O y_O_implies y_O_implies ∈ cA := cA_tbl (List.mem_of_getElem? (i := 629) (by decide +kernel)) rfl
theorem wd_630 : Cond.code y_O_implies b_O_implies 4 (some .boolean) ∈ cA := cA_tbl (List.mem_of_getElem? (i := 630) (by decide +kernel)) rfl
theorem wd_631 : Cond.methodLink R_W 97 y_O_variables ∈ cA := cA_tbl (List.mem_of_getElem? (i := 631) (by decide +kernel)) rfl
theorem wd_632 : Cond.instanceMethod y_O_variables ∈ cA := cA_tbl (List.mem_of_getElem? (i := 632) (by decide +kernel)) rfl
theorem wd_633 : Cond.selects R_O y_O_variables y_O_variables ∈ cA := cA_tbl (List.mem_of_getElem? (i := 633) (by decide +kernel)) rfl
theorem wd_634 : Cond.code y_O_variables b_O_variables 1 (some .int) ∈ cA := cA_tbl (List.mem_of_getElem? (i := 634) (by decide +kernel)) rfl
theorem wd_635 : Cond.methodLink R_W 101 y_O_constraints ∈ cA := cA_tbl (List.mem_of_getElem? (i := 635) (by decide +kernel)) rfl
theorem wd_636 : Cond.instanceMethod y_O_constraints ∈ cA := cA_tbl (List.mem_of_getElem? (i := 636) (by decide +kernel)) rfl
theorem wd_637 : Cond.selects R_O y_O_constraints y_O_constraints ∈ cA := cA_tbl (List.mem_of_getElem? (i := 637) (by decide +kernel)) rfl
theorem wd_638 : Cond.code y_O_constraints b_O_constraints 1 (some .int) ∈ cA := cA_tbl (List.mem_of_getElem? (i := 638) (by decide +kernel)) rfl
theorem wd_639 : Cond.methodLink R_W 105 y_O_assumptions ∈ cA := cA_tbl (List.mem_of_getElem? (i := 639) (by decide +kernel)) rfl
theorem wd_640 : Cond.instanceMethod y_O_assumptions ∈ cA := cA_tbl (List.mem_of_getElem? (i := 640) (by decide +kernel)) rfl
theorem wd_641 : Cond.selects R_O y_O_assumptions y_O_assumptions ∈ cA := cA_tbl (List.mem_of_getElem? (i := 641) (by decide +kernel)) rfl
theorem wd_642 : Cond.code y_O_assumptions b_O_assumptions 1 (some .int) ∈ cA := cA_tbl (List.mem_of_getElem? (i := 642) (by decide +kernel)) rfl
theorem wd_643 : Cond.methodLink R_W 109 y_O_space ∈ cA := cA_tbl (List.mem_of_getElem? (i := 643) (by decide +kernel)) rfl
theorem wd_644 : Cond.instanceMethod y_O_space ∈ cA := cA_tbl (List.mem_of_getElem? (i := 644) (by decide +kernel)) rfl
theorem wd_645 : Cond.selects R_O y_O_space y_O_space ∈ cA := cA_tbl (List.mem_of_getElem? (i := 645) (by decide +kernel)) rfl
theorem wd_646 : Cond.code y_O_space b_O_space 1 (some .int) ∈ cA := cA_tbl (List.mem_of_getElem? (i := 646) (by decide +kernel)) rfl
theorem wd_647 : Cond.constantLong R_W 32 (4294967295 : Int64) ∈ cA := cA_tbl (List.mem_of_getElem? (i := 647) (by decide +kernel)) rfl
end
end
section
section
def xN (U : State) : Prop := (va_Nw (Cond.methodLinkNest R_X 68 y_L_init R_X) U ∧ va_Nw (Cond.methodLinkNest R_C 37 y_X_isIn R_X) U ∧ va_Nw (Cond.methodLinkNest R_U 25 y_X_isIn R_X) U ∧ va_Nw (Cond.methodLinkNest R_D 15 y_X_isIn R_X) U ∧ va_Nw (Cond.methodLinkNest R_X 81 y_R_init R_X) U ∧ va_Nw (Cond.methodLinkNest R_X 89 y_M_init R_X) U ∧ va_Nw (Cond.methodLinkNest R_X 92 y_E_init R_X) U ∧ va_Nw (Cond.methodLinkNest R_X 100 y_D_init R_X) U ∧ va_Nw (Cond.methodLinkNest R_X 104 y_U_init R_X) U ∧ va_Nw (Cond.methodLinkNest R_X 109 y_C_init R_X) U) ∧ (va_Fw R_L y_K_holdsAt y_L_holdsAt U ∧ va_Fw R_R y_K_holdsAt y_R_holdsAt U ∧ va_Fw R_M y_K_holdsAt y_M_holdsAt U ∧ va_Fw R_E y_K_holdsAt y_E_holdsAt U ∧ va_Fw R_D y_K_holdsAt y_D_holdsAt U ∧ va_Fw R_U y_K_holdsAt y_U_holdsAt U ∧ va_Fw R_C y_K_holdsAt y_C_holdsAt U)
theorem xN_same {u U : State} (h : u.vm = U.vm) (hN : xN u) : xN U := by
  have ha : u.vm.Alike U.vm := by rw [h]; exact Vm.Alike.refl U.vm
  exact ⟨⟨va_Nw.same rfl h hN.1.1, va_Nw.same rfl h hN.1.2.1, va_Nw.same rfl h hN.1.2.2.1, va_Nw.same rfl h hN.1.2.2.2.1, va_Nw.same rfl h hN.1.2.2.2.2.1, va_Nw.same rfl h hN.1.2.2.2.2.2.1, va_Nw.same rfl h hN.1.2.2.2.2.2.2.1, va_Nw.same rfl h hN.1.2.2.2.2.2.2.2.1, va_Nw.same rfl h hN.1.2.2.2.2.2.2.2.2.1, va_Nw.same rfl h hN.1.2.2.2.2.2.2.2.2.2⟩, ⟨va_Fw.moved ⟨by decide, by decide⟩ ha hN.2.1, va_Fw.moved ⟨by decide, by decide⟩ ha hN.2.2.1, va_Fw.moved ⟨by decide, by decide⟩ ha hN.2.2.2.1, va_Fw.moved ⟨by decide, by decide⟩ ha hN.2.2.2.2.1, va_Fw.moved ⟨by decide, by decide⟩ ha hN.2.2.2.2.2.1, va_Fw.moved ⟨by decide, by decide⟩ ha hN.2.2.2.2.2.2.1, va_Fw.moved ⟨by decide, by decide⟩ ha hN.2.2.2.2.2.2.2⟩⟩
theorem xN_warm {s U : State} (hW : s.WarmedH U.vm) (hN : xN s) : xN U :=
  ⟨⟨va_Nw.warmM hW hN.1.1, va_Nw.warmM hW hN.1.2.1, va_Nw.warmM hW hN.1.2.2.1, va_Nw.warmM hW hN.1.2.2.2.1, va_Nw.warmM hW hN.1.2.2.2.2.1, va_Nw.warmM hW hN.1.2.2.2.2.2.1, va_Nw.warmM hW hN.1.2.2.2.2.2.2.1, va_Nw.warmM hW hN.1.2.2.2.2.2.2.2.1, va_Nw.warmM hW hN.1.2.2.2.2.2.2.2.2.1, va_Nw.warmM hW hN.1.2.2.2.2.2.2.2.2.2⟩, ⟨va_Fw.moved ⟨by decide, by decide⟩ hW.alike hN.2.1, va_Fw.moved ⟨by decide, by decide⟩ hW.alike hN.2.2.1, va_Fw.moved ⟨by decide, by decide⟩ hW.alike hN.2.2.2.1, va_Fw.moved ⟨by decide, by decide⟩ hW.alike hN.2.2.2.2.1, va_Fw.moved ⟨by decide, by decide⟩ hW.alike hN.2.2.2.2.2.1, va_Fw.moved ⟨by decide, by decide⟩ hW.alike hN.2.2.2.2.2.2.1, va_Fw.moved ⟨by decide, by decide⟩ hW.alike hN.2.2.2.2.2.2.2⟩⟩
theorem xN_of {args : Array Value} {s : State} (hts : ∀ w ∈ lw_tbl, w.before args s = true) : xN s :=
  ⟨⟨va_Nw.of rfl (hts _ wd_98), va_Nw.of rfl (hts _ wd_153), va_Nw.of rfl (hts _ wd_162), va_Nw.of rfl (hts _ wd_177), va_Nw.of rfl (hts _ wd_218), va_Nw.of rfl (hts _ wd_241), va_Nw.of rfl (hts _ wd_264), va_Nw.of rfl (hts _ wd_288), va_Nw.of rfl (hts _ wd_301), va_Nw.of rfl (hts _ wd_323)⟩, ⟨va_Fw.of (hts _ wd_141) (hts _ wd_140) (hts _ wd_188) (hts _ wd_186) (hts _ wd_184), va_Fw.of (hts _ wd_141) (hts _ wd_140) (hts _ wd_206) (hts _ wd_204) (hts _ wd_202), va_Fw.of (hts _ wd_141) (hts _ wd_140) (hts _ wd_197) (hts _ wd_195) (hts _ wd_193), va_Fw.of (hts _ wd_141) (hts _ wd_140) (hts _ wd_182) (hts _ wd_180) (hts _ wd_178), va_Fw.of (hts _ wd_141) (hts _ wd_140) (hts _ wd_175) (hts _ wd_173) (hts _ wd_171), va_Fw.of (hts _ wd_141) (hts _ wd_140) (hts _ wd_160) (hts _ wd_158) (hts _ wd_156), va_Fw.of (hts _ wd_141) (hts _ wd_140) (hts _ wd_146) (hts _ wd_144) (hts _ wd_142)⟩⟩
end
section
theorem inA_X : ∀ w ∈ u_ws R_X T_X 14, w ∈ cA := by decide +kernel
theorem inA_O : ∀ w ∈ u_ws R_O T_O 17, w ∈ cA := by decide +kernel
theorem inA_L : ∀ w ∈ u_ws R_L T_L 7, w ∈ cA := by decide +kernel
theorem inA_R : ∀ w ∈ u_ws R_R T_R 4, w ∈ cA := by decide +kernel
theorem inA_M : ∀ w ∈ u_ws R_M T_M 4, w ∈ cA := by decide +kernel
theorem inA_E : ∀ w ∈ u_ws R_E T_E 3, w ∈ cA := by decide +kernel
theorem inA_D : ∀ w ∈ u_ws R_D T_D 1, w ∈ cA := by decide +kernel
theorem inA_U : ∀ w ∈ u_ws R_U T_U 4, w ∈ cA := by decide +kernel
theorem inA_C : ∀ w ∈ u_ws R_C T_C 7, w ∈ cA := by decide +kernel
end
end
section
section
theorem xN.same {u U : State} (h : u.vm = U.vm) (hN : xN u) : xN U := xN_same h hN
/-- what a method takes for granted of its cells -/
def cPre (D : va_G) (Wd : va_W) (U : State) : Prop := va_P D vwCl Wd U.heap ∧ va_K D vwCl (vT D) U ∧ va_D (fun _ => True) Wd ∧ xN U
/-- what it leaves -/
def xB (D : va_G) (Wd : va_W) (A : Nat → Prop) (t : State) : Prop := va_P D vwCl Wd t.heap ∧ va_K D vwCl (vT D) t ∧ va_D A Wd
theorem va_P.sub1 {D : va_G} {ws wc : va_W} {H : Heap} (hP : va_P D vwCl ws H) (is : List Nat) (hs : is.map (fun i => ws[i]?) = wc.map some) : va_P D vwCl wc H := by
  intro k q hk
  have h1 : (wc.map some)[k]? = some (some q) := by rw [List.getElem?_map, hk]; rfl
  rw [← hs, List.getElem?_map] at h1
  cases hi : is[k]? with
  | none => rw [hi] at h1; cases h1
  | some i =>
    rw [hi] at h1
    exact hP i q (Option.some.inj h1)
theorem met_R {l : Launch} {y : MethodName} {b : ByteArray} {n : Nat} {r : Option FieldType} {rm : Room} {av : List Value} {D : va_G} {Wd : va_W} {Qc : Array Value → State → Outcome → State → Prop} {mc ms : Nat} {free : Nat → Prop}
    (hy : plainName y.cls = true) (hn : (lg_sl av).length ≤ n)
    (body : ∀ (p : Program) (e : Env) (s : State) (m : MethodId) (below : List Frame) (meth : Method) (c : Code) (ls : Array Slot), p.tables.exec = Jvm.exec → c.code = b → meth.sig.returnType = r → meth.locks = false → c.maxLocals = n → s.vm.findClass y.cls = some m.cls → meth.name = y.name → (∀ w ∈ cA, w.before av.toArray s = true) → va_P D vwCl Wd s.heap → va_K D vwCl (vT D) s → va_D (fun _ => True) Wd → xN s → lv_has ls n (lv_args 0 av) →
      W p l e rm s m av.toArray below meth c s.heap [] 0 0 (MQ below Qc av.toArray s mc ms free) (F0 m 0 ls [])) :
    Met l y (wsm y b n r) rm (va_Pc av (cPre D Wd)) Qc mc ms free := by
  refine Met.ofW (cc := b) (maxL := n) (ret := r) hy rfl ?_
  intro p e s m args below meth c s₁ B hml hv
  obtain ⟨rfl, hP, hK, hD, hN⟩ := hv
  have hts := atoms_spec (ws := wsm y b n r) B.pre
  have hl := lv_entry av (n := n) hn
  rw [lg_entry_eq]
  generalize (lg_sl av ++ List.replicate (n - (lg_sl av).length) Slot.unset).toArray = ls at hl ⊢
  exact body p e s m below meth c ls B.exec B.bytes B.returns B.notSynchronized hml (findClass_of_methodNamed B.named) (name_of_methodNamed B.named B.method).1 (fun w h => hts w (List.mem_cons_of_mem _ h)) hP hK hD hN hl
theorem met_W {l : Launch} {y : MethodName} {b : ByteArray} {n : Nat} {r : Option FieldType} {rm : Room} {av : List Value} {D : va_G} {Wd : va_W} {Qf : (Nat → Prop) → Array Value → State → Outcome → State → Prop} {mc ms sz : Nat}
    (hy : plainName y.cls = true) (hn : (lg_sl av).length ≤ n)
    (body : ∀ (p : Program) (e : Env) (s : State) (m : MethodId) (below : List Frame) (meth : Method) (c : Code) (ls : Array Slot) (A : Nat → Prop), p.tables.exec = Jvm.exec → c.code = b → meth.sig.returnType = r → meth.locks = false → c.maxLocals = n → s.vm.findClass y.cls = some m.cls → meth.name = y.name → (∀ w ∈ cA, w.before av.toArray s = true) → va_P D vwCl Wd s.heap → va_K D vwCl (vT D) s → va_D A Wd → xN s → lv_has ls n (lv_args 0 av) → va_S A s.heap s.heap [] → (∀ q, s.heap.size ≤ q → A q) →
      W p l e rm s m av.toArray below meth c s.heap [] 0 0 (MQ below (Qf A) av.toArray s mc ms A) (F0 m 0 ls [])) :
    Met l y (wsm y b n r) rm (va_Pc av (fun U => U.heap.size = sz ∧ cPre D Wd U)) (Qf (va_A Wd sz)) mc ms (va_A Wd sz) := by
  refine Met.ofW (cc := b) (maxL := n) (ret := r) hy rfl ?_
  intro p e s m args below meth c s₁ B hml hv
  obtain ⟨rfl, hsz, hP, hK, hD, hN⟩ := hv
  subst hsz
  have hts := atoms_spec (ws := wsm y b n r) B.pre
  have hl := lv_entry av (n := n) hn
  rw [lg_entry_eq]
  generalize (lg_sl av ++ List.replicate (n - (lg_sl av).length) Slot.unset).toArray = ls at hl ⊢
  exact body p e s m below meth c ls (va_A Wd s.heap.size) B.exec B.bytes B.returns B.notSynchronized hml (findClass_of_methodNamed B.named) (name_of_methodNamed B.named B.method).1 (fun w h => hts w (List.mem_cons_of_mem _ h)) hP hK hD.self hN hl va_S.rf (fun q h => Or.inr h)
end
section
variable {p : Program} {l : Launch} {e : Env} {R : Room} {s : State} {m : MethodId} {args : Array Value} {below : List Frame} {meth : Method} {c : Code} {H : Heap} {locs : List Loc} {cells slots : Nat} {Q : State → Prop}
variable {pc : Nat} {ls : Array Slot} {rest st0 : List Value} {D : va_G} {ws wc wr : va_W} {cc : ByteArray} {own : String} {nL : Nat} {A : Nat → Prop} {H0 : Heap}
variable {y : MethodName} {bytes : ByteArray} {maxL n index mc ms : Nat} {ret : Option FieldType} {rm : Room} {o : Nat} {As : List Value}
theorem topi_to {x v : Int32} (h : x = v) (k : W p l e R s m args below meth c H locs cells slots Q (F0 m pc ls (.int v :: rest))) : W p l e R s m args below meth c H locs cells slots Q (F0 m pc ls (.int x :: rest)) := h ▸ k
theorem topl_to {x v : Int64} (h : x = v) (k : W p l e R s m args below meth c H locs cells slots Q (F0 m pc ls (.long v :: rest))) : W p l e R s m args below meth c H locs cells slots Q (F0 m pc ls (.long x :: rest)) := h ▸ k
theorem xi_ald (hx : p.tables.exec = Jvm.exec) (hb : c.code = cc) (hK : va_K D vwCl (vT D) s) (hP : va_P D vwCl ws H) (q0 : Nat) {a N : Nat} {f : Nat → Int32} (ha : ws[q0]? = some (a, .inl (D.1 100, N, .inl f))) {k : Nat} (hk : k < N) (hN : N < 2 ^ 31) (hdg : decode cc pc = .ok (.iaload, 1))
    (kk : W p l e R s m args below meth c H locs cells slots Q (F0 m (pc + 1) ls (.int (f k) :: rest))) : W p l e R s m args below meth c H locs cells slots Q (F0 m pc ls (.int (nI k) :: .ref a :: rest)) :=
  va_iald hx hb hK hP q0 0 ha rfl (vp_in_nI hk hN) hdg (by rw [nI_clamp (Nat.lt_trans hk hN)]; exact kk)
theorem xi_ast (hx : p.tables.exec = Jvm.exec) (hb : c.code = cc) (hK : va_K D vwCl (vT D) s) (hP : va_P D vwCl ws H) (hD : va_D A ws) (hS : va_S A H0 H locs) (q0 : Nat) {a N : Nat} {f : Nat → Int32} (ha : ws[q0]? = some (a, .inl (D.1 100, N, .inl f))) {k : Nat} {x : Int32} (hk : k < N) (hN : N < 2 ^ 31) (hdg : decode cc pc = .ok (.iastore, 1))
    (kk : ∀ (H1 : Heap) (locs1 : List Loc), va_P D vwCl (ws.set q0 (a, .inl (D.1 100, N, .inl (upd f k x)))) H1 → va_D A (ws.set q0 (a, .inl (D.1 100, N, .inl (upd f k x)))) → va_S A H0 H1 locs1 → W p l e R s m args below meth c H1 locs1 cells slots Q (F0 m (pc + 1) ls rest)) : W p l e R s m args below meth c H locs cells slots Q (F0 m pc ls (.int x :: .int (nI k) :: .ref a :: rest)) :=
  va_iast hx hb hK hP hD hS q0 0 ha rfl (vp_in_nI hk hN) hdg (by rw [nI_clamp (Nat.lt_trans hk hN)]; exact kk)
theorem pre_blind {av : List Value} : FrameBlind (va_Pc av (cPre D wc)) := fun a U g mk q => by
  obtain ⟨q0, qP, qK, qD, qN⟩ := q
  exact ⟨q0, qP, va_K.moved (u := U) (U := U.calling g mk a) (Vm.Alike.refl U.vm) qK, qD, xN.same rfl qN⟩
theorem pre_blindW {av : List Value} {sz : Nat} : FrameBlind (va_Pc av (fun U => U.heap.size = sz ∧ cPre D wc U)) := fun a U g mk q => by
  obtain ⟨q0, q1, qP, qK, qD, qN⟩ := q
  exact ⟨q0, q1, qP, va_K.moved (u := U) (U := U.calling g mk a) (Vm.Alike.refl U.vm) qK, qD, xN.same rfl qN⟩
theorem pre_at (av : List Value) (hP : va_P D vwCl wc H) (hK : va_K D vwCl (vT D) s) (hD : va_D A wc) (hN : xN s) : ∀ U : State, U.heap = H → s.WarmedH U.vm → va_Pc av (cPre D wc) av.toArray U :=
  fun U hU hW => ⟨rfl, by rw [hU]; exact hP, va_K.moved hW.alike hK, hD.weaken (fun _ _ _ _ => trivial), xN_warm hW hN⟩
theorem pre_atW (av : List Value) (hP : va_P D vwCl wc H) (hK : va_K D vwCl (vT D) s) (hD : va_D A wc) (hN : xN s) : ∀ U : State, U.heap = H → s.WarmedH U.vm → va_Pc av (fun U => U.heap.size = H.size ∧ cPre D wc U) av.toArray U :=
  fun U hU hW => ⟨rfl, by rw [hU], by rw [hU]; exact hP, va_K.moved hW.alike hK, hD.weaken (fun _ _ _ _ => trivial), xN_warm hW hN⟩
/-- a method that reads, on an object: virtual or private -/
theorem rV {post : Int32 → Prop} (hx : p.tables.exec = Jvm.exec) (hb : c.code = cc) (hml : c.maxLocals = nL) (hown : s.vm.findClass own = some m.cls) (hA : ∀ w ∈ cA, w.before args s = true)
    (hM : Met l y (wsm y bytes maxL ret) rm (va_Pc (.ref o :: As) (cPre D wc)) (vp_Si post) 0 0 (fun _ => False))
    (wds : Cond.code y bytes maxL ret ∈ cA ∧ Cond.initialized y.cls ∈ cA ∧ Cond.methodLink own index y ∈ cA ∧ Cond.instanceMethod y ∈ cA ∧ Cond.selects y.cls y y ∈ cA)
    (hd : y.cls ≠ "java/lang/invoke/MethodHandle" ∧ y.cls ≠ "java/lang/invoke/VarHandle" ∧ (parseMethodDescriptor y.desc).map (fun d => d.parameters.length) = some n)
    (hrm : rm.cells = 0 ∧ rm.slots = 0 ∧ rm.frames + 1 ≤ R.frames ∧ 8 + (maxL + 11) + rm.locals ≤ R.locals) (hn : As.length = n) (hsz : ls.size = nL) (hcs : cells ≤ R.cells ∧ slots ≤ R.slots)
    (hP : va_P D vwCl wc H) (hK : va_K D vwCl (vT D) s) (hD : va_D A wc) (hN : xN s)
    (q0 ci : Nat) {fs : List Value} {T : u_T} {N : Nat} (he : wc[q0]? = some (o, .inr (ci, fs))) (hc : vwCl[ci]? = some (y.cls, T, N))
    (hst : st0 = As.reverse ++ .ref o :: rest) (hroom : (rest.map fun v => v.category).sum ≤ 8) (hdg : decode cc pc = .ok (.invokevirtual index, 3))
    (kk : ∀ r : Int32, post r → W p l e R s m args below meth c H locs cells slots Q (F0 m (pc + 3) ls (.int r :: rest))) : W p l e R s m args below meth c H locs cells slots Q (F0 m pc ls st0) := by
  obtain ⟨w1, w2, w3, w4, w5⟩ := wds
  obtain ⟨r1, r2, r3, r4⟩ := hrm
  exact vp_callSi (W.runV (Ts := cA) (C := y.cls) ⟨hx, hb, hml, hown, hA⟩ hM ⟨callB_of n hA (gdA w1) rfl r1 r2 (hA _ w2) (hA _ w3) hd ⟨r3, r4⟩, hA _ w4, hA _ w5⟩ ⟨pre_blind, va_recv hK hP hc he, pre_at _ hP hK hD hN⟩ rfl hn hsz hst (lv_room hroom) hdg ⟨hcs.1, hcs.2⟩) kk
/-- a static method of the own class that reads -/
theorem rS {post : Int32 → Prop} (hx : p.tables.exec = Jvm.exec) (hb : c.code = cc) (hml : c.maxLocals = nL) (hown : s.vm.findClass own = some m.cls) (hA : ∀ w ∈ cA, w.before args s = true)
    (hM : Met l y (wsm y bytes maxL ret) rm (va_Pc As (cPre D wc)) (vp_Si post) 0 0 (fun _ => False))
    (wds : Cond.code y bytes maxL ret ∈ cA ∧ Cond.initialized y.cls ∈ cA ∧ Cond.methodLink own index y ∈ cA ∧ Cond.static y ∈ cA)
    (hd : y.cls ≠ "java/lang/invoke/MethodHandle" ∧ y.cls ≠ "java/lang/invoke/VarHandle" ∧ (parseMethodDescriptor y.desc).map (fun d => d.parameters.length) = some n)
    (hrm : rm.cells = 0 ∧ rm.slots = 0 ∧ rm.frames + 1 ≤ R.frames ∧ 8 + (maxL + 11) + rm.locals ≤ R.locals) (hn : As.length = n) (hsz : ls.size = nL) (hcs : cells ≤ R.cells ∧ slots ≤ R.slots)
    (hP : va_P D vwCl wc H) (hK : va_K D vwCl (vT D) s) (hD : va_D A wc) (hN : xN s)
    (hst : st0 = As.reverse ++ rest) (hroom : (rest.map fun v => v.category).sum ≤ 8) (hdg : decode cc pc = .ok (.invokestatic index, 3))
    (kk : ∀ r : Int32, post r → W p l e R s m args below meth c H locs cells slots Q (F0 m (pc + 3) ls (.int r :: rest))) : W p l e R s m args below meth c H locs cells slots Q (F0 m pc ls st0) := by
  obtain ⟨w1, w2, w3, w4⟩ := wds
  obtain ⟨r1, r2, r3, r4⟩ := hrm
  exact vp_callSi (W.runS (Ts := cA) ⟨hx, hb, hml, hown, hA⟩ hM ⟨callB_of n hA (gdA w1) rfl r1 r2 (hA _ w2) (hA _ w3) hd ⟨r3, r4⟩, hA _ w4⟩ ⟨pre_blind, pre_at _ hP hK hD hN⟩ rfl hn hsz hst (lv_room hroom) hdg ⟨hcs.1, hcs.2⟩) kk
/-- a private static method of a nest mate that reads -/
theorem rSN {host : String} {post : Int32 → Prop} (hx : p.tables.exec = Jvm.exec) (hb : c.code = cc) (hml : c.maxLocals = nL) (hown : s.vm.findClass own = some m.cls) (hA : ∀ w ∈ cA, w.before args s = true)
    (hM : Met l y (wsm y bytes maxL ret) rm (va_Pc As (cPre D wc)) (vp_Si post) 0 0 (fun _ => False))
    (hlk : va_Nw (.methodLinkNest own index y host) s) (wds : Cond.code y bytes maxL ret ∈ cA ∧ Cond.initialized y.cls ∈ cA ∧ Cond.static y ∈ cA)
    (hd : y.cls ≠ "java/lang/invoke/MethodHandle" ∧ y.cls ≠ "java/lang/invoke/VarHandle" ∧ (parseMethodDescriptor y.desc).map (fun d => d.parameters.length) = some n)
    (hrm : rm.cells = 0 ∧ rm.slots = 0 ∧ rm.frames + 1 ≤ R.frames ∧ 8 + (maxL + 11) + rm.locals ≤ R.locals) (hn : As.length = n) (hsz : ls.size = nL) (hcs : cells ≤ R.cells ∧ slots ≤ R.slots)
    (hP : va_P D vwCl wc H) (hK : va_K D vwCl (vT D) s) (hD : va_D A wc) (hN : xN s)
    (hst : st0 = As.reverse ++ rest) (hroom : (rest.map fun v => v.category).sum ≤ 8) (hdg : decode cc pc = .ok (.invokestatic index, 3))
    (kk : ∀ r : Int32, post r → W p l e R s m args below meth c H locs cells slots Q (F0 m (pc + 3) ls (.int r :: rest))) : W p l e R s m args below meth c H locs cells slots Q (F0 m pc ls st0) := by
  obtain ⟨w1, w2, w4⟩ := wds
  obtain ⟨r1, r2, r3, r4⟩ := hrm
  exact vp_callSi (va_runSN (Ts := cA) (host := host) ⟨hx, hb, hml, hown, hA⟩ hM ⟨va_cnB n hA (gdA w1) rfl r1 r2 hlk (hA _ w2) hd ⟨r3, r4⟩, hA _ w4, trivial⟩ ⟨pre_blind, pre_at _ hP hK hD hN⟩ rfl hn hsz hst (lv_room hroom) hdg ⟨hcs.1, hcs.2⟩).run kk
/-- a reader through an interface -/
theorem rF {C : String} {x : MethodName} {count : Nat} {cC : ClassId} {post : Int32 → Prop} (hx : p.tables.exec = Jvm.exec) (hb : c.code = cc) (hml : c.maxLocals = nL) (hown : s.vm.findClass own = some m.cls) (hA : ∀ w ∈ cA, w.before args s = true)
    (hM : Met l y (wsm y bytes maxL ret) rm (va_Pc (.ref o :: As) (cPre D wc)) (vp_Si post) 0 0 (fun _ => False))
    (hF : va_Fw C x y s) (wds : Cond.code y bytes maxL ret ∈ cA ∧ Cond.initialized y.cls ∈ cA ∧ Cond.methodLink own index x ∈ cA ∧ Cond.instanceMethod y ∈ cA ∧ Cond.selects C x y ∈ cA)
    (hd : x.cls ≠ "java/lang/invoke/MethodHandle" ∧ x.cls ≠ "java/lang/invoke/VarHandle" ∧ (parseMethodDescriptor x.desc).map (fun d => d.parameters.length) = some n)
    (hrm : rm.cells = 0 ∧ rm.slots = 0 ∧ rm.frames + 1 ≤ R.frames ∧ 8 + (maxL + 11) + rm.locals ≤ R.locals) (hn : As.length = n) (hsz : ls.size = nL) (hcs : cells ≤ R.cells ∧ slots ≤ R.slots)
    (hP : va_P D vwCl wc H) (hK : va_K D vwCl (vT D) s) (hD : va_D A wc) (hN : xN s)
    (q0 ci : Nat) {fs : List Value} {T : u_T} {N : Nat} (he : wc[q0]? = some (o, .inr (ci, fs))) (hc : vwCl[ci]? = some (C, T, N)) (hat : ClassAt s C cC)
    (hst : st0 = As.reverse ++ .ref o :: rest) (hroom : (rest.map fun v => v.category).sum ≤ 8) (hdg : decode cc pc = .ok (.invokeinterface index count, 5))
    (kk : ∀ r : Int32, post r → W p l e R s m args below meth c H locs cells slots Q (F0 m (pc + 5) ls (.int r :: rest))) : W p l e R s m args below meth c H locs cells slots Q (F0 m pc ls st0) := by
  obtain ⟨w1, w2, w3, w4, w5⟩ := wds
  obtain ⟨r1, r2, r3, r4⟩ := hrm
  have hG : GoodIn cA (va_wsF own index C x y (wsm y bytes maxL ret)) := by
    intro w hw
    have h1 : w ∈ cA := by
      rcases List.mem_append.mp hw with h2 | h2
      · simp only [List.mem_cons, List.not_mem_nil, or_false] at h2
        rcases h2 with h2 | h2 | h2 | h2 <;> rw [h2] <;> assumption
      · exact (gdA w1 w h2).1
    exact ⟨h1, good_of_word (List.mem_filter.mp h1).2⟩
  exact va_csFi (va_runF (Ts := cA) hat ⟨hx, hb, hml, hown, hA⟩ hM (va_cwF n hA hG rfl r1 r2 hF hd ⟨r3, r4⟩) ⟨pre_blind, va_recv hK hP hc he, pre_at _ hP hK hD hN⟩ rfl hn hsz hst (lv_room hroom) hdg ⟨hcs.1, hcs.2⟩) kk
/-- behind a call that writes: the rest and what came back -/
theorem jn {Wf : va_W} {H1 : Heap} {t : State} (hP : va_P D vwCl ws H) (hD : va_D A ws) (isC isR : List Nat) (hC : isC.map (fun i => ws[i]?) = wc.map some) (hR : isR.map (fun i => ws[i]?) = wr.map some) (hn : va_nd isR = true) (hdis : ∀ i ∈ isR, i ∉ isC)
    (hk : ∀ q : Nat, q < H.size → ¬ va_A wc H.size q → H1[q]? = H[q]?) (hF : ∀ q, va_A wc H.size q → A q) (ht : t.heap = H1) (hB : xB D Wf (va_A wc H.size) t) : va_P D vwCl (wr ++ Wf) H1 ∧ va_D A (wr ++ Wf) := by
  obtain ⟨b1, b2, b3⟩ := hB
  rw [ht] at b1
  exact va_join hP hD isC isR hC hR hn hdis hk hF b1 b3
/-- a void method that writes, on an object -/
theorem wVv {S : Type} {post : S → Prop} {Wf : S → va_W} (hx : p.tables.exec = Jvm.exec) (hb : c.code = cc) (hml : c.maxLocals = nL) (hown : s.vm.findClass own = some m.cls) (hA : ∀ w ∈ cA, w.before args s = true)
    (hM : Met l y (wsm y bytes maxL ret) rm (va_Pc (.ref o :: As) (fun U => U.heap.size = H.size ∧ cPre D wc U)) (va_Qv post (fun u t => xB D (Wf u) (va_A wc H.size) t) (va_A wc H.size)) mc ms (va_A wc H.size))
    (wds : Cond.code y bytes maxL ret ∈ cA ∧ Cond.initialized y.cls ∈ cA ∧ Cond.methodLink own index y ∈ cA ∧ Cond.instanceMethod y ∈ cA ∧ Cond.selects y.cls y y ∈ cA)
    (hd : y.cls ≠ "java/lang/invoke/MethodHandle" ∧ y.cls ≠ "java/lang/invoke/VarHandle" ∧ (parseMethodDescriptor y.desc).map (fun d => d.parameters.length) = some n)
    (hrm : rm.cells = mc ∧ rm.slots = ms ∧ rm.frames + 1 ≤ R.frames ∧ 8 + (maxL + 11) + rm.locals ≤ R.locals) (hn : As.length = n) (hsz : ls.size = nL) (hcs : cells + mc ≤ R.cells ∧ slots + ms ≤ R.slots)
    (hP : va_P D vwCl ws H) (hK : va_K D vwCl (vT D) s) (hD : va_D A ws) (hS : va_S A H0 H locs) (hAA : ∀ q, H0.size ≤ q → A q) (hN : xN s) (isC isR : List Nat) (hC : isC.map (fun i => ws[i]?) = wc.map some) (hR : isR.map (fun i => ws[i]?) = wr.map some) (hnC : va_nd isC = true) (hnR : va_nd isR = true) (hdis : ∀ i ∈ isR, i ∉ isC)
    (q0 ci : Nat) {fs : List Value} {T : u_T} {N : Nat} (he : wc[q0]? = some (o, .inr (ci, fs))) (hc : vwCl[ci]? = some (y.cls, T, N))
    (hst : st0 = As.reverse ++ .ref o :: rest) (hroom : (rest.map fun v => v.category).sum ≤ 8) (hdg : decode cc pc = .ok (.invokevirtual index, 3))
    (kk : ∀ (u : S) (H1 : Heap) (locs1 : List Loc), post u → va_P D vwCl (wr ++ Wf u) H1 → va_D A (wr ++ Wf u) → va_S A H0 H1 locs1 → W p l e R s m args below meth c H1 locs1 (cells + mc) (slots + ms) Q (F0 m (pc + 3) ls rest)) : W p l e R s m args below meth c H locs cells slots Q (F0 m pc ls st0) := by
  obtain ⟨w1, w2, w3, w4, w5⟩ := wds
  obtain ⟨r1, r2, r3, r4⟩ := hrm
  have hPc := hP.sub1 isC hC
  have hDc := hD.sub isC hnC hC
  have hFc := va_free (wc := wc) hD hS hAA isC hC
  exact va_callv (va_runV (Ts := cA) (C := y.cls) ⟨hx, hb, hml, hown, hA⟩ hM ⟨callB_of n hA (gdA w1) rfl r1 r2 (hA _ w2) (hA _ w3) hd ⟨r3, r4⟩, hA _ w4, hA _ w5⟩ ⟨pre_blindW, va_recv hK hPc hc he, pre_atW _ hPc hK hDc hN⟩ rfl hn hsz hst (lv_room hroom) hdg hcs) hS (fun q _ h => hFc q h) hFc
    (fun u t H1 locs1 ht hvm hp hB hz hk hS1 => by
      obtain ⟨j1, j2⟩ := jn hP hD isC isR hC hR hnR hdis hk hFc ht hB
      exact kk u H1 locs1 hp j1 j2 hS1)
/-- an int method that writes, on an object -/
theorem wVi {S : Type} {post : Int32 → S → Prop} {Wf : S → va_W} (hx : p.tables.exec = Jvm.exec) (hb : c.code = cc) (hml : c.maxLocals = nL) (hown : s.vm.findClass own = some m.cls) (hA : ∀ w ∈ cA, w.before args s = true)
    (hM : Met l y (wsm y bytes maxL ret) rm (va_Pc (.ref o :: As) (fun U => U.heap.size = H.size ∧ cPre D wc U)) (va_Qi post (fun u t => xB D (Wf u) (va_A wc H.size) t) (va_A wc H.size)) mc ms (va_A wc H.size))
    (wds : Cond.code y bytes maxL ret ∈ cA ∧ Cond.initialized y.cls ∈ cA ∧ Cond.methodLink own index y ∈ cA ∧ Cond.instanceMethod y ∈ cA ∧ Cond.selects y.cls y y ∈ cA)
    (hd : y.cls ≠ "java/lang/invoke/MethodHandle" ∧ y.cls ≠ "java/lang/invoke/VarHandle" ∧ (parseMethodDescriptor y.desc).map (fun d => d.parameters.length) = some n)
    (hrm : rm.cells = mc ∧ rm.slots = ms ∧ rm.frames + 1 ≤ R.frames ∧ 8 + (maxL + 11) + rm.locals ≤ R.locals) (hn : As.length = n) (hsz : ls.size = nL) (hcs : cells + mc ≤ R.cells ∧ slots + ms ≤ R.slots)
    (hP : va_P D vwCl ws H) (hK : va_K D vwCl (vT D) s) (hD : va_D A ws) (hS : va_S A H0 H locs) (hAA : ∀ q, H0.size ≤ q → A q) (hN : xN s) (isC isR : List Nat) (hC : isC.map (fun i => ws[i]?) = wc.map some) (hR : isR.map (fun i => ws[i]?) = wr.map some) (hnC : va_nd isC = true) (hnR : va_nd isR = true) (hdis : ∀ i ∈ isR, i ∉ isC)
    (q0 ci : Nat) {fs : List Value} {T : u_T} {N : Nat} (he : wc[q0]? = some (o, .inr (ci, fs))) (hc : vwCl[ci]? = some (y.cls, T, N))
    (hst : st0 = As.reverse ++ .ref o :: rest) (hroom : (rest.map fun v => v.category).sum ≤ 8) (hdg : decode cc pc = .ok (.invokevirtual index, 3))
    (kk : ∀ (r : Int32) (u : S) (H1 : Heap) (locs1 : List Loc), post r u → va_P D vwCl (wr ++ Wf u) H1 → va_D A (wr ++ Wf u) → va_S A H0 H1 locs1 → W p l e R s m args below meth c H1 locs1 (cells + mc) (slots + ms) Q (F0 m (pc + 3) ls (.int r :: rest))) : W p l e R s m args below meth c H locs cells slots Q (F0 m pc ls st0) := by
  obtain ⟨w1, w2, w3, w4, w5⟩ := wds
  obtain ⟨r1, r2, r3, r4⟩ := hrm
  have hPc := hP.sub1 isC hC
  have hDc := hD.sub isC hnC hC
  have hFc := va_free (wc := wc) hD hS hAA isC hC
  exact va_calli (va_runV (Ts := cA) (C := y.cls) ⟨hx, hb, hml, hown, hA⟩ hM ⟨callB_of n hA (gdA w1) rfl r1 r2 (hA _ w2) (hA _ w3) hd ⟨r3, r4⟩, hA _ w4, hA _ w5⟩ ⟨pre_blindW, va_recv hK hPc hc he, pre_atW _ hPc hK hDc hN⟩ rfl hn hsz hst (lv_room hroom) hdg hcs) hS (fun q _ h => hFc q h) hFc
    (fun r u t H1 locs1 ht hvm hp hB hz hk hS1 => by
      obtain ⟨j1, j2⟩ := jn hP hD isC isR hC hR hnR hdis hk hFc ht hB
      exact kk r u H1 locs1 hp j1 j2 hS1)
/-- a private constructor of a nest mate -/
theorem wIN {host : String} {S : Type} {post : S → Prop} {Wf : S → va_W} (hx : p.tables.exec = Jvm.exec) (hb : c.code = cc) (hml : c.maxLocals = nL) (hown : s.vm.findClass own = some m.cls) (hA : ∀ w ∈ cA, w.before args s = true)
    (hM : Met l y (wsm y bytes maxL none) rm (va_Pc (.ref o :: As) (fun U => U.heap.size = H.size ∧ cPre D wc U)) (va_Qv post (fun u t => xB D (Wf u) (va_A wc H.size) t) (va_A wc H.size)) mc ms (va_A wc H.size))
    (hlk : va_Nw (.methodLinkNest own index y host) s) (wds : Cond.code y bytes maxL none ∈ cA ∧ Cond.initialized y.cls ∈ cA ∧ Cond.instanceMethod y ∈ cA) (hy1 : y.name = "<init>")
    (hd : y.cls ≠ "java/lang/invoke/MethodHandle" ∧ y.cls ≠ "java/lang/invoke/VarHandle" ∧ (parseMethodDescriptor y.desc).map (fun d => d.parameters.length) = some n)
    (hrm : rm.cells = mc ∧ rm.slots = ms ∧ rm.frames + 1 ≤ R.frames ∧ 8 + (maxL + 11) + rm.locals ≤ R.locals) (hn : As.length = n) (hsz : ls.size = nL) (hcs : cells + mc ≤ R.cells ∧ slots + ms ≤ R.slots)
    (hP : va_P D vwCl ws H) (hK : va_K D vwCl (vT D) s) (hD : va_D A ws) (hS : va_S A H0 H locs) (hAA : ∀ q, H0.size ≤ q → A q) (hN : xN s) (isC isR : List Nat) (hC : isC.map (fun i => ws[i]?) = wc.map some) (hR : isR.map (fun i => ws[i]?) = wr.map some) (hnC : va_nd isC = true) (hnR : va_nd isR = true) (hdis : ∀ i ∈ isR, i ∉ isC)
    (hst : st0 = As.reverse ++ .ref o :: rest) (hroom : (rest.map fun v => v.category).sum ≤ 8) (hdg : decode cc pc = .ok (.invokespecial index, 3))
    (kk : ∀ (u : S) (H1 : Heap) (locs1 : List Loc), post u → va_P D vwCl (wr ++ Wf u) H1 → va_D A (wr ++ Wf u) → va_S A H0 H1 locs1 → W p l e R s m args below meth c H1 locs1 (cells + mc) (slots + ms) Q (F0 m (pc + 3) ls rest)) : W p l e R s m args below meth c H locs cells slots Q (F0 m pc ls st0) := by
  obtain ⟨w1, w2, w4⟩ := wds
  obtain ⟨r1, r2, r3, r4⟩ := hrm
  have hPc := hP.sub1 isC hC
  have hDc := hD.sub isC hnC hC
  have hFc := va_free (wc := wc) hD hS hAA isC hC
  exact va_callv (va_runIN (Ts := cA) (host := host) ⟨hx, hb, hml, hown, hA⟩ hM ⟨va_cnB n hA (gdA w1) rfl r1 r2 hlk (hA _ w2) hd ⟨r3, r4⟩, hy1, hA _ w4⟩ ⟨pre_blindW, pre_atW _ hPc hK hDc hN⟩ rfl hn hsz hst (lv_room hroom) hdg hcs) hS (fun q _ h => hFc q h) hFc
    (fun u t H1 locs1 ht hvm hp hB hz hk hS1 => by
      obtain ⟨j1, j2⟩ := jn hP hD isC isR hC hR hnR hdis hk hFc ht hB
      exact kk u H1 locs1 hp j1 j2 hS1)
/-- a constructor -/
theorem wI {S : Type} {post : S → Prop} {Wf : S → va_W} (hx : p.tables.exec = Jvm.exec) (hb : c.code = cc) (hml : c.maxLocals = nL) (hown : s.vm.findClass own = some m.cls) (hA : ∀ w ∈ cA, w.before args s = true)
    (hM : Met l y (wsm y bytes maxL none) rm (va_Pc (.ref o :: As) (fun U => U.heap.size = H.size ∧ cPre D wc U)) (va_Qv post (fun u t => xB D (Wf u) (va_A wc H.size) t) (va_A wc H.size)) mc ms (va_A wc H.size))
    (wds : Cond.code y bytes maxL none ∈ cA ∧ Cond.initialized y.cls ∈ cA ∧ Cond.methodLink own index y ∈ cA ∧ Cond.instanceMethod y ∈ cA) (hy1 : y.name = "<init>")
    (hd : y.cls ≠ "java/lang/invoke/MethodHandle" ∧ y.cls ≠ "java/lang/invoke/VarHandle" ∧ (parseMethodDescriptor y.desc).map (fun d => d.parameters.length) = some n)
    (hrm : rm.cells = mc ∧ rm.slots = ms ∧ rm.frames + 1 ≤ R.frames ∧ 8 + (maxL + 11) + rm.locals ≤ R.locals) (hn : As.length = n) (hsz : ls.size = nL) (hcs : cells + mc ≤ R.cells ∧ slots + ms ≤ R.slots)
    (hP : va_P D vwCl ws H) (hK : va_K D vwCl (vT D) s) (hD : va_D A ws) (hS : va_S A H0 H locs) (hAA : ∀ q, H0.size ≤ q → A q) (hN : xN s) (isC isR : List Nat) (hC : isC.map (fun i => ws[i]?) = wc.map some) (hR : isR.map (fun i => ws[i]?) = wr.map some) (hnC : va_nd isC = true) (hnR : va_nd isR = true) (hdis : ∀ i ∈ isR, i ∉ isC)
    (hst : st0 = As.reverse ++ .ref o :: rest) (hroom : (rest.map fun v => v.category).sum ≤ 8) (hdg : decode cc pc = .ok (.invokespecial index, 3))
    (kk : ∀ (u : S) (H1 : Heap) (locs1 : List Loc), post u → va_P D vwCl (wr ++ Wf u) H1 → va_D A (wr ++ Wf u) → va_S A H0 H1 locs1 → W p l e R s m args below meth c H1 locs1 (cells + mc) (slots + ms) Q (F0 m (pc + 3) ls rest)) : W p l e R s m args below meth c H locs cells slots Q (F0 m pc ls st0) := by
  obtain ⟨w1, w2, w3, w4⟩ := wds
  obtain ⟨r1, r2, r3, r4⟩ := hrm
  have hPc := hP.sub1 isC hC
  have hDc := hD.sub isC hnC hC
  have hFc := va_free (wc := wc) hD hS hAA isC hC
  exact va_callv (va_runI (Ts := cA) ⟨hx, hb, hml, hown, hA⟩ hM ⟨callB_of n hA (gdA w1) rfl r1 r2 (hA _ w2) (hA _ w3) hd ⟨r3, r4⟩, hy1, hA _ w4⟩ ⟨pre_blindW, pre_atW _ hPc hK hDc hN⟩ rfl hn hsz hst (lv_room hroom) hdg hcs) hS (fun q _ h => hFc q h) hFc
    (fun u t H1 locs1 ht hvm hp hB hz hk hS1 => by
      obtain ⟨j1, j2⟩ := jn hP hD isC isR hC hR hnR hdis hk hFc ht hB
      exact kk u H1 locs1 hp j1 j2 hS1)
/-- a superclass's constructor that touches nothing -/
theorem rI (hx : p.tables.exec = Jvm.exec) (hb : c.code = cc) (hml : c.maxLocals = nL) (hown : s.vm.findClass own = some m.cls) (hA : ∀ w ∈ cA, w.before args s = true)
    (hM : Met l y (wsm y bytes maxL none) rm (va_Pc (.ref o :: As) (cPre D wc)) (va_Sv (fun _ => True)) 0 0 (fun _ => False))
    (wds : Cond.code y bytes maxL none ∈ cA ∧ Cond.initialized y.cls ∈ cA ∧ Cond.methodLink own index y ∈ cA ∧ Cond.instanceMethod y ∈ cA) (hy1 : y.name = "<init>")
    (hd : y.cls ≠ "java/lang/invoke/MethodHandle" ∧ y.cls ≠ "java/lang/invoke/VarHandle" ∧ (parseMethodDescriptor y.desc).map (fun d => d.parameters.length) = some n)
    (hrm : rm.cells = 0 ∧ rm.slots = 0 ∧ rm.frames + 1 ≤ R.frames ∧ 8 + (maxL + 11) + rm.locals ≤ R.locals) (hn : As.length = n) (hsz : ls.size = nL) (hcs : cells ≤ R.cells ∧ slots ≤ R.slots)
    (hP : va_P D vwCl wc H) (hK : va_K D vwCl (vT D) s) (hD : va_D A wc) (hN : xN s)
    (hst : st0 = As.reverse ++ .ref o :: rest) (hroom : (rest.map fun v => v.category).sum ≤ 8) (hdg : decode cc pc = .ok (.invokespecial index, 3))
    (kk : W p l e R s m args below meth c H locs cells slots Q (F0 m (pc + 3) ls rest)) : W p l e R s m args below meth c H locs cells slots Q (F0 m pc ls st0) := by
  obtain ⟨w1, w2, w3, w4⟩ := wds
  obtain ⟨r1, r2, r3, r4⟩ := hrm
  exact va_csv (W.runI (Ts := cA) ⟨hx, hb, hml, hown, hA⟩ hM ⟨callB_of n hA (gdA w1) rfl r1 r2 (hA _ w2) (hA _ w3) hd ⟨r3, r4⟩, hy1, hA _ w4⟩ ⟨pre_blind, pre_at _ hP hK hD hN⟩ rfl hn hsz hst (lv_room hroom) hdg ⟨hcs.1, hcs.2⟩) (fun _ => kk)
-- ends
theorem eR {post : Int32 → Prop} {v : Int32} (hx : p.tables.exec = Jvm.exec) (hb : c.code = cc) (hr : meth.sig.returnType = some .int) (hlocks : meth.locks = false) (hpost : post v) (hdg : decode cc pc = .ok (.ireturn, 1)) :
    W p l e R s m args below meth c s.heap [] 0 0 (MQ below (vp_Si post) args s 0 0 (fun _ => False)) (F0 m pc ls [.int v]) :=
  W.iret hx hb hr (fun t ht _ => ⟨v, rfl, hpost, ht⟩) (fun _ h => absurd h List.not_mem_nil) hdg hlocks
theorem eRz {post : Int32 → Prop} {v : Int32} (hx : p.tables.exec = Jvm.exec) (hb : c.code = cc) (hr : meth.sig.returnType = some .boolean) (hlocks : meth.locks = false) (hv : narrow .boolean (.int v) = .int v) (hpost : post v) (hdg : decode cc pc = .ok (.ireturn, 1)) :
    W p l e R s m args below meth c s.heap [] 0 0 (MQ below (vp_Si post) args s 0 0 (fun _ => False)) (F0 m pc ls [.int v]) :=
  W.zret hx hb hr hv (fun t ht _ => ⟨v, rfl, hpost, ht⟩) (fun _ h => absurd h List.not_mem_nil) hdg hlocks
theorem eRv (hx : p.tables.exec = Jvm.exec) (hb : c.code = cc) (hr : meth.sig.returnType = none) (hlocks : meth.locks = false) (hdg : decode cc pc = .ok (.return_, 1)) :
    W p l e R s m args below meth c s.heap [] 0 0 (MQ below (va_Sv (fun _ => True)) args s 0 0 (fun _ => False)) (F0 m pc ls []) :=
  W.vret hx hb hr (fun t ht _ => ⟨rfl, trivial, ht⟩) (fun _ h => absurd h List.not_mem_nil) hdg hlocks
theorem eWi {S : Type} {post : Int32 → S → Prop} {Wf : S → va_W} {v : Int32} (u : S) (hx : p.tables.exec = Jvm.exec) (hb : c.code = cc) (hr : meth.sig.returnType = some .int) (hlocks : meth.locks = false) (hP : va_P D vwCl (Wf u) H) (hK : va_K D vwCl (vT D) s) (hD : va_D A (Wf u)) (hS : va_S A s.heap H locs) (hpost : post v u) (hdg : decode cc pc = .ok (.ireturn, 1)) :
    W p l e R s m args below meth c H locs cells slots (MQ below (va_Qi post (fun u t => xB D (Wf u) A t) A) args s cells slots A) (F0 m pc ls [.int v]) :=
  W.iret hx hb hr (fun t ht hW => ⟨⟨v, u, rfl, hpost, by rw [ht]; exact hP, va_K.moved hW.alike hK, hD⟩, hS.F ht⟩) hS.2.2 hdg hlocks
theorem eWz {S : Type} {post : Int32 → S → Prop} {Wf : S → va_W} {v : Int32} (u : S) (hx : p.tables.exec = Jvm.exec) (hb : c.code = cc) (hr : meth.sig.returnType = some .boolean) (hlocks : meth.locks = false) (hv : narrow .boolean (.int v) = .int v) (hP : va_P D vwCl (Wf u) H) (hK : va_K D vwCl (vT D) s) (hD : va_D A (Wf u)) (hS : va_S A s.heap H locs) (hpost : post v u) (hdg : decode cc pc = .ok (.ireturn, 1)) :
    W p l e R s m args below meth c H locs cells slots (MQ below (va_Qi post (fun u t => xB D (Wf u) A t) A) args s cells slots A) (F0 m pc ls [.int v]) :=
  W.zret hx hb hr hv (fun t ht hW => ⟨⟨v, u, rfl, hpost, by rw [ht]; exact hP, va_K.moved hW.alike hK, hD⟩, hS.F ht⟩) hS.2.2 hdg hlocks
theorem eWv {S : Type} {post : S → Prop} {Wf : S → va_W} (u : S) (hx : p.tables.exec = Jvm.exec) (hb : c.code = cc) (hr : meth.sig.returnType = none) (hlocks : meth.locks = false) (hP : va_P D vwCl (Wf u) H) (hK : va_K D vwCl (vT D) s) (hD : va_D A (Wf u)) (hS : va_S A s.heap H locs) (hpost : post u) (hdg : decode cc pc = .ok (.return_, 1)) :
    W p l e R s m args below meth c H locs cells slots (MQ below (va_Qv post (fun u t => xB D (Wf u) A t) A) args s cells slots A) (F0 m pc ls []) :=
  W.vret hx hb hr (fun t ht hW => ⟨⟨u, rfl, hpost, by rw [ht]; exact hP, va_K.moved hW.alike hK, hD⟩, hS.F ht⟩) hS.2.2 hdg hlocks
-- arrays: made, copied
theorem xi_new {N : Nat} {v : Int32} (hx : p.tables.exec = Jvm.exec) (hb : c.code = cc) (harr : (Cond.arrayClass .int).before args s = true) (hK : va_K D vwCl (vT D) s) (hP : va_P D vwCl ws H) (hD : va_D A ws) (hS : va_S A H0 H locs) (hA : ∀ q, H0.size ≤ q → A q)
    (hv : ¬ v < 0) (hN : v.toNatClampNeg = N) (hbytes : N * componentBytes .int ≤ 536870912) (hcells : cells + 1 ≤ R.cells) (hslots : slots + N ≤ R.slots) (hdg : decode cc pc = .ok (.newarray .int, 2))
    (kk : ∀ (q : Nat) (H1 : Heap), va_P D vwCl (ws ++ [(q, .inl (D.1 100, N, .inl (fun _ => 0)))]) H1 → va_D A (ws ++ [(q, .inl (D.1 100, N, .inl (fun _ => 0)))]) → va_S A H0 H1 locs → W p l e R s m args below meth c H1 locs (cells + 1) (slots + N) Q (F0 m (pc + 2) ls (.ref q :: rest))) : W p l e R s m args below meth c H locs cells slots Q (F0 m pc ls (.int v :: rest)) := by
  refine va_newa (atype := .int) hx hb harr rfl hK hP hD hS hA (a0 := (N, .inl (fun _ => 0))) (fun _ => rfl) hv hN hbytes hcells hslots hdg ?_
  intro q cA H1 hK1 hP1 hD1 hS1
  have e1 := (hK.2 0 (D.1 100, .int) rfl).2
  have e2 := (hK1.2 3 (cA, .int) rfl).2
  have e : cA = D.1 100 := Option.some.inj (Eq.trans (Eq.symm e2) e1)
  subst e
  exact kk q H1 hP1 hD1 hS1
theorem xi_copy (hx : p.tables.exec = Jvm.exec) (hb : c.code = cc) (hml : c.maxLocals = ls.size) (hown : s.vm.findClass own = some m.cls) (hlink : (Cond.methodLink own index arraycopyName).before args s = true) (hnat : (Cond.native arraycopyName).before args s = true) (hstat : (Cond.static arraycopyName).before args s = true) (hini : (Cond.initialized "java/lang/System").before args s = true)
    (hK : va_K D vwCl (vT D) s) (hP : va_P D vwCl ws H) (hD : va_D A ws) (hS : va_S A H0 H locs) (q0 q1 : Nat) {a a0 n0 n1 : Nat} {f g : Nat → Int32} (ha0 : ws[q0]? = some (a0, .inl (D.1 100, n0, .inl f))) (ha1 : ws[q1]? = some (a, .inl (D.1 100, n1, .inl g))) {k : Nat} (hk : k ≤ 8) (h0 : 8 ≤ n0) (h1 : 8 ≤ n1)
    (hframes : 1 ≤ R.frames) (hlocals : (rest.map fun v => v.category).sum + 18 ≤ R.locals) (hdg : decode cc pc = .ok (.invokestatic index, 3))
    (kk : ∀ (H1 : Heap) (locs1 : List Loc), va_P D vwCl (ws.set q1 (a, .inl (D.1 100, n1, .inl (va_cpy f g 0 0 k)))) H1 → va_D A (ws.set q1 (a, .inl (D.1 100, n1, .inl (va_cpy f g 0 0 k)))) → va_S A H0 H1 locs1 → W p l e R s m args below meth c H1 locs1 cells slots Q (F0 m (pc + 3) ls rest)) : W p l e R s m args below meth c H locs cells slots Q (F0 m pc ls (.int (nI k) :: .int 0 :: .ref a :: .int 0 :: .ref a0 :: rest)) := by
  have ek : (nI k).toNatClampNeg = k := nI_clamp (by omega)
  have e0 : (0 : Int32).toNatClampNeg = 0 := by decide
  refine va_copyi (ty := .int) hx hb hml hown hlink hnat hstat hini hK hP hD hS q0 q1 0 0 ha0 ha1 rfl rfl rfl (by decide) (by decide) (nI_pos (by omega)) (by rw [ek, e0]; omega) (by rw [ek, e0]; omega) (fun _ _ => rfl) hframes hlocals hdg ?_
  rw [ek, e0]
  exact kk
/-- a static void method of any class, on cells handed in -/
theorem wSv {S : Type} {post : S → Prop} {Wf : S → va_W} (hx : p.tables.exec = Jvm.exec) (hb : c.code = cc) (hml : c.maxLocals = nL) (hown : s.vm.findClass own = some m.cls) (hA : ∀ w ∈ cA, w.before args s = true)
    (hM : Met l y (wsm y bytes maxL ret) rm (va_Pc As (fun U => U.heap.size = H.size ∧ cPre D wc U)) (va_Qv post (fun u t => xB D (Wf u) (va_A wc H.size) t) (va_A wc H.size)) mc ms (va_A wc H.size))
    (wds : Cond.code y bytes maxL ret ∈ cA ∧ Cond.initialized y.cls ∈ cA ∧ Cond.methodLink own index y ∈ cA ∧ Cond.static y ∈ cA)
    (hd : y.cls ≠ "java/lang/invoke/MethodHandle" ∧ y.cls ≠ "java/lang/invoke/VarHandle" ∧ (parseMethodDescriptor y.desc).map (fun d => d.parameters.length) = some n)
    (hrm : rm.cells = mc ∧ rm.slots = ms ∧ rm.frames + 1 ≤ R.frames ∧ 8 + (maxL + 11) + rm.locals ≤ R.locals) (hn : As.length = n) (hsz : ls.size = nL) (hcs : cells + mc ≤ R.cells ∧ slots + ms ≤ R.slots)
    (hP : va_P D vwCl ws H) (hK : va_K D vwCl (vT D) s) (hD : va_D A ws) (hS : va_S A H0 H locs) (hAA : ∀ q, H0.size ≤ q → A q) (hN : xN s) (isC isR : List Nat) (hC : isC.map (fun i => ws[i]?) = wc.map some) (hR : isR.map (fun i => ws[i]?) = wr.map some) (hnC : va_nd isC = true) (hnR : va_nd isR = true) (hdis : ∀ i ∈ isR, i ∉ isC)
    (hst : st0 = As.reverse ++ rest) (hroom : (rest.map fun v => v.category).sum ≤ 8) (hdg : decode cc pc = .ok (.invokestatic index, 3))
    (kk : ∀ (u : S) (H1 : Heap) (locs1 : List Loc), post u → va_P D vwCl (wr ++ Wf u) H1 → va_D A (wr ++ Wf u) → va_S A H0 H1 locs1 → W p l e R s m args below meth c H1 locs1 (cells + mc) (slots + ms) Q (F0 m (pc + 3) ls rest)) : W p l e R s m args below meth c H locs cells slots Q (F0 m pc ls st0) := by
  obtain ⟨w1, w2, w3, w4⟩ := wds
  obtain ⟨r1, r2, r3, r4⟩ := hrm
  have hPc := hP.sub1 isC hC
  have hDc := hD.sub isC hnC hC
  have hFc := va_free (wc := wc) hD hS hAA isC hC
  exact va_callv (va_runS (Ts := cA) ⟨hx, hb, hml, hown, hA⟩ hM ⟨callB_of n hA (gdA w1) rfl r1 r2 (hA _ w2) (hA _ w3) hd ⟨r3, r4⟩, hA _ w4⟩ ⟨pre_blindW, pre_atW _ hPc hK hDc hN⟩ rfl hn hsz hst (lv_room hroom) hdg hcs) hS (fun q _ h => hFc q h) hFc
    (fun u t H1 locs1 ht hvm hp hB hz hk hS1 => by
      obtain ⟨j1, j2⟩ := jn hP hD isC isR hC hR hnR hdis hk hFc ht hB
      exact kk u H1 locs1 hp j1 j2 hS1)
end
end
section
section
abbrev iv (n : Nat) (i : Int32) : Prop := ¬ i < 0 ∧ ¬ nI n ≤ i
abbrev iva (n : Nat) (i : Int32) : Prop := i = -1 ∨ iv n i
abbrev ivs (n : Nat) (t : Int32) : Prop := ¬ t < 0 ∧ ¬ (1 : Int32) <<< (nI n &&& 31) ≤ t
abbrev wi (x y : Int32) : Prop := ¬ x < -y ∧ ¬ y < x
abbrev inS (i t : Int32) : Prop := (t >>> (i &&& 31)) &&& 1 = 1
/-- the next point: from place i - 1 down -/
def nx (lo hi : Nat → Int32) : Nat → (Nat → Int32) → (Nat → Int32)
  | 0, x => x
  | i + 1, x => if x i < hi i then upd x i (x i + 1) else nx lo hi i (upd x i (lo i))
abbrev asok (av al ah x : Nat → Int32) (m : Nat) : Prop := ¬ x (av m).toNatClampNeg < al m ∧ x (av m).toNatClampNeg ≤ ah m
abbrev asall (a : Nat) (av al ah x : Nat → Int32) : Prop := ∀ m, m < a → asok av al ah x m
/-- the points are split: from the last one down -/
def spI (w P j : Nat) (B Bc : Nat → Int32) : Prop := (∀ p, p < j → Bc p = B p) ∧ ∀ p, j ≤ p → p < P → ∀ r, r < w → Bc (p * w + r) = B p
def spJ (w P j r : Nat) (B Bc : Nat → Int32) : Prop := (∀ p, p < j → Bc p = B p) ∧ (∀ p, j + 1 ≤ p → p < P → ∀ t, t < w → Bc (p * w + t) = B p) ∧ ∀ t, t < r → Bc (j * w + t) = B j
theorem spI_0 (w P : Nat) (B : Nat → Int32) : spI w P P B B := ⟨fun _ _ => rfl, fun p h1 h2 => absurd h2 (by omega)⟩
theorem spI_J {w P j : Nat} {B Bc : Nat → Int32} (h : spI w P (j + 1) B Bc) : spJ w P j 0 B Bc := ⟨fun p hp => h.1 p (by omega), h.2, fun t ht => absurd ht (by omega)⟩
theorem spJ_I {w P j : Nat} {B Bc : Nat → Int32} (h : spJ w P j w B Bc) : spI w P j B Bc := by
  refine ⟨h.1, fun p h1 h2 r hr => ?_⟩
  by_cases e : p = j
  · rw [e]; exact h.2.2 r hr
  · exact h.2.1 p (by omega) h2 r hr
theorem spJ_s {w P j r : Nat} {B Bc : Nat → Int32} (hw : 0 < w) (hr : r < w) (h : spJ w P j r B Bc) : spJ w P j (r + 1) B (upd Bc (j * w + r) (B j)) := by
  have hjw : j ≤ j * w := Nat.le_mul_of_pos_right j hw
  refine ⟨fun p hp => ?_, fun p h1 h2 t ht => ?_, fun t ht => ?_⟩
  · rw [pk_un (by omega)]; exact h.1 p hp
  · have h3 : (j + 1) * w ≤ p * w := Nat.mul_le_mul_right w h1
    rw [Nat.succ_mul] at h3
    rw [pk_un (by omega)]; exact h.2.1 p h1 h2 t ht
  · by_cases e : t = r
    · rw [e, pk_us]
    · rw [pk_un (by omega)]; exact h.2.2 t (by omega)
theorem sp_lt {w P j r : Nat} (hj : j < P) (hr : r < w) (h : P * w ≤ 4096) : j * w + r < 4096 := by
  have h1 : (j + 1) * w ≤ P * w := Nat.mul_le_mul_right w hj
  rw [Nat.succ_mul] at h1
  omega
/-- a constraint is added: number k, over t points from p on -/
def aF (lo hi : Nat → Int32) (n k : Nat) (f : (Nat → Int32) → Bool) : Nat → Nat → (Nat → Int32) → (Nat → Int32) → (Nat → Int32) × (Nat → Int32)
  | 0, _, x, B => (B, x)
  | t + 1, p, x, B => aF lo hi n k f t (p + 1) (nx lo hi n x) (if B p = 12 ∧ f x = false then upd B p (nI k) else B)
/-- a constraint is dropped -/
def dF (k : Nat) : Nat → Nat → (Nat → Int32) → (Nat → Int32)
  | 0, _, B => B
  | t + 1, p, B => dF k t (p + 1) (if B p = nI k then upd B p 12 else B)
/-- the search -/
def sF (B lo hi : Nat → Int32) (n : Nat) (ok : (Nat → Int32) → Bool) (w g : Int32) (i : Nat) : Nat → Nat → (Nat → Int32) → (Nat → Int32) → Bool → Bool × (Nat → Int32) × (Nat → Int32)
  | 0, _, x, fd, any => (any, x, fd)
  | t + 1, p, x, fd, any =>
    if B p = 12 ∧ ok x = true ∧ (any = false ∨ w * x i < w * fd i) then
      (if w * x i = g then (true, x, va_cpy x fd 0 0 n) else sF B lo hi n ok w g i t (p + 1) (nx lo hi n x) (va_cpy x fd 0 0 n) true)
    else sF B lo hi n ok w g i t (p + 1) (nx lo hi n x) fd any
abbrev sG (w : Int32) (lo hi : Nat → Int32) (i : Nat) : Int32 := if w * hi i < w * lo i then w * hi i else w * lo i
abbrev srF (n P a : Nat) (lo hi B av al ah pt fd : Nat → Int32) (i w : Int32) : Bool × (Nat → Int32) × (Nat → Int32) :=
  sF B lo hi n (fun x => decide (asall a av al ah x)) w (sG w lo hi i.toNatClampNeg) i.toNatClampNeg P 0 (va_cpy lo pt 0 0 n) fd false
abbrev XS : Type := Nat × Nat × Nat × Nat × Int32 × (Nat → Int32) × (Nat → Int32) × (Nat → Int32) × (Nat → Int32) × (Nat → Int32) × (Nat → Int32) × (Nat → Int32) × (Nat → Int32) × (Nat → Int32)
abbrev drP (n P k a : Nat) (z : Int32) (lo hi B av al ah an pt fd : Nat → Int32) (r : Int32) (u : XS) : Prop :=
  (k = 0 ∧ r = 0 ∧ u = (n, P, k, a, z, lo, hi, B, av, al, ah, an, pt, fd)) ∨ ∃ b, k = b + 1 ∧ r = 1 ∧ u = (n, P, b, a, 0, lo, hi, dF b P 0 B, av, al, ah, an, pt, fd)
theorem zb_n (b : Bool) : narrow .boolean (.int (zb b)) = .int (zb b) := by cases b <;> first | rfl | decide
theorem lt8 {a : Nat} (h : nI a < 8) (ha : a ≤ 8) : a < 8 := by
  rcases Nat.lt_or_ge a 8 with h1 | h1
  · exact h1
  · obtain rfl : a = 8 := by omega
    exact absurd h (by decide)
theorem iv_in {n : Nat} {i : Int32} (h : iv n i) (hn : n ≤ 8) : vp_in i 8 := by
  obtain ⟨j, hj, rfl⟩ := nI_of h.1
  rcases Nat.lt_or_ge j n with h1 | h1
  · exact vp_in_nI (by omega) (by decide)
  · exact absurd (nI_le h1 hj) h.2
-- the seven kinds, as the class works them out
abbrev lprod (f i : Int32) (x : Nat → Int32) : Int32 := if i = -1 then 0 else f * x i.toNatClampNeg
abbrev kLin (i a j b v c bd : Int32) (x : Nat → Int32) : Prop := ¬ bd < lprod a i x + lprod b j x + lprod c v x
abbrev kRei (r i j c : Int32) (x : Nat → Int32) : Prop := x r.toNatClampNeg < 1 ↔ x j.toNatClampNeg + c < x i.toNatClampNeg
abbrev mx2 (a b : Int32) : Int32 := if a < b then b else a
def mx3 (i j v : Int32) (x : Nat → Int32) : Int32 := if v = -1 then (if j = -1 then x i.toNatClampNeg else mx2 (x i.toNatClampNeg) (x j.toNatClampNeg)) else mx2 (if j = -1 then x i.toNatClampNeg else mx2 (x i.toNatClampNeg) (x j.toNatClampNeg)) (x v.toNatClampNeg)
abbrev kMax (r i j v : Int32) (x : Nat → Int32) : Prop := x r.toNatClampNeg = mx3 i j v x
abbrev kEle (r i : Int32) (tb : Int64) (x : Nat → Int32) : Prop := ¬ x i.toNatClampNeg < 0 ∧ ¬ 7 < x i.toNatClampNeg ∧ x r.toNatClampNeg = (tb >>> ((8 * x i.toNatClampNeg).toInt64 &&& 63)).toInt32.toInt8.toInt32
abbrev difB (v : Int32) : Int64 := 1 <<< ((v - (-20)).toInt64 &&& 63)
def kDif (st : Int32) (x : Nat → Int32) : Nat → Nat → Int64 → Bool
  | 0, _, _ => true
  | t + 1, i, sn => if inS (nI i) st then (if sn &&& difB (x i) = 0 then kDif st x t (i + 1) (sn ||| difB (x i)) else false) else kDif st x t (i + 1) sn
abbrev fbs (row : Int64) (i : Int32) : Int32 := (row >>> ((4 * i).toInt64 &&& 63)).toInt32 &&& 15
def cumN (st : Int32) (du ne : Int64) (mo : Int32) (x : Nat → Int32) : Nat → Nat → Int32 → Int32
  | 0, _, nd => nd
  | t + 1, i, nd => if inS (nI i) st ∧ ¬ mo < x i ∧ ¬ x i + fbs du (nI i) ≤ mo then cumN st du ne mo x t (i + 1) (nd + fbs ne (nI i)) else cumN st du ne mo x t (i + 1) nd
def kCum (st : Int32) (du ne : Int64) (cp : Int32) (x : Nat → Int32) : Nat → Nat → Bool
  | 0, _ => true
  | t + 1, i => if inS (nI i) st ∧ ¬ cumN st du ne (x i) x 8 0 0 ≤ cp then false else kCum st du ne cp x t (i + 1)
abbrev clP (v w pa how : Int32) (x : Nat → Int32) : Prop := ¬ v = -1 ∧ if inS pa how then ¬ x v.toNatClampNeg < w else ¬ w < x v.toNatClampNeg
abbrev kCla (i v j w k u how : Int32) (x : Nat → Int32) : Prop := clP i v 0 how x ∨ clP j w 1 how x ∨ clP k u 2 how x
theorem lg_cmp_z {x y : Int64} : lg_cmp x y = 0 ↔ x = y := by
  unfold lg_cmp
  constructor
  · intro h
    split at h
    · exact absurd h (by decide)
    · split at h
      · assumption
      · exact absurd h (by decide)
  · intro h
    subst h
    simp
abbrev vok (x y : Int32) : Prop := ¬ x < -20 ∧ ¬ y < x ∧ ¬ 20 < y ∧ y - x < 8
theorem vsz {x y : Int32} (h : vok x y) : ∃ v, 1 ≤ v ∧ v ≤ 8 ∧ y - x + 1 = nI v := by
  obtain ⟨h1, h2, h3, h4⟩ := h
  rw [Int32.lt_iff_toInt_lt] at h1 h2 h3
  have e20 : (20 : Int32).toInt = 20 := by decide
  have em : (-20 : Int32).toInt = -20 := by decide
  rw [em] at h1
  rw [e20] at h3
  have hs : (y - x).toInt = y.toInt - x.toInt := by
    rw [Int32.toInt_sub]
    exact Int.bmod_eq_of_le (by omega) (by omega)
  rw [Int32.lt_iff_toInt_lt, hs, show (8 : Int32).toInt = 8 by decide] at h4
  refine ⟨(y.toInt - x.toInt + 1).toNat, by omega, by omega, ?_⟩
  have h5 : (y - x + 1).toInt = y.toInt - x.toInt + 1 := by
    rw [Int32.toInt_add, hs, show (1 : Int32).toInt = 1 by decide]
    exact Int.bmod_eq_of_le (by omega) (by omega)
  apply Int32.toInt_inj.mp
  rw [h5, nI_toInt (by omega)]
  omega
theorem le4096 {P v : Nat} (h : nI (P * v) ≤ 4096) (hP : P ≤ 4096) (hv : v ≤ 8) : P * v ≤ 4096 := by
  have h1 : P * v ≤ 4096 * 8 := Nat.mul_le_mul hP hv
  rw [Int32.le_iff_toInt_le, nI_toInt (by omega), show (4096 : Int32).toInt = 4096 by decide] at h
  omega
abbrev addP (f : (Nat → Int32) → Bool) (n P k a : Nat) (z : Int32) (lo hi B av al ah an pt fd : Nat → Int32) (r : Int32) (u : XS) : Prop :=
  (¬ k < 12 ∧ r = -2 ∧ u = (n, P, k, a, z, lo, hi, B, av, al, ah, an, pt, fd)) ∨ (k < 12 ∧ r = nI k ∧ u = (n, P, k + 1, a, 0, lo, hi, (aF lo hi n k f P 0 (va_cpy lo pt 0 0 n) B).1, av, al, ah, an, (aF lo hi n k f P 0 (va_cpy lo pt 0 0 n) B).2, fd))
theorem lt12 {a : Nat} (h : nI a < 12) (ha : a ≤ 12) : a < 12 := by
  rcases Nat.lt_or_ge a 12 with h1 | h1
  · exact h1
  · obtain rfl : a = 12 := by omega
    exact absurd h (by decide)
theorem iva_in {n : Nat} {i : Int32} (h : iva n i) (hn : n ≤ 8) : i = -1 ∨ vp_in i 8 := h.elim Or.inl (fun h => Or.inr (iv_in h hn))
end
section
abbrev xw (D : va_G) (q : Nat → Nat) (n P k a : Nat) (z : Int32) (lo hi B av al ah an pt fd : Nat → Int32) : va_W := [(q 0, .inr (0, [.ref (q 1), .ref (q 2), .int (nI n), .ref (q 3), .int (nI P), .int (nI k), .ref (q 4), .ref (q 5), .ref (q 6), .int (nI a), .ref (q 7), .int (z), .ref (q 8), .ref (q 9)])), (q 1, .inl (D.1 100, 8, .inl lo)), (q 2, .inl (D.1 100, 8, .inl hi)), (q 3, .inl (D.1 100, 4096, .inl B)), (q 4, .inl (D.1 100, 8, .inl av)), (q 5, .inl (D.1 100, 8, .inl al)), (q 6, .inl (D.1 100, 8, .inl ah)), (q 7, .inl (D.1 100, 8, .inl an)), (q 8, .inl (D.1 100, 8, .inl pt)), (q 9, .inl (D.1 100, 8, .inl fd))]
abbrev xW (D : va_G) (q : Nat → Nat) (u : XS) : va_W := xw D q (u.1) (u.2.1) (u.2.2.1) (u.2.2.2.1) (u.2.2.2.2.1) (u.2.2.2.2.2.1) (u.2.2.2.2.2.2.1) (u.2.2.2.2.2.2.2.1) (u.2.2.2.2.2.2.2.2.1) (u.2.2.2.2.2.2.2.2.2.1) (u.2.2.2.2.2.2.2.2.2.2.1) (u.2.2.2.2.2.2.2.2.2.2.2.1) (u.2.2.2.2.2.2.2.2.2.2.2.2.1) (u.2.2.2.2.2.2.2.2.2.2.2.2.2)
end
end
section
section
/-- two points agree on the first n places -/
abbrev agr (n : Nat) (x y : Nat → Int32) : Prop := ∀ j, j < n → x j = y j
theorem agr.symm {n : Nat} {x y : Nat → Int32} (h : agr n x y) : agr n y x := fun j hj => (h j hj).symm
theorem agr.trans {n : Nat} {x y w : Nat → Int32} (h : agr n x y) (h2 : agr n y w) : agr n x w := fun j hj => (h j hj).trans (h2 j hj)
theorem agr.upd {n i : Nat} {x y : Nat → Int32} (h : agr n x y) (v : Int32) : agr n (upd x i v) (upd y i v) := fun j hj => by
  by_cases e : j = i
  · rw [e, pk_us, pk_us]
  · rw [pk_un e, pk_un e, h j hj]
theorem agr_upd {n i : Nat} {x : Nat → Int32} (v : Int32) (hi : n ≤ i) : agr n (upd x i v) x := fun j hj => pk_un (by omega)
theorem nx_out (lo hi : Nat → Int32) : ∀ (i : Nat) (x : Nat → Int32) (j : Nat), i ≤ j → nx lo hi i x j = x j
  | 0, _, _, _ => rfl
  | i + 1, x, j, h => by
    simp only [nx]
    split
    · exact pk_un (by omega)
    · rw [nx_out lo hi i _ j (by omega), pk_un (by omega)]
theorem nx_agr (lo hi : Nat → Int32) {n : Nat} : ∀ (i : Nat) (x y : Nat → Int32), i ≤ n → agr n x y → agr n (nx lo hi i x) (nx lo hi i y)
  | 0, _, _, _, h => h
  | i + 1, x, y, hin, h => by
    simp only [nx]
    rw [h i (by omega)]
    split
    · exact h.upd _
    · exact nx_agr lo hi i _ _ (by omega) (h.upd _)
/-- the points in their order: the last place runs fastest -/
def ptA (lo : Nat → Int32) (sz : Nat → Nat) : Nat → Nat → Nat → Int32
  | 0, _ => fun _ => 0
  | n + 1, p => upd (ptA lo sz n (p / sz n)) n (lo n + nI (p % sz n))
def prd (sz : Nat → Nat) : Nat → Nat
  | 0 => 1
  | n + 1 => prd sz n * sz n
/-- the ranges: n of them, of at most eight small values -/
def rng (n : Nat) (lo hi : Nat → Int32) (sz : Nat → Nat) : Prop := ∀ i, i < n → -20 ≤ (lo i).toInt ∧ (hi i).toInt ≤ 20 ∧ 1 ≤ sz i ∧ sz i ≤ 8 ∧ (hi i).toInt = (lo i).toInt + (sz i : Int) - 1
theorem i32_add_toInt {a b : Int32} (h1 : -2147483648 ≤ a.toInt + b.toInt) (h2 : a.toInt + b.toInt < 2147483648) : (a + b).toInt = a.toInt + b.toInt := by
  rw [Int32.toInt_add]
  exact Int.bmod_eq_of_le (by omega) (by omega)
theorem lo_add {n : Nat} {lo hi : Nat → Int32} {sz : Nat → Nat} (h : rng n lo hi sz) {i r : Nat} (hi' : i < n) (hr : r < sz i) : (lo i + nI r).toInt = (lo i).toInt + r := by
  obtain ⟨h1, h2, h3, h4, h5⟩ := h i hi'
  have e := nI_toInt (n := r) (by omega)
  rw [i32_add_toInt (by omega) (by omega), e]
theorem rng.le {n m : Nat} {lo hi : Nat → Int32} {sz : Nat → Nat} (h : rng n lo hi sz) (hm : m ≤ n) : rng m lo hi sz := fun i hi' => h i (by omega)
theorem pt_first (lo hi : Nat → Int32) (sz : Nat → Nat) : ∀ n, agr n lo (ptA lo sz n 0)
  | 0 => fun j hj => absurd hj (by omega)
  | n + 1 => fun j hj => by
    simp only [ptA]
    by_cases e : j = n
    · rw [e, pk_us, Nat.zero_mod, nI_0, Int32.add_zero]
    · rw [pk_un e, Nat.zero_div]
      exact pt_first lo hi sz n j (by omega)
theorem pt_next (lo hi : Nat → Int32) (sz : Nat → Nat) : ∀ (n p : Nat), rng n lo hi sz → p + 1 < prd sz n → agr n (nx lo hi n (ptA lo sz n p)) (ptA lo sz n (p + 1))
  | 0, p, _, h => absurd h (by simp [prd])
  | n + 1, p, hr, hp => by
    obtain ⟨b1, b2, b3, b4, b5⟩ := hr n (by omega)
    have hs : 0 < sz n := by omega
    have hm : p % sz n < sz n := Nat.mod_lt _ hs
    have hdm : sz n * (p / sz n) + p % sz n = p := Nat.div_add_mod p (sz n)
    have ex : ptA lo sz (n + 1) p = upd (ptA lo sz n (p / sz n)) n (lo n + nI (p % sz n)) := rfl
    have exn : ptA lo sz (n + 1) p n = lo n + nI (p % sz n) := by rw [ex, pk_us]
    have et : (ptA lo sz (n + 1) p n).toInt = (lo n).toInt + (p % sz n : Nat) := by rw [exn]; exact lo_add hr (by omega) hm
    simp only [nx]
    by_cases hc : p % sz n + 1 < sz n
    · have hlt : ptA lo sz (n + 1) p n < hi n := by
        rw [Int32.lt_iff_toInt_lt, et, b5]; omega
      rw [if_pos hlt]
      have hd : (p + 1) / sz n = p / sz n := by
        have : p + 1 = sz n * (p / sz n) + (p % sz n + 1) := by omega
        rw [this, Nat.mul_add_div hs, Nat.div_eq_of_lt hc, Nat.add_zero]
      have hmd : (p + 1) % sz n = p % sz n + 1 := by
        have : p + 1 = sz n * (p / sz n) + (p % sz n + 1) := by omega
        rw [this, Nat.mul_add_mod, Nat.mod_eq_of_lt hc]
      intro j hj
      have ex2 : ptA lo sz (n + 1) (p + 1) = upd (ptA lo sz n ((p + 1) / sz n)) n (lo n + nI ((p + 1) % sz n)) := rfl
      rw [ex2, hd, hmd]
      by_cases e : j = n
      · rw [e, pk_us, pk_us, exn, nI_succ, Int32.add_assoc]
      · rw [pk_un e, pk_un e, ex, pk_un e]
    · have hlt : ¬ ptA lo sz (n + 1) p n < hi n := by
        rw [Int32.lt_iff_toInt_lt, et, b5]; omega
      rw [if_neg hlt]
      have he : p + 1 = sz n * (p / sz n + 1) := by rw [Nat.mul_add, Nat.mul_one]; omega
      have hd : (p + 1) / sz n = p / sz n + 1 := by rw [he, Nat.mul_div_cancel_left _ hs]
      have hmd : (p + 1) % sz n = 0 := by rw [he, Nat.mul_mod_right]
      have hlt2 : p / sz n + 1 < prd sz n := by
        have h1 : sz n * (p / sz n + 1) < sz n * prd sz n := by rw [← he, Nat.mul_comm (sz n)]; exact hp
        exact Nat.lt_of_mul_lt_mul_left h1
      intro j hj
      have ex2 : ptA lo sz (n + 1) (p + 1) = upd (ptA lo sz n ((p + 1) / sz n)) n (lo n + nI ((p + 1) % sz n)) := rfl
      rw [ex2, hd, hmd]
      by_cases e : j = n
      · rw [e, pk_us, nx_out lo hi n _ n (Nat.le_refl n), pk_us, nI_0, Int32.add_zero]
      · rw [pk_un e]
        have hag : agr n (upd (ptA lo sz (n + 1) p) n (lo n)) (ptA lo sz n (p / sz n)) := fun t ht => by
          rw [pk_un (by omega), ex, pk_un (by omega)]
        rw [nx_agr lo hi n _ _ (Nat.le_refl n) hag j (by omega)]
        exact pt_next lo hi sz n _ (hr.le (by omega)) hlt2 j (by omega)
end
end
section
section
/-- the number of the first constraint that fails at a point; 12: none does -/
def fb (K : Nat → (Nat → Int32) → Bool) : Nat → (Nat → Int32) → Int32
  | 0, _ => 12
  | c + 1, x => if fb K c x = 12 then (if K c x = true then 12 else nI c) else fb K c x
theorem nI_n12 {c : Nat} (h : c < 12) : nI c ≠ 12 := by
  intro e
  have h1 := (nI_eq (a := c) (b := 12) (by omega) (by decide)).mp e
  omega
theorem fb_12 (K : Nat → (Nat → Int32) → Bool) (x : Nat → Int32) : ∀ c, c ≤ 12 → (fb K c x = 12 ↔ ∀ j, j < c → K j x = true)
  | 0, _ => ⟨fun _ j hj => absurd hj (by omega), fun _ => rfl⟩
  | c + 1, hc => by
    have ih := fb_12 K x c (by omega)
    simp only [fb]
    constructor
    · intro h j hj
      by_cases h1 : fb K c x = 12
      · rw [if_pos h1] at h
        by_cases h2 : K c x = true
        · by_cases e : j = c
          · rw [e]; exact h2
          · exact ih.mp h1 j (by omega)
        · rw [if_neg h2] at h
          exact absurd h (nI_n12 (by omega))
      · rw [if_neg h1] at h
        exact absurd h h1
    · intro h
      have h1 : fb K c x = 12 := ih.mpr (fun j hj => h j (by omega))
      rw [if_pos h1, if_pos (h c (by omega))]
theorem fb_val (K : Nat → (Nat → Int32) → Bool) (x : Nat → Int32) : ∀ c, fb K c x = 12 ∨ ∃ j, j < c ∧ fb K c x = nI j
  | 0 => Or.inl rfl
  | c + 1 => by
    simp only [fb]
    by_cases h1 : fb K c x = 12
    · rw [if_pos h1]
      by_cases h2 : K c x = true
      · rw [if_pos h2]; exact Or.inl rfl
      · rw [if_neg h2]; exact Or.inr ⟨c, by omega, rfl⟩
    · rw [if_neg h1]
      rcases fb_val K x c with h | ⟨j, hj, h⟩
      · exact absurd h h1
      · exact Or.inr ⟨j, by omega, h⟩
theorem fb_congr {K : Nat → (Nat → Int32) → Bool} {x y : Nat → Int32} : ∀ c, (∀ j, j < c → K j x = K j y) → fb K c x = fb K c y
  | 0, _ => rfl
  | c + 1, h => by
    simp only [fb]
    rw [fb_congr c (fun j hj => h j (by omega)), h c (by omega)]
theorem fb_ext {K L : Nat → (Nat → Int32) → Bool} {x : Nat → Int32} : ∀ c, (∀ j, j < c → K j x = L j x) → fb K c x = fb L c x
  | 0, _ => rfl
  | c + 1, h => by
    simp only [fb]
    rw [fb_ext c (fun j hj => h j (by omega)), h c (by omega)]
/-- dropping the last one -/
theorem fb_drop (K : Nat → (Nat → Int32) → Bool) (x : Nat → Int32) {c : Nat} (hc : c < 12) : (if fb K (c + 1) x = nI c then 12 else fb K (c + 1) x) = fb K c x := by
  by_cases h1 : fb K c x = 12
  · by_cases h2 : K c x = true
    · have e : fb K (c + 1) x = 12 := by simp only [fb]; rw [if_pos h1, if_pos h2]
      rw [e, h1, if_neg (fun h => nI_n12 hc h.symm)]
    · have e : fb K (c + 1) x = nI c := by simp only [fb]; rw [if_pos h1, if_neg h2]
      rw [e, h1, if_pos rfl]
  · have e : fb K (c + 1) x = fb K c x := by simp only [fb]; rw [if_neg h1]
    rw [e]
    rcases fb_val K x c with h | ⟨j, hj, h⟩
    · exact absurd h h1
    · rw [if_neg]
      rw [h]
      intro e
      have := (nI_eq (a := j) (b := c) (by omega) (by omega)).mp e
      omega
/-- a function of points that looks at the first n places alone -/
abbrev sup (n : Nat) (f : (Nat → Int32) → Bool) : Prop := ∀ x y, agr n x y → f x = f y
theorem aF_spec {lo hi : Nat → Int32} {sz : Nat → Nat} {n k : Nat} {f : (Nat → Int32) → Bool} (hr : rng n lo hi sz) (hf : sup n f) :
    ∀ (t p : Nat) (x B : Nat → Int32), p + t = prd sz n → (t = 0 ∨ agr n x (ptA lo sz n p)) → ∀ j, (aF lo hi n k f t p x B).1 j = if p ≤ j ∧ j < p + t ∧ B j = 12 ∧ f (ptA lo sz n j) = false then nI k else B j
  | 0, p, x, B, _, _, j => by
    simp only [aF]
    rw [if_neg (by omega)]
  | t + 1, p, x, B, hp, hx, j => by
    have hx : agr n x (ptA lo sz n p) := hx.resolve_left (by omega)
    have hfx : f x = f (ptA lo sz n p) := hf _ _ hx
    simp only [aF]
    rw [aF_spec hr hf t (p + 1) _ _ (by omega) (by
      rcases Nat.eq_zero_or_pos t with h0 | h0
      · exact Or.inl h0
      · exact Or.inr ((nx_agr lo hi n _ _ (Nat.le_refl n) hx).trans (pt_next lo hi sz n p hr (by omega)))) j]
    by_cases e : j = p
    · subst e
      rw [if_neg (by omega)]
      by_cases h : B j = 12 ∧ f x = false
      · rw [if_pos h, pk_us, if_pos ⟨Nat.le_refl j, by omega, h.1, by rw [← hfx]; exact h.2⟩]
      · rw [if_neg h, if_neg (fun h2 => h ⟨h2.2.2.1, by rw [hfx]; exact h2.2.2.2⟩)]
    · have hB : (if B p = 12 ∧ f x = false then upd B p (nI k) else B) j = B j := by
        by_cases h : B p = 12 ∧ f x = false
        · rw [if_pos h, pk_un e]
        · rw [if_neg h]
      rw [hB]
      by_cases h : p + 1 ≤ j ∧ j < p + 1 + t ∧ B j = 12 ∧ f (ptA lo sz n j) = false
      · rw [if_pos h, if_pos ⟨by omega, by omega, h.2.2⟩]
      · rw [if_neg h, if_neg (fun h2 => h ⟨by omega, by omega, h2.2.2⟩)]
theorem dF_spec (k : Nat) : ∀ (t p : Nat) (B : Nat → Int32) (j : Nat), dF k t p B j = if p ≤ j ∧ j < p + t ∧ B j = nI k then 12 else B j
  | 0, p, B, j => by
    simp only [dF]
    rw [if_neg (by omega)]
  | t + 1, p, B, j => by
    simp only [dF]
    rw [dF_spec k t (p + 1)]
    by_cases e : j = p
    · subst e
      rw [if_neg (by omega)]
      by_cases h : B j = nI k
      · rw [if_pos h, pk_us, if_pos ⟨Nat.le_refl j, by omega, h⟩]
      · rw [if_neg h, if_neg (fun h2 => h h2.2.2)]
    · have hB : (if B p = nI k then upd B p 12 else B) j = B j := by
        by_cases h : B p = nI k
        · rw [if_pos h, pk_un e]
        · rw [if_neg h]
      rw [hB]
      by_cases h : p + 1 ≤ j ∧ j < p + 1 + t ∧ B j = nI k
      · rw [if_pos h, if_pos ⟨by omega, by omega, h.2.2⟩]
      · rw [if_neg h, if_neg (fun h2 => h ⟨by omega, by omega, h2.2.2⟩)]
end
end
section
section
/-- the first of the best: b is a solution below P, none below P has a smaller v, and every earlier one a greater -/
def bst (P : Nat) (sol : Nat → Prop) (v : Nat → Int32) (b : Nat) : Prop := b < P ∧ sol b ∧ (∀ p, p < P → sol p → v b ≤ v p) ∧ ∀ p, p < b → sol p → v b < v p
theorem bst_uniq {P : Nat} {sol : Nat → Prop} {v : Nat → Int32} {b c : Nat} (h : bst P sol v b) (g : bst P sol v c) : b = c := by
  obtain ⟨h1, h2, h3, h4⟩ := h
  obtain ⟨g1, g2, g3, g4⟩ := g
  rcases Nat.lt_trichotomy b c with e | e | e
  · have a1 := g4 b e h2
    have a2 := h3 c g1 g2
    rw [Int32.lt_iff_toInt_lt] at a1
    rw [Int32.le_iff_toInt_le] at a2
    omega
  · exact e
  · have a1 := h4 c e g2
    have a2 := g3 b h1 h2
    rw [Int32.lt_iff_toInt_lt] at a1
    rw [Int32.le_iff_toInt_le] at a2
    omega
theorem cpy_agr (n : Nat) (x f : Nat → Int32) : agr n (va_cpy x f 0 0 n) x := fun j hj => by
  rw [pk_cpy_in (Nat.zero_le j) (by omega)]
  congr 1
  omega
theorem sF_spec {B lo hi : Nat → Int32} {sz : Nat → Nat} {n : Nat} {ok : (Nat → Int32) → Bool} {w g : Int32} {i : Nat} (hr : rng n lo hi sz) (hok : sup n ok) (hi' : i < n ∨ w = 0)
    (hg : ∀ p, p < prd sz n → ¬ w * ptA lo sz n p i < g) (sol : Nat → Prop) (hsol : ∀ p, sol p ↔ B p = 12 ∧ ok (ptA lo sz n p) = true) (v : Nat → Int32) (hv : ∀ p, v p = w * ptA lo sz n p i) :
    ∀ (t p : Nat) (x fd : Nat → Int32) (any : Bool), p + t = prd sz n → (t = 0 ∨ agr n x (ptA lo sz n p)) → (any = false → ∀ c, c < p → ¬ sol c) → (any = true → ∃ b, bst p sol v b ∧ agr n fd (ptA lo sz n b)) →
      ((sF B lo hi n ok w g i t p x fd any).1 = false → ∀ c, c < prd sz n → ¬ sol c) ∧ ((sF B lo hi n ok w g i t p x fd any).1 = true → ∃ b, bst (prd sz n) sol v b ∧ agr n (sF B lo hi n ok w g i t p x fd any).2.2 (ptA lo sz n b))
  | 0, p, x, fd, any, hp, _, h1, h2 => by
    simp only [sF]
    rw [← hp, Nat.add_zero]
    exact ⟨h1, h2⟩
  | t + 1, p, x, fd, any, hp, hx, h1, h2 => by
    have hx : agr n x (ptA lo sz n p) := hx.resolve_left (by omega)
    have hval : ∀ (y : Nat → Int32) (c : Nat), agr n y (ptA lo sz n c) → w * y i = v c := fun y c hy => by
      rw [hv c]
      rcases hi' with h | h
      · rw [hy i h]
      · rw [h, Int32.zero_mul, Int32.zero_mul]
    have hox : ok x = ok (ptA lo sz n p) := hok _ _ hx
    have hxn : t = 0 ∨ agr n (nx lo hi n x) (ptA lo sz n (p + 1)) := by
      rcases Nat.eq_zero_or_pos t with h0 | h0
      · exact Or.inl h0
      · exact Or.inr ((nx_agr lo hi n _ _ (Nat.le_refl n) hx).trans (pt_next lo hi sz n p hr (by omega)))
    have ih := sF_spec hr hok hi' hg sol hsol v hv t (p + 1)
    simp only [sF]
    by_cases hc : B p = 12 ∧ ok x = true ∧ (any = false ∨ w * x i < w * fd i)
    · rw [if_pos hc]
      obtain ⟨c1, c2, c3⟩ := hc
      have hsp : sol p := (hsol p).mpr ⟨c1, by rw [← hox]; exact c2⟩
      have hlt : ∀ c, c < p → sol c → v p < v c := fun c hcp hsc => by
        rcases any with _ | _
        · exact absurd hsc (h1 rfl c hcp)
        · obtain ⟨b, ⟨b1, b2, b3, b4⟩, hb⟩ := h2 rfl
          have a1 : w * x i < w * fd i := c3.resolve_left (by decide)
          rw [hval x p hx, hval fd b hb] at a1
          have a2 := b3 c hcp hsc
          rw [Int32.lt_iff_toInt_lt] at a1 ⊢
          rw [Int32.le_iff_toInt_le] at a2
          omega
      have hfd : agr n (va_cpy x fd 0 0 n) (ptA lo sz n p) := (cpy_agr n x fd).trans hx
      by_cases hgl : w * x i = g
      · rw [if_pos hgl]
        refine ⟨fun h => absurd h (by simp), fun _ => ⟨p, ⟨by omega, hsp, fun c hcp hsc => ?_, hlt⟩, hfd⟩⟩
        have a1 := hg c hcp
        rw [← hv c, ← hgl, hval x p hx] at a1
        exact Int32.not_lt.mp a1
      · rw [if_neg hgl]
        refine ih _ _ true (by omega) hxn (fun h => absurd h (by simp)) (fun _ => ⟨p, ⟨by omega, hsp, fun c hcp hsc => ?_, hlt⟩, hfd⟩)
        by_cases e : c = p
        · rw [e]; exact Int32.le_refl _
        · exact Int32.le_of_lt (hlt c (by omega) hsc)
    · rw [if_neg hc]
      refine ih _ _ any (by omega) hxn (fun ha c hcp => ?_) (fun ha => ?_)
      · by_cases e : c = p
        · rw [e]
          intro hs
          have hs := (hsol p).mp hs
          exact hc ⟨hs.1, by rw [hox]; exact hs.2, Or.inl ha⟩
        · exact h1 ha c (by omega)
      · obtain ⟨b, ⟨b1, b2, b3, b4⟩, hb⟩ := h2 ha
        refine ⟨b, ⟨by omega, b2, fun c hcp hsc => ?_, b4⟩, hb⟩
        by_cases e : c = p
        · rw [e] at hsc ⊢
          have hs := (hsol p).mp hsc
          have a1 : ¬ w * x i < w * fd i := fun h => hc ⟨hs.1, by rw [hox]; exact hs.2, Or.inr h⟩
          rw [hval x p hx, hval fd b hb] at a1
          exact Int32.not_lt.mp a1
        · exact b3 c (by omega) hsc
end
end
section
section
theorem i32_dec (x : Int32) : x + Int32.ofInt (-1) = x - 1 := by
  have h : Int32.ofInt (-1) = -1 := by decide
  rw [h, Int32.sub_eq_add_neg]
section
variable {B lo hi : Nat → Int32} {n : Nat} {ok : (Nat → Int32) → Bool} {w g : Int32} {i t p : Nat} {x fd : Nat → Int32} {any : Bool}
theorem sF_no (h : ¬ (B p = 12 ∧ ok x = true ∧ (any = false ∨ w * x i < w * fd i))) : sF B lo hi n ok w g i (t + 1) p x fd any = sF B lo hi n ok w g i t (p + 1) (nx lo hi n x) fd any := if_neg h
theorem sF_go (h : B p = 12 ∧ ok x = true ∧ (any = false ∨ w * x i < w * fd i)) (hg : ¬ w * x i = g) : sF B lo hi n ok w g i (t + 1) p x fd any = sF B lo hi n ok w g i t (p + 1) (nx lo hi n x) (va_cpy x fd 0 0 n) true := (if_pos h).trans (if_neg hg)
theorem sF_hit (h : B p = 12 ∧ ok x = true ∧ (any = false ∨ w * x i < w * fd i)) (hg : w * x i = g) : sF B lo hi n ok w g i (t + 1) p x fd any = (true, x, va_cpy x fd 0 0 n) := (if_pos h).trans (if_pos hg)
end
end
end
section
section
theorem ws_X_isVariable : Cond.selects R_X y_X_isVariable y_X_isVariable ∈ cA := cA_in (List.mem_append_left _ (List.mem_of_getElem? (i := 3) (by decide +kernel))) rfl
theorem ws_X_isVariableOrAbsent : Cond.selects R_X y_X_isVariableOrAbsent y_X_isVariableOrAbsent ∈ cA := cA_in (List.mem_append_left _ (List.mem_of_getElem? (i := 2) (by decide +kernel))) rfl
theorem ws_X_goToFirstPoint : Cond.selects R_X y_X_goToFirstPoint y_X_goToFirstPoint ∈ cA := cA_in (List.mem_append_left _ (List.mem_of_getElem? (i := 5) (by decide +kernel))) rfl
theorem ws_X_goToNextPoint : Cond.selects R_X y_X_goToNextPoint y_X_goToNextPoint ∈ cA := cA_in (List.mem_append_left _ (List.mem_of_getElem? (i := 8) (by decide +kernel))) rfl
theorem ws_X_isAsAssumed : Cond.selects R_X y_X_isAsAssumed y_X_isAsAssumed ∈ cA := cA_in (List.mem_append_left _ (List.mem_of_getElem? (i := 11) (by decide +kernel))) rfl
theorem ws_X_splitPoints : Cond.selects R_X y_X_splitPoints y_X_splitPoints ∈ cA := cA_in (List.mem_append_left _ (List.mem_of_getElem? (i := 0) (by decide +kernel))) rfl
theorem ws_X_search : Cond.selects R_X y_X_search y_X_search ∈ cA := cA_in (List.mem_append_left _ (List.mem_of_getElem? (i := 10) (by decide +kernel))) rfl
theorem ws_X_keepAsAnswer : Cond.selects R_X y_X_keepAsAnswer y_X_keepAsAnswer ∈ cA := cA_in (List.mem_append_left _ (List.mem_of_getElem? (i := 12) (by decide +kernel))) rfl
theorem wv_X_75 : Cond.code y_X_isVariable b_X_isVariable 2 (some .boolean) ∈ cA ∧ Cond.initialized y_X_isVariable.cls ∈ cA ∧ Cond.methodLink R_X 75 y_X_isVariable ∈ cA ∧ Cond.instanceMethod y_X_isVariable ∈ cA ∧ Cond.selects y_X_isVariable.cls y_X_isVariable y_X_isVariable ∈ cA := ⟨wd_92, wd_1, wd_89, wd_91, ws_X_isVariable⟩
theorem wv_X_84 : Cond.code y_X_isVariableOrAbsent b_X_isVariableOrAbsent 2 (some .boolean) ∈ cA ∧ Cond.initialized y_X_isVariableOrAbsent.cls ∈ cA ∧ Cond.methodLink R_X 84 y_X_isVariableOrAbsent ∈ cA ∧ Cond.instanceMethod y_X_isVariableOrAbsent ∈ cA ∧ Cond.selects y_X_isVariableOrAbsent.cls y_X_isVariableOrAbsent y_X_isVariableOrAbsent ∈ cA := ⟨wd_88, wd_1, wd_85, wd_87, ws_X_isVariableOrAbsent⟩
theorem wc_X_135 : Cond.methodLink R_X 135 arraycopyName ∈ cA ∧ Cond.native arraycopyName ∈ cA ∧ Cond.static arraycopyName ∈ cA ∧ Cond.initialized "java/lang/System" ∈ cA := ⟨wd_135, wd_137, wd_136, wd_6⟩
theorem wm_X_141 : Cond.methodLink R_X 141 Lib.Math.min.name ∈ cA ∧ Cond.static Lib.Math.min.name ∈ cA ∧ Cond.initialized "java/lang/Math" ∈ cA ∧ Cond.code Lib.Math.min.name Lib.Math.min.code 2 (some .int) ∈ cA := ⟨wd_369, wd_370, wd_8, wd_371⟩
theorem wv_X_123 : Cond.code y_X_goToFirstPoint b_X_goToFirstPoint 1 none ∈ cA ∧ Cond.initialized y_X_goToFirstPoint.cls ∈ cA ∧ Cond.methodLink R_X 123 y_X_goToFirstPoint ∈ cA ∧ Cond.instanceMethod y_X_goToFirstPoint ∈ cA ∧ Cond.selects y_X_goToFirstPoint.cls y_X_goToFirstPoint y_X_goToFirstPoint ∈ cA := ⟨wd_134, wd_1, wd_131, wd_133, ws_X_goToFirstPoint⟩
theorem wv_X_132 : Cond.code y_X_goToNextPoint b_X_goToNextPoint 2 none ∈ cA ∧ Cond.initialized y_X_goToNextPoint.cls ∈ cA ∧ Cond.methodLink R_X 132 y_X_goToNextPoint ∈ cA ∧ Cond.instanceMethod y_X_goToNextPoint ∈ cA ∧ Cond.selects y_X_goToNextPoint.cls y_X_goToNextPoint y_X_goToNextPoint ∈ cA := ⟨wd_211, wd_1, wd_208, wd_210, ws_X_goToNextPoint⟩
theorem wv_X_147 : Cond.code y_X_isAsAssumed b_X_isAsAssumed 3 (some .boolean) ∈ cA ∧ Cond.initialized y_X_isAsAssumed.cls ∈ cA ∧ Cond.methodLink R_X 147 y_X_isAsAssumed ∈ cA ∧ Cond.instanceMethod y_X_isAsAssumed ∈ cA ∧ Cond.selects y_X_isAsAssumed.cls y_X_isAsAssumed y_X_isAsAssumed ∈ cA := ⟨wd_375, wd_1, wd_372, wd_374, ws_X_isAsAssumed⟩
theorem wv_X_50 : Cond.code y_X_splitPoints b_X_splitPoints 5 none ∈ cA ∧ Cond.initialized y_X_splitPoints.cls ∈ cA ∧ Cond.methodLink R_X 50 y_X_splitPoints ∈ cA ∧ Cond.instanceMethod y_X_splitPoints ∈ cA ∧ Cond.selects y_X_splitPoints.cls y_X_splitPoints y_X_splitPoints ∈ cA := ⟨wd_76, wd_1, wd_73, wd_75, ws_X_splitPoints⟩
theorem wv_X_116 : Cond.code y_X_search b_X_search 6 (some .boolean) ∈ cA ∧ Cond.initialized y_X_search.cls ∈ cA ∧ Cond.methodLink R_X 116 y_X_search ∈ cA ∧ Cond.instanceMethod y_X_search ∈ cA ∧ Cond.selects y_X_search.cls y_X_search y_X_search ∈ cA := ⟨wd_368, wd_1, wd_365, wd_367, ws_X_search⟩
theorem wv_X_119 : Cond.code y_X_keepAsAnswer b_X_keepAsAnswer 2 (some .boolean) ∈ cA ∧ Cond.initialized y_X_keepAsAnswer.cls ∈ cA ∧ Cond.methodLink R_X 119 y_X_keepAsAnswer ∈ cA ∧ Cond.instanceMethod y_X_keepAsAnswer ∈ cA ∧ Cond.selects y_X_keepAsAnswer.cls y_X_keepAsAnswer y_X_keepAsAnswer ∈ cA := ⟨wd_379, wd_1, wd_376, wd_378, ws_X_keepAsAnswer⟩
end
end
section
section
theorem d_X_isVariable_0 : decode b_X_isVariable 0 = .ok (.iload_n 1, 1) := by decide +kernel
theorem d_X_isVariable_1 : decode b_X_isVariable 1 = .ok (.ifCond .lt 15, 3) := by decide +kernel
theorem d_X_isVariable_4 : decode b_X_isVariable 4 = .ok (.iload_n 1, 1) := by decide +kernel
theorem d_X_isVariable_5 : decode b_X_isVariable 5 = .ok (.aload_n 0, 1) := by decide +kernel
theorem d_X_isVariable_6 : decode b_X_isVariable 6 = .ok (.getfield 47, 3) := by decide +kernel
theorem d_X_isVariable_9 : decode b_X_isVariable 9 = .ok (.if_icmp .ge 7, 3) := by decide +kernel
theorem d_X_isVariable_12 : decode b_X_isVariable 12 = .ok (.iconst 1, 1) := by decide +kernel
theorem d_X_isVariable_13 : decode b_X_isVariable 13 = .ok (.goto 4, 3) := by decide +kernel
theorem d_X_isVariable_16 : decode b_X_isVariable 16 = .ok (.iconst 0, 1) := by decide +kernel
theorem d_X_isVariable_17 : decode b_X_isVariable 17 = .ok (.ireturn, 1) := by decide +kernel
theorem d_X_isVariableOrAbsent_0 : decode b_X_isVariableOrAbsent 0 = .ok (.iload_n 1, 1) := by decide +kernel
theorem d_X_isVariableOrAbsent_1 : decode b_X_isVariableOrAbsent 1 = .ok (.iconst (-1), 1) := by decide +kernel
theorem d_X_isVariableOrAbsent_2 : decode b_X_isVariableOrAbsent 2 = .ok (.if_icmp .eq 11, 3) := by decide +kernel
theorem d_X_isVariableOrAbsent_5 : decode b_X_isVariableOrAbsent 5 = .ok (.aload_n 0, 1) := by decide +kernel
theorem d_X_isVariableOrAbsent_6 : decode b_X_isVariableOrAbsent 6 = .ok (.iload_n 1, 1) := by decide +kernel
theorem d_X_isVariableOrAbsent_7 : decode b_X_isVariableOrAbsent 7 = .ok (.invokevirtual 75, 3) := by decide +kernel
theorem d_X_isVariableOrAbsent_10 : decode b_X_isVariableOrAbsent 10 = .ok (.ifCond .eq 7, 3) := by decide +kernel
theorem d_X_isVariableOrAbsent_13 : decode b_X_isVariableOrAbsent 13 = .ok (.iconst 1, 1) := by decide +kernel
theorem d_X_isVariableOrAbsent_14 : decode b_X_isVariableOrAbsent 14 = .ok (.goto 4, 3) := by decide +kernel
theorem d_X_isVariableOrAbsent_17 : decode b_X_isVariableOrAbsent 17 = .ok (.iconst 0, 1) := by decide +kernel
theorem d_X_isVariableOrAbsent_18 : decode b_X_isVariableOrAbsent 18 = .ok (.ireturn, 1) := by decide +kernel
theorem d_X_areVariablesOrAbsent_0 : decode b_X_areVariablesOrAbsent 0 = .ok (.aload_n 0, 1) := by decide +kernel
theorem d_X_areVariablesOrAbsent_1 : decode b_X_areVariablesOrAbsent 1 = .ok (.iload_n 1, 1) := by decide +kernel
theorem d_X_areVariablesOrAbsent_2 : decode b_X_areVariablesOrAbsent 2 = .ok (.invokevirtual 84, 3) := by decide +kernel
theorem d_X_areVariablesOrAbsent_5 : decode b_X_areVariablesOrAbsent 5 = .ok (.ifCond .eq 23, 3) := by decide +kernel
theorem d_X_areVariablesOrAbsent_8 : decode b_X_areVariablesOrAbsent 8 = .ok (.aload_n 0, 1) := by decide +kernel
theorem d_X_areVariablesOrAbsent_9 : decode b_X_areVariablesOrAbsent 9 = .ok (.iload_n 2, 1) := by decide +kernel
theorem d_X_areVariablesOrAbsent_10 : decode b_X_areVariablesOrAbsent 10 = .ok (.invokevirtual 84, 3) := by decide +kernel
theorem d_X_areVariablesOrAbsent_13 : decode b_X_areVariablesOrAbsent 13 = .ok (.ifCond .eq 15, 3) := by decide +kernel
theorem d_X_areVariablesOrAbsent_16 : decode b_X_areVariablesOrAbsent 16 = .ok (.aload_n 0, 1) := by decide +kernel
theorem d_X_areVariablesOrAbsent_17 : decode b_X_areVariablesOrAbsent 17 = .ok (.iload_n 3, 1) := by decide +kernel
theorem d_X_areVariablesOrAbsent_18 : decode b_X_areVariablesOrAbsent 18 = .ok (.invokevirtual 84, 3) := by decide +kernel
theorem d_X_areVariablesOrAbsent_21 : decode b_X_areVariablesOrAbsent 21 = .ok (.ifCond .eq 7, 3) := by decide +kernel
theorem d_X_areVariablesOrAbsent_24 : decode b_X_areVariablesOrAbsent 24 = .ok (.iconst 1, 1) := by decide +kernel
theorem d_X_areVariablesOrAbsent_25 : decode b_X_areVariablesOrAbsent 25 = .ok (.goto 4, 3) := by decide +kernel
theorem d_X_areVariablesOrAbsent_28 : decode b_X_areVariablesOrAbsent 28 = .ok (.iconst 0, 1) := by decide +kernel
theorem d_X_areVariablesOrAbsent_29 : decode b_X_areVariablesOrAbsent 29 = .ok (.ireturn, 1) := by decide +kernel
theorem d_X_isSetOfVariables_0 : decode b_X_isSetOfVariables 0 = .ok (.iload_n 1, 1) := by decide +kernel
theorem d_X_isSetOfVariables_1 : decode b_X_isSetOfVariables 1 = .ok (.ifCond .lt 17, 3) := by decide +kernel
theorem d_X_isSetOfVariables_4 : decode b_X_isSetOfVariables 4 = .ok (.iload_n 1, 1) := by decide +kernel
theorem d_X_isSetOfVariables_5 : decode b_X_isSetOfVariables 5 = .ok (.iconst 1, 1) := by decide +kernel
theorem d_X_isSetOfVariables_6 : decode b_X_isSetOfVariables 6 = .ok (.aload_n 0, 1) := by decide +kernel
theorem d_X_isSetOfVariables_7 : decode b_X_isSetOfVariables 7 = .ok (.getfield 47, 3) := by decide +kernel
theorem d_X_isSetOfVariables_10 : decode b_X_isSetOfVariables 10 = .ok (.ishl, 1) := by decide +kernel
theorem d_X_isSetOfVariables_11 : decode b_X_isSetOfVariables 11 = .ok (.if_icmp .ge 7, 3) := by decide +kernel
theorem d_X_isSetOfVariables_14 : decode b_X_isSetOfVariables 14 = .ok (.iconst 1, 1) := by decide +kernel
theorem d_X_isSetOfVariables_15 : decode b_X_isSetOfVariables 15 = .ok (.goto 4, 3) := by decide +kernel
theorem d_X_isSetOfVariables_18 : decode b_X_isSetOfVariables 18 = .ok (.iconst 0, 1) := by decide +kernel
theorem d_X_isSetOfVariables_19 : decode b_X_isSetOfVariables 19 = .ok (.ireturn, 1) := by decide +kernel
theorem d_X_isWithin_0 : decode b_X_isWithin 0 = .ok (.iload_n 0, 1) := by decide +kernel
theorem d_X_isWithin_1 : decode b_X_isWithin 1 = .ok (.iload_n 1, 1) := by decide +kernel
theorem d_X_isWithin_2 : decode b_X_isWithin 2 = .ok (.ineg, 1) := by decide +kernel
theorem d_X_isWithin_3 : decode b_X_isWithin 3 = .ok (.if_icmp .lt 12, 3) := by decide +kernel
theorem d_X_isWithin_6 : decode b_X_isWithin 6 = .ok (.iload_n 0, 1) := by decide +kernel
theorem d_X_isWithin_7 : decode b_X_isWithin 7 = .ok (.iload_n 1, 1) := by decide +kernel
theorem d_X_isWithin_8 : decode b_X_isWithin 8 = .ok (.if_icmp .gt 7, 3) := by decide +kernel
theorem d_X_isWithin_11 : decode b_X_isWithin 11 = .ok (.iconst 1, 1) := by decide +kernel
theorem d_X_isWithin_12 : decode b_X_isWithin 12 = .ok (.goto 4, 3) := by decide +kernel
theorem d_X_isWithin_15 : decode b_X_isWithin 15 = .ok (.iconst 0, 1) := by decide +kernel
theorem d_X_isWithin_16 : decode b_X_isWithin 16 = .ok (.ireturn, 1) := by decide +kernel
theorem d_X_isIn_0 : decode b_X_isIn 0 = .ok (.iload_n 1, 1) := by decide +kernel
theorem d_X_isIn_1 : decode b_X_isIn 1 = .ok (.iload_n 0, 1) := by decide +kernel
theorem d_X_isIn_2 : decode b_X_isIn 2 = .ok (.ishr, 1) := by decide +kernel
theorem d_X_isIn_3 : decode b_X_isIn 3 = .ok (.iconst 1, 1) := by decide +kernel
theorem d_X_isIn_4 : decode b_X_isIn 4 = .ok (.iand, 1) := by decide +kernel
theorem d_X_isIn_5 : decode b_X_isIn 5 = .ok (.iconst 1, 1) := by decide +kernel
theorem d_X_isIn_6 : decode b_X_isIn 6 = .ok (.if_icmp .ne 7, 3) := by decide +kernel
theorem d_X_isIn_9 : decode b_X_isIn 9 = .ok (.iconst 1, 1) := by decide +kernel
theorem d_X_isIn_10 : decode b_X_isIn 10 = .ok (.goto 4, 3) := by decide +kernel
theorem d_X_isIn_13 : decode b_X_isIn 13 = .ok (.iconst 0, 1) := by decide +kernel
theorem d_X_isIn_14 : decode b_X_isIn 14 = .ok (.ireturn, 1) := by decide +kernel
theorem d_X_variables_0 : decode b_X_variables 0 = .ok (.aload_n 0, 1) := by decide +kernel
theorem d_X_variables_1 : decode b_X_variables 1 = .ok (.getfield 47, 3) := by decide +kernel
theorem d_X_variables_4 : decode b_X_variables 4 = .ok (.ireturn, 1) := by decide +kernel
theorem d_X_constraints_0 : decode b_X_constraints 0 = .ok (.aload_n 0, 1) := by decide +kernel
theorem d_X_constraints_1 : decode b_X_constraints 1 = .ok (.getfield 110, 3) := by decide +kernel
theorem d_X_constraints_4 : decode b_X_constraints 4 = .ok (.ireturn, 1) := by decide +kernel
theorem d_X_assumptions_0 : decode b_X_assumptions 0 = .ok (.aload_n 0, 1) := by decide +kernel
theorem d_X_assumptions_1 : decode b_X_assumptions 1 = .ok (.getfield 113, 3) := by decide +kernel
theorem d_X_assumptions_4 : decode b_X_assumptions 4 = .ok (.ireturn, 1) := by decide +kernel
theorem d_X_space_0 : decode b_X_space 0 = .ok (.aload_n 0, 1) := by decide +kernel
theorem d_X_space_1 : decode b_X_space 1 = .ok (.getfield 37, 3) := by decide +kernel
theorem d_X_space_4 : decode b_X_space 4 = .ok (.ireturn, 1) := by decide +kernel
theorem d_X_value_0 : decode b_X_value 0 = .ok (.aload_n 0, 1) := by decide +kernel
theorem d_X_value_1 : decode b_X_value 1 = .ok (.getfield 54, 3) := by decide +kernel
theorem d_X_value_4 : decode b_X_value 4 = .ok (.ifCond .eq 20, 3) := by decide +kernel
theorem d_X_value_7 : decode b_X_value 7 = .ok (.aload_n 0, 1) := by decide +kernel
theorem d_X_value_8 : decode b_X_value 8 = .ok (.iload_n 1, 1) := by decide +kernel
theorem d_X_value_9 : decode b_X_value 9 = .ok (.invokevirtual 75, 3) := by decide +kernel
theorem d_X_value_12 : decode b_X_value 12 = .ok (.ifCond .eq 12, 3) := by decide +kernel
theorem d_X_value_15 : decode b_X_value 15 = .ok (.aload_n 0, 1) := by decide +kernel
theorem d_X_value_16 : decode b_X_value 16 = .ok (.getfield 28, 3) := by decide +kernel
theorem d_X_value_19 : decode b_X_value 19 = .ok (.iload_n 1, 1) := by decide +kernel
theorem d_X_value_20 : decode b_X_value 20 = .ok (.iaload, 1) := by decide +kernel
theorem d_X_value_21 : decode b_X_value 21 = .ok (.goto 6, 3) := by decide +kernel
theorem d_X_value_24 : decode b_X_value 24 = .ok (.sipush 1000, 3) := by decide +kernel
theorem d_X_value_27 : decode b_X_value 27 = .ok (.ireturn, 1) := by decide +kernel
theorem d_X_goToFirstPoint_0 : decode b_X_goToFirstPoint 0 = .ok (.aload_n 0, 1) := by decide +kernel
theorem d_X_goToFirstPoint_1 : decode b_X_goToFirstPoint 1 = .ok (.getfield 9, 3) := by decide +kernel
theorem d_X_goToFirstPoint_4 : decode b_X_goToFirstPoint 4 = .ok (.iconst 0, 1) := by decide +kernel
theorem d_X_goToFirstPoint_5 : decode b_X_goToFirstPoint 5 = .ok (.aload_n 0, 1) := by decide +kernel
theorem d_X_goToFirstPoint_6 : decode b_X_goToFirstPoint 6 = .ok (.getfield 31, 3) := by decide +kernel
theorem d_X_goToFirstPoint_9 : decode b_X_goToFirstPoint 9 = .ok (.iconst 0, 1) := by decide +kernel
theorem d_X_goToFirstPoint_10 : decode b_X_goToFirstPoint 10 = .ok (.aload_n 0, 1) := by decide +kernel
theorem d_X_goToFirstPoint_11 : decode b_X_goToFirstPoint 11 = .ok (.getfield 47, 3) := by decide +kernel
theorem d_X_goToFirstPoint_14 : decode b_X_goToFirstPoint 14 = .ok (.invokestatic 135, 3) := by decide +kernel
theorem d_X_goToFirstPoint_17 : decode b_X_goToFirstPoint 17 = .ok (.return_, 1) := by decide +kernel
theorem d_X_goToNextPoint_0 : decode b_X_goToNextPoint 0 = .ok (.aload_n 0, 1) := by decide +kernel
theorem d_X_goToNextPoint_1 : decode b_X_goToNextPoint 1 = .ok (.getfield 47, 3) := by decide +kernel
theorem d_X_goToNextPoint_4 : decode b_X_goToNextPoint 4 = .ok (.iconst 1, 1) := by decide +kernel
theorem d_X_goToNextPoint_5 : decode b_X_goToNextPoint 5 = .ok (.isub, 1) := by decide +kernel
theorem d_X_goToNextPoint_6 : decode b_X_goToNextPoint 6 = .ok (.istore_n 1, 1) := by decide +kernel
theorem d_X_goToNextPoint_7 : decode b_X_goToNextPoint 7 = .ok (.iload_n 1, 1) := by decide +kernel
theorem d_X_goToNextPoint_8 : decode b_X_goToNextPoint 8 = .ok (.ifCond .lt 47, 3) := by decide +kernel
theorem d_X_goToNextPoint_11 : decode b_X_goToNextPoint 11 = .ok (.aload_n 0, 1) := by decide +kernel
theorem d_X_goToNextPoint_12 : decode b_X_goToNextPoint 12 = .ok (.getfield 31, 3) := by decide +kernel
theorem d_X_goToNextPoint_15 : decode b_X_goToNextPoint 15 = .ok (.iload_n 1, 1) := by decide +kernel
theorem d_X_goToNextPoint_16 : decode b_X_goToNextPoint 16 = .ok (.iaload, 1) := by decide +kernel
theorem d_X_goToNextPoint_17 : decode b_X_goToNextPoint 17 = .ok (.aload_n 0, 1) := by decide +kernel
theorem d_X_goToNextPoint_18 : decode b_X_goToNextPoint 18 = .ok (.getfield 13, 3) := by decide +kernel
theorem d_X_goToNextPoint_21 : decode b_X_goToNextPoint 21 = .ok (.iload_n 1, 1) := by decide +kernel
theorem d_X_goToNextPoint_22 : decode b_X_goToNextPoint 22 = .ok (.iaload, 1) := by decide +kernel
theorem d_X_goToNextPoint_23 : decode b_X_goToNextPoint 23 = .ok (.if_icmp .ge 14, 3) := by decide +kernel
theorem d_X_goToNextPoint_26 : decode b_X_goToNextPoint 26 = .ok (.aload_n 0, 1) := by decide +kernel
theorem d_X_goToNextPoint_27 : decode b_X_goToNextPoint 27 = .ok (.getfield 31, 3) := by decide +kernel
theorem d_X_goToNextPoint_30 : decode b_X_goToNextPoint 30 = .ok (.iload_n 1, 1) := by decide +kernel
theorem d_X_goToNextPoint_31 : decode b_X_goToNextPoint 31 = .ok (.dup2, 1) := by decide +kernel
theorem d_X_goToNextPoint_32 : decode b_X_goToNextPoint 32 = .ok (.iaload, 1) := by decide +kernel
theorem d_X_goToNextPoint_33 : decode b_X_goToNextPoint 33 = .ok (.iconst 1, 1) := by decide +kernel
theorem d_X_goToNextPoint_34 : decode b_X_goToNextPoint 34 = .ok (.iadd, 1) := by decide +kernel
theorem d_X_goToNextPoint_35 : decode b_X_goToNextPoint 35 = .ok (.iastore, 1) := by decide +kernel
theorem d_X_goToNextPoint_36 : decode b_X_goToNextPoint 36 = .ok (.return_, 1) := by decide +kernel
theorem d_X_goToNextPoint_37 : decode b_X_goToNextPoint 37 = .ok (.aload_n 0, 1) := by decide +kernel
theorem d_X_goToNextPoint_38 : decode b_X_goToNextPoint 38 = .ok (.getfield 31, 3) := by decide +kernel
theorem d_X_goToNextPoint_41 : decode b_X_goToNextPoint 41 = .ok (.iload_n 1, 1) := by decide +kernel
theorem d_X_goToNextPoint_42 : decode b_X_goToNextPoint 42 = .ok (.aload_n 0, 1) := by decide +kernel
theorem d_X_goToNextPoint_43 : decode b_X_goToNextPoint 43 = .ok (.getfield 9, 3) := by decide +kernel
theorem d_X_goToNextPoint_46 : decode b_X_goToNextPoint 46 = .ok (.iload_n 1, 1) := by decide +kernel
theorem d_X_goToNextPoint_47 : decode b_X_goToNextPoint 47 = .ok (.iaload, 1) := by decide +kernel
theorem d_X_goToNextPoint_48 : decode b_X_goToNextPoint 48 = .ok (.iastore, 1) := by decide +kernel
theorem d_X_goToNextPoint_49 : decode b_X_goToNextPoint 49 = .ok (.iinc 1 ( -1), 3) := by decide +kernel
theorem d_X_goToNextPoint_52 : decode b_X_goToNextPoint 52 = .ok (.goto (-45), 3) := by decide +kernel
theorem d_X_goToNextPoint_55 : decode b_X_goToNextPoint 55 = .ok (.return_, 1) := by decide +kernel
theorem d_X_isAsAssumed_0 : decode b_X_isAsAssumed 0 = .ok (.iconst 0, 1) := by decide +kernel
theorem d_X_isAsAssumed_1 : decode b_X_isAsAssumed 1 = .ok (.istore_n 1, 1) := by decide +kernel
theorem d_X_isAsAssumed_2 : decode b_X_isAsAssumed 2 = .ok (.iload_n 1, 1) := by decide +kernel
theorem d_X_isAsAssumed_3 : decode b_X_isAsAssumed 3 = .ok (.aload_n 0, 1) := by decide +kernel
theorem d_X_isAsAssumed_4 : decode b_X_isAsAssumed 4 = .ok (.getfield 113, 3) := by decide +kernel
theorem d_X_isAsAssumed_7 : decode b_X_isAsAssumed 7 = .ok (.if_icmp .ge 43, 3) := by decide +kernel
theorem d_X_isAsAssumed_10 : decode b_X_isAsAssumed 10 = .ok (.aload_n 0, 1) := by decide +kernel
theorem d_X_isAsAssumed_11 : decode b_X_isAsAssumed 11 = .ok (.getfield 31, 3) := by decide +kernel
theorem d_X_isAsAssumed_14 : decode b_X_isAsAssumed 14 = .ok (.aload_n 0, 1) := by decide +kernel
theorem d_X_isAsAssumed_15 : decode b_X_isAsAssumed 15 = .ok (.getfield 19, 3) := by decide +kernel
theorem d_X_isAsAssumed_18 : decode b_X_isAsAssumed 18 = .ok (.iload_n 1, 1) := by decide +kernel
theorem d_X_isAsAssumed_19 : decode b_X_isAsAssumed 19 = .ok (.iaload, 1) := by decide +kernel
theorem d_X_isAsAssumed_20 : decode b_X_isAsAssumed 20 = .ok (.iaload, 1) := by decide +kernel
theorem d_X_isAsAssumed_21 : decode b_X_isAsAssumed 21 = .ok (.istore_n 2, 1) := by decide +kernel
theorem d_X_isAsAssumed_22 : decode b_X_isAsAssumed 22 = .ok (.iload_n 2, 1) := by decide +kernel
theorem d_X_isAsAssumed_23 : decode b_X_isAsAssumed 23 = .ok (.aload_n 0, 1) := by decide +kernel
theorem d_X_isAsAssumed_24 : decode b_X_isAsAssumed 24 = .ok (.getfield 22, 3) := by decide +kernel
theorem d_X_isAsAssumed_27 : decode b_X_isAsAssumed 27 = .ok (.iload_n 1, 1) := by decide +kernel
theorem d_X_isAsAssumed_28 : decode b_X_isAsAssumed 28 = .ok (.iaload, 1) := by decide +kernel
theorem d_X_isAsAssumed_29 : decode b_X_isAsAssumed 29 = .ok (.if_icmp .lt 13, 3) := by decide +kernel
theorem d_X_isAsAssumed_32 : decode b_X_isAsAssumed 32 = .ok (.iload_n 2, 1) := by decide +kernel
theorem d_X_isAsAssumed_33 : decode b_X_isAsAssumed 33 = .ok (.aload_n 0, 1) := by decide +kernel
theorem d_X_isAsAssumed_34 : decode b_X_isAsAssumed 34 = .ok (.getfield 25, 3) := by decide +kernel
theorem d_X_isAsAssumed_37 : decode b_X_isAsAssumed 37 = .ok (.iload_n 1, 1) := by decide +kernel
theorem d_X_isAsAssumed_38 : decode b_X_isAsAssumed 38 = .ok (.iaload, 1) := by decide +kernel
theorem d_X_isAsAssumed_39 : decode b_X_isAsAssumed 39 = .ok (.if_icmp .le 5, 3) := by decide +kernel
theorem d_X_isAsAssumed_42 : decode b_X_isAsAssumed 42 = .ok (.iconst 0, 1) := by decide +kernel
theorem d_X_isAsAssumed_43 : decode b_X_isAsAssumed 43 = .ok (.ireturn, 1) := by decide +kernel
theorem d_X_isAsAssumed_44 : decode b_X_isAsAssumed 44 = .ok (.iinc 1 1, 3) := by decide +kernel
theorem d_X_isAsAssumed_47 : decode b_X_isAsAssumed 47 = .ok (.goto (-45), 3) := by decide +kernel
theorem d_X_isAsAssumed_50 : decode b_X_isAsAssumed 50 = .ok (.iconst 1, 1) := by decide +kernel
theorem d_X_isAsAssumed_51 : decode b_X_isAsAssumed 51 = .ok (.ireturn, 1) := by decide +kernel
theorem d_X_splitPoints_0 : decode b_X_splitPoints 0 = .ok (.aload_n 0, 1) := by decide +kernel
theorem d_X_splitPoints_1 : decode b_X_splitPoints 1 = .ok (.getfield 37, 3) := by decide +kernel
theorem d_X_splitPoints_4 : decode b_X_splitPoints 4 = .ok (.iconst 1, 1) := by decide +kernel
theorem d_X_splitPoints_5 : decode b_X_splitPoints 5 = .ok (.isub, 1) := by decide +kernel
theorem d_X_splitPoints_6 : decode b_X_splitPoints 6 = .ok (.istore_n 2, 1) := by decide +kernel
theorem d_X_splitPoints_7 : decode b_X_splitPoints 7 = .ok (.iload_n 2, 1) := by decide +kernel
theorem d_X_splitPoints_8 : decode b_X_splitPoints 8 = .ok (.ifCond .lt 43, 3) := by decide +kernel
theorem d_X_splitPoints_11 : decode b_X_splitPoints 11 = .ok (.aload_n 0, 1) := by decide +kernel
theorem d_X_splitPoints_12 : decode b_X_splitPoints 12 = .ok (.getfield 16, 3) := by decide +kernel
theorem d_X_splitPoints_15 : decode b_X_splitPoints 15 = .ok (.iload_n 2, 1) := by decide +kernel
theorem d_X_splitPoints_16 : decode b_X_splitPoints 16 = .ok (.iaload, 1) := by decide +kernel
theorem d_X_splitPoints_17 : decode b_X_splitPoints 17 = .ok (.istore_n 3, 1) := by decide +kernel
theorem d_X_splitPoints_18 : decode b_X_splitPoints 18 = .ok (.iconst 0, 1) := by decide +kernel
theorem d_X_splitPoints_19 : decode b_X_splitPoints 19 = .ok (.istore 4, 2) := by decide +kernel
theorem d_X_splitPoints_21 : decode b_X_splitPoints 21 = .ok (.iload 4, 2) := by decide +kernel
theorem d_X_splitPoints_23 : decode b_X_splitPoints 23 = .ok (.iload_n 1, 1) := by decide +kernel
theorem d_X_splitPoints_24 : decode b_X_splitPoints 24 = .ok (.if_icmp .ge 21, 3) := by decide +kernel
theorem d_X_splitPoints_27 : decode b_X_splitPoints 27 = .ok (.aload_n 0, 1) := by decide +kernel
theorem d_X_splitPoints_28 : decode b_X_splitPoints 28 = .ok (.getfield 16, 3) := by decide +kernel
theorem d_X_splitPoints_31 : decode b_X_splitPoints 31 = .ok (.iload_n 2, 1) := by decide +kernel
theorem d_X_splitPoints_32 : decode b_X_splitPoints 32 = .ok (.iload_n 1, 1) := by decide +kernel
theorem d_X_splitPoints_33 : decode b_X_splitPoints 33 = .ok (.imul, 1) := by decide +kernel
theorem d_X_splitPoints_34 : decode b_X_splitPoints 34 = .ok (.iload 4, 2) := by decide +kernel
theorem d_X_splitPoints_36 : decode b_X_splitPoints 36 = .ok (.iadd, 1) := by decide +kernel
theorem d_X_splitPoints_37 : decode b_X_splitPoints 37 = .ok (.iload_n 3, 1) := by decide +kernel
theorem d_X_splitPoints_38 : decode b_X_splitPoints 38 = .ok (.iastore, 1) := by decide +kernel
theorem d_X_splitPoints_39 : decode b_X_splitPoints 39 = .ok (.iinc 4 1, 3) := by decide +kernel
theorem d_X_splitPoints_42 : decode b_X_splitPoints 42 = .ok (.goto (-21), 3) := by decide +kernel
theorem d_X_splitPoints_45 : decode b_X_splitPoints 45 = .ok (.iinc 2 ( -1), 3) := by decide +kernel
theorem d_X_splitPoints_48 : decode b_X_splitPoints 48 = .ok (.goto (-41), 3) := by decide +kernel
theorem d_X_splitPoints_51 : decode b_X_splitPoints 51 = .ok (.aload_n 0, 1) := by decide +kernel
theorem d_X_splitPoints_52 : decode b_X_splitPoints 52 = .ok (.aload_n 0, 1) := by decide +kernel
theorem d_X_splitPoints_53 : decode b_X_splitPoints 53 = .ok (.getfield 37, 3) := by decide +kernel
theorem d_X_splitPoints_56 : decode b_X_splitPoints 56 = .ok (.iload_n 1, 1) := by decide +kernel
theorem d_X_splitPoints_57 : decode b_X_splitPoints 57 = .ok (.imul, 1) := by decide +kernel
theorem d_X_splitPoints_58 : decode b_X_splitPoints 58 = .ok (.putfield 37, 3) := by decide +kernel
theorem d_X_splitPoints_61 : decode b_X_splitPoints 61 = .ok (.return_, 1) := by decide +kernel
theorem d_X_keepAsAnswer_0 : decode b_X_keepAsAnswer 0 = .ok (.iload_n 1, 1) := by decide +kernel
theorem d_X_keepAsAnswer_1 : decode b_X_keepAsAnswer 1 = .ok (.ifCond .eq 20, 3) := by decide +kernel
theorem d_X_keepAsAnswer_4 : decode b_X_keepAsAnswer 4 = .ok (.aload_n 0, 1) := by decide +kernel
theorem d_X_keepAsAnswer_5 : decode b_X_keepAsAnswer 5 = .ok (.getfield 34, 3) := by decide +kernel
theorem d_X_keepAsAnswer_8 : decode b_X_keepAsAnswer 8 = .ok (.iconst 0, 1) := by decide +kernel
theorem d_X_keepAsAnswer_9 : decode b_X_keepAsAnswer 9 = .ok (.aload_n 0, 1) := by decide +kernel
theorem d_X_keepAsAnswer_10 : decode b_X_keepAsAnswer 10 = .ok (.getfield 28, 3) := by decide +kernel
theorem d_X_keepAsAnswer_13 : decode b_X_keepAsAnswer 13 = .ok (.iconst 0, 1) := by decide +kernel
theorem d_X_keepAsAnswer_14 : decode b_X_keepAsAnswer 14 = .ok (.aload_n 0, 1) := by decide +kernel
theorem d_X_keepAsAnswer_15 : decode b_X_keepAsAnswer 15 = .ok (.getfield 47, 3) := by decide +kernel
theorem d_X_keepAsAnswer_18 : decode b_X_keepAsAnswer 18 = .ok (.invokestatic 135, 3) := by decide +kernel
theorem d_X_keepAsAnswer_21 : decode b_X_keepAsAnswer 21 = .ok (.aload_n 0, 1) := by decide +kernel
theorem d_X_keepAsAnswer_22 : decode b_X_keepAsAnswer 22 = .ok (.iload_n 1, 1) := by decide +kernel
theorem d_X_keepAsAnswer_23 : decode b_X_keepAsAnswer 23 = .ok (.putfield 54, 3) := by decide +kernel
theorem d_X_keepAsAnswer_26 : decode b_X_keepAsAnswer 26 = .ok (.iload_n 1, 1) := by decide +kernel
theorem d_X_keepAsAnswer_27 : decode b_X_keepAsAnswer 27 = .ok (.ireturn, 1) := by decide +kernel
theorem d_X_retract_0 : decode b_X_retract 0 = .ok (.aload_n 0, 1) := by decide +kernel
theorem d_X_retract_1 : decode b_X_retract 1 = .ok (.getfield 113, 3) := by decide +kernel
theorem d_X_retract_4 : decode b_X_retract 4 = .ok (.ifCond .ne 5, 3) := by decide +kernel
theorem d_X_retract_7 : decode b_X_retract 7 = .ok (.iconst 0, 1) := by decide +kernel
theorem d_X_retract_8 : decode b_X_retract 8 = .ok (.ireturn, 1) := by decide +kernel
theorem d_X_retract_9 : decode b_X_retract 9 = .ok (.aload_n 0, 1) := by decide +kernel
theorem d_X_retract_10 : decode b_X_retract 10 = .ok (.dup, 1) := by decide +kernel
theorem d_X_retract_11 : decode b_X_retract 11 = .ok (.getfield 113, 3) := by decide +kernel
theorem d_X_retract_14 : decode b_X_retract 14 = .ok (.iconst 1, 1) := by decide +kernel
theorem d_X_retract_15 : decode b_X_retract 15 = .ok (.isub, 1) := by decide +kernel
theorem d_X_retract_16 : decode b_X_retract 16 = .ok (.putfield 113, 3) := by decide +kernel
theorem d_X_retract_19 : decode b_X_retract 19 = .ok (.aload_n 0, 1) := by decide +kernel
theorem d_X_retract_20 : decode b_X_retract 20 = .ok (.iconst 0, 1) := by decide +kernel
theorem d_X_retract_21 : decode b_X_retract 21 = .ok (.putfield 54, 3) := by decide +kernel
theorem d_X_retract_24 : decode b_X_retract 24 = .ok (.iconst 1, 1) := by decide +kernel
theorem d_X_retract_25 : decode b_X_retract 25 = .ok (.ireturn, 1) := by decide +kernel
theorem d_X_assume_0 : decode b_X_assume 0 = .ok (.aload_n 0, 1) := by decide +kernel
theorem d_X_assume_1 : decode b_X_assume 1 = .ok (.iload_n 1, 1) := by decide +kernel
theorem d_X_assume_2 : decode b_X_assume 2 = .ok (.invokevirtual 75, 3) := by decide +kernel
theorem d_X_assume_5 : decode b_X_assume 5 = .ok (.ifCond .eq 12, 3) := by decide +kernel
theorem d_X_assume_8 : decode b_X_assume 8 = .ok (.aload_n 0, 1) := by decide +kernel
theorem d_X_assume_9 : decode b_X_assume 9 = .ok (.getfield 113, 3) := by decide +kernel
theorem d_X_assume_12 : decode b_X_assume 12 = .ok (.bipush 8, 2) := by decide +kernel
theorem d_X_assume_14 : decode b_X_assume 14 = .ok (.if_icmp .lt 5, 3) := by decide +kernel
theorem d_X_assume_17 : decode b_X_assume 17 = .ok (.iconst 0, 1) := by decide +kernel
theorem d_X_assume_18 : decode b_X_assume 18 = .ok (.ireturn, 1) := by decide +kernel
theorem d_X_assume_19 : decode b_X_assume 19 = .ok (.aload_n 0, 1) := by decide +kernel
theorem d_X_assume_20 : decode b_X_assume 20 = .ok (.getfield 19, 3) := by decide +kernel
theorem d_X_assume_23 : decode b_X_assume 23 = .ok (.aload_n 0, 1) := by decide +kernel
theorem d_X_assume_24 : decode b_X_assume 24 = .ok (.getfield 113, 3) := by decide +kernel
theorem d_X_assume_27 : decode b_X_assume 27 = .ok (.iload_n 1, 1) := by decide +kernel
theorem d_X_assume_28 : decode b_X_assume 28 = .ok (.iastore, 1) := by decide +kernel
theorem d_X_assume_29 : decode b_X_assume 29 = .ok (.aload_n 0, 1) := by decide +kernel
theorem d_X_assume_30 : decode b_X_assume 30 = .ok (.getfield 22, 3) := by decide +kernel
theorem d_X_assume_33 : decode b_X_assume 33 = .ok (.aload_n 0, 1) := by decide +kernel
theorem d_X_assume_34 : decode b_X_assume 34 = .ok (.getfield 113, 3) := by decide +kernel
theorem d_X_assume_37 : decode b_X_assume 37 = .ok (.iload_n 2, 1) := by decide +kernel
end
end
section
section
theorem d_X_assume_38 : decode b_X_assume 38 = .ok (.iastore, 1) := by decide +kernel
theorem d_X_assume_39 : decode b_X_assume 39 = .ok (.aload_n 0, 1) := by decide +kernel
theorem d_X_assume_40 : decode b_X_assume 40 = .ok (.getfield 25, 3) := by decide +kernel
theorem d_X_assume_43 : decode b_X_assume 43 = .ok (.aload_n 0, 1) := by decide +kernel
theorem d_X_assume_44 : decode b_X_assume 44 = .ok (.getfield 113, 3) := by decide +kernel
theorem d_X_assume_47 : decode b_X_assume 47 = .ok (.iload_n 3, 1) := by decide +kernel
theorem d_X_assume_48 : decode b_X_assume 48 = .ok (.iastore, 1) := by decide +kernel
theorem d_X_assume_49 : decode b_X_assume 49 = .ok (.aload_n 0, 1) := by decide +kernel
theorem d_X_assume_50 : decode b_X_assume 50 = .ok (.dup, 1) := by decide +kernel
theorem d_X_assume_51 : decode b_X_assume 51 = .ok (.getfield 113, 3) := by decide +kernel
theorem d_X_assume_54 : decode b_X_assume 54 = .ok (.iconst 1, 1) := by decide +kernel
theorem d_X_assume_55 : decode b_X_assume 55 = .ok (.iadd, 1) := by decide +kernel
theorem d_X_assume_56 : decode b_X_assume 56 = .ok (.putfield 113, 3) := by decide +kernel
theorem d_X_assume_59 : decode b_X_assume 59 = .ok (.aload_n 0, 1) := by decide +kernel
theorem d_X_assume_60 : decode b_X_assume 60 = .ok (.iconst 0, 1) := by decide +kernel
theorem d_X_assume_61 : decode b_X_assume 61 = .ok (.putfield 54, 3) := by decide +kernel
theorem d_X_assume_64 : decode b_X_assume 64 = .ok (.iconst 1, 1) := by decide +kernel
theorem d_X_assume_65 : decode b_X_assume 65 = .ok (.ireturn, 1) := by decide +kernel
theorem d_X_drop_0 : decode b_X_drop 0 = .ok (.aload_n 0, 1) := by decide +kernel
theorem d_X_drop_1 : decode b_X_drop 1 = .ok (.getfield 110, 3) := by decide +kernel
theorem d_X_drop_4 : decode b_X_drop 4 = .ok (.ifCond .ne 5, 3) := by decide +kernel
theorem d_X_drop_7 : decode b_X_drop 7 = .ok (.iconst 0, 1) := by decide +kernel
theorem d_X_drop_8 : decode b_X_drop 8 = .ok (.ireturn, 1) := by decide +kernel
theorem d_X_drop_9 : decode b_X_drop 9 = .ok (.aload_n 0, 1) := by decide +kernel
theorem d_X_drop_10 : decode b_X_drop 10 = .ok (.dup, 1) := by decide +kernel
theorem d_X_drop_11 : decode b_X_drop 11 = .ok (.getfield 110, 3) := by decide +kernel
theorem d_X_drop_14 : decode b_X_drop 14 = .ok (.iconst 1, 1) := by decide +kernel
theorem d_X_drop_15 : decode b_X_drop 15 = .ok (.isub, 1) := by decide +kernel
theorem d_X_drop_16 : decode b_X_drop 16 = .ok (.putfield 110, 3) := by decide +kernel
theorem d_X_drop_19 : decode b_X_drop 19 = .ok (.iconst 0, 1) := by decide +kernel
theorem d_X_drop_20 : decode b_X_drop 20 = .ok (.istore_n 1, 1) := by decide +kernel
theorem d_X_drop_21 : decode b_X_drop 21 = .ok (.iload_n 1, 1) := by decide +kernel
theorem d_X_drop_22 : decode b_X_drop 22 = .ok (.aload_n 0, 1) := by decide +kernel
theorem d_X_drop_23 : decode b_X_drop 23 = .ok (.getfield 37, 3) := by decide +kernel
theorem d_X_drop_26 : decode b_X_drop 26 = .ok (.if_icmp .ge 30, 3) := by decide +kernel
theorem d_X_drop_29 : decode b_X_drop 29 = .ok (.aload_n 0, 1) := by decide +kernel
theorem d_X_drop_30 : decode b_X_drop 30 = .ok (.getfield 16, 3) := by decide +kernel
theorem d_X_drop_33 : decode b_X_drop 33 = .ok (.iload_n 1, 1) := by decide +kernel
theorem d_X_drop_34 : decode b_X_drop 34 = .ok (.iaload, 1) := by decide +kernel
theorem d_X_drop_35 : decode b_X_drop 35 = .ok (.aload_n 0, 1) := by decide +kernel
theorem d_X_drop_36 : decode b_X_drop 36 = .ok (.getfield 110, 3) := by decide +kernel
theorem d_X_drop_39 : decode b_X_drop 39 = .ok (.if_icmp .ne 11, 3) := by decide +kernel
theorem d_X_drop_42 : decode b_X_drop 42 = .ok (.aload_n 0, 1) := by decide +kernel
theorem d_X_drop_43 : decode b_X_drop 43 = .ok (.getfield 16, 3) := by decide +kernel
theorem d_X_drop_46 : decode b_X_drop 46 = .ok (.iload_n 1, 1) := by decide +kernel
theorem d_X_drop_47 : decode b_X_drop 47 = .ok (.bipush 12, 2) := by decide +kernel
theorem d_X_drop_49 : decode b_X_drop 49 = .ok (.iastore, 1) := by decide +kernel
theorem d_X_drop_50 : decode b_X_drop 50 = .ok (.iinc 1 1, 3) := by decide +kernel
theorem d_X_drop_53 : decode b_X_drop 53 = .ok (.goto (-32), 3) := by decide +kernel
theorem d_X_drop_56 : decode b_X_drop 56 = .ok (.aload_n 0, 1) := by decide +kernel
theorem d_X_drop_57 : decode b_X_drop 57 = .ok (.iconst 0, 1) := by decide +kernel
theorem d_X_drop_58 : decode b_X_drop 58 = .ok (.putfield 54, 3) := by decide +kernel
theorem d_X_drop_61 : decode b_X_drop 61 = .ok (.iconst 1, 1) := by decide +kernel
theorem d_X_drop_62 : decode b_X_drop 62 = .ok (.ireturn, 1) := by decide +kernel
theorem d_X_search_0 : decode b_X_search 0 = .ok (.iload_n 2, 1) := by decide +kernel
theorem d_X_search_1 : decode b_X_search 1 = .ok (.aload_n 0, 1) := by decide +kernel
theorem d_X_search_2 : decode b_X_search 2 = .ok (.getfield 9, 3) := by decide +kernel
theorem d_X_search_5 : decode b_X_search 5 = .ok (.iload_n 1, 1) := by decide +kernel
theorem d_X_search_6 : decode b_X_search 6 = .ok (.iaload, 1) := by decide +kernel
theorem d_X_search_7 : decode b_X_search 7 = .ok (.imul, 1) := by decide +kernel
theorem d_X_search_8 : decode b_X_search 8 = .ok (.iload_n 2, 1) := by decide +kernel
theorem d_X_search_9 : decode b_X_search 9 = .ok (.aload_n 0, 1) := by decide +kernel
theorem d_X_search_10 : decode b_X_search 10 = .ok (.getfield 13, 3) := by decide +kernel
theorem d_X_search_13 : decode b_X_search 13 = .ok (.iload_n 1, 1) := by decide +kernel
theorem d_X_search_14 : decode b_X_search 14 = .ok (.iaload, 1) := by decide +kernel
theorem d_X_search_15 : decode b_X_search 15 = .ok (.imul, 1) := by decide +kernel
theorem d_X_search_16 : decode b_X_search 16 = .ok (.invokestatic 141, 3) := by decide +kernel
theorem d_X_search_19 : decode b_X_search 19 = .ok (.istore_n 3, 1) := by decide +kernel
theorem d_X_search_20 : decode b_X_search 20 = .ok (.iconst 0, 1) := by decide +kernel
theorem d_X_search_21 : decode b_X_search 21 = .ok (.istore 4, 2) := by decide +kernel
theorem d_X_search_23 : decode b_X_search 23 = .ok (.aload_n 0, 1) := by decide +kernel
theorem d_X_search_24 : decode b_X_search 24 = .ok (.invokevirtual 123, 3) := by decide +kernel
theorem d_X_search_27 : decode b_X_search 27 = .ok (.iconst 0, 1) := by decide +kernel
theorem d_X_search_28 : decode b_X_search 28 = .ok (.istore 5, 2) := by decide +kernel
theorem d_X_search_30 : decode b_X_search 30 = .ok (.iload 5, 2) := by decide +kernel
theorem d_X_search_32 : decode b_X_search 32 = .ok (.aload_n 0, 1) := by decide +kernel
theorem d_X_search_33 : decode b_X_search 33 = .ok (.getfield 37, 3) := by decide +kernel
theorem d_X_search_36 : decode b_X_search 36 = .ok (.if_icmp .ge 90, 3) := by decide +kernel
theorem d_X_search_39 : decode b_X_search 39 = .ok (.aload_n 0, 1) := by decide +kernel
theorem d_X_search_40 : decode b_X_search 40 = .ok (.getfield 16, 3) := by decide +kernel
theorem d_X_search_43 : decode b_X_search 43 = .ok (.iload 5, 2) := by decide +kernel
theorem d_X_search_45 : decode b_X_search 45 = .ok (.iaload, 1) := by decide +kernel
theorem d_X_search_46 : decode b_X_search 46 = .ok (.bipush 12, 2) := by decide +kernel
theorem d_X_search_48 : decode b_X_search 48 = .ok (.if_icmp .ne 68, 3) := by decide +kernel
theorem d_X_search_51 : decode b_X_search 51 = .ok (.aload_n 0, 1) := by decide +kernel
theorem d_X_search_52 : decode b_X_search 52 = .ok (.invokevirtual 147, 3) := by decide +kernel
theorem d_X_search_55 : decode b_X_search 55 = .ok (.ifCond .eq 61, 3) := by decide +kernel
theorem d_X_search_58 : decode b_X_search 58 = .ok (.iload 4, 2) := by decide +kernel
theorem d_X_search_60 : decode b_X_search 60 = .ok (.ifCond .eq 22, 3) := by decide +kernel
theorem d_X_search_63 : decode b_X_search 63 = .ok (.iload_n 2, 1) := by decide +kernel
theorem d_X_search_64 : decode b_X_search 64 = .ok (.aload_n 0, 1) := by decide +kernel
theorem d_X_search_65 : decode b_X_search 65 = .ok (.getfield 31, 3) := by decide +kernel
theorem d_X_search_68 : decode b_X_search 68 = .ok (.iload_n 1, 1) := by decide +kernel
theorem d_X_search_69 : decode b_X_search 69 = .ok (.iaload, 1) := by decide +kernel
theorem d_X_search_70 : decode b_X_search 70 = .ok (.imul, 1) := by decide +kernel
theorem d_X_search_71 : decode b_X_search 71 = .ok (.iload_n 2, 1) := by decide +kernel
theorem d_X_search_72 : decode b_X_search 72 = .ok (.aload_n 0, 1) := by decide +kernel
theorem d_X_search_73 : decode b_X_search 73 = .ok (.getfield 34, 3) := by decide +kernel
theorem d_X_search_76 : decode b_X_search 76 = .ok (.iload_n 1, 1) := by decide +kernel
theorem d_X_search_77 : decode b_X_search 77 = .ok (.iaload, 1) := by decide +kernel
theorem d_X_search_78 : decode b_X_search 78 = .ok (.imul, 1) := by decide +kernel
theorem d_X_search_79 : decode b_X_search 79 = .ok (.if_icmp .ge 37, 3) := by decide +kernel
theorem d_X_search_82 : decode b_X_search 82 = .ok (.aload_n 0, 1) := by decide +kernel
theorem d_X_search_83 : decode b_X_search 83 = .ok (.getfield 31, 3) := by decide +kernel
theorem d_X_search_86 : decode b_X_search 86 = .ok (.iconst 0, 1) := by decide +kernel
theorem d_X_search_87 : decode b_X_search 87 = .ok (.aload_n 0, 1) := by decide +kernel
theorem d_X_search_88 : decode b_X_search 88 = .ok (.getfield 34, 3) := by decide +kernel
theorem d_X_search_91 : decode b_X_search 91 = .ok (.iconst 0, 1) := by decide +kernel
theorem d_X_search_92 : decode b_X_search 92 = .ok (.aload_n 0, 1) := by decide +kernel
theorem d_X_search_93 : decode b_X_search 93 = .ok (.getfield 47, 3) := by decide +kernel
theorem d_X_search_96 : decode b_X_search 96 = .ok (.invokestatic 135, 3) := by decide +kernel
theorem d_X_search_99 : decode b_X_search 99 = .ok (.iconst 1, 1) := by decide +kernel
theorem d_X_search_100 : decode b_X_search 100 = .ok (.istore 4, 2) := by decide +kernel
theorem d_X_search_102 : decode b_X_search 102 = .ok (.iload_n 2, 1) := by decide +kernel
theorem d_X_search_103 : decode b_X_search 103 = .ok (.aload_n 0, 1) := by decide +kernel
theorem d_X_search_104 : decode b_X_search 104 = .ok (.getfield 31, 3) := by decide +kernel
theorem d_X_search_107 : decode b_X_search 107 = .ok (.iload_n 1, 1) := by decide +kernel
theorem d_X_search_108 : decode b_X_search 108 = .ok (.iaload, 1) := by decide +kernel
theorem d_X_search_109 : decode b_X_search 109 = .ok (.imul, 1) := by decide +kernel
theorem d_X_search_110 : decode b_X_search 110 = .ok (.iload_n 3, 1) := by decide +kernel
theorem d_X_search_111 : decode b_X_search 111 = .ok (.if_icmp .ne 5, 3) := by decide +kernel
theorem d_X_search_114 : decode b_X_search 114 = .ok (.iconst 1, 1) := by decide +kernel
theorem d_X_search_115 : decode b_X_search 115 = .ok (.ireturn, 1) := by decide +kernel
theorem d_X_search_116 : decode b_X_search 116 = .ok (.aload_n 0, 1) := by decide +kernel
theorem d_X_search_117 : decode b_X_search 117 = .ok (.invokevirtual 132, 3) := by decide +kernel
theorem d_X_search_120 : decode b_X_search 120 = .ok (.iinc 5 1, 3) := by decide +kernel
theorem d_X_search_123 : decode b_X_search 123 = .ok (.goto (-93), 3) := by decide +kernel
theorem d_X_search_126 : decode b_X_search 126 = .ok (.iload 4, 2) := by decide +kernel
theorem d_X_search_128 : decode b_X_search 128 = .ok (.ireturn, 1) := by decide +kernel
theorem d_X_variable_0 : decode b_X_variable 0 = .ok (.iload_n 1, 1) := by decide +kernel
theorem d_X_variable_1 : decode b_X_variable 1 = .ok (.bipush (-20), 2) := by decide +kernel
theorem d_X_variable_3 : decode b_X_variable 3 = .ok (.if_icmp .lt 22, 3) := by decide +kernel
theorem d_X_variable_6 : decode b_X_variable 6 = .ok (.iload_n 1, 1) := by decide +kernel
theorem d_X_variable_7 : decode b_X_variable 7 = .ok (.iload_n 2, 1) := by decide +kernel
theorem d_X_variable_8 : decode b_X_variable 8 = .ok (.if_icmp .gt 17, 3) := by decide +kernel
theorem d_X_variable_11 : decode b_X_variable 11 = .ok (.iload_n 2, 1) := by decide +kernel
theorem d_X_variable_12 : decode b_X_variable 12 = .ok (.bipush 20, 2) := by decide +kernel
theorem d_X_variable_14 : decode b_X_variable 14 = .ok (.if_icmp .gt 11, 3) := by decide +kernel
theorem d_X_variable_17 : decode b_X_variable 17 = .ok (.iload_n 2, 1) := by decide +kernel
theorem d_X_variable_18 : decode b_X_variable 18 = .ok (.iload_n 1, 1) := by decide +kernel
theorem d_X_variable_19 : decode b_X_variable 19 = .ok (.isub, 1) := by decide +kernel
theorem d_X_variable_20 : decode b_X_variable 20 = .ok (.bipush 8, 2) := by decide +kernel
theorem d_X_variable_22 : decode b_X_variable 22 = .ok (.if_icmp .lt 5, 3) := by decide +kernel
theorem d_X_variable_25 : decode b_X_variable 25 = .ok (.iconst (-1), 1) := by decide +kernel
theorem d_X_variable_26 : decode b_X_variable 26 = .ok (.ireturn, 1) := by decide +kernel
theorem d_X_variable_27 : decode b_X_variable 27 = .ok (.iload_n 2, 1) := by decide +kernel
theorem d_X_variable_28 : decode b_X_variable 28 = .ok (.iload_n 1, 1) := by decide +kernel
theorem d_X_variable_29 : decode b_X_variable 29 = .ok (.isub, 1) := by decide +kernel
theorem d_X_variable_30 : decode b_X_variable 30 = .ok (.iconst 1, 1) := by decide +kernel
theorem d_X_variable_31 : decode b_X_variable 31 = .ok (.iadd, 1) := by decide +kernel
theorem d_X_variable_32 : decode b_X_variable 32 = .ok (.istore_n 3, 1) := by decide +kernel
theorem d_X_variable_33 : decode b_X_variable 33 = .ok (.aload_n 0, 1) := by decide +kernel
theorem d_X_variable_34 : decode b_X_variable 34 = .ok (.getfield 47, 3) := by decide +kernel
theorem d_X_variable_37 : decode b_X_variable 37 = .ok (.bipush 8, 2) := by decide +kernel
theorem d_X_variable_39 : decode b_X_variable 39 = .ok (.if_icmp .ge 15, 3) := by decide +kernel
theorem d_X_variable_42 : decode b_X_variable 42 = .ok (.aload_n 0, 1) := by decide +kernel
theorem d_X_variable_43 : decode b_X_variable 43 = .ok (.getfield 37, 3) := by decide +kernel
theorem d_X_variable_46 : decode b_X_variable 46 = .ok (.iload_n 3, 1) := by decide +kernel
theorem d_X_variable_47 : decode b_X_variable 47 = .ok (.imul, 1) := by decide +kernel
theorem d_X_variable_48 : decode b_X_variable 48 = .ok (.sipush 4096, 3) := by decide +kernel
theorem d_X_variable_51 : decode b_X_variable 51 = .ok (.if_icmp .le 6, 3) := by decide +kernel
theorem d_X_variable_54 : decode b_X_variable 54 = .ok (.bipush (-2), 2) := by decide +kernel
theorem d_X_variable_56 : decode b_X_variable 56 = .ok (.ireturn, 1) := by decide +kernel
theorem d_X_variable_57 : decode b_X_variable 57 = .ok (.aload_n 0, 1) := by decide +kernel
theorem d_X_variable_58 : decode b_X_variable 58 = .ok (.iload_n 3, 1) := by decide +kernel
theorem d_X_variable_59 : decode b_X_variable 59 = .ok (.invokevirtual 50, 3) := by decide +kernel
theorem d_X_variable_62 : decode b_X_variable 62 = .ok (.aload_n 0, 1) := by decide +kernel
theorem d_X_variable_63 : decode b_X_variable 63 = .ok (.getfield 9, 3) := by decide +kernel
theorem d_X_variable_66 : decode b_X_variable 66 = .ok (.aload_n 0, 1) := by decide +kernel
theorem d_X_variable_67 : decode b_X_variable 67 = .ok (.getfield 47, 3) := by decide +kernel
theorem d_X_variable_70 : decode b_X_variable 70 = .ok (.iload_n 1, 1) := by decide +kernel
theorem d_X_variable_71 : decode b_X_variable 71 = .ok (.iastore, 1) := by decide +kernel
theorem d_X_variable_72 : decode b_X_variable 72 = .ok (.aload_n 0, 1) := by decide +kernel
theorem d_X_variable_73 : decode b_X_variable 73 = .ok (.getfield 13, 3) := by decide +kernel
theorem d_X_variable_76 : decode b_X_variable 76 = .ok (.aload_n 0, 1) := by decide +kernel
theorem d_X_variable_77 : decode b_X_variable 77 = .ok (.getfield 47, 3) := by decide +kernel
theorem d_X_variable_80 : decode b_X_variable 80 = .ok (.iload_n 2, 1) := by decide +kernel
theorem d_X_variable_81 : decode b_X_variable 81 = .ok (.iastore, 1) := by decide +kernel
theorem d_X_variable_82 : decode b_X_variable 82 = .ok (.aload_n 0, 1) := by decide +kernel
theorem d_X_variable_83 : decode b_X_variable 83 = .ok (.iconst 0, 1) := by decide +kernel
theorem d_X_variable_84 : decode b_X_variable 84 = .ok (.putfield 54, 3) := by decide +kernel
theorem d_X_variable_87 : decode b_X_variable 87 = .ok (.aload_n 0, 1) := by decide +kernel
theorem d_X_variable_88 : decode b_X_variable 88 = .ok (.dup, 1) := by decide +kernel
theorem d_X_variable_89 : decode b_X_variable 89 = .ok (.getfield 47, 3) := by decide +kernel
theorem d_X_variable_92 : decode b_X_variable 92 = .ok (.dup_x1, 1) := by decide +kernel
theorem d_X_variable_93 : decode b_X_variable 93 = .ok (.iconst 1, 1) := by decide +kernel
theorem d_X_variable_94 : decode b_X_variable 94 = .ok (.iadd, 1) := by decide +kernel
theorem d_X_variable_95 : decode b_X_variable 95 = .ok (.putfield 47, 3) := by decide +kernel
theorem d_X_variable_98 : decode b_X_variable 98 = .ok (.ireturn, 1) := by decide +kernel
theorem d_X_solve_0 : decode b_X_solve 0 = .ok (.aload_n 0, 1) := by decide +kernel
theorem d_X_solve_1 : decode b_X_solve 1 = .ok (.aload_n 0, 1) := by decide +kernel
theorem d_X_solve_2 : decode b_X_solve 2 = .ok (.iconst 0, 1) := by decide +kernel
theorem d_X_solve_3 : decode b_X_solve 3 = .ok (.iconst 0, 1) := by decide +kernel
theorem d_X_solve_4 : decode b_X_solve 4 = .ok (.invokevirtual 116, 3) := by decide +kernel
theorem d_X_solve_7 : decode b_X_solve 7 = .ok (.invokevirtual 119, 3) := by decide +kernel
theorem d_X_solve_10 : decode b_X_solve 10 = .ok (.ireturn, 1) := by decide +kernel
theorem d_X_best_0 : decode b_X_best 0 = .ok (.aload_n 0, 1) := by decide +kernel
theorem d_X_best_1 : decode b_X_best 1 = .ok (.iload_n 1, 1) := by decide +kernel
theorem d_X_best_2 : decode b_X_best 2 = .ok (.invokevirtual 75, 3) := by decide +kernel
theorem d_X_best_5 : decode b_X_best 5 = .ok (.ifCond .eq 28, 3) := by decide +kernel
theorem d_X_best_8 : decode b_X_best 8 = .ok (.aload_n 0, 1) := by decide +kernel
theorem d_X_best_9 : decode b_X_best 9 = .ok (.aload_n 0, 1) := by decide +kernel
theorem d_X_best_10 : decode b_X_best 10 = .ok (.iload_n 1, 1) := by decide +kernel
theorem d_X_best_11 : decode b_X_best 11 = .ok (.iload_n 2, 1) := by decide +kernel
theorem d_X_best_12 : decode b_X_best 12 = .ok (.ifCond .eq 7, 3) := by decide +kernel
theorem d_X_best_15 : decode b_X_best 15 = .ok (.iconst (-1), 1) := by decide +kernel
theorem d_X_best_16 : decode b_X_best 16 = .ok (.goto 4, 3) := by decide +kernel
theorem d_X_best_19 : decode b_X_best 19 = .ok (.iconst 1, 1) := by decide +kernel
theorem d_X_best_20 : decode b_X_best 20 = .ok (.invokevirtual 116, 3) := by decide +kernel
theorem d_X_best_23 : decode b_X_best 23 = .ok (.invokevirtual 119, 3) := by decide +kernel
theorem d_X_best_26 : decode b_X_best 26 = .ok (.ifCond .eq 7, 3) := by decide +kernel
theorem d_X_best_29 : decode b_X_best 29 = .ok (.iconst 1, 1) := by decide +kernel
theorem d_X_best_30 : decode b_X_best 30 = .ok (.goto 4, 3) := by decide +kernel
theorem d_X_best_33 : decode b_X_best 33 = .ok (.iconst 0, 1) := by decide +kernel
theorem d_X_best_34 : decode b_X_best 34 = .ok (.ireturn, 1) := by decide +kernel
theorem d_X_least_0 : decode b_X_least 0 = .ok (.aload_n 0, 1) := by decide +kernel
theorem d_X_least_1 : decode b_X_least 1 = .ok (.iload_n 1, 1) := by decide +kernel
theorem d_X_least_2 : decode b_X_least 2 = .ok (.invokevirtual 75, 3) := by decide +kernel
theorem d_X_least_5 : decode b_X_least 5 = .ok (.ifCond .eq 21, 3) := by decide +kernel
theorem d_X_least_8 : decode b_X_least 8 = .ok (.aload_n 0, 1) := by decide +kernel
theorem d_X_least_9 : decode b_X_least 9 = .ok (.iload_n 1, 1) := by decide +kernel
theorem d_X_least_10 : decode b_X_least 10 = .ok (.iconst 1, 1) := by decide +kernel
theorem d_X_least_11 : decode b_X_least 11 = .ok (.invokevirtual 116, 3) := by decide +kernel
theorem d_X_least_14 : decode b_X_least 14 = .ok (.ifCond .eq 12, 3) := by decide +kernel
theorem d_X_least_17 : decode b_X_least 17 = .ok (.aload_n 0, 1) := by decide +kernel
theorem d_X_least_18 : decode b_X_least 18 = .ok (.getfield 34, 3) := by decide +kernel
theorem d_X_least_21 : decode b_X_least 21 = .ok (.iload_n 1, 1) := by decide +kernel
theorem d_X_least_22 : decode b_X_least 22 = .ok (.iaload, 1) := by decide +kernel
theorem d_X_least_23 : decode b_X_least 23 = .ok (.goto 6, 3) := by decide +kernel
theorem d_X_least_26 : decode b_X_least 26 = .ok (.sipush 1000, 3) := by decide +kernel
theorem d_X_least_29 : decode b_X_least 29 = .ok (.ireturn, 1) := by decide +kernel
theorem d_X_greatest_0 : decode b_X_greatest 0 = .ok (.aload_n 0, 1) := by decide +kernel
theorem d_X_greatest_1 : decode b_X_greatest 1 = .ok (.iload_n 1, 1) := by decide +kernel
theorem d_X_greatest_2 : decode b_X_greatest 2 = .ok (.invokevirtual 75, 3) := by decide +kernel
theorem d_X_greatest_5 : decode b_X_greatest 5 = .ok (.ifCond .eq 21, 3) := by decide +kernel
theorem d_X_greatest_8 : decode b_X_greatest 8 = .ok (.aload_n 0, 1) := by decide +kernel
theorem d_X_greatest_9 : decode b_X_greatest 9 = .ok (.iload_n 1, 1) := by decide +kernel
theorem d_X_greatest_10 : decode b_X_greatest 10 = .ok (.iconst (-1), 1) := by decide +kernel
theorem d_X_greatest_11 : decode b_X_greatest 11 = .ok (.invokevirtual 116, 3) := by decide +kernel
theorem d_X_greatest_14 : decode b_X_greatest 14 = .ok (.ifCond .eq 12, 3) := by decide +kernel
theorem d_X_greatest_17 : decode b_X_greatest 17 = .ok (.aload_n 0, 1) := by decide +kernel
theorem d_X_greatest_18 : decode b_X_greatest 18 = .ok (.getfield 34, 3) := by decide +kernel
theorem d_X_greatest_21 : decode b_X_greatest 21 = .ok (.iload_n 1, 1) := by decide +kernel
theorem d_X_greatest_22 : decode b_X_greatest 22 = .ok (.iaload, 1) := by decide +kernel
theorem d_X_greatest_23 : decode b_X_greatest 23 = .ok (.goto 6, 3) := by decide +kernel
theorem d_X_greatest_26 : decode b_X_greatest 26 = .ok (.sipush 1000, 3) := by decide +kernel
theorem d_X_greatest_29 : decode b_X_greatest 29 = .ok (.ireturn, 1) := by decide +kernel
theorem d_X_implies_0 : decode b_X_implies 0 = .ok (.aload_n 0, 1) := by decide +kernel
theorem d_X_implies_1 : decode b_X_implies 1 = .ok (.iload_n 1, 1) := by decide +kernel
theorem d_X_implies_2 : decode b_X_implies 2 = .ok (.invokevirtual 75, 3) := by decide +kernel
theorem d_X_implies_5 : decode b_X_implies 5 = .ok (.ifCond .eq 26, 3) := by decide +kernel
theorem d_X_implies_8 : decode b_X_implies 8 = .ok (.aload_n 0, 1) := by decide +kernel
theorem d_X_implies_9 : decode b_X_implies 9 = .ok (.iload_n 1, 1) := by decide +kernel
theorem d_X_implies_10 : decode b_X_implies 10 = .ok (.iconst (-1), 1) := by decide +kernel
theorem d_X_implies_11 : decode b_X_implies 11 = .ok (.invokevirtual 116, 3) := by decide +kernel
theorem d_X_implies_14 : decode b_X_implies 14 = .ok (.ifCond .eq 13, 3) := by decide +kernel
theorem d_X_implies_17 : decode b_X_implies 17 = .ok (.aload_n 0, 1) := by decide +kernel
theorem d_X_implies_18 : decode b_X_implies 18 = .ok (.getfield 34, 3) := by decide +kernel
theorem d_X_implies_21 : decode b_X_implies 21 = .ok (.iload_n 1, 1) := by decide +kernel
theorem d_X_implies_22 : decode b_X_implies 22 = .ok (.iaload, 1) := by decide +kernel
theorem d_X_implies_23 : decode b_X_implies 23 = .ok (.iload_n 2, 1) := by decide +kernel
theorem d_X_implies_24 : decode b_X_implies 24 = .ok (.if_icmp .gt 7, 3) := by decide +kernel
theorem d_X_implies_27 : decode b_X_implies 27 = .ok (.iconst 1, 1) := by decide +kernel
theorem d_X_implies_28 : decode b_X_implies 28 = .ok (.goto 4, 3) := by decide +kernel
theorem d_X_implies_31 : decode b_X_implies 31 = .ok (.iconst 0, 1) := by decide +kernel
theorem d_X_implies_32 : decode b_X_implies 32 = .ok (.ireturn, 1) := by decide +kernel
end
end
section
section
set_option maxRecDepth 100000 in
set_option maxHeartbeats 4000000 in
theorem c_isVariable (l : Launch) (D : va_G) (q : Nat → Nat) (n P k a : Nat) (z : Int32) (lo hi B av al ah an pt fd : Nat → Int32) (i : Int32) : Met l y_X_isVariable (wsm y_X_isVariable b_X_isVariable 2 (some .boolean)) { frames := 0, cells := 0, slots := 0, locals := 0 } (va_Pc [.ref (q 0), .int i] (cPre D (xw D q n P k a z lo hi B av al ah an pt fd))) (vp_Si (fun r => r = zb (decide (iv n i)))) 0 0 (fun _ => False) := by
  refine met_R (by decide) (Nat.le_of_ble_eq_true rfl) ?_
  intro p e s m below meth c ls hx hb hr hlocks hml hown hin hA hP hK hD hN hl
  have hown : s.vm.findClass R_X = some m.cls := hown
  have hl : lv_has ls 2 [(0, .ref (q 0)), (1, .int i)] := hl
  refine lv_iload_n hx hb d_X_isVariable_0 rfl (lv_at hl 1 rfl) ?_
  refine lv_if_lt (tgt := 16) hx hb d_X_isVariable_1 (by decide) (fun h1 => ?_) (fun h1 => ?_)
  · skip
    refine lv_iconst (v := 0) hx hb d_X_isVariable_16 (by decide) ?_
    exact eRz hx hb hr hlocks (by first | rfl | decide) (by first | exact zb_f (fun h => h.1 h1) | exact zb_f (fun h => h.2 h9)) d_X_isVariable_17
  · skip
    refine lv_iload_n hx hb d_X_isVariable_4 rfl (lv_at hl 1 rfl) ?_
    refine lv_aload_n hx hb d_X_isVariable_5 rfl (lv_at hl 0 rfl) ?_
    refine va_get (D := D) (ci := 0) (v := .int (nI n)) (C := R_X) (T := T_X) (N := 14) hx hb hA inA_X hown hK hP 0 rfl rfl 2 (by decide) (hA _ wd_27) (fun _ h9 => h9) rfl d_X_isVariable_6 ?_
    refine lv_icmp_ge (tgt := 16) hx hb d_X_isVariable_9 (by decide) (fun h9 => ?_) (fun h9 => ?_)
    · skip
      refine lv_iconst (v := 0) hx hb d_X_isVariable_16 (by decide) ?_
      exact eRz hx hb hr hlocks (by first | rfl | decide) (by first | exact zb_f (fun h => h.1 h1) | exact zb_f (fun h => h.2 h9)) d_X_isVariable_17
    · skip
      refine lv_iconst (v := 1) hx hb d_X_isVariable_12 (by decide) ?_
      refine lv_goto (tgt := 17) hx hb d_X_isVariable_13 (by decide) ?_
      exact eRz hx hb hr hlocks (by first | rfl | decide) (by first | exact zb_t (⟨h1, h9⟩)) d_X_isVariable_17
end
end
section
section
set_option maxRecDepth 100000 in
set_option maxHeartbeats 4000000 in
theorem c_isVariableOrAbsent (l : Launch) (D : va_G) (q : Nat → Nat) (n P k a : Nat) (z : Int32) (lo hi B av al ah an pt fd : Nat → Int32) (i : Int32) : Met l y_X_isVariableOrAbsent (wsm y_X_isVariableOrAbsent b_X_isVariableOrAbsent 2 (some .boolean)) { frames := 1, cells := 0, slots := 0, locals := 21 } (va_Pc [.ref (q 0), .int i] (cPre D (xw D q n P k a z lo hi B av al ah an pt fd))) (vp_Si (fun r => r = zb (decide (iva n i)))) 0 0 (fun _ => False) := by
  refine met_R (by decide) (Nat.le_of_ble_eq_true rfl) ?_
  intro p e s m below meth c ls hx hb hr hlocks hml hown hin hA hP hK hD hN hl
  have hown : s.vm.findClass R_X = some m.cls := hown
  have hl : lv_has ls 2 [(0, .ref (q 0)), (1, .int i)] := hl
  refine lv_iload_n hx hb d_X_isVariableOrAbsent_0 rfl (lv_at hl 1 rfl) ?_
  refine lv_iconst (v := (-1)) hx hb d_X_isVariableOrAbsent_1 (by decide) ?_
  refine lv_icmp_eq (tgt := 13) hx hb d_X_isVariableOrAbsent_2 (by decide) (fun h2 => ?_) (fun h2 => ?_)
  · skip
    refine lv_iconst (v := 1) hx hb d_X_isVariableOrAbsent_13 (by decide) ?_
    refine lv_goto (tgt := 18) hx hb d_X_isVariableOrAbsent_14 (by decide) ?_
    exact eRz hx hb hr hlocks (by first | rfl | decide) (by first | exact zb_t (Or.inl h2) | exact zb_t (Or.inr h7)) d_X_isVariableOrAbsent_18
  · skip
    refine lv_aload_n hx hb d_X_isVariableOrAbsent_5 rfl (lv_at hl 0 rfl) ?_
    refine lv_iload_n hx hb d_X_isVariableOrAbsent_6 rfl (lv_at hl 1 rfl) ?_
    refine rV (n := 1) (rest := []) hx hb hml hown hA (c_isVariable l D q n P k a z lo hi B av al ah an pt fd i) wv_X_75 ⟨by decide, by decide, by decide +kernel⟩ ⟨rfl, rfl, by decide, by decide⟩ rfl hl.1 ⟨Nat.le_of_ble_eq_true rfl, Nat.le_of_ble_eq_true rfl⟩ hP hK hD hN 0 0 rfl rfl rfl (Nat.le_of_ble_eq_true rfl) d_X_isVariableOrAbsent_7 (fun r hr9 => ?_)
    rcases zb_c hr9 with ⟨rfl, h7⟩ | ⟨rfl, h7⟩
    · skip
      refine lv_if_eq (tgt := 17) hx hb d_X_isVariableOrAbsent_10 (by decide) (fun h => absurd h (by decide)) (fun _ => ?_)
      refine lv_iconst (v := 1) hx hb d_X_isVariableOrAbsent_13 (by decide) ?_
      refine lv_goto (tgt := 18) hx hb d_X_isVariableOrAbsent_14 (by decide) ?_
      exact eRz hx hb hr hlocks (by first | rfl | decide) (by first | exact zb_t (Or.inl h2) | exact zb_t (Or.inr h7)) d_X_isVariableOrAbsent_18
    · skip
      refine lv_if_eq (tgt := 17) hx hb d_X_isVariableOrAbsent_10 (by decide) (fun _ => ?_) (fun h => absurd h (by decide))
      refine lv_iconst (v := 0) hx hb d_X_isVariableOrAbsent_17 (by decide) ?_
      exact eRz hx hb hr hlocks (by first | rfl | decide) (by first | exact zb_f (fun h => h.elim h2 h7)) d_X_isVariableOrAbsent_18
end
end
section
section
set_option maxRecDepth 100000 in
set_option maxHeartbeats 4000000 in
theorem c_areVariablesOrAbsent (l : Launch) (D : va_G) (q : Nat → Nat) (n P k a : Nat) (z : Int32) (lo hi B av al ah an pt fd : Nat → Int32) (i j v : Int32) : Met l y_X_areVariablesOrAbsent (wsm y_X_areVariablesOrAbsent b_X_areVariablesOrAbsent 4 (some .boolean)) { frames := 2, cells := 0, slots := 0, locals := 42 } (va_Pc [.ref (q 0), .int i, .int j, .int v] (cPre D (xw D q n P k a z lo hi B av al ah an pt fd))) (vp_Si (fun r => r = zb (decide (iva n i ∧ iva n j ∧ iva n v)))) 0 0 (fun _ => False) := by
  refine met_R (by decide) (Nat.le_of_ble_eq_true rfl) ?_
  intro p e s m below meth c ls hx hb hr hlocks hml hown hin hA hP hK hD hN hl
  have hown : s.vm.findClass R_X = some m.cls := hown
  have hl : lv_has ls 4 [(0, .ref (q 0)), (1, .int i), (2, .int j), (3, .int v)] := hl
  refine lv_aload_n hx hb d_X_areVariablesOrAbsent_0 rfl (lv_at hl 0 rfl) ?_
  refine lv_iload_n hx hb d_X_areVariablesOrAbsent_1 rfl (lv_at hl 1 rfl) ?_
  refine rV (n := 1) (rest := []) hx hb hml hown hA (c_isVariableOrAbsent l D q n P k a z lo hi B av al ah an pt fd i) wv_X_84 ⟨by decide, by decide, by decide +kernel⟩ ⟨rfl, rfl, by decide, by decide⟩ rfl hl.1 ⟨Nat.le_of_ble_eq_true rfl, Nat.le_of_ble_eq_true rfl⟩ hP hK hD hN 0 0 rfl rfl rfl (Nat.le_of_ble_eq_true rfl) d_X_areVariablesOrAbsent_2 (fun r hr9 => ?_)
  rcases zb_c hr9 with ⟨rfl, h2⟩ | ⟨rfl, h2⟩
  · skip
    refine lv_if_eq (tgt := 28) hx hb d_X_areVariablesOrAbsent_5 (by decide) (fun h => absurd h (by decide)) (fun _ => ?_)
    refine lv_aload_n hx hb d_X_areVariablesOrAbsent_8 rfl (lv_at hl 0 rfl) ?_
    refine lv_iload_n hx hb d_X_areVariablesOrAbsent_9 rfl (lv_at hl 2 rfl) ?_
    refine rV (n := 1) (rest := []) hx hb hml hown hA (c_isVariableOrAbsent l D q n P k a z lo hi B av al ah an pt fd j) wv_X_84 ⟨by decide, by decide, by decide +kernel⟩ ⟨rfl, rfl, by decide, by decide⟩ rfl hl.1 ⟨Nat.le_of_ble_eq_true rfl, Nat.le_of_ble_eq_true rfl⟩ hP hK hD hN 0 0 rfl rfl rfl (Nat.le_of_ble_eq_true rfl) d_X_areVariablesOrAbsent_10 (fun r hr9 => ?_)
    rcases zb_c hr9 with ⟨rfl, h10⟩ | ⟨rfl, h10⟩
    · skip
      refine lv_if_eq (tgt := 28) hx hb d_X_areVariablesOrAbsent_13 (by decide) (fun h => absurd h (by decide)) (fun _ => ?_)
      refine lv_aload_n hx hb d_X_areVariablesOrAbsent_16 rfl (lv_at hl 0 rfl) ?_
      refine lv_iload_n hx hb d_X_areVariablesOrAbsent_17 rfl (lv_at hl 3 rfl) ?_
      refine rV (n := 1) (rest := []) hx hb hml hown hA (c_isVariableOrAbsent l D q n P k a z lo hi B av al ah an pt fd v) wv_X_84 ⟨by decide, by decide, by decide +kernel⟩ ⟨rfl, rfl, by decide, by decide⟩ rfl hl.1 ⟨Nat.le_of_ble_eq_true rfl, Nat.le_of_ble_eq_true rfl⟩ hP hK hD hN 0 0 rfl rfl rfl (Nat.le_of_ble_eq_true rfl) d_X_areVariablesOrAbsent_18 (fun r hr9 => ?_)
      rcases zb_c hr9 with ⟨rfl, h18⟩ | ⟨rfl, h18⟩
      · skip
        refine lv_if_eq (tgt := 28) hx hb d_X_areVariablesOrAbsent_21 (by decide) (fun h => absurd h (by decide)) (fun _ => ?_)
        refine lv_iconst (v := 1) hx hb d_X_areVariablesOrAbsent_24 (by decide) ?_
        refine lv_goto (tgt := 29) hx hb d_X_areVariablesOrAbsent_25 (by decide) ?_
        exact eRz hx hb hr hlocks (by first | rfl | decide) (by first | exact zb_t (⟨h2, h10, h18⟩)) d_X_areVariablesOrAbsent_29
      · skip
        refine lv_if_eq (tgt := 28) hx hb d_X_areVariablesOrAbsent_21 (by decide) (fun _ => ?_) (fun h => absurd h (by decide))
        refine lv_iconst (v := 0) hx hb d_X_areVariablesOrAbsent_28 (by decide) ?_
        exact eRz hx hb hr hlocks (by first | rfl | decide) (by first | exact zb_f (fun h => h2 h.1) | exact zb_f (fun h => h10 h.2.1) | exact zb_f (fun h => h18 h.2.2)) d_X_areVariablesOrAbsent_29
    · skip
      refine lv_if_eq (tgt := 28) hx hb d_X_areVariablesOrAbsent_13 (by decide) (fun _ => ?_) (fun h => absurd h (by decide))
      refine lv_iconst (v := 0) hx hb d_X_areVariablesOrAbsent_28 (by decide) ?_
      exact eRz hx hb hr hlocks (by first | rfl | decide) (by first | exact zb_f (fun h => h2 h.1) | exact zb_f (fun h => h10 h.2.1) | exact zb_f (fun h => h18 h.2.2)) d_X_areVariablesOrAbsent_29
  · skip
    refine lv_if_eq (tgt := 28) hx hb d_X_areVariablesOrAbsent_5 (by decide) (fun _ => ?_) (fun h => absurd h (by decide))
    refine lv_iconst (v := 0) hx hb d_X_areVariablesOrAbsent_28 (by decide) ?_
    exact eRz hx hb hr hlocks (by first | rfl | decide) (by first | exact zb_f (fun h => h2 h.1) | exact zb_f (fun h => h10 h.2.1) | exact zb_f (fun h => h18 h.2.2)) d_X_areVariablesOrAbsent_29
end
end
section
section
set_option maxRecDepth 100000 in
set_option maxHeartbeats 4000000 in
theorem c_isSetOfVariables (l : Launch) (D : va_G) (q : Nat → Nat) (n P k a : Nat) (z : Int32) (lo hi B av al ah an pt fd : Nat → Int32) (t : Int32) : Met l y_X_isSetOfVariables (wsm y_X_isSetOfVariables b_X_isSetOfVariables 2 (some .boolean)) { frames := 0, cells := 0, slots := 0, locals := 0 } (va_Pc [.ref (q 0), .int t] (cPre D (xw D q n P k a z lo hi B av al ah an pt fd))) (vp_Si (fun r => r = zb (decide (ivs n t)))) 0 0 (fun _ => False) := by
  refine met_R (by decide) (Nat.le_of_ble_eq_true rfl) ?_
  intro p e s m below meth c ls hx hb hr hlocks hml hown hin hA hP hK hD hN hl
  have hown : s.vm.findClass R_X = some m.cls := hown
  have hl : lv_has ls 2 [(0, .ref (q 0)), (1, .int t)] := hl
  refine lv_iload_n hx hb d_X_isSetOfVariables_0 rfl (lv_at hl 1 rfl) ?_
  refine lv_if_lt (tgt := 18) hx hb d_X_isSetOfVariables_1 (by decide) (fun h1 => ?_) (fun h1 => ?_)
  · skip
    refine lv_iconst (v := 0) hx hb d_X_isSetOfVariables_18 (by decide) ?_
    exact eRz hx hb hr hlocks (by first | rfl | decide) (by first | exact zb_f (fun h => h.1 h1) | exact zb_f (fun h => h.2 h11)) d_X_isSetOfVariables_19
  · skip
    refine lv_iload_n hx hb d_X_isSetOfVariables_4 rfl (lv_at hl 1 rfl) ?_
    refine lv_iconst (v := 1) hx hb d_X_isSetOfVariables_5 (by decide) ?_
    refine lv_aload_n hx hb d_X_isSetOfVariables_6 rfl (lv_at hl 0 rfl) ?_
    refine va_get (D := D) (ci := 0) (v := .int (nI n)) (C := R_X) (T := T_X) (N := 14) hx hb hA inA_X hown hK hP 0 rfl rfl 2 (by decide) (hA _ wd_27) (fun _ h9 => h9) rfl d_X_isSetOfVariables_7 ?_
    refine lv_ishl hx hb d_X_isSetOfVariables_10 ?_
    refine lv_icmp_ge (tgt := 18) hx hb d_X_isSetOfVariables_11 (by decide) (fun h11 => ?_) (fun h11 => ?_)
    · skip
      refine lv_iconst (v := 0) hx hb d_X_isSetOfVariables_18 (by decide) ?_
      exact eRz hx hb hr hlocks (by first | rfl | decide) (by first | exact zb_f (fun h => h.1 h1) | exact zb_f (fun h => h.2 h11)) d_X_isSetOfVariables_19
    · skip
      refine lv_iconst (v := 1) hx hb d_X_isSetOfVariables_14 (by decide) ?_
      refine lv_goto (tgt := 19) hx hb d_X_isSetOfVariables_15 (by decide) ?_
      exact eRz hx hb hr hlocks (by first | rfl | decide) (by first | exact zb_t (⟨h1, h11⟩)) d_X_isSetOfVariables_19
end
end
section
section
set_option maxRecDepth 100000 in
set_option maxHeartbeats 4000000 in
theorem c_isWithin (l : Launch) (D : va_G) (x y : Int32) : Met l y_X_isWithin (wsm y_X_isWithin b_X_isWithin 2 (some .boolean)) { frames := 0, cells := 0, slots := 0, locals := 0 } (va_Pc [.int x, .int y] (cPre D ([]))) (vp_Si (fun r => r = zb (decide (wi x y)))) 0 0 (fun _ => False) := by
  refine met_R (by decide) (Nat.le_of_ble_eq_true rfl) ?_
  intro p e s m below meth c ls hx hb hr hlocks hml hown hin hA hP hK hD hN hl
  have hown : s.vm.findClass R_X = some m.cls := hown
  have hl : lv_has ls 2 [(0, .int x), (1, .int y)] := hl
  refine lv_iload_n hx hb d_X_isWithin_0 rfl (lv_at hl 0 rfl) ?_
  refine lv_iload_n hx hb d_X_isWithin_1 rfl (lv_at hl 1 rfl) ?_
  refine lv_ineg hx hb d_X_isWithin_2 ?_
  refine lv_icmp_lt (tgt := 15) hx hb d_X_isWithin_3 (by decide) (fun h3 => ?_) (fun h3 => ?_)
  · skip
    refine lv_iconst (v := 0) hx hb d_X_isWithin_15 (by decide) ?_
    exact eRz hx hb hr hlocks (by first | rfl | decide) (by first | exact zb_f (fun h => h.1 h3) | exact zb_f (fun h => h.2 h8)) d_X_isWithin_16
  · skip
    refine lv_iload_n hx hb d_X_isWithin_6 rfl (lv_at hl 0 rfl) ?_
    refine lv_iload_n hx hb d_X_isWithin_7 rfl (lv_at hl 1 rfl) ?_
    refine lv_icmp_gt (tgt := 15) hx hb d_X_isWithin_8 (by decide) (fun h8 => ?_) (fun h8 => ?_)
    · skip
      refine lv_iconst (v := 0) hx hb d_X_isWithin_15 (by decide) ?_
      exact eRz hx hb hr hlocks (by first | rfl | decide) (by first | exact zb_f (fun h => h.1 h3) | exact zb_f (fun h => h.2 h8)) d_X_isWithin_16
    · skip
      refine lv_iconst (v := 1) hx hb d_X_isWithin_11 (by decide) ?_
      refine lv_goto (tgt := 16) hx hb d_X_isWithin_12 (by decide) ?_
      exact eRz hx hb hr hlocks (by first | rfl | decide) (by first | exact zb_t (⟨h3, h8⟩)) d_X_isWithin_16
end
end
section
section
set_option maxRecDepth 100000 in
set_option maxHeartbeats 4000000 in
theorem c_isIn (l : Launch) (D : va_G) (i t : Int32) : Met l y_X_isIn (wsm y_X_isIn b_X_isIn 2 (some .boolean)) { frames := 0, cells := 0, slots := 0, locals := 0 } (va_Pc [.int i, .int t] (cPre D ([]))) (vp_Si (fun r => r = zb (decide (inS i t)))) 0 0 (fun _ => False) := by
  refine met_R (by decide) (Nat.le_of_ble_eq_true rfl) ?_
  intro p e s m below meth c ls hx hb hr hlocks hml hown hin hA hP hK hD hN hl
  have hown : s.vm.findClass R_X = some m.cls := hown
  have hl : lv_has ls 2 [(0, .int i), (1, .int t)] := hl
  refine lv_iload_n hx hb d_X_isIn_0 rfl (lv_at hl 1 rfl) ?_
  refine lv_iload_n hx hb d_X_isIn_1 rfl (lv_at hl 0 rfl) ?_
  refine lv_ishr hx hb d_X_isIn_2 ?_
  refine lv_iconst (v := 1) hx hb d_X_isIn_3 (by decide) ?_
  refine lv_iand hx hb d_X_isIn_4 ?_
  refine lv_iconst (v := 1) hx hb d_X_isIn_5 (by decide) ?_
  refine lv_icmp_ne (tgt := 13) hx hb d_X_isIn_6 (by decide) (fun h6 => ?_) (fun h6 => ?_)
  · skip
    refine lv_iconst (v := 0) hx hb d_X_isIn_13 (by decide) ?_
    exact eRz hx hb hr hlocks (by first | rfl | decide) (by first | exact zb_f (h6)) d_X_isIn_14
  · skip
    refine lv_iconst (v := 1) hx hb d_X_isIn_9 (by decide) ?_
    refine lv_goto (tgt := 14) hx hb d_X_isIn_10 (by decide) ?_
    exact eRz hx hb hr hlocks (by first | rfl | decide) (by first | exact zb_t (h6)) d_X_isIn_14
end
end
section
section
set_option maxRecDepth 100000 in
set_option maxHeartbeats 4000000 in
theorem c_variables (l : Launch) (D : va_G) (q : Nat → Nat) (n P k a : Nat) (z : Int32) (lo hi B av al ah an pt fd : Nat → Int32) : Met l y_X_variables (wsm y_X_variables b_X_variables 1 (some .int)) { frames := 0, cells := 0, slots := 0, locals := 0 } (va_Pc [.ref (q 0)] (cPre D (xw D q n P k a z lo hi B av al ah an pt fd))) (vp_Si (fun r => r = nI n)) 0 0 (fun _ => False) := by
  refine met_R (by decide) (Nat.le_of_ble_eq_true rfl) ?_
  intro p e s m below meth c ls hx hb hr hlocks hml hown hin hA hP hK hD hN hl
  have hown : s.vm.findClass R_X = some m.cls := hown
  have hl : lv_has ls 1 [(0, .ref (q 0))] := hl
  refine lv_aload_n hx hb d_X_variables_0 rfl (lv_at hl 0 rfl) ?_
  refine va_get (D := D) (ci := 0) (v := .int (nI n)) (C := R_X) (T := T_X) (N := 14) hx hb hA inA_X hown hK hP 0 rfl rfl 2 (by decide) (hA _ wd_27) (fun _ h9 => h9) rfl d_X_variables_1 ?_
  exact eR hx hb hr hlocks rfl d_X_variables_4
end
end
section
section
set_option maxRecDepth 100000 in
set_option maxHeartbeats 4000000 in
theorem c_constraints (l : Launch) (D : va_G) (q : Nat → Nat) (n P k a : Nat) (z : Int32) (lo hi B av al ah an pt fd : Nat → Int32) : Met l y_X_constraints (wsm y_X_constraints b_X_constraints 1 (some .int)) { frames := 0, cells := 0, slots := 0, locals := 0 } (va_Pc [.ref (q 0)] (cPre D (xw D q n P k a z lo hi B av al ah an pt fd))) (vp_Si (fun r => r = nI k)) 0 0 (fun _ => False) := by
  refine met_R (by decide) (Nat.le_of_ble_eq_true rfl) ?_
  intro p e s m below meth c ls hx hb hr hlocks hml hown hin hA hP hK hD hN hl
  have hown : s.vm.findClass R_X = some m.cls := hown
  have hl : lv_has ls 1 [(0, .ref (q 0))] := hl
  refine lv_aload_n hx hb d_X_constraints_0 rfl (lv_at hl 0 rfl) ?_
  refine va_get (D := D) (ci := 0) (v := .int (nI k)) (C := R_X) (T := T_X) (N := 14) hx hb hA inA_X hown hK hP 0 rfl rfl 5 (by decide) (hA _ wd_30) (fun _ h9 => h9) rfl d_X_constraints_1 ?_
  exact eR hx hb hr hlocks rfl d_X_constraints_4
end
end
section
section
set_option maxRecDepth 100000 in
set_option maxHeartbeats 4000000 in
theorem c_assumptions (l : Launch) (D : va_G) (q : Nat → Nat) (n P k a : Nat) (z : Int32) (lo hi B av al ah an pt fd : Nat → Int32) : Met l y_X_assumptions (wsm y_X_assumptions b_X_assumptions 1 (some .int)) { frames := 0, cells := 0, slots := 0, locals := 0 } (va_Pc [.ref (q 0)] (cPre D (xw D q n P k a z lo hi B av al ah an pt fd))) (vp_Si (fun r => r = nI a)) 0 0 (fun _ => False) := by
  refine met_R (by decide) (Nat.le_of_ble_eq_true rfl) ?_
  intro p e s m below meth c ls hx hb hr hlocks hml hown hin hA hP hK hD hN hl
  have hown : s.vm.findClass R_X = some m.cls := hown
  have hl : lv_has ls 1 [(0, .ref (q 0))] := hl
  refine lv_aload_n hx hb d_X_assumptions_0 rfl (lv_at hl 0 rfl) ?_
  refine va_get (D := D) (ci := 0) (v := .int (nI a)) (C := R_X) (T := T_X) (N := 14) hx hb hA inA_X hown hK hP 0 rfl rfl 9 (by decide) (hA _ wd_34) (fun _ h9 => h9) rfl d_X_assumptions_1 ?_
  exact eR hx hb hr hlocks rfl d_X_assumptions_4
end
end
section
section
set_option maxRecDepth 100000 in
set_option maxHeartbeats 4000000 in
theorem c_space (l : Launch) (D : va_G) (q : Nat → Nat) (n P k a : Nat) (z : Int32) (lo hi B av al ah an pt fd : Nat → Int32) : Met l y_X_space (wsm y_X_space b_X_space 1 (some .int)) { frames := 0, cells := 0, slots := 0, locals := 0 } (va_Pc [.ref (q 0)] (cPre D (xw D q n P k a z lo hi B av al ah an pt fd))) (vp_Si (fun r => r = nI P)) 0 0 (fun _ => False) := by
  refine met_R (by decide) (Nat.le_of_ble_eq_true rfl) ?_
  intro p e s m below meth c ls hx hb hr hlocks hml hown hin hA hP hK hD hN hl
  have hown : s.vm.findClass R_X = some m.cls := hown
  have hl : lv_has ls 1 [(0, .ref (q 0))] := hl
  refine lv_aload_n hx hb d_X_space_0 rfl (lv_at hl 0 rfl) ?_
  refine va_get (D := D) (ci := 0) (v := .int (nI P)) (C := R_X) (T := T_X) (N := 14) hx hb hA inA_X hown hK hP 0 rfl rfl 4 (by decide) (hA _ wd_29) (fun _ h9 => h9) rfl d_X_space_1 ?_
  exact eR hx hb hr hlocks rfl d_X_space_4
end
end
section
section
set_option maxRecDepth 100000 in
set_option maxHeartbeats 4000000 in
theorem c_value (l : Launch) (D : va_G) (q : Nat → Nat) (n P k a : Nat) (z : Int32) (lo hi B av al ah an pt fd : Nat → Int32) (i : Int32) (hn : n ≤ 8) : Met l y_X_value (wsm y_X_value b_X_value 2 (some .int)) { frames := 1, cells := 0, slots := 0, locals := 21 } (va_Pc [.ref (q 0), .int i] (cPre D (xw D q n P k a z lo hi B av al ah an pt fd))) (vp_Si (fun r => r = if ¬ z = 0 ∧ iv n i then an i.toNatClampNeg else 1000)) 0 0 (fun _ => False) := by
  refine met_R (by decide) (Nat.le_of_ble_eq_true rfl) ?_
  intro p e s m below meth c ls hx hb hr hlocks hml hown hin hA hP hK hD hN hl
  have hown : s.vm.findClass R_X = some m.cls := hown
  have hl : lv_has ls 2 [(0, .ref (q 0)), (1, .int i)] := hl
  refine lv_aload_n hx hb d_X_value_0 rfl (lv_at hl 0 rfl) ?_
  refine va_get (D := D) (ci := 0) (v := .int z) (C := R_X) (T := T_X) (N := 14) hx hb hA inA_X hown hK hP 0 rfl rfl 11 (by decide) (hA _ wd_36) (fun _ h9 => h9) rfl d_X_value_1 ?_
  refine lv_if_eq (tgt := 24) hx hb d_X_value_4 (by decide) (fun h4 => ?_) (fun h4 => ?_)
  · skip
    refine lv_sipush (v := 1000) hx hb d_X_value_24 (by decide) ?_
    exact eR hx hb hr hlocks (by first | exact Eq.symm (if_pos ⟨h4, h9⟩) | exact Eq.symm (if_neg (fun h : ¬ z = 0 ∧ iv n i => h9 h.2)) | exact Eq.symm (if_neg (fun h : ¬ z = 0 ∧ iv n i => h.1 h4))) d_X_value_27
  · skip
    refine lv_aload_n hx hb d_X_value_7 rfl (lv_at hl 0 rfl) ?_
    refine lv_iload_n hx hb d_X_value_8 rfl (lv_at hl 1 rfl) ?_
    refine rV (n := 1) (rest := []) hx hb hml hown hA (c_isVariable l D q n P k a z lo hi B av al ah an pt fd i) wv_X_75 ⟨by decide, by decide, by decide +kernel⟩ ⟨rfl, rfl, by decide, by decide⟩ rfl hl.1 ⟨Nat.le_of_ble_eq_true rfl, Nat.le_of_ble_eq_true rfl⟩ hP hK hD hN 0 0 rfl rfl rfl (Nat.le_of_ble_eq_true rfl) d_X_value_9 (fun r hr9 => ?_)
    rcases zb_c hr9 with ⟨rfl, h9⟩ | ⟨rfl, h9⟩
    · skip
      refine lv_if_eq (tgt := 24) hx hb d_X_value_12 (by decide) (fun h => absurd h (by decide)) (fun _ => ?_)
      refine lv_aload_n hx hb d_X_value_15 rfl (lv_at hl 0 rfl) ?_
      refine va_get (D := D) (ci := 0) (v := .ref (q 7)) (C := R_X) (T := T_X) (N := 14) hx hb hA inA_X hown hK hP 0 rfl rfl 10 (by decide) (hA _ wd_35) (fun _ h9 => h9) rfl d_X_value_16 ?_
      refine lv_iload_n hx hb d_X_value_19 rfl (lv_at hl 1 rfl) ?_
      refine va_iald hx hb hK hP 7 0 rfl rfl (iv_in h9 hn) d_X_value_20 ?_
      refine lv_goto (tgt := 27) hx hb d_X_value_21 (by decide) ?_
      exact eR hx hb hr hlocks (by first | exact Eq.symm (if_pos ⟨h4, h9⟩) | exact Eq.symm (if_neg (fun h : ¬ z = 0 ∧ iv n i => h9 h.2)) | exact Eq.symm (if_neg (fun h : ¬ z = 0 ∧ iv n i => h.1 h4))) d_X_value_27
    · skip
      refine lv_if_eq (tgt := 24) hx hb d_X_value_12 (by decide) (fun _ => ?_) (fun h => absurd h (by decide))
      refine lv_sipush (v := 1000) hx hb d_X_value_24 (by decide) ?_
      exact eR hx hb hr hlocks (by first | exact Eq.symm (if_pos ⟨h4, h9⟩) | exact Eq.symm (if_neg (fun h : ¬ z = 0 ∧ iv n i => h9 h.2)) | exact Eq.symm (if_neg (fun h : ¬ z = 0 ∧ iv n i => h.1 h4))) d_X_value_27
end
end
section
section
set_option maxRecDepth 100000 in
set_option maxHeartbeats 4000000 in
theorem c_goToFirstPoint (l : Launch) (D : va_G) (q : Nat → Nat) (n P k a : Nat) (z : Int32) (lo hi B av al ah an pt fd : Nat → Int32) (sz : Nat) (hn : n ≤ 8) : Met l y_X_goToFirstPoint (wsm y_X_goToFirstPoint b_X_goToFirstPoint 1 none) { frames := 1, cells := 0, slots := 0, locals := 18 } (va_Pc [.ref (q 0)] (fun U => U.heap.size = sz ∧ cPre D (xw D q n P k a z lo hi B av al ah an pt fd) U)) (va_Qv (fun u : XS => u = (n, P, k, a, z, lo, hi, B, av, al, ah, an, va_cpy lo pt 0 0 n, fd)) (fun u t => xB D (xW D q u) (va_A (xw D q n P k a z lo hi B av al ah an pt fd) sz) t) (va_A (xw D q n P k a z lo hi B av al ah an pt fd) sz)) 0 0 (va_A (xw D q n P k a z lo hi B av al ah an pt fd) sz) := by
  refine met_W (Qf := fun A => va_Qv (fun u : XS => u = (n, P, k, a, z, lo, hi, B, av, al, ah, an, va_cpy lo pt 0 0 n, fd)) (fun u t => xB D (xW D q u) A t) A) (by decide) (Nat.le_of_ble_eq_true rfl) ?_
  intro p e s m below meth c ls A hx hb hr hlocks hml hown hin hA hP hK hD hN hl hS hAA
  have hown : s.vm.findClass R_X = some m.cls := hown
  have hl : lv_has ls 1 [(0, .ref (q 0))] := hl
  refine lv_aload_n hx hb d_X_goToFirstPoint_0 rfl (lv_at hl 0 rfl) ?_
  refine va_get (D := D) (ci := 0) (v := .ref (q 1)) (C := R_X) (T := T_X) (N := 14) hx hb hA inA_X hown hK hP 0 rfl rfl 0 (by decide) (hA _ wd_25) (fun _ h9 => h9) rfl d_X_goToFirstPoint_1 ?_
  refine lv_iconst (v := 0) hx hb d_X_goToFirstPoint_4 (by decide) ?_
  refine lv_aload_n hx hb d_X_goToFirstPoint_5 rfl (lv_at hl 0 rfl) ?_
  refine va_get (D := D) (ci := 0) (v := .ref (q 8)) (C := R_X) (T := T_X) (N := 14) hx hb hA inA_X hown hK hP 0 rfl rfl 12 (by decide) (hA _ wd_37) (fun _ h9 => h9) rfl d_X_goToFirstPoint_6 ?_
  refine lv_iconst (v := 0) hx hb d_X_goToFirstPoint_9 (by decide) ?_
  refine lv_aload_n hx hb d_X_goToFirstPoint_10 rfl (lv_at hl 0 rfl) ?_
  refine va_get (D := D) (ci := 0) (v := .int (nI n)) (C := R_X) (T := T_X) (N := 14) hx hb hA inA_X hown hK hP 0 rfl rfl 2 (by decide) (hA _ wd_27) (fun _ h9 => h9) rfl d_X_goToFirstPoint_11 ?_
  refine xi_copy hx hb (hml.trans hl.1.symm) hown (hA _ wc_X_135.1) (hA _ wc_X_135.2.1) (hA _ wc_X_135.2.2.1) (hA _ wc_X_135.2.2.2) hK hP hD hS 1 8 rfl rfl (k := n) (hn) (by decide) (by decide) (by decide) (by decide) d_X_goToFirstPoint_14 (fun H locs hP hD hS => ?_)
  have hP : va_P D vwCl (xw D q n P k a z lo hi B av al ah an (va_cpy lo pt 0 0 n) fd) H := hP
  have hD : va_D A (xw D q n P k a z lo hi B av al ah an (va_cpy lo pt 0 0 n) fd) := hD
  exact eWv (n, P, k, a, z, lo, hi, B, av, al, ah, an, va_cpy lo pt 0 0 n, fd) hx hb hr hlocks hP hK hD hS (rfl) d_X_goToFirstPoint_17
end
end
section
section
set_option maxRecDepth 100000 in
set_option maxHeartbeats 4000000 in
theorem c_goToNextPoint (l : Launch) (D : va_G) (q : Nat → Nat) (n P k a : Nat) (z : Int32) (lo hi B av al ah an pt fd : Nat → Int32) (sz : Nat) (hn : n ≤ 8) : Met l y_X_goToNextPoint (wsm y_X_goToNextPoint b_X_goToNextPoint 2 none) { frames := 0, cells := 0, slots := 0, locals := 0 } (va_Pc [.ref (q 0)] (fun U => U.heap.size = sz ∧ cPre D (xw D q n P k a z lo hi B av al ah an pt fd) U)) (va_Qv (fun u : XS => u = (n, P, k, a, z, lo, hi, B, av, al, ah, an, nx lo hi n pt, fd)) (fun u t => xB D (xW D q u) (va_A (xw D q n P k a z lo hi B av al ah an pt fd) sz) t) (va_A (xw D q n P k a z lo hi B av al ah an pt fd) sz)) 0 0 (va_A (xw D q n P k a z lo hi B av al ah an pt fd) sz) := by
  refine met_W (Qf := fun A => va_Qv (fun u : XS => u = (n, P, k, a, z, lo, hi, B, av, al, ah, an, nx lo hi n pt, fd)) (fun u t => xB D (xW D q u) A t) A) (by decide) (Nat.le_of_ble_eq_true rfl) ?_
  intro p e s m below meth c ls A hx hb hr hlocks hml hown hin hA hP hK hD hN hl hS hAA
  have hown : s.vm.findClass R_X = some m.cls := hown
  have hl : lv_has ls 2 [(0, .ref (q 0))] := hl
  refine lv_aload_n hx hb d_X_goToNextPoint_0 rfl (lv_at hl 0 rfl) ?_
  refine va_get (D := D) (ci := 0) (v := .int (nI n)) (C := R_X) (T := T_X) (N := 14) hx hb hA inA_X hown hK hP 0 rfl rfl 2 (by decide) (hA _ wd_27) (fun _ h9 => h9) rfl d_X_goToNextPoint_1 ?_
  refine lv_iconst (v := 1) hx hb d_X_goToNextPoint_4 (by decide) ?_
  refine lv_isub hx hb d_X_goToNextPoint_5 ?_
  refine lv_istore_n hx hb d_X_goToNextPoint_6 rfl hl (by decide) rfl (fun ls hl => ?_)
  have hl : lv_has ls 2 [(1, .int ((nI n) - 1)), (0, .ref (q 0))] := hl
  have loop : ∀ (j : Nat) (x : Nat → Int32) (H : Heap) (locs : List Loc) (ls : Array Slot), j ≤ 8 → nx lo hi j x = nx lo hi n pt → lv_has ls 2 [(1, .int (nI j - 1)), (0, .ref (q 0))] → va_P D vwCl (xw D q n P k a z lo hi B av al ah an x fd) H → va_D A (xw D q n P k a z lo hi B av al ah an x fd) → va_S A s.heap H locs → W p l e { frames := 0, cells := 0, slots := 0, locals := 0 } s m [.ref (q 0)].toArray below meth c H locs 0 0 (MQ below (va_Qv (fun u : XS => u = (n, P, k, a, z, lo, hi, B, av, al, ah, an, nx lo hi n pt, fd)) (fun u t => xB D (xW D q u) A t) A) [.ref (q 0)].toArray s 0 0 A) (F0 m 7 ls []) := by
    intro j
    induction j with
    | zero =>
      intro x H locs ls hj hf hl hP hD hS
      refine lv_iload_n hx hb d_X_goToNextPoint_7 rfl (lv_at hl 0 rfl) ?_
      refine lv_if_lt (tgt := 55) hx hb d_X_goToNextPoint_8 (by decide) (fun h8 => ?_) (fun h => absurd (by decide) h)
      have hf2 : x = nx lo hi n pt := (by rw [← hf]; rfl)
      exact eWv (n, P, k, a, z, lo, hi, B, av, al, ah, an, x, fd) hx hb hr hlocks hP hK hD hS (by rw [hf2]) d_X_goToNextPoint_55
    | succ j ih =>
      intro x H locs ls hj hf hl hP hD hS
      rw [nI_pred] at hl
      refine lv_iload_n hx hb d_X_goToNextPoint_7 rfl (lv_at hl 0 rfl) ?_
      refine lv_if_lt (tgt := 55) hx hb d_X_goToNextPoint_8 (by decide) (fun h => absurd h (nI_pos (by omega))) (fun h8 => ?_)
      refine lv_aload_n hx hb d_X_goToNextPoint_11 rfl (lv_at hl 1 rfl) ?_
      refine va_get (D := D) (ci := 0) (v := .ref (q 8)) (C := R_X) (T := T_X) (N := 14) hx hb hA inA_X hown hK hP 0 rfl rfl 12 (by decide) (hA _ wd_37) (fun _ h9 => h9) rfl d_X_goToNextPoint_12 ?_
      refine lv_iload_n hx hb d_X_goToNextPoint_15 rfl (lv_at hl 0 rfl) ?_
      refine xi_ald hx hb hK hP 8 rfl (by omega) (by decide) d_X_goToNextPoint_16 ?_
      refine lv_aload_n hx hb d_X_goToNextPoint_17 rfl (lv_at hl 1 rfl) ?_
      refine va_get (D := D) (ci := 0) (v := .ref (q 2)) (C := R_X) (T := T_X) (N := 14) hx hb hA inA_X hown hK hP 0 rfl rfl 1 (by decide) (hA _ wd_26) (fun _ h9 => h9) rfl d_X_goToNextPoint_18 ?_
      refine lv_iload_n hx hb d_X_goToNextPoint_21 rfl (lv_at hl 0 rfl) ?_
      refine xi_ald hx hb hK hP 2 rfl (by omega) (by decide) d_X_goToNextPoint_22 ?_
      refine lv_icmp_ge (tgt := 37) hx hb d_X_goToNextPoint_23 (by decide) (fun h23 => ?_) (fun h23 => ?_)
      · skip
        refine lv_aload_n hx hb d_X_goToNextPoint_37 rfl (lv_at hl 1 rfl) ?_
        refine va_get (D := D) (ci := 0) (v := .ref (q 8)) (C := R_X) (T := T_X) (N := 14) hx hb hA inA_X hown hK hP 0 rfl rfl 12 (by decide) (hA _ wd_37) (fun _ h9 => h9) rfl d_X_goToNextPoint_38 ?_
        refine lv_iload_n hx hb d_X_goToNextPoint_41 rfl (lv_at hl 0 rfl) ?_
        refine lv_aload_n hx hb d_X_goToNextPoint_42 rfl (lv_at hl 1 rfl) ?_
        refine va_get (D := D) (ci := 0) (v := .ref (q 1)) (C := R_X) (T := T_X) (N := 14) hx hb hA inA_X hown hK hP 0 rfl rfl 0 (by decide) (hA _ wd_25) (fun _ h9 => h9) rfl d_X_goToNextPoint_43 ?_
        refine lv_iload_n hx hb d_X_goToNextPoint_46 rfl (lv_at hl 0 rfl) ?_
        refine xi_ald hx hb hK hP 1 rfl (by omega) (by decide) d_X_goToNextPoint_47 ?_
        refine xi_ast hx hb hK hP hD hS 8 rfl (by omega) (by decide) d_X_goToNextPoint_48 (fun H locs hP hD hS => ?_)
        have hP : va_P D vwCl (xw D q n P k a z lo hi B av al ah an (upd x j (lo j)) fd) H := hP
        have hD : va_D A (xw D q n P k a z lo hi B av al ah an (upd x j (lo j)) fd) := hD
        refine lv_iinc (v := nI j - 1) hx hb d_X_goToNextPoint_49 hl (k := 0) rfl (i32_dec _) (by decide) rfl (fun ls hl => ?_)
        have hl : lv_has ls 2 [(1, .int (nI j - 1)), (0, .ref (q 0))] := hl
        refine lv_goto (tgt := 7) hx hb d_X_goToNextPoint_52 (by decide) ?_
        exact ih _ _ _ _ (by omega) (by rw [← hf]; simp only [nx]; rw [if_neg (by simpa using h23)]) (lv_sub hl [0, 1] rfl) hP hD hS
      · skip
        refine lv_aload_n hx hb d_X_goToNextPoint_26 rfl (lv_at hl 1 rfl) ?_
        refine va_get (D := D) (ci := 0) (v := .ref (q 8)) (C := R_X) (T := T_X) (N := 14) hx hb hA inA_X hown hK hP 0 rfl rfl 12 (by decide) (hA _ wd_37) (fun _ h9 => h9) rfl d_X_goToNextPoint_27 ?_
        refine lv_iload_n hx hb d_X_goToNextPoint_30 rfl (lv_at hl 0 rfl) ?_
        refine lv_dup2_11 hx hb d_X_goToNextPoint_31 rfl rfl ?_
        refine xi_ald hx hb hK hP 8 rfl (by omega) (by decide) d_X_goToNextPoint_32 ?_
        refine lv_iconst (v := 1) hx hb d_X_goToNextPoint_33 (by decide) ?_
        refine lv_iadd hx hb d_X_goToNextPoint_34 ?_
        refine xi_ast hx hb hK hP hD hS 8 rfl (by omega) (by decide) d_X_goToNextPoint_35 (fun H locs hP hD hS => ?_)
        have hP : va_P D vwCl (xw D q n P k a z lo hi B av al ah an (upd x j ((x j) + 1)) fd) H := hP
        have hD : va_D A (xw D q n P k a z lo hi B av al ah an (upd x j ((x j) + 1)) fd) := hD
        have hf2 : upd x j ((x j) + 1) = nx lo hi n pt := (by rw [← hf]; simp only [nx]; rw [if_pos (by simpa using h23)])
        exact eWv (n, P, k, a, z, lo, hi, B, av, al, ah, an, upd x j ((x j) + 1), fd) hx hb hr hlocks hP hK hD hS (by rw [hf2]) d_X_goToNextPoint_36
  exact loop n pt _ _ _ hn rfl (lv_sub hl [0, 1] rfl) hP hD hS
end
end
section
section
set_option maxRecDepth 100000 in
set_option maxHeartbeats 4000000 in
theorem c_isAsAssumed (l : Launch) (D : va_G) (q : Nat → Nat) (n P k a : Nat) (z : Int32) (lo hi B av al ah an pt fd : Nat → Int32) (ha : a ≤ 8) (hav : ∀ m, m < a → vp_in (av m) 8) : Met l y_X_isAsAssumed (wsm y_X_isAsAssumed b_X_isAsAssumed 3 (some .boolean)) { frames := 0, cells := 0, slots := 0, locals := 0 } (va_Pc [.ref (q 0)] (cPre D (xw D q n P k a z lo hi B av al ah an pt fd))) (vp_Si (fun r => r = zb (decide (asall a av al ah pt)))) 0 0 (fun _ => False) := by
  refine met_R (by decide) (Nat.le_of_ble_eq_true rfl) ?_
  intro p e s m below meth c ls hx hb hr hlocks hml hown hin hA hP hK hD hN hl
  have hown : s.vm.findClass R_X = some m.cls := hown
  have hl : lv_has ls 3 [(0, .ref (q 0))] := hl
  refine lv_iconst (v := 0) hx hb d_X_isAsAssumed_0 (by decide) ?_
  refine lv_istore_n hx hb d_X_isAsAssumed_1 rfl hl (by decide) rfl (fun ls hl => ?_)
  have hl : lv_has ls 3 [(1, .int 0), (0, .ref (q 0))] := hl
  have loop : ∀ (t j : Nat) (ls : Array Slot), j + t = a → (∀ m, m < j → asok av al ah pt m) → lv_has ls 3 [(1, .int (nI j)), (0, .ref (q 0))] → W p l e { frames := 0, cells := 0, slots := 0, locals := 0 } s m [.ref (q 0)].toArray below meth c s.heap [] 0 0 (MQ below (vp_Si (fun r => r = zb (decide (asall a av al ah pt)))) [.ref (q 0)].toArray s 0 0 (fun _ => False)) (F0 m 2 ls []) := by
    intro t
    induction t with
    | zero =>
      intro j ls hj hok hl
      refine lv_iload_n hx hb d_X_isAsAssumed_2 rfl (lv_at hl 0 rfl) ?_
      refine lv_aload_n hx hb d_X_isAsAssumed_3 rfl (lv_at hl 1 rfl) ?_
      refine va_get (D := D) (ci := 0) (v := .int (nI a)) (C := R_X) (T := T_X) (N := 14) hx hb hA inA_X hown hK hP 0 rfl rfl 9 (by decide) (hA _ wd_34) (fun _ h9 => h9) rfl d_X_isAsAssumed_4 ?_
      refine lv_icmp_ge (tgt := 50) hx hb d_X_isAsAssumed_7 (by decide) (fun h7 => ?_) (fun h => absurd (nI_le (by omega) (by omega)) h)
      refine lv_iconst (v := 1) hx hb d_X_isAsAssumed_50 (by decide) ?_
      exact eRz hx hb hr hlocks (by first | rfl | decide) (zb_t (fun m hm => hok m (by omega))) d_X_isAsAssumed_51
    | succ t ih =>
      intro j ls hj hok hl
      refine lv_iload_n hx hb d_X_isAsAssumed_2 rfl (lv_at hl 0 rfl) ?_
      refine lv_aload_n hx hb d_X_isAsAssumed_3 rfl (lv_at hl 1 rfl) ?_
      refine va_get (D := D) (ci := 0) (v := .int (nI a)) (C := R_X) (T := T_X) (N := 14) hx hb hA inA_X hown hK hP 0 rfl rfl 9 (by decide) (hA _ wd_34) (fun _ h9 => h9) rfl d_X_isAsAssumed_4 ?_
      refine lv_icmp_ge (tgt := 50) hx hb d_X_isAsAssumed_7 (by decide) (fun h => absurd h (nI_ge (by omega) (by omega))) (fun h7 => ?_)
      refine lv_aload_n hx hb d_X_isAsAssumed_10 rfl (lv_at hl 1 rfl) ?_
      refine va_get (D := D) (ci := 0) (v := .ref (q 8)) (C := R_X) (T := T_X) (N := 14) hx hb hA inA_X hown hK hP 0 rfl rfl 12 (by decide) (hA _ wd_37) (fun _ h9 => h9) rfl d_X_isAsAssumed_11 ?_
      refine lv_aload_n hx hb d_X_isAsAssumed_14 rfl (lv_at hl 1 rfl) ?_
      refine va_get (D := D) (ci := 0) (v := .ref (q 4)) (C := R_X) (T := T_X) (N := 14) hx hb hA inA_X hown hK hP 0 rfl rfl 6 (by decide) (hA _ wd_31) (fun _ h9 => h9) rfl d_X_isAsAssumed_15 ?_
      refine lv_iload_n hx hb d_X_isAsAssumed_18 rfl (lv_at hl 0 rfl) ?_
      refine xi_ald hx hb hK hP 4 rfl (by omega) (by decide) d_X_isAsAssumed_19 ?_
      refine va_iald hx hb hK hP 8 0 rfl rfl (hav j (by omega)) d_X_isAsAssumed_20 ?_
      refine lv_istore_n hx hb d_X_isAsAssumed_21 rfl hl (by decide) rfl (fun ls hl => ?_)
      have hl : lv_has ls 3 [(2, .int (pt (av j).toNatClampNeg)), (1, .int (nI j)), (0, .ref (q 0))] := hl
      refine lv_iload_n hx hb d_X_isAsAssumed_22 rfl (lv_at hl 0 rfl) ?_
      refine lv_aload_n hx hb d_X_isAsAssumed_23 rfl (lv_at hl 2 rfl) ?_
      refine va_get (D := D) (ci := 0) (v := .ref (q 5)) (C := R_X) (T := T_X) (N := 14) hx hb hA inA_X hown hK hP 0 rfl rfl 7 (by decide) (hA _ wd_32) (fun _ h9 => h9) rfl d_X_isAsAssumed_24 ?_
      refine lv_iload_n hx hb d_X_isAsAssumed_27 rfl (lv_at hl 1 rfl) ?_
      refine xi_ald hx hb hK hP 5 rfl (by omega) (by decide) d_X_isAsAssumed_28 ?_
      refine lv_icmp_lt (tgt := 42) hx hb d_X_isAsAssumed_29 (by decide) (fun h29 => ?_) (fun h29 => ?_)
      · skip
        refine lv_iconst (v := 0) hx hb d_X_isAsAssumed_42 (by decide) ?_
        exact eRz hx hb hr hlocks (by first | rfl | decide) (by first | exact zb_f (fun h => (h j (by omega)).1 h29) | exact zb_f (fun h => h39 (h j (by omega)).2)) d_X_isAsAssumed_43
      · skip
        refine lv_iload_n hx hb d_X_isAsAssumed_32 rfl (lv_at hl 0 rfl) ?_
        refine lv_aload_n hx hb d_X_isAsAssumed_33 rfl (lv_at hl 2 rfl) ?_
        refine va_get (D := D) (ci := 0) (v := .ref (q 6)) (C := R_X) (T := T_X) (N := 14) hx hb hA inA_X hown hK hP 0 rfl rfl 8 (by decide) (hA _ wd_33) (fun _ h9 => h9) rfl d_X_isAsAssumed_34 ?_
        refine lv_iload_n hx hb d_X_isAsAssumed_37 rfl (lv_at hl 1 rfl) ?_
        refine xi_ald hx hb hK hP 6 rfl (by omega) (by decide) d_X_isAsAssumed_38 ?_
        refine lv_icmp_le (tgt := 44) hx hb d_X_isAsAssumed_39 (by decide) (fun h39 => ?_) (fun h39 => ?_)
        · skip
          refine lv_iinc (v := nI (j + 1)) hx hb d_X_isAsAssumed_44 hl (k := 1) rfl (by rw [nI_succ]; rfl) (by decide) rfl (fun ls hl => ?_)
          have hl : lv_has ls 3 [(1, .int (nI (j + 1))), (2, .int (pt (av j).toNatClampNeg)), (0, .ref (q 0))] := hl
          refine lv_goto (tgt := 2) hx hb d_X_isAsAssumed_47 (by decide) ?_
          exact ih (j + 1) _ (by omega) (lt_s hok ⟨h29, h39⟩) (lv_sub hl [0, 2] rfl)
        · skip
          refine lv_iconst (v := 0) hx hb d_X_isAsAssumed_42 (by decide) ?_
          exact eRz hx hb hr hlocks (by first | rfl | decide) (by first | exact zb_f (fun h => (h j (by omega)).1 h29) | exact zb_f (fun h => h39 (h j (by omega)).2)) d_X_isAsAssumed_43
  exact loop a 0 _ (by omega) (fun m h => absurd h (by omega)) (lv_sub hl [0, 1] rfl)
end
end
section
section
set_option maxRecDepth 100000 in
set_option maxHeartbeats 4000000 in
theorem c_splitPoints (l : Launch) (D : va_G) (q : Nat → Nat) (n P k a : Nat) (z : Int32) (lo hi B av al ah an pt fd : Nat → Int32) (v : Nat) (sz : Nat) (hv : 1 ≤ v) (hv8 : v ≤ 8) (hPv : P * v ≤ 4096) (hP4 : P ≤ 4096) : Met l y_X_splitPoints (wsm y_X_splitPoints b_X_splitPoints 5 none) { frames := 0, cells := 0, slots := 0, locals := 0 } (va_Pc [.ref (q 0), .int (nI v)] (fun U => U.heap.size = sz ∧ cPre D (xw D q n P k a z lo hi B av al ah an pt fd) U)) (va_Qv (fun u : XS => ∃ Bn, spI v P 0 B Bn ∧ u = (n, P * v, k, a, z, lo, hi, Bn, av, al, ah, an, pt, fd)) (fun u t => xB D (xW D q u) (va_A (xw D q n P k a z lo hi B av al ah an pt fd) sz) t) (va_A (xw D q n P k a z lo hi B av al ah an pt fd) sz)) 0 0 (va_A (xw D q n P k a z lo hi B av al ah an pt fd) sz) := by
  refine met_W (Qf := fun A => va_Qv (fun u : XS => ∃ Bn, spI v P 0 B Bn ∧ u = (n, P * v, k, a, z, lo, hi, Bn, av, al, ah, an, pt, fd)) (fun u t => xB D (xW D q u) A t) A) (by decide) (Nat.le_of_ble_eq_true rfl) ?_
  intro p e s m below meth c ls A hx hb hr hlocks hml hown hin hA hP hK hD hN hl hS hAA
  have hown : s.vm.findClass R_X = some m.cls := hown
  have hl : lv_has ls 5 [(0, .ref (q 0)), (1, .int (nI v))] := hl
  refine lv_aload_n hx hb d_X_splitPoints_0 rfl (lv_at hl 0 rfl) ?_
  refine va_get (D := D) (ci := 0) (v := .int (nI P)) (C := R_X) (T := T_X) (N := 14) hx hb hA inA_X hown hK hP 0 rfl rfl 4 (by decide) (hA _ wd_29) (fun _ h9 => h9) rfl d_X_splitPoints_1 ?_
  refine lv_iconst (v := 1) hx hb d_X_splitPoints_4 (by decide) ?_
  refine lv_isub hx hb d_X_splitPoints_5 ?_
  refine lv_istore_n hx hb d_X_splitPoints_6 rfl hl (by decide) rfl (fun ls hl => ?_)
  have hl : lv_has ls 5 [(2, .int ((nI P) - 1)), (0, .ref (q 0)), (1, .int (nI v))] := hl
  have loop : ∀ (j : Nat) (Bc : Nat → Int32) (H : Heap) (locs : List Loc) (ls : Array Slot), j ≤ P → spI v P j B Bc → lv_has ls 5 [(2, .int (nI j - 1)), (0, .ref (q 0)), (1, .int (nI v))] → va_P D vwCl (xw D q n P k a z lo hi Bc av al ah an pt fd) H → va_D A (xw D q n P k a z lo hi Bc av al ah an pt fd) → va_S A s.heap H locs → W p l e { frames := 0, cells := 0, slots := 0, locals := 0 } s m [.ref (q 0), .int (nI v)].toArray below meth c H locs 0 0 (MQ below (va_Qv (fun u : XS => ∃ Bn, spI v P 0 B Bn ∧ u = (n, P * v, k, a, z, lo, hi, Bn, av, al, ah, an, pt, fd)) (fun u t => xB D (xW D q u) A t) A) [.ref (q 0), .int (nI v)].toArray s 0 0 A) (F0 m 7 ls []) := by
    intro j
    induction j with
    | zero =>
      intro Bc H locs ls hj hI hl hP hD hS
      refine lv_iload_n hx hb d_X_splitPoints_7 rfl (lv_at hl 0 rfl) ?_
      refine lv_if_lt (tgt := 51) hx hb d_X_splitPoints_8 (by decide) (fun h8 => ?_) (fun h => absurd (by decide) h)
      refine lv_aload_n hx hb d_X_splitPoints_51 rfl (lv_at hl 1 rfl) ?_
      refine lv_aload_n hx hb d_X_splitPoints_52 rfl (lv_at hl 1 rfl) ?_
      refine va_get (D := D) (ci := 0) (v := .int (nI P)) (C := R_X) (T := T_X) (N := 14) hx hb hA inA_X hown hK hP 0 rfl rfl 4 (by decide) (hA _ wd_29) (fun _ h9 => h9) rfl d_X_splitPoints_53 ?_
      refine lv_iload_n hx hb d_X_splitPoints_56 rfl (lv_at hl 2 rfl) ?_
      refine lv_imul hx hb d_X_splitPoints_57 ?_
      refine topi_to (v := nI (P * v)) (by rw [pk_mul]) ?_
      refine va_put (D := D) (ci := 0) (v := .int (nI (P * v))) (ty := .int) (C := R_X) (T := T_X) (N := 14) hx hb hA inA_X ty_X tok_X nm_X hown hK hP hD hS 0 rfl rfl 4 (by decide) (hA _ wd_29) (fun _ h9 => h9) rfl (by decide +kernel) (by first | rfl | decide) (by first | rfl | decide) (Nat.le_of_ble_eq_true rfl) d_X_splitPoints_58 (fun H locs hP hD hS => ?_)
      have hP : va_P D vwCl (xw D q n (P * v) k a z lo hi Bc av al ah an pt fd) H := hP
      have hD : va_D A (xw D q n (P * v) k a z lo hi Bc av al ah an pt fd) := hD
      exact eWv (n, (P * v), k, a, z, lo, hi, Bc, av, al, ah, an, pt, fd) hx hb hr hlocks hP hK hD hS (⟨_, hI, rfl⟩) d_X_splitPoints_61
    | succ j ih =>
      intro Bc H locs ls hj hI hl hP hD hS
      rw [nI_pred] at hl
      refine lv_iload_n hx hb d_X_splitPoints_7 rfl (lv_at hl 0 rfl) ?_
      refine lv_if_lt (tgt := 51) hx hb d_X_splitPoints_8 (by decide) (fun h => absurd h (nI_pos (by omega))) (fun h8 => ?_)
      refine lv_aload_n hx hb d_X_splitPoints_11 rfl (lv_at hl 1 rfl) ?_
      refine va_get (D := D) (ci := 0) (v := .ref (q 3)) (C := R_X) (T := T_X) (N := 14) hx hb hA inA_X hown hK hP 0 rfl rfl 3 (by decide) (hA _ wd_28) (fun _ h9 => h9) rfl d_X_splitPoints_12 ?_
      refine lv_iload_n hx hb d_X_splitPoints_15 rfl (lv_at hl 0 rfl) ?_
      refine xi_ald hx hb hK hP 3 rfl (by omega) (by decide) d_X_splitPoints_16 ?_
      refine topi_to (v := B j) (hI.1 j (by omega)) ?_
      refine lv_istore_n hx hb d_X_splitPoints_17 rfl hl (by decide) rfl (fun ls hl => ?_)
      have hl : lv_has ls 5 [(3, .int (B j)), (2, .int (nI j)), (0, .ref (q 0)), (1, .int (nI v))] := hl
      refine lv_iconst (v := 0) hx hb d_X_splitPoints_18 (by decide) ?_
      refine lv_istore hx hb d_X_splitPoints_19 hl (by decide) rfl (fun ls hl => ?_)
      have hl : lv_has ls 5 [(4, .int 0), (3, .int (B j)), (2, .int (nI j)), (0, .ref (q 0)), (1, .int (nI v))] := hl
      have inner : ∀ (t r : Nat) (Bd : Nat → Int32) (H : Heap) (locs : List Loc) (ls : Array Slot), r + t = v → spJ v P j r B Bd → lv_has ls 5 [(4, .int (nI r)), (3, .int (B j)), (2, .int (nI j)), (0, .ref (q 0)), (1, .int (nI v))] → va_P D vwCl (xw D q n P k a z lo hi Bd av al ah an pt fd) H → va_D A (xw D q n P k a z lo hi Bd av al ah an pt fd) → va_S A s.heap H locs → W p l e { frames := 0, cells := 0, slots := 0, locals := 0 } s m [.ref (q 0), .int (nI v)].toArray below meth c H locs 0 0 (MQ below (va_Qv (fun u : XS => ∃ Bn, spI v P 0 B Bn ∧ u = (n, P * v, k, a, z, lo, hi, Bn, av, al, ah, an, pt, fd)) (fun u t => xB D (xW D q u) A t) A) [.ref (q 0), .int (nI v)].toArray s 0 0 A) (F0 m 21 ls []) := by
        intro t
        induction t with
        | zero =>
          intro r Bd H locs ls hr9 hJ hl hP hD hS
          have hJ : spJ v P j v B Bd := (show r = v by omega) ▸ hJ
          refine lv_iload hx hb d_X_splitPoints_21 (lv_at hl 0 rfl) ?_
          refine lv_iload_n hx hb d_X_splitPoints_23 rfl (lv_at hl 4 rfl) ?_
          refine lv_icmp_ge (tgt := 45) hx hb d_X_splitPoints_24 (by decide) (fun h24 => ?_) (fun h => absurd (nI_le (by omega) (by omega)) h)
          refine lv_iinc (v := nI j - 1) hx hb d_X_splitPoints_45 hl (k := 2) rfl (i32_dec _) (by decide) rfl (fun ls hl => ?_)
          have hl : lv_has ls 5 [(2, .int (nI j - 1)), (4, .int (nI r)), (3, .int (B j)), (0, .ref (q 0)), (1, .int (nI v))] := hl
          refine lv_goto (tgt := 7) hx hb d_X_splitPoints_48 (by decide) ?_
          exact ih _ _ _ _ (by omega) (spJ_I hJ) (lv_sub hl [0, 3, 4] rfl) hP hD hS
        | succ t ih2 =>
          intro r Bd H locs ls hr9 hJ hl hP hD hS
          refine lv_iload hx hb d_X_splitPoints_21 (lv_at hl 0 rfl) ?_
          refine lv_iload_n hx hb d_X_splitPoints_23 rfl (lv_at hl 4 rfl) ?_
          refine lv_icmp_ge (tgt := 45) hx hb d_X_splitPoints_24 (by decide) (fun h => absurd h (nI_ge (by omega) (by omega))) (fun h24 => ?_)
          refine lv_aload_n hx hb d_X_splitPoints_27 rfl (lv_at hl 3 rfl) ?_
          refine va_get (D := D) (ci := 0) (v := .ref (q 3)) (C := R_X) (T := T_X) (N := 14) hx hb hA inA_X hown hK hP 0 rfl rfl 3 (by decide) (hA _ wd_28) (fun _ h9 => h9) rfl d_X_splitPoints_28 ?_
          refine lv_iload_n hx hb d_X_splitPoints_31 rfl (lv_at hl 2 rfl) ?_
          refine lv_iload_n hx hb d_X_splitPoints_32 rfl (lv_at hl 4 rfl) ?_
          refine lv_imul hx hb d_X_splitPoints_33 ?_
          refine lv_iload hx hb d_X_splitPoints_34 (lv_at hl 0 rfl) ?_
          refine lv_iadd hx hb d_X_splitPoints_36 ?_
          refine topi_to (v := nI (j * v + r)) (by rw [pk_mul, nI_add]) ?_
          refine lv_iload_n hx hb d_X_splitPoints_37 rfl (lv_at hl 1 rfl) ?_
          refine xi_ast hx hb hK hP hD hS 3 rfl (sp_lt (by omega) (by omega) hPv) (by decide) d_X_splitPoints_38 (fun H locs hP hD hS => ?_)
          have hP : va_P D vwCl (xw D q n P k a z lo hi (upd Bd (j * v + r) (B j)) av al ah an pt fd) H := hP
          have hD : va_D A (xw D q n P k a z lo hi (upd Bd (j * v + r) (B j)) av al ah an pt fd) := hD
          refine lv_iinc (v := nI (r + 1)) hx hb d_X_splitPoints_39 hl (k := 0) rfl (by rw [nI_succ]; rfl) (by decide) rfl (fun ls hl => ?_)
          have hl : lv_has ls 5 [(4, .int (nI (r + 1))), (3, .int (B j)), (2, .int (nI j)), (0, .ref (q 0)), (1, .int (nI v))] := hl
          refine lv_goto (tgt := 21) hx hb d_X_splitPoints_42 (by decide) ?_
          exact ih2 (r + 1) _ _ _ _ (by omega) (spJ_s (by omega) (by omega) hJ) (lv_sub hl [0, 1, 2, 3, 4] rfl) hP hD hS
      exact inner v 0 _ _ _ _ (by omega) (spI_J hI) (lv_sub hl [0, 1, 2, 3, 4] rfl) hP hD hS
  exact loop P B _ _ _ (Nat.le_refl _) (spI_0 v P B) (lv_sub hl [0, 1, 2] rfl) hP hD hS
end
end
section
section
set_option maxRecDepth 100000 in
set_option maxHeartbeats 4000000 in
theorem c_keepAsAnswer (l : Launch) (D : va_G) (q : Nat → Nat) (n P k a : Nat) (z : Int32) (lo hi B av al ah an pt fd : Nat → Int32) (t : Int32) (sz : Nat) (hn : n ≤ 8) (ht : t = 0 ∨ t = 1) : Met l y_X_keepAsAnswer (wsm y_X_keepAsAnswer b_X_keepAsAnswer 2 (some .boolean)) { frames := 1, cells := 0, slots := 0, locals := 18 } (va_Pc [.ref (q 0), .int t] (fun U => U.heap.size = sz ∧ cPre D (xw D q n P k a z lo hi B av al ah an pt fd) U)) (va_Qi (fun (r : Int32) (u : XS) => r = t ∧ u = (n, P, k, a, t, lo, hi, B, av, al, ah, if t = 0 then an else va_cpy fd an 0 0 n, pt, fd)) (fun u t => xB D (xW D q u) (va_A (xw D q n P k a z lo hi B av al ah an pt fd) sz) t) (va_A (xw D q n P k a z lo hi B av al ah an pt fd) sz)) 0 0 (va_A (xw D q n P k a z lo hi B av al ah an pt fd) sz) := by
  refine met_W (Qf := fun A => va_Qi (fun (r : Int32) (u : XS) => r = t ∧ u = (n, P, k, a, t, lo, hi, B, av, al, ah, if t = 0 then an else va_cpy fd an 0 0 n, pt, fd)) (fun u t => xB D (xW D q u) A t) A) (by decide) (Nat.le_of_ble_eq_true rfl) ?_
  intro p e s m below meth c ls A hx hb hr hlocks hml hown hin hA hP hK hD hN hl hS hAA
  have hown : s.vm.findClass R_X = some m.cls := hown
  have hl : lv_has ls 2 [(0, .ref (q 0)), (1, .int t)] := hl
  rcases ht with rfl | rfl
  · skip
    have hl : lv_has ls 2 [(0, .ref (q 0)), (1, .int 0)] := hl
    refine lv_iload_n hx hb d_X_keepAsAnswer_0 rfl (lv_at hl 1 rfl) ?_
    refine lv_if_eq (tgt := 21) hx hb d_X_keepAsAnswer_1 (by decide) (fun _ => ?_) (fun h => absurd h (by decide))
    refine lv_aload_n hx hb d_X_keepAsAnswer_21 rfl (lv_at hl 0 rfl) ?_
    refine lv_iload_n hx hb d_X_keepAsAnswer_22 rfl (lv_at hl 1 rfl) ?_
    refine va_put (D := D) (ci := 0) (v := .int 0) (ty := .boolean) (C := R_X) (T := T_X) (N := 14) hx hb hA inA_X ty_X tok_X nm_X hown hK hP hD hS 0 rfl rfl 11 (by decide) (hA _ wd_36) (fun _ h9 => h9) rfl (by decide +kernel) (by first | rfl | decide) (by first | rfl | decide) (Nat.le_of_ble_eq_true rfl) d_X_keepAsAnswer_23 (fun H locs hP hD hS => ?_)
    have hP : va_P D vwCl (xw D q n P k a 0 lo hi B av al ah an pt fd) H := hP
    have hD : va_D A (xw D q n P k a 0 lo hi B av al ah an pt fd) := hD
    refine lv_iload_n hx hb d_X_keepAsAnswer_26 rfl (lv_at hl 1 rfl) ?_
    exact eWz (n, P, k, a, 0, lo, hi, B, av, al, ah, an, pt, fd) hx hb hr hlocks (by first | rfl | decide) hP hK hD hS (⟨rfl, rfl⟩) d_X_keepAsAnswer_27
  · skip
    have hl : lv_has ls 2 [(0, .ref (q 0)), (1, .int 1)] := hl
    refine lv_iload_n hx hb d_X_keepAsAnswer_0 rfl (lv_at hl 1 rfl) ?_
    refine lv_if_eq (tgt := 21) hx hb d_X_keepAsAnswer_1 (by decide) (fun h => absurd h (by decide)) (fun _ => ?_)
    refine lv_aload_n hx hb d_X_keepAsAnswer_4 rfl (lv_at hl 0 rfl) ?_
    refine va_get (D := D) (ci := 0) (v := .ref (q 9)) (C := R_X) (T := T_X) (N := 14) hx hb hA inA_X hown hK hP 0 rfl rfl 13 (by decide) (hA _ wd_38) (fun _ h9 => h9) rfl d_X_keepAsAnswer_5 ?_
    refine lv_iconst (v := 0) hx hb d_X_keepAsAnswer_8 (by decide) ?_
    refine lv_aload_n hx hb d_X_keepAsAnswer_9 rfl (lv_at hl 0 rfl) ?_
    refine va_get (D := D) (ci := 0) (v := .ref (q 7)) (C := R_X) (T := T_X) (N := 14) hx hb hA inA_X hown hK hP 0 rfl rfl 10 (by decide) (hA _ wd_35) (fun _ h9 => h9) rfl d_X_keepAsAnswer_10 ?_
    refine lv_iconst (v := 0) hx hb d_X_keepAsAnswer_13 (by decide) ?_
    refine lv_aload_n hx hb d_X_keepAsAnswer_14 rfl (lv_at hl 0 rfl) ?_
    refine va_get (D := D) (ci := 0) (v := .int (nI n)) (C := R_X) (T := T_X) (N := 14) hx hb hA inA_X hown hK hP 0 rfl rfl 2 (by decide) (hA _ wd_27) (fun _ h9 => h9) rfl d_X_keepAsAnswer_15 ?_
    refine xi_copy hx hb (hml.trans hl.1.symm) hown (hA _ wc_X_135.1) (hA _ wc_X_135.2.1) (hA _ wc_X_135.2.2.1) (hA _ wc_X_135.2.2.2) hK hP hD hS 9 7 rfl rfl (k := n) (hn) (by decide) (by decide) (by decide) (by decide) d_X_keepAsAnswer_18 (fun H locs hP hD hS => ?_)
    have hP : va_P D vwCl (xw D q n P k a z lo hi B av al ah (va_cpy fd an 0 0 n) pt fd) H := hP
    have hD : va_D A (xw D q n P k a z lo hi B av al ah (va_cpy fd an 0 0 n) pt fd) := hD
    refine lv_aload_n hx hb d_X_keepAsAnswer_21 rfl (lv_at hl 0 rfl) ?_
    refine lv_iload_n hx hb d_X_keepAsAnswer_22 rfl (lv_at hl 1 rfl) ?_
    refine va_put (D := D) (ci := 0) (v := .int 1) (ty := .boolean) (C := R_X) (T := T_X) (N := 14) hx hb hA inA_X ty_X tok_X nm_X hown hK hP hD hS 0 rfl rfl 11 (by decide) (hA _ wd_36) (fun _ h9 => h9) rfl (by decide +kernel) (by first | rfl | decide) (by first | rfl | decide) (Nat.le_of_ble_eq_true rfl) d_X_keepAsAnswer_23 (fun H locs hP hD hS => ?_)
    have hP : va_P D vwCl (xw D q n P k a 1 lo hi B av al ah (va_cpy fd an 0 0 n) pt fd) H := hP
    have hD : va_D A (xw D q n P k a 1 lo hi B av al ah (va_cpy fd an 0 0 n) pt fd) := hD
    refine lv_iload_n hx hb d_X_keepAsAnswer_26 rfl (lv_at hl 1 rfl) ?_
    exact eWz (n, P, k, a, 1, lo, hi, B, av, al, ah, va_cpy fd an 0 0 n, pt, fd) hx hb hr hlocks (by first | rfl | decide) hP hK hD hS (⟨rfl, rfl⟩) d_X_keepAsAnswer_27
end
end
section
section
set_option maxRecDepth 100000 in
set_option maxHeartbeats 4000000 in
theorem c_retract (l : Launch) (D : va_G) (q : Nat → Nat) (n P k a : Nat) (z : Int32) (lo hi B av al ah an pt fd : Nat → Int32) (sz : Nat) (ha : a ≤ 8) : Met l y_X_retract (wsm y_X_retract b_X_retract 1 (some .boolean)) { frames := 0, cells := 0, slots := 0, locals := 0 } (va_Pc [.ref (q 0)] (fun U => U.heap.size = sz ∧ cPre D (xw D q n P k a z lo hi B av al ah an pt fd) U)) (va_Qi (fun (r : Int32) (u : XS) => (a = 0 ∧ r = 0 ∧ u = (n, P, k, a, z, lo, hi, B, av, al, ah, an, pt, fd)) ∨ (∃ b, a = b + 1 ∧ r = 1 ∧ u = (n, P, k, b, 0, lo, hi, B, av, al, ah, an, pt, fd))) (fun u t => xB D (xW D q u) (va_A (xw D q n P k a z lo hi B av al ah an pt fd) sz) t) (va_A (xw D q n P k a z lo hi B av al ah an pt fd) sz)) 0 0 (va_A (xw D q n P k a z lo hi B av al ah an pt fd) sz) := by
  refine met_W (Qf := fun A => va_Qi (fun (r : Int32) (u : XS) => (a = 0 ∧ r = 0 ∧ u = (n, P, k, a, z, lo, hi, B, av, al, ah, an, pt, fd)) ∨ (∃ b, a = b + 1 ∧ r = 1 ∧ u = (n, P, k, b, 0, lo, hi, B, av, al, ah, an, pt, fd))) (fun u t => xB D (xW D q u) A t) A) (by decide) (Nat.le_of_ble_eq_true rfl) ?_
  intro p e s m below meth c ls A hx hb hr hlocks hml hown hin hA hP hK hD hN hl hS hAA
  have hown : s.vm.findClass R_X = some m.cls := hown
  have hl : lv_has ls 1 [(0, .ref (q 0))] := hl
  rcases a with _ | b
  · skip
    have hP : va_P D vwCl (xw D q n P k 0 z lo hi B av al ah an pt fd) s.heap := hP
    have hD : va_D A (xw D q n P k 0 z lo hi B av al ah an pt fd) := hD
    refine lv_aload_n hx hb d_X_retract_0 rfl (lv_at hl 0 rfl) ?_
    refine va_get (D := D) (ci := 0) (v := .int (nI 0)) (C := R_X) (T := T_X) (N := 14) hx hb hA inA_X hown hK hP 0 rfl rfl 9 (by decide) (hA _ wd_34) (fun _ h9 => h9) rfl d_X_retract_1 ?_
    refine lv_if_ne (tgt := 9) hx hb d_X_retract_4 (by decide) (fun h => absurd h (fun h => h rfl)) (fun h4 => ?_)
    refine lv_iconst (v := 0) hx hb d_X_retract_7 (by decide) ?_
    exact eWz (n, P, k, 0, z, lo, hi, B, av, al, ah, an, pt, fd) hx hb hr hlocks (by first | rfl | decide) hP hK hD hS (Or.inl ⟨rfl, rfl, rfl⟩) d_X_retract_8
  · skip
    have hP : va_P D vwCl (xw D q n P k (b + 1) z lo hi B av al ah an pt fd) s.heap := hP
    have hD : va_D A (xw D q n P k (b + 1) z lo hi B av al ah an pt fd) := hD
    refine lv_aload_n hx hb d_X_retract_0 rfl (lv_at hl 0 rfl) ?_
    refine va_get (D := D) (ci := 0) (v := .int (nI (b + 1))) (C := R_X) (T := T_X) (N := 14) hx hb hA inA_X hown hK hP 0 rfl rfl 9 (by decide) (hA _ wd_34) (fun _ h9 => h9) rfl d_X_retract_1 ?_
    refine lv_if_ne (tgt := 9) hx hb d_X_retract_4 (by decide) (fun h4 => ?_) (fun h => absurd h (nI_ne0 (by omega) (by omega)))
    refine lv_aload_n hx hb d_X_retract_9 rfl (lv_at hl 0 rfl) ?_
    refine lv_dup hx hb d_X_retract_10 rfl ?_
    refine va_get (D := D) (ci := 0) (v := .int (nI (b + 1))) (C := R_X) (T := T_X) (N := 14) hx hb hA inA_X hown hK hP 0 rfl rfl 9 (by decide) (hA _ wd_34) (fun _ h9 => h9) rfl d_X_retract_11 ?_
    refine lv_iconst (v := 1) hx hb d_X_retract_14 (by decide) ?_
    refine lv_isub hx hb d_X_retract_15 ?_
    refine topi_to (v := nI b) (nI_pred b) ?_
    refine va_put (D := D) (ci := 0) (v := .int (nI b)) (ty := .int) (C := R_X) (T := T_X) (N := 14) hx hb hA inA_X ty_X tok_X nm_X hown hK hP hD hS 0 rfl rfl 9 (by decide) (hA _ wd_34) (fun _ h9 => h9) rfl (by decide +kernel) (by first | rfl | decide) (by first | rfl | decide) (Nat.le_of_ble_eq_true rfl) d_X_retract_16 (fun H locs hP hD hS => ?_)
    have hP : va_P D vwCl (xw D q n P k b z lo hi B av al ah an pt fd) H := hP
    have hD : va_D A (xw D q n P k b z lo hi B av al ah an pt fd) := hD
    refine lv_aload_n hx hb d_X_retract_19 rfl (lv_at hl 0 rfl) ?_
    refine lv_iconst (v := 0) hx hb d_X_retract_20 (by decide) ?_
    refine va_put (D := D) (ci := 0) (v := .int 0) (ty := .boolean) (C := R_X) (T := T_X) (N := 14) hx hb hA inA_X ty_X tok_X nm_X hown hK hP hD hS 0 rfl rfl 11 (by decide) (hA _ wd_36) (fun _ h9 => h9) rfl (by decide +kernel) (by first | rfl | decide) (by first | rfl | decide) (Nat.le_of_ble_eq_true rfl) d_X_retract_21 (fun H locs hP hD hS => ?_)
    have hP : va_P D vwCl (xw D q n P k b 0 lo hi B av al ah an pt fd) H := hP
    have hD : va_D A (xw D q n P k b 0 lo hi B av al ah an pt fd) := hD
    refine lv_iconst (v := 1) hx hb d_X_retract_24 (by decide) ?_
    exact eWz (n, P, k, b, 0, lo, hi, B, av, al, ah, an, pt, fd) hx hb hr hlocks (by first | rfl | decide) hP hK hD hS (Or.inr ⟨b, rfl, rfl, rfl⟩) d_X_retract_25
end
end
section
section
set_option maxRecDepth 100000 in
set_option maxHeartbeats 4000000 in
theorem c_assume (l : Launch) (D : va_G) (q : Nat → Nat) (n P k a : Nat) (z : Int32) (lo hi B av al ah an pt fd : Nat → Int32) (i x y : Int32) (sz : Nat) (ha : a ≤ 8) : Met l y_X_assume (wsm y_X_assume b_X_assume 4 (some .boolean)) { frames := 1, cells := 0, slots := 0, locals := 21 } (va_Pc [.ref (q 0), .int i, .int x, .int y] (fun U => U.heap.size = sz ∧ cPre D (xw D q n P k a z lo hi B av al ah an pt fd) U)) (va_Qi (fun (r : Int32) (u : XS) => (¬ (iv n i ∧ a < 8) ∧ r = 0 ∧ u = (n, P, k, a, z, lo, hi, B, av, al, ah, an, pt, fd)) ∨ (iv n i ∧ a < 8 ∧ r = 1 ∧ u = (n, P, k, a + 1, 0, lo, hi, B, upd av a i, upd al a x, upd ah a y, an, pt, fd))) (fun u t => xB D (xW D q u) (va_A (xw D q n P k a z lo hi B av al ah an pt fd) sz) t) (va_A (xw D q n P k a z lo hi B av al ah an pt fd) sz)) 0 0 (va_A (xw D q n P k a z lo hi B av al ah an pt fd) sz) := by
  refine met_W (Qf := fun A => va_Qi (fun (r : Int32) (u : XS) => (¬ (iv n i ∧ a < 8) ∧ r = 0 ∧ u = (n, P, k, a, z, lo, hi, B, av, al, ah, an, pt, fd)) ∨ (iv n i ∧ a < 8 ∧ r = 1 ∧ u = (n, P, k, a + 1, 0, lo, hi, B, upd av a i, upd al a x, upd ah a y, an, pt, fd))) (fun u t => xB D (xW D q u) A t) A) (by decide) (Nat.le_of_ble_eq_true rfl) ?_
  intro p e s m below meth c ls A hx hb hr hlocks hml hown hin hA hP hK hD hN hl hS hAA
  have hown : s.vm.findClass R_X = some m.cls := hown
  have hl : lv_has ls 4 [(0, .ref (q 0)), (1, .int i), (2, .int x), (3, .int y)] := hl
  refine lv_aload_n hx hb d_X_assume_0 rfl (lv_at hl 0 rfl) ?_
  refine lv_iload_n hx hb d_X_assume_1 rfl (lv_at hl 1 rfl) ?_
  refine rV (n := 1) (rest := []) hx hb hml hown hA (c_isVariable l D q n P k a z lo hi B av al ah an pt fd i) wv_X_75 ⟨by decide, by decide, by decide +kernel⟩ ⟨rfl, rfl, by decide, by decide⟩ rfl hl.1 ⟨Nat.le_of_ble_eq_true rfl, Nat.le_of_ble_eq_true rfl⟩ hP hK hD hN 0 0 rfl rfl rfl (Nat.le_of_ble_eq_true rfl) d_X_assume_2 (fun r hr9 => ?_)
  rcases zb_c hr9 with ⟨rfl, h2⟩ | ⟨rfl, h2⟩
  · skip
    refine lv_if_eq (tgt := 17) hx hb d_X_assume_5 (by decide) (fun h => absurd h (by decide)) (fun _ => ?_)
    refine lv_aload_n hx hb d_X_assume_8 rfl (lv_at hl 0 rfl) ?_
    refine va_get (D := D) (ci := 0) (v := .int (nI a)) (C := R_X) (T := T_X) (N := 14) hx hb hA inA_X hown hK hP 0 rfl rfl 9 (by decide) (hA _ wd_34) (fun _ h9 => h9) rfl d_X_assume_9 ?_
    refine lv_bipush (v := 8) hx hb d_X_assume_12 (by decide) ?_
    refine lv_icmp_lt (tgt := 19) hx hb d_X_assume_14 (by decide) (fun h14 => ?_) (fun h14 => ?_)
    · skip
      refine lv_aload_n hx hb d_X_assume_19 rfl (lv_at hl 0 rfl) ?_
      refine va_get (D := D) (ci := 0) (v := .ref (q 4)) (C := R_X) (T := T_X) (N := 14) hx hb hA inA_X hown hK hP 0 rfl rfl 6 (by decide) (hA _ wd_31) (fun _ h9 => h9) rfl d_X_assume_20 ?_
      refine lv_aload_n hx hb d_X_assume_23 rfl (lv_at hl 0 rfl) ?_
      refine va_get (D := D) (ci := 0) (v := .int (nI a)) (C := R_X) (T := T_X) (N := 14) hx hb hA inA_X hown hK hP 0 rfl rfl 9 (by decide) (hA _ wd_34) (fun _ h9 => h9) rfl d_X_assume_24 ?_
      refine lv_iload_n hx hb d_X_assume_27 rfl (lv_at hl 1 rfl) ?_
      refine xi_ast hx hb hK hP hD hS 4 rfl (lt8 h14 ha) (by decide) d_X_assume_28 (fun H locs hP hD hS => ?_)
      have hP : va_P D vwCl (xw D q n P k a z lo hi B (upd av a i) al ah an pt fd) H := hP
      have hD : va_D A (xw D q n P k a z lo hi B (upd av a i) al ah an pt fd) := hD
      refine lv_aload_n hx hb d_X_assume_29 rfl (lv_at hl 0 rfl) ?_
      refine va_get (D := D) (ci := 0) (v := .ref (q 5)) (C := R_X) (T := T_X) (N := 14) hx hb hA inA_X hown hK hP 0 rfl rfl 7 (by decide) (hA _ wd_32) (fun _ h9 => h9) rfl d_X_assume_30 ?_
      refine lv_aload_n hx hb d_X_assume_33 rfl (lv_at hl 0 rfl) ?_
      refine va_get (D := D) (ci := 0) (v := .int (nI a)) (C := R_X) (T := T_X) (N := 14) hx hb hA inA_X hown hK hP 0 rfl rfl 9 (by decide) (hA _ wd_34) (fun _ h9 => h9) rfl d_X_assume_34 ?_
      refine lv_iload_n hx hb d_X_assume_37 rfl (lv_at hl 2 rfl) ?_
      refine xi_ast hx hb hK hP hD hS 5 rfl (lt8 h14 ha) (by decide) d_X_assume_38 (fun H locs hP hD hS => ?_)
      have hP : va_P D vwCl (xw D q n P k a z lo hi B (upd av a i) (upd al a x) ah an pt fd) H := hP
      have hD : va_D A (xw D q n P k a z lo hi B (upd av a i) (upd al a x) ah an pt fd) := hD
      refine lv_aload_n hx hb d_X_assume_39 rfl (lv_at hl 0 rfl) ?_
      refine va_get (D := D) (ci := 0) (v := .ref (q 6)) (C := R_X) (T := T_X) (N := 14) hx hb hA inA_X hown hK hP 0 rfl rfl 8 (by decide) (hA _ wd_33) (fun _ h9 => h9) rfl d_X_assume_40 ?_
      refine lv_aload_n hx hb d_X_assume_43 rfl (lv_at hl 0 rfl) ?_
      refine va_get (D := D) (ci := 0) (v := .int (nI a)) (C := R_X) (T := T_X) (N := 14) hx hb hA inA_X hown hK hP 0 rfl rfl 9 (by decide) (hA _ wd_34) (fun _ h9 => h9) rfl d_X_assume_44 ?_
      refine lv_iload_n hx hb d_X_assume_47 rfl (lv_at hl 3 rfl) ?_
      refine xi_ast hx hb hK hP hD hS 6 rfl (lt8 h14 ha) (by decide) d_X_assume_48 (fun H locs hP hD hS => ?_)
      have hP : va_P D vwCl (xw D q n P k a z lo hi B (upd av a i) (upd al a x) (upd ah a y) an pt fd) H := hP
      have hD : va_D A (xw D q n P k a z lo hi B (upd av a i) (upd al a x) (upd ah a y) an pt fd) := hD
      refine lv_aload_n hx hb d_X_assume_49 rfl (lv_at hl 0 rfl) ?_
      refine lv_dup hx hb d_X_assume_50 rfl ?_
      refine va_get (D := D) (ci := 0) (v := .int (nI a)) (C := R_X) (T := T_X) (N := 14) hx hb hA inA_X hown hK hP 0 rfl rfl 9 (by decide) (hA _ wd_34) (fun _ h9 => h9) rfl d_X_assume_51 ?_
      refine lv_iconst (v := 1) hx hb d_X_assume_54 (by decide) ?_
      refine lv_iadd hx hb d_X_assume_55 ?_
      refine topi_to (v := nI (a + 1)) ((nI_succ a).symm) ?_
      refine va_put (D := D) (ci := 0) (v := .int (nI (a + 1))) (ty := .int) (C := R_X) (T := T_X) (N := 14) hx hb hA inA_X ty_X tok_X nm_X hown hK hP hD hS 0 rfl rfl 9 (by decide) (hA _ wd_34) (fun _ h9 => h9) rfl (by decide +kernel) (by first | rfl | decide) (by first | rfl | decide) (Nat.le_of_ble_eq_true rfl) d_X_assume_56 (fun H locs hP hD hS => ?_)
      have hP : va_P D vwCl (xw D q n P k (a + 1) z lo hi B (upd av a i) (upd al a x) (upd ah a y) an pt fd) H := hP
      have hD : va_D A (xw D q n P k (a + 1) z lo hi B (upd av a i) (upd al a x) (upd ah a y) an pt fd) := hD
      refine lv_aload_n hx hb d_X_assume_59 rfl (lv_at hl 0 rfl) ?_
      refine lv_iconst (v := 0) hx hb d_X_assume_60 (by decide) ?_
      refine va_put (D := D) (ci := 0) (v := .int 0) (ty := .boolean) (C := R_X) (T := T_X) (N := 14) hx hb hA inA_X ty_X tok_X nm_X hown hK hP hD hS 0 rfl rfl 11 (by decide) (hA _ wd_36) (fun _ h9 => h9) rfl (by decide +kernel) (by first | rfl | decide) (by first | rfl | decide) (Nat.le_of_ble_eq_true rfl) d_X_assume_61 (fun H locs hP hD hS => ?_)
      have hP : va_P D vwCl (xw D q n P k (a + 1) 0 lo hi B (upd av a i) (upd al a x) (upd ah a y) an pt fd) H := hP
      have hD : va_D A (xw D q n P k (a + 1) 0 lo hi B (upd av a i) (upd al a x) (upd ah a y) an pt fd) := hD
      refine lv_iconst (v := 1) hx hb d_X_assume_64 (by decide) ?_
      exact eWz (n, P, k, (a + 1), 0, lo, hi, B, upd av a i, upd al a x, upd ah a y, an, pt, fd) hx hb hr hlocks (by first | rfl | decide) hP hK hD hS (Or.inr ⟨h2, lt8 h14 ha, rfl, rfl⟩) d_X_assume_65
    · skip
      refine lv_iconst (v := 0) hx hb d_X_assume_17 (by decide) ?_
      exact eWz (n, P, k, a, z, lo, hi, B, av, al, ah, an, pt, fd) hx hb hr hlocks (by first | rfl | decide) hP hK hD hS (by first | exact Or.inl ⟨fun h => h2 h.1, rfl, rfl⟩ | exact Or.inl ⟨fun h => h14 (nI_lt h.2 (by decide)), rfl, rfl⟩) d_X_assume_18
  · skip
    refine lv_if_eq (tgt := 17) hx hb d_X_assume_5 (by decide) (fun _ => ?_) (fun h => absurd h (by decide))
    refine lv_iconst (v := 0) hx hb d_X_assume_17 (by decide) ?_
    exact eWz (n, P, k, a, z, lo, hi, B, av, al, ah, an, pt, fd) hx hb hr hlocks (by first | rfl | decide) hP hK hD hS (by first | exact Or.inl ⟨fun h => h2 h.1, rfl, rfl⟩ | exact Or.inl ⟨fun h => h14 (nI_lt h.2 (by decide)), rfl, rfl⟩) d_X_assume_18
end
end
section
section
set_option maxRecDepth 100000 in
set_option maxHeartbeats 4000000 in
theorem c_drop (l : Launch) (D : va_G) (q : Nat → Nat) (n P k a : Nat) (z : Int32) (lo hi B av al ah an pt fd : Nat → Int32) (sz : Nat) (hP4 : P ≤ 4096) (hk : k ≤ 12) : Met l y_X_drop (wsm y_X_drop b_X_drop 2 (some .boolean)) { frames := 0, cells := 0, slots := 0, locals := 0 } (va_Pc [.ref (q 0)] (fun U => U.heap.size = sz ∧ cPre D (xw D q n P k a z lo hi B av al ah an pt fd) U)) (va_Qi (fun (r : Int32) (u : XS) => drP n P k a z lo hi B av al ah an pt fd r u) (fun u t => xB D (xW D q u) (va_A (xw D q n P k a z lo hi B av al ah an pt fd) sz) t) (va_A (xw D q n P k a z lo hi B av al ah an pt fd) sz)) 0 0 (va_A (xw D q n P k a z lo hi B av al ah an pt fd) sz) := by
  refine met_W (Qf := fun A => va_Qi (fun (r : Int32) (u : XS) => drP n P k a z lo hi B av al ah an pt fd r u) (fun u t => xB D (xW D q u) A t) A) (by decide) (Nat.le_of_ble_eq_true rfl) ?_
  intro p e s m below meth c ls A hx hb hr hlocks hml hown hin hA hP hK hD hN hl hS hAA
  have hown : s.vm.findClass R_X = some m.cls := hown
  have hl : lv_has ls 2 [(0, .ref (q 0))] := hl
  rcases k with _ | b
  · skip
    have hP : va_P D vwCl (xw D q n P 0 a z lo hi B av al ah an pt fd) s.heap := hP
    have hD : va_D A (xw D q n P 0 a z lo hi B av al ah an pt fd) := hD
    refine lv_aload_n hx hb d_X_drop_0 rfl (lv_at hl 0 rfl) ?_
    refine va_get (D := D) (ci := 0) (v := .int (nI 0)) (C := R_X) (T := T_X) (N := 14) hx hb hA inA_X hown hK hP 0 rfl rfl 5 (by decide) (hA _ wd_30) (fun _ h9 => h9) rfl d_X_drop_1 ?_
    refine lv_if_ne (tgt := 9) hx hb d_X_drop_4 (by decide) (fun h => absurd h (fun h => h rfl)) (fun h4 => ?_)
    refine lv_iconst (v := 0) hx hb d_X_drop_7 (by decide) ?_
    exact eWz (n, P, 0, a, z, lo, hi, B, av, al, ah, an, pt, fd) hx hb hr hlocks (by first | rfl | decide) hP hK hD hS (Or.inl ⟨rfl, rfl, rfl⟩) d_X_drop_8
  · skip
    have hP : va_P D vwCl (xw D q n P (b + 1) a z lo hi B av al ah an pt fd) s.heap := hP
    have hD : va_D A (xw D q n P (b + 1) a z lo hi B av al ah an pt fd) := hD
    refine lv_aload_n hx hb d_X_drop_0 rfl (lv_at hl 0 rfl) ?_
    refine va_get (D := D) (ci := 0) (v := .int (nI (b + 1))) (C := R_X) (T := T_X) (N := 14) hx hb hA inA_X hown hK hP 0 rfl rfl 5 (by decide) (hA _ wd_30) (fun _ h9 => h9) rfl d_X_drop_1 ?_
    refine lv_if_ne (tgt := 9) hx hb d_X_drop_4 (by decide) (fun h4 => ?_) (fun h => absurd h (nI_ne0 (by omega) (by omega)))
    refine lv_aload_n hx hb d_X_drop_9 rfl (lv_at hl 0 rfl) ?_
    refine lv_dup hx hb d_X_drop_10 rfl ?_
    refine va_get (D := D) (ci := 0) (v := .int (nI (b + 1))) (C := R_X) (T := T_X) (N := 14) hx hb hA inA_X hown hK hP 0 rfl rfl 5 (by decide) (hA _ wd_30) (fun _ h9 => h9) rfl d_X_drop_11 ?_
    refine lv_iconst (v := 1) hx hb d_X_drop_14 (by decide) ?_
    refine lv_isub hx hb d_X_drop_15 ?_
    refine topi_to (v := nI b) (nI_pred b) ?_
    refine va_put (D := D) (ci := 0) (v := .int (nI b)) (ty := .int) (C := R_X) (T := T_X) (N := 14) hx hb hA inA_X ty_X tok_X nm_X hown hK hP hD hS 0 rfl rfl 5 (by decide) (hA _ wd_30) (fun _ h9 => h9) rfl (by decide +kernel) (by first | rfl | decide) (by first | rfl | decide) (Nat.le_of_ble_eq_true rfl) d_X_drop_16 (fun H locs hP hD hS => ?_)
    have hP : va_P D vwCl (xw D q n P b a z lo hi B av al ah an pt fd) H := hP
    have hD : va_D A (xw D q n P b a z lo hi B av al ah an pt fd) := hD
    refine lv_iconst (v := 0) hx hb d_X_drop_19 (by decide) ?_
    refine lv_istore_n hx hb d_X_drop_20 rfl hl (by decide) rfl (fun ls hl => ?_)
    have hl : lv_has ls 2 [(1, .int 0), (0, .ref (q 0))] := hl
    have loop : ∀ (t p9 : Nat) (Bc : Nat → Int32) (H : Heap) (locs : List Loc) (ls : Array Slot), p9 + t = P → dF b t p9 Bc = dF b P 0 B → lv_has ls 2 [(1, .int (nI p9)), (0, .ref (q 0))] → va_P D vwCl (xw D q n P b a z lo hi Bc av al ah an pt fd) H → va_D A (xw D q n P b a z lo hi Bc av al ah an pt fd) → va_S A s.heap H locs → W p l e { frames := 0, cells := 0, slots := 0, locals := 0 } s m [.ref (q 0)].toArray below meth c H locs 0 0 (MQ below (va_Qi (fun (r : Int32) (u : XS) => drP n P (b + 1) a z lo hi B av al ah an pt fd r u) (fun u t => xB D (xW D q u) A t) A) [.ref (q 0)].toArray s 0 0 A) (F0 m 21 ls []) := by
      intro t
      induction t with
      | zero =>
        intro p9 Bc H locs ls hp9 hf hl hP hD hS
        refine lv_iload_n hx hb d_X_drop_21 rfl (lv_at hl 0 rfl) ?_
        refine lv_aload_n hx hb d_X_drop_22 rfl (lv_at hl 1 rfl) ?_
        refine va_get (D := D) (ci := 0) (v := .int (nI P)) (C := R_X) (T := T_X) (N := 14) hx hb hA inA_X hown hK hP 0 rfl rfl 4 (by decide) (hA _ wd_29) (fun _ h9 => h9) rfl d_X_drop_23 ?_
        refine lv_icmp_ge (tgt := 56) hx hb d_X_drop_26 (by decide) (fun h26 => ?_) (fun h => absurd (nI_le (by omega) (by omega)) h)
        refine lv_aload_n hx hb d_X_drop_56 rfl (lv_at hl 1 rfl) ?_
        refine lv_iconst (v := 0) hx hb d_X_drop_57 (by decide) ?_
        refine va_put (D := D) (ci := 0) (v := .int 0) (ty := .boolean) (C := R_X) (T := T_X) (N := 14) hx hb hA inA_X ty_X tok_X nm_X hown hK hP hD hS 0 rfl rfl 11 (by decide) (hA _ wd_36) (fun _ h9 => h9) rfl (by decide +kernel) (by first | rfl | decide) (by first | rfl | decide) (Nat.le_of_ble_eq_true rfl) d_X_drop_58 (fun H locs hP hD hS => ?_)
        have hP : va_P D vwCl (xw D q n P b a 0 lo hi Bc av al ah an pt fd) H := hP
        have hD : va_D A (xw D q n P b a 0 lo hi Bc av al ah an pt fd) := hD
        refine lv_iconst (v := 1) hx hb d_X_drop_61 (by decide) ?_
        exact eWz (n, P, b, a, 0, lo, hi, Bc, av, al, ah, an, pt, fd) hx hb hr hlocks (by first | rfl | decide) hP hK hD hS (Or.inr ⟨b, rfl, rfl, by rw [← hf]; rfl⟩) d_X_drop_62
      | succ t ih =>
        intro p9 Bc H locs ls hp9 hf hl hP hD hS
        refine lv_iload_n hx hb d_X_drop_21 rfl (lv_at hl 0 rfl) ?_
        refine lv_aload_n hx hb d_X_drop_22 rfl (lv_at hl 1 rfl) ?_
        refine va_get (D := D) (ci := 0) (v := .int (nI P)) (C := R_X) (T := T_X) (N := 14) hx hb hA inA_X hown hK hP 0 rfl rfl 4 (by decide) (hA _ wd_29) (fun _ h9 => h9) rfl d_X_drop_23 ?_
        refine lv_icmp_ge (tgt := 56) hx hb d_X_drop_26 (by decide) (fun h => absurd h (nI_ge (by omega) (by omega))) (fun h26 => ?_)
        refine lv_aload_n hx hb d_X_drop_29 rfl (lv_at hl 1 rfl) ?_
        refine va_get (D := D) (ci := 0) (v := .ref (q 3)) (C := R_X) (T := T_X) (N := 14) hx hb hA inA_X hown hK hP 0 rfl rfl 3 (by decide) (hA _ wd_28) (fun _ h9 => h9) rfl d_X_drop_30 ?_
        refine lv_iload_n hx hb d_X_drop_33 rfl (lv_at hl 0 rfl) ?_
        refine xi_ald hx hb hK hP 3 rfl (by omega) (by decide) d_X_drop_34 ?_
        refine lv_aload_n hx hb d_X_drop_35 rfl (lv_at hl 1 rfl) ?_
        refine va_get (D := D) (ci := 0) (v := .int (nI b)) (C := R_X) (T := T_X) (N := 14) hx hb hA inA_X hown hK hP 0 rfl rfl 5 (by decide) (hA _ wd_30) (fun _ h9 => h9) rfl d_X_drop_36 ?_
        refine lv_icmp_ne (tgt := 50) hx hb d_X_drop_39 (by decide) (fun h39 => ?_) (fun h39 => ?_)
        · skip
          refine lv_iinc (v := nI (p9 + 1)) hx hb d_X_drop_50 hl (k := 0) rfl (by rw [nI_succ]; rfl) (by decide) rfl (fun ls hl => ?_)
          have hl : lv_has ls 2 [(1, .int (nI (p9 + 1))), (0, .ref (q 0))] := hl
          refine lv_goto (tgt := 21) hx hb d_X_drop_53 (by decide) ?_
          exact ih (p9 + 1) _ _ _ _ (by omega) (by rw [← hf]; simp only [dF]; first | rw [if_pos h39] | rw [if_neg h39]) (lv_sub hl [0, 1] rfl) hP hD hS
        · skip
          refine lv_aload_n hx hb d_X_drop_42 rfl (lv_at hl 1 rfl) ?_
          refine va_get (D := D) (ci := 0) (v := .ref (q 3)) (C := R_X) (T := T_X) (N := 14) hx hb hA inA_X hown hK hP 0 rfl rfl 3 (by decide) (hA _ wd_28) (fun _ h9 => h9) rfl d_X_drop_43 ?_
          refine lv_iload_n hx hb d_X_drop_46 rfl (lv_at hl 0 rfl) ?_
          refine lv_bipush (v := 12) hx hb d_X_drop_47 (by decide) ?_
          refine xi_ast hx hb hK hP hD hS 3 rfl (by omega) (by decide) d_X_drop_49 (fun H locs hP hD hS => ?_)
          have hP : va_P D vwCl (xw D q n P b a z lo hi (upd Bc p9 12) av al ah an pt fd) H := hP
          have hD : va_D A (xw D q n P b a z lo hi (upd Bc p9 12) av al ah an pt fd) := hD
          refine lv_iinc (v := nI (p9 + 1)) hx hb d_X_drop_50 hl (k := 0) rfl (by rw [nI_succ]; rfl) (by decide) rfl (fun ls hl => ?_)
          have hl : lv_has ls 2 [(1, .int (nI (p9 + 1))), (0, .ref (q 0))] := hl
          refine lv_goto (tgt := 21) hx hb d_X_drop_53 (by decide) ?_
          exact ih (p9 + 1) _ _ _ _ (by omega) (by rw [← hf]; simp only [dF]; first | rw [if_pos h39] | rw [if_neg h39]) (lv_sub hl [0, 1] rfl) hP hD hS
    exact loop P 0 B _ _ _ (by omega) rfl (lv_sub hl [0, 1] rfl) hP hD hS
end
end
section
section
set_option maxRecDepth 100000 in
set_option maxHeartbeats 4000000 in
theorem c_search (l : Launch) (D : va_G) (q : Nat → Nat) (n P k a : Nat) (z : Int32) (lo hi B av al ah an pt fd : Nat → Int32) (i w : Int32) (sz : Nat) (hn : n ≤ 8) (hP4 : P ≤ 4096) (ha : a ≤ 8) (hav : ∀ m, m < a → vp_in (av m) 8) (hi8 : vp_in i 8) : Met l y_X_search (wsm y_X_search b_X_search 6 (some .boolean)) { frames := 2, cells := 0, slots := 0, locals := 38 } (va_Pc [.ref (q 0), .int i, .int w] (fun U => U.heap.size = sz ∧ cPre D (xw D q n P k a z lo hi B av al ah an pt fd) U)) (va_Qi (fun (r : Int32) (u : XS) => r = zb (srF n P a lo hi B av al ah pt fd i w).1 ∧ u = (n, P, k, a, z, lo, hi, B, av, al, ah, an, (srF n P a lo hi B av al ah pt fd i w).2.1, (srF n P a lo hi B av al ah pt fd i w).2.2)) (fun u t => xB D (xW D q u) (va_A (xw D q n P k a z lo hi B av al ah an pt fd) sz) t) (va_A (xw D q n P k a z lo hi B av al ah an pt fd) sz)) 0 0 (va_A (xw D q n P k a z lo hi B av al ah an pt fd) sz) := by
  refine met_W (Qf := fun A => va_Qi (fun (r : Int32) (u : XS) => r = zb (srF n P a lo hi B av al ah pt fd i w).1 ∧ u = (n, P, k, a, z, lo, hi, B, av, al, ah, an, (srF n P a lo hi B av al ah pt fd i w).2.1, (srF n P a lo hi B av al ah pt fd i w).2.2)) (fun u t => xB D (xW D q u) A t) A) (by decide) (Nat.le_of_ble_eq_true rfl) ?_
  intro p e s m below meth c ls A hx hb hr hlocks hml hown hin hA hP hK hD hN hl hS hAA
  have hown : s.vm.findClass R_X = some m.cls := hown
  have hl : lv_has ls 6 [(0, .ref (q 0)), (1, .int i), (2, .int w)] := hl
  refine lv_iload_n hx hb d_X_search_0 rfl (lv_at hl 2 rfl) ?_
  refine lv_aload_n hx hb d_X_search_1 rfl (lv_at hl 0 rfl) ?_
  refine va_get (D := D) (ci := 0) (v := .ref (q 1)) (C := R_X) (T := T_X) (N := 14) hx hb hA inA_X hown hK hP 0 rfl rfl 0 (by decide) (hA _ wd_25) (fun _ h9 => h9) rfl d_X_search_2 ?_
  refine lv_iload_n hx hb d_X_search_5 rfl (lv_at hl 1 rfl) ?_
  refine va_iald hx hb hK hP 1 0 rfl rfl (hi8) d_X_search_6 ?_
  refine lv_imul hx hb d_X_search_7 ?_
  refine lv_iload_n hx hb d_X_search_8 rfl (lv_at hl 2 rfl) ?_
  refine lv_aload_n hx hb d_X_search_9 rfl (lv_at hl 0 rfl) ?_
  refine va_get (D := D) (ci := 0) (v := .ref (q 2)) (C := R_X) (T := T_X) (N := 14) hx hb hA inA_X hown hK hP 0 rfl rfl 1 (by decide) (hA _ wd_26) (fun _ h9 => h9) rfl d_X_search_10 ?_
  refine lv_iload_n hx hb d_X_search_13 rfl (lv_at hl 1 rfl) ?_
  refine va_iald hx hb hK hP 2 0 rfl rfl (hi8) d_X_search_14 ?_
  refine lv_imul hx hb d_X_search_15 ?_
  refine va_mmin hx hb (hml.trans hl.1.symm) hown (hA _ wm_X_141.1) (hA _ wm_X_141.2.1) (hA _ wm_X_141.2.2.1) (hA _ wm_X_141.2.2.2) (by decide) (by decide) (by decide) (by decide) d_X_search_16 ?_
  refine topi_to (v := sG w lo hi i.toNatClampNeg) (rfl) ?_
  refine lv_istore_n hx hb d_X_search_19 rfl hl (by decide) rfl (fun ls hl => ?_)
  have hl : lv_has ls 6 [(3, .int (sG w lo hi i.toNatClampNeg)), (0, .ref (q 0)), (1, .int i), (2, .int w)] := hl
  refine lv_iconst (v := 0) hx hb d_X_search_20 (by decide) ?_
  refine lv_istore hx hb d_X_search_21 hl (by decide) rfl (fun ls hl => ?_)
  have hl : lv_has ls 6 [(4, .int 0), (3, .int (sG w lo hi i.toNatClampNeg)), (0, .ref (q 0)), (1, .int i), (2, .int w)] := hl
  refine lv_aload_n hx hb d_X_search_23 rfl (lv_at hl 2 rfl) ?_
  refine wVv (n := 0) (wr := []) (Wf := xW D q) (rest := []) hx hb hml hown hA (c_goToFirstPoint l D q n P k a z lo hi B av al ah an pt fd _ hn) wv_X_123 ⟨by decide, by decide, by decide +kernel⟩ ⟨rfl, rfl, by decide, by decide⟩ rfl hl.1 ⟨Nat.le_of_ble_eq_true rfl, Nat.le_of_ble_eq_true rfl⟩ hP hK hD hS hAA hN [0, 1, 2, 3, 4, 5, 6, 7, 8, 9] [] rfl rfl (by decide) (by decide) (by decide) 0 0 rfl rfl rfl (Nat.le_of_ble_eq_true rfl) d_X_search_24 (fun u H locs hu hP hD hS => ?_)
  subst hu
  have hP : va_P D vwCl (xw D q n P k a z lo hi B av al ah an (va_cpy lo pt 0 0 n) fd) H := hP
  have hD : va_D A (xw D q n P k a z lo hi B av al ah an (va_cpy lo pt 0 0 n) fd) := hD
  refine lv_iconst (v := 0) hx hb d_X_search_27 (by decide) ?_
  refine lv_istore hx hb d_X_search_28 hl (by decide) rfl (fun ls hl => ?_)
  have hl : lv_has ls 6 [(5, .int 0), (4, .int 0), (3, .int (sG w lo hi i.toNatClampNeg)), (0, .ref (q 0)), (1, .int i), (2, .int w)] := hl
  have loop : ∀ (t p9 : Nat) (any : Bool) (x y : Nat → Int32) (H : Heap) (locs : List Loc) (ls : Array Slot), p9 + t = P → sF B lo hi n (fun x => decide (asall a av al ah x)) w (sG w lo hi i.toNatClampNeg) i.toNatClampNeg t p9 x y any = srF n P a lo hi B av al ah pt fd i w → lv_has ls 6 [(5, .int (nI p9)), (4, .int (zb any)), (3, .int (sG w lo hi i.toNatClampNeg)), (0, .ref (q 0)), (1, .int i), (2, .int w)] → va_P D vwCl (xw D q n P k a z lo hi B av al ah an x y) H → va_D A (xw D q n P k a z lo hi B av al ah an x y) → va_S A s.heap H locs → W p l e { frames := 2, cells := 0, slots := 0, locals := 38 } s m [.ref (q 0), .int i, .int w].toArray below meth c H locs 0 0 (MQ below (va_Qi (fun (r : Int32) (u : XS) => r = zb (srF n P a lo hi B av al ah pt fd i w).1 ∧ u = (n, P, k, a, z, lo, hi, B, av, al, ah, an, (srF n P a lo hi B av al ah pt fd i w).2.1, (srF n P a lo hi B av al ah pt fd i w).2.2)) (fun u t => xB D (xW D q u) A t) A) [.ref (q 0), .int i, .int w].toArray s 0 0 A) (F0 m 30 ls []) := by
    intro t
    induction t with
    | zero =>
      intro p9 any x y H locs ls hp9 hf hl hP hD hS
      refine lv_iload hx hb d_X_search_30 (lv_at hl 0 rfl) ?_
      refine lv_aload_n hx hb d_X_search_32 rfl (lv_at hl 3 rfl) ?_
      refine va_get (D := D) (ci := 0) (v := .int (nI P)) (C := R_X) (T := T_X) (N := 14) hx hb hA inA_X hown hK hP 0 rfl rfl 4 (by decide) (hA _ wd_29) (fun _ h9 => h9) rfl d_X_search_33 ?_
      refine lv_icmp_ge (tgt := 126) hx hb d_X_search_36 (by decide) (fun h36 => ?_) (fun h => absurd (nI_le (by omega) (by omega)) h)
      refine lv_iload hx hb d_X_search_126 (lv_at hl 1 rfl) ?_
      exact eWz (n, P, k, a, z, lo, hi, B, av, al, ah, an, x, y) hx hb hr hlocks (zb_n _) hP hK hD hS (⟨by rw [← hf]; rfl, by rw [← hf]; rfl⟩) d_X_search_128
    | succ t ih =>
      intro p9 any x y H locs ls hp9 hf hl hP hD hS
      refine lv_iload hx hb d_X_search_30 (lv_at hl 0 rfl) ?_
      refine lv_aload_n hx hb d_X_search_32 rfl (lv_at hl 3 rfl) ?_
      refine va_get (D := D) (ci := 0) (v := .int (nI P)) (C := R_X) (T := T_X) (N := 14) hx hb hA inA_X hown hK hP 0 rfl rfl 4 (by decide) (hA _ wd_29) (fun _ h9 => h9) rfl d_X_search_33 ?_
      refine lv_icmp_ge (tgt := 126) hx hb d_X_search_36 (by decide) (fun h => absurd h (nI_ge (by omega) (by omega))) (fun h36 => ?_)
      refine lv_aload_n hx hb d_X_search_39 rfl (lv_at hl 3 rfl) ?_
      refine va_get (D := D) (ci := 0) (v := .ref (q 3)) (C := R_X) (T := T_X) (N := 14) hx hb hA inA_X hown hK hP 0 rfl rfl 3 (by decide) (hA _ wd_28) (fun _ h9 => h9) rfl d_X_search_40 ?_
      refine lv_iload hx hb d_X_search_43 (lv_at hl 0 rfl) ?_
      refine xi_ald hx hb hK hP 3 rfl (by omega) (by decide) d_X_search_45 ?_
      refine lv_bipush (v := 12) hx hb d_X_search_46 (by decide) ?_
      refine lv_icmp_ne (tgt := 116) hx hb d_X_search_48 (by decide) (fun h48 => ?_) (fun h48 => ?_)
      · skip
        refine lv_aload_n hx hb d_X_search_116 rfl (lv_at hl 3 rfl) ?_
        refine wVv (n := 0) (wr := []) (Wf := xW D q) (rest := []) hx hb hml hown hA (c_goToNextPoint l D q n P k a z lo hi B av al ah an x y _ hn) wv_X_132 ⟨by decide, by decide, by decide +kernel⟩ ⟨rfl, rfl, by decide, by decide⟩ rfl hl.1 ⟨Nat.le_of_ble_eq_true rfl, Nat.le_of_ble_eq_true rfl⟩ hP hK hD hS hAA hN [0, 1, 2, 3, 4, 5, 6, 7, 8, 9] [] rfl rfl (by decide) (by decide) (by decide) 0 0 rfl rfl rfl (Nat.le_of_ble_eq_true rfl) d_X_search_117 (fun u H locs hu hP hD hS => ?_)
        subst hu
        have hP : va_P D vwCl (xw D q n P k a z lo hi B av al ah an (nx lo hi n x) y) H := hP
        have hD : va_D A (xw D q n P k a z lo hi B av al ah an (nx lo hi n x) y) := hD
        refine lv_iinc (v := nI (p9 + 1)) hx hb d_X_search_120 hl (k := 0) rfl (by rw [nI_succ]; rfl) (by decide) rfl (fun ls hl => ?_)
        have hl : lv_has ls 6 [(5, .int (nI (p9 + 1))), (4, .int (zb any)), (3, .int (sG w lo hi i.toNatClampNeg)), (0, .ref (q 0)), (1, .int i), (2, .int w)] := hl
        refine lv_goto (tgt := 30) hx hb d_X_search_123 (by decide) ?_
        exact ih (p9 + 1) any _ _ _ _ _ (by omega) ((sF_no (fun h => h48 h.1)).symm.trans hf) (lv_sub hl [0, 1, 2, 3, 4, 5] rfl) hP hD hS
      · skip
        refine lv_aload_n hx hb d_X_search_51 rfl (lv_at hl 3 rfl) ?_
        refine rV (n := 0) (rest := []) hx hb hml hown hA (c_isAsAssumed l D q n P k a z lo hi B av al ah an x y ha hav) wv_X_147 ⟨by decide, by decide, by decide +kernel⟩ ⟨rfl, rfl, by decide, by decide⟩ rfl hl.1 ⟨Nat.le_of_ble_eq_true rfl, Nat.le_of_ble_eq_true rfl⟩ hP hK hD hN 0 0 rfl rfl rfl (Nat.le_of_ble_eq_true rfl) d_X_search_52 (fun r hr9 => ?_)
        rcases zb_c hr9 with ⟨rfl, h52⟩ | ⟨rfl, h52⟩
        · skip
          refine lv_if_eq (tgt := 116) hx hb d_X_search_55 (by decide) (fun h => absurd h (by decide)) (fun _ => ?_)
          rcases any with _ | _
          · skip
            have hl : lv_has ls 6 [(5, .int (nI p9)), (4, .int 0), (3, .int (sG w lo hi i.toNatClampNeg)), (0, .ref (q 0)), (1, .int i), (2, .int w)] := hl
            refine lv_iload hx hb d_X_search_58 (lv_at hl 1 rfl) ?_
            refine lv_if_eq (tgt := 82) hx hb d_X_search_60 (by decide) (fun _ => ?_) (fun h => absurd h (by decide))
            refine lv_aload_n hx hb d_X_search_82 rfl (lv_at hl 3 rfl) ?_
            refine va_get (D := D) (ci := 0) (v := .ref (q 8)) (C := R_X) (T := T_X) (N := 14) hx hb hA inA_X hown hK hP 0 rfl rfl 12 (by decide) (hA _ wd_37) (fun _ h9 => h9) rfl d_X_search_83 ?_
            refine lv_iconst (v := 0) hx hb d_X_search_86 (by decide) ?_
            refine lv_aload_n hx hb d_X_search_87 rfl (lv_at hl 3 rfl) ?_
            refine va_get (D := D) (ci := 0) (v := .ref (q 9)) (C := R_X) (T := T_X) (N := 14) hx hb hA inA_X hown hK hP 0 rfl rfl 13 (by decide) (hA _ wd_38) (fun _ h9 => h9) rfl d_X_search_88 ?_
            refine lv_iconst (v := 0) hx hb d_X_search_91 (by decide) ?_
            refine lv_aload_n hx hb d_X_search_92 rfl (lv_at hl 3 rfl) ?_
            refine va_get (D := D) (ci := 0) (v := .int (nI n)) (C := R_X) (T := T_X) (N := 14) hx hb hA inA_X hown hK hP 0 rfl rfl 2 (by decide) (hA _ wd_27) (fun _ h9 => h9) rfl d_X_search_93 ?_
            refine xi_copy hx hb (hml.trans hl.1.symm) hown (hA _ wc_X_135.1) (hA _ wc_X_135.2.1) (hA _ wc_X_135.2.2.1) (hA _ wc_X_135.2.2.2) hK hP hD hS 8 9 rfl rfl (k := n) (hn) (by decide) (by decide) (by decide) (by decide) d_X_search_96 (fun H locs hP hD hS => ?_)
            have hP : va_P D vwCl (xw D q n P k a z lo hi B av al ah an x (va_cpy x y 0 0 n)) H := hP
            have hD : va_D A (xw D q n P k a z lo hi B av al ah an x (va_cpy x y 0 0 n)) := hD
            refine lv_iconst (v := 1) hx hb d_X_search_99 (by decide) ?_
            refine lv_istore hx hb d_X_search_100 hl (by decide) rfl (fun ls hl => ?_)
            have hl : lv_has ls 6 [(4, .int 1), (5, .int (nI p9)), (3, .int (sG w lo hi i.toNatClampNeg)), (0, .ref (q 0)), (1, .int i), (2, .int w)] := hl
            refine lv_iload_n hx hb d_X_search_102 rfl (lv_at hl 5 rfl) ?_
            refine lv_aload_n hx hb d_X_search_103 rfl (lv_at hl 3 rfl) ?_
            refine va_get (D := D) (ci := 0) (v := .ref (q 8)) (C := R_X) (T := T_X) (N := 14) hx hb hA inA_X hown hK hP 0 rfl rfl 12 (by decide) (hA _ wd_37) (fun _ h9 => h9) rfl d_X_search_104 ?_
            refine lv_iload_n hx hb d_X_search_107 rfl (lv_at hl 4 rfl) ?_
            refine va_iald hx hb hK hP 8 0 rfl rfl (hi8) d_X_search_108 ?_
            refine lv_imul hx hb d_X_search_109 ?_
            refine lv_iload_n hx hb d_X_search_110 rfl (lv_at hl 2 rfl) ?_
            refine lv_icmp_ne (tgt := 116) hx hb d_X_search_111 (by decide) (fun h111 => ?_) (fun h111 => ?_)
            · skip
              refine lv_aload_n hx hb d_X_search_116 rfl (lv_at hl 3 rfl) ?_
              refine wVv (n := 0) (wr := []) (Wf := xW D q) (rest := []) hx hb hml hown hA (c_goToNextPoint l D q n P k a z lo hi B av al ah an x (va_cpy x y 0 0 n) _ hn) wv_X_132 ⟨by decide, by decide, by decide +kernel⟩ ⟨rfl, rfl, by decide, by decide⟩ rfl hl.1 ⟨Nat.le_of_ble_eq_true rfl, Nat.le_of_ble_eq_true rfl⟩ hP hK hD hS hAA hN [0, 1, 2, 3, 4, 5, 6, 7, 8, 9] [] rfl rfl (by decide) (by decide) (by decide) 0 0 rfl rfl rfl (Nat.le_of_ble_eq_true rfl) d_X_search_117 (fun u H locs hu hP hD hS => ?_)
              subst hu
              have hP : va_P D vwCl (xw D q n P k a z lo hi B av al ah an (nx lo hi n x) (va_cpy x y 0 0 n)) H := hP
              have hD : va_D A (xw D q n P k a z lo hi B av al ah an (nx lo hi n x) (va_cpy x y 0 0 n)) := hD
              refine lv_iinc (v := nI (p9 + 1)) hx hb d_X_search_120 hl (k := 1) rfl (by rw [nI_succ]; rfl) (by decide) rfl (fun ls hl => ?_)
              have hl : lv_has ls 6 [(5, .int (nI (p9 + 1))), (4, .int 1), (3, .int (sG w lo hi i.toNatClampNeg)), (0, .ref (q 0)), (1, .int i), (2, .int w)] := hl
              refine lv_goto (tgt := 30) hx hb d_X_search_123 (by decide) ?_
              exact ih (p9 + 1) true _ _ _ _ _ (by omega) ((sF_go ⟨h48, decide_eq_true h52, Or.inl rfl⟩ h111).symm.trans hf) (lv_sub hl [0, 1, 2, 3, 4, 5] rfl) hP hD hS
            · skip
              refine lv_iconst (v := 1) hx hb d_X_search_114 (by decide) ?_
              have hg := (sF_hit ⟨h48, decide_eq_true h52, Or.inl rfl⟩ h111).symm.trans hf
              exact eWz (n, P, k, a, z, lo, hi, B, av, al, ah, an, x, va_cpy x y 0 0 n) hx hb hr hlocks (by first | rfl | decide) hP hK hD hS (by rw [← hg]; exact ⟨rfl, rfl⟩) d_X_search_115
          · skip
            have hl : lv_has ls 6 [(5, .int (nI p9)), (4, .int 1), (3, .int (sG w lo hi i.toNatClampNeg)), (0, .ref (q 0)), (1, .int i), (2, .int w)] := hl
            refine lv_iload hx hb d_X_search_58 (lv_at hl 1 rfl) ?_
            refine lv_if_eq (tgt := 82) hx hb d_X_search_60 (by decide) (fun h => absurd h (by decide)) (fun _ => ?_)
            refine lv_iload_n hx hb d_X_search_63 rfl (lv_at hl 5 rfl) ?_
            refine lv_aload_n hx hb d_X_search_64 rfl (lv_at hl 3 rfl) ?_
            refine va_get (D := D) (ci := 0) (v := .ref (q 8)) (C := R_X) (T := T_X) (N := 14) hx hb hA inA_X hown hK hP 0 rfl rfl 12 (by decide) (hA _ wd_37) (fun _ h9 => h9) rfl d_X_search_65 ?_
            refine lv_iload_n hx hb d_X_search_68 rfl (lv_at hl 4 rfl) ?_
            refine va_iald hx hb hK hP 8 0 rfl rfl (hi8) d_X_search_69 ?_
            refine lv_imul hx hb d_X_search_70 ?_
            refine lv_iload_n hx hb d_X_search_71 rfl (lv_at hl 5 rfl) ?_
            refine lv_aload_n hx hb d_X_search_72 rfl (lv_at hl 3 rfl) ?_
            refine va_get (D := D) (ci := 0) (v := .ref (q 9)) (C := R_X) (T := T_X) (N := 14) hx hb hA inA_X hown hK hP 0 rfl rfl 13 (by decide) (hA _ wd_38) (fun _ h9 => h9) rfl d_X_search_73 ?_
            refine lv_iload_n hx hb d_X_search_76 rfl (lv_at hl 4 rfl) ?_
            refine va_iald hx hb hK hP 9 0 rfl rfl (hi8) d_X_search_77 ?_
            refine lv_imul hx hb d_X_search_78 ?_
            refine lv_icmp_ge (tgt := 116) hx hb d_X_search_79 (by decide) (fun h79 => ?_) (fun h79 => ?_)
            · skip
              refine lv_aload_n hx hb d_X_search_116 rfl (lv_at hl 3 rfl) ?_
              refine wVv (n := 0) (wr := []) (Wf := xW D q) (rest := []) hx hb hml hown hA (c_goToNextPoint l D q n P k a z lo hi B av al ah an x y _ hn) wv_X_132 ⟨by decide, by decide, by decide +kernel⟩ ⟨rfl, rfl, by decide, by decide⟩ rfl hl.1 ⟨Nat.le_of_ble_eq_true rfl, Nat.le_of_ble_eq_true rfl⟩ hP hK hD hS hAA hN [0, 1, 2, 3, 4, 5, 6, 7, 8, 9] [] rfl rfl (by decide) (by decide) (by decide) 0 0 rfl rfl rfl (Nat.le_of_ble_eq_true rfl) d_X_search_117 (fun u H locs hu hP hD hS => ?_)
              subst hu
              have hP : va_P D vwCl (xw D q n P k a z lo hi B av al ah an (nx lo hi n x) y) H := hP
              have hD : va_D A (xw D q n P k a z lo hi B av al ah an (nx lo hi n x) y) := hD
              refine lv_iinc (v := nI (p9 + 1)) hx hb d_X_search_120 hl (k := 0) rfl (by rw [nI_succ]; rfl) (by decide) rfl (fun ls hl => ?_)
              have hl : lv_has ls 6 [(5, .int (nI (p9 + 1))), (4, .int 1), (3, .int (sG w lo hi i.toNatClampNeg)), (0, .ref (q 0)), (1, .int i), (2, .int w)] := hl
              refine lv_goto (tgt := 30) hx hb d_X_search_123 (by decide) ?_
              exact ih (p9 + 1) true _ _ _ _ _ (by omega) ((sF_no (fun h => h.2.2.elim (fun e => absurd e (by decide)) (fun e => absurd e (Int32.not_lt.mpr h79)))).symm.trans hf) (lv_sub hl [0, 1, 2, 3, 4, 5] rfl) hP hD hS
            · skip
              refine lv_aload_n hx hb d_X_search_82 rfl (lv_at hl 3 rfl) ?_
              refine va_get (D := D) (ci := 0) (v := .ref (q 8)) (C := R_X) (T := T_X) (N := 14) hx hb hA inA_X hown hK hP 0 rfl rfl 12 (by decide) (hA _ wd_37) (fun _ h9 => h9) rfl d_X_search_83 ?_
              refine lv_iconst (v := 0) hx hb d_X_search_86 (by decide) ?_
              refine lv_aload_n hx hb d_X_search_87 rfl (lv_at hl 3 rfl) ?_
              refine va_get (D := D) (ci := 0) (v := .ref (q 9)) (C := R_X) (T := T_X) (N := 14) hx hb hA inA_X hown hK hP 0 rfl rfl 13 (by decide) (hA _ wd_38) (fun _ h9 => h9) rfl d_X_search_88 ?_
              refine lv_iconst (v := 0) hx hb d_X_search_91 (by decide) ?_
              refine lv_aload_n hx hb d_X_search_92 rfl (lv_at hl 3 rfl) ?_
              refine va_get (D := D) (ci := 0) (v := .int (nI n)) (C := R_X) (T := T_X) (N := 14) hx hb hA inA_X hown hK hP 0 rfl rfl 2 (by decide) (hA _ wd_27) (fun _ h9 => h9) rfl d_X_search_93 ?_
              refine xi_copy hx hb (hml.trans hl.1.symm) hown (hA _ wc_X_135.1) (hA _ wc_X_135.2.1) (hA _ wc_X_135.2.2.1) (hA _ wc_X_135.2.2.2) hK hP hD hS 8 9 rfl rfl (k := n) (hn) (by decide) (by decide) (by decide) (by decide) d_X_search_96 (fun H locs hP hD hS => ?_)
              have hP : va_P D vwCl (xw D q n P k a z lo hi B av al ah an x (va_cpy x y 0 0 n)) H := hP
              have hD : va_D A (xw D q n P k a z lo hi B av al ah an x (va_cpy x y 0 0 n)) := hD
              refine lv_iconst (v := 1) hx hb d_X_search_99 (by decide) ?_
              refine lv_istore hx hb d_X_search_100 hl (by decide) rfl (fun ls hl => ?_)
              have hl : lv_has ls 6 [(4, .int 1), (5, .int (nI p9)), (3, .int (sG w lo hi i.toNatClampNeg)), (0, .ref (q 0)), (1, .int i), (2, .int w)] := hl
              refine lv_iload_n hx hb d_X_search_102 rfl (lv_at hl 5 rfl) ?_
              refine lv_aload_n hx hb d_X_search_103 rfl (lv_at hl 3 rfl) ?_
              refine va_get (D := D) (ci := 0) (v := .ref (q 8)) (C := R_X) (T := T_X) (N := 14) hx hb hA inA_X hown hK hP 0 rfl rfl 12 (by decide) (hA _ wd_37) (fun _ h9 => h9) rfl d_X_search_104 ?_
              refine lv_iload_n hx hb d_X_search_107 rfl (lv_at hl 4 rfl) ?_
              refine va_iald hx hb hK hP 8 0 rfl rfl (hi8) d_X_search_108 ?_
              refine lv_imul hx hb d_X_search_109 ?_
              refine lv_iload_n hx hb d_X_search_110 rfl (lv_at hl 2 rfl) ?_
              refine lv_icmp_ne (tgt := 116) hx hb d_X_search_111 (by decide) (fun h111 => ?_) (fun h111 => ?_)
              · skip
                refine lv_aload_n hx hb d_X_search_116 rfl (lv_at hl 3 rfl) ?_
                refine wVv (n := 0) (wr := []) (Wf := xW D q) (rest := []) hx hb hml hown hA (c_goToNextPoint l D q n P k a z lo hi B av al ah an x (va_cpy x y 0 0 n) _ hn) wv_X_132 ⟨by decide, by decide, by decide +kernel⟩ ⟨rfl, rfl, by decide, by decide⟩ rfl hl.1 ⟨Nat.le_of_ble_eq_true rfl, Nat.le_of_ble_eq_true rfl⟩ hP hK hD hS hAA hN [0, 1, 2, 3, 4, 5, 6, 7, 8, 9] [] rfl rfl (by decide) (by decide) (by decide) 0 0 rfl rfl rfl (Nat.le_of_ble_eq_true rfl) d_X_search_117 (fun u H locs hu hP hD hS => ?_)
                subst hu
                have hP : va_P D vwCl (xw D q n P k a z lo hi B av al ah an (nx lo hi n x) (va_cpy x y 0 0 n)) H := hP
                have hD : va_D A (xw D q n P k a z lo hi B av al ah an (nx lo hi n x) (va_cpy x y 0 0 n)) := hD
                refine lv_iinc (v := nI (p9 + 1)) hx hb d_X_search_120 hl (k := 1) rfl (by rw [nI_succ]; rfl) (by decide) rfl (fun ls hl => ?_)
                have hl : lv_has ls 6 [(5, .int (nI (p9 + 1))), (4, .int 1), (3, .int (sG w lo hi i.toNatClampNeg)), (0, .ref (q 0)), (1, .int i), (2, .int w)] := hl
                refine lv_goto (tgt := 30) hx hb d_X_search_123 (by decide) ?_
                exact ih (p9 + 1) true _ _ _ _ _ (by omega) ((sF_go ⟨h48, decide_eq_true h52, Or.inr (Int32.not_le.mp h79)⟩ h111).symm.trans hf) (lv_sub hl [0, 1, 2, 3, 4, 5] rfl) hP hD hS
              · skip
                refine lv_iconst (v := 1) hx hb d_X_search_114 (by decide) ?_
                have hg := (sF_hit ⟨h48, decide_eq_true h52, Or.inr (Int32.not_le.mp h79)⟩ h111).symm.trans hf
                exact eWz (n, P, k, a, z, lo, hi, B, av, al, ah, an, x, va_cpy x y 0 0 n) hx hb hr hlocks (by first | rfl | decide) hP hK hD hS (by rw [← hg]; exact ⟨rfl, rfl⟩) d_X_search_115
        · skip
          refine lv_if_eq (tgt := 116) hx hb d_X_search_55 (by decide) (fun _ => ?_) (fun h => absurd h (by decide))
          refine lv_aload_n hx hb d_X_search_116 rfl (lv_at hl 3 rfl) ?_
          refine wVv (n := 0) (wr := []) (Wf := xW D q) (rest := []) hx hb hml hown hA (c_goToNextPoint l D q n P k a z lo hi B av al ah an x y _ hn) wv_X_132 ⟨by decide, by decide, by decide +kernel⟩ ⟨rfl, rfl, by decide, by decide⟩ rfl hl.1 ⟨Nat.le_of_ble_eq_true rfl, Nat.le_of_ble_eq_true rfl⟩ hP hK hD hS hAA hN [0, 1, 2, 3, 4, 5, 6, 7, 8, 9] [] rfl rfl (by decide) (by decide) (by decide) 0 0 rfl rfl rfl (Nat.le_of_ble_eq_true rfl) d_X_search_117 (fun u H locs hu hP hD hS => ?_)
          subst hu
          have hP : va_P D vwCl (xw D q n P k a z lo hi B av al ah an (nx lo hi n x) y) H := hP
          have hD : va_D A (xw D q n P k a z lo hi B av al ah an (nx lo hi n x) y) := hD
          refine lv_iinc (v := nI (p9 + 1)) hx hb d_X_search_120 hl (k := 0) rfl (by rw [nI_succ]; rfl) (by decide) rfl (fun ls hl => ?_)
          have hl : lv_has ls 6 [(5, .int (nI (p9 + 1))), (4, .int (zb any)), (3, .int (sG w lo hi i.toNatClampNeg)), (0, .ref (q 0)), (1, .int i), (2, .int w)] := hl
          refine lv_goto (tgt := 30) hx hb d_X_search_123 (by decide) ?_
          exact ih (p9 + 1) any _ _ _ _ _ (by omega) ((sF_no (fun h => h52 (of_decide_eq_true h.2.1))).symm.trans hf) (lv_sub hl [0, 1, 2, 3, 4, 5] rfl) hP hD hS
  exact loop P 0 false _ fd _ _ _ (by omega) rfl (lv_sub hl [0, 1, 2, 3, 4, 5] rfl) hP hD hS
end
end
section
section
set_option maxRecDepth 100000 in
set_option maxHeartbeats 4000000 in
theorem c_variable (l : Launch) (D : va_G) (q : Nat → Nat) (n P k a : Nat) (z : Int32) (lo hi B av al ah an pt fd : Nat → Int32) (x y : Int32) (sz : Nat) (hn : n ≤ 8) (hP4 : P ≤ 4096) : Met l y_X_variable (wsm y_X_variable b_X_variable 4 (some .int)) { frames := 1, cells := 0, slots := 0, locals := 24 } (va_Pc [.ref (q 0), .int x, .int y] (fun U => U.heap.size = sz ∧ cPre D (xw D q n P k a z lo hi B av al ah an pt fd) U)) (va_Qi (fun (r : Int32) (u : XS) => (¬ vok x y ∧ r = -1 ∧ u = (n, P, k, a, z, lo, hi, B, av, al, ah, an, pt, fd)) ∨ (vok x y ∧ ∃ v, 1 ≤ v ∧ v ≤ 8 ∧ y - x + 1 = nI v ∧ ((¬ (n < 8 ∧ P * v ≤ 4096) ∧ r = -2 ∧ u = (n, P, k, a, z, lo, hi, B, av, al, ah, an, pt, fd)) ∨ (n < 8 ∧ P * v ≤ 4096 ∧ r = nI n ∧ ∃ Bn, spI v P 0 B Bn ∧ u = (n + 1, P * v, k, a, 0, upd lo n x, upd hi n y, Bn, av, al, ah, an, pt, fd))))) (fun u t => xB D (xW D q u) (va_A (xw D q n P k a z lo hi B av al ah an pt fd) sz) t) (va_A (xw D q n P k a z lo hi B av al ah an pt fd) sz)) 0 0 (va_A (xw D q n P k a z lo hi B av al ah an pt fd) sz) := by
  refine met_W (Qf := fun A => va_Qi (fun (r : Int32) (u : XS) => (¬ vok x y ∧ r = -1 ∧ u = (n, P, k, a, z, lo, hi, B, av, al, ah, an, pt, fd)) ∨ (vok x y ∧ ∃ v, 1 ≤ v ∧ v ≤ 8 ∧ y - x + 1 = nI v ∧ ((¬ (n < 8 ∧ P * v ≤ 4096) ∧ r = -2 ∧ u = (n, P, k, a, z, lo, hi, B, av, al, ah, an, pt, fd)) ∨ (n < 8 ∧ P * v ≤ 4096 ∧ r = nI n ∧ ∃ Bn, spI v P 0 B Bn ∧ u = (n + 1, P * v, k, a, 0, upd lo n x, upd hi n y, Bn, av, al, ah, an, pt, fd))))) (fun u t => xB D (xW D q u) A t) A) (by decide) (Nat.le_of_ble_eq_true rfl) ?_
  intro p e s m below meth c ls A hx hb hr hlocks hml hown hin hA hP hK hD hN hl hS hAA
  have hown : s.vm.findClass R_X = some m.cls := hown
  have hl : lv_has ls 4 [(0, .ref (q 0)), (1, .int x), (2, .int y)] := hl
  refine lv_iload_n hx hb d_X_variable_0 rfl (lv_at hl 1 rfl) ?_
  refine lv_bipush (v := (-20)) hx hb d_X_variable_1 (by decide) ?_
  refine lv_icmp_lt (tgt := 25) hx hb d_X_variable_3 (by decide) (fun h3 => ?_) (fun h3 => ?_)
  · skip
    refine lv_iconst (v := (-1)) hx hb d_X_variable_25 (by decide) ?_
    exact eWi (n, P, k, a, z, lo, hi, B, av, al, ah, an, pt, fd) hx hb hr hlocks hP hK hD hS (by first | exact Or.inl ⟨fun h => h.1 h3, rfl, rfl⟩ | exact Or.inl ⟨fun h => h.2.1 h8, rfl, rfl⟩ | exact Or.inl ⟨fun h => h.2.2.1 h14, rfl, rfl⟩ | exact Or.inl ⟨fun h => h22 h.2.2.2, rfl, rfl⟩) d_X_variable_26
  · skip
    refine lv_iload_n hx hb d_X_variable_6 rfl (lv_at hl 1 rfl) ?_
    refine lv_iload_n hx hb d_X_variable_7 rfl (lv_at hl 2 rfl) ?_
    refine lv_icmp_gt (tgt := 25) hx hb d_X_variable_8 (by decide) (fun h8 => ?_) (fun h8 => ?_)
    · skip
      refine lv_iconst (v := (-1)) hx hb d_X_variable_25 (by decide) ?_
      exact eWi (n, P, k, a, z, lo, hi, B, av, al, ah, an, pt, fd) hx hb hr hlocks hP hK hD hS (by first | exact Or.inl ⟨fun h => h.1 h3, rfl, rfl⟩ | exact Or.inl ⟨fun h => h.2.1 h8, rfl, rfl⟩ | exact Or.inl ⟨fun h => h.2.2.1 h14, rfl, rfl⟩ | exact Or.inl ⟨fun h => h22 h.2.2.2, rfl, rfl⟩) d_X_variable_26
    · skip
      refine lv_iload_n hx hb d_X_variable_11 rfl (lv_at hl 2 rfl) ?_
      refine lv_bipush (v := 20) hx hb d_X_variable_12 (by decide) ?_
      refine lv_icmp_gt (tgt := 25) hx hb d_X_variable_14 (by decide) (fun h14 => ?_) (fun h14 => ?_)
      · skip
        refine lv_iconst (v := (-1)) hx hb d_X_variable_25 (by decide) ?_
        exact eWi (n, P, k, a, z, lo, hi, B, av, al, ah, an, pt, fd) hx hb hr hlocks hP hK hD hS (by first | exact Or.inl ⟨fun h => h.1 h3, rfl, rfl⟩ | exact Or.inl ⟨fun h => h.2.1 h8, rfl, rfl⟩ | exact Or.inl ⟨fun h => h.2.2.1 h14, rfl, rfl⟩ | exact Or.inl ⟨fun h => h22 h.2.2.2, rfl, rfl⟩) d_X_variable_26
      · skip
        refine lv_iload_n hx hb d_X_variable_17 rfl (lv_at hl 2 rfl) ?_
        refine lv_iload_n hx hb d_X_variable_18 rfl (lv_at hl 1 rfl) ?_
        refine lv_isub hx hb d_X_variable_19 ?_
        refine lv_bipush (v := 8) hx hb d_X_variable_20 (by decide) ?_
        refine lv_icmp_lt (tgt := 27) hx hb d_X_variable_22 (by decide) (fun h22 => ?_) (fun h22 => ?_)
        · skip
          refine lv_iload_n hx hb d_X_variable_27 rfl (lv_at hl 2 rfl) ?_
          refine lv_iload_n hx hb d_X_variable_28 rfl (lv_at hl 1 rfl) ?_
          refine lv_isub hx hb d_X_variable_29 ?_
          refine lv_iconst (v := 1) hx hb d_X_variable_30 (by decide) ?_
          refine lv_iadd hx hb d_X_variable_31 ?_
          obtain ⟨v, hv1, hv8, hve⟩ := vsz ⟨h3, h8, h14, h22⟩
          refine topi_to (v := nI v) hve ?_
          refine lv_istore_n hx hb d_X_variable_32 rfl hl (by decide) rfl (fun ls hl => ?_)
          have hl : lv_has ls 4 [(3, .int (nI v)), (0, .ref (q 0)), (1, .int x), (2, .int y)] := hl
          refine lv_aload_n hx hb d_X_variable_33 rfl (lv_at hl 1 rfl) ?_
          refine va_get (D := D) (ci := 0) (v := .int (nI n)) (C := R_X) (T := T_X) (N := 14) hx hb hA inA_X hown hK hP 0 rfl rfl 2 (by decide) (hA _ wd_27) (fun _ h9 => h9) rfl d_X_variable_34 ?_
          refine lv_bipush (v := 8) hx hb d_X_variable_37 (by decide) ?_
          refine lv_icmp_ge (tgt := 54) hx hb d_X_variable_39 (by decide) (fun h39 => ?_) (fun h39 => ?_)
          · skip
            refine lv_bipush (v := (-2)) hx hb d_X_variable_54 (by decide) ?_
            exact eWi (n, P, k, a, z, lo, hi, B, av, al, ah, an, pt, fd) hx hb hr hlocks hP hK hD hS (Or.inr ⟨⟨h3, h8, h14, h22⟩, v, hv1, hv8, hve, Or.inl ⟨by first | exact fun h => absurd (nI_lt h.1 (by decide)) (Int32.not_lt.mpr h39) | exact fun h => h51 (nI_le h.2 (by decide)), rfl, rfl⟩⟩) d_X_variable_56
          · skip
            refine lv_aload_n hx hb d_X_variable_42 rfl (lv_at hl 1 rfl) ?_
            refine va_get (D := D) (ci := 0) (v := .int (nI P)) (C := R_X) (T := T_X) (N := 14) hx hb hA inA_X hown hK hP 0 rfl rfl 4 (by decide) (hA _ wd_29) (fun _ h9 => h9) rfl d_X_variable_43 ?_
            refine lv_iload_n hx hb d_X_variable_46 rfl (lv_at hl 0 rfl) ?_
            refine lv_imul hx hb d_X_variable_47 ?_
            refine topi_to (v := nI (P * v)) (by rw [pk_mul]) ?_
            refine lv_sipush (v := 4096) hx hb d_X_variable_48 (by decide) ?_
            refine lv_icmp_le (tgt := 57) hx hb d_X_variable_51 (by decide) (fun h51 => ?_) (fun h51 => ?_)
            · skip
              have hn8 : n < 8 := lt8 (Int32.not_le.mp h39) hn
              have hPv : P * v ≤ 4096 := le4096 h51 hP4 hv8
              refine lv_aload_n hx hb d_X_variable_57 rfl (lv_at hl 1 rfl) ?_
              refine lv_iload_n hx hb d_X_variable_58 rfl (lv_at hl 0 rfl) ?_
              refine wVv (n := 1) (wr := []) (Wf := xW D q) (rest := []) hx hb hml hown hA (c_splitPoints l D q n P k a z lo hi B av al ah an pt fd v _ hv1 hv8 hPv hP4) wv_X_50 ⟨by decide, by decide, by decide +kernel⟩ ⟨rfl, rfl, by decide, by decide⟩ rfl hl.1 ⟨Nat.le_of_ble_eq_true rfl, Nat.le_of_ble_eq_true rfl⟩ hP hK hD hS hAA hN [0, 1, 2, 3, 4, 5, 6, 7, 8, 9] [] rfl rfl (by decide) (by decide) (by decide) 0 0 rfl rfl rfl (Nat.le_of_ble_eq_true rfl) d_X_variable_59 (fun u H locs hu hP hD hS => ?_)
              obtain ⟨Bn, hI, rfl⟩ := hu
              have hP : va_P D vwCl (xw D q n (P * v) k a z lo hi Bn av al ah an pt fd) H := hP
              have hD : va_D A (xw D q n (P * v) k a z lo hi Bn av al ah an pt fd) := hD
              refine lv_aload_n hx hb d_X_variable_62 rfl (lv_at hl 1 rfl) ?_
              refine va_get (D := D) (ci := 0) (v := .ref (q 1)) (C := R_X) (T := T_X) (N := 14) hx hb hA inA_X hown hK hP 0 rfl rfl 0 (by decide) (hA _ wd_25) (fun _ h9 => h9) rfl d_X_variable_63 ?_
              refine lv_aload_n hx hb d_X_variable_66 rfl (lv_at hl 1 rfl) ?_
              refine va_get (D := D) (ci := 0) (v := .int (nI n)) (C := R_X) (T := T_X) (N := 14) hx hb hA inA_X hown hK hP 0 rfl rfl 2 (by decide) (hA _ wd_27) (fun _ h9 => h9) rfl d_X_variable_67 ?_
              refine lv_iload_n hx hb d_X_variable_70 rfl (lv_at hl 2 rfl) ?_
              refine xi_ast hx hb hK hP hD hS 1 rfl (hn8) (by decide) d_X_variable_71 (fun H locs hP hD hS => ?_)
              have hP : va_P D vwCl (xw D q n (P * v) k a z (upd lo n x) hi Bn av al ah an pt fd) H := hP
              have hD : va_D A (xw D q n (P * v) k a z (upd lo n x) hi Bn av al ah an pt fd) := hD
              refine lv_aload_n hx hb d_X_variable_72 rfl (lv_at hl 1 rfl) ?_
              refine va_get (D := D) (ci := 0) (v := .ref (q 2)) (C := R_X) (T := T_X) (N := 14) hx hb hA inA_X hown hK hP 0 rfl rfl 1 (by decide) (hA _ wd_26) (fun _ h9 => h9) rfl d_X_variable_73 ?_
              refine lv_aload_n hx hb d_X_variable_76 rfl (lv_at hl 1 rfl) ?_
              refine va_get (D := D) (ci := 0) (v := .int (nI n)) (C := R_X) (T := T_X) (N := 14) hx hb hA inA_X hown hK hP 0 rfl rfl 2 (by decide) (hA _ wd_27) (fun _ h9 => h9) rfl d_X_variable_77 ?_
              refine lv_iload_n hx hb d_X_variable_80 rfl (lv_at hl 3 rfl) ?_
              refine xi_ast hx hb hK hP hD hS 2 rfl (hn8) (by decide) d_X_variable_81 (fun H locs hP hD hS => ?_)
              have hP : va_P D vwCl (xw D q n (P * v) k a z (upd lo n x) (upd hi n y) Bn av al ah an pt fd) H := hP
              have hD : va_D A (xw D q n (P * v) k a z (upd lo n x) (upd hi n y) Bn av al ah an pt fd) := hD
              refine lv_aload_n hx hb d_X_variable_82 rfl (lv_at hl 1 rfl) ?_
              refine lv_iconst (v := 0) hx hb d_X_variable_83 (by decide) ?_
              refine va_put (D := D) (ci := 0) (v := .int 0) (ty := .boolean) (C := R_X) (T := T_X) (N := 14) hx hb hA inA_X ty_X tok_X nm_X hown hK hP hD hS 0 rfl rfl 11 (by decide) (hA _ wd_36) (fun _ h9 => h9) rfl (by decide +kernel) (by first | rfl | decide) (by first | rfl | decide) (Nat.le_of_ble_eq_true rfl) d_X_variable_84 (fun H locs hP hD hS => ?_)
              have hP : va_P D vwCl (xw D q n (P * v) k a 0 (upd lo n x) (upd hi n y) Bn av al ah an pt fd) H := hP
              have hD : va_D A (xw D q n (P * v) k a 0 (upd lo n x) (upd hi n y) Bn av al ah an pt fd) := hD
              refine lv_aload_n hx hb d_X_variable_87 rfl (lv_at hl 1 rfl) ?_
              refine lv_dup hx hb d_X_variable_88 rfl ?_
              refine va_get (D := D) (ci := 0) (v := .int (nI n)) (C := R_X) (T := T_X) (N := 14) hx hb hA inA_X hown hK hP 0 rfl rfl 2 (by decide) (hA _ wd_27) (fun _ h9 => h9) rfl d_X_variable_89 ?_
              refine lv_dup_x1 hx hb d_X_variable_92 rfl rfl ?_
              refine lv_iconst (v := 1) hx hb d_X_variable_93 (by decide) ?_
              refine lv_iadd hx hb d_X_variable_94 ?_
              refine topi_to (v := nI (n + 1)) ((nI_succ n).symm) ?_
              refine va_put (D := D) (ci := 0) (v := .int (nI (n + 1))) (ty := .int) (C := R_X) (T := T_X) (N := 14) hx hb hA inA_X ty_X tok_X nm_X hown hK hP hD hS 0 rfl rfl 2 (by decide) (hA _ wd_27) (fun _ h9 => h9) rfl (by decide +kernel) (by first | rfl | decide) (by first | rfl | decide) (Nat.le_of_ble_eq_true rfl) d_X_variable_95 (fun H locs hP hD hS => ?_)
              have hP : va_P D vwCl (xw D q (n + 1) (P * v) k a 0 (upd lo n x) (upd hi n y) Bn av al ah an pt fd) H := hP
              have hD : va_D A (xw D q (n + 1) (P * v) k a 0 (upd lo n x) (upd hi n y) Bn av al ah an pt fd) := hD
              exact eWi ((n + 1), (P * v), k, a, 0, upd lo n x, upd hi n y, Bn, av, al, ah, an, pt, fd) hx hb hr hlocks hP hK hD hS (Or.inr ⟨⟨h3, h8, h14, h22⟩, v, hv1, hv8, hve, Or.inr ⟨hn8, hPv, rfl, Bn, hI, rfl⟩⟩) d_X_variable_98
            · skip
              refine lv_bipush (v := (-2)) hx hb d_X_variable_54 (by decide) ?_
              exact eWi (n, P, k, a, z, lo, hi, B, av, al, ah, an, pt, fd) hx hb hr hlocks hP hK hD hS (Or.inr ⟨⟨h3, h8, h14, h22⟩, v, hv1, hv8, hve, Or.inl ⟨by first | exact fun h => absurd (nI_lt h.1 (by decide)) (Int32.not_lt.mpr h39) | exact fun h => h51 (nI_le h.2 (by decide)), rfl, rfl⟩⟩) d_X_variable_56
        · skip
          refine lv_iconst (v := (-1)) hx hb d_X_variable_25 (by decide) ?_
          exact eWi (n, P, k, a, z, lo, hi, B, av, al, ah, an, pt, fd) hx hb hr hlocks hP hK hD hS (by first | exact Or.inl ⟨fun h => h.1 h3, rfl, rfl⟩ | exact Or.inl ⟨fun h => h.2.1 h8, rfl, rfl⟩ | exact Or.inl ⟨fun h => h.2.2.1 h14, rfl, rfl⟩ | exact Or.inl ⟨fun h => h22 h.2.2.2, rfl, rfl⟩) d_X_variable_26
end
end
section
section
set_option maxRecDepth 100000 in
set_option maxHeartbeats 4000000 in
theorem c_solve (l : Launch) (D : va_G) (q : Nat → Nat) (n P k a : Nat) (z : Int32) (lo hi B av al ah an pt fd : Nat → Int32) (sz : Nat) (hn : n ≤ 8) (hP4 : P ≤ 4096) (ha : a ≤ 8) (hav : ∀ m, m < a → vp_in (av m) 8) : Met l y_X_solve (wsm y_X_solve b_X_solve 1 (some .boolean)) { frames := 3, cells := 0, slots := 0, locals := 63 } (va_Pc [.ref (q 0)] (fun U => U.heap.size = sz ∧ cPre D (xw D q n P k a z lo hi B av al ah an pt fd) U)) (va_Qi (fun (r : Int32) (u : XS) => r = zb (srF n P a lo hi B av al ah pt fd 0 0).1 ∧ u = (n, P, k, a, zb (srF n P a lo hi B av al ah pt fd 0 0).1, lo, hi, B, av, al, ah, if (srF n P a lo hi B av al ah pt fd 0 0).1 = true then va_cpy (srF n P a lo hi B av al ah pt fd 0 0).2.2 an 0 0 n else an, (srF n P a lo hi B av al ah pt fd 0 0).2.1, (srF n P a lo hi B av al ah pt fd 0 0).2.2)) (fun u t => xB D (xW D q u) (va_A (xw D q n P k a z lo hi B av al ah an pt fd) sz) t) (va_A (xw D q n P k a z lo hi B av al ah an pt fd) sz)) 0 0 (va_A (xw D q n P k a z lo hi B av al ah an pt fd) sz) := by
  refine met_W (Qf := fun A => va_Qi (fun (r : Int32) (u : XS) => r = zb (srF n P a lo hi B av al ah pt fd 0 0).1 ∧ u = (n, P, k, a, zb (srF n P a lo hi B av al ah pt fd 0 0).1, lo, hi, B, av, al, ah, if (srF n P a lo hi B av al ah pt fd 0 0).1 = true then va_cpy (srF n P a lo hi B av al ah pt fd 0 0).2.2 an 0 0 n else an, (srF n P a lo hi B av al ah pt fd 0 0).2.1, (srF n P a lo hi B av al ah pt fd 0 0).2.2)) (fun u t => xB D (xW D q u) A t) A) (by decide) (Nat.le_of_ble_eq_true rfl) ?_
  intro p e s m below meth c ls A hx hb hr hlocks hml hown hin hA hP hK hD hN hl hS hAA
  have hown : s.vm.findClass R_X = some m.cls := hown
  have hl : lv_has ls 1 [(0, .ref (q 0))] := hl
  refine lv_aload_n hx hb d_X_solve_0 rfl (lv_at hl 0 rfl) ?_
  refine lv_aload_n hx hb d_X_solve_1 rfl (lv_at hl 0 rfl) ?_
  refine lv_iconst (v := 0) hx hb d_X_solve_2 (by decide) ?_
  refine lv_iconst (v := 0) hx hb d_X_solve_3 (by decide) ?_
  refine wVi (n := 2) (wr := []) (Wf := xW D q) (rest := [.ref (q 0)]) hx hb hml hown hA (c_search l D q n P k a z lo hi B av al ah an pt fd 0 0 _ hn hP4 ha hav (vp_in_nI (n := 0) (N := 8) (by decide) (by decide))) wv_X_116 ⟨by decide, by decide, by decide +kernel⟩ ⟨rfl, rfl, by decide, by decide⟩ rfl hl.1 ⟨Nat.le_of_ble_eq_true rfl, Nat.le_of_ble_eq_true rfl⟩ hP hK hD hS hAA hN [0, 1, 2, 3, 4, 5, 6, 7, 8, 9] [] rfl rfl (by decide) (by decide) (by decide) 0 0 rfl rfl rfl (Nat.le_of_ble_eq_true rfl) d_X_solve_4 (fun r u H locs hu hP hD hS => ?_)
  obtain ⟨hr9, rfl⟩ := hu
  have hP : va_P D vwCl (xw D q n P k a z lo hi B av al ah an ((srF n P a lo hi B av al ah pt fd 0 0).2.1) ((srF n P a lo hi B av al ah pt fd 0 0).2.2)) H := hP
  have hD : va_D A (xw D q n P k a z lo hi B av al ah an ((srF n P a lo hi B av al ah pt fd 0 0).2.1) ((srF n P a lo hi B av al ah pt fd 0 0).2.2)) := hD
  rcases zb_cb hr9 with ⟨rfl, h4⟩ | ⟨rfl, h4⟩
  · skip
    refine wVi (n := 1) (wr := []) (Wf := xW D q) (rest := []) hx hb hml hown hA (c_keepAsAnswer l D q n P k a z lo hi B av al ah an ((srF n P a lo hi B av al ah pt fd 0 0).2.1) ((srF n P a lo hi B av al ah pt fd 0 0).2.2) 1 _ hn (by decide)) wv_X_119 ⟨by decide, by decide, by decide +kernel⟩ ⟨rfl, rfl, by decide, by decide⟩ rfl hl.1 ⟨Nat.le_of_ble_eq_true rfl, Nat.le_of_ble_eq_true rfl⟩ hP hK hD hS hAA hN [0, 1, 2, 3, 4, 5, 6, 7, 8, 9] [] rfl rfl (by decide) (by decide) (by decide) 0 0 rfl rfl rfl (Nat.le_of_ble_eq_true rfl) d_X_solve_7 (fun r u H locs hu hP hD hS => ?_)
    obtain ⟨rfl, rfl⟩ := hu
    have hP : va_P D vwCl (xw D q n P k a 1 lo hi B av al ah (if (1 : Int32) = 0 then an else va_cpy ((srF n P a lo hi B av al ah pt fd 0 0).2.2) an 0 0 n) ((srF n P a lo hi B av al ah pt fd 0 0).2.1) ((srF n P a lo hi B av al ah pt fd 0 0).2.2)) H := hP
    have hD : va_D A (xw D q n P k a 1 lo hi B av al ah (if (1 : Int32) = 0 then an else va_cpy ((srF n P a lo hi B av al ah pt fd 0 0).2.2) an 0 0 n) ((srF n P a lo hi B av al ah pt fd 0 0).2.1) ((srF n P a lo hi B av al ah pt fd 0 0).2.2)) := hD
    exact eWz (n, P, k, a, 1, lo, hi, B, av, al, ah, if (1 : Int32) = 0 then an else va_cpy ((srF n P a lo hi B av al ah pt fd 0 0).2.2) an 0 0 n, (srF n P a lo hi B av al ah pt fd 0 0).2.1, (srF n P a lo hi B av al ah pt fd 0 0).2.2) hx hb hr hlocks (by first | rfl | decide) hP hK hD hS (by rw [h4]; exact ⟨rfl, rfl⟩) d_X_solve_10
  · skip
    refine wVi (n := 1) (wr := []) (Wf := xW D q) (rest := []) hx hb hml hown hA (c_keepAsAnswer l D q n P k a z lo hi B av al ah an ((srF n P a lo hi B av al ah pt fd 0 0).2.1) ((srF n P a lo hi B av al ah pt fd 0 0).2.2) 0 _ hn (by decide)) wv_X_119 ⟨by decide, by decide, by decide +kernel⟩ ⟨rfl, rfl, by decide, by decide⟩ rfl hl.1 ⟨Nat.le_of_ble_eq_true rfl, Nat.le_of_ble_eq_true rfl⟩ hP hK hD hS hAA hN [0, 1, 2, 3, 4, 5, 6, 7, 8, 9] [] rfl rfl (by decide) (by decide) (by decide) 0 0 rfl rfl rfl (Nat.le_of_ble_eq_true rfl) d_X_solve_7 (fun r u H locs hu hP hD hS => ?_)
    obtain ⟨rfl, rfl⟩ := hu
    have hP : va_P D vwCl (xw D q n P k a 0 lo hi B av al ah (if (0 : Int32) = 0 then an else va_cpy ((srF n P a lo hi B av al ah pt fd 0 0).2.2) an 0 0 n) ((srF n P a lo hi B av al ah pt fd 0 0).2.1) ((srF n P a lo hi B av al ah pt fd 0 0).2.2)) H := hP
    have hD : va_D A (xw D q n P k a 0 lo hi B av al ah (if (0 : Int32) = 0 then an else va_cpy ((srF n P a lo hi B av al ah pt fd 0 0).2.2) an 0 0 n) ((srF n P a lo hi B av al ah pt fd 0 0).2.1) ((srF n P a lo hi B av al ah pt fd 0 0).2.2)) := hD
    exact eWz (n, P, k, a, 0, lo, hi, B, av, al, ah, if (0 : Int32) = 0 then an else va_cpy ((srF n P a lo hi B av al ah pt fd 0 0).2.2) an 0 0 n, (srF n P a lo hi B av al ah pt fd 0 0).2.1, (srF n P a lo hi B av al ah pt fd 0 0).2.2) hx hb hr hlocks (by first | rfl | decide) hP hK hD hS (by rw [h4]; exact ⟨rfl, rfl⟩) d_X_solve_10
end
end
section
section
set_option maxRecDepth 100000 in
set_option maxHeartbeats 4000000 in
theorem c_best (l : Launch) (D : va_G) (q : Nat → Nat) (n P k a : Nat) (z : Int32) (lo hi B av al ah an pt fd : Nat → Int32) (i z9 w : Int32) (sz : Nat) (hn : n ≤ 8) (hP4 : P ≤ 4096) (ha : a ≤ 8) (hav : ∀ m, m < a → vp_in (av m) 8) (hz9 : (z9 = 0 ∧ w = 1) ∨ (z9 = 1 ∧ w = -1)) : Met l y_X_best (wsm y_X_best b_X_best 3 (some .boolean)) { frames := 3, cells := 0, slots := 0, locals := 63 } (va_Pc [.ref (q 0), .int i, .int z9] (fun U => U.heap.size = sz ∧ cPre D (xw D q n P k a z lo hi B av al ah an pt fd) U)) (va_Qi (fun (r : Int32) (u : XS) => (¬ iv n i ∧ r = 0 ∧ u = (n, P, k, a, z, lo, hi, B, av, al, ah, an, pt, fd)) ∨ (iv n i ∧ r = zb (srF n P a lo hi B av al ah pt fd i w).1 ∧ u = (n, P, k, a, zb (srF n P a lo hi B av al ah pt fd i w).1, lo, hi, B, av, al, ah, if (srF n P a lo hi B av al ah pt fd i w).1 = true then va_cpy (srF n P a lo hi B av al ah pt fd i w).2.2 an 0 0 n else an, (srF n P a lo hi B av al ah pt fd i w).2.1, (srF n P a lo hi B av al ah pt fd i w).2.2))) (fun u t => xB D (xW D q u) (va_A (xw D q n P k a z lo hi B av al ah an pt fd) sz) t) (va_A (xw D q n P k a z lo hi B av al ah an pt fd) sz)) 0 0 (va_A (xw D q n P k a z lo hi B av al ah an pt fd) sz) := by
  refine met_W (Qf := fun A => va_Qi (fun (r : Int32) (u : XS) => (¬ iv n i ∧ r = 0 ∧ u = (n, P, k, a, z, lo, hi, B, av, al, ah, an, pt, fd)) ∨ (iv n i ∧ r = zb (srF n P a lo hi B av al ah pt fd i w).1 ∧ u = (n, P, k, a, zb (srF n P a lo hi B av al ah pt fd i w).1, lo, hi, B, av, al, ah, if (srF n P a lo hi B av al ah pt fd i w).1 = true then va_cpy (srF n P a lo hi B av al ah pt fd i w).2.2 an 0 0 n else an, (srF n P a lo hi B av al ah pt fd i w).2.1, (srF n P a lo hi B av al ah pt fd i w).2.2))) (fun u t => xB D (xW D q u) A t) A) (by decide) (Nat.le_of_ble_eq_true rfl) ?_
  intro p e s m below meth c ls A hx hb hr hlocks hml hown hin hA hP hK hD hN hl hS hAA
  have hown : s.vm.findClass R_X = some m.cls := hown
  have hl : lv_has ls 3 [(0, .ref (q 0)), (1, .int i), (2, .int z9)] := hl
  rcases hz9 with ⟨rfl, rfl⟩ | ⟨rfl, rfl⟩
  · skip
    have hl : lv_has ls 3 [(0, .ref (q 0)), (1, .int i), (2, .int 0)] := hl
    refine lv_aload_n hx hb d_X_best_0 rfl (lv_at hl 0 rfl) ?_
    refine lv_iload_n hx hb d_X_best_1 rfl (lv_at hl 1 rfl) ?_
    refine rV (n := 1) (rest := []) hx hb hml hown hA (c_isVariable l D q n P k a z lo hi B av al ah an pt fd i) wv_X_75 ⟨by decide, by decide, by decide +kernel⟩ ⟨rfl, rfl, by decide, by decide⟩ rfl hl.1 ⟨Nat.le_of_ble_eq_true rfl, Nat.le_of_ble_eq_true rfl⟩ hP hK hD hN 0 0 rfl rfl rfl (Nat.le_of_ble_eq_true rfl) d_X_best_2 (fun r hr9 => ?_)
    rcases zb_c hr9 with ⟨rfl, h2⟩ | ⟨rfl, h2⟩
    · skip
      refine lv_if_eq (tgt := 33) hx hb d_X_best_5 (by decide) (fun h => absurd h (by decide)) (fun _ => ?_)
      refine lv_aload_n hx hb d_X_best_8 rfl (lv_at hl 0 rfl) ?_
      refine lv_aload_n hx hb d_X_best_9 rfl (lv_at hl 0 rfl) ?_
      refine lv_iload_n hx hb d_X_best_10 rfl (lv_at hl 1 rfl) ?_
      refine lv_iload_n hx hb d_X_best_11 rfl (lv_at hl 2 rfl) ?_
      refine lv_if_eq (tgt := 19) hx hb d_X_best_12 (by decide) (fun _ => ?_) (fun h => absurd h (by decide))
      refine lv_iconst (v := 1) hx hb d_X_best_19 (by decide) ?_
      refine wVi (n := 2) (wr := []) (Wf := xW D q) (rest := [.ref (q 0)]) hx hb hml hown hA (c_search l D q n P k a z lo hi B av al ah an pt fd i 1 _ hn hP4 ha hav (iv_in h2 hn)) wv_X_116 ⟨by decide, by decide, by decide +kernel⟩ ⟨rfl, rfl, by decide, by decide⟩ rfl hl.1 ⟨Nat.le_of_ble_eq_true rfl, Nat.le_of_ble_eq_true rfl⟩ hP hK hD hS hAA hN [0, 1, 2, 3, 4, 5, 6, 7, 8, 9] [] rfl rfl (by decide) (by decide) (by decide) 0 0 rfl rfl rfl (Nat.le_of_ble_eq_true rfl) d_X_best_20 (fun r u H locs hu hP hD hS => ?_)
      obtain ⟨hr9, rfl⟩ := hu
      have hP : va_P D vwCl (xw D q n P k a z lo hi B av al ah an ((srF n P a lo hi B av al ah pt fd i 1).2.1) ((srF n P a lo hi B av al ah pt fd i 1).2.2)) H := hP
      have hD : va_D A (xw D q n P k a z lo hi B av al ah an ((srF n P a lo hi B av al ah pt fd i 1).2.1) ((srF n P a lo hi B av al ah pt fd i 1).2.2)) := hD
      rcases zb_cb hr9 with ⟨rfl, h20⟩ | ⟨rfl, h20⟩
      · skip
        refine wVi (n := 1) (wr := []) (Wf := xW D q) (rest := []) hx hb hml hown hA (c_keepAsAnswer l D q n P k a z lo hi B av al ah an ((srF n P a lo hi B av al ah pt fd i 1).2.1) ((srF n P a lo hi B av al ah pt fd i 1).2.2) 1 _ hn (by decide)) wv_X_119 ⟨by decide, by decide, by decide +kernel⟩ ⟨rfl, rfl, by decide, by decide⟩ rfl hl.1 ⟨Nat.le_of_ble_eq_true rfl, Nat.le_of_ble_eq_true rfl⟩ hP hK hD hS hAA hN [0, 1, 2, 3, 4, 5, 6, 7, 8, 9] [] rfl rfl (by decide) (by decide) (by decide) 0 0 rfl rfl rfl (Nat.le_of_ble_eq_true rfl) d_X_best_23 (fun r u H locs hu hP hD hS => ?_)
        obtain ⟨rfl, rfl⟩ := hu
        have hP : va_P D vwCl (xw D q n P k a 1 lo hi B av al ah (if (1 : Int32) = 0 then an else va_cpy ((srF n P a lo hi B av al ah pt fd i 1).2.2) an 0 0 n) ((srF n P a lo hi B av al ah pt fd i 1).2.1) ((srF n P a lo hi B av al ah pt fd i 1).2.2)) H := hP
        have hD : va_D A (xw D q n P k a 1 lo hi B av al ah (if (1 : Int32) = 0 then an else va_cpy ((srF n P a lo hi B av al ah pt fd i 1).2.2) an 0 0 n) ((srF n P a lo hi B av al ah pt fd i 1).2.1) ((srF n P a lo hi B av al ah pt fd i 1).2.2)) := hD
        refine lv_if_eq (tgt := 33) hx hb d_X_best_26 (by decide) (fun h => absurd h (by decide)) (fun _ => ?_)
        refine lv_iconst (v := 1) hx hb d_X_best_29 (by decide) ?_
        refine lv_goto (tgt := 34) hx hb d_X_best_30 (by decide) ?_
        exact eWz (n, P, k, a, 1, lo, hi, B, av, al, ah, if (1 : Int32) = 0 then an else va_cpy ((srF n P a lo hi B av al ah pt fd i 1).2.2) an 0 0 n, (srF n P a lo hi B av al ah pt fd i 1).2.1, (srF n P a lo hi B av al ah pt fd i 1).2.2) hx hb hr hlocks (by first | rfl | decide) hP hK hD hS (by first | exact Or.inl ⟨h2, rfl, rfl⟩ | exact Or.inr ⟨h2, by rw [h20]; exact ⟨rfl, rfl⟩⟩) d_X_best_34
      · skip
        refine wVi (n := 1) (wr := []) (Wf := xW D q) (rest := []) hx hb hml hown hA (c_keepAsAnswer l D q n P k a z lo hi B av al ah an ((srF n P a lo hi B av al ah pt fd i 1).2.1) ((srF n P a lo hi B av al ah pt fd i 1).2.2) 0 _ hn (by decide)) wv_X_119 ⟨by decide, by decide, by decide +kernel⟩ ⟨rfl, rfl, by decide, by decide⟩ rfl hl.1 ⟨Nat.le_of_ble_eq_true rfl, Nat.le_of_ble_eq_true rfl⟩ hP hK hD hS hAA hN [0, 1, 2, 3, 4, 5, 6, 7, 8, 9] [] rfl rfl (by decide) (by decide) (by decide) 0 0 rfl rfl rfl (Nat.le_of_ble_eq_true rfl) d_X_best_23 (fun r u H locs hu hP hD hS => ?_)
        obtain ⟨rfl, rfl⟩ := hu
        have hP : va_P D vwCl (xw D q n P k a 0 lo hi B av al ah (if (0 : Int32) = 0 then an else va_cpy ((srF n P a lo hi B av al ah pt fd i 1).2.2) an 0 0 n) ((srF n P a lo hi B av al ah pt fd i 1).2.1) ((srF n P a lo hi B av al ah pt fd i 1).2.2)) H := hP
        have hD : va_D A (xw D q n P k a 0 lo hi B av al ah (if (0 : Int32) = 0 then an else va_cpy ((srF n P a lo hi B av al ah pt fd i 1).2.2) an 0 0 n) ((srF n P a lo hi B av al ah pt fd i 1).2.1) ((srF n P a lo hi B av al ah pt fd i 1).2.2)) := hD
        refine lv_if_eq (tgt := 33) hx hb d_X_best_26 (by decide) (fun _ => ?_) (fun h => absurd h (by decide))
        refine lv_iconst (v := 0) hx hb d_X_best_33 (by decide) ?_
        exact eWz (n, P, k, a, 0, lo, hi, B, av, al, ah, if (0 : Int32) = 0 then an else va_cpy ((srF n P a lo hi B av al ah pt fd i 1).2.2) an 0 0 n, (srF n P a lo hi B av al ah pt fd i 1).2.1, (srF n P a lo hi B av al ah pt fd i 1).2.2) hx hb hr hlocks (by first | rfl | decide) hP hK hD hS (by first | exact Or.inl ⟨h2, rfl, rfl⟩ | exact Or.inr ⟨h2, by rw [h20]; exact ⟨rfl, rfl⟩⟩) d_X_best_34
    · skip
      refine lv_if_eq (tgt := 33) hx hb d_X_best_5 (by decide) (fun _ => ?_) (fun h => absurd h (by decide))
      refine lv_iconst (v := 0) hx hb d_X_best_33 (by decide) ?_
      exact eWz (n, P, k, a, z, lo, hi, B, av, al, ah, an, pt, fd) hx hb hr hlocks (by first | rfl | decide) hP hK hD hS (by first | exact Or.inl ⟨h2, rfl, rfl⟩ | exact Or.inr ⟨h2, by rw [h20]; exact ⟨rfl, rfl⟩⟩) d_X_best_34
  · skip
    have hl : lv_has ls 3 [(0, .ref (q 0)), (1, .int i), (2, .int 1)] := hl
    refine lv_aload_n hx hb d_X_best_0 rfl (lv_at hl 0 rfl) ?_
    refine lv_iload_n hx hb d_X_best_1 rfl (lv_at hl 1 rfl) ?_
    refine rV (n := 1) (rest := []) hx hb hml hown hA (c_isVariable l D q n P k a z lo hi B av al ah an pt fd i) wv_X_75 ⟨by decide, by decide, by decide +kernel⟩ ⟨rfl, rfl, by decide, by decide⟩ rfl hl.1 ⟨Nat.le_of_ble_eq_true rfl, Nat.le_of_ble_eq_true rfl⟩ hP hK hD hN 0 0 rfl rfl rfl (Nat.le_of_ble_eq_true rfl) d_X_best_2 (fun r hr9 => ?_)
    rcases zb_c hr9 with ⟨rfl, h2⟩ | ⟨rfl, h2⟩
    · skip
      refine lv_if_eq (tgt := 33) hx hb d_X_best_5 (by decide) (fun h => absurd h (by decide)) (fun _ => ?_)
      refine lv_aload_n hx hb d_X_best_8 rfl (lv_at hl 0 rfl) ?_
      refine lv_aload_n hx hb d_X_best_9 rfl (lv_at hl 0 rfl) ?_
      refine lv_iload_n hx hb d_X_best_10 rfl (lv_at hl 1 rfl) ?_
      refine lv_iload_n hx hb d_X_best_11 rfl (lv_at hl 2 rfl) ?_
      refine lv_if_eq (tgt := 19) hx hb d_X_best_12 (by decide) (fun h => absurd h (by decide)) (fun _ => ?_)
      refine lv_iconst (v := (-1)) hx hb d_X_best_15 (by decide) ?_
      refine lv_goto (tgt := 20) hx hb d_X_best_16 (by decide) ?_
      refine wVi (n := 2) (wr := []) (Wf := xW D q) (rest := [.ref (q 0)]) hx hb hml hown hA (c_search l D q n P k a z lo hi B av al ah an pt fd i (-1) _ hn hP4 ha hav (iv_in h2 hn)) wv_X_116 ⟨by decide, by decide, by decide +kernel⟩ ⟨rfl, rfl, by decide, by decide⟩ rfl hl.1 ⟨Nat.le_of_ble_eq_true rfl, Nat.le_of_ble_eq_true rfl⟩ hP hK hD hS hAA hN [0, 1, 2, 3, 4, 5, 6, 7, 8, 9] [] rfl rfl (by decide) (by decide) (by decide) 0 0 rfl rfl rfl (Nat.le_of_ble_eq_true rfl) d_X_best_20 (fun r u H locs hu hP hD hS => ?_)
      obtain ⟨hr9, rfl⟩ := hu
      have hP : va_P D vwCl (xw D q n P k a z lo hi B av al ah an ((srF n P a lo hi B av al ah pt fd i (-1)).2.1) ((srF n P a lo hi B av al ah pt fd i (-1)).2.2)) H := hP
      have hD : va_D A (xw D q n P k a z lo hi B av al ah an ((srF n P a lo hi B av al ah pt fd i (-1)).2.1) ((srF n P a lo hi B av al ah pt fd i (-1)).2.2)) := hD
      rcases zb_cb hr9 with ⟨rfl, h20⟩ | ⟨rfl, h20⟩
      · skip
        refine wVi (n := 1) (wr := []) (Wf := xW D q) (rest := []) hx hb hml hown hA (c_keepAsAnswer l D q n P k a z lo hi B av al ah an ((srF n P a lo hi B av al ah pt fd i (-1)).2.1) ((srF n P a lo hi B av al ah pt fd i (-1)).2.2) 1 _ hn (by decide)) wv_X_119 ⟨by decide, by decide, by decide +kernel⟩ ⟨rfl, rfl, by decide, by decide⟩ rfl hl.1 ⟨Nat.le_of_ble_eq_true rfl, Nat.le_of_ble_eq_true rfl⟩ hP hK hD hS hAA hN [0, 1, 2, 3, 4, 5, 6, 7, 8, 9] [] rfl rfl (by decide) (by decide) (by decide) 0 0 rfl rfl rfl (Nat.le_of_ble_eq_true rfl) d_X_best_23 (fun r u H locs hu hP hD hS => ?_)
        obtain ⟨rfl, rfl⟩ := hu
        have hP : va_P D vwCl (xw D q n P k a 1 lo hi B av al ah (if (1 : Int32) = 0 then an else va_cpy ((srF n P a lo hi B av al ah pt fd i (-1)).2.2) an 0 0 n) ((srF n P a lo hi B av al ah pt fd i (-1)).2.1) ((srF n P a lo hi B av al ah pt fd i (-1)).2.2)) H := hP
        have hD : va_D A (xw D q n P k a 1 lo hi B av al ah (if (1 : Int32) = 0 then an else va_cpy ((srF n P a lo hi B av al ah pt fd i (-1)).2.2) an 0 0 n) ((srF n P a lo hi B av al ah pt fd i (-1)).2.1) ((srF n P a lo hi B av al ah pt fd i (-1)).2.2)) := hD
        refine lv_if_eq (tgt := 33) hx hb d_X_best_26 (by decide) (fun h => absurd h (by decide)) (fun _ => ?_)
        refine lv_iconst (v := 1) hx hb d_X_best_29 (by decide) ?_
        refine lv_goto (tgt := 34) hx hb d_X_best_30 (by decide) ?_
        exact eWz (n, P, k, a, 1, lo, hi, B, av, al, ah, if (1 : Int32) = 0 then an else va_cpy ((srF n P a lo hi B av al ah pt fd i (-1)).2.2) an 0 0 n, (srF n P a lo hi B av al ah pt fd i (-1)).2.1, (srF n P a lo hi B av al ah pt fd i (-1)).2.2) hx hb hr hlocks (by first | rfl | decide) hP hK hD hS (by first | exact Or.inl ⟨h2, rfl, rfl⟩ | exact Or.inr ⟨h2, by rw [h20]; exact ⟨rfl, rfl⟩⟩) d_X_best_34
      · skip
        refine wVi (n := 1) (wr := []) (Wf := xW D q) (rest := []) hx hb hml hown hA (c_keepAsAnswer l D q n P k a z lo hi B av al ah an ((srF n P a lo hi B av al ah pt fd i (-1)).2.1) ((srF n P a lo hi B av al ah pt fd i (-1)).2.2) 0 _ hn (by decide)) wv_X_119 ⟨by decide, by decide, by decide +kernel⟩ ⟨rfl, rfl, by decide, by decide⟩ rfl hl.1 ⟨Nat.le_of_ble_eq_true rfl, Nat.le_of_ble_eq_true rfl⟩ hP hK hD hS hAA hN [0, 1, 2, 3, 4, 5, 6, 7, 8, 9] [] rfl rfl (by decide) (by decide) (by decide) 0 0 rfl rfl rfl (Nat.le_of_ble_eq_true rfl) d_X_best_23 (fun r u H locs hu hP hD hS => ?_)
        obtain ⟨rfl, rfl⟩ := hu
        have hP : va_P D vwCl (xw D q n P k a 0 lo hi B av al ah (if (0 : Int32) = 0 then an else va_cpy ((srF n P a lo hi B av al ah pt fd i (-1)).2.2) an 0 0 n) ((srF n P a lo hi B av al ah pt fd i (-1)).2.1) ((srF n P a lo hi B av al ah pt fd i (-1)).2.2)) H := hP
        have hD : va_D A (xw D q n P k a 0 lo hi B av al ah (if (0 : Int32) = 0 then an else va_cpy ((srF n P a lo hi B av al ah pt fd i (-1)).2.2) an 0 0 n) ((srF n P a lo hi B av al ah pt fd i (-1)).2.1) ((srF n P a lo hi B av al ah pt fd i (-1)).2.2)) := hD
        refine lv_if_eq (tgt := 33) hx hb d_X_best_26 (by decide) (fun _ => ?_) (fun h => absurd h (by decide))
        refine lv_iconst (v := 0) hx hb d_X_best_33 (by decide) ?_
        exact eWz (n, P, k, a, 0, lo, hi, B, av, al, ah, if (0 : Int32) = 0 then an else va_cpy ((srF n P a lo hi B av al ah pt fd i (-1)).2.2) an 0 0 n, (srF n P a lo hi B av al ah pt fd i (-1)).2.1, (srF n P a lo hi B av al ah pt fd i (-1)).2.2) hx hb hr hlocks (by first | rfl | decide) hP hK hD hS (by first | exact Or.inl ⟨h2, rfl, rfl⟩ | exact Or.inr ⟨h2, by rw [h20]; exact ⟨rfl, rfl⟩⟩) d_X_best_34
    · skip
      refine lv_if_eq (tgt := 33) hx hb d_X_best_5 (by decide) (fun _ => ?_) (fun h => absurd h (by decide))
      refine lv_iconst (v := 0) hx hb d_X_best_33 (by decide) ?_
      exact eWz (n, P, k, a, z, lo, hi, B, av, al, ah, an, pt, fd) hx hb hr hlocks (by first | rfl | decide) hP hK hD hS (by first | exact Or.inl ⟨h2, rfl, rfl⟩ | exact Or.inr ⟨h2, by rw [h20]; exact ⟨rfl, rfl⟩⟩) d_X_best_34
end
end
section
section
set_option maxRecDepth 100000 in
set_option maxHeartbeats 4000000 in
theorem c_least (l : Launch) (D : va_G) (q : Nat → Nat) (n P k a : Nat) (z : Int32) (lo hi B av al ah an pt fd : Nat → Int32) (i : Int32) (sz : Nat) (hn : n ≤ 8) (hP4 : P ≤ 4096) (ha : a ≤ 8) (hav : ∀ m, m < a → vp_in (av m) 8) : Met l y_X_least (wsm y_X_least b_X_least 2 (some .int)) { frames := 3, cells := 0, slots := 0, locals := 63 } (va_Pc [.ref (q 0), .int i] (fun U => U.heap.size = sz ∧ cPre D (xw D q n P k a z lo hi B av al ah an pt fd) U)) (va_Qi (fun (r : Int32) (u : XS) => (¬ iv n i ∧ r = 1000 ∧ u = (n, P, k, a, z, lo, hi, B, av, al, ah, an, pt, fd)) ∨ (iv n i ∧ r = (if (srF n P a lo hi B av al ah pt fd i 1).1 = true then (srF n P a lo hi B av al ah pt fd i 1).2.2 i.toNatClampNeg else 1000) ∧ u = (n, P, k, a, z, lo, hi, B, av, al, ah, an, (srF n P a lo hi B av al ah pt fd i 1).2.1, (srF n P a lo hi B av al ah pt fd i 1).2.2))) (fun u t => xB D (xW D q u) (va_A (xw D q n P k a z lo hi B av al ah an pt fd) sz) t) (va_A (xw D q n P k a z lo hi B av al ah an pt fd) sz)) 0 0 (va_A (xw D q n P k a z lo hi B av al ah an pt fd) sz) := by
  refine met_W (Qf := fun A => va_Qi (fun (r : Int32) (u : XS) => (¬ iv n i ∧ r = 1000 ∧ u = (n, P, k, a, z, lo, hi, B, av, al, ah, an, pt, fd)) ∨ (iv n i ∧ r = (if (srF n P a lo hi B av al ah pt fd i 1).1 = true then (srF n P a lo hi B av al ah pt fd i 1).2.2 i.toNatClampNeg else 1000) ∧ u = (n, P, k, a, z, lo, hi, B, av, al, ah, an, (srF n P a lo hi B av al ah pt fd i 1).2.1, (srF n P a lo hi B av al ah pt fd i 1).2.2))) (fun u t => xB D (xW D q u) A t) A) (by decide) (Nat.le_of_ble_eq_true rfl) ?_
  intro p e s m below meth c ls A hx hb hr hlocks hml hown hin hA hP hK hD hN hl hS hAA
  have hown : s.vm.findClass R_X = some m.cls := hown
  have hl : lv_has ls 2 [(0, .ref (q 0)), (1, .int i)] := hl
  refine lv_aload_n hx hb d_X_least_0 rfl (lv_at hl 0 rfl) ?_
  refine lv_iload_n hx hb d_X_least_1 rfl (lv_at hl 1 rfl) ?_
  refine rV (n := 1) (rest := []) hx hb hml hown hA (c_isVariable l D q n P k a z lo hi B av al ah an pt fd i) wv_X_75 ⟨by decide, by decide, by decide +kernel⟩ ⟨rfl, rfl, by decide, by decide⟩ rfl hl.1 ⟨Nat.le_of_ble_eq_true rfl, Nat.le_of_ble_eq_true rfl⟩ hP hK hD hN 0 0 rfl rfl rfl (Nat.le_of_ble_eq_true rfl) d_X_least_2 (fun r hr9 => ?_)
  rcases zb_c hr9 with ⟨rfl, h2⟩ | ⟨rfl, h2⟩
  · skip
    refine lv_if_eq (tgt := 26) hx hb d_X_least_5 (by decide) (fun h => absurd h (by decide)) (fun _ => ?_)
    refine lv_aload_n hx hb d_X_least_8 rfl (lv_at hl 0 rfl) ?_
    refine lv_iload_n hx hb d_X_least_9 rfl (lv_at hl 1 rfl) ?_
    refine lv_iconst (v := 1) hx hb d_X_least_10 (by decide) ?_
    refine wVi (n := 2) (wr := []) (Wf := xW D q) (rest := []) hx hb hml hown hA (c_search l D q n P k a z lo hi B av al ah an pt fd i 1 _ hn hP4 ha hav (iv_in h2 hn)) wv_X_116 ⟨by decide, by decide, by decide +kernel⟩ ⟨rfl, rfl, by decide, by decide⟩ rfl hl.1 ⟨Nat.le_of_ble_eq_true rfl, Nat.le_of_ble_eq_true rfl⟩ hP hK hD hS hAA hN [0, 1, 2, 3, 4, 5, 6, 7, 8, 9] [] rfl rfl (by decide) (by decide) (by decide) 0 0 rfl rfl rfl (Nat.le_of_ble_eq_true rfl) d_X_least_11 (fun r u H locs hu hP hD hS => ?_)
    obtain ⟨hr9, rfl⟩ := hu
    have hP : va_P D vwCl (xw D q n P k a z lo hi B av al ah an ((srF n P a lo hi B av al ah pt fd i 1).2.1) ((srF n P a lo hi B av al ah pt fd i 1).2.2)) H := hP
    have hD : va_D A (xw D q n P k a z lo hi B av al ah an ((srF n P a lo hi B av al ah pt fd i 1).2.1) ((srF n P a lo hi B av al ah pt fd i 1).2.2)) := hD
    rcases zb_cb hr9 with ⟨rfl, h11⟩ | ⟨rfl, h11⟩
    · skip
      refine lv_if_eq (tgt := 26) hx hb d_X_least_14 (by decide) (fun h => absurd h (by decide)) (fun _ => ?_)
      refine lv_aload_n hx hb d_X_least_17 rfl (lv_at hl 0 rfl) ?_
      refine va_get (D := D) (ci := 0) (v := .ref (q 9)) (C := R_X) (T := T_X) (N := 14) hx hb hA inA_X hown hK hP 0 rfl rfl 13 (by decide) (hA _ wd_38) (fun _ h9 => h9) rfl d_X_least_18 ?_
      refine lv_iload_n hx hb d_X_least_21 rfl (lv_at hl 1 rfl) ?_
      refine va_iald hx hb hK hP 9 0 rfl rfl (iv_in h2 hn) d_X_least_22 ?_
      refine lv_goto (tgt := 29) hx hb d_X_least_23 (by decide) ?_
      exact eWi (n, P, k, a, z, lo, hi, B, av, al, ah, an, (srF n P a lo hi B av al ah pt fd i 1).2.1, (srF n P a lo hi B av al ah pt fd i 1).2.2) hx hb hr hlocks hP hK hD hS (by first | exact Or.inl ⟨h2, rfl, rfl⟩ | exact Or.inr ⟨h2, (Eq.symm (if_pos h11)), rfl⟩ | exact Or.inr ⟨h2, (Eq.symm (if_neg (by rw [h11]; decide))), rfl⟩) d_X_least_29
    · skip
      refine lv_if_eq (tgt := 26) hx hb d_X_least_14 (by decide) (fun _ => ?_) (fun h => absurd h (by decide))
      refine lv_sipush (v := 1000) hx hb d_X_least_26 (by decide) ?_
      exact eWi (n, P, k, a, z, lo, hi, B, av, al, ah, an, (srF n P a lo hi B av al ah pt fd i 1).2.1, (srF n P a lo hi B av al ah pt fd i 1).2.2) hx hb hr hlocks hP hK hD hS (by first | exact Or.inl ⟨h2, rfl, rfl⟩ | exact Or.inr ⟨h2, (Eq.symm (if_pos h11)), rfl⟩ | exact Or.inr ⟨h2, (Eq.symm (if_neg (by rw [h11]; decide))), rfl⟩) d_X_least_29
  · skip
    refine lv_if_eq (tgt := 26) hx hb d_X_least_5 (by decide) (fun _ => ?_) (fun h => absurd h (by decide))
    refine lv_sipush (v := 1000) hx hb d_X_least_26 (by decide) ?_
    exact eWi (n, P, k, a, z, lo, hi, B, av, al, ah, an, pt, fd) hx hb hr hlocks hP hK hD hS (by first | exact Or.inl ⟨h2, rfl, rfl⟩ | exact Or.inr ⟨h2, (Eq.symm (if_pos h11)), rfl⟩ | exact Or.inr ⟨h2, (Eq.symm (if_neg (by rw [h11]; decide))), rfl⟩) d_X_least_29
end
end
section
section
set_option maxRecDepth 100000 in
set_option maxHeartbeats 4000000 in
theorem c_greatest (l : Launch) (D : va_G) (q : Nat → Nat) (n P k a : Nat) (z : Int32) (lo hi B av al ah an pt fd : Nat → Int32) (i : Int32) (sz : Nat) (hn : n ≤ 8) (hP4 : P ≤ 4096) (ha : a ≤ 8) (hav : ∀ m, m < a → vp_in (av m) 8) : Met l y_X_greatest (wsm y_X_greatest b_X_greatest 2 (some .int)) { frames := 3, cells := 0, slots := 0, locals := 63 } (va_Pc [.ref (q 0), .int i] (fun U => U.heap.size = sz ∧ cPre D (xw D q n P k a z lo hi B av al ah an pt fd) U)) (va_Qi (fun (r : Int32) (u : XS) => (¬ iv n i ∧ r = 1000 ∧ u = (n, P, k, a, z, lo, hi, B, av, al, ah, an, pt, fd)) ∨ (iv n i ∧ r = (if (srF n P a lo hi B av al ah pt fd i (-1)).1 = true then (srF n P a lo hi B av al ah pt fd i (-1)).2.2 i.toNatClampNeg else 1000) ∧ u = (n, P, k, a, z, lo, hi, B, av, al, ah, an, (srF n P a lo hi B av al ah pt fd i (-1)).2.1, (srF n P a lo hi B av al ah pt fd i (-1)).2.2))) (fun u t => xB D (xW D q u) (va_A (xw D q n P k a z lo hi B av al ah an pt fd) sz) t) (va_A (xw D q n P k a z lo hi B av al ah an pt fd) sz)) 0 0 (va_A (xw D q n P k a z lo hi B av al ah an pt fd) sz) := by
  refine met_W (Qf := fun A => va_Qi (fun (r : Int32) (u : XS) => (¬ iv n i ∧ r = 1000 ∧ u = (n, P, k, a, z, lo, hi, B, av, al, ah, an, pt, fd)) ∨ (iv n i ∧ r = (if (srF n P a lo hi B av al ah pt fd i (-1)).1 = true then (srF n P a lo hi B av al ah pt fd i (-1)).2.2 i.toNatClampNeg else 1000) ∧ u = (n, P, k, a, z, lo, hi, B, av, al, ah, an, (srF n P a lo hi B av al ah pt fd i (-1)).2.1, (srF n P a lo hi B av al ah pt fd i (-1)).2.2))) (fun u t => xB D (xW D q u) A t) A) (by decide) (Nat.le_of_ble_eq_true rfl) ?_
  intro p e s m below meth c ls A hx hb hr hlocks hml hown hin hA hP hK hD hN hl hS hAA
  have hown : s.vm.findClass R_X = some m.cls := hown
  have hl : lv_has ls 2 [(0, .ref (q 0)), (1, .int i)] := hl
  refine lv_aload_n hx hb d_X_greatest_0 rfl (lv_at hl 0 rfl) ?_
  refine lv_iload_n hx hb d_X_greatest_1 rfl (lv_at hl 1 rfl) ?_
  refine rV (n := 1) (rest := []) hx hb hml hown hA (c_isVariable l D q n P k a z lo hi B av al ah an pt fd i) wv_X_75 ⟨by decide, by decide, by decide +kernel⟩ ⟨rfl, rfl, by decide, by decide⟩ rfl hl.1 ⟨Nat.le_of_ble_eq_true rfl, Nat.le_of_ble_eq_true rfl⟩ hP hK hD hN 0 0 rfl rfl rfl (Nat.le_of_ble_eq_true rfl) d_X_greatest_2 (fun r hr9 => ?_)
  rcases zb_c hr9 with ⟨rfl, h2⟩ | ⟨rfl, h2⟩
  · skip
    refine lv_if_eq (tgt := 26) hx hb d_X_greatest_5 (by decide) (fun h => absurd h (by decide)) (fun _ => ?_)
    refine lv_aload_n hx hb d_X_greatest_8 rfl (lv_at hl 0 rfl) ?_
    refine lv_iload_n hx hb d_X_greatest_9 rfl (lv_at hl 1 rfl) ?_
    refine lv_iconst (v := (-1)) hx hb d_X_greatest_10 (by decide) ?_
    refine wVi (n := 2) (wr := []) (Wf := xW D q) (rest := []) hx hb hml hown hA (c_search l D q n P k a z lo hi B av al ah an pt fd i (-1) _ hn hP4 ha hav (iv_in h2 hn)) wv_X_116 ⟨by decide, by decide, by decide +kernel⟩ ⟨rfl, rfl, by decide, by decide⟩ rfl hl.1 ⟨Nat.le_of_ble_eq_true rfl, Nat.le_of_ble_eq_true rfl⟩ hP hK hD hS hAA hN [0, 1, 2, 3, 4, 5, 6, 7, 8, 9] [] rfl rfl (by decide) (by decide) (by decide) 0 0 rfl rfl rfl (Nat.le_of_ble_eq_true rfl) d_X_greatest_11 (fun r u H locs hu hP hD hS => ?_)
    obtain ⟨hr9, rfl⟩ := hu
    have hP : va_P D vwCl (xw D q n P k a z lo hi B av al ah an ((srF n P a lo hi B av al ah pt fd i (-1)).2.1) ((srF n P a lo hi B av al ah pt fd i (-1)).2.2)) H := hP
    have hD : va_D A (xw D q n P k a z lo hi B av al ah an ((srF n P a lo hi B av al ah pt fd i (-1)).2.1) ((srF n P a lo hi B av al ah pt fd i (-1)).2.2)) := hD
    rcases zb_cb hr9 with ⟨rfl, h11⟩ | ⟨rfl, h11⟩
    · skip
      refine lv_if_eq (tgt := 26) hx hb d_X_greatest_14 (by decide) (fun h => absurd h (by decide)) (fun _ => ?_)
      refine lv_aload_n hx hb d_X_greatest_17 rfl (lv_at hl 0 rfl) ?_
      refine va_get (D := D) (ci := 0) (v := .ref (q 9)) (C := R_X) (T := T_X) (N := 14) hx hb hA inA_X hown hK hP 0 rfl rfl 13 (by decide) (hA _ wd_38) (fun _ h9 => h9) rfl d_X_greatest_18 ?_
      refine lv_iload_n hx hb d_X_greatest_21 rfl (lv_at hl 1 rfl) ?_
      refine va_iald hx hb hK hP 9 0 rfl rfl (iv_in h2 hn) d_X_greatest_22 ?_
      refine lv_goto (tgt := 29) hx hb d_X_greatest_23 (by decide) ?_
      exact eWi (n, P, k, a, z, lo, hi, B, av, al, ah, an, (srF n P a lo hi B av al ah pt fd i (-1)).2.1, (srF n P a lo hi B av al ah pt fd i (-1)).2.2) hx hb hr hlocks hP hK hD hS (by first | exact Or.inl ⟨h2, rfl, rfl⟩ | exact Or.inr ⟨h2, (Eq.symm (if_pos h11)), rfl⟩ | exact Or.inr ⟨h2, (Eq.symm (if_neg (by rw [h11]; decide))), rfl⟩) d_X_greatest_29
    · skip
      refine lv_if_eq (tgt := 26) hx hb d_X_greatest_14 (by decide) (fun _ => ?_) (fun h => absurd h (by decide))
      refine lv_sipush (v := 1000) hx hb d_X_greatest_26 (by decide) ?_
      exact eWi (n, P, k, a, z, lo, hi, B, av, al, ah, an, (srF n P a lo hi B av al ah pt fd i (-1)).2.1, (srF n P a lo hi B av al ah pt fd i (-1)).2.2) hx hb hr hlocks hP hK hD hS (by first | exact Or.inl ⟨h2, rfl, rfl⟩ | exact Or.inr ⟨h2, (Eq.symm (if_pos h11)), rfl⟩ | exact Or.inr ⟨h2, (Eq.symm (if_neg (by rw [h11]; decide))), rfl⟩) d_X_greatest_29
  · skip
    refine lv_if_eq (tgt := 26) hx hb d_X_greatest_5 (by decide) (fun _ => ?_) (fun h => absurd h (by decide))
    refine lv_sipush (v := 1000) hx hb d_X_greatest_26 (by decide) ?_
    exact eWi (n, P, k, a, z, lo, hi, B, av, al, ah, an, pt, fd) hx hb hr hlocks hP hK hD hS (by first | exact Or.inl ⟨h2, rfl, rfl⟩ | exact Or.inr ⟨h2, (Eq.symm (if_pos h11)), rfl⟩ | exact Or.inr ⟨h2, (Eq.symm (if_neg (by rw [h11]; decide))), rfl⟩) d_X_greatest_29
end
end
section
section
set_option maxRecDepth 100000 in
set_option maxHeartbeats 4000000 in
theorem c_implies (l : Launch) (D : va_G) (q : Nat → Nat) (n P k a : Nat) (z : Int32) (lo hi B av al ah an pt fd : Nat → Int32) (i v : Int32) (sz : Nat) (hn : n ≤ 8) (hP4 : P ≤ 4096) (ha : a ≤ 8) (hav : ∀ m, m < a → vp_in (av m) 8) : Met l y_X_implies (wsm y_X_implies b_X_implies 3 (some .boolean)) { frames := 3, cells := 0, slots := 0, locals := 63 } (va_Pc [.ref (q 0), .int i, .int v] (fun U => U.heap.size = sz ∧ cPre D (xw D q n P k a z lo hi B av al ah an pt fd) U)) (va_Qi (fun (r : Int32) (u : XS) => (¬ iv n i ∧ r = 0 ∧ u = (n, P, k, a, z, lo, hi, B, av, al, ah, an, pt, fd)) ∨ (iv n i ∧ r = zb (decide ((srF n P a lo hi B av al ah pt fd i (-1)).1 = true → ¬ v < (srF n P a lo hi B av al ah pt fd i (-1)).2.2 i.toNatClampNeg)) ∧ u = (n, P, k, a, z, lo, hi, B, av, al, ah, an, (srF n P a lo hi B av al ah pt fd i (-1)).2.1, (srF n P a lo hi B av al ah pt fd i (-1)).2.2))) (fun u t => xB D (xW D q u) (va_A (xw D q n P k a z lo hi B av al ah an pt fd) sz) t) (va_A (xw D q n P k a z lo hi B av al ah an pt fd) sz)) 0 0 (va_A (xw D q n P k a z lo hi B av al ah an pt fd) sz) := by
  refine met_W (Qf := fun A => va_Qi (fun (r : Int32) (u : XS) => (¬ iv n i ∧ r = 0 ∧ u = (n, P, k, a, z, lo, hi, B, av, al, ah, an, pt, fd)) ∨ (iv n i ∧ r = zb (decide ((srF n P a lo hi B av al ah pt fd i (-1)).1 = true → ¬ v < (srF n P a lo hi B av al ah pt fd i (-1)).2.2 i.toNatClampNeg)) ∧ u = (n, P, k, a, z, lo, hi, B, av, al, ah, an, (srF n P a lo hi B av al ah pt fd i (-1)).2.1, (srF n P a lo hi B av al ah pt fd i (-1)).2.2))) (fun u t => xB D (xW D q u) A t) A) (by decide) (Nat.le_of_ble_eq_true rfl) ?_
  intro p e s m below meth c ls A hx hb hr hlocks hml hown hin hA hP hK hD hN hl hS hAA
  have hown : s.vm.findClass R_X = some m.cls := hown
  have hl : lv_has ls 3 [(0, .ref (q 0)), (1, .int i), (2, .int v)] := hl
  refine lv_aload_n hx hb d_X_implies_0 rfl (lv_at hl 0 rfl) ?_
  refine lv_iload_n hx hb d_X_implies_1 rfl (lv_at hl 1 rfl) ?_
  refine rV (n := 1) (rest := []) hx hb hml hown hA (c_isVariable l D q n P k a z lo hi B av al ah an pt fd i) wv_X_75 ⟨by decide, by decide, by decide +kernel⟩ ⟨rfl, rfl, by decide, by decide⟩ rfl hl.1 ⟨Nat.le_of_ble_eq_true rfl, Nat.le_of_ble_eq_true rfl⟩ hP hK hD hN 0 0 rfl rfl rfl (Nat.le_of_ble_eq_true rfl) d_X_implies_2 (fun r hr9 => ?_)
  rcases zb_c hr9 with ⟨rfl, h2⟩ | ⟨rfl, h2⟩
  · skip
    refine lv_if_eq (tgt := 31) hx hb d_X_implies_5 (by decide) (fun h => absurd h (by decide)) (fun _ => ?_)
    refine lv_aload_n hx hb d_X_implies_8 rfl (lv_at hl 0 rfl) ?_
    refine lv_iload_n hx hb d_X_implies_9 rfl (lv_at hl 1 rfl) ?_
    refine lv_iconst (v := (-1)) hx hb d_X_implies_10 (by decide) ?_
    refine wVi (n := 2) (wr := []) (Wf := xW D q) (rest := []) hx hb hml hown hA (c_search l D q n P k a z lo hi B av al ah an pt fd i (-1) _ hn hP4 ha hav (iv_in h2 hn)) wv_X_116 ⟨by decide, by decide, by decide +kernel⟩ ⟨rfl, rfl, by decide, by decide⟩ rfl hl.1 ⟨Nat.le_of_ble_eq_true rfl, Nat.le_of_ble_eq_true rfl⟩ hP hK hD hS hAA hN [0, 1, 2, 3, 4, 5, 6, 7, 8, 9] [] rfl rfl (by decide) (by decide) (by decide) 0 0 rfl rfl rfl (Nat.le_of_ble_eq_true rfl) d_X_implies_11 (fun r u H locs hu hP hD hS => ?_)
    obtain ⟨hr9, rfl⟩ := hu
    have hP : va_P D vwCl (xw D q n P k a z lo hi B av al ah an ((srF n P a lo hi B av al ah pt fd i (-1)).2.1) ((srF n P a lo hi B av al ah pt fd i (-1)).2.2)) H := hP
    have hD : va_D A (xw D q n P k a z lo hi B av al ah an ((srF n P a lo hi B av al ah pt fd i (-1)).2.1) ((srF n P a lo hi B av al ah pt fd i (-1)).2.2)) := hD
    rcases zb_cb hr9 with ⟨rfl, h11⟩ | ⟨rfl, h11⟩
    · skip
      refine lv_if_eq (tgt := 27) hx hb d_X_implies_14 (by decide) (fun h => absurd h (by decide)) (fun _ => ?_)
      refine lv_aload_n hx hb d_X_implies_17 rfl (lv_at hl 0 rfl) ?_
      refine va_get (D := D) (ci := 0) (v := .ref (q 9)) (C := R_X) (T := T_X) (N := 14) hx hb hA inA_X hown hK hP 0 rfl rfl 13 (by decide) (hA _ wd_38) (fun _ h9 => h9) rfl d_X_implies_18 ?_
      refine lv_iload_n hx hb d_X_implies_21 rfl (lv_at hl 1 rfl) ?_
      refine va_iald hx hb hK hP 9 0 rfl rfl (iv_in h2 hn) d_X_implies_22 ?_
      refine lv_iload_n hx hb d_X_implies_23 rfl (lv_at hl 2 rfl) ?_
      refine lv_icmp_gt (tgt := 31) hx hb d_X_implies_24 (by decide) (fun h24 => ?_) (fun h24 => ?_)
      · skip
        refine lv_iconst (v := 0) hx hb d_X_implies_31 (by decide) ?_
        exact eWz (n, P, k, a, z, lo, hi, B, av, al, ah, an, (srF n P a lo hi B av al ah pt fd i (-1)).2.1, (srF n P a lo hi B av al ah pt fd i (-1)).2.2) hx hb hr hlocks (by first | rfl | decide) hP hK hD hS (by first | exact Or.inl ⟨h2, rfl, rfl⟩ | exact Or.inr ⟨h2, zb_t (fun _ => h24), rfl⟩ | exact Or.inr ⟨h2, zb_f (fun h => h h11 h24), rfl⟩ | exact Or.inr ⟨h2, zb_t (fun h => absurd h (by rw [h11]; decide)), rfl⟩) d_X_implies_32
      · skip
        refine lv_iconst (v := 1) hx hb d_X_implies_27 (by decide) ?_
        refine lv_goto (tgt := 32) hx hb d_X_implies_28 (by decide) ?_
        exact eWz (n, P, k, a, z, lo, hi, B, av, al, ah, an, (srF n P a lo hi B av al ah pt fd i (-1)).2.1, (srF n P a lo hi B av al ah pt fd i (-1)).2.2) hx hb hr hlocks (by first | rfl | decide) hP hK hD hS (by first | exact Or.inl ⟨h2, rfl, rfl⟩ | exact Or.inr ⟨h2, zb_t (fun _ => h24), rfl⟩ | exact Or.inr ⟨h2, zb_f (fun h => h h11 h24), rfl⟩ | exact Or.inr ⟨h2, zb_t (fun h => absurd h (by rw [h11]; decide)), rfl⟩) d_X_implies_32
    · skip
      refine lv_if_eq (tgt := 27) hx hb d_X_implies_14 (by decide) (fun _ => ?_) (fun h => absurd h (by decide))
      refine lv_iconst (v := 1) hx hb d_X_implies_27 (by decide) ?_
      refine lv_goto (tgt := 32) hx hb d_X_implies_28 (by decide) ?_
      exact eWz (n, P, k, a, z, lo, hi, B, av, al, ah, an, (srF n P a lo hi B av al ah pt fd i (-1)).2.1, (srF n P a lo hi B av al ah pt fd i (-1)).2.2) hx hb hr hlocks (by first | rfl | decide) hP hK hD hS (by first | exact Or.inl ⟨h2, rfl, rfl⟩ | exact Or.inr ⟨h2, zb_t (fun _ => h24), rfl⟩ | exact Or.inr ⟨h2, zb_f (fun h => h h11 h24), rfl⟩ | exact Or.inr ⟨h2, zb_t (fun h => absurd h (by rw [h11]; decide)), rfl⟩) d_X_implies_32
  · skip
    refine lv_if_eq (tgt := 31) hx hb d_X_implies_5 (by decide) (fun _ => ?_) (fun h => absurd h (by decide))
    refine lv_iconst (v := 0) hx hb d_X_implies_31 (by decide) ?_
    exact eWz (n, P, k, a, z, lo, hi, B, av, al, ah, an, pt, fd) hx hb hr hlocks (by first | rfl | decide) hP hK hD hS (by first | exact Or.inl ⟨h2, rfl, rfl⟩ | exact Or.inr ⟨h2, zb_t (fun _ => h24), rfl⟩ | exact Or.inr ⟨h2, zb_f (fun h => h h11 h24), rfl⟩ | exact Or.inr ⟨h2, zb_t (fun h => absurd h (by rw [h11]; decide)), rfl⟩) d_X_implies_32
end
end
section
section
abbrev idW (w : va_W) : va_W := w
theorem cumN_no {st mo : Int32} {du ne : Int64} {x : Nat → Int32} {t i : Nat} {nd : Int32} (h : ¬ (inS (nI i) st ∧ ¬ mo < x i ∧ ¬ x i + fbs du (nI i) ≤ mo)) : cumN st du ne mo x (t + 1) i nd = cumN st du ne mo x t (i + 1) nd := if_neg h
theorem cumN_go {st mo : Int32} {du ne : Int64} {x : Nat → Int32} {t i : Nat} {nd : Int32} (h : inS (nI i) st ∧ ¬ mo < x i ∧ ¬ x i + fbs du (nI i) ≤ mo) : cumN st du ne mo x (t + 1) i nd = cumN st du ne mo x t (i + 1) (nd + fbs ne (nI i)) := if_pos h
theorem kCum_no {st cp : Int32} {du ne : Int64} {x : Nat → Int32} {t i : Nat} (h : ¬ (inS (nI i) st ∧ ¬ cumN st du ne (x i) x 8 0 0 ≤ cp)) : kCum st du ne cp x (t + 1) i = kCum st du ne cp x t (i + 1) := if_neg h
theorem kCum_hit {st cp : Int32} {du ne : Int64} {x : Nat → Int32} {t i : Nat} (h : inS (nI i) st ∧ ¬ cumN st du ne (x i) x 8 0 0 ≤ cp) : kCum st du ne cp x (t + 1) i = false := if_pos h
theorem aF_no {lo hi : Nat → Int32} {n k : Nat} {f : (Nat → Int32) → Bool} {t p : Nat} {x B : Nat → Int32} (h : ¬ (B p = 12 ∧ f x = false)) : aF lo hi n k f (t + 1) p x B = aF lo hi n k f t (p + 1) (nx lo hi n x) B := by
  simp only [aF]; rw [if_neg h]
theorem aF_go {lo hi : Nat → Int32} {n k : Nat} {f : (Nat → Int32) → Bool} {t p : Nat} {x B : Nat → Int32} (h : B p = 12 ∧ f x = false) : aF lo hi n k f (t + 1) p x B = aF lo hi n k f t (p + 1) (nx lo hi n x) (upd B p (nI k)) := by
  simp only [aF]; rw [if_pos h]
theorem ws_U_needAt : Cond.selects R_U y_U_needAt y_U_needAt ∈ cA := cA_in (List.mem_append_left _ (List.mem_of_getElem? (i := 7) (by decide +kernel))) rfl
theorem ws_C_partHolds : Cond.selects R_C y_C_partHolds y_C_partHolds ∈ cA := cA_in (List.mem_append_left _ (List.mem_of_getElem? (i := 6) (by decide +kernel))) rfl
theorem wo_JR_1 : Cond.methodLink R_JR 1 objectInit ∈ cA ∧ Cond.instanceMethod objectInit ∈ cA ∧ Cond.code objectInit ⟨#[0xb1]⟩ 1 none ∈ cA := ⟨wd_104, wd_20, wd_21⟩
theorem wv_L_3 : Cond.code y_JR_init b_JR_init 1 none ∈ cA ∧ Cond.initialized y_JR_init.cls ∈ cA ∧ Cond.methodLink R_L 3 y_JR_init ∈ cA ∧ Cond.instanceMethod y_JR_init ∈ cA := ⟨wd_103, wd_4, wd_101, wd_102⟩
theorem wv_R_1 : Cond.code y_JR_init b_JR_init 1 none ∈ cA ∧ Cond.initialized y_JR_init.cls ∈ cA ∧ Cond.methodLink R_R 1 y_JR_init ∈ cA ∧ Cond.instanceMethod y_JR_init ∈ cA := ⟨wd_103, wd_4, wd_221, wd_102⟩
theorem wv_M_3 : Cond.code y_JR_init b_JR_init 1 none ∈ cA ∧ Cond.initialized y_JR_init.cls ∈ cA ∧ Cond.methodLink R_M 3 y_JR_init ∈ cA ∧ Cond.instanceMethod y_JR_init ∈ cA := ⟨wd_103, wd_4, wd_244, wd_102⟩
theorem wv_E_1 : Cond.code y_JR_init b_JR_init 1 none ∈ cA ∧ Cond.initialized y_JR_init.cls ∈ cA ∧ Cond.methodLink R_E 1 y_JR_init ∈ cA ∧ Cond.instanceMethod y_JR_init ∈ cA := ⟨wd_103, wd_4, wd_267, wd_102⟩
theorem wv_D_3 : Cond.code y_JR_init b_JR_init 1 none ∈ cA ∧ Cond.initialized y_JR_init.cls ∈ cA ∧ Cond.methodLink R_D 3 y_JR_init ∈ cA ∧ Cond.instanceMethod y_JR_init ∈ cA := ⟨wd_103, wd_4, wd_291, wd_102⟩
theorem wv_U_3 : Cond.code y_JR_init b_JR_init 1 none ∈ cA ∧ Cond.initialized y_JR_init.cls ∈ cA ∧ Cond.methodLink R_U 3 y_JR_init ∈ cA ∧ Cond.instanceMethod y_JR_init ∈ cA := ⟨wd_103, wd_4, wd_304, wd_102⟩
theorem wv_C_3 : Cond.code y_JR_init b_JR_init 1 none ∈ cA ∧ Cond.initialized y_JR_init.cls ∈ cA ∧ Cond.methodLink R_C 3 y_JR_init ∈ cA ∧ Cond.instanceMethod y_JR_init ∈ cA := ⟨wd_103, wd_4, wd_326, wd_102⟩
theorem wv_L_33 : Cond.code y_L_product b_L_product 3 (some .int) ∈ cA ∧ Cond.initialized y_L_product.cls ∈ cA ∧ Cond.methodLink R_L 33 y_L_product ∈ cA ∧ Cond.static y_L_product ∈ cA := ⟨wd_192, wd_5, wd_190, wd_191⟩
theorem wm_M_24 : Cond.methodLink R_M 24 Lib.Math.max.name ∈ cA ∧ Cond.static Lib.Math.max.name ∈ cA ∧ Cond.initialized "java/lang/Math" ∈ cA ∧ Cond.code Lib.Math.max.name Lib.Math.max.code 2 (some .int) ∈ cA := ⟨wd_199, wd_200, wd_8, wd_201⟩
theorem wv_D_15 : Cond.code y_X_isIn b_X_isIn 2 (some .boolean) ∈ cA ∧ Cond.initialized y_X_isIn.cls ∈ cA ∧ Cond.static y_X_isIn ∈ cA := ⟨wd_155, wd_1, wd_154⟩
theorem wv_U_25 : Cond.code y_X_isIn b_X_isIn 2 (some .boolean) ∈ cA ∧ Cond.initialized y_X_isIn.cls ∈ cA ∧ Cond.static y_X_isIn ∈ cA := ⟨wd_155, wd_1, wd_154⟩
theorem wv_U_33 : Cond.code y_U_fourBits b_U_fourBits 3 (some .int) ∈ cA ∧ Cond.initialized y_U_fourBits.cls ∈ cA ∧ Cond.methodLink R_U 33 y_U_fourBits ∈ cA ∧ Cond.static y_U_fourBits ∈ cA := ⟨wd_170, wd_7, wd_168, wd_169⟩
theorem wv_U_29 : Cond.code y_U_needAt b_U_needAt 5 (some .int) ∈ cA ∧ Cond.initialized y_U_needAt.cls ∈ cA ∧ Cond.methodLink R_U 29 y_U_needAt ∈ cA ∧ Cond.instanceMethod y_U_needAt ∈ cA ∧ Cond.selects y_U_needAt.cls y_U_needAt y_U_needAt ∈ cA := ⟨wd_167, wd_7, wd_163, wd_165, ws_U_needAt⟩
theorem wv_C_37 : Cond.code y_X_isIn b_X_isIn 2 (some .boolean) ∈ cA ∧ Cond.initialized y_X_isIn.cls ∈ cA ∧ Cond.static y_X_isIn ∈ cA := ⟨wd_155, wd_1, wd_154⟩
theorem wv_C_33 : Cond.code y_C_partHolds b_C_partHolds 5 (some .boolean) ∈ cA ∧ Cond.initialized y_C_partHolds.cls ∈ cA ∧ Cond.methodLink R_C 33 y_C_partHolds ∈ cA ∧ Cond.instanceMethod y_C_partHolds ∈ cA ∧ Cond.selects y_C_partHolds.cls y_C_partHolds y_C_partHolds ∈ cA := ⟨wd_152, wd_13, wd_148, wd_150, ws_C_partHolds⟩
end
end
section
section
theorem d_JR_init_0 : decode b_JR_init 0 = .ok (.aload_n 0, 1) := by decide +kernel
theorem d_JR_init_1 : decode b_JR_init 1 = .ok (.invokespecial 1, 3) := by decide +kernel
theorem d_JR_init_4 : decode b_JR_init 4 = .ok (.return_, 1) := by decide +kernel
theorem d_L_init_0 : decode b_L_init 0 = .ok (.aload_n 0, 1) := by decide +kernel
theorem d_L_init_1 : decode b_L_init 1 = .ok (.invokespecial 3, 3) := by decide +kernel
theorem d_L_init_4 : decode b_L_init 4 = .ok (.aload_n 0, 1) := by decide +kernel
theorem d_L_init_5 : decode b_L_init 5 = .ok (.iload_n 1, 1) := by decide +kernel
theorem d_L_init_6 : decode b_L_init 6 = .ok (.putfield 9, 3) := by decide +kernel
theorem d_L_init_9 : decode b_L_init 9 = .ok (.aload_n 0, 1) := by decide +kernel
theorem d_L_init_10 : decode b_L_init 10 = .ok (.iload_n 2, 1) := by decide +kernel
theorem d_L_init_11 : decode b_L_init 11 = .ok (.putfield 15, 3) := by decide +kernel
theorem d_L_init_14 : decode b_L_init 14 = .ok (.aload_n 0, 1) := by decide +kernel
theorem d_L_init_15 : decode b_L_init 15 = .ok (.iload_n 3, 1) := by decide +kernel
theorem d_L_init_16 : decode b_L_init 16 = .ok (.putfield 18, 3) := by decide +kernel
theorem d_L_init_19 : decode b_L_init 19 = .ok (.aload_n 0, 1) := by decide +kernel
theorem d_L_init_20 : decode b_L_init 20 = .ok (.iload 4, 2) := by decide +kernel
theorem d_L_init_22 : decode b_L_init 22 = .ok (.putfield 21, 3) := by decide +kernel
theorem d_L_init_25 : decode b_L_init 25 = .ok (.aload_n 0, 1) := by decide +kernel
theorem d_L_init_26 : decode b_L_init 26 = .ok (.iload 5, 2) := by decide +kernel
theorem d_L_init_28 : decode b_L_init 28 = .ok (.putfield 24, 3) := by decide +kernel
theorem d_L_init_31 : decode b_L_init 31 = .ok (.aload_n 0, 1) := by decide +kernel
theorem d_L_init_32 : decode b_L_init 32 = .ok (.iload 6, 2) := by decide +kernel
theorem d_L_init_34 : decode b_L_init 34 = .ok (.putfield 27, 3) := by decide +kernel
theorem d_L_init_37 : decode b_L_init 37 = .ok (.aload_n 0, 1) := by decide +kernel
theorem d_L_init_38 : decode b_L_init 38 = .ok (.iload 7, 2) := by decide +kernel
theorem d_L_init_40 : decode b_L_init 40 = .ok (.putfield 30, 3) := by decide +kernel
theorem d_L_init_43 : decode b_L_init 43 = .ok (.return_, 1) := by decide +kernel
theorem d_R_init_0 : decode b_R_init 0 = .ok (.aload_n 0, 1) := by decide +kernel
theorem d_R_init_1 : decode b_R_init 1 = .ok (.invokespecial 1, 3) := by decide +kernel
theorem d_R_init_4 : decode b_R_init 4 = .ok (.aload_n 0, 1) := by decide +kernel
theorem d_R_init_5 : decode b_R_init 5 = .ok (.iload_n 1, 1) := by decide +kernel
theorem d_R_init_6 : decode b_R_init 6 = .ok (.putfield 7, 3) := by decide +kernel
theorem d_R_init_9 : decode b_R_init 9 = .ok (.aload_n 0, 1) := by decide +kernel
theorem d_R_init_10 : decode b_R_init 10 = .ok (.iload_n 2, 1) := by decide +kernel
theorem d_R_init_11 : decode b_R_init 11 = .ok (.putfield 13, 3) := by decide +kernel
theorem d_R_init_14 : decode b_R_init 14 = .ok (.aload_n 0, 1) := by decide +kernel
theorem d_R_init_15 : decode b_R_init 15 = .ok (.iload_n 3, 1) := by decide +kernel
theorem d_R_init_16 : decode b_R_init 16 = .ok (.putfield 16, 3) := by decide +kernel
theorem d_R_init_19 : decode b_R_init 19 = .ok (.aload_n 0, 1) := by decide +kernel
theorem d_R_init_20 : decode b_R_init 20 = .ok (.iload 4, 2) := by decide +kernel
theorem d_R_init_22 : decode b_R_init 22 = .ok (.putfield 19, 3) := by decide +kernel
theorem d_R_init_25 : decode b_R_init 25 = .ok (.return_, 1) := by decide +kernel
theorem d_M_init_0 : decode b_M_init 0 = .ok (.aload_n 0, 1) := by decide +kernel
theorem d_M_init_1 : decode b_M_init 1 = .ok (.invokespecial 3, 3) := by decide +kernel
theorem d_M_init_4 : decode b_M_init 4 = .ok (.aload_n 0, 1) := by decide +kernel
theorem d_M_init_5 : decode b_M_init 5 = .ok (.iload_n 1, 1) := by decide +kernel
theorem d_M_init_6 : decode b_M_init 6 = .ok (.putfield 9, 3) := by decide +kernel
theorem d_M_init_9 : decode b_M_init 9 = .ok (.aload_n 0, 1) := by decide +kernel
theorem d_M_init_10 : decode b_M_init 10 = .ok (.iload_n 2, 1) := by decide +kernel
theorem d_M_init_11 : decode b_M_init 11 = .ok (.putfield 15, 3) := by decide +kernel
theorem d_M_init_14 : decode b_M_init 14 = .ok (.aload_n 0, 1) := by decide +kernel
theorem d_M_init_15 : decode b_M_init 15 = .ok (.iload_n 3, 1) := by decide +kernel
theorem d_M_init_16 : decode b_M_init 16 = .ok (.putfield 18, 3) := by decide +kernel
theorem d_M_init_19 : decode b_M_init 19 = .ok (.aload_n 0, 1) := by decide +kernel
theorem d_M_init_20 : decode b_M_init 20 = .ok (.iload 4, 2) := by decide +kernel
theorem d_M_init_22 : decode b_M_init 22 = .ok (.putfield 21, 3) := by decide +kernel
theorem d_M_init_25 : decode b_M_init 25 = .ok (.return_, 1) := by decide +kernel
theorem d_E_init_0 : decode b_E_init 0 = .ok (.aload_n 0, 1) := by decide +kernel
theorem d_E_init_1 : decode b_E_init 1 = .ok (.invokespecial 1, 3) := by decide +kernel
theorem d_E_init_4 : decode b_E_init 4 = .ok (.aload_n 0, 1) := by decide +kernel
theorem d_E_init_5 : decode b_E_init 5 = .ok (.iload_n 1, 1) := by decide +kernel
theorem d_E_init_6 : decode b_E_init 6 = .ok (.putfield 7, 3) := by decide +kernel
theorem d_E_init_9 : decode b_E_init 9 = .ok (.aload_n 0, 1) := by decide +kernel
theorem d_E_init_10 : decode b_E_init 10 = .ok (.iload_n 2, 1) := by decide +kernel
theorem d_E_init_11 : decode b_E_init 11 = .ok (.putfield 13, 3) := by decide +kernel
theorem d_E_init_14 : decode b_E_init 14 = .ok (.aload_n 0, 1) := by decide +kernel
theorem d_E_init_15 : decode b_E_init 15 = .ok (.lload_n 3, 1) := by decide +kernel
theorem d_E_init_16 : decode b_E_init 16 = .ok (.putfield 16, 3) := by decide +kernel
theorem d_E_init_19 : decode b_E_init 19 = .ok (.return_, 1) := by decide +kernel
theorem d_D_init_0 : decode b_D_init 0 = .ok (.aload_n 0, 1) := by decide +kernel
theorem d_D_init_1 : decode b_D_init 1 = .ok (.invokespecial 3, 3) := by decide +kernel
theorem d_D_init_4 : decode b_D_init 4 = .ok (.aload_n 0, 1) := by decide +kernel
theorem d_D_init_5 : decode b_D_init 5 = .ok (.iload_n 1, 1) := by decide +kernel
theorem d_D_init_6 : decode b_D_init 6 = .ok (.putfield 9, 3) := by decide +kernel
theorem d_D_init_9 : decode b_D_init 9 = .ok (.return_, 1) := by decide +kernel
theorem d_U_init_0 : decode b_U_init 0 = .ok (.aload_n 0, 1) := by decide +kernel
theorem d_U_init_1 : decode b_U_init 1 = .ok (.invokespecial 3, 3) := by decide +kernel
theorem d_U_init_4 : decode b_U_init 4 = .ok (.aload_n 0, 1) := by decide +kernel
theorem d_U_init_5 : decode b_U_init 5 = .ok (.iload_n 1, 1) := by decide +kernel
theorem d_U_init_6 : decode b_U_init 6 = .ok (.putfield 9, 3) := by decide +kernel
theorem d_U_init_9 : decode b_U_init 9 = .ok (.aload_n 0, 1) := by decide +kernel
theorem d_U_init_10 : decode b_U_init 10 = .ok (.lload_n 2, 1) := by decide +kernel
theorem d_U_init_11 : decode b_U_init 11 = .ok (.putfield 15, 3) := by decide +kernel
theorem d_U_init_14 : decode b_U_init 14 = .ok (.aload_n 0, 1) := by decide +kernel
theorem d_U_init_15 : decode b_U_init 15 = .ok (.lload 4, 2) := by decide +kernel
theorem d_U_init_17 : decode b_U_init 17 = .ok (.putfield 19, 3) := by decide +kernel
theorem d_U_init_20 : decode b_U_init 20 = .ok (.aload_n 0, 1) := by decide +kernel
theorem d_U_init_21 : decode b_U_init 21 = .ok (.iload 6, 2) := by decide +kernel
theorem d_U_init_23 : decode b_U_init 23 = .ok (.putfield 22, 3) := by decide +kernel
theorem d_U_init_26 : decode b_U_init 26 = .ok (.return_, 1) := by decide +kernel
theorem d_C_init_0 : decode b_C_init 0 = .ok (.aload_n 0, 1) := by decide +kernel
theorem d_C_init_1 : decode b_C_init 1 = .ok (.invokespecial 3, 3) := by decide +kernel
theorem d_C_init_4 : decode b_C_init 4 = .ok (.aload_n 0, 1) := by decide +kernel
theorem d_C_init_5 : decode b_C_init 5 = .ok (.iload_n 1, 1) := by decide +kernel
theorem d_C_init_6 : decode b_C_init 6 = .ok (.putfield 9, 3) := by decide +kernel
theorem d_C_init_9 : decode b_C_init 9 = .ok (.aload_n 0, 1) := by decide +kernel
theorem d_C_init_10 : decode b_C_init 10 = .ok (.iload_n 2, 1) := by decide +kernel
theorem d_C_init_11 : decode b_C_init 11 = .ok (.putfield 15, 3) := by decide +kernel
theorem d_C_init_14 : decode b_C_init 14 = .ok (.aload_n 0, 1) := by decide +kernel
theorem d_C_init_15 : decode b_C_init 15 = .ok (.iload_n 3, 1) := by decide +kernel
theorem d_C_init_16 : decode b_C_init 16 = .ok (.putfield 18, 3) := by decide +kernel
theorem d_C_init_19 : decode b_C_init 19 = .ok (.aload_n 0, 1) := by decide +kernel
theorem d_C_init_20 : decode b_C_init 20 = .ok (.iload 4, 2) := by decide +kernel
theorem d_C_init_22 : decode b_C_init 22 = .ok (.putfield 21, 3) := by decide +kernel
theorem d_C_init_25 : decode b_C_init 25 = .ok (.aload_n 0, 1) := by decide +kernel
theorem d_C_init_26 : decode b_C_init 26 = .ok (.iload 5, 2) := by decide +kernel
theorem d_C_init_28 : decode b_C_init 28 = .ok (.putfield 24, 3) := by decide +kernel
theorem d_C_init_31 : decode b_C_init 31 = .ok (.aload_n 0, 1) := by decide +kernel
theorem d_C_init_32 : decode b_C_init 32 = .ok (.iload 6, 2) := by decide +kernel
theorem d_C_init_34 : decode b_C_init 34 = .ok (.putfield 27, 3) := by decide +kernel
theorem d_C_init_37 : decode b_C_init 37 = .ok (.aload_n 0, 1) := by decide +kernel
theorem d_C_init_38 : decode b_C_init 38 = .ok (.iload 7, 2) := by decide +kernel
theorem d_C_init_40 : decode b_C_init 40 = .ok (.putfield 30, 3) := by decide +kernel
theorem d_C_init_43 : decode b_C_init 43 = .ok (.return_, 1) := by decide +kernel
theorem d_L_product_0 : decode b_L_product 0 = .ok (.iload_n 1, 1) := by decide +kernel
theorem d_L_product_1 : decode b_L_product 1 = .ok (.iconst (-1), 1) := by decide +kernel
theorem d_L_product_2 : decode b_L_product 2 = .ok (.if_icmp .ne 7, 3) := by decide +kernel
theorem d_L_product_5 : decode b_L_product 5 = .ok (.iconst 0, 1) := by decide +kernel
theorem d_L_product_6 : decode b_L_product 6 = .ok (.goto 8, 3) := by decide +kernel
theorem d_L_product_9 : decode b_L_product 9 = .ok (.iload_n 0, 1) := by decide +kernel
theorem d_L_product_10 : decode b_L_product 10 = .ok (.aload_n 2, 1) := by decide +kernel
theorem d_L_product_11 : decode b_L_product 11 = .ok (.iload_n 1, 1) := by decide +kernel
theorem d_L_product_12 : decode b_L_product 12 = .ok (.iaload, 1) := by decide +kernel
theorem d_L_product_13 : decode b_L_product 13 = .ok (.imul, 1) := by decide +kernel
theorem d_L_product_14 : decode b_L_product 14 = .ok (.ireturn, 1) := by decide +kernel
theorem d_L_holdsAt_0 : decode b_L_holdsAt 0 = .ok (.aload_n 0, 1) := by decide +kernel
theorem d_L_holdsAt_1 : decode b_L_holdsAt 1 = .ok (.getfield 15, 3) := by decide +kernel
theorem d_L_holdsAt_4 : decode b_L_holdsAt 4 = .ok (.aload_n 0, 1) := by decide +kernel
theorem d_L_holdsAt_5 : decode b_L_holdsAt 5 = .ok (.getfield 9, 3) := by decide +kernel
theorem d_L_holdsAt_8 : decode b_L_holdsAt 8 = .ok (.aload_n 1, 1) := by decide +kernel
theorem d_L_holdsAt_9 : decode b_L_holdsAt 9 = .ok (.invokestatic 33, 3) := by decide +kernel
theorem d_L_holdsAt_12 : decode b_L_holdsAt 12 = .ok (.aload_n 0, 1) := by decide +kernel
theorem d_L_holdsAt_13 : decode b_L_holdsAt 13 = .ok (.getfield 21, 3) := by decide +kernel
theorem d_L_holdsAt_16 : decode b_L_holdsAt 16 = .ok (.aload_n 0, 1) := by decide +kernel
theorem d_L_holdsAt_17 : decode b_L_holdsAt 17 = .ok (.getfield 18, 3) := by decide +kernel
theorem d_L_holdsAt_20 : decode b_L_holdsAt 20 = .ok (.aload_n 1, 1) := by decide +kernel
theorem d_L_holdsAt_21 : decode b_L_holdsAt 21 = .ok (.invokestatic 33, 3) := by decide +kernel
theorem d_L_holdsAt_24 : decode b_L_holdsAt 24 = .ok (.iadd, 1) := by decide +kernel
theorem d_L_holdsAt_25 : decode b_L_holdsAt 25 = .ok (.aload_n 0, 1) := by decide +kernel
theorem d_L_holdsAt_26 : decode b_L_holdsAt 26 = .ok (.getfield 27, 3) := by decide +kernel
theorem d_L_holdsAt_29 : decode b_L_holdsAt 29 = .ok (.aload_n 0, 1) := by decide +kernel
theorem d_L_holdsAt_30 : decode b_L_holdsAt 30 = .ok (.getfield 24, 3) := by decide +kernel
theorem d_L_holdsAt_33 : decode b_L_holdsAt 33 = .ok (.aload_n 1, 1) := by decide +kernel
theorem d_L_holdsAt_34 : decode b_L_holdsAt 34 = .ok (.invokestatic 33, 3) := by decide +kernel
theorem d_L_holdsAt_37 : decode b_L_holdsAt 37 = .ok (.iadd, 1) := by decide +kernel
theorem d_L_holdsAt_38 : decode b_L_holdsAt 38 = .ok (.aload_n 0, 1) := by decide +kernel
theorem d_L_holdsAt_39 : decode b_L_holdsAt 39 = .ok (.getfield 30, 3) := by decide +kernel
theorem d_L_holdsAt_42 : decode b_L_holdsAt 42 = .ok (.if_icmp .gt 7, 3) := by decide +kernel
theorem d_L_holdsAt_45 : decode b_L_holdsAt 45 = .ok (.iconst 1, 1) := by decide +kernel
theorem d_L_holdsAt_46 : decode b_L_holdsAt 46 = .ok (.goto 4, 3) := by decide +kernel
theorem d_L_holdsAt_49 : decode b_L_holdsAt 49 = .ok (.iconst 0, 1) := by decide +kernel
theorem d_L_holdsAt_50 : decode b_L_holdsAt 50 = .ok (.ireturn, 1) := by decide +kernel
theorem d_R_holdsAt_0 : decode b_R_holdsAt 0 = .ok (.aload_n 1, 1) := by decide +kernel
theorem d_R_holdsAt_1 : decode b_R_holdsAt 1 = .ok (.aload_n 0, 1) := by decide +kernel
theorem d_R_holdsAt_2 : decode b_R_holdsAt 2 = .ok (.getfield 7, 3) := by decide +kernel
theorem d_R_holdsAt_5 : decode b_R_holdsAt 5 = .ok (.iaload, 1) := by decide +kernel
theorem d_R_holdsAt_6 : decode b_R_holdsAt 6 = .ok (.iconst 1, 1) := by decide +kernel
theorem d_R_holdsAt_7 : decode b_R_holdsAt 7 = .ok (.if_icmp .lt 7, 3) := by decide +kernel
theorem d_R_holdsAt_10 : decode b_R_holdsAt 10 = .ok (.iconst 1, 1) := by decide +kernel
theorem d_R_holdsAt_11 : decode b_R_holdsAt 11 = .ok (.goto 4, 3) := by decide +kernel
theorem d_R_holdsAt_14 : decode b_R_holdsAt 14 = .ok (.iconst 0, 1) := by decide +kernel
theorem d_R_holdsAt_15 : decode b_R_holdsAt 15 = .ok (.aload_n 1, 1) := by decide +kernel
theorem d_R_holdsAt_16 : decode b_R_holdsAt 16 = .ok (.aload_n 0, 1) := by decide +kernel
theorem d_R_holdsAt_17 : decode b_R_holdsAt 17 = .ok (.getfield 13, 3) := by decide +kernel
theorem d_R_holdsAt_20 : decode b_R_holdsAt 20 = .ok (.iaload, 1) := by decide +kernel
theorem d_R_holdsAt_21 : decode b_R_holdsAt 21 = .ok (.aload_n 1, 1) := by decide +kernel
theorem d_R_holdsAt_22 : decode b_R_holdsAt 22 = .ok (.aload_n 0, 1) := by decide +kernel
theorem d_R_holdsAt_23 : decode b_R_holdsAt 23 = .ok (.getfield 16, 3) := by decide +kernel
theorem d_R_holdsAt_26 : decode b_R_holdsAt 26 = .ok (.iaload, 1) := by decide +kernel
theorem d_R_holdsAt_27 : decode b_R_holdsAt 27 = .ok (.aload_n 0, 1) := by decide +kernel
theorem d_R_holdsAt_28 : decode b_R_holdsAt 28 = .ok (.getfield 19, 3) := by decide +kernel
theorem d_R_holdsAt_31 : decode b_R_holdsAt 31 = .ok (.iadd, 1) := by decide +kernel
theorem d_R_holdsAt_32 : decode b_R_holdsAt 32 = .ok (.if_icmp .gt 7, 3) := by decide +kernel
theorem d_R_holdsAt_35 : decode b_R_holdsAt 35 = .ok (.iconst 1, 1) := by decide +kernel
theorem d_R_holdsAt_36 : decode b_R_holdsAt 36 = .ok (.goto 4, 3) := by decide +kernel
theorem d_R_holdsAt_39 : decode b_R_holdsAt 39 = .ok (.iconst 0, 1) := by decide +kernel
theorem d_R_holdsAt_40 : decode b_R_holdsAt 40 = .ok (.if_icmp .ne 7, 3) := by decide +kernel
theorem d_R_holdsAt_43 : decode b_R_holdsAt 43 = .ok (.iconst 1, 1) := by decide +kernel
theorem d_R_holdsAt_44 : decode b_R_holdsAt 44 = .ok (.goto 4, 3) := by decide +kernel
theorem d_R_holdsAt_47 : decode b_R_holdsAt 47 = .ok (.iconst 0, 1) := by decide +kernel
theorem d_R_holdsAt_48 : decode b_R_holdsAt 48 = .ok (.ireturn, 1) := by decide +kernel
theorem d_M_holdsAt_0 : decode b_M_holdsAt 0 = .ok (.aload_n 1, 1) := by decide +kernel
theorem d_M_holdsAt_1 : decode b_M_holdsAt 1 = .ok (.aload_n 0, 1) := by decide +kernel
theorem d_M_holdsAt_2 : decode b_M_holdsAt 2 = .ok (.getfield 15, 3) := by decide +kernel
theorem d_M_holdsAt_5 : decode b_M_holdsAt 5 = .ok (.iaload, 1) := by decide +kernel
theorem d_M_holdsAt_6 : decode b_M_holdsAt 6 = .ok (.istore_n 2, 1) := by decide +kernel
theorem d_M_holdsAt_7 : decode b_M_holdsAt 7 = .ok (.aload_n 0, 1) := by decide +kernel
theorem d_M_holdsAt_8 : decode b_M_holdsAt 8 = .ok (.getfield 18, 3) := by decide +kernel
theorem d_M_holdsAt_11 : decode b_M_holdsAt 11 = .ok (.iconst (-1), 1) := by decide +kernel
theorem d_M_holdsAt_12 : decode b_M_holdsAt 12 = .ok (.if_icmp .eq 14, 3) := by decide +kernel
theorem d_M_holdsAt_15 : decode b_M_holdsAt 15 = .ok (.iload_n 2, 1) := by decide +kernel
theorem d_M_holdsAt_16 : decode b_M_holdsAt 16 = .ok (.aload_n 1, 1) := by decide +kernel
theorem d_M_holdsAt_17 : decode b_M_holdsAt 17 = .ok (.aload_n 0, 1) := by decide +kernel
theorem d_M_holdsAt_18 : decode b_M_holdsAt 18 = .ok (.getfield 18, 3) := by decide +kernel
theorem d_M_holdsAt_21 : decode b_M_holdsAt 21 = .ok (.iaload, 1) := by decide +kernel
theorem d_M_holdsAt_22 : decode b_M_holdsAt 22 = .ok (.invokestatic 24, 3) := by decide +kernel
theorem d_M_holdsAt_25 : decode b_M_holdsAt 25 = .ok (.istore_n 2, 1) := by decide +kernel
theorem d_M_holdsAt_26 : decode b_M_holdsAt 26 = .ok (.aload_n 0, 1) := by decide +kernel
theorem d_M_holdsAt_27 : decode b_M_holdsAt 27 = .ok (.getfield 21, 3) := by decide +kernel
theorem d_M_holdsAt_30 : decode b_M_holdsAt 30 = .ok (.iconst (-1), 1) := by decide +kernel
theorem d_M_holdsAt_31 : decode b_M_holdsAt 31 = .ok (.if_icmp .eq 14, 3) := by decide +kernel
theorem d_M_holdsAt_34 : decode b_M_holdsAt 34 = .ok (.iload_n 2, 1) := by decide +kernel
theorem d_M_holdsAt_35 : decode b_M_holdsAt 35 = .ok (.aload_n 1, 1) := by decide +kernel
theorem d_M_holdsAt_36 : decode b_M_holdsAt 36 = .ok (.aload_n 0, 1) := by decide +kernel
theorem d_M_holdsAt_37 : decode b_M_holdsAt 37 = .ok (.getfield 21, 3) := by decide +kernel
theorem d_M_holdsAt_40 : decode b_M_holdsAt 40 = .ok (.iaload, 1) := by decide +kernel
theorem d_M_holdsAt_41 : decode b_M_holdsAt 41 = .ok (.invokestatic 24, 3) := by decide +kernel
theorem d_M_holdsAt_44 : decode b_M_holdsAt 44 = .ok (.istore_n 2, 1) := by decide +kernel
theorem d_M_holdsAt_45 : decode b_M_holdsAt 45 = .ok (.aload_n 1, 1) := by decide +kernel
theorem d_M_holdsAt_46 : decode b_M_holdsAt 46 = .ok (.aload_n 0, 1) := by decide +kernel
theorem d_M_holdsAt_47 : decode b_M_holdsAt 47 = .ok (.getfield 9, 3) := by decide +kernel
theorem d_M_holdsAt_50 : decode b_M_holdsAt 50 = .ok (.iaload, 1) := by decide +kernel
theorem d_M_holdsAt_51 : decode b_M_holdsAt 51 = .ok (.iload_n 2, 1) := by decide +kernel
theorem d_M_holdsAt_52 : decode b_M_holdsAt 52 = .ok (.if_icmp .ne 7, 3) := by decide +kernel
theorem d_M_holdsAt_55 : decode b_M_holdsAt 55 = .ok (.iconst 1, 1) := by decide +kernel
theorem d_M_holdsAt_56 : decode b_M_holdsAt 56 = .ok (.goto 4, 3) := by decide +kernel
theorem d_M_holdsAt_59 : decode b_M_holdsAt 59 = .ok (.iconst 0, 1) := by decide +kernel
theorem d_M_holdsAt_60 : decode b_M_holdsAt 60 = .ok (.ireturn, 1) := by decide +kernel
theorem d_E_holdsAt_0 : decode b_E_holdsAt 0 = .ok (.aload_n 1, 1) := by decide +kernel
theorem d_E_holdsAt_1 : decode b_E_holdsAt 1 = .ok (.aload_n 0, 1) := by decide +kernel
theorem d_E_holdsAt_2 : decode b_E_holdsAt 2 = .ok (.getfield 13, 3) := by decide +kernel
theorem d_E_holdsAt_5 : decode b_E_holdsAt 5 = .ok (.iaload, 1) := by decide +kernel
theorem d_E_holdsAt_6 : decode b_E_holdsAt 6 = .ok (.ifCond .lt 43, 3) := by decide +kernel
theorem d_E_holdsAt_9 : decode b_E_holdsAt 9 = .ok (.aload_n 1, 1) := by decide +kernel
theorem d_E_holdsAt_10 : decode b_E_holdsAt 10 = .ok (.aload_n 0, 1) := by decide +kernel
theorem d_E_holdsAt_11 : decode b_E_holdsAt 11 = .ok (.getfield 13, 3) := by decide +kernel
theorem d_E_holdsAt_14 : decode b_E_holdsAt 14 = .ok (.iaload, 1) := by decide +kernel
theorem d_E_holdsAt_15 : decode b_E_holdsAt 15 = .ok (.bipush 7, 2) := by decide +kernel
theorem d_E_holdsAt_17 : decode b_E_holdsAt 17 = .ok (.if_icmp .gt 32, 3) := by decide +kernel
theorem d_E_holdsAt_20 : decode b_E_holdsAt 20 = .ok (.aload_n 1, 1) := by decide +kernel
theorem d_E_holdsAt_21 : decode b_E_holdsAt 21 = .ok (.aload_n 0, 1) := by decide +kernel
theorem d_E_holdsAt_22 : decode b_E_holdsAt 22 = .ok (.getfield 7, 3) := by decide +kernel
theorem d_E_holdsAt_25 : decode b_E_holdsAt 25 = .ok (.iaload, 1) := by decide +kernel
theorem d_E_holdsAt_26 : decode b_E_holdsAt 26 = .ok (.aload_n 0, 1) := by decide +kernel
theorem d_E_holdsAt_27 : decode b_E_holdsAt 27 = .ok (.getfield 16, 3) := by decide +kernel
theorem d_E_holdsAt_30 : decode b_E_holdsAt 30 = .ok (.bipush 8, 2) := by decide +kernel
theorem d_E_holdsAt_32 : decode b_E_holdsAt 32 = .ok (.aload_n 1, 1) := by decide +kernel
theorem d_E_holdsAt_33 : decode b_E_holdsAt 33 = .ok (.aload_n 0, 1) := by decide +kernel
theorem d_E_holdsAt_34 : decode b_E_holdsAt 34 = .ok (.getfield 13, 3) := by decide +kernel
theorem d_E_holdsAt_37 : decode b_E_holdsAt 37 = .ok (.iaload, 1) := by decide +kernel
theorem d_E_holdsAt_38 : decode b_E_holdsAt 38 = .ok (.imul, 1) := by decide +kernel
theorem d_E_holdsAt_39 : decode b_E_holdsAt 39 = .ok (.lshr, 1) := by decide +kernel
theorem d_E_holdsAt_40 : decode b_E_holdsAt 40 = .ok (.l2i, 1) := by decide +kernel
theorem d_E_holdsAt_41 : decode b_E_holdsAt 41 = .ok (.i2b, 1) := by decide +kernel
theorem d_E_holdsAt_42 : decode b_E_holdsAt 42 = .ok (.if_icmp .ne 7, 3) := by decide +kernel
theorem d_E_holdsAt_45 : decode b_E_holdsAt 45 = .ok (.iconst 1, 1) := by decide +kernel
theorem d_E_holdsAt_46 : decode b_E_holdsAt 46 = .ok (.goto 4, 3) := by decide +kernel
theorem d_E_holdsAt_49 : decode b_E_holdsAt 49 = .ok (.iconst 0, 1) := by decide +kernel
theorem d_E_holdsAt_50 : decode b_E_holdsAt 50 = .ok (.ireturn, 1) := by decide +kernel
theorem d_D_holdsAt_0 : decode b_D_holdsAt 0 = .ok (.lconst 0, 1) := by decide +kernel
end
end
section
section
theorem d_D_holdsAt_1 : decode b_D_holdsAt 1 = .ok (.lstore_n 2, 1) := by decide +kernel
theorem d_D_holdsAt_2 : decode b_D_holdsAt 2 = .ok (.iconst 0, 1) := by decide +kernel
theorem d_D_holdsAt_3 : decode b_D_holdsAt 3 = .ok (.istore 4, 2) := by decide +kernel
theorem d_D_holdsAt_5 : decode b_D_holdsAt 5 = .ok (.iload 4, 2) := by decide +kernel
theorem d_D_holdsAt_7 : decode b_D_holdsAt 7 = .ok (.bipush 8, 2) := by decide +kernel
theorem d_D_holdsAt_9 : decode b_D_holdsAt 9 = .ok (.if_icmp .ge 48, 3) := by decide +kernel
theorem d_D_holdsAt_12 : decode b_D_holdsAt 12 = .ok (.iload 4, 2) := by decide +kernel
theorem d_D_holdsAt_14 : decode b_D_holdsAt 14 = .ok (.aload_n 0, 1) := by decide +kernel
theorem d_D_holdsAt_15 : decode b_D_holdsAt 15 = .ok (.getfield 9, 3) := by decide +kernel
theorem d_D_holdsAt_18 : decode b_D_holdsAt 18 = .ok (.invokestatic 15, 3) := by decide +kernel
theorem d_D_holdsAt_21 : decode b_D_holdsAt 21 = .ok (.ifCond .eq 30, 3) := by decide +kernel
theorem d_D_holdsAt_24 : decode b_D_holdsAt 24 = .ok (.lconst 1, 1) := by decide +kernel
theorem d_D_holdsAt_25 : decode b_D_holdsAt 25 = .ok (.aload_n 1, 1) := by decide +kernel
theorem d_D_holdsAt_26 : decode b_D_holdsAt 26 = .ok (.iload 4, 2) := by decide +kernel
theorem d_D_holdsAt_28 : decode b_D_holdsAt 28 = .ok (.iaload, 1) := by decide +kernel
theorem d_D_holdsAt_29 : decode b_D_holdsAt 29 = .ok (.bipush (-20), 2) := by decide +kernel
theorem d_D_holdsAt_31 : decode b_D_holdsAt 31 = .ok (.isub, 1) := by decide +kernel
theorem d_D_holdsAt_32 : decode b_D_holdsAt 32 = .ok (.lshl, 1) := by decide +kernel
theorem d_D_holdsAt_33 : decode b_D_holdsAt 33 = .ok (.lstore 5, 2) := by decide +kernel
theorem d_D_holdsAt_35 : decode b_D_holdsAt 35 = .ok (.lload_n 2, 1) := by decide +kernel
theorem d_D_holdsAt_36 : decode b_D_holdsAt 36 = .ok (.lload 5, 2) := by decide +kernel
theorem d_D_holdsAt_38 : decode b_D_holdsAt 38 = .ok (.land, 1) := by decide +kernel
theorem d_D_holdsAt_39 : decode b_D_holdsAt 39 = .ok (.lconst 0, 1) := by decide +kernel
theorem d_D_holdsAt_40 : decode b_D_holdsAt 40 = .ok (.lcmp, 1) := by decide +kernel
theorem d_D_holdsAt_41 : decode b_D_holdsAt 41 = .ok (.ifCond .eq 5, 3) := by decide +kernel
theorem d_D_holdsAt_44 : decode b_D_holdsAt 44 = .ok (.iconst 0, 1) := by decide +kernel
theorem d_D_holdsAt_45 : decode b_D_holdsAt 45 = .ok (.ireturn, 1) := by decide +kernel
theorem d_D_holdsAt_46 : decode b_D_holdsAt 46 = .ok (.lload_n 2, 1) := by decide +kernel
theorem d_D_holdsAt_47 : decode b_D_holdsAt 47 = .ok (.lload 5, 2) := by decide +kernel
theorem d_D_holdsAt_49 : decode b_D_holdsAt 49 = .ok (.lor, 1) := by decide +kernel
theorem d_D_holdsAt_50 : decode b_D_holdsAt 50 = .ok (.lstore_n 2, 1) := by decide +kernel
theorem d_D_holdsAt_51 : decode b_D_holdsAt 51 = .ok (.iinc 4 1, 3) := by decide +kernel
theorem d_D_holdsAt_54 : decode b_D_holdsAt 54 = .ok (.goto (-49), 3) := by decide +kernel
theorem d_D_holdsAt_57 : decode b_D_holdsAt 57 = .ok (.iconst 1, 1) := by decide +kernel
theorem d_D_holdsAt_58 : decode b_D_holdsAt 58 = .ok (.ireturn, 1) := by decide +kernel
theorem d_U_fourBits_0 : decode b_U_fourBits 0 = .ok (.lload_n 0, 1) := by decide +kernel
theorem d_U_fourBits_1 : decode b_U_fourBits 1 = .ok (.iconst 4, 1) := by decide +kernel
theorem d_U_fourBits_2 : decode b_U_fourBits 2 = .ok (.iload_n 2, 1) := by decide +kernel
theorem d_U_fourBits_3 : decode b_U_fourBits 3 = .ok (.imul, 1) := by decide +kernel
theorem d_U_fourBits_4 : decode b_U_fourBits 4 = .ok (.lshr, 1) := by decide +kernel
theorem d_U_fourBits_5 : decode b_U_fourBits 5 = .ok (.l2i, 1) := by decide +kernel
theorem d_U_fourBits_6 : decode b_U_fourBits 6 = .ok (.bipush 15, 2) := by decide +kernel
theorem d_U_fourBits_8 : decode b_U_fourBits 8 = .ok (.iand, 1) := by decide +kernel
theorem d_U_fourBits_9 : decode b_U_fourBits 9 = .ok (.ireturn, 1) := by decide +kernel
theorem d_U_needAt_0 : decode b_U_needAt 0 = .ok (.iconst 0, 1) := by decide +kernel
theorem d_U_needAt_1 : decode b_U_needAt 1 = .ok (.istore_n 3, 1) := by decide +kernel
theorem d_U_needAt_2 : decode b_U_needAt 2 = .ok (.iconst 0, 1) := by decide +kernel
theorem d_U_needAt_3 : decode b_U_needAt 3 = .ok (.istore 4, 2) := by decide +kernel
theorem d_U_needAt_5 : decode b_U_needAt 5 = .ok (.iload 4, 2) := by decide +kernel
theorem d_U_needAt_7 : decode b_U_needAt 7 = .ok (.bipush 8, 2) := by decide +kernel
theorem d_U_needAt_9 : decode b_U_needAt 9 = .ok (.if_icmp .ge 59, 3) := by decide +kernel
theorem d_U_needAt_12 : decode b_U_needAt 12 = .ok (.iload 4, 2) := by decide +kernel
theorem d_U_needAt_14 : decode b_U_needAt 14 = .ok (.aload_n 0, 1) := by decide +kernel
theorem d_U_needAt_15 : decode b_U_needAt 15 = .ok (.getfield 9, 3) := by decide +kernel
theorem d_U_needAt_18 : decode b_U_needAt 18 = .ok (.invokestatic 25, 3) := by decide +kernel
theorem d_U_needAt_21 : decode b_U_needAt 21 = .ok (.ifCond .eq 41, 3) := by decide +kernel
theorem d_U_needAt_24 : decode b_U_needAt 24 = .ok (.aload_n 2, 1) := by decide +kernel
theorem d_U_needAt_25 : decode b_U_needAt 25 = .ok (.iload 4, 2) := by decide +kernel
theorem d_U_needAt_27 : decode b_U_needAt 27 = .ok (.iaload, 1) := by decide +kernel
theorem d_U_needAt_28 : decode b_U_needAt 28 = .ok (.iload_n 1, 1) := by decide +kernel
theorem d_U_needAt_29 : decode b_U_needAt 29 = .ok (.if_icmp .gt 33, 3) := by decide +kernel
theorem d_U_needAt_32 : decode b_U_needAt 32 = .ok (.iload_n 1, 1) := by decide +kernel
theorem d_U_needAt_33 : decode b_U_needAt 33 = .ok (.aload_n 2, 1) := by decide +kernel
theorem d_U_needAt_34 : decode b_U_needAt 34 = .ok (.iload 4, 2) := by decide +kernel
theorem d_U_needAt_36 : decode b_U_needAt 36 = .ok (.iaload, 1) := by decide +kernel
theorem d_U_needAt_37 : decode b_U_needAt 37 = .ok (.aload_n 0, 1) := by decide +kernel
theorem d_U_needAt_38 : decode b_U_needAt 38 = .ok (.getfield 15, 3) := by decide +kernel
theorem d_U_needAt_41 : decode b_U_needAt 41 = .ok (.iload 4, 2) := by decide +kernel
theorem d_U_needAt_43 : decode b_U_needAt 43 = .ok (.invokestatic 33, 3) := by decide +kernel
theorem d_U_needAt_46 : decode b_U_needAt 46 = .ok (.iadd, 1) := by decide +kernel
theorem d_U_needAt_47 : decode b_U_needAt 47 = .ok (.if_icmp .ge 15, 3) := by decide +kernel
theorem d_U_needAt_50 : decode b_U_needAt 50 = .ok (.iload_n 3, 1) := by decide +kernel
theorem d_U_needAt_51 : decode b_U_needAt 51 = .ok (.aload_n 0, 1) := by decide +kernel
theorem d_U_needAt_52 : decode b_U_needAt 52 = .ok (.getfield 19, 3) := by decide +kernel
theorem d_U_needAt_55 : decode b_U_needAt 55 = .ok (.iload 4, 2) := by decide +kernel
theorem d_U_needAt_57 : decode b_U_needAt 57 = .ok (.invokestatic 33, 3) := by decide +kernel
theorem d_U_needAt_60 : decode b_U_needAt 60 = .ok (.iadd, 1) := by decide +kernel
theorem d_U_needAt_61 : decode b_U_needAt 61 = .ok (.istore_n 3, 1) := by decide +kernel
theorem d_U_needAt_62 : decode b_U_needAt 62 = .ok (.iinc 4 1, 3) := by decide +kernel
theorem d_U_needAt_65 : decode b_U_needAt 65 = .ok (.goto (-60), 3) := by decide +kernel
theorem d_U_needAt_68 : decode b_U_needAt 68 = .ok (.iload_n 3, 1) := by decide +kernel
theorem d_U_needAt_69 : decode b_U_needAt 69 = .ok (.ireturn, 1) := by decide +kernel
theorem d_U_holdsAt_0 : decode b_U_holdsAt 0 = .ok (.iconst 0, 1) := by decide +kernel
theorem d_U_holdsAt_1 : decode b_U_holdsAt 1 = .ok (.istore_n 2, 1) := by decide +kernel
theorem d_U_holdsAt_2 : decode b_U_holdsAt 2 = .ok (.iload_n 2, 1) := by decide +kernel
theorem d_U_holdsAt_3 : decode b_U_holdsAt 3 = .ok (.bipush 8, 2) := by decide +kernel
theorem d_U_holdsAt_5 : decode b_U_holdsAt 5 = .ok (.if_icmp .ge 37, 3) := by decide +kernel
theorem d_U_holdsAt_8 : decode b_U_holdsAt 8 = .ok (.iload_n 2, 1) := by decide +kernel
theorem d_U_holdsAt_9 : decode b_U_holdsAt 9 = .ok (.aload_n 0, 1) := by decide +kernel
theorem d_U_holdsAt_10 : decode b_U_holdsAt 10 = .ok (.getfield 9, 3) := by decide +kernel
theorem d_U_holdsAt_13 : decode b_U_holdsAt 13 = .ok (.invokestatic 25, 3) := by decide +kernel
theorem d_U_holdsAt_16 : decode b_U_holdsAt 16 = .ok (.ifCond .eq 20, 3) := by decide +kernel
theorem d_U_holdsAt_19 : decode b_U_holdsAt 19 = .ok (.aload_n 0, 1) := by decide +kernel
theorem d_U_holdsAt_20 : decode b_U_holdsAt 20 = .ok (.aload_n 1, 1) := by decide +kernel
theorem d_U_holdsAt_21 : decode b_U_holdsAt 21 = .ok (.iload_n 2, 1) := by decide +kernel
theorem d_U_holdsAt_22 : decode b_U_holdsAt 22 = .ok (.iaload, 1) := by decide +kernel
theorem d_U_holdsAt_23 : decode b_U_holdsAt 23 = .ok (.aload_n 1, 1) := by decide +kernel
theorem d_U_holdsAt_24 : decode b_U_holdsAt 24 = .ok (.invokevirtual 29, 3) := by decide +kernel
theorem d_U_holdsAt_27 : decode b_U_holdsAt 27 = .ok (.aload_n 0, 1) := by decide +kernel
theorem d_U_holdsAt_28 : decode b_U_holdsAt 28 = .ok (.getfield 22, 3) := by decide +kernel
theorem d_U_holdsAt_31 : decode b_U_holdsAt 31 = .ok (.if_icmp .le 5, 3) := by decide +kernel
theorem d_U_holdsAt_34 : decode b_U_holdsAt 34 = .ok (.iconst 0, 1) := by decide +kernel
theorem d_U_holdsAt_35 : decode b_U_holdsAt 35 = .ok (.ireturn, 1) := by decide +kernel
theorem d_U_holdsAt_36 : decode b_U_holdsAt 36 = .ok (.iinc 2 1, 3) := by decide +kernel
theorem d_U_holdsAt_39 : decode b_U_holdsAt 39 = .ok (.goto (-37), 3) := by decide +kernel
theorem d_U_holdsAt_42 : decode b_U_holdsAt 42 = .ok (.iconst 1, 1) := by decide +kernel
theorem d_U_holdsAt_43 : decode b_U_holdsAt 43 = .ok (.ireturn, 1) := by decide +kernel
theorem d_C_partHolds_0 : decode b_C_partHolds 0 = .ok (.iload_n 1, 1) := by decide +kernel
theorem d_C_partHolds_1 : decode b_C_partHolds 1 = .ok (.iconst (-1), 1) := by decide +kernel
theorem d_C_partHolds_2 : decode b_C_partHolds 2 = .ok (.if_icmp .ne 5, 3) := by decide +kernel
theorem d_C_partHolds_5 : decode b_C_partHolds 5 = .ok (.iconst 0, 1) := by decide +kernel
theorem d_C_partHolds_6 : decode b_C_partHolds 6 = .ok (.ireturn, 1) := by decide +kernel
theorem d_C_partHolds_7 : decode b_C_partHolds 7 = .ok (.iload_n 3, 1) := by decide +kernel
theorem d_C_partHolds_8 : decode b_C_partHolds 8 = .ok (.aload_n 0, 1) := by decide +kernel
theorem d_C_partHolds_9 : decode b_C_partHolds 9 = .ok (.getfield 30, 3) := by decide +kernel
theorem d_C_partHolds_12 : decode b_C_partHolds 12 = .ok (.invokestatic 37, 3) := by decide +kernel
theorem d_C_partHolds_15 : decode b_C_partHolds 15 = .ok (.ifCond .eq 19, 3) := by decide +kernel
theorem d_C_partHolds_18 : decode b_C_partHolds 18 = .ok (.aload 4, 2) := by decide +kernel
theorem d_C_partHolds_20 : decode b_C_partHolds 20 = .ok (.iload_n 1, 1) := by decide +kernel
theorem d_C_partHolds_21 : decode b_C_partHolds 21 = .ok (.iaload, 1) := by decide +kernel
theorem d_C_partHolds_22 : decode b_C_partHolds 22 = .ok (.iload_n 2, 1) := by decide +kernel
theorem d_C_partHolds_23 : decode b_C_partHolds 23 = .ok (.if_icmp .lt 7, 3) := by decide +kernel
theorem d_C_partHolds_26 : decode b_C_partHolds 26 = .ok (.iconst 1, 1) := by decide +kernel
theorem d_C_partHolds_27 : decode b_C_partHolds 27 = .ok (.goto 20, 3) := by decide +kernel
theorem d_C_partHolds_30 : decode b_C_partHolds 30 = .ok (.iconst 0, 1) := by decide +kernel
theorem d_C_partHolds_31 : decode b_C_partHolds 31 = .ok (.goto 16, 3) := by decide +kernel
theorem d_C_partHolds_34 : decode b_C_partHolds 34 = .ok (.aload 4, 2) := by decide +kernel
theorem d_C_partHolds_36 : decode b_C_partHolds 36 = .ok (.iload_n 1, 1) := by decide +kernel
theorem d_C_partHolds_37 : decode b_C_partHolds 37 = .ok (.iaload, 1) := by decide +kernel
theorem d_C_partHolds_38 : decode b_C_partHolds 38 = .ok (.iload_n 2, 1) := by decide +kernel
theorem d_C_partHolds_39 : decode b_C_partHolds 39 = .ok (.if_icmp .gt 7, 3) := by decide +kernel
theorem d_C_partHolds_42 : decode b_C_partHolds 42 = .ok (.iconst 1, 1) := by decide +kernel
theorem d_C_partHolds_43 : decode b_C_partHolds 43 = .ok (.goto 4, 3) := by decide +kernel
theorem d_C_partHolds_46 : decode b_C_partHolds 46 = .ok (.iconst 0, 1) := by decide +kernel
theorem d_C_partHolds_47 : decode b_C_partHolds 47 = .ok (.ireturn, 1) := by decide +kernel
theorem d_C_holdsAt_0 : decode b_C_holdsAt 0 = .ok (.aload_n 0, 1) := by decide +kernel
theorem d_C_holdsAt_1 : decode b_C_holdsAt 1 = .ok (.aload_n 0, 1) := by decide +kernel
theorem d_C_holdsAt_2 : decode b_C_holdsAt 2 = .ok (.getfield 9, 3) := by decide +kernel
theorem d_C_holdsAt_5 : decode b_C_holdsAt 5 = .ok (.aload_n 0, 1) := by decide +kernel
theorem d_C_holdsAt_6 : decode b_C_holdsAt 6 = .ok (.getfield 15, 3) := by decide +kernel
theorem d_C_holdsAt_9 : decode b_C_holdsAt 9 = .ok (.iconst 0, 1) := by decide +kernel
theorem d_C_holdsAt_10 : decode b_C_holdsAt 10 = .ok (.aload_n 1, 1) := by decide +kernel
theorem d_C_holdsAt_11 : decode b_C_holdsAt 11 = .ok (.invokevirtual 33, 3) := by decide +kernel
theorem d_C_holdsAt_14 : decode b_C_holdsAt 14 = .ok (.ifCond .ne 37, 3) := by decide +kernel
theorem d_C_holdsAt_17 : decode b_C_holdsAt 17 = .ok (.aload_n 0, 1) := by decide +kernel
theorem d_C_holdsAt_18 : decode b_C_holdsAt 18 = .ok (.aload_n 0, 1) := by decide +kernel
theorem d_C_holdsAt_19 : decode b_C_holdsAt 19 = .ok (.getfield 18, 3) := by decide +kernel
theorem d_C_holdsAt_22 : decode b_C_holdsAt 22 = .ok (.aload_n 0, 1) := by decide +kernel
theorem d_C_holdsAt_23 : decode b_C_holdsAt 23 = .ok (.getfield 21, 3) := by decide +kernel
theorem d_C_holdsAt_26 : decode b_C_holdsAt 26 = .ok (.iconst 1, 1) := by decide +kernel
theorem d_C_holdsAt_27 : decode b_C_holdsAt 27 = .ok (.aload_n 1, 1) := by decide +kernel
theorem d_C_holdsAt_28 : decode b_C_holdsAt 28 = .ok (.invokevirtual 33, 3) := by decide +kernel
theorem d_C_holdsAt_31 : decode b_C_holdsAt 31 = .ok (.ifCond .ne 20, 3) := by decide +kernel
theorem d_C_holdsAt_34 : decode b_C_holdsAt 34 = .ok (.aload_n 0, 1) := by decide +kernel
theorem d_C_holdsAt_35 : decode b_C_holdsAt 35 = .ok (.aload_n 0, 1) := by decide +kernel
theorem d_C_holdsAt_36 : decode b_C_holdsAt 36 = .ok (.getfield 24, 3) := by decide +kernel
theorem d_C_holdsAt_39 : decode b_C_holdsAt 39 = .ok (.aload_n 0, 1) := by decide +kernel
theorem d_C_holdsAt_40 : decode b_C_holdsAt 40 = .ok (.getfield 27, 3) := by decide +kernel
theorem d_C_holdsAt_43 : decode b_C_holdsAt 43 = .ok (.iconst 2, 1) := by decide +kernel
theorem d_C_holdsAt_44 : decode b_C_holdsAt 44 = .ok (.aload_n 1, 1) := by decide +kernel
theorem d_C_holdsAt_45 : decode b_C_holdsAt 45 = .ok (.invokevirtual 33, 3) := by decide +kernel
theorem d_C_holdsAt_48 : decode b_C_holdsAt 48 = .ok (.ifCond .eq 7, 3) := by decide +kernel
theorem d_C_holdsAt_51 : decode b_C_holdsAt 51 = .ok (.iconst 1, 1) := by decide +kernel
theorem d_C_holdsAt_52 : decode b_C_holdsAt 52 = .ok (.goto 4, 3) := by decide +kernel
theorem d_C_holdsAt_55 : decode b_C_holdsAt 55 = .ok (.iconst 0, 1) := by decide +kernel
theorem d_C_holdsAt_56 : decode b_C_holdsAt 56 = .ok (.ireturn, 1) := by decide +kernel
end
end
section
section
set_option maxRecDepth 100000 in
set_option maxHeartbeats 4000000 in
theorem c_Record (l : Launch) (D : va_G) (o : Nat) : Met l y_JR_init (wsm y_JR_init b_JR_init 1 none) { frames := 1, cells := 0, slots := 0, locals := 12 } (va_Pc [.ref o] (cPre D ([]))) (va_Sv (fun _ => True)) 0 0 (fun _ => False) := by
  refine met_R (by decide) (Nat.le_of_ble_eq_true rfl) ?_
  intro p e s m below meth c ls hx hb hr hlocks hml hown hin hA hP hK hD hN hl
  have hown : s.vm.findClass R_JR = some m.cls := hown
  have hl : lv_has ls 1 [(0, .ref o)] := hl
  refine lv_aload_n hx hb d_JR_init_0 rfl (lv_at hl 0 rfl) ?_
  refine W.objInit hx hb hown (hA _ wo_JR_1.1) (hA _ wo_JR_1.2.1) (hA _ wo_JR_1.2.2) rfl (by rw [hml]; exact hl.1) rfl d_JR_init_1 (Nat.le_of_ble_eq_true rfl) (Nat.le_of_ble_eq_true rfl) ?_
  refine W.eq (g2 := F0 m 4 ls []) rfl ?_
  exact eRv hx hb hr hlocks d_JR_init_4
end
end
section
section
set_option maxRecDepth 100000 in
set_option maxHeartbeats 4000000 in
theorem c_Linear_init (l : Launch) (D : va_G) (o : Nat) (i : Int32) (fa : Int32) (j : Int32) (fb : Int32) (v : Int32) (fc : Int32) (bd : Int32) (sz : Nat) : Met l y_L_init (wsm y_L_init b_L_init 8 none) { frames := 2, cells := 0, slots := 0, locals := 32 } (va_Pc [.ref o, .int i, .int fa, .int j, .int fb, .int v, .int fc, .int bd] (fun U => U.heap.size = sz ∧ cPre D ([(o, .inr (2, [.int 0, .int 0, .int 0, .int 0, .int 0, .int 0, .int 0]))]) U)) (va_Qv (fun u : va_W => u = [(o, .inr (2, [.int i, .int fa, .int j, .int fb, .int v, .int fc, .int bd]))]) (fun u t => xB D (idW u) (va_A ([(o, .inr (2, [.int 0, .int 0, .int 0, .int 0, .int 0, .int 0, .int 0]))]) sz) t) (va_A ([(o, .inr (2, [.int 0, .int 0, .int 0, .int 0, .int 0, .int 0, .int 0]))]) sz)) 0 0 (va_A ([(o, .inr (2, [.int 0, .int 0, .int 0, .int 0, .int 0, .int 0, .int 0]))]) sz) := by
  refine met_W (Qf := fun A => va_Qv (fun u : va_W => u = [(o, .inr (2, [.int i, .int fa, .int j, .int fb, .int v, .int fc, .int bd]))]) (fun u t => xB D (idW u) A t) A) (by decide) (Nat.le_of_ble_eq_true rfl) ?_
  intro p e s m below meth c ls A hx hb hr hlocks hml hown hin hA hP hK hD hN hl hS hAA
  have hown : s.vm.findClass R_L = some m.cls := hown
  have hl : lv_has ls 8 [(0, .ref o), (1, .int i), (2, .int fa), (3, .int j), (4, .int fb), (5, .int v), (6, .int fc), (7, .int bd)] := hl
  refine lv_aload_n hx hb d_L_init_0 rfl (lv_at hl 0 rfl) ?_
  refine rI (n := 0) (rest := []) hx hb hml hown hA (c_Record l D o) wv_L_3 rfl ⟨by decide, by decide, by decide +kernel⟩ ⟨rfl, rfl, by decide, by decide⟩ rfl hl.1 ⟨Nat.le_of_ble_eq_true rfl, Nat.le_of_ble_eq_true rfl⟩ (va_P.sub1 hP [] rfl) hK (va_D.sub hD [] rfl rfl) hN rfl (Nat.le_of_ble_eq_true rfl) d_L_init_1 ?_
  refine lv_aload_n hx hb d_L_init_4 rfl (lv_at hl 0 rfl) ?_
  refine lv_iload_n hx hb d_L_init_5 rfl (lv_at hl 1 rfl) ?_
  refine va_putF (D := D) (ci := 2) (v := .int i) (ty := .int) (C := R_L) (T := T_L) (N := 7) hx hb hA inA_L ty_L tok_L nm_L hown hK hP hD hS 0 rfl rfl 0 (by decide) (hA _ wd_105) (fun _ h9 => h9) rfl hin rfl (by decide +kernel) (by first | rfl | decide) (by first | rfl | decide) (Nat.le_of_ble_eq_true rfl) d_L_init_6 (fun H locs hP hD hS => ?_)
  have hP : va_P D vwCl ([(o, .inr (2, [.int i, .int 0, .int 0, .int 0, .int 0, .int 0, .int 0]))]) H := hP
  have hD : va_D A ([(o, .inr (2, [.int i, .int 0, .int 0, .int 0, .int 0, .int 0, .int 0]))]) := hD
  refine lv_aload_n hx hb d_L_init_9 rfl (lv_at hl 0 rfl) ?_
  refine lv_iload_n hx hb d_L_init_10 rfl (lv_at hl 2 rfl) ?_
  refine va_putF (D := D) (ci := 2) (v := .int fa) (ty := .int) (C := R_L) (T := T_L) (N := 7) hx hb hA inA_L ty_L tok_L nm_L hown hK hP hD hS 0 rfl rfl 1 (by decide) (hA _ wd_106) (fun _ h9 => h9) rfl hin rfl (by decide +kernel) (by first | rfl | decide) (by first | rfl | decide) (Nat.le_of_ble_eq_true rfl) d_L_init_11 (fun H locs hP hD hS => ?_)
  have hP : va_P D vwCl ([(o, .inr (2, [.int i, .int fa, .int 0, .int 0, .int 0, .int 0, .int 0]))]) H := hP
  have hD : va_D A ([(o, .inr (2, [.int i, .int fa, .int 0, .int 0, .int 0, .int 0, .int 0]))]) := hD
  refine lv_aload_n hx hb d_L_init_14 rfl (lv_at hl 0 rfl) ?_
  refine lv_iload_n hx hb d_L_init_15 rfl (lv_at hl 3 rfl) ?_
  refine va_putF (D := D) (ci := 2) (v := .int j) (ty := .int) (C := R_L) (T := T_L) (N := 7) hx hb hA inA_L ty_L tok_L nm_L hown hK hP hD hS 0 rfl rfl 2 (by decide) (hA _ wd_107) (fun _ h9 => h9) rfl hin rfl (by decide +kernel) (by first | rfl | decide) (by first | rfl | decide) (Nat.le_of_ble_eq_true rfl) d_L_init_16 (fun H locs hP hD hS => ?_)
  have hP : va_P D vwCl ([(o, .inr (2, [.int i, .int fa, .int j, .int 0, .int 0, .int 0, .int 0]))]) H := hP
  have hD : va_D A ([(o, .inr (2, [.int i, .int fa, .int j, .int 0, .int 0, .int 0, .int 0]))]) := hD
  refine lv_aload_n hx hb d_L_init_19 rfl (lv_at hl 0 rfl) ?_
  refine lv_iload hx hb d_L_init_20 (lv_at hl 4 rfl) ?_
  refine va_putF (D := D) (ci := 2) (v := .int fb) (ty := .int) (C := R_L) (T := T_L) (N := 7) hx hb hA inA_L ty_L tok_L nm_L hown hK hP hD hS 0 rfl rfl 3 (by decide) (hA _ wd_108) (fun _ h9 => h9) rfl hin rfl (by decide +kernel) (by first | rfl | decide) (by first | rfl | decide) (Nat.le_of_ble_eq_true rfl) d_L_init_22 (fun H locs hP hD hS => ?_)
  have hP : va_P D vwCl ([(o, .inr (2, [.int i, .int fa, .int j, .int fb, .int 0, .int 0, .int 0]))]) H := hP
  have hD : va_D A ([(o, .inr (2, [.int i, .int fa, .int j, .int fb, .int 0, .int 0, .int 0]))]) := hD
  refine lv_aload_n hx hb d_L_init_25 rfl (lv_at hl 0 rfl) ?_
  refine lv_iload hx hb d_L_init_26 (lv_at hl 5 rfl) ?_
  refine va_putF (D := D) (ci := 2) (v := .int v) (ty := .int) (C := R_L) (T := T_L) (N := 7) hx hb hA inA_L ty_L tok_L nm_L hown hK hP hD hS 0 rfl rfl 4 (by decide) (hA _ wd_109) (fun _ h9 => h9) rfl hin rfl (by decide +kernel) (by first | rfl | decide) (by first | rfl | decide) (Nat.le_of_ble_eq_true rfl) d_L_init_28 (fun H locs hP hD hS => ?_)
  have hP : va_P D vwCl ([(o, .inr (2, [.int i, .int fa, .int j, .int fb, .int v, .int 0, .int 0]))]) H := hP
  have hD : va_D A ([(o, .inr (2, [.int i, .int fa, .int j, .int fb, .int v, .int 0, .int 0]))]) := hD
  refine lv_aload_n hx hb d_L_init_31 rfl (lv_at hl 0 rfl) ?_
  refine lv_iload hx hb d_L_init_32 (lv_at hl 6 rfl) ?_
  refine va_putF (D := D) (ci := 2) (v := .int fc) (ty := .int) (C := R_L) (T := T_L) (N := 7) hx hb hA inA_L ty_L tok_L nm_L hown hK hP hD hS 0 rfl rfl 5 (by decide) (hA _ wd_110) (fun _ h9 => h9) rfl hin rfl (by decide +kernel) (by first | rfl | decide) (by first | rfl | decide) (Nat.le_of_ble_eq_true rfl) d_L_init_34 (fun H locs hP hD hS => ?_)
  have hP : va_P D vwCl ([(o, .inr (2, [.int i, .int fa, .int j, .int fb, .int v, .int fc, .int 0]))]) H := hP
  have hD : va_D A ([(o, .inr (2, [.int i, .int fa, .int j, .int fb, .int v, .int fc, .int 0]))]) := hD
  refine lv_aload_n hx hb d_L_init_37 rfl (lv_at hl 0 rfl) ?_
  refine lv_iload hx hb d_L_init_38 (lv_at hl 7 rfl) ?_
  refine va_putF (D := D) (ci := 2) (v := .int bd) (ty := .int) (C := R_L) (T := T_L) (N := 7) hx hb hA inA_L ty_L tok_L nm_L hown hK hP hD hS 0 rfl rfl 6 (by decide) (hA _ wd_111) (fun _ h9 => h9) rfl hin rfl (by decide +kernel) (by first | rfl | decide) (by first | rfl | decide) (Nat.le_of_ble_eq_true rfl) d_L_init_40 (fun H locs hP hD hS => ?_)
  have hP : va_P D vwCl ([(o, .inr (2, [.int i, .int fa, .int j, .int fb, .int v, .int fc, .int bd]))]) H := hP
  have hD : va_D A ([(o, .inr (2, [.int i, .int fa, .int j, .int fb, .int v, .int fc, .int bd]))]) := hD
  exact eWv [(o, .inr (2, [.int i, .int fa, .int j, .int fb, .int v, .int fc, .int bd]))] hx hb hr hlocks hP hK hD hS rfl d_L_init_43
end
end
section
section
set_option maxRecDepth 100000 in
set_option maxHeartbeats 4000000 in
theorem c_Reified_init (l : Launch) (D : va_G) (o : Nat) (r1 : Int32) (i : Int32) (j : Int32) (c1 : Int32) (sz : Nat) : Met l y_R_init (wsm y_R_init b_R_init 5 none) { frames := 2, cells := 0, slots := 0, locals := 32 } (va_Pc [.ref o, .int r1, .int i, .int j, .int c1] (fun U => U.heap.size = sz ∧ cPre D ([(o, .inr (3, [.int 0, .int 0, .int 0, .int 0]))]) U)) (va_Qv (fun u : va_W => u = [(o, .inr (3, [.int r1, .int i, .int j, .int c1]))]) (fun u t => xB D (idW u) (va_A ([(o, .inr (3, [.int 0, .int 0, .int 0, .int 0]))]) sz) t) (va_A ([(o, .inr (3, [.int 0, .int 0, .int 0, .int 0]))]) sz)) 0 0 (va_A ([(o, .inr (3, [.int 0, .int 0, .int 0, .int 0]))]) sz) := by
  refine met_W (Qf := fun A => va_Qv (fun u : va_W => u = [(o, .inr (3, [.int r1, .int i, .int j, .int c1]))]) (fun u t => xB D (idW u) A t) A) (by decide) (Nat.le_of_ble_eq_true rfl) ?_
  intro p e s m below meth c ls A hx hb hr hlocks hml hown hin hA hP hK hD hN hl hS hAA
  have hown : s.vm.findClass R_R = some m.cls := hown
  have hl : lv_has ls 5 [(0, .ref o), (1, .int r1), (2, .int i), (3, .int j), (4, .int c1)] := hl
  refine lv_aload_n hx hb d_R_init_0 rfl (lv_at hl 0 rfl) ?_
  refine rI (n := 0) (rest := []) hx hb hml hown hA (c_Record l D o) wv_R_1 rfl ⟨by decide, by decide, by decide +kernel⟩ ⟨rfl, rfl, by decide, by decide⟩ rfl hl.1 ⟨Nat.le_of_ble_eq_true rfl, Nat.le_of_ble_eq_true rfl⟩ (va_P.sub1 hP [] rfl) hK (va_D.sub hD [] rfl rfl) hN rfl (Nat.le_of_ble_eq_true rfl) d_R_init_1 ?_
  refine lv_aload_n hx hb d_R_init_4 rfl (lv_at hl 0 rfl) ?_
  refine lv_iload_n hx hb d_R_init_5 rfl (lv_at hl 1 rfl) ?_
  refine va_putF (D := D) (ci := 3) (v := .int r1) (ty := .int) (C := R_R) (T := T_R) (N := 4) hx hb hA inA_R ty_R tok_R nm_R hown hK hP hD hS 0 rfl rfl 0 (by decide) (hA _ wd_222) (fun _ h9 => h9) rfl hin rfl (by decide +kernel) (by first | rfl | decide) (by first | rfl | decide) (Nat.le_of_ble_eq_true rfl) d_R_init_6 (fun H locs hP hD hS => ?_)
  have hP : va_P D vwCl ([(o, .inr (3, [.int r1, .int 0, .int 0, .int 0]))]) H := hP
  have hD : va_D A ([(o, .inr (3, [.int r1, .int 0, .int 0, .int 0]))]) := hD
  refine lv_aload_n hx hb d_R_init_9 rfl (lv_at hl 0 rfl) ?_
  refine lv_iload_n hx hb d_R_init_10 rfl (lv_at hl 2 rfl) ?_
  refine va_putF (D := D) (ci := 3) (v := .int i) (ty := .int) (C := R_R) (T := T_R) (N := 4) hx hb hA inA_R ty_R tok_R nm_R hown hK hP hD hS 0 rfl rfl 1 (by decide) (hA _ wd_223) (fun _ h9 => h9) rfl hin rfl (by decide +kernel) (by first | rfl | decide) (by first | rfl | decide) (Nat.le_of_ble_eq_true rfl) d_R_init_11 (fun H locs hP hD hS => ?_)
  have hP : va_P D vwCl ([(o, .inr (3, [.int r1, .int i, .int 0, .int 0]))]) H := hP
  have hD : va_D A ([(o, .inr (3, [.int r1, .int i, .int 0, .int 0]))]) := hD
  refine lv_aload_n hx hb d_R_init_14 rfl (lv_at hl 0 rfl) ?_
  refine lv_iload_n hx hb d_R_init_15 rfl (lv_at hl 3 rfl) ?_
  refine va_putF (D := D) (ci := 3) (v := .int j) (ty := .int) (C := R_R) (T := T_R) (N := 4) hx hb hA inA_R ty_R tok_R nm_R hown hK hP hD hS 0 rfl rfl 2 (by decide) (hA _ wd_224) (fun _ h9 => h9) rfl hin rfl (by decide +kernel) (by first | rfl | decide) (by first | rfl | decide) (Nat.le_of_ble_eq_true rfl) d_R_init_16 (fun H locs hP hD hS => ?_)
  have hP : va_P D vwCl ([(o, .inr (3, [.int r1, .int i, .int j, .int 0]))]) H := hP
  have hD : va_D A ([(o, .inr (3, [.int r1, .int i, .int j, .int 0]))]) := hD
  refine lv_aload_n hx hb d_R_init_19 rfl (lv_at hl 0 rfl) ?_
  refine lv_iload hx hb d_R_init_20 (lv_at hl 4 rfl) ?_
  refine va_putF (D := D) (ci := 3) (v := .int c1) (ty := .int) (C := R_R) (T := T_R) (N := 4) hx hb hA inA_R ty_R tok_R nm_R hown hK hP hD hS 0 rfl rfl 3 (by decide) (hA _ wd_225) (fun _ h9 => h9) rfl hin rfl (by decide +kernel) (by first | rfl | decide) (by first | rfl | decide) (Nat.le_of_ble_eq_true rfl) d_R_init_22 (fun H locs hP hD hS => ?_)
  have hP : va_P D vwCl ([(o, .inr (3, [.int r1, .int i, .int j, .int c1]))]) H := hP
  have hD : va_D A ([(o, .inr (3, [.int r1, .int i, .int j, .int c1]))]) := hD
  exact eWv [(o, .inr (3, [.int r1, .int i, .int j, .int c1]))] hx hb hr hlocks hP hK hD hS rfl d_R_init_25
end
end
section
section
set_option maxRecDepth 100000 in
set_option maxHeartbeats 4000000 in
theorem c_Maximum_init (l : Launch) (D : va_G) (o : Nat) (r1 : Int32) (i : Int32) (j : Int32) (v : Int32) (sz : Nat) : Met l y_M_init (wsm y_M_init b_M_init 5 none) { frames := 2, cells := 0, slots := 0, locals := 32 } (va_Pc [.ref o, .int r1, .int i, .int j, .int v] (fun U => U.heap.size = sz ∧ cPre D ([(o, .inr (4, [.int 0, .int 0, .int 0, .int 0]))]) U)) (va_Qv (fun u : va_W => u = [(o, .inr (4, [.int r1, .int i, .int j, .int v]))]) (fun u t => xB D (idW u) (va_A ([(o, .inr (4, [.int 0, .int 0, .int 0, .int 0]))]) sz) t) (va_A ([(o, .inr (4, [.int 0, .int 0, .int 0, .int 0]))]) sz)) 0 0 (va_A ([(o, .inr (4, [.int 0, .int 0, .int 0, .int 0]))]) sz) := by
  refine met_W (Qf := fun A => va_Qv (fun u : va_W => u = [(o, .inr (4, [.int r1, .int i, .int j, .int v]))]) (fun u t => xB D (idW u) A t) A) (by decide) (Nat.le_of_ble_eq_true rfl) ?_
  intro p e s m below meth c ls A hx hb hr hlocks hml hown hin hA hP hK hD hN hl hS hAA
  have hown : s.vm.findClass R_M = some m.cls := hown
  have hl : lv_has ls 5 [(0, .ref o), (1, .int r1), (2, .int i), (3, .int j), (4, .int v)] := hl
  refine lv_aload_n hx hb d_M_init_0 rfl (lv_at hl 0 rfl) ?_
  refine rI (n := 0) (rest := []) hx hb hml hown hA (c_Record l D o) wv_M_3 rfl ⟨by decide, by decide, by decide +kernel⟩ ⟨rfl, rfl, by decide, by decide⟩ rfl hl.1 ⟨Nat.le_of_ble_eq_true rfl, Nat.le_of_ble_eq_true rfl⟩ (va_P.sub1 hP [] rfl) hK (va_D.sub hD [] rfl rfl) hN rfl (Nat.le_of_ble_eq_true rfl) d_M_init_1 ?_
  refine lv_aload_n hx hb d_M_init_4 rfl (lv_at hl 0 rfl) ?_
  refine lv_iload_n hx hb d_M_init_5 rfl (lv_at hl 1 rfl) ?_
  refine va_putF (D := D) (ci := 4) (v := .int r1) (ty := .int) (C := R_M) (T := T_M) (N := 4) hx hb hA inA_M ty_M tok_M nm_M hown hK hP hD hS 0 rfl rfl 0 (by decide) (hA _ wd_245) (fun _ h9 => h9) rfl hin rfl (by decide +kernel) (by first | rfl | decide) (by first | rfl | decide) (Nat.le_of_ble_eq_true rfl) d_M_init_6 (fun H locs hP hD hS => ?_)
  have hP : va_P D vwCl ([(o, .inr (4, [.int r1, .int 0, .int 0, .int 0]))]) H := hP
  have hD : va_D A ([(o, .inr (4, [.int r1, .int 0, .int 0, .int 0]))]) := hD
  refine lv_aload_n hx hb d_M_init_9 rfl (lv_at hl 0 rfl) ?_
  refine lv_iload_n hx hb d_M_init_10 rfl (lv_at hl 2 rfl) ?_
  refine va_putF (D := D) (ci := 4) (v := .int i) (ty := .int) (C := R_M) (T := T_M) (N := 4) hx hb hA inA_M ty_M tok_M nm_M hown hK hP hD hS 0 rfl rfl 1 (by decide) (hA _ wd_246) (fun _ h9 => h9) rfl hin rfl (by decide +kernel) (by first | rfl | decide) (by first | rfl | decide) (Nat.le_of_ble_eq_true rfl) d_M_init_11 (fun H locs hP hD hS => ?_)
  have hP : va_P D vwCl ([(o, .inr (4, [.int r1, .int i, .int 0, .int 0]))]) H := hP
  have hD : va_D A ([(o, .inr (4, [.int r1, .int i, .int 0, .int 0]))]) := hD
  refine lv_aload_n hx hb d_M_init_14 rfl (lv_at hl 0 rfl) ?_
  refine lv_iload_n hx hb d_M_init_15 rfl (lv_at hl 3 rfl) ?_
  refine va_putF (D := D) (ci := 4) (v := .int j) (ty := .int) (C := R_M) (T := T_M) (N := 4) hx hb hA inA_M ty_M tok_M nm_M hown hK hP hD hS 0 rfl rfl 2 (by decide) (hA _ wd_247) (fun _ h9 => h9) rfl hin rfl (by decide +kernel) (by first | rfl | decide) (by first | rfl | decide) (Nat.le_of_ble_eq_true rfl) d_M_init_16 (fun H locs hP hD hS => ?_)
  have hP : va_P D vwCl ([(o, .inr (4, [.int r1, .int i, .int j, .int 0]))]) H := hP
  have hD : va_D A ([(o, .inr (4, [.int r1, .int i, .int j, .int 0]))]) := hD
  refine lv_aload_n hx hb d_M_init_19 rfl (lv_at hl 0 rfl) ?_
  refine lv_iload hx hb d_M_init_20 (lv_at hl 4 rfl) ?_
  refine va_putF (D := D) (ci := 4) (v := .int v) (ty := .int) (C := R_M) (T := T_M) (N := 4) hx hb hA inA_M ty_M tok_M nm_M hown hK hP hD hS 0 rfl rfl 3 (by decide) (hA _ wd_248) (fun _ h9 => h9) rfl hin rfl (by decide +kernel) (by first | rfl | decide) (by first | rfl | decide) (Nat.le_of_ble_eq_true rfl) d_M_init_22 (fun H locs hP hD hS => ?_)
  have hP : va_P D vwCl ([(o, .inr (4, [.int r1, .int i, .int j, .int v]))]) H := hP
  have hD : va_D A ([(o, .inr (4, [.int r1, .int i, .int j, .int v]))]) := hD
  exact eWv [(o, .inr (4, [.int r1, .int i, .int j, .int v]))] hx hb hr hlocks hP hK hD hS rfl d_M_init_25
end
end
section
section
set_option maxRecDepth 100000 in
set_option maxHeartbeats 4000000 in
theorem c_Element_init (l : Launch) (D : va_G) (o : Nat) (r1 : Int32) (i : Int32) (tb : Int64) (sz : Nat) : Met l y_E_init (wsm y_E_init b_E_init 5 none) { frames := 2, cells := 0, slots := 0, locals := 32 } (va_Pc [.ref o, .int r1, .int i, .long tb] (fun U => U.heap.size = sz ∧ cPre D ([(o, .inr (5, [.int 0, .int 0, .long 0]))]) U)) (va_Qv (fun u : va_W => u = [(o, .inr (5, [.int r1, .int i, .long tb]))]) (fun u t => xB D (idW u) (va_A ([(o, .inr (5, [.int 0, .int 0, .long 0]))]) sz) t) (va_A ([(o, .inr (5, [.int 0, .int 0, .long 0]))]) sz)) 0 0 (va_A ([(o, .inr (5, [.int 0, .int 0, .long 0]))]) sz) := by
  refine met_W (Qf := fun A => va_Qv (fun u : va_W => u = [(o, .inr (5, [.int r1, .int i, .long tb]))]) (fun u t => xB D (idW u) A t) A) (by decide) (Nat.le_of_ble_eq_true rfl) ?_
  intro p e s m below meth c ls A hx hb hr hlocks hml hown hin hA hP hK hD hN hl hS hAA
  have hown : s.vm.findClass R_E = some m.cls := hown
  have hl : lv_has ls 5 [(0, .ref o), (1, .int r1), (2, .int i), (3, .long tb)] := hl
  refine lv_aload_n hx hb d_E_init_0 rfl (lv_at hl 0 rfl) ?_
  refine rI (n := 0) (rest := []) hx hb hml hown hA (c_Record l D o) wv_E_1 rfl ⟨by decide, by decide, by decide +kernel⟩ ⟨rfl, rfl, by decide, by decide⟩ rfl hl.1 ⟨Nat.le_of_ble_eq_true rfl, Nat.le_of_ble_eq_true rfl⟩ (va_P.sub1 hP [] rfl) hK (va_D.sub hD [] rfl rfl) hN rfl (Nat.le_of_ble_eq_true rfl) d_E_init_1 ?_
  refine lv_aload_n hx hb d_E_init_4 rfl (lv_at hl 0 rfl) ?_
  refine lv_iload_n hx hb d_E_init_5 rfl (lv_at hl 1 rfl) ?_
  refine va_putF (D := D) (ci := 5) (v := .int r1) (ty := .int) (C := R_E) (T := T_E) (N := 3) hx hb hA inA_E ty_E tok_E nm_E hown hK hP hD hS 0 rfl rfl 0 (by decide) (hA _ wd_268) (fun _ h9 => h9) rfl hin rfl (by decide +kernel) (by first | rfl | decide) (by first | rfl | decide) (Nat.le_of_ble_eq_true rfl) d_E_init_6 (fun H locs hP hD hS => ?_)
  have hP : va_P D vwCl ([(o, .inr (5, [.int r1, .int 0, .long 0]))]) H := hP
  have hD : va_D A ([(o, .inr (5, [.int r1, .int 0, .long 0]))]) := hD
  refine lv_aload_n hx hb d_E_init_9 rfl (lv_at hl 0 rfl) ?_
  refine lv_iload_n hx hb d_E_init_10 rfl (lv_at hl 2 rfl) ?_
  refine va_putF (D := D) (ci := 5) (v := .int i) (ty := .int) (C := R_E) (T := T_E) (N := 3) hx hb hA inA_E ty_E tok_E nm_E hown hK hP hD hS 0 rfl rfl 1 (by decide) (hA _ wd_269) (fun _ h9 => h9) rfl hin rfl (by decide +kernel) (by first | rfl | decide) (by first | rfl | decide) (Nat.le_of_ble_eq_true rfl) d_E_init_11 (fun H locs hP hD hS => ?_)
  have hP : va_P D vwCl ([(o, .inr (5, [.int r1, .int i, .long 0]))]) H := hP
  have hD : va_D A ([(o, .inr (5, [.int r1, .int i, .long 0]))]) := hD
  refine lv_aload_n hx hb d_E_init_14 rfl (lv_at hl 0 rfl) ?_
  refine lv_lload_n hx hb d_E_init_15 rfl (lv_at hl 3 rfl) ?_
  refine va_putF (D := D) (ci := 5) (v := .long tb) (ty := .long) (C := R_E) (T := T_E) (N := 3) hx hb hA inA_E ty_E tok_E nm_E hown hK hP hD hS 0 rfl rfl 2 (by decide) (hA _ wd_270) (fun _ h9 => h9) rfl hin rfl (by decide +kernel) (by first | rfl | decide) (by first | rfl | decide) (Nat.le_of_ble_eq_true rfl) d_E_init_16 (fun H locs hP hD hS => ?_)
  have hP : va_P D vwCl ([(o, .inr (5, [.int r1, .int i, .long tb]))]) H := hP
  have hD : va_D A ([(o, .inr (5, [.int r1, .int i, .long tb]))]) := hD
  exact eWv [(o, .inr (5, [.int r1, .int i, .long tb]))] hx hb hr hlocks hP hK hD hS rfl d_E_init_19
end
end
section
section
set_option maxRecDepth 100000 in
set_option maxHeartbeats 4000000 in
theorem c_Different_init (l : Launch) (D : va_G) (o : Nat) (t1 : Int32) (sz : Nat) : Met l y_D_init (wsm y_D_init b_D_init 2 none) { frames := 2, cells := 0, slots := 0, locals := 32 } (va_Pc [.ref o, .int t1] (fun U => U.heap.size = sz ∧ cPre D ([(o, .inr (6, [.int 0]))]) U)) (va_Qv (fun u : va_W => u = [(o, .inr (6, [.int t1]))]) (fun u t => xB D (idW u) (va_A ([(o, .inr (6, [.int 0]))]) sz) t) (va_A ([(o, .inr (6, [.int 0]))]) sz)) 0 0 (va_A ([(o, .inr (6, [.int 0]))]) sz) := by
  refine met_W (Qf := fun A => va_Qv (fun u : va_W => u = [(o, .inr (6, [.int t1]))]) (fun u t => xB D (idW u) A t) A) (by decide) (Nat.le_of_ble_eq_true rfl) ?_
  intro p e s m below meth c ls A hx hb hr hlocks hml hown hin hA hP hK hD hN hl hS hAA
  have hown : s.vm.findClass R_D = some m.cls := hown
  have hl : lv_has ls 2 [(0, .ref o), (1, .int t1)] := hl
  refine lv_aload_n hx hb d_D_init_0 rfl (lv_at hl 0 rfl) ?_
  refine rI (n := 0) (rest := []) hx hb hml hown hA (c_Record l D o) wv_D_3 rfl ⟨by decide, by decide, by decide +kernel⟩ ⟨rfl, rfl, by decide, by decide⟩ rfl hl.1 ⟨Nat.le_of_ble_eq_true rfl, Nat.le_of_ble_eq_true rfl⟩ (va_P.sub1 hP [] rfl) hK (va_D.sub hD [] rfl rfl) hN rfl (Nat.le_of_ble_eq_true rfl) d_D_init_1 ?_
  refine lv_aload_n hx hb d_D_init_4 rfl (lv_at hl 0 rfl) ?_
  refine lv_iload_n hx hb d_D_init_5 rfl (lv_at hl 1 rfl) ?_
  refine va_putF (D := D) (ci := 6) (v := .int t1) (ty := .int) (C := R_D) (T := T_D) (N := 1) hx hb hA inA_D ty_D tok_D nm_D hown hK hP hD hS 0 rfl rfl 0 (by decide) (hA _ wd_292) (fun _ h9 => h9) rfl hin rfl (by decide +kernel) (by first | rfl | decide) (by first | rfl | decide) (Nat.le_of_ble_eq_true rfl) d_D_init_6 (fun H locs hP hD hS => ?_)
  have hP : va_P D vwCl ([(o, .inr (6, [.int t1]))]) H := hP
  have hD : va_D A ([(o, .inr (6, [.int t1]))]) := hD
  exact eWv [(o, .inr (6, [.int t1]))] hx hb hr hlocks hP hK hD hS rfl d_D_init_9
end
end
section
section
set_option maxRecDepth 100000 in
set_option maxHeartbeats 4000000 in
theorem c_Cumulative_init (l : Launch) (D : va_G) (o : Nat) (t1 : Int32) (du : Int64) (ne : Int64) (cp : Int32) (sz : Nat) : Met l y_U_init (wsm y_U_init b_U_init 7 none) { frames := 2, cells := 0, slots := 0, locals := 32 } (va_Pc [.ref o, .int t1, .long du, .long ne, .int cp] (fun U => U.heap.size = sz ∧ cPre D ([(o, .inr (7, [.int 0, .long 0, .long 0, .int 0]))]) U)) (va_Qv (fun u : va_W => u = [(o, .inr (7, [.int t1, .long du, .long ne, .int cp]))]) (fun u t => xB D (idW u) (va_A ([(o, .inr (7, [.int 0, .long 0, .long 0, .int 0]))]) sz) t) (va_A ([(o, .inr (7, [.int 0, .long 0, .long 0, .int 0]))]) sz)) 0 0 (va_A ([(o, .inr (7, [.int 0, .long 0, .long 0, .int 0]))]) sz) := by
  refine met_W (Qf := fun A => va_Qv (fun u : va_W => u = [(o, .inr (7, [.int t1, .long du, .long ne, .int cp]))]) (fun u t => xB D (idW u) A t) A) (by decide) (Nat.le_of_ble_eq_true rfl) ?_
  intro p e s m below meth c ls A hx hb hr hlocks hml hown hin hA hP hK hD hN hl hS hAA
  have hown : s.vm.findClass R_U = some m.cls := hown
  have hl : lv_has ls 7 [(0, .ref o), (1, .int t1), (2, .long du), (4, .long ne), (6, .int cp)] := hl
  refine lv_aload_n hx hb d_U_init_0 rfl (lv_at hl 0 rfl) ?_
  refine rI (n := 0) (rest := []) hx hb hml hown hA (c_Record l D o) wv_U_3 rfl ⟨by decide, by decide, by decide +kernel⟩ ⟨rfl, rfl, by decide, by decide⟩ rfl hl.1 ⟨Nat.le_of_ble_eq_true rfl, Nat.le_of_ble_eq_true rfl⟩ (va_P.sub1 hP [] rfl) hK (va_D.sub hD [] rfl rfl) hN rfl (Nat.le_of_ble_eq_true rfl) d_U_init_1 ?_
  refine lv_aload_n hx hb d_U_init_4 rfl (lv_at hl 0 rfl) ?_
  refine lv_iload_n hx hb d_U_init_5 rfl (lv_at hl 1 rfl) ?_
  refine va_putF (D := D) (ci := 7) (v := .int t1) (ty := .int) (C := R_U) (T := T_U) (N := 4) hx hb hA inA_U ty_U tok_U nm_U hown hK hP hD hS 0 rfl rfl 0 (by decide) (hA _ wd_305) (fun _ h9 => h9) rfl hin rfl (by decide +kernel) (by first | rfl | decide) (by first | rfl | decide) (Nat.le_of_ble_eq_true rfl) d_U_init_6 (fun H locs hP hD hS => ?_)
  have hP : va_P D vwCl ([(o, .inr (7, [.int t1, .long 0, .long 0, .int 0]))]) H := hP
  have hD : va_D A ([(o, .inr (7, [.int t1, .long 0, .long 0, .int 0]))]) := hD
  refine lv_aload_n hx hb d_U_init_9 rfl (lv_at hl 0 rfl) ?_
  refine lv_lload_n hx hb d_U_init_10 rfl (lv_at hl 2 rfl) ?_
  refine va_putF (D := D) (ci := 7) (v := .long du) (ty := .long) (C := R_U) (T := T_U) (N := 4) hx hb hA inA_U ty_U tok_U nm_U hown hK hP hD hS 0 rfl rfl 1 (by decide) (hA _ wd_306) (fun _ h9 => h9) rfl hin rfl (by decide +kernel) (by first | rfl | decide) (by first | rfl | decide) (Nat.le_of_ble_eq_true rfl) d_U_init_11 (fun H locs hP hD hS => ?_)
  have hP : va_P D vwCl ([(o, .inr (7, [.int t1, .long du, .long 0, .int 0]))]) H := hP
  have hD : va_D A ([(o, .inr (7, [.int t1, .long du, .long 0, .int 0]))]) := hD
  refine lv_aload_n hx hb d_U_init_14 rfl (lv_at hl 0 rfl) ?_
  refine lv_lload hx hb d_U_init_15 (lv_at hl 3 rfl) ?_
  refine va_putF (D := D) (ci := 7) (v := .long ne) (ty := .long) (C := R_U) (T := T_U) (N := 4) hx hb hA inA_U ty_U tok_U nm_U hown hK hP hD hS 0 rfl rfl 2 (by decide) (hA _ wd_307) (fun _ h9 => h9) rfl hin rfl (by decide +kernel) (by first | rfl | decide) (by first | rfl | decide) (Nat.le_of_ble_eq_true rfl) d_U_init_17 (fun H locs hP hD hS => ?_)
  have hP : va_P D vwCl ([(o, .inr (7, [.int t1, .long du, .long ne, .int 0]))]) H := hP
  have hD : va_D A ([(o, .inr (7, [.int t1, .long du, .long ne, .int 0]))]) := hD
  refine lv_aload_n hx hb d_U_init_20 rfl (lv_at hl 0 rfl) ?_
  refine lv_iload hx hb d_U_init_21 (lv_at hl 4 rfl) ?_
  refine va_putF (D := D) (ci := 7) (v := .int cp) (ty := .int) (C := R_U) (T := T_U) (N := 4) hx hb hA inA_U ty_U tok_U nm_U hown hK hP hD hS 0 rfl rfl 3 (by decide) (hA _ wd_308) (fun _ h9 => h9) rfl hin rfl (by decide +kernel) (by first | rfl | decide) (by first | rfl | decide) (Nat.le_of_ble_eq_true rfl) d_U_init_23 (fun H locs hP hD hS => ?_)
  have hP : va_P D vwCl ([(o, .inr (7, [.int t1, .long du, .long ne, .int cp]))]) H := hP
  have hD : va_D A ([(o, .inr (7, [.int t1, .long du, .long ne, .int cp]))]) := hD
  exact eWv [(o, .inr (7, [.int t1, .long du, .long ne, .int cp]))] hx hb hr hlocks hP hK hD hS rfl d_U_init_26
end
end
section
section
set_option maxRecDepth 100000 in
set_option maxHeartbeats 4000000 in
theorem c_Clause_init (l : Launch) (D : va_G) (o : Nat) (i : Int32) (w1 : Int32) (j : Int32) (w2 : Int32) (v : Int32) (w3 : Int32) (how : Int32) (sz : Nat) : Met l y_C_init (wsm y_C_init b_C_init 8 none) { frames := 2, cells := 0, slots := 0, locals := 32 } (va_Pc [.ref o, .int i, .int w1, .int j, .int w2, .int v, .int w3, .int how] (fun U => U.heap.size = sz ∧ cPre D ([(o, .inr (8, [.int 0, .int 0, .int 0, .int 0, .int 0, .int 0, .int 0]))]) U)) (va_Qv (fun u : va_W => u = [(o, .inr (8, [.int i, .int w1, .int j, .int w2, .int v, .int w3, .int how]))]) (fun u t => xB D (idW u) (va_A ([(o, .inr (8, [.int 0, .int 0, .int 0, .int 0, .int 0, .int 0, .int 0]))]) sz) t) (va_A ([(o, .inr (8, [.int 0, .int 0, .int 0, .int 0, .int 0, .int 0, .int 0]))]) sz)) 0 0 (va_A ([(o, .inr (8, [.int 0, .int 0, .int 0, .int 0, .int 0, .int 0, .int 0]))]) sz) := by
  refine met_W (Qf := fun A => va_Qv (fun u : va_W => u = [(o, .inr (8, [.int i, .int w1, .int j, .int w2, .int v, .int w3, .int how]))]) (fun u t => xB D (idW u) A t) A) (by decide) (Nat.le_of_ble_eq_true rfl) ?_
  intro p e s m below meth c ls A hx hb hr hlocks hml hown hin hA hP hK hD hN hl hS hAA
  have hown : s.vm.findClass R_C = some m.cls := hown
  have hl : lv_has ls 8 [(0, .ref o), (1, .int i), (2, .int w1), (3, .int j), (4, .int w2), (5, .int v), (6, .int w3), (7, .int how)] := hl
  refine lv_aload_n hx hb d_C_init_0 rfl (lv_at hl 0 rfl) ?_
  refine rI (n := 0) (rest := []) hx hb hml hown hA (c_Record l D o) wv_C_3 rfl ⟨by decide, by decide, by decide +kernel⟩ ⟨rfl, rfl, by decide, by decide⟩ rfl hl.1 ⟨Nat.le_of_ble_eq_true rfl, Nat.le_of_ble_eq_true rfl⟩ (va_P.sub1 hP [] rfl) hK (va_D.sub hD [] rfl rfl) hN rfl (Nat.le_of_ble_eq_true rfl) d_C_init_1 ?_
  refine lv_aload_n hx hb d_C_init_4 rfl (lv_at hl 0 rfl) ?_
  refine lv_iload_n hx hb d_C_init_5 rfl (lv_at hl 1 rfl) ?_
  refine va_putF (D := D) (ci := 8) (v := .int i) (ty := .int) (C := R_C) (T := T_C) (N := 7) hx hb hA inA_C ty_C tok_C nm_C hown hK hP hD hS 0 rfl rfl 0 (by decide) (hA _ wd_327) (fun _ h9 => h9) rfl hin rfl (by decide +kernel) (by first | rfl | decide) (by first | rfl | decide) (Nat.le_of_ble_eq_true rfl) d_C_init_6 (fun H locs hP hD hS => ?_)
  have hP : va_P D vwCl ([(o, .inr (8, [.int i, .int 0, .int 0, .int 0, .int 0, .int 0, .int 0]))]) H := hP
  have hD : va_D A ([(o, .inr (8, [.int i, .int 0, .int 0, .int 0, .int 0, .int 0, .int 0]))]) := hD
  refine lv_aload_n hx hb d_C_init_9 rfl (lv_at hl 0 rfl) ?_
  refine lv_iload_n hx hb d_C_init_10 rfl (lv_at hl 2 rfl) ?_
  refine va_putF (D := D) (ci := 8) (v := .int w1) (ty := .int) (C := R_C) (T := T_C) (N := 7) hx hb hA inA_C ty_C tok_C nm_C hown hK hP hD hS 0 rfl rfl 1 (by decide) (hA _ wd_328) (fun _ h9 => h9) rfl hin rfl (by decide +kernel) (by first | rfl | decide) (by first | rfl | decide) (Nat.le_of_ble_eq_true rfl) d_C_init_11 (fun H locs hP hD hS => ?_)
  have hP : va_P D vwCl ([(o, .inr (8, [.int i, .int w1, .int 0, .int 0, .int 0, .int 0, .int 0]))]) H := hP
  have hD : va_D A ([(o, .inr (8, [.int i, .int w1, .int 0, .int 0, .int 0, .int 0, .int 0]))]) := hD
  refine lv_aload_n hx hb d_C_init_14 rfl (lv_at hl 0 rfl) ?_
  refine lv_iload_n hx hb d_C_init_15 rfl (lv_at hl 3 rfl) ?_
  refine va_putF (D := D) (ci := 8) (v := .int j) (ty := .int) (C := R_C) (T := T_C) (N := 7) hx hb hA inA_C ty_C tok_C nm_C hown hK hP hD hS 0 rfl rfl 2 (by decide) (hA _ wd_329) (fun _ h9 => h9) rfl hin rfl (by decide +kernel) (by first | rfl | decide) (by first | rfl | decide) (Nat.le_of_ble_eq_true rfl) d_C_init_16 (fun H locs hP hD hS => ?_)
  have hP : va_P D vwCl ([(o, .inr (8, [.int i, .int w1, .int j, .int 0, .int 0, .int 0, .int 0]))]) H := hP
  have hD : va_D A ([(o, .inr (8, [.int i, .int w1, .int j, .int 0, .int 0, .int 0, .int 0]))]) := hD
  refine lv_aload_n hx hb d_C_init_19 rfl (lv_at hl 0 rfl) ?_
  refine lv_iload hx hb d_C_init_20 (lv_at hl 4 rfl) ?_
  refine va_putF (D := D) (ci := 8) (v := .int w2) (ty := .int) (C := R_C) (T := T_C) (N := 7) hx hb hA inA_C ty_C tok_C nm_C hown hK hP hD hS 0 rfl rfl 3 (by decide) (hA _ wd_330) (fun _ h9 => h9) rfl hin rfl (by decide +kernel) (by first | rfl | decide) (by first | rfl | decide) (Nat.le_of_ble_eq_true rfl) d_C_init_22 (fun H locs hP hD hS => ?_)
  have hP : va_P D vwCl ([(o, .inr (8, [.int i, .int w1, .int j, .int w2, .int 0, .int 0, .int 0]))]) H := hP
  have hD : va_D A ([(o, .inr (8, [.int i, .int w1, .int j, .int w2, .int 0, .int 0, .int 0]))]) := hD
  refine lv_aload_n hx hb d_C_init_25 rfl (lv_at hl 0 rfl) ?_
  refine lv_iload hx hb d_C_init_26 (lv_at hl 5 rfl) ?_
  refine va_putF (D := D) (ci := 8) (v := .int v) (ty := .int) (C := R_C) (T := T_C) (N := 7) hx hb hA inA_C ty_C tok_C nm_C hown hK hP hD hS 0 rfl rfl 4 (by decide) (hA _ wd_331) (fun _ h9 => h9) rfl hin rfl (by decide +kernel) (by first | rfl | decide) (by first | rfl | decide) (Nat.le_of_ble_eq_true rfl) d_C_init_28 (fun H locs hP hD hS => ?_)
  have hP : va_P D vwCl ([(o, .inr (8, [.int i, .int w1, .int j, .int w2, .int v, .int 0, .int 0]))]) H := hP
  have hD : va_D A ([(o, .inr (8, [.int i, .int w1, .int j, .int w2, .int v, .int 0, .int 0]))]) := hD
  refine lv_aload_n hx hb d_C_init_31 rfl (lv_at hl 0 rfl) ?_
  refine lv_iload hx hb d_C_init_32 (lv_at hl 6 rfl) ?_
  refine va_putF (D := D) (ci := 8) (v := .int w3) (ty := .int) (C := R_C) (T := T_C) (N := 7) hx hb hA inA_C ty_C tok_C nm_C hown hK hP hD hS 0 rfl rfl 5 (by decide) (hA _ wd_332) (fun _ h9 => h9) rfl hin rfl (by decide +kernel) (by first | rfl | decide) (by first | rfl | decide) (Nat.le_of_ble_eq_true rfl) d_C_init_34 (fun H locs hP hD hS => ?_)
  have hP : va_P D vwCl ([(o, .inr (8, [.int i, .int w1, .int j, .int w2, .int v, .int w3, .int 0]))]) H := hP
  have hD : va_D A ([(o, .inr (8, [.int i, .int w1, .int j, .int w2, .int v, .int w3, .int 0]))]) := hD
  refine lv_aload_n hx hb d_C_init_37 rfl (lv_at hl 0 rfl) ?_
  refine lv_iload hx hb d_C_init_38 (lv_at hl 7 rfl) ?_
  refine va_putF (D := D) (ci := 8) (v := .int how) (ty := .int) (C := R_C) (T := T_C) (N := 7) hx hb hA inA_C ty_C tok_C nm_C hown hK hP hD hS 0 rfl rfl 6 (by decide) (hA _ wd_333) (fun _ h9 => h9) rfl hin rfl (by decide +kernel) (by first | rfl | decide) (by first | rfl | decide) (Nat.le_of_ble_eq_true rfl) d_C_init_40 (fun H locs hP hD hS => ?_)
  have hP : va_P D vwCl ([(o, .inr (8, [.int i, .int w1, .int j, .int w2, .int v, .int w3, .int how]))]) H := hP
  have hD : va_D A ([(o, .inr (8, [.int i, .int w1, .int j, .int w2, .int v, .int w3, .int how]))]) := hD
  exact eWv [(o, .inr (8, [.int i, .int w1, .int j, .int w2, .int v, .int w3, .int how]))] hx hb hr hlocks hP hK hD hS rfl d_C_init_43
end
end
section
section
set_option maxRecDepth 100000 in
set_option maxHeartbeats 4000000 in
theorem c_product (l : Launch) (D : va_G) (b1 : Nat) (f i : Int32) (x : Nat → Int32) (hi9 : i = -1 ∨ vp_in i 8) : Met l y_L_product (wsm y_L_product b_L_product 3 (some .int)) { frames := 0, cells := 0, slots := 0, locals := 0 } (va_Pc [.int f, .int i, .ref b1] (cPre D ([(b1, .inl (D.1 100, 8, .inl x))]))) (vp_Si (fun r => r = lprod f i x)) 0 0 (fun _ => False) := by
  refine met_R (by decide) (Nat.le_of_ble_eq_true rfl) ?_
  intro p e s m below meth c ls hx hb hr hlocks hml hown hin hA hP hK hD hN hl
  have hown : s.vm.findClass R_L = some m.cls := hown
  have hl : lv_has ls 3 [(0, .int f), (1, .int i), (2, .ref b1)] := hl
  refine lv_iload_n hx hb d_L_product_0 rfl (lv_at hl 1 rfl) ?_
  refine lv_iconst (v := (-1)) hx hb d_L_product_1 (by decide) ?_
  refine lv_icmp_ne (tgt := 9) hx hb d_L_product_2 (by decide) (fun h2 => ?_) (fun h2 => ?_)
  · skip
    refine lv_iload_n hx hb d_L_product_9 rfl (lv_at hl 0 rfl) ?_
    refine lv_aload_n hx hb d_L_product_10 rfl (lv_at hl 2 rfl) ?_
    refine lv_iload_n hx hb d_L_product_11 rfl (lv_at hl 1 rfl) ?_
    refine va_iald hx hb hK hP 0 0 rfl rfl (hi9.resolve_left h2) d_L_product_12 ?_
    refine lv_imul hx hb d_L_product_13 ?_
    exact eR hx hb hr hlocks (by first | exact Eq.symm ((if_pos h2)) | exact Eq.symm ((if_neg h2))) d_L_product_14
  · skip
    refine lv_iconst (v := 0) hx hb d_L_product_5 (by decide) ?_
    refine lv_goto (tgt := 14) hx hb d_L_product_6 (by decide) ?_
    exact eR hx hb hr hlocks (by first | exact Eq.symm ((if_pos h2)) | exact Eq.symm ((if_neg h2))) d_L_product_14
end
end
section
section
set_option maxRecDepth 100000 in
set_option maxHeartbeats 4000000 in
theorem c_Linear (l : Launch) (D : va_G) (o b1 : Nat) (i : Int32) (fa : Int32) (j : Int32) (fb : Int32) (v : Int32) (fc : Int32) (bd : Int32) (x : Nat → Int32) (hi9 : i = -1 ∨ vp_in i 8) (hj9 : j = -1 ∨ vp_in j 8) (hv9 : v = -1 ∨ vp_in v 8) : Met l y_L_holdsAt (wsm y_L_holdsAt b_L_holdsAt 2 (some .boolean)) { frames := 1, cells := 0, slots := 0, locals := 22 } (va_Pc [.ref o, .ref b1] (cPre D ([(o, .inr (2, [.int i, .int fa, .int j, .int fb, .int v, .int fc, .int bd])), (b1, .inl (D.1 100, 8, .inl x))]))) (vp_Si (fun r => r = zb (decide (kLin i fa j fb v fc bd x)))) 0 0 (fun _ => False) := by
  refine met_R (by decide) (Nat.le_of_ble_eq_true rfl) ?_
  intro p e s m below meth c ls hx hb hr hlocks hml hown hin hA hP hK hD hN hl
  have hown : s.vm.findClass R_L = some m.cls := hown
  have hl : lv_has ls 2 [(0, .ref o), (1, .ref b1)] := hl
  refine lv_aload_n hx hb d_L_holdsAt_0 rfl (lv_at hl 0 rfl) ?_
  refine va_get (D := D) (ci := 2) (v := .int fa) (C := R_L) (T := T_L) (N := 7) hx hb hA inA_L hown hK hP 0 rfl rfl 1 (by decide) (hA _ wd_106) (fun _ h9 => h9) rfl d_L_holdsAt_1 ?_
  refine lv_aload_n hx hb d_L_holdsAt_4 rfl (lv_at hl 0 rfl) ?_
  refine va_get (D := D) (ci := 2) (v := .int i) (C := R_L) (T := T_L) (N := 7) hx hb hA inA_L hown hK hP 0 rfl rfl 0 (by decide) (hA _ wd_105) (fun _ h9 => h9) rfl d_L_holdsAt_5 ?_
  refine lv_aload_n hx hb d_L_holdsAt_8 rfl (lv_at hl 1 rfl) ?_
  refine rS (n := 3) (rest := []) hx hb hml hown hA (c_product l D b1 fa i x hi9) wv_L_33 ⟨by decide, by decide, by decide +kernel⟩ ⟨rfl, rfl, by decide, by decide⟩ rfl hl.1 ⟨Nat.le_of_ble_eq_true rfl, Nat.le_of_ble_eq_true rfl⟩ (va_P.sub1 hP [1] rfl) hK (va_D.sub hD [1] (by decide) rfl) hN rfl (Nat.le_of_ble_eq_true rfl) d_L_holdsAt_9 (fun r hr9 => ?_)
  subst hr9
  refine lv_aload_n hx hb d_L_holdsAt_12 rfl (lv_at hl 0 rfl) ?_
  refine va_get (D := D) (ci := 2) (v := .int fb) (C := R_L) (T := T_L) (N := 7) hx hb hA inA_L hown hK hP 0 rfl rfl 3 (by decide) (hA _ wd_108) (fun _ h9 => h9) rfl d_L_holdsAt_13 ?_
  refine lv_aload_n hx hb d_L_holdsAt_16 rfl (lv_at hl 0 rfl) ?_
  refine va_get (D := D) (ci := 2) (v := .int j) (C := R_L) (T := T_L) (N := 7) hx hb hA inA_L hown hK hP 0 rfl rfl 2 (by decide) (hA _ wd_107) (fun _ h9 => h9) rfl d_L_holdsAt_17 ?_
  refine lv_aload_n hx hb d_L_holdsAt_20 rfl (lv_at hl 1 rfl) ?_
  refine rS (n := 3) (rest := [.int (lprod fa i x)]) hx hb hml hown hA (c_product l D b1 fb j x hj9) wv_L_33 ⟨by decide, by decide, by decide +kernel⟩ ⟨rfl, rfl, by decide, by decide⟩ rfl hl.1 ⟨Nat.le_of_ble_eq_true rfl, Nat.le_of_ble_eq_true rfl⟩ (va_P.sub1 hP [1] rfl) hK (va_D.sub hD [1] (by decide) rfl) hN rfl (Nat.le_of_ble_eq_true rfl) d_L_holdsAt_21 (fun r hr9 => ?_)
  subst hr9
  refine lv_iadd hx hb d_L_holdsAt_24 ?_
  refine lv_aload_n hx hb d_L_holdsAt_25 rfl (lv_at hl 0 rfl) ?_
  refine va_get (D := D) (ci := 2) (v := .int fc) (C := R_L) (T := T_L) (N := 7) hx hb hA inA_L hown hK hP 0 rfl rfl 5 (by decide) (hA _ wd_110) (fun _ h9 => h9) rfl d_L_holdsAt_26 ?_
  refine lv_aload_n hx hb d_L_holdsAt_29 rfl (lv_at hl 0 rfl) ?_
  refine va_get (D := D) (ci := 2) (v := .int v) (C := R_L) (T := T_L) (N := 7) hx hb hA inA_L hown hK hP 0 rfl rfl 4 (by decide) (hA _ wd_109) (fun _ h9 => h9) rfl d_L_holdsAt_30 ?_
  refine lv_aload_n hx hb d_L_holdsAt_33 rfl (lv_at hl 1 rfl) ?_
  refine rS (n := 3) (rest := [.int ((lprod fa i x) + (lprod fb j x))]) hx hb hml hown hA (c_product l D b1 fc v x hv9) wv_L_33 ⟨by decide, by decide, by decide +kernel⟩ ⟨rfl, rfl, by decide, by decide⟩ rfl hl.1 ⟨Nat.le_of_ble_eq_true rfl, Nat.le_of_ble_eq_true rfl⟩ (va_P.sub1 hP [1] rfl) hK (va_D.sub hD [1] (by decide) rfl) hN rfl (Nat.le_of_ble_eq_true rfl) d_L_holdsAt_34 (fun r hr9 => ?_)
  subst hr9
  refine lv_iadd hx hb d_L_holdsAt_37 ?_
  refine lv_aload_n hx hb d_L_holdsAt_38 rfl (lv_at hl 0 rfl) ?_
  refine va_get (D := D) (ci := 2) (v := .int bd) (C := R_L) (T := T_L) (N := 7) hx hb hA inA_L hown hK hP 0 rfl rfl 6 (by decide) (hA _ wd_111) (fun _ h9 => h9) rfl d_L_holdsAt_39 ?_
  refine lv_icmp_gt (tgt := 49) hx hb d_L_holdsAt_42 (by decide) (fun h42 => ?_) (fun h42 => ?_)
  · skip
    refine lv_iconst (v := 0) hx hb d_L_holdsAt_49 (by decide) ?_
    exact eRz hx hb hr hlocks (by first | rfl | decide) (by first | exact zb_f (fun h => h h42)) d_L_holdsAt_50
  · skip
    refine lv_iconst (v := 1) hx hb d_L_holdsAt_45 (by decide) ?_
    refine lv_goto (tgt := 50) hx hb d_L_holdsAt_46 (by decide) ?_
    exact eRz hx hb hr hlocks (by first | rfl | decide) (by first | exact zb_t (h42)) d_L_holdsAt_50
end
end
section
section
set_option maxRecDepth 100000 in
set_option maxHeartbeats 4000000 in
theorem c_Reified (l : Launch) (D : va_G) (o b1 : Nat) (r1 : Int32) (i : Int32) (j : Int32) (c1 : Int32) (x : Nat → Int32) (hr19 : vp_in r1 8) (hi9 : vp_in i 8) (hj9 : vp_in j 8) : Met l y_R_holdsAt (wsm y_R_holdsAt b_R_holdsAt 2 (some .boolean)) { frames := 0, cells := 0, slots := 0, locals := 0 } (va_Pc [.ref o, .ref b1] (cPre D ([(o, .inr (3, [.int r1, .int i, .int j, .int c1])), (b1, .inl (D.1 100, 8, .inl x))]))) (vp_Si (fun r => r = zb (decide (kRei r1 i j c1 x)))) 0 0 (fun _ => False) := by
  refine met_R (by decide) (Nat.le_of_ble_eq_true rfl) ?_
  intro p e s m below meth c ls hx hb hr hlocks hml hown hin hA hP hK hD hN hl
  have hown : s.vm.findClass R_R = some m.cls := hown
  have hl : lv_has ls 2 [(0, .ref o), (1, .ref b1)] := hl
  refine lv_aload_n hx hb d_R_holdsAt_0 rfl (lv_at hl 1 rfl) ?_
  refine lv_aload_n hx hb d_R_holdsAt_1 rfl (lv_at hl 0 rfl) ?_
  refine va_get (D := D) (ci := 3) (v := .int r1) (C := R_R) (T := T_R) (N := 4) hx hb hA inA_R hown hK hP 0 rfl rfl 0 (by decide) (hA _ wd_222) (fun _ h9 => h9) rfl d_R_holdsAt_2 ?_
  refine va_iald hx hb hK hP 1 0 rfl rfl (hr19) d_R_holdsAt_5 ?_
  refine lv_iconst (v := 1) hx hb d_R_holdsAt_6 (by decide) ?_
  refine lv_icmp_lt (tgt := 14) hx hb d_R_holdsAt_7 (by decide) (fun h7 => ?_) (fun h7 => ?_)
  · skip
    refine lv_iconst (v := 0) hx hb d_R_holdsAt_14 (by decide) ?_
    refine lv_aload_n hx hb d_R_holdsAt_15 rfl (lv_at hl 1 rfl) ?_
    refine lv_aload_n hx hb d_R_holdsAt_16 rfl (lv_at hl 0 rfl) ?_
    refine va_get (D := D) (ci := 3) (v := .int i) (C := R_R) (T := T_R) (N := 4) hx hb hA inA_R hown hK hP 0 rfl rfl 1 (by decide) (hA _ wd_223) (fun _ h9 => h9) rfl d_R_holdsAt_17 ?_
    refine va_iald hx hb hK hP 1 0 rfl rfl (hi9) d_R_holdsAt_20 ?_
    refine lv_aload_n hx hb d_R_holdsAt_21 rfl (lv_at hl 1 rfl) ?_
    refine lv_aload_n hx hb d_R_holdsAt_22 rfl (lv_at hl 0 rfl) ?_
    refine va_get (D := D) (ci := 3) (v := .int j) (C := R_R) (T := T_R) (N := 4) hx hb hA inA_R hown hK hP 0 rfl rfl 2 (by decide) (hA _ wd_224) (fun _ h9 => h9) rfl d_R_holdsAt_23 ?_
    refine va_iald hx hb hK hP 1 0 rfl rfl (hj9) d_R_holdsAt_26 ?_
    refine lv_aload_n hx hb d_R_holdsAt_27 rfl (lv_at hl 0 rfl) ?_
    refine va_get (D := D) (ci := 3) (v := .int c1) (C := R_R) (T := T_R) (N := 4) hx hb hA inA_R hown hK hP 0 rfl rfl 3 (by decide) (hA _ wd_225) (fun _ h9 => h9) rfl d_R_holdsAt_28 ?_
    refine lv_iadd hx hb d_R_holdsAt_31 ?_
    refine lv_icmp_gt (tgt := 39) hx hb d_R_holdsAt_32 (by decide) (fun h32 => ?_) (fun h32 => ?_)
    · skip
      refine lv_iconst (v := 0) hx hb d_R_holdsAt_39 (by decide) ?_
      refine lv_icmp_ne (tgt := 47) hx hb d_R_holdsAt_40 (by decide) (fun h => absurd h (by decide)) (fun _ => ?_)
      refine lv_iconst (v := 1) hx hb d_R_holdsAt_43 (by decide) ?_
      refine lv_goto (tgt := 48) hx hb d_R_holdsAt_44 (by decide) ?_
      exact eRz hx hb hr hlocks (by first | rfl | decide) (by first | exact zb_t (⟨fun _ => h32, fun _ => h7⟩) | exact zb_t (⟨fun h => absurd h h7, fun h => absurd h h32⟩)) d_R_holdsAt_48
    · skip
      refine lv_iconst (v := 1) hx hb d_R_holdsAt_35 (by decide) ?_
      refine lv_goto (tgt := 40) hx hb d_R_holdsAt_36 (by decide) ?_
      refine lv_icmp_ne (tgt := 47) hx hb d_R_holdsAt_40 (by decide) (fun _ => ?_) (fun h => absurd h (by decide))
      refine lv_iconst (v := 0) hx hb d_R_holdsAt_47 (by decide) ?_
      exact eRz hx hb hr hlocks (by first | rfl | decide) (by first | exact zb_f (fun h => h32 (h.1 h7)) | exact zb_f (fun h => h7 (h.2 h32))) d_R_holdsAt_48
  · skip
    refine lv_iconst (v := 1) hx hb d_R_holdsAt_10 (by decide) ?_
    refine lv_goto (tgt := 15) hx hb d_R_holdsAt_11 (by decide) ?_
    refine lv_aload_n hx hb d_R_holdsAt_15 rfl (lv_at hl 1 rfl) ?_
    refine lv_aload_n hx hb d_R_holdsAt_16 rfl (lv_at hl 0 rfl) ?_
    refine va_get (D := D) (ci := 3) (v := .int i) (C := R_R) (T := T_R) (N := 4) hx hb hA inA_R hown hK hP 0 rfl rfl 1 (by decide) (hA _ wd_223) (fun _ h9 => h9) rfl d_R_holdsAt_17 ?_
    refine va_iald hx hb hK hP 1 0 rfl rfl (hi9) d_R_holdsAt_20 ?_
    refine lv_aload_n hx hb d_R_holdsAt_21 rfl (lv_at hl 1 rfl) ?_
    refine lv_aload_n hx hb d_R_holdsAt_22 rfl (lv_at hl 0 rfl) ?_
    refine va_get (D := D) (ci := 3) (v := .int j) (C := R_R) (T := T_R) (N := 4) hx hb hA inA_R hown hK hP 0 rfl rfl 2 (by decide) (hA _ wd_224) (fun _ h9 => h9) rfl d_R_holdsAt_23 ?_
    refine va_iald hx hb hK hP 1 0 rfl rfl (hj9) d_R_holdsAt_26 ?_
    refine lv_aload_n hx hb d_R_holdsAt_27 rfl (lv_at hl 0 rfl) ?_
    refine va_get (D := D) (ci := 3) (v := .int c1) (C := R_R) (T := T_R) (N := 4) hx hb hA inA_R hown hK hP 0 rfl rfl 3 (by decide) (hA _ wd_225) (fun _ h9 => h9) rfl d_R_holdsAt_28 ?_
    refine lv_iadd hx hb d_R_holdsAt_31 ?_
    refine lv_icmp_gt (tgt := 39) hx hb d_R_holdsAt_32 (by decide) (fun h32 => ?_) (fun h32 => ?_)
    · skip
      refine lv_iconst (v := 0) hx hb d_R_holdsAt_39 (by decide) ?_
      refine lv_icmp_ne (tgt := 47) hx hb d_R_holdsAt_40 (by decide) (fun _ => ?_) (fun h => absurd h (by decide))
      refine lv_iconst (v := 0) hx hb d_R_holdsAt_47 (by decide) ?_
      exact eRz hx hb hr hlocks (by first | rfl | decide) (by first | exact zb_f (fun h => h32 (h.1 h7)) | exact zb_f (fun h => h7 (h.2 h32))) d_R_holdsAt_48
    · skip
      refine lv_iconst (v := 1) hx hb d_R_holdsAt_35 (by decide) ?_
      refine lv_goto (tgt := 40) hx hb d_R_holdsAt_36 (by decide) ?_
      refine lv_icmp_ne (tgt := 47) hx hb d_R_holdsAt_40 (by decide) (fun h => absurd h (by decide)) (fun _ => ?_)
      refine lv_iconst (v := 1) hx hb d_R_holdsAt_43 (by decide) ?_
      refine lv_goto (tgt := 48) hx hb d_R_holdsAt_44 (by decide) ?_
      exact eRz hx hb hr hlocks (by first | rfl | decide) (by first | exact zb_t (⟨fun _ => h32, fun _ => h7⟩) | exact zb_t (⟨fun h => absurd h h7, fun h => absurd h h32⟩)) d_R_holdsAt_48
end
end
section
section
set_option maxRecDepth 100000 in
set_option maxHeartbeats 4000000 in
theorem c_Maximum (l : Launch) (D : va_G) (o b1 : Nat) (r1 : Int32) (i : Int32) (j : Int32) (v : Int32) (x : Nat → Int32) (hr19 : vp_in r1 8) (hi9 : vp_in i 8) (hj9 : j = -1 ∨ vp_in j 8) (hv9 : v = -1 ∨ vp_in v 8) : Met l y_M_holdsAt (wsm y_M_holdsAt b_M_holdsAt 3 (some .boolean)) { frames := 1, cells := 0, slots := 0, locals := 13 } (va_Pc [.ref o, .ref b1] (cPre D ([(o, .inr (4, [.int r1, .int i, .int j, .int v])), (b1, .inl (D.1 100, 8, .inl x))]))) (vp_Si (fun r => r = zb (decide (kMax r1 i j v x)))) 0 0 (fun _ => False) := by
  refine met_R (by decide) (Nat.le_of_ble_eq_true rfl) ?_
  intro p e s m below meth c ls hx hb hr hlocks hml hown hin hA hP hK hD hN hl
  have hown : s.vm.findClass R_M = some m.cls := hown
  have hl : lv_has ls 3 [(0, .ref o), (1, .ref b1)] := hl
  refine lv_aload_n hx hb d_M_holdsAt_0 rfl (lv_at hl 1 rfl) ?_
  refine lv_aload_n hx hb d_M_holdsAt_1 rfl (lv_at hl 0 rfl) ?_
  refine va_get (D := D) (ci := 4) (v := .int i) (C := R_M) (T := T_M) (N := 4) hx hb hA inA_M hown hK hP 0 rfl rfl 1 (by decide) (hA _ wd_246) (fun _ h9 => h9) rfl d_M_holdsAt_2 ?_
  refine va_iald hx hb hK hP 1 0 rfl rfl (hi9) d_M_holdsAt_5 ?_
  refine lv_istore_n hx hb d_M_holdsAt_6 rfl hl (by decide) rfl (fun ls hl => ?_)
  have hl : lv_has ls 3 [(2, .int (x i.toNatClampNeg)), (0, .ref o), (1, .ref b1)] := hl
  refine lv_aload_n hx hb d_M_holdsAt_7 rfl (lv_at hl 1 rfl) ?_
  refine va_get (D := D) (ci := 4) (v := .int j) (C := R_M) (T := T_M) (N := 4) hx hb hA inA_M hown hK hP 0 rfl rfl 2 (by decide) (hA _ wd_247) (fun _ h9 => h9) rfl d_M_holdsAt_8 ?_
  refine lv_iconst (v := (-1)) hx hb d_M_holdsAt_11 (by decide) ?_
  refine lv_icmp_eq (tgt := 26) hx hb d_M_holdsAt_12 (by decide) (fun h12 => ?_) (fun h12 => ?_)
  · skip
    refine lv_aload_n hx hb d_M_holdsAt_26 rfl (lv_at hl 1 rfl) ?_
    refine va_get (D := D) (ci := 4) (v := .int v) (C := R_M) (T := T_M) (N := 4) hx hb hA inA_M hown hK hP 0 rfl rfl 3 (by decide) (hA _ wd_248) (fun _ h9 => h9) rfl d_M_holdsAt_27 ?_
    refine lv_iconst (v := (-1)) hx hb d_M_holdsAt_30 (by decide) ?_
    refine lv_icmp_eq (tgt := 45) hx hb d_M_holdsAt_31 (by decide) (fun h31 => ?_) (fun h31 => ?_)
    · skip
      refine lv_aload_n hx hb d_M_holdsAt_45 rfl (lv_at hl 2 rfl) ?_
      refine lv_aload_n hx hb d_M_holdsAt_46 rfl (lv_at hl 1 rfl) ?_
      refine va_get (D := D) (ci := 4) (v := .int r1) (C := R_M) (T := T_M) (N := 4) hx hb hA inA_M hown hK hP 0 rfl rfl 0 (by decide) (hA _ wd_245) (fun _ h9 => h9) rfl d_M_holdsAt_47 ?_
      refine va_iald hx hb hK hP 1 0 rfl rfl (hr19) d_M_holdsAt_50 ?_
      refine lv_iload_n hx hb d_M_holdsAt_51 rfl (lv_at hl 0 rfl) ?_
      refine lv_icmp_ne (tgt := 59) hx hb d_M_holdsAt_52 (by decide) (fun h52 => ?_) (fun h52 => ?_)
      · skip
        refine lv_iconst (v := 0) hx hb d_M_holdsAt_59 (by decide) ?_
        exact eRz hx hb hr hlocks (by first | rfl | decide) (by first | exact zb_f (fun h => h52 (by simp only [kMax, mx3, mx2, h12, h31, eq_self, ↓reduceIte] at h; exact h))) d_M_holdsAt_60
      · skip
        refine lv_iconst (v := 1) hx hb d_M_holdsAt_55 (by decide) ?_
        refine lv_goto (tgt := 60) hx hb d_M_holdsAt_56 (by decide) ?_
        exact eRz hx hb hr hlocks (by first | rfl | decide) (by first | exact zb_t (by simp only [kMax, mx3, mx2, h12, h31, eq_self, ↓reduceIte]; exact h52)) d_M_holdsAt_60
    · skip
      refine lv_iload_n hx hb d_M_holdsAt_34 rfl (lv_at hl 0 rfl) ?_
      refine lv_aload_n hx hb d_M_holdsAt_35 rfl (lv_at hl 2 rfl) ?_
      refine lv_aload_n hx hb d_M_holdsAt_36 rfl (lv_at hl 1 rfl) ?_
      refine va_get (D := D) (ci := 4) (v := .int v) (C := R_M) (T := T_M) (N := 4) hx hb hA inA_M hown hK hP 0 rfl rfl 3 (by decide) (hA _ wd_248) (fun _ h9 => h9) rfl d_M_holdsAt_37 ?_
      refine va_iald hx hb hK hP 1 0 rfl rfl (hv9.resolve_left h31) d_M_holdsAt_40 ?_
      refine va_mmax hx hb (hml.trans hl.1.symm) hown (hA _ wm_M_24.1) (hA _ wm_M_24.2.1) (hA _ wm_M_24.2.2.1) (hA _ wm_M_24.2.2.2) (by decide) (by decide) (by decide) (by decide) d_M_holdsAt_41 ?_
      refine lv_istore_n hx hb d_M_holdsAt_44 rfl hl (by decide) rfl (fun ls hl => ?_)
      have hl : lv_has ls 3 [(2, .int (if (x i.toNatClampNeg) < (x v.toNatClampNeg) then (x v.toNatClampNeg) else (x i.toNatClampNeg))), (0, .ref o), (1, .ref b1)] := hl
      refine lv_aload_n hx hb d_M_holdsAt_45 rfl (lv_at hl 2 rfl) ?_
      refine lv_aload_n hx hb d_M_holdsAt_46 rfl (lv_at hl 1 rfl) ?_
      refine va_get (D := D) (ci := 4) (v := .int r1) (C := R_M) (T := T_M) (N := 4) hx hb hA inA_M hown hK hP 0 rfl rfl 0 (by decide) (hA _ wd_245) (fun _ h9 => h9) rfl d_M_holdsAt_47 ?_
      refine va_iald hx hb hK hP 1 0 rfl rfl (hr19) d_M_holdsAt_50 ?_
      refine lv_iload_n hx hb d_M_holdsAt_51 rfl (lv_at hl 0 rfl) ?_
      refine lv_icmp_ne (tgt := 59) hx hb d_M_holdsAt_52 (by decide) (fun h52 => ?_) (fun h52 => ?_)
      · skip
        refine lv_iconst (v := 0) hx hb d_M_holdsAt_59 (by decide) ?_
        exact eRz hx hb hr hlocks (by first | rfl | decide) (by first | exact zb_f (fun h => h52 (by simp only [kMax, mx3, mx2, h12, h31, eq_self, ↓reduceIte] at h; exact h))) d_M_holdsAt_60
      · skip
        refine lv_iconst (v := 1) hx hb d_M_holdsAt_55 (by decide) ?_
        refine lv_goto (tgt := 60) hx hb d_M_holdsAt_56 (by decide) ?_
        exact eRz hx hb hr hlocks (by first | rfl | decide) (by first | exact zb_t (by simp only [kMax, mx3, mx2, h12, h31, eq_self, ↓reduceIte]; exact h52)) d_M_holdsAt_60
  · skip
    refine lv_iload_n hx hb d_M_holdsAt_15 rfl (lv_at hl 0 rfl) ?_
    refine lv_aload_n hx hb d_M_holdsAt_16 rfl (lv_at hl 2 rfl) ?_
    refine lv_aload_n hx hb d_M_holdsAt_17 rfl (lv_at hl 1 rfl) ?_
    refine va_get (D := D) (ci := 4) (v := .int j) (C := R_M) (T := T_M) (N := 4) hx hb hA inA_M hown hK hP 0 rfl rfl 2 (by decide) (hA _ wd_247) (fun _ h9 => h9) rfl d_M_holdsAt_18 ?_
    refine va_iald hx hb hK hP 1 0 rfl rfl (hj9.resolve_left h12) d_M_holdsAt_21 ?_
    refine va_mmax hx hb (hml.trans hl.1.symm) hown (hA _ wm_M_24.1) (hA _ wm_M_24.2.1) (hA _ wm_M_24.2.2.1) (hA _ wm_M_24.2.2.2) (by decide) (by decide) (by decide) (by decide) d_M_holdsAt_22 ?_
    refine lv_istore_n hx hb d_M_holdsAt_25 rfl hl (by decide) rfl (fun ls hl => ?_)
    have hl : lv_has ls 3 [(2, .int (if (x i.toNatClampNeg) < (x j.toNatClampNeg) then (x j.toNatClampNeg) else (x i.toNatClampNeg))), (0, .ref o), (1, .ref b1)] := hl
    refine lv_aload_n hx hb d_M_holdsAt_26 rfl (lv_at hl 1 rfl) ?_
    refine va_get (D := D) (ci := 4) (v := .int v) (C := R_M) (T := T_M) (N := 4) hx hb hA inA_M hown hK hP 0 rfl rfl 3 (by decide) (hA _ wd_248) (fun _ h9 => h9) rfl d_M_holdsAt_27 ?_
    refine lv_iconst (v := (-1)) hx hb d_M_holdsAt_30 (by decide) ?_
    refine lv_icmp_eq (tgt := 45) hx hb d_M_holdsAt_31 (by decide) (fun h31 => ?_) (fun h31 => ?_)
    · skip
      refine lv_aload_n hx hb d_M_holdsAt_45 rfl (lv_at hl 2 rfl) ?_
      refine lv_aload_n hx hb d_M_holdsAt_46 rfl (lv_at hl 1 rfl) ?_
      refine va_get (D := D) (ci := 4) (v := .int r1) (C := R_M) (T := T_M) (N := 4) hx hb hA inA_M hown hK hP 0 rfl rfl 0 (by decide) (hA _ wd_245) (fun _ h9 => h9) rfl d_M_holdsAt_47 ?_
      refine va_iald hx hb hK hP 1 0 rfl rfl (hr19) d_M_holdsAt_50 ?_
      refine lv_iload_n hx hb d_M_holdsAt_51 rfl (lv_at hl 0 rfl) ?_
      refine lv_icmp_ne (tgt := 59) hx hb d_M_holdsAt_52 (by decide) (fun h52 => ?_) (fun h52 => ?_)
      · skip
        refine lv_iconst (v := 0) hx hb d_M_holdsAt_59 (by decide) ?_
        exact eRz hx hb hr hlocks (by first | rfl | decide) (by first | exact zb_f (fun h => h52 (by simp only [kMax, mx3, mx2, h12, h31, eq_self, ↓reduceIte] at h; exact h))) d_M_holdsAt_60
      · skip
        refine lv_iconst (v := 1) hx hb d_M_holdsAt_55 (by decide) ?_
        refine lv_goto (tgt := 60) hx hb d_M_holdsAt_56 (by decide) ?_
        exact eRz hx hb hr hlocks (by first | rfl | decide) (by first | exact zb_t (by simp only [kMax, mx3, mx2, h12, h31, eq_self, ↓reduceIte]; exact h52)) d_M_holdsAt_60
    · skip
      refine lv_iload_n hx hb d_M_holdsAt_34 rfl (lv_at hl 0 rfl) ?_
      refine lv_aload_n hx hb d_M_holdsAt_35 rfl (lv_at hl 2 rfl) ?_
      refine lv_aload_n hx hb d_M_holdsAt_36 rfl (lv_at hl 1 rfl) ?_
      refine va_get (D := D) (ci := 4) (v := .int v) (C := R_M) (T := T_M) (N := 4) hx hb hA inA_M hown hK hP 0 rfl rfl 3 (by decide) (hA _ wd_248) (fun _ h9 => h9) rfl d_M_holdsAt_37 ?_
      refine va_iald hx hb hK hP 1 0 rfl rfl (hv9.resolve_left h31) d_M_holdsAt_40 ?_
      refine va_mmax hx hb (hml.trans hl.1.symm) hown (hA _ wm_M_24.1) (hA _ wm_M_24.2.1) (hA _ wm_M_24.2.2.1) (hA _ wm_M_24.2.2.2) (by decide) (by decide) (by decide) (by decide) d_M_holdsAt_41 ?_
      refine lv_istore_n hx hb d_M_holdsAt_44 rfl hl (by decide) rfl (fun ls hl => ?_)
      have hl : lv_has ls 3 [(2, .int (if (if (x i.toNatClampNeg) < (x j.toNatClampNeg) then (x j.toNatClampNeg) else (x i.toNatClampNeg)) < (x v.toNatClampNeg) then (x v.toNatClampNeg) else (if (x i.toNatClampNeg) < (x j.toNatClampNeg) then (x j.toNatClampNeg) else (x i.toNatClampNeg)))), (0, .ref o), (1, .ref b1)] := hl
      refine lv_aload_n hx hb d_M_holdsAt_45 rfl (lv_at hl 2 rfl) ?_
      refine lv_aload_n hx hb d_M_holdsAt_46 rfl (lv_at hl 1 rfl) ?_
      refine va_get (D := D) (ci := 4) (v := .int r1) (C := R_M) (T := T_M) (N := 4) hx hb hA inA_M hown hK hP 0 rfl rfl 0 (by decide) (hA _ wd_245) (fun _ h9 => h9) rfl d_M_holdsAt_47 ?_
      refine va_iald hx hb hK hP 1 0 rfl rfl (hr19) d_M_holdsAt_50 ?_
      refine lv_iload_n hx hb d_M_holdsAt_51 rfl (lv_at hl 0 rfl) ?_
      refine lv_icmp_ne (tgt := 59) hx hb d_M_holdsAt_52 (by decide) (fun h52 => ?_) (fun h52 => ?_)
      · skip
        refine lv_iconst (v := 0) hx hb d_M_holdsAt_59 (by decide) ?_
        exact eRz hx hb hr hlocks (by first | rfl | decide) (by first | exact zb_f (fun h => h52 (by simp only [kMax, mx3, mx2, h12, h31, eq_self, ↓reduceIte] at h; exact h))) d_M_holdsAt_60
      · skip
        refine lv_iconst (v := 1) hx hb d_M_holdsAt_55 (by decide) ?_
        refine lv_goto (tgt := 60) hx hb d_M_holdsAt_56 (by decide) ?_
        exact eRz hx hb hr hlocks (by first | rfl | decide) (by first | exact zb_t (by simp only [kMax, mx3, mx2, h12, h31, eq_self, ↓reduceIte]; exact h52)) d_M_holdsAt_60
end
end
section
section
set_option maxRecDepth 100000 in
set_option maxHeartbeats 4000000 in
theorem c_Element (l : Launch) (D : va_G) (o b1 : Nat) (r1 : Int32) (i : Int32) (tb : Int64) (x : Nat → Int32) (hr19 : vp_in r1 8) (hi9 : vp_in i 8) : Met l y_E_holdsAt (wsm y_E_holdsAt b_E_holdsAt 2 (some .boolean)) { frames := 0, cells := 0, slots := 0, locals := 0 } (va_Pc [.ref o, .ref b1] (cPre D ([(o, .inr (5, [.int r1, .int i, .long tb])), (b1, .inl (D.1 100, 8, .inl x))]))) (vp_Si (fun r => r = zb (decide (kEle r1 i tb x)))) 0 0 (fun _ => False) := by
  refine met_R (by decide) (Nat.le_of_ble_eq_true rfl) ?_
  intro p e s m below meth c ls hx hb hr hlocks hml hown hin hA hP hK hD hN hl
  have hown : s.vm.findClass R_E = some m.cls := hown
  have hl : lv_has ls 2 [(0, .ref o), (1, .ref b1)] := hl
  refine lv_aload_n hx hb d_E_holdsAt_0 rfl (lv_at hl 1 rfl) ?_
  refine lv_aload_n hx hb d_E_holdsAt_1 rfl (lv_at hl 0 rfl) ?_
  refine va_get (D := D) (ci := 5) (v := .int i) (C := R_E) (T := T_E) (N := 3) hx hb hA inA_E hown hK hP 0 rfl rfl 1 (by decide) (hA _ wd_269) (fun _ h9 => h9) rfl d_E_holdsAt_2 ?_
  refine va_iald hx hb hK hP 1 0 rfl rfl (hi9) d_E_holdsAt_5 ?_
  refine lv_if_lt (tgt := 49) hx hb d_E_holdsAt_6 (by decide) (fun h6 => ?_) (fun h6 => ?_)
  · skip
    refine lv_iconst (v := 0) hx hb d_E_holdsAt_49 (by decide) ?_
    exact eRz hx hb hr hlocks (by first | rfl | decide) (by first | exact zb_f (fun h => h.1 h6) | exact zb_f (fun h => h.2.1 h17) | exact zb_f (fun h => h42 h.2.2)) d_E_holdsAt_50
  · skip
    refine lv_aload_n hx hb d_E_holdsAt_9 rfl (lv_at hl 1 rfl) ?_
    refine lv_aload_n hx hb d_E_holdsAt_10 rfl (lv_at hl 0 rfl) ?_
    refine va_get (D := D) (ci := 5) (v := .int i) (C := R_E) (T := T_E) (N := 3) hx hb hA inA_E hown hK hP 0 rfl rfl 1 (by decide) (hA _ wd_269) (fun _ h9 => h9) rfl d_E_holdsAt_11 ?_
    refine va_iald hx hb hK hP 1 0 rfl rfl (hi9) d_E_holdsAt_14 ?_
    refine lv_bipush (v := 7) hx hb d_E_holdsAt_15 (by decide) ?_
    refine lv_icmp_gt (tgt := 49) hx hb d_E_holdsAt_17 (by decide) (fun h17 => ?_) (fun h17 => ?_)
    · skip
      refine lv_iconst (v := 0) hx hb d_E_holdsAt_49 (by decide) ?_
      exact eRz hx hb hr hlocks (by first | rfl | decide) (by first | exact zb_f (fun h => h.1 h6) | exact zb_f (fun h => h.2.1 h17) | exact zb_f (fun h => h42 h.2.2)) d_E_holdsAt_50
    · skip
      refine lv_aload_n hx hb d_E_holdsAt_20 rfl (lv_at hl 1 rfl) ?_
      refine lv_aload_n hx hb d_E_holdsAt_21 rfl (lv_at hl 0 rfl) ?_
      refine va_get (D := D) (ci := 5) (v := .int r1) (C := R_E) (T := T_E) (N := 3) hx hb hA inA_E hown hK hP 0 rfl rfl 0 (by decide) (hA _ wd_268) (fun _ h9 => h9) rfl d_E_holdsAt_22 ?_
      refine va_iald hx hb hK hP 1 0 rfl rfl (hr19) d_E_holdsAt_25 ?_
      refine lv_aload_n hx hb d_E_holdsAt_26 rfl (lv_at hl 0 rfl) ?_
      refine va_get (D := D) (ci := 5) (v := .long tb) (C := R_E) (T := T_E) (N := 3) hx hb hA inA_E hown hK hP 0 rfl rfl 2 (by decide) (hA _ wd_270) (fun _ h9 => h9) rfl d_E_holdsAt_27 ?_
      refine lv_bipush (v := 8) hx hb d_E_holdsAt_30 (by decide) ?_
      refine lv_aload_n hx hb d_E_holdsAt_32 rfl (lv_at hl 1 rfl) ?_
      refine lv_aload_n hx hb d_E_holdsAt_33 rfl (lv_at hl 0 rfl) ?_
      refine va_get (D := D) (ci := 5) (v := .int i) (C := R_E) (T := T_E) (N := 3) hx hb hA inA_E hown hK hP 0 rfl rfl 1 (by decide) (hA _ wd_269) (fun _ h9 => h9) rfl d_E_holdsAt_34 ?_
      refine va_iald hx hb hK hP 1 0 rfl rfl (hi9) d_E_holdsAt_37 ?_
      refine lv_imul hx hb d_E_holdsAt_38 ?_
      refine lv_lshr (v := tb >>> ((8 * (x i.toNatClampNeg)).toInt64 &&& 63)) hx hb d_E_holdsAt_39 rfl ?_
      refine lv_l2i (v := (tb >>> ((8 * (x i.toNatClampNeg)).toInt64 &&& 63)).toInt32) hx hb d_E_holdsAt_40 rfl ?_
      refine lv_i2b (v := ((tb >>> ((8 * (x i.toNatClampNeg)).toInt64 &&& 63)).toInt32).toInt8.toInt32) hx hb d_E_holdsAt_41 rfl ?_
      refine lv_icmp_ne (tgt := 49) hx hb d_E_holdsAt_42 (by decide) (fun h42 => ?_) (fun h42 => ?_)
      · skip
        refine lv_iconst (v := 0) hx hb d_E_holdsAt_49 (by decide) ?_
        exact eRz hx hb hr hlocks (by first | rfl | decide) (by first | exact zb_f (fun h => h.1 h6) | exact zb_f (fun h => h.2.1 h17) | exact zb_f (fun h => h42 h.2.2)) d_E_holdsAt_50
      · skip
        refine lv_iconst (v := 1) hx hb d_E_holdsAt_45 (by decide) ?_
        refine lv_goto (tgt := 50) hx hb d_E_holdsAt_46 (by decide) ?_
        exact eRz hx hb hr hlocks (by first | rfl | decide) (by first | exact zb_t (⟨h6, h17, h42⟩)) d_E_holdsAt_50
end
end
section
section
set_option maxRecDepth 100000 in
set_option maxHeartbeats 4000000 in
theorem c_Different (l : Launch) (D : va_G) (o b1 : Nat) (t1 : Int32) (x : Nat → Int32) : Met l y_D_holdsAt (wsm y_D_holdsAt b_D_holdsAt 7 (some .boolean)) { frames := 1, cells := 0, slots := 0, locals := 21 } (va_Pc [.ref o, .ref b1] (cPre D ([(o, .inr (6, [.int t1])), (b1, .inl (D.1 100, 8, .inl x))]))) (vp_Si (fun r => r = zb (kDif t1 x 8 0 0))) 0 0 (fun _ => False) := by
  refine met_R (by decide) (Nat.le_of_ble_eq_true rfl) ?_
  intro p e s m below meth c ls hx hb hr hlocks hml hown hin hA hP hK hD hN hl
  have hown : s.vm.findClass R_D = some m.cls := hown
  have hl : lv_has ls 7 [(0, .ref o), (1, .ref b1)] := hl
  refine lv_lconst (v := 0) hx hb d_D_holdsAt_0 (by decide) ?_
  refine lv_lstore_n hx hb d_D_holdsAt_1 rfl hl (by decide) rfl (fun ls hl => ?_)
  have hl : lv_has ls 7 [(2, .long 0), (0, .ref o), (1, .ref b1)] := hl
  refine lv_iconst (v := 0) hx hb d_D_holdsAt_2 (by decide) ?_
  refine lv_istore hx hb d_D_holdsAt_3 hl (by decide) rfl (fun ls hl => ?_)
  have hl : lv_has ls 7 [(4, .int 0), (2, .long 0), (0, .ref o), (1, .ref b1)] := hl
  have loop : ∀ (t i : Nat) (sn : Int64) (ls : Array Slot), i + t = 8 → kDif t1 x t i sn = kDif t1 x 8 0 0 → lv_has ls 7 [(4, .int (nI i)), (2, .long sn), (0, .ref o), (1, .ref b1)] → W p l e { frames := 1, cells := 0, slots := 0, locals := 21 } s m [.ref o, .ref b1].toArray below meth c s.heap [] 0 0 (MQ below (vp_Si (fun r => r = zb (kDif t1 x 8 0 0))) [.ref o, .ref b1].toArray s 0 0 (fun _ => False)) (F0 m 5 ls []) := by
    intro t
    induction t with
    | zero =>
      intro i sn ls hi8 hf hl
      refine lv_iload hx hb d_D_holdsAt_5 (lv_at hl 0 rfl) ?_
      refine lv_bipush (v := 8) hx hb d_D_holdsAt_7 (by decide) ?_
      refine lv_icmp_ge (tgt := 57) hx hb d_D_holdsAt_9 (by decide) (fun h9 => ?_) (fun h => absurd (nI_le (a := 8) (by omega) (by omega)) h)
      refine lv_iconst (v := 1) hx hb d_D_holdsAt_57 (by decide) ?_
      exact eRz hx hb hr hlocks (by first | rfl | decide) (by rw [← hf]; rfl) d_D_holdsAt_58
    | succ t ih =>
      intro i sn ls hi8 hf hl
      refine lv_iload hx hb d_D_holdsAt_5 (lv_at hl 0 rfl) ?_
      refine lv_bipush (v := 8) hx hb d_D_holdsAt_7 (by decide) ?_
      refine lv_icmp_ge (tgt := 57) hx hb d_D_holdsAt_9 (by decide) (fun h => absurd h (nI_ge (b := 8) (by omega) (by decide))) (fun h9 => ?_)
      refine lv_iload hx hb d_D_holdsAt_12 (lv_at hl 0 rfl) ?_
      refine lv_aload_n hx hb d_D_holdsAt_14 rfl (lv_at hl 2 rfl) ?_
      refine va_get (D := D) (ci := 6) (v := .int t1) (C := R_D) (T := T_D) (N := 1) hx hb hA inA_D hown hK hP 0 rfl rfl 0 (by decide) (hA _ wd_292) (fun _ h9 => h9) rfl d_D_holdsAt_15 ?_
      refine rSN (n := 2) (rest := []) hx hb hml hown hA (c_isIn l D (nI i) t1) hN.1.2.2.2.1 wv_D_15 ⟨by decide, by decide, by decide +kernel⟩ ⟨rfl, rfl, by decide, by decide⟩ rfl hl.1 ⟨Nat.le_of_ble_eq_true rfl, Nat.le_of_ble_eq_true rfl⟩ (va_P.sub1 hP [] rfl) hK (va_D.sub hD [] rfl rfl) hN rfl (Nat.le_of_ble_eq_true rfl) d_D_holdsAt_18 (fun r hr9 => ?_)
      rcases zb_c hr9 with ⟨rfl, h18⟩ | ⟨rfl, h18⟩
      · skip
        refine lv_if_eq (tgt := 51) hx hb d_D_holdsAt_21 (by decide) (fun h => absurd h (by decide)) (fun _ => ?_)
        refine lv_lconst (v := 1) hx hb d_D_holdsAt_24 (by decide) ?_
        refine lv_aload_n hx hb d_D_holdsAt_25 rfl (lv_at hl 3 rfl) ?_
        refine lv_iload hx hb d_D_holdsAt_26 (lv_at hl 0 rfl) ?_
        refine xi_ald hx hb hK hP 1 rfl (by omega) (by decide) d_D_holdsAt_28 ?_
        refine lv_bipush (v := (-20)) hx hb d_D_holdsAt_29 (by decide) ?_
        refine lv_isub hx hb d_D_holdsAt_31 ?_
        refine lv_lshl (v := 1 <<< (((x i) - (-20)).toInt64 &&& 63)) hx hb d_D_holdsAt_32 rfl ?_
        refine lv_lstore hx hb d_D_holdsAt_33 hl (by decide) rfl (fun ls hl => ?_)
        have hl : lv_has ls 7 [(5, .long (1 <<< (((x i) - (-20)).toInt64 &&& 63))), (4, .int (nI i)), (2, .long sn), (0, .ref o), (1, .ref b1)] := hl
        refine lv_lload_n hx hb d_D_holdsAt_35 rfl (lv_at hl 2 rfl) ?_
        refine lv_lload hx hb d_D_holdsAt_36 (lv_at hl 0 rfl) ?_
        refine lv_land hx hb d_D_holdsAt_38 ?_
        refine lv_lconst (v := 0) hx hb d_D_holdsAt_39 (by decide) ?_
        refine W.lcmp hx hb d_D_holdsAt_40 ?_
        refine lv_if_eq (tgt := 46) hx hb d_D_holdsAt_41 (by decide) (fun h41 => ?_) (fun h41 => ?_)
        · skip
          refine lv_lload_n hx hb d_D_holdsAt_46 rfl (lv_at hl 2 rfl) ?_
          refine lv_lload hx hb d_D_holdsAt_47 (lv_at hl 0 rfl) ?_
          refine lv_lor hx hb d_D_holdsAt_49 ?_
          refine lv_lstore_n hx hb d_D_holdsAt_50 rfl hl (by decide) rfl (fun ls hl => ?_)
          have hl : lv_has ls 7 [(2, .long (sn ||| (1 <<< (((x i) - (-20)).toInt64 &&& 63)))), (5, .long (1 <<< (((x i) - (-20)).toInt64 &&& 63))), (4, .int (nI i)), (0, .ref o), (1, .ref b1)] := hl
          refine lv_iinc (v := nI (i + 1)) hx hb d_D_holdsAt_51 hl (k := 2) rfl (by rw [nI_succ]; rfl) (by decide) rfl (fun ls hl => ?_)
          have hl : lv_has ls 7 [(4, .int (nI (i + 1))), (2, .long (sn ||| (1 <<< (((x i) - (-20)).toInt64 &&& 63)))), (5, .long (1 <<< (((x i) - (-20)).toInt64 &&& 63))), (0, .ref o), (1, .ref b1)] := hl
          refine lv_goto (tgt := 5) hx hb d_D_holdsAt_54 (by decide) ?_
          exact ih (i + 1) _ _ (by omega) (by rw [← hf]; simp only [kDif]; first | rw [if_neg h18] | rw [if_pos h18, if_pos (lg_cmp_z.mp h41)]) (lv_sub hl [0, 1, 3, 4] rfl)
        · skip
          refine lv_iconst (v := 0) hx hb d_D_holdsAt_44 (by decide) ?_
          exact eRz hx hb hr hlocks (by first | rfl | decide) (by rw [← hf]; simp only [kDif]; rw [if_pos h18, if_neg (fun h => h41 (lg_cmp_z.mpr h))]; rfl) d_D_holdsAt_45
      · skip
        refine lv_if_eq (tgt := 51) hx hb d_D_holdsAt_21 (by decide) (fun _ => ?_) (fun h => absurd h (by decide))
        refine lv_iinc (v := nI (i + 1)) hx hb d_D_holdsAt_51 hl (k := 0) rfl (by rw [nI_succ]; rfl) (by decide) rfl (fun ls hl => ?_)
        have hl : lv_has ls 7 [(4, .int (nI (i + 1))), (2, .long sn), (0, .ref o), (1, .ref b1)] := hl
        refine lv_goto (tgt := 5) hx hb d_D_holdsAt_54 (by decide) ?_
        exact ih (i + 1) _ _ (by omega) (by rw [← hf]; simp only [kDif]; first | rw [if_neg h18] | rw [if_pos h18, if_pos (lg_cmp_z.mp h41)]) (lv_sub hl [0, 1, 2, 3] rfl)
  exact loop 8 0 0 _ (by omega) rfl (lv_sub hl [0, 1, 2, 3] rfl)
end
end
section
section
set_option maxRecDepth 100000 in
set_option maxHeartbeats 4000000 in
theorem c_fourBits (l : Launch) (D : va_G) (row : Int64) (i : Int32) : Met l y_U_fourBits (wsm y_U_fourBits b_U_fourBits 3 (some .int)) { frames := 0, cells := 0, slots := 0, locals := 0 } (va_Pc [.long row, .int i] (cPre D ([]))) (vp_Si (fun r => r = fbs row i)) 0 0 (fun _ => False) := by
  refine met_R (by decide) (Nat.le_of_ble_eq_true rfl) ?_
  intro p e s m below meth c ls hx hb hr hlocks hml hown hin hA hP hK hD hN hl
  have hown : s.vm.findClass R_U = some m.cls := hown
  have hl : lv_has ls 3 [(0, .long row), (2, .int i)] := hl
  refine lv_lload_n hx hb d_U_fourBits_0 rfl (lv_at hl 0 rfl) ?_
  refine lv_iconst (v := 4) hx hb d_U_fourBits_1 (by decide) ?_
  refine lv_iload_n hx hb d_U_fourBits_2 rfl (lv_at hl 1 rfl) ?_
  refine lv_imul hx hb d_U_fourBits_3 ?_
  refine lv_lshr (v := row >>> ((4 * i).toInt64 &&& 63)) hx hb d_U_fourBits_4 rfl ?_
  refine lv_l2i (v := (row >>> ((4 * i).toInt64 &&& 63)).toInt32) hx hb d_U_fourBits_5 rfl ?_
  refine lv_bipush (v := 15) hx hb d_U_fourBits_6 (by decide) ?_
  refine lv_iand hx hb d_U_fourBits_8 ?_
  exact eR hx hb hr hlocks rfl d_U_fourBits_9
end
end
section
section
set_option maxRecDepth 100000 in
set_option maxHeartbeats 4000000 in
theorem c_needAt (l : Launch) (D : va_G) (o b1 : Nat) (t1 : Int32) (du : Int64) (ne : Int64) (cp : Int32) (mo : Int32) (x : Nat → Int32) : Met l y_U_needAt (wsm y_U_needAt b_U_needAt 5 (some .int)) { frames := 1, cells := 0, slots := 0, locals := 22 } (va_Pc [.ref o, .int mo, .ref b1] (cPre D ([(o, .inr (7, [.int t1, .long du, .long ne, .int cp])), (b1, .inl (D.1 100, 8, .inl x))]))) (vp_Si (fun r => r = cumN t1 du ne mo x 8 0 0)) 0 0 (fun _ => False) := by
  refine met_R (by decide) (Nat.le_of_ble_eq_true rfl) ?_
  intro p e s m below meth c ls hx hb hr hlocks hml hown hin hA hP hK hD hN hl
  have hown : s.vm.findClass R_U = some m.cls := hown
  have hl : lv_has ls 5 [(0, .ref o), (1, .int mo), (2, .ref b1)] := hl
  refine lv_iconst (v := 0) hx hb d_U_needAt_0 (by decide) ?_
  refine lv_istore_n hx hb d_U_needAt_1 rfl hl (by decide) rfl (fun ls hl => ?_)
  have hl : lv_has ls 5 [(3, .int 0), (0, .ref o), (1, .int mo), (2, .ref b1)] := hl
  refine lv_iconst (v := 0) hx hb d_U_needAt_2 (by decide) ?_
  refine lv_istore hx hb d_U_needAt_3 hl (by decide) rfl (fun ls hl => ?_)
  have hl : lv_has ls 5 [(4, .int 0), (3, .int 0), (0, .ref o), (1, .int mo), (2, .ref b1)] := hl
  have loop : ∀ (t i : Nat) (nd : Int32) (ls : Array Slot), i + t = 8 → cumN t1 du ne mo x t i nd = cumN t1 du ne mo x 8 0 0 → lv_has ls 5 [(4, .int (nI i)), (3, .int nd), (0, .ref o), (1, .int mo), (2, .ref b1)] → W p l e { frames := 1, cells := 0, slots := 0, locals := 22 } s m [.ref o, .int mo, .ref b1].toArray below meth c s.heap [] 0 0 (MQ below (vp_Si (fun r => r = cumN t1 du ne mo x 8 0 0)) [.ref o, .int mo, .ref b1].toArray s 0 0 (fun _ => False)) (F0 m 5 ls []) := by
    intro t
    induction t with
    | zero =>
      intro i nd ls hi8 hf hl
      refine lv_iload hx hb d_U_needAt_5 (lv_at hl 0 rfl) ?_
      refine lv_bipush (v := 8) hx hb d_U_needAt_7 (by decide) ?_
      refine lv_icmp_ge (tgt := 68) hx hb d_U_needAt_9 (by decide) (fun h9 => ?_) (fun h => absurd (nI_le (a := 8) (by omega) (by omega)) h)
      refine lv_iload_n hx hb d_U_needAt_68 rfl (lv_at hl 1 rfl) ?_
      exact eR hx hb hr hlocks (by rw [← hf]; rfl) d_U_needAt_69
    | succ t ih =>
      intro i nd ls hi8 hf hl
      refine lv_iload hx hb d_U_needAt_5 (lv_at hl 0 rfl) ?_
      refine lv_bipush (v := 8) hx hb d_U_needAt_7 (by decide) ?_
      refine lv_icmp_ge (tgt := 68) hx hb d_U_needAt_9 (by decide) (fun h => absurd h (nI_ge (b := 8) (by omega) (by decide))) (fun h9 => ?_)
      refine lv_iload hx hb d_U_needAt_12 (lv_at hl 0 rfl) ?_
      refine lv_aload_n hx hb d_U_needAt_14 rfl (lv_at hl 2 rfl) ?_
      refine va_get (D := D) (ci := 7) (v := .int t1) (C := R_U) (T := T_U) (N := 4) hx hb hA inA_U hown hK hP 0 rfl rfl 0 (by decide) (hA _ wd_305) (fun _ h9 => h9) rfl d_U_needAt_15 ?_
      refine rSN (n := 2) (rest := []) hx hb hml hown hA (c_isIn l D (nI i) t1) hN.1.2.2.1 wv_U_25 ⟨by decide, by decide, by decide +kernel⟩ ⟨rfl, rfl, by decide, by decide⟩ rfl hl.1 ⟨Nat.le_of_ble_eq_true rfl, Nat.le_of_ble_eq_true rfl⟩ (va_P.sub1 hP [] rfl) hK (va_D.sub hD [] rfl rfl) hN rfl (Nat.le_of_ble_eq_true rfl) d_U_needAt_18 (fun r hr9 => ?_)
      rcases zb_c hr9 with ⟨rfl, h18⟩ | ⟨rfl, h18⟩
      · skip
        refine lv_if_eq (tgt := 62) hx hb d_U_needAt_21 (by decide) (fun h => absurd h (by decide)) (fun _ => ?_)
        refine lv_aload_n hx hb d_U_needAt_24 rfl (lv_at hl 4 rfl) ?_
        refine lv_iload hx hb d_U_needAt_25 (lv_at hl 0 rfl) ?_
        refine xi_ald hx hb hK hP 1 rfl (by omega) (by decide) d_U_needAt_27 ?_
        refine lv_iload_n hx hb d_U_needAt_28 rfl (lv_at hl 3 rfl) ?_
        refine lv_icmp_gt (tgt := 62) hx hb d_U_needAt_29 (by decide) (fun h29 => ?_) (fun h29 => ?_)
        · skip
          refine lv_iinc (v := nI (i + 1)) hx hb d_U_needAt_62 hl (k := 0) rfl (by rw [nI_succ]; rfl) (by decide) rfl (fun ls hl => ?_)
          have hl : lv_has ls 5 [(4, .int (nI (i + 1))), (3, .int nd), (0, .ref o), (1, .int mo), (2, .ref b1)] := hl
          refine lv_goto (tgt := 5) hx hb d_U_needAt_65 (by decide) ?_
          exact ih (i + 1) _ _ (by omega) ((cumN_no (fun h => h.2.1 h29)).symm.trans hf) (lv_sub hl [0, 1, 2, 3, 4] rfl)
        · skip
          refine lv_iload_n hx hb d_U_needAt_32 rfl (lv_at hl 3 rfl) ?_
          refine lv_aload_n hx hb d_U_needAt_33 rfl (lv_at hl 4 rfl) ?_
          refine lv_iload hx hb d_U_needAt_34 (lv_at hl 0 rfl) ?_
          refine xi_ald hx hb hK hP 1 rfl (by omega) (by decide) d_U_needAt_36 ?_
          refine lv_aload_n hx hb d_U_needAt_37 rfl (lv_at hl 2 rfl) ?_
          refine va_get (D := D) (ci := 7) (v := .long du) (C := R_U) (T := T_U) (N := 4) hx hb hA inA_U hown hK hP 0 rfl rfl 1 (by decide) (hA _ wd_306) (fun _ h9 => h9) rfl d_U_needAt_38 ?_
          refine lv_iload hx hb d_U_needAt_41 (lv_at hl 0 rfl) ?_
          refine rS (n := 2) (rest := [.int (x i), .int mo]) hx hb hml hown hA (c_fourBits l D du (nI i)) wv_U_33 ⟨by decide, by decide, by decide +kernel⟩ ⟨rfl, rfl, by decide, by decide⟩ rfl hl.1 ⟨Nat.le_of_ble_eq_true rfl, Nat.le_of_ble_eq_true rfl⟩ (va_P.sub1 hP [] rfl) hK (va_D.sub hD [] rfl rfl) hN rfl (Nat.le_of_ble_eq_true rfl) d_U_needAt_43 (fun r hr9 => ?_)
          subst hr9
          refine lv_iadd hx hb d_U_needAt_46 ?_
          refine lv_icmp_ge (tgt := 62) hx hb d_U_needAt_47 (by decide) (fun h47 => ?_) (fun h47 => ?_)
          · skip
            refine lv_iinc (v := nI (i + 1)) hx hb d_U_needAt_62 hl (k := 0) rfl (by rw [nI_succ]; rfl) (by decide) rfl (fun ls hl => ?_)
            have hl : lv_has ls 5 [(4, .int (nI (i + 1))), (3, .int nd), (0, .ref o), (1, .int mo), (2, .ref b1)] := hl
            refine lv_goto (tgt := 5) hx hb d_U_needAt_65 (by decide) ?_
            exact ih (i + 1) _ _ (by omega) ((cumN_no (fun h => h.2.2 h47)).symm.trans hf) (lv_sub hl [0, 1, 2, 3, 4] rfl)
          · skip
            refine lv_iload_n hx hb d_U_needAt_50 rfl (lv_at hl 1 rfl) ?_
            refine lv_aload_n hx hb d_U_needAt_51 rfl (lv_at hl 2 rfl) ?_
            refine va_get (D := D) (ci := 7) (v := .long ne) (C := R_U) (T := T_U) (N := 4) hx hb hA inA_U hown hK hP 0 rfl rfl 2 (by decide) (hA _ wd_307) (fun _ h9 => h9) rfl d_U_needAt_52 ?_
            refine lv_iload hx hb d_U_needAt_55 (lv_at hl 0 rfl) ?_
            refine rS (n := 2) (rest := [.int nd]) hx hb hml hown hA (c_fourBits l D ne (nI i)) wv_U_33 ⟨by decide, by decide, by decide +kernel⟩ ⟨rfl, rfl, by decide, by decide⟩ rfl hl.1 ⟨Nat.le_of_ble_eq_true rfl, Nat.le_of_ble_eq_true rfl⟩ (va_P.sub1 hP [] rfl) hK (va_D.sub hD [] rfl rfl) hN rfl (Nat.le_of_ble_eq_true rfl) d_U_needAt_57 (fun r hr9 => ?_)
            subst hr9
            refine lv_iadd hx hb d_U_needAt_60 ?_
            refine lv_istore_n hx hb d_U_needAt_61 rfl hl (by decide) rfl (fun ls hl => ?_)
            have hl : lv_has ls 5 [(3, .int (nd + (fbs ne (nI i)))), (4, .int (nI i)), (0, .ref o), (1, .int mo), (2, .ref b1)] := hl
            refine lv_iinc (v := nI (i + 1)) hx hb d_U_needAt_62 hl (k := 1) rfl (by rw [nI_succ]; rfl) (by decide) rfl (fun ls hl => ?_)
            have hl : lv_has ls 5 [(4, .int (nI (i + 1))), (3, .int (nd + (fbs ne (nI i)))), (0, .ref o), (1, .int mo), (2, .ref b1)] := hl
            refine lv_goto (tgt := 5) hx hb d_U_needAt_65 (by decide) ?_
            exact ih (i + 1) _ _ (by omega) ((cumN_go ⟨h18, h29, h47⟩).symm.trans hf) (lv_sub hl [0, 1, 2, 3, 4] rfl)
      · skip
        refine lv_if_eq (tgt := 62) hx hb d_U_needAt_21 (by decide) (fun _ => ?_) (fun h => absurd h (by decide))
        refine lv_iinc (v := nI (i + 1)) hx hb d_U_needAt_62 hl (k := 0) rfl (by rw [nI_succ]; rfl) (by decide) rfl (fun ls hl => ?_)
        have hl : lv_has ls 5 [(4, .int (nI (i + 1))), (3, .int nd), (0, .ref o), (1, .int mo), (2, .ref b1)] := hl
        refine lv_goto (tgt := 5) hx hb d_U_needAt_65 (by decide) ?_
        exact ih (i + 1) _ _ (by omega) ((cumN_no (fun h => h18 h.1)).symm.trans hf) (lv_sub hl [0, 1, 2, 3, 4] rfl)
  exact loop 8 0 0 _ (by omega) rfl (lv_sub hl [0, 1, 2, 3, 4] rfl)
end
end
section
section
set_option maxRecDepth 100000 in
set_option maxHeartbeats 4000000 in
theorem c_Cumulative (l : Launch) (D : va_G) (o b1 : Nat) (t1 : Int32) (du : Int64) (ne : Int64) (cp : Int32) (x : Nat → Int32) : Met l y_U_holdsAt (wsm y_U_holdsAt b_U_holdsAt 3 (some .boolean)) { frames := 2, cells := 0, slots := 0, locals := 46 } (va_Pc [.ref o, .ref b1] (cPre D ([(o, .inr (7, [.int t1, .long du, .long ne, .int cp])), (b1, .inl (D.1 100, 8, .inl x))]))) (vp_Si (fun r => r = zb (kCum t1 du ne cp x 8 0))) 0 0 (fun _ => False) := by
  refine met_R (by decide) (Nat.le_of_ble_eq_true rfl) ?_
  intro p e s m below meth c ls hx hb hr hlocks hml hown hin hA hP hK hD hN hl
  have hown : s.vm.findClass R_U = some m.cls := hown
  have hl : lv_has ls 3 [(0, .ref o), (1, .ref b1)] := hl
  refine lv_iconst (v := 0) hx hb d_U_holdsAt_0 (by decide) ?_
  refine lv_istore_n hx hb d_U_holdsAt_1 rfl hl (by decide) rfl (fun ls hl => ?_)
  have hl : lv_has ls 3 [(2, .int 0), (0, .ref o), (1, .ref b1)] := hl
  have loop : ∀ (t i : Nat) (ls : Array Slot), i + t = 8 → kCum t1 du ne cp x t i = kCum t1 du ne cp x 8 0 → lv_has ls 3 [(2, .int (nI i)), (0, .ref o), (1, .ref b1)] → W p l e { frames := 2, cells := 0, slots := 0, locals := 46 } s m [.ref o, .ref b1].toArray below meth c s.heap [] 0 0 (MQ below (vp_Si (fun r => r = zb (kCum t1 du ne cp x 8 0))) [.ref o, .ref b1].toArray s 0 0 (fun _ => False)) (F0 m 2 ls []) := by
    intro t
    induction t with
    | zero =>
      intro i ls hi8 hf hl
      refine lv_iload_n hx hb d_U_holdsAt_2 rfl (lv_at hl 0 rfl) ?_
      refine lv_bipush (v := 8) hx hb d_U_holdsAt_3 (by decide) ?_
      refine lv_icmp_ge (tgt := 42) hx hb d_U_holdsAt_5 (by decide) (fun h5 => ?_) (fun h => absurd (nI_le (a := 8) (by omega) (by omega)) h)
      refine lv_iconst (v := 1) hx hb d_U_holdsAt_42 (by decide) ?_
      exact eRz hx hb hr hlocks (by first | rfl | decide) (by rw [← hf]; rfl) d_U_holdsAt_43
    | succ t ih =>
      intro i ls hi8 hf hl
      refine lv_iload_n hx hb d_U_holdsAt_2 rfl (lv_at hl 0 rfl) ?_
      refine lv_bipush (v := 8) hx hb d_U_holdsAt_3 (by decide) ?_
      refine lv_icmp_ge (tgt := 42) hx hb d_U_holdsAt_5 (by decide) (fun h => absurd h (nI_ge (b := 8) (by omega) (by decide))) (fun h5 => ?_)
      refine lv_iload_n hx hb d_U_holdsAt_8 rfl (lv_at hl 0 rfl) ?_
      refine lv_aload_n hx hb d_U_holdsAt_9 rfl (lv_at hl 1 rfl) ?_
      refine va_get (D := D) (ci := 7) (v := .int t1) (C := R_U) (T := T_U) (N := 4) hx hb hA inA_U hown hK hP 0 rfl rfl 0 (by decide) (hA _ wd_305) (fun _ h9 => h9) rfl d_U_holdsAt_10 ?_
      refine rSN (n := 2) (rest := []) hx hb hml hown hA (c_isIn l D (nI i) t1) hN.1.2.2.1 wv_U_25 ⟨by decide, by decide, by decide +kernel⟩ ⟨rfl, rfl, by decide, by decide⟩ rfl hl.1 ⟨Nat.le_of_ble_eq_true rfl, Nat.le_of_ble_eq_true rfl⟩ (va_P.sub1 hP [] rfl) hK (va_D.sub hD [] rfl rfl) hN rfl (Nat.le_of_ble_eq_true rfl) d_U_holdsAt_13 (fun r hr9 => ?_)
      rcases zb_c hr9 with ⟨rfl, h13⟩ | ⟨rfl, h13⟩
      · skip
        refine lv_if_eq (tgt := 36) hx hb d_U_holdsAt_16 (by decide) (fun h => absurd h (by decide)) (fun _ => ?_)
        refine lv_aload_n hx hb d_U_holdsAt_19 rfl (lv_at hl 1 rfl) ?_
        refine lv_aload_n hx hb d_U_holdsAt_20 rfl (lv_at hl 2 rfl) ?_
        refine lv_iload_n hx hb d_U_holdsAt_21 rfl (lv_at hl 0 rfl) ?_
        refine xi_ald hx hb hK hP 1 rfl (by omega) (by decide) d_U_holdsAt_22 ?_
        refine lv_aload_n hx hb d_U_holdsAt_23 rfl (lv_at hl 2 rfl) ?_
        refine rV (n := 2) (rest := []) hx hb hml hown hA (c_needAt l D o b1 t1 du ne cp (x i) x) wv_U_29 ⟨by decide, by decide, by decide +kernel⟩ ⟨rfl, rfl, by decide, by decide⟩ rfl hl.1 ⟨Nat.le_of_ble_eq_true rfl, Nat.le_of_ble_eq_true rfl⟩ hP hK hD hN 0 7 rfl rfl rfl (Nat.le_of_ble_eq_true rfl) d_U_holdsAt_24 (fun r hr9 => ?_)
        subst hr9
        refine lv_aload_n hx hb d_U_holdsAt_27 rfl (lv_at hl 1 rfl) ?_
        refine va_get (D := D) (ci := 7) (v := .int cp) (C := R_U) (T := T_U) (N := 4) hx hb hA inA_U hown hK hP 0 rfl rfl 3 (by decide) (hA _ wd_308) (fun _ h9 => h9) rfl d_U_holdsAt_28 ?_
        refine lv_icmp_le (tgt := 36) hx hb d_U_holdsAt_31 (by decide) (fun h31 => ?_) (fun h31 => ?_)
        · skip
          refine lv_iinc (v := nI (i + 1)) hx hb d_U_holdsAt_36 hl (k := 0) rfl (by rw [nI_succ]; rfl) (by decide) rfl (fun ls hl => ?_)
          have hl : lv_has ls 3 [(2, .int (nI (i + 1))), (0, .ref o), (1, .ref b1)] := hl
          refine lv_goto (tgt := 2) hx hb d_U_holdsAt_39 (by decide) ?_
          exact ih (i + 1) _ (by omega) ((kCum_no (fun h => h.2 h31)).symm.trans hf) (lv_sub hl [0, 1, 2] rfl)
        · skip
          refine lv_iconst (v := 0) hx hb d_U_holdsAt_34 (by decide) ?_
          exact eRz hx hb hr hlocks (by first | rfl | decide) (by rw [← hf, kCum_hit ⟨h13, h31⟩]; rfl) d_U_holdsAt_35
      · skip
        refine lv_if_eq (tgt := 36) hx hb d_U_holdsAt_16 (by decide) (fun _ => ?_) (fun h => absurd h (by decide))
        refine lv_iinc (v := nI (i + 1)) hx hb d_U_holdsAt_36 hl (k := 0) rfl (by rw [nI_succ]; rfl) (by decide) rfl (fun ls hl => ?_)
        have hl : lv_has ls 3 [(2, .int (nI (i + 1))), (0, .ref o), (1, .ref b1)] := hl
        refine lv_goto (tgt := 2) hx hb d_U_holdsAt_39 (by decide) ?_
        exact ih (i + 1) _ (by omega) ((kCum_no (fun h => h13 h.1)).symm.trans hf) (lv_sub hl [0, 1, 2] rfl)
  exact loop 8 0 _ (by omega) rfl (lv_sub hl [0, 1, 2] rfl)
end
end
section
section
set_option maxRecDepth 100000 in
set_option maxHeartbeats 4000000 in
theorem c_partHolds (l : Launch) (D : va_G) (o b1 : Nat) (i : Int32) (w1 : Int32) (j : Int32) (w2 : Int32) (v : Int32) (w3 : Int32) (how : Int32) (n1 nu pa : Int32) (x : Nat → Int32) (h19 : n1 = -1 ∨ vp_in n1 8) : Met l y_C_partHolds (wsm y_C_partHolds b_C_partHolds 5 (some .boolean)) { frames := 1, cells := 0, slots := 0, locals := 21 } (va_Pc [.ref o, .int n1, .int nu, .int pa, .ref b1] (cPre D ([(o, .inr (8, [.int i, .int w1, .int j, .int w2, .int v, .int w3, .int how])), (b1, .inl (D.1 100, 8, .inl x))]))) (vp_Si (fun r => r = zb (decide (clP n1 nu pa how x)))) 0 0 (fun _ => False) := by
  refine met_R (by decide) (Nat.le_of_ble_eq_true rfl) ?_
  intro p e s m below meth c ls hx hb hr hlocks hml hown hin hA hP hK hD hN hl
  have hown : s.vm.findClass R_C = some m.cls := hown
  have hl : lv_has ls 5 [(0, .ref o), (1, .int n1), (2, .int nu), (3, .int pa), (4, .ref b1)] := hl
  refine lv_iload_n hx hb d_C_partHolds_0 rfl (lv_at hl 1 rfl) ?_
  refine lv_iconst (v := (-1)) hx hb d_C_partHolds_1 (by decide) ?_
  refine lv_icmp_ne (tgt := 7) hx hb d_C_partHolds_2 (by decide) (fun h2 => ?_) (fun h2 => ?_)
  · skip
    refine lv_iload_n hx hb d_C_partHolds_7 rfl (lv_at hl 3 rfl) ?_
    refine lv_aload_n hx hb d_C_partHolds_8 rfl (lv_at hl 0 rfl) ?_
    refine va_get (D := D) (ci := 8) (v := .int how) (C := R_C) (T := T_C) (N := 7) hx hb hA inA_C hown hK hP 0 rfl rfl 6 (by decide) (hA _ wd_333) (fun _ h9 => h9) rfl d_C_partHolds_9 ?_
    refine rSN (n := 2) (rest := []) hx hb hml hown hA (c_isIn l D pa how) hN.1.2.1 wv_C_37 ⟨by decide, by decide, by decide +kernel⟩ ⟨rfl, rfl, by decide, by decide⟩ rfl hl.1 ⟨Nat.le_of_ble_eq_true rfl, Nat.le_of_ble_eq_true rfl⟩ (va_P.sub1 hP [] rfl) hK (va_D.sub hD [] rfl rfl) hN rfl (Nat.le_of_ble_eq_true rfl) d_C_partHolds_12 (fun r hr9 => ?_)
    rcases zb_c hr9 with ⟨rfl, h12⟩ | ⟨rfl, h12⟩
    · skip
      refine lv_if_eq (tgt := 34) hx hb d_C_partHolds_15 (by decide) (fun h => absurd h (by decide)) (fun _ => ?_)
      refine lv_aload hx hb d_C_partHolds_18 (lv_at hl 4 rfl) ?_
      refine lv_iload_n hx hb d_C_partHolds_20 rfl (lv_at hl 1 rfl) ?_
      refine va_iald hx hb hK hP 1 0 rfl rfl (h19.resolve_left h2) d_C_partHolds_21 ?_
      refine lv_iload_n hx hb d_C_partHolds_22 rfl (lv_at hl 2 rfl) ?_
      refine lv_icmp_lt (tgt := 30) hx hb d_C_partHolds_23 (by decide) (fun h23 => ?_) (fun h23 => ?_)
      · skip
        refine lv_iconst (v := 0) hx hb d_C_partHolds_30 (by decide) ?_
        refine lv_goto (tgt := 47) hx hb d_C_partHolds_31 (by decide) ?_
        exact eRz hx hb hr hlocks (by first | rfl | decide) (by first | exact zb_f (fun h => h.1 h2) | exact zb_f (fun h => by have h5 := h.2; rw [if_pos h12] at h5; exact h5 h23) | exact zb_f (fun h => by have h5 := h.2; rw [if_neg h12] at h5; exact h5 h39)) d_C_partHolds_47
      · skip
        refine lv_iconst (v := 1) hx hb d_C_partHolds_26 (by decide) ?_
        refine lv_goto (tgt := 47) hx hb d_C_partHolds_27 (by decide) ?_
        exact eRz hx hb hr hlocks (by first | rfl | decide) (by first | exact zb_t (⟨h2, by rw [if_pos h12]; exact h23⟩) | exact zb_t (⟨h2, by rw [if_neg h12]; exact h39⟩)) d_C_partHolds_47
    · skip
      refine lv_if_eq (tgt := 34) hx hb d_C_partHolds_15 (by decide) (fun _ => ?_) (fun h => absurd h (by decide))
      refine lv_aload hx hb d_C_partHolds_34 (lv_at hl 4 rfl) ?_
      refine lv_iload_n hx hb d_C_partHolds_36 rfl (lv_at hl 1 rfl) ?_
      refine va_iald hx hb hK hP 1 0 rfl rfl (h19.resolve_left h2) d_C_partHolds_37 ?_
      refine lv_iload_n hx hb d_C_partHolds_38 rfl (lv_at hl 2 rfl) ?_
      refine lv_icmp_gt (tgt := 46) hx hb d_C_partHolds_39 (by decide) (fun h39 => ?_) (fun h39 => ?_)
      · skip
        refine lv_iconst (v := 0) hx hb d_C_partHolds_46 (by decide) ?_
        exact eRz hx hb hr hlocks (by first | rfl | decide) (by first | exact zb_f (fun h => h.1 h2) | exact zb_f (fun h => by have h5 := h.2; rw [if_pos h12] at h5; exact h5 h23) | exact zb_f (fun h => by have h5 := h.2; rw [if_neg h12] at h5; exact h5 h39)) d_C_partHolds_47
      · skip
        refine lv_iconst (v := 1) hx hb d_C_partHolds_42 (by decide) ?_
        refine lv_goto (tgt := 47) hx hb d_C_partHolds_43 (by decide) ?_
        exact eRz hx hb hr hlocks (by first | rfl | decide) (by first | exact zb_t (⟨h2, by rw [if_pos h12]; exact h23⟩) | exact zb_t (⟨h2, by rw [if_neg h12]; exact h39⟩)) d_C_partHolds_47
  · skip
    refine lv_iconst (v := 0) hx hb d_C_partHolds_5 (by decide) ?_
    exact eRz hx hb hr hlocks (by first | rfl | decide) (by first | exact zb_f (fun h => h.1 h2) | exact zb_f (fun h => by have h5 := h.2; rw [if_pos h12] at h5; exact h5 h23) | exact zb_f (fun h => by have h5 := h.2; rw [if_neg h12] at h5; exact h5 h39)) d_C_partHolds_6
end
end
section
section
set_option maxRecDepth 100000 in
set_option maxHeartbeats 4000000 in
theorem c_Clause (l : Launch) (D : va_G) (o b1 : Nat) (i : Int32) (w1 : Int32) (j : Int32) (w2 : Int32) (v : Int32) (w3 : Int32) (how : Int32) (x : Nat → Int32) (hi9 : i = -1 ∨ vp_in i 8) (hj9 : j = -1 ∨ vp_in j 8) (hv9 : v = -1 ∨ vp_in v 8) : Met l y_C_holdsAt (wsm y_C_holdsAt b_C_holdsAt 2 (some .boolean)) { frames := 2, cells := 0, slots := 0, locals := 45 } (va_Pc [.ref o, .ref b1] (cPre D ([(o, .inr (8, [.int i, .int w1, .int j, .int w2, .int v, .int w3, .int how])), (b1, .inl (D.1 100, 8, .inl x))]))) (vp_Si (fun r => r = zb (decide (kCla i w1 j w2 v w3 how x)))) 0 0 (fun _ => False) := by
  refine met_R (by decide) (Nat.le_of_ble_eq_true rfl) ?_
  intro p e s m below meth c ls hx hb hr hlocks hml hown hin hA hP hK hD hN hl
  have hown : s.vm.findClass R_C = some m.cls := hown
  have hl : lv_has ls 2 [(0, .ref o), (1, .ref b1)] := hl
  refine lv_aload_n hx hb d_C_holdsAt_0 rfl (lv_at hl 0 rfl) ?_
  refine lv_aload_n hx hb d_C_holdsAt_1 rfl (lv_at hl 0 rfl) ?_
  refine va_get (D := D) (ci := 8) (v := .int i) (C := R_C) (T := T_C) (N := 7) hx hb hA inA_C hown hK hP 0 rfl rfl 0 (by decide) (hA _ wd_327) (fun _ h9 => h9) rfl d_C_holdsAt_2 ?_
  refine lv_aload_n hx hb d_C_holdsAt_5 rfl (lv_at hl 0 rfl) ?_
  refine va_get (D := D) (ci := 8) (v := .int w1) (C := R_C) (T := T_C) (N := 7) hx hb hA inA_C hown hK hP 0 rfl rfl 1 (by decide) (hA _ wd_328) (fun _ h9 => h9) rfl d_C_holdsAt_6 ?_
  refine lv_iconst (v := 0) hx hb d_C_holdsAt_9 (by decide) ?_
  refine lv_aload_n hx hb d_C_holdsAt_10 rfl (lv_at hl 1 rfl) ?_
  refine rV (n := 4) (rest := []) hx hb hml hown hA (c_partHolds l D o b1 i w1 j w2 v w3 how i w1 0 x hi9) wv_C_33 ⟨by decide, by decide, by decide +kernel⟩ ⟨rfl, rfl, by decide, by decide⟩ rfl hl.1 ⟨Nat.le_of_ble_eq_true rfl, Nat.le_of_ble_eq_true rfl⟩ hP hK hD hN 0 8 rfl rfl rfl (Nat.le_of_ble_eq_true rfl) d_C_holdsAt_11 (fun r hr9 => ?_)
  rcases zb_c hr9 with ⟨rfl, h11⟩ | ⟨rfl, h11⟩
  · skip
    refine lv_if_ne (tgt := 51) hx hb d_C_holdsAt_14 (by decide) (fun _ => ?_) (fun h => absurd h (by decide))
    refine lv_iconst (v := 1) hx hb d_C_holdsAt_51 (by decide) ?_
    refine lv_goto (tgt := 56) hx hb d_C_holdsAt_52 (by decide) ?_
    exact eRz hx hb hr hlocks (by first | rfl | decide) (by first | exact zb_t (Or.inl h11) | exact zb_t (Or.inr (Or.inl h28)) | exact zb_t (Or.inr (Or.inr h45))) d_C_holdsAt_56
  · skip
    refine lv_if_ne (tgt := 51) hx hb d_C_holdsAt_14 (by decide) (fun h => absurd h (by decide)) (fun _ => ?_)
    refine lv_aload_n hx hb d_C_holdsAt_17 rfl (lv_at hl 0 rfl) ?_
    refine lv_aload_n hx hb d_C_holdsAt_18 rfl (lv_at hl 0 rfl) ?_
    refine va_get (D := D) (ci := 8) (v := .int j) (C := R_C) (T := T_C) (N := 7) hx hb hA inA_C hown hK hP 0 rfl rfl 2 (by decide) (hA _ wd_329) (fun _ h9 => h9) rfl d_C_holdsAt_19 ?_
    refine lv_aload_n hx hb d_C_holdsAt_22 rfl (lv_at hl 0 rfl) ?_
    refine va_get (D := D) (ci := 8) (v := .int w2) (C := R_C) (T := T_C) (N := 7) hx hb hA inA_C hown hK hP 0 rfl rfl 3 (by decide) (hA _ wd_330) (fun _ h9 => h9) rfl d_C_holdsAt_23 ?_
    refine lv_iconst (v := 1) hx hb d_C_holdsAt_26 (by decide) ?_
    refine lv_aload_n hx hb d_C_holdsAt_27 rfl (lv_at hl 1 rfl) ?_
    refine rV (n := 4) (rest := []) hx hb hml hown hA (c_partHolds l D o b1 i w1 j w2 v w3 how j w2 1 x hj9) wv_C_33 ⟨by decide, by decide, by decide +kernel⟩ ⟨rfl, rfl, by decide, by decide⟩ rfl hl.1 ⟨Nat.le_of_ble_eq_true rfl, Nat.le_of_ble_eq_true rfl⟩ hP hK hD hN 0 8 rfl rfl rfl (Nat.le_of_ble_eq_true rfl) d_C_holdsAt_28 (fun r hr9 => ?_)
    rcases zb_c hr9 with ⟨rfl, h28⟩ | ⟨rfl, h28⟩
    · skip
      refine lv_if_ne (tgt := 51) hx hb d_C_holdsAt_31 (by decide) (fun _ => ?_) (fun h => absurd h (by decide))
      refine lv_iconst (v := 1) hx hb d_C_holdsAt_51 (by decide) ?_
      refine lv_goto (tgt := 56) hx hb d_C_holdsAt_52 (by decide) ?_
      exact eRz hx hb hr hlocks (by first | rfl | decide) (by first | exact zb_t (Or.inl h11) | exact zb_t (Or.inr (Or.inl h28)) | exact zb_t (Or.inr (Or.inr h45))) d_C_holdsAt_56
    · skip
      refine lv_if_ne (tgt := 51) hx hb d_C_holdsAt_31 (by decide) (fun h => absurd h (by decide)) (fun _ => ?_)
      refine lv_aload_n hx hb d_C_holdsAt_34 rfl (lv_at hl 0 rfl) ?_
      refine lv_aload_n hx hb d_C_holdsAt_35 rfl (lv_at hl 0 rfl) ?_
      refine va_get (D := D) (ci := 8) (v := .int v) (C := R_C) (T := T_C) (N := 7) hx hb hA inA_C hown hK hP 0 rfl rfl 4 (by decide) (hA _ wd_331) (fun _ h9 => h9) rfl d_C_holdsAt_36 ?_
      refine lv_aload_n hx hb d_C_holdsAt_39 rfl (lv_at hl 0 rfl) ?_
      refine va_get (D := D) (ci := 8) (v := .int w3) (C := R_C) (T := T_C) (N := 7) hx hb hA inA_C hown hK hP 0 rfl rfl 5 (by decide) (hA _ wd_332) (fun _ h9 => h9) rfl d_C_holdsAt_40 ?_
      refine lv_iconst (v := 2) hx hb d_C_holdsAt_43 (by decide) ?_
      refine lv_aload_n hx hb d_C_holdsAt_44 rfl (lv_at hl 1 rfl) ?_
      refine rV (n := 4) (rest := []) hx hb hml hown hA (c_partHolds l D o b1 i w1 j w2 v w3 how v w3 2 x hv9) wv_C_33 ⟨by decide, by decide, by decide +kernel⟩ ⟨rfl, rfl, by decide, by decide⟩ rfl hl.1 ⟨Nat.le_of_ble_eq_true rfl, Nat.le_of_ble_eq_true rfl⟩ hP hK hD hN 0 8 rfl rfl rfl (Nat.le_of_ble_eq_true rfl) d_C_holdsAt_45 (fun r hr9 => ?_)
      rcases zb_c hr9 with ⟨rfl, h45⟩ | ⟨rfl, h45⟩
      · skip
        refine lv_if_eq (tgt := 55) hx hb d_C_holdsAt_48 (by decide) (fun h => absurd h (by decide)) (fun _ => ?_)
        refine lv_iconst (v := 1) hx hb d_C_holdsAt_51 (by decide) ?_
        refine lv_goto (tgt := 56) hx hb d_C_holdsAt_52 (by decide) ?_
        exact eRz hx hb hr hlocks (by first | rfl | decide) (by first | exact zb_t (Or.inl h11) | exact zb_t (Or.inr (Or.inl h28)) | exact zb_t (Or.inr (Or.inr h45))) d_C_holdsAt_56
      · skip
        refine lv_if_eq (tgt := 55) hx hb d_C_holdsAt_48 (by decide) (fun _ => ?_) (fun h => absurd h (by decide))
        refine lv_iconst (v := 0) hx hb d_C_holdsAt_55 (by decide) ?_
        exact eRz hx hb hr hlocks (by first | rfl | decide) (by first | exact zb_f (fun h => h.elim h11 (fun h => h.elim h28 h45))) d_C_holdsAt_56
end
end
section
section
theorem ws_X_add : Cond.selects R_X y_X_add y_X_add ∈ cA := cA_in (List.mem_append_left _ (List.mem_of_getElem? (i := 4) (by decide +kernel))) rfl
theorem ws_X_areVariablesOrAbsent : Cond.selects R_X y_X_areVariablesOrAbsent y_X_areVariablesOrAbsent ∈ cA := cA_in (List.mem_append_left _ (List.mem_of_getElem? (i := 1) (by decide +kernel))) rfl
theorem ws_X_isSetOfVariables : Cond.selects R_X y_X_isSetOfVariables y_X_isSetOfVariables ∈ cA := cA_in (List.mem_append_left _ (List.mem_of_getElem? (i := 9) (by decide +kernel))) rfl
theorem wv_X_62 : Cond.code y_X_isWithin b_X_isWithin 2 (some .boolean) ∈ cA ∧ Cond.initialized y_X_isWithin.cls ∈ cA ∧ Cond.methodLink R_X 62 y_X_isWithin ∈ cA ∧ Cond.static y_X_isWithin ∈ cA := ⟨wd_95, wd_1, wd_93, wd_94⟩
theorem wv_X_81 : Cond.code y_R_init b_R_init 5 none ∈ cA ∧ Cond.initialized y_R_init.cls ∈ cA ∧ Cond.instanceMethod y_R_init ∈ cA := ⟨wd_220, wd_9, wd_219⟩
theorem wf_R : Cond.code y_R_holdsAt b_R_holdsAt 2 (some .boolean) ∈ cA ∧ Cond.initialized y_R_holdsAt.cls ∈ cA ∧ Cond.methodLink R_X 126 y_K_holdsAt ∈ cA ∧ Cond.instanceMethod y_R_holdsAt ∈ cA ∧ Cond.selects R_R y_K_holdsAt y_R_holdsAt ∈ cA := ⟨wd_207, wd_9, wd_139, wd_205, wd_203⟩
theorem wv_X_71 : Cond.code y_X_add b_X_add 3 (some .int) ∈ cA ∧ Cond.initialized y_X_add.cls ∈ cA ∧ Cond.methodLink R_X 71 y_X_add ∈ cA ∧ Cond.instanceMethod y_X_add ∈ cA ∧ Cond.selects y_X_add.cls y_X_add y_X_add ∈ cA := ⟨wd_130, wd_1, wd_127, wd_129, ws_X_add⟩
theorem wv_X_58 : Cond.code y_X_areVariablesOrAbsent b_X_areVariablesOrAbsent 4 (some .boolean) ∈ cA ∧ Cond.initialized y_X_areVariablesOrAbsent.cls ∈ cA ∧ Cond.methodLink R_X 58 y_X_areVariablesOrAbsent ∈ cA ∧ Cond.instanceMethod y_X_areVariablesOrAbsent ∈ cA ∧ Cond.selects y_X_areVariablesOrAbsent.cls y_X_areVariablesOrAbsent y_X_areVariablesOrAbsent ∈ cA := ⟨wd_84, wd_1, wd_81, wd_83, ws_X_areVariablesOrAbsent⟩
theorem wv_X_68 : Cond.code y_L_init b_L_init 8 none ∈ cA ∧ Cond.initialized y_L_init.cls ∈ cA ∧ Cond.instanceMethod y_L_init ∈ cA := ⟨wd_100, wd_5, wd_99⟩
theorem wf_L : Cond.code y_L_holdsAt b_L_holdsAt 2 (some .boolean) ∈ cA ∧ Cond.initialized y_L_holdsAt.cls ∈ cA ∧ Cond.methodLink R_X 126 y_K_holdsAt ∈ cA ∧ Cond.instanceMethod y_L_holdsAt ∈ cA ∧ Cond.selects R_L y_K_holdsAt y_L_holdsAt ∈ cA := ⟨wd_189, wd_5, wd_139, wd_187, wd_185⟩
theorem wv_X_89 : Cond.code y_M_init b_M_init 5 none ∈ cA ∧ Cond.initialized y_M_init.cls ∈ cA ∧ Cond.instanceMethod y_M_init ∈ cA := ⟨wd_243, wd_10, wd_242⟩
theorem wf_M : Cond.code y_M_holdsAt b_M_holdsAt 3 (some .boolean) ∈ cA ∧ Cond.initialized y_M_holdsAt.cls ∈ cA ∧ Cond.methodLink R_X 126 y_K_holdsAt ∈ cA ∧ Cond.instanceMethod y_M_holdsAt ∈ cA ∧ Cond.selects R_M y_K_holdsAt y_M_holdsAt ∈ cA := ⟨wd_198, wd_10, wd_139, wd_196, wd_194⟩
theorem wv_X_92 : Cond.code y_E_init b_E_init 5 none ∈ cA ∧ Cond.initialized y_E_init.cls ∈ cA ∧ Cond.instanceMethod y_E_init ∈ cA := ⟨wd_266, wd_11, wd_265⟩
theorem wf_E : Cond.code y_E_holdsAt b_E_holdsAt 2 (some .boolean) ∈ cA ∧ Cond.initialized y_E_holdsAt.cls ∈ cA ∧ Cond.methodLink R_X 126 y_K_holdsAt ∈ cA ∧ Cond.instanceMethod y_E_holdsAt ∈ cA ∧ Cond.selects R_E y_K_holdsAt y_E_holdsAt ∈ cA := ⟨wd_183, wd_11, wd_139, wd_181, wd_179⟩
theorem wv_X_95 : Cond.code y_X_isSetOfVariables b_X_isSetOfVariables 2 (some .boolean) ∈ cA ∧ Cond.initialized y_X_isSetOfVariables.cls ∈ cA ∧ Cond.methodLink R_X 95 y_X_isSetOfVariables ∈ cA ∧ Cond.instanceMethod y_X_isSetOfVariables ∈ cA ∧ Cond.selects y_X_isSetOfVariables.cls y_X_isSetOfVariables y_X_isSetOfVariables ∈ cA := ⟨wd_285, wd_1, wd_282, wd_284, ws_X_isSetOfVariables⟩
theorem wv_X_100 : Cond.code y_D_init b_D_init 2 none ∈ cA ∧ Cond.initialized y_D_init.cls ∈ cA ∧ Cond.instanceMethod y_D_init ∈ cA := ⟨wd_290, wd_12, wd_289⟩
theorem wf_D : Cond.code y_D_holdsAt b_D_holdsAt 7 (some .boolean) ∈ cA ∧ Cond.initialized y_D_holdsAt.cls ∈ cA ∧ Cond.methodLink R_X 126 y_K_holdsAt ∈ cA ∧ Cond.instanceMethod y_D_holdsAt ∈ cA ∧ Cond.selects R_D y_K_holdsAt y_D_holdsAt ∈ cA := ⟨wd_176, wd_12, wd_139, wd_174, wd_172⟩
theorem wv_X_104 : Cond.code y_U_init b_U_init 7 none ∈ cA ∧ Cond.initialized y_U_init.cls ∈ cA ∧ Cond.instanceMethod y_U_init ∈ cA := ⟨wd_303, wd_7, wd_302⟩
theorem wf_U : Cond.code y_U_holdsAt b_U_holdsAt 3 (some .boolean) ∈ cA ∧ Cond.initialized y_U_holdsAt.cls ∈ cA ∧ Cond.methodLink R_X 126 y_K_holdsAt ∈ cA ∧ Cond.instanceMethod y_U_holdsAt ∈ cA ∧ Cond.selects R_U y_K_holdsAt y_U_holdsAt ∈ cA := ⟨wd_161, wd_7, wd_139, wd_159, wd_157⟩
theorem wv_X_109 : Cond.code y_C_init b_C_init 8 none ∈ cA ∧ Cond.initialized y_C_init.cls ∈ cA ∧ Cond.instanceMethod y_C_init ∈ cA := ⟨wd_325, wd_13, wd_324⟩
theorem wf_C : Cond.code y_C_holdsAt b_C_holdsAt 2 (some .boolean) ∈ cA ∧ Cond.initialized y_C_holdsAt.cls ∈ cA ∧ Cond.methodLink R_X 126 y_K_holdsAt ∈ cA ∧ Cond.instanceMethod y_C_holdsAt ∈ cA ∧ Cond.selects R_C y_K_holdsAt y_C_holdsAt ∈ cA := ⟨wd_147, wd_13, wd_139, wd_145, wd_143⟩
end
end
section
section
theorem d_X_add_0 : decode b_X_add 0 = .ok (.aload_n 0, 1) := by decide +kernel
theorem d_X_add_1 : decode b_X_add 1 = .ok (.getfield 110, 3) := by decide +kernel
theorem d_X_add_4 : decode b_X_add 4 = .ok (.bipush 12, 2) := by decide +kernel
theorem d_X_add_6 : decode b_X_add 6 = .ok (.if_icmp .lt 6, 3) := by decide +kernel
theorem d_X_add_9 : decode b_X_add 9 = .ok (.bipush (-2), 2) := by decide +kernel
theorem d_X_add_11 : decode b_X_add 11 = .ok (.ireturn, 1) := by decide +kernel
theorem d_X_add_12 : decode b_X_add 12 = .ok (.aload_n 0, 1) := by decide +kernel
theorem d_X_add_13 : decode b_X_add 13 = .ok (.invokevirtual 123, 3) := by decide +kernel
theorem d_X_add_16 : decode b_X_add 16 = .ok (.iconst 0, 1) := by decide +kernel
theorem d_X_add_17 : decode b_X_add 17 = .ok (.istore_n 2, 1) := by decide +kernel
theorem d_X_add_18 : decode b_X_add 18 = .ok (.iload_n 2, 1) := by decide +kernel
theorem d_X_add_19 : decode b_X_add 19 = .ok (.aload_n 0, 1) := by decide +kernel
theorem d_X_add_20 : decode b_X_add 20 = .ok (.getfield 37, 3) := by decide +kernel
theorem d_X_add_23 : decode b_X_add 23 = .ok (.if_icmp .ge 47, 3) := by decide +kernel
theorem d_X_add_26 : decode b_X_add 26 = .ok (.aload_n 0, 1) := by decide +kernel
theorem d_X_add_27 : decode b_X_add 27 = .ok (.getfield 16, 3) := by decide +kernel
theorem d_X_add_30 : decode b_X_add 30 = .ok (.iload_n 2, 1) := by decide +kernel
theorem d_X_add_31 : decode b_X_add 31 = .ok (.iaload, 1) := by decide +kernel
theorem d_X_add_32 : decode b_X_add 32 = .ok (.bipush 12, 2) := by decide +kernel
theorem d_X_add_34 : decode b_X_add 34 = .ok (.if_icmp .ne 26, 3) := by decide +kernel
theorem d_X_add_37 : decode b_X_add 37 = .ok (.aload_n 1, 1) := by decide +kernel
theorem d_X_add_38 : decode b_X_add 38 = .ok (.aload_n 0, 1) := by decide +kernel
theorem d_X_add_39 : decode b_X_add 39 = .ok (.getfield 31, 3) := by decide +kernel
theorem d_X_add_42 : decode b_X_add 42 = .ok (.invokeinterface 126 2, 5) := by decide +kernel
theorem d_X_add_47 : decode b_X_add 47 = .ok (.ifCond .ne 13, 3) := by decide +kernel
theorem d_X_add_50 : decode b_X_add 50 = .ok (.aload_n 0, 1) := by decide +kernel
theorem d_X_add_51 : decode b_X_add 51 = .ok (.getfield 16, 3) := by decide +kernel
theorem d_X_add_54 : decode b_X_add 54 = .ok (.iload_n 2, 1) := by decide +kernel
theorem d_X_add_55 : decode b_X_add 55 = .ok (.aload_n 0, 1) := by decide +kernel
theorem d_X_add_56 : decode b_X_add 56 = .ok (.getfield 110, 3) := by decide +kernel
theorem d_X_add_59 : decode b_X_add 59 = .ok (.iastore, 1) := by decide +kernel
theorem d_X_add_60 : decode b_X_add 60 = .ok (.aload_n 0, 1) := by decide +kernel
theorem d_X_add_61 : decode b_X_add 61 = .ok (.invokevirtual 132, 3) := by decide +kernel
theorem d_X_add_64 : decode b_X_add 64 = .ok (.iinc 2 1, 3) := by decide +kernel
theorem d_X_add_67 : decode b_X_add 67 = .ok (.goto (-49), 3) := by decide +kernel
theorem d_X_add_70 : decode b_X_add 70 = .ok (.aload_n 0, 1) := by decide +kernel
theorem d_X_add_71 : decode b_X_add 71 = .ok (.iconst 0, 1) := by decide +kernel
theorem d_X_add_72 : decode b_X_add 72 = .ok (.putfield 54, 3) := by decide +kernel
theorem d_X_add_75 : decode b_X_add 75 = .ok (.aload_n 0, 1) := by decide +kernel
theorem d_X_add_76 : decode b_X_add 76 = .ok (.dup, 1) := by decide +kernel
theorem d_X_add_77 : decode b_X_add 77 = .ok (.getfield 110, 3) := by decide +kernel
theorem d_X_add_80 : decode b_X_add 80 = .ok (.dup_x1, 1) := by decide +kernel
theorem d_X_add_81 : decode b_X_add 81 = .ok (.iconst 1, 1) := by decide +kernel
theorem d_X_add_82 : decode b_X_add 82 = .ok (.iadd, 1) := by decide +kernel
theorem d_X_add_83 : decode b_X_add 83 = .ok (.putfield 110, 3) := by decide +kernel
theorem d_X_add_86 : decode b_X_add 86 = .ok (.ireturn, 1) := by decide +kernel
theorem d_X_reified_0 : decode b_X_reified 0 = .ok (.aload_n 0, 1) := by decide +kernel
theorem d_X_reified_1 : decode b_X_reified 1 = .ok (.iload_n 1, 1) := by decide +kernel
theorem d_X_reified_2 : decode b_X_reified 2 = .ok (.invokevirtual 75, 3) := by decide +kernel
theorem d_X_reified_5 : decode b_X_reified 5 = .ok (.ifCond .eq 33, 3) := by decide +kernel
theorem d_X_reified_8 : decode b_X_reified 8 = .ok (.aload_n 0, 1) := by decide +kernel
theorem d_X_reified_9 : decode b_X_reified 9 = .ok (.iload_n 2, 1) := by decide +kernel
theorem d_X_reified_10 : decode b_X_reified 10 = .ok (.invokevirtual 75, 3) := by decide +kernel
theorem d_X_reified_13 : decode b_X_reified 13 = .ok (.ifCond .eq 25, 3) := by decide +kernel
theorem d_X_reified_16 : decode b_X_reified 16 = .ok (.aload_n 0, 1) := by decide +kernel
theorem d_X_reified_17 : decode b_X_reified 17 = .ok (.iload_n 3, 1) := by decide +kernel
theorem d_X_reified_18 : decode b_X_reified 18 = .ok (.invokevirtual 75, 3) := by decide +kernel
theorem d_X_reified_21 : decode b_X_reified 21 = .ok (.ifCond .eq 17, 3) := by decide +kernel
theorem d_X_reified_24 : decode b_X_reified 24 = .ok (.iload 4, 2) := by decide +kernel
theorem d_X_reified_26 : decode b_X_reified 26 = .ok (.bipush 100, 2) := by decide +kernel
theorem d_X_reified_28 : decode b_X_reified 28 = .ok (.invokestatic 62, 3) := by decide +kernel
theorem d_X_reified_31 : decode b_X_reified 31 = .ok (.ifCond .eq 7, 3) := by decide +kernel
theorem d_X_reified_34 : decode b_X_reified 34 = .ok (.iconst 1, 1) := by decide +kernel
theorem d_X_reified_35 : decode b_X_reified 35 = .ok (.goto 4, 3) := by decide +kernel
theorem d_X_reified_38 : decode b_X_reified 38 = .ok (.iconst 0, 1) := by decide +kernel
theorem d_X_reified_39 : decode b_X_reified 39 = .ok (.istore 5, 2) := by decide +kernel
theorem d_X_reified_41 : decode b_X_reified 41 = .ok (.iload 5, 2) := by decide +kernel
theorem d_X_reified_43 : decode b_X_reified 43 = .ok (.ifCond .eq 22, 3) := by decide +kernel
theorem d_X_reified_46 : decode b_X_reified 46 = .ok (.aload_n 0, 1) := by decide +kernel
theorem d_X_reified_47 : decode b_X_reified 47 = .ok (.new 79, 3) := by decide +kernel
theorem d_X_reified_50 : decode b_X_reified 50 = .ok (.dup, 1) := by decide +kernel
theorem d_X_reified_51 : decode b_X_reified 51 = .ok (.iload_n 1, 1) := by decide +kernel
theorem d_X_reified_52 : decode b_X_reified 52 = .ok (.iload_n 2, 1) := by decide +kernel
theorem d_X_reified_53 : decode b_X_reified 53 = .ok (.iload_n 3, 1) := by decide +kernel
theorem d_X_reified_54 : decode b_X_reified 54 = .ok (.iload 4, 2) := by decide +kernel
theorem d_X_reified_56 : decode b_X_reified 56 = .ok (.invokespecial 81, 3) := by decide +kernel
theorem d_X_reified_59 : decode b_X_reified 59 = .ok (.invokevirtual 71, 3) := by decide +kernel
theorem d_X_reified_62 : decode b_X_reified 62 = .ok (.goto 4, 3) := by decide +kernel
theorem d_X_reified_65 : decode b_X_reified 65 = .ok (.iconst (-1), 1) := by decide +kernel
theorem d_X_reified_66 : decode b_X_reified 66 = .ok (.ireturn, 1) := by decide +kernel
theorem d_X_linear_0 : decode b_X_linear 0 = .ok (.aload_n 0, 1) := by decide +kernel
theorem d_X_linear_1 : decode b_X_linear 1 = .ok (.iload_n 1, 1) := by decide +kernel
theorem d_X_linear_2 : decode b_X_linear 2 = .ok (.iload_n 3, 1) := by decide +kernel
theorem d_X_linear_3 : decode b_X_linear 3 = .ok (.iload 5, 2) := by decide +kernel
theorem d_X_linear_5 : decode b_X_linear 5 = .ok (.invokevirtual 58, 3) := by decide +kernel
theorem d_X_linear_8 : decode b_X_linear 8 = .ok (.ifCond .eq 47, 3) := by decide +kernel
theorem d_X_linear_11 : decode b_X_linear 11 = .ok (.iload_n 2, 1) := by decide +kernel
theorem d_X_linear_12 : decode b_X_linear 12 = .ok (.bipush 9, 2) := by decide +kernel
theorem d_X_linear_14 : decode b_X_linear 14 = .ok (.invokestatic 62, 3) := by decide +kernel
theorem d_X_linear_17 : decode b_X_linear 17 = .ok (.ifCond .eq 38, 3) := by decide +kernel
theorem d_X_linear_20 : decode b_X_linear 20 = .ok (.iload 4, 2) := by decide +kernel
theorem d_X_linear_22 : decode b_X_linear 22 = .ok (.bipush 9, 2) := by decide +kernel
theorem d_X_linear_24 : decode b_X_linear 24 = .ok (.invokestatic 62, 3) := by decide +kernel
theorem d_X_linear_27 : decode b_X_linear 27 = .ok (.ifCond .eq 28, 3) := by decide +kernel
theorem d_X_linear_30 : decode b_X_linear 30 = .ok (.iload 6, 2) := by decide +kernel
theorem d_X_linear_32 : decode b_X_linear 32 = .ok (.bipush 9, 2) := by decide +kernel
theorem d_X_linear_34 : decode b_X_linear 34 = .ok (.invokestatic 62, 3) := by decide +kernel
theorem d_X_linear_37 : decode b_X_linear 37 = .ok (.ifCond .eq 18, 3) := by decide +kernel
theorem d_X_linear_40 : decode b_X_linear 40 = .ok (.iload 7, 2) := by decide +kernel
theorem d_X_linear_42 : decode b_X_linear 42 = .ok (.sipush 1000, 3) := by decide +kernel
theorem d_X_linear_45 : decode b_X_linear 45 = .ok (.invokestatic 62, 3) := by decide +kernel
theorem d_X_linear_48 : decode b_X_linear 48 = .ok (.ifCond .eq 7, 3) := by decide +kernel
theorem d_X_linear_51 : decode b_X_linear 51 = .ok (.iconst 1, 1) := by decide +kernel
theorem d_X_linear_52 : decode b_X_linear 52 = .ok (.goto 4, 3) := by decide +kernel
theorem d_X_linear_55 : decode b_X_linear 55 = .ok (.iconst 0, 1) := by decide +kernel
theorem d_X_linear_56 : decode b_X_linear 56 = .ok (.istore 8, 2) := by decide +kernel
theorem d_X_linear_58 : decode b_X_linear 58 = .ok (.iload 8, 2) := by decide +kernel
theorem d_X_linear_60 : decode b_X_linear 60 = .ok (.ifCond .eq 28, 3) := by decide +kernel
theorem d_X_linear_63 : decode b_X_linear 63 = .ok (.aload_n 0, 1) := by decide +kernel
theorem d_X_linear_64 : decode b_X_linear 64 = .ok (.new 66, 3) := by decide +kernel
theorem d_X_linear_67 : decode b_X_linear 67 = .ok (.dup, 1) := by decide +kernel
theorem d_X_linear_68 : decode b_X_linear 68 = .ok (.iload_n 1, 1) := by decide +kernel
theorem d_X_linear_69 : decode b_X_linear 69 = .ok (.iload_n 2, 1) := by decide +kernel
theorem d_X_linear_70 : decode b_X_linear 70 = .ok (.iload_n 3, 1) := by decide +kernel
theorem d_X_linear_71 : decode b_X_linear 71 = .ok (.iload 4, 2) := by decide +kernel
theorem d_X_linear_73 : decode b_X_linear 73 = .ok (.iload 5, 2) := by decide +kernel
theorem d_X_linear_75 : decode b_X_linear 75 = .ok (.iload 6, 2) := by decide +kernel
theorem d_X_linear_77 : decode b_X_linear 77 = .ok (.iload 7, 2) := by decide +kernel
theorem d_X_linear_79 : decode b_X_linear 79 = .ok (.invokespecial 68, 3) := by decide +kernel
theorem d_X_linear_82 : decode b_X_linear 82 = .ok (.invokevirtual 71, 3) := by decide +kernel
theorem d_X_linear_85 : decode b_X_linear 85 = .ok (.goto 4, 3) := by decide +kernel
theorem d_X_linear_88 : decode b_X_linear 88 = .ok (.iconst (-1), 1) := by decide +kernel
theorem d_X_linear_89 : decode b_X_linear 89 = .ok (.ireturn, 1) := by decide +kernel
theorem d_X_maximum_0 : decode b_X_maximum 0 = .ok (.aload_n 0, 1) := by decide +kernel
theorem d_X_maximum_1 : decode b_X_maximum 1 = .ok (.iload_n 1, 1) := by decide +kernel
theorem d_X_maximum_2 : decode b_X_maximum 2 = .ok (.invokevirtual 75, 3) := by decide +kernel
theorem d_X_maximum_5 : decode b_X_maximum 5 = .ok (.ifCond .eq 32, 3) := by decide +kernel
theorem d_X_maximum_8 : decode b_X_maximum 8 = .ok (.aload_n 0, 1) := by decide +kernel
theorem d_X_maximum_9 : decode b_X_maximum 9 = .ok (.iload_n 2, 1) := by decide +kernel
theorem d_X_maximum_10 : decode b_X_maximum 10 = .ok (.invokevirtual 75, 3) := by decide +kernel
theorem d_X_maximum_13 : decode b_X_maximum 13 = .ok (.ifCond .eq 24, 3) := by decide +kernel
theorem d_X_maximum_16 : decode b_X_maximum 16 = .ok (.aload_n 0, 1) := by decide +kernel
theorem d_X_maximum_17 : decode b_X_maximum 17 = .ok (.iload_n 3, 1) := by decide +kernel
theorem d_X_maximum_18 : decode b_X_maximum 18 = .ok (.invokevirtual 84, 3) := by decide +kernel
theorem d_X_maximum_21 : decode b_X_maximum 21 = .ok (.ifCond .eq 16, 3) := by decide +kernel
theorem d_X_maximum_24 : decode b_X_maximum 24 = .ok (.aload_n 0, 1) := by decide +kernel
theorem d_X_maximum_25 : decode b_X_maximum 25 = .ok (.iload 4, 2) := by decide +kernel
theorem d_X_maximum_27 : decode b_X_maximum 27 = .ok (.invokevirtual 84, 3) := by decide +kernel
theorem d_X_maximum_30 : decode b_X_maximum 30 = .ok (.ifCond .eq 7, 3) := by decide +kernel
theorem d_X_maximum_33 : decode b_X_maximum 33 = .ok (.iconst 1, 1) := by decide +kernel
theorem d_X_maximum_34 : decode b_X_maximum 34 = .ok (.goto 4, 3) := by decide +kernel
theorem d_X_maximum_37 : decode b_X_maximum 37 = .ok (.iconst 0, 1) := by decide +kernel
theorem d_X_maximum_38 : decode b_X_maximum 38 = .ok (.istore 5, 2) := by decide +kernel
theorem d_X_maximum_40 : decode b_X_maximum 40 = .ok (.iload 5, 2) := by decide +kernel
theorem d_X_maximum_42 : decode b_X_maximum 42 = .ok (.ifCond .eq 22, 3) := by decide +kernel
theorem d_X_maximum_45 : decode b_X_maximum 45 = .ok (.aload_n 0, 1) := by decide +kernel
theorem d_X_maximum_46 : decode b_X_maximum 46 = .ok (.new 87, 3) := by decide +kernel
theorem d_X_maximum_49 : decode b_X_maximum 49 = .ok (.dup, 1) := by decide +kernel
theorem d_X_maximum_50 : decode b_X_maximum 50 = .ok (.iload_n 1, 1) := by decide +kernel
theorem d_X_maximum_51 : decode b_X_maximum 51 = .ok (.iload_n 2, 1) := by decide +kernel
theorem d_X_maximum_52 : decode b_X_maximum 52 = .ok (.iload_n 3, 1) := by decide +kernel
theorem d_X_maximum_53 : decode b_X_maximum 53 = .ok (.iload 4, 2) := by decide +kernel
theorem d_X_maximum_55 : decode b_X_maximum 55 = .ok (.invokespecial 89, 3) := by decide +kernel
theorem d_X_maximum_58 : decode b_X_maximum 58 = .ok (.invokevirtual 71, 3) := by decide +kernel
theorem d_X_maximum_61 : decode b_X_maximum 61 = .ok (.goto 4, 3) := by decide +kernel
theorem d_X_maximum_64 : decode b_X_maximum 64 = .ok (.iconst (-1), 1) := by decide +kernel
theorem d_X_maximum_65 : decode b_X_maximum 65 = .ok (.ireturn, 1) := by decide +kernel
theorem d_X_element_0 : decode b_X_element 0 = .ok (.aload_n 0, 1) := by decide +kernel
theorem d_X_element_1 : decode b_X_element 1 = .ok (.iload_n 1, 1) := by decide +kernel
theorem d_X_element_2 : decode b_X_element 2 = .ok (.invokevirtual 75, 3) := by decide +kernel
theorem d_X_element_5 : decode b_X_element 5 = .ok (.ifCond .eq 15, 3) := by decide +kernel
theorem d_X_element_8 : decode b_X_element 8 = .ok (.aload_n 0, 1) := by decide +kernel
theorem d_X_element_9 : decode b_X_element 9 = .ok (.iload_n 2, 1) := by decide +kernel
theorem d_X_element_10 : decode b_X_element 10 = .ok (.invokevirtual 75, 3) := by decide +kernel
theorem d_X_element_13 : decode b_X_element 13 = .ok (.ifCond .eq 7, 3) := by decide +kernel
theorem d_X_element_16 : decode b_X_element 16 = .ok (.iconst 1, 1) := by decide +kernel
theorem d_X_element_17 : decode b_X_element 17 = .ok (.goto 4, 3) := by decide +kernel
theorem d_X_element_20 : decode b_X_element 20 = .ok (.iconst 0, 1) := by decide +kernel
theorem d_X_element_21 : decode b_X_element 21 = .ok (.istore 5, 2) := by decide +kernel
theorem d_X_element_23 : decode b_X_element 23 = .ok (.iload 5, 2) := by decide +kernel
theorem d_X_element_25 : decode b_X_element 25 = .ok (.ifCond .eq 20, 3) := by decide +kernel
theorem d_X_element_28 : decode b_X_element 28 = .ok (.aload_n 0, 1) := by decide +kernel
theorem d_X_element_29 : decode b_X_element 29 = .ok (.new 90, 3) := by decide +kernel
theorem d_X_element_32 : decode b_X_element 32 = .ok (.dup, 1) := by decide +kernel
theorem d_X_element_33 : decode b_X_element 33 = .ok (.iload_n 1, 1) := by decide +kernel
theorem d_X_element_34 : decode b_X_element 34 = .ok (.iload_n 2, 1) := by decide +kernel
theorem d_X_element_35 : decode b_X_element 35 = .ok (.lload_n 3, 1) := by decide +kernel
theorem d_X_element_36 : decode b_X_element 36 = .ok (.invokespecial 92, 3) := by decide +kernel
theorem d_X_element_39 : decode b_X_element 39 = .ok (.invokevirtual 71, 3) := by decide +kernel
theorem d_X_element_42 : decode b_X_element 42 = .ok (.goto 4, 3) := by decide +kernel
theorem d_X_element_45 : decode b_X_element 45 = .ok (.iconst (-1), 1) := by decide +kernel
theorem d_X_element_46 : decode b_X_element 46 = .ok (.ireturn, 1) := by decide +kernel
theorem d_X_different_0 : decode b_X_different 0 = .ok (.aload_n 0, 1) := by decide +kernel
theorem d_X_different_1 : decode b_X_different 1 = .ok (.iload_n 1, 1) := by decide +kernel
theorem d_X_different_2 : decode b_X_different 2 = .ok (.invokevirtual 95, 3) := by decide +kernel
theorem d_X_different_5 : decode b_X_different 5 = .ok (.ifCond .eq 18, 3) := by decide +kernel
theorem d_X_different_8 : decode b_X_different 8 = .ok (.aload_n 0, 1) := by decide +kernel
theorem d_X_different_9 : decode b_X_different 9 = .ok (.new 98, 3) := by decide +kernel
theorem d_X_different_12 : decode b_X_different 12 = .ok (.dup, 1) := by decide +kernel
theorem d_X_different_13 : decode b_X_different 13 = .ok (.iload_n 1, 1) := by decide +kernel
theorem d_X_different_14 : decode b_X_different 14 = .ok (.invokespecial 100, 3) := by decide +kernel
theorem d_X_different_17 : decode b_X_different 17 = .ok (.invokevirtual 71, 3) := by decide +kernel
theorem d_X_different_20 : decode b_X_different 20 = .ok (.goto 4, 3) := by decide +kernel
theorem d_X_different_23 : decode b_X_different 23 = .ok (.iconst (-1), 1) := by decide +kernel
theorem d_X_different_24 : decode b_X_different 24 = .ok (.ireturn, 1) := by decide +kernel
theorem d_X_cumulative_0 : decode b_X_cumulative 0 = .ok (.aload_n 0, 1) := by decide +kernel
theorem d_X_cumulative_1 : decode b_X_cumulative 1 = .ok (.iload_n 1, 1) := by decide +kernel
theorem d_X_cumulative_2 : decode b_X_cumulative 2 = .ok (.invokevirtual 95, 3) := by decide +kernel
theorem d_X_cumulative_5 : decode b_X_cumulative 5 = .ok (.ifCond .eq 19, 3) := by decide +kernel
theorem d_X_cumulative_8 : decode b_X_cumulative 8 = .ok (.iload 6, 2) := by decide +kernel
theorem d_X_cumulative_10 : decode b_X_cumulative 10 = .ok (.ifCond .lt 14, 3) := by decide +kernel
theorem d_X_cumulative_13 : decode b_X_cumulative 13 = .ok (.iload 6, 2) := by decide +kernel
theorem d_X_cumulative_15 : decode b_X_cumulative 15 = .ok (.bipush 100, 2) := by decide +kernel
theorem d_X_cumulative_17 : decode b_X_cumulative 17 = .ok (.if_icmp .gt 7, 3) := by decide +kernel
theorem d_X_cumulative_20 : decode b_X_cumulative 20 = .ok (.iconst 1, 1) := by decide +kernel
theorem d_X_cumulative_21 : decode b_X_cumulative 21 = .ok (.goto 4, 3) := by decide +kernel
theorem d_X_cumulative_24 : decode b_X_cumulative 24 = .ok (.iconst 0, 1) := by decide +kernel
theorem d_X_cumulative_25 : decode b_X_cumulative 25 = .ok (.istore 7, 2) := by decide +kernel
theorem d_X_cumulative_27 : decode b_X_cumulative 27 = .ok (.iload 7, 2) := by decide +kernel
theorem d_X_cumulative_29 : decode b_X_cumulative 29 = .ok (.ifCond .eq 23, 3) := by decide +kernel
theorem d_X_cumulative_32 : decode b_X_cumulative 32 = .ok (.aload_n 0, 1) := by decide +kernel
theorem d_X_cumulative_33 : decode b_X_cumulative 33 = .ok (.new 102, 3) := by decide +kernel
theorem d_X_cumulative_36 : decode b_X_cumulative 36 = .ok (.dup, 1) := by decide +kernel
theorem d_X_cumulative_37 : decode b_X_cumulative 37 = .ok (.iload_n 1, 1) := by decide +kernel
theorem d_X_cumulative_38 : decode b_X_cumulative 38 = .ok (.lload_n 2, 1) := by decide +kernel
theorem d_X_cumulative_39 : decode b_X_cumulative 39 = .ok (.lload 4, 2) := by decide +kernel
theorem d_X_cumulative_41 : decode b_X_cumulative 41 = .ok (.iload 6, 2) := by decide +kernel
theorem d_X_cumulative_43 : decode b_X_cumulative 43 = .ok (.invokespecial 104, 3) := by decide +kernel
theorem d_X_cumulative_46 : decode b_X_cumulative 46 = .ok (.invokevirtual 71, 3) := by decide +kernel
theorem d_X_cumulative_49 : decode b_X_cumulative 49 = .ok (.goto 4, 3) := by decide +kernel
theorem d_X_cumulative_52 : decode b_X_cumulative 52 = .ok (.iconst (-1), 1) := by decide +kernel
theorem d_X_cumulative_53 : decode b_X_cumulative 53 = .ok (.ireturn, 1) := by decide +kernel
theorem d_X_clause_0 : decode b_X_clause 0 = .ok (.aload_n 0, 1) := by decide +kernel
theorem d_X_clause_1 : decode b_X_clause 1 = .ok (.iload_n 1, 1) := by decide +kernel
theorem d_X_clause_2 : decode b_X_clause 2 = .ok (.iload_n 3, 1) := by decide +kernel
theorem d_X_clause_3 : decode b_X_clause 3 = .ok (.iload 5, 2) := by decide +kernel
theorem d_X_clause_5 : decode b_X_clause 5 = .ok (.invokevirtual 58, 3) := by decide +kernel
theorem d_X_clause_8 : decode b_X_clause 8 = .ok (.ifCond .eq 48, 3) := by decide +kernel
theorem d_X_clause_11 : decode b_X_clause 11 = .ok (.iload_n 2, 1) := by decide +kernel
theorem d_X_clause_12 : decode b_X_clause 12 = .ok (.bipush 100, 2) := by decide +kernel
theorem d_X_clause_14 : decode b_X_clause 14 = .ok (.invokestatic 62, 3) := by decide +kernel
theorem d_X_clause_17 : decode b_X_clause 17 = .ok (.ifCond .eq 39, 3) := by decide +kernel
theorem d_X_clause_20 : decode b_X_clause 20 = .ok (.iload 4, 2) := by decide +kernel
theorem d_X_clause_22 : decode b_X_clause 22 = .ok (.bipush 100, 2) := by decide +kernel
theorem d_X_clause_24 : decode b_X_clause 24 = .ok (.invokestatic 62, 3) := by decide +kernel
theorem d_X_clause_27 : decode b_X_clause 27 = .ok (.ifCond .eq 29, 3) := by decide +kernel
theorem d_X_clause_30 : decode b_X_clause 30 = .ok (.iload 6, 2) := by decide +kernel
theorem d_X_clause_32 : decode b_X_clause 32 = .ok (.bipush 100, 2) := by decide +kernel
theorem d_X_clause_34 : decode b_X_clause 34 = .ok (.invokestatic 62, 3) := by decide +kernel
theorem d_X_clause_37 : decode b_X_clause 37 = .ok (.ifCond .eq 19, 3) := by decide +kernel
theorem d_X_clause_40 : decode b_X_clause 40 = .ok (.iload 7, 2) := by decide +kernel
theorem d_X_clause_42 : decode b_X_clause 42 = .ok (.ifCond .lt 14, 3) := by decide +kernel
theorem d_X_clause_45 : decode b_X_clause 45 = .ok (.iload 7, 2) := by decide +kernel
theorem d_X_clause_47 : decode b_X_clause 47 = .ok (.bipush 7, 2) := by decide +kernel
theorem d_X_clause_49 : decode b_X_clause 49 = .ok (.if_icmp .gt 7, 3) := by decide +kernel
theorem d_X_clause_52 : decode b_X_clause 52 = .ok (.iconst 1, 1) := by decide +kernel
theorem d_X_clause_53 : decode b_X_clause 53 = .ok (.goto 4, 3) := by decide +kernel
theorem d_X_clause_56 : decode b_X_clause 56 = .ok (.iconst 0, 1) := by decide +kernel
theorem d_X_clause_57 : decode b_X_clause 57 = .ok (.istore 8, 2) := by decide +kernel
theorem d_X_clause_59 : decode b_X_clause 59 = .ok (.iload 8, 2) := by decide +kernel
end
end
section
section
theorem d_X_clause_61 : decode b_X_clause 61 = .ok (.ifCond .eq 28, 3) := by decide +kernel
theorem d_X_clause_64 : decode b_X_clause 64 = .ok (.aload_n 0, 1) := by decide +kernel
theorem d_X_clause_65 : decode b_X_clause 65 = .ok (.new 107, 3) := by decide +kernel
theorem d_X_clause_68 : decode b_X_clause 68 = .ok (.dup, 1) := by decide +kernel
theorem d_X_clause_69 : decode b_X_clause 69 = .ok (.iload_n 1, 1) := by decide +kernel
theorem d_X_clause_70 : decode b_X_clause 70 = .ok (.iload_n 2, 1) := by decide +kernel
theorem d_X_clause_71 : decode b_X_clause 71 = .ok (.iload_n 3, 1) := by decide +kernel
theorem d_X_clause_72 : decode b_X_clause 72 = .ok (.iload 4, 2) := by decide +kernel
theorem d_X_clause_74 : decode b_X_clause 74 = .ok (.iload 5, 2) := by decide +kernel
theorem d_X_clause_76 : decode b_X_clause 76 = .ok (.iload 6, 2) := by decide +kernel
theorem d_X_clause_78 : decode b_X_clause 78 = .ok (.iload 7, 2) := by decide +kernel
theorem d_X_clause_80 : decode b_X_clause 80 = .ok (.invokespecial 109, 3) := by decide +kernel
theorem d_X_clause_83 : decode b_X_clause 83 = .ok (.invokevirtual 71, 3) := by decide +kernel
theorem d_X_clause_86 : decode b_X_clause 86 = .ok (.goto 4, 3) := by decide +kernel
theorem d_X_clause_89 : decode b_X_clause 89 = .ok (.iconst (-1), 1) := by decide +kernel
theorem d_X_clause_90 : decode b_X_clause 90 = .ok (.ireturn, 1) := by decide +kernel
end
end
section
section
set_option maxRecDepth 100000 in
set_option maxHeartbeats 4000000 in
theorem c_add (l : Launch) (D : va_G) (q : Nat → Nat) (n P k a : Nat) (z : Int32) (lo hi B av al ah an pt fd : Nat → Int32) (f : (Nat → Int32) → Bool) (o ci : Nat) (fs : List Value) (C : String) (T : u_T) (N : Nat) (y : MethodName) (by9 : ByteArray) (mL : Nat) (rm : Room) (sz : Nat) (hn : n ≤ 8) (hP4 : P ≤ 4096) (hk : k ≤ 12) (hM : ∀ x : Nat → Int32, Met l y (wsm y by9 mL (some .boolean)) rm (va_Pc [.ref o, .ref (q 8)] (cPre D [(o, .inr (ci, fs)), (q 8, .inl (D.1 100, 8, .inl x))])) (vp_Si (fun r => r = zb (f x))) 0 0 (fun _ => False)) (hc : vwCl[ci]? = some (C, T, N)) (hFw : ∀ U : State, xN U → va_Fw C y_K_holdsAt y U) (hwd : Cond.code y by9 mL (some .boolean) ∈ cA ∧ Cond.initialized y.cls ∈ cA ∧ Cond.methodLink R_X 126 y_K_holdsAt ∈ cA ∧ Cond.instanceMethod y ∈ cA ∧ Cond.selects C y_K_holdsAt y ∈ cA) (hrm : rm.cells = 0 ∧ rm.slots = 0 ∧ rm.frames + 1 ≤ 3 ∧ 8 + (mL + 11) + rm.locals ≤ 68) : Met l y_X_add (wsm y_X_add b_X_add 3 (some .int)) { frames := 3, cells := 0, slots := 0, locals := 68 } (va_Pc [.ref (q 0), .ref o] (fun U => U.heap.size = sz ∧ cPre D ((o, .inr (ci, fs)) :: xw D q n P k a z lo hi B av al ah an pt fd) U)) (va_Qi (fun (r : Int32) (u : XS) => addP f n P k a z lo hi B av al ah an pt fd r u) (fun u t => xB D (xW D q u) (va_A ((o, .inr (ci, fs)) :: xw D q n P k a z lo hi B av al ah an pt fd) sz) t) (va_A ((o, .inr (ci, fs)) :: xw D q n P k a z lo hi B av al ah an pt fd) sz)) 0 0 (va_A ((o, .inr (ci, fs)) :: xw D q n P k a z lo hi B av al ah an pt fd) sz) := by
  refine met_W (Qf := fun A => va_Qi (fun (r : Int32) (u : XS) => addP f n P k a z lo hi B av al ah an pt fd r u) (fun u t => xB D (xW D q u) A t) A) (by decide) (Nat.le_of_ble_eq_true rfl) ?_
  intro p e s m below meth c ls A hx hb hr hlocks hml hown hin hA hP hK hD hN hl hS hAA
  have hown : s.vm.findClass R_X = some m.cls := hown
  have hl : lv_has ls 3 [(0, .ref (q 0)), (1, .ref o)] := hl
  refine lv_aload_n hx hb d_X_add_0 rfl (lv_at hl 0 rfl) ?_
  refine va_get (D := D) (ci := 0) (v := .int (nI k)) (C := R_X) (T := T_X) (N := 14) hx hb hA inA_X hown hK hP 1 rfl rfl 5 (by decide) (hA _ wd_30) (fun _ h9 => h9) rfl d_X_add_1 ?_
  refine lv_bipush (v := 12) hx hb d_X_add_4 (by decide) ?_
  refine lv_icmp_lt (tgt := 12) hx hb d_X_add_6 (by decide) (fun h6 => ?_) (fun h6 => ?_)
  · skip
    refine lv_aload_n hx hb d_X_add_12 rfl (lv_at hl 0 rfl) ?_
    refine wVv (n := 0) (wr := [(o, .inr (ci, fs))]) (Wf := xW D q) (rest := []) hx hb hml hown hA (c_goToFirstPoint l D q n P k a z lo hi B av al ah an pt fd _ hn) wv_X_123 ⟨by decide, by decide, by decide +kernel⟩ ⟨rfl, rfl, by decide, by decide⟩ rfl hl.1 ⟨Nat.le_of_ble_eq_true rfl, Nat.le_of_ble_eq_true rfl⟩ hP hK hD hS hAA hN [1, 2, 3, 4, 5, 6, 7, 8, 9, 10] [0] rfl rfl (by decide) (by decide) (by decide) 0 0 rfl rfl rfl (Nat.le_of_ble_eq_true rfl) d_X_add_13 (fun u H locs hu hP hD hS => ?_)
    subst hu
    have hP : va_P D vwCl ((o, .inr (ci, fs)) :: xw D q n P k a z lo hi B av al ah an (va_cpy lo pt 0 0 n) fd) H := hP
    have hD : va_D A ((o, .inr (ci, fs)) :: xw D q n P k a z lo hi B av al ah an (va_cpy lo pt 0 0 n) fd) := hD
    refine lv_iconst (v := 0) hx hb d_X_add_16 (by decide) ?_
    refine lv_istore_n hx hb d_X_add_17 rfl hl (by decide) rfl (fun ls hl => ?_)
    have hl : lv_has ls 3 [(2, .int 0), (0, .ref (q 0)), (1, .ref o)] := hl
    have loop : ∀ (t p9 : Nat) (x Bc : Nat → Int32) (H : Heap) (locs : List Loc) (ls : Array Slot), p9 + t = P → aF lo hi n k f t p9 x Bc = aF lo hi n k f P 0 (va_cpy lo pt 0 0 n) B → lv_has ls 3 [(2, .int (nI p9)), (0, .ref (q 0)), (1, .ref o)] → va_P D vwCl ((o, .inr (ci, fs)) :: xw D q n P k a z lo hi Bc av al ah an x fd) H → va_D A ((o, .inr (ci, fs)) :: xw D q n P k a z lo hi Bc av al ah an x fd) → va_S A s.heap H locs → W p l e { frames := 3, cells := 0, slots := 0, locals := 68 } s m [.ref (q 0), .ref o].toArray below meth c H locs 0 0 (MQ below (va_Qi (fun (r : Int32) (u : XS) => addP f n P k a z lo hi B av al ah an pt fd r u) (fun u t => xB D (xW D q u) A t) A) [.ref (q 0), .ref o].toArray s 0 0 A) (F0 m 18 ls []) := by
      intro t
      induction t with
      | zero =>
        intro p9 x Bc H locs ls hp9 hf hl hP hD hS
        refine lv_iload_n hx hb d_X_add_18 rfl (lv_at hl 0 rfl) ?_
        refine lv_aload_n hx hb d_X_add_19 rfl (lv_at hl 1 rfl) ?_
        refine va_get (D := D) (ci := 0) (v := .int (nI P)) (C := R_X) (T := T_X) (N := 14) hx hb hA inA_X hown hK hP 1 rfl rfl 4 (by decide) (hA _ wd_29) (fun _ h9 => h9) rfl d_X_add_20 ?_
        refine lv_icmp_ge (tgt := 70) hx hb d_X_add_23 (by decide) (fun h23 => ?_) (fun h => absurd (nI_le (by omega) (by omega)) h)
        refine lv_aload_n hx hb d_X_add_70 rfl (lv_at hl 1 rfl) ?_
        refine lv_iconst (v := 0) hx hb d_X_add_71 (by decide) ?_
        refine va_put (D := D) (ci := 0) (v := .int 0) (ty := .boolean) (C := R_X) (T := T_X) (N := 14) hx hb hA inA_X ty_X tok_X nm_X hown hK hP hD hS 1 rfl rfl 11 (by decide) (hA _ wd_36) (fun _ h9 => h9) rfl (by decide +kernel) (by first | rfl | decide) (by first | rfl | decide) (Nat.le_of_ble_eq_true rfl) d_X_add_72 (fun H locs hP hD hS => ?_)
        have hP : va_P D vwCl ((o, .inr (ci, fs)) :: xw D q n P k a 0 lo hi Bc av al ah an x fd) H := hP
        have hD : va_D A ((o, .inr (ci, fs)) :: xw D q n P k a 0 lo hi Bc av al ah an x fd) := hD
        refine lv_aload_n hx hb d_X_add_75 rfl (lv_at hl 1 rfl) ?_
        refine lv_dup hx hb d_X_add_76 rfl ?_
        refine va_get (D := D) (ci := 0) (v := .int (nI k)) (C := R_X) (T := T_X) (N := 14) hx hb hA inA_X hown hK hP 1 rfl rfl 5 (by decide) (hA _ wd_30) (fun _ h9 => h9) rfl d_X_add_77 ?_
        refine lv_dup_x1 hx hb d_X_add_80 rfl rfl ?_
        refine lv_iconst (v := 1) hx hb d_X_add_81 (by decide) ?_
        refine lv_iadd hx hb d_X_add_82 ?_
        refine topi_to (v := nI (k + 1)) ((nI_succ k).symm) ?_
        refine va_put (D := D) (ci := 0) (v := .int (nI (k + 1))) (ty := .int) (C := R_X) (T := T_X) (N := 14) hx hb hA inA_X ty_X tok_X nm_X hown hK hP hD hS 1 rfl rfl 5 (by decide) (hA _ wd_30) (fun _ h9 => h9) rfl (by decide +kernel) (by first | rfl | decide) (by first | rfl | decide) (Nat.le_of_ble_eq_true rfl) d_X_add_83 (fun H locs hP hD hS => ?_)
        have hP : va_P D vwCl ((o, .inr (ci, fs)) :: xw D q n P (k + 1) a 0 lo hi Bc av al ah an x fd) H := hP
        have hD : va_D A ((o, .inr (ci, fs)) :: xw D q n P (k + 1) a 0 lo hi Bc av al ah an x fd) := hD
        have hP : va_P D vwCl (xw D q n P (k + 1) a 0 lo hi Bc av al ah an x fd) _ := va_P.sub1 hP [1, 2, 3, 4, 5, 6, 7, 8, 9, 10] rfl
        have hD : va_D A (xw D q n P (k + 1) a 0 lo hi Bc av al ah an x fd) := va_D.sub hD [1, 2, 3, 4, 5, 6, 7, 8, 9, 10] (by decide) rfl
        exact eWi (n, P, (k + 1), a, 0, lo, hi, Bc, av, al, ah, an, x, fd) hx hb hr hlocks hP hK hD hS (Or.inr ⟨lt12 h6 hk, rfl, by rw [← hf]; rfl⟩) d_X_add_86
      | succ t ih =>
        intro p9 x Bc H locs ls hp9 hf hl hP hD hS
        refine lv_iload_n hx hb d_X_add_18 rfl (lv_at hl 0 rfl) ?_
        refine lv_aload_n hx hb d_X_add_19 rfl (lv_at hl 1 rfl) ?_
        refine va_get (D := D) (ci := 0) (v := .int (nI P)) (C := R_X) (T := T_X) (N := 14) hx hb hA inA_X hown hK hP 1 rfl rfl 4 (by decide) (hA _ wd_29) (fun _ h9 => h9) rfl d_X_add_20 ?_
        refine lv_icmp_ge (tgt := 70) hx hb d_X_add_23 (by decide) (fun h => absurd h (nI_ge (by omega) (by omega))) (fun h23 => ?_)
        refine lv_aload_n hx hb d_X_add_26 rfl (lv_at hl 1 rfl) ?_
        refine va_get (D := D) (ci := 0) (v := .ref (q 3)) (C := R_X) (T := T_X) (N := 14) hx hb hA inA_X hown hK hP 1 rfl rfl 3 (by decide) (hA _ wd_28) (fun _ h9 => h9) rfl d_X_add_27 ?_
        refine lv_iload_n hx hb d_X_add_30 rfl (lv_at hl 0 rfl) ?_
        refine xi_ald hx hb hK hP 4 rfl (by omega) (by decide) d_X_add_31 ?_
        refine lv_bipush (v := 12) hx hb d_X_add_32 (by decide) ?_
        refine lv_icmp_ne (tgt := 60) hx hb d_X_add_34 (by decide) (fun h34 => ?_) (fun h34 => ?_)
        · skip
          refine lv_aload_n hx hb d_X_add_60 rfl (lv_at hl 1 rfl) ?_
          refine wVv (n := 0) (wr := [(o, .inr (ci, fs))]) (Wf := xW D q) (rest := []) hx hb hml hown hA (c_goToNextPoint l D q n P k a z lo hi Bc av al ah an x fd _ hn) wv_X_132 ⟨by decide, by decide, by decide +kernel⟩ ⟨rfl, rfl, by decide, by decide⟩ rfl hl.1 ⟨Nat.le_of_ble_eq_true rfl, Nat.le_of_ble_eq_true rfl⟩ hP hK hD hS hAA hN [1, 2, 3, 4, 5, 6, 7, 8, 9, 10] [0] rfl rfl (by decide) (by decide) (by decide) 0 0 rfl rfl rfl (Nat.le_of_ble_eq_true rfl) d_X_add_61 (fun u H locs hu hP hD hS => ?_)
          subst hu
          have hP : va_P D vwCl ((o, .inr (ci, fs)) :: xw D q n P k a z lo hi Bc av al ah an (nx lo hi n x) fd) H := hP
          have hD : va_D A ((o, .inr (ci, fs)) :: xw D q n P k a z lo hi Bc av al ah an (nx lo hi n x) fd) := hD
          refine lv_iinc (v := nI (p9 + 1)) hx hb d_X_add_64 hl (k := 0) rfl (by rw [nI_succ]; rfl) (by decide) rfl (fun ls hl => ?_)
          have hl : lv_has ls 3 [(2, .int (nI (p9 + 1))), (0, .ref (q 0)), (1, .ref o)] := hl
          refine lv_goto (tgt := 18) hx hb d_X_add_67 (by decide) ?_
          exact ih (p9 + 1) _ _ _ _ _ (by omega) ((aF_no (fun h => h34 h.1)).symm.trans hf) (lv_sub hl [0, 1, 2] rfl) hP hD hS
        · skip
          refine lv_aload_n hx hb d_X_add_37 rfl (lv_at hl 2 rfl) ?_
          refine lv_aload_n hx hb d_X_add_38 rfl (lv_at hl 1 rfl) ?_
          refine va_get (D := D) (ci := 0) (v := .ref (q 8)) (C := R_X) (T := T_X) (N := 14) hx hb hA inA_X hown hK hP 1 rfl rfl 12 (by decide) (hA _ wd_37) (fun _ h9 => h9) rfl d_X_add_39 ?_
          refine rF (n := 1) (rest := []) hx hb hml hown hA (hM x) (hFw s hN) hwd ⟨by decide, by decide, by decide +kernel⟩ ⟨hrm.1, hrm.2.1, hrm.2.2.1, hrm.2.2.2⟩ rfl hl.1 ⟨Nat.le_of_ble_eq_true rfl, Nat.le_of_ble_eq_true rfl⟩ (va_P.sub1 hP [0, 9] rfl) hK (va_D.sub hD [0, 9] (by decide) rfl) hN 0 ci rfl hc (hK.1 ci _ hc).2 rfl (Nat.le_of_ble_eq_true rfl) d_X_add_42 (fun r hr9 => ?_)
          rcases zb_cb hr9 with ⟨rfl, h42⟩ | ⟨rfl, h42⟩
          · skip
            refine lv_if_ne (tgt := 60) hx hb d_X_add_47 (by decide) (fun _ => ?_) (fun h => absurd h (by decide))
            refine lv_aload_n hx hb d_X_add_60 rfl (lv_at hl 1 rfl) ?_
            refine wVv (n := 0) (wr := [(o, .inr (ci, fs))]) (Wf := xW D q) (rest := []) hx hb hml hown hA (c_goToNextPoint l D q n P k a z lo hi Bc av al ah an x fd _ hn) wv_X_132 ⟨by decide, by decide, by decide +kernel⟩ ⟨rfl, rfl, by decide, by decide⟩ rfl hl.1 ⟨Nat.le_of_ble_eq_true rfl, Nat.le_of_ble_eq_true rfl⟩ hP hK hD hS hAA hN [1, 2, 3, 4, 5, 6, 7, 8, 9, 10] [0] rfl rfl (by decide) (by decide) (by decide) 0 0 rfl rfl rfl (Nat.le_of_ble_eq_true rfl) d_X_add_61 (fun u H locs hu hP hD hS => ?_)
            subst hu
            have hP : va_P D vwCl ((o, .inr (ci, fs)) :: xw D q n P k a z lo hi Bc av al ah an (nx lo hi n x) fd) H := hP
            have hD : va_D A ((o, .inr (ci, fs)) :: xw D q n P k a z lo hi Bc av al ah an (nx lo hi n x) fd) := hD
            refine lv_iinc (v := nI (p9 + 1)) hx hb d_X_add_64 hl (k := 0) rfl (by rw [nI_succ]; rfl) (by decide) rfl (fun ls hl => ?_)
            have hl : lv_has ls 3 [(2, .int (nI (p9 + 1))), (0, .ref (q 0)), (1, .ref o)] := hl
            refine lv_goto (tgt := 18) hx hb d_X_add_67 (by decide) ?_
            exact ih (p9 + 1) _ _ _ _ _ (by omega) ((aF_no (fun h => absurd h.2 (by rw [h42]; decide))).symm.trans hf) (lv_sub hl [0, 1, 2] rfl) hP hD hS
          · skip
            refine lv_if_ne (tgt := 60) hx hb d_X_add_47 (by decide) (fun h => absurd h (by decide)) (fun _ => ?_)
            refine lv_aload_n hx hb d_X_add_50 rfl (lv_at hl 1 rfl) ?_
            refine va_get (D := D) (ci := 0) (v := .ref (q 3)) (C := R_X) (T := T_X) (N := 14) hx hb hA inA_X hown hK hP 1 rfl rfl 3 (by decide) (hA _ wd_28) (fun _ h9 => h9) rfl d_X_add_51 ?_
            refine lv_iload_n hx hb d_X_add_54 rfl (lv_at hl 0 rfl) ?_
            refine lv_aload_n hx hb d_X_add_55 rfl (lv_at hl 1 rfl) ?_
            refine va_get (D := D) (ci := 0) (v := .int (nI k)) (C := R_X) (T := T_X) (N := 14) hx hb hA inA_X hown hK hP 1 rfl rfl 5 (by decide) (hA _ wd_30) (fun _ h9 => h9) rfl d_X_add_56 ?_
            refine xi_ast hx hb hK hP hD hS 4 rfl (by omega) (by decide) d_X_add_59 (fun H locs hP hD hS => ?_)
            have hP : va_P D vwCl ((o, .inr (ci, fs)) :: xw D q n P k a z lo hi (upd Bc p9 (nI k)) av al ah an x fd) H := hP
            have hD : va_D A ((o, .inr (ci, fs)) :: xw D q n P k a z lo hi (upd Bc p9 (nI k)) av al ah an x fd) := hD
            refine lv_aload_n hx hb d_X_add_60 rfl (lv_at hl 1 rfl) ?_
            refine wVv (n := 0) (wr := [(o, .inr (ci, fs))]) (Wf := xW D q) (rest := []) hx hb hml hown hA (c_goToNextPoint l D q n P k a z lo hi (upd Bc p9 (nI k)) av al ah an x fd _ hn) wv_X_132 ⟨by decide, by decide, by decide +kernel⟩ ⟨rfl, rfl, by decide, by decide⟩ rfl hl.1 ⟨Nat.le_of_ble_eq_true rfl, Nat.le_of_ble_eq_true rfl⟩ hP hK hD hS hAA hN [1, 2, 3, 4, 5, 6, 7, 8, 9, 10] [0] rfl rfl (by decide) (by decide) (by decide) 0 0 rfl rfl rfl (Nat.le_of_ble_eq_true rfl) d_X_add_61 (fun u H locs hu hP hD hS => ?_)
            subst hu
            have hP : va_P D vwCl ((o, .inr (ci, fs)) :: xw D q n P k a z lo hi (upd Bc p9 (nI k)) av al ah an (nx lo hi n x) fd) H := hP
            have hD : va_D A ((o, .inr (ci, fs)) :: xw D q n P k a z lo hi (upd Bc p9 (nI k)) av al ah an (nx lo hi n x) fd) := hD
            refine lv_iinc (v := nI (p9 + 1)) hx hb d_X_add_64 hl (k := 0) rfl (by rw [nI_succ]; rfl) (by decide) rfl (fun ls hl => ?_)
            have hl : lv_has ls 3 [(2, .int (nI (p9 + 1))), (0, .ref (q 0)), (1, .ref o)] := hl
            refine lv_goto (tgt := 18) hx hb d_X_add_67 (by decide) ?_
            exact ih (p9 + 1) _ _ _ _ _ (by omega) ((aF_go ⟨h34, h42⟩).symm.trans hf) (lv_sub hl [0, 1, 2] rfl) hP hD hS
    exact loop P 0 _ B _ _ _ (by omega) rfl (lv_sub hl [0, 1, 2] rfl) hP hD hS
  · skip
    refine lv_bipush (v := (-2)) hx hb d_X_add_9 (by decide) ?_
    have hP : va_P D vwCl (xw D q n P k a z lo hi B av al ah an pt fd) _ := va_P.sub1 hP [1, 2, 3, 4, 5, 6, 7, 8, 9, 10] rfl
    have hD : va_D A (xw D q n P k a z lo hi B av al ah an pt fd) := va_D.sub hD [1, 2, 3, 4, 5, 6, 7, 8, 9, 10] (by decide) rfl
    exact eWi (n, P, k, a, z, lo, hi, B, av, al, ah, an, pt, fd) hx hb hr hlocks hP hK hD hS (Or.inl ⟨fun h => h6 (nI_lt h (by decide)), rfl, rfl⟩) d_X_add_11
end
end
section
section
set_option maxRecDepth 100000 in
set_option maxHeartbeats 4000000 in
theorem c_reified (l : Launch) (D : va_G) (q : Nat → Nat) (n P k a : Nat) (z : Int32) (lo hi B av al ah an pt fd : Nat → Int32) (r1 i j c1 : Int32) (sz : Nat) (hn : n ≤ 8) (hP4 : P ≤ 4096) (hk : k ≤ 12) : Met l y_X_reified (wsm y_X_reified b_X_reified 6 (some .int)) { frames := 4, cells := 1, slots := 4, locals := 90 } (va_Pc [.ref (q 0), .int r1, .int i, .int j, .int c1] (fun U => U.heap.size = sz ∧ cPre D (xw D q n P k a z lo hi B av al ah an pt fd) U)) (va_Qi (fun (r : Int32) (u : XS) => (¬ (iv n r1 ∧ iv n i ∧ iv n j ∧ wi c1 100) ∧ r = -1 ∧ u = (n, P, k, a, z, lo, hi, B, av, al, ah, an, pt, fd)) ∨ ((iv n r1 ∧ iv n i ∧ iv n j ∧ wi c1 100) ∧ addP (fun x => (decide (kRei r1 i j c1 x))) n P k a z lo hi B av al ah an pt fd r u)) (fun u t => xB D (xW D q u) (va_A (xw D q n P k a z lo hi B av al ah an pt fd) sz) t) (va_A (xw D q n P k a z lo hi B av al ah an pt fd) sz)) 1 4 (va_A (xw D q n P k a z lo hi B av al ah an pt fd) sz) := by
  refine met_W (Qf := fun A => va_Qi (fun (r : Int32) (u : XS) => (¬ (iv n r1 ∧ iv n i ∧ iv n j ∧ wi c1 100) ∧ r = -1 ∧ u = (n, P, k, a, z, lo, hi, B, av, al, ah, an, pt, fd)) ∨ ((iv n r1 ∧ iv n i ∧ iv n j ∧ wi c1 100) ∧ addP (fun x => (decide (kRei r1 i j c1 x))) n P k a z lo hi B av al ah an pt fd r u)) (fun u t => xB D (xW D q u) A t) A) (by decide) (Nat.le_of_ble_eq_true rfl) ?_
  intro p e s m below meth c ls A hx hb hr hlocks hml hown hin hA hP hK hD hN hl hS hAA
  have hown : s.vm.findClass R_X = some m.cls := hown
  have hl : lv_has ls 6 [(0, .ref (q 0)), (1, .int r1), (2, .int i), (3, .int j), (4, .int c1)] := hl
  refine lv_aload_n hx hb d_X_reified_0 rfl (lv_at hl 0 rfl) ?_
  refine lv_iload_n hx hb d_X_reified_1 rfl (lv_at hl 1 rfl) ?_
  refine rV (n := 1) (rest := []) hx hb hml hown hA (c_isVariable l D q n P k a z lo hi B av al ah an pt fd r1) wv_X_75 ⟨by decide, by decide, by decide +kernel⟩ ⟨rfl, rfl, by decide, by decide⟩ rfl hl.1 ⟨Nat.le_of_ble_eq_true rfl, Nat.le_of_ble_eq_true rfl⟩ hP hK hD hN 0 0 rfl rfl rfl (Nat.le_of_ble_eq_true rfl) d_X_reified_2 (fun r hr9 => ?_)
  rcases zb_c hr9 with ⟨rfl, h2⟩ | ⟨rfl, h2⟩
  · skip
    refine lv_if_eq (tgt := 38) hx hb d_X_reified_5 (by decide) (fun h => absurd h (by decide)) (fun _ => ?_)
    refine lv_aload_n hx hb d_X_reified_8 rfl (lv_at hl 0 rfl) ?_
    refine lv_iload_n hx hb d_X_reified_9 rfl (lv_at hl 2 rfl) ?_
    refine rV (n := 1) (rest := []) hx hb hml hown hA (c_isVariable l D q n P k a z lo hi B av al ah an pt fd i) wv_X_75 ⟨by decide, by decide, by decide +kernel⟩ ⟨rfl, rfl, by decide, by decide⟩ rfl hl.1 ⟨Nat.le_of_ble_eq_true rfl, Nat.le_of_ble_eq_true rfl⟩ hP hK hD hN 0 0 rfl rfl rfl (Nat.le_of_ble_eq_true rfl) d_X_reified_10 (fun r hr9 => ?_)
    rcases zb_c hr9 with ⟨rfl, h10⟩ | ⟨rfl, h10⟩
    · skip
      refine lv_if_eq (tgt := 38) hx hb d_X_reified_13 (by decide) (fun h => absurd h (by decide)) (fun _ => ?_)
      refine lv_aload_n hx hb d_X_reified_16 rfl (lv_at hl 0 rfl) ?_
      refine lv_iload_n hx hb d_X_reified_17 rfl (lv_at hl 3 rfl) ?_
      refine rV (n := 1) (rest := []) hx hb hml hown hA (c_isVariable l D q n P k a z lo hi B av al ah an pt fd j) wv_X_75 ⟨by decide, by decide, by decide +kernel⟩ ⟨rfl, rfl, by decide, by decide⟩ rfl hl.1 ⟨Nat.le_of_ble_eq_true rfl, Nat.le_of_ble_eq_true rfl⟩ hP hK hD hN 0 0 rfl rfl rfl (Nat.le_of_ble_eq_true rfl) d_X_reified_18 (fun r hr9 => ?_)
      rcases zb_c hr9 with ⟨rfl, h18⟩ | ⟨rfl, h18⟩
      · skip
        refine lv_if_eq (tgt := 38) hx hb d_X_reified_21 (by decide) (fun h => absurd h (by decide)) (fun _ => ?_)
        refine lv_iload hx hb d_X_reified_24 (lv_at hl 4 rfl) ?_
        refine lv_bipush (v := 100) hx hb d_X_reified_26 (by decide) ?_
        refine rS (n := 2) (rest := []) hx hb hml hown hA (c_isWithin l D c1 100) wv_X_62 ⟨by decide, by decide, by decide +kernel⟩ ⟨rfl, rfl, by decide, by decide⟩ rfl hl.1 ⟨Nat.le_of_ble_eq_true rfl, Nat.le_of_ble_eq_true rfl⟩ (va_P.sub1 hP [] rfl) hK (va_D.sub hD [] rfl rfl) hN rfl (Nat.le_of_ble_eq_true rfl) d_X_reified_28 (fun r hr9 => ?_)
        rcases zb_c hr9 with ⟨rfl, h28⟩ | ⟨rfl, h28⟩
        · skip
          refine lv_if_eq (tgt := 38) hx hb d_X_reified_31 (by decide) (fun h => absurd h (by decide)) (fun _ => ?_)
          refine lv_iconst (v := 1) hx hb d_X_reified_34 (by decide) ?_
          refine lv_goto (tgt := 39) hx hb d_X_reified_35 (by decide) ?_
          refine lv_istore hx hb d_X_reified_39 hl (by decide) rfl (fun ls hl => ?_)
          have hl : lv_has ls 6 [(5, .int 1), (0, .ref (q 0)), (1, .int r1), (2, .int i), (3, .int j), (4, .int c1)] := hl
          refine lv_iload hx hb d_X_reified_41 (lv_at hl 0 rfl) ?_
          refine lv_if_eq (tgt := 65) hx hb d_X_reified_43 (by decide) (fun h => absurd h (by decide)) (fun _ => ?_)
          refine lv_aload_n hx hb d_X_reified_46 rfl (lv_at hl 1 rfl) ?_
          refine va_new (ci := 3) (fs := [.int 0, .int 0, .int 0, .int 0]) (C := R_R) (T := T_R) (N := 4) hx hb hA inA_R ty_R tok_R hown (hA _ wd_216) (hA _ wd_217) (hA _ wd_9) hK hP hD hS hAA rfl (by decide) (by decide) (by decide) d_X_reified_47 (fun o1 H hP hD hS => ?_)
          refine W.widen (k := 1) (n := 4) (by decide) (by decide) ?_
          have hP : va_P D vwCl (xw D q n P k a z lo hi B av al ah an pt fd ++ [(o1, .inr (3, [.int 0, .int 0, .int 0, .int 0]))]) H := hP
          have hD : va_D A (xw D q n P k a z lo hi B av al ah an pt fd ++ [(o1, .inr (3, [.int 0, .int 0, .int 0, .int 0]))]) := hD
          refine lv_dup hx hb d_X_reified_50 rfl ?_
          refine lv_iload_n hx hb d_X_reified_51 rfl (lv_at hl 2 rfl) ?_
          refine lv_iload_n hx hb d_X_reified_52 rfl (lv_at hl 3 rfl) ?_
          refine lv_iload_n hx hb d_X_reified_53 rfl (lv_at hl 4 rfl) ?_
          refine lv_iload hx hb d_X_reified_54 (lv_at hl 5 rfl) ?_
          refine wIN (n := 4) (wr := xw D q n P k a z lo hi B av al ah an pt fd) (Wf := idW) (rest := [.ref o1, .ref (q 0)]) hx hb hml hown hA (c_Reified_init l D o1 r1 i j c1 _) hN.1.2.2.2.2.1 wv_X_81 rfl ⟨by decide, by decide, by decide +kernel⟩ ⟨rfl, rfl, by decide, by decide⟩ rfl hl.1 ⟨Nat.le_of_ble_eq_true rfl, Nat.le_of_ble_eq_true rfl⟩ hP hK hD hS hAA hN [10] [0, 1, 2, 3, 4, 5, 6, 7, 8, 9] rfl rfl (by decide) (by decide) (by decide) rfl (Nat.le_of_ble_eq_true rfl) d_X_reified_56 (fun u H locs hu hP hD hS => ?_)
          subst hu
          refine W.widen (k := 1) (n := 4) (by decide) (by decide) ?_
          have hP : va_P D vwCl (xw D q n P k a z lo hi B av al ah an pt fd ++ [(o1, .inr (3, [.int r1, .int i, .int j, .int c1]))]) H := hP
          have hD : va_D A (xw D q n P k a z lo hi B av al ah an pt fd ++ [(o1, .inr (3, [.int r1, .int i, .int j, .int c1]))]) := hD
          refine wVi (n := 1) (wr := []) (Wf := xW D q) (rest := []) hx hb hml hown hA (c_add l D q n P k a z lo hi B av al ah an pt fd (fun x => (decide (kRei r1 i j c1 x))) o1 3 [.int r1, .int i, .int j, .int c1] R_R T_R 4 y_R_holdsAt b_R_holdsAt 2 _ _ hn hP4 hk (fun x => c_Reified l D o1 (q 8) r1 i j c1 x (iv_in h2 hn) (iv_in h10 hn) (iv_in h18 hn)) rfl (fun U hN => hN.2.2.1) wf_R ⟨rfl, rfl, by decide, by decide⟩) wv_X_71 ⟨by decide, by decide, by decide +kernel⟩ ⟨rfl, rfl, by decide, by decide⟩ rfl hl.1 ⟨Nat.le_of_ble_eq_true rfl, Nat.le_of_ble_eq_true rfl⟩ hP hK hD hS hAA hN [10, 0, 1, 2, 3, 4, 5, 6, 7, 8, 9] [] rfl rfl (by decide) (by decide) (by decide) 1 0 rfl rfl rfl (Nat.le_of_ble_eq_true rfl) d_X_reified_59 (fun r u H locs hu hP hD hS => ?_)
          refine W.widen (k := 1) (n := 4) (by decide) (by decide) ?_
          have hP : va_P D vwCl (xW D q u) H := hP
          have hD : va_D A (xW D q u) := hD
          refine lv_goto (tgt := 66) hx hb d_X_reified_62 (by decide) ?_
          exact eWi u hx hb hr hlocks hP hK hD hS (Or.inr ⟨⟨h2, h10, h18, h28⟩, hu⟩) d_X_reified_66
        · skip
          refine lv_if_eq (tgt := 38) hx hb d_X_reified_31 (by decide) (fun _ => ?_) (fun h => absurd h (by decide))
          refine lv_iconst (v := 0) hx hb d_X_reified_38 (by decide) ?_
          refine lv_istore hx hb d_X_reified_39 hl (by decide) rfl (fun ls hl => ?_)
          have hl : lv_has ls 6 [(5, .int 0), (0, .ref (q 0)), (1, .int r1), (2, .int i), (3, .int j), (4, .int c1)] := hl
          refine lv_iload hx hb d_X_reified_41 (lv_at hl 0 rfl) ?_
          refine lv_if_eq (tgt := 65) hx hb d_X_reified_43 (by decide) (fun _ => ?_) (fun h => absurd h (by decide))
          refine lv_iconst (v := (-1)) hx hb d_X_reified_65 (by decide) ?_
          refine W.widen (k := 1) (n := 4) (by decide) (by decide) ?_
          exact eWi (n, P, k, a, z, lo, hi, B, av, al, ah, an, pt, fd) hx hb hr hlocks hP hK hD hS (by first | exact Or.inl ⟨fun h => h2 h.1, rfl, rfl⟩ | exact Or.inl ⟨fun h => h10 h.2.1, rfl, rfl⟩ | exact Or.inl ⟨fun h => h18 h.2.2.1, rfl, rfl⟩ | exact Or.inl ⟨fun h => h28 h.2.2.2, rfl, rfl⟩) d_X_reified_66
      · skip
        refine lv_if_eq (tgt := 38) hx hb d_X_reified_21 (by decide) (fun _ => ?_) (fun h => absurd h (by decide))
        refine lv_iconst (v := 0) hx hb d_X_reified_38 (by decide) ?_
        refine lv_istore hx hb d_X_reified_39 hl (by decide) rfl (fun ls hl => ?_)
        have hl : lv_has ls 6 [(5, .int 0), (0, .ref (q 0)), (1, .int r1), (2, .int i), (3, .int j), (4, .int c1)] := hl
        refine lv_iload hx hb d_X_reified_41 (lv_at hl 0 rfl) ?_
        refine lv_if_eq (tgt := 65) hx hb d_X_reified_43 (by decide) (fun _ => ?_) (fun h => absurd h (by decide))
        refine lv_iconst (v := (-1)) hx hb d_X_reified_65 (by decide) ?_
        refine W.widen (k := 1) (n := 4) (by decide) (by decide) ?_
        exact eWi (n, P, k, a, z, lo, hi, B, av, al, ah, an, pt, fd) hx hb hr hlocks hP hK hD hS (by first | exact Or.inl ⟨fun h => h2 h.1, rfl, rfl⟩ | exact Or.inl ⟨fun h => h10 h.2.1, rfl, rfl⟩ | exact Or.inl ⟨fun h => h18 h.2.2.1, rfl, rfl⟩ | exact Or.inl ⟨fun h => h28 h.2.2.2, rfl, rfl⟩) d_X_reified_66
    · skip
      refine lv_if_eq (tgt := 38) hx hb d_X_reified_13 (by decide) (fun _ => ?_) (fun h => absurd h (by decide))
      refine lv_iconst (v := 0) hx hb d_X_reified_38 (by decide) ?_
      refine lv_istore hx hb d_X_reified_39 hl (by decide) rfl (fun ls hl => ?_)
      have hl : lv_has ls 6 [(5, .int 0), (0, .ref (q 0)), (1, .int r1), (2, .int i), (3, .int j), (4, .int c1)] := hl
      refine lv_iload hx hb d_X_reified_41 (lv_at hl 0 rfl) ?_
      refine lv_if_eq (tgt := 65) hx hb d_X_reified_43 (by decide) (fun _ => ?_) (fun h => absurd h (by decide))
      refine lv_iconst (v := (-1)) hx hb d_X_reified_65 (by decide) ?_
      refine W.widen (k := 1) (n := 4) (by decide) (by decide) ?_
      exact eWi (n, P, k, a, z, lo, hi, B, av, al, ah, an, pt, fd) hx hb hr hlocks hP hK hD hS (by first | exact Or.inl ⟨fun h => h2 h.1, rfl, rfl⟩ | exact Or.inl ⟨fun h => h10 h.2.1, rfl, rfl⟩ | exact Or.inl ⟨fun h => h18 h.2.2.1, rfl, rfl⟩ | exact Or.inl ⟨fun h => h28 h.2.2.2, rfl, rfl⟩) d_X_reified_66
  · skip
    refine lv_if_eq (tgt := 38) hx hb d_X_reified_5 (by decide) (fun _ => ?_) (fun h => absurd h (by decide))
    refine lv_iconst (v := 0) hx hb d_X_reified_38 (by decide) ?_
    refine lv_istore hx hb d_X_reified_39 hl (by decide) rfl (fun ls hl => ?_)
    have hl : lv_has ls 6 [(5, .int 0), (0, .ref (q 0)), (1, .int r1), (2, .int i), (3, .int j), (4, .int c1)] := hl
    refine lv_iload hx hb d_X_reified_41 (lv_at hl 0 rfl) ?_
    refine lv_if_eq (tgt := 65) hx hb d_X_reified_43 (by decide) (fun _ => ?_) (fun h => absurd h (by decide))
    refine lv_iconst (v := (-1)) hx hb d_X_reified_65 (by decide) ?_
    refine W.widen (k := 1) (n := 4) (by decide) (by decide) ?_
    exact eWi (n, P, k, a, z, lo, hi, B, av, al, ah, an, pt, fd) hx hb hr hlocks hP hK hD hS (by first | exact Or.inl ⟨fun h => h2 h.1, rfl, rfl⟩ | exact Or.inl ⟨fun h => h10 h.2.1, rfl, rfl⟩ | exact Or.inl ⟨fun h => h18 h.2.2.1, rfl, rfl⟩ | exact Or.inl ⟨fun h => h28 h.2.2.2, rfl, rfl⟩) d_X_reified_66
end
end
section
section
set_option maxRecDepth 100000 in
set_option maxHeartbeats 4000000 in
theorem c_linear (l : Launch) (D : va_G) (q : Nat → Nat) (n P k a : Nat) (z : Int32) (lo hi B av al ah an pt fd : Nat → Int32) (i fa j fb v fc bd : Int32) (sz : Nat) (hn : n ≤ 8) (hP4 : P ≤ 4096) (hk : k ≤ 12) : Met l y_X_linear (wsm y_X_linear b_X_linear 9 (some .int)) { frames := 4, cells := 1, slots := 7, locals := 90 } (va_Pc [.ref (q 0), .int i, .int fa, .int j, .int fb, .int v, .int fc, .int bd] (fun U => U.heap.size = sz ∧ cPre D (xw D q n P k a z lo hi B av al ah an pt fd) U)) (va_Qi (fun (r : Int32) (u : XS) => (¬ ((iva n i ∧ iva n j ∧ iva n v) ∧ wi fa 9 ∧ wi fb 9 ∧ wi fc 9 ∧ wi bd 1000) ∧ r = -1 ∧ u = (n, P, k, a, z, lo, hi, B, av, al, ah, an, pt, fd)) ∨ (((iva n i ∧ iva n j ∧ iva n v) ∧ wi fa 9 ∧ wi fb 9 ∧ wi fc 9 ∧ wi bd 1000) ∧ addP (fun x => (decide (kLin i fa j fb v fc bd x))) n P k a z lo hi B av al ah an pt fd r u)) (fun u t => xB D (xW D q u) (va_A (xw D q n P k a z lo hi B av al ah an pt fd) sz) t) (va_A (xw D q n P k a z lo hi B av al ah an pt fd) sz)) 1 7 (va_A (xw D q n P k a z lo hi B av al ah an pt fd) sz) := by
  refine met_W (Qf := fun A => va_Qi (fun (r : Int32) (u : XS) => (¬ ((iva n i ∧ iva n j ∧ iva n v) ∧ wi fa 9 ∧ wi fb 9 ∧ wi fc 9 ∧ wi bd 1000) ∧ r = -1 ∧ u = (n, P, k, a, z, lo, hi, B, av, al, ah, an, pt, fd)) ∨ (((iva n i ∧ iva n j ∧ iva n v) ∧ wi fa 9 ∧ wi fb 9 ∧ wi fc 9 ∧ wi bd 1000) ∧ addP (fun x => (decide (kLin i fa j fb v fc bd x))) n P k a z lo hi B av al ah an pt fd r u)) (fun u t => xB D (xW D q u) A t) A) (by decide) (Nat.le_of_ble_eq_true rfl) ?_
  intro p e s m below meth c ls A hx hb hr hlocks hml hown hin hA hP hK hD hN hl hS hAA
  have hown : s.vm.findClass R_X = some m.cls := hown
  have hl : lv_has ls 9 [(0, .ref (q 0)), (1, .int i), (2, .int fa), (3, .int j), (4, .int fb), (5, .int v), (6, .int fc), (7, .int bd)] := hl
  refine lv_aload_n hx hb d_X_linear_0 rfl (lv_at hl 0 rfl) ?_
  refine lv_iload_n hx hb d_X_linear_1 rfl (lv_at hl 1 rfl) ?_
  refine lv_iload_n hx hb d_X_linear_2 rfl (lv_at hl 3 rfl) ?_
  refine lv_iload hx hb d_X_linear_3 (lv_at hl 5 rfl) ?_
  refine rV (n := 3) (rest := []) hx hb hml hown hA (c_areVariablesOrAbsent l D q n P k a z lo hi B av al ah an pt fd i j v) wv_X_58 ⟨by decide, by decide, by decide +kernel⟩ ⟨rfl, rfl, by decide, by decide⟩ rfl hl.1 ⟨Nat.le_of_ble_eq_true rfl, Nat.le_of_ble_eq_true rfl⟩ hP hK hD hN 0 0 rfl rfl rfl (Nat.le_of_ble_eq_true rfl) d_X_linear_5 (fun r hr9 => ?_)
  rcases zb_c hr9 with ⟨rfl, h5⟩ | ⟨rfl, h5⟩
  · skip
    refine lv_if_eq (tgt := 55) hx hb d_X_linear_8 (by decide) (fun h => absurd h (by decide)) (fun _ => ?_)
    refine lv_iload_n hx hb d_X_linear_11 rfl (lv_at hl 2 rfl) ?_
    refine lv_bipush (v := 9) hx hb d_X_linear_12 (by decide) ?_
    refine rS (n := 2) (rest := []) hx hb hml hown hA (c_isWithin l D fa 9) wv_X_62 ⟨by decide, by decide, by decide +kernel⟩ ⟨rfl, rfl, by decide, by decide⟩ rfl hl.1 ⟨Nat.le_of_ble_eq_true rfl, Nat.le_of_ble_eq_true rfl⟩ (va_P.sub1 hP [] rfl) hK (va_D.sub hD [] rfl rfl) hN rfl (Nat.le_of_ble_eq_true rfl) d_X_linear_14 (fun r hr9 => ?_)
    rcases zb_c hr9 with ⟨rfl, h14⟩ | ⟨rfl, h14⟩
    · skip
      refine lv_if_eq (tgt := 55) hx hb d_X_linear_17 (by decide) (fun h => absurd h (by decide)) (fun _ => ?_)
      refine lv_iload hx hb d_X_linear_20 (lv_at hl 4 rfl) ?_
      refine lv_bipush (v := 9) hx hb d_X_linear_22 (by decide) ?_
      refine rS (n := 2) (rest := []) hx hb hml hown hA (c_isWithin l D fb 9) wv_X_62 ⟨by decide, by decide, by decide +kernel⟩ ⟨rfl, rfl, by decide, by decide⟩ rfl hl.1 ⟨Nat.le_of_ble_eq_true rfl, Nat.le_of_ble_eq_true rfl⟩ (va_P.sub1 hP [] rfl) hK (va_D.sub hD [] rfl rfl) hN rfl (Nat.le_of_ble_eq_true rfl) d_X_linear_24 (fun r hr9 => ?_)
      rcases zb_c hr9 with ⟨rfl, h24⟩ | ⟨rfl, h24⟩
      · skip
        refine lv_if_eq (tgt := 55) hx hb d_X_linear_27 (by decide) (fun h => absurd h (by decide)) (fun _ => ?_)
        refine lv_iload hx hb d_X_linear_30 (lv_at hl 6 rfl) ?_
        refine lv_bipush (v := 9) hx hb d_X_linear_32 (by decide) ?_
        refine rS (n := 2) (rest := []) hx hb hml hown hA (c_isWithin l D fc 9) wv_X_62 ⟨by decide, by decide, by decide +kernel⟩ ⟨rfl, rfl, by decide, by decide⟩ rfl hl.1 ⟨Nat.le_of_ble_eq_true rfl, Nat.le_of_ble_eq_true rfl⟩ (va_P.sub1 hP [] rfl) hK (va_D.sub hD [] rfl rfl) hN rfl (Nat.le_of_ble_eq_true rfl) d_X_linear_34 (fun r hr9 => ?_)
        rcases zb_c hr9 with ⟨rfl, h34⟩ | ⟨rfl, h34⟩
        · skip
          refine lv_if_eq (tgt := 55) hx hb d_X_linear_37 (by decide) (fun h => absurd h (by decide)) (fun _ => ?_)
          refine lv_iload hx hb d_X_linear_40 (lv_at hl 7 rfl) ?_
          refine lv_sipush (v := 1000) hx hb d_X_linear_42 (by decide) ?_
          refine rS (n := 2) (rest := []) hx hb hml hown hA (c_isWithin l D bd 1000) wv_X_62 ⟨by decide, by decide, by decide +kernel⟩ ⟨rfl, rfl, by decide, by decide⟩ rfl hl.1 ⟨Nat.le_of_ble_eq_true rfl, Nat.le_of_ble_eq_true rfl⟩ (va_P.sub1 hP [] rfl) hK (va_D.sub hD [] rfl rfl) hN rfl (Nat.le_of_ble_eq_true rfl) d_X_linear_45 (fun r hr9 => ?_)
          rcases zb_c hr9 with ⟨rfl, h45⟩ | ⟨rfl, h45⟩
          · skip
            refine lv_if_eq (tgt := 55) hx hb d_X_linear_48 (by decide) (fun h => absurd h (by decide)) (fun _ => ?_)
            refine lv_iconst (v := 1) hx hb d_X_linear_51 (by decide) ?_
            refine lv_goto (tgt := 56) hx hb d_X_linear_52 (by decide) ?_
            refine lv_istore hx hb d_X_linear_56 hl (by decide) rfl (fun ls hl => ?_)
            have hl : lv_has ls 9 [(8, .int 1), (0, .ref (q 0)), (1, .int i), (2, .int fa), (3, .int j), (4, .int fb), (5, .int v), (6, .int fc), (7, .int bd)] := hl
            refine lv_iload hx hb d_X_linear_58 (lv_at hl 0 rfl) ?_
            refine lv_if_eq (tgt := 88) hx hb d_X_linear_60 (by decide) (fun h => absurd h (by decide)) (fun _ => ?_)
            refine lv_aload_n hx hb d_X_linear_63 rfl (lv_at hl 1 rfl) ?_
            refine va_new (ci := 2) (fs := [.int 0, .int 0, .int 0, .int 0, .int 0, .int 0, .int 0]) (C := R_L) (T := T_L) (N := 7) hx hb hA inA_L ty_L tok_L hown (hA _ wd_96) (hA _ wd_97) (hA _ wd_5) hK hP hD hS hAA rfl (by decide) (by decide) (by decide) d_X_linear_64 (fun o1 H hP hD hS => ?_)
            refine W.widen (k := 1) (n := 7) (by decide) (by decide) ?_
            have hP : va_P D vwCl (xw D q n P k a z lo hi B av al ah an pt fd ++ [(o1, .inr (2, [.int 0, .int 0, .int 0, .int 0, .int 0, .int 0, .int 0]))]) H := hP
            have hD : va_D A (xw D q n P k a z lo hi B av al ah an pt fd ++ [(o1, .inr (2, [.int 0, .int 0, .int 0, .int 0, .int 0, .int 0, .int 0]))]) := hD
            refine lv_dup hx hb d_X_linear_67 rfl ?_
            refine lv_iload_n hx hb d_X_linear_68 rfl (lv_at hl 2 rfl) ?_
            refine lv_iload_n hx hb d_X_linear_69 rfl (lv_at hl 3 rfl) ?_
            refine lv_iload_n hx hb d_X_linear_70 rfl (lv_at hl 4 rfl) ?_
            refine lv_iload hx hb d_X_linear_71 (lv_at hl 5 rfl) ?_
            refine lv_iload hx hb d_X_linear_73 (lv_at hl 6 rfl) ?_
            refine lv_iload hx hb d_X_linear_75 (lv_at hl 7 rfl) ?_
            refine lv_iload hx hb d_X_linear_77 (lv_at hl 8 rfl) ?_
            refine wIN (n := 7) (wr := xw D q n P k a z lo hi B av al ah an pt fd) (Wf := idW) (rest := [.ref o1, .ref (q 0)]) hx hb hml hown hA (c_Linear_init l D o1 i fa j fb v fc bd _) hN.1.1 wv_X_68 rfl ⟨by decide, by decide, by decide +kernel⟩ ⟨rfl, rfl, by decide, by decide⟩ rfl hl.1 ⟨Nat.le_of_ble_eq_true rfl, Nat.le_of_ble_eq_true rfl⟩ hP hK hD hS hAA hN [10] [0, 1, 2, 3, 4, 5, 6, 7, 8, 9] rfl rfl (by decide) (by decide) (by decide) rfl (Nat.le_of_ble_eq_true rfl) d_X_linear_79 (fun u H locs hu hP hD hS => ?_)
            subst hu
            refine W.widen (k := 1) (n := 7) (by decide) (by decide) ?_
            have hP : va_P D vwCl (xw D q n P k a z lo hi B av al ah an pt fd ++ [(o1, .inr (2, [.int i, .int fa, .int j, .int fb, .int v, .int fc, .int bd]))]) H := hP
            have hD : va_D A (xw D q n P k a z lo hi B av al ah an pt fd ++ [(o1, .inr (2, [.int i, .int fa, .int j, .int fb, .int v, .int fc, .int bd]))]) := hD
            refine wVi (n := 1) (wr := []) (Wf := xW D q) (rest := []) hx hb hml hown hA (c_add l D q n P k a z lo hi B av al ah an pt fd (fun x => (decide (kLin i fa j fb v fc bd x))) o1 2 [.int i, .int fa, .int j, .int fb, .int v, .int fc, .int bd] R_L T_L 7 y_L_holdsAt b_L_holdsAt 2 _ _ hn hP4 hk (fun x => c_Linear l D o1 (q 8) i fa j fb v fc bd x (iva_in h5.1 hn) (iva_in h5.2.1 hn) (iva_in h5.2.2 hn)) rfl (fun U hN => hN.2.1) wf_L ⟨rfl, rfl, by decide, by decide⟩) wv_X_71 ⟨by decide, by decide, by decide +kernel⟩ ⟨rfl, rfl, by decide, by decide⟩ rfl hl.1 ⟨Nat.le_of_ble_eq_true rfl, Nat.le_of_ble_eq_true rfl⟩ hP hK hD hS hAA hN [10, 0, 1, 2, 3, 4, 5, 6, 7, 8, 9] [] rfl rfl (by decide) (by decide) (by decide) 1 0 rfl rfl rfl (Nat.le_of_ble_eq_true rfl) d_X_linear_82 (fun r u H locs hu hP hD hS => ?_)
            refine W.widen (k := 1) (n := 7) (by decide) (by decide) ?_
            have hP : va_P D vwCl (xW D q u) H := hP
            have hD : va_D A (xW D q u) := hD
            refine lv_goto (tgt := 89) hx hb d_X_linear_85 (by decide) ?_
            exact eWi u hx hb hr hlocks hP hK hD hS (Or.inr ⟨⟨h5, h14, h24, h34, h45⟩, hu⟩) d_X_linear_89
          · skip
            refine lv_if_eq (tgt := 55) hx hb d_X_linear_48 (by decide) (fun _ => ?_) (fun h => absurd h (by decide))
            refine lv_iconst (v := 0) hx hb d_X_linear_55 (by decide) ?_
            refine lv_istore hx hb d_X_linear_56 hl (by decide) rfl (fun ls hl => ?_)
            have hl : lv_has ls 9 [(8, .int 0), (0, .ref (q 0)), (1, .int i), (2, .int fa), (3, .int j), (4, .int fb), (5, .int v), (6, .int fc), (7, .int bd)] := hl
            refine lv_iload hx hb d_X_linear_58 (lv_at hl 0 rfl) ?_
            refine lv_if_eq (tgt := 88) hx hb d_X_linear_60 (by decide) (fun _ => ?_) (fun h => absurd h (by decide))
            refine lv_iconst (v := (-1)) hx hb d_X_linear_88 (by decide) ?_
            refine W.widen (k := 1) (n := 7) (by decide) (by decide) ?_
            exact eWi (n, P, k, a, z, lo, hi, B, av, al, ah, an, pt, fd) hx hb hr hlocks hP hK hD hS (by first | exact Or.inl ⟨fun h => h5 h.1, rfl, rfl⟩ | exact Or.inl ⟨fun h => h14 h.2.1, rfl, rfl⟩ | exact Or.inl ⟨fun h => h24 h.2.2.1, rfl, rfl⟩ | exact Or.inl ⟨fun h => h34 h.2.2.2.1, rfl, rfl⟩ | exact Or.inl ⟨fun h => h45 h.2.2.2.2, rfl, rfl⟩) d_X_linear_89
        · skip
          refine lv_if_eq (tgt := 55) hx hb d_X_linear_37 (by decide) (fun _ => ?_) (fun h => absurd h (by decide))
          refine lv_iconst (v := 0) hx hb d_X_linear_55 (by decide) ?_
          refine lv_istore hx hb d_X_linear_56 hl (by decide) rfl (fun ls hl => ?_)
          have hl : lv_has ls 9 [(8, .int 0), (0, .ref (q 0)), (1, .int i), (2, .int fa), (3, .int j), (4, .int fb), (5, .int v), (6, .int fc), (7, .int bd)] := hl
          refine lv_iload hx hb d_X_linear_58 (lv_at hl 0 rfl) ?_
          refine lv_if_eq (tgt := 88) hx hb d_X_linear_60 (by decide) (fun _ => ?_) (fun h => absurd h (by decide))
          refine lv_iconst (v := (-1)) hx hb d_X_linear_88 (by decide) ?_
          refine W.widen (k := 1) (n := 7) (by decide) (by decide) ?_
          exact eWi (n, P, k, a, z, lo, hi, B, av, al, ah, an, pt, fd) hx hb hr hlocks hP hK hD hS (by first | exact Or.inl ⟨fun h => h5 h.1, rfl, rfl⟩ | exact Or.inl ⟨fun h => h14 h.2.1, rfl, rfl⟩ | exact Or.inl ⟨fun h => h24 h.2.2.1, rfl, rfl⟩ | exact Or.inl ⟨fun h => h34 h.2.2.2.1, rfl, rfl⟩ | exact Or.inl ⟨fun h => h45 h.2.2.2.2, rfl, rfl⟩) d_X_linear_89
      · skip
        refine lv_if_eq (tgt := 55) hx hb d_X_linear_27 (by decide) (fun _ => ?_) (fun h => absurd h (by decide))
        refine lv_iconst (v := 0) hx hb d_X_linear_55 (by decide) ?_
        refine lv_istore hx hb d_X_linear_56 hl (by decide) rfl (fun ls hl => ?_)
        have hl : lv_has ls 9 [(8, .int 0), (0, .ref (q 0)), (1, .int i), (2, .int fa), (3, .int j), (4, .int fb), (5, .int v), (6, .int fc), (7, .int bd)] := hl
        refine lv_iload hx hb d_X_linear_58 (lv_at hl 0 rfl) ?_
        refine lv_if_eq (tgt := 88) hx hb d_X_linear_60 (by decide) (fun _ => ?_) (fun h => absurd h (by decide))
        refine lv_iconst (v := (-1)) hx hb d_X_linear_88 (by decide) ?_
        refine W.widen (k := 1) (n := 7) (by decide) (by decide) ?_
        exact eWi (n, P, k, a, z, lo, hi, B, av, al, ah, an, pt, fd) hx hb hr hlocks hP hK hD hS (by first | exact Or.inl ⟨fun h => h5 h.1, rfl, rfl⟩ | exact Or.inl ⟨fun h => h14 h.2.1, rfl, rfl⟩ | exact Or.inl ⟨fun h => h24 h.2.2.1, rfl, rfl⟩ | exact Or.inl ⟨fun h => h34 h.2.2.2.1, rfl, rfl⟩ | exact Or.inl ⟨fun h => h45 h.2.2.2.2, rfl, rfl⟩) d_X_linear_89
    · skip
      refine lv_if_eq (tgt := 55) hx hb d_X_linear_17 (by decide) (fun _ => ?_) (fun h => absurd h (by decide))
      refine lv_iconst (v := 0) hx hb d_X_linear_55 (by decide) ?_
      refine lv_istore hx hb d_X_linear_56 hl (by decide) rfl (fun ls hl => ?_)
      have hl : lv_has ls 9 [(8, .int 0), (0, .ref (q 0)), (1, .int i), (2, .int fa), (3, .int j), (4, .int fb), (5, .int v), (6, .int fc), (7, .int bd)] := hl
      refine lv_iload hx hb d_X_linear_58 (lv_at hl 0 rfl) ?_
      refine lv_if_eq (tgt := 88) hx hb d_X_linear_60 (by decide) (fun _ => ?_) (fun h => absurd h (by decide))
      refine lv_iconst (v := (-1)) hx hb d_X_linear_88 (by decide) ?_
      refine W.widen (k := 1) (n := 7) (by decide) (by decide) ?_
      exact eWi (n, P, k, a, z, lo, hi, B, av, al, ah, an, pt, fd) hx hb hr hlocks hP hK hD hS (by first | exact Or.inl ⟨fun h => h5 h.1, rfl, rfl⟩ | exact Or.inl ⟨fun h => h14 h.2.1, rfl, rfl⟩ | exact Or.inl ⟨fun h => h24 h.2.2.1, rfl, rfl⟩ | exact Or.inl ⟨fun h => h34 h.2.2.2.1, rfl, rfl⟩ | exact Or.inl ⟨fun h => h45 h.2.2.2.2, rfl, rfl⟩) d_X_linear_89
  · skip
    refine lv_if_eq (tgt := 55) hx hb d_X_linear_8 (by decide) (fun _ => ?_) (fun h => absurd h (by decide))
    refine lv_iconst (v := 0) hx hb d_X_linear_55 (by decide) ?_
    refine lv_istore hx hb d_X_linear_56 hl (by decide) rfl (fun ls hl => ?_)
    have hl : lv_has ls 9 [(8, .int 0), (0, .ref (q 0)), (1, .int i), (2, .int fa), (3, .int j), (4, .int fb), (5, .int v), (6, .int fc), (7, .int bd)] := hl
    refine lv_iload hx hb d_X_linear_58 (lv_at hl 0 rfl) ?_
    refine lv_if_eq (tgt := 88) hx hb d_X_linear_60 (by decide) (fun _ => ?_) (fun h => absurd h (by decide))
    refine lv_iconst (v := (-1)) hx hb d_X_linear_88 (by decide) ?_
    refine W.widen (k := 1) (n := 7) (by decide) (by decide) ?_
    exact eWi (n, P, k, a, z, lo, hi, B, av, al, ah, an, pt, fd) hx hb hr hlocks hP hK hD hS (by first | exact Or.inl ⟨fun h => h5 h.1, rfl, rfl⟩ | exact Or.inl ⟨fun h => h14 h.2.1, rfl, rfl⟩ | exact Or.inl ⟨fun h => h24 h.2.2.1, rfl, rfl⟩ | exact Or.inl ⟨fun h => h34 h.2.2.2.1, rfl, rfl⟩ | exact Or.inl ⟨fun h => h45 h.2.2.2.2, rfl, rfl⟩) d_X_linear_89
end
end
section
section
set_option maxRecDepth 100000 in
set_option maxHeartbeats 4000000 in
theorem c_maximum (l : Launch) (D : va_G) (q : Nat → Nat) (n P k a : Nat) (z : Int32) (lo hi B av al ah an pt fd : Nat → Int32) (r1 i j v : Int32) (sz : Nat) (hn : n ≤ 8) (hP4 : P ≤ 4096) (hk : k ≤ 12) : Met l y_X_maximum (wsm y_X_maximum b_X_maximum 6 (some .int)) { frames := 4, cells := 1, slots := 4, locals := 90 } (va_Pc [.ref (q 0), .int r1, .int i, .int j, .int v] (fun U => U.heap.size = sz ∧ cPre D (xw D q n P k a z lo hi B av al ah an pt fd) U)) (va_Qi (fun (r : Int32) (u : XS) => (¬ (iv n r1 ∧ iv n i ∧ iva n j ∧ iva n v) ∧ r = -1 ∧ u = (n, P, k, a, z, lo, hi, B, av, al, ah, an, pt, fd)) ∨ ((iv n r1 ∧ iv n i ∧ iva n j ∧ iva n v) ∧ addP (fun x => (decide (kMax r1 i j v x))) n P k a z lo hi B av al ah an pt fd r u)) (fun u t => xB D (xW D q u) (va_A (xw D q n P k a z lo hi B av al ah an pt fd) sz) t) (va_A (xw D q n P k a z lo hi B av al ah an pt fd) sz)) 1 4 (va_A (xw D q n P k a z lo hi B av al ah an pt fd) sz) := by
  refine met_W (Qf := fun A => va_Qi (fun (r : Int32) (u : XS) => (¬ (iv n r1 ∧ iv n i ∧ iva n j ∧ iva n v) ∧ r = -1 ∧ u = (n, P, k, a, z, lo, hi, B, av, al, ah, an, pt, fd)) ∨ ((iv n r1 ∧ iv n i ∧ iva n j ∧ iva n v) ∧ addP (fun x => (decide (kMax r1 i j v x))) n P k a z lo hi B av al ah an pt fd r u)) (fun u t => xB D (xW D q u) A t) A) (by decide) (Nat.le_of_ble_eq_true rfl) ?_
  intro p e s m below meth c ls A hx hb hr hlocks hml hown hin hA hP hK hD hN hl hS hAA
  have hown : s.vm.findClass R_X = some m.cls := hown
  have hl : lv_has ls 6 [(0, .ref (q 0)), (1, .int r1), (2, .int i), (3, .int j), (4, .int v)] := hl
  refine lv_aload_n hx hb d_X_maximum_0 rfl (lv_at hl 0 rfl) ?_
  refine lv_iload_n hx hb d_X_maximum_1 rfl (lv_at hl 1 rfl) ?_
  refine rV (n := 1) (rest := []) hx hb hml hown hA (c_isVariable l D q n P k a z lo hi B av al ah an pt fd r1) wv_X_75 ⟨by decide, by decide, by decide +kernel⟩ ⟨rfl, rfl, by decide, by decide⟩ rfl hl.1 ⟨Nat.le_of_ble_eq_true rfl, Nat.le_of_ble_eq_true rfl⟩ hP hK hD hN 0 0 rfl rfl rfl (Nat.le_of_ble_eq_true rfl) d_X_maximum_2 (fun r hr9 => ?_)
  rcases zb_c hr9 with ⟨rfl, h2⟩ | ⟨rfl, h2⟩
  · skip
    refine lv_if_eq (tgt := 37) hx hb d_X_maximum_5 (by decide) (fun h => absurd h (by decide)) (fun _ => ?_)
    refine lv_aload_n hx hb d_X_maximum_8 rfl (lv_at hl 0 rfl) ?_
    refine lv_iload_n hx hb d_X_maximum_9 rfl (lv_at hl 2 rfl) ?_
    refine rV (n := 1) (rest := []) hx hb hml hown hA (c_isVariable l D q n P k a z lo hi B av al ah an pt fd i) wv_X_75 ⟨by decide, by decide, by decide +kernel⟩ ⟨rfl, rfl, by decide, by decide⟩ rfl hl.1 ⟨Nat.le_of_ble_eq_true rfl, Nat.le_of_ble_eq_true rfl⟩ hP hK hD hN 0 0 rfl rfl rfl (Nat.le_of_ble_eq_true rfl) d_X_maximum_10 (fun r hr9 => ?_)
    rcases zb_c hr9 with ⟨rfl, h10⟩ | ⟨rfl, h10⟩
    · skip
      refine lv_if_eq (tgt := 37) hx hb d_X_maximum_13 (by decide) (fun h => absurd h (by decide)) (fun _ => ?_)
      refine lv_aload_n hx hb d_X_maximum_16 rfl (lv_at hl 0 rfl) ?_
      refine lv_iload_n hx hb d_X_maximum_17 rfl (lv_at hl 3 rfl) ?_
      refine rV (n := 1) (rest := []) hx hb hml hown hA (c_isVariableOrAbsent l D q n P k a z lo hi B av al ah an pt fd j) wv_X_84 ⟨by decide, by decide, by decide +kernel⟩ ⟨rfl, rfl, by decide, by decide⟩ rfl hl.1 ⟨Nat.le_of_ble_eq_true rfl, Nat.le_of_ble_eq_true rfl⟩ hP hK hD hN 0 0 rfl rfl rfl (Nat.le_of_ble_eq_true rfl) d_X_maximum_18 (fun r hr9 => ?_)
      rcases zb_c hr9 with ⟨rfl, h18⟩ | ⟨rfl, h18⟩
      · skip
        refine lv_if_eq (tgt := 37) hx hb d_X_maximum_21 (by decide) (fun h => absurd h (by decide)) (fun _ => ?_)
        refine lv_aload_n hx hb d_X_maximum_24 rfl (lv_at hl 0 rfl) ?_
        refine lv_iload hx hb d_X_maximum_25 (lv_at hl 4 rfl) ?_
        refine rV (n := 1) (rest := []) hx hb hml hown hA (c_isVariableOrAbsent l D q n P k a z lo hi B av al ah an pt fd v) wv_X_84 ⟨by decide, by decide, by decide +kernel⟩ ⟨rfl, rfl, by decide, by decide⟩ rfl hl.1 ⟨Nat.le_of_ble_eq_true rfl, Nat.le_of_ble_eq_true rfl⟩ hP hK hD hN 0 0 rfl rfl rfl (Nat.le_of_ble_eq_true rfl) d_X_maximum_27 (fun r hr9 => ?_)
        rcases zb_c hr9 with ⟨rfl, h27⟩ | ⟨rfl, h27⟩
        · skip
          refine lv_if_eq (tgt := 37) hx hb d_X_maximum_30 (by decide) (fun h => absurd h (by decide)) (fun _ => ?_)
          refine lv_iconst (v := 1) hx hb d_X_maximum_33 (by decide) ?_
          refine lv_goto (tgt := 38) hx hb d_X_maximum_34 (by decide) ?_
          refine lv_istore hx hb d_X_maximum_38 hl (by decide) rfl (fun ls hl => ?_)
          have hl : lv_has ls 6 [(5, .int 1), (0, .ref (q 0)), (1, .int r1), (2, .int i), (3, .int j), (4, .int v)] := hl
          refine lv_iload hx hb d_X_maximum_40 (lv_at hl 0 rfl) ?_
          refine lv_if_eq (tgt := 64) hx hb d_X_maximum_42 (by decide) (fun h => absurd h (by decide)) (fun _ => ?_)
          refine lv_aload_n hx hb d_X_maximum_45 rfl (lv_at hl 1 rfl) ?_
          refine va_new (ci := 4) (fs := [.int 0, .int 0, .int 0, .int 0]) (C := R_M) (T := T_M) (N := 4) hx hb hA inA_M ty_M tok_M hown (hA _ wd_239) (hA _ wd_240) (hA _ wd_10) hK hP hD hS hAA rfl (by decide) (by decide) (by decide) d_X_maximum_46 (fun o1 H hP hD hS => ?_)
          refine W.widen (k := 1) (n := 4) (by decide) (by decide) ?_
          have hP : va_P D vwCl (xw D q n P k a z lo hi B av al ah an pt fd ++ [(o1, .inr (4, [.int 0, .int 0, .int 0, .int 0]))]) H := hP
          have hD : va_D A (xw D q n P k a z lo hi B av al ah an pt fd ++ [(o1, .inr (4, [.int 0, .int 0, .int 0, .int 0]))]) := hD
          refine lv_dup hx hb d_X_maximum_49 rfl ?_
          refine lv_iload_n hx hb d_X_maximum_50 rfl (lv_at hl 2 rfl) ?_
          refine lv_iload_n hx hb d_X_maximum_51 rfl (lv_at hl 3 rfl) ?_
          refine lv_iload_n hx hb d_X_maximum_52 rfl (lv_at hl 4 rfl) ?_
          refine lv_iload hx hb d_X_maximum_53 (lv_at hl 5 rfl) ?_
          refine wIN (n := 4) (wr := xw D q n P k a z lo hi B av al ah an pt fd) (Wf := idW) (rest := [.ref o1, .ref (q 0)]) hx hb hml hown hA (c_Maximum_init l D o1 r1 i j v _) hN.1.2.2.2.2.2.1 wv_X_89 rfl ⟨by decide, by decide, by decide +kernel⟩ ⟨rfl, rfl, by decide, by decide⟩ rfl hl.1 ⟨Nat.le_of_ble_eq_true rfl, Nat.le_of_ble_eq_true rfl⟩ hP hK hD hS hAA hN [10] [0, 1, 2, 3, 4, 5, 6, 7, 8, 9] rfl rfl (by decide) (by decide) (by decide) rfl (Nat.le_of_ble_eq_true rfl) d_X_maximum_55 (fun u H locs hu hP hD hS => ?_)
          subst hu
          refine W.widen (k := 1) (n := 4) (by decide) (by decide) ?_
          have hP : va_P D vwCl (xw D q n P k a z lo hi B av al ah an pt fd ++ [(o1, .inr (4, [.int r1, .int i, .int j, .int v]))]) H := hP
          have hD : va_D A (xw D q n P k a z lo hi B av al ah an pt fd ++ [(o1, .inr (4, [.int r1, .int i, .int j, .int v]))]) := hD
          refine wVi (n := 1) (wr := []) (Wf := xW D q) (rest := []) hx hb hml hown hA (c_add l D q n P k a z lo hi B av al ah an pt fd (fun x => (decide (kMax r1 i j v x))) o1 4 [.int r1, .int i, .int j, .int v] R_M T_M 4 y_M_holdsAt b_M_holdsAt 3 _ _ hn hP4 hk (fun x => c_Maximum l D o1 (q 8) r1 i j v x (iv_in h2 hn) (iv_in h10 hn) (iva_in h18 hn) (iva_in h27 hn)) rfl (fun U hN => hN.2.2.2.1) wf_M ⟨rfl, rfl, by decide, by decide⟩) wv_X_71 ⟨by decide, by decide, by decide +kernel⟩ ⟨rfl, rfl, by decide, by decide⟩ rfl hl.1 ⟨Nat.le_of_ble_eq_true rfl, Nat.le_of_ble_eq_true rfl⟩ hP hK hD hS hAA hN [10, 0, 1, 2, 3, 4, 5, 6, 7, 8, 9] [] rfl rfl (by decide) (by decide) (by decide) 1 0 rfl rfl rfl (Nat.le_of_ble_eq_true rfl) d_X_maximum_58 (fun r u H locs hu hP hD hS => ?_)
          refine W.widen (k := 1) (n := 4) (by decide) (by decide) ?_
          have hP : va_P D vwCl (xW D q u) H := hP
          have hD : va_D A (xW D q u) := hD
          refine lv_goto (tgt := 65) hx hb d_X_maximum_61 (by decide) ?_
          exact eWi u hx hb hr hlocks hP hK hD hS (Or.inr ⟨⟨h2, h10, h18, h27⟩, hu⟩) d_X_maximum_65
        · skip
          refine lv_if_eq (tgt := 37) hx hb d_X_maximum_30 (by decide) (fun _ => ?_) (fun h => absurd h (by decide))
          refine lv_iconst (v := 0) hx hb d_X_maximum_37 (by decide) ?_
          refine lv_istore hx hb d_X_maximum_38 hl (by decide) rfl (fun ls hl => ?_)
          have hl : lv_has ls 6 [(5, .int 0), (0, .ref (q 0)), (1, .int r1), (2, .int i), (3, .int j), (4, .int v)] := hl
          refine lv_iload hx hb d_X_maximum_40 (lv_at hl 0 rfl) ?_
          refine lv_if_eq (tgt := 64) hx hb d_X_maximum_42 (by decide) (fun _ => ?_) (fun h => absurd h (by decide))
          refine lv_iconst (v := (-1)) hx hb d_X_maximum_64 (by decide) ?_
          refine W.widen (k := 1) (n := 4) (by decide) (by decide) ?_
          exact eWi (n, P, k, a, z, lo, hi, B, av, al, ah, an, pt, fd) hx hb hr hlocks hP hK hD hS (by first | exact Or.inl ⟨fun h => h2 h.1, rfl, rfl⟩ | exact Or.inl ⟨fun h => h10 h.2.1, rfl, rfl⟩ | exact Or.inl ⟨fun h => h18 h.2.2.1, rfl, rfl⟩ | exact Or.inl ⟨fun h => h27 h.2.2.2, rfl, rfl⟩) d_X_maximum_65
      · skip
        refine lv_if_eq (tgt := 37) hx hb d_X_maximum_21 (by decide) (fun _ => ?_) (fun h => absurd h (by decide))
        refine lv_iconst (v := 0) hx hb d_X_maximum_37 (by decide) ?_
        refine lv_istore hx hb d_X_maximum_38 hl (by decide) rfl (fun ls hl => ?_)
        have hl : lv_has ls 6 [(5, .int 0), (0, .ref (q 0)), (1, .int r1), (2, .int i), (3, .int j), (4, .int v)] := hl
        refine lv_iload hx hb d_X_maximum_40 (lv_at hl 0 rfl) ?_
        refine lv_if_eq (tgt := 64) hx hb d_X_maximum_42 (by decide) (fun _ => ?_) (fun h => absurd h (by decide))
        refine lv_iconst (v := (-1)) hx hb d_X_maximum_64 (by decide) ?_
        refine W.widen (k := 1) (n := 4) (by decide) (by decide) ?_
        exact eWi (n, P, k, a, z, lo, hi, B, av, al, ah, an, pt, fd) hx hb hr hlocks hP hK hD hS (by first | exact Or.inl ⟨fun h => h2 h.1, rfl, rfl⟩ | exact Or.inl ⟨fun h => h10 h.2.1, rfl, rfl⟩ | exact Or.inl ⟨fun h => h18 h.2.2.1, rfl, rfl⟩ | exact Or.inl ⟨fun h => h27 h.2.2.2, rfl, rfl⟩) d_X_maximum_65
    · skip
      refine lv_if_eq (tgt := 37) hx hb d_X_maximum_13 (by decide) (fun _ => ?_) (fun h => absurd h (by decide))
      refine lv_iconst (v := 0) hx hb d_X_maximum_37 (by decide) ?_
      refine lv_istore hx hb d_X_maximum_38 hl (by decide) rfl (fun ls hl => ?_)
      have hl : lv_has ls 6 [(5, .int 0), (0, .ref (q 0)), (1, .int r1), (2, .int i), (3, .int j), (4, .int v)] := hl
      refine lv_iload hx hb d_X_maximum_40 (lv_at hl 0 rfl) ?_
      refine lv_if_eq (tgt := 64) hx hb d_X_maximum_42 (by decide) (fun _ => ?_) (fun h => absurd h (by decide))
      refine lv_iconst (v := (-1)) hx hb d_X_maximum_64 (by decide) ?_
      refine W.widen (k := 1) (n := 4) (by decide) (by decide) ?_
      exact eWi (n, P, k, a, z, lo, hi, B, av, al, ah, an, pt, fd) hx hb hr hlocks hP hK hD hS (by first | exact Or.inl ⟨fun h => h2 h.1, rfl, rfl⟩ | exact Or.inl ⟨fun h => h10 h.2.1, rfl, rfl⟩ | exact Or.inl ⟨fun h => h18 h.2.2.1, rfl, rfl⟩ | exact Or.inl ⟨fun h => h27 h.2.2.2, rfl, rfl⟩) d_X_maximum_65
  · skip
    refine lv_if_eq (tgt := 37) hx hb d_X_maximum_5 (by decide) (fun _ => ?_) (fun h => absurd h (by decide))
    refine lv_iconst (v := 0) hx hb d_X_maximum_37 (by decide) ?_
    refine lv_istore hx hb d_X_maximum_38 hl (by decide) rfl (fun ls hl => ?_)
    have hl : lv_has ls 6 [(5, .int 0), (0, .ref (q 0)), (1, .int r1), (2, .int i), (3, .int j), (4, .int v)] := hl
    refine lv_iload hx hb d_X_maximum_40 (lv_at hl 0 rfl) ?_
    refine lv_if_eq (tgt := 64) hx hb d_X_maximum_42 (by decide) (fun _ => ?_) (fun h => absurd h (by decide))
    refine lv_iconst (v := (-1)) hx hb d_X_maximum_64 (by decide) ?_
    refine W.widen (k := 1) (n := 4) (by decide) (by decide) ?_
    exact eWi (n, P, k, a, z, lo, hi, B, av, al, ah, an, pt, fd) hx hb hr hlocks hP hK hD hS (by first | exact Or.inl ⟨fun h => h2 h.1, rfl, rfl⟩ | exact Or.inl ⟨fun h => h10 h.2.1, rfl, rfl⟩ | exact Or.inl ⟨fun h => h18 h.2.2.1, rfl, rfl⟩ | exact Or.inl ⟨fun h => h27 h.2.2.2, rfl, rfl⟩) d_X_maximum_65
end
end
section
section
set_option maxRecDepth 100000 in
set_option maxHeartbeats 4000000 in
theorem c_element (l : Launch) (D : va_G) (q : Nat → Nat) (n P k a : Nat) (z : Int32) (lo hi B av al ah an pt fd : Nat → Int32) (r1 i : Int32) (tb : Int64) (sz : Nat) (hn : n ≤ 8) (hP4 : P ≤ 4096) (hk : k ≤ 12) : Met l y_X_element (wsm y_X_element b_X_element 6 (some .int)) { frames := 4, cells := 1, slots := 3, locals := 90 } (va_Pc [.ref (q 0), .int r1, .int i, .long tb] (fun U => U.heap.size = sz ∧ cPre D (xw D q n P k a z lo hi B av al ah an pt fd) U)) (va_Qi (fun (r : Int32) (u : XS) => (¬ (iv n r1 ∧ iv n i) ∧ r = -1 ∧ u = (n, P, k, a, z, lo, hi, B, av, al, ah, an, pt, fd)) ∨ ((iv n r1 ∧ iv n i) ∧ addP (fun x => (decide (kEle r1 i tb x))) n P k a z lo hi B av al ah an pt fd r u)) (fun u t => xB D (xW D q u) (va_A (xw D q n P k a z lo hi B av al ah an pt fd) sz) t) (va_A (xw D q n P k a z lo hi B av al ah an pt fd) sz)) 1 3 (va_A (xw D q n P k a z lo hi B av al ah an pt fd) sz) := by
  refine met_W (Qf := fun A => va_Qi (fun (r : Int32) (u : XS) => (¬ (iv n r1 ∧ iv n i) ∧ r = -1 ∧ u = (n, P, k, a, z, lo, hi, B, av, al, ah, an, pt, fd)) ∨ ((iv n r1 ∧ iv n i) ∧ addP (fun x => (decide (kEle r1 i tb x))) n P k a z lo hi B av al ah an pt fd r u)) (fun u t => xB D (xW D q u) A t) A) (by decide) (Nat.le_of_ble_eq_true rfl) ?_
  intro p e s m below meth c ls A hx hb hr hlocks hml hown hin hA hP hK hD hN hl hS hAA
  have hown : s.vm.findClass R_X = some m.cls := hown
  have hl : lv_has ls 6 [(0, .ref (q 0)), (1, .int r1), (2, .int i), (3, .long tb)] := hl
  refine lv_aload_n hx hb d_X_element_0 rfl (lv_at hl 0 rfl) ?_
  refine lv_iload_n hx hb d_X_element_1 rfl (lv_at hl 1 rfl) ?_
  refine rV (n := 1) (rest := []) hx hb hml hown hA (c_isVariable l D q n P k a z lo hi B av al ah an pt fd r1) wv_X_75 ⟨by decide, by decide, by decide +kernel⟩ ⟨rfl, rfl, by decide, by decide⟩ rfl hl.1 ⟨Nat.le_of_ble_eq_true rfl, Nat.le_of_ble_eq_true rfl⟩ hP hK hD hN 0 0 rfl rfl rfl (Nat.le_of_ble_eq_true rfl) d_X_element_2 (fun r hr9 => ?_)
  rcases zb_c hr9 with ⟨rfl, h2⟩ | ⟨rfl, h2⟩
  · skip
    refine lv_if_eq (tgt := 20) hx hb d_X_element_5 (by decide) (fun h => absurd h (by decide)) (fun _ => ?_)
    refine lv_aload_n hx hb d_X_element_8 rfl (lv_at hl 0 rfl) ?_
    refine lv_iload_n hx hb d_X_element_9 rfl (lv_at hl 2 rfl) ?_
    refine rV (n := 1) (rest := []) hx hb hml hown hA (c_isVariable l D q n P k a z lo hi B av al ah an pt fd i) wv_X_75 ⟨by decide, by decide, by decide +kernel⟩ ⟨rfl, rfl, by decide, by decide⟩ rfl hl.1 ⟨Nat.le_of_ble_eq_true rfl, Nat.le_of_ble_eq_true rfl⟩ hP hK hD hN 0 0 rfl rfl rfl (Nat.le_of_ble_eq_true rfl) d_X_element_10 (fun r hr9 => ?_)
    rcases zb_c hr9 with ⟨rfl, h10⟩ | ⟨rfl, h10⟩
    · skip
      refine lv_if_eq (tgt := 20) hx hb d_X_element_13 (by decide) (fun h => absurd h (by decide)) (fun _ => ?_)
      refine lv_iconst (v := 1) hx hb d_X_element_16 (by decide) ?_
      refine lv_goto (tgt := 21) hx hb d_X_element_17 (by decide) ?_
      refine lv_istore hx hb d_X_element_21 hl (by decide) rfl (fun ls hl => ?_)
      have hl : lv_has ls 6 [(5, .int 1), (0, .ref (q 0)), (1, .int r1), (2, .int i), (3, .long tb)] := hl
      refine lv_iload hx hb d_X_element_23 (lv_at hl 0 rfl) ?_
      refine lv_if_eq (tgt := 45) hx hb d_X_element_25 (by decide) (fun h => absurd h (by decide)) (fun _ => ?_)
      refine lv_aload_n hx hb d_X_element_28 rfl (lv_at hl 1 rfl) ?_
      refine va_new (ci := 5) (fs := [.int 0, .int 0, .long 0]) (C := R_E) (T := T_E) (N := 3) hx hb hA inA_E ty_E tok_E hown (hA _ wd_262) (hA _ wd_263) (hA _ wd_11) hK hP hD hS hAA rfl (by decide) (by decide) (by decide) d_X_element_29 (fun o1 H hP hD hS => ?_)
      refine W.widen (k := 1) (n := 3) (by decide) (by decide) ?_
      have hP : va_P D vwCl (xw D q n P k a z lo hi B av al ah an pt fd ++ [(o1, .inr (5, [.int 0, .int 0, .long 0]))]) H := hP
      have hD : va_D A (xw D q n P k a z lo hi B av al ah an pt fd ++ [(o1, .inr (5, [.int 0, .int 0, .long 0]))]) := hD
      refine lv_dup hx hb d_X_element_32 rfl ?_
      refine lv_iload_n hx hb d_X_element_33 rfl (lv_at hl 2 rfl) ?_
      refine lv_iload_n hx hb d_X_element_34 rfl (lv_at hl 3 rfl) ?_
      refine lv_lload_n hx hb d_X_element_35 rfl (lv_at hl 4 rfl) ?_
      refine wIN (n := 3) (wr := xw D q n P k a z lo hi B av al ah an pt fd) (Wf := idW) (rest := [.ref o1, .ref (q 0)]) hx hb hml hown hA (c_Element_init l D o1 r1 i tb _) hN.1.2.2.2.2.2.2.1 wv_X_92 rfl ⟨by decide, by decide, by decide +kernel⟩ ⟨rfl, rfl, by decide, by decide⟩ rfl hl.1 ⟨Nat.le_of_ble_eq_true rfl, Nat.le_of_ble_eq_true rfl⟩ hP hK hD hS hAA hN [10] [0, 1, 2, 3, 4, 5, 6, 7, 8, 9] rfl rfl (by decide) (by decide) (by decide) rfl (Nat.le_of_ble_eq_true rfl) d_X_element_36 (fun u H locs hu hP hD hS => ?_)
      subst hu
      refine W.widen (k := 1) (n := 3) (by decide) (by decide) ?_
      have hP : va_P D vwCl (xw D q n P k a z lo hi B av al ah an pt fd ++ [(o1, .inr (5, [.int r1, .int i, .long tb]))]) H := hP
      have hD : va_D A (xw D q n P k a z lo hi B av al ah an pt fd ++ [(o1, .inr (5, [.int r1, .int i, .long tb]))]) := hD
      refine wVi (n := 1) (wr := []) (Wf := xW D q) (rest := []) hx hb hml hown hA (c_add l D q n P k a z lo hi B av al ah an pt fd (fun x => (decide (kEle r1 i tb x))) o1 5 [.int r1, .int i, .long tb] R_E T_E 3 y_E_holdsAt b_E_holdsAt 2 _ _ hn hP4 hk (fun x => c_Element l D o1 (q 8) r1 i tb x (iv_in h2 hn) (iv_in h10 hn)) rfl (fun U hN => hN.2.2.2.2.1) wf_E ⟨rfl, rfl, by decide, by decide⟩) wv_X_71 ⟨by decide, by decide, by decide +kernel⟩ ⟨rfl, rfl, by decide, by decide⟩ rfl hl.1 ⟨Nat.le_of_ble_eq_true rfl, Nat.le_of_ble_eq_true rfl⟩ hP hK hD hS hAA hN [10, 0, 1, 2, 3, 4, 5, 6, 7, 8, 9] [] rfl rfl (by decide) (by decide) (by decide) 1 0 rfl rfl rfl (Nat.le_of_ble_eq_true rfl) d_X_element_39 (fun r u H locs hu hP hD hS => ?_)
      refine W.widen (k := 1) (n := 3) (by decide) (by decide) ?_
      have hP : va_P D vwCl (xW D q u) H := hP
      have hD : va_D A (xW D q u) := hD
      refine lv_goto (tgt := 46) hx hb d_X_element_42 (by decide) ?_
      exact eWi u hx hb hr hlocks hP hK hD hS (Or.inr ⟨⟨h2, h10⟩, hu⟩) d_X_element_46
    · skip
      refine lv_if_eq (tgt := 20) hx hb d_X_element_13 (by decide) (fun _ => ?_) (fun h => absurd h (by decide))
      refine lv_iconst (v := 0) hx hb d_X_element_20 (by decide) ?_
      refine lv_istore hx hb d_X_element_21 hl (by decide) rfl (fun ls hl => ?_)
      have hl : lv_has ls 6 [(5, .int 0), (0, .ref (q 0)), (1, .int r1), (2, .int i), (3, .long tb)] := hl
      refine lv_iload hx hb d_X_element_23 (lv_at hl 0 rfl) ?_
      refine lv_if_eq (tgt := 45) hx hb d_X_element_25 (by decide) (fun _ => ?_) (fun h => absurd h (by decide))
      refine lv_iconst (v := (-1)) hx hb d_X_element_45 (by decide) ?_
      refine W.widen (k := 1) (n := 3) (by decide) (by decide) ?_
      exact eWi (n, P, k, a, z, lo, hi, B, av, al, ah, an, pt, fd) hx hb hr hlocks hP hK hD hS (by first | exact Or.inl ⟨fun h => h2 h.1, rfl, rfl⟩ | exact Or.inl ⟨fun h => h10 h.2, rfl, rfl⟩) d_X_element_46
  · skip
    refine lv_if_eq (tgt := 20) hx hb d_X_element_5 (by decide) (fun _ => ?_) (fun h => absurd h (by decide))
    refine lv_iconst (v := 0) hx hb d_X_element_20 (by decide) ?_
    refine lv_istore hx hb d_X_element_21 hl (by decide) rfl (fun ls hl => ?_)
    have hl : lv_has ls 6 [(5, .int 0), (0, .ref (q 0)), (1, .int r1), (2, .int i), (3, .long tb)] := hl
    refine lv_iload hx hb d_X_element_23 (lv_at hl 0 rfl) ?_
    refine lv_if_eq (tgt := 45) hx hb d_X_element_25 (by decide) (fun _ => ?_) (fun h => absurd h (by decide))
    refine lv_iconst (v := (-1)) hx hb d_X_element_45 (by decide) ?_
    refine W.widen (k := 1) (n := 3) (by decide) (by decide) ?_
    exact eWi (n, P, k, a, z, lo, hi, B, av, al, ah, an, pt, fd) hx hb hr hlocks hP hK hD hS (by first | exact Or.inl ⟨fun h => h2 h.1, rfl, rfl⟩ | exact Or.inl ⟨fun h => h10 h.2, rfl, rfl⟩) d_X_element_46
end
end
section
section
set_option maxRecDepth 100000 in
set_option maxHeartbeats 4000000 in
theorem c_different (l : Launch) (D : va_G) (q : Nat → Nat) (n P k a : Nat) (z : Int32) (lo hi B av al ah an pt fd : Nat → Int32) (t1 : Int32) (sz : Nat) (hn : n ≤ 8) (hP4 : P ≤ 4096) (hk : k ≤ 12) : Met l y_X_different (wsm y_X_different b_X_different 2 (some .int)) { frames := 4, cells := 1, slots := 1, locals := 90 } (va_Pc [.ref (q 0), .int t1] (fun U => U.heap.size = sz ∧ cPre D (xw D q n P k a z lo hi B av al ah an pt fd) U)) (va_Qi (fun (r : Int32) (u : XS) => (¬ (ivs n t1) ∧ r = -1 ∧ u = (n, P, k, a, z, lo, hi, B, av, al, ah, an, pt, fd)) ∨ ((ivs n t1) ∧ addP (fun x => (kDif t1 x 8 0 0)) n P k a z lo hi B av al ah an pt fd r u)) (fun u t => xB D (xW D q u) (va_A (xw D q n P k a z lo hi B av al ah an pt fd) sz) t) (va_A (xw D q n P k a z lo hi B av al ah an pt fd) sz)) 1 1 (va_A (xw D q n P k a z lo hi B av al ah an pt fd) sz) := by
  refine met_W (Qf := fun A => va_Qi (fun (r : Int32) (u : XS) => (¬ (ivs n t1) ∧ r = -1 ∧ u = (n, P, k, a, z, lo, hi, B, av, al, ah, an, pt, fd)) ∨ ((ivs n t1) ∧ addP (fun x => (kDif t1 x 8 0 0)) n P k a z lo hi B av al ah an pt fd r u)) (fun u t => xB D (xW D q u) A t) A) (by decide) (Nat.le_of_ble_eq_true rfl) ?_
  intro p e s m below meth c ls A hx hb hr hlocks hml hown hin hA hP hK hD hN hl hS hAA
  have hown : s.vm.findClass R_X = some m.cls := hown
  have hl : lv_has ls 2 [(0, .ref (q 0)), (1, .int t1)] := hl
  refine lv_aload_n hx hb d_X_different_0 rfl (lv_at hl 0 rfl) ?_
  refine lv_iload_n hx hb d_X_different_1 rfl (lv_at hl 1 rfl) ?_
  refine rV (n := 1) (rest := []) hx hb hml hown hA (c_isSetOfVariables l D q n P k a z lo hi B av al ah an pt fd t1) wv_X_95 ⟨by decide, by decide, by decide +kernel⟩ ⟨rfl, rfl, by decide, by decide⟩ rfl hl.1 ⟨Nat.le_of_ble_eq_true rfl, Nat.le_of_ble_eq_true rfl⟩ hP hK hD hN 0 0 rfl rfl rfl (Nat.le_of_ble_eq_true rfl) d_X_different_2 (fun r hr9 => ?_)
  rcases zb_c hr9 with ⟨rfl, h2⟩ | ⟨rfl, h2⟩
  · skip
    refine lv_if_eq (tgt := 23) hx hb d_X_different_5 (by decide) (fun h => absurd h (by decide)) (fun _ => ?_)
    refine lv_aload_n hx hb d_X_different_8 rfl (lv_at hl 0 rfl) ?_
    refine va_new (ci := 6) (fs := [.int 0]) (C := R_D) (T := T_D) (N := 1) hx hb hA inA_D ty_D tok_D hown (hA _ wd_286) (hA _ wd_287) (hA _ wd_12) hK hP hD hS hAA rfl (by decide) (by decide) (by decide) d_X_different_9 (fun o1 H hP hD hS => ?_)
    refine W.widen (k := 1) (n := 1) (by decide) (by decide) ?_
    have hP : va_P D vwCl (xw D q n P k a z lo hi B av al ah an pt fd ++ [(o1, .inr (6, [.int 0]))]) H := hP
    have hD : va_D A (xw D q n P k a z lo hi B av al ah an pt fd ++ [(o1, .inr (6, [.int 0]))]) := hD
    refine lv_dup hx hb d_X_different_12 rfl ?_
    refine lv_iload_n hx hb d_X_different_13 rfl (lv_at hl 1 rfl) ?_
    refine wIN (n := 1) (wr := xw D q n P k a z lo hi B av al ah an pt fd) (Wf := idW) (rest := [.ref o1, .ref (q 0)]) hx hb hml hown hA (c_Different_init l D o1 t1 _) hN.1.2.2.2.2.2.2.2.1 wv_X_100 rfl ⟨by decide, by decide, by decide +kernel⟩ ⟨rfl, rfl, by decide, by decide⟩ rfl hl.1 ⟨Nat.le_of_ble_eq_true rfl, Nat.le_of_ble_eq_true rfl⟩ hP hK hD hS hAA hN [10] [0, 1, 2, 3, 4, 5, 6, 7, 8, 9] rfl rfl (by decide) (by decide) (by decide) rfl (Nat.le_of_ble_eq_true rfl) d_X_different_14 (fun u H locs hu hP hD hS => ?_)
    subst hu
    refine W.widen (k := 1) (n := 1) (by decide) (by decide) ?_
    have hP : va_P D vwCl (xw D q n P k a z lo hi B av al ah an pt fd ++ [(o1, .inr (6, [.int t1]))]) H := hP
    have hD : va_D A (xw D q n P k a z lo hi B av al ah an pt fd ++ [(o1, .inr (6, [.int t1]))]) := hD
    refine wVi (n := 1) (wr := []) (Wf := xW D q) (rest := []) hx hb hml hown hA (c_add l D q n P k a z lo hi B av al ah an pt fd (fun x => (kDif t1 x 8 0 0)) o1 6 [.int t1] R_D T_D 1 y_D_holdsAt b_D_holdsAt 7 _ _ hn hP4 hk (fun x => c_Different l D o1 (q 8) t1 x ) rfl (fun U hN => hN.2.2.2.2.2.1) wf_D ⟨rfl, rfl, by decide, by decide⟩) wv_X_71 ⟨by decide, by decide, by decide +kernel⟩ ⟨rfl, rfl, by decide, by decide⟩ rfl hl.1 ⟨Nat.le_of_ble_eq_true rfl, Nat.le_of_ble_eq_true rfl⟩ hP hK hD hS hAA hN [10, 0, 1, 2, 3, 4, 5, 6, 7, 8, 9] [] rfl rfl (by decide) (by decide) (by decide) 1 0 rfl rfl rfl (Nat.le_of_ble_eq_true rfl) d_X_different_17 (fun r u H locs hu hP hD hS => ?_)
    refine W.widen (k := 1) (n := 1) (by decide) (by decide) ?_
    have hP : va_P D vwCl (xW D q u) H := hP
    have hD : va_D A (xW D q u) := hD
    refine lv_goto (tgt := 24) hx hb d_X_different_20 (by decide) ?_
    exact eWi u hx hb hr hlocks hP hK hD hS (Or.inr ⟨h2, hu⟩) d_X_different_24
  · skip
    refine lv_if_eq (tgt := 23) hx hb d_X_different_5 (by decide) (fun _ => ?_) (fun h => absurd h (by decide))
    refine lv_iconst (v := (-1)) hx hb d_X_different_23 (by decide) ?_
    refine W.widen (k := 1) (n := 1) (by decide) (by decide) ?_
    exact eWi (n, P, k, a, z, lo, hi, B, av, al, ah, an, pt, fd) hx hb hr hlocks hP hK hD hS (by first | exact Or.inl ⟨h2, rfl, rfl⟩) d_X_different_24
end
end
section
section
set_option maxRecDepth 100000 in
set_option maxHeartbeats 4000000 in
theorem c_cumulative (l : Launch) (D : va_G) (q : Nat → Nat) (n P k a : Nat) (z : Int32) (lo hi B av al ah an pt fd : Nat → Int32) (t1 : Int32) (du ne : Int64) (cp : Int32) (sz : Nat) (hn : n ≤ 8) (hP4 : P ≤ 4096) (hk : k ≤ 12) : Met l y_X_cumulative (wsm y_X_cumulative b_X_cumulative 8 (some .int)) { frames := 4, cells := 1, slots := 4, locals := 90 } (va_Pc [.ref (q 0), .int t1, .long du, .long ne, .int cp] (fun U => U.heap.size = sz ∧ cPre D (xw D q n P k a z lo hi B av al ah an pt fd) U)) (va_Qi (fun (r : Int32) (u : XS) => (¬ (ivs n t1 ∧ ¬ cp < 0 ∧ ¬ 100 < cp) ∧ r = -1 ∧ u = (n, P, k, a, z, lo, hi, B, av, al, ah, an, pt, fd)) ∨ ((ivs n t1 ∧ ¬ cp < 0 ∧ ¬ 100 < cp) ∧ addP (fun x => (kCum t1 du ne cp x 8 0)) n P k a z lo hi B av al ah an pt fd r u)) (fun u t => xB D (xW D q u) (va_A (xw D q n P k a z lo hi B av al ah an pt fd) sz) t) (va_A (xw D q n P k a z lo hi B av al ah an pt fd) sz)) 1 4 (va_A (xw D q n P k a z lo hi B av al ah an pt fd) sz) := by
  refine met_W (Qf := fun A => va_Qi (fun (r : Int32) (u : XS) => (¬ (ivs n t1 ∧ ¬ cp < 0 ∧ ¬ 100 < cp) ∧ r = -1 ∧ u = (n, P, k, a, z, lo, hi, B, av, al, ah, an, pt, fd)) ∨ ((ivs n t1 ∧ ¬ cp < 0 ∧ ¬ 100 < cp) ∧ addP (fun x => (kCum t1 du ne cp x 8 0)) n P k a z lo hi B av al ah an pt fd r u)) (fun u t => xB D (xW D q u) A t) A) (by decide) (Nat.le_of_ble_eq_true rfl) ?_
  intro p e s m below meth c ls A hx hb hr hlocks hml hown hin hA hP hK hD hN hl hS hAA
  have hown : s.vm.findClass R_X = some m.cls := hown
  have hl : lv_has ls 8 [(0, .ref (q 0)), (1, .int t1), (2, .long du), (4, .long ne), (6, .int cp)] := hl
  refine lv_aload_n hx hb d_X_cumulative_0 rfl (lv_at hl 0 rfl) ?_
  refine lv_iload_n hx hb d_X_cumulative_1 rfl (lv_at hl 1 rfl) ?_
  refine rV (n := 1) (rest := []) hx hb hml hown hA (c_isSetOfVariables l D q n P k a z lo hi B av al ah an pt fd t1) wv_X_95 ⟨by decide, by decide, by decide +kernel⟩ ⟨rfl, rfl, by decide, by decide⟩ rfl hl.1 ⟨Nat.le_of_ble_eq_true rfl, Nat.le_of_ble_eq_true rfl⟩ hP hK hD hN 0 0 rfl rfl rfl (Nat.le_of_ble_eq_true rfl) d_X_cumulative_2 (fun r hr9 => ?_)
  rcases zb_c hr9 with ⟨rfl, h2⟩ | ⟨rfl, h2⟩
  · skip
    refine lv_if_eq (tgt := 24) hx hb d_X_cumulative_5 (by decide) (fun h => absurd h (by decide)) (fun _ => ?_)
    refine lv_iload hx hb d_X_cumulative_8 (lv_at hl 4 rfl) ?_
    refine lv_if_lt (tgt := 24) hx hb d_X_cumulative_10 (by decide) (fun h10 => ?_) (fun h10 => ?_)
    · skip
      refine lv_iconst (v := 0) hx hb d_X_cumulative_24 (by decide) ?_
      refine lv_istore hx hb d_X_cumulative_25 hl (by decide) rfl (fun ls hl => ?_)
      have hl : lv_has ls 8 [(7, .int 0), (0, .ref (q 0)), (1, .int t1), (2, .long du), (4, .long ne), (6, .int cp)] := hl
      refine lv_iload hx hb d_X_cumulative_27 (lv_at hl 0 rfl) ?_
      refine lv_if_eq (tgt := 52) hx hb d_X_cumulative_29 (by decide) (fun _ => ?_) (fun h => absurd h (by decide))
      refine lv_iconst (v := (-1)) hx hb d_X_cumulative_52 (by decide) ?_
      refine W.widen (k := 1) (n := 4) (by decide) (by decide) ?_
      exact eWi (n, P, k, a, z, lo, hi, B, av, al, ah, an, pt, fd) hx hb hr hlocks hP hK hD hS (by first | exact Or.inl ⟨fun h => h2 h.1, rfl, rfl⟩ | exact Or.inl ⟨fun h => h.2.1 h10, rfl, rfl⟩ | exact Or.inl ⟨fun h => h.2.2 h17, rfl, rfl⟩) d_X_cumulative_53
    · skip
      refine lv_iload hx hb d_X_cumulative_13 (lv_at hl 4 rfl) ?_
      refine lv_bipush (v := 100) hx hb d_X_cumulative_15 (by decide) ?_
      refine lv_icmp_gt (tgt := 24) hx hb d_X_cumulative_17 (by decide) (fun h17 => ?_) (fun h17 => ?_)
      · skip
        refine lv_iconst (v := 0) hx hb d_X_cumulative_24 (by decide) ?_
        refine lv_istore hx hb d_X_cumulative_25 hl (by decide) rfl (fun ls hl => ?_)
        have hl : lv_has ls 8 [(7, .int 0), (0, .ref (q 0)), (1, .int t1), (2, .long du), (4, .long ne), (6, .int cp)] := hl
        refine lv_iload hx hb d_X_cumulative_27 (lv_at hl 0 rfl) ?_
        refine lv_if_eq (tgt := 52) hx hb d_X_cumulative_29 (by decide) (fun _ => ?_) (fun h => absurd h (by decide))
        refine lv_iconst (v := (-1)) hx hb d_X_cumulative_52 (by decide) ?_
        refine W.widen (k := 1) (n := 4) (by decide) (by decide) ?_
        exact eWi (n, P, k, a, z, lo, hi, B, av, al, ah, an, pt, fd) hx hb hr hlocks hP hK hD hS (by first | exact Or.inl ⟨fun h => h2 h.1, rfl, rfl⟩ | exact Or.inl ⟨fun h => h.2.1 h10, rfl, rfl⟩ | exact Or.inl ⟨fun h => h.2.2 h17, rfl, rfl⟩) d_X_cumulative_53
      · skip
        refine lv_iconst (v := 1) hx hb d_X_cumulative_20 (by decide) ?_
        refine lv_goto (tgt := 25) hx hb d_X_cumulative_21 (by decide) ?_
        refine lv_istore hx hb d_X_cumulative_25 hl (by decide) rfl (fun ls hl => ?_)
        have hl : lv_has ls 8 [(7, .int 1), (0, .ref (q 0)), (1, .int t1), (2, .long du), (4, .long ne), (6, .int cp)] := hl
        refine lv_iload hx hb d_X_cumulative_27 (lv_at hl 0 rfl) ?_
        refine lv_if_eq (tgt := 52) hx hb d_X_cumulative_29 (by decide) (fun h => absurd h (by decide)) (fun _ => ?_)
        refine lv_aload_n hx hb d_X_cumulative_32 rfl (lv_at hl 1 rfl) ?_
        refine va_new (ci := 7) (fs := [.int 0, .long 0, .long 0, .int 0]) (C := R_U) (T := T_U) (N := 4) hx hb hA inA_U ty_U tok_U hown (hA _ wd_300) (hA _ wd_166) (hA _ wd_7) hK hP hD hS hAA rfl (by decide) (by decide) (by decide) d_X_cumulative_33 (fun o1 H hP hD hS => ?_)
        refine W.widen (k := 1) (n := 4) (by decide) (by decide) ?_
        have hP : va_P D vwCl (xw D q n P k a z lo hi B av al ah an pt fd ++ [(o1, .inr (7, [.int 0, .long 0, .long 0, .int 0]))]) H := hP
        have hD : va_D A (xw D q n P k a z lo hi B av al ah an pt fd ++ [(o1, .inr (7, [.int 0, .long 0, .long 0, .int 0]))]) := hD
        refine lv_dup hx hb d_X_cumulative_36 rfl ?_
        refine lv_iload_n hx hb d_X_cumulative_37 rfl (lv_at hl 2 rfl) ?_
        refine lv_lload_n hx hb d_X_cumulative_38 rfl (lv_at hl 3 rfl) ?_
        refine lv_lload hx hb d_X_cumulative_39 (lv_at hl 4 rfl) ?_
        refine lv_iload hx hb d_X_cumulative_41 (lv_at hl 5 rfl) ?_
        refine wIN (n := 4) (wr := xw D q n P k a z lo hi B av al ah an pt fd) (Wf := idW) (rest := [.ref o1, .ref (q 0)]) hx hb hml hown hA (c_Cumulative_init l D o1 t1 du ne cp _) hN.1.2.2.2.2.2.2.2.2.1 wv_X_104 rfl ⟨by decide, by decide, by decide +kernel⟩ ⟨rfl, rfl, by decide, by decide⟩ rfl hl.1 ⟨Nat.le_of_ble_eq_true rfl, Nat.le_of_ble_eq_true rfl⟩ hP hK hD hS hAA hN [10] [0, 1, 2, 3, 4, 5, 6, 7, 8, 9] rfl rfl (by decide) (by decide) (by decide) rfl (Nat.le_of_ble_eq_true rfl) d_X_cumulative_43 (fun u H locs hu hP hD hS => ?_)
        subst hu
        refine W.widen (k := 1) (n := 4) (by decide) (by decide) ?_
        have hP : va_P D vwCl (xw D q n P k a z lo hi B av al ah an pt fd ++ [(o1, .inr (7, [.int t1, .long du, .long ne, .int cp]))]) H := hP
        have hD : va_D A (xw D q n P k a z lo hi B av al ah an pt fd ++ [(o1, .inr (7, [.int t1, .long du, .long ne, .int cp]))]) := hD
        refine wVi (n := 1) (wr := []) (Wf := xW D q) (rest := []) hx hb hml hown hA (c_add l D q n P k a z lo hi B av al ah an pt fd (fun x => (kCum t1 du ne cp x 8 0)) o1 7 [.int t1, .long du, .long ne, .int cp] R_U T_U 4 y_U_holdsAt b_U_holdsAt 3 _ _ hn hP4 hk (fun x => c_Cumulative l D o1 (q 8) t1 du ne cp x ) rfl (fun U hN => hN.2.2.2.2.2.2.1) wf_U ⟨rfl, rfl, by decide, by decide⟩) wv_X_71 ⟨by decide, by decide, by decide +kernel⟩ ⟨rfl, rfl, by decide, by decide⟩ rfl hl.1 ⟨Nat.le_of_ble_eq_true rfl, Nat.le_of_ble_eq_true rfl⟩ hP hK hD hS hAA hN [10, 0, 1, 2, 3, 4, 5, 6, 7, 8, 9] [] rfl rfl (by decide) (by decide) (by decide) 1 0 rfl rfl rfl (Nat.le_of_ble_eq_true rfl) d_X_cumulative_46 (fun r u H locs hu hP hD hS => ?_)
        refine W.widen (k := 1) (n := 4) (by decide) (by decide) ?_
        have hP : va_P D vwCl (xW D q u) H := hP
        have hD : va_D A (xW D q u) := hD
        refine lv_goto (tgt := 53) hx hb d_X_cumulative_49 (by decide) ?_
        exact eWi u hx hb hr hlocks hP hK hD hS (Or.inr ⟨⟨h2, h10, h17⟩, hu⟩) d_X_cumulative_53
  · skip
    refine lv_if_eq (tgt := 24) hx hb d_X_cumulative_5 (by decide) (fun _ => ?_) (fun h => absurd h (by decide))
    refine lv_iconst (v := 0) hx hb d_X_cumulative_24 (by decide) ?_
    refine lv_istore hx hb d_X_cumulative_25 hl (by decide) rfl (fun ls hl => ?_)
    have hl : lv_has ls 8 [(7, .int 0), (0, .ref (q 0)), (1, .int t1), (2, .long du), (4, .long ne), (6, .int cp)] := hl
    refine lv_iload hx hb d_X_cumulative_27 (lv_at hl 0 rfl) ?_
    refine lv_if_eq (tgt := 52) hx hb d_X_cumulative_29 (by decide) (fun _ => ?_) (fun h => absurd h (by decide))
    refine lv_iconst (v := (-1)) hx hb d_X_cumulative_52 (by decide) ?_
    refine W.widen (k := 1) (n := 4) (by decide) (by decide) ?_
    exact eWi (n, P, k, a, z, lo, hi, B, av, al, ah, an, pt, fd) hx hb hr hlocks hP hK hD hS (by first | exact Or.inl ⟨fun h => h2 h.1, rfl, rfl⟩ | exact Or.inl ⟨fun h => h.2.1 h10, rfl, rfl⟩ | exact Or.inl ⟨fun h => h.2.2 h17, rfl, rfl⟩) d_X_cumulative_53
end
end
section
section
set_option maxRecDepth 100000 in
set_option maxHeartbeats 4000000 in
theorem c_clause (l : Launch) (D : va_G) (q : Nat → Nat) (n P k a : Nat) (z : Int32) (lo hi B av al ah an pt fd : Nat → Int32) (i w1 j w2 v w3 how : Int32) (sz : Nat) (hn : n ≤ 8) (hP4 : P ≤ 4096) (hk : k ≤ 12) : Met l y_X_clause (wsm y_X_clause b_X_clause 9 (some .int)) { frames := 4, cells := 1, slots := 7, locals := 90 } (va_Pc [.ref (q 0), .int i, .int w1, .int j, .int w2, .int v, .int w3, .int how] (fun U => U.heap.size = sz ∧ cPre D (xw D q n P k a z lo hi B av al ah an pt fd) U)) (va_Qi (fun (r : Int32) (u : XS) => (¬ ((iva n i ∧ iva n j ∧ iva n v) ∧ wi w1 100 ∧ wi w2 100 ∧ wi w3 100 ∧ ¬ how < 0 ∧ ¬ 7 < how) ∧ r = -1 ∧ u = (n, P, k, a, z, lo, hi, B, av, al, ah, an, pt, fd)) ∨ (((iva n i ∧ iva n j ∧ iva n v) ∧ wi w1 100 ∧ wi w2 100 ∧ wi w3 100 ∧ ¬ how < 0 ∧ ¬ 7 < how) ∧ addP (fun x => (decide (kCla i w1 j w2 v w3 how x))) n P k a z lo hi B av al ah an pt fd r u)) (fun u t => xB D (xW D q u) (va_A (xw D q n P k a z lo hi B av al ah an pt fd) sz) t) (va_A (xw D q n P k a z lo hi B av al ah an pt fd) sz)) 1 7 (va_A (xw D q n P k a z lo hi B av al ah an pt fd) sz) := by
  refine met_W (Qf := fun A => va_Qi (fun (r : Int32) (u : XS) => (¬ ((iva n i ∧ iva n j ∧ iva n v) ∧ wi w1 100 ∧ wi w2 100 ∧ wi w3 100 ∧ ¬ how < 0 ∧ ¬ 7 < how) ∧ r = -1 ∧ u = (n, P, k, a, z, lo, hi, B, av, al, ah, an, pt, fd)) ∨ (((iva n i ∧ iva n j ∧ iva n v) ∧ wi w1 100 ∧ wi w2 100 ∧ wi w3 100 ∧ ¬ how < 0 ∧ ¬ 7 < how) ∧ addP (fun x => (decide (kCla i w1 j w2 v w3 how x))) n P k a z lo hi B av al ah an pt fd r u)) (fun u t => xB D (xW D q u) A t) A) (by decide) (Nat.le_of_ble_eq_true rfl) ?_
  intro p e s m below meth c ls A hx hb hr hlocks hml hown hin hA hP hK hD hN hl hS hAA
  have hown : s.vm.findClass R_X = some m.cls := hown
  have hl : lv_has ls 9 [(0, .ref (q 0)), (1, .int i), (2, .int w1), (3, .int j), (4, .int w2), (5, .int v), (6, .int w3), (7, .int how)] := hl
  refine lv_aload_n hx hb d_X_clause_0 rfl (lv_at hl 0 rfl) ?_
  refine lv_iload_n hx hb d_X_clause_1 rfl (lv_at hl 1 rfl) ?_
  refine lv_iload_n hx hb d_X_clause_2 rfl (lv_at hl 3 rfl) ?_
  refine lv_iload hx hb d_X_clause_3 (lv_at hl 5 rfl) ?_
  refine rV (n := 3) (rest := []) hx hb hml hown hA (c_areVariablesOrAbsent l D q n P k a z lo hi B av al ah an pt fd i j v) wv_X_58 ⟨by decide, by decide, by decide +kernel⟩ ⟨rfl, rfl, by decide, by decide⟩ rfl hl.1 ⟨Nat.le_of_ble_eq_true rfl, Nat.le_of_ble_eq_true rfl⟩ hP hK hD hN 0 0 rfl rfl rfl (Nat.le_of_ble_eq_true rfl) d_X_clause_5 (fun r hr9 => ?_)
  rcases zb_c hr9 with ⟨rfl, h5⟩ | ⟨rfl, h5⟩
  · skip
    refine lv_if_eq (tgt := 56) hx hb d_X_clause_8 (by decide) (fun h => absurd h (by decide)) (fun _ => ?_)
    refine lv_iload_n hx hb d_X_clause_11 rfl (lv_at hl 2 rfl) ?_
    refine lv_bipush (v := 100) hx hb d_X_clause_12 (by decide) ?_
    refine rS (n := 2) (rest := []) hx hb hml hown hA (c_isWithin l D w1 100) wv_X_62 ⟨by decide, by decide, by decide +kernel⟩ ⟨rfl, rfl, by decide, by decide⟩ rfl hl.1 ⟨Nat.le_of_ble_eq_true rfl, Nat.le_of_ble_eq_true rfl⟩ (va_P.sub1 hP [] rfl) hK (va_D.sub hD [] rfl rfl) hN rfl (Nat.le_of_ble_eq_true rfl) d_X_clause_14 (fun r hr9 => ?_)
    rcases zb_c hr9 with ⟨rfl, h14⟩ | ⟨rfl, h14⟩
    · skip
      refine lv_if_eq (tgt := 56) hx hb d_X_clause_17 (by decide) (fun h => absurd h (by decide)) (fun _ => ?_)
      refine lv_iload hx hb d_X_clause_20 (lv_at hl 4 rfl) ?_
      refine lv_bipush (v := 100) hx hb d_X_clause_22 (by decide) ?_
      refine rS (n := 2) (rest := []) hx hb hml hown hA (c_isWithin l D w2 100) wv_X_62 ⟨by decide, by decide, by decide +kernel⟩ ⟨rfl, rfl, by decide, by decide⟩ rfl hl.1 ⟨Nat.le_of_ble_eq_true rfl, Nat.le_of_ble_eq_true rfl⟩ (va_P.sub1 hP [] rfl) hK (va_D.sub hD [] rfl rfl) hN rfl (Nat.le_of_ble_eq_true rfl) d_X_clause_24 (fun r hr9 => ?_)
      rcases zb_c hr9 with ⟨rfl, h24⟩ | ⟨rfl, h24⟩
      · skip
        refine lv_if_eq (tgt := 56) hx hb d_X_clause_27 (by decide) (fun h => absurd h (by decide)) (fun _ => ?_)
        refine lv_iload hx hb d_X_clause_30 (lv_at hl 6 rfl) ?_
        refine lv_bipush (v := 100) hx hb d_X_clause_32 (by decide) ?_
        refine rS (n := 2) (rest := []) hx hb hml hown hA (c_isWithin l D w3 100) wv_X_62 ⟨by decide, by decide, by decide +kernel⟩ ⟨rfl, rfl, by decide, by decide⟩ rfl hl.1 ⟨Nat.le_of_ble_eq_true rfl, Nat.le_of_ble_eq_true rfl⟩ (va_P.sub1 hP [] rfl) hK (va_D.sub hD [] rfl rfl) hN rfl (Nat.le_of_ble_eq_true rfl) d_X_clause_34 (fun r hr9 => ?_)
        rcases zb_c hr9 with ⟨rfl, h34⟩ | ⟨rfl, h34⟩
        · skip
          refine lv_if_eq (tgt := 56) hx hb d_X_clause_37 (by decide) (fun h => absurd h (by decide)) (fun _ => ?_)
          refine lv_iload hx hb d_X_clause_40 (lv_at hl 7 rfl) ?_
          refine lv_if_lt (tgt := 56) hx hb d_X_clause_42 (by decide) (fun h42 => ?_) (fun h42 => ?_)
          · skip
            refine lv_iconst (v := 0) hx hb d_X_clause_56 (by decide) ?_
            refine lv_istore hx hb d_X_clause_57 hl (by decide) rfl (fun ls hl => ?_)
            have hl : lv_has ls 9 [(8, .int 0), (0, .ref (q 0)), (1, .int i), (2, .int w1), (3, .int j), (4, .int w2), (5, .int v), (6, .int w3), (7, .int how)] := hl
            refine lv_iload hx hb d_X_clause_59 (lv_at hl 0 rfl) ?_
            refine lv_if_eq (tgt := 89) hx hb d_X_clause_61 (by decide) (fun _ => ?_) (fun h => absurd h (by decide))
            refine lv_iconst (v := (-1)) hx hb d_X_clause_89 (by decide) ?_
            refine W.widen (k := 1) (n := 7) (by decide) (by decide) ?_
            exact eWi (n, P, k, a, z, lo, hi, B, av, al, ah, an, pt, fd) hx hb hr hlocks hP hK hD hS (by first | exact Or.inl ⟨fun h => h5 h.1, rfl, rfl⟩ | exact Or.inl ⟨fun h => h14 h.2.1, rfl, rfl⟩ | exact Or.inl ⟨fun h => h24 h.2.2.1, rfl, rfl⟩ | exact Or.inl ⟨fun h => h34 h.2.2.2.1, rfl, rfl⟩ | exact Or.inl ⟨fun h => h.2.2.2.2.1 h42, rfl, rfl⟩ | exact Or.inl ⟨fun h => h.2.2.2.2.2 h49, rfl, rfl⟩) d_X_clause_90
          · skip
            refine lv_iload hx hb d_X_clause_45 (lv_at hl 7 rfl) ?_
            refine lv_bipush (v := 7) hx hb d_X_clause_47 (by decide) ?_
            refine lv_icmp_gt (tgt := 56) hx hb d_X_clause_49 (by decide) (fun h49 => ?_) (fun h49 => ?_)
            · skip
              refine lv_iconst (v := 0) hx hb d_X_clause_56 (by decide) ?_
              refine lv_istore hx hb d_X_clause_57 hl (by decide) rfl (fun ls hl => ?_)
              have hl : lv_has ls 9 [(8, .int 0), (0, .ref (q 0)), (1, .int i), (2, .int w1), (3, .int j), (4, .int w2), (5, .int v), (6, .int w3), (7, .int how)] := hl
              refine lv_iload hx hb d_X_clause_59 (lv_at hl 0 rfl) ?_
              refine lv_if_eq (tgt := 89) hx hb d_X_clause_61 (by decide) (fun _ => ?_) (fun h => absurd h (by decide))
              refine lv_iconst (v := (-1)) hx hb d_X_clause_89 (by decide) ?_
              refine W.widen (k := 1) (n := 7) (by decide) (by decide) ?_
              exact eWi (n, P, k, a, z, lo, hi, B, av, al, ah, an, pt, fd) hx hb hr hlocks hP hK hD hS (by first | exact Or.inl ⟨fun h => h5 h.1, rfl, rfl⟩ | exact Or.inl ⟨fun h => h14 h.2.1, rfl, rfl⟩ | exact Or.inl ⟨fun h => h24 h.2.2.1, rfl, rfl⟩ | exact Or.inl ⟨fun h => h34 h.2.2.2.1, rfl, rfl⟩ | exact Or.inl ⟨fun h => h.2.2.2.2.1 h42, rfl, rfl⟩ | exact Or.inl ⟨fun h => h.2.2.2.2.2 h49, rfl, rfl⟩) d_X_clause_90
            · skip
              refine lv_iconst (v := 1) hx hb d_X_clause_52 (by decide) ?_
              refine lv_goto (tgt := 57) hx hb d_X_clause_53 (by decide) ?_
              refine lv_istore hx hb d_X_clause_57 hl (by decide) rfl (fun ls hl => ?_)
              have hl : lv_has ls 9 [(8, .int 1), (0, .ref (q 0)), (1, .int i), (2, .int w1), (3, .int j), (4, .int w2), (5, .int v), (6, .int w3), (7, .int how)] := hl
              refine lv_iload hx hb d_X_clause_59 (lv_at hl 0 rfl) ?_
              refine lv_if_eq (tgt := 89) hx hb d_X_clause_61 (by decide) (fun h => absurd h (by decide)) (fun _ => ?_)
              refine lv_aload_n hx hb d_X_clause_64 rfl (lv_at hl 1 rfl) ?_
              refine va_new (ci := 8) (fs := [.int 0, .int 0, .int 0, .int 0, .int 0, .int 0, .int 0]) (C := R_C) (T := T_C) (N := 7) hx hb hA inA_C ty_C tok_C hown (hA _ wd_322) (hA _ wd_151) (hA _ wd_13) hK hP hD hS hAA rfl (by decide) (by decide) (by decide) d_X_clause_65 (fun o1 H hP hD hS => ?_)
              refine W.widen (k := 1) (n := 7) (by decide) (by decide) ?_
              have hP : va_P D vwCl (xw D q n P k a z lo hi B av al ah an pt fd ++ [(o1, .inr (8, [.int 0, .int 0, .int 0, .int 0, .int 0, .int 0, .int 0]))]) H := hP
              have hD : va_D A (xw D q n P k a z lo hi B av al ah an pt fd ++ [(o1, .inr (8, [.int 0, .int 0, .int 0, .int 0, .int 0, .int 0, .int 0]))]) := hD
              refine lv_dup hx hb d_X_clause_68 rfl ?_
              refine lv_iload_n hx hb d_X_clause_69 rfl (lv_at hl 2 rfl) ?_
              refine lv_iload_n hx hb d_X_clause_70 rfl (lv_at hl 3 rfl) ?_
              refine lv_iload_n hx hb d_X_clause_71 rfl (lv_at hl 4 rfl) ?_
              refine lv_iload hx hb d_X_clause_72 (lv_at hl 5 rfl) ?_
              refine lv_iload hx hb d_X_clause_74 (lv_at hl 6 rfl) ?_
              refine lv_iload hx hb d_X_clause_76 (lv_at hl 7 rfl) ?_
              refine lv_iload hx hb d_X_clause_78 (lv_at hl 8 rfl) ?_
              refine wIN (n := 7) (wr := xw D q n P k a z lo hi B av al ah an pt fd) (Wf := idW) (rest := [.ref o1, .ref (q 0)]) hx hb hml hown hA (c_Clause_init l D o1 i w1 j w2 v w3 how _) hN.1.2.2.2.2.2.2.2.2.2 wv_X_109 rfl ⟨by decide, by decide, by decide +kernel⟩ ⟨rfl, rfl, by decide, by decide⟩ rfl hl.1 ⟨Nat.le_of_ble_eq_true rfl, Nat.le_of_ble_eq_true rfl⟩ hP hK hD hS hAA hN [10] [0, 1, 2, 3, 4, 5, 6, 7, 8, 9] rfl rfl (by decide) (by decide) (by decide) rfl (Nat.le_of_ble_eq_true rfl) d_X_clause_80 (fun u H locs hu hP hD hS => ?_)
              subst hu
              refine W.widen (k := 1) (n := 7) (by decide) (by decide) ?_
              have hP : va_P D vwCl (xw D q n P k a z lo hi B av al ah an pt fd ++ [(o1, .inr (8, [.int i, .int w1, .int j, .int w2, .int v, .int w3, .int how]))]) H := hP
              have hD : va_D A (xw D q n P k a z lo hi B av al ah an pt fd ++ [(o1, .inr (8, [.int i, .int w1, .int j, .int w2, .int v, .int w3, .int how]))]) := hD
              refine wVi (n := 1) (wr := []) (Wf := xW D q) (rest := []) hx hb hml hown hA (c_add l D q n P k a z lo hi B av al ah an pt fd (fun x => (decide (kCla i w1 j w2 v w3 how x))) o1 8 [.int i, .int w1, .int j, .int w2, .int v, .int w3, .int how] R_C T_C 7 y_C_holdsAt b_C_holdsAt 2 _ _ hn hP4 hk (fun x => c_Clause l D o1 (q 8) i w1 j w2 v w3 how x (iva_in h5.1 hn) (iva_in h5.2.1 hn) (iva_in h5.2.2 hn)) rfl (fun U hN => hN.2.2.2.2.2.2.2) wf_C ⟨rfl, rfl, by decide, by decide⟩) wv_X_71 ⟨by decide, by decide, by decide +kernel⟩ ⟨rfl, rfl, by decide, by decide⟩ rfl hl.1 ⟨Nat.le_of_ble_eq_true rfl, Nat.le_of_ble_eq_true rfl⟩ hP hK hD hS hAA hN [10, 0, 1, 2, 3, 4, 5, 6, 7, 8, 9] [] rfl rfl (by decide) (by decide) (by decide) 1 0 rfl rfl rfl (Nat.le_of_ble_eq_true rfl) d_X_clause_83 (fun r u H locs hu hP hD hS => ?_)
              refine W.widen (k := 1) (n := 7) (by decide) (by decide) ?_
              have hP : va_P D vwCl (xW D q u) H := hP
              have hD : va_D A (xW D q u) := hD
              refine lv_goto (tgt := 90) hx hb d_X_clause_86 (by decide) ?_
              exact eWi u hx hb hr hlocks hP hK hD hS (Or.inr ⟨⟨h5, h14, h24, h34, h42, h49⟩, hu⟩) d_X_clause_90
        · skip
          refine lv_if_eq (tgt := 56) hx hb d_X_clause_37 (by decide) (fun _ => ?_) (fun h => absurd h (by decide))
          refine lv_iconst (v := 0) hx hb d_X_clause_56 (by decide) ?_
          refine lv_istore hx hb d_X_clause_57 hl (by decide) rfl (fun ls hl => ?_)
          have hl : lv_has ls 9 [(8, .int 0), (0, .ref (q 0)), (1, .int i), (2, .int w1), (3, .int j), (4, .int w2), (5, .int v), (6, .int w3), (7, .int how)] := hl
          refine lv_iload hx hb d_X_clause_59 (lv_at hl 0 rfl) ?_
          refine lv_if_eq (tgt := 89) hx hb d_X_clause_61 (by decide) (fun _ => ?_) (fun h => absurd h (by decide))
          refine lv_iconst (v := (-1)) hx hb d_X_clause_89 (by decide) ?_
          refine W.widen (k := 1) (n := 7) (by decide) (by decide) ?_
          exact eWi (n, P, k, a, z, lo, hi, B, av, al, ah, an, pt, fd) hx hb hr hlocks hP hK hD hS (by first | exact Or.inl ⟨fun h => h5 h.1, rfl, rfl⟩ | exact Or.inl ⟨fun h => h14 h.2.1, rfl, rfl⟩ | exact Or.inl ⟨fun h => h24 h.2.2.1, rfl, rfl⟩ | exact Or.inl ⟨fun h => h34 h.2.2.2.1, rfl, rfl⟩ | exact Or.inl ⟨fun h => h.2.2.2.2.1 h42, rfl, rfl⟩ | exact Or.inl ⟨fun h => h.2.2.2.2.2 h49, rfl, rfl⟩) d_X_clause_90
      · skip
        refine lv_if_eq (tgt := 56) hx hb d_X_clause_27 (by decide) (fun _ => ?_) (fun h => absurd h (by decide))
        refine lv_iconst (v := 0) hx hb d_X_clause_56 (by decide) ?_
        refine lv_istore hx hb d_X_clause_57 hl (by decide) rfl (fun ls hl => ?_)
        have hl : lv_has ls 9 [(8, .int 0), (0, .ref (q 0)), (1, .int i), (2, .int w1), (3, .int j), (4, .int w2), (5, .int v), (6, .int w3), (7, .int how)] := hl
        refine lv_iload hx hb d_X_clause_59 (lv_at hl 0 rfl) ?_
        refine lv_if_eq (tgt := 89) hx hb d_X_clause_61 (by decide) (fun _ => ?_) (fun h => absurd h (by decide))
        refine lv_iconst (v := (-1)) hx hb d_X_clause_89 (by decide) ?_
        refine W.widen (k := 1) (n := 7) (by decide) (by decide) ?_
        exact eWi (n, P, k, a, z, lo, hi, B, av, al, ah, an, pt, fd) hx hb hr hlocks hP hK hD hS (by first | exact Or.inl ⟨fun h => h5 h.1, rfl, rfl⟩ | exact Or.inl ⟨fun h => h14 h.2.1, rfl, rfl⟩ | exact Or.inl ⟨fun h => h24 h.2.2.1, rfl, rfl⟩ | exact Or.inl ⟨fun h => h34 h.2.2.2.1, rfl, rfl⟩ | exact Or.inl ⟨fun h => h.2.2.2.2.1 h42, rfl, rfl⟩ | exact Or.inl ⟨fun h => h.2.2.2.2.2 h49, rfl, rfl⟩) d_X_clause_90
    · skip
      refine lv_if_eq (tgt := 56) hx hb d_X_clause_17 (by decide) (fun _ => ?_) (fun h => absurd h (by decide))
      refine lv_iconst (v := 0) hx hb d_X_clause_56 (by decide) ?_
      refine lv_istore hx hb d_X_clause_57 hl (by decide) rfl (fun ls hl => ?_)
      have hl : lv_has ls 9 [(8, .int 0), (0, .ref (q 0)), (1, .int i), (2, .int w1), (3, .int j), (4, .int w2), (5, .int v), (6, .int w3), (7, .int how)] := hl
      refine lv_iload hx hb d_X_clause_59 (lv_at hl 0 rfl) ?_
      refine lv_if_eq (tgt := 89) hx hb d_X_clause_61 (by decide) (fun _ => ?_) (fun h => absurd h (by decide))
      refine lv_iconst (v := (-1)) hx hb d_X_clause_89 (by decide) ?_
      refine W.widen (k := 1) (n := 7) (by decide) (by decide) ?_
      exact eWi (n, P, k, a, z, lo, hi, B, av, al, ah, an, pt, fd) hx hb hr hlocks hP hK hD hS (by first | exact Or.inl ⟨fun h => h5 h.1, rfl, rfl⟩ | exact Or.inl ⟨fun h => h14 h.2.1, rfl, rfl⟩ | exact Or.inl ⟨fun h => h24 h.2.2.1, rfl, rfl⟩ | exact Or.inl ⟨fun h => h34 h.2.2.2.1, rfl, rfl⟩ | exact Or.inl ⟨fun h => h.2.2.2.2.1 h42, rfl, rfl⟩ | exact Or.inl ⟨fun h => h.2.2.2.2.2 h49, rfl, rfl⟩) d_X_clause_90
  · skip
    refine lv_if_eq (tgt := 56) hx hb d_X_clause_8 (by decide) (fun _ => ?_) (fun h => absurd h (by decide))
    refine lv_iconst (v := 0) hx hb d_X_clause_56 (by decide) ?_
    refine lv_istore hx hb d_X_clause_57 hl (by decide) rfl (fun ls hl => ?_)
    have hl : lv_has ls 9 [(8, .int 0), (0, .ref (q 0)), (1, .int i), (2, .int w1), (3, .int j), (4, .int w2), (5, .int v), (6, .int w3), (7, .int how)] := hl
    refine lv_iload hx hb d_X_clause_59 (lv_at hl 0 rfl) ?_
    refine lv_if_eq (tgt := 89) hx hb d_X_clause_61 (by decide) (fun _ => ?_) (fun h => absurd h (by decide))
    refine lv_iconst (v := (-1)) hx hb d_X_clause_89 (by decide) ?_
    refine W.widen (k := 1) (n := 7) (by decide) (by decide) ?_
    exact eWi (n, P, k, a, z, lo, hi, B, av, al, ah, an, pt, fd) hx hb hr hlocks hP hK hD hS (by first | exact Or.inl ⟨fun h => h5 h.1, rfl, rfl⟩ | exact Or.inl ⟨fun h => h14 h.2.1, rfl, rfl⟩ | exact Or.inl ⟨fun h => h24 h.2.2.1, rfl, rfl⟩ | exact Or.inl ⟨fun h => h34 h.2.2.2.1, rfl, rfl⟩ | exact Or.inl ⟨fun h => h.2.2.2.2.1 h42, rfl, rfl⟩ | exact Or.inl ⟨fun h => h.2.2.2.2.2 h49, rfl, rfl⟩) d_X_clause_90
end
end
section
section
abbrev fW (D : va_G) (b1 : Nat) (g : Nat → Int32) : va_W := [(b1, .inl (D.1 100, 4096, .inl g))]
abbrev qf (l : List Nat) : Nat → Nat := fun i => l.getD i 0
abbrev xC (D : va_G) (u : (Nat → Nat) × (Nat → Int32)) : va_W := xw D u.1 0 1 0 0 0 (fun _ => 0) (fun _ => 0) u.2 (fun _ => 0) (fun _ => 0) (fun _ => 0) (fun _ => 0) (fun _ => 0) (fun _ => 0)
theorem fl_s {j : Nat} {g : Nat → Int32} {v : Int32} (h : ∀ i, i < j → g i = v) : ∀ i, i < j + 1 → upd g j v i = v := fun i hi => by
  by_cases e : i = j
  · rw [e, pk_us]
  · rw [pk_un e]; exact h i (by omega)
theorem wo_X_3 : Cond.methodLink R_X 3 objectInit ∈ cA ∧ Cond.instanceMethod objectInit ∈ cA ∧ Cond.code objectInit ⟨#[0xb1]⟩ 1 none ∈ cA := ⟨wd_19, wd_20, wd_21⟩
theorem wv_X_41 : Cond.code y_JA_fill b_JA_fill 4 none ∈ cA ∧ Cond.initialized y_JA_fill.cls ∈ cA ∧ Cond.methodLink R_X 41 y_JA_fill ∈ cA ∧ Cond.static y_JA_fill ∈ cA := ⟨wd_24, wd_2, wd_22, wd_23⟩
end
end
section
section
theorem d_JA_fill_0 : decode b_JA_fill 0 = .ok (.iconst 0, 1) := by decide +kernel
theorem d_JA_fill_1 : decode b_JA_fill 1 = .ok (.istore_n 2, 1) := by decide +kernel
theorem d_JA_fill_2 : decode b_JA_fill 2 = .ok (.aload_n 0, 1) := by decide +kernel
theorem d_JA_fill_3 : decode b_JA_fill 3 = .ok (.arraylength, 1) := by decide +kernel
theorem d_JA_fill_4 : decode b_JA_fill 4 = .ok (.istore_n 3, 1) := by decide +kernel
theorem d_JA_fill_5 : decode b_JA_fill 5 = .ok (.iload_n 2, 1) := by decide +kernel
theorem d_JA_fill_6 : decode b_JA_fill 6 = .ok (.iload_n 3, 1) := by decide +kernel
theorem d_JA_fill_7 : decode b_JA_fill 7 = .ok (.if_icmp .ge 13, 3) := by decide +kernel
theorem d_JA_fill_10 : decode b_JA_fill 10 = .ok (.aload_n 0, 1) := by decide +kernel
theorem d_JA_fill_11 : decode b_JA_fill 11 = .ok (.iload_n 2, 1) := by decide +kernel
theorem d_JA_fill_12 : decode b_JA_fill 12 = .ok (.iload_n 1, 1) := by decide +kernel
theorem d_JA_fill_13 : decode b_JA_fill 13 = .ok (.iastore, 1) := by decide +kernel
theorem d_JA_fill_14 : decode b_JA_fill 14 = .ok (.iinc 2 1, 3) := by decide +kernel
theorem d_JA_fill_17 : decode b_JA_fill 17 = .ok (.goto (-12), 3) := by decide +kernel
theorem d_JA_fill_20 : decode b_JA_fill 20 = .ok (.return_, 1) := by decide +kernel
theorem d_X_init_0 : decode b_X_init 0 = .ok (.aload_n 0, 1) := by decide +kernel
theorem d_X_init_1 : decode b_X_init 1 = .ok (.invokespecial 3, 3) := by decide +kernel
theorem d_X_init_4 : decode b_X_init 4 = .ok (.aload_n 0, 1) := by decide +kernel
theorem d_X_init_5 : decode b_X_init 5 = .ok (.bipush 8, 2) := by decide +kernel
theorem d_X_init_7 : decode b_X_init 7 = .ok (.newarray .int, 2) := by decide +kernel
theorem d_X_init_9 : decode b_X_init 9 = .ok (.putfield 9, 3) := by decide +kernel
theorem d_X_init_12 : decode b_X_init 12 = .ok (.aload_n 0, 1) := by decide +kernel
theorem d_X_init_13 : decode b_X_init 13 = .ok (.bipush 8, 2) := by decide +kernel
theorem d_X_init_15 : decode b_X_init 15 = .ok (.newarray .int, 2) := by decide +kernel
theorem d_X_init_17 : decode b_X_init 17 = .ok (.putfield 13, 3) := by decide +kernel
theorem d_X_init_20 : decode b_X_init 20 = .ok (.aload_n 0, 1) := by decide +kernel
theorem d_X_init_21 : decode b_X_init 21 = .ok (.sipush 4096, 3) := by decide +kernel
theorem d_X_init_24 : decode b_X_init 24 = .ok (.newarray .int, 2) := by decide +kernel
theorem d_X_init_26 : decode b_X_init 26 = .ok (.putfield 16, 3) := by decide +kernel
theorem d_X_init_29 : decode b_X_init 29 = .ok (.aload_n 0, 1) := by decide +kernel
theorem d_X_init_30 : decode b_X_init 30 = .ok (.bipush 8, 2) := by decide +kernel
theorem d_X_init_32 : decode b_X_init 32 = .ok (.newarray .int, 2) := by decide +kernel
theorem d_X_init_34 : decode b_X_init 34 = .ok (.putfield 19, 3) := by decide +kernel
theorem d_X_init_37 : decode b_X_init 37 = .ok (.aload_n 0, 1) := by decide +kernel
theorem d_X_init_38 : decode b_X_init 38 = .ok (.bipush 8, 2) := by decide +kernel
theorem d_X_init_40 : decode b_X_init 40 = .ok (.newarray .int, 2) := by decide +kernel
theorem d_X_init_42 : decode b_X_init 42 = .ok (.putfield 22, 3) := by decide +kernel
theorem d_X_init_45 : decode b_X_init 45 = .ok (.aload_n 0, 1) := by decide +kernel
theorem d_X_init_46 : decode b_X_init 46 = .ok (.bipush 8, 2) := by decide +kernel
theorem d_X_init_48 : decode b_X_init 48 = .ok (.newarray .int, 2) := by decide +kernel
theorem d_X_init_50 : decode b_X_init 50 = .ok (.putfield 25, 3) := by decide +kernel
theorem d_X_init_53 : decode b_X_init 53 = .ok (.aload_n 0, 1) := by decide +kernel
theorem d_X_init_54 : decode b_X_init 54 = .ok (.bipush 8, 2) := by decide +kernel
theorem d_X_init_56 : decode b_X_init 56 = .ok (.newarray .int, 2) := by decide +kernel
theorem d_X_init_58 : decode b_X_init 58 = .ok (.putfield 28, 3) := by decide +kernel
theorem d_X_init_61 : decode b_X_init 61 = .ok (.aload_n 0, 1) := by decide +kernel
theorem d_X_init_62 : decode b_X_init 62 = .ok (.bipush 8, 2) := by decide +kernel
theorem d_X_init_64 : decode b_X_init 64 = .ok (.newarray .int, 2) := by decide +kernel
theorem d_X_init_66 : decode b_X_init 66 = .ok (.putfield 31, 3) := by decide +kernel
theorem d_X_init_69 : decode b_X_init 69 = .ok (.aload_n 0, 1) := by decide +kernel
theorem d_X_init_70 : decode b_X_init 70 = .ok (.bipush 8, 2) := by decide +kernel
theorem d_X_init_72 : decode b_X_init 72 = .ok (.newarray .int, 2) := by decide +kernel
theorem d_X_init_74 : decode b_X_init 74 = .ok (.putfield 34, 3) := by decide +kernel
theorem d_X_init_77 : decode b_X_init 77 = .ok (.aload_n 0, 1) := by decide +kernel
theorem d_X_init_78 : decode b_X_init 78 = .ok (.iconst 1, 1) := by decide +kernel
theorem d_X_init_79 : decode b_X_init 79 = .ok (.putfield 37, 3) := by decide +kernel
theorem d_X_init_82 : decode b_X_init 82 = .ok (.aload_n 0, 1) := by decide +kernel
theorem d_X_init_83 : decode b_X_init 83 = .ok (.getfield 16, 3) := by decide +kernel
theorem d_X_init_86 : decode b_X_init 86 = .ok (.bipush 12, 2) := by decide +kernel
theorem d_X_init_88 : decode b_X_init 88 = .ok (.invokestatic 41, 3) := by decide +kernel
theorem d_X_init_91 : decode b_X_init 91 = .ok (.return_, 1) := by decide +kernel
end
end
section
section
set_option maxRecDepth 100000 in
set_option maxHeartbeats 4000000 in
theorem c_fill (l : Launch) (D : va_G) (b1 : Nat) (f : Nat → Int32) (v : Int32) (sz : Nat) : Met l y_JA_fill (wsm y_JA_fill b_JA_fill 4 none) { frames := 0, cells := 0, slots := 0, locals := 0 } (va_Pc [.ref b1, .int v] (fun U => U.heap.size = sz ∧ cPre D ([(b1, .inl (D.1 100, 4096, .inl f))]) U)) (va_Qv (fun u : (Nat → Int32) => ∀ j, j < 4096 → u j = v) (fun u t => xB D (fW D b1 u) (va_A ([(b1, .inl (D.1 100, 4096, .inl f))]) sz) t) (va_A ([(b1, .inl (D.1 100, 4096, .inl f))]) sz)) 0 0 (va_A ([(b1, .inl (D.1 100, 4096, .inl f))]) sz) := by
  refine met_W (Qf := fun A => va_Qv (fun u : (Nat → Int32) => ∀ j, j < 4096 → u j = v) (fun u t => xB D (fW D b1 u) A t) A) (by decide) (Nat.le_of_ble_eq_true rfl) ?_
  intro p e s m below meth c ls A hx hb hr hlocks hml hown hin hA hP hK hD hN hl hS hAA
  have hown : s.vm.findClass R_JA = some m.cls := hown
  have hl : lv_has ls 4 [(0, .ref b1), (1, .int v)] := hl
  refine lv_iconst (v := 0) hx hb d_JA_fill_0 (by decide) ?_
  refine lv_istore_n hx hb d_JA_fill_1 rfl hl (by decide) rfl (fun ls hl => ?_)
  have hl : lv_has ls 4 [(2, .int 0), (0, .ref b1), (1, .int v)] := hl
  refine lv_aload_n hx hb d_JA_fill_2 rfl (lv_at hl 1 rfl) ?_
  refine va_alen (v := nI 4096) hx hb hK hP 0 0 rfl rfl rfl d_JA_fill_3 ?_
  refine lv_istore_n hx hb d_JA_fill_4 rfl hl (by decide) rfl (fun ls hl => ?_)
  have hl : lv_has ls 4 [(3, .int (nI 4096)), (2, .int 0), (0, .ref b1), (1, .int v)] := hl
  have loop : ∀ (t j : Nat) (g : Nat → Int32) (H : Heap) (locs : List Loc) (ls : Array Slot), j + t = 4096 → (∀ i, i < j → g i = v) → lv_has ls 4 [(2, .int (nI j)), (3, .int (nI 4096)), (0, .ref b1), (1, .int v)] → va_P D vwCl ([(b1, .inl (D.1 100, 4096, .inl g))]) H → va_D A ([(b1, .inl (D.1 100, 4096, .inl g))]) → va_S A s.heap H locs → W p l e { frames := 0, cells := 0, slots := 0, locals := 0 } s m [.ref b1, .int v].toArray below meth c H locs 0 0 (MQ below (va_Qv (fun u : (Nat → Int32) => ∀ j, j < 4096 → u j = v) (fun u t => xB D (fW D b1 u) A t) A) [.ref b1, .int v].toArray s 0 0 A) (F0 m 5 ls []) := by
    intro t
    induction t with
    | zero =>
      intro j g H locs ls hj hg hl hP hD hS
      refine lv_iload_n hx hb d_JA_fill_5 rfl (lv_at hl 0 rfl) ?_
      refine lv_iload_n hx hb d_JA_fill_6 rfl (lv_at hl 1 rfl) ?_
      refine lv_icmp_ge (tgt := 20) hx hb d_JA_fill_7 (by decide) (fun h7 => ?_) (fun h => absurd (nI_le (by omega) (by omega)) h)
      exact eWv g hx hb hr hlocks hP hK hD hS (fun i hi => hg i (by omega)) d_JA_fill_20
    | succ t ih =>
      intro j g H locs ls hj hg hl hP hD hS
      refine lv_iload_n hx hb d_JA_fill_5 rfl (lv_at hl 0 rfl) ?_
      refine lv_iload_n hx hb d_JA_fill_6 rfl (lv_at hl 1 rfl) ?_
      refine lv_icmp_ge (tgt := 20) hx hb d_JA_fill_7 (by decide) (fun h => absurd h (nI_ge (by omega) (by omega))) (fun h7 => ?_)
      refine lv_aload_n hx hb d_JA_fill_10 rfl (lv_at hl 2 rfl) ?_
      refine lv_iload_n hx hb d_JA_fill_11 rfl (lv_at hl 0 rfl) ?_
      refine lv_iload_n hx hb d_JA_fill_12 rfl (lv_at hl 3 rfl) ?_
      refine xi_ast hx hb hK hP hD hS 0 rfl (by omega) (by decide) d_JA_fill_13 (fun H locs hP hD hS => ?_)
      have hP : va_P D vwCl ([(b1, .inl (D.1 100, 4096, .inl (upd g j v)))]) H := hP
      have hD : va_D A ([(b1, .inl (D.1 100, 4096, .inl (upd g j v)))]) := hD
      refine lv_iinc (v := nI (j + 1)) hx hb d_JA_fill_14 hl (k := 0) rfl (by rw [nI_succ]; rfl) (by decide) rfl (fun ls hl => ?_)
      have hl : lv_has ls 4 [(2, .int (nI (j + 1))), (3, .int (nI 4096)), (0, .ref b1), (1, .int v)] := hl
      refine lv_goto (tgt := 5) hx hb d_JA_fill_17 (by decide) ?_
      exact ih (j + 1) _ _ _ _ (by omega) (fl_s hg) (lv_sub hl [0, 1, 2, 3] rfl) hP hD hS
  exact loop 4096 0 f _ _ _ (by omega) (fun i h => absurd h (by omega)) (lv_sub hl [1, 0, 2, 3] rfl) hP hD hS
end
end
section
section
set_option maxRecDepth 100000 in
set_option maxHeartbeats 4000000 in
theorem c_X_init (l : Launch) (D : va_G) (o : Nat) (sz : Nat) : Met l y_X_init (wsm y_X_init b_X_init 1 none) { frames := 1, cells := 9, slots := 4160, locals := 23 } (va_Pc [.ref o] (fun U => U.heap.size = sz ∧ cPre D ([(o, .inr (0, [.null, .null, .int 0, .null, .int 0, .int 0, .null, .null, .null, .int 0, .null, .int 0, .null, .null]))]) U)) (va_Qv (fun u : ((Nat → Nat) × (Nat → Int32)) => u.1 0 = o ∧ ∀ j, j < 4096 → u.2 j = 12) (fun u t => xB D (xC D u) (va_A ([(o, .inr (0, [.null, .null, .int 0, .null, .int 0, .int 0, .null, .null, .null, .int 0, .null, .int 0, .null, .null]))]) sz) t) (va_A ([(o, .inr (0, [.null, .null, .int 0, .null, .int 0, .int 0, .null, .null, .null, .int 0, .null, .int 0, .null, .null]))]) sz)) 9 4160 (va_A ([(o, .inr (0, [.null, .null, .int 0, .null, .int 0, .int 0, .null, .null, .null, .int 0, .null, .int 0, .null, .null]))]) sz) := by
  refine met_W (Qf := fun A => va_Qv (fun u : ((Nat → Nat) × (Nat → Int32)) => u.1 0 = o ∧ ∀ j, j < 4096 → u.2 j = 12) (fun u t => xB D (xC D u) A t) A) (by decide) (Nat.le_of_ble_eq_true rfl) ?_
  intro p e s m below meth c ls A hx hb hr hlocks hml hown hin hA hP hK hD hN hl hS hAA
  have hown : s.vm.findClass R_X = some m.cls := hown
  have hl : lv_has ls 1 [(0, .ref o)] := hl
  refine lv_aload_n hx hb d_X_init_0 rfl (lv_at hl 0 rfl) ?_
  refine W.objInit hx hb hown (hA _ wo_X_3.1) (hA _ wo_X_3.2.1) (hA _ wo_X_3.2.2) rfl (by rw [hml]; exact hl.1) rfl d_X_init_1 (Nat.le_of_ble_eq_true rfl) (Nat.le_of_ble_eq_true rfl) ?_
  refine W.eq (g2 := F0 m 4 ls []) rfl ?_
  refine lv_aload_n hx hb d_X_init_4 rfl (lv_at hl 0 rfl) ?_
  refine lv_bipush (v := 8) hx hb d_X_init_5 (by decide) ?_
  refine xi_new (N := 8) hx hb (hA _ wd_68) hK hP hD hS hAA (by decide) (by decide) (by decide) (by decide) (by decide) d_X_init_7 (fun q1 H hP hD hS => ?_)
  have hP : va_P D vwCl ([(o, .inr (0, [.null, .null, .int 0, .null, .int 0, .int 0, .null, .null, .null, .int 0, .null, .int 0, .null, .null])), (q1, .inl (D.1 100, 8, .inl (fun _ => 0)))]) H := hP
  have hD : va_D A ([(o, .inr (0, [.null, .null, .int 0, .null, .int 0, .int 0, .null, .null, .null, .int 0, .null, .int 0, .null, .null])), (q1, .inl (D.1 100, 8, .inl (fun _ => 0)))]) := hD
  refine va_putF (D := D) (ci := 0) (v := .ref q1) (ty := .array .int) (C := R_X) (T := T_X) (N := 14) hx hb hA inA_X ty_X tok_X nm_X hown hK hP hD hS 0 rfl rfl 0 (by decide) (hA _ wd_25) (fun _ h9 => h9) rfl hin rfl (by decide +kernel) (by first | rfl | decide) (by first | rfl | decide) (Nat.le_of_ble_eq_true rfl) d_X_init_9 (fun H locs hP hD hS => ?_)
  have hP : va_P D vwCl ([(o, .inr (0, [.ref q1, .null, .int 0, .null, .int 0, .int 0, .null, .null, .null, .int 0, .null, .int 0, .null, .null])), (q1, .inl (D.1 100, 8, .inl (fun _ => 0)))]) H := hP
  have hD : va_D A ([(o, .inr (0, [.ref q1, .null, .int 0, .null, .int 0, .int 0, .null, .null, .null, .int 0, .null, .int 0, .null, .null])), (q1, .inl (D.1 100, 8, .inl (fun _ => 0)))]) := hD
  refine lv_aload_n hx hb d_X_init_12 rfl (lv_at hl 0 rfl) ?_
  refine lv_bipush (v := 8) hx hb d_X_init_13 (by decide) ?_
  refine xi_new (N := 8) hx hb (hA _ wd_68) hK hP hD hS hAA (by decide) (by decide) (by decide) (by decide) (by decide) d_X_init_15 (fun q2 H hP hD hS => ?_)
  have hP : va_P D vwCl ([(o, .inr (0, [.ref q1, .null, .int 0, .null, .int 0, .int 0, .null, .null, .null, .int 0, .null, .int 0, .null, .null])), (q1, .inl (D.1 100, 8, .inl (fun _ => 0))), (q2, .inl (D.1 100, 8, .inl (fun _ => 0)))]) H := hP
  have hD : va_D A ([(o, .inr (0, [.ref q1, .null, .int 0, .null, .int 0, .int 0, .null, .null, .null, .int 0, .null, .int 0, .null, .null])), (q1, .inl (D.1 100, 8, .inl (fun _ => 0))), (q2, .inl (D.1 100, 8, .inl (fun _ => 0)))]) := hD
  refine va_putF (D := D) (ci := 0) (v := .ref q2) (ty := .array .int) (C := R_X) (T := T_X) (N := 14) hx hb hA inA_X ty_X tok_X nm_X hown hK hP hD hS 0 rfl rfl 1 (by decide) (hA _ wd_26) (fun _ h9 => h9) rfl hin rfl (by decide +kernel) (by first | rfl | decide) (by first | rfl | decide) (Nat.le_of_ble_eq_true rfl) d_X_init_17 (fun H locs hP hD hS => ?_)
  have hP : va_P D vwCl ([(o, .inr (0, [.ref q1, .ref q2, .int 0, .null, .int 0, .int 0, .null, .null, .null, .int 0, .null, .int 0, .null, .null])), (q1, .inl (D.1 100, 8, .inl (fun _ => 0))), (q2, .inl (D.1 100, 8, .inl (fun _ => 0)))]) H := hP
  have hD : va_D A ([(o, .inr (0, [.ref q1, .ref q2, .int 0, .null, .int 0, .int 0, .null, .null, .null, .int 0, .null, .int 0, .null, .null])), (q1, .inl (D.1 100, 8, .inl (fun _ => 0))), (q2, .inl (D.1 100, 8, .inl (fun _ => 0)))]) := hD
  refine lv_aload_n hx hb d_X_init_20 rfl (lv_at hl 0 rfl) ?_
  refine lv_sipush (v := 4096) hx hb d_X_init_21 (by decide) ?_
  refine xi_new (N := 4096) hx hb (hA _ wd_68) hK hP hD hS hAA (by decide) (by decide) (by decide) (by decide) (by decide) d_X_init_24 (fun q3 H hP hD hS => ?_)
  have hP : va_P D vwCl ([(o, .inr (0, [.ref q1, .ref q2, .int 0, .null, .int 0, .int 0, .null, .null, .null, .int 0, .null, .int 0, .null, .null])), (q1, .inl (D.1 100, 8, .inl (fun _ => 0))), (q2, .inl (D.1 100, 8, .inl (fun _ => 0))), (q3, .inl (D.1 100, 4096, .inl (fun _ => 0)))]) H := hP
  have hD : va_D A ([(o, .inr (0, [.ref q1, .ref q2, .int 0, .null, .int 0, .int 0, .null, .null, .null, .int 0, .null, .int 0, .null, .null])), (q1, .inl (D.1 100, 8, .inl (fun _ => 0))), (q2, .inl (D.1 100, 8, .inl (fun _ => 0))), (q3, .inl (D.1 100, 4096, .inl (fun _ => 0)))]) := hD
  refine va_putF (D := D) (ci := 0) (v := .ref q3) (ty := .array .int) (C := R_X) (T := T_X) (N := 14) hx hb hA inA_X ty_X tok_X nm_X hown hK hP hD hS 0 rfl rfl 3 (by decide) (hA _ wd_28) (fun _ h9 => h9) rfl hin rfl (by decide +kernel) (by first | rfl | decide) (by first | rfl | decide) (Nat.le_of_ble_eq_true rfl) d_X_init_26 (fun H locs hP hD hS => ?_)
  have hP : va_P D vwCl ([(o, .inr (0, [.ref q1, .ref q2, .int 0, .ref q3, .int 0, .int 0, .null, .null, .null, .int 0, .null, .int 0, .null, .null])), (q1, .inl (D.1 100, 8, .inl (fun _ => 0))), (q2, .inl (D.1 100, 8, .inl (fun _ => 0))), (q3, .inl (D.1 100, 4096, .inl (fun _ => 0)))]) H := hP
  have hD : va_D A ([(o, .inr (0, [.ref q1, .ref q2, .int 0, .ref q3, .int 0, .int 0, .null, .null, .null, .int 0, .null, .int 0, .null, .null])), (q1, .inl (D.1 100, 8, .inl (fun _ => 0))), (q2, .inl (D.1 100, 8, .inl (fun _ => 0))), (q3, .inl (D.1 100, 4096, .inl (fun _ => 0)))]) := hD
  refine lv_aload_n hx hb d_X_init_29 rfl (lv_at hl 0 rfl) ?_
  refine lv_bipush (v := 8) hx hb d_X_init_30 (by decide) ?_
  refine xi_new (N := 8) hx hb (hA _ wd_68) hK hP hD hS hAA (by decide) (by decide) (by decide) (by decide) (by decide) d_X_init_32 (fun q4 H hP hD hS => ?_)
  have hP : va_P D vwCl ([(o, .inr (0, [.ref q1, .ref q2, .int 0, .ref q3, .int 0, .int 0, .null, .null, .null, .int 0, .null, .int 0, .null, .null])), (q1, .inl (D.1 100, 8, .inl (fun _ => 0))), (q2, .inl (D.1 100, 8, .inl (fun _ => 0))), (q3, .inl (D.1 100, 4096, .inl (fun _ => 0))), (q4, .inl (D.1 100, 8, .inl (fun _ => 0)))]) H := hP
  have hD : va_D A ([(o, .inr (0, [.ref q1, .ref q2, .int 0, .ref q3, .int 0, .int 0, .null, .null, .null, .int 0, .null, .int 0, .null, .null])), (q1, .inl (D.1 100, 8, .inl (fun _ => 0))), (q2, .inl (D.1 100, 8, .inl (fun _ => 0))), (q3, .inl (D.1 100, 4096, .inl (fun _ => 0))), (q4, .inl (D.1 100, 8, .inl (fun _ => 0)))]) := hD
  refine va_putF (D := D) (ci := 0) (v := .ref q4) (ty := .array .int) (C := R_X) (T := T_X) (N := 14) hx hb hA inA_X ty_X tok_X nm_X hown hK hP hD hS 0 rfl rfl 6 (by decide) (hA _ wd_31) (fun _ h9 => h9) rfl hin rfl (by decide +kernel) (by first | rfl | decide) (by first | rfl | decide) (Nat.le_of_ble_eq_true rfl) d_X_init_34 (fun H locs hP hD hS => ?_)
  have hP : va_P D vwCl ([(o, .inr (0, [.ref q1, .ref q2, .int 0, .ref q3, .int 0, .int 0, .ref q4, .null, .null, .int 0, .null, .int 0, .null, .null])), (q1, .inl (D.1 100, 8, .inl (fun _ => 0))), (q2, .inl (D.1 100, 8, .inl (fun _ => 0))), (q3, .inl (D.1 100, 4096, .inl (fun _ => 0))), (q4, .inl (D.1 100, 8, .inl (fun _ => 0)))]) H := hP
  have hD : va_D A ([(o, .inr (0, [.ref q1, .ref q2, .int 0, .ref q3, .int 0, .int 0, .ref q4, .null, .null, .int 0, .null, .int 0, .null, .null])), (q1, .inl (D.1 100, 8, .inl (fun _ => 0))), (q2, .inl (D.1 100, 8, .inl (fun _ => 0))), (q3, .inl (D.1 100, 4096, .inl (fun _ => 0))), (q4, .inl (D.1 100, 8, .inl (fun _ => 0)))]) := hD
  refine lv_aload_n hx hb d_X_init_37 rfl (lv_at hl 0 rfl) ?_
  refine lv_bipush (v := 8) hx hb d_X_init_38 (by decide) ?_
  refine xi_new (N := 8) hx hb (hA _ wd_68) hK hP hD hS hAA (by decide) (by decide) (by decide) (by decide) (by decide) d_X_init_40 (fun q5 H hP hD hS => ?_)
  have hP : va_P D vwCl ([(o, .inr (0, [.ref q1, .ref q2, .int 0, .ref q3, .int 0, .int 0, .ref q4, .null, .null, .int 0, .null, .int 0, .null, .null])), (q1, .inl (D.1 100, 8, .inl (fun _ => 0))), (q2, .inl (D.1 100, 8, .inl (fun _ => 0))), (q3, .inl (D.1 100, 4096, .inl (fun _ => 0))), (q4, .inl (D.1 100, 8, .inl (fun _ => 0))), (q5, .inl (D.1 100, 8, .inl (fun _ => 0)))]) H := hP
  have hD : va_D A ([(o, .inr (0, [.ref q1, .ref q2, .int 0, .ref q3, .int 0, .int 0, .ref q4, .null, .null, .int 0, .null, .int 0, .null, .null])), (q1, .inl (D.1 100, 8, .inl (fun _ => 0))), (q2, .inl (D.1 100, 8, .inl (fun _ => 0))), (q3, .inl (D.1 100, 4096, .inl (fun _ => 0))), (q4, .inl (D.1 100, 8, .inl (fun _ => 0))), (q5, .inl (D.1 100, 8, .inl (fun _ => 0)))]) := hD
  refine va_putF (D := D) (ci := 0) (v := .ref q5) (ty := .array .int) (C := R_X) (T := T_X) (N := 14) hx hb hA inA_X ty_X tok_X nm_X hown hK hP hD hS 0 rfl rfl 7 (by decide) (hA _ wd_32) (fun _ h9 => h9) rfl hin rfl (by decide +kernel) (by first | rfl | decide) (by first | rfl | decide) (Nat.le_of_ble_eq_true rfl) d_X_init_42 (fun H locs hP hD hS => ?_)
  have hP : va_P D vwCl ([(o, .inr (0, [.ref q1, .ref q2, .int 0, .ref q3, .int 0, .int 0, .ref q4, .ref q5, .null, .int 0, .null, .int 0, .null, .null])), (q1, .inl (D.1 100, 8, .inl (fun _ => 0))), (q2, .inl (D.1 100, 8, .inl (fun _ => 0))), (q3, .inl (D.1 100, 4096, .inl (fun _ => 0))), (q4, .inl (D.1 100, 8, .inl (fun _ => 0))), (q5, .inl (D.1 100, 8, .inl (fun _ => 0)))]) H := hP
  have hD : va_D A ([(o, .inr (0, [.ref q1, .ref q2, .int 0, .ref q3, .int 0, .int 0, .ref q4, .ref q5, .null, .int 0, .null, .int 0, .null, .null])), (q1, .inl (D.1 100, 8, .inl (fun _ => 0))), (q2, .inl (D.1 100, 8, .inl (fun _ => 0))), (q3, .inl (D.1 100, 4096, .inl (fun _ => 0))), (q4, .inl (D.1 100, 8, .inl (fun _ => 0))), (q5, .inl (D.1 100, 8, .inl (fun _ => 0)))]) := hD
  refine lv_aload_n hx hb d_X_init_45 rfl (lv_at hl 0 rfl) ?_
  refine lv_bipush (v := 8) hx hb d_X_init_46 (by decide) ?_
  refine xi_new (N := 8) hx hb (hA _ wd_68) hK hP hD hS hAA (by decide) (by decide) (by decide) (by decide) (by decide) d_X_init_48 (fun q6 H hP hD hS => ?_)
  have hP : va_P D vwCl ([(o, .inr (0, [.ref q1, .ref q2, .int 0, .ref q3, .int 0, .int 0, .ref q4, .ref q5, .null, .int 0, .null, .int 0, .null, .null])), (q1, .inl (D.1 100, 8, .inl (fun _ => 0))), (q2, .inl (D.1 100, 8, .inl (fun _ => 0))), (q3, .inl (D.1 100, 4096, .inl (fun _ => 0))), (q4, .inl (D.1 100, 8, .inl (fun _ => 0))), (q5, .inl (D.1 100, 8, .inl (fun _ => 0))), (q6, .inl (D.1 100, 8, .inl (fun _ => 0)))]) H := hP
  have hD : va_D A ([(o, .inr (0, [.ref q1, .ref q2, .int 0, .ref q3, .int 0, .int 0, .ref q4, .ref q5, .null, .int 0, .null, .int 0, .null, .null])), (q1, .inl (D.1 100, 8, .inl (fun _ => 0))), (q2, .inl (D.1 100, 8, .inl (fun _ => 0))), (q3, .inl (D.1 100, 4096, .inl (fun _ => 0))), (q4, .inl (D.1 100, 8, .inl (fun _ => 0))), (q5, .inl (D.1 100, 8, .inl (fun _ => 0))), (q6, .inl (D.1 100, 8, .inl (fun _ => 0)))]) := hD
  refine va_putF (D := D) (ci := 0) (v := .ref q6) (ty := .array .int) (C := R_X) (T := T_X) (N := 14) hx hb hA inA_X ty_X tok_X nm_X hown hK hP hD hS 0 rfl rfl 8 (by decide) (hA _ wd_33) (fun _ h9 => h9) rfl hin rfl (by decide +kernel) (by first | rfl | decide) (by first | rfl | decide) (Nat.le_of_ble_eq_true rfl) d_X_init_50 (fun H locs hP hD hS => ?_)
  have hP : va_P D vwCl ([(o, .inr (0, [.ref q1, .ref q2, .int 0, .ref q3, .int 0, .int 0, .ref q4, .ref q5, .ref q6, .int 0, .null, .int 0, .null, .null])), (q1, .inl (D.1 100, 8, .inl (fun _ => 0))), (q2, .inl (D.1 100, 8, .inl (fun _ => 0))), (q3, .inl (D.1 100, 4096, .inl (fun _ => 0))), (q4, .inl (D.1 100, 8, .inl (fun _ => 0))), (q5, .inl (D.1 100, 8, .inl (fun _ => 0))), (q6, .inl (D.1 100, 8, .inl (fun _ => 0)))]) H := hP
  have hD : va_D A ([(o, .inr (0, [.ref q1, .ref q2, .int 0, .ref q3, .int 0, .int 0, .ref q4, .ref q5, .ref q6, .int 0, .null, .int 0, .null, .null])), (q1, .inl (D.1 100, 8, .inl (fun _ => 0))), (q2, .inl (D.1 100, 8, .inl (fun _ => 0))), (q3, .inl (D.1 100, 4096, .inl (fun _ => 0))), (q4, .inl (D.1 100, 8, .inl (fun _ => 0))), (q5, .inl (D.1 100, 8, .inl (fun _ => 0))), (q6, .inl (D.1 100, 8, .inl (fun _ => 0)))]) := hD
  refine lv_aload_n hx hb d_X_init_53 rfl (lv_at hl 0 rfl) ?_
  refine lv_bipush (v := 8) hx hb d_X_init_54 (by decide) ?_
  refine xi_new (N := 8) hx hb (hA _ wd_68) hK hP hD hS hAA (by decide) (by decide) (by decide) (by decide) (by decide) d_X_init_56 (fun q7 H hP hD hS => ?_)
  have hP : va_P D vwCl ([(o, .inr (0, [.ref q1, .ref q2, .int 0, .ref q3, .int 0, .int 0, .ref q4, .ref q5, .ref q6, .int 0, .null, .int 0, .null, .null])), (q1, .inl (D.1 100, 8, .inl (fun _ => 0))), (q2, .inl (D.1 100, 8, .inl (fun _ => 0))), (q3, .inl (D.1 100, 4096, .inl (fun _ => 0))), (q4, .inl (D.1 100, 8, .inl (fun _ => 0))), (q5, .inl (D.1 100, 8, .inl (fun _ => 0))), (q6, .inl (D.1 100, 8, .inl (fun _ => 0))), (q7, .inl (D.1 100, 8, .inl (fun _ => 0)))]) H := hP
  have hD : va_D A ([(o, .inr (0, [.ref q1, .ref q2, .int 0, .ref q3, .int 0, .int 0, .ref q4, .ref q5, .ref q6, .int 0, .null, .int 0, .null, .null])), (q1, .inl (D.1 100, 8, .inl (fun _ => 0))), (q2, .inl (D.1 100, 8, .inl (fun _ => 0))), (q3, .inl (D.1 100, 4096, .inl (fun _ => 0))), (q4, .inl (D.1 100, 8, .inl (fun _ => 0))), (q5, .inl (D.1 100, 8, .inl (fun _ => 0))), (q6, .inl (D.1 100, 8, .inl (fun _ => 0))), (q7, .inl (D.1 100, 8, .inl (fun _ => 0)))]) := hD
  refine va_putF (D := D) (ci := 0) (v := .ref q7) (ty := .array .int) (C := R_X) (T := T_X) (N := 14) hx hb hA inA_X ty_X tok_X nm_X hown hK hP hD hS 0 rfl rfl 10 (by decide) (hA _ wd_35) (fun _ h9 => h9) rfl hin rfl (by decide +kernel) (by first | rfl | decide) (by first | rfl | decide) (Nat.le_of_ble_eq_true rfl) d_X_init_58 (fun H locs hP hD hS => ?_)
  have hP : va_P D vwCl ([(o, .inr (0, [.ref q1, .ref q2, .int 0, .ref q3, .int 0, .int 0, .ref q4, .ref q5, .ref q6, .int 0, .ref q7, .int 0, .null, .null])), (q1, .inl (D.1 100, 8, .inl (fun _ => 0))), (q2, .inl (D.1 100, 8, .inl (fun _ => 0))), (q3, .inl (D.1 100, 4096, .inl (fun _ => 0))), (q4, .inl (D.1 100, 8, .inl (fun _ => 0))), (q5, .inl (D.1 100, 8, .inl (fun _ => 0))), (q6, .inl (D.1 100, 8, .inl (fun _ => 0))), (q7, .inl (D.1 100, 8, .inl (fun _ => 0)))]) H := hP
  have hD : va_D A ([(o, .inr (0, [.ref q1, .ref q2, .int 0, .ref q3, .int 0, .int 0, .ref q4, .ref q5, .ref q6, .int 0, .ref q7, .int 0, .null, .null])), (q1, .inl (D.1 100, 8, .inl (fun _ => 0))), (q2, .inl (D.1 100, 8, .inl (fun _ => 0))), (q3, .inl (D.1 100, 4096, .inl (fun _ => 0))), (q4, .inl (D.1 100, 8, .inl (fun _ => 0))), (q5, .inl (D.1 100, 8, .inl (fun _ => 0))), (q6, .inl (D.1 100, 8, .inl (fun _ => 0))), (q7, .inl (D.1 100, 8, .inl (fun _ => 0)))]) := hD
  refine lv_aload_n hx hb d_X_init_61 rfl (lv_at hl 0 rfl) ?_
  refine lv_bipush (v := 8) hx hb d_X_init_62 (by decide) ?_
  refine xi_new (N := 8) hx hb (hA _ wd_68) hK hP hD hS hAA (by decide) (by decide) (by decide) (by decide) (by decide) d_X_init_64 (fun q8 H hP hD hS => ?_)
  have hP : va_P D vwCl ([(o, .inr (0, [.ref q1, .ref q2, .int 0, .ref q3, .int 0, .int 0, .ref q4, .ref q5, .ref q6, .int 0, .ref q7, .int 0, .null, .null])), (q1, .inl (D.1 100, 8, .inl (fun _ => 0))), (q2, .inl (D.1 100, 8, .inl (fun _ => 0))), (q3, .inl (D.1 100, 4096, .inl (fun _ => 0))), (q4, .inl (D.1 100, 8, .inl (fun _ => 0))), (q5, .inl (D.1 100, 8, .inl (fun _ => 0))), (q6, .inl (D.1 100, 8, .inl (fun _ => 0))), (q7, .inl (D.1 100, 8, .inl (fun _ => 0))), (q8, .inl (D.1 100, 8, .inl (fun _ => 0)))]) H := hP
  have hD : va_D A ([(o, .inr (0, [.ref q1, .ref q2, .int 0, .ref q3, .int 0, .int 0, .ref q4, .ref q5, .ref q6, .int 0, .ref q7, .int 0, .null, .null])), (q1, .inl (D.1 100, 8, .inl (fun _ => 0))), (q2, .inl (D.1 100, 8, .inl (fun _ => 0))), (q3, .inl (D.1 100, 4096, .inl (fun _ => 0))), (q4, .inl (D.1 100, 8, .inl (fun _ => 0))), (q5, .inl (D.1 100, 8, .inl (fun _ => 0))), (q6, .inl (D.1 100, 8, .inl (fun _ => 0))), (q7, .inl (D.1 100, 8, .inl (fun _ => 0))), (q8, .inl (D.1 100, 8, .inl (fun _ => 0)))]) := hD
  refine va_putF (D := D) (ci := 0) (v := .ref q8) (ty := .array .int) (C := R_X) (T := T_X) (N := 14) hx hb hA inA_X ty_X tok_X nm_X hown hK hP hD hS 0 rfl rfl 12 (by decide) (hA _ wd_37) (fun _ h9 => h9) rfl hin rfl (by decide +kernel) (by first | rfl | decide) (by first | rfl | decide) (Nat.le_of_ble_eq_true rfl) d_X_init_66 (fun H locs hP hD hS => ?_)
  have hP : va_P D vwCl ([(o, .inr (0, [.ref q1, .ref q2, .int 0, .ref q3, .int 0, .int 0, .ref q4, .ref q5, .ref q6, .int 0, .ref q7, .int 0, .ref q8, .null])), (q1, .inl (D.1 100, 8, .inl (fun _ => 0))), (q2, .inl (D.1 100, 8, .inl (fun _ => 0))), (q3, .inl (D.1 100, 4096, .inl (fun _ => 0))), (q4, .inl (D.1 100, 8, .inl (fun _ => 0))), (q5, .inl (D.1 100, 8, .inl (fun _ => 0))), (q6, .inl (D.1 100, 8, .inl (fun _ => 0))), (q7, .inl (D.1 100, 8, .inl (fun _ => 0))), (q8, .inl (D.1 100, 8, .inl (fun _ => 0)))]) H := hP
  have hD : va_D A ([(o, .inr (0, [.ref q1, .ref q2, .int 0, .ref q3, .int 0, .int 0, .ref q4, .ref q5, .ref q6, .int 0, .ref q7, .int 0, .ref q8, .null])), (q1, .inl (D.1 100, 8, .inl (fun _ => 0))), (q2, .inl (D.1 100, 8, .inl (fun _ => 0))), (q3, .inl (D.1 100, 4096, .inl (fun _ => 0))), (q4, .inl (D.1 100, 8, .inl (fun _ => 0))), (q5, .inl (D.1 100, 8, .inl (fun _ => 0))), (q6, .inl (D.1 100, 8, .inl (fun _ => 0))), (q7, .inl (D.1 100, 8, .inl (fun _ => 0))), (q8, .inl (D.1 100, 8, .inl (fun _ => 0)))]) := hD
  refine lv_aload_n hx hb d_X_init_69 rfl (lv_at hl 0 rfl) ?_
  refine lv_bipush (v := 8) hx hb d_X_init_70 (by decide) ?_
  refine xi_new (N := 8) hx hb (hA _ wd_68) hK hP hD hS hAA (by decide) (by decide) (by decide) (by decide) (by decide) d_X_init_72 (fun q9 H hP hD hS => ?_)
  have hP : va_P D vwCl ([(o, .inr (0, [.ref q1, .ref q2, .int 0, .ref q3, .int 0, .int 0, .ref q4, .ref q5, .ref q6, .int 0, .ref q7, .int 0, .ref q8, .null])), (q1, .inl (D.1 100, 8, .inl (fun _ => 0))), (q2, .inl (D.1 100, 8, .inl (fun _ => 0))), (q3, .inl (D.1 100, 4096, .inl (fun _ => 0))), (q4, .inl (D.1 100, 8, .inl (fun _ => 0))), (q5, .inl (D.1 100, 8, .inl (fun _ => 0))), (q6, .inl (D.1 100, 8, .inl (fun _ => 0))), (q7, .inl (D.1 100, 8, .inl (fun _ => 0))), (q8, .inl (D.1 100, 8, .inl (fun _ => 0))), (q9, .inl (D.1 100, 8, .inl (fun _ => 0)))]) H := hP
  have hD : va_D A ([(o, .inr (0, [.ref q1, .ref q2, .int 0, .ref q3, .int 0, .int 0, .ref q4, .ref q5, .ref q6, .int 0, .ref q7, .int 0, .ref q8, .null])), (q1, .inl (D.1 100, 8, .inl (fun _ => 0))), (q2, .inl (D.1 100, 8, .inl (fun _ => 0))), (q3, .inl (D.1 100, 4096, .inl (fun _ => 0))), (q4, .inl (D.1 100, 8, .inl (fun _ => 0))), (q5, .inl (D.1 100, 8, .inl (fun _ => 0))), (q6, .inl (D.1 100, 8, .inl (fun _ => 0))), (q7, .inl (D.1 100, 8, .inl (fun _ => 0))), (q8, .inl (D.1 100, 8, .inl (fun _ => 0))), (q9, .inl (D.1 100, 8, .inl (fun _ => 0)))]) := hD
  refine va_putF (D := D) (ci := 0) (v := .ref q9) (ty := .array .int) (C := R_X) (T := T_X) (N := 14) hx hb hA inA_X ty_X tok_X nm_X hown hK hP hD hS 0 rfl rfl 13 (by decide) (hA _ wd_38) (fun _ h9 => h9) rfl hin rfl (by decide +kernel) (by first | rfl | decide) (by first | rfl | decide) (Nat.le_of_ble_eq_true rfl) d_X_init_74 (fun H locs hP hD hS => ?_)
  have hP : va_P D vwCl ([(o, .inr (0, [.ref q1, .ref q2, .int 0, .ref q3, .int 0, .int 0, .ref q4, .ref q5, .ref q6, .int 0, .ref q7, .int 0, .ref q8, .ref q9])), (q1, .inl (D.1 100, 8, .inl (fun _ => 0))), (q2, .inl (D.1 100, 8, .inl (fun _ => 0))), (q3, .inl (D.1 100, 4096, .inl (fun _ => 0))), (q4, .inl (D.1 100, 8, .inl (fun _ => 0))), (q5, .inl (D.1 100, 8, .inl (fun _ => 0))), (q6, .inl (D.1 100, 8, .inl (fun _ => 0))), (q7, .inl (D.1 100, 8, .inl (fun _ => 0))), (q8, .inl (D.1 100, 8, .inl (fun _ => 0))), (q9, .inl (D.1 100, 8, .inl (fun _ => 0)))]) H := hP
  have hD : va_D A ([(o, .inr (0, [.ref q1, .ref q2, .int 0, .ref q3, .int 0, .int 0, .ref q4, .ref q5, .ref q6, .int 0, .ref q7, .int 0, .ref q8, .ref q9])), (q1, .inl (D.1 100, 8, .inl (fun _ => 0))), (q2, .inl (D.1 100, 8, .inl (fun _ => 0))), (q3, .inl (D.1 100, 4096, .inl (fun _ => 0))), (q4, .inl (D.1 100, 8, .inl (fun _ => 0))), (q5, .inl (D.1 100, 8, .inl (fun _ => 0))), (q6, .inl (D.1 100, 8, .inl (fun _ => 0))), (q7, .inl (D.1 100, 8, .inl (fun _ => 0))), (q8, .inl (D.1 100, 8, .inl (fun _ => 0))), (q9, .inl (D.1 100, 8, .inl (fun _ => 0)))]) := hD
  refine lv_aload_n hx hb d_X_init_77 rfl (lv_at hl 0 rfl) ?_
  refine lv_iconst (v := 1) hx hb d_X_init_78 (by decide) ?_
  refine va_put (D := D) (ci := 0) (v := .int 1) (ty := .int) (C := R_X) (T := T_X) (N := 14) hx hb hA inA_X ty_X tok_X nm_X hown hK hP hD hS 0 rfl rfl 4 (by decide) (hA _ wd_29) (fun _ h9 => h9) rfl (by decide +kernel) (by first | rfl | decide) (by first | rfl | decide) (Nat.le_of_ble_eq_true rfl) d_X_init_79 (fun H locs hP hD hS => ?_)
  have hP : va_P D vwCl ([(o, .inr (0, [.ref q1, .ref q2, .int 0, .ref q3, .int 1, .int 0, .ref q4, .ref q5, .ref q6, .int 0, .ref q7, .int 0, .ref q8, .ref q9])), (q1, .inl (D.1 100, 8, .inl (fun _ => 0))), (q2, .inl (D.1 100, 8, .inl (fun _ => 0))), (q3, .inl (D.1 100, 4096, .inl (fun _ => 0))), (q4, .inl (D.1 100, 8, .inl (fun _ => 0))), (q5, .inl (D.1 100, 8, .inl (fun _ => 0))), (q6, .inl (D.1 100, 8, .inl (fun _ => 0))), (q7, .inl (D.1 100, 8, .inl (fun _ => 0))), (q8, .inl (D.1 100, 8, .inl (fun _ => 0))), (q9, .inl (D.1 100, 8, .inl (fun _ => 0)))]) H := hP
  have hD : va_D A ([(o, .inr (0, [.ref q1, .ref q2, .int 0, .ref q3, .int 1, .int 0, .ref q4, .ref q5, .ref q6, .int 0, .ref q7, .int 0, .ref q8, .ref q9])), (q1, .inl (D.1 100, 8, .inl (fun _ => 0))), (q2, .inl (D.1 100, 8, .inl (fun _ => 0))), (q3, .inl (D.1 100, 4096, .inl (fun _ => 0))), (q4, .inl (D.1 100, 8, .inl (fun _ => 0))), (q5, .inl (D.1 100, 8, .inl (fun _ => 0))), (q6, .inl (D.1 100, 8, .inl (fun _ => 0))), (q7, .inl (D.1 100, 8, .inl (fun _ => 0))), (q8, .inl (D.1 100, 8, .inl (fun _ => 0))), (q9, .inl (D.1 100, 8, .inl (fun _ => 0)))]) := hD
  refine lv_aload_n hx hb d_X_init_82 rfl (lv_at hl 0 rfl) ?_
  refine va_get (D := D) (ci := 0) (v := .ref q3) (C := R_X) (T := T_X) (N := 14) hx hb hA inA_X hown hK hP 0 rfl rfl 3 (by decide) (hA _ wd_28) (fun _ h9 => h9) rfl d_X_init_83 ?_
  refine lv_bipush (v := 12) hx hb d_X_init_86 (by decide) ?_
  refine wSv (n := 2) (wr := [(o, .inr (0, [.ref q1, .ref q2, .int 0, .ref q3, .int 1, .int 0, .ref q4, .ref q5, .ref q6, .int 0, .ref q7, .int 0, .ref q8, .ref q9])), (q1, .inl (D.1 100, 8, .inl (fun _ => 0))), (q2, .inl (D.1 100, 8, .inl (fun _ => 0))), (q4, .inl (D.1 100, 8, .inl (fun _ => 0))), (q5, .inl (D.1 100, 8, .inl (fun _ => 0))), (q6, .inl (D.1 100, 8, .inl (fun _ => 0))), (q7, .inl (D.1 100, 8, .inl (fun _ => 0))), (q8, .inl (D.1 100, 8, .inl (fun _ => 0))), (q9, .inl (D.1 100, 8, .inl (fun _ => 0)))]) (Wf := fW D q3) (rest := []) hx hb hml hown hA (c_fill l D q3 _ 12 _) wv_X_41 ⟨by decide, by decide, by decide +kernel⟩ ⟨rfl, rfl, by decide, by decide⟩ rfl hl.1 ⟨by decide, by decide⟩ hP hK hD hS hAA hN [3] [0, 1, 2, 4, 5, 6, 7, 8, 9] rfl rfl (by decide) (by decide) (by decide) rfl (Nat.le_of_ble_eq_true rfl) d_X_init_88 (fun g H locs hg hP hD hS => ?_)
  have hP : va_P D vwCl ([(o, .inr (0, [.ref q1, .ref q2, .int 0, .ref q3, .int 1, .int 0, .ref q4, .ref q5, .ref q6, .int 0, .ref q7, .int 0, .ref q8, .ref q9])), (q1, .inl (D.1 100, 8, .inl (fun _ => 0))), (q2, .inl (D.1 100, 8, .inl (fun _ => 0))), (q4, .inl (D.1 100, 8, .inl (fun _ => 0))), (q5, .inl (D.1 100, 8, .inl (fun _ => 0))), (q6, .inl (D.1 100, 8, .inl (fun _ => 0))), (q7, .inl (D.1 100, 8, .inl (fun _ => 0))), (q8, .inl (D.1 100, 8, .inl (fun _ => 0))), (q9, .inl (D.1 100, 8, .inl (fun _ => 0))), (q3, .inl (D.1 100, 4096, .inl g))]) H := hP
  have hD : va_D A ([(o, .inr (0, [.ref q1, .ref q2, .int 0, .ref q3, .int 1, .int 0, .ref q4, .ref q5, .ref q6, .int 0, .ref q7, .int 0, .ref q8, .ref q9])), (q1, .inl (D.1 100, 8, .inl (fun _ => 0))), (q2, .inl (D.1 100, 8, .inl (fun _ => 0))), (q4, .inl (D.1 100, 8, .inl (fun _ => 0))), (q5, .inl (D.1 100, 8, .inl (fun _ => 0))), (q6, .inl (D.1 100, 8, .inl (fun _ => 0))), (q7, .inl (D.1 100, 8, .inl (fun _ => 0))), (q8, .inl (D.1 100, 8, .inl (fun _ => 0))), (q9, .inl (D.1 100, 8, .inl (fun _ => 0))), (q3, .inl (D.1 100, 4096, .inl g))]) := hD
  have hP : va_P D vwCl (xC D (qf [o, q1, q2, q3, q4, q5, q6, q7, q8, q9], g)) H := va_P.sub1 hP [0, 1, 2, 9, 3, 4, 5, 6, 7, 8] rfl
  have hD : va_D A (xC D (qf [o, q1, q2, q3, q4, q5, q6, q7, q8, q9], g)) := va_D.sub hD [0, 1, 2, 9, 3, 4, 5, 6, 7, 8] (by decide) rfl
  exact eWv (qf [o, q1, q2, q3, q4, q5, q6, q7, q8, q9], g) hx hb hr hlocks hP hK hD hS ⟨rfl, hg⟩ d_X_init_91
end
end
section
section
-- the reference, as it works things out
abbrev wi3 (v a b : Int32) : Prop := ¬ v < a ∧ ¬ b < v
abbrev tm (i a : Int32) (x : Nat → Int32) : Int32 := if 0 ≤ i then a * x i.toNatClampNeg else 0
abbrev gst (m i : Int32) (x : Nat → Int32) : Int32 := if ¬ i < 0 ∧ ¬ x i.toNatClampNeg ≤ m then x i.toNatClampNeg else m
abbrev oLin (i a j b v c bd : Int32) (x : Nat → Int32) : Prop := ¬ bd < tm i a x + tm j b x + tm v c x
abbrev oMax (r i j v : Int32) (x : Nat → Int32) : Prop := x r.toNatClampNeg = gst (gst (x i.toNatClampNeg) j x) v x
abbrev oEle (r i : Int32) (tb : Int64) (x : Nat → Int32) : Prop := ¬ x i.toNatClampNeg < 0 ∧ x i.toNatClampNeg ≤ 7 ∧ x r.toNatClampNeg = (tb >>> ((8 * x i.toNatClampNeg).toInt64 &&& 63)).toInt32.toInt8.toInt32
abbrev oPr (st : Int32) (x : Nat → Int32) (i j : Nat) : Prop := ¬ (inS (nI i) st ∧ inS (nI j) st ∧ x i = x j)
abbrev oDif (n : Nat) (st : Int32) (x : Nat → Int32) : Prop := ∀ i, i < n → ∀ j, j < i → oPr st x i j
abbrev oNib (row : Int64) (i : Int32) : Int32 := ((row >>> ((4 * i).toInt64 &&& 63)) &&& 15).toInt32
def oNed (st : Int32) (w0 w1 : Int64) (mo : Int32) (x : Nat → Int32) : Nat → Nat → Int32 → Int32
  | 0, _, sm => sm
  | t + 1, i, sm => oNed st w0 w1 mo x t (i + 1) (if inS (nI i) st ∧ ¬ mo < x i ∧ ¬ x i + oNib w0 (nI i) ≤ mo then sm + oNib w1 (nI i) else sm)
abbrev oFi (n : Nat) (st cp : Int32) (w0 w1 : Int64) (x : Nat → Int32) (i : Nat) : Prop := (st >>> (nI i &&& 31)) &&& 1 = 0 ∨ ¬ cp < oNed st w0 w1 (x i) x n 0 0
abbrev oFit (n : Nat) (st cp : Int32) (w0 w1 : Int64) (x : Nat → Int32) : Prop := ∀ i, i < n → oFi n st cp w0 w1 x i
abbrev oPt (i v pa how : Int32) (x : Nat → Int32) : Prop := ¬ i < 0 ∧ if inS pa how then ¬ x i.toNatClampNeg < v else ¬ v < x i.toNatClampNeg
abbrev oAny (p : Nat → Int32) (x : Nat → Int32) : Prop := oPt (p 0) (p 1) (nI 0) (p 6) x ∨ oPt (p 2) (p 3) (nI 1) (p 6) x ∨ oPt (p 4) (p 5) (nI 2) (p 6) x
abbrev oRow (pa : Nat → Int32) (r : Nat) : Nat → Int32 := fun k => pa (7 * r + k)
def oSat (n : Nat) (kd : Int32) (p : Nat → Int32) (w0 w1 : Int64) (x : Nat → Int32) : Bool :=
  if kd = 0 then decide (oLin (p 0) (p 1) (p 2) (p 3) (p 4) (p 5) (p 6) x) else
  if kd = 1 then decide (kRei (p 0) (p 1) (p 2) (p 3) x) else
  if kd = 2 then decide (oMax (p 0) (p 1) (p 2) (p 3) x) else
  if kd = 3 then decide (oEle (p 0) (p 1) w0 x) else
  if kd = 4 then decide (oDif n (p 0) x) else
  if kd = 5 then decide (oFit n (p 0) (p 1) w0 w1 x) else decide (oAny p x)
abbrev bx (i : Int32) : Prop := ¬ i < 0 → vp_in i 8
/-- a row's numbers are such that nothing is read outside -/
def rowOk (kd : Int32) (p : Nat → Int32) : Prop :=
  (kd = 0 ∧ bx (p 0) ∧ bx (p 2) ∧ bx (p 4)) ∨ (kd = 1 ∧ vp_in (p 0) 8 ∧ vp_in (p 1) 8 ∧ vp_in (p 2) 8) ∨ (kd = 2 ∧ vp_in (p 0) 8 ∧ vp_in (p 1) 8 ∧ bx (p 2) ∧ bx (p 3)) ∨ (kd = 3 ∧ vp_in (p 0) 8 ∧ vp_in (p 1) 8) ∨ kd = 4 ∨ kd = 5 ∨ (kd = 6 ∧ bx (p 0) ∧ bx (p 2) ∧ bx (p 4))
abbrev oSr (n : Nat) (kd pa : Nat → Int32) (wd : Nat → Int64) (x : Nat → Int32) (r : Nat) : Bool := oSat n (kd r) (oRow pa r) (wd (2 * r)) (wd (2 * r + 1)) x
abbrev oAll (n rw a : Nat) (kd pa : Nat → Int32) (wd : Nat → Int64) (ao fo uo x : Nat → Int32) : Prop := asall a ao fo uo x ∧ ∀ r, r < rw → oSr n kd pa wd x r = true
abbrev vIn (lw s1 sd : Nat → Int32) (nm : Int32) (i : Nat) : Int32 := lw i + (nm / sd i - nm / sd i / s1 i * s1 i)
/-- what look() leaves: of each point whether all holds there -/
abbrev lkOk (n rw a : Nat) (lw s1 sd kd pa : Nat → Int32) (wd : Nat → Int64) (ao fo uo ho : Nat → Int32) (p : Nat) : Prop :=
  ∃ x : Nat → Int32, (∀ i, i < n → x i = vIn lw s1 sd (nI p) i) ∧ ho p = zb (decide (oAll n rw a kd pa wd ao fo uo x))
def exF (ho v : Nat → Int32) (mo : Int32) : Nat → Nat → Int32 → Int32
  | 0, _, fd => fd
  | t + 1, p, fd => exF ho v mo t (p + 1) (if ¬ ho p = 0 ∧ (fd = 1000 ∨ (if mo = 0 then ¬ fd ≤ v p else ¬ v p ≤ fd)) then v p else fd)
abbrev OS : Type := Nat × Nat × Nat × Nat × Int32 × Int32 × (Nat → Int32) × (Nat → Int32) × (Nat → Int32) × (Nat → Int32) × (Nat → Int32) × (Nat → Int64) × (Nat → Int32) × (Nat → Int32) × (Nat → Int32) × (Nat → Int32) × (Nat → Int32)
end
section
variable {p : Program} {l : Launch} {e : Env} {R : Room} {s : State} {m : MethodId} {args : Array Value} {below : List Frame} {meth : Method} {c : Code} {H : Heap} {locs : List Loc} {cells slots : Nat} {Q : State → Prop}
variable {pc : Nat} {ls : Array Slot} {rest st0 : List Value} {D : va_G} {ws wc wr : va_W} {cc : ByteArray} {own : String} {nL : Nat} {A : Nat → Prop} {H0 : Heap}
theorem xl_ald (hx : p.tables.exec = Jvm.exec) (hb : c.code = cc) (hK : va_K D vwCl (vT D) s) (hP : va_P D vwCl ws H) (q0 : Nat) {a N : Nat} {f : Nat → Int64} (ha : ws[q0]? = some (a, .inl (D.1 101, N, .inr (.inl f)))) {k : Nat} (hk : k < N) (hN : N < 2 ^ 31) (hdg : decode cc pc = .ok (.laload, 1))
    (kk : W p l e R s m args below meth c H locs cells slots Q (F0 m (pc + 1) ls (.long (f k) :: rest))) : W p l e R s m args below meth c H locs cells slots Q (F0 m pc ls (.int (nI k) :: .ref a :: rest)) :=
  va_lald hx hb hK hP q0 1 ha rfl (vp_in_nI hk hN) hdg (by rw [nI_clamp (Nat.lt_trans hk hN)]; exact kk)
theorem xl_ast (hx : p.tables.exec = Jvm.exec) (hb : c.code = cc) (hK : va_K D vwCl (vT D) s) (hP : va_P D vwCl ws H) (hD : va_D A ws) (hS : va_S A H0 H locs) (q0 : Nat) {a N : Nat} {f : Nat → Int64} (ha : ws[q0]? = some (a, .inl (D.1 101, N, .inr (.inl f)))) {k : Nat} {x : Int64} (hk : k < N) (hN : N < 2 ^ 31) (hdg : decode cc pc = .ok (.lastore, 1))
    (kk : ∀ (H1 : Heap) (locs1 : List Loc), va_P D vwCl (ws.set q0 (a, .inl (D.1 101, N, .inr (.inl (vp_updL f k x))))) H1 → va_D A (ws.set q0 (a, .inl (D.1 101, N, .inr (.inl (vp_updL f k x))))) → va_S A H0 H1 locs1 → W p l e R s m args below meth c H1 locs1 cells slots Q (F0 m (pc + 1) ls rest)) : W p l e R s m args below meth c H locs cells slots Q (F0 m pc ls (.long x :: .int (nI k) :: .ref a :: rest)) :=
  va_last hx hb hK hP hD hS q0 1 ha rfl (vp_in_nI hk hN) hdg (by rw [nI_clamp (Nat.lt_trans hk hN)]; exact kk)
theorem xz_ald (hx : p.tables.exec = Jvm.exec) (hb : c.code = cc) (hK : va_K D vwCl (vT D) s) (hP : va_P D vwCl ws H) (q0 : Nat) {a N : Nat} {f : Nat → Int32} (ha : ws[q0]? = some (a, .inl (D.1 102, N, .inl f))) {k : Nat} (hk : k < N) (hN : N < 2 ^ 31) (hdg : decode cc pc = .ok (.baload, 1))
    (kk : W p l e R s m args below meth c H locs cells slots Q (F0 m (pc + 1) ls (.int (f k) :: rest))) : W p l e R s m args below meth c H locs cells slots Q (F0 m pc ls (.int (nI k) :: .ref a :: rest)) :=
  va_zald hx hb hK hP q0 2 ha rfl (vp_in_nI hk hN) hdg (by rw [nI_clamp (Nat.lt_trans hk hN)]; exact kk)
theorem nar_zb (b : Bool) : vp_nar .boolean (zb b) = zb b := by cases b <;> first | rfl | decide
theorem xz_ast (hx : p.tables.exec = Jvm.exec) (hb : c.code = cc) (hK : va_K D vwCl (vT D) s) (hP : va_P D vwCl ws H) (hD : va_D A ws) (hS : va_S A H0 H locs) (q0 : Nat) {a N : Nat} {f : Nat → Int32} (ha : ws[q0]? = some (a, .inl (D.1 102, N, .inl f))) {k : Nat} {x : Int32} (hxn : vp_nar .boolean x = x) (hk : k < N) (hN : N < 2 ^ 31) (hdg : decode cc pc = .ok (.bastore, 1))
    (kk : ∀ (H1 : Heap) (locs1 : List Loc), va_P D vwCl (ws.set q0 (a, .inl (D.1 102, N, .inl (upd f k x)))) H1 → va_D A (ws.set q0 (a, .inl (D.1 102, N, .inl (upd f k x)))) → va_S A H0 H1 locs1 → W p l e R s m args below meth c H1 locs1 cells slots Q (F0 m (pc + 1) ls rest)) : W p l e R s m args below meth c H locs cells slots Q (F0 m pc ls (.int x :: .int (nI k) :: .ref a :: rest)) :=
  va_zast hx hb hK hP hD hS q0 2 ha rfl (vp_in_nI hk hN) hdg (by rw [nI_clamp (Nat.lt_trans hk hN), hxn]; exact kk)
theorem xl_new {N : Nat} {v : Int32} (hx : p.tables.exec = Jvm.exec) (hb : c.code = cc) (harr : (Cond.arrayClass .long).before args s = true) (hK : va_K D vwCl (vT D) s) (hP : va_P D vwCl ws H) (hD : va_D A ws) (hS : va_S A H0 H locs) (hA : ∀ q, H0.size ≤ q → A q)
    (hv : ¬ v < 0) (hN : v.toNatClampNeg = N) (hbytes : N * componentBytes .long ≤ 536870912) (hcells : cells + 1 ≤ R.cells) (hslots : slots + N ≤ R.slots) (hdg : decode cc pc = .ok (.newarray .long, 2))
    (kk : ∀ (q : Nat) (H1 : Heap), va_P D vwCl (ws ++ [(q, .inl (D.1 101, N, .inr (.inl (fun _ => 0))))]) H1 → va_D A (ws ++ [(q, .inl (D.1 101, N, .inr (.inl (fun _ => 0))))]) → va_S A H0 H1 locs → W p l e R s m args below meth c H1 locs (cells + 1) (slots + N) Q (F0 m (pc + 2) ls (.ref q :: rest))) : W p l e R s m args below meth c H locs cells slots Q (F0 m pc ls (.int v :: rest)) := by
  refine va_newa (atype := .long) hx hb harr rfl hK hP hD hS hA (a0 := (N, .inr (.inl (fun _ => 0)))) (fun _ => rfl) hv hN hbytes hcells hslots hdg ?_
  intro q cA H1 hK1 hP1 hD1 hS1
  have e1 := (hK.2 1 (D.1 101, .long) rfl).2
  have e2 := (hK1.2 3 (cA, .long) rfl).2
  have e : cA = D.1 101 := Option.some.inj (Eq.trans (Eq.symm e2) e1)
  subst e
  exact kk q H1 hP1 hD1 hS1
theorem xz_new {N : Nat} {v : Int32} (hx : p.tables.exec = Jvm.exec) (hb : c.code = cc) (harr : (Cond.arrayClass .boolean).before args s = true) (hK : va_K D vwCl (vT D) s) (hP : va_P D vwCl ws H) (hD : va_D A ws) (hS : va_S A H0 H locs) (hA : ∀ q, H0.size ≤ q → A q)
    (hv : ¬ v < 0) (hN : v.toNatClampNeg = N) (hbytes : N * componentBytes .boolean ≤ 536870912) (hcells : cells + 1 ≤ R.cells) (hslots : slots + N ≤ R.slots) (hdg : decode cc pc = .ok (.newarray .boolean, 2))
    (kk : ∀ (q : Nat) (H1 : Heap), va_P D vwCl (ws ++ [(q, .inl (D.1 102, N, .inl (fun _ => 0)))]) H1 → va_D A (ws ++ [(q, .inl (D.1 102, N, .inl (fun _ => 0)))]) → va_S A H0 H1 locs → W p l e R s m args below meth c H1 locs (cells + 1) (slots + N) Q (F0 m (pc + 2) ls (.ref q :: rest))) : W p l e R s m args below meth c H locs cells slots Q (F0 m pc ls (.int v :: rest)) := by
  refine va_newa (atype := .boolean) hx hb harr rfl hK hP hD hS hA (a0 := (N, .inl (fun _ => 0))) (fun _ => rfl) hv hN hbytes hcells hslots hdg ?_
  intro q cA H1 hK1 hP1 hD1 hS1
  have e1 := (hK.2 2 (D.1 102, .boolean) rfl).2
  have e2 := (hK1.2 3 (cA, .boolean) rfl).2
  have e : cA = D.1 102 := Option.some.inj (Eq.trans (Eq.symm e2) e1)
  subst e
  exact kk q H1 hP1 hD1 hS1
end
section
abbrev ow (D : va_G) (q : Nat → Nat) (n P rw a : Nat) (kn an : Int32) (lw s1 sd kd pa : Nat → Int32) (wd : Nat → Int64) (ao fo uo ho xo : Nat → Int32) : va_W := [(q 0, .inr (1, [.int (nI n), .ref (q 1), .ref (q 2), .ref (q 3), .int (nI P), .int (nI rw), .ref (q 4), .ref (q 5), .ref (q 6), .int (nI a), .ref (q 7), .ref (q 8), .ref (q 9), .int (kn), .ref (q 10), .int (an), .ref (q 11)])), (q 1, .inl (D.1 100, 8, .inl lw)), (q 2, .inl (D.1 100, 8, .inl s1)), (q 3, .inl (D.1 100, 8, .inl sd)), (q 4, .inl (D.1 100, 12, .inl kd)), (q 5, .inl (D.1 100, 84, .inl pa)), (q 6, .inl (D.1 101, 24, .inr (.inl wd))), (q 7, .inl (D.1 100, 8, .inl ao)), (q 8, .inl (D.1 100, 8, .inl fo)), (q 9, .inl (D.1 100, 8, .inl uo)), (q 10, .inl (D.1 102, 4096, .inl ho)), (q 11, .inl (D.1 100, 8, .inl xo))]
abbrev oW (D : va_G) (q : Nat → Nat) (u : OS) : va_W := ow D q (u.1) (u.2.1) (u.2.2.1) (u.2.2.2.1) (u.2.2.2.2.1) (u.2.2.2.2.2.1) (u.2.2.2.2.2.2.1) (u.2.2.2.2.2.2.2.1) (u.2.2.2.2.2.2.2.2.1) (u.2.2.2.2.2.2.2.2.2.1) (u.2.2.2.2.2.2.2.2.2.2.1) (u.2.2.2.2.2.2.2.2.2.2.2.1) (u.2.2.2.2.2.2.2.2.2.2.2.2.1) (u.2.2.2.2.2.2.2.2.2.2.2.2.2.1) (u.2.2.2.2.2.2.2.2.2.2.2.2.2.2.1) (u.2.2.2.2.2.2.2.2.2.2.2.2.2.2.2.1) (u.2.2.2.2.2.2.2.2.2.2.2.2.2.2.2.2)
end
end
section
section
theorem le7 {x : Int32} (h : x < 8) : x ≤ 7 := by
  rw [Int32.lt_iff_toInt_lt, show (8 : Int32).toInt = 8 by decide] at h
  rw [Int32.le_iff_toInt_le, show (7 : Int32).toInt = 7 by decide]
  omega
theorem lt8i {x : Int32} (h : x ≤ 7) : x < 8 := by
  rw [Int32.le_iff_toInt_le, show (7 : Int32).toInt = 7 by decide] at h
  rw [Int32.lt_iff_toInt_lt, show (8 : Int32).toInt = 8 by decide]
  omega
theorem ne8 {a : Nat} (h : ¬ nI a = 8) (ha : a ≤ 8) : a < 8 := by
  rcases Nat.lt_or_ge a 8 with h1 | h1
  · exact h1
  · obtain rfl : a = 8 := by omega
    exact absurd rfl h
theorem ne12 {a : Nat} (h : ¬ nI a = 12) (ha : a ≤ 12) : a < 12 := by
  rcases Nat.lt_or_ge a 12 with h1 | h1
  · exact h1
  · obtain rfl : a = 12 := by omega
    exact absurd rfl h
theorem nI_ne {a b : Nat} (h : nI a = nI b) (ha : a < 2 ^ 31) (hb : b < 2 ^ 31) : a = b := (nI_eq ha hb).mp h
def sdI (sd : Nat → Int32) (v j : Nat) (g : Nat → Int32) : Prop := ∀ i, g i = if i < j then sd i * nI v else sd i
theorem sdI_0 (sd : Nat → Int32) (v : Nat) : sdI sd v 0 sd := fun i => by rw [if_neg (by omega)]
theorem sdI_s {sd g : Nat → Int32} {v j : Nat} (h : sdI sd v j g) : sdI sd v (j + 1) (upd g j (g j * nI v)) := fun i => by
  by_cases e : i = j
  · rw [e, pk_us, h j, if_neg (by omega), if_pos (by omega)]
  · rw [pk_un e, h i]
    by_cases h1 : i < j
    · rw [if_pos h1, if_pos (by omega)]
    · rw [if_neg h1, if_neg (by omega)]
abbrev clr7 (pa : Nat → Int32) (r : Nat) : Nat → Int32 := upd (upd (upd (upd (upd (upd (upd pa (7 * r + 0) 0) (7 * r + 1) 0) (7 * r + 2) 0) (7 * r + 3) 0) (7 * r + 4) 0) (7 * r + 5) 0) (7 * r + 6) 0
theorem gst_p {m i : Int32} {x : Nat → Int32} (h : ¬ i < 0) (h2 : ¬ x i.toNatClampNeg ≤ m) : x i.toNatClampNeg = gst m i x := (if_pos ⟨h, h2⟩).symm
theorem gst_1 {m i : Int32} {x : Nat → Int32} (h : i < 0) : m = gst m i x := (if_neg (fun h2 => h2.1 h)).symm
theorem gst_2 {m i : Int32} {x : Nat → Int32} (h : x i.toNatClampNeg ≤ m) : m = gst m i x := (if_neg (fun h2 => h2.2 h)).symm
-- a boolean that says whether all of the first j hold
theorem bl_t {A : Prop} {p : Nat → Prop} {j : Nat} (h : true = true ↔ A ∧ ∀ a, a < j → p a) (hp : p j) : true = true ↔ A ∧ ∀ a, a < j + 1 → p a := ⟨fun _ => ⟨(h.mp rfl).1, lt_s (h.mp rfl).2 hp⟩, fun _ => rfl⟩
theorem bl_f {A : Prop} {p : Nat → Prop} {j : Nat} (hp : ¬ p j) : false = true ↔ A ∧ ∀ a, a < j + 1 → p a := ⟨fun h => absurd h (by decide), fun h => absurd (h.2 j (by omega)) hp⟩
theorem bl_k {A : Prop} {p : Nat → Prop} {j : Nat} (h : false = true ↔ A ∧ ∀ a, a < j → p a) : false = true ↔ A ∧ ∀ a, a < j + 1 → p a := ⟨fun h => absurd h (by decide), fun h2 => h.mpr ⟨h2.1, fun a ha => h2.2 a (by omega)⟩⟩
theorem bl_0 {A : Prop} {p : Nat → Prop} {g : Bool} (h : g = true ↔ A) : g = true ↔ A ∧ ∀ a, a < 0 → p a := ⟨fun h2 => ⟨h.mp h2, fun a ha => absurd ha (by omega)⟩, fun h2 => h.mpr h2.1⟩
theorem bl_o {p : Nat → Prop} {g : Bool} {i : Nat} (h : g = true ↔ (∀ a, a < i → p a) ∧ p i) : g = true ↔ ∀ a, a < i + 1 → p a := ⟨fun h2 => lt_s (h.mp h2).1 (h.mp h2).2, fun h2 => h.mpr ⟨fun a ha => h2 a (by omega), h2 i (by omega)⟩⟩
theorem bl_e {P : Prop} [Decidable P] {g : Bool} (h : g = true ↔ P) : zb g = zb (decide P) := by
  congr 1
  by_cases hp : P
  · rw [decide_eq_true hp]; exact h.mpr hp
  · rw [decide_eq_false hp]
    cases g
    · rfl
    · exact absurd (h.mp rfl) hp
-- .. and one that says whether one of them does
theorem ex_k {p : Nat → Prop} {j : Nat} (h : true = true ↔ ∃ a, a < j ∧ p a) : true = true ↔ ∃ a, a < j + 1 ∧ p a := ⟨fun _ => by obtain ⟨a, h1, h2⟩ := h.mp rfl; exact ⟨a, by omega, h2⟩, fun _ => rfl⟩
theorem ex_t {p : Nat → Prop} {j : Nat} (hp : p j) : true = true ↔ ∃ a, a < j + 1 ∧ p a := ⟨fun _ => ⟨j, by omega, hp⟩, fun _ => rfl⟩
theorem ex_f {p : Nat → Prop} {j : Nat} (h : false = true ↔ ∃ a, a < j ∧ p a) (hp : ¬ p j) : false = true ↔ ∃ a, a < j + 1 ∧ p a := ⟨fun h => absurd h (by decide), fun ⟨a, h1, h2⟩ => by
  by_cases e : a = j
  · rw [e] at h2; exact absurd h2 hp
  · exact h.mpr ⟨a, by omega, h2⟩⟩
theorem ex_3 {p : Nat → Prop} {g : Bool} {j : Nat} (hj : j = 3) (h : g = true ↔ ∃ a, a < j ∧ p a) : g = true ↔ p 0 ∨ p 1 ∨ p 2 := by
  subst hj
  rw [h]
  constructor
  · rintro ⟨a, h1, h2⟩
    rcases (show a = 0 ∨ a = 1 ∨ a = 2 by omega) with rfl | rfl | rfl
    · exact Or.inl h2
    · exact Or.inr (Or.inl h2)
    · exact Or.inr (Or.inr h2)
  · rintro (h1 | h1 | h1)
    · exact ⟨0, by omega, h1⟩
    · exact ⟨1, by omega, h1⟩
    · exact ⟨2, by omega, h1⟩
theorem oNed_no {st mo : Int32} {w0 w1 : Int64} {x : Nat → Int32} {t i : Nat} {sm : Int32} (h : ¬ (inS (nI i) st ∧ ¬ mo < x i ∧ ¬ x i + oNib w0 (nI i) ≤ mo)) : oNed st w0 w1 mo x (t + 1) i sm = oNed st w0 w1 mo x t (i + 1) sm := by
  simp only [oNed]; rw [if_neg h]
theorem oNed_go {st mo : Int32} {w0 w1 : Int64} {x : Nat → Int32} {t i : Nat} {sm : Int32} (h : inS (nI i) st ∧ ¬ mo < x i ∧ ¬ x i + oNib w0 (nI i) ≤ mo) : oNed st w0 w1 mo x (t + 1) i sm = oNed st w0 w1 mo x t (i + 1) (sm + oNib w1 (nI i)) := by
  simp only [oNed]; rw [if_pos h]
theorem exF_no {ho v : Nat → Int32} {mo : Int32} {t p : Nat} {fd : Int32} (h : ¬ (¬ ho p = 0 ∧ (fd = 1000 ∨ (if mo = 0 then ¬ fd ≤ v p else ¬ v p ≤ fd)))) : exF ho v mo (t + 1) p fd = exF ho v mo t (p + 1) fd := by
  simp only [exF]; rw [if_neg h]
theorem exF_go {ho v : Nat → Int32} {mo : Int32} {t p : Nat} {fd : Int32} (h : ¬ ho p = 0 ∧ (fd = 1000 ∨ (if mo = 0 then ¬ fd ≤ v p else ¬ v p ≤ fd))) : exF ho v mo (t + 1) p fd = exF ho v mo t (p + 1) (v p) := by
  simp only [exF]; rw [if_pos h]
section
variable {n : Nat} {kd : Int32} {p : Nat → Int32} {w0 w1 : Int64} {x : Nat → Int32}
theorem oSat_0 (h : kd = 0) : oSat n kd p w0 w1 x = decide (oLin (p 0) (p 1) (p 2) (p 3) (p 4) (p 5) (p 6) x) := by subst h; rfl
theorem oSat_1 (h : kd = 1) : oSat n kd p w0 w1 x = decide (kRei (p 0) (p 1) (p 2) (p 3) x) := by subst h; rfl
theorem oSat_2 (h : kd = 2) : oSat n kd p w0 w1 x = decide (oMax (p 0) (p 1) (p 2) (p 3) x) := by subst h; rfl
theorem oSat_3 (h : kd = 3) : oSat n kd p w0 w1 x = decide (oEle (p 0) (p 1) w0 x) := by subst h; rfl
theorem oSat_4 (h : kd = 4) : oSat n kd p w0 w1 x = decide (oDif n (p 0) x) := by subst h; rfl
theorem oSat_5 (h : kd = 5) : oSat n kd p w0 w1 x = decide (oFit n (p 0) (p 1) w0 w1 x) := by subst h; rfl
theorem oSat_6 (h : kd = 6) : oSat n kd p w0 w1 x = decide (oAny p x) := by subst h; rfl
end
end
end
section
section
theorem d_O_changed_0 : decode b_O_changed 0 = .ok (.aload_n 0, 1) := by decide +kernel
theorem d_O_changed_1 : decode b_O_changed 1 = .ok (.iconst 0, 1) := by decide +kernel
theorem d_O_changed_2 : decode b_O_changed 2 = .ok (.putfield 52, 3) := by decide +kernel
theorem d_O_changed_5 : decode b_O_changed 5 = .ok (.aload_n 0, 1) := by decide +kernel
theorem d_O_changed_6 : decode b_O_changed 6 = .ok (.iconst (-1), 1) := by decide +kernel
theorem d_O_changed_7 : decode b_O_changed 7 = .ok (.putfield 46, 3) := by decide +kernel
theorem d_O_changed_10 : decode b_O_changed 10 = .ok (.return_, 1) := by decide +kernel
set_option maxRecDepth 100000 in
set_option maxHeartbeats 4000000 in
theorem o_changed (l : Launch) (D : va_G) (q : Nat → Nat) (n P rw a : Nat) (kn an : Int32) (lw s1 sd kd pa : Nat → Int32) (wd : Nat → Int64) (ao fo uo ho xo : Nat → Int32) (sz : Nat) : Met l y_O_changed (wsm y_O_changed b_O_changed 1 none) { frames := 0, cells := 0, slots := 0, locals := 0 } (va_Pc [.ref (q 0)] (fun U => U.heap.size = sz ∧ cPre D (ow D q n P rw a kn an lw s1 sd kd pa wd ao fo uo ho xo) U)) (va_Qv (fun u : OS => u = (n, P, rw, a, 0, -1, lw, s1, sd, kd, pa, wd, ao, fo, uo, ho, xo)) (fun u t => xB D (oW D q u) (va_A (ow D q n P rw a kn an lw s1 sd kd pa wd ao fo uo ho xo) sz) t) (va_A (ow D q n P rw a kn an lw s1 sd kd pa wd ao fo uo ho xo) sz)) 0 0 (va_A (ow D q n P rw a kn an lw s1 sd kd pa wd ao fo uo ho xo) sz) := by
  refine met_W (Qf := fun A => va_Qv (fun u : OS => u = (n, P, rw, a, 0, -1, lw, s1, sd, kd, pa, wd, ao, fo, uo, ho, xo)) (fun u t => xB D (oW D q u) A t) A) (by decide) (Nat.le_of_ble_eq_true rfl) ?_
  intro p e s m below meth c ls A hx hb hr hlocks hml hown hin hA hP hK hD hN hl hS hAA
  have hown : s.vm.findClass R_O = some m.cls := hown
  have hl : lv_has ls 1 [(0, .ref (q 0))] := hl
  refine lv_aload_n hx hb d_O_changed_0 rfl (lv_at hl 0 rfl) ?_
  refine lv_iconst (v := 0) hx hb d_O_changed_1 (by decide) ?_
  refine va_put (D := D) (ci := 1) (v := .int 0) (ty := .boolean) (C := R_O) (T := T_O) (N := 17) hx hb hA inA_O ty_O tok_O nm_O hown hK hP hD hS 0 rfl rfl 13 (by decide) (hA _ wd_435) (fun _ h9 => h9) rfl (by decide +kernel) (by first | rfl | decide) (by first | rfl | decide) (Nat.le_of_ble_eq_true rfl) d_O_changed_2 (fun H locs hP hD hS => ?_)
  have hP : va_P D vwCl (ow D q n P rw a 0 an lw s1 sd kd pa wd ao fo uo ho xo) H := hP
  have hD : va_D A (ow D q n P rw a 0 an lw s1 sd kd pa wd ao fo uo ho xo) := hD
  refine lv_aload_n hx hb d_O_changed_5 rfl (lv_at hl 0 rfl) ?_
  refine lv_iconst (v := (-1)) hx hb d_O_changed_6 (by decide) ?_
  refine va_put (D := D) (ci := 1) (v := .int (-1)) (ty := .int) (C := R_O) (T := T_O) (N := 17) hx hb hA inA_O ty_O tok_O nm_O hown hK hP hD hS 0 rfl rfl 15 (by decide) (hA _ wd_437) (fun _ h9 => h9) rfl (by decide +kernel) (by first | rfl | decide) (by first | rfl | decide) (Nat.le_of_ble_eq_true rfl) d_O_changed_7 (fun H locs hP hD hS => ?_)
  have hP : va_P D vwCl (ow D q n P rw a 0 (-1) lw s1 sd kd pa wd ao fo uo ho xo) H := hP
  have hD : va_D A (ow D q n P rw a 0 (-1) lw s1 sd kd pa wd ao fo uo ho xo) := hD
  exact eWv (n, P, rw, a, 0, (-1), lw, s1, sd, kd, pa, wd, ao, fo, uo, ho, xo) hx hb hr hlocks hP hK hD hS (rfl) d_O_changed_10
end
end
section
section
theorem d_O_within_0 : decode b_O_within 0 = .ok (.iload_n 0, 1) := by decide +kernel
theorem d_O_within_1 : decode b_O_within 1 = .ok (.iload_n 1, 1) := by decide +kernel
theorem d_O_within_2 : decode b_O_within 2 = .ok (.if_icmp .lt 12, 3) := by decide +kernel
theorem d_O_within_5 : decode b_O_within 5 = .ok (.iload_n 0, 1) := by decide +kernel
theorem d_O_within_6 : decode b_O_within 6 = .ok (.iload_n 2, 1) := by decide +kernel
theorem d_O_within_7 : decode b_O_within 7 = .ok (.if_icmp .gt 7, 3) := by decide +kernel
theorem d_O_within_10 : decode b_O_within 10 = .ok (.iconst 1, 1) := by decide +kernel
theorem d_O_within_11 : decode b_O_within 11 = .ok (.goto 4, 3) := by decide +kernel
theorem d_O_within_14 : decode b_O_within 14 = .ok (.iconst 0, 1) := by decide +kernel
theorem d_O_within_15 : decode b_O_within 15 = .ok (.ireturn, 1) := by decide +kernel
set_option maxRecDepth 100000 in
set_option maxHeartbeats 4000000 in
theorem o_within (l : Launch) (D : va_G) (x y v : Int32) : Met l y_O_within (wsm y_O_within b_O_within 3 (some .boolean)) { frames := 0, cells := 0, slots := 0, locals := 0 } (va_Pc [.int x, .int y, .int v] (cPre D ([]))) (vp_Si (fun r => r = zb (decide (wi3 x y v)))) 0 0 (fun _ => False) := by
  refine met_R (by decide) (Nat.le_of_ble_eq_true rfl) ?_
  intro p e s m below meth c ls hx hb hr hlocks hml hown hin hA hP hK hD hN hl
  have hown : s.vm.findClass R_O = some m.cls := hown
  have hl : lv_has ls 3 [(0, .int x), (1, .int y), (2, .int v)] := hl
  refine lv_iload_n hx hb d_O_within_0 rfl (lv_at hl 0 rfl) ?_
  refine lv_iload_n hx hb d_O_within_1 rfl (lv_at hl 1 rfl) ?_
  refine lv_icmp_lt (tgt := 14) hx hb d_O_within_2 (by decide) (fun h2 => ?_) (fun h2 => ?_)
  · skip
    refine lv_iconst (v := 0) hx hb d_O_within_14 (by decide) ?_
    exact eRz hx hb hr hlocks (by first | rfl | decide) (by first | exact zb_f (fun h => h.1 h2) | exact zb_f (fun h => h.2 h7)) d_O_within_15
  · skip
    refine lv_iload_n hx hb d_O_within_5 rfl (lv_at hl 0 rfl) ?_
    refine lv_iload_n hx hb d_O_within_6 rfl (lv_at hl 2 rfl) ?_
    refine lv_icmp_gt (tgt := 14) hx hb d_O_within_7 (by decide) (fun h7 => ?_) (fun h7 => ?_)
    · skip
      refine lv_iconst (v := 0) hx hb d_O_within_14 (by decide) ?_
      exact eRz hx hb hr hlocks (by first | rfl | decide) (by first | exact zb_f (fun h => h.1 h2) | exact zb_f (fun h => h.2 h7)) d_O_within_15
    · skip
      refine lv_iconst (v := 1) hx hb d_O_within_10 (by decide) ?_
      refine lv_goto (tgt := 15) hx hb d_O_within_11 (by decide) ?_
      exact eRz hx hb hr hlocks (by first | rfl | decide) (by first | exact zb_t (⟨h2, h7⟩)) d_O_within_15
end
end
section
section
theorem d_O_isVariable_0 : decode b_O_isVariable 0 = .ok (.iload_n 1, 1) := by decide +kernel
theorem d_O_isVariable_1 : decode b_O_isVariable 1 = .ok (.ifCond .lt 15, 3) := by decide +kernel
theorem d_O_isVariable_4 : decode b_O_isVariable 4 = .ok (.iload_n 1, 1) := by decide +kernel
theorem d_O_isVariable_5 : decode b_O_isVariable 5 = .ok (.aload_n 0, 1) := by decide +kernel
theorem d_O_isVariable_6 : decode b_O_isVariable 6 = .ok (.getfield 56, 3) := by decide +kernel
theorem d_O_isVariable_9 : decode b_O_isVariable 9 = .ok (.if_icmp .ge 7, 3) := by decide +kernel
theorem d_O_isVariable_12 : decode b_O_isVariable 12 = .ok (.iconst 1, 1) := by decide +kernel
theorem d_O_isVariable_13 : decode b_O_isVariable 13 = .ok (.goto 4, 3) := by decide +kernel
theorem d_O_isVariable_16 : decode b_O_isVariable 16 = .ok (.iconst 0, 1) := by decide +kernel
theorem d_O_isVariable_17 : decode b_O_isVariable 17 = .ok (.ireturn, 1) := by decide +kernel
set_option maxRecDepth 100000 in
set_option maxHeartbeats 4000000 in
theorem o_isVariable (l : Launch) (D : va_G) (q : Nat → Nat) (n P rw a : Nat) (kn an : Int32) (lw s1 sd kd pa : Nat → Int32) (wd : Nat → Int64) (ao fo uo ho xo : Nat → Int32) (i : Int32) : Met l y_O_isVariable (wsm y_O_isVariable b_O_isVariable 2 (some .boolean)) { frames := 0, cells := 0, slots := 0, locals := 0 } (va_Pc [.ref (q 0), .int i] (cPre D (ow D q n P rw a kn an lw s1 sd kd pa wd ao fo uo ho xo))) (vp_Si (fun r => r = zb (decide (iv n i)))) 0 0 (fun _ => False) := by
  refine met_R (by decide) (Nat.le_of_ble_eq_true rfl) ?_
  intro p e s m below meth c ls hx hb hr hlocks hml hown hin hA hP hK hD hN hl
  have hown : s.vm.findClass R_O = some m.cls := hown
  have hl : lv_has ls 2 [(0, .ref (q 0)), (1, .int i)] := hl
  refine lv_iload_n hx hb d_O_isVariable_0 rfl (lv_at hl 1 rfl) ?_
  refine lv_if_lt (tgt := 16) hx hb d_O_isVariable_1 (by decide) (fun h1 => ?_) (fun h1 => ?_)
  · skip
    refine lv_iconst (v := 0) hx hb d_O_isVariable_16 (by decide) ?_
    exact eRz hx hb hr hlocks (by first | rfl | decide) (by first | exact zb_f (fun h => h.1 h1) | exact zb_f (fun h => h.2 h9)) d_O_isVariable_17
  · skip
    refine lv_iload_n hx hb d_O_isVariable_4 rfl (lv_at hl 1 rfl) ?_
    refine lv_aload_n hx hb d_O_isVariable_5 rfl (lv_at hl 0 rfl) ?_
    refine va_get (D := D) (ci := 1) (v := .int (nI n)) (C := R_O) (T := T_O) (N := 17) hx hb hA inA_O hown hK hP 0 rfl rfl 0 (by decide) (hA _ wd_422) (fun _ h9 => h9) rfl d_O_isVariable_6 ?_
    refine lv_icmp_ge (tgt := 16) hx hb d_O_isVariable_9 (by decide) (fun h9 => ?_) (fun h9 => ?_)
    · skip
      refine lv_iconst (v := 0) hx hb d_O_isVariable_16 (by decide) ?_
      exact eRz hx hb hr hlocks (by first | rfl | decide) (by first | exact zb_f (fun h => h.1 h1) | exact zb_f (fun h => h.2 h9)) d_O_isVariable_17
    · skip
      refine lv_iconst (v := 1) hx hb d_O_isVariable_12 (by decide) ?_
      refine lv_goto (tgt := 17) hx hb d_O_isVariable_13 (by decide) ?_
      exact eRz hx hb hr hlocks (by first | rfl | decide) (by first | exact zb_t (⟨h1, h9⟩)) d_O_isVariable_17
end
end
section
section
theorem ws_O_isVariable : Cond.selects R_O y_O_isVariable y_O_isVariable ∈ cA := cA_in (List.mem_append_left _ (List.mem_of_getElem? (i := 15) (by decide +kernel))) rfl
theorem wv_O_59 : Cond.code y_O_isVariable b_O_isVariable 2 (some .boolean) ∈ cA ∧ Cond.initialized y_O_isVariable.cls ∈ cA ∧ Cond.methodLink R_O 59 y_O_isVariable ∈ cA ∧ Cond.instanceMethod y_O_isVariable ∈ cA ∧ Cond.selects y_O_isVariable.cls y_O_isVariable y_O_isVariable ∈ cA := ⟨wd_495, wd_3, wd_492, wd_494, ws_O_isVariable⟩
theorem d_O_isPart_0 : decode b_O_isPart 0 = .ok (.iload_n 1, 1) := by decide +kernel
theorem d_O_isPart_1 : decode b_O_isPart 1 = .ok (.iconst (-1), 1) := by decide +kernel
theorem d_O_isPart_2 : decode b_O_isPart 2 = .ok (.if_icmp .eq 11, 3) := by decide +kernel
theorem d_O_isPart_5 : decode b_O_isPart 5 = .ok (.aload_n 0, 1) := by decide +kernel
theorem d_O_isPart_6 : decode b_O_isPart 6 = .ok (.iload_n 1, 1) := by decide +kernel
theorem d_O_isPart_7 : decode b_O_isPart 7 = .ok (.invokevirtual 59, 3) := by decide +kernel
theorem d_O_isPart_10 : decode b_O_isPart 10 = .ok (.ifCond .eq 7, 3) := by decide +kernel
theorem d_O_isPart_13 : decode b_O_isPart 13 = .ok (.iconst 1, 1) := by decide +kernel
theorem d_O_isPart_14 : decode b_O_isPart 14 = .ok (.goto 4, 3) := by decide +kernel
theorem d_O_isPart_17 : decode b_O_isPart 17 = .ok (.iconst 0, 1) := by decide +kernel
theorem d_O_isPart_18 : decode b_O_isPart 18 = .ok (.ireturn, 1) := by decide +kernel
set_option maxRecDepth 100000 in
set_option maxHeartbeats 4000000 in
theorem o_isPart (l : Launch) (D : va_G) (q : Nat → Nat) (n P rw a : Nat) (kn an : Int32) (lw s1 sd kd pa : Nat → Int32) (wd : Nat → Int64) (ao fo uo ho xo : Nat → Int32) (i : Int32) : Met l y_O_isPart (wsm y_O_isPart b_O_isPart 2 (some .boolean)) { frames := 1, cells := 0, slots := 0, locals := 21 } (va_Pc [.ref (q 0), .int i] (cPre D (ow D q n P rw a kn an lw s1 sd kd pa wd ao fo uo ho xo))) (vp_Si (fun r => r = zb (decide (iva n i)))) 0 0 (fun _ => False) := by
  refine met_R (by decide) (Nat.le_of_ble_eq_true rfl) ?_
  intro p e s m below meth c ls hx hb hr hlocks hml hown hin hA hP hK hD hN hl
  have hown : s.vm.findClass R_O = some m.cls := hown
  have hl : lv_has ls 2 [(0, .ref (q 0)), (1, .int i)] := hl
  refine lv_iload_n hx hb d_O_isPart_0 rfl (lv_at hl 1 rfl) ?_
  refine lv_iconst (v := (-1)) hx hb d_O_isPart_1 (by decide) ?_
  refine lv_icmp_eq (tgt := 13) hx hb d_O_isPart_2 (by decide) (fun h2 => ?_) (fun h2 => ?_)
  · skip
    refine lv_iconst (v := 1) hx hb d_O_isPart_13 (by decide) ?_
    refine lv_goto (tgt := 18) hx hb d_O_isPart_14 (by decide) ?_
    exact eRz hx hb hr hlocks (by first | rfl | decide) (by first | exact zb_t (Or.inl h2) | exact zb_t (Or.inr h7)) d_O_isPart_18
  · skip
    refine lv_aload_n hx hb d_O_isPart_5 rfl (lv_at hl 0 rfl) ?_
    refine lv_iload_n hx hb d_O_isPart_6 rfl (lv_at hl 1 rfl) ?_
    refine rV (n := 1) (rest := []) hx hb hml hown hA (o_isVariable l D q n P rw a kn an lw s1 sd kd pa wd ao fo uo ho xo i) wv_O_59 ⟨by decide, by decide, by decide +kernel⟩ ⟨rfl, rfl, by decide, by decide⟩ rfl hl.1 ⟨Nat.le_of_ble_eq_true rfl, Nat.le_of_ble_eq_true rfl⟩ hP hK hD hN 0 1 rfl rfl rfl (Nat.le_of_ble_eq_true rfl) d_O_isPart_7 (fun r hr9 => ?_)
    rcases zb_c hr9 with ⟨rfl, h7⟩ | ⟨rfl, h7⟩
    · skip
      refine lv_if_eq (tgt := 17) hx hb d_O_isPart_10 (by decide) (fun h => absurd h (by decide)) (fun _ => ?_)
      refine lv_iconst (v := 1) hx hb d_O_isPart_13 (by decide) ?_
      refine lv_goto (tgt := 18) hx hb d_O_isPart_14 (by decide) ?_
      exact eRz hx hb hr hlocks (by first | rfl | decide) (by first | exact zb_t (Or.inl h2) | exact zb_t (Or.inr h7)) d_O_isPart_18
    · skip
      refine lv_if_eq (tgt := 17) hx hb d_O_isPart_10 (by decide) (fun _ => ?_) (fun h => absurd h (by decide))
      refine lv_iconst (v := 0) hx hb d_O_isPart_17 (by decide) ?_
      exact eRz hx hb hr hlocks (by first | rfl | decide) (by first | exact zb_f (fun h => h.elim h2 h7)) d_O_isPart_18
end
end
section
section
theorem d_O_isSet_0 : decode b_O_isSet 0 = .ok (.iload_n 1, 1) := by decide +kernel
theorem d_O_isSet_1 : decode b_O_isSet 1 = .ok (.ifCond .lt 17, 3) := by decide +kernel
theorem d_O_isSet_4 : decode b_O_isSet 4 = .ok (.iload_n 1, 1) := by decide +kernel
theorem d_O_isSet_5 : decode b_O_isSet 5 = .ok (.iconst 1, 1) := by decide +kernel
theorem d_O_isSet_6 : decode b_O_isSet 6 = .ok (.aload_n 0, 1) := by decide +kernel
theorem d_O_isSet_7 : decode b_O_isSet 7 = .ok (.getfield 56, 3) := by decide +kernel
theorem d_O_isSet_10 : decode b_O_isSet 10 = .ok (.ishl, 1) := by decide +kernel
theorem d_O_isSet_11 : decode b_O_isSet 11 = .ok (.if_icmp .ge 7, 3) := by decide +kernel
theorem d_O_isSet_14 : decode b_O_isSet 14 = .ok (.iconst 1, 1) := by decide +kernel
theorem d_O_isSet_15 : decode b_O_isSet 15 = .ok (.goto 4, 3) := by decide +kernel
theorem d_O_isSet_18 : decode b_O_isSet 18 = .ok (.iconst 0, 1) := by decide +kernel
theorem d_O_isSet_19 : decode b_O_isSet 19 = .ok (.ireturn, 1) := by decide +kernel
set_option maxRecDepth 100000 in
set_option maxHeartbeats 4000000 in
theorem o_isSet (l : Launch) (D : va_G) (q : Nat → Nat) (n P rw a : Nat) (kn an : Int32) (lw s1 sd kd pa : Nat → Int32) (wd : Nat → Int64) (ao fo uo ho xo : Nat → Int32) (t : Int32) : Met l y_O_isSet (wsm y_O_isSet b_O_isSet 2 (some .boolean)) { frames := 0, cells := 0, slots := 0, locals := 0 } (va_Pc [.ref (q 0), .int t] (cPre D (ow D q n P rw a kn an lw s1 sd kd pa wd ao fo uo ho xo))) (vp_Si (fun r => r = zb (decide (ivs n t)))) 0 0 (fun _ => False) := by
  refine met_R (by decide) (Nat.le_of_ble_eq_true rfl) ?_
  intro p e s m below meth c ls hx hb hr hlocks hml hown hin hA hP hK hD hN hl
  have hown : s.vm.findClass R_O = some m.cls := hown
  have hl : lv_has ls 2 [(0, .ref (q 0)), (1, .int t)] := hl
  refine lv_iload_n hx hb d_O_isSet_0 rfl (lv_at hl 1 rfl) ?_
  refine lv_if_lt (tgt := 18) hx hb d_O_isSet_1 (by decide) (fun h1 => ?_) (fun h1 => ?_)
  · skip
    refine lv_iconst (v := 0) hx hb d_O_isSet_18 (by decide) ?_
    exact eRz hx hb hr hlocks (by first | rfl | decide) (by first | exact zb_f (fun h => h.1 h1) | exact zb_f (fun h => h.2 h11)) d_O_isSet_19
  · skip
    refine lv_iload_n hx hb d_O_isSet_4 rfl (lv_at hl 1 rfl) ?_
    refine lv_iconst (v := 1) hx hb d_O_isSet_5 (by decide) ?_
    refine lv_aload_n hx hb d_O_isSet_6 rfl (lv_at hl 0 rfl) ?_
    refine va_get (D := D) (ci := 1) (v := .int (nI n)) (C := R_O) (T := T_O) (N := 17) hx hb hA inA_O hown hK hP 0 rfl rfl 0 (by decide) (hA _ wd_422) (fun _ h9 => h9) rfl d_O_isSet_7 ?_
    refine lv_ishl hx hb d_O_isSet_10 ?_
    refine lv_icmp_ge (tgt := 18) hx hb d_O_isSet_11 (by decide) (fun h11 => ?_) (fun h11 => ?_)
    · skip
      refine lv_iconst (v := 0) hx hb d_O_isSet_18 (by decide) ?_
      exact eRz hx hb hr hlocks (by first | rfl | decide) (by first | exact zb_f (fun h => h.1 h1) | exact zb_f (fun h => h.2 h11)) d_O_isSet_19
    · skip
      refine lv_iconst (v := 1) hx hb d_O_isSet_14 (by decide) ?_
      refine lv_goto (tgt := 19) hx hb d_O_isSet_15 (by decide) ?_
      exact eRz hx hb hr hlocks (by first | rfl | decide) (by first | exact zb_t (⟨h1, h11⟩)) d_O_isSet_19
end
end
section
section
theorem d_O_variables_0 : decode b_O_variables 0 = .ok (.aload_n 0, 1) := by decide +kernel
theorem d_O_variables_1 : decode b_O_variables 1 = .ok (.getfield 56, 3) := by decide +kernel
theorem d_O_variables_4 : decode b_O_variables 4 = .ok (.ireturn, 1) := by decide +kernel
set_option maxRecDepth 100000 in
set_option maxHeartbeats 4000000 in
theorem o_variables (l : Launch) (D : va_G) (q : Nat → Nat) (n P rw a : Nat) (kn an : Int32) (lw s1 sd kd pa : Nat → Int32) (wd : Nat → Int64) (ao fo uo ho xo : Nat → Int32) : Met l y_O_variables (wsm y_O_variables b_O_variables 1 (some .int)) { frames := 0, cells := 0, slots := 0, locals := 0 } (va_Pc [.ref (q 0)] (cPre D (ow D q n P rw a kn an lw s1 sd kd pa wd ao fo uo ho xo))) (vp_Si (fun r => r = nI n)) 0 0 (fun _ => False) := by
  refine met_R (by decide) (Nat.le_of_ble_eq_true rfl) ?_
  intro p e s m below meth c ls hx hb hr hlocks hml hown hin hA hP hK hD hN hl
  have hown : s.vm.findClass R_O = some m.cls := hown
  have hl : lv_has ls 1 [(0, .ref (q 0))] := hl
  refine lv_aload_n hx hb d_O_variables_0 rfl (lv_at hl 0 rfl) ?_
  refine va_get (D := D) (ci := 1) (v := .int (nI n)) (C := R_O) (T := T_O) (N := 17) hx hb hA inA_O hown hK hP 0 rfl rfl 0 (by decide) (hA _ wd_422) (fun _ h9 => h9) rfl d_O_variables_1 ?_
  exact eR hx hb hr hlocks (rfl) d_O_variables_4
end
end
section
section
theorem d_O_constraints_0 : decode b_O_constraints 0 = .ok (.aload_n 0, 1) := by decide +kernel
theorem d_O_constraints_1 : decode b_O_constraints 1 = .ok (.getfield 66, 3) := by decide +kernel
theorem d_O_constraints_4 : decode b_O_constraints 4 = .ok (.ireturn, 1) := by decide +kernel
set_option maxRecDepth 100000 in
set_option maxHeartbeats 4000000 in
theorem o_constraints (l : Launch) (D : va_G) (q : Nat → Nat) (n P rw a : Nat) (kn an : Int32) (lw s1 sd kd pa : Nat → Int32) (wd : Nat → Int64) (ao fo uo ho xo : Nat → Int32) : Met l y_O_constraints (wsm y_O_constraints b_O_constraints 1 (some .int)) { frames := 0, cells := 0, slots := 0, locals := 0 } (va_Pc [.ref (q 0)] (cPre D (ow D q n P rw a kn an lw s1 sd kd pa wd ao fo uo ho xo))) (vp_Si (fun r => r = nI rw)) 0 0 (fun _ => False) := by
  refine met_R (by decide) (Nat.le_of_ble_eq_true rfl) ?_
  intro p e s m below meth c ls hx hb hr hlocks hml hown hin hA hP hK hD hN hl
  have hown : s.vm.findClass R_O = some m.cls := hown
  have hl : lv_has ls 1 [(0, .ref (q 0))] := hl
  refine lv_aload_n hx hb d_O_constraints_0 rfl (lv_at hl 0 rfl) ?_
  refine va_get (D := D) (ci := 1) (v := .int (nI rw)) (C := R_O) (T := T_O) (N := 17) hx hb hA inA_O hown hK hP 0 rfl rfl 5 (by decide) (hA _ wd_427) (fun _ h9 => h9) rfl d_O_constraints_1 ?_
  exact eR hx hb hr hlocks (rfl) d_O_constraints_4
end
end
section
section
theorem d_O_assumptions_0 : decode b_O_assumptions 0 = .ok (.aload_n 0, 1) := by decide +kernel
theorem d_O_assumptions_1 : decode b_O_assumptions 1 = .ok (.getfield 87, 3) := by decide +kernel
theorem d_O_assumptions_4 : decode b_O_assumptions 4 = .ok (.ireturn, 1) := by decide +kernel
set_option maxRecDepth 100000 in
set_option maxHeartbeats 4000000 in
theorem o_assumptions (l : Launch) (D : va_G) (q : Nat → Nat) (n P rw a : Nat) (kn an : Int32) (lw s1 sd kd pa : Nat → Int32) (wd : Nat → Int64) (ao fo uo ho xo : Nat → Int32) : Met l y_O_assumptions (wsm y_O_assumptions b_O_assumptions 1 (some .int)) { frames := 0, cells := 0, slots := 0, locals := 0 } (va_Pc [.ref (q 0)] (cPre D (ow D q n P rw a kn an lw s1 sd kd pa wd ao fo uo ho xo))) (vp_Si (fun r => r = nI a)) 0 0 (fun _ => False) := by
  refine met_R (by decide) (Nat.le_of_ble_eq_true rfl) ?_
  intro p e s m below meth c ls hx hb hr hlocks hml hown hin hA hP hK hD hN hl
  have hown : s.vm.findClass R_O = some m.cls := hown
  have hl : lv_has ls 1 [(0, .ref (q 0))] := hl
  refine lv_aload_n hx hb d_O_assumptions_0 rfl (lv_at hl 0 rfl) ?_
  refine va_get (D := D) (ci := 1) (v := .int (nI a)) (C := R_O) (T := T_O) (N := 17) hx hb hA inA_O hown hK hP 0 rfl rfl 9 (by decide) (hA _ wd_431) (fun _ h9 => h9) rfl d_O_assumptions_1 ?_
  exact eR hx hb hr hlocks (rfl) d_O_assumptions_4
end
end
section
section
theorem d_O_space_0 : decode b_O_space 0 = .ok (.aload_n 0, 1) := by decide +kernel
theorem d_O_space_1 : decode b_O_space 1 = .ok (.getfield 19, 3) := by decide +kernel
theorem d_O_space_4 : decode b_O_space 4 = .ok (.ireturn, 1) := by decide +kernel
set_option maxRecDepth 100000 in
set_option maxHeartbeats 4000000 in
theorem o_space (l : Launch) (D : va_G) (q : Nat → Nat) (n P rw a : Nat) (kn an : Int32) (lw s1 sd kd pa : Nat → Int32) (wd : Nat → Int64) (ao fo uo ho xo : Nat → Int32) : Met l y_O_space (wsm y_O_space b_O_space 1 (some .int)) { frames := 0, cells := 0, slots := 0, locals := 0 } (va_Pc [.ref (q 0)] (cPre D (ow D q n P rw a kn an lw s1 sd kd pa wd ao fo uo ho xo))) (vp_Si (fun r => r = nI P)) 0 0 (fun _ => False) := by
  refine met_R (by decide) (Nat.le_of_ble_eq_true rfl) ?_
  intro p e s m below meth c ls hx hb hr hlocks hml hown hin hA hP hK hD hN hl
  have hown : s.vm.findClass R_O = some m.cls := hown
  have hl : lv_has ls 1 [(0, .ref (q 0))] := hl
  refine lv_aload_n hx hb d_O_space_0 rfl (lv_at hl 0 rfl) ?_
  refine va_get (D := D) (ci := 1) (v := .int (nI P)) (C := R_O) (T := T_O) (N := 17) hx hb hA inA_O hown hK hP 0 rfl rfl 4 (by decide) (hA _ wd_426) (fun _ h9 => h9) rfl d_O_space_1 ?_
  exact eR hx hb hr hlocks (rfl) d_O_space_4
end
end
section
section
theorem d_O_set_0 : decode b_O_set 0 = .ok (.aload_n 0, 1) := by decide +kernel
theorem d_O_set_1 : decode b_O_set 1 = .ok (.getfield 26, 3) := by decide +kernel
theorem d_O_set_4 : decode b_O_set 4 = .ok (.bipush 7, 2) := by decide +kernel
theorem d_O_set_6 : decode b_O_set 6 = .ok (.iload_n 1, 1) := by decide +kernel
theorem d_O_set_7 : decode b_O_set 7 = .ok (.imul, 1) := by decide +kernel
theorem d_O_set_8 : decode b_O_set 8 = .ok (.iload_n 2, 1) := by decide +kernel
theorem d_O_set_9 : decode b_O_set 9 = .ok (.iadd, 1) := by decide +kernel
theorem d_O_set_10 : decode b_O_set 10 = .ok (.iload_n 3, 1) := by decide +kernel
theorem d_O_set_11 : decode b_O_set 11 = .ok (.iastore, 1) := by decide +kernel
theorem d_O_set_12 : decode b_O_set 12 = .ok (.return_, 1) := by decide +kernel
set_option maxRecDepth 100000 in
set_option maxHeartbeats 4000000 in
theorem o_set (l : Launch) (D : va_G) (q : Nat → Nat) (n P rw a : Nat) (kn an : Int32) (lw s1 sd kd pa : Nat → Int32) (wd : Nat → Int64) (ao fo uo ho xo : Nat → Int32) (j c1 : Nat) (v : Int32) (sz : Nat) (hj : j < 12) (hc1 : c1 < 7) : Met l y_O_set (wsm y_O_set b_O_set 4 none) { frames := 0, cells := 0, slots := 0, locals := 0 } (va_Pc [.ref (q 0), .int (nI j), .int (nI c1), .int v] (fun U => U.heap.size = sz ∧ cPre D (ow D q n P rw a kn an lw s1 sd kd pa wd ao fo uo ho xo) U)) (va_Qv (fun u : OS => u = (n, P, rw, a, kn, an, lw, s1, sd, kd, upd pa (7 * j + c1) v, wd, ao, fo, uo, ho, xo)) (fun u t => xB D (oW D q u) (va_A (ow D q n P rw a kn an lw s1 sd kd pa wd ao fo uo ho xo) sz) t) (va_A (ow D q n P rw a kn an lw s1 sd kd pa wd ao fo uo ho xo) sz)) 0 0 (va_A (ow D q n P rw a kn an lw s1 sd kd pa wd ao fo uo ho xo) sz) := by
  refine met_W (Qf := fun A => va_Qv (fun u : OS => u = (n, P, rw, a, kn, an, lw, s1, sd, kd, upd pa (7 * j + c1) v, wd, ao, fo, uo, ho, xo)) (fun u t => xB D (oW D q u) A t) A) (by decide) (Nat.le_of_ble_eq_true rfl) ?_
  intro p e s m below meth c ls A hx hb hr hlocks hml hown hin hA hP hK hD hN hl hS hAA
  have hown : s.vm.findClass R_O = some m.cls := hown
  have hl : lv_has ls 4 [(0, .ref (q 0)), (1, .int (nI j)), (2, .int (nI c1)), (3, .int v)] := hl
  refine lv_aload_n hx hb d_O_set_0 rfl (lv_at hl 0 rfl) ?_
  refine va_get (D := D) (ci := 1) (v := .ref (q 5)) (C := R_O) (T := T_O) (N := 17) hx hb hA inA_O hown hK hP 0 rfl rfl 7 (by decide) (hA _ wd_429) (fun _ h9 => h9) rfl d_O_set_1 ?_
  refine lv_bipush (v := 7) hx hb d_O_set_4 (by decide) ?_
  refine lv_iload_n hx hb d_O_set_6 rfl (lv_at hl 1 rfl) ?_
  refine lv_imul hx hb d_O_set_7 ?_
  refine lv_iload_n hx hb d_O_set_8 rfl (lv_at hl 2 rfl) ?_
  refine lv_iadd hx hb d_O_set_9 ?_
  refine topi_to (v := nI (7 * j + c1)) (by rw [← nI_add, ← pk_mul]; rfl) ?_
  refine lv_iload_n hx hb d_O_set_10 rfl (lv_at hl 3 rfl) ?_
  refine xi_ast hx hb hK hP hD hS 5 rfl (by omega) (by decide) d_O_set_11 (fun H locs hP hD hS => ?_)
  have hP : va_P D vwCl (ow D q n P rw a kn an lw s1 sd kd (upd pa (7 * j + c1) v) wd ao fo uo ho xo) H := hP
  have hD : va_D A (ow D q n P rw a kn an lw s1 sd kd (upd pa (7 * j + c1) v) wd ao fo uo ho xo) := hD
  exact eWv (n, P, rw, a, kn, an, lw, s1, sd, kd, upd pa (7 * j + c1) v, wd, ao, fo, uo, ho, xo) hx hb hr hlocks hP hK hD hS (rfl) d_O_set_12
end
end
section
section
theorem d_O_of_0 : decode b_O_of 0 = .ok (.aload_n 0, 1) := by decide +kernel
theorem d_O_of_1 : decode b_O_of 1 = .ok (.getfield 26, 3) := by decide +kernel
theorem d_O_of_4 : decode b_O_of 4 = .ok (.bipush 7, 2) := by decide +kernel
theorem d_O_of_6 : decode b_O_of 6 = .ok (.iload_n 1, 1) := by decide +kernel
theorem d_O_of_7 : decode b_O_of 7 = .ok (.imul, 1) := by decide +kernel
theorem d_O_of_8 : decode b_O_of 8 = .ok (.iload_n 2, 1) := by decide +kernel
theorem d_O_of_9 : decode b_O_of 9 = .ok (.iadd, 1) := by decide +kernel
theorem d_O_of_10 : decode b_O_of 10 = .ok (.iaload, 1) := by decide +kernel
theorem d_O_of_11 : decode b_O_of 11 = .ok (.ireturn, 1) := by decide +kernel
set_option maxRecDepth 100000 in
set_option maxHeartbeats 4000000 in
theorem o_of (l : Launch) (D : va_G) (q : Nat → Nat) (n P rw a : Nat) (kn an : Int32) (lw s1 sd kd pa : Nat → Int32) (wd : Nat → Int64) (ao fo uo ho xo : Nat → Int32) (j c1 : Nat) (hj : j < 12) (hc1 : c1 < 7) : Met l y_O_of (wsm y_O_of b_O_of 3 (some .int)) { frames := 0, cells := 0, slots := 0, locals := 0 } (va_Pc [.ref (q 0), .int (nI j), .int (nI c1)] (cPre D (ow D q n P rw a kn an lw s1 sd kd pa wd ao fo uo ho xo))) (vp_Si (fun r => r = oRow pa j c1)) 0 0 (fun _ => False) := by
  refine met_R (by decide) (Nat.le_of_ble_eq_true rfl) ?_
  intro p e s m below meth c ls hx hb hr hlocks hml hown hin hA hP hK hD hN hl
  have hown : s.vm.findClass R_O = some m.cls := hown
  have hl : lv_has ls 3 [(0, .ref (q 0)), (1, .int (nI j)), (2, .int (nI c1))] := hl
  refine lv_aload_n hx hb d_O_of_0 rfl (lv_at hl 0 rfl) ?_
  refine va_get (D := D) (ci := 1) (v := .ref (q 5)) (C := R_O) (T := T_O) (N := 17) hx hb hA inA_O hown hK hP 0 rfl rfl 7 (by decide) (hA _ wd_429) (fun _ h9 => h9) rfl d_O_of_1 ?_
  refine lv_bipush (v := 7) hx hb d_O_of_4 (by decide) ?_
  refine lv_iload_n hx hb d_O_of_6 rfl (lv_at hl 1 rfl) ?_
  refine lv_imul hx hb d_O_of_7 ?_
  refine lv_iload_n hx hb d_O_of_8 rfl (lv_at hl 2 rfl) ?_
  refine lv_iadd hx hb d_O_of_9 ?_
  refine topi_to (v := nI (7 * j + c1)) (by rw [← nI_add, ← pk_mul]; rfl) ?_
  refine xi_ald hx hb hK hP 5 rfl (by omega) (by decide) d_O_of_10 ?_
  exact eR hx hb hr hlocks (rfl) d_O_of_11
end
end
section
section
theorem d_O_times_0 : decode b_O_times 0 = .ok (.iload_n 1, 1) := by decide +kernel
theorem d_O_times_1 : decode b_O_times 1 = .ok (.ifCond .ge 7, 3) := by decide +kernel
theorem d_O_times_4 : decode b_O_times 4 = .ok (.iconst 0, 1) := by decide +kernel
theorem d_O_times_5 : decode b_O_times 5 = .ok (.goto 11, 3) := by decide +kernel
theorem d_O_times_8 : decode b_O_times 8 = .ok (.iload_n 2, 1) := by decide +kernel
theorem d_O_times_9 : decode b_O_times 9 = .ok (.aload_n 0, 1) := by decide +kernel
theorem d_O_times_10 : decode b_O_times 10 = .ok (.getfield 49, 3) := by decide +kernel
theorem d_O_times_13 : decode b_O_times 13 = .ok (.iload_n 1, 1) := by decide +kernel
theorem d_O_times_14 : decode b_O_times 14 = .ok (.iaload, 1) := by decide +kernel
theorem d_O_times_15 : decode b_O_times 15 = .ok (.imul, 1) := by decide +kernel
theorem d_O_times_16 : decode b_O_times 16 = .ok (.ireturn, 1) := by decide +kernel
set_option maxRecDepth 100000 in
set_option maxHeartbeats 4000000 in
theorem o_times (l : Launch) (D : va_G) (q : Nat → Nat) (n P rw a : Nat) (kn an : Int32) (lw s1 sd kd pa : Nat → Int32) (wd : Nat → Int64) (ao fo uo ho xo : Nat → Int32) (i v : Int32) (hi8 : bx i) : Met l y_O_times (wsm y_O_times b_O_times 3 (some .int)) { frames := 0, cells := 0, slots := 0, locals := 0 } (va_Pc [.ref (q 0), .int i, .int v] (cPre D (ow D q n P rw a kn an lw s1 sd kd pa wd ao fo uo ho xo))) (vp_Si (fun r => r = tm i v xo)) 0 0 (fun _ => False) := by
  refine met_R (by decide) (Nat.le_of_ble_eq_true rfl) ?_
  intro p e s m below meth c ls hx hb hr hlocks hml hown hin hA hP hK hD hN hl
  have hown : s.vm.findClass R_O = some m.cls := hown
  have hl : lv_has ls 3 [(0, .ref (q 0)), (1, .int i), (2, .int v)] := hl
  refine lv_iload_n hx hb d_O_times_0 rfl (lv_at hl 1 rfl) ?_
  refine lv_if_ge (tgt := 8) hx hb d_O_times_1 (by decide) (fun h1 => ?_) (fun h1 => ?_)
  · skip
    refine lv_iload_n hx hb d_O_times_8 rfl (lv_at hl 2 rfl) ?_
    refine lv_aload_n hx hb d_O_times_9 rfl (lv_at hl 0 rfl) ?_
    refine va_get (D := D) (ci := 1) (v := .ref (q 11)) (C := R_O) (T := T_O) (N := 17) hx hb hA inA_O hown hK hP 0 rfl rfl 16 (by decide) (hA _ wd_438) (fun _ h9 => h9) rfl d_O_times_10 ?_
    refine lv_iload_n hx hb d_O_times_13 rfl (lv_at hl 1 rfl) ?_
    refine va_iald hx hb hK hP 11 0 rfl rfl (hi8 (Int32.not_lt.mpr h1)) d_O_times_14 ?_
    refine lv_imul hx hb d_O_times_15 ?_
    exact eR hx hb hr hlocks ((if_pos h1).symm) d_O_times_16
  · skip
    refine lv_iconst (v := 0) hx hb d_O_times_4 (by decide) ?_
    refine lv_goto (tgt := 16) hx hb d_O_times_5 (by decide) ?_
    exact eR hx hb hr hlocks ((if_neg h1).symm) d_O_times_16
end
end
section
section
theorem d_O_nibble_0 : decode b_O_nibble 0 = .ok (.lload_n 0, 1) := by decide +kernel
theorem d_O_nibble_1 : decode b_O_nibble 1 = .ok (.iconst 4, 1) := by decide +kernel
theorem d_O_nibble_2 : decode b_O_nibble 2 = .ok (.iload_n 2, 1) := by decide +kernel
theorem d_O_nibble_3 : decode b_O_nibble 3 = .ok (.imul, 1) := by decide +kernel
theorem d_O_nibble_4 : decode b_O_nibble 4 = .ok (.lshr, 1) := by decide +kernel
theorem d_O_nibble_5 : decode b_O_nibble 5 = .ok (.ldc2_w 94, 3) := by decide +kernel
theorem d_O_nibble_8 : decode b_O_nibble 8 = .ok (.land, 1) := by decide +kernel
theorem d_O_nibble_9 : decode b_O_nibble 9 = .ok (.l2i, 1) := by decide +kernel
theorem d_O_nibble_10 : decode b_O_nibble 10 = .ok (.ireturn, 1) := by decide +kernel
set_option maxRecDepth 100000 in
set_option maxHeartbeats 4000000 in
theorem o_nibble (l : Launch) (D : va_G) (row : Int64) (i : Int32) : Met l y_O_nibble (wsm y_O_nibble b_O_nibble 3 (some .int)) { frames := 0, cells := 0, slots := 0, locals := 0 } (va_Pc [.long row, .int i] (cPre D ([]))) (vp_Si (fun r => r = oNib row i)) 0 0 (fun _ => False) := by
  refine met_R (by decide) (Nat.le_of_ble_eq_true rfl) ?_
  intro p e s m below meth c ls hx hb hr hlocks hml hown hin hA hP hK hD hN hl
  have hown : s.vm.findClass R_O = some m.cls := hown
  have hl : lv_has ls 3 [(0, .long row), (2, .int i)] := hl
  refine lv_lload_n hx hb d_O_nibble_0 rfl (lv_at hl 0 rfl) ?_
  refine lv_iconst (v := 4) hx hb d_O_nibble_1 (by decide) ?_
  refine lv_iload_n hx hb d_O_nibble_2 rfl (lv_at hl 1 rfl) ?_
  refine lv_imul hx hb d_O_nibble_3 ?_
  refine lv_lshr (v := row >>> ((4 * i).toInt64 &&& 63)) hx hb d_O_nibble_4 rfl ?_
  refine lv_ldc2 (v := 15) hx hb hown (hA _ wd_602) d_O_nibble_5 ?_
  refine lv_land hx hb d_O_nibble_8 ?_
  refine lv_l2i (v := ((row >>> ((4 * i).toInt64 &&& 63)) &&& 15).toInt32) hx hb d_O_nibble_9 rfl ?_
  exact eR hx hb hr hlocks (rfl) d_O_nibble_10
end
end
section
section
theorem d_O_valueIn_0 : decode b_O_valueIn 0 = .ok (.aload_n 0, 1) := by decide +kernel
theorem d_O_valueIn_1 : decode b_O_valueIn 1 = .ok (.getfield 7, 3) := by decide +kernel
theorem d_O_valueIn_4 : decode b_O_valueIn 4 = .ok (.iload_n 2, 1) := by decide +kernel
theorem d_O_valueIn_5 : decode b_O_valueIn 5 = .ok (.iaload, 1) := by decide +kernel
theorem d_O_valueIn_6 : decode b_O_valueIn 6 = .ok (.iload_n 1, 1) := by decide +kernel
theorem d_O_valueIn_7 : decode b_O_valueIn 7 = .ok (.aload_n 0, 1) := by decide +kernel
theorem d_O_valueIn_8 : decode b_O_valueIn 8 = .ok (.getfield 16, 3) := by decide +kernel
theorem d_O_valueIn_11 : decode b_O_valueIn 11 = .ok (.iload_n 2, 1) := by decide +kernel
theorem d_O_valueIn_12 : decode b_O_valueIn 12 = .ok (.iaload, 1) := by decide +kernel
theorem d_O_valueIn_13 : decode b_O_valueIn 13 = .ok (.idiv, 1) := by decide +kernel
theorem d_O_valueIn_14 : decode b_O_valueIn 14 = .ok (.aload_n 0, 1) := by decide +kernel
theorem d_O_valueIn_15 : decode b_O_valueIn 15 = .ok (.getfield 13, 3) := by decide +kernel
theorem d_O_valueIn_18 : decode b_O_valueIn 18 = .ok (.iload_n 2, 1) := by decide +kernel
theorem d_O_valueIn_19 : decode b_O_valueIn 19 = .ok (.iaload, 1) := by decide +kernel
theorem d_O_valueIn_20 : decode b_O_valueIn 20 = .ok (.irem, 1) := by decide +kernel
theorem d_O_valueIn_21 : decode b_O_valueIn 21 = .ok (.iadd, 1) := by decide +kernel
theorem d_O_valueIn_22 : decode b_O_valueIn 22 = .ok (.ireturn, 1) := by decide +kernel
set_option maxRecDepth 100000 in
set_option maxHeartbeats 4000000 in
theorem o_valueIn (l : Launch) (D : va_G) (q : Nat → Nat) (n P rw a : Nat) (kn an : Int32) (lw s1 sd kd pa : Nat → Int32) (wd : Nat → Int64) (ao fo uo ho xo : Nat → Int32) (nm i : Int32) (hi8 : vp_in i 8) (hd1 : ¬ sd i.toNatClampNeg = 0) (hd2 : ¬ s1 i.toNatClampNeg = 0) : Met l y_O_valueIn (wsm y_O_valueIn b_O_valueIn 3 (some .int)) { frames := 0, cells := 0, slots := 0, locals := 0 } (va_Pc [.ref (q 0), .int nm, .int i] (cPre D (ow D q n P rw a kn an lw s1 sd kd pa wd ao fo uo ho xo))) (vp_Si (fun r => r = vIn lw s1 sd nm i.toNatClampNeg)) 0 0 (fun _ => False) := by
  refine met_R (by decide) (Nat.le_of_ble_eq_true rfl) ?_
  intro p e s m below meth c ls hx hb hr hlocks hml hown hin hA hP hK hD hN hl
  have hown : s.vm.findClass R_O = some m.cls := hown
  have hl : lv_has ls 3 [(0, .ref (q 0)), (1, .int nm), (2, .int i)] := hl
  refine lv_aload_n hx hb d_O_valueIn_0 rfl (lv_at hl 0 rfl) ?_
  refine va_get (D := D) (ci := 1) (v := .ref (q 1)) (C := R_O) (T := T_O) (N := 17) hx hb hA inA_O hown hK hP 0 rfl rfl 1 (by decide) (hA _ wd_423) (fun _ h9 => h9) rfl d_O_valueIn_1 ?_
  refine lv_iload_n hx hb d_O_valueIn_4 rfl (lv_at hl 2 rfl) ?_
  refine va_iald hx hb hK hP 1 0 rfl rfl (hi8) d_O_valueIn_5 ?_
  refine lv_iload_n hx hb d_O_valueIn_6 rfl (lv_at hl 1 rfl) ?_
  refine lv_aload_n hx hb d_O_valueIn_7 rfl (lv_at hl 0 rfl) ?_
  refine va_get (D := D) (ci := 1) (v := .ref (q 3)) (C := R_O) (T := T_O) (N := 17) hx hb hA inA_O hown hK hP 0 rfl rfl 3 (by decide) (hA _ wd_425) (fun _ h9 => h9) rfl d_O_valueIn_8 ?_
  refine lv_iload_n hx hb d_O_valueIn_11 rfl (lv_at hl 2 rfl) ?_
  refine va_iald hx hb hK hP 3 0 rfl rfl (hi8) d_O_valueIn_12 ?_
  refine lv_idiv hx hb d_O_valueIn_13 (hd1) ?_
  refine lv_aload_n hx hb d_O_valueIn_14 rfl (lv_at hl 0 rfl) ?_
  refine va_get (D := D) (ci := 1) (v := .ref (q 2)) (C := R_O) (T := T_O) (N := 17) hx hb hA inA_O hown hK hP 0 rfl rfl 2 (by decide) (hA _ wd_424) (fun _ h9 => h9) rfl d_O_valueIn_15 ?_
  refine lv_iload_n hx hb d_O_valueIn_18 rfl (lv_at hl 2 rfl) ?_
  refine va_iald hx hb hK hP 2 0 rfl rfl (hi8) d_O_valueIn_19 ?_
  refine lv_irem hx hb d_O_valueIn_20 (hd2) ?_
  refine lv_iadd hx hb d_O_valueIn_21 ?_
  exact eR hx hb hr hlocks (rfl) d_O_valueIn_22
end
end
section
section
theorem ws_O_changed : Cond.selects R_O y_O_changed y_O_changed ∈ cA := cA_in (List.mem_append_left _ (List.mem_of_getElem? (i := 13) (by decide +kernel))) rfl
theorem wv_O_63 : Cond.code y_O_changed b_O_changed 1 none ∈ cA ∧ Cond.initialized y_O_changed.cls ∈ cA ∧ Cond.methodLink R_O 63 y_O_changed ∈ cA ∧ Cond.instanceMethod y_O_changed ∈ cA ∧ Cond.selects y_O_changed.cls y_O_changed y_O_changed ∈ cA := ⟨wd_483, wd_3, wd_480, wd_482, ws_O_changed⟩
theorem d_O_retract_0 : decode b_O_retract 0 = .ok (.aload_n 0, 1) := by decide +kernel
theorem d_O_retract_1 : decode b_O_retract 1 = .ok (.getfield 87, 3) := by decide +kernel
theorem d_O_retract_4 : decode b_O_retract 4 = .ok (.ifCond .ne 5, 3) := by decide +kernel
theorem d_O_retract_7 : decode b_O_retract 7 = .ok (.iconst 0, 1) := by decide +kernel
theorem d_O_retract_8 : decode b_O_retract 8 = .ok (.ireturn, 1) := by decide +kernel
theorem d_O_retract_9 : decode b_O_retract 9 = .ok (.aload_n 0, 1) := by decide +kernel
theorem d_O_retract_10 : decode b_O_retract 10 = .ok (.dup, 1) := by decide +kernel
theorem d_O_retract_11 : decode b_O_retract 11 = .ok (.getfield 87, 3) := by decide +kernel
theorem d_O_retract_14 : decode b_O_retract 14 = .ok (.iconst 1, 1) := by decide +kernel
theorem d_O_retract_15 : decode b_O_retract 15 = .ok (.isub, 1) := by decide +kernel
theorem d_O_retract_16 : decode b_O_retract 16 = .ok (.putfield 87, 3) := by decide +kernel
theorem d_O_retract_19 : decode b_O_retract 19 = .ok (.aload_n 0, 1) := by decide +kernel
theorem d_O_retract_20 : decode b_O_retract 20 = .ok (.invokevirtual 63, 3) := by decide +kernel
theorem d_O_retract_23 : decode b_O_retract 23 = .ok (.iconst 1, 1) := by decide +kernel
theorem d_O_retract_24 : decode b_O_retract 24 = .ok (.ireturn, 1) := by decide +kernel
set_option maxRecDepth 100000 in
set_option maxHeartbeats 4000000 in
theorem o_retract (l : Launch) (D : va_G) (q : Nat → Nat) (n P rw a : Nat) (kn an : Int32) (lw s1 sd kd pa : Nat → Int32) (wd : Nat → Int64) (ao fo uo ho xo : Nat → Int32) (sz : Nat) (h9 : a ≤ 12) : Met l y_O_retract (wsm y_O_retract b_O_retract 1 (some .boolean)) { frames := 1, cells := 0, slots := 0, locals := 20 } (va_Pc [.ref (q 0)] (fun U => U.heap.size = sz ∧ cPre D (ow D q n P rw a kn an lw s1 sd kd pa wd ao fo uo ho xo) U)) (va_Qi (fun (r : Int32) (u : OS) => (a = 0 ∧ r = 0 ∧ u = (n, P, rw, a, kn, an, lw, s1, sd, kd, pa, wd, ao, fo, uo, ho, xo)) ∨ (∃ b, a = b + 1 ∧ r = 1 ∧ u = (n, P, rw, b, 0, -1, lw, s1, sd, kd, pa, wd, ao, fo, uo, ho, xo))) (fun u t => xB D (oW D q u) (va_A (ow D q n P rw a kn an lw s1 sd kd pa wd ao fo uo ho xo) sz) t) (va_A (ow D q n P rw a kn an lw s1 sd kd pa wd ao fo uo ho xo) sz)) 0 0 (va_A (ow D q n P rw a kn an lw s1 sd kd pa wd ao fo uo ho xo) sz) := by
  refine met_W (Qf := fun A => va_Qi (fun (r : Int32) (u : OS) => (a = 0 ∧ r = 0 ∧ u = (n, P, rw, a, kn, an, lw, s1, sd, kd, pa, wd, ao, fo, uo, ho, xo)) ∨ (∃ b, a = b + 1 ∧ r = 1 ∧ u = (n, P, rw, b, 0, -1, lw, s1, sd, kd, pa, wd, ao, fo, uo, ho, xo))) (fun u t => xB D (oW D q u) A t) A) (by decide) (Nat.le_of_ble_eq_true rfl) ?_
  intro p e s m below meth c ls A hx hb hr hlocks hml hown hin hA hP hK hD hN hl hS hAA
  have hown : s.vm.findClass R_O = some m.cls := hown
  have hl : lv_has ls 1 [(0, .ref (q 0))] := hl
  rcases a with _ | b9
  · skip
    have hP : va_P D vwCl (ow D q n P rw 0 kn an lw s1 sd kd pa wd ao fo uo ho xo) s.heap := hP
    have hD : va_D A (ow D q n P rw 0 kn an lw s1 sd kd pa wd ao fo uo ho xo) := hD
    refine lv_aload_n hx hb d_O_retract_0 rfl (lv_at hl 0 rfl) ?_
    refine va_get (D := D) (ci := 1) (v := .int (nI 0)) (C := R_O) (T := T_O) (N := 17) hx hb hA inA_O hown hK hP 0 rfl rfl 9 (by decide) (hA _ wd_431) (fun _ h9 => h9) rfl d_O_retract_1 ?_
    refine lv_if_ne (tgt := 9) hx hb d_O_retract_4 (by decide) (fun h => absurd h (fun h => h rfl)) (fun h4 => ?_)
    refine lv_iconst (v := 0) hx hb d_O_retract_7 (by decide) ?_
    exact eWz (n, P, rw, 0, kn, an, lw, s1, sd, kd, pa, wd, ao, fo, uo, ho, xo) hx hb hr hlocks (by first | rfl | decide) hP hK hD hS (Or.inl ⟨rfl, rfl, rfl⟩) d_O_retract_8
  · skip
    have hP : va_P D vwCl (ow D q n P rw (b9 + 1) kn an lw s1 sd kd pa wd ao fo uo ho xo) s.heap := hP
    have hD : va_D A (ow D q n P rw (b9 + 1) kn an lw s1 sd kd pa wd ao fo uo ho xo) := hD
    refine lv_aload_n hx hb d_O_retract_0 rfl (lv_at hl 0 rfl) ?_
    refine va_get (D := D) (ci := 1) (v := .int (nI (b9 + 1))) (C := R_O) (T := T_O) (N := 17) hx hb hA inA_O hown hK hP 0 rfl rfl 9 (by decide) (hA _ wd_431) (fun _ h9 => h9) rfl d_O_retract_1 ?_
    refine lv_if_ne (tgt := 9) hx hb d_O_retract_4 (by decide) (fun h4 => ?_) (fun h => absurd h (nI_ne0 (by omega) (by omega)))
    refine lv_aload_n hx hb d_O_retract_9 rfl (lv_at hl 0 rfl) ?_
    refine lv_dup hx hb d_O_retract_10 rfl ?_
    refine va_get (D := D) (ci := 1) (v := .int (nI (b9 + 1))) (C := R_O) (T := T_O) (N := 17) hx hb hA inA_O hown hK hP 0 rfl rfl 9 (by decide) (hA _ wd_431) (fun _ h9 => h9) rfl d_O_retract_11 ?_
    refine lv_iconst (v := 1) hx hb d_O_retract_14 (by decide) ?_
    refine lv_isub hx hb d_O_retract_15 ?_
    refine topi_to (v := nI b9) (nI_pred b9) ?_
    refine va_put (D := D) (ci := 1) (v := .int (nI b9)) (ty := .int) (C := R_O) (T := T_O) (N := 17) hx hb hA inA_O ty_O tok_O nm_O hown hK hP hD hS 0 rfl rfl 9 (by decide) (hA _ wd_431) (fun _ h9 => h9) rfl (by decide +kernel) (by first | rfl | decide) (by first | rfl | decide) (Nat.le_of_ble_eq_true rfl) d_O_retract_16 (fun H locs hP hD hS => ?_)
    have hP : va_P D vwCl (ow D q n P rw b9 kn an lw s1 sd kd pa wd ao fo uo ho xo) H := hP
    have hD : va_D A (ow D q n P rw b9 kn an lw s1 sd kd pa wd ao fo uo ho xo) := hD
    refine lv_aload_n hx hb d_O_retract_19 rfl (lv_at hl 0 rfl) ?_
    refine wVv (n := 0) (wr := []) (Wf := oW D q) (rest := []) hx hb hml hown hA (o_changed l D q n P rw b9 kn an lw s1 sd kd pa wd ao fo uo ho xo _) wv_O_63 ⟨by decide, by decide, by decide +kernel⟩ ⟨rfl, rfl, by decide, by decide⟩ rfl hl.1 ⟨Nat.le_of_ble_eq_true rfl, Nat.le_of_ble_eq_true rfl⟩ hP hK hD hS hAA hN [0, 1, 2, 3, 4, 5, 6, 7, 8, 9, 10, 11] [] rfl rfl (by decide) (by decide) (by decide) 0 1 rfl rfl rfl (Nat.le_of_ble_eq_true rfl) d_O_retract_20 (fun u H locs hu hP hD hS => ?_)
    subst hu
    have hP : va_P D vwCl (ow D q n P rw b9 0 (-1) lw s1 sd kd pa wd ao fo uo ho xo) H := hP
    have hD : va_D A (ow D q n P rw b9 0 (-1) lw s1 sd kd pa wd ao fo uo ho xo) := hD
    refine lv_iconst (v := 1) hx hb d_O_retract_23 (by decide) ?_
    exact eWz (n, P, rw, b9, 0, -1, lw, s1, sd, kd, pa, wd, ao, fo, uo, ho, xo) hx hb hr hlocks (by first | rfl | decide) hP hK hD hS (Or.inr ⟨b9, rfl, rfl, rfl⟩) d_O_retract_24
end
end
section
section
theorem d_O_drop_0 : decode b_O_drop 0 = .ok (.aload_n 0, 1) := by decide +kernel
theorem d_O_drop_1 : decode b_O_drop 1 = .ok (.getfield 66, 3) := by decide +kernel
theorem d_O_drop_4 : decode b_O_drop 4 = .ok (.ifCond .ne 5, 3) := by decide +kernel
theorem d_O_drop_7 : decode b_O_drop 7 = .ok (.iconst 0, 1) := by decide +kernel
theorem d_O_drop_8 : decode b_O_drop 8 = .ok (.ireturn, 1) := by decide +kernel
theorem d_O_drop_9 : decode b_O_drop 9 = .ok (.aload_n 0, 1) := by decide +kernel
theorem d_O_drop_10 : decode b_O_drop 10 = .ok (.dup, 1) := by decide +kernel
theorem d_O_drop_11 : decode b_O_drop 11 = .ok (.getfield 66, 3) := by decide +kernel
theorem d_O_drop_14 : decode b_O_drop 14 = .ok (.iconst 1, 1) := by decide +kernel
theorem d_O_drop_15 : decode b_O_drop 15 = .ok (.isub, 1) := by decide +kernel
theorem d_O_drop_16 : decode b_O_drop 16 = .ok (.putfield 66, 3) := by decide +kernel
theorem d_O_drop_19 : decode b_O_drop 19 = .ok (.aload_n 0, 1) := by decide +kernel
theorem d_O_drop_20 : decode b_O_drop 20 = .ok (.invokevirtual 63, 3) := by decide +kernel
theorem d_O_drop_23 : decode b_O_drop 23 = .ok (.iconst 1, 1) := by decide +kernel
theorem d_O_drop_24 : decode b_O_drop 24 = .ok (.ireturn, 1) := by decide +kernel
set_option maxRecDepth 100000 in
set_option maxHeartbeats 4000000 in
theorem o_drop (l : Launch) (D : va_G) (q : Nat → Nat) (n P rw a : Nat) (kn an : Int32) (lw s1 sd kd pa : Nat → Int32) (wd : Nat → Int64) (ao fo uo ho xo : Nat → Int32) (sz : Nat) (h9 : rw ≤ 12) : Met l y_O_drop (wsm y_O_drop b_O_drop 1 (some .boolean)) { frames := 1, cells := 0, slots := 0, locals := 20 } (va_Pc [.ref (q 0)] (fun U => U.heap.size = sz ∧ cPre D (ow D q n P rw a kn an lw s1 sd kd pa wd ao fo uo ho xo) U)) (va_Qi (fun (r : Int32) (u : OS) => (rw = 0 ∧ r = 0 ∧ u = (n, P, rw, a, kn, an, lw, s1, sd, kd, pa, wd, ao, fo, uo, ho, xo)) ∨ (∃ b, rw = b + 1 ∧ r = 1 ∧ u = (n, P, b, a, 0, -1, lw, s1, sd, kd, pa, wd, ao, fo, uo, ho, xo))) (fun u t => xB D (oW D q u) (va_A (ow D q n P rw a kn an lw s1 sd kd pa wd ao fo uo ho xo) sz) t) (va_A (ow D q n P rw a kn an lw s1 sd kd pa wd ao fo uo ho xo) sz)) 0 0 (va_A (ow D q n P rw a kn an lw s1 sd kd pa wd ao fo uo ho xo) sz) := by
  refine met_W (Qf := fun A => va_Qi (fun (r : Int32) (u : OS) => (rw = 0 ∧ r = 0 ∧ u = (n, P, rw, a, kn, an, lw, s1, sd, kd, pa, wd, ao, fo, uo, ho, xo)) ∨ (∃ b, rw = b + 1 ∧ r = 1 ∧ u = (n, P, b, a, 0, -1, lw, s1, sd, kd, pa, wd, ao, fo, uo, ho, xo))) (fun u t => xB D (oW D q u) A t) A) (by decide) (Nat.le_of_ble_eq_true rfl) ?_
  intro p e s m below meth c ls A hx hb hr hlocks hml hown hin hA hP hK hD hN hl hS hAA
  have hown : s.vm.findClass R_O = some m.cls := hown
  have hl : lv_has ls 1 [(0, .ref (q 0))] := hl
  rcases rw with _ | b9
  · skip
    have hP : va_P D vwCl (ow D q n P 0 a kn an lw s1 sd kd pa wd ao fo uo ho xo) s.heap := hP
    have hD : va_D A (ow D q n P 0 a kn an lw s1 sd kd pa wd ao fo uo ho xo) := hD
    refine lv_aload_n hx hb d_O_drop_0 rfl (lv_at hl 0 rfl) ?_
    refine va_get (D := D) (ci := 1) (v := .int (nI 0)) (C := R_O) (T := T_O) (N := 17) hx hb hA inA_O hown hK hP 0 rfl rfl 5 (by decide) (hA _ wd_427) (fun _ h9 => h9) rfl d_O_drop_1 ?_
    refine lv_if_ne (tgt := 9) hx hb d_O_drop_4 (by decide) (fun h => absurd h (fun h => h rfl)) (fun h4 => ?_)
    refine lv_iconst (v := 0) hx hb d_O_drop_7 (by decide) ?_
    exact eWz (n, P, 0, a, kn, an, lw, s1, sd, kd, pa, wd, ao, fo, uo, ho, xo) hx hb hr hlocks (by first | rfl | decide) hP hK hD hS (Or.inl ⟨rfl, rfl, rfl⟩) d_O_drop_8
  · skip
    have hP : va_P D vwCl (ow D q n P (b9 + 1) a kn an lw s1 sd kd pa wd ao fo uo ho xo) s.heap := hP
    have hD : va_D A (ow D q n P (b9 + 1) a kn an lw s1 sd kd pa wd ao fo uo ho xo) := hD
    refine lv_aload_n hx hb d_O_drop_0 rfl (lv_at hl 0 rfl) ?_
    refine va_get (D := D) (ci := 1) (v := .int (nI (b9 + 1))) (C := R_O) (T := T_O) (N := 17) hx hb hA inA_O hown hK hP 0 rfl rfl 5 (by decide) (hA _ wd_427) (fun _ h9 => h9) rfl d_O_drop_1 ?_
    refine lv_if_ne (tgt := 9) hx hb d_O_drop_4 (by decide) (fun h4 => ?_) (fun h => absurd h (nI_ne0 (by omega) (by omega)))
    refine lv_aload_n hx hb d_O_drop_9 rfl (lv_at hl 0 rfl) ?_
    refine lv_dup hx hb d_O_drop_10 rfl ?_
    refine va_get (D := D) (ci := 1) (v := .int (nI (b9 + 1))) (C := R_O) (T := T_O) (N := 17) hx hb hA inA_O hown hK hP 0 rfl rfl 5 (by decide) (hA _ wd_427) (fun _ h9 => h9) rfl d_O_drop_11 ?_
    refine lv_iconst (v := 1) hx hb d_O_drop_14 (by decide) ?_
    refine lv_isub hx hb d_O_drop_15 ?_
    refine topi_to (v := nI b9) (nI_pred b9) ?_
    refine va_put (D := D) (ci := 1) (v := .int (nI b9)) (ty := .int) (C := R_O) (T := T_O) (N := 17) hx hb hA inA_O ty_O tok_O nm_O hown hK hP hD hS 0 rfl rfl 5 (by decide) (hA _ wd_427) (fun _ h9 => h9) rfl (by decide +kernel) (by first | rfl | decide) (by first | rfl | decide) (Nat.le_of_ble_eq_true rfl) d_O_drop_16 (fun H locs hP hD hS => ?_)
    have hP : va_P D vwCl (ow D q n P b9 a kn an lw s1 sd kd pa wd ao fo uo ho xo) H := hP
    have hD : va_D A (ow D q n P b9 a kn an lw s1 sd kd pa wd ao fo uo ho xo) := hD
    refine lv_aload_n hx hb d_O_drop_19 rfl (lv_at hl 0 rfl) ?_
    refine wVv (n := 0) (wr := []) (Wf := oW D q) (rest := []) hx hb hml hown hA (o_changed l D q n P b9 a kn an lw s1 sd kd pa wd ao fo uo ho xo _) wv_O_63 ⟨by decide, by decide, by decide +kernel⟩ ⟨rfl, rfl, by decide, by decide⟩ rfl hl.1 ⟨Nat.le_of_ble_eq_true rfl, Nat.le_of_ble_eq_true rfl⟩ hP hK hD hS hAA hN [0, 1, 2, 3, 4, 5, 6, 7, 8, 9, 10, 11] [] rfl rfl (by decide) (by decide) (by decide) 0 1 rfl rfl rfl (Nat.le_of_ble_eq_true rfl) d_O_drop_20 (fun u H locs hu hP hD hS => ?_)
    subst hu
    have hP : va_P D vwCl (ow D q n P b9 a 0 (-1) lw s1 sd kd pa wd ao fo uo ho xo) H := hP
    have hD : va_D A (ow D q n P b9 a 0 (-1) lw s1 sd kd pa wd ao fo uo ho xo) := hD
    refine lv_iconst (v := 1) hx hb d_O_drop_23 (by decide) ?_
    exact eWz (n, P, b9, a, 0, -1, lw, s1, sd, kd, pa, wd, ao, fo, uo, ho, xo) hx hb hr hlocks (by first | rfl | decide) hP hK hD hS (Or.inr ⟨b9, rfl, rfl, rfl⟩) d_O_drop_24
end
end
section
section
theorem d_O_assume_0 : decode b_O_assume 0 = .ok (.aload_n 0, 1) := by decide +kernel
theorem d_O_assume_1 : decode b_O_assume 1 = .ok (.iload_n 1, 1) := by decide +kernel
theorem d_O_assume_2 : decode b_O_assume 2 = .ok (.invokevirtual 59, 3) := by decide +kernel
theorem d_O_assume_5 : decode b_O_assume 5 = .ok (.ifCond .eq 12, 3) := by decide +kernel
theorem d_O_assume_8 : decode b_O_assume 8 = .ok (.aload_n 0, 1) := by decide +kernel
theorem d_O_assume_9 : decode b_O_assume 9 = .ok (.getfield 87, 3) := by decide +kernel
theorem d_O_assume_12 : decode b_O_assume 12 = .ok (.bipush 8, 2) := by decide +kernel
theorem d_O_assume_14 : decode b_O_assume 14 = .ok (.if_icmp .ne 5, 3) := by decide +kernel
theorem d_O_assume_17 : decode b_O_assume 17 = .ok (.iconst 0, 1) := by decide +kernel
theorem d_O_assume_18 : decode b_O_assume 18 = .ok (.ireturn, 1) := by decide +kernel
theorem d_O_assume_19 : decode b_O_assume 19 = .ok (.aload_n 0, 1) := by decide +kernel
theorem d_O_assume_20 : decode b_O_assume 20 = .ok (.getfield 33, 3) := by decide +kernel
theorem d_O_assume_23 : decode b_O_assume 23 = .ok (.aload_n 0, 1) := by decide +kernel
theorem d_O_assume_24 : decode b_O_assume 24 = .ok (.getfield 87, 3) := by decide +kernel
theorem d_O_assume_27 : decode b_O_assume 27 = .ok (.iload_n 1, 1) := by decide +kernel
theorem d_O_assume_28 : decode b_O_assume 28 = .ok (.iastore, 1) := by decide +kernel
theorem d_O_assume_29 : decode b_O_assume 29 = .ok (.aload_n 0, 1) := by decide +kernel
theorem d_O_assume_30 : decode b_O_assume 30 = .ok (.getfield 36, 3) := by decide +kernel
theorem d_O_assume_33 : decode b_O_assume 33 = .ok (.aload_n 0, 1) := by decide +kernel
theorem d_O_assume_34 : decode b_O_assume 34 = .ok (.getfield 87, 3) := by decide +kernel
theorem d_O_assume_37 : decode b_O_assume 37 = .ok (.iload_n 2, 1) := by decide +kernel
theorem d_O_assume_38 : decode b_O_assume 38 = .ok (.iastore, 1) := by decide +kernel
theorem d_O_assume_39 : decode b_O_assume 39 = .ok (.aload_n 0, 1) := by decide +kernel
theorem d_O_assume_40 : decode b_O_assume 40 = .ok (.getfield 39, 3) := by decide +kernel
theorem d_O_assume_43 : decode b_O_assume 43 = .ok (.aload_n 0, 1) := by decide +kernel
theorem d_O_assume_44 : decode b_O_assume 44 = .ok (.getfield 87, 3) := by decide +kernel
theorem d_O_assume_47 : decode b_O_assume 47 = .ok (.iload_n 3, 1) := by decide +kernel
theorem d_O_assume_48 : decode b_O_assume 48 = .ok (.iastore, 1) := by decide +kernel
theorem d_O_assume_49 : decode b_O_assume 49 = .ok (.aload_n 0, 1) := by decide +kernel
theorem d_O_assume_50 : decode b_O_assume 50 = .ok (.dup, 1) := by decide +kernel
theorem d_O_assume_51 : decode b_O_assume 51 = .ok (.getfield 87, 3) := by decide +kernel
theorem d_O_assume_54 : decode b_O_assume 54 = .ok (.iconst 1, 1) := by decide +kernel
theorem d_O_assume_55 : decode b_O_assume 55 = .ok (.iadd, 1) := by decide +kernel
theorem d_O_assume_56 : decode b_O_assume 56 = .ok (.putfield 87, 3) := by decide +kernel
theorem d_O_assume_59 : decode b_O_assume 59 = .ok (.aload_n 0, 1) := by decide +kernel
theorem d_O_assume_60 : decode b_O_assume 60 = .ok (.invokevirtual 63, 3) := by decide +kernel
theorem d_O_assume_63 : decode b_O_assume 63 = .ok (.iconst 1, 1) := by decide +kernel
theorem d_O_assume_64 : decode b_O_assume 64 = .ok (.ireturn, 1) := by decide +kernel
set_option maxRecDepth 100000 in
set_option maxHeartbeats 4000000 in
theorem o_assume (l : Launch) (D : va_G) (q : Nat → Nat) (n P rw a : Nat) (kn an : Int32) (lw s1 sd kd pa : Nat → Int32) (wd : Nat → Int64) (ao fo uo ho xo : Nat → Int32) (i x y : Int32) (sz : Nat) (ha : a ≤ 8) : Met l y_O_assume (wsm y_O_assume b_O_assume 4 (some .boolean)) { frames := 1, cells := 0, slots := 0, locals := 21 } (va_Pc [.ref (q 0), .int i, .int x, .int y] (fun U => U.heap.size = sz ∧ cPre D (ow D q n P rw a kn an lw s1 sd kd pa wd ao fo uo ho xo) U)) (va_Qi (fun (r : Int32) (u : OS) => (¬ (iv n i ∧ a < 8) ∧ r = 0 ∧ u = (n, P, rw, a, kn, an, lw, s1, sd, kd, pa, wd, ao, fo, uo, ho, xo)) ∨ (iv n i ∧ a < 8 ∧ r = 1 ∧ u = (n, P, rw, a + 1, 0, -1, lw, s1, sd, kd, pa, wd, upd ao a i, upd fo a x, upd uo a y, ho, xo))) (fun u t => xB D (oW D q u) (va_A (ow D q n P rw a kn an lw s1 sd kd pa wd ao fo uo ho xo) sz) t) (va_A (ow D q n P rw a kn an lw s1 sd kd pa wd ao fo uo ho xo) sz)) 0 0 (va_A (ow D q n P rw a kn an lw s1 sd kd pa wd ao fo uo ho xo) sz) := by
  refine met_W (Qf := fun A => va_Qi (fun (r : Int32) (u : OS) => (¬ (iv n i ∧ a < 8) ∧ r = 0 ∧ u = (n, P, rw, a, kn, an, lw, s1, sd, kd, pa, wd, ao, fo, uo, ho, xo)) ∨ (iv n i ∧ a < 8 ∧ r = 1 ∧ u = (n, P, rw, a + 1, 0, -1, lw, s1, sd, kd, pa, wd, upd ao a i, upd fo a x, upd uo a y, ho, xo))) (fun u t => xB D (oW D q u) A t) A) (by decide) (Nat.le_of_ble_eq_true rfl) ?_
  intro p e s m below meth c ls A hx hb hr hlocks hml hown hin hA hP hK hD hN hl hS hAA
  have hown : s.vm.findClass R_O = some m.cls := hown
  have hl : lv_has ls 4 [(0, .ref (q 0)), (1, .int i), (2, .int x), (3, .int y)] := hl
  refine lv_aload_n hx hb d_O_assume_0 rfl (lv_at hl 0 rfl) ?_
  refine lv_iload_n hx hb d_O_assume_1 rfl (lv_at hl 1 rfl) ?_
  refine rV (n := 1) (rest := []) hx hb hml hown hA (o_isVariable l D q n P rw a kn an lw s1 sd kd pa wd ao fo uo ho xo i) wv_O_59 ⟨by decide, by decide, by decide +kernel⟩ ⟨rfl, rfl, by decide, by decide⟩ rfl hl.1 ⟨Nat.le_of_ble_eq_true rfl, Nat.le_of_ble_eq_true rfl⟩ hP hK hD hN 0 1 rfl rfl rfl (Nat.le_of_ble_eq_true rfl) d_O_assume_2 (fun r hr9 => ?_)
  rcases zb_c hr9 with ⟨rfl, h2⟩ | ⟨rfl, h2⟩
  · skip
    refine lv_if_eq (tgt := 17) hx hb d_O_assume_5 (by decide) (fun h => absurd h (by decide)) (fun _ => ?_)
    refine lv_aload_n hx hb d_O_assume_8 rfl (lv_at hl 0 rfl) ?_
    refine va_get (D := D) (ci := 1) (v := .int (nI a)) (C := R_O) (T := T_O) (N := 17) hx hb hA inA_O hown hK hP 0 rfl rfl 9 (by decide) (hA _ wd_431) (fun _ h9 => h9) rfl d_O_assume_9 ?_
    refine lv_bipush (v := 8) hx hb d_O_assume_12 (by decide) ?_
    refine lv_icmp_ne (tgt := 19) hx hb d_O_assume_14 (by decide) (fun h14 => ?_) (fun h14 => ?_)
    · skip
      refine lv_aload_n hx hb d_O_assume_19 rfl (lv_at hl 0 rfl) ?_
      refine va_get (D := D) (ci := 1) (v := .ref (q 7)) (C := R_O) (T := T_O) (N := 17) hx hb hA inA_O hown hK hP 0 rfl rfl 10 (by decide) (hA _ wd_432) (fun _ h9 => h9) rfl d_O_assume_20 ?_
      refine lv_aload_n hx hb d_O_assume_23 rfl (lv_at hl 0 rfl) ?_
      refine va_get (D := D) (ci := 1) (v := .int (nI a)) (C := R_O) (T := T_O) (N := 17) hx hb hA inA_O hown hK hP 0 rfl rfl 9 (by decide) (hA _ wd_431) (fun _ h9 => h9) rfl d_O_assume_24 ?_
      refine lv_iload_n hx hb d_O_assume_27 rfl (lv_at hl 1 rfl) ?_
      refine xi_ast hx hb hK hP hD hS 7 rfl (ne8 h14 ha) (by decide) d_O_assume_28 (fun H locs hP hD hS => ?_)
      have hP : va_P D vwCl (ow D q n P rw a kn an lw s1 sd kd pa wd (upd ao a i) fo uo ho xo) H := hP
      have hD : va_D A (ow D q n P rw a kn an lw s1 sd kd pa wd (upd ao a i) fo uo ho xo) := hD
      refine lv_aload_n hx hb d_O_assume_29 rfl (lv_at hl 0 rfl) ?_
      refine va_get (D := D) (ci := 1) (v := .ref (q 8)) (C := R_O) (T := T_O) (N := 17) hx hb hA inA_O hown hK hP 0 rfl rfl 11 (by decide) (hA _ wd_433) (fun _ h9 => h9) rfl d_O_assume_30 ?_
      refine lv_aload_n hx hb d_O_assume_33 rfl (lv_at hl 0 rfl) ?_
      refine va_get (D := D) (ci := 1) (v := .int (nI a)) (C := R_O) (T := T_O) (N := 17) hx hb hA inA_O hown hK hP 0 rfl rfl 9 (by decide) (hA _ wd_431) (fun _ h9 => h9) rfl d_O_assume_34 ?_
      refine lv_iload_n hx hb d_O_assume_37 rfl (lv_at hl 2 rfl) ?_
      refine xi_ast hx hb hK hP hD hS 8 rfl (ne8 h14 ha) (by decide) d_O_assume_38 (fun H locs hP hD hS => ?_)
      have hP : va_P D vwCl (ow D q n P rw a kn an lw s1 sd kd pa wd (upd ao a i) (upd fo a x) uo ho xo) H := hP
      have hD : va_D A (ow D q n P rw a kn an lw s1 sd kd pa wd (upd ao a i) (upd fo a x) uo ho xo) := hD
      refine lv_aload_n hx hb d_O_assume_39 rfl (lv_at hl 0 rfl) ?_
      refine va_get (D := D) (ci := 1) (v := .ref (q 9)) (C := R_O) (T := T_O) (N := 17) hx hb hA inA_O hown hK hP 0 rfl rfl 12 (by decide) (hA _ wd_434) (fun _ h9 => h9) rfl d_O_assume_40 ?_
      refine lv_aload_n hx hb d_O_assume_43 rfl (lv_at hl 0 rfl) ?_
      refine va_get (D := D) (ci := 1) (v := .int (nI a)) (C := R_O) (T := T_O) (N := 17) hx hb hA inA_O hown hK hP 0 rfl rfl 9 (by decide) (hA _ wd_431) (fun _ h9 => h9) rfl d_O_assume_44 ?_
      refine lv_iload_n hx hb d_O_assume_47 rfl (lv_at hl 3 rfl) ?_
      refine xi_ast hx hb hK hP hD hS 9 rfl (ne8 h14 ha) (by decide) d_O_assume_48 (fun H locs hP hD hS => ?_)
      have hP : va_P D vwCl (ow D q n P rw a kn an lw s1 sd kd pa wd (upd ao a i) (upd fo a x) (upd uo a y) ho xo) H := hP
      have hD : va_D A (ow D q n P rw a kn an lw s1 sd kd pa wd (upd ao a i) (upd fo a x) (upd uo a y) ho xo) := hD
      refine lv_aload_n hx hb d_O_assume_49 rfl (lv_at hl 0 rfl) ?_
      refine lv_dup hx hb d_O_assume_50 rfl ?_
      refine va_get (D := D) (ci := 1) (v := .int (nI a)) (C := R_O) (T := T_O) (N := 17) hx hb hA inA_O hown hK hP 0 rfl rfl 9 (by decide) (hA _ wd_431) (fun _ h9 => h9) rfl d_O_assume_51 ?_
      refine lv_iconst (v := 1) hx hb d_O_assume_54 (by decide) ?_
      refine lv_iadd hx hb d_O_assume_55 ?_
      refine topi_to (v := nI (a + 1)) ((nI_succ a).symm) ?_
      refine va_put (D := D) (ci := 1) (v := .int (nI (a + 1))) (ty := .int) (C := R_O) (T := T_O) (N := 17) hx hb hA inA_O ty_O tok_O nm_O hown hK hP hD hS 0 rfl rfl 9 (by decide) (hA _ wd_431) (fun _ h9 => h9) rfl (by decide +kernel) (by first | rfl | decide) (by first | rfl | decide) (Nat.le_of_ble_eq_true rfl) d_O_assume_56 (fun H locs hP hD hS => ?_)
      have hP : va_P D vwCl (ow D q n P rw (a + 1) kn an lw s1 sd kd pa wd (upd ao a i) (upd fo a x) (upd uo a y) ho xo) H := hP
      have hD : va_D A (ow D q n P rw (a + 1) kn an lw s1 sd kd pa wd (upd ao a i) (upd fo a x) (upd uo a y) ho xo) := hD
      refine lv_aload_n hx hb d_O_assume_59 rfl (lv_at hl 0 rfl) ?_
      refine wVv (n := 0) (wr := []) (Wf := oW D q) (rest := []) hx hb hml hown hA (o_changed l D q n P rw (a + 1) kn an lw s1 sd kd pa wd (upd ao a i) (upd fo a x) (upd uo a y) ho xo _) wv_O_63 ⟨by decide, by decide, by decide +kernel⟩ ⟨rfl, rfl, by decide, by decide⟩ rfl hl.1 ⟨Nat.le_of_ble_eq_true rfl, Nat.le_of_ble_eq_true rfl⟩ hP hK hD hS hAA hN [0, 1, 2, 3, 4, 5, 6, 7, 8, 9, 10, 11] [] rfl rfl (by decide) (by decide) (by decide) 0 1 rfl rfl rfl (Nat.le_of_ble_eq_true rfl) d_O_assume_60 (fun u H locs hu hP hD hS => ?_)
      subst hu
      have hP : va_P D vwCl (ow D q n P rw (a + 1) 0 (-1) lw s1 sd kd pa wd (upd ao a i) (upd fo a x) (upd uo a y) ho xo) H := hP
      have hD : va_D A (ow D q n P rw (a + 1) 0 (-1) lw s1 sd kd pa wd (upd ao a i) (upd fo a x) (upd uo a y) ho xo) := hD
      refine lv_iconst (v := 1) hx hb d_O_assume_63 (by decide) ?_
      exact eWz (n, P, rw, (a + 1), 0, -1, lw, s1, sd, kd, pa, wd, upd ao a i, upd fo a x, upd uo a y, ho, xo) hx hb hr hlocks (by first | rfl | decide) hP hK hD hS (Or.inr ⟨h2, ne8 h14 ha, rfl, rfl⟩) d_O_assume_64
    · skip
      refine lv_iconst (v := 0) hx hb d_O_assume_17 (by decide) ?_
      exact eWz (n, P, rw, a, kn, an, lw, s1, sd, kd, pa, wd, ao, fo, uo, ho, xo) hx hb hr hlocks (by first | rfl | decide) hP hK hD hS (Or.inl ⟨fun h => absurd (nI_ne (b := 8) h14 (by omega) (by decide)) (by omega), rfl, rfl⟩) d_O_assume_18
  · skip
    refine lv_if_eq (tgt := 17) hx hb d_O_assume_5 (by decide) (fun _ => ?_) (fun h => absurd h (by decide))
    refine lv_iconst (v := 0) hx hb d_O_assume_17 (by decide) ?_
    exact eWz (n, P, rw, a, kn, an, lw, s1, sd, kd, pa, wd, ao, fo, uo, ho, xo) hx hb hr hlocks (by first | rfl | decide) hP hK hD hS (Or.inl ⟨fun h => h2 h.1, rfl, rfl⟩) d_O_assume_18
end
end
section
section
theorem d_O_variable_0 : decode b_O_variable 0 = .ok (.iload_n 1, 1) := by decide +kernel
theorem d_O_variable_1 : decode b_O_variable 1 = .ok (.bipush (-20), 2) := by decide +kernel
theorem d_O_variable_3 : decode b_O_variable 3 = .ok (.if_icmp .lt 22, 3) := by decide +kernel
theorem d_O_variable_6 : decode b_O_variable 6 = .ok (.iload_n 2, 1) := by decide +kernel
theorem d_O_variable_7 : decode b_O_variable 7 = .ok (.bipush 20, 2) := by decide +kernel
theorem d_O_variable_9 : decode b_O_variable 9 = .ok (.if_icmp .gt 16, 3) := by decide +kernel
theorem d_O_variable_12 : decode b_O_variable 12 = .ok (.iload_n 1, 1) := by decide +kernel
theorem d_O_variable_13 : decode b_O_variable 13 = .ok (.iload_n 2, 1) := by decide +kernel
theorem d_O_variable_14 : decode b_O_variable 14 = .ok (.if_icmp .gt 11, 3) := by decide +kernel
theorem d_O_variable_17 : decode b_O_variable 17 = .ok (.iload_n 2, 1) := by decide +kernel
theorem d_O_variable_18 : decode b_O_variable 18 = .ok (.iload_n 1, 1) := by decide +kernel
theorem d_O_variable_19 : decode b_O_variable 19 = .ok (.isub, 1) := by decide +kernel
theorem d_O_variable_20 : decode b_O_variable 20 = .ok (.bipush 7, 2) := by decide +kernel
theorem d_O_variable_22 : decode b_O_variable 22 = .ok (.if_icmp .le 5, 3) := by decide +kernel
theorem d_O_variable_25 : decode b_O_variable 25 = .ok (.iconst (-1), 1) := by decide +kernel
theorem d_O_variable_26 : decode b_O_variable 26 = .ok (.ireturn, 1) := by decide +kernel
theorem d_O_variable_27 : decode b_O_variable 27 = .ok (.iload_n 2, 1) := by decide +kernel
theorem d_O_variable_28 : decode b_O_variable 28 = .ok (.iload_n 1, 1) := by decide +kernel
theorem d_O_variable_29 : decode b_O_variable 29 = .ok (.isub, 1) := by decide +kernel
theorem d_O_variable_30 : decode b_O_variable 30 = .ok (.iconst 1, 1) := by decide +kernel
theorem d_O_variable_31 : decode b_O_variable 31 = .ok (.iadd, 1) := by decide +kernel
theorem d_O_variable_32 : decode b_O_variable 32 = .ok (.istore_n 3, 1) := by decide +kernel
theorem d_O_variable_33 : decode b_O_variable 33 = .ok (.aload_n 0, 1) := by decide +kernel
theorem d_O_variable_34 : decode b_O_variable 34 = .ok (.getfield 56, 3) := by decide +kernel
theorem d_O_variable_37 : decode b_O_variable 37 = .ok (.bipush 8, 2) := by decide +kernel
theorem d_O_variable_39 : decode b_O_variable 39 = .ok (.if_icmp .eq 15, 3) := by decide +kernel
theorem d_O_variable_42 : decode b_O_variable 42 = .ok (.aload_n 0, 1) := by decide +kernel
theorem d_O_variable_43 : decode b_O_variable 43 = .ok (.getfield 19, 3) := by decide +kernel
theorem d_O_variable_46 : decode b_O_variable 46 = .ok (.iload_n 3, 1) := by decide +kernel
theorem d_O_variable_47 : decode b_O_variable 47 = .ok (.imul, 1) := by decide +kernel
theorem d_O_variable_48 : decode b_O_variable 48 = .ok (.sipush 4096, 3) := by decide +kernel
theorem d_O_variable_51 : decode b_O_variable 51 = .ok (.if_icmp .le 6, 3) := by decide +kernel
theorem d_O_variable_54 : decode b_O_variable 54 = .ok (.bipush (-2), 2) := by decide +kernel
theorem d_O_variable_56 : decode b_O_variable 56 = .ok (.ireturn, 1) := by decide +kernel
theorem d_O_variable_57 : decode b_O_variable 57 = .ok (.iconst 0, 1) := by decide +kernel
theorem d_O_variable_58 : decode b_O_variable 58 = .ok (.istore 4, 2) := by decide +kernel
theorem d_O_variable_60 : decode b_O_variable 60 = .ok (.iload 4, 2) := by decide +kernel
theorem d_O_variable_62 : decode b_O_variable 62 = .ok (.aload_n 0, 1) := by decide +kernel
theorem d_O_variable_63 : decode b_O_variable 63 = .ok (.getfield 56, 3) := by decide +kernel
theorem d_O_variable_66 : decode b_O_variable 66 = .ok (.if_icmp .ge 25, 3) := by decide +kernel
theorem d_O_variable_69 : decode b_O_variable 69 = .ok (.aload_n 0, 1) := by decide +kernel
theorem d_O_variable_70 : decode b_O_variable 70 = .ok (.getfield 16, 3) := by decide +kernel
theorem d_O_variable_73 : decode b_O_variable 73 = .ok (.iload 4, 2) := by decide +kernel
theorem d_O_variable_75 : decode b_O_variable 75 = .ok (.aload_n 0, 1) := by decide +kernel
theorem d_O_variable_76 : decode b_O_variable 76 = .ok (.getfield 16, 3) := by decide +kernel
theorem d_O_variable_79 : decode b_O_variable 79 = .ok (.iload 4, 2) := by decide +kernel
theorem d_O_variable_81 : decode b_O_variable 81 = .ok (.iaload, 1) := by decide +kernel
theorem d_O_variable_82 : decode b_O_variable 82 = .ok (.iload_n 3, 1) := by decide +kernel
theorem d_O_variable_83 : decode b_O_variable 83 = .ok (.imul, 1) := by decide +kernel
theorem d_O_variable_84 : decode b_O_variable 84 = .ok (.iastore, 1) := by decide +kernel
theorem d_O_variable_85 : decode b_O_variable 85 = .ok (.iinc 4 1, 3) := by decide +kernel
theorem d_O_variable_88 : decode b_O_variable 88 = .ok (.goto (-28), 3) := by decide +kernel
theorem d_O_variable_91 : decode b_O_variable 91 = .ok (.aload_n 0, 1) := by decide +kernel
theorem d_O_variable_92 : decode b_O_variable 92 = .ok (.getfield 7, 3) := by decide +kernel
theorem d_O_variable_95 : decode b_O_variable 95 = .ok (.aload_n 0, 1) := by decide +kernel
theorem d_O_variable_96 : decode b_O_variable 96 = .ok (.getfield 56, 3) := by decide +kernel
theorem d_O_variable_99 : decode b_O_variable 99 = .ok (.iload_n 1, 1) := by decide +kernel
theorem d_O_variable_100 : decode b_O_variable 100 = .ok (.iastore, 1) := by decide +kernel
theorem d_O_variable_101 : decode b_O_variable 101 = .ok (.aload_n 0, 1) := by decide +kernel
theorem d_O_variable_102 : decode b_O_variable 102 = .ok (.getfield 13, 3) := by decide +kernel
theorem d_O_variable_105 : decode b_O_variable 105 = .ok (.aload_n 0, 1) := by decide +kernel
theorem d_O_variable_106 : decode b_O_variable 106 = .ok (.getfield 56, 3) := by decide +kernel
theorem d_O_variable_109 : decode b_O_variable 109 = .ok (.iload_n 3, 1) := by decide +kernel
theorem d_O_variable_110 : decode b_O_variable 110 = .ok (.iastore, 1) := by decide +kernel
theorem d_O_variable_111 : decode b_O_variable 111 = .ok (.aload_n 0, 1) := by decide +kernel
theorem d_O_variable_112 : decode b_O_variable 112 = .ok (.getfield 16, 3) := by decide +kernel
theorem d_O_variable_115 : decode b_O_variable 115 = .ok (.aload_n 0, 1) := by decide +kernel
theorem d_O_variable_116 : decode b_O_variable 116 = .ok (.getfield 56, 3) := by decide +kernel
theorem d_O_variable_119 : decode b_O_variable 119 = .ok (.iconst 1, 1) := by decide +kernel
theorem d_O_variable_120 : decode b_O_variable 120 = .ok (.iastore, 1) := by decide +kernel
theorem d_O_variable_121 : decode b_O_variable 121 = .ok (.aload_n 0, 1) := by decide +kernel
theorem d_O_variable_122 : decode b_O_variable 122 = .ok (.aload_n 0, 1) := by decide +kernel
theorem d_O_variable_123 : decode b_O_variable 123 = .ok (.getfield 19, 3) := by decide +kernel
theorem d_O_variable_126 : decode b_O_variable 126 = .ok (.iload_n 3, 1) := by decide +kernel
theorem d_O_variable_127 : decode b_O_variable 127 = .ok (.imul, 1) := by decide +kernel
theorem d_O_variable_128 : decode b_O_variable 128 = .ok (.putfield 19, 3) := by decide +kernel
theorem d_O_variable_131 : decode b_O_variable 131 = .ok (.aload_n 0, 1) := by decide +kernel
theorem d_O_variable_132 : decode b_O_variable 132 = .ok (.dup, 1) := by decide +kernel
theorem d_O_variable_133 : decode b_O_variable 133 = .ok (.getfield 56, 3) := by decide +kernel
theorem d_O_variable_136 : decode b_O_variable 136 = .ok (.iconst 1, 1) := by decide +kernel
theorem d_O_variable_137 : decode b_O_variable 137 = .ok (.iadd, 1) := by decide +kernel
theorem d_O_variable_138 : decode b_O_variable 138 = .ok (.putfield 56, 3) := by decide +kernel
theorem d_O_variable_141 : decode b_O_variable 141 = .ok (.aload_n 0, 1) := by decide +kernel
theorem d_O_variable_142 : decode b_O_variable 142 = .ok (.invokevirtual 63, 3) := by decide +kernel
theorem d_O_variable_145 : decode b_O_variable 145 = .ok (.aload_n 0, 1) := by decide +kernel
theorem d_O_variable_146 : decode b_O_variable 146 = .ok (.getfield 56, 3) := by decide +kernel
theorem d_O_variable_149 : decode b_O_variable 149 = .ok (.iconst 1, 1) := by decide +kernel
theorem d_O_variable_150 : decode b_O_variable 150 = .ok (.isub, 1) := by decide +kernel
theorem d_O_variable_151 : decode b_O_variable 151 = .ok (.ireturn, 1) := by decide +kernel
set_option maxRecDepth 100000 in
set_option maxHeartbeats 4000000 in
theorem o_variable (l : Launch) (D : va_G) (q : Nat → Nat) (n P rw a : Nat) (kn an : Int32) (lw s1 sd kd pa : Nat → Int32) (wd : Nat → Int64) (ao fo uo ho xo : Nat → Int32) (x y : Int32) (sz : Nat) (hn : n ≤ 8) (hP4 : P ≤ 4096) : Met l y_O_variable (wsm y_O_variable b_O_variable 5 (some .int)) { frames := 1, cells := 0, slots := 0, locals := 20 } (va_Pc [.ref (q 0), .int x, .int y] (fun U => U.heap.size = sz ∧ cPre D (ow D q n P rw a kn an lw s1 sd kd pa wd ao fo uo ho xo) U)) (va_Qi (fun (r : Int32) (u : OS) => (¬ vok x y ∧ r = -1 ∧ u = (n, P, rw, a, kn, an, lw, s1, sd, kd, pa, wd, ao, fo, uo, ho, xo)) ∨ (vok x y ∧ ∃ v, 1 ≤ v ∧ v ≤ 8 ∧ y - x + 1 = nI v ∧ ((¬ (n < 8 ∧ P * v ≤ 4096) ∧ r = -2 ∧ u = (n, P, rw, a, kn, an, lw, s1, sd, kd, pa, wd, ao, fo, uo, ho, xo)) ∨ (n < 8 ∧ P * v ≤ 4096 ∧ r = nI n ∧ ∃ g : Nat → Int32, (∀ i : Nat, i < n → g i = sd i * nI v) ∧ u = (n + 1, P * v, rw, a, 0, -1, upd lw n x, upd s1 n (nI v), upd g n 1, kd, pa, wd, ao, fo, uo, ho, xo))))) (fun u t => xB D (oW D q u) (va_A (ow D q n P rw a kn an lw s1 sd kd pa wd ao fo uo ho xo) sz) t) (va_A (ow D q n P rw a kn an lw s1 sd kd pa wd ao fo uo ho xo) sz)) 0 0 (va_A (ow D q n P rw a kn an lw s1 sd kd pa wd ao fo uo ho xo) sz) := by
  refine met_W (Qf := fun A => va_Qi (fun (r : Int32) (u : OS) => (¬ vok x y ∧ r = -1 ∧ u = (n, P, rw, a, kn, an, lw, s1, sd, kd, pa, wd, ao, fo, uo, ho, xo)) ∨ (vok x y ∧ ∃ v, 1 ≤ v ∧ v ≤ 8 ∧ y - x + 1 = nI v ∧ ((¬ (n < 8 ∧ P * v ≤ 4096) ∧ r = -2 ∧ u = (n, P, rw, a, kn, an, lw, s1, sd, kd, pa, wd, ao, fo, uo, ho, xo)) ∨ (n < 8 ∧ P * v ≤ 4096 ∧ r = nI n ∧ ∃ g : Nat → Int32, (∀ i : Nat, i < n → g i = sd i * nI v) ∧ u = (n + 1, P * v, rw, a, 0, -1, upd lw n x, upd s1 n (nI v), upd g n 1, kd, pa, wd, ao, fo, uo, ho, xo))))) (fun u t => xB D (oW D q u) A t) A) (by decide) (Nat.le_of_ble_eq_true rfl) ?_
  intro p e s m below meth c ls A hx hb hr hlocks hml hown hin hA hP hK hD hN hl hS hAA
  have hown : s.vm.findClass R_O = some m.cls := hown
  have hl : lv_has ls 5 [(0, .ref (q 0)), (1, .int x), (2, .int y)] := hl
  refine lv_iload_n hx hb d_O_variable_0 rfl (lv_at hl 1 rfl) ?_
  refine lv_bipush (v := (-20)) hx hb d_O_variable_1 (by decide) ?_
  refine lv_icmp_lt (tgt := 25) hx hb d_O_variable_3 (by decide) (fun h3 => ?_) (fun h3 => ?_)
  · skip
    refine lv_iconst (v := (-1)) hx hb d_O_variable_25 (by decide) ?_
    exact eWi (n, P, rw, a, kn, an, lw, s1, sd, kd, pa, wd, ao, fo, uo, ho, xo) hx hb hr hlocks hP hK hD hS (Or.inl ⟨fun h => h.1 h3, rfl, rfl⟩) d_O_variable_26
  · skip
    refine lv_iload_n hx hb d_O_variable_6 rfl (lv_at hl 2 rfl) ?_
    refine lv_bipush (v := 20) hx hb d_O_variable_7 (by decide) ?_
    refine lv_icmp_gt (tgt := 25) hx hb d_O_variable_9 (by decide) (fun h9 => ?_) (fun h9 => ?_)
    · skip
      refine lv_iconst (v := (-1)) hx hb d_O_variable_25 (by decide) ?_
      exact eWi (n, P, rw, a, kn, an, lw, s1, sd, kd, pa, wd, ao, fo, uo, ho, xo) hx hb hr hlocks hP hK hD hS (Or.inl ⟨fun h => h.2.2.1 h9, rfl, rfl⟩) d_O_variable_26
    · skip
      refine lv_iload_n hx hb d_O_variable_12 rfl (lv_at hl 1 rfl) ?_
      refine lv_iload_n hx hb d_O_variable_13 rfl (lv_at hl 2 rfl) ?_
      refine lv_icmp_gt (tgt := 25) hx hb d_O_variable_14 (by decide) (fun h14 => ?_) (fun h14 => ?_)
      · skip
        refine lv_iconst (v := (-1)) hx hb d_O_variable_25 (by decide) ?_
        exact eWi (n, P, rw, a, kn, an, lw, s1, sd, kd, pa, wd, ao, fo, uo, ho, xo) hx hb hr hlocks hP hK hD hS (Or.inl ⟨fun h => h.2.1 h14, rfl, rfl⟩) d_O_variable_26
      · skip
        refine lv_iload_n hx hb d_O_variable_17 rfl (lv_at hl 2 rfl) ?_
        refine lv_iload_n hx hb d_O_variable_18 rfl (lv_at hl 1 rfl) ?_
        refine lv_isub hx hb d_O_variable_19 ?_
        refine lv_bipush (v := 7) hx hb d_O_variable_20 (by decide) ?_
        refine lv_icmp_le (tgt := 27) hx hb d_O_variable_22 (by decide) (fun h22 => ?_) (fun h22 => ?_)
        · skip
          refine lv_iload_n hx hb d_O_variable_27 rfl (lv_at hl 2 rfl) ?_
          refine lv_iload_n hx hb d_O_variable_28 rfl (lv_at hl 1 rfl) ?_
          refine lv_isub hx hb d_O_variable_29 ?_
          refine lv_iconst (v := 1) hx hb d_O_variable_30 (by decide) ?_
          refine lv_iadd hx hb d_O_variable_31 ?_
          obtain ⟨v, hv1, hv8, hve⟩ := vsz (x := x) (y := y) ⟨h3, h14, h9, lt8i h22⟩
          refine topi_to (v := nI v) hve ?_
          refine lv_istore_n hx hb d_O_variable_32 rfl hl (by decide) rfl (fun ls hl => ?_)
          have hl : lv_has ls 5 [(3, .int (nI v)), (0, .ref (q 0)), (1, .int x), (2, .int y)] := hl
          refine lv_aload_n hx hb d_O_variable_33 rfl (lv_at hl 1 rfl) ?_
          refine va_get (D := D) (ci := 1) (v := .int (nI n)) (C := R_O) (T := T_O) (N := 17) hx hb hA inA_O hown hK hP 0 rfl rfl 0 (by decide) (hA _ wd_422) (fun _ h9 => h9) rfl d_O_variable_34 ?_
          refine lv_bipush (v := 8) hx hb d_O_variable_37 (by decide) ?_
          refine lv_icmp_eq (tgt := 54) hx hb d_O_variable_39 (by decide) (fun h39 => ?_) (fun h39 => ?_)
          · skip
            refine lv_bipush (v := (-2)) hx hb d_O_variable_54 (by decide) ?_
            exact eWi (n, P, rw, a, kn, an, lw, s1, sd, kd, pa, wd, ao, fo, uo, ho, xo) hx hb hr hlocks hP hK hD hS (Or.inr ⟨⟨h3, h14, h9, lt8i h22⟩, v, hv1, hv8, hve, Or.inl ⟨fun h => absurd (nI_ne (b := 8) h39 (by omega) (by decide)) (by omega), rfl, rfl⟩⟩) d_O_variable_56
          · skip
            refine lv_aload_n hx hb d_O_variable_42 rfl (lv_at hl 1 rfl) ?_
            refine va_get (D := D) (ci := 1) (v := .int (nI P)) (C := R_O) (T := T_O) (N := 17) hx hb hA inA_O hown hK hP 0 rfl rfl 4 (by decide) (hA _ wd_426) (fun _ h9 => h9) rfl d_O_variable_43 ?_
            refine lv_iload_n hx hb d_O_variable_46 rfl (lv_at hl 0 rfl) ?_
            refine lv_imul hx hb d_O_variable_47 ?_
            refine topi_to (v := nI (P * v)) (by rw [pk_mul]) ?_
            refine lv_sipush (v := 4096) hx hb d_O_variable_48 (by decide) ?_
            refine lv_icmp_le (tgt := 57) hx hb d_O_variable_51 (by decide) (fun h51 => ?_) (fun h51 => ?_)
            · skip
              have hn8 : n < 8 := ne8 h39 hn
              have hPv : P * v ≤ 4096 := le4096 h51 hP4 hv8
              refine lv_iconst (v := 0) hx hb d_O_variable_57 (by decide) ?_
              refine lv_istore hx hb d_O_variable_58 hl (by decide) rfl (fun ls hl => ?_)
              have hl : lv_has ls 5 [(4, .int 0), (3, .int (nI v)), (0, .ref (q 0)), (1, .int x), (2, .int y)] := hl
              have loop : ∀ (t j : Nat) (g : Nat → Int32) (H : Heap) (locs : List Loc) (ls : Array Slot), j + t = n → sdI sd v j g → lv_has ls 5 [(4, .int (nI j)), (3, .int (nI v)), (0, .ref (q 0)), (1, .int x), (2, .int y)] → va_P D vwCl (ow D q n P rw a kn an lw s1 g kd pa wd ao fo uo ho xo) H → va_D A (ow D q n P rw a kn an lw s1 g kd pa wd ao fo uo ho xo) → va_S A s.heap H locs → W p l e { frames := 1, cells := 0, slots := 0, locals := 20 } s m [.ref (q 0), .int x, .int y].toArray below meth c H locs 0 0 (MQ below (va_Qi (fun (r : Int32) (u : OS) => (¬ vok x y ∧ r = -1 ∧ u = (n, P, rw, a, kn, an, lw, s1, sd, kd, pa, wd, ao, fo, uo, ho, xo)) ∨ (vok x y ∧ ∃ v, 1 ≤ v ∧ v ≤ 8 ∧ y - x + 1 = nI v ∧ ((¬ (n < 8 ∧ P * v ≤ 4096) ∧ r = -2 ∧ u = (n, P, rw, a, kn, an, lw, s1, sd, kd, pa, wd, ao, fo, uo, ho, xo)) ∨ (n < 8 ∧ P * v ≤ 4096 ∧ r = nI n ∧ ∃ g : Nat → Int32, (∀ i : Nat, i < n → g i = sd i * nI v) ∧ u = (n + 1, P * v, rw, a, 0, -1, upd lw n x, upd s1 n (nI v), upd g n 1, kd, pa, wd, ao, fo, uo, ho, xo))))) (fun u t => xB D (oW D q u) A t) A) [.ref (q 0), .int x, .int y].toArray s 0 0 A) (F0 m 60 ls []) := by
                intro t
                induction t with
                | zero =>
                  intro j g H locs ls hj hg hl hP hD hS
                  refine lv_iload hx hb d_O_variable_60 (lv_at hl 0 rfl) ?_
                  refine lv_aload_n hx hb d_O_variable_62 rfl (lv_at hl 2 rfl) ?_
                  refine va_get (D := D) (ci := 1) (v := .int (nI n)) (C := R_O) (T := T_O) (N := 17) hx hb hA inA_O hown hK hP 0 rfl rfl 0 (by decide) (hA _ wd_422) (fun _ h9 => h9) rfl d_O_variable_63 ?_
                  refine lv_icmp_ge (tgt := 91) hx hb d_O_variable_66 (by decide) (fun h66 => ?_) (fun h => absurd (nI_le (by omega) (by omega)) h)
                  refine lv_aload_n hx hb d_O_variable_91 rfl (lv_at hl 2 rfl) ?_
                  refine va_get (D := D) (ci := 1) (v := .ref (q 1)) (C := R_O) (T := T_O) (N := 17) hx hb hA inA_O hown hK hP 0 rfl rfl 1 (by decide) (hA _ wd_423) (fun _ h9 => h9) rfl d_O_variable_92 ?_
                  refine lv_aload_n hx hb d_O_variable_95 rfl (lv_at hl 2 rfl) ?_
                  refine va_get (D := D) (ci := 1) (v := .int (nI n)) (C := R_O) (T := T_O) (N := 17) hx hb hA inA_O hown hK hP 0 rfl rfl 0 (by decide) (hA _ wd_422) (fun _ h9 => h9) rfl d_O_variable_96 ?_
                  refine lv_iload_n hx hb d_O_variable_99 rfl (lv_at hl 3 rfl) ?_
                  refine xi_ast hx hb hK hP hD hS 1 rfl (hn8) (by decide) d_O_variable_100 (fun H locs hP hD hS => ?_)
                  have hP : va_P D vwCl (ow D q n P rw a kn an (upd lw n x) s1 g kd pa wd ao fo uo ho xo) H := hP
                  have hD : va_D A (ow D q n P rw a kn an (upd lw n x) s1 g kd pa wd ao fo uo ho xo) := hD
                  refine lv_aload_n hx hb d_O_variable_101 rfl (lv_at hl 2 rfl) ?_
                  refine va_get (D := D) (ci := 1) (v := .ref (q 2)) (C := R_O) (T := T_O) (N := 17) hx hb hA inA_O hown hK hP 0 rfl rfl 2 (by decide) (hA _ wd_424) (fun _ h9 => h9) rfl d_O_variable_102 ?_
                  refine lv_aload_n hx hb d_O_variable_105 rfl (lv_at hl 2 rfl) ?_
                  refine va_get (D := D) (ci := 1) (v := .int (nI n)) (C := R_O) (T := T_O) (N := 17) hx hb hA inA_O hown hK hP 0 rfl rfl 0 (by decide) (hA _ wd_422) (fun _ h9 => h9) rfl d_O_variable_106 ?_
                  refine lv_iload_n hx hb d_O_variable_109 rfl (lv_at hl 1 rfl) ?_
                  refine xi_ast hx hb hK hP hD hS 2 rfl (hn8) (by decide) d_O_variable_110 (fun H locs hP hD hS => ?_)
                  have hP : va_P D vwCl (ow D q n P rw a kn an (upd lw n x) (upd s1 n (nI v)) g kd pa wd ao fo uo ho xo) H := hP
                  have hD : va_D A (ow D q n P rw a kn an (upd lw n x) (upd s1 n (nI v)) g kd pa wd ao fo uo ho xo) := hD
                  refine lv_aload_n hx hb d_O_variable_111 rfl (lv_at hl 2 rfl) ?_
                  refine va_get (D := D) (ci := 1) (v := .ref (q 3)) (C := R_O) (T := T_O) (N := 17) hx hb hA inA_O hown hK hP 0 rfl rfl 3 (by decide) (hA _ wd_425) (fun _ h9 => h9) rfl d_O_variable_112 ?_
                  refine lv_aload_n hx hb d_O_variable_115 rfl (lv_at hl 2 rfl) ?_
                  refine va_get (D := D) (ci := 1) (v := .int (nI n)) (C := R_O) (T := T_O) (N := 17) hx hb hA inA_O hown hK hP 0 rfl rfl 0 (by decide) (hA _ wd_422) (fun _ h9 => h9) rfl d_O_variable_116 ?_
                  refine lv_iconst (v := 1) hx hb d_O_variable_119 (by decide) ?_
                  refine xi_ast hx hb hK hP hD hS 3 rfl (hn8) (by decide) d_O_variable_120 (fun H locs hP hD hS => ?_)
                  have hP : va_P D vwCl (ow D q n P rw a kn an (upd lw n x) (upd s1 n (nI v)) (upd g n 1) kd pa wd ao fo uo ho xo) H := hP
                  have hD : va_D A (ow D q n P rw a kn an (upd lw n x) (upd s1 n (nI v)) (upd g n 1) kd pa wd ao fo uo ho xo) := hD
                  refine lv_aload_n hx hb d_O_variable_121 rfl (lv_at hl 2 rfl) ?_
                  refine lv_aload_n hx hb d_O_variable_122 rfl (lv_at hl 2 rfl) ?_
                  refine va_get (D := D) (ci := 1) (v := .int (nI P)) (C := R_O) (T := T_O) (N := 17) hx hb hA inA_O hown hK hP 0 rfl rfl 4 (by decide) (hA _ wd_426) (fun _ h9 => h9) rfl d_O_variable_123 ?_
                  refine lv_iload_n hx hb d_O_variable_126 rfl (lv_at hl 1 rfl) ?_
                  refine lv_imul hx hb d_O_variable_127 ?_
                  refine topi_to (v := nI (P * v)) (by rw [pk_mul]) ?_
                  refine va_put (D := D) (ci := 1) (v := .int (nI (P * v))) (ty := .int) (C := R_O) (T := T_O) (N := 17) hx hb hA inA_O ty_O tok_O nm_O hown hK hP hD hS 0 rfl rfl 4 (by decide) (hA _ wd_426) (fun _ h9 => h9) rfl (by decide +kernel) (by first | rfl | decide) (by first | rfl | decide) (Nat.le_of_ble_eq_true rfl) d_O_variable_128 (fun H locs hP hD hS => ?_)
                  have hP : va_P D vwCl (ow D q n (P * v) rw a kn an (upd lw n x) (upd s1 n (nI v)) (upd g n 1) kd pa wd ao fo uo ho xo) H := hP
                  have hD : va_D A (ow D q n (P * v) rw a kn an (upd lw n x) (upd s1 n (nI v)) (upd g n 1) kd pa wd ao fo uo ho xo) := hD
                  refine lv_aload_n hx hb d_O_variable_131 rfl (lv_at hl 2 rfl) ?_
                  refine lv_dup hx hb d_O_variable_132 rfl ?_
                  refine va_get (D := D) (ci := 1) (v := .int (nI n)) (C := R_O) (T := T_O) (N := 17) hx hb hA inA_O hown hK hP 0 rfl rfl 0 (by decide) (hA _ wd_422) (fun _ h9 => h9) rfl d_O_variable_133 ?_
                  refine lv_iconst (v := 1) hx hb d_O_variable_136 (by decide) ?_
                  refine lv_iadd hx hb d_O_variable_137 ?_
                  refine topi_to (v := nI (n + 1)) ((nI_succ n).symm) ?_
                  refine va_put (D := D) (ci := 1) (v := .int (nI (n + 1))) (ty := .int) (C := R_O) (T := T_O) (N := 17) hx hb hA inA_O ty_O tok_O nm_O hown hK hP hD hS 0 rfl rfl 0 (by decide) (hA _ wd_422) (fun _ h9 => h9) rfl (by decide +kernel) (by first | rfl | decide) (by first | rfl | decide) (Nat.le_of_ble_eq_true rfl) d_O_variable_138 (fun H locs hP hD hS => ?_)
                  have hP : va_P D vwCl (ow D q (n + 1) (P * v) rw a kn an (upd lw n x) (upd s1 n (nI v)) (upd g n 1) kd pa wd ao fo uo ho xo) H := hP
                  have hD : va_D A (ow D q (n + 1) (P * v) rw a kn an (upd lw n x) (upd s1 n (nI v)) (upd g n 1) kd pa wd ao fo uo ho xo) := hD
                  refine lv_aload_n hx hb d_O_variable_141 rfl (lv_at hl 2 rfl) ?_
                  refine wVv (n := 0) (wr := []) (Wf := oW D q) (rest := []) hx hb hml hown hA (o_changed l D q (n + 1) (P * v) rw a kn an (upd lw n x) (upd s1 n (nI v)) (upd g n 1) kd pa wd ao fo uo ho xo _) wv_O_63 ⟨by decide, by decide, by decide +kernel⟩ ⟨rfl, rfl, by decide, by decide⟩ rfl hl.1 ⟨Nat.le_of_ble_eq_true rfl, Nat.le_of_ble_eq_true rfl⟩ hP hK hD hS hAA hN [0, 1, 2, 3, 4, 5, 6, 7, 8, 9, 10, 11] [] rfl rfl (by decide) (by decide) (by decide) 0 1 rfl rfl rfl (Nat.le_of_ble_eq_true rfl) d_O_variable_142 (fun u H locs hu hP hD hS => ?_)
                  subst hu
                  have hP : va_P D vwCl (ow D q (n + 1) (P * v) rw a 0 (-1) (upd lw n x) (upd s1 n (nI v)) (upd g n 1) kd pa wd ao fo uo ho xo) H := hP
                  have hD : va_D A (ow D q (n + 1) (P * v) rw a 0 (-1) (upd lw n x) (upd s1 n (nI v)) (upd g n 1) kd pa wd ao fo uo ho xo) := hD
                  refine lv_aload_n hx hb d_O_variable_145 rfl (lv_at hl 2 rfl) ?_
                  refine va_get (D := D) (ci := 1) (v := .int (nI (n + 1))) (C := R_O) (T := T_O) (N := 17) hx hb hA inA_O hown hK hP 0 rfl rfl 0 (by decide) (hA _ wd_422) (fun _ h9 => h9) rfl d_O_variable_146 ?_
                  refine lv_iconst (v := 1) hx hb d_O_variable_149 (by decide) ?_
                  refine lv_isub hx hb d_O_variable_150 ?_
                  refine topi_to (v := nI n) (nI_pred n) ?_
                  exact eWi ((n + 1), (P * v), rw, a, 0, -1, upd lw n x, upd s1 n (nI v), upd g n 1, kd, pa, wd, ao, fo, uo, ho, xo) hx hb hr hlocks hP hK hD hS (Or.inr ⟨⟨h3, h14, h9, lt8i h22⟩, v, hv1, hv8, hve, Or.inr ⟨hn8, hPv, rfl, g, fun i hi => by rw [hg i, if_pos (by omega)], rfl⟩⟩) d_O_variable_151
                | succ t ih =>
                  intro j g H locs ls hj hg hl hP hD hS
                  refine lv_iload hx hb d_O_variable_60 (lv_at hl 0 rfl) ?_
                  refine lv_aload_n hx hb d_O_variable_62 rfl (lv_at hl 2 rfl) ?_
                  refine va_get (D := D) (ci := 1) (v := .int (nI n)) (C := R_O) (T := T_O) (N := 17) hx hb hA inA_O hown hK hP 0 rfl rfl 0 (by decide) (hA _ wd_422) (fun _ h9 => h9) rfl d_O_variable_63 ?_
                  refine lv_icmp_ge (tgt := 91) hx hb d_O_variable_66 (by decide) (fun h => absurd h (nI_ge (by omega) (by omega))) (fun h66 => ?_)
                  refine lv_aload_n hx hb d_O_variable_69 rfl (lv_at hl 2 rfl) ?_
                  refine va_get (D := D) (ci := 1) (v := .ref (q 3)) (C := R_O) (T := T_O) (N := 17) hx hb hA inA_O hown hK hP 0 rfl rfl 3 (by decide) (hA _ wd_425) (fun _ h9 => h9) rfl d_O_variable_70 ?_
                  refine lv_iload hx hb d_O_variable_73 (lv_at hl 0 rfl) ?_
                  refine lv_aload_n hx hb d_O_variable_75 rfl (lv_at hl 2 rfl) ?_
                  refine va_get (D := D) (ci := 1) (v := .ref (q 3)) (C := R_O) (T := T_O) (N := 17) hx hb hA inA_O hown hK hP 0 rfl rfl 3 (by decide) (hA _ wd_425) (fun _ h9 => h9) rfl d_O_variable_76 ?_
                  refine lv_iload hx hb d_O_variable_79 (lv_at hl 0 rfl) ?_
                  refine xi_ald hx hb hK hP 3 rfl (by omega) (by decide) d_O_variable_81 ?_
                  refine lv_iload_n hx hb d_O_variable_82 rfl (lv_at hl 1 rfl) ?_
                  refine lv_imul hx hb d_O_variable_83 ?_
                  refine xi_ast hx hb hK hP hD hS 3 rfl (by omega) (by decide) d_O_variable_84 (fun H locs hP hD hS => ?_)
                  have hP : va_P D vwCl (ow D q n P rw a kn an lw s1 (upd g j ((g j) * (nI v))) kd pa wd ao fo uo ho xo) H := hP
                  have hD : va_D A (ow D q n P rw a kn an lw s1 (upd g j ((g j) * (nI v))) kd pa wd ao fo uo ho xo) := hD
                  refine lv_iinc (v := nI (j + 1)) hx hb d_O_variable_85 hl (k := 0) rfl (by rw [nI_succ]; rfl) (by decide) rfl (fun ls hl => ?_)
                  have hl : lv_has ls 5 [(4, .int (nI (j + 1))), (3, .int (nI v)), (0, .ref (q 0)), (1, .int x), (2, .int y)] := hl
                  refine lv_goto (tgt := 60) hx hb d_O_variable_88 (by decide) ?_
                  exact ih (j + 1) _ _ _ _ (by omega) (sdI_s hg) (lv_sub hl [0, 1, 2, 3, 4] rfl) hP hD hS
              exact loop n 0 sd _ _ _ (by omega) (sdI_0 sd v) (lv_sub hl [0, 1, 2, 3, 4] rfl) hP hD hS
            · skip
              refine lv_bipush (v := (-2)) hx hb d_O_variable_54 (by decide) ?_
              exact eWi (n, P, rw, a, kn, an, lw, s1, sd, kd, pa, wd, ao, fo, uo, ho, xo) hx hb hr hlocks hP hK hD hS (Or.inr ⟨⟨h3, h14, h9, lt8i h22⟩, v, hv1, hv8, hve, Or.inl ⟨fun h => h51 (nI_le h.2 (by decide)), rfl, rfl⟩⟩) d_O_variable_56
        · skip
          refine lv_iconst (v := (-1)) hx hb d_O_variable_25 (by decide) ?_
          exact eWi (n, P, rw, a, kn, an, lw, s1, sd, kd, pa, wd, ao, fo, uo, ho, xo) hx hb hr hlocks hP hK hD hS (Or.inl ⟨fun h => h22 (le7 h.2.2.2), rfl, rfl⟩) d_O_variable_26
end
end
section
section
theorem d_O_add_0 : decode b_O_add 0 = .ok (.aload_n 0, 1) := by decide +kernel
theorem d_O_add_1 : decode b_O_add 1 = .ok (.getfield 66, 3) := by decide +kernel
theorem d_O_add_4 : decode b_O_add 4 = .ok (.bipush 12, 2) := by decide +kernel
theorem d_O_add_6 : decode b_O_add 6 = .ok (.if_icmp .ne 6, 3) := by decide +kernel
theorem d_O_add_9 : decode b_O_add 9 = .ok (.bipush (-2), 2) := by decide +kernel
theorem d_O_add_11 : decode b_O_add 11 = .ok (.ireturn, 1) := by decide +kernel
theorem d_O_add_12 : decode b_O_add 12 = .ok (.aload_n 0, 1) := by decide +kernel
theorem d_O_add_13 : decode b_O_add 13 = .ok (.getfield 23, 3) := by decide +kernel
theorem d_O_add_16 : decode b_O_add 16 = .ok (.aload_n 0, 1) := by decide +kernel
theorem d_O_add_17 : decode b_O_add 17 = .ok (.getfield 66, 3) := by decide +kernel
theorem d_O_add_20 : decode b_O_add 20 = .ok (.iload_n 1, 1) := by decide +kernel
theorem d_O_add_21 : decode b_O_add 21 = .ok (.iastore, 1) := by decide +kernel
theorem d_O_add_22 : decode b_O_add 22 = .ok (.aload_n 0, 1) := by decide +kernel
theorem d_O_add_23 : decode b_O_add 23 = .ok (.getfield 29, 3) := by decide +kernel
theorem d_O_add_26 : decode b_O_add 26 = .ok (.iconst 2, 1) := by decide +kernel
theorem d_O_add_27 : decode b_O_add 27 = .ok (.aload_n 0, 1) := by decide +kernel
theorem d_O_add_28 : decode b_O_add 28 = .ok (.getfield 66, 3) := by decide +kernel
theorem d_O_add_31 : decode b_O_add 31 = .ok (.imul, 1) := by decide +kernel
theorem d_O_add_32 : decode b_O_add 32 = .ok (.lload_n 2, 1) := by decide +kernel
theorem d_O_add_33 : decode b_O_add 33 = .ok (.lastore, 1) := by decide +kernel
theorem d_O_add_34 : decode b_O_add 34 = .ok (.aload_n 0, 1) := by decide +kernel
theorem d_O_add_35 : decode b_O_add 35 = .ok (.getfield 29, 3) := by decide +kernel
theorem d_O_add_38 : decode b_O_add 38 = .ok (.iconst 2, 1) := by decide +kernel
theorem d_O_add_39 : decode b_O_add 39 = .ok (.aload_n 0, 1) := by decide +kernel
theorem d_O_add_40 : decode b_O_add 40 = .ok (.getfield 66, 3) := by decide +kernel
theorem d_O_add_43 : decode b_O_add 43 = .ok (.imul, 1) := by decide +kernel
theorem d_O_add_44 : decode b_O_add 44 = .ok (.iconst 1, 1) := by decide +kernel
theorem d_O_add_45 : decode b_O_add 45 = .ok (.iadd, 1) := by decide +kernel
theorem d_O_add_46 : decode b_O_add 46 = .ok (.lload 4, 2) := by decide +kernel
theorem d_O_add_48 : decode b_O_add 48 = .ok (.lastore, 1) := by decide +kernel
theorem d_O_add_49 : decode b_O_add 49 = .ok (.iconst 0, 1) := by decide +kernel
theorem d_O_add_50 : decode b_O_add 50 = .ok (.istore 6, 2) := by decide +kernel
theorem d_O_add_52 : decode b_O_add 52 = .ok (.iload 6, 2) := by decide +kernel
theorem d_O_add_54 : decode b_O_add 54 = .ok (.bipush 7, 2) := by decide +kernel
theorem d_O_add_56 : decode b_O_add 56 = .ok (.if_icmp .ge 25, 3) := by decide +kernel
theorem d_O_add_59 : decode b_O_add 59 = .ok (.aload_n 0, 1) := by decide +kernel
theorem d_O_add_60 : decode b_O_add 60 = .ok (.getfield 26, 3) := by decide +kernel
theorem d_O_add_63 : decode b_O_add 63 = .ok (.bipush 7, 2) := by decide +kernel
theorem d_O_add_65 : decode b_O_add 65 = .ok (.aload_n 0, 1) := by decide +kernel
theorem d_O_add_66 : decode b_O_add 66 = .ok (.getfield 66, 3) := by decide +kernel
theorem d_O_add_69 : decode b_O_add 69 = .ok (.imul, 1) := by decide +kernel
theorem d_O_add_70 : decode b_O_add 70 = .ok (.iload 6, 2) := by decide +kernel
theorem d_O_add_72 : decode b_O_add 72 = .ok (.iadd, 1) := by decide +kernel
theorem d_O_add_73 : decode b_O_add 73 = .ok (.iconst 0, 1) := by decide +kernel
theorem d_O_add_74 : decode b_O_add 74 = .ok (.iastore, 1) := by decide +kernel
theorem d_O_add_75 : decode b_O_add 75 = .ok (.iinc 6 1, 3) := by decide +kernel
theorem d_O_add_78 : decode b_O_add 78 = .ok (.goto (-26), 3) := by decide +kernel
theorem d_O_add_81 : decode b_O_add 81 = .ok (.aload_n 0, 1) := by decide +kernel
theorem d_O_add_82 : decode b_O_add 82 = .ok (.dup, 1) := by decide +kernel
theorem d_O_add_83 : decode b_O_add 83 = .ok (.getfield 66, 3) := by decide +kernel
theorem d_O_add_86 : decode b_O_add 86 = .ok (.iconst 1, 1) := by decide +kernel
theorem d_O_add_87 : decode b_O_add 87 = .ok (.iadd, 1) := by decide +kernel
theorem d_O_add_88 : decode b_O_add 88 = .ok (.putfield 66, 3) := by decide +kernel
theorem d_O_add_91 : decode b_O_add 91 = .ok (.aload_n 0, 1) := by decide +kernel
theorem d_O_add_92 : decode b_O_add 92 = .ok (.invokevirtual 63, 3) := by decide +kernel
theorem d_O_add_95 : decode b_O_add 95 = .ok (.aload_n 0, 1) := by decide +kernel
theorem d_O_add_96 : decode b_O_add 96 = .ok (.getfield 66, 3) := by decide +kernel
theorem d_O_add_99 : decode b_O_add 99 = .ok (.iconst 1, 1) := by decide +kernel
theorem d_O_add_100 : decode b_O_add 100 = .ok (.isub, 1) := by decide +kernel
theorem d_O_add_101 : decode b_O_add 101 = .ok (.ireturn, 1) := by decide +kernel
set_option maxRecDepth 100000 in
set_option maxHeartbeats 4000000 in
theorem o_add (l : Launch) (D : va_G) (q : Nat → Nat) (n P rw a : Nat) (kn an : Int32) (lw s1 sd kd pa : Nat → Int32) (wd : Nat → Int64) (ao fo uo ho xo : Nat → Int32) (wh : Int32) (w0 w1 : Int64) (sz : Nat) (hrw : rw ≤ 12) : Met l y_O_add (wsm y_O_add b_O_add 7 (some .int)) { frames := 1, cells := 0, slots := 0, locals := 20 } (va_Pc [.ref (q 0), .int wh, .long w0, .long w1] (fun U => U.heap.size = sz ∧ cPre D (ow D q n P rw a kn an lw s1 sd kd pa wd ao fo uo ho xo) U)) (va_Qi (fun (r : Int32) (u : OS) => (¬ rw < 12 ∧ r = -2 ∧ u = (n, P, rw, a, kn, an, lw, s1, sd, kd, pa, wd, ao, fo, uo, ho, xo)) ∨ (rw < 12 ∧ r = nI rw ∧ u = (n, P, rw + 1, a, 0, -1, lw, s1, sd, upd kd rw wh, clr7 pa rw, vp_updL (vp_updL wd (2 * rw) w0) (2 * rw + 1) w1, ao, fo, uo, ho, xo))) (fun u t => xB D (oW D q u) (va_A (ow D q n P rw a kn an lw s1 sd kd pa wd ao fo uo ho xo) sz) t) (va_A (ow D q n P rw a kn an lw s1 sd kd pa wd ao fo uo ho xo) sz)) 0 0 (va_A (ow D q n P rw a kn an lw s1 sd kd pa wd ao fo uo ho xo) sz) := by
  refine met_W (Qf := fun A => va_Qi (fun (r : Int32) (u : OS) => (¬ rw < 12 ∧ r = -2 ∧ u = (n, P, rw, a, kn, an, lw, s1, sd, kd, pa, wd, ao, fo, uo, ho, xo)) ∨ (rw < 12 ∧ r = nI rw ∧ u = (n, P, rw + 1, a, 0, -1, lw, s1, sd, upd kd rw wh, clr7 pa rw, vp_updL (vp_updL wd (2 * rw) w0) (2 * rw + 1) w1, ao, fo, uo, ho, xo))) (fun u t => xB D (oW D q u) A t) A) (by decide) (Nat.le_of_ble_eq_true rfl) ?_
  intro p e s m below meth c ls A hx hb hr hlocks hml hown hin hA hP hK hD hN hl hS hAA
  have hown : s.vm.findClass R_O = some m.cls := hown
  have hl : lv_has ls 7 [(0, .ref (q 0)), (1, .int wh), (2, .long w0), (4, .long w1)] := hl
  refine lv_aload_n hx hb d_O_add_0 rfl (lv_at hl 0 rfl) ?_
  refine va_get (D := D) (ci := 1) (v := .int (nI rw)) (C := R_O) (T := T_O) (N := 17) hx hb hA inA_O hown hK hP 0 rfl rfl 5 (by decide) (hA _ wd_427) (fun _ h9 => h9) rfl d_O_add_1 ?_
  refine lv_bipush (v := 12) hx hb d_O_add_4 (by decide) ?_
  refine lv_icmp_ne (tgt := 12) hx hb d_O_add_6 (by decide) (fun h6 => ?_) (fun h6 => ?_)
  · skip
    refine lv_aload_n hx hb d_O_add_12 rfl (lv_at hl 0 rfl) ?_
    refine va_get (D := D) (ci := 1) (v := .ref (q 4)) (C := R_O) (T := T_O) (N := 17) hx hb hA inA_O hown hK hP 0 rfl rfl 6 (by decide) (hA _ wd_428) (fun _ h9 => h9) rfl d_O_add_13 ?_
    refine lv_aload_n hx hb d_O_add_16 rfl (lv_at hl 0 rfl) ?_
    refine va_get (D := D) (ci := 1) (v := .int (nI rw)) (C := R_O) (T := T_O) (N := 17) hx hb hA inA_O hown hK hP 0 rfl rfl 5 (by decide) (hA _ wd_427) (fun _ h9 => h9) rfl d_O_add_17 ?_
    refine lv_iload_n hx hb d_O_add_20 rfl (lv_at hl 1 rfl) ?_
    refine xi_ast hx hb hK hP hD hS 4 rfl (ne12 h6 hrw) (by decide) d_O_add_21 (fun H locs hP hD hS => ?_)
    have hP : va_P D vwCl (ow D q n P rw a kn an lw s1 sd (upd kd rw wh) pa wd ao fo uo ho xo) H := hP
    have hD : va_D A (ow D q n P rw a kn an lw s1 sd (upd kd rw wh) pa wd ao fo uo ho xo) := hD
    refine lv_aload_n hx hb d_O_add_22 rfl (lv_at hl 0 rfl) ?_
    refine va_get (D := D) (ci := 1) (v := .ref (q 6)) (C := R_O) (T := T_O) (N := 17) hx hb hA inA_O hown hK hP 0 rfl rfl 8 (by decide) (hA _ wd_430) (fun _ h9 => h9) rfl d_O_add_23 ?_
    refine lv_iconst (v := 2) hx hb d_O_add_26 (by decide) ?_
    refine lv_aload_n hx hb d_O_add_27 rfl (lv_at hl 0 rfl) ?_
    refine va_get (D := D) (ci := 1) (v := .int (nI rw)) (C := R_O) (T := T_O) (N := 17) hx hb hA inA_O hown hK hP 0 rfl rfl 5 (by decide) (hA _ wd_427) (fun _ h9 => h9) rfl d_O_add_28 ?_
    refine lv_imul hx hb d_O_add_31 ?_
    refine topi_to (v := nI (2 * rw)) (by rw [← pk_mul]; rfl) ?_
    refine lv_lload_n hx hb d_O_add_32 rfl (lv_at hl 2 rfl) ?_
    refine xl_ast hx hb hK hP hD hS 6 rfl (by have := ne12 h6 hrw; omega) (by decide) d_O_add_33 (fun H locs hP hD hS => ?_)
    have hP : va_P D vwCl (ow D q n P rw a kn an lw s1 sd (upd kd rw wh) pa (vp_updL wd (2 * rw) w0) ao fo uo ho xo) H := hP
    have hD : va_D A (ow D q n P rw a kn an lw s1 sd (upd kd rw wh) pa (vp_updL wd (2 * rw) w0) ao fo uo ho xo) := hD
    refine lv_aload_n hx hb d_O_add_34 rfl (lv_at hl 0 rfl) ?_
    refine va_get (D := D) (ci := 1) (v := .ref (q 6)) (C := R_O) (T := T_O) (N := 17) hx hb hA inA_O hown hK hP 0 rfl rfl 8 (by decide) (hA _ wd_430) (fun _ h9 => h9) rfl d_O_add_35 ?_
    refine lv_iconst (v := 2) hx hb d_O_add_38 (by decide) ?_
    refine lv_aload_n hx hb d_O_add_39 rfl (lv_at hl 0 rfl) ?_
    refine va_get (D := D) (ci := 1) (v := .int (nI rw)) (C := R_O) (T := T_O) (N := 17) hx hb hA inA_O hown hK hP 0 rfl rfl 5 (by decide) (hA _ wd_427) (fun _ h9 => h9) rfl d_O_add_40 ?_
    refine lv_imul hx hb d_O_add_43 ?_
    refine lv_iconst (v := 1) hx hb d_O_add_44 (by decide) ?_
    refine lv_iadd hx hb d_O_add_45 ?_
    refine topi_to (v := nI (2 * rw + 1)) (by rw [← nI_add, ← pk_mul]; rfl) ?_
    refine lv_lload hx hb d_O_add_46 (lv_at hl 3 rfl) ?_
    refine xl_ast hx hb hK hP hD hS 6 rfl (by have := ne12 h6 hrw; omega) (by decide) d_O_add_48 (fun H locs hP hD hS => ?_)
    have hP : va_P D vwCl (ow D q n P rw a kn an lw s1 sd (upd kd rw wh) pa (vp_updL (vp_updL wd (2 * rw) w0) (2 * rw + 1) w1) ao fo uo ho xo) H := hP
    have hD : va_D A (ow D q n P rw a kn an lw s1 sd (upd kd rw wh) pa (vp_updL (vp_updL wd (2 * rw) w0) (2 * rw + 1) w1) ao fo uo ho xo) := hD
    refine lv_iconst (v := 0) hx hb d_O_add_49 (by decide) ?_
    refine lv_istore hx hb d_O_add_50 hl (by decide) rfl (fun ls hl => ?_)
    have hl : lv_has ls 7 [(6, .int 0), (0, .ref (q 0)), (1, .int wh), (2, .long w0), (4, .long w1)] := hl
    refine lv_iload hx hb d_O_add_52 (lv_at hl 0 rfl) ?_
    refine lv_bipush (v := 7) hx hb d_O_add_54 (by decide) ?_
    refine lv_icmp_ge (tgt := 81) hx hb d_O_add_56 (by decide) (fun h => absurd h (by decide)) (fun _ => ?_)
    refine lv_aload_n hx hb d_O_add_59 rfl (lv_at hl 1 rfl) ?_
    refine va_get (D := D) (ci := 1) (v := .ref (q 5)) (C := R_O) (T := T_O) (N := 17) hx hb hA inA_O hown hK hP 0 rfl rfl 7 (by decide) (hA _ wd_429) (fun _ h9 => h9) rfl d_O_add_60 ?_
    refine lv_bipush (v := 7) hx hb d_O_add_63 (by decide) ?_
    refine lv_aload_n hx hb d_O_add_65 rfl (lv_at hl 1 rfl) ?_
    refine va_get (D := D) (ci := 1) (v := .int (nI rw)) (C := R_O) (T := T_O) (N := 17) hx hb hA inA_O hown hK hP 0 rfl rfl 5 (by decide) (hA _ wd_427) (fun _ h9 => h9) rfl d_O_add_66 ?_
    refine lv_imul hx hb d_O_add_69 ?_
    refine lv_iload hx hb d_O_add_70 (lv_at hl 0 rfl) ?_
    refine lv_iadd hx hb d_O_add_72 ?_
    refine topi_to (v := nI (7 * rw + 0)) (by rw [← nI_add, ← pk_mul]; rfl) ?_
    refine lv_iconst (v := 0) hx hb d_O_add_73 (by decide) ?_
    refine xi_ast hx hb hK hP hD hS 5 rfl (by have := ne12 h6 hrw; omega) (by decide) d_O_add_74 (fun H locs hP hD hS => ?_)
    have hP : va_P D vwCl (ow D q n P rw a kn an lw s1 sd (upd kd rw wh) (upd pa (7 * rw + 0) 0) (vp_updL (vp_updL wd (2 * rw) w0) (2 * rw + 1) w1) ao fo uo ho xo) H := hP
    have hD : va_D A (ow D q n P rw a kn an lw s1 sd (upd kd rw wh) (upd pa (7 * rw + 0) 0) (vp_updL (vp_updL wd (2 * rw) w0) (2 * rw + 1) w1) ao fo uo ho xo) := hD
    refine lv_iinc (v := 1) hx hb d_O_add_75 hl (k := 0) rfl (by decide) (by decide) rfl (fun ls hl => ?_)
    have hl : lv_has ls 7 [(6, .int 1), (0, .ref (q 0)), (1, .int wh), (2, .long w0), (4, .long w1)] := hl
    refine lv_goto (tgt := 52) hx hb d_O_add_78 (by decide) ?_
    refine lv_iload hx hb d_O_add_52 (lv_at hl 0 rfl) ?_
    refine lv_bipush (v := 7) hx hb d_O_add_54 (by decide) ?_
    refine lv_icmp_ge (tgt := 81) hx hb d_O_add_56 (by decide) (fun h => absurd h (by decide)) (fun _ => ?_)
    refine lv_aload_n hx hb d_O_add_59 rfl (lv_at hl 1 rfl) ?_
    refine va_get (D := D) (ci := 1) (v := .ref (q 5)) (C := R_O) (T := T_O) (N := 17) hx hb hA inA_O hown hK hP 0 rfl rfl 7 (by decide) (hA _ wd_429) (fun _ h9 => h9) rfl d_O_add_60 ?_
    refine lv_bipush (v := 7) hx hb d_O_add_63 (by decide) ?_
    refine lv_aload_n hx hb d_O_add_65 rfl (lv_at hl 1 rfl) ?_
    refine va_get (D := D) (ci := 1) (v := .int (nI rw)) (C := R_O) (T := T_O) (N := 17) hx hb hA inA_O hown hK hP 0 rfl rfl 5 (by decide) (hA _ wd_427) (fun _ h9 => h9) rfl d_O_add_66 ?_
    refine lv_imul hx hb d_O_add_69 ?_
    refine lv_iload hx hb d_O_add_70 (lv_at hl 0 rfl) ?_
    refine lv_iadd hx hb d_O_add_72 ?_
    refine topi_to (v := nI (7 * rw + 1)) (by rw [← nI_add, ← pk_mul]; rfl) ?_
    refine lv_iconst (v := 0) hx hb d_O_add_73 (by decide) ?_
    refine xi_ast hx hb hK hP hD hS 5 rfl (by have := ne12 h6 hrw; omega) (by decide) d_O_add_74 (fun H locs hP hD hS => ?_)
    have hP : va_P D vwCl (ow D q n P rw a kn an lw s1 sd (upd kd rw wh) (upd (upd pa (7 * rw + 0) 0) (7 * rw + 1) 0) (vp_updL (vp_updL wd (2 * rw) w0) (2 * rw + 1) w1) ao fo uo ho xo) H := hP
    have hD : va_D A (ow D q n P rw a kn an lw s1 sd (upd kd rw wh) (upd (upd pa (7 * rw + 0) 0) (7 * rw + 1) 0) (vp_updL (vp_updL wd (2 * rw) w0) (2 * rw + 1) w1) ao fo uo ho xo) := hD
    refine lv_iinc (v := 2) hx hb d_O_add_75 hl (k := 0) rfl (by decide) (by decide) rfl (fun ls hl => ?_)
    have hl : lv_has ls 7 [(6, .int 2), (0, .ref (q 0)), (1, .int wh), (2, .long w0), (4, .long w1)] := hl
    refine lv_goto (tgt := 52) hx hb d_O_add_78 (by decide) ?_
    refine lv_iload hx hb d_O_add_52 (lv_at hl 0 rfl) ?_
    refine lv_bipush (v := 7) hx hb d_O_add_54 (by decide) ?_
    refine lv_icmp_ge (tgt := 81) hx hb d_O_add_56 (by decide) (fun h => absurd h (by decide)) (fun _ => ?_)
    refine lv_aload_n hx hb d_O_add_59 rfl (lv_at hl 1 rfl) ?_
    refine va_get (D := D) (ci := 1) (v := .ref (q 5)) (C := R_O) (T := T_O) (N := 17) hx hb hA inA_O hown hK hP 0 rfl rfl 7 (by decide) (hA _ wd_429) (fun _ h9 => h9) rfl d_O_add_60 ?_
    refine lv_bipush (v := 7) hx hb d_O_add_63 (by decide) ?_
    refine lv_aload_n hx hb d_O_add_65 rfl (lv_at hl 1 rfl) ?_
    refine va_get (D := D) (ci := 1) (v := .int (nI rw)) (C := R_O) (T := T_O) (N := 17) hx hb hA inA_O hown hK hP 0 rfl rfl 5 (by decide) (hA _ wd_427) (fun _ h9 => h9) rfl d_O_add_66 ?_
    refine lv_imul hx hb d_O_add_69 ?_
    refine lv_iload hx hb d_O_add_70 (lv_at hl 0 rfl) ?_
    refine lv_iadd hx hb d_O_add_72 ?_
    refine topi_to (v := nI (7 * rw + 2)) (by rw [← nI_add, ← pk_mul]; rfl) ?_
    refine lv_iconst (v := 0) hx hb d_O_add_73 (by decide) ?_
    refine xi_ast hx hb hK hP hD hS 5 rfl (by have := ne12 h6 hrw; omega) (by decide) d_O_add_74 (fun H locs hP hD hS => ?_)
    have hP : va_P D vwCl (ow D q n P rw a kn an lw s1 sd (upd kd rw wh) (upd (upd (upd pa (7 * rw + 0) 0) (7 * rw + 1) 0) (7 * rw + 2) 0) (vp_updL (vp_updL wd (2 * rw) w0) (2 * rw + 1) w1) ao fo uo ho xo) H := hP
    have hD : va_D A (ow D q n P rw a kn an lw s1 sd (upd kd rw wh) (upd (upd (upd pa (7 * rw + 0) 0) (7 * rw + 1) 0) (7 * rw + 2) 0) (vp_updL (vp_updL wd (2 * rw) w0) (2 * rw + 1) w1) ao fo uo ho xo) := hD
    refine lv_iinc (v := 3) hx hb d_O_add_75 hl (k := 0) rfl (by decide) (by decide) rfl (fun ls hl => ?_)
    have hl : lv_has ls 7 [(6, .int 3), (0, .ref (q 0)), (1, .int wh), (2, .long w0), (4, .long w1)] := hl
    refine lv_goto (tgt := 52) hx hb d_O_add_78 (by decide) ?_
    refine lv_iload hx hb d_O_add_52 (lv_at hl 0 rfl) ?_
    refine lv_bipush (v := 7) hx hb d_O_add_54 (by decide) ?_
    refine lv_icmp_ge (tgt := 81) hx hb d_O_add_56 (by decide) (fun h => absurd h (by decide)) (fun _ => ?_)
    refine lv_aload_n hx hb d_O_add_59 rfl (lv_at hl 1 rfl) ?_
    refine va_get (D := D) (ci := 1) (v := .ref (q 5)) (C := R_O) (T := T_O) (N := 17) hx hb hA inA_O hown hK hP 0 rfl rfl 7 (by decide) (hA _ wd_429) (fun _ h9 => h9) rfl d_O_add_60 ?_
    refine lv_bipush (v := 7) hx hb d_O_add_63 (by decide) ?_
    refine lv_aload_n hx hb d_O_add_65 rfl (lv_at hl 1 rfl) ?_
    refine va_get (D := D) (ci := 1) (v := .int (nI rw)) (C := R_O) (T := T_O) (N := 17) hx hb hA inA_O hown hK hP 0 rfl rfl 5 (by decide) (hA _ wd_427) (fun _ h9 => h9) rfl d_O_add_66 ?_
    refine lv_imul hx hb d_O_add_69 ?_
    refine lv_iload hx hb d_O_add_70 (lv_at hl 0 rfl) ?_
    refine lv_iadd hx hb d_O_add_72 ?_
    refine topi_to (v := nI (7 * rw + 3)) (by rw [← nI_add, ← pk_mul]; rfl) ?_
    refine lv_iconst (v := 0) hx hb d_O_add_73 (by decide) ?_
    refine xi_ast hx hb hK hP hD hS 5 rfl (by have := ne12 h6 hrw; omega) (by decide) d_O_add_74 (fun H locs hP hD hS => ?_)
    have hP : va_P D vwCl (ow D q n P rw a kn an lw s1 sd (upd kd rw wh) (upd (upd (upd (upd pa (7 * rw + 0) 0) (7 * rw + 1) 0) (7 * rw + 2) 0) (7 * rw + 3) 0) (vp_updL (vp_updL wd (2 * rw) w0) (2 * rw + 1) w1) ao fo uo ho xo) H := hP
    have hD : va_D A (ow D q n P rw a kn an lw s1 sd (upd kd rw wh) (upd (upd (upd (upd pa (7 * rw + 0) 0) (7 * rw + 1) 0) (7 * rw + 2) 0) (7 * rw + 3) 0) (vp_updL (vp_updL wd (2 * rw) w0) (2 * rw + 1) w1) ao fo uo ho xo) := hD
    refine lv_iinc (v := 4) hx hb d_O_add_75 hl (k := 0) rfl (by decide) (by decide) rfl (fun ls hl => ?_)
    have hl : lv_has ls 7 [(6, .int 4), (0, .ref (q 0)), (1, .int wh), (2, .long w0), (4, .long w1)] := hl
    refine lv_goto (tgt := 52) hx hb d_O_add_78 (by decide) ?_
    refine lv_iload hx hb d_O_add_52 (lv_at hl 0 rfl) ?_
    refine lv_bipush (v := 7) hx hb d_O_add_54 (by decide) ?_
    refine lv_icmp_ge (tgt := 81) hx hb d_O_add_56 (by decide) (fun h => absurd h (by decide)) (fun _ => ?_)
    refine lv_aload_n hx hb d_O_add_59 rfl (lv_at hl 1 rfl) ?_
    refine va_get (D := D) (ci := 1) (v := .ref (q 5)) (C := R_O) (T := T_O) (N := 17) hx hb hA inA_O hown hK hP 0 rfl rfl 7 (by decide) (hA _ wd_429) (fun _ h9 => h9) rfl d_O_add_60 ?_
    refine lv_bipush (v := 7) hx hb d_O_add_63 (by decide) ?_
    refine lv_aload_n hx hb d_O_add_65 rfl (lv_at hl 1 rfl) ?_
    refine va_get (D := D) (ci := 1) (v := .int (nI rw)) (C := R_O) (T := T_O) (N := 17) hx hb hA inA_O hown hK hP 0 rfl rfl 5 (by decide) (hA _ wd_427) (fun _ h9 => h9) rfl d_O_add_66 ?_
    refine lv_imul hx hb d_O_add_69 ?_
    refine lv_iload hx hb d_O_add_70 (lv_at hl 0 rfl) ?_
    refine lv_iadd hx hb d_O_add_72 ?_
    refine topi_to (v := nI (7 * rw + 4)) (by rw [← nI_add, ← pk_mul]; rfl) ?_
    refine lv_iconst (v := 0) hx hb d_O_add_73 (by decide) ?_
    refine xi_ast hx hb hK hP hD hS 5 rfl (by have := ne12 h6 hrw; omega) (by decide) d_O_add_74 (fun H locs hP hD hS => ?_)
    have hP : va_P D vwCl (ow D q n P rw a kn an lw s1 sd (upd kd rw wh) (upd (upd (upd (upd (upd pa (7 * rw + 0) 0) (7 * rw + 1) 0) (7 * rw + 2) 0) (7 * rw + 3) 0) (7 * rw + 4) 0) (vp_updL (vp_updL wd (2 * rw) w0) (2 * rw + 1) w1) ao fo uo ho xo) H := hP
    have hD : va_D A (ow D q n P rw a kn an lw s1 sd (upd kd rw wh) (upd (upd (upd (upd (upd pa (7 * rw + 0) 0) (7 * rw + 1) 0) (7 * rw + 2) 0) (7 * rw + 3) 0) (7 * rw + 4) 0) (vp_updL (vp_updL wd (2 * rw) w0) (2 * rw + 1) w1) ao fo uo ho xo) := hD
    refine lv_iinc (v := 5) hx hb d_O_add_75 hl (k := 0) rfl (by decide) (by decide) rfl (fun ls hl => ?_)
    have hl : lv_has ls 7 [(6, .int 5), (0, .ref (q 0)), (1, .int wh), (2, .long w0), (4, .long w1)] := hl
    refine lv_goto (tgt := 52) hx hb d_O_add_78 (by decide) ?_
    refine lv_iload hx hb d_O_add_52 (lv_at hl 0 rfl) ?_
    refine lv_bipush (v := 7) hx hb d_O_add_54 (by decide) ?_
    refine lv_icmp_ge (tgt := 81) hx hb d_O_add_56 (by decide) (fun h => absurd h (by decide)) (fun _ => ?_)
    refine lv_aload_n hx hb d_O_add_59 rfl (lv_at hl 1 rfl) ?_
    refine va_get (D := D) (ci := 1) (v := .ref (q 5)) (C := R_O) (T := T_O) (N := 17) hx hb hA inA_O hown hK hP 0 rfl rfl 7 (by decide) (hA _ wd_429) (fun _ h9 => h9) rfl d_O_add_60 ?_
    refine lv_bipush (v := 7) hx hb d_O_add_63 (by decide) ?_
    refine lv_aload_n hx hb d_O_add_65 rfl (lv_at hl 1 rfl) ?_
    refine va_get (D := D) (ci := 1) (v := .int (nI rw)) (C := R_O) (T := T_O) (N := 17) hx hb hA inA_O hown hK hP 0 rfl rfl 5 (by decide) (hA _ wd_427) (fun _ h9 => h9) rfl d_O_add_66 ?_
    refine lv_imul hx hb d_O_add_69 ?_
    refine lv_iload hx hb d_O_add_70 (lv_at hl 0 rfl) ?_
    refine lv_iadd hx hb d_O_add_72 ?_
    refine topi_to (v := nI (7 * rw + 5)) (by rw [← nI_add, ← pk_mul]; rfl) ?_
    refine lv_iconst (v := 0) hx hb d_O_add_73 (by decide) ?_
    refine xi_ast hx hb hK hP hD hS 5 rfl (by have := ne12 h6 hrw; omega) (by decide) d_O_add_74 (fun H locs hP hD hS => ?_)
    have hP : va_P D vwCl (ow D q n P rw a kn an lw s1 sd (upd kd rw wh) (upd (upd (upd (upd (upd (upd pa (7 * rw + 0) 0) (7 * rw + 1) 0) (7 * rw + 2) 0) (7 * rw + 3) 0) (7 * rw + 4) 0) (7 * rw + 5) 0) (vp_updL (vp_updL wd (2 * rw) w0) (2 * rw + 1) w1) ao fo uo ho xo) H := hP
    have hD : va_D A (ow D q n P rw a kn an lw s1 sd (upd kd rw wh) (upd (upd (upd (upd (upd (upd pa (7 * rw + 0) 0) (7 * rw + 1) 0) (7 * rw + 2) 0) (7 * rw + 3) 0) (7 * rw + 4) 0) (7 * rw + 5) 0) (vp_updL (vp_updL wd (2 * rw) w0) (2 * rw + 1) w1) ao fo uo ho xo) := hD
    refine lv_iinc (v := 6) hx hb d_O_add_75 hl (k := 0) rfl (by decide) (by decide) rfl (fun ls hl => ?_)
    have hl : lv_has ls 7 [(6, .int 6), (0, .ref (q 0)), (1, .int wh), (2, .long w0), (4, .long w1)] := hl
    refine lv_goto (tgt := 52) hx hb d_O_add_78 (by decide) ?_
    refine lv_iload hx hb d_O_add_52 (lv_at hl 0 rfl) ?_
    refine lv_bipush (v := 7) hx hb d_O_add_54 (by decide) ?_
    refine lv_icmp_ge (tgt := 81) hx hb d_O_add_56 (by decide) (fun h => absurd h (by decide)) (fun _ => ?_)
    refine lv_aload_n hx hb d_O_add_59 rfl (lv_at hl 1 rfl) ?_
    refine va_get (D := D) (ci := 1) (v := .ref (q 5)) (C := R_O) (T := T_O) (N := 17) hx hb hA inA_O hown hK hP 0 rfl rfl 7 (by decide) (hA _ wd_429) (fun _ h9 => h9) rfl d_O_add_60 ?_
    refine lv_bipush (v := 7) hx hb d_O_add_63 (by decide) ?_
    refine lv_aload_n hx hb d_O_add_65 rfl (lv_at hl 1 rfl) ?_
    refine va_get (D := D) (ci := 1) (v := .int (nI rw)) (C := R_O) (T := T_O) (N := 17) hx hb hA inA_O hown hK hP 0 rfl rfl 5 (by decide) (hA _ wd_427) (fun _ h9 => h9) rfl d_O_add_66 ?_
    refine lv_imul hx hb d_O_add_69 ?_
    refine lv_iload hx hb d_O_add_70 (lv_at hl 0 rfl) ?_
    refine lv_iadd hx hb d_O_add_72 ?_
    refine topi_to (v := nI (7 * rw + 6)) (by rw [← nI_add, ← pk_mul]; rfl) ?_
    refine lv_iconst (v := 0) hx hb d_O_add_73 (by decide) ?_
    refine xi_ast hx hb hK hP hD hS 5 rfl (by have := ne12 h6 hrw; omega) (by decide) d_O_add_74 (fun H locs hP hD hS => ?_)
    have hP : va_P D vwCl (ow D q n P rw a kn an lw s1 sd (upd kd rw wh) (upd (upd (upd (upd (upd (upd (upd pa (7 * rw + 0) 0) (7 * rw + 1) 0) (7 * rw + 2) 0) (7 * rw + 3) 0) (7 * rw + 4) 0) (7 * rw + 5) 0) (7 * rw + 6) 0) (vp_updL (vp_updL wd (2 * rw) w0) (2 * rw + 1) w1) ao fo uo ho xo) H := hP
    have hD : va_D A (ow D q n P rw a kn an lw s1 sd (upd kd rw wh) (upd (upd (upd (upd (upd (upd (upd pa (7 * rw + 0) 0) (7 * rw + 1) 0) (7 * rw + 2) 0) (7 * rw + 3) 0) (7 * rw + 4) 0) (7 * rw + 5) 0) (7 * rw + 6) 0) (vp_updL (vp_updL wd (2 * rw) w0) (2 * rw + 1) w1) ao fo uo ho xo) := hD
    refine lv_iinc (v := 7) hx hb d_O_add_75 hl (k := 0) rfl (by decide) (by decide) rfl (fun ls hl => ?_)
    have hl : lv_has ls 7 [(6, .int 7), (0, .ref (q 0)), (1, .int wh), (2, .long w0), (4, .long w1)] := hl
    refine lv_goto (tgt := 52) hx hb d_O_add_78 (by decide) ?_
    refine lv_iload hx hb d_O_add_52 (lv_at hl 0 rfl) ?_
    refine lv_bipush (v := 7) hx hb d_O_add_54 (by decide) ?_
    refine lv_icmp_ge (tgt := 81) hx hb d_O_add_56 (by decide) (fun _ => ?_) (fun h => absurd h (by decide))
    refine lv_aload_n hx hb d_O_add_81 rfl (lv_at hl 1 rfl) ?_
    refine lv_dup hx hb d_O_add_82 rfl ?_
    refine va_get (D := D) (ci := 1) (v := .int (nI rw)) (C := R_O) (T := T_O) (N := 17) hx hb hA inA_O hown hK hP 0 rfl rfl 5 (by decide) (hA _ wd_427) (fun _ h9 => h9) rfl d_O_add_83 ?_
    refine lv_iconst (v := 1) hx hb d_O_add_86 (by decide) ?_
    refine lv_iadd hx hb d_O_add_87 ?_
    refine topi_to (v := nI (rw + 1)) ((nI_succ rw).symm) ?_
    refine va_put (D := D) (ci := 1) (v := .int (nI (rw + 1))) (ty := .int) (C := R_O) (T := T_O) (N := 17) hx hb hA inA_O ty_O tok_O nm_O hown hK hP hD hS 0 rfl rfl 5 (by decide) (hA _ wd_427) (fun _ h9 => h9) rfl (by decide +kernel) (by first | rfl | decide) (by first | rfl | decide) (Nat.le_of_ble_eq_true rfl) d_O_add_88 (fun H locs hP hD hS => ?_)
    have hP : va_P D vwCl (ow D q n P (rw + 1) a kn an lw s1 sd (upd kd rw wh) (upd (upd (upd (upd (upd (upd (upd pa (7 * rw + 0) 0) (7 * rw + 1) 0) (7 * rw + 2) 0) (7 * rw + 3) 0) (7 * rw + 4) 0) (7 * rw + 5) 0) (7 * rw + 6) 0) (vp_updL (vp_updL wd (2 * rw) w0) (2 * rw + 1) w1) ao fo uo ho xo) H := hP
    have hD : va_D A (ow D q n P (rw + 1) a kn an lw s1 sd (upd kd rw wh) (upd (upd (upd (upd (upd (upd (upd pa (7 * rw + 0) 0) (7 * rw + 1) 0) (7 * rw + 2) 0) (7 * rw + 3) 0) (7 * rw + 4) 0) (7 * rw + 5) 0) (7 * rw + 6) 0) (vp_updL (vp_updL wd (2 * rw) w0) (2 * rw + 1) w1) ao fo uo ho xo) := hD
    refine lv_aload_n hx hb d_O_add_91 rfl (lv_at hl 1 rfl) ?_
    refine wVv (n := 0) (wr := []) (Wf := oW D q) (rest := []) hx hb hml hown hA (o_changed l D q n P (rw + 1) a kn an lw s1 sd (upd kd rw wh) (upd (upd (upd (upd (upd (upd (upd pa (7 * rw + 0) 0) (7 * rw + 1) 0) (7 * rw + 2) 0) (7 * rw + 3) 0) (7 * rw + 4) 0) (7 * rw + 5) 0) (7 * rw + 6) 0) (vp_updL (vp_updL wd (2 * rw) w0) (2 * rw + 1) w1) ao fo uo ho xo _) wv_O_63 ⟨by decide, by decide, by decide +kernel⟩ ⟨rfl, rfl, by decide, by decide⟩ rfl hl.1 ⟨Nat.le_of_ble_eq_true rfl, Nat.le_of_ble_eq_true rfl⟩ hP hK hD hS hAA hN [0, 1, 2, 3, 4, 5, 6, 7, 8, 9, 10, 11] [] rfl rfl (by decide) (by decide) (by decide) 0 1 rfl rfl rfl (Nat.le_of_ble_eq_true rfl) d_O_add_92 (fun u H locs hu hP hD hS => ?_)
    subst hu
    have hP : va_P D vwCl (ow D q n P (rw + 1) a 0 (-1) lw s1 sd (upd kd rw wh) (upd (upd (upd (upd (upd (upd (upd pa (7 * rw + 0) 0) (7 * rw + 1) 0) (7 * rw + 2) 0) (7 * rw + 3) 0) (7 * rw + 4) 0) (7 * rw + 5) 0) (7 * rw + 6) 0) (vp_updL (vp_updL wd (2 * rw) w0) (2 * rw + 1) w1) ao fo uo ho xo) H := hP
    have hD : va_D A (ow D q n P (rw + 1) a 0 (-1) lw s1 sd (upd kd rw wh) (upd (upd (upd (upd (upd (upd (upd pa (7 * rw + 0) 0) (7 * rw + 1) 0) (7 * rw + 2) 0) (7 * rw + 3) 0) (7 * rw + 4) 0) (7 * rw + 5) 0) (7 * rw + 6) 0) (vp_updL (vp_updL wd (2 * rw) w0) (2 * rw + 1) w1) ao fo uo ho xo) := hD
    refine lv_aload_n hx hb d_O_add_95 rfl (lv_at hl 1 rfl) ?_
    refine va_get (D := D) (ci := 1) (v := .int (nI (rw + 1))) (C := R_O) (T := T_O) (N := 17) hx hb hA inA_O hown hK hP 0 rfl rfl 5 (by decide) (hA _ wd_427) (fun _ h9 => h9) rfl d_O_add_96 ?_
    refine lv_iconst (v := 1) hx hb d_O_add_99 (by decide) ?_
    refine lv_isub hx hb d_O_add_100 ?_
    refine topi_to (v := nI rw) (nI_pred rw) ?_
    exact eWi (n, P, (rw + 1), a, 0, -1, lw, s1, sd, upd kd rw wh, upd (upd (upd (upd (upd (upd (upd pa (7 * rw + 0) 0) (7 * rw + 1) 0) (7 * rw + 2) 0) (7 * rw + 3) 0) (7 * rw + 4) 0) (7 * rw + 5) 0) (7 * rw + 6) 0, vp_updL (vp_updL wd (2 * rw) w0) (2 * rw + 1) w1, ao, fo, uo, ho, xo) hx hb hr hlocks hP hK hD hS (Or.inr ⟨ne12 h6 hrw, rfl, rfl⟩) d_O_add_101
  · skip
    refine lv_bipush (v := (-2)) hx hb d_O_add_9 (by decide) ?_
    exact eWi (n, P, rw, a, kn, an, lw, s1, sd, kd, pa, wd, ao, fo, uo, ho, xo) hx hb hr hlocks hP hK hD hS (Or.inl ⟨fun h => absurd (nI_ne (b := 12) h6 (by omega) (by decide)) (by omega), rfl, rfl⟩) d_O_add_11
end
end
section
section
theorem ws_O_isPart : Cond.selects R_O y_O_isPart y_O_isPart ∈ cA := cA_in (List.mem_append_left _ (List.mem_of_getElem? (i := 14) (by decide +kernel))) rfl
theorem ws_O_add : Cond.selects R_O y_O_add y_O_add ∈ cA := cA_in (List.mem_append_left _ (List.mem_of_getElem? (i := 16) (by decide +kernel))) rfl
theorem ws_O_set : Cond.selects R_O y_O_set y_O_set ∈ cA := cA_in (List.mem_append_left _ (List.mem_of_getElem? (i := 17) (by decide +kernel))) rfl
theorem wv_O_69 : Cond.code y_O_isPart b_O_isPart 2 (some .boolean) ∈ cA ∧ Cond.initialized y_O_isPart.cls ∈ cA ∧ Cond.methodLink R_O 69 y_O_isPart ∈ cA ∧ Cond.instanceMethod y_O_isPart ∈ cA ∧ Cond.selects y_O_isPart.cls y_O_isPart y_O_isPart ∈ cA := ⟨wd_491, wd_3, wd_488, wd_490, ws_O_isPart⟩
theorem wv_O_72 : Cond.code y_O_within b_O_within 3 (some .boolean) ∈ cA ∧ Cond.initialized y_O_within.cls ∈ cA ∧ Cond.methodLink R_O 72 y_O_within ∈ cA ∧ Cond.static y_O_within ∈ cA := ⟨wd_498, wd_3, wd_496, wd_497⟩
theorem wv_O_76 : Cond.code y_O_add b_O_add 7 (some .int) ∈ cA ∧ Cond.initialized y_O_add.cls ∈ cA ∧ Cond.methodLink R_O 76 y_O_add ∈ cA ∧ Cond.instanceMethod y_O_add ∈ cA ∧ Cond.selects y_O_add.cls y_O_add y_O_add ∈ cA := ⟨wd_502, wd_3, wd_499, wd_501, ws_O_add⟩
theorem wv_O_80 : Cond.code y_O_set b_O_set 4 none ∈ cA ∧ Cond.initialized y_O_set.cls ∈ cA ∧ Cond.methodLink R_O 80 y_O_set ∈ cA ∧ Cond.instanceMethod y_O_set ∈ cA ∧ Cond.selects y_O_set.cls y_O_set y_O_set ∈ cA := ⟨wd_506, wd_3, wd_503, wd_505, ws_O_set⟩
theorem d_O_linear_0 : decode b_O_linear 0 = .ok (.aload_n 0, 1) := by decide +kernel
theorem d_O_linear_1 : decode b_O_linear 1 = .ok (.iload_n 1, 1) := by decide +kernel
theorem d_O_linear_2 : decode b_O_linear 2 = .ok (.invokevirtual 69, 3) := by decide +kernel
theorem d_O_linear_5 : decode b_O_linear 5 = .ok (.ifCond .eq 73, 3) := by decide +kernel
theorem d_O_linear_8 : decode b_O_linear 8 = .ok (.aload_n 0, 1) := by decide +kernel
theorem d_O_linear_9 : decode b_O_linear 9 = .ok (.iload_n 3, 1) := by decide +kernel
theorem d_O_linear_10 : decode b_O_linear 10 = .ok (.invokevirtual 69, 3) := by decide +kernel
theorem d_O_linear_13 : decode b_O_linear 13 = .ok (.ifCond .eq 65, 3) := by decide +kernel
theorem d_O_linear_16 : decode b_O_linear 16 = .ok (.aload_n 0, 1) := by decide +kernel
theorem d_O_linear_17 : decode b_O_linear 17 = .ok (.iload 5, 2) := by decide +kernel
theorem d_O_linear_19 : decode b_O_linear 19 = .ok (.invokevirtual 69, 3) := by decide +kernel
theorem d_O_linear_22 : decode b_O_linear 22 = .ok (.ifCond .eq 56, 3) := by decide +kernel
theorem d_O_linear_25 : decode b_O_linear 25 = .ok (.iload_n 2, 1) := by decide +kernel
theorem d_O_linear_26 : decode b_O_linear 26 = .ok (.bipush (-9), 2) := by decide +kernel
theorem d_O_linear_28 : decode b_O_linear 28 = .ok (.bipush 9, 2) := by decide +kernel
theorem d_O_linear_30 : decode b_O_linear 30 = .ok (.invokestatic 72, 3) := by decide +kernel
theorem d_O_linear_33 : decode b_O_linear 33 = .ok (.ifCond .eq 45, 3) := by decide +kernel
theorem d_O_linear_36 : decode b_O_linear 36 = .ok (.iload 4, 2) := by decide +kernel
theorem d_O_linear_38 : decode b_O_linear 38 = .ok (.bipush (-9), 2) := by decide +kernel
theorem d_O_linear_40 : decode b_O_linear 40 = .ok (.bipush 9, 2) := by decide +kernel
theorem d_O_linear_42 : decode b_O_linear 42 = .ok (.invokestatic 72, 3) := by decide +kernel
theorem d_O_linear_45 : decode b_O_linear 45 = .ok (.ifCond .eq 33, 3) := by decide +kernel
theorem d_O_linear_48 : decode b_O_linear 48 = .ok (.iload 6, 2) := by decide +kernel
theorem d_O_linear_50 : decode b_O_linear 50 = .ok (.bipush (-9), 2) := by decide +kernel
theorem d_O_linear_52 : decode b_O_linear 52 = .ok (.bipush 9, 2) := by decide +kernel
theorem d_O_linear_54 : decode b_O_linear 54 = .ok (.invokestatic 72, 3) := by decide +kernel
theorem d_O_linear_57 : decode b_O_linear 57 = .ok (.ifCond .eq 21, 3) := by decide +kernel
theorem d_O_linear_60 : decode b_O_linear 60 = .ok (.iload 7, 2) := by decide +kernel
theorem d_O_linear_62 : decode b_O_linear 62 = .ok (.sipush (-1000), 3) := by decide +kernel
theorem d_O_linear_65 : decode b_O_linear 65 = .ok (.sipush 1000, 3) := by decide +kernel
theorem d_O_linear_68 : decode b_O_linear 68 = .ok (.invokestatic 72, 3) := by decide +kernel
theorem d_O_linear_71 : decode b_O_linear 71 = .ok (.ifCond .eq 7, 3) := by decide +kernel
theorem d_O_linear_74 : decode b_O_linear 74 = .ok (.iconst 1, 1) := by decide +kernel
theorem d_O_linear_75 : decode b_O_linear 75 = .ok (.goto 4, 3) := by decide +kernel
theorem d_O_linear_78 : decode b_O_linear 78 = .ok (.iconst 0, 1) := by decide +kernel
theorem d_O_linear_79 : decode b_O_linear 79 = .ok (.istore 8, 2) := by decide +kernel
theorem d_O_linear_81 : decode b_O_linear 81 = .ok (.iload 8, 2) := by decide +kernel
theorem d_O_linear_83 : decode b_O_linear 83 = .ok (.ifCond .ne 5, 3) := by decide +kernel
theorem d_O_linear_86 : decode b_O_linear 86 = .ok (.iconst (-1), 1) := by decide +kernel
theorem d_O_linear_87 : decode b_O_linear 87 = .ok (.ireturn, 1) := by decide +kernel
theorem d_O_linear_88 : decode b_O_linear 88 = .ok (.aload_n 0, 1) := by decide +kernel
theorem d_O_linear_89 : decode b_O_linear 89 = .ok (.iconst 0, 1) := by decide +kernel
theorem d_O_linear_90 : decode b_O_linear 90 = .ok (.lconst 0, 1) := by decide +kernel
theorem d_O_linear_91 : decode b_O_linear 91 = .ok (.lconst 0, 1) := by decide +kernel
theorem d_O_linear_92 : decode b_O_linear 92 = .ok (.invokevirtual 76, 3) := by decide +kernel
theorem d_O_linear_95 : decode b_O_linear 95 = .ok (.istore 9, 2) := by decide +kernel
theorem d_O_linear_97 : decode b_O_linear 97 = .ok (.iload 9, 2) := by decide +kernel
theorem d_O_linear_99 : decode b_O_linear 99 = .ok (.ifCond .lt 64, 3) := by decide +kernel
theorem d_O_linear_102 : decode b_O_linear 102 = .ok (.aload_n 0, 1) := by decide +kernel
theorem d_O_linear_103 : decode b_O_linear 103 = .ok (.iload 9, 2) := by decide +kernel
theorem d_O_linear_105 : decode b_O_linear 105 = .ok (.iconst 0, 1) := by decide +kernel
theorem d_O_linear_106 : decode b_O_linear 106 = .ok (.iload_n 1, 1) := by decide +kernel
theorem d_O_linear_107 : decode b_O_linear 107 = .ok (.invokevirtual 80, 3) := by decide +kernel
theorem d_O_linear_110 : decode b_O_linear 110 = .ok (.aload_n 0, 1) := by decide +kernel
theorem d_O_linear_111 : decode b_O_linear 111 = .ok (.iload 9, 2) := by decide +kernel
theorem d_O_linear_113 : decode b_O_linear 113 = .ok (.iconst 1, 1) := by decide +kernel
theorem d_O_linear_114 : decode b_O_linear 114 = .ok (.iload_n 2, 1) := by decide +kernel
theorem d_O_linear_115 : decode b_O_linear 115 = .ok (.invokevirtual 80, 3) := by decide +kernel
theorem d_O_linear_118 : decode b_O_linear 118 = .ok (.aload_n 0, 1) := by decide +kernel
theorem d_O_linear_119 : decode b_O_linear 119 = .ok (.iload 9, 2) := by decide +kernel
theorem d_O_linear_121 : decode b_O_linear 121 = .ok (.iconst 2, 1) := by decide +kernel
theorem d_O_linear_122 : decode b_O_linear 122 = .ok (.iload_n 3, 1) := by decide +kernel
theorem d_O_linear_123 : decode b_O_linear 123 = .ok (.invokevirtual 80, 3) := by decide +kernel
theorem d_O_linear_126 : decode b_O_linear 126 = .ok (.aload_n 0, 1) := by decide +kernel
theorem d_O_linear_127 : decode b_O_linear 127 = .ok (.iload 9, 2) := by decide +kernel
theorem d_O_linear_129 : decode b_O_linear 129 = .ok (.iconst 3, 1) := by decide +kernel
theorem d_O_linear_130 : decode b_O_linear 130 = .ok (.iload 4, 2) := by decide +kernel
theorem d_O_linear_132 : decode b_O_linear 132 = .ok (.invokevirtual 80, 3) := by decide +kernel
theorem d_O_linear_135 : decode b_O_linear 135 = .ok (.aload_n 0, 1) := by decide +kernel
theorem d_O_linear_136 : decode b_O_linear 136 = .ok (.iload 9, 2) := by decide +kernel
theorem d_O_linear_138 : decode b_O_linear 138 = .ok (.iconst 4, 1) := by decide +kernel
theorem d_O_linear_139 : decode b_O_linear 139 = .ok (.iload 5, 2) := by decide +kernel
theorem d_O_linear_141 : decode b_O_linear 141 = .ok (.invokevirtual 80, 3) := by decide +kernel
theorem d_O_linear_144 : decode b_O_linear 144 = .ok (.aload_n 0, 1) := by decide +kernel
theorem d_O_linear_145 : decode b_O_linear 145 = .ok (.iload 9, 2) := by decide +kernel
theorem d_O_linear_147 : decode b_O_linear 147 = .ok (.iconst 5, 1) := by decide +kernel
theorem d_O_linear_148 : decode b_O_linear 148 = .ok (.iload 6, 2) := by decide +kernel
theorem d_O_linear_150 : decode b_O_linear 150 = .ok (.invokevirtual 80, 3) := by decide +kernel
theorem d_O_linear_153 : decode b_O_linear 153 = .ok (.aload_n 0, 1) := by decide +kernel
theorem d_O_linear_154 : decode b_O_linear 154 = .ok (.iload 9, 2) := by decide +kernel
theorem d_O_linear_156 : decode b_O_linear 156 = .ok (.bipush 6, 2) := by decide +kernel
theorem d_O_linear_158 : decode b_O_linear 158 = .ok (.iload 7, 2) := by decide +kernel
theorem d_O_linear_160 : decode b_O_linear 160 = .ok (.invokevirtual 80, 3) := by decide +kernel
theorem d_O_linear_163 : decode b_O_linear 163 = .ok (.iload 9, 2) := by decide +kernel
theorem d_O_linear_165 : decode b_O_linear 165 = .ok (.ireturn, 1) := by decide +kernel
set_option maxRecDepth 100000 in
set_option maxHeartbeats 4000000 in
theorem o_linear (l : Launch) (D : va_G) (q : Nat → Nat) (n P rw a : Nat) (kn an : Int32) (lw s1 sd kd pa : Nat → Int32) (wd : Nat → Int64) (ao fo uo ho xo : Nat → Int32) (i fa j fb v fc bd : Int32) (sz : Nat) (hrw : rw ≤ 12) : Met l y_O_linear (wsm y_O_linear b_O_linear 10 (some .int)) { frames := 2, cells := 0, slots := 0, locals := 46 } (va_Pc [.ref (q 0), .int i, .int fa, .int j, .int fb, .int v, .int fc, .int bd] (fun U => U.heap.size = sz ∧ cPre D (ow D q n P rw a kn an lw s1 sd kd pa wd ao fo uo ho xo) U)) (va_Qi (fun (r : Int32) (u : OS) => (¬ (iva n i ∧ iva n j ∧ iva n v ∧ wi3 fa (-9) 9 ∧ wi3 fb (-9) 9 ∧ wi3 fc (-9) 9 ∧ wi3 bd (-1000) 1000) ∧ r = -1 ∧ u = (n, P, rw, a, kn, an, lw, s1, sd, kd, pa, wd, ao, fo, uo, ho, xo)) ∨ ((iva n i ∧ iva n j ∧ iva n v ∧ wi3 fa (-9) 9 ∧ wi3 fb (-9) 9 ∧ wi3 fc (-9) 9 ∧ wi3 bd (-1000) 1000) ∧ ((¬ rw < 12 ∧ r = -2 ∧ u = (n, P, rw, a, kn, an, lw, s1, sd, kd, pa, wd, ao, fo, uo, ho, xo)) ∨ (rw < 12 ∧ r = nI rw ∧ u = (n, P, rw + 1, a, 0, -1, lw, s1, sd, upd kd rw 0, upd (upd (upd (upd (upd (upd (upd (clr7 pa rw) (7 * rw + 0) i) (7 * rw + 1) fa) (7 * rw + 2) j) (7 * rw + 3) fb) (7 * rw + 4) v) (7 * rw + 5) fc) (7 * rw + 6) bd, vp_updL (vp_updL wd (2 * rw) 0) (2 * rw + 1) 0, ao, fo, uo, ho, xo))))) (fun u t => xB D (oW D q u) (va_A (ow D q n P rw a kn an lw s1 sd kd pa wd ao fo uo ho xo) sz) t) (va_A (ow D q n P rw a kn an lw s1 sd kd pa wd ao fo uo ho xo) sz)) 0 0 (va_A (ow D q n P rw a kn an lw s1 sd kd pa wd ao fo uo ho xo) sz) := by
  refine met_W (Qf := fun A => va_Qi (fun (r : Int32) (u : OS) => (¬ (iva n i ∧ iva n j ∧ iva n v ∧ wi3 fa (-9) 9 ∧ wi3 fb (-9) 9 ∧ wi3 fc (-9) 9 ∧ wi3 bd (-1000) 1000) ∧ r = -1 ∧ u = (n, P, rw, a, kn, an, lw, s1, sd, kd, pa, wd, ao, fo, uo, ho, xo)) ∨ ((iva n i ∧ iva n j ∧ iva n v ∧ wi3 fa (-9) 9 ∧ wi3 fb (-9) 9 ∧ wi3 fc (-9) 9 ∧ wi3 bd (-1000) 1000) ∧ ((¬ rw < 12 ∧ r = -2 ∧ u = (n, P, rw, a, kn, an, lw, s1, sd, kd, pa, wd, ao, fo, uo, ho, xo)) ∨ (rw < 12 ∧ r = nI rw ∧ u = (n, P, rw + 1, a, 0, -1, lw, s1, sd, upd kd rw 0, upd (upd (upd (upd (upd (upd (upd (clr7 pa rw) (7 * rw + 0) i) (7 * rw + 1) fa) (7 * rw + 2) j) (7 * rw + 3) fb) (7 * rw + 4) v) (7 * rw + 5) fc) (7 * rw + 6) bd, vp_updL (vp_updL wd (2 * rw) 0) (2 * rw + 1) 0, ao, fo, uo, ho, xo))))) (fun u t => xB D (oW D q u) A t) A) (by decide) (Nat.le_of_ble_eq_true rfl) ?_
  intro p e s m below meth c ls A hx hb hr hlocks hml hown hin hA hP hK hD hN hl hS hAA
  have hown : s.vm.findClass R_O = some m.cls := hown
  have hl : lv_has ls 10 [(0, .ref (q 0)), (1, .int i), (2, .int fa), (3, .int j), (4, .int fb), (5, .int v), (6, .int fc), (7, .int bd)] := hl
  refine lv_aload_n hx hb d_O_linear_0 rfl (lv_at hl 0 rfl) ?_
  refine lv_iload_n hx hb d_O_linear_1 rfl (lv_at hl 1 rfl) ?_
  refine rV (n := 1) (rest := []) hx hb hml hown hA (o_isPart l D q n P rw a kn an lw s1 sd kd pa wd ao fo uo ho xo i) wv_O_69 ⟨by decide, by decide, by decide +kernel⟩ ⟨rfl, rfl, by decide, by decide⟩ rfl hl.1 ⟨Nat.le_of_ble_eq_true rfl, Nat.le_of_ble_eq_true rfl⟩ hP hK hD hN 0 1 rfl rfl rfl (Nat.le_of_ble_eq_true rfl) d_O_linear_2 (fun r hr9 => ?_)
  rcases zb_c hr9 with ⟨rfl, h2⟩ | ⟨rfl, h2⟩
  · skip
    refine lv_if_eq (tgt := 78) hx hb d_O_linear_5 (by decide) (fun h => absurd h (by decide)) (fun _ => ?_)
    refine lv_aload_n hx hb d_O_linear_8 rfl (lv_at hl 0 rfl) ?_
    refine lv_iload_n hx hb d_O_linear_9 rfl (lv_at hl 3 rfl) ?_
    refine rV (n := 1) (rest := []) hx hb hml hown hA (o_isPart l D q n P rw a kn an lw s1 sd kd pa wd ao fo uo ho xo j) wv_O_69 ⟨by decide, by decide, by decide +kernel⟩ ⟨rfl, rfl, by decide, by decide⟩ rfl hl.1 ⟨Nat.le_of_ble_eq_true rfl, Nat.le_of_ble_eq_true rfl⟩ hP hK hD hN 0 1 rfl rfl rfl (Nat.le_of_ble_eq_true rfl) d_O_linear_10 (fun r hr9 => ?_)
    rcases zb_c hr9 with ⟨rfl, h10⟩ | ⟨rfl, h10⟩
    · skip
      refine lv_if_eq (tgt := 78) hx hb d_O_linear_13 (by decide) (fun h => absurd h (by decide)) (fun _ => ?_)
      refine lv_aload_n hx hb d_O_linear_16 rfl (lv_at hl 0 rfl) ?_
      refine lv_iload hx hb d_O_linear_17 (lv_at hl 5 rfl) ?_
      refine rV (n := 1) (rest := []) hx hb hml hown hA (o_isPart l D q n P rw a kn an lw s1 sd kd pa wd ao fo uo ho xo v) wv_O_69 ⟨by decide, by decide, by decide +kernel⟩ ⟨rfl, rfl, by decide, by decide⟩ rfl hl.1 ⟨Nat.le_of_ble_eq_true rfl, Nat.le_of_ble_eq_true rfl⟩ hP hK hD hN 0 1 rfl rfl rfl (Nat.le_of_ble_eq_true rfl) d_O_linear_19 (fun r hr9 => ?_)
      rcases zb_c hr9 with ⟨rfl, h19⟩ | ⟨rfl, h19⟩
      · skip
        refine lv_if_eq (tgt := 78) hx hb d_O_linear_22 (by decide) (fun h => absurd h (by decide)) (fun _ => ?_)
        refine lv_iload_n hx hb d_O_linear_25 rfl (lv_at hl 2 rfl) ?_
        refine lv_bipush (v := (-9)) hx hb d_O_linear_26 (by decide) ?_
        refine lv_bipush (v := 9) hx hb d_O_linear_28 (by decide) ?_
        refine rS (n := 3) (rest := []) hx hb hml hown hA (o_within l D fa (-9) 9) wv_O_72 ⟨by decide, by decide, by decide +kernel⟩ ⟨rfl, rfl, by decide, by decide⟩ rfl hl.1 ⟨Nat.le_of_ble_eq_true rfl, Nat.le_of_ble_eq_true rfl⟩ (va_P.sub1 hP [] rfl) hK (va_D.sub hD [] rfl rfl) hN rfl (Nat.le_of_ble_eq_true rfl) d_O_linear_30 (fun r hr9 => ?_)
        rcases zb_c hr9 with ⟨rfl, h30⟩ | ⟨rfl, h30⟩
        · skip
          refine lv_if_eq (tgt := 78) hx hb d_O_linear_33 (by decide) (fun h => absurd h (by decide)) (fun _ => ?_)
          refine lv_iload hx hb d_O_linear_36 (lv_at hl 4 rfl) ?_
          refine lv_bipush (v := (-9)) hx hb d_O_linear_38 (by decide) ?_
          refine lv_bipush (v := 9) hx hb d_O_linear_40 (by decide) ?_
          refine rS (n := 3) (rest := []) hx hb hml hown hA (o_within l D fb (-9) 9) wv_O_72 ⟨by decide, by decide, by decide +kernel⟩ ⟨rfl, rfl, by decide, by decide⟩ rfl hl.1 ⟨Nat.le_of_ble_eq_true rfl, Nat.le_of_ble_eq_true rfl⟩ (va_P.sub1 hP [] rfl) hK (va_D.sub hD [] rfl rfl) hN rfl (Nat.le_of_ble_eq_true rfl) d_O_linear_42 (fun r hr9 => ?_)
          rcases zb_c hr9 with ⟨rfl, h42⟩ | ⟨rfl, h42⟩
          · skip
            refine lv_if_eq (tgt := 78) hx hb d_O_linear_45 (by decide) (fun h => absurd h (by decide)) (fun _ => ?_)
            refine lv_iload hx hb d_O_linear_48 (lv_at hl 6 rfl) ?_
            refine lv_bipush (v := (-9)) hx hb d_O_linear_50 (by decide) ?_
            refine lv_bipush (v := 9) hx hb d_O_linear_52 (by decide) ?_
            refine rS (n := 3) (rest := []) hx hb hml hown hA (o_within l D fc (-9) 9) wv_O_72 ⟨by decide, by decide, by decide +kernel⟩ ⟨rfl, rfl, by decide, by decide⟩ rfl hl.1 ⟨Nat.le_of_ble_eq_true rfl, Nat.le_of_ble_eq_true rfl⟩ (va_P.sub1 hP [] rfl) hK (va_D.sub hD [] rfl rfl) hN rfl (Nat.le_of_ble_eq_true rfl) d_O_linear_54 (fun r hr9 => ?_)
            rcases zb_c hr9 with ⟨rfl, h54⟩ | ⟨rfl, h54⟩
            · skip
              refine lv_if_eq (tgt := 78) hx hb d_O_linear_57 (by decide) (fun h => absurd h (by decide)) (fun _ => ?_)
              refine lv_iload hx hb d_O_linear_60 (lv_at hl 7 rfl) ?_
              refine lv_sipush (v := (-1000)) hx hb d_O_linear_62 (by decide) ?_
              refine lv_sipush (v := 1000) hx hb d_O_linear_65 (by decide) ?_
              refine rS (n := 3) (rest := []) hx hb hml hown hA (o_within l D bd (-1000) 1000) wv_O_72 ⟨by decide, by decide, by decide +kernel⟩ ⟨rfl, rfl, by decide, by decide⟩ rfl hl.1 ⟨Nat.le_of_ble_eq_true rfl, Nat.le_of_ble_eq_true rfl⟩ (va_P.sub1 hP [] rfl) hK (va_D.sub hD [] rfl rfl) hN rfl (Nat.le_of_ble_eq_true rfl) d_O_linear_68 (fun r hr9 => ?_)
              rcases zb_c hr9 with ⟨rfl, h68⟩ | ⟨rfl, h68⟩
              · skip
                refine lv_if_eq (tgt := 78) hx hb d_O_linear_71 (by decide) (fun h => absurd h (by decide)) (fun _ => ?_)
                refine lv_iconst (v := 1) hx hb d_O_linear_74 (by decide) ?_
                refine lv_goto (tgt := 79) hx hb d_O_linear_75 (by decide) ?_
                refine lv_istore hx hb d_O_linear_79 hl (by decide) rfl (fun ls hl => ?_)
                have hl : lv_has ls 10 [(8, .int 1), (0, .ref (q 0)), (1, .int i), (2, .int fa), (3, .int j), (4, .int fb), (5, .int v), (6, .int fc), (7, .int bd)] := hl
                refine lv_iload hx hb d_O_linear_81 (lv_at hl 0 rfl) ?_
                refine lv_if_ne (tgt := 88) hx hb d_O_linear_83 (by decide) (fun _ => ?_) (fun h => absurd h (by decide))
                refine lv_aload_n hx hb d_O_linear_88 rfl (lv_at hl 1 rfl) ?_
                refine lv_iconst (v := 0) hx hb d_O_linear_89 (by decide) ?_
                refine lv_lconst (v := 0) hx hb d_O_linear_90 (by decide) ?_
                refine lv_lconst (v := 0) hx hb d_O_linear_91 (by decide) ?_
                refine wVi (n := 3) (wr := []) (Wf := oW D q) (rest := []) hx hb hml hown hA (o_add l D q n P rw a kn an lw s1 sd kd pa wd ao fo uo ho xo 0 0 0 _ hrw) wv_O_76 ⟨by decide, by decide, by decide +kernel⟩ ⟨rfl, rfl, by decide, by decide⟩ rfl hl.1 ⟨Nat.le_of_ble_eq_true rfl, Nat.le_of_ble_eq_true rfl⟩ hP hK hD hS hAA hN [0, 1, 2, 3, 4, 5, 6, 7, 8, 9, 10, 11] [] rfl rfl (by decide) (by decide) (by decide) 0 1 rfl rfl rfl (Nat.le_of_ble_eq_true rfl) d_O_linear_92 (fun r u H locs hu hP hD hS => ?_)
                rcases hu with ⟨hr12, rfl, rfl⟩ | ⟨hr12, rfl, rfl⟩
                · skip
                  have hP : va_P D vwCl (ow D q n P rw a kn an lw s1 sd kd pa wd ao fo uo ho xo) H := hP
                  have hD : va_D A (ow D q n P rw a kn an lw s1 sd kd pa wd ao fo uo ho xo) := hD
                  refine lv_istore hx hb d_O_linear_95 hl (by decide) rfl (fun ls hl => ?_)
                  have hl : lv_has ls 10 [(9, .int (-2)), (8, .int 1), (0, .ref (q 0)), (1, .int i), (2, .int fa), (3, .int j), (4, .int fb), (5, .int v), (6, .int fc), (7, .int bd)] := hl
                  refine lv_iload hx hb d_O_linear_97 (lv_at hl 0 rfl) ?_
                  refine lv_if_lt (tgt := 163) hx hb d_O_linear_99 (by decide) (fun _ => ?_) (fun h => absurd h (by decide))
                  refine lv_iload hx hb d_O_linear_163 (lv_at hl 0 rfl) ?_
                  exact eWi (n, P, rw, a, kn, an, lw, s1, sd, kd, pa, wd, ao, fo, uo, ho, xo) hx hb hr hlocks hP hK hD hS (Or.inr ⟨⟨h2, h10, h19, h30, h42, h54, h68⟩, Or.inl ⟨hr12, rfl, rfl⟩⟩) d_O_linear_165
                · skip
                  have hP : va_P D vwCl (ow D q n P (rw + 1) a 0 (-1) lw s1 sd (upd kd rw 0) (clr7 pa rw) (vp_updL (vp_updL wd (2 * rw) 0) (2 * rw + 1) 0) ao fo uo ho xo) H := hP
                  have hD : va_D A (ow D q n P (rw + 1) a 0 (-1) lw s1 sd (upd kd rw 0) (clr7 pa rw) (vp_updL (vp_updL wd (2 * rw) 0) (2 * rw + 1) 0) ao fo uo ho xo) := hD
                  refine lv_istore hx hb d_O_linear_95 hl (by decide) rfl (fun ls hl => ?_)
                  have hl : lv_has ls 10 [(9, .int (nI rw)), (8, .int 1), (0, .ref (q 0)), (1, .int i), (2, .int fa), (3, .int j), (4, .int fb), (5, .int v), (6, .int fc), (7, .int bd)] := hl
                  refine lv_iload hx hb d_O_linear_97 (lv_at hl 0 rfl) ?_
                  refine lv_if_lt (tgt := 163) hx hb d_O_linear_99 (by decide) (fun h => absurd h (nI_pos (by omega))) (fun h99 => ?_)
                  refine lv_aload_n hx hb d_O_linear_102 rfl (lv_at hl 2 rfl) ?_
                  refine lv_iload hx hb d_O_linear_103 (lv_at hl 0 rfl) ?_
                  refine lv_iconst (v := 0) hx hb d_O_linear_105 (by decide) ?_
                  refine lv_iload_n hx hb d_O_linear_106 rfl (lv_at hl 3 rfl) ?_
                  refine wVv (n := 3) (wr := []) (Wf := oW D q) (rest := []) hx hb hml hown hA (o_set l D q n P (rw + 1) a 0 (-1) lw s1 sd (upd kd rw 0) (clr7 pa rw) (vp_updL (vp_updL wd (2 * rw) 0) (2 * rw + 1) 0) ao fo uo ho xo rw 0 i _ (by omega) (by decide)) wv_O_80 ⟨by decide, by decide, by decide +kernel⟩ ⟨rfl, rfl, by decide, by decide⟩ rfl hl.1 ⟨Nat.le_of_ble_eq_true rfl, Nat.le_of_ble_eq_true rfl⟩ hP hK hD hS hAA hN [0, 1, 2, 3, 4, 5, 6, 7, 8, 9, 10, 11] [] rfl rfl (by decide) (by decide) (by decide) 0 1 rfl rfl rfl (Nat.le_of_ble_eq_true rfl) d_O_linear_107 (fun u H locs hu hP hD hS => ?_)
                  subst hu
                  have hP : va_P D vwCl (ow D q n P (rw + 1) a 0 (-1) lw s1 sd (upd kd rw 0) (upd (clr7 pa rw) (7 * rw + 0) i) (vp_updL (vp_updL wd (2 * rw) 0) (2 * rw + 1) 0) ao fo uo ho xo) H := hP
                  have hD : va_D A (ow D q n P (rw + 1) a 0 (-1) lw s1 sd (upd kd rw 0) (upd (clr7 pa rw) (7 * rw + 0) i) (vp_updL (vp_updL wd (2 * rw) 0) (2 * rw + 1) 0) ao fo uo ho xo) := hD
                  refine lv_aload_n hx hb d_O_linear_110 rfl (lv_at hl 2 rfl) ?_
                  refine lv_iload hx hb d_O_linear_111 (lv_at hl 0 rfl) ?_
                  refine lv_iconst (v := 1) hx hb d_O_linear_113 (by decide) ?_
                  refine lv_iload_n hx hb d_O_linear_114 rfl (lv_at hl 4 rfl) ?_
                  refine wVv (n := 3) (wr := []) (Wf := oW D q) (rest := []) hx hb hml hown hA (o_set l D q n P (rw + 1) a 0 (-1) lw s1 sd (upd kd rw 0) (upd (clr7 pa rw) (7 * rw + 0) i) (vp_updL (vp_updL wd (2 * rw) 0) (2 * rw + 1) 0) ao fo uo ho xo rw 1 fa _ (by omega) (by decide)) wv_O_80 ⟨by decide, by decide, by decide +kernel⟩ ⟨rfl, rfl, by decide, by decide⟩ rfl hl.1 ⟨Nat.le_of_ble_eq_true rfl, Nat.le_of_ble_eq_true rfl⟩ hP hK hD hS hAA hN [0, 1, 2, 3, 4, 5, 6, 7, 8, 9, 10, 11] [] rfl rfl (by decide) (by decide) (by decide) 0 1 rfl rfl rfl (Nat.le_of_ble_eq_true rfl) d_O_linear_115 (fun u H locs hu hP hD hS => ?_)
                  subst hu
                  have hP : va_P D vwCl (ow D q n P (rw + 1) a 0 (-1) lw s1 sd (upd kd rw 0) (upd (upd (clr7 pa rw) (7 * rw + 0) i) (7 * rw + 1) fa) (vp_updL (vp_updL wd (2 * rw) 0) (2 * rw + 1) 0) ao fo uo ho xo) H := hP
                  have hD : va_D A (ow D q n P (rw + 1) a 0 (-1) lw s1 sd (upd kd rw 0) (upd (upd (clr7 pa rw) (7 * rw + 0) i) (7 * rw + 1) fa) (vp_updL (vp_updL wd (2 * rw) 0) (2 * rw + 1) 0) ao fo uo ho xo) := hD
                  refine lv_aload_n hx hb d_O_linear_118 rfl (lv_at hl 2 rfl) ?_
                  refine lv_iload hx hb d_O_linear_119 (lv_at hl 0 rfl) ?_
                  refine lv_iconst (v := 2) hx hb d_O_linear_121 (by decide) ?_
                  refine lv_iload_n hx hb d_O_linear_122 rfl (lv_at hl 5 rfl) ?_
                  refine wVv (n := 3) (wr := []) (Wf := oW D q) (rest := []) hx hb hml hown hA (o_set l D q n P (rw + 1) a 0 (-1) lw s1 sd (upd kd rw 0) (upd (upd (clr7 pa rw) (7 * rw + 0) i) (7 * rw + 1) fa) (vp_updL (vp_updL wd (2 * rw) 0) (2 * rw + 1) 0) ao fo uo ho xo rw 2 j _ (by omega) (by decide)) wv_O_80 ⟨by decide, by decide, by decide +kernel⟩ ⟨rfl, rfl, by decide, by decide⟩ rfl hl.1 ⟨Nat.le_of_ble_eq_true rfl, Nat.le_of_ble_eq_true rfl⟩ hP hK hD hS hAA hN [0, 1, 2, 3, 4, 5, 6, 7, 8, 9, 10, 11] [] rfl rfl (by decide) (by decide) (by decide) 0 1 rfl rfl rfl (Nat.le_of_ble_eq_true rfl) d_O_linear_123 (fun u H locs hu hP hD hS => ?_)
                  subst hu
                  have hP : va_P D vwCl (ow D q n P (rw + 1) a 0 (-1) lw s1 sd (upd kd rw 0) (upd (upd (upd (clr7 pa rw) (7 * rw + 0) i) (7 * rw + 1) fa) (7 * rw + 2) j) (vp_updL (vp_updL wd (2 * rw) 0) (2 * rw + 1) 0) ao fo uo ho xo) H := hP
                  have hD : va_D A (ow D q n P (rw + 1) a 0 (-1) lw s1 sd (upd kd rw 0) (upd (upd (upd (clr7 pa rw) (7 * rw + 0) i) (7 * rw + 1) fa) (7 * rw + 2) j) (vp_updL (vp_updL wd (2 * rw) 0) (2 * rw + 1) 0) ao fo uo ho xo) := hD
                  refine lv_aload_n hx hb d_O_linear_126 rfl (lv_at hl 2 rfl) ?_
                  refine lv_iload hx hb d_O_linear_127 (lv_at hl 0 rfl) ?_
                  refine lv_iconst (v := 3) hx hb d_O_linear_129 (by decide) ?_
                  refine lv_iload hx hb d_O_linear_130 (lv_at hl 6 rfl) ?_
                  refine wVv (n := 3) (wr := []) (Wf := oW D q) (rest := []) hx hb hml hown hA (o_set l D q n P (rw + 1) a 0 (-1) lw s1 sd (upd kd rw 0) (upd (upd (upd (clr7 pa rw) (7 * rw + 0) i) (7 * rw + 1) fa) (7 * rw + 2) j) (vp_updL (vp_updL wd (2 * rw) 0) (2 * rw + 1) 0) ao fo uo ho xo rw 3 fb _ (by omega) (by decide)) wv_O_80 ⟨by decide, by decide, by decide +kernel⟩ ⟨rfl, rfl, by decide, by decide⟩ rfl hl.1 ⟨Nat.le_of_ble_eq_true rfl, Nat.le_of_ble_eq_true rfl⟩ hP hK hD hS hAA hN [0, 1, 2, 3, 4, 5, 6, 7, 8, 9, 10, 11] [] rfl rfl (by decide) (by decide) (by decide) 0 1 rfl rfl rfl (Nat.le_of_ble_eq_true rfl) d_O_linear_132 (fun u H locs hu hP hD hS => ?_)
                  subst hu
                  have hP : va_P D vwCl (ow D q n P (rw + 1) a 0 (-1) lw s1 sd (upd kd rw 0) (upd (upd (upd (upd (clr7 pa rw) (7 * rw + 0) i) (7 * rw + 1) fa) (7 * rw + 2) j) (7 * rw + 3) fb) (vp_updL (vp_updL wd (2 * rw) 0) (2 * rw + 1) 0) ao fo uo ho xo) H := hP
                  have hD : va_D A (ow D q n P (rw + 1) a 0 (-1) lw s1 sd (upd kd rw 0) (upd (upd (upd (upd (clr7 pa rw) (7 * rw + 0) i) (7 * rw + 1) fa) (7 * rw + 2) j) (7 * rw + 3) fb) (vp_updL (vp_updL wd (2 * rw) 0) (2 * rw + 1) 0) ao fo uo ho xo) := hD
                  refine lv_aload_n hx hb d_O_linear_135 rfl (lv_at hl 2 rfl) ?_
                  refine lv_iload hx hb d_O_linear_136 (lv_at hl 0 rfl) ?_
                  refine lv_iconst (v := 4) hx hb d_O_linear_138 (by decide) ?_
                  refine lv_iload hx hb d_O_linear_139 (lv_at hl 7 rfl) ?_
                  refine wVv (n := 3) (wr := []) (Wf := oW D q) (rest := []) hx hb hml hown hA (o_set l D q n P (rw + 1) a 0 (-1) lw s1 sd (upd kd rw 0) (upd (upd (upd (upd (clr7 pa rw) (7 * rw + 0) i) (7 * rw + 1) fa) (7 * rw + 2) j) (7 * rw + 3) fb) (vp_updL (vp_updL wd (2 * rw) 0) (2 * rw + 1) 0) ao fo uo ho xo rw 4 v _ (by omega) (by decide)) wv_O_80 ⟨by decide, by decide, by decide +kernel⟩ ⟨rfl, rfl, by decide, by decide⟩ rfl hl.1 ⟨Nat.le_of_ble_eq_true rfl, Nat.le_of_ble_eq_true rfl⟩ hP hK hD hS hAA hN [0, 1, 2, 3, 4, 5, 6, 7, 8, 9, 10, 11] [] rfl rfl (by decide) (by decide) (by decide) 0 1 rfl rfl rfl (Nat.le_of_ble_eq_true rfl) d_O_linear_141 (fun u H locs hu hP hD hS => ?_)
                  subst hu
                  have hP : va_P D vwCl (ow D q n P (rw + 1) a 0 (-1) lw s1 sd (upd kd rw 0) (upd (upd (upd (upd (upd (clr7 pa rw) (7 * rw + 0) i) (7 * rw + 1) fa) (7 * rw + 2) j) (7 * rw + 3) fb) (7 * rw + 4) v) (vp_updL (vp_updL wd (2 * rw) 0) (2 * rw + 1) 0) ao fo uo ho xo) H := hP
                  have hD : va_D A (ow D q n P (rw + 1) a 0 (-1) lw s1 sd (upd kd rw 0) (upd (upd (upd (upd (upd (clr7 pa rw) (7 * rw + 0) i) (7 * rw + 1) fa) (7 * rw + 2) j) (7 * rw + 3) fb) (7 * rw + 4) v) (vp_updL (vp_updL wd (2 * rw) 0) (2 * rw + 1) 0) ao fo uo ho xo) := hD
                  refine lv_aload_n hx hb d_O_linear_144 rfl (lv_at hl 2 rfl) ?_
                  refine lv_iload hx hb d_O_linear_145 (lv_at hl 0 rfl) ?_
                  refine lv_iconst (v := 5) hx hb d_O_linear_147 (by decide) ?_
                  refine lv_iload hx hb d_O_linear_148 (lv_at hl 8 rfl) ?_
                  refine wVv (n := 3) (wr := []) (Wf := oW D q) (rest := []) hx hb hml hown hA (o_set l D q n P (rw + 1) a 0 (-1) lw s1 sd (upd kd rw 0) (upd (upd (upd (upd (upd (clr7 pa rw) (7 * rw + 0) i) (7 * rw + 1) fa) (7 * rw + 2) j) (7 * rw + 3) fb) (7 * rw + 4) v) (vp_updL (vp_updL wd (2 * rw) 0) (2 * rw + 1) 0) ao fo uo ho xo rw 5 fc _ (by omega) (by decide)) wv_O_80 ⟨by decide, by decide, by decide +kernel⟩ ⟨rfl, rfl, by decide, by decide⟩ rfl hl.1 ⟨Nat.le_of_ble_eq_true rfl, Nat.le_of_ble_eq_true rfl⟩ hP hK hD hS hAA hN [0, 1, 2, 3, 4, 5, 6, 7, 8, 9, 10, 11] [] rfl rfl (by decide) (by decide) (by decide) 0 1 rfl rfl rfl (Nat.le_of_ble_eq_true rfl) d_O_linear_150 (fun u H locs hu hP hD hS => ?_)
                  subst hu
                  have hP : va_P D vwCl (ow D q n P (rw + 1) a 0 (-1) lw s1 sd (upd kd rw 0) (upd (upd (upd (upd (upd (upd (clr7 pa rw) (7 * rw + 0) i) (7 * rw + 1) fa) (7 * rw + 2) j) (7 * rw + 3) fb) (7 * rw + 4) v) (7 * rw + 5) fc) (vp_updL (vp_updL wd (2 * rw) 0) (2 * rw + 1) 0) ao fo uo ho xo) H := hP
                  have hD : va_D A (ow D q n P (rw + 1) a 0 (-1) lw s1 sd (upd kd rw 0) (upd (upd (upd (upd (upd (upd (clr7 pa rw) (7 * rw + 0) i) (7 * rw + 1) fa) (7 * rw + 2) j) (7 * rw + 3) fb) (7 * rw + 4) v) (7 * rw + 5) fc) (vp_updL (vp_updL wd (2 * rw) 0) (2 * rw + 1) 0) ao fo uo ho xo) := hD
                  refine lv_aload_n hx hb d_O_linear_153 rfl (lv_at hl 2 rfl) ?_
                  refine lv_iload hx hb d_O_linear_154 (lv_at hl 0 rfl) ?_
                  refine lv_bipush (v := 6) hx hb d_O_linear_156 (by decide) ?_
                  refine lv_iload hx hb d_O_linear_158 (lv_at hl 9 rfl) ?_
                  refine wVv (n := 3) (wr := []) (Wf := oW D q) (rest := []) hx hb hml hown hA (o_set l D q n P (rw + 1) a 0 (-1) lw s1 sd (upd kd rw 0) (upd (upd (upd (upd (upd (upd (clr7 pa rw) (7 * rw + 0) i) (7 * rw + 1) fa) (7 * rw + 2) j) (7 * rw + 3) fb) (7 * rw + 4) v) (7 * rw + 5) fc) (vp_updL (vp_updL wd (2 * rw) 0) (2 * rw + 1) 0) ao fo uo ho xo rw 6 bd _ (by omega) (by decide)) wv_O_80 ⟨by decide, by decide, by decide +kernel⟩ ⟨rfl, rfl, by decide, by decide⟩ rfl hl.1 ⟨Nat.le_of_ble_eq_true rfl, Nat.le_of_ble_eq_true rfl⟩ hP hK hD hS hAA hN [0, 1, 2, 3, 4, 5, 6, 7, 8, 9, 10, 11] [] rfl rfl (by decide) (by decide) (by decide) 0 1 rfl rfl rfl (Nat.le_of_ble_eq_true rfl) d_O_linear_160 (fun u H locs hu hP hD hS => ?_)
                  subst hu
                  have hP : va_P D vwCl (ow D q n P (rw + 1) a 0 (-1) lw s1 sd (upd kd rw 0) (upd (upd (upd (upd (upd (upd (upd (clr7 pa rw) (7 * rw + 0) i) (7 * rw + 1) fa) (7 * rw + 2) j) (7 * rw + 3) fb) (7 * rw + 4) v) (7 * rw + 5) fc) (7 * rw + 6) bd) (vp_updL (vp_updL wd (2 * rw) 0) (2 * rw + 1) 0) ao fo uo ho xo) H := hP
                  have hD : va_D A (ow D q n P (rw + 1) a 0 (-1) lw s1 sd (upd kd rw 0) (upd (upd (upd (upd (upd (upd (upd (clr7 pa rw) (7 * rw + 0) i) (7 * rw + 1) fa) (7 * rw + 2) j) (7 * rw + 3) fb) (7 * rw + 4) v) (7 * rw + 5) fc) (7 * rw + 6) bd) (vp_updL (vp_updL wd (2 * rw) 0) (2 * rw + 1) 0) ao fo uo ho xo) := hD
                  refine lv_iload hx hb d_O_linear_163 (lv_at hl 0 rfl) ?_
                  exact eWi (n, P, (rw + 1), a, 0, -1, lw, s1, sd, upd kd rw 0, upd (upd (upd (upd (upd (upd (upd (clr7 pa rw) (7 * rw + 0) i) (7 * rw + 1) fa) (7 * rw + 2) j) (7 * rw + 3) fb) (7 * rw + 4) v) (7 * rw + 5) fc) (7 * rw + 6) bd, vp_updL (vp_updL wd (2 * rw) 0) (2 * rw + 1) 0, ao, fo, uo, ho, xo) hx hb hr hlocks hP hK hD hS (Or.inr ⟨⟨h2, h10, h19, h30, h42, h54, h68⟩, Or.inr ⟨hr12, rfl, rfl⟩⟩) d_O_linear_165
              · skip
                refine lv_if_eq (tgt := 78) hx hb d_O_linear_71 (by decide) (fun _ => ?_) (fun h => absurd h (by decide))
                refine lv_iconst (v := 0) hx hb d_O_linear_78 (by decide) ?_
                refine lv_istore hx hb d_O_linear_79 hl (by decide) rfl (fun ls hl => ?_)
                have hl : lv_has ls 10 [(8, .int 0), (0, .ref (q 0)), (1, .int i), (2, .int fa), (3, .int j), (4, .int fb), (5, .int v), (6, .int fc), (7, .int bd)] := hl
                refine lv_iload hx hb d_O_linear_81 (lv_at hl 0 rfl) ?_
                refine lv_if_ne (tgt := 88) hx hb d_O_linear_83 (by decide) (fun h => absurd h (by decide)) (fun _ => ?_)
                refine lv_iconst (v := (-1)) hx hb d_O_linear_86 (by decide) ?_
                exact eWi (n, P, rw, a, kn, an, lw, s1, sd, kd, pa, wd, ao, fo, uo, ho, xo) hx hb hr hlocks hP hK hD hS (Or.inl ⟨fun h => h68 (h.2.2.2.2.2.2), rfl, rfl⟩) d_O_linear_87
            · skip
              refine lv_if_eq (tgt := 78) hx hb d_O_linear_57 (by decide) (fun _ => ?_) (fun h => absurd h (by decide))
              refine lv_iconst (v := 0) hx hb d_O_linear_78 (by decide) ?_
              refine lv_istore hx hb d_O_linear_79 hl (by decide) rfl (fun ls hl => ?_)
              have hl : lv_has ls 10 [(8, .int 0), (0, .ref (q 0)), (1, .int i), (2, .int fa), (3, .int j), (4, .int fb), (5, .int v), (6, .int fc), (7, .int bd)] := hl
              refine lv_iload hx hb d_O_linear_81 (lv_at hl 0 rfl) ?_
              refine lv_if_ne (tgt := 88) hx hb d_O_linear_83 (by decide) (fun h => absurd h (by decide)) (fun _ => ?_)
              refine lv_iconst (v := (-1)) hx hb d_O_linear_86 (by decide) ?_
              exact eWi (n, P, rw, a, kn, an, lw, s1, sd, kd, pa, wd, ao, fo, uo, ho, xo) hx hb hr hlocks hP hK hD hS (Or.inl ⟨fun h => h54 (h.2.2.2.2.2.1), rfl, rfl⟩) d_O_linear_87
          · skip
            refine lv_if_eq (tgt := 78) hx hb d_O_linear_45 (by decide) (fun _ => ?_) (fun h => absurd h (by decide))
            refine lv_iconst (v := 0) hx hb d_O_linear_78 (by decide) ?_
            refine lv_istore hx hb d_O_linear_79 hl (by decide) rfl (fun ls hl => ?_)
            have hl : lv_has ls 10 [(8, .int 0), (0, .ref (q 0)), (1, .int i), (2, .int fa), (3, .int j), (4, .int fb), (5, .int v), (6, .int fc), (7, .int bd)] := hl
            refine lv_iload hx hb d_O_linear_81 (lv_at hl 0 rfl) ?_
            refine lv_if_ne (tgt := 88) hx hb d_O_linear_83 (by decide) (fun h => absurd h (by decide)) (fun _ => ?_)
            refine lv_iconst (v := (-1)) hx hb d_O_linear_86 (by decide) ?_
            exact eWi (n, P, rw, a, kn, an, lw, s1, sd, kd, pa, wd, ao, fo, uo, ho, xo) hx hb hr hlocks hP hK hD hS (Or.inl ⟨fun h => h42 (h.2.2.2.2.1), rfl, rfl⟩) d_O_linear_87
        · skip
          refine lv_if_eq (tgt := 78) hx hb d_O_linear_33 (by decide) (fun _ => ?_) (fun h => absurd h (by decide))
          refine lv_iconst (v := 0) hx hb d_O_linear_78 (by decide) ?_
          refine lv_istore hx hb d_O_linear_79 hl (by decide) rfl (fun ls hl => ?_)
          have hl : lv_has ls 10 [(8, .int 0), (0, .ref (q 0)), (1, .int i), (2, .int fa), (3, .int j), (4, .int fb), (5, .int v), (6, .int fc), (7, .int bd)] := hl
          refine lv_iload hx hb d_O_linear_81 (lv_at hl 0 rfl) ?_
          refine lv_if_ne (tgt := 88) hx hb d_O_linear_83 (by decide) (fun h => absurd h (by decide)) (fun _ => ?_)
          refine lv_iconst (v := (-1)) hx hb d_O_linear_86 (by decide) ?_
          exact eWi (n, P, rw, a, kn, an, lw, s1, sd, kd, pa, wd, ao, fo, uo, ho, xo) hx hb hr hlocks hP hK hD hS (Or.inl ⟨fun h => h30 (h.2.2.2.1), rfl, rfl⟩) d_O_linear_87
      · skip
        refine lv_if_eq (tgt := 78) hx hb d_O_linear_22 (by decide) (fun _ => ?_) (fun h => absurd h (by decide))
        refine lv_iconst (v := 0) hx hb d_O_linear_78 (by decide) ?_
        refine lv_istore hx hb d_O_linear_79 hl (by decide) rfl (fun ls hl => ?_)
        have hl : lv_has ls 10 [(8, .int 0), (0, .ref (q 0)), (1, .int i), (2, .int fa), (3, .int j), (4, .int fb), (5, .int v), (6, .int fc), (7, .int bd)] := hl
        refine lv_iload hx hb d_O_linear_81 (lv_at hl 0 rfl) ?_
        refine lv_if_ne (tgt := 88) hx hb d_O_linear_83 (by decide) (fun h => absurd h (by decide)) (fun _ => ?_)
        refine lv_iconst (v := (-1)) hx hb d_O_linear_86 (by decide) ?_
        exact eWi (n, P, rw, a, kn, an, lw, s1, sd, kd, pa, wd, ao, fo, uo, ho, xo) hx hb hr hlocks hP hK hD hS (Or.inl ⟨fun h => h19 (h.2.2.1), rfl, rfl⟩) d_O_linear_87
    · skip
      refine lv_if_eq (tgt := 78) hx hb d_O_linear_13 (by decide) (fun _ => ?_) (fun h => absurd h (by decide))
      refine lv_iconst (v := 0) hx hb d_O_linear_78 (by decide) ?_
      refine lv_istore hx hb d_O_linear_79 hl (by decide) rfl (fun ls hl => ?_)
      have hl : lv_has ls 10 [(8, .int 0), (0, .ref (q 0)), (1, .int i), (2, .int fa), (3, .int j), (4, .int fb), (5, .int v), (6, .int fc), (7, .int bd)] := hl
      refine lv_iload hx hb d_O_linear_81 (lv_at hl 0 rfl) ?_
      refine lv_if_ne (tgt := 88) hx hb d_O_linear_83 (by decide) (fun h => absurd h (by decide)) (fun _ => ?_)
      refine lv_iconst (v := (-1)) hx hb d_O_linear_86 (by decide) ?_
      exact eWi (n, P, rw, a, kn, an, lw, s1, sd, kd, pa, wd, ao, fo, uo, ho, xo) hx hb hr hlocks hP hK hD hS (Or.inl ⟨fun h => h10 (h.2.1), rfl, rfl⟩) d_O_linear_87
  · skip
    refine lv_if_eq (tgt := 78) hx hb d_O_linear_5 (by decide) (fun _ => ?_) (fun h => absurd h (by decide))
    refine lv_iconst (v := 0) hx hb d_O_linear_78 (by decide) ?_
    refine lv_istore hx hb d_O_linear_79 hl (by decide) rfl (fun ls hl => ?_)
    have hl : lv_has ls 10 [(8, .int 0), (0, .ref (q 0)), (1, .int i), (2, .int fa), (3, .int j), (4, .int fb), (5, .int v), (6, .int fc), (7, .int bd)] := hl
    refine lv_iload hx hb d_O_linear_81 (lv_at hl 0 rfl) ?_
    refine lv_if_ne (tgt := 88) hx hb d_O_linear_83 (by decide) (fun h => absurd h (by decide)) (fun _ => ?_)
    refine lv_iconst (v := (-1)) hx hb d_O_linear_86 (by decide) ?_
    exact eWi (n, P, rw, a, kn, an, lw, s1, sd, kd, pa, wd, ao, fo, uo, ho, xo) hx hb hr hlocks hP hK hD hS (Or.inl ⟨fun h => h2 (h.1), rfl, rfl⟩) d_O_linear_87
end
end
section
section
theorem d_O_reified_0 : decode b_O_reified 0 = .ok (.aload_n 0, 1) := by decide +kernel
theorem d_O_reified_1 : decode b_O_reified 1 = .ok (.iload_n 1, 1) := by decide +kernel
theorem d_O_reified_2 : decode b_O_reified 2 = .ok (.invokevirtual 59, 3) := by decide +kernel
theorem d_O_reified_5 : decode b_O_reified 5 = .ok (.ifCond .eq 31, 3) := by decide +kernel
theorem d_O_reified_8 : decode b_O_reified 8 = .ok (.aload_n 0, 1) := by decide +kernel
theorem d_O_reified_9 : decode b_O_reified 9 = .ok (.iload_n 2, 1) := by decide +kernel
theorem d_O_reified_10 : decode b_O_reified 10 = .ok (.invokevirtual 59, 3) := by decide +kernel
theorem d_O_reified_13 : decode b_O_reified 13 = .ok (.ifCond .eq 23, 3) := by decide +kernel
theorem d_O_reified_16 : decode b_O_reified 16 = .ok (.aload_n 0, 1) := by decide +kernel
theorem d_O_reified_17 : decode b_O_reified 17 = .ok (.iload_n 3, 1) := by decide +kernel
theorem d_O_reified_18 : decode b_O_reified 18 = .ok (.invokevirtual 59, 3) := by decide +kernel
theorem d_O_reified_21 : decode b_O_reified 21 = .ok (.ifCond .eq 15, 3) := by decide +kernel
theorem d_O_reified_24 : decode b_O_reified 24 = .ok (.iload 4, 2) := by decide +kernel
theorem d_O_reified_26 : decode b_O_reified 26 = .ok (.bipush (-100), 2) := by decide +kernel
theorem d_O_reified_28 : decode b_O_reified 28 = .ok (.bipush 100, 2) := by decide +kernel
theorem d_O_reified_30 : decode b_O_reified 30 = .ok (.invokestatic 72, 3) := by decide +kernel
theorem d_O_reified_33 : decode b_O_reified 33 = .ok (.ifCond .ne 5, 3) := by decide +kernel
theorem d_O_reified_36 : decode b_O_reified 36 = .ok (.iconst (-1), 1) := by decide +kernel
theorem d_O_reified_37 : decode b_O_reified 37 = .ok (.ireturn, 1) := by decide +kernel
theorem d_O_reified_38 : decode b_O_reified 38 = .ok (.aload_n 0, 1) := by decide +kernel
theorem d_O_reified_39 : decode b_O_reified 39 = .ok (.iconst 1, 1) := by decide +kernel
theorem d_O_reified_40 : decode b_O_reified 40 = .ok (.lconst 0, 1) := by decide +kernel
theorem d_O_reified_41 : decode b_O_reified 41 = .ok (.lconst 0, 1) := by decide +kernel
theorem d_O_reified_42 : decode b_O_reified 42 = .ok (.invokevirtual 76, 3) := by decide +kernel
theorem d_O_reified_45 : decode b_O_reified 45 = .ok (.istore 5, 2) := by decide +kernel
theorem d_O_reified_47 : decode b_O_reified 47 = .ok (.iload 5, 2) := by decide +kernel
theorem d_O_reified_49 : decode b_O_reified 49 = .ok (.ifCond .lt 36, 3) := by decide +kernel
theorem d_O_reified_52 : decode b_O_reified 52 = .ok (.aload_n 0, 1) := by decide +kernel
theorem d_O_reified_53 : decode b_O_reified 53 = .ok (.iload 5, 2) := by decide +kernel
theorem d_O_reified_55 : decode b_O_reified 55 = .ok (.iconst 0, 1) := by decide +kernel
theorem d_O_reified_56 : decode b_O_reified 56 = .ok (.iload_n 1, 1) := by decide +kernel
theorem d_O_reified_57 : decode b_O_reified 57 = .ok (.invokevirtual 80, 3) := by decide +kernel
theorem d_O_reified_60 : decode b_O_reified 60 = .ok (.aload_n 0, 1) := by decide +kernel
theorem d_O_reified_61 : decode b_O_reified 61 = .ok (.iload 5, 2) := by decide +kernel
theorem d_O_reified_63 : decode b_O_reified 63 = .ok (.iconst 1, 1) := by decide +kernel
theorem d_O_reified_64 : decode b_O_reified 64 = .ok (.iload_n 2, 1) := by decide +kernel
theorem d_O_reified_65 : decode b_O_reified 65 = .ok (.invokevirtual 80, 3) := by decide +kernel
theorem d_O_reified_68 : decode b_O_reified 68 = .ok (.aload_n 0, 1) := by decide +kernel
theorem d_O_reified_69 : decode b_O_reified 69 = .ok (.iload 5, 2) := by decide +kernel
theorem d_O_reified_71 : decode b_O_reified 71 = .ok (.iconst 2, 1) := by decide +kernel
theorem d_O_reified_72 : decode b_O_reified 72 = .ok (.iload_n 3, 1) := by decide +kernel
theorem d_O_reified_73 : decode b_O_reified 73 = .ok (.invokevirtual 80, 3) := by decide +kernel
theorem d_O_reified_76 : decode b_O_reified 76 = .ok (.aload_n 0, 1) := by decide +kernel
theorem d_O_reified_77 : decode b_O_reified 77 = .ok (.iload 5, 2) := by decide +kernel
theorem d_O_reified_79 : decode b_O_reified 79 = .ok (.iconst 3, 1) := by decide +kernel
theorem d_O_reified_80 : decode b_O_reified 80 = .ok (.iload 4, 2) := by decide +kernel
theorem d_O_reified_82 : decode b_O_reified 82 = .ok (.invokevirtual 80, 3) := by decide +kernel
theorem d_O_reified_85 : decode b_O_reified 85 = .ok (.iload 5, 2) := by decide +kernel
theorem d_O_reified_87 : decode b_O_reified 87 = .ok (.ireturn, 1) := by decide +kernel
set_option maxRecDepth 100000 in
set_option maxHeartbeats 4000000 in
theorem o_reified (l : Launch) (D : va_G) (q : Nat → Nat) (n P rw a : Nat) (kn an : Int32) (lw s1 sd kd pa : Nat → Int32) (wd : Nat → Int64) (ao fo uo ho xo : Nat → Int32) (r1 i j c1 : Int32) (sz : Nat) (hrw : rw ≤ 12) : Met l y_O_reified (wsm y_O_reified b_O_reified 6 (some .int)) { frames := 2, cells := 0, slots := 0, locals := 46 } (va_Pc [.ref (q 0), .int r1, .int i, .int j, .int c1] (fun U => U.heap.size = sz ∧ cPre D (ow D q n P rw a kn an lw s1 sd kd pa wd ao fo uo ho xo) U)) (va_Qi (fun (r : Int32) (u : OS) => (¬ (iv n r1 ∧ iv n i ∧ iv n j ∧ wi3 c1 (-100) 100) ∧ r = -1 ∧ u = (n, P, rw, a, kn, an, lw, s1, sd, kd, pa, wd, ao, fo, uo, ho, xo)) ∨ ((iv n r1 ∧ iv n i ∧ iv n j ∧ wi3 c1 (-100) 100) ∧ ((¬ rw < 12 ∧ r = -2 ∧ u = (n, P, rw, a, kn, an, lw, s1, sd, kd, pa, wd, ao, fo, uo, ho, xo)) ∨ (rw < 12 ∧ r = nI rw ∧ u = (n, P, rw + 1, a, 0, -1, lw, s1, sd, upd kd rw 1, upd (upd (upd (upd (clr7 pa rw) (7 * rw + 0) r1) (7 * rw + 1) i) (7 * rw + 2) j) (7 * rw + 3) c1, vp_updL (vp_updL wd (2 * rw) 0) (2 * rw + 1) 0, ao, fo, uo, ho, xo))))) (fun u t => xB D (oW D q u) (va_A (ow D q n P rw a kn an lw s1 sd kd pa wd ao fo uo ho xo) sz) t) (va_A (ow D q n P rw a kn an lw s1 sd kd pa wd ao fo uo ho xo) sz)) 0 0 (va_A (ow D q n P rw a kn an lw s1 sd kd pa wd ao fo uo ho xo) sz) := by
  refine met_W (Qf := fun A => va_Qi (fun (r : Int32) (u : OS) => (¬ (iv n r1 ∧ iv n i ∧ iv n j ∧ wi3 c1 (-100) 100) ∧ r = -1 ∧ u = (n, P, rw, a, kn, an, lw, s1, sd, kd, pa, wd, ao, fo, uo, ho, xo)) ∨ ((iv n r1 ∧ iv n i ∧ iv n j ∧ wi3 c1 (-100) 100) ∧ ((¬ rw < 12 ∧ r = -2 ∧ u = (n, P, rw, a, kn, an, lw, s1, sd, kd, pa, wd, ao, fo, uo, ho, xo)) ∨ (rw < 12 ∧ r = nI rw ∧ u = (n, P, rw + 1, a, 0, -1, lw, s1, sd, upd kd rw 1, upd (upd (upd (upd (clr7 pa rw) (7 * rw + 0) r1) (7 * rw + 1) i) (7 * rw + 2) j) (7 * rw + 3) c1, vp_updL (vp_updL wd (2 * rw) 0) (2 * rw + 1) 0, ao, fo, uo, ho, xo))))) (fun u t => xB D (oW D q u) A t) A) (by decide) (Nat.le_of_ble_eq_true rfl) ?_
  intro p e s m below meth c ls A hx hb hr hlocks hml hown hin hA hP hK hD hN hl hS hAA
  have hown : s.vm.findClass R_O = some m.cls := hown
  have hl : lv_has ls 6 [(0, .ref (q 0)), (1, .int r1), (2, .int i), (3, .int j), (4, .int c1)] := hl
  refine lv_aload_n hx hb d_O_reified_0 rfl (lv_at hl 0 rfl) ?_
  refine lv_iload_n hx hb d_O_reified_1 rfl (lv_at hl 1 rfl) ?_
  refine rV (n := 1) (rest := []) hx hb hml hown hA (o_isVariable l D q n P rw a kn an lw s1 sd kd pa wd ao fo uo ho xo r1) wv_O_59 ⟨by decide, by decide, by decide +kernel⟩ ⟨rfl, rfl, by decide, by decide⟩ rfl hl.1 ⟨Nat.le_of_ble_eq_true rfl, Nat.le_of_ble_eq_true rfl⟩ hP hK hD hN 0 1 rfl rfl rfl (Nat.le_of_ble_eq_true rfl) d_O_reified_2 (fun r hr9 => ?_)
  rcases zb_c hr9 with ⟨rfl, h2⟩ | ⟨rfl, h2⟩
  · skip
    refine lv_if_eq (tgt := 36) hx hb d_O_reified_5 (by decide) (fun h => absurd h (by decide)) (fun _ => ?_)
    refine lv_aload_n hx hb d_O_reified_8 rfl (lv_at hl 0 rfl) ?_
    refine lv_iload_n hx hb d_O_reified_9 rfl (lv_at hl 2 rfl) ?_
    refine rV (n := 1) (rest := []) hx hb hml hown hA (o_isVariable l D q n P rw a kn an lw s1 sd kd pa wd ao fo uo ho xo i) wv_O_59 ⟨by decide, by decide, by decide +kernel⟩ ⟨rfl, rfl, by decide, by decide⟩ rfl hl.1 ⟨Nat.le_of_ble_eq_true rfl, Nat.le_of_ble_eq_true rfl⟩ hP hK hD hN 0 1 rfl rfl rfl (Nat.le_of_ble_eq_true rfl) d_O_reified_10 (fun r hr9 => ?_)
    rcases zb_c hr9 with ⟨rfl, h10⟩ | ⟨rfl, h10⟩
    · skip
      refine lv_if_eq (tgt := 36) hx hb d_O_reified_13 (by decide) (fun h => absurd h (by decide)) (fun _ => ?_)
      refine lv_aload_n hx hb d_O_reified_16 rfl (lv_at hl 0 rfl) ?_
      refine lv_iload_n hx hb d_O_reified_17 rfl (lv_at hl 3 rfl) ?_
      refine rV (n := 1) (rest := []) hx hb hml hown hA (o_isVariable l D q n P rw a kn an lw s1 sd kd pa wd ao fo uo ho xo j) wv_O_59 ⟨by decide, by decide, by decide +kernel⟩ ⟨rfl, rfl, by decide, by decide⟩ rfl hl.1 ⟨Nat.le_of_ble_eq_true rfl, Nat.le_of_ble_eq_true rfl⟩ hP hK hD hN 0 1 rfl rfl rfl (Nat.le_of_ble_eq_true rfl) d_O_reified_18 (fun r hr9 => ?_)
      rcases zb_c hr9 with ⟨rfl, h18⟩ | ⟨rfl, h18⟩
      · skip
        refine lv_if_eq (tgt := 36) hx hb d_O_reified_21 (by decide) (fun h => absurd h (by decide)) (fun _ => ?_)
        refine lv_iload hx hb d_O_reified_24 (lv_at hl 4 rfl) ?_
        refine lv_bipush (v := (-100)) hx hb d_O_reified_26 (by decide) ?_
        refine lv_bipush (v := 100) hx hb d_O_reified_28 (by decide) ?_
        refine rS (n := 3) (rest := []) hx hb hml hown hA (o_within l D c1 (-100) 100) wv_O_72 ⟨by decide, by decide, by decide +kernel⟩ ⟨rfl, rfl, by decide, by decide⟩ rfl hl.1 ⟨Nat.le_of_ble_eq_true rfl, Nat.le_of_ble_eq_true rfl⟩ (va_P.sub1 hP [] rfl) hK (va_D.sub hD [] rfl rfl) hN rfl (Nat.le_of_ble_eq_true rfl) d_O_reified_30 (fun r hr9 => ?_)
        rcases zb_c hr9 with ⟨rfl, h30⟩ | ⟨rfl, h30⟩
        · skip
          refine lv_if_ne (tgt := 38) hx hb d_O_reified_33 (by decide) (fun _ => ?_) (fun h => absurd h (by decide))
          refine lv_aload_n hx hb d_O_reified_38 rfl (lv_at hl 0 rfl) ?_
          refine lv_iconst (v := 1) hx hb d_O_reified_39 (by decide) ?_
          refine lv_lconst (v := 0) hx hb d_O_reified_40 (by decide) ?_
          refine lv_lconst (v := 0) hx hb d_O_reified_41 (by decide) ?_
          refine wVi (n := 3) (wr := []) (Wf := oW D q) (rest := []) hx hb hml hown hA (o_add l D q n P rw a kn an lw s1 sd kd pa wd ao fo uo ho xo 1 0 0 _ hrw) wv_O_76 ⟨by decide, by decide, by decide +kernel⟩ ⟨rfl, rfl, by decide, by decide⟩ rfl hl.1 ⟨Nat.le_of_ble_eq_true rfl, Nat.le_of_ble_eq_true rfl⟩ hP hK hD hS hAA hN [0, 1, 2, 3, 4, 5, 6, 7, 8, 9, 10, 11] [] rfl rfl (by decide) (by decide) (by decide) 0 1 rfl rfl rfl (Nat.le_of_ble_eq_true rfl) d_O_reified_42 (fun r u H locs hu hP hD hS => ?_)
          rcases hu with ⟨hr12, rfl, rfl⟩ | ⟨hr12, rfl, rfl⟩
          · skip
            have hP : va_P D vwCl (ow D q n P rw a kn an lw s1 sd kd pa wd ao fo uo ho xo) H := hP
            have hD : va_D A (ow D q n P rw a kn an lw s1 sd kd pa wd ao fo uo ho xo) := hD
            refine lv_istore hx hb d_O_reified_45 hl (by decide) rfl (fun ls hl => ?_)
            have hl : lv_has ls 6 [(5, .int (-2)), (0, .ref (q 0)), (1, .int r1), (2, .int i), (3, .int j), (4, .int c1)] := hl
            refine lv_iload hx hb d_O_reified_47 (lv_at hl 0 rfl) ?_
            refine lv_if_lt (tgt := 85) hx hb d_O_reified_49 (by decide) (fun _ => ?_) (fun h => absurd h (by decide))
            refine lv_iload hx hb d_O_reified_85 (lv_at hl 0 rfl) ?_
            exact eWi (n, P, rw, a, kn, an, lw, s1, sd, kd, pa, wd, ao, fo, uo, ho, xo) hx hb hr hlocks hP hK hD hS (Or.inr ⟨⟨h2, h10, h18, h30⟩, Or.inl ⟨hr12, rfl, rfl⟩⟩) d_O_reified_87
          · skip
            have hP : va_P D vwCl (ow D q n P (rw + 1) a 0 (-1) lw s1 sd (upd kd rw 1) (clr7 pa rw) (vp_updL (vp_updL wd (2 * rw) 0) (2 * rw + 1) 0) ao fo uo ho xo) H := hP
            have hD : va_D A (ow D q n P (rw + 1) a 0 (-1) lw s1 sd (upd kd rw 1) (clr7 pa rw) (vp_updL (vp_updL wd (2 * rw) 0) (2 * rw + 1) 0) ao fo uo ho xo) := hD
            refine lv_istore hx hb d_O_reified_45 hl (by decide) rfl (fun ls hl => ?_)
            have hl : lv_has ls 6 [(5, .int (nI rw)), (0, .ref (q 0)), (1, .int r1), (2, .int i), (3, .int j), (4, .int c1)] := hl
            refine lv_iload hx hb d_O_reified_47 (lv_at hl 0 rfl) ?_
            refine lv_if_lt (tgt := 85) hx hb d_O_reified_49 (by decide) (fun h => absurd h (nI_pos (by omega))) (fun h49 => ?_)
            refine lv_aload_n hx hb d_O_reified_52 rfl (lv_at hl 1 rfl) ?_
            refine lv_iload hx hb d_O_reified_53 (lv_at hl 0 rfl) ?_
            refine lv_iconst (v := 0) hx hb d_O_reified_55 (by decide) ?_
            refine lv_iload_n hx hb d_O_reified_56 rfl (lv_at hl 2 rfl) ?_
            refine wVv (n := 3) (wr := []) (Wf := oW D q) (rest := []) hx hb hml hown hA (o_set l D q n P (rw + 1) a 0 (-1) lw s1 sd (upd kd rw 1) (clr7 pa rw) (vp_updL (vp_updL wd (2 * rw) 0) (2 * rw + 1) 0) ao fo uo ho xo rw 0 r1 _ (by omega) (by decide)) wv_O_80 ⟨by decide, by decide, by decide +kernel⟩ ⟨rfl, rfl, by decide, by decide⟩ rfl hl.1 ⟨Nat.le_of_ble_eq_true rfl, Nat.le_of_ble_eq_true rfl⟩ hP hK hD hS hAA hN [0, 1, 2, 3, 4, 5, 6, 7, 8, 9, 10, 11] [] rfl rfl (by decide) (by decide) (by decide) 0 1 rfl rfl rfl (Nat.le_of_ble_eq_true rfl) d_O_reified_57 (fun u H locs hu hP hD hS => ?_)
            subst hu
            have hP : va_P D vwCl (ow D q n P (rw + 1) a 0 (-1) lw s1 sd (upd kd rw 1) (upd (clr7 pa rw) (7 * rw + 0) r1) (vp_updL (vp_updL wd (2 * rw) 0) (2 * rw + 1) 0) ao fo uo ho xo) H := hP
            have hD : va_D A (ow D q n P (rw + 1) a 0 (-1) lw s1 sd (upd kd rw 1) (upd (clr7 pa rw) (7 * rw + 0) r1) (vp_updL (vp_updL wd (2 * rw) 0) (2 * rw + 1) 0) ao fo uo ho xo) := hD
            refine lv_aload_n hx hb d_O_reified_60 rfl (lv_at hl 1 rfl) ?_
            refine lv_iload hx hb d_O_reified_61 (lv_at hl 0 rfl) ?_
            refine lv_iconst (v := 1) hx hb d_O_reified_63 (by decide) ?_
            refine lv_iload_n hx hb d_O_reified_64 rfl (lv_at hl 3 rfl) ?_
            refine wVv (n := 3) (wr := []) (Wf := oW D q) (rest := []) hx hb hml hown hA (o_set l D q n P (rw + 1) a 0 (-1) lw s1 sd (upd kd rw 1) (upd (clr7 pa rw) (7 * rw + 0) r1) (vp_updL (vp_updL wd (2 * rw) 0) (2 * rw + 1) 0) ao fo uo ho xo rw 1 i _ (by omega) (by decide)) wv_O_80 ⟨by decide, by decide, by decide +kernel⟩ ⟨rfl, rfl, by decide, by decide⟩ rfl hl.1 ⟨Nat.le_of_ble_eq_true rfl, Nat.le_of_ble_eq_true rfl⟩ hP hK hD hS hAA hN [0, 1, 2, 3, 4, 5, 6, 7, 8, 9, 10, 11] [] rfl rfl (by decide) (by decide) (by decide) 0 1 rfl rfl rfl (Nat.le_of_ble_eq_true rfl) d_O_reified_65 (fun u H locs hu hP hD hS => ?_)
            subst hu
            have hP : va_P D vwCl (ow D q n P (rw + 1) a 0 (-1) lw s1 sd (upd kd rw 1) (upd (upd (clr7 pa rw) (7 * rw + 0) r1) (7 * rw + 1) i) (vp_updL (vp_updL wd (2 * rw) 0) (2 * rw + 1) 0) ao fo uo ho xo) H := hP
            have hD : va_D A (ow D q n P (rw + 1) a 0 (-1) lw s1 sd (upd kd rw 1) (upd (upd (clr7 pa rw) (7 * rw + 0) r1) (7 * rw + 1) i) (vp_updL (vp_updL wd (2 * rw) 0) (2 * rw + 1) 0) ao fo uo ho xo) := hD
            refine lv_aload_n hx hb d_O_reified_68 rfl (lv_at hl 1 rfl) ?_
            refine lv_iload hx hb d_O_reified_69 (lv_at hl 0 rfl) ?_
            refine lv_iconst (v := 2) hx hb d_O_reified_71 (by decide) ?_
            refine lv_iload_n hx hb d_O_reified_72 rfl (lv_at hl 4 rfl) ?_
            refine wVv (n := 3) (wr := []) (Wf := oW D q) (rest := []) hx hb hml hown hA (o_set l D q n P (rw + 1) a 0 (-1) lw s1 sd (upd kd rw 1) (upd (upd (clr7 pa rw) (7 * rw + 0) r1) (7 * rw + 1) i) (vp_updL (vp_updL wd (2 * rw) 0) (2 * rw + 1) 0) ao fo uo ho xo rw 2 j _ (by omega) (by decide)) wv_O_80 ⟨by decide, by decide, by decide +kernel⟩ ⟨rfl, rfl, by decide, by decide⟩ rfl hl.1 ⟨Nat.le_of_ble_eq_true rfl, Nat.le_of_ble_eq_true rfl⟩ hP hK hD hS hAA hN [0, 1, 2, 3, 4, 5, 6, 7, 8, 9, 10, 11] [] rfl rfl (by decide) (by decide) (by decide) 0 1 rfl rfl rfl (Nat.le_of_ble_eq_true rfl) d_O_reified_73 (fun u H locs hu hP hD hS => ?_)
            subst hu
            have hP : va_P D vwCl (ow D q n P (rw + 1) a 0 (-1) lw s1 sd (upd kd rw 1) (upd (upd (upd (clr7 pa rw) (7 * rw + 0) r1) (7 * rw + 1) i) (7 * rw + 2) j) (vp_updL (vp_updL wd (2 * rw) 0) (2 * rw + 1) 0) ao fo uo ho xo) H := hP
            have hD : va_D A (ow D q n P (rw + 1) a 0 (-1) lw s1 sd (upd kd rw 1) (upd (upd (upd (clr7 pa rw) (7 * rw + 0) r1) (7 * rw + 1) i) (7 * rw + 2) j) (vp_updL (vp_updL wd (2 * rw) 0) (2 * rw + 1) 0) ao fo uo ho xo) := hD
            refine lv_aload_n hx hb d_O_reified_76 rfl (lv_at hl 1 rfl) ?_
            refine lv_iload hx hb d_O_reified_77 (lv_at hl 0 rfl) ?_
            refine lv_iconst (v := 3) hx hb d_O_reified_79 (by decide) ?_
            refine lv_iload hx hb d_O_reified_80 (lv_at hl 5 rfl) ?_
            refine wVv (n := 3) (wr := []) (Wf := oW D q) (rest := []) hx hb hml hown hA (o_set l D q n P (rw + 1) a 0 (-1) lw s1 sd (upd kd rw 1) (upd (upd (upd (clr7 pa rw) (7 * rw + 0) r1) (7 * rw + 1) i) (7 * rw + 2) j) (vp_updL (vp_updL wd (2 * rw) 0) (2 * rw + 1) 0) ao fo uo ho xo rw 3 c1 _ (by omega) (by decide)) wv_O_80 ⟨by decide, by decide, by decide +kernel⟩ ⟨rfl, rfl, by decide, by decide⟩ rfl hl.1 ⟨Nat.le_of_ble_eq_true rfl, Nat.le_of_ble_eq_true rfl⟩ hP hK hD hS hAA hN [0, 1, 2, 3, 4, 5, 6, 7, 8, 9, 10, 11] [] rfl rfl (by decide) (by decide) (by decide) 0 1 rfl rfl rfl (Nat.le_of_ble_eq_true rfl) d_O_reified_82 (fun u H locs hu hP hD hS => ?_)
            subst hu
            have hP : va_P D vwCl (ow D q n P (rw + 1) a 0 (-1) lw s1 sd (upd kd rw 1) (upd (upd (upd (upd (clr7 pa rw) (7 * rw + 0) r1) (7 * rw + 1) i) (7 * rw + 2) j) (7 * rw + 3) c1) (vp_updL (vp_updL wd (2 * rw) 0) (2 * rw + 1) 0) ao fo uo ho xo) H := hP
            have hD : va_D A (ow D q n P (rw + 1) a 0 (-1) lw s1 sd (upd kd rw 1) (upd (upd (upd (upd (clr7 pa rw) (7 * rw + 0) r1) (7 * rw + 1) i) (7 * rw + 2) j) (7 * rw + 3) c1) (vp_updL (vp_updL wd (2 * rw) 0) (2 * rw + 1) 0) ao fo uo ho xo) := hD
            refine lv_iload hx hb d_O_reified_85 (lv_at hl 0 rfl) ?_
            exact eWi (n, P, (rw + 1), a, 0, -1, lw, s1, sd, upd kd rw 1, upd (upd (upd (upd (clr7 pa rw) (7 * rw + 0) r1) (7 * rw + 1) i) (7 * rw + 2) j) (7 * rw + 3) c1, vp_updL (vp_updL wd (2 * rw) 0) (2 * rw + 1) 0, ao, fo, uo, ho, xo) hx hb hr hlocks hP hK hD hS (Or.inr ⟨⟨h2, h10, h18, h30⟩, Or.inr ⟨hr12, rfl, rfl⟩⟩) d_O_reified_87
        · skip
          refine lv_if_ne (tgt := 38) hx hb d_O_reified_33 (by decide) (fun h => absurd h (by decide)) (fun _ => ?_)
          refine lv_iconst (v := (-1)) hx hb d_O_reified_36 (by decide) ?_
          exact eWi (n, P, rw, a, kn, an, lw, s1, sd, kd, pa, wd, ao, fo, uo, ho, xo) hx hb hr hlocks hP hK hD hS (Or.inl ⟨fun h => h30 (h.2.2.2), rfl, rfl⟩) d_O_reified_37
      · skip
        refine lv_if_eq (tgt := 36) hx hb d_O_reified_21 (by decide) (fun _ => ?_) (fun h => absurd h (by decide))
        refine lv_iconst (v := (-1)) hx hb d_O_reified_36 (by decide) ?_
        exact eWi (n, P, rw, a, kn, an, lw, s1, sd, kd, pa, wd, ao, fo, uo, ho, xo) hx hb hr hlocks hP hK hD hS (Or.inl ⟨fun h => h18 (h.2.2.1), rfl, rfl⟩) d_O_reified_37
    · skip
      refine lv_if_eq (tgt := 36) hx hb d_O_reified_13 (by decide) (fun _ => ?_) (fun h => absurd h (by decide))
      refine lv_iconst (v := (-1)) hx hb d_O_reified_36 (by decide) ?_
      exact eWi (n, P, rw, a, kn, an, lw, s1, sd, kd, pa, wd, ao, fo, uo, ho, xo) hx hb hr hlocks hP hK hD hS (Or.inl ⟨fun h => h10 (h.2.1), rfl, rfl⟩) d_O_reified_37
  · skip
    refine lv_if_eq (tgt := 36) hx hb d_O_reified_5 (by decide) (fun _ => ?_) (fun h => absurd h (by decide))
    refine lv_iconst (v := (-1)) hx hb d_O_reified_36 (by decide) ?_
    exact eWi (n, P, rw, a, kn, an, lw, s1, sd, kd, pa, wd, ao, fo, uo, ho, xo) hx hb hr hlocks hP hK hD hS (Or.inl ⟨fun h => h2 (h.1), rfl, rfl⟩) d_O_reified_37
end
end
section
section
theorem d_O_maximum_0 : decode b_O_maximum 0 = .ok (.aload_n 0, 1) := by decide +kernel
theorem d_O_maximum_1 : decode b_O_maximum 1 = .ok (.iload_n 1, 1) := by decide +kernel
theorem d_O_maximum_2 : decode b_O_maximum 2 = .ok (.invokevirtual 59, 3) := by decide +kernel
theorem d_O_maximum_5 : decode b_O_maximum 5 = .ok (.ifCond .eq 28, 3) := by decide +kernel
theorem d_O_maximum_8 : decode b_O_maximum 8 = .ok (.aload_n 0, 1) := by decide +kernel
theorem d_O_maximum_9 : decode b_O_maximum 9 = .ok (.iload_n 2, 1) := by decide +kernel
theorem d_O_maximum_10 : decode b_O_maximum 10 = .ok (.invokevirtual 59, 3) := by decide +kernel
theorem d_O_maximum_13 : decode b_O_maximum 13 = .ok (.ifCond .eq 20, 3) := by decide +kernel
theorem d_O_maximum_16 : decode b_O_maximum 16 = .ok (.aload_n 0, 1) := by decide +kernel
theorem d_O_maximum_17 : decode b_O_maximum 17 = .ok (.iload_n 3, 1) := by decide +kernel
theorem d_O_maximum_18 : decode b_O_maximum 18 = .ok (.invokevirtual 69, 3) := by decide +kernel
theorem d_O_maximum_21 : decode b_O_maximum 21 = .ok (.ifCond .eq 12, 3) := by decide +kernel
theorem d_O_maximum_24 : decode b_O_maximum 24 = .ok (.aload_n 0, 1) := by decide +kernel
theorem d_O_maximum_25 : decode b_O_maximum 25 = .ok (.iload 4, 2) := by decide +kernel
theorem d_O_maximum_27 : decode b_O_maximum 27 = .ok (.invokevirtual 69, 3) := by decide +kernel
theorem d_O_maximum_30 : decode b_O_maximum 30 = .ok (.ifCond .ne 5, 3) := by decide +kernel
theorem d_O_maximum_33 : decode b_O_maximum 33 = .ok (.iconst (-1), 1) := by decide +kernel
theorem d_O_maximum_34 : decode b_O_maximum 34 = .ok (.ireturn, 1) := by decide +kernel
theorem d_O_maximum_35 : decode b_O_maximum 35 = .ok (.aload_n 0, 1) := by decide +kernel
theorem d_O_maximum_36 : decode b_O_maximum 36 = .ok (.iconst 2, 1) := by decide +kernel
theorem d_O_maximum_37 : decode b_O_maximum 37 = .ok (.lconst 0, 1) := by decide +kernel
theorem d_O_maximum_38 : decode b_O_maximum 38 = .ok (.lconst 0, 1) := by decide +kernel
theorem d_O_maximum_39 : decode b_O_maximum 39 = .ok (.invokevirtual 76, 3) := by decide +kernel
theorem d_O_maximum_42 : decode b_O_maximum 42 = .ok (.istore 5, 2) := by decide +kernel
theorem d_O_maximum_44 : decode b_O_maximum 44 = .ok (.iload 5, 2) := by decide +kernel
theorem d_O_maximum_46 : decode b_O_maximum 46 = .ok (.ifCond .lt 36, 3) := by decide +kernel
theorem d_O_maximum_49 : decode b_O_maximum 49 = .ok (.aload_n 0, 1) := by decide +kernel
theorem d_O_maximum_50 : decode b_O_maximum 50 = .ok (.iload 5, 2) := by decide +kernel
theorem d_O_maximum_52 : decode b_O_maximum 52 = .ok (.iconst 0, 1) := by decide +kernel
theorem d_O_maximum_53 : decode b_O_maximum 53 = .ok (.iload_n 1, 1) := by decide +kernel
theorem d_O_maximum_54 : decode b_O_maximum 54 = .ok (.invokevirtual 80, 3) := by decide +kernel
theorem d_O_maximum_57 : decode b_O_maximum 57 = .ok (.aload_n 0, 1) := by decide +kernel
theorem d_O_maximum_58 : decode b_O_maximum 58 = .ok (.iload 5, 2) := by decide +kernel
theorem d_O_maximum_60 : decode b_O_maximum 60 = .ok (.iconst 1, 1) := by decide +kernel
theorem d_O_maximum_61 : decode b_O_maximum 61 = .ok (.iload_n 2, 1) := by decide +kernel
theorem d_O_maximum_62 : decode b_O_maximum 62 = .ok (.invokevirtual 80, 3) := by decide +kernel
theorem d_O_maximum_65 : decode b_O_maximum 65 = .ok (.aload_n 0, 1) := by decide +kernel
theorem d_O_maximum_66 : decode b_O_maximum 66 = .ok (.iload 5, 2) := by decide +kernel
theorem d_O_maximum_68 : decode b_O_maximum 68 = .ok (.iconst 2, 1) := by decide +kernel
theorem d_O_maximum_69 : decode b_O_maximum 69 = .ok (.iload_n 3, 1) := by decide +kernel
theorem d_O_maximum_70 : decode b_O_maximum 70 = .ok (.invokevirtual 80, 3) := by decide +kernel
theorem d_O_maximum_73 : decode b_O_maximum 73 = .ok (.aload_n 0, 1) := by decide +kernel
theorem d_O_maximum_74 : decode b_O_maximum 74 = .ok (.iload 5, 2) := by decide +kernel
theorem d_O_maximum_76 : decode b_O_maximum 76 = .ok (.iconst 3, 1) := by decide +kernel
theorem d_O_maximum_77 : decode b_O_maximum 77 = .ok (.iload 4, 2) := by decide +kernel
theorem d_O_maximum_79 : decode b_O_maximum 79 = .ok (.invokevirtual 80, 3) := by decide +kernel
theorem d_O_maximum_82 : decode b_O_maximum 82 = .ok (.iload 5, 2) := by decide +kernel
theorem d_O_maximum_84 : decode b_O_maximum 84 = .ok (.ireturn, 1) := by decide +kernel
set_option maxRecDepth 100000 in
set_option maxHeartbeats 4000000 in
theorem o_maximum (l : Launch) (D : va_G) (q : Nat → Nat) (n P rw a : Nat) (kn an : Int32) (lw s1 sd kd pa : Nat → Int32) (wd : Nat → Int64) (ao fo uo ho xo : Nat → Int32) (r1 i j v : Int32) (sz : Nat) (hrw : rw ≤ 12) : Met l y_O_maximum (wsm y_O_maximum b_O_maximum 6 (some .int)) { frames := 2, cells := 0, slots := 0, locals := 46 } (va_Pc [.ref (q 0), .int r1, .int i, .int j, .int v] (fun U => U.heap.size = sz ∧ cPre D (ow D q n P rw a kn an lw s1 sd kd pa wd ao fo uo ho xo) U)) (va_Qi (fun (r : Int32) (u : OS) => (¬ (iv n r1 ∧ iv n i ∧ iva n j ∧ iva n v) ∧ r = -1 ∧ u = (n, P, rw, a, kn, an, lw, s1, sd, kd, pa, wd, ao, fo, uo, ho, xo)) ∨ ((iv n r1 ∧ iv n i ∧ iva n j ∧ iva n v) ∧ ((¬ rw < 12 ∧ r = -2 ∧ u = (n, P, rw, a, kn, an, lw, s1, sd, kd, pa, wd, ao, fo, uo, ho, xo)) ∨ (rw < 12 ∧ r = nI rw ∧ u = (n, P, rw + 1, a, 0, -1, lw, s1, sd, upd kd rw 2, upd (upd (upd (upd (clr7 pa rw) (7 * rw + 0) r1) (7 * rw + 1) i) (7 * rw + 2) j) (7 * rw + 3) v, vp_updL (vp_updL wd (2 * rw) 0) (2 * rw + 1) 0, ao, fo, uo, ho, xo))))) (fun u t => xB D (oW D q u) (va_A (ow D q n P rw a kn an lw s1 sd kd pa wd ao fo uo ho xo) sz) t) (va_A (ow D q n P rw a kn an lw s1 sd kd pa wd ao fo uo ho xo) sz)) 0 0 (va_A (ow D q n P rw a kn an lw s1 sd kd pa wd ao fo uo ho xo) sz) := by
  refine met_W (Qf := fun A => va_Qi (fun (r : Int32) (u : OS) => (¬ (iv n r1 ∧ iv n i ∧ iva n j ∧ iva n v) ∧ r = -1 ∧ u = (n, P, rw, a, kn, an, lw, s1, sd, kd, pa, wd, ao, fo, uo, ho, xo)) ∨ ((iv n r1 ∧ iv n i ∧ iva n j ∧ iva n v) ∧ ((¬ rw < 12 ∧ r = -2 ∧ u = (n, P, rw, a, kn, an, lw, s1, sd, kd, pa, wd, ao, fo, uo, ho, xo)) ∨ (rw < 12 ∧ r = nI rw ∧ u = (n, P, rw + 1, a, 0, -1, lw, s1, sd, upd kd rw 2, upd (upd (upd (upd (clr7 pa rw) (7 * rw + 0) r1) (7 * rw + 1) i) (7 * rw + 2) j) (7 * rw + 3) v, vp_updL (vp_updL wd (2 * rw) 0) (2 * rw + 1) 0, ao, fo, uo, ho, xo))))) (fun u t => xB D (oW D q u) A t) A) (by decide) (Nat.le_of_ble_eq_true rfl) ?_
  intro p e s m below meth c ls A hx hb hr hlocks hml hown hin hA hP hK hD hN hl hS hAA
  have hown : s.vm.findClass R_O = some m.cls := hown
  have hl : lv_has ls 6 [(0, .ref (q 0)), (1, .int r1), (2, .int i), (3, .int j), (4, .int v)] := hl
  refine lv_aload_n hx hb d_O_maximum_0 rfl (lv_at hl 0 rfl) ?_
  refine lv_iload_n hx hb d_O_maximum_1 rfl (lv_at hl 1 rfl) ?_
  refine rV (n := 1) (rest := []) hx hb hml hown hA (o_isVariable l D q n P rw a kn an lw s1 sd kd pa wd ao fo uo ho xo r1) wv_O_59 ⟨by decide, by decide, by decide +kernel⟩ ⟨rfl, rfl, by decide, by decide⟩ rfl hl.1 ⟨Nat.le_of_ble_eq_true rfl, Nat.le_of_ble_eq_true rfl⟩ hP hK hD hN 0 1 rfl rfl rfl (Nat.le_of_ble_eq_true rfl) d_O_maximum_2 (fun r hr9 => ?_)
  rcases zb_c hr9 with ⟨rfl, h2⟩ | ⟨rfl, h2⟩
  · skip
    refine lv_if_eq (tgt := 33) hx hb d_O_maximum_5 (by decide) (fun h => absurd h (by decide)) (fun _ => ?_)
    refine lv_aload_n hx hb d_O_maximum_8 rfl (lv_at hl 0 rfl) ?_
    refine lv_iload_n hx hb d_O_maximum_9 rfl (lv_at hl 2 rfl) ?_
    refine rV (n := 1) (rest := []) hx hb hml hown hA (o_isVariable l D q n P rw a kn an lw s1 sd kd pa wd ao fo uo ho xo i) wv_O_59 ⟨by decide, by decide, by decide +kernel⟩ ⟨rfl, rfl, by decide, by decide⟩ rfl hl.1 ⟨Nat.le_of_ble_eq_true rfl, Nat.le_of_ble_eq_true rfl⟩ hP hK hD hN 0 1 rfl rfl rfl (Nat.le_of_ble_eq_true rfl) d_O_maximum_10 (fun r hr9 => ?_)
    rcases zb_c hr9 with ⟨rfl, h10⟩ | ⟨rfl, h10⟩
    · skip
      refine lv_if_eq (tgt := 33) hx hb d_O_maximum_13 (by decide) (fun h => absurd h (by decide)) (fun _ => ?_)
      refine lv_aload_n hx hb d_O_maximum_16 rfl (lv_at hl 0 rfl) ?_
      refine lv_iload_n hx hb d_O_maximum_17 rfl (lv_at hl 3 rfl) ?_
      refine rV (n := 1) (rest := []) hx hb hml hown hA (o_isPart l D q n P rw a kn an lw s1 sd kd pa wd ao fo uo ho xo j) wv_O_69 ⟨by decide, by decide, by decide +kernel⟩ ⟨rfl, rfl, by decide, by decide⟩ rfl hl.1 ⟨Nat.le_of_ble_eq_true rfl, Nat.le_of_ble_eq_true rfl⟩ hP hK hD hN 0 1 rfl rfl rfl (Nat.le_of_ble_eq_true rfl) d_O_maximum_18 (fun r hr9 => ?_)
      rcases zb_c hr9 with ⟨rfl, h18⟩ | ⟨rfl, h18⟩
      · skip
        refine lv_if_eq (tgt := 33) hx hb d_O_maximum_21 (by decide) (fun h => absurd h (by decide)) (fun _ => ?_)
        refine lv_aload_n hx hb d_O_maximum_24 rfl (lv_at hl 0 rfl) ?_
        refine lv_iload hx hb d_O_maximum_25 (lv_at hl 4 rfl) ?_
        refine rV (n := 1) (rest := []) hx hb hml hown hA (o_isPart l D q n P rw a kn an lw s1 sd kd pa wd ao fo uo ho xo v) wv_O_69 ⟨by decide, by decide, by decide +kernel⟩ ⟨rfl, rfl, by decide, by decide⟩ rfl hl.1 ⟨Nat.le_of_ble_eq_true rfl, Nat.le_of_ble_eq_true rfl⟩ hP hK hD hN 0 1 rfl rfl rfl (Nat.le_of_ble_eq_true rfl) d_O_maximum_27 (fun r hr9 => ?_)
        rcases zb_c hr9 with ⟨rfl, h27⟩ | ⟨rfl, h27⟩
        · skip
          refine lv_if_ne (tgt := 35) hx hb d_O_maximum_30 (by decide) (fun _ => ?_) (fun h => absurd h (by decide))
          refine lv_aload_n hx hb d_O_maximum_35 rfl (lv_at hl 0 rfl) ?_
          refine lv_iconst (v := 2) hx hb d_O_maximum_36 (by decide) ?_
          refine lv_lconst (v := 0) hx hb d_O_maximum_37 (by decide) ?_
          refine lv_lconst (v := 0) hx hb d_O_maximum_38 (by decide) ?_
          refine wVi (n := 3) (wr := []) (Wf := oW D q) (rest := []) hx hb hml hown hA (o_add l D q n P rw a kn an lw s1 sd kd pa wd ao fo uo ho xo 2 0 0 _ hrw) wv_O_76 ⟨by decide, by decide, by decide +kernel⟩ ⟨rfl, rfl, by decide, by decide⟩ rfl hl.1 ⟨Nat.le_of_ble_eq_true rfl, Nat.le_of_ble_eq_true rfl⟩ hP hK hD hS hAA hN [0, 1, 2, 3, 4, 5, 6, 7, 8, 9, 10, 11] [] rfl rfl (by decide) (by decide) (by decide) 0 1 rfl rfl rfl (Nat.le_of_ble_eq_true rfl) d_O_maximum_39 (fun r u H locs hu hP hD hS => ?_)
          rcases hu with ⟨hr12, rfl, rfl⟩ | ⟨hr12, rfl, rfl⟩
          · skip
            have hP : va_P D vwCl (ow D q n P rw a kn an lw s1 sd kd pa wd ao fo uo ho xo) H := hP
            have hD : va_D A (ow D q n P rw a kn an lw s1 sd kd pa wd ao fo uo ho xo) := hD
            refine lv_istore hx hb d_O_maximum_42 hl (by decide) rfl (fun ls hl => ?_)
            have hl : lv_has ls 6 [(5, .int (-2)), (0, .ref (q 0)), (1, .int r1), (2, .int i), (3, .int j), (4, .int v)] := hl
            refine lv_iload hx hb d_O_maximum_44 (lv_at hl 0 rfl) ?_
            refine lv_if_lt (tgt := 82) hx hb d_O_maximum_46 (by decide) (fun _ => ?_) (fun h => absurd h (by decide))
            refine lv_iload hx hb d_O_maximum_82 (lv_at hl 0 rfl) ?_
            exact eWi (n, P, rw, a, kn, an, lw, s1, sd, kd, pa, wd, ao, fo, uo, ho, xo) hx hb hr hlocks hP hK hD hS (Or.inr ⟨⟨h2, h10, h18, h27⟩, Or.inl ⟨hr12, rfl, rfl⟩⟩) d_O_maximum_84
          · skip
            have hP : va_P D vwCl (ow D q n P (rw + 1) a 0 (-1) lw s1 sd (upd kd rw 2) (clr7 pa rw) (vp_updL (vp_updL wd (2 * rw) 0) (2 * rw + 1) 0) ao fo uo ho xo) H := hP
            have hD : va_D A (ow D q n P (rw + 1) a 0 (-1) lw s1 sd (upd kd rw 2) (clr7 pa rw) (vp_updL (vp_updL wd (2 * rw) 0) (2 * rw + 1) 0) ao fo uo ho xo) := hD
            refine lv_istore hx hb d_O_maximum_42 hl (by decide) rfl (fun ls hl => ?_)
            have hl : lv_has ls 6 [(5, .int (nI rw)), (0, .ref (q 0)), (1, .int r1), (2, .int i), (3, .int j), (4, .int v)] := hl
            refine lv_iload hx hb d_O_maximum_44 (lv_at hl 0 rfl) ?_
            refine lv_if_lt (tgt := 82) hx hb d_O_maximum_46 (by decide) (fun h => absurd h (nI_pos (by omega))) (fun h46 => ?_)
            refine lv_aload_n hx hb d_O_maximum_49 rfl (lv_at hl 1 rfl) ?_
            refine lv_iload hx hb d_O_maximum_50 (lv_at hl 0 rfl) ?_
            refine lv_iconst (v := 0) hx hb d_O_maximum_52 (by decide) ?_
            refine lv_iload_n hx hb d_O_maximum_53 rfl (lv_at hl 2 rfl) ?_
            refine wVv (n := 3) (wr := []) (Wf := oW D q) (rest := []) hx hb hml hown hA (o_set l D q n P (rw + 1) a 0 (-1) lw s1 sd (upd kd rw 2) (clr7 pa rw) (vp_updL (vp_updL wd (2 * rw) 0) (2 * rw + 1) 0) ao fo uo ho xo rw 0 r1 _ (by omega) (by decide)) wv_O_80 ⟨by decide, by decide, by decide +kernel⟩ ⟨rfl, rfl, by decide, by decide⟩ rfl hl.1 ⟨Nat.le_of_ble_eq_true rfl, Nat.le_of_ble_eq_true rfl⟩ hP hK hD hS hAA hN [0, 1, 2, 3, 4, 5, 6, 7, 8, 9, 10, 11] [] rfl rfl (by decide) (by decide) (by decide) 0 1 rfl rfl rfl (Nat.le_of_ble_eq_true rfl) d_O_maximum_54 (fun u H locs hu hP hD hS => ?_)
            subst hu
            have hP : va_P D vwCl (ow D q n P (rw + 1) a 0 (-1) lw s1 sd (upd kd rw 2) (upd (clr7 pa rw) (7 * rw + 0) r1) (vp_updL (vp_updL wd (2 * rw) 0) (2 * rw + 1) 0) ao fo uo ho xo) H := hP
            have hD : va_D A (ow D q n P (rw + 1) a 0 (-1) lw s1 sd (upd kd rw 2) (upd (clr7 pa rw) (7 * rw + 0) r1) (vp_updL (vp_updL wd (2 * rw) 0) (2 * rw + 1) 0) ao fo uo ho xo) := hD
            refine lv_aload_n hx hb d_O_maximum_57 rfl (lv_at hl 1 rfl) ?_
            refine lv_iload hx hb d_O_maximum_58 (lv_at hl 0 rfl) ?_
            refine lv_iconst (v := 1) hx hb d_O_maximum_60 (by decide) ?_
            refine lv_iload_n hx hb d_O_maximum_61 rfl (lv_at hl 3 rfl) ?_
            refine wVv (n := 3) (wr := []) (Wf := oW D q) (rest := []) hx hb hml hown hA (o_set l D q n P (rw + 1) a 0 (-1) lw s1 sd (upd kd rw 2) (upd (clr7 pa rw) (7 * rw + 0) r1) (vp_updL (vp_updL wd (2 * rw) 0) (2 * rw + 1) 0) ao fo uo ho xo rw 1 i _ (by omega) (by decide)) wv_O_80 ⟨by decide, by decide, by decide +kernel⟩ ⟨rfl, rfl, by decide, by decide⟩ rfl hl.1 ⟨Nat.le_of_ble_eq_true rfl, Nat.le_of_ble_eq_true rfl⟩ hP hK hD hS hAA hN [0, 1, 2, 3, 4, 5, 6, 7, 8, 9, 10, 11] [] rfl rfl (by decide) (by decide) (by decide) 0 1 rfl rfl rfl (Nat.le_of_ble_eq_true rfl) d_O_maximum_62 (fun u H locs hu hP hD hS => ?_)
            subst hu
            have hP : va_P D vwCl (ow D q n P (rw + 1) a 0 (-1) lw s1 sd (upd kd rw 2) (upd (upd (clr7 pa rw) (7 * rw + 0) r1) (7 * rw + 1) i) (vp_updL (vp_updL wd (2 * rw) 0) (2 * rw + 1) 0) ao fo uo ho xo) H := hP
            have hD : va_D A (ow D q n P (rw + 1) a 0 (-1) lw s1 sd (upd kd rw 2) (upd (upd (clr7 pa rw) (7 * rw + 0) r1) (7 * rw + 1) i) (vp_updL (vp_updL wd (2 * rw) 0) (2 * rw + 1) 0) ao fo uo ho xo) := hD
            refine lv_aload_n hx hb d_O_maximum_65 rfl (lv_at hl 1 rfl) ?_
            refine lv_iload hx hb d_O_maximum_66 (lv_at hl 0 rfl) ?_
            refine lv_iconst (v := 2) hx hb d_O_maximum_68 (by decide) ?_
            refine lv_iload_n hx hb d_O_maximum_69 rfl (lv_at hl 4 rfl) ?_
            refine wVv (n := 3) (wr := []) (Wf := oW D q) (rest := []) hx hb hml hown hA (o_set l D q n P (rw + 1) a 0 (-1) lw s1 sd (upd kd rw 2) (upd (upd (clr7 pa rw) (7 * rw + 0) r1) (7 * rw + 1) i) (vp_updL (vp_updL wd (2 * rw) 0) (2 * rw + 1) 0) ao fo uo ho xo rw 2 j _ (by omega) (by decide)) wv_O_80 ⟨by decide, by decide, by decide +kernel⟩ ⟨rfl, rfl, by decide, by decide⟩ rfl hl.1 ⟨Nat.le_of_ble_eq_true rfl, Nat.le_of_ble_eq_true rfl⟩ hP hK hD hS hAA hN [0, 1, 2, 3, 4, 5, 6, 7, 8, 9, 10, 11] [] rfl rfl (by decide) (by decide) (by decide) 0 1 rfl rfl rfl (Nat.le_of_ble_eq_true rfl) d_O_maximum_70 (fun u H locs hu hP hD hS => ?_)
            subst hu
            have hP : va_P D vwCl (ow D q n P (rw + 1) a 0 (-1) lw s1 sd (upd kd rw 2) (upd (upd (upd (clr7 pa rw) (7 * rw + 0) r1) (7 * rw + 1) i) (7 * rw + 2) j) (vp_updL (vp_updL wd (2 * rw) 0) (2 * rw + 1) 0) ao fo uo ho xo) H := hP
            have hD : va_D A (ow D q n P (rw + 1) a 0 (-1) lw s1 sd (upd kd rw 2) (upd (upd (upd (clr7 pa rw) (7 * rw + 0) r1) (7 * rw + 1) i) (7 * rw + 2) j) (vp_updL (vp_updL wd (2 * rw) 0) (2 * rw + 1) 0) ao fo uo ho xo) := hD
            refine lv_aload_n hx hb d_O_maximum_73 rfl (lv_at hl 1 rfl) ?_
            refine lv_iload hx hb d_O_maximum_74 (lv_at hl 0 rfl) ?_
            refine lv_iconst (v := 3) hx hb d_O_maximum_76 (by decide) ?_
            refine lv_iload hx hb d_O_maximum_77 (lv_at hl 5 rfl) ?_
            refine wVv (n := 3) (wr := []) (Wf := oW D q) (rest := []) hx hb hml hown hA (o_set l D q n P (rw + 1) a 0 (-1) lw s1 sd (upd kd rw 2) (upd (upd (upd (clr7 pa rw) (7 * rw + 0) r1) (7 * rw + 1) i) (7 * rw + 2) j) (vp_updL (vp_updL wd (2 * rw) 0) (2 * rw + 1) 0) ao fo uo ho xo rw 3 v _ (by omega) (by decide)) wv_O_80 ⟨by decide, by decide, by decide +kernel⟩ ⟨rfl, rfl, by decide, by decide⟩ rfl hl.1 ⟨Nat.le_of_ble_eq_true rfl, Nat.le_of_ble_eq_true rfl⟩ hP hK hD hS hAA hN [0, 1, 2, 3, 4, 5, 6, 7, 8, 9, 10, 11] [] rfl rfl (by decide) (by decide) (by decide) 0 1 rfl rfl rfl (Nat.le_of_ble_eq_true rfl) d_O_maximum_79 (fun u H locs hu hP hD hS => ?_)
            subst hu
            have hP : va_P D vwCl (ow D q n P (rw + 1) a 0 (-1) lw s1 sd (upd kd rw 2) (upd (upd (upd (upd (clr7 pa rw) (7 * rw + 0) r1) (7 * rw + 1) i) (7 * rw + 2) j) (7 * rw + 3) v) (vp_updL (vp_updL wd (2 * rw) 0) (2 * rw + 1) 0) ao fo uo ho xo) H := hP
            have hD : va_D A (ow D q n P (rw + 1) a 0 (-1) lw s1 sd (upd kd rw 2) (upd (upd (upd (upd (clr7 pa rw) (7 * rw + 0) r1) (7 * rw + 1) i) (7 * rw + 2) j) (7 * rw + 3) v) (vp_updL (vp_updL wd (2 * rw) 0) (2 * rw + 1) 0) ao fo uo ho xo) := hD
            refine lv_iload hx hb d_O_maximum_82 (lv_at hl 0 rfl) ?_
            exact eWi (n, P, (rw + 1), a, 0, -1, lw, s1, sd, upd kd rw 2, upd (upd (upd (upd (clr7 pa rw) (7 * rw + 0) r1) (7 * rw + 1) i) (7 * rw + 2) j) (7 * rw + 3) v, vp_updL (vp_updL wd (2 * rw) 0) (2 * rw + 1) 0, ao, fo, uo, ho, xo) hx hb hr hlocks hP hK hD hS (Or.inr ⟨⟨h2, h10, h18, h27⟩, Or.inr ⟨hr12, rfl, rfl⟩⟩) d_O_maximum_84
        · skip
          refine lv_if_ne (tgt := 35) hx hb d_O_maximum_30 (by decide) (fun h => absurd h (by decide)) (fun _ => ?_)
          refine lv_iconst (v := (-1)) hx hb d_O_maximum_33 (by decide) ?_
          exact eWi (n, P, rw, a, kn, an, lw, s1, sd, kd, pa, wd, ao, fo, uo, ho, xo) hx hb hr hlocks hP hK hD hS (Or.inl ⟨fun h => h27 (h.2.2.2), rfl, rfl⟩) d_O_maximum_34
      · skip
        refine lv_if_eq (tgt := 33) hx hb d_O_maximum_21 (by decide) (fun _ => ?_) (fun h => absurd h (by decide))
        refine lv_iconst (v := (-1)) hx hb d_O_maximum_33 (by decide) ?_
        exact eWi (n, P, rw, a, kn, an, lw, s1, sd, kd, pa, wd, ao, fo, uo, ho, xo) hx hb hr hlocks hP hK hD hS (Or.inl ⟨fun h => h18 (h.2.2.1), rfl, rfl⟩) d_O_maximum_34
    · skip
      refine lv_if_eq (tgt := 33) hx hb d_O_maximum_13 (by decide) (fun _ => ?_) (fun h => absurd h (by decide))
      refine lv_iconst (v := (-1)) hx hb d_O_maximum_33 (by decide) ?_
      exact eWi (n, P, rw, a, kn, an, lw, s1, sd, kd, pa, wd, ao, fo, uo, ho, xo) hx hb hr hlocks hP hK hD hS (Or.inl ⟨fun h => h10 (h.2.1), rfl, rfl⟩) d_O_maximum_34
  · skip
    refine lv_if_eq (tgt := 33) hx hb d_O_maximum_5 (by decide) (fun _ => ?_) (fun h => absurd h (by decide))
    refine lv_iconst (v := (-1)) hx hb d_O_maximum_33 (by decide) ?_
    exact eWi (n, P, rw, a, kn, an, lw, s1, sd, kd, pa, wd, ao, fo, uo, ho, xo) hx hb hr hlocks hP hK hD hS (Or.inl ⟨fun h => h2 (h.1), rfl, rfl⟩) d_O_maximum_34
end
end
section
section
theorem d_O_element_0 : decode b_O_element 0 = .ok (.aload_n 0, 1) := by decide +kernel
theorem d_O_element_1 : decode b_O_element 1 = .ok (.iload_n 1, 1) := by decide +kernel
theorem d_O_element_2 : decode b_O_element 2 = .ok (.invokevirtual 59, 3) := by decide +kernel
theorem d_O_element_5 : decode b_O_element 5 = .ok (.ifCond .eq 11, 3) := by decide +kernel
theorem d_O_element_8 : decode b_O_element 8 = .ok (.aload_n 0, 1) := by decide +kernel
theorem d_O_element_9 : decode b_O_element 9 = .ok (.iload_n 2, 1) := by decide +kernel
theorem d_O_element_10 : decode b_O_element 10 = .ok (.invokevirtual 59, 3) := by decide +kernel
theorem d_O_element_13 : decode b_O_element 13 = .ok (.ifCond .ne 5, 3) := by decide +kernel
theorem d_O_element_16 : decode b_O_element 16 = .ok (.iconst (-1), 1) := by decide +kernel
theorem d_O_element_17 : decode b_O_element 17 = .ok (.ireturn, 1) := by decide +kernel
theorem d_O_element_18 : decode b_O_element 18 = .ok (.aload_n 0, 1) := by decide +kernel
theorem d_O_element_19 : decode b_O_element 19 = .ok (.iconst 3, 1) := by decide +kernel
theorem d_O_element_20 : decode b_O_element 20 = .ok (.lload_n 3, 1) := by decide +kernel
theorem d_O_element_21 : decode b_O_element 21 = .ok (.lconst 0, 1) := by decide +kernel
theorem d_O_element_22 : decode b_O_element 22 = .ok (.invokevirtual 76, 3) := by decide +kernel
theorem d_O_element_25 : decode b_O_element 25 = .ok (.istore 5, 2) := by decide +kernel
theorem d_O_element_27 : decode b_O_element 27 = .ok (.iload 5, 2) := by decide +kernel
theorem d_O_element_29 : decode b_O_element 29 = .ok (.ifCond .lt 19, 3) := by decide +kernel
theorem d_O_element_32 : decode b_O_element 32 = .ok (.aload_n 0, 1) := by decide +kernel
theorem d_O_element_33 : decode b_O_element 33 = .ok (.iload 5, 2) := by decide +kernel
theorem d_O_element_35 : decode b_O_element 35 = .ok (.iconst 0, 1) := by decide +kernel
theorem d_O_element_36 : decode b_O_element 36 = .ok (.iload_n 1, 1) := by decide +kernel
theorem d_O_element_37 : decode b_O_element 37 = .ok (.invokevirtual 80, 3) := by decide +kernel
theorem d_O_element_40 : decode b_O_element 40 = .ok (.aload_n 0, 1) := by decide +kernel
theorem d_O_element_41 : decode b_O_element 41 = .ok (.iload 5, 2) := by decide +kernel
theorem d_O_element_43 : decode b_O_element 43 = .ok (.iconst 1, 1) := by decide +kernel
theorem d_O_element_44 : decode b_O_element 44 = .ok (.iload_n 2, 1) := by decide +kernel
theorem d_O_element_45 : decode b_O_element 45 = .ok (.invokevirtual 80, 3) := by decide +kernel
theorem d_O_element_48 : decode b_O_element 48 = .ok (.iload 5, 2) := by decide +kernel
theorem d_O_element_50 : decode b_O_element 50 = .ok (.ireturn, 1) := by decide +kernel
set_option maxRecDepth 100000 in
set_option maxHeartbeats 4000000 in
theorem o_element (l : Launch) (D : va_G) (q : Nat → Nat) (n P rw a : Nat) (kn an : Int32) (lw s1 sd kd pa : Nat → Int32) (wd : Nat → Int64) (ao fo uo ho xo : Nat → Int32) (r1 i : Int32) (tb : Int64) (sz : Nat) (hrw : rw ≤ 12) : Met l y_O_element (wsm y_O_element b_O_element 6 (some .int)) { frames := 2, cells := 0, slots := 0, locals := 46 } (va_Pc [.ref (q 0), .int r1, .int i, .long tb] (fun U => U.heap.size = sz ∧ cPre D (ow D q n P rw a kn an lw s1 sd kd pa wd ao fo uo ho xo) U)) (va_Qi (fun (r : Int32) (u : OS) => (¬ (iv n r1 ∧ iv n i) ∧ r = -1 ∧ u = (n, P, rw, a, kn, an, lw, s1, sd, kd, pa, wd, ao, fo, uo, ho, xo)) ∨ ((iv n r1 ∧ iv n i) ∧ ((¬ rw < 12 ∧ r = -2 ∧ u = (n, P, rw, a, kn, an, lw, s1, sd, kd, pa, wd, ao, fo, uo, ho, xo)) ∨ (rw < 12 ∧ r = nI rw ∧ u = (n, P, rw + 1, a, 0, -1, lw, s1, sd, upd kd rw 3, upd (upd (clr7 pa rw) (7 * rw + 0) r1) (7 * rw + 1) i, vp_updL (vp_updL wd (2 * rw) tb) (2 * rw + 1) 0, ao, fo, uo, ho, xo))))) (fun u t => xB D (oW D q u) (va_A (ow D q n P rw a kn an lw s1 sd kd pa wd ao fo uo ho xo) sz) t) (va_A (ow D q n P rw a kn an lw s1 sd kd pa wd ao fo uo ho xo) sz)) 0 0 (va_A (ow D q n P rw a kn an lw s1 sd kd pa wd ao fo uo ho xo) sz) := by
  refine met_W (Qf := fun A => va_Qi (fun (r : Int32) (u : OS) => (¬ (iv n r1 ∧ iv n i) ∧ r = -1 ∧ u = (n, P, rw, a, kn, an, lw, s1, sd, kd, pa, wd, ao, fo, uo, ho, xo)) ∨ ((iv n r1 ∧ iv n i) ∧ ((¬ rw < 12 ∧ r = -2 ∧ u = (n, P, rw, a, kn, an, lw, s1, sd, kd, pa, wd, ao, fo, uo, ho, xo)) ∨ (rw < 12 ∧ r = nI rw ∧ u = (n, P, rw + 1, a, 0, -1, lw, s1, sd, upd kd rw 3, upd (upd (clr7 pa rw) (7 * rw + 0) r1) (7 * rw + 1) i, vp_updL (vp_updL wd (2 * rw) tb) (2 * rw + 1) 0, ao, fo, uo, ho, xo))))) (fun u t => xB D (oW D q u) A t) A) (by decide) (Nat.le_of_ble_eq_true rfl) ?_
  intro p e s m below meth c ls A hx hb hr hlocks hml hown hin hA hP hK hD hN hl hS hAA
  have hown : s.vm.findClass R_O = some m.cls := hown
  have hl : lv_has ls 6 [(0, .ref (q 0)), (1, .int r1), (2, .int i), (3, .long tb)] := hl
  refine lv_aload_n hx hb d_O_element_0 rfl (lv_at hl 0 rfl) ?_
  refine lv_iload_n hx hb d_O_element_1 rfl (lv_at hl 1 rfl) ?_
  refine rV (n := 1) (rest := []) hx hb hml hown hA (o_isVariable l D q n P rw a kn an lw s1 sd kd pa wd ao fo uo ho xo r1) wv_O_59 ⟨by decide, by decide, by decide +kernel⟩ ⟨rfl, rfl, by decide, by decide⟩ rfl hl.1 ⟨Nat.le_of_ble_eq_true rfl, Nat.le_of_ble_eq_true rfl⟩ hP hK hD hN 0 1 rfl rfl rfl (Nat.le_of_ble_eq_true rfl) d_O_element_2 (fun r hr9 => ?_)
  rcases zb_c hr9 with ⟨rfl, h2⟩ | ⟨rfl, h2⟩
  · skip
    refine lv_if_eq (tgt := 16) hx hb d_O_element_5 (by decide) (fun h => absurd h (by decide)) (fun _ => ?_)
    refine lv_aload_n hx hb d_O_element_8 rfl (lv_at hl 0 rfl) ?_
    refine lv_iload_n hx hb d_O_element_9 rfl (lv_at hl 2 rfl) ?_
    refine rV (n := 1) (rest := []) hx hb hml hown hA (o_isVariable l D q n P rw a kn an lw s1 sd kd pa wd ao fo uo ho xo i) wv_O_59 ⟨by decide, by decide, by decide +kernel⟩ ⟨rfl, rfl, by decide, by decide⟩ rfl hl.1 ⟨Nat.le_of_ble_eq_true rfl, Nat.le_of_ble_eq_true rfl⟩ hP hK hD hN 0 1 rfl rfl rfl (Nat.le_of_ble_eq_true rfl) d_O_element_10 (fun r hr9 => ?_)
    rcases zb_c hr9 with ⟨rfl, h10⟩ | ⟨rfl, h10⟩
    · skip
      refine lv_if_ne (tgt := 18) hx hb d_O_element_13 (by decide) (fun _ => ?_) (fun h => absurd h (by decide))
      refine lv_aload_n hx hb d_O_element_18 rfl (lv_at hl 0 rfl) ?_
      refine lv_iconst (v := 3) hx hb d_O_element_19 (by decide) ?_
      refine lv_lload_n hx hb d_O_element_20 rfl (lv_at hl 3 rfl) ?_
      refine lv_lconst (v := 0) hx hb d_O_element_21 (by decide) ?_
      refine wVi (n := 3) (wr := []) (Wf := oW D q) (rest := []) hx hb hml hown hA (o_add l D q n P rw a kn an lw s1 sd kd pa wd ao fo uo ho xo 3 tb 0 _ hrw) wv_O_76 ⟨by decide, by decide, by decide +kernel⟩ ⟨rfl, rfl, by decide, by decide⟩ rfl hl.1 ⟨Nat.le_of_ble_eq_true rfl, Nat.le_of_ble_eq_true rfl⟩ hP hK hD hS hAA hN [0, 1, 2, 3, 4, 5, 6, 7, 8, 9, 10, 11] [] rfl rfl (by decide) (by decide) (by decide) 0 1 rfl rfl rfl (Nat.le_of_ble_eq_true rfl) d_O_element_22 (fun r u H locs hu hP hD hS => ?_)
      rcases hu with ⟨hr12, rfl, rfl⟩ | ⟨hr12, rfl, rfl⟩
      · skip
        have hP : va_P D vwCl (ow D q n P rw a kn an lw s1 sd kd pa wd ao fo uo ho xo) H := hP
        have hD : va_D A (ow D q n P rw a kn an lw s1 sd kd pa wd ao fo uo ho xo) := hD
        refine lv_istore hx hb d_O_element_25 hl (by decide) rfl (fun ls hl => ?_)
        have hl : lv_has ls 6 [(5, .int (-2)), (0, .ref (q 0)), (1, .int r1), (2, .int i), (3, .long tb)] := hl
        refine lv_iload hx hb d_O_element_27 (lv_at hl 0 rfl) ?_
        refine lv_if_lt (tgt := 48) hx hb d_O_element_29 (by decide) (fun _ => ?_) (fun h => absurd h (by decide))
        refine lv_iload hx hb d_O_element_48 (lv_at hl 0 rfl) ?_
        exact eWi (n, P, rw, a, kn, an, lw, s1, sd, kd, pa, wd, ao, fo, uo, ho, xo) hx hb hr hlocks hP hK hD hS (Or.inr ⟨⟨h2, h10⟩, Or.inl ⟨hr12, rfl, rfl⟩⟩) d_O_element_50
      · skip
        have hP : va_P D vwCl (ow D q n P (rw + 1) a 0 (-1) lw s1 sd (upd kd rw 3) (clr7 pa rw) (vp_updL (vp_updL wd (2 * rw) tb) (2 * rw + 1) 0) ao fo uo ho xo) H := hP
        have hD : va_D A (ow D q n P (rw + 1) a 0 (-1) lw s1 sd (upd kd rw 3) (clr7 pa rw) (vp_updL (vp_updL wd (2 * rw) tb) (2 * rw + 1) 0) ao fo uo ho xo) := hD
        refine lv_istore hx hb d_O_element_25 hl (by decide) rfl (fun ls hl => ?_)
        have hl : lv_has ls 6 [(5, .int (nI rw)), (0, .ref (q 0)), (1, .int r1), (2, .int i), (3, .long tb)] := hl
        refine lv_iload hx hb d_O_element_27 (lv_at hl 0 rfl) ?_
        refine lv_if_lt (tgt := 48) hx hb d_O_element_29 (by decide) (fun h => absurd h (nI_pos (by omega))) (fun h29 => ?_)
        refine lv_aload_n hx hb d_O_element_32 rfl (lv_at hl 1 rfl) ?_
        refine lv_iload hx hb d_O_element_33 (lv_at hl 0 rfl) ?_
        refine lv_iconst (v := 0) hx hb d_O_element_35 (by decide) ?_
        refine lv_iload_n hx hb d_O_element_36 rfl (lv_at hl 2 rfl) ?_
        refine wVv (n := 3) (wr := []) (Wf := oW D q) (rest := []) hx hb hml hown hA (o_set l D q n P (rw + 1) a 0 (-1) lw s1 sd (upd kd rw 3) (clr7 pa rw) (vp_updL (vp_updL wd (2 * rw) tb) (2 * rw + 1) 0) ao fo uo ho xo rw 0 r1 _ (by omega) (by decide)) wv_O_80 ⟨by decide, by decide, by decide +kernel⟩ ⟨rfl, rfl, by decide, by decide⟩ rfl hl.1 ⟨Nat.le_of_ble_eq_true rfl, Nat.le_of_ble_eq_true rfl⟩ hP hK hD hS hAA hN [0, 1, 2, 3, 4, 5, 6, 7, 8, 9, 10, 11] [] rfl rfl (by decide) (by decide) (by decide) 0 1 rfl rfl rfl (Nat.le_of_ble_eq_true rfl) d_O_element_37 (fun u H locs hu hP hD hS => ?_)
        subst hu
        have hP : va_P D vwCl (ow D q n P (rw + 1) a 0 (-1) lw s1 sd (upd kd rw 3) (upd (clr7 pa rw) (7 * rw + 0) r1) (vp_updL (vp_updL wd (2 * rw) tb) (2 * rw + 1) 0) ao fo uo ho xo) H := hP
        have hD : va_D A (ow D q n P (rw + 1) a 0 (-1) lw s1 sd (upd kd rw 3) (upd (clr7 pa rw) (7 * rw + 0) r1) (vp_updL (vp_updL wd (2 * rw) tb) (2 * rw + 1) 0) ao fo uo ho xo) := hD
        refine lv_aload_n hx hb d_O_element_40 rfl (lv_at hl 1 rfl) ?_
        refine lv_iload hx hb d_O_element_41 (lv_at hl 0 rfl) ?_
        refine lv_iconst (v := 1) hx hb d_O_element_43 (by decide) ?_
        refine lv_iload_n hx hb d_O_element_44 rfl (lv_at hl 3 rfl) ?_
        refine wVv (n := 3) (wr := []) (Wf := oW D q) (rest := []) hx hb hml hown hA (o_set l D q n P (rw + 1) a 0 (-1) lw s1 sd (upd kd rw 3) (upd (clr7 pa rw) (7 * rw + 0) r1) (vp_updL (vp_updL wd (2 * rw) tb) (2 * rw + 1) 0) ao fo uo ho xo rw 1 i _ (by omega) (by decide)) wv_O_80 ⟨by decide, by decide, by decide +kernel⟩ ⟨rfl, rfl, by decide, by decide⟩ rfl hl.1 ⟨Nat.le_of_ble_eq_true rfl, Nat.le_of_ble_eq_true rfl⟩ hP hK hD hS hAA hN [0, 1, 2, 3, 4, 5, 6, 7, 8, 9, 10, 11] [] rfl rfl (by decide) (by decide) (by decide) 0 1 rfl rfl rfl (Nat.le_of_ble_eq_true rfl) d_O_element_45 (fun u H locs hu hP hD hS => ?_)
        subst hu
        have hP : va_P D vwCl (ow D q n P (rw + 1) a 0 (-1) lw s1 sd (upd kd rw 3) (upd (upd (clr7 pa rw) (7 * rw + 0) r1) (7 * rw + 1) i) (vp_updL (vp_updL wd (2 * rw) tb) (2 * rw + 1) 0) ao fo uo ho xo) H := hP
        have hD : va_D A (ow D q n P (rw + 1) a 0 (-1) lw s1 sd (upd kd rw 3) (upd (upd (clr7 pa rw) (7 * rw + 0) r1) (7 * rw + 1) i) (vp_updL (vp_updL wd (2 * rw) tb) (2 * rw + 1) 0) ao fo uo ho xo) := hD
        refine lv_iload hx hb d_O_element_48 (lv_at hl 0 rfl) ?_
        exact eWi (n, P, (rw + 1), a, 0, -1, lw, s1, sd, upd kd rw 3, upd (upd (clr7 pa rw) (7 * rw + 0) r1) (7 * rw + 1) i, vp_updL (vp_updL wd (2 * rw) tb) (2 * rw + 1) 0, ao, fo, uo, ho, xo) hx hb hr hlocks hP hK hD hS (Or.inr ⟨⟨h2, h10⟩, Or.inr ⟨hr12, rfl, rfl⟩⟩) d_O_element_50
    · skip
      refine lv_if_ne (tgt := 18) hx hb d_O_element_13 (by decide) (fun h => absurd h (by decide)) (fun _ => ?_)
      refine lv_iconst (v := (-1)) hx hb d_O_element_16 (by decide) ?_
      exact eWi (n, P, rw, a, kn, an, lw, s1, sd, kd, pa, wd, ao, fo, uo, ho, xo) hx hb hr hlocks hP hK hD hS (Or.inl ⟨fun h => h10 (h.2), rfl, rfl⟩) d_O_element_17
  · skip
    refine lv_if_eq (tgt := 16) hx hb d_O_element_5 (by decide) (fun _ => ?_) (fun h => absurd h (by decide))
    refine lv_iconst (v := (-1)) hx hb d_O_element_16 (by decide) ?_
    exact eWi (n, P, rw, a, kn, an, lw, s1, sd, kd, pa, wd, ao, fo, uo, ho, xo) hx hb hr hlocks hP hK hD hS (Or.inl ⟨fun h => h2 (h.1), rfl, rfl⟩) d_O_element_17
end
end
section
section
theorem ws_O_isSet : Cond.selects R_O y_O_isSet y_O_isSet ∈ cA := cA_in (List.mem_append_left _ (List.mem_of_getElem? (i := 18) (by decide +kernel))) rfl
theorem wv_O_84 : Cond.code y_O_isSet b_O_isSet 2 (some .boolean) ∈ cA ∧ Cond.initialized y_O_isSet.cls ∈ cA ∧ Cond.methodLink R_O 84 y_O_isSet ∈ cA ∧ Cond.instanceMethod y_O_isSet ∈ cA ∧ Cond.selects y_O_isSet.cls y_O_isSet y_O_isSet ∈ cA := ⟨wd_526, wd_3, wd_523, wd_525, ws_O_isSet⟩
theorem d_O_different_0 : decode b_O_different 0 = .ok (.aload_n 0, 1) := by decide +kernel
theorem d_O_different_1 : decode b_O_different 1 = .ok (.iload_n 1, 1) := by decide +kernel
theorem d_O_different_2 : decode b_O_different 2 = .ok (.invokevirtual 84, 3) := by decide +kernel
theorem d_O_different_5 : decode b_O_different 5 = .ok (.ifCond .ne 5, 3) := by decide +kernel
theorem d_O_different_8 : decode b_O_different 8 = .ok (.iconst (-1), 1) := by decide +kernel
theorem d_O_different_9 : decode b_O_different 9 = .ok (.ireturn, 1) := by decide +kernel
theorem d_O_different_10 : decode b_O_different 10 = .ok (.aload_n 0, 1) := by decide +kernel
theorem d_O_different_11 : decode b_O_different 11 = .ok (.iconst 4, 1) := by decide +kernel
theorem d_O_different_12 : decode b_O_different 12 = .ok (.lconst 0, 1) := by decide +kernel
theorem d_O_different_13 : decode b_O_different 13 = .ok (.lconst 0, 1) := by decide +kernel
theorem d_O_different_14 : decode b_O_different 14 = .ok (.invokevirtual 76, 3) := by decide +kernel
theorem d_O_different_17 : decode b_O_different 17 = .ok (.istore_n 2, 1) := by decide +kernel
theorem d_O_different_18 : decode b_O_different 18 = .ok (.iload_n 2, 1) := by decide +kernel
theorem d_O_different_19 : decode b_O_different 19 = .ok (.ifCond .lt 10, 3) := by decide +kernel
theorem d_O_different_22 : decode b_O_different 22 = .ok (.aload_n 0, 1) := by decide +kernel
theorem d_O_different_23 : decode b_O_different 23 = .ok (.iload_n 2, 1) := by decide +kernel
theorem d_O_different_24 : decode b_O_different 24 = .ok (.iconst 0, 1) := by decide +kernel
theorem d_O_different_25 : decode b_O_different 25 = .ok (.iload_n 1, 1) := by decide +kernel
theorem d_O_different_26 : decode b_O_different 26 = .ok (.invokevirtual 80, 3) := by decide +kernel
theorem d_O_different_29 : decode b_O_different 29 = .ok (.iload_n 2, 1) := by decide +kernel
theorem d_O_different_30 : decode b_O_different 30 = .ok (.ireturn, 1) := by decide +kernel
set_option maxRecDepth 100000 in
set_option maxHeartbeats 4000000 in
theorem o_different (l : Launch) (D : va_G) (q : Nat → Nat) (n P rw a : Nat) (kn an : Int32) (lw s1 sd kd pa : Nat → Int32) (wd : Nat → Int64) (ao fo uo ho xo : Nat → Int32) (t1 : Int32) (sz : Nat) (hrw : rw ≤ 12) : Met l y_O_different (wsm y_O_different b_O_different 3 (some .int)) { frames := 2, cells := 0, slots := 0, locals := 46 } (va_Pc [.ref (q 0), .int t1] (fun U => U.heap.size = sz ∧ cPre D (ow D q n P rw a kn an lw s1 sd kd pa wd ao fo uo ho xo) U)) (va_Qi (fun (r : Int32) (u : OS) => (¬ (ivs n t1) ∧ r = -1 ∧ u = (n, P, rw, a, kn, an, lw, s1, sd, kd, pa, wd, ao, fo, uo, ho, xo)) ∨ ((ivs n t1) ∧ ((¬ rw < 12 ∧ r = -2 ∧ u = (n, P, rw, a, kn, an, lw, s1, sd, kd, pa, wd, ao, fo, uo, ho, xo)) ∨ (rw < 12 ∧ r = nI rw ∧ u = (n, P, rw + 1, a, 0, -1, lw, s1, sd, upd kd rw 4, upd (clr7 pa rw) (7 * rw + 0) t1, vp_updL (vp_updL wd (2 * rw) 0) (2 * rw + 1) 0, ao, fo, uo, ho, xo))))) (fun u t => xB D (oW D q u) (va_A (ow D q n P rw a kn an lw s1 sd kd pa wd ao fo uo ho xo) sz) t) (va_A (ow D q n P rw a kn an lw s1 sd kd pa wd ao fo uo ho xo) sz)) 0 0 (va_A (ow D q n P rw a kn an lw s1 sd kd pa wd ao fo uo ho xo) sz) := by
  refine met_W (Qf := fun A => va_Qi (fun (r : Int32) (u : OS) => (¬ (ivs n t1) ∧ r = -1 ∧ u = (n, P, rw, a, kn, an, lw, s1, sd, kd, pa, wd, ao, fo, uo, ho, xo)) ∨ ((ivs n t1) ∧ ((¬ rw < 12 ∧ r = -2 ∧ u = (n, P, rw, a, kn, an, lw, s1, sd, kd, pa, wd, ao, fo, uo, ho, xo)) ∨ (rw < 12 ∧ r = nI rw ∧ u = (n, P, rw + 1, a, 0, -1, lw, s1, sd, upd kd rw 4, upd (clr7 pa rw) (7 * rw + 0) t1, vp_updL (vp_updL wd (2 * rw) 0) (2 * rw + 1) 0, ao, fo, uo, ho, xo))))) (fun u t => xB D (oW D q u) A t) A) (by decide) (Nat.le_of_ble_eq_true rfl) ?_
  intro p e s m below meth c ls A hx hb hr hlocks hml hown hin hA hP hK hD hN hl hS hAA
  have hown : s.vm.findClass R_O = some m.cls := hown
  have hl : lv_has ls 3 [(0, .ref (q 0)), (1, .int t1)] := hl
  refine lv_aload_n hx hb d_O_different_0 rfl (lv_at hl 0 rfl) ?_
  refine lv_iload_n hx hb d_O_different_1 rfl (lv_at hl 1 rfl) ?_
  refine rV (n := 1) (rest := []) hx hb hml hown hA (o_isSet l D q n P rw a kn an lw s1 sd kd pa wd ao fo uo ho xo t1) wv_O_84 ⟨by decide, by decide, by decide +kernel⟩ ⟨rfl, rfl, by decide, by decide⟩ rfl hl.1 ⟨Nat.le_of_ble_eq_true rfl, Nat.le_of_ble_eq_true rfl⟩ hP hK hD hN 0 1 rfl rfl rfl (Nat.le_of_ble_eq_true rfl) d_O_different_2 (fun r hr9 => ?_)
  rcases zb_c hr9 with ⟨rfl, h2⟩ | ⟨rfl, h2⟩
  · skip
    refine lv_if_ne (tgt := 10) hx hb d_O_different_5 (by decide) (fun _ => ?_) (fun h => absurd h (by decide))
    refine lv_aload_n hx hb d_O_different_10 rfl (lv_at hl 0 rfl) ?_
    refine lv_iconst (v := 4) hx hb d_O_different_11 (by decide) ?_
    refine lv_lconst (v := 0) hx hb d_O_different_12 (by decide) ?_
    refine lv_lconst (v := 0) hx hb d_O_different_13 (by decide) ?_
    refine wVi (n := 3) (wr := []) (Wf := oW D q) (rest := []) hx hb hml hown hA (o_add l D q n P rw a kn an lw s1 sd kd pa wd ao fo uo ho xo 4 0 0 _ hrw) wv_O_76 ⟨by decide, by decide, by decide +kernel⟩ ⟨rfl, rfl, by decide, by decide⟩ rfl hl.1 ⟨Nat.le_of_ble_eq_true rfl, Nat.le_of_ble_eq_true rfl⟩ hP hK hD hS hAA hN [0, 1, 2, 3, 4, 5, 6, 7, 8, 9, 10, 11] [] rfl rfl (by decide) (by decide) (by decide) 0 1 rfl rfl rfl (Nat.le_of_ble_eq_true rfl) d_O_different_14 (fun r u H locs hu hP hD hS => ?_)
    rcases hu with ⟨hr12, rfl, rfl⟩ | ⟨hr12, rfl, rfl⟩
    · skip
      have hP : va_P D vwCl (ow D q n P rw a kn an lw s1 sd kd pa wd ao fo uo ho xo) H := hP
      have hD : va_D A (ow D q n P rw a kn an lw s1 sd kd pa wd ao fo uo ho xo) := hD
      refine lv_istore_n hx hb d_O_different_17 rfl hl (by decide) rfl (fun ls hl => ?_)
      have hl : lv_has ls 3 [(2, .int (-2)), (0, .ref (q 0)), (1, .int t1)] := hl
      refine lv_iload_n hx hb d_O_different_18 rfl (lv_at hl 0 rfl) ?_
      refine lv_if_lt (tgt := 29) hx hb d_O_different_19 (by decide) (fun _ => ?_) (fun h => absurd h (by decide))
      refine lv_iload_n hx hb d_O_different_29 rfl (lv_at hl 0 rfl) ?_
      exact eWi (n, P, rw, a, kn, an, lw, s1, sd, kd, pa, wd, ao, fo, uo, ho, xo) hx hb hr hlocks hP hK hD hS (Or.inr ⟨h2, Or.inl ⟨hr12, rfl, rfl⟩⟩) d_O_different_30
    · skip
      have hP : va_P D vwCl (ow D q n P (rw + 1) a 0 (-1) lw s1 sd (upd kd rw 4) (clr7 pa rw) (vp_updL (vp_updL wd (2 * rw) 0) (2 * rw + 1) 0) ao fo uo ho xo) H := hP
      have hD : va_D A (ow D q n P (rw + 1) a 0 (-1) lw s1 sd (upd kd rw 4) (clr7 pa rw) (vp_updL (vp_updL wd (2 * rw) 0) (2 * rw + 1) 0) ao fo uo ho xo) := hD
      refine lv_istore_n hx hb d_O_different_17 rfl hl (by decide) rfl (fun ls hl => ?_)
      have hl : lv_has ls 3 [(2, .int (nI rw)), (0, .ref (q 0)), (1, .int t1)] := hl
      refine lv_iload_n hx hb d_O_different_18 rfl (lv_at hl 0 rfl) ?_
      refine lv_if_lt (tgt := 29) hx hb d_O_different_19 (by decide) (fun h => absurd h (nI_pos (by omega))) (fun h19 => ?_)
      refine lv_aload_n hx hb d_O_different_22 rfl (lv_at hl 1 rfl) ?_
      refine lv_iload_n hx hb d_O_different_23 rfl (lv_at hl 0 rfl) ?_
      refine lv_iconst (v := 0) hx hb d_O_different_24 (by decide) ?_
      refine lv_iload_n hx hb d_O_different_25 rfl (lv_at hl 2 rfl) ?_
      refine wVv (n := 3) (wr := []) (Wf := oW D q) (rest := []) hx hb hml hown hA (o_set l D q n P (rw + 1) a 0 (-1) lw s1 sd (upd kd rw 4) (clr7 pa rw) (vp_updL (vp_updL wd (2 * rw) 0) (2 * rw + 1) 0) ao fo uo ho xo rw 0 t1 _ (by omega) (by decide)) wv_O_80 ⟨by decide, by decide, by decide +kernel⟩ ⟨rfl, rfl, by decide, by decide⟩ rfl hl.1 ⟨Nat.le_of_ble_eq_true rfl, Nat.le_of_ble_eq_true rfl⟩ hP hK hD hS hAA hN [0, 1, 2, 3, 4, 5, 6, 7, 8, 9, 10, 11] [] rfl rfl (by decide) (by decide) (by decide) 0 1 rfl rfl rfl (Nat.le_of_ble_eq_true rfl) d_O_different_26 (fun u H locs hu hP hD hS => ?_)
      subst hu
      have hP : va_P D vwCl (ow D q n P (rw + 1) a 0 (-1) lw s1 sd (upd kd rw 4) (upd (clr7 pa rw) (7 * rw + 0) t1) (vp_updL (vp_updL wd (2 * rw) 0) (2 * rw + 1) 0) ao fo uo ho xo) H := hP
      have hD : va_D A (ow D q n P (rw + 1) a 0 (-1) lw s1 sd (upd kd rw 4) (upd (clr7 pa rw) (7 * rw + 0) t1) (vp_updL (vp_updL wd (2 * rw) 0) (2 * rw + 1) 0) ao fo uo ho xo) := hD
      refine lv_iload_n hx hb d_O_different_29 rfl (lv_at hl 0 rfl) ?_
      exact eWi (n, P, (rw + 1), a, 0, -1, lw, s1, sd, upd kd rw 4, upd (clr7 pa rw) (7 * rw + 0) t1, vp_updL (vp_updL wd (2 * rw) 0) (2 * rw + 1) 0, ao, fo, uo, ho, xo) hx hb hr hlocks hP hK hD hS (Or.inr ⟨h2, Or.inr ⟨hr12, rfl, rfl⟩⟩) d_O_different_30
  · skip
    refine lv_if_ne (tgt := 10) hx hb d_O_different_5 (by decide) (fun h => absurd h (by decide)) (fun _ => ?_)
    refine lv_iconst (v := (-1)) hx hb d_O_different_8 (by decide) ?_
    exact eWi (n, P, rw, a, kn, an, lw, s1, sd, kd, pa, wd, ao, fo, uo, ho, xo) hx hb hr hlocks hP hK hD hS (Or.inl ⟨fun h => h2 (h), rfl, rfl⟩) d_O_different_9
end
end
section
section
theorem d_O_cumulative_0 : decode b_O_cumulative 0 = .ok (.aload_n 0, 1) := by decide +kernel
theorem d_O_cumulative_1 : decode b_O_cumulative 1 = .ok (.iload_n 1, 1) := by decide +kernel
theorem d_O_cumulative_2 : decode b_O_cumulative 2 = .ok (.invokevirtual 84, 3) := by decide +kernel
theorem d_O_cumulative_5 : decode b_O_cumulative 5 = .ok (.ifCond .eq 14, 3) := by decide +kernel
theorem d_O_cumulative_8 : decode b_O_cumulative 8 = .ok (.iload 6, 2) := by decide +kernel
theorem d_O_cumulative_10 : decode b_O_cumulative 10 = .ok (.iconst 0, 1) := by decide +kernel
theorem d_O_cumulative_11 : decode b_O_cumulative 11 = .ok (.bipush 100, 2) := by decide +kernel
theorem d_O_cumulative_13 : decode b_O_cumulative 13 = .ok (.invokestatic 72, 3) := by decide +kernel
theorem d_O_cumulative_16 : decode b_O_cumulative 16 = .ok (.ifCond .ne 5, 3) := by decide +kernel
theorem d_O_cumulative_19 : decode b_O_cumulative 19 = .ok (.iconst (-1), 1) := by decide +kernel
theorem d_O_cumulative_20 : decode b_O_cumulative 20 = .ok (.ireturn, 1) := by decide +kernel
theorem d_O_cumulative_21 : decode b_O_cumulative 21 = .ok (.aload_n 0, 1) := by decide +kernel
theorem d_O_cumulative_22 : decode b_O_cumulative 22 = .ok (.iconst 5, 1) := by decide +kernel
theorem d_O_cumulative_23 : decode b_O_cumulative 23 = .ok (.lload_n 2, 1) := by decide +kernel
theorem d_O_cumulative_24 : decode b_O_cumulative 24 = .ok (.lload 4, 2) := by decide +kernel
theorem d_O_cumulative_26 : decode b_O_cumulative 26 = .ok (.invokevirtual 76, 3) := by decide +kernel
theorem d_O_cumulative_29 : decode b_O_cumulative 29 = .ok (.istore 7, 2) := by decide +kernel
theorem d_O_cumulative_31 : decode b_O_cumulative 31 = .ok (.iload 7, 2) := by decide +kernel
theorem d_O_cumulative_33 : decode b_O_cumulative 33 = .ok (.ifCond .lt 20, 3) := by decide +kernel
theorem d_O_cumulative_36 : decode b_O_cumulative 36 = .ok (.aload_n 0, 1) := by decide +kernel
theorem d_O_cumulative_37 : decode b_O_cumulative 37 = .ok (.iload 7, 2) := by decide +kernel
theorem d_O_cumulative_39 : decode b_O_cumulative 39 = .ok (.iconst 0, 1) := by decide +kernel
theorem d_O_cumulative_40 : decode b_O_cumulative 40 = .ok (.iload_n 1, 1) := by decide +kernel
theorem d_O_cumulative_41 : decode b_O_cumulative 41 = .ok (.invokevirtual 80, 3) := by decide +kernel
theorem d_O_cumulative_44 : decode b_O_cumulative 44 = .ok (.aload_n 0, 1) := by decide +kernel
theorem d_O_cumulative_45 : decode b_O_cumulative 45 = .ok (.iload 7, 2) := by decide +kernel
theorem d_O_cumulative_47 : decode b_O_cumulative 47 = .ok (.iconst 1, 1) := by decide +kernel
theorem d_O_cumulative_48 : decode b_O_cumulative 48 = .ok (.iload 6, 2) := by decide +kernel
theorem d_O_cumulative_50 : decode b_O_cumulative 50 = .ok (.invokevirtual 80, 3) := by decide +kernel
theorem d_O_cumulative_53 : decode b_O_cumulative 53 = .ok (.iload 7, 2) := by decide +kernel
theorem d_O_cumulative_55 : decode b_O_cumulative 55 = .ok (.ireturn, 1) := by decide +kernel
set_option maxRecDepth 100000 in
set_option maxHeartbeats 4000000 in
theorem o_cumulative (l : Launch) (D : va_G) (q : Nat → Nat) (n P rw a : Nat) (kn an : Int32) (lw s1 sd kd pa : Nat → Int32) (wd : Nat → Int64) (ao fo uo ho xo : Nat → Int32) (t1 : Int32) (du ne : Int64) (cp : Int32) (sz : Nat) (hrw : rw ≤ 12) : Met l y_O_cumulative (wsm y_O_cumulative b_O_cumulative 8 (some .int)) { frames := 2, cells := 0, slots := 0, locals := 46 } (va_Pc [.ref (q 0), .int t1, .long du, .long ne, .int cp] (fun U => U.heap.size = sz ∧ cPre D (ow D q n P rw a kn an lw s1 sd kd pa wd ao fo uo ho xo) U)) (va_Qi (fun (r : Int32) (u : OS) => (¬ (ivs n t1 ∧ wi3 cp 0 100) ∧ r = -1 ∧ u = (n, P, rw, a, kn, an, lw, s1, sd, kd, pa, wd, ao, fo, uo, ho, xo)) ∨ ((ivs n t1 ∧ wi3 cp 0 100) ∧ ((¬ rw < 12 ∧ r = -2 ∧ u = (n, P, rw, a, kn, an, lw, s1, sd, kd, pa, wd, ao, fo, uo, ho, xo)) ∨ (rw < 12 ∧ r = nI rw ∧ u = (n, P, rw + 1, a, 0, -1, lw, s1, sd, upd kd rw 5, upd (upd (clr7 pa rw) (7 * rw + 0) t1) (7 * rw + 1) cp, vp_updL (vp_updL wd (2 * rw) du) (2 * rw + 1) ne, ao, fo, uo, ho, xo))))) (fun u t => xB D (oW D q u) (va_A (ow D q n P rw a kn an lw s1 sd kd pa wd ao fo uo ho xo) sz) t) (va_A (ow D q n P rw a kn an lw s1 sd kd pa wd ao fo uo ho xo) sz)) 0 0 (va_A (ow D q n P rw a kn an lw s1 sd kd pa wd ao fo uo ho xo) sz) := by
  refine met_W (Qf := fun A => va_Qi (fun (r : Int32) (u : OS) => (¬ (ivs n t1 ∧ wi3 cp 0 100) ∧ r = -1 ∧ u = (n, P, rw, a, kn, an, lw, s1, sd, kd, pa, wd, ao, fo, uo, ho, xo)) ∨ ((ivs n t1 ∧ wi3 cp 0 100) ∧ ((¬ rw < 12 ∧ r = -2 ∧ u = (n, P, rw, a, kn, an, lw, s1, sd, kd, pa, wd, ao, fo, uo, ho, xo)) ∨ (rw < 12 ∧ r = nI rw ∧ u = (n, P, rw + 1, a, 0, -1, lw, s1, sd, upd kd rw 5, upd (upd (clr7 pa rw) (7 * rw + 0) t1) (7 * rw + 1) cp, vp_updL (vp_updL wd (2 * rw) du) (2 * rw + 1) ne, ao, fo, uo, ho, xo))))) (fun u t => xB D (oW D q u) A t) A) (by decide) (Nat.le_of_ble_eq_true rfl) ?_
  intro p e s m below meth c ls A hx hb hr hlocks hml hown hin hA hP hK hD hN hl hS hAA
  have hown : s.vm.findClass R_O = some m.cls := hown
  have hl : lv_has ls 8 [(0, .ref (q 0)), (1, .int t1), (2, .long du), (4, .long ne), (6, .int cp)] := hl
  refine lv_aload_n hx hb d_O_cumulative_0 rfl (lv_at hl 0 rfl) ?_
  refine lv_iload_n hx hb d_O_cumulative_1 rfl (lv_at hl 1 rfl) ?_
  refine rV (n := 1) (rest := []) hx hb hml hown hA (o_isSet l D q n P rw a kn an lw s1 sd kd pa wd ao fo uo ho xo t1) wv_O_84 ⟨by decide, by decide, by decide +kernel⟩ ⟨rfl, rfl, by decide, by decide⟩ rfl hl.1 ⟨Nat.le_of_ble_eq_true rfl, Nat.le_of_ble_eq_true rfl⟩ hP hK hD hN 0 1 rfl rfl rfl (Nat.le_of_ble_eq_true rfl) d_O_cumulative_2 (fun r hr9 => ?_)
  rcases zb_c hr9 with ⟨rfl, h2⟩ | ⟨rfl, h2⟩
  · skip
    refine lv_if_eq (tgt := 19) hx hb d_O_cumulative_5 (by decide) (fun h => absurd h (by decide)) (fun _ => ?_)
    refine lv_iload hx hb d_O_cumulative_8 (lv_at hl 4 rfl) ?_
    refine lv_iconst (v := 0) hx hb d_O_cumulative_10 (by decide) ?_
    refine lv_bipush (v := 100) hx hb d_O_cumulative_11 (by decide) ?_
    refine rS (n := 3) (rest := []) hx hb hml hown hA (o_within l D cp 0 100) wv_O_72 ⟨by decide, by decide, by decide +kernel⟩ ⟨rfl, rfl, by decide, by decide⟩ rfl hl.1 ⟨Nat.le_of_ble_eq_true rfl, Nat.le_of_ble_eq_true rfl⟩ (va_P.sub1 hP [] rfl) hK (va_D.sub hD [] rfl rfl) hN rfl (Nat.le_of_ble_eq_true rfl) d_O_cumulative_13 (fun r hr9 => ?_)
    rcases zb_c hr9 with ⟨rfl, h13⟩ | ⟨rfl, h13⟩
    · skip
      refine lv_if_ne (tgt := 21) hx hb d_O_cumulative_16 (by decide) (fun _ => ?_) (fun h => absurd h (by decide))
      refine lv_aload_n hx hb d_O_cumulative_21 rfl (lv_at hl 0 rfl) ?_
      refine lv_iconst (v := 5) hx hb d_O_cumulative_22 (by decide) ?_
      refine lv_lload_n hx hb d_O_cumulative_23 rfl (lv_at hl 2 rfl) ?_
      refine lv_lload hx hb d_O_cumulative_24 (lv_at hl 3 rfl) ?_
      refine wVi (n := 3) (wr := []) (Wf := oW D q) (rest := []) hx hb hml hown hA (o_add l D q n P rw a kn an lw s1 sd kd pa wd ao fo uo ho xo 5 du ne _ hrw) wv_O_76 ⟨by decide, by decide, by decide +kernel⟩ ⟨rfl, rfl, by decide, by decide⟩ rfl hl.1 ⟨Nat.le_of_ble_eq_true rfl, Nat.le_of_ble_eq_true rfl⟩ hP hK hD hS hAA hN [0, 1, 2, 3, 4, 5, 6, 7, 8, 9, 10, 11] [] rfl rfl (by decide) (by decide) (by decide) 0 1 rfl rfl rfl (Nat.le_of_ble_eq_true rfl) d_O_cumulative_26 (fun r u H locs hu hP hD hS => ?_)
      rcases hu with ⟨hr12, rfl, rfl⟩ | ⟨hr12, rfl, rfl⟩
      · skip
        have hP : va_P D vwCl (ow D q n P rw a kn an lw s1 sd kd pa wd ao fo uo ho xo) H := hP
        have hD : va_D A (ow D q n P rw a kn an lw s1 sd kd pa wd ao fo uo ho xo) := hD
        refine lv_istore hx hb d_O_cumulative_29 hl (by decide) rfl (fun ls hl => ?_)
        have hl : lv_has ls 8 [(7, .int (-2)), (0, .ref (q 0)), (1, .int t1), (2, .long du), (4, .long ne), (6, .int cp)] := hl
        refine lv_iload hx hb d_O_cumulative_31 (lv_at hl 0 rfl) ?_
        refine lv_if_lt (tgt := 53) hx hb d_O_cumulative_33 (by decide) (fun _ => ?_) (fun h => absurd h (by decide))
        refine lv_iload hx hb d_O_cumulative_53 (lv_at hl 0 rfl) ?_
        exact eWi (n, P, rw, a, kn, an, lw, s1, sd, kd, pa, wd, ao, fo, uo, ho, xo) hx hb hr hlocks hP hK hD hS (Or.inr ⟨⟨h2, h13⟩, Or.inl ⟨hr12, rfl, rfl⟩⟩) d_O_cumulative_55
      · skip
        have hP : va_P D vwCl (ow D q n P (rw + 1) a 0 (-1) lw s1 sd (upd kd rw 5) (clr7 pa rw) (vp_updL (vp_updL wd (2 * rw) du) (2 * rw + 1) ne) ao fo uo ho xo) H := hP
        have hD : va_D A (ow D q n P (rw + 1) a 0 (-1) lw s1 sd (upd kd rw 5) (clr7 pa rw) (vp_updL (vp_updL wd (2 * rw) du) (2 * rw + 1) ne) ao fo uo ho xo) := hD
        refine lv_istore hx hb d_O_cumulative_29 hl (by decide) rfl (fun ls hl => ?_)
        have hl : lv_has ls 8 [(7, .int (nI rw)), (0, .ref (q 0)), (1, .int t1), (2, .long du), (4, .long ne), (6, .int cp)] := hl
        refine lv_iload hx hb d_O_cumulative_31 (lv_at hl 0 rfl) ?_
        refine lv_if_lt (tgt := 53) hx hb d_O_cumulative_33 (by decide) (fun h => absurd h (nI_pos (by omega))) (fun h33 => ?_)
        refine lv_aload_n hx hb d_O_cumulative_36 rfl (lv_at hl 1 rfl) ?_
        refine lv_iload hx hb d_O_cumulative_37 (lv_at hl 0 rfl) ?_
        refine lv_iconst (v := 0) hx hb d_O_cumulative_39 (by decide) ?_
        refine lv_iload_n hx hb d_O_cumulative_40 rfl (lv_at hl 2 rfl) ?_
        refine wVv (n := 3) (wr := []) (Wf := oW D q) (rest := []) hx hb hml hown hA (o_set l D q n P (rw + 1) a 0 (-1) lw s1 sd (upd kd rw 5) (clr7 pa rw) (vp_updL (vp_updL wd (2 * rw) du) (2 * rw + 1) ne) ao fo uo ho xo rw 0 t1 _ (by omega) (by decide)) wv_O_80 ⟨by decide, by decide, by decide +kernel⟩ ⟨rfl, rfl, by decide, by decide⟩ rfl hl.1 ⟨Nat.le_of_ble_eq_true rfl, Nat.le_of_ble_eq_true rfl⟩ hP hK hD hS hAA hN [0, 1, 2, 3, 4, 5, 6, 7, 8, 9, 10, 11] [] rfl rfl (by decide) (by decide) (by decide) 0 1 rfl rfl rfl (Nat.le_of_ble_eq_true rfl) d_O_cumulative_41 (fun u H locs hu hP hD hS => ?_)
        subst hu
        have hP : va_P D vwCl (ow D q n P (rw + 1) a 0 (-1) lw s1 sd (upd kd rw 5) (upd (clr7 pa rw) (7 * rw + 0) t1) (vp_updL (vp_updL wd (2 * rw) du) (2 * rw + 1) ne) ao fo uo ho xo) H := hP
        have hD : va_D A (ow D q n P (rw + 1) a 0 (-1) lw s1 sd (upd kd rw 5) (upd (clr7 pa rw) (7 * rw + 0) t1) (vp_updL (vp_updL wd (2 * rw) du) (2 * rw + 1) ne) ao fo uo ho xo) := hD
        refine lv_aload_n hx hb d_O_cumulative_44 rfl (lv_at hl 1 rfl) ?_
        refine lv_iload hx hb d_O_cumulative_45 (lv_at hl 0 rfl) ?_
        refine lv_iconst (v := 1) hx hb d_O_cumulative_47 (by decide) ?_
        refine lv_iload hx hb d_O_cumulative_48 (lv_at hl 5 rfl) ?_
        refine wVv (n := 3) (wr := []) (Wf := oW D q) (rest := []) hx hb hml hown hA (o_set l D q n P (rw + 1) a 0 (-1) lw s1 sd (upd kd rw 5) (upd (clr7 pa rw) (7 * rw + 0) t1) (vp_updL (vp_updL wd (2 * rw) du) (2 * rw + 1) ne) ao fo uo ho xo rw 1 cp _ (by omega) (by decide)) wv_O_80 ⟨by decide, by decide, by decide +kernel⟩ ⟨rfl, rfl, by decide, by decide⟩ rfl hl.1 ⟨Nat.le_of_ble_eq_true rfl, Nat.le_of_ble_eq_true rfl⟩ hP hK hD hS hAA hN [0, 1, 2, 3, 4, 5, 6, 7, 8, 9, 10, 11] [] rfl rfl (by decide) (by decide) (by decide) 0 1 rfl rfl rfl (Nat.le_of_ble_eq_true rfl) d_O_cumulative_50 (fun u H locs hu hP hD hS => ?_)
        subst hu
        have hP : va_P D vwCl (ow D q n P (rw + 1) a 0 (-1) lw s1 sd (upd kd rw 5) (upd (upd (clr7 pa rw) (7 * rw + 0) t1) (7 * rw + 1) cp) (vp_updL (vp_updL wd (2 * rw) du) (2 * rw + 1) ne) ao fo uo ho xo) H := hP
        have hD : va_D A (ow D q n P (rw + 1) a 0 (-1) lw s1 sd (upd kd rw 5) (upd (upd (clr7 pa rw) (7 * rw + 0) t1) (7 * rw + 1) cp) (vp_updL (vp_updL wd (2 * rw) du) (2 * rw + 1) ne) ao fo uo ho xo) := hD
        refine lv_iload hx hb d_O_cumulative_53 (lv_at hl 0 rfl) ?_
        exact eWi (n, P, (rw + 1), a, 0, -1, lw, s1, sd, upd kd rw 5, upd (upd (clr7 pa rw) (7 * rw + 0) t1) (7 * rw + 1) cp, vp_updL (vp_updL wd (2 * rw) du) (2 * rw + 1) ne, ao, fo, uo, ho, xo) hx hb hr hlocks hP hK hD hS (Or.inr ⟨⟨h2, h13⟩, Or.inr ⟨hr12, rfl, rfl⟩⟩) d_O_cumulative_55
    · skip
      refine lv_if_ne (tgt := 21) hx hb d_O_cumulative_16 (by decide) (fun h => absurd h (by decide)) (fun _ => ?_)
      refine lv_iconst (v := (-1)) hx hb d_O_cumulative_19 (by decide) ?_
      exact eWi (n, P, rw, a, kn, an, lw, s1, sd, kd, pa, wd, ao, fo, uo, ho, xo) hx hb hr hlocks hP hK hD hS (Or.inl ⟨fun h => h13 (h.2), rfl, rfl⟩) d_O_cumulative_20
  · skip
    refine lv_if_eq (tgt := 19) hx hb d_O_cumulative_5 (by decide) (fun _ => ?_) (fun h => absurd h (by decide))
    refine lv_iconst (v := (-1)) hx hb d_O_cumulative_19 (by decide) ?_
    exact eWi (n, P, rw, a, kn, an, lw, s1, sd, kd, pa, wd, ao, fo, uo, ho, xo) hx hb hr hlocks hP hK hD hS (Or.inl ⟨fun h => h2 (h.1), rfl, rfl⟩) d_O_cumulative_20
end
end
section
section
theorem d_O_clause_0 : decode b_O_clause 0 = .ok (.aload_n 0, 1) := by decide +kernel
theorem d_O_clause_1 : decode b_O_clause 1 = .ok (.iload_n 1, 1) := by decide +kernel
theorem d_O_clause_2 : decode b_O_clause 2 = .ok (.invokevirtual 69, 3) := by decide +kernel
theorem d_O_clause_5 : decode b_O_clause 5 = .ok (.ifCond .eq 70, 3) := by decide +kernel
theorem d_O_clause_8 : decode b_O_clause 8 = .ok (.aload_n 0, 1) := by decide +kernel
theorem d_O_clause_9 : decode b_O_clause 9 = .ok (.iload_n 3, 1) := by decide +kernel
theorem d_O_clause_10 : decode b_O_clause 10 = .ok (.invokevirtual 69, 3) := by decide +kernel
theorem d_O_clause_13 : decode b_O_clause 13 = .ok (.ifCond .eq 62, 3) := by decide +kernel
theorem d_O_clause_16 : decode b_O_clause 16 = .ok (.aload_n 0, 1) := by decide +kernel
theorem d_O_clause_17 : decode b_O_clause 17 = .ok (.iload 5, 2) := by decide +kernel
theorem d_O_clause_19 : decode b_O_clause 19 = .ok (.invokevirtual 69, 3) := by decide +kernel
theorem d_O_clause_22 : decode b_O_clause 22 = .ok (.ifCond .eq 53, 3) := by decide +kernel
theorem d_O_clause_25 : decode b_O_clause 25 = .ok (.iload_n 2, 1) := by decide +kernel
theorem d_O_clause_26 : decode b_O_clause 26 = .ok (.bipush (-100), 2) := by decide +kernel
theorem d_O_clause_28 : decode b_O_clause 28 = .ok (.bipush 100, 2) := by decide +kernel
theorem d_O_clause_30 : decode b_O_clause 30 = .ok (.invokestatic 72, 3) := by decide +kernel
theorem d_O_clause_33 : decode b_O_clause 33 = .ok (.ifCond .eq 42, 3) := by decide +kernel
theorem d_O_clause_36 : decode b_O_clause 36 = .ok (.iload 4, 2) := by decide +kernel
theorem d_O_clause_38 : decode b_O_clause 38 = .ok (.bipush (-100), 2) := by decide +kernel
theorem d_O_clause_40 : decode b_O_clause 40 = .ok (.bipush 100, 2) := by decide +kernel
theorem d_O_clause_42 : decode b_O_clause 42 = .ok (.invokestatic 72, 3) := by decide +kernel
theorem d_O_clause_45 : decode b_O_clause 45 = .ok (.ifCond .eq 30, 3) := by decide +kernel
theorem d_O_clause_48 : decode b_O_clause 48 = .ok (.iload 6, 2) := by decide +kernel
theorem d_O_clause_50 : decode b_O_clause 50 = .ok (.bipush (-100), 2) := by decide +kernel
theorem d_O_clause_52 : decode b_O_clause 52 = .ok (.bipush 100, 2) := by decide +kernel
theorem d_O_clause_54 : decode b_O_clause 54 = .ok (.invokestatic 72, 3) := by decide +kernel
theorem d_O_clause_57 : decode b_O_clause 57 = .ok (.ifCond .eq 18, 3) := by decide +kernel
theorem d_O_clause_60 : decode b_O_clause 60 = .ok (.iload 7, 2) := by decide +kernel
theorem d_O_clause_62 : decode b_O_clause 62 = .ok (.iconst 0, 1) := by decide +kernel
theorem d_O_clause_63 : decode b_O_clause 63 = .ok (.bipush 7, 2) := by decide +kernel
theorem d_O_clause_65 : decode b_O_clause 65 = .ok (.invokestatic 72, 3) := by decide +kernel
theorem d_O_clause_68 : decode b_O_clause 68 = .ok (.ifCond .eq 7, 3) := by decide +kernel
theorem d_O_clause_71 : decode b_O_clause 71 = .ok (.iconst 1, 1) := by decide +kernel
theorem d_O_clause_72 : decode b_O_clause 72 = .ok (.goto 4, 3) := by decide +kernel
theorem d_O_clause_75 : decode b_O_clause 75 = .ok (.iconst 0, 1) := by decide +kernel
theorem d_O_clause_76 : decode b_O_clause 76 = .ok (.istore 8, 2) := by decide +kernel
theorem d_O_clause_78 : decode b_O_clause 78 = .ok (.iload 8, 2) := by decide +kernel
theorem d_O_clause_80 : decode b_O_clause 80 = .ok (.ifCond .ne 5, 3) := by decide +kernel
theorem d_O_clause_83 : decode b_O_clause 83 = .ok (.iconst (-1), 1) := by decide +kernel
theorem d_O_clause_84 : decode b_O_clause 84 = .ok (.ireturn, 1) := by decide +kernel
theorem d_O_clause_85 : decode b_O_clause 85 = .ok (.aload_n 0, 1) := by decide +kernel
theorem d_O_clause_86 : decode b_O_clause 86 = .ok (.bipush 6, 2) := by decide +kernel
theorem d_O_clause_88 : decode b_O_clause 88 = .ok (.lconst 0, 1) := by decide +kernel
theorem d_O_clause_89 : decode b_O_clause 89 = .ok (.lconst 0, 1) := by decide +kernel
theorem d_O_clause_90 : decode b_O_clause 90 = .ok (.invokevirtual 76, 3) := by decide +kernel
theorem d_O_clause_93 : decode b_O_clause 93 = .ok (.istore 9, 2) := by decide +kernel
theorem d_O_clause_95 : decode b_O_clause 95 = .ok (.iload 9, 2) := by decide +kernel
theorem d_O_clause_97 : decode b_O_clause 97 = .ok (.ifCond .lt 64, 3) := by decide +kernel
theorem d_O_clause_100 : decode b_O_clause 100 = .ok (.aload_n 0, 1) := by decide +kernel
theorem d_O_clause_101 : decode b_O_clause 101 = .ok (.iload 9, 2) := by decide +kernel
theorem d_O_clause_103 : decode b_O_clause 103 = .ok (.iconst 0, 1) := by decide +kernel
theorem d_O_clause_104 : decode b_O_clause 104 = .ok (.iload_n 1, 1) := by decide +kernel
theorem d_O_clause_105 : decode b_O_clause 105 = .ok (.invokevirtual 80, 3) := by decide +kernel
theorem d_O_clause_108 : decode b_O_clause 108 = .ok (.aload_n 0, 1) := by decide +kernel
theorem d_O_clause_109 : decode b_O_clause 109 = .ok (.iload 9, 2) := by decide +kernel
theorem d_O_clause_111 : decode b_O_clause 111 = .ok (.iconst 1, 1) := by decide +kernel
theorem d_O_clause_112 : decode b_O_clause 112 = .ok (.iload_n 2, 1) := by decide +kernel
theorem d_O_clause_113 : decode b_O_clause 113 = .ok (.invokevirtual 80, 3) := by decide +kernel
theorem d_O_clause_116 : decode b_O_clause 116 = .ok (.aload_n 0, 1) := by decide +kernel
theorem d_O_clause_117 : decode b_O_clause 117 = .ok (.iload 9, 2) := by decide +kernel
theorem d_O_clause_119 : decode b_O_clause 119 = .ok (.iconst 2, 1) := by decide +kernel
theorem d_O_clause_120 : decode b_O_clause 120 = .ok (.iload_n 3, 1) := by decide +kernel
theorem d_O_clause_121 : decode b_O_clause 121 = .ok (.invokevirtual 80, 3) := by decide +kernel
theorem d_O_clause_124 : decode b_O_clause 124 = .ok (.aload_n 0, 1) := by decide +kernel
theorem d_O_clause_125 : decode b_O_clause 125 = .ok (.iload 9, 2) := by decide +kernel
theorem d_O_clause_127 : decode b_O_clause 127 = .ok (.iconst 3, 1) := by decide +kernel
theorem d_O_clause_128 : decode b_O_clause 128 = .ok (.iload 4, 2) := by decide +kernel
theorem d_O_clause_130 : decode b_O_clause 130 = .ok (.invokevirtual 80, 3) := by decide +kernel
theorem d_O_clause_133 : decode b_O_clause 133 = .ok (.aload_n 0, 1) := by decide +kernel
theorem d_O_clause_134 : decode b_O_clause 134 = .ok (.iload 9, 2) := by decide +kernel
theorem d_O_clause_136 : decode b_O_clause 136 = .ok (.iconst 4, 1) := by decide +kernel
theorem d_O_clause_137 : decode b_O_clause 137 = .ok (.iload 5, 2) := by decide +kernel
theorem d_O_clause_139 : decode b_O_clause 139 = .ok (.invokevirtual 80, 3) := by decide +kernel
theorem d_O_clause_142 : decode b_O_clause 142 = .ok (.aload_n 0, 1) := by decide +kernel
theorem d_O_clause_143 : decode b_O_clause 143 = .ok (.iload 9, 2) := by decide +kernel
theorem d_O_clause_145 : decode b_O_clause 145 = .ok (.iconst 5, 1) := by decide +kernel
theorem d_O_clause_146 : decode b_O_clause 146 = .ok (.iload 6, 2) := by decide +kernel
theorem d_O_clause_148 : decode b_O_clause 148 = .ok (.invokevirtual 80, 3) := by decide +kernel
theorem d_O_clause_151 : decode b_O_clause 151 = .ok (.aload_n 0, 1) := by decide +kernel
theorem d_O_clause_152 : decode b_O_clause 152 = .ok (.iload 9, 2) := by decide +kernel
theorem d_O_clause_154 : decode b_O_clause 154 = .ok (.bipush 6, 2) := by decide +kernel
theorem d_O_clause_156 : decode b_O_clause 156 = .ok (.iload 7, 2) := by decide +kernel
theorem d_O_clause_158 : decode b_O_clause 158 = .ok (.invokevirtual 80, 3) := by decide +kernel
theorem d_O_clause_161 : decode b_O_clause 161 = .ok (.iload 9, 2) := by decide +kernel
theorem d_O_clause_163 : decode b_O_clause 163 = .ok (.ireturn, 1) := by decide +kernel
set_option maxRecDepth 100000 in
set_option maxHeartbeats 4000000 in
theorem o_clause (l : Launch) (D : va_G) (q : Nat → Nat) (n P rw a : Nat) (kn an : Int32) (lw s1 sd kd pa : Nat → Int32) (wd : Nat → Int64) (ao fo uo ho xo : Nat → Int32) (i w1 j w2 v w3 how : Int32) (sz : Nat) (hrw : rw ≤ 12) : Met l y_O_clause (wsm y_O_clause b_O_clause 10 (some .int)) { frames := 2, cells := 0, slots := 0, locals := 46 } (va_Pc [.ref (q 0), .int i, .int w1, .int j, .int w2, .int v, .int w3, .int how] (fun U => U.heap.size = sz ∧ cPre D (ow D q n P rw a kn an lw s1 sd kd pa wd ao fo uo ho xo) U)) (va_Qi (fun (r : Int32) (u : OS) => (¬ (iva n i ∧ iva n j ∧ iva n v ∧ wi3 w1 (-100) 100 ∧ wi3 w2 (-100) 100 ∧ wi3 w3 (-100) 100 ∧ wi3 how 0 7) ∧ r = -1 ∧ u = (n, P, rw, a, kn, an, lw, s1, sd, kd, pa, wd, ao, fo, uo, ho, xo)) ∨ ((iva n i ∧ iva n j ∧ iva n v ∧ wi3 w1 (-100) 100 ∧ wi3 w2 (-100) 100 ∧ wi3 w3 (-100) 100 ∧ wi3 how 0 7) ∧ ((¬ rw < 12 ∧ r = -2 ∧ u = (n, P, rw, a, kn, an, lw, s1, sd, kd, pa, wd, ao, fo, uo, ho, xo)) ∨ (rw < 12 ∧ r = nI rw ∧ u = (n, P, rw + 1, a, 0, -1, lw, s1, sd, upd kd rw 6, upd (upd (upd (upd (upd (upd (upd (clr7 pa rw) (7 * rw + 0) i) (7 * rw + 1) w1) (7 * rw + 2) j) (7 * rw + 3) w2) (7 * rw + 4) v) (7 * rw + 5) w3) (7 * rw + 6) how, vp_updL (vp_updL wd (2 * rw) 0) (2 * rw + 1) 0, ao, fo, uo, ho, xo))))) (fun u t => xB D (oW D q u) (va_A (ow D q n P rw a kn an lw s1 sd kd pa wd ao fo uo ho xo) sz) t) (va_A (ow D q n P rw a kn an lw s1 sd kd pa wd ao fo uo ho xo) sz)) 0 0 (va_A (ow D q n P rw a kn an lw s1 sd kd pa wd ao fo uo ho xo) sz) := by
  refine met_W (Qf := fun A => va_Qi (fun (r : Int32) (u : OS) => (¬ (iva n i ∧ iva n j ∧ iva n v ∧ wi3 w1 (-100) 100 ∧ wi3 w2 (-100) 100 ∧ wi3 w3 (-100) 100 ∧ wi3 how 0 7) ∧ r = -1 ∧ u = (n, P, rw, a, kn, an, lw, s1, sd, kd, pa, wd, ao, fo, uo, ho, xo)) ∨ ((iva n i ∧ iva n j ∧ iva n v ∧ wi3 w1 (-100) 100 ∧ wi3 w2 (-100) 100 ∧ wi3 w3 (-100) 100 ∧ wi3 how 0 7) ∧ ((¬ rw < 12 ∧ r = -2 ∧ u = (n, P, rw, a, kn, an, lw, s1, sd, kd, pa, wd, ao, fo, uo, ho, xo)) ∨ (rw < 12 ∧ r = nI rw ∧ u = (n, P, rw + 1, a, 0, -1, lw, s1, sd, upd kd rw 6, upd (upd (upd (upd (upd (upd (upd (clr7 pa rw) (7 * rw + 0) i) (7 * rw + 1) w1) (7 * rw + 2) j) (7 * rw + 3) w2) (7 * rw + 4) v) (7 * rw + 5) w3) (7 * rw + 6) how, vp_updL (vp_updL wd (2 * rw) 0) (2 * rw + 1) 0, ao, fo, uo, ho, xo))))) (fun u t => xB D (oW D q u) A t) A) (by decide) (Nat.le_of_ble_eq_true rfl) ?_
  intro p e s m below meth c ls A hx hb hr hlocks hml hown hin hA hP hK hD hN hl hS hAA
  have hown : s.vm.findClass R_O = some m.cls := hown
  have hl : lv_has ls 10 [(0, .ref (q 0)), (1, .int i), (2, .int w1), (3, .int j), (4, .int w2), (5, .int v), (6, .int w3), (7, .int how)] := hl
  refine lv_aload_n hx hb d_O_clause_0 rfl (lv_at hl 0 rfl) ?_
  refine lv_iload_n hx hb d_O_clause_1 rfl (lv_at hl 1 rfl) ?_
  refine rV (n := 1) (rest := []) hx hb hml hown hA (o_isPart l D q n P rw a kn an lw s1 sd kd pa wd ao fo uo ho xo i) wv_O_69 ⟨by decide, by decide, by decide +kernel⟩ ⟨rfl, rfl, by decide, by decide⟩ rfl hl.1 ⟨Nat.le_of_ble_eq_true rfl, Nat.le_of_ble_eq_true rfl⟩ hP hK hD hN 0 1 rfl rfl rfl (Nat.le_of_ble_eq_true rfl) d_O_clause_2 (fun r hr9 => ?_)
  rcases zb_c hr9 with ⟨rfl, h2⟩ | ⟨rfl, h2⟩
  · skip
    refine lv_if_eq (tgt := 75) hx hb d_O_clause_5 (by decide) (fun h => absurd h (by decide)) (fun _ => ?_)
    refine lv_aload_n hx hb d_O_clause_8 rfl (lv_at hl 0 rfl) ?_
    refine lv_iload_n hx hb d_O_clause_9 rfl (lv_at hl 3 rfl) ?_
    refine rV (n := 1) (rest := []) hx hb hml hown hA (o_isPart l D q n P rw a kn an lw s1 sd kd pa wd ao fo uo ho xo j) wv_O_69 ⟨by decide, by decide, by decide +kernel⟩ ⟨rfl, rfl, by decide, by decide⟩ rfl hl.1 ⟨Nat.le_of_ble_eq_true rfl, Nat.le_of_ble_eq_true rfl⟩ hP hK hD hN 0 1 rfl rfl rfl (Nat.le_of_ble_eq_true rfl) d_O_clause_10 (fun r hr9 => ?_)
    rcases zb_c hr9 with ⟨rfl, h10⟩ | ⟨rfl, h10⟩
    · skip
      refine lv_if_eq (tgt := 75) hx hb d_O_clause_13 (by decide) (fun h => absurd h (by decide)) (fun _ => ?_)
      refine lv_aload_n hx hb d_O_clause_16 rfl (lv_at hl 0 rfl) ?_
      refine lv_iload hx hb d_O_clause_17 (lv_at hl 5 rfl) ?_
      refine rV (n := 1) (rest := []) hx hb hml hown hA (o_isPart l D q n P rw a kn an lw s1 sd kd pa wd ao fo uo ho xo v) wv_O_69 ⟨by decide, by decide, by decide +kernel⟩ ⟨rfl, rfl, by decide, by decide⟩ rfl hl.1 ⟨Nat.le_of_ble_eq_true rfl, Nat.le_of_ble_eq_true rfl⟩ hP hK hD hN 0 1 rfl rfl rfl (Nat.le_of_ble_eq_true rfl) d_O_clause_19 (fun r hr9 => ?_)
      rcases zb_c hr9 with ⟨rfl, h19⟩ | ⟨rfl, h19⟩
      · skip
        refine lv_if_eq (tgt := 75) hx hb d_O_clause_22 (by decide) (fun h => absurd h (by decide)) (fun _ => ?_)
        refine lv_iload_n hx hb d_O_clause_25 rfl (lv_at hl 2 rfl) ?_
        refine lv_bipush (v := (-100)) hx hb d_O_clause_26 (by decide) ?_
        refine lv_bipush (v := 100) hx hb d_O_clause_28 (by decide) ?_
        refine rS (n := 3) (rest := []) hx hb hml hown hA (o_within l D w1 (-100) 100) wv_O_72 ⟨by decide, by decide, by decide +kernel⟩ ⟨rfl, rfl, by decide, by decide⟩ rfl hl.1 ⟨Nat.le_of_ble_eq_true rfl, Nat.le_of_ble_eq_true rfl⟩ (va_P.sub1 hP [] rfl) hK (va_D.sub hD [] rfl rfl) hN rfl (Nat.le_of_ble_eq_true rfl) d_O_clause_30 (fun r hr9 => ?_)
        rcases zb_c hr9 with ⟨rfl, h30⟩ | ⟨rfl, h30⟩
        · skip
          refine lv_if_eq (tgt := 75) hx hb d_O_clause_33 (by decide) (fun h => absurd h (by decide)) (fun _ => ?_)
          refine lv_iload hx hb d_O_clause_36 (lv_at hl 4 rfl) ?_
          refine lv_bipush (v := (-100)) hx hb d_O_clause_38 (by decide) ?_
          refine lv_bipush (v := 100) hx hb d_O_clause_40 (by decide) ?_
          refine rS (n := 3) (rest := []) hx hb hml hown hA (o_within l D w2 (-100) 100) wv_O_72 ⟨by decide, by decide, by decide +kernel⟩ ⟨rfl, rfl, by decide, by decide⟩ rfl hl.1 ⟨Nat.le_of_ble_eq_true rfl, Nat.le_of_ble_eq_true rfl⟩ (va_P.sub1 hP [] rfl) hK (va_D.sub hD [] rfl rfl) hN rfl (Nat.le_of_ble_eq_true rfl) d_O_clause_42 (fun r hr9 => ?_)
          rcases zb_c hr9 with ⟨rfl, h42⟩ | ⟨rfl, h42⟩
          · skip
            refine lv_if_eq (tgt := 75) hx hb d_O_clause_45 (by decide) (fun h => absurd h (by decide)) (fun _ => ?_)
            refine lv_iload hx hb d_O_clause_48 (lv_at hl 6 rfl) ?_
            refine lv_bipush (v := (-100)) hx hb d_O_clause_50 (by decide) ?_
            refine lv_bipush (v := 100) hx hb d_O_clause_52 (by decide) ?_
            refine rS (n := 3) (rest := []) hx hb hml hown hA (o_within l D w3 (-100) 100) wv_O_72 ⟨by decide, by decide, by decide +kernel⟩ ⟨rfl, rfl, by decide, by decide⟩ rfl hl.1 ⟨Nat.le_of_ble_eq_true rfl, Nat.le_of_ble_eq_true rfl⟩ (va_P.sub1 hP [] rfl) hK (va_D.sub hD [] rfl rfl) hN rfl (Nat.le_of_ble_eq_true rfl) d_O_clause_54 (fun r hr9 => ?_)
            rcases zb_c hr9 with ⟨rfl, h54⟩ | ⟨rfl, h54⟩
            · skip
              refine lv_if_eq (tgt := 75) hx hb d_O_clause_57 (by decide) (fun h => absurd h (by decide)) (fun _ => ?_)
              refine lv_iload hx hb d_O_clause_60 (lv_at hl 7 rfl) ?_
              refine lv_iconst (v := 0) hx hb d_O_clause_62 (by decide) ?_
              refine lv_bipush (v := 7) hx hb d_O_clause_63 (by decide) ?_
              refine rS (n := 3) (rest := []) hx hb hml hown hA (o_within l D how 0 7) wv_O_72 ⟨by decide, by decide, by decide +kernel⟩ ⟨rfl, rfl, by decide, by decide⟩ rfl hl.1 ⟨Nat.le_of_ble_eq_true rfl, Nat.le_of_ble_eq_true rfl⟩ (va_P.sub1 hP [] rfl) hK (va_D.sub hD [] rfl rfl) hN rfl (Nat.le_of_ble_eq_true rfl) d_O_clause_65 (fun r hr9 => ?_)
              rcases zb_c hr9 with ⟨rfl, h65⟩ | ⟨rfl, h65⟩
              · skip
                refine lv_if_eq (tgt := 75) hx hb d_O_clause_68 (by decide) (fun h => absurd h (by decide)) (fun _ => ?_)
                refine lv_iconst (v := 1) hx hb d_O_clause_71 (by decide) ?_
                refine lv_goto (tgt := 76) hx hb d_O_clause_72 (by decide) ?_
                refine lv_istore hx hb d_O_clause_76 hl (by decide) rfl (fun ls hl => ?_)
                have hl : lv_has ls 10 [(8, .int 1), (0, .ref (q 0)), (1, .int i), (2, .int w1), (3, .int j), (4, .int w2), (5, .int v), (6, .int w3), (7, .int how)] := hl
                refine lv_iload hx hb d_O_clause_78 (lv_at hl 0 rfl) ?_
                refine lv_if_ne (tgt := 85) hx hb d_O_clause_80 (by decide) (fun _ => ?_) (fun h => absurd h (by decide))
                refine lv_aload_n hx hb d_O_clause_85 rfl (lv_at hl 1 rfl) ?_
                refine lv_bipush (v := 6) hx hb d_O_clause_86 (by decide) ?_
                refine lv_lconst (v := 0) hx hb d_O_clause_88 (by decide) ?_
                refine lv_lconst (v := 0) hx hb d_O_clause_89 (by decide) ?_
                refine wVi (n := 3) (wr := []) (Wf := oW D q) (rest := []) hx hb hml hown hA (o_add l D q n P rw a kn an lw s1 sd kd pa wd ao fo uo ho xo 6 0 0 _ hrw) wv_O_76 ⟨by decide, by decide, by decide +kernel⟩ ⟨rfl, rfl, by decide, by decide⟩ rfl hl.1 ⟨Nat.le_of_ble_eq_true rfl, Nat.le_of_ble_eq_true rfl⟩ hP hK hD hS hAA hN [0, 1, 2, 3, 4, 5, 6, 7, 8, 9, 10, 11] [] rfl rfl (by decide) (by decide) (by decide) 0 1 rfl rfl rfl (Nat.le_of_ble_eq_true rfl) d_O_clause_90 (fun r u H locs hu hP hD hS => ?_)
                rcases hu with ⟨hr12, rfl, rfl⟩ | ⟨hr12, rfl, rfl⟩
                · skip
                  have hP : va_P D vwCl (ow D q n P rw a kn an lw s1 sd kd pa wd ao fo uo ho xo) H := hP
                  have hD : va_D A (ow D q n P rw a kn an lw s1 sd kd pa wd ao fo uo ho xo) := hD
                  refine lv_istore hx hb d_O_clause_93 hl (by decide) rfl (fun ls hl => ?_)
                  have hl : lv_has ls 10 [(9, .int (-2)), (8, .int 1), (0, .ref (q 0)), (1, .int i), (2, .int w1), (3, .int j), (4, .int w2), (5, .int v), (6, .int w3), (7, .int how)] := hl
                  refine lv_iload hx hb d_O_clause_95 (lv_at hl 0 rfl) ?_
                  refine lv_if_lt (tgt := 161) hx hb d_O_clause_97 (by decide) (fun _ => ?_) (fun h => absurd h (by decide))
                  refine lv_iload hx hb d_O_clause_161 (lv_at hl 0 rfl) ?_
                  exact eWi (n, P, rw, a, kn, an, lw, s1, sd, kd, pa, wd, ao, fo, uo, ho, xo) hx hb hr hlocks hP hK hD hS (Or.inr ⟨⟨h2, h10, h19, h30, h42, h54, h65⟩, Or.inl ⟨hr12, rfl, rfl⟩⟩) d_O_clause_163
                · skip
                  have hP : va_P D vwCl (ow D q n P (rw + 1) a 0 (-1) lw s1 sd (upd kd rw 6) (clr7 pa rw) (vp_updL (vp_updL wd (2 * rw) 0) (2 * rw + 1) 0) ao fo uo ho xo) H := hP
                  have hD : va_D A (ow D q n P (rw + 1) a 0 (-1) lw s1 sd (upd kd rw 6) (clr7 pa rw) (vp_updL (vp_updL wd (2 * rw) 0) (2 * rw + 1) 0) ao fo uo ho xo) := hD
                  refine lv_istore hx hb d_O_clause_93 hl (by decide) rfl (fun ls hl => ?_)
                  have hl : lv_has ls 10 [(9, .int (nI rw)), (8, .int 1), (0, .ref (q 0)), (1, .int i), (2, .int w1), (3, .int j), (4, .int w2), (5, .int v), (6, .int w3), (7, .int how)] := hl
                  refine lv_iload hx hb d_O_clause_95 (lv_at hl 0 rfl) ?_
                  refine lv_if_lt (tgt := 161) hx hb d_O_clause_97 (by decide) (fun h => absurd h (nI_pos (by omega))) (fun h97 => ?_)
                  refine lv_aload_n hx hb d_O_clause_100 rfl (lv_at hl 2 rfl) ?_
                  refine lv_iload hx hb d_O_clause_101 (lv_at hl 0 rfl) ?_
                  refine lv_iconst (v := 0) hx hb d_O_clause_103 (by decide) ?_
                  refine lv_iload_n hx hb d_O_clause_104 rfl (lv_at hl 3 rfl) ?_
                  refine wVv (n := 3) (wr := []) (Wf := oW D q) (rest := []) hx hb hml hown hA (o_set l D q n P (rw + 1) a 0 (-1) lw s1 sd (upd kd rw 6) (clr7 pa rw) (vp_updL (vp_updL wd (2 * rw) 0) (2 * rw + 1) 0) ao fo uo ho xo rw 0 i _ (by omega) (by decide)) wv_O_80 ⟨by decide, by decide, by decide +kernel⟩ ⟨rfl, rfl, by decide, by decide⟩ rfl hl.1 ⟨Nat.le_of_ble_eq_true rfl, Nat.le_of_ble_eq_true rfl⟩ hP hK hD hS hAA hN [0, 1, 2, 3, 4, 5, 6, 7, 8, 9, 10, 11] [] rfl rfl (by decide) (by decide) (by decide) 0 1 rfl rfl rfl (Nat.le_of_ble_eq_true rfl) d_O_clause_105 (fun u H locs hu hP hD hS => ?_)
                  subst hu
                  have hP : va_P D vwCl (ow D q n P (rw + 1) a 0 (-1) lw s1 sd (upd kd rw 6) (upd (clr7 pa rw) (7 * rw + 0) i) (vp_updL (vp_updL wd (2 * rw) 0) (2 * rw + 1) 0) ao fo uo ho xo) H := hP
                  have hD : va_D A (ow D q n P (rw + 1) a 0 (-1) lw s1 sd (upd kd rw 6) (upd (clr7 pa rw) (7 * rw + 0) i) (vp_updL (vp_updL wd (2 * rw) 0) (2 * rw + 1) 0) ao fo uo ho xo) := hD
                  refine lv_aload_n hx hb d_O_clause_108 rfl (lv_at hl 2 rfl) ?_
                  refine lv_iload hx hb d_O_clause_109 (lv_at hl 0 rfl) ?_
                  refine lv_iconst (v := 1) hx hb d_O_clause_111 (by decide) ?_
                  refine lv_iload_n hx hb d_O_clause_112 rfl (lv_at hl 4 rfl) ?_
                  refine wVv (n := 3) (wr := []) (Wf := oW D q) (rest := []) hx hb hml hown hA (o_set l D q n P (rw + 1) a 0 (-1) lw s1 sd (upd kd rw 6) (upd (clr7 pa rw) (7 * rw + 0) i) (vp_updL (vp_updL wd (2 * rw) 0) (2 * rw + 1) 0) ao fo uo ho xo rw 1 w1 _ (by omega) (by decide)) wv_O_80 ⟨by decide, by decide, by decide +kernel⟩ ⟨rfl, rfl, by decide, by decide⟩ rfl hl.1 ⟨Nat.le_of_ble_eq_true rfl, Nat.le_of_ble_eq_true rfl⟩ hP hK hD hS hAA hN [0, 1, 2, 3, 4, 5, 6, 7, 8, 9, 10, 11] [] rfl rfl (by decide) (by decide) (by decide) 0 1 rfl rfl rfl (Nat.le_of_ble_eq_true rfl) d_O_clause_113 (fun u H locs hu hP hD hS => ?_)
                  subst hu
                  have hP : va_P D vwCl (ow D q n P (rw + 1) a 0 (-1) lw s1 sd (upd kd rw 6) (upd (upd (clr7 pa rw) (7 * rw + 0) i) (7 * rw + 1) w1) (vp_updL (vp_updL wd (2 * rw) 0) (2 * rw + 1) 0) ao fo uo ho xo) H := hP
                  have hD : va_D A (ow D q n P (rw + 1) a 0 (-1) lw s1 sd (upd kd rw 6) (upd (upd (clr7 pa rw) (7 * rw + 0) i) (7 * rw + 1) w1) (vp_updL (vp_updL wd (2 * rw) 0) (2 * rw + 1) 0) ao fo uo ho xo) := hD
                  refine lv_aload_n hx hb d_O_clause_116 rfl (lv_at hl 2 rfl) ?_
                  refine lv_iload hx hb d_O_clause_117 (lv_at hl 0 rfl) ?_
                  refine lv_iconst (v := 2) hx hb d_O_clause_119 (by decide) ?_
                  refine lv_iload_n hx hb d_O_clause_120 rfl (lv_at hl 5 rfl) ?_
                  refine wVv (n := 3) (wr := []) (Wf := oW D q) (rest := []) hx hb hml hown hA (o_set l D q n P (rw + 1) a 0 (-1) lw s1 sd (upd kd rw 6) (upd (upd (clr7 pa rw) (7 * rw + 0) i) (7 * rw + 1) w1) (vp_updL (vp_updL wd (2 * rw) 0) (2 * rw + 1) 0) ao fo uo ho xo rw 2 j _ (by omega) (by decide)) wv_O_80 ⟨by decide, by decide, by decide +kernel⟩ ⟨rfl, rfl, by decide, by decide⟩ rfl hl.1 ⟨Nat.le_of_ble_eq_true rfl, Nat.le_of_ble_eq_true rfl⟩ hP hK hD hS hAA hN [0, 1, 2, 3, 4, 5, 6, 7, 8, 9, 10, 11] [] rfl rfl (by decide) (by decide) (by decide) 0 1 rfl rfl rfl (Nat.le_of_ble_eq_true rfl) d_O_clause_121 (fun u H locs hu hP hD hS => ?_)
                  subst hu
                  have hP : va_P D vwCl (ow D q n P (rw + 1) a 0 (-1) lw s1 sd (upd kd rw 6) (upd (upd (upd (clr7 pa rw) (7 * rw + 0) i) (7 * rw + 1) w1) (7 * rw + 2) j) (vp_updL (vp_updL wd (2 * rw) 0) (2 * rw + 1) 0) ao fo uo ho xo) H := hP
                  have hD : va_D A (ow D q n P (rw + 1) a 0 (-1) lw s1 sd (upd kd rw 6) (upd (upd (upd (clr7 pa rw) (7 * rw + 0) i) (7 * rw + 1) w1) (7 * rw + 2) j) (vp_updL (vp_updL wd (2 * rw) 0) (2 * rw + 1) 0) ao fo uo ho xo) := hD
                  refine lv_aload_n hx hb d_O_clause_124 rfl (lv_at hl 2 rfl) ?_
                  refine lv_iload hx hb d_O_clause_125 (lv_at hl 0 rfl) ?_
                  refine lv_iconst (v := 3) hx hb d_O_clause_127 (by decide) ?_
                  refine lv_iload hx hb d_O_clause_128 (lv_at hl 6 rfl) ?_
                  refine wVv (n := 3) (wr := []) (Wf := oW D q) (rest := []) hx hb hml hown hA (o_set l D q n P (rw + 1) a 0 (-1) lw s1 sd (upd kd rw 6) (upd (upd (upd (clr7 pa rw) (7 * rw + 0) i) (7 * rw + 1) w1) (7 * rw + 2) j) (vp_updL (vp_updL wd (2 * rw) 0) (2 * rw + 1) 0) ao fo uo ho xo rw 3 w2 _ (by omega) (by decide)) wv_O_80 ⟨by decide, by decide, by decide +kernel⟩ ⟨rfl, rfl, by decide, by decide⟩ rfl hl.1 ⟨Nat.le_of_ble_eq_true rfl, Nat.le_of_ble_eq_true rfl⟩ hP hK hD hS hAA hN [0, 1, 2, 3, 4, 5, 6, 7, 8, 9, 10, 11] [] rfl rfl (by decide) (by decide) (by decide) 0 1 rfl rfl rfl (Nat.le_of_ble_eq_true rfl) d_O_clause_130 (fun u H locs hu hP hD hS => ?_)
                  subst hu
                  have hP : va_P D vwCl (ow D q n P (rw + 1) a 0 (-1) lw s1 sd (upd kd rw 6) (upd (upd (upd (upd (clr7 pa rw) (7 * rw + 0) i) (7 * rw + 1) w1) (7 * rw + 2) j) (7 * rw + 3) w2) (vp_updL (vp_updL wd (2 * rw) 0) (2 * rw + 1) 0) ao fo uo ho xo) H := hP
                  have hD : va_D A (ow D q n P (rw + 1) a 0 (-1) lw s1 sd (upd kd rw 6) (upd (upd (upd (upd (clr7 pa rw) (7 * rw + 0) i) (7 * rw + 1) w1) (7 * rw + 2) j) (7 * rw + 3) w2) (vp_updL (vp_updL wd (2 * rw) 0) (2 * rw + 1) 0) ao fo uo ho xo) := hD
                  refine lv_aload_n hx hb d_O_clause_133 rfl (lv_at hl 2 rfl) ?_
                  refine lv_iload hx hb d_O_clause_134 (lv_at hl 0 rfl) ?_
                  refine lv_iconst (v := 4) hx hb d_O_clause_136 (by decide) ?_
                  refine lv_iload hx hb d_O_clause_137 (lv_at hl 7 rfl) ?_
                  refine wVv (n := 3) (wr := []) (Wf := oW D q) (rest := []) hx hb hml hown hA (o_set l D q n P (rw + 1) a 0 (-1) lw s1 sd (upd kd rw 6) (upd (upd (upd (upd (clr7 pa rw) (7 * rw + 0) i) (7 * rw + 1) w1) (7 * rw + 2) j) (7 * rw + 3) w2) (vp_updL (vp_updL wd (2 * rw) 0) (2 * rw + 1) 0) ao fo uo ho xo rw 4 v _ (by omega) (by decide)) wv_O_80 ⟨by decide, by decide, by decide +kernel⟩ ⟨rfl, rfl, by decide, by decide⟩ rfl hl.1 ⟨Nat.le_of_ble_eq_true rfl, Nat.le_of_ble_eq_true rfl⟩ hP hK hD hS hAA hN [0, 1, 2, 3, 4, 5, 6, 7, 8, 9, 10, 11] [] rfl rfl (by decide) (by decide) (by decide) 0 1 rfl rfl rfl (Nat.le_of_ble_eq_true rfl) d_O_clause_139 (fun u H locs hu hP hD hS => ?_)
                  subst hu
                  have hP : va_P D vwCl (ow D q n P (rw + 1) a 0 (-1) lw s1 sd (upd kd rw 6) (upd (upd (upd (upd (upd (clr7 pa rw) (7 * rw + 0) i) (7 * rw + 1) w1) (7 * rw + 2) j) (7 * rw + 3) w2) (7 * rw + 4) v) (vp_updL (vp_updL wd (2 * rw) 0) (2 * rw + 1) 0) ao fo uo ho xo) H := hP
                  have hD : va_D A (ow D q n P (rw + 1) a 0 (-1) lw s1 sd (upd kd rw 6) (upd (upd (upd (upd (upd (clr7 pa rw) (7 * rw + 0) i) (7 * rw + 1) w1) (7 * rw + 2) j) (7 * rw + 3) w2) (7 * rw + 4) v) (vp_updL (vp_updL wd (2 * rw) 0) (2 * rw + 1) 0) ao fo uo ho xo) := hD
                  refine lv_aload_n hx hb d_O_clause_142 rfl (lv_at hl 2 rfl) ?_
                  refine lv_iload hx hb d_O_clause_143 (lv_at hl 0 rfl) ?_
                  refine lv_iconst (v := 5) hx hb d_O_clause_145 (by decide) ?_
                  refine lv_iload hx hb d_O_clause_146 (lv_at hl 8 rfl) ?_
                  refine wVv (n := 3) (wr := []) (Wf := oW D q) (rest := []) hx hb hml hown hA (o_set l D q n P (rw + 1) a 0 (-1) lw s1 sd (upd kd rw 6) (upd (upd (upd (upd (upd (clr7 pa rw) (7 * rw + 0) i) (7 * rw + 1) w1) (7 * rw + 2) j) (7 * rw + 3) w2) (7 * rw + 4) v) (vp_updL (vp_updL wd (2 * rw) 0) (2 * rw + 1) 0) ao fo uo ho xo rw 5 w3 _ (by omega) (by decide)) wv_O_80 ⟨by decide, by decide, by decide +kernel⟩ ⟨rfl, rfl, by decide, by decide⟩ rfl hl.1 ⟨Nat.le_of_ble_eq_true rfl, Nat.le_of_ble_eq_true rfl⟩ hP hK hD hS hAA hN [0, 1, 2, 3, 4, 5, 6, 7, 8, 9, 10, 11] [] rfl rfl (by decide) (by decide) (by decide) 0 1 rfl rfl rfl (Nat.le_of_ble_eq_true rfl) d_O_clause_148 (fun u H locs hu hP hD hS => ?_)
                  subst hu
                  have hP : va_P D vwCl (ow D q n P (rw + 1) a 0 (-1) lw s1 sd (upd kd rw 6) (upd (upd (upd (upd (upd (upd (clr7 pa rw) (7 * rw + 0) i) (7 * rw + 1) w1) (7 * rw + 2) j) (7 * rw + 3) w2) (7 * rw + 4) v) (7 * rw + 5) w3) (vp_updL (vp_updL wd (2 * rw) 0) (2 * rw + 1) 0) ao fo uo ho xo) H := hP
                  have hD : va_D A (ow D q n P (rw + 1) a 0 (-1) lw s1 sd (upd kd rw 6) (upd (upd (upd (upd (upd (upd (clr7 pa rw) (7 * rw + 0) i) (7 * rw + 1) w1) (7 * rw + 2) j) (7 * rw + 3) w2) (7 * rw + 4) v) (7 * rw + 5) w3) (vp_updL (vp_updL wd (2 * rw) 0) (2 * rw + 1) 0) ao fo uo ho xo) := hD
                  refine lv_aload_n hx hb d_O_clause_151 rfl (lv_at hl 2 rfl) ?_
                  refine lv_iload hx hb d_O_clause_152 (lv_at hl 0 rfl) ?_
                  refine lv_bipush (v := 6) hx hb d_O_clause_154 (by decide) ?_
                  refine lv_iload hx hb d_O_clause_156 (lv_at hl 9 rfl) ?_
                  refine wVv (n := 3) (wr := []) (Wf := oW D q) (rest := []) hx hb hml hown hA (o_set l D q n P (rw + 1) a 0 (-1) lw s1 sd (upd kd rw 6) (upd (upd (upd (upd (upd (upd (clr7 pa rw) (7 * rw + 0) i) (7 * rw + 1) w1) (7 * rw + 2) j) (7 * rw + 3) w2) (7 * rw + 4) v) (7 * rw + 5) w3) (vp_updL (vp_updL wd (2 * rw) 0) (2 * rw + 1) 0) ao fo uo ho xo rw 6 how _ (by omega) (by decide)) wv_O_80 ⟨by decide, by decide, by decide +kernel⟩ ⟨rfl, rfl, by decide, by decide⟩ rfl hl.1 ⟨Nat.le_of_ble_eq_true rfl, Nat.le_of_ble_eq_true rfl⟩ hP hK hD hS hAA hN [0, 1, 2, 3, 4, 5, 6, 7, 8, 9, 10, 11] [] rfl rfl (by decide) (by decide) (by decide) 0 1 rfl rfl rfl (Nat.le_of_ble_eq_true rfl) d_O_clause_158 (fun u H locs hu hP hD hS => ?_)
                  subst hu
                  have hP : va_P D vwCl (ow D q n P (rw + 1) a 0 (-1) lw s1 sd (upd kd rw 6) (upd (upd (upd (upd (upd (upd (upd (clr7 pa rw) (7 * rw + 0) i) (7 * rw + 1) w1) (7 * rw + 2) j) (7 * rw + 3) w2) (7 * rw + 4) v) (7 * rw + 5) w3) (7 * rw + 6) how) (vp_updL (vp_updL wd (2 * rw) 0) (2 * rw + 1) 0) ao fo uo ho xo) H := hP
                  have hD : va_D A (ow D q n P (rw + 1) a 0 (-1) lw s1 sd (upd kd rw 6) (upd (upd (upd (upd (upd (upd (upd (clr7 pa rw) (7 * rw + 0) i) (7 * rw + 1) w1) (7 * rw + 2) j) (7 * rw + 3) w2) (7 * rw + 4) v) (7 * rw + 5) w3) (7 * rw + 6) how) (vp_updL (vp_updL wd (2 * rw) 0) (2 * rw + 1) 0) ao fo uo ho xo) := hD
                  refine lv_iload hx hb d_O_clause_161 (lv_at hl 0 rfl) ?_
                  exact eWi (n, P, (rw + 1), a, 0, -1, lw, s1, sd, upd kd rw 6, upd (upd (upd (upd (upd (upd (upd (clr7 pa rw) (7 * rw + 0) i) (7 * rw + 1) w1) (7 * rw + 2) j) (7 * rw + 3) w2) (7 * rw + 4) v) (7 * rw + 5) w3) (7 * rw + 6) how, vp_updL (vp_updL wd (2 * rw) 0) (2 * rw + 1) 0, ao, fo, uo, ho, xo) hx hb hr hlocks hP hK hD hS (Or.inr ⟨⟨h2, h10, h19, h30, h42, h54, h65⟩, Or.inr ⟨hr12, rfl, rfl⟩⟩) d_O_clause_163
              · skip
                refine lv_if_eq (tgt := 75) hx hb d_O_clause_68 (by decide) (fun _ => ?_) (fun h => absurd h (by decide))
                refine lv_iconst (v := 0) hx hb d_O_clause_75 (by decide) ?_
                refine lv_istore hx hb d_O_clause_76 hl (by decide) rfl (fun ls hl => ?_)
                have hl : lv_has ls 10 [(8, .int 0), (0, .ref (q 0)), (1, .int i), (2, .int w1), (3, .int j), (4, .int w2), (5, .int v), (6, .int w3), (7, .int how)] := hl
                refine lv_iload hx hb d_O_clause_78 (lv_at hl 0 rfl) ?_
                refine lv_if_ne (tgt := 85) hx hb d_O_clause_80 (by decide) (fun h => absurd h (by decide)) (fun _ => ?_)
                refine lv_iconst (v := (-1)) hx hb d_O_clause_83 (by decide) ?_
                exact eWi (n, P, rw, a, kn, an, lw, s1, sd, kd, pa, wd, ao, fo, uo, ho, xo) hx hb hr hlocks hP hK hD hS (Or.inl ⟨fun h => h65 (h.2.2.2.2.2.2), rfl, rfl⟩) d_O_clause_84
            · skip
              refine lv_if_eq (tgt := 75) hx hb d_O_clause_57 (by decide) (fun _ => ?_) (fun h => absurd h (by decide))
              refine lv_iconst (v := 0) hx hb d_O_clause_75 (by decide) ?_
              refine lv_istore hx hb d_O_clause_76 hl (by decide) rfl (fun ls hl => ?_)
              have hl : lv_has ls 10 [(8, .int 0), (0, .ref (q 0)), (1, .int i), (2, .int w1), (3, .int j), (4, .int w2), (5, .int v), (6, .int w3), (7, .int how)] := hl
              refine lv_iload hx hb d_O_clause_78 (lv_at hl 0 rfl) ?_
              refine lv_if_ne (tgt := 85) hx hb d_O_clause_80 (by decide) (fun h => absurd h (by decide)) (fun _ => ?_)
              refine lv_iconst (v := (-1)) hx hb d_O_clause_83 (by decide) ?_
              exact eWi (n, P, rw, a, kn, an, lw, s1, sd, kd, pa, wd, ao, fo, uo, ho, xo) hx hb hr hlocks hP hK hD hS (Or.inl ⟨fun h => h54 (h.2.2.2.2.2.1), rfl, rfl⟩) d_O_clause_84
          · skip
            refine lv_if_eq (tgt := 75) hx hb d_O_clause_45 (by decide) (fun _ => ?_) (fun h => absurd h (by decide))
            refine lv_iconst (v := 0) hx hb d_O_clause_75 (by decide) ?_
            refine lv_istore hx hb d_O_clause_76 hl (by decide) rfl (fun ls hl => ?_)
            have hl : lv_has ls 10 [(8, .int 0), (0, .ref (q 0)), (1, .int i), (2, .int w1), (3, .int j), (4, .int w2), (5, .int v), (6, .int w3), (7, .int how)] := hl
            refine lv_iload hx hb d_O_clause_78 (lv_at hl 0 rfl) ?_
            refine lv_if_ne (tgt := 85) hx hb d_O_clause_80 (by decide) (fun h => absurd h (by decide)) (fun _ => ?_)
            refine lv_iconst (v := (-1)) hx hb d_O_clause_83 (by decide) ?_
            exact eWi (n, P, rw, a, kn, an, lw, s1, sd, kd, pa, wd, ao, fo, uo, ho, xo) hx hb hr hlocks hP hK hD hS (Or.inl ⟨fun h => h42 (h.2.2.2.2.1), rfl, rfl⟩) d_O_clause_84
        · skip
          refine lv_if_eq (tgt := 75) hx hb d_O_clause_33 (by decide) (fun _ => ?_) (fun h => absurd h (by decide))
          refine lv_iconst (v := 0) hx hb d_O_clause_75 (by decide) ?_
          refine lv_istore hx hb d_O_clause_76 hl (by decide) rfl (fun ls hl => ?_)
          have hl : lv_has ls 10 [(8, .int 0), (0, .ref (q 0)), (1, .int i), (2, .int w1), (3, .int j), (4, .int w2), (5, .int v), (6, .int w3), (7, .int how)] := hl
          refine lv_iload hx hb d_O_clause_78 (lv_at hl 0 rfl) ?_
          refine lv_if_ne (tgt := 85) hx hb d_O_clause_80 (by decide) (fun h => absurd h (by decide)) (fun _ => ?_)
          refine lv_iconst (v := (-1)) hx hb d_O_clause_83 (by decide) ?_
          exact eWi (n, P, rw, a, kn, an, lw, s1, sd, kd, pa, wd, ao, fo, uo, ho, xo) hx hb hr hlocks hP hK hD hS (Or.inl ⟨fun h => h30 (h.2.2.2.1), rfl, rfl⟩) d_O_clause_84
      · skip
        refine lv_if_eq (tgt := 75) hx hb d_O_clause_22 (by decide) (fun _ => ?_) (fun h => absurd h (by decide))
        refine lv_iconst (v := 0) hx hb d_O_clause_75 (by decide) ?_
        refine lv_istore hx hb d_O_clause_76 hl (by decide) rfl (fun ls hl => ?_)
        have hl : lv_has ls 10 [(8, .int 0), (0, .ref (q 0)), (1, .int i), (2, .int w1), (3, .int j), (4, .int w2), (5, .int v), (6, .int w3), (7, .int how)] := hl
        refine lv_iload hx hb d_O_clause_78 (lv_at hl 0 rfl) ?_
        refine lv_if_ne (tgt := 85) hx hb d_O_clause_80 (by decide) (fun h => absurd h (by decide)) (fun _ => ?_)
        refine lv_iconst (v := (-1)) hx hb d_O_clause_83 (by decide) ?_
        exact eWi (n, P, rw, a, kn, an, lw, s1, sd, kd, pa, wd, ao, fo, uo, ho, xo) hx hb hr hlocks hP hK hD hS (Or.inl ⟨fun h => h19 (h.2.2.1), rfl, rfl⟩) d_O_clause_84
    · skip
      refine lv_if_eq (tgt := 75) hx hb d_O_clause_13 (by decide) (fun _ => ?_) (fun h => absurd h (by decide))
      refine lv_iconst (v := 0) hx hb d_O_clause_75 (by decide) ?_
      refine lv_istore hx hb d_O_clause_76 hl (by decide) rfl (fun ls hl => ?_)
      have hl : lv_has ls 10 [(8, .int 0), (0, .ref (q 0)), (1, .int i), (2, .int w1), (3, .int j), (4, .int w2), (5, .int v), (6, .int w3), (7, .int how)] := hl
      refine lv_iload hx hb d_O_clause_78 (lv_at hl 0 rfl) ?_
      refine lv_if_ne (tgt := 85) hx hb d_O_clause_80 (by decide) (fun h => absurd h (by decide)) (fun _ => ?_)
      refine lv_iconst (v := (-1)) hx hb d_O_clause_83 (by decide) ?_
      exact eWi (n, P, rw, a, kn, an, lw, s1, sd, kd, pa, wd, ao, fo, uo, ho, xo) hx hb hr hlocks hP hK hD hS (Or.inl ⟨fun h => h10 (h.2.1), rfl, rfl⟩) d_O_clause_84
  · skip
    refine lv_if_eq (tgt := 75) hx hb d_O_clause_5 (by decide) (fun _ => ?_) (fun h => absurd h (by decide))
    refine lv_iconst (v := 0) hx hb d_O_clause_75 (by decide) ?_
    refine lv_istore hx hb d_O_clause_76 hl (by decide) rfl (fun ls hl => ?_)
    have hl : lv_has ls 10 [(8, .int 0), (0, .ref (q 0)), (1, .int i), (2, .int w1), (3, .int j), (4, .int w2), (5, .int v), (6, .int w3), (7, .int how)] := hl
    refine lv_iload hx hb d_O_clause_78 (lv_at hl 0 rfl) ?_
    refine lv_if_ne (tgt := 85) hx hb d_O_clause_80 (by decide) (fun h => absurd h (by decide)) (fun _ => ?_)
    refine lv_iconst (v := (-1)) hx hb d_O_clause_83 (by decide) ?_
    exact eWi (n, P, rw, a, kn, an, lw, s1, sd, kd, pa, wd, ao, fo, uo, ho, xo) hx hb hr hlocks hP hK hD hS (Or.inl ⟨fun h => h2 (h.1), rfl, rfl⟩) d_O_clause_84
end
end
