section
theorem wd_0 : Cond.initialized R_W ∈ cA := cA_tbl (List.mem_of_getElem? (i := 0) (by decide +kernel)) rfl
theorem wd_1 : Cond.initialized R_X ∈ cA := cA_tbl (List.mem_of_getElem? (i := 1) (by decide +kernel)) rfl
theorem wd_2 : Cond.initialized R_JA ∈ cA := cA_tbl (List.mem_of_getElem? (i := 2) (by decide +kernel)) rfl
theorem wd_3 : Cond.initialized R_O ∈ cA := cA_tbl (List.mem_of_getElem? (i := 3) (by decide +kernel)) rfl
theorem wd_4 : Cond.initialized R_JR ∈ cA := cA_tbl (List.mem_of_getElem? (i := 4) (by decide +kernel)) rfl
theorem wd_5 : Cond.initialized R_L ∈ cA := cA_tbl (List.mem_of_getElem? (i := 5) (by decide +kernel)) rfl
theorem wd_6 : Cond.initialized "java/lang/System" ∈ cA := cA_tbl (List.mem_of_getElem? (i := 6) (by decide +kernel)) rfl
theorem wd_7 : Cond.initialized R_U ∈ cA := cA_tbl (List.mem_of_getElem? (i := 7) (by decide +kernel)) rfl
theorem wd_8 : Cond.initialized "java/lang/Math" ∈ cA := cA_tbl (List.mem_of_getElem? (i := 8) (by decide +kernel)) rfl
theorem wd_9 : Cond.initialized R_R ∈ cA := cA_tbl (List.mem_of_getElem? (i := 9) (by decide +kernel)) rfl
theorem wd_10 : Cond.initialized R_M ∈ cA := cA_tbl (List.mem_of_getElem? (i := 10) (by decide +kernel)) rfl
theorem wd_11 : Cond.initialized R_E ∈ cA := cA_tbl (List.mem_of_getElem? (i := 11) (by decide +kernel)) rfl
theorem wd_12 : Cond.initialized R_D ∈ cA := cA_tbl (List.mem_of_getElem? (i := 12) (by decide +kernel)) rfl
theorem wd_13 : Cond.initialized R_C ∈ cA := cA_tbl (List.mem_of_getElem? (i := 13) (by decide +kernel)) rfl
theorem wd_14 : Cond.classLink R_W 7 R_X ∈ cA := cA_tbl (List.mem_of_getElem? (i := 14) (by decide +kernel)) rfl
theorem wd_15 : Cond.instantiable R_X 14 ∈ cA := cA_tbl (List.mem_of_getElem? (i := 15) (by decide +kernel)) rfl
theorem wd_16 : Cond.methodLink R_W 9 y_X_init ∈ cA := cA_tbl (List.mem_of_getElem? (i := 16) (by decide +kernel)) rfl
theorem wd_17 : Cond.instanceMethod y_X_init ∈ cA := cA_tbl (List.mem_of_getElem? (i := 17) (by decide +kernel)) rfl
theorem wd_18 : Cond.code y_X_init b_X_init 1 none ∈ cA := cA_tbl (List.mem_of_getElem? (i := 18) (by decide +kernel)) rfl
theorem wd_19 : Cond.methodLink R_X 3 objectInit ∈ cA := cA_tbl (List.mem_of_getElem? (i := 19) (by decide +kernel)) rfl
theorem wd_20 : Cond.instanceMethod objectInit ∈ cA := cA_tbl (List.mem_of_getElem? (i := 20) (by decide +kernel)) rfl
theorem wd_21 : Cond.code objectInit ⟨#[0xb1]⟩ 1 none ∈ cA := cA_tbl (List.mem_of_getElem? (i := 21) (by decide +kernel)) rfl
theorem wd_22 : Cond.methodLink R_X 41 y_JA_fill ∈ cA := cA_tbl (List.mem_of_getElem? (i := 22) (by decide +kernel)) rfl
theorem wd_23 : Cond.static y_JA_fill ∈ cA := cA_tbl (List.mem_of_getElem? (i := 23) (by decide +kernel)) rfl
theorem wd_24 : Cond.code y_JA_fill b_JA_fill 4 none ∈ cA := cA_tbl (List.mem_of_getElem? (i := 24) (by decide +kernel)) rfl
theorem wd_25 : Cond.fieldLink R_X 9 "ExplainingSolver" "rangeLo" "[I" ∈ cA := cA_tbl (List.mem_of_getElem? (i := 25) (by decide +kernel)) rfl
theorem wd_26 : Cond.fieldLink R_X 13 "ExplainingSolver" "rangeHi" "[I" ∈ cA := cA_tbl (List.mem_of_getElem? (i := 26) (by decide +kernel)) rfl
theorem wd_27 : Cond.fieldLink R_X 47 "ExplainingSolver" "variableCount" "I" ∈ cA := cA_tbl (List.mem_of_getElem? (i := 27) (by decide +kernel)) rfl
theorem wd_28 : Cond.fieldLink R_X 16 "ExplainingSolver" "brokenBy" "[I" ∈ cA := cA_tbl (List.mem_of_getElem? (i := 28) (by decide +kernel)) rfl
theorem wd_29 : Cond.fieldLink R_X 37 "ExplainingSolver" "pointCount" "I" ∈ cA := cA_tbl (List.mem_of_getElem? (i := 29) (by decide +kernel)) rfl
theorem wd_30 : Cond.fieldLink R_X 110 "ExplainingSolver" "constraintCount" "I" ∈ cA := cA_tbl (List.mem_of_getElem? (i := 30) (by decide +kernel)) rfl
theorem wd_31 : Cond.fieldLink R_X 19 "ExplainingSolver" "assumedVariable" "[I" ∈ cA := cA_tbl (List.mem_of_getElem? (i := 31) (by decide +kernel)) rfl
theorem wd_32 : Cond.fieldLink R_X 22 "ExplainingSolver" "assumedLo" "[I" ∈ cA := cA_tbl (List.mem_of_getElem? (i := 32) (by decide +kernel)) rfl
theorem wd_33 : Cond.fieldLink R_X 25 "ExplainingSolver" "assumedHi" "[I" ∈ cA := cA_tbl (List.mem_of_getElem? (i := 33) (by decide +kernel)) rfl
theorem wd_34 : Cond.fieldLink R_X 113 "ExplainingSolver" "assumptionCount" "I" ∈ cA := cA_tbl (List.mem_of_getElem? (i := 34) (by decide +kernel)) rfl
theorem wd_35 : Cond.fieldLink R_X 28 "ExplainingSolver" "answer" "[I" ∈ cA := cA_tbl (List.mem_of_getElem? (i := 35) (by decide +kernel)) rfl
theorem wd_36 : Cond.fieldLink R_X 54 "ExplainingSolver" "answered" "Z" ∈ cA := cA_tbl (List.mem_of_getElem? (i := 36) (by decide +kernel)) rfl
theorem wd_37 : Cond.fieldLink R_X 31 "ExplainingSolver" "point" "[I" ∈ cA := cA_tbl (List.mem_of_getElem? (i := 37) (by decide +kernel)) rfl
theorem wd_38 : Cond.fieldLink R_X 34 "ExplainingSolver" "found" "[I" ∈ cA := cA_tbl (List.mem_of_getElem? (i := 38) (by decide +kernel)) rfl
theorem wd_39 : Cond.laysFinal "ExplainingSolver" "ExplainingSolver" "rangeLo" "[I" ∈ cA := cA_tbl (List.mem_of_getElem? (i := 39) (by decide +kernel)) rfl
theorem wd_41 : Cond.laysFinal "ExplainingSolver" "ExplainingSolver" "rangeHi" "[I" ∈ cA := cA_tbl (List.mem_of_getElem? (i := 41) (by decide +kernel)) rfl
theorem wd_43 : Cond.lays "ExplainingSolver" "ExplainingSolver" "variableCount" "I" ∈ cA := cA_tbl (List.mem_of_getElem? (i := 43) (by decide +kernel)) rfl
theorem wd_45 : Cond.laysFinal "ExplainingSolver" "ExplainingSolver" "brokenBy" "[I" ∈ cA := cA_tbl (List.mem_of_getElem? (i := 45) (by decide +kernel)) rfl
theorem wd_47 : Cond.lays "ExplainingSolver" "ExplainingSolver" "pointCount" "I" ∈ cA := cA_tbl (List.mem_of_getElem? (i := 47) (by decide +kernel)) rfl
theorem wd_49 : Cond.lays "ExplainingSolver" "ExplainingSolver" "constraintCount" "I" ∈ cA := cA_tbl (List.mem_of_getElem? (i := 49) (by decide +kernel)) rfl
theorem wd_51 : Cond.laysFinal "ExplainingSolver" "ExplainingSolver" "assumedVariable" "[I" ∈ cA := cA_tbl (List.mem_of_getElem? (i := 51) (by decide +kernel)) rfl
theorem wd_53 : Cond.laysFinal "ExplainingSolver" "ExplainingSolver" "assumedLo" "[I" ∈ cA := cA_tbl (List.mem_of_getElem? (i := 53) (by decide +kernel)) rfl
theorem wd_55 : Cond.laysFinal "ExplainingSolver" "ExplainingSolver" "assumedHi" "[I" ∈ cA := cA_tbl (List.mem_of_getElem? (i := 55) (by decide +kernel)) rfl
theorem wd_57 : Cond.lays "ExplainingSolver" "ExplainingSolver" "assumptionCount" "I" ∈ cA := cA_tbl (List.mem_of_getElem? (i := 57) (by decide +kernel)) rfl
theorem wd_59 : Cond.laysFinal "ExplainingSolver" "ExplainingSolver" "answer" "[I" ∈ cA := cA_tbl (List.mem_of_getElem? (i := 59) (by decide +kernel)) rfl
theorem wd_61 : Cond.lays "ExplainingSolver" "ExplainingSolver" "answered" "Z" ∈ cA := cA_tbl (List.mem_of_getElem? (i := 61) (by decide +kernel)) rfl
theorem wd_63 : Cond.laysFinal "ExplainingSolver" "ExplainingSolver" "point" "[I" ∈ cA := cA_tbl (List.mem_of_getElem? (i := 63) (by decide +kernel)) rfl
theorem wd_65 : Cond.laysFinal "ExplainingSolver" "ExplainingSolver" "found" "[I" ∈ cA := cA_tbl (List.mem_of_getElem? (i := 65) (by decide +kernel)) rfl
theorem wd_68 : Cond.arrayClass .int ∈ cA := cA_tbl (List.mem_of_getElem? (i := 68) (by decide +kernel)) rfl
theorem wd_69 : Cond.methodLink R_W 13 y_X_variable ∈ cA := cA_tbl (List.mem_of_getElem? (i := 69) (by decide +kernel)) rfl
theorem wd_70 : Cond.instanceMethod y_X_variable ∈ cA := cA_tbl (List.mem_of_getElem? (i := 70) (by decide +kernel)) rfl
theorem wd_71 : Cond.selects R_X y_X_variable y_X_variable ∈ cA := cA_tbl (List.mem_of_getElem? (i := 71) (by decide +kernel)) rfl
theorem wd_72 : Cond.code y_X_variable b_X_variable 4 (some .int) ∈ cA := cA_tbl (List.mem_of_getElem? (i := 72) (by decide +kernel)) rfl
theorem wd_73 : Cond.methodLink R_X 50 y_X_splitPoints ∈ cA := cA_tbl (List.mem_of_getElem? (i := 73) (by decide +kernel)) rfl
theorem wd_75 : Cond.instanceMethod y_X_splitPoints ∈ cA := cA_tbl (List.mem_of_getElem? (i := 75) (by decide +kernel)) rfl
theorem wd_76 : Cond.code y_X_splitPoints b_X_splitPoints 5 none ∈ cA := cA_tbl (List.mem_of_getElem? (i := 76) (by decide +kernel)) rfl
theorem wd_77 : Cond.methodLink R_W 18 y_X_linear ∈ cA := cA_tbl (List.mem_of_getElem? (i := 77) (by decide +kernel)) rfl
theorem wd_78 : Cond.instanceMethod y_X_linear ∈ cA := cA_tbl (List.mem_of_getElem? (i := 78) (by decide +kernel)) rfl
theorem wd_79 : Cond.selects R_X y_X_linear y_X_linear ∈ cA := cA_tbl (List.mem_of_getElem? (i := 79) (by decide +kernel)) rfl
theorem wd_80 : Cond.code y_X_linear b_X_linear 9 (some .int) ∈ cA := cA_tbl (List.mem_of_getElem? (i := 80) (by decide +kernel)) rfl
theorem wd_81 : Cond.methodLink R_X 58 y_X_areVariablesOrAbsent ∈ cA := cA_tbl (List.mem_of_getElem? (i := 81) (by decide +kernel)) rfl
theorem wd_83 : Cond.instanceMethod y_X_areVariablesOrAbsent ∈ cA := cA_tbl (List.mem_of_getElem? (i := 83) (by decide +kernel)) rfl
theorem wd_84 : Cond.code y_X_areVariablesOrAbsent b_X_areVariablesOrAbsent 4 (some .boolean) ∈ cA := cA_tbl (List.mem_of_getElem? (i := 84) (by decide +kernel)) rfl
theorem wd_85 : Cond.methodLink R_X 84 y_X_isVariableOrAbsent ∈ cA := cA_tbl (List.mem_of_getElem? (i := 85) (by decide +kernel)) rfl
theorem wd_87 : Cond.instanceMethod y_X_isVariableOrAbsent ∈ cA := cA_tbl (List.mem_of_getElem? (i := 87) (by decide +kernel)) rfl
theorem wd_88 : Cond.code y_X_isVariableOrAbsent b_X_isVariableOrAbsent 2 (some .boolean) ∈ cA := cA_tbl (List.mem_of_getElem? (i := 88) (by decide +kernel)) rfl
theorem wd_89 : Cond.methodLink R_X 75 y_X_isVariable ∈ cA := cA_tbl (List.mem_of_getElem? (i := 89) (by decide +kernel)) rfl
theorem wd_91 : Cond.instanceMethod y_X_isVariable ∈ cA := cA_tbl (List.mem_of_getElem? (i := 91) (by decide +kernel)) rfl
theorem wd_92 : Cond.code y_X_isVariable b_X_isVariable 2 (some .boolean) ∈ cA := cA_tbl (List.mem_of_getElem? (i := 92) (by decide +kernel)) rfl
theorem wd_93 : Cond.methodLink R_X 62 y_X_isWithin ∈ cA := cA_tbl (List.mem_of_getElem? (i := 93) (by decide +kernel)) rfl
theorem wd_94 : Cond.static y_X_isWithin ∈ cA := cA_tbl (List.mem_of_getElem? (i := 94) (by decide +kernel)) rfl
theorem wd_95 : Cond.code y_X_isWithin b_X_isWithin 2 (some .boolean) ∈ cA := cA_tbl (List.mem_of_getElem? (i := 95) (by decide +kernel)) rfl
theorem wd_96 : Cond.classLink R_X 66 R_L ∈ cA := cA_tbl (List.mem_of_getElem? (i := 96) (by decide +kernel)) rfl
theorem wd_97 : Cond.instantiable R_L 7 ∈ cA := cA_tbl (List.mem_of_getElem? (i := 97) (by decide +kernel)) rfl
theorem wd_98 : Cond.methodLinkNest R_X 68 y_L_init R_X ∈ lw_tbl := List.mem_append_right _ (List.mem_of_getElem? (i := 98) (by decide +kernel))
theorem wd_99 : Cond.instanceMethod y_L_init ∈ cA := cA_tbl (List.mem_of_getElem? (i := 99) (by decide +kernel)) rfl
theorem wd_100 : Cond.code y_L_init b_L_init 8 none ∈ cA := cA_tbl (List.mem_of_getElem? (i := 100) (by decide +kernel)) rfl
theorem wd_101 : Cond.methodLink R_L 3 y_JR_init ∈ cA := cA_tbl (List.mem_of_getElem? (i := 101) (by decide +kernel)) rfl
theorem wd_102 : Cond.instanceMethod y_JR_init ∈ cA := cA_tbl (List.mem_of_getElem? (i := 102) (by decide +kernel)) rfl
theorem wd_103 : Cond.code y_JR_init b_JR_init 1 none ∈ cA := cA_tbl (List.mem_of_getElem? (i := 103) (by decide +kernel)) rfl
theorem wd_104 : Cond.methodLink R_JR 1 objectInit ∈ cA := cA_tbl (List.mem_of_getElem? (i := 104) (by decide +kernel)) rfl
theorem wd_105 : Cond.fieldLink R_L 9 "ExplainingSolver$Linear" "i" "I" ∈ cA := cA_tbl (List.mem_of_getElem? (i := 105) (by decide +kernel)) rfl
theorem wd_106 : Cond.fieldLink R_L 15 "ExplainingSolver$Linear" "a" "I" ∈ cA := cA_tbl (List.mem_of_getElem? (i := 106) (by decide +kernel)) rfl
theorem wd_107 : Cond.fieldLink R_L 18 "ExplainingSolver$Linear" "j" "I" ∈ cA := cA_tbl (List.mem_of_getElem? (i := 107) (by decide +kernel)) rfl
theorem wd_108 : Cond.fieldLink R_L 21 "ExplainingSolver$Linear" "b" "I" ∈ cA := cA_tbl (List.mem_of_getElem? (i := 108) (by decide +kernel)) rfl
theorem wd_109 : Cond.fieldLink R_L 24 "ExplainingSolver$Linear" "k" "I" ∈ cA := cA_tbl (List.mem_of_getElem? (i := 109) (by decide +kernel)) rfl
theorem wd_110 : Cond.fieldLink R_L 27 "ExplainingSolver$Linear" "c" "I" ∈ cA := cA_tbl (List.mem_of_getElem? (i := 110) (by decide +kernel)) rfl
theorem wd_111 : Cond.fieldLink R_L 30 "ExplainingSolver$Linear" "bound" "I" ∈ cA := cA_tbl (List.mem_of_getElem? (i := 111) (by decide +kernel)) rfl
theorem wd_112 : Cond.laysFinal "ExplainingSolver$Linear" "ExplainingSolver$Linear" "i" "I" ∈ cA := cA_tbl (List.mem_of_getElem? (i := 112) (by decide +kernel)) rfl
theorem wd_114 : Cond.laysFinal "ExplainingSolver$Linear" "ExplainingSolver$Linear" "a" "I" ∈ cA := cA_tbl (List.mem_of_getElem? (i := 114) (by decide +kernel)) rfl
theorem wd_116 : Cond.laysFinal "ExplainingSolver$Linear" "ExplainingSolver$Linear" "j" "I" ∈ cA := cA_tbl (List.mem_of_getElem? (i := 116) (by decide +kernel)) rfl
theorem wd_118 : Cond.laysFinal "ExplainingSolver$Linear" "ExplainingSolver$Linear" "b" "I" ∈ cA := cA_tbl (List.mem_of_getElem? (i := 118) (by decide +kernel)) rfl
theorem wd_120 : Cond.laysFinal "ExplainingSolver$Linear" "ExplainingSolver$Linear" "k" "I" ∈ cA := cA_tbl (List.mem_of_getElem? (i := 120) (by decide +kernel)) rfl
theorem wd_122 : Cond.laysFinal "ExplainingSolver$Linear" "ExplainingSolver$Linear" "c" "I" ∈ cA := cA_tbl (List.mem_of_getElem? (i := 122) (by decide +kernel)) rfl
theorem wd_124 : Cond.laysFinal "ExplainingSolver$Linear" "ExplainingSolver$Linear" "bound" "I" ∈ cA := cA_tbl (List.mem_of_getElem? (i := 124) (by decide +kernel)) rfl
theorem wd_127 : Cond.methodLink R_X 71 y_X_add ∈ cA := cA_tbl (List.mem_of_getElem? (i := 127) (by decide +kernel)) rfl
theorem wd_129 : Cond.instanceMethod y_X_add ∈ cA := cA_tbl (List.mem_of_getElem? (i := 129) (by decide +kernel)) rfl
theorem wd_130 : Cond.code y_X_add b_X_add 3 (some .int) ∈ cA := cA_tbl (List.mem_of_getElem? (i := 130) (by decide +kernel)) rfl
theorem wd_131 : Cond.methodLink R_X 123 y_X_goToFirstPoint ∈ cA := cA_tbl (List.mem_of_getElem? (i := 131) (by decide +kernel)) rfl
theorem wd_133 : Cond.instanceMethod y_X_goToFirstPoint ∈ cA := cA_tbl (List.mem_of_getElem? (i := 133) (by decide +kernel)) rfl
theorem wd_134 : Cond.code y_X_goToFirstPoint b_X_goToFirstPoint 1 none ∈ cA := cA_tbl (List.mem_of_getElem? (i := 134) (by decide +kernel)) rfl
theorem wd_135 : Cond.methodLink R_X 135 arraycopyName ∈ cA := cA_tbl (List.mem_of_getElem? (i := 135) (by decide +kernel)) rfl
theorem wd_136 : Cond.static arraycopyName ∈ cA := cA_tbl (List.mem_of_getElem? (i := 136) (by decide +kernel)) rfl
theorem wd_137 : Cond.native arraycopyName ∈ cA := cA_tbl (List.mem_of_getElem? (i := 137) (by decide +kernel)) rfl
theorem wd_139 : Cond.methodLink R_X 126 y_K_holdsAt ∈ cA := cA_tbl (List.mem_of_getElem? (i := 139) (by decide +kernel)) rfl
theorem wd_140 : Cond.interfaceMethod "ExplainingSolver$Constraint" "ExplainingSolver$Constraint" "holdsAt" "([I)Z" ∈ lw_tbl := List.mem_append_right _ (List.mem_of_getElem? (i := 140) (by decide +kernel))
theorem wd_141 : Cond.declares y_K_holdsAt ∈ lw_tbl := List.mem_append_right _ (List.mem_of_getElem? (i := 141) (by decide +kernel))
theorem wd_142 : Cond.castable R_C R_K ∈ lw_tbl := List.mem_append_right _ (List.mem_of_getElem? (i := 142) (by decide +kernel))
theorem wd_143 : Cond.selects R_C y_K_holdsAt y_C_holdsAt ∈ cA := cA_tbl (List.mem_of_getElem? (i := 143) (by decide +kernel)) rfl
theorem wd_144 : Cond.unhidden R_C "holdsAt" "([I)Z" ∈ lw_tbl := List.mem_append_right _ (List.mem_of_getElem? (i := 144) (by decide +kernel))
theorem wd_145 : Cond.instanceMethod y_C_holdsAt ∈ cA := cA_tbl (List.mem_of_getElem? (i := 145) (by decide +kernel)) rfl
theorem wd_146 : Cond.publicMethod y_C_holdsAt ∈ lw_tbl := List.mem_append_right _ (List.mem_of_getElem? (i := 146) (by decide +kernel))
theorem wd_147 : Cond.code y_C_holdsAt b_C_holdsAt 2 (some .boolean) ∈ cA := cA_tbl (List.mem_of_getElem? (i := 147) (by decide +kernel)) rfl
theorem wd_148 : Cond.methodLink R_C 33 y_C_partHolds ∈ cA := cA_tbl (List.mem_of_getElem? (i := 148) (by decide +kernel)) rfl
theorem wd_150 : Cond.instanceMethod y_C_partHolds ∈ cA := cA_tbl (List.mem_of_getElem? (i := 150) (by decide +kernel)) rfl
theorem wd_151 : Cond.instantiable R_C 7 ∈ cA := cA_tbl (List.mem_of_getElem? (i := 151) (by decide +kernel)) rfl
theorem wd_152 : Cond.code y_C_partHolds b_C_partHolds 5 (some .boolean) ∈ cA := cA_tbl (List.mem_of_getElem? (i := 152) (by decide +kernel)) rfl
theorem wd_153 : Cond.methodLinkNest R_C 37 y_X_isIn R_X ∈ lw_tbl := List.mem_append_right _ (List.mem_of_getElem? (i := 153) (by decide +kernel))
theorem wd_154 : Cond.static y_X_isIn ∈ cA := cA_tbl (List.mem_of_getElem? (i := 154) (by decide +kernel)) rfl
theorem wd_155 : Cond.code y_X_isIn b_X_isIn 2 (some .boolean) ∈ cA := cA_tbl (List.mem_of_getElem? (i := 155) (by decide +kernel)) rfl
theorem wd_156 : Cond.castable R_U R_K ∈ lw_tbl := List.mem_append_right _ (List.mem_of_getElem? (i := 156) (by decide +kernel))
theorem wd_157 : Cond.selects R_U y_K_holdsAt y_U_holdsAt ∈ cA := cA_tbl (List.mem_of_getElem? (i := 157) (by decide +kernel)) rfl
theorem wd_158 : Cond.unhidden R_U "holdsAt" "([I)Z" ∈ lw_tbl := List.mem_append_right _ (List.mem_of_getElem? (i := 158) (by decide +kernel))
theorem wd_159 : Cond.instanceMethod y_U_holdsAt ∈ cA := cA_tbl (List.mem_of_getElem? (i := 159) (by decide +kernel)) rfl
theorem wd_160 : Cond.publicMethod y_U_holdsAt ∈ lw_tbl := List.mem_append_right _ (List.mem_of_getElem? (i := 160) (by decide +kernel))
theorem wd_161 : Cond.code y_U_holdsAt b_U_holdsAt 3 (some .boolean) ∈ cA := cA_tbl (List.mem_of_getElem? (i := 161) (by decide +kernel)) rfl
theorem wd_162 : Cond.methodLinkNest R_U 25 y_X_isIn R_X ∈ lw_tbl := List.mem_append_right _ (List.mem_of_getElem? (i := 162) (by decide +kernel))
theorem wd_163 : Cond.methodLink R_U 29 y_U_needAt ∈ cA := cA_tbl (List.mem_of_getElem? (i := 163) (by decide +kernel)) rfl
theorem wd_165 : Cond.instanceMethod y_U_needAt ∈ cA := cA_tbl (List.mem_of_getElem? (i := 165) (by decide +kernel)) rfl
theorem wd_166 : Cond.instantiable R_U 4 ∈ cA := cA_tbl (List.mem_of_getElem? (i := 166) (by decide +kernel)) rfl
theorem wd_167 : Cond.code y_U_needAt b_U_needAt 5 (some .int) ∈ cA := cA_tbl (List.mem_of_getElem? (i := 167) (by decide +kernel)) rfl
theorem wd_168 : Cond.methodLink R_U 33 y_U_fourBits ∈ cA := cA_tbl (List.mem_of_getElem? (i := 168) (by decide +kernel)) rfl
theorem wd_169 : Cond.static y_U_fourBits ∈ cA := cA_tbl (List.mem_of_getElem? (i := 169) (by decide +kernel)) rfl
theorem wd_170 : Cond.code y_U_fourBits b_U_fourBits 3 (some .int) ∈ cA := cA_tbl (List.mem_of_getElem? (i := 170) (by decide +kernel)) rfl
theorem wd_171 : Cond.castable R_D R_K ∈ lw_tbl := List.mem_append_right _ (List.mem_of_getElem? (i := 171) (by decide +kernel))
theorem wd_172 : Cond.selects R_D y_K_holdsAt y_D_holdsAt ∈ cA := cA_tbl (List.mem_of_getElem? (i := 172) (by decide +kernel)) rfl
theorem wd_173 : Cond.unhidden R_D "holdsAt" "([I)Z" ∈ lw_tbl := List.mem_append_right _ (List.mem_of_getElem? (i := 173) (by decide +kernel))
theorem wd_174 : Cond.instanceMethod y_D_holdsAt ∈ cA := cA_tbl (List.mem_of_getElem? (i := 174) (by decide +kernel)) rfl
theorem wd_175 : Cond.publicMethod y_D_holdsAt ∈ lw_tbl := List.mem_append_right _ (List.mem_of_getElem? (i := 175) (by decide +kernel))
theorem wd_176 : Cond.code y_D_holdsAt b_D_holdsAt 7 (some .boolean) ∈ cA := cA_tbl (List.mem_of_getElem? (i := 176) (by decide +kernel)) rfl
theorem wd_177 : Cond.methodLinkNest R_D 15 y_X_isIn R_X ∈ lw_tbl := List.mem_append_right _ (List.mem_of_getElem? (i := 177) (by decide +kernel))
theorem wd_178 : Cond.castable R_E R_K ∈ lw_tbl := List.mem_append_right _ (List.mem_of_getElem? (i := 178) (by decide +kernel))
theorem wd_179 : Cond.selects R_E y_K_holdsAt y_E_holdsAt ∈ cA := cA_tbl (List.mem_of_getElem? (i := 179) (by decide +kernel)) rfl
theorem wd_180 : Cond.unhidden R_E "holdsAt" "([I)Z" ∈ lw_tbl := List.mem_append_right _ (List.mem_of_getElem? (i := 180) (by decide +kernel))
theorem wd_181 : Cond.instanceMethod y_E_holdsAt ∈ cA := cA_tbl (List.mem_of_getElem? (i := 181) (by decide +kernel)) rfl
theorem wd_182 : Cond.publicMethod y_E_holdsAt ∈ lw_tbl := List.mem_append_right _ (List.mem_of_getElem? (i := 182) (by decide +kernel))
theorem wd_183 : Cond.code y_E_holdsAt b_E_holdsAt 2 (some .boolean) ∈ cA := cA_tbl (List.mem_of_getElem? (i := 183) (by decide +kernel)) rfl
theorem wd_184 : Cond.castable R_L R_K ∈ lw_tbl := List.mem_append_right _ (List.mem_of_getElem? (i := 184) (by decide +kernel))
theorem wd_185 : Cond.selects R_L y_K_holdsAt y_L_holdsAt ∈ cA := cA_tbl (List.mem_of_getElem? (i := 185) (by decide +kernel)) rfl
theorem wd_186 : Cond.unhidden R_L "holdsAt" "([I)Z" ∈ lw_tbl := List.mem_append_right _ (List.mem_of_getElem? (i := 186) (by decide +kernel))
theorem wd_187 : Cond.instanceMethod y_L_holdsAt ∈ cA := cA_tbl (List.mem_of_getElem? (i := 187) (by decide +kernel)) rfl
theorem wd_188 : Cond.publicMethod y_L_holdsAt ∈ lw_tbl := List.mem_append_right _ (List.mem_of_getElem? (i := 188) (by decide +kernel))
theorem wd_189 : Cond.code y_L_holdsAt b_L_holdsAt 2 (some .boolean) ∈ cA := cA_tbl (List.mem_of_getElem? (i := 189) (by decide +kernel)) rfl
theorem wd_190 : Cond.methodLink R_L 33 y_L_product ∈ cA := cA_tbl (List.mem_of_getElem? (i := 190) (by decide +kernel)) rfl
theorem wd_191 : Cond.static y_L_product ∈ cA := cA_tbl (List.mem_of_getElem? (i := 191) (by decide +kernel)) rfl
theorem wd_192 : Cond.code y_L_product b_L_product 3 (some .int) ∈ cA := cA_tbl (List.mem_of_getElem? (i := 192) (by decide +kernel)) rfl
theorem wd_193 : Cond.castable R_M R_K ∈ lw_tbl := List.mem_append_right _ (List.mem_of_getElem? (i := 193) (by decide +kernel))
theorem wd_194 : Cond.selects R_M y_K_holdsAt y_M_holdsAt ∈ cA := cA_tbl (List.mem_of_getElem? (i := 194) (by decide +kernel)) rfl
theorem wd_195 : Cond.unhidden R_M "holdsAt" "([I)Z" ∈ lw_tbl := List.mem_append_right _ (List.mem_of_getElem? (i := 195) (by decide +kernel))
theorem wd_196 : Cond.instanceMethod y_M_holdsAt ∈ cA := cA_tbl (List.mem_of_getElem? (i := 196) (by decide +kernel)) rfl
theorem wd_197 : Cond.publicMethod y_M_holdsAt ∈ lw_tbl := List.mem_append_right _ (List.mem_of_getElem? (i := 197) (by decide +kernel))
theorem wd_198 : Cond.code y_M_holdsAt b_M_holdsAt 3 (some .boolean) ∈ cA := cA_tbl (List.mem_of_getElem? (i := 198) (by decide +kernel)) rfl
theorem wd_199 : Cond.methodLink R_M 24 Lib.Math.max.name ∈ cA := cA_tbl (List.mem_of_getElem? (i := 199) (by decide +kernel)) rfl
theorem wd_200 : Cond.static Lib.Math.max.name ∈ cA := cA_tbl (List.mem_of_getElem? (i := 200) (by decide +kernel)) rfl
theorem wd_201 : Cond.code Lib.Math.max.name Lib.Math.max.code 2 (some .int) ∈ cA := cA_tbl (List.mem_of_getElem? (i := 201) (by decide +kernel)) rfl
theorem wd_202 : Cond.castable R_R R_K ∈ lw_tbl := List.mem_append_right _ (List.mem_of_getElem? (i := 202) (by decide +kernel))
theorem wd_203 : Cond.selects R_R y_K_holdsAt y_R_holdsAt ∈ cA := cA_tbl (List.mem_of_getElem? (i := 203) (by decide +kernel)) rfl
theorem wd_204 : Cond.unhidden R_R "holdsAt" "([I)Z" ∈ lw_tbl := List.mem_append_right _ (List.mem_of_getElem? (i := 204) (by decide +kernel))
theorem wd_205 : Cond.instanceMethod y_R_holdsAt ∈ cA := cA_tbl (List.mem_of_getElem? (i := 205) (by decide +kernel)) rfl
theorem wd_206 : Cond.publicMethod y_R_holdsAt ∈ lw_tbl := List.mem_append_right _ (List.mem_of_getElem? (i := 206) (by decide +kernel))
theorem wd_207 : Cond.code y_R_holdsAt b_R_holdsAt 2 (some .boolean) ∈ cA := cA_tbl (List.mem_of_getElem? (i := 207) (by decide +kernel)) rfl
theorem wd_208 : Cond.methodLink R_X 132 y_X_goToNextPoint ∈ cA := cA_tbl (List.mem_of_getElem? (i := 208) (by decide +kernel)) rfl
theorem wd_210 : Cond.instanceMethod y_X_goToNextPoint ∈ cA := cA_tbl (List.mem_of_getElem? (i := 210) (by decide +kernel)) rfl
theorem wd_211 : Cond.code y_X_goToNextPoint b_X_goToNextPoint 2 none ∈ cA := cA_tbl (List.mem_of_getElem? (i := 211) (by decide +kernel)) rfl
theorem wd_212 : Cond.methodLink R_W 23 y_X_reified ∈ cA := cA_tbl (List.mem_of_getElem? (i := 212) (by decide +kernel)) rfl
theorem wd_213 : Cond.instanceMethod y_X_reified ∈ cA := cA_tbl (List.mem_of_getElem? (i := 213) (by decide +kernel)) rfl
theorem wd_214 : Cond.selects R_X y_X_reified y_X_reified ∈ cA := cA_tbl (List.mem_of_getElem? (i := 214) (by decide +kernel)) rfl
theorem wd_215 : Cond.code y_X_reified b_X_reified 6 (some .int) ∈ cA := cA_tbl (List.mem_of_getElem? (i := 215) (by decide +kernel)) rfl
theorem wd_216 : Cond.classLink R_X 79 R_R ∈ cA := cA_tbl (List.mem_of_getElem? (i := 216) (by decide +kernel)) rfl
theorem wd_217 : Cond.instantiable R_R 4 ∈ cA := cA_tbl (List.mem_of_getElem? (i := 217) (by decide +kernel)) rfl
theorem wd_218 : Cond.methodLinkNest R_X 81 y_R_init R_X ∈ lw_tbl := List.mem_append_right _ (List.mem_of_getElem? (i := 218) (by decide +kernel))
theorem wd_219 : Cond.instanceMethod y_R_init ∈ cA := cA_tbl (List.mem_of_getElem? (i := 219) (by decide +kernel)) rfl
theorem wd_220 : Cond.code y_R_init b_R_init 5 none ∈ cA := cA_tbl (List.mem_of_getElem? (i := 220) (by decide +kernel)) rfl
theorem wd_221 : Cond.methodLink R_R 1 y_JR_init ∈ cA := cA_tbl (List.mem_of_getElem? (i := 221) (by decide +kernel)) rfl
theorem wd_222 : Cond.fieldLink R_R 7 "ExplainingSolver$Reified" "\x72" "I" ∈ cA := cA_tbl (List.mem_of_getElem? (i := 222) (by decide +kernel)) rfl
theorem wd_223 : Cond.fieldLink R_R 13 "ExplainingSolver$Reified" "i" "I" ∈ cA := cA_tbl (List.mem_of_getElem? (i := 223) (by decide +kernel)) rfl
theorem wd_224 : Cond.fieldLink R_R 16 "ExplainingSolver$Reified" "j" "I" ∈ cA := cA_tbl (List.mem_of_getElem? (i := 224) (by decide +kernel)) rfl
theorem wd_225 : Cond.fieldLink R_R 19 "ExplainingSolver$Reified" "c" "I" ∈ cA := cA_tbl (List.mem_of_getElem? (i := 225) (by decide +kernel)) rfl
theorem wd_226 : Cond.laysFinal "ExplainingSolver$Reified" "ExplainingSolver$Reified" "\x72" "I" ∈ cA := cA_tbl (List.mem_of_getElem? (i := 226) (by decide +kernel)) rfl
theorem wd_228 : Cond.laysFinal "ExplainingSolver$Reified" "ExplainingSolver$Reified" "i" "I" ∈ cA := cA_tbl (List.mem_of_getElem? (i := 228) (by decide +kernel)) rfl
theorem wd_230 : Cond.laysFinal "ExplainingSolver$Reified" "ExplainingSolver$Reified" "j" "I" ∈ cA := cA_tbl (List.mem_of_getElem? (i := 230) (by decide +kernel)) rfl
theorem wd_232 : Cond.laysFinal "ExplainingSolver$Reified" "ExplainingSolver$Reified" "c" "I" ∈ cA := cA_tbl (List.mem_of_getElem? (i := 232) (by decide +kernel)) rfl
theorem wd_235 : Cond.methodLink R_W 28 y_X_maximum ∈ cA := cA_tbl (List.mem_of_getElem? (i := 235) (by decide +kernel)) rfl
theorem wd_236 : Cond.instanceMethod y_X_maximum ∈ cA := cA_tbl (List.mem_of_getElem? (i := 236) (by decide +kernel)) rfl
theorem wd_237 : Cond.selects R_X y_X_maximum y_X_maximum ∈ cA := cA_tbl (List.mem_of_getElem? (i := 237) (by decide +kernel)) rfl
theorem wd_238 : Cond.code y_X_maximum b_X_maximum 6 (some .int) ∈ cA := cA_tbl (List.mem_of_getElem? (i := 238) (by decide +kernel)) rfl
theorem wd_239 : Cond.classLink R_X 87 R_M ∈ cA := cA_tbl (List.mem_of_getElem? (i := 239) (by decide +kernel)) rfl
theorem wd_240 : Cond.instantiable R_M 4 ∈ cA := cA_tbl (List.mem_of_getElem? (i := 240) (by decide +kernel)) rfl
theorem wd_241 : Cond.methodLinkNest R_X 89 y_M_init R_X ∈ lw_tbl := List.mem_append_right _ (List.mem_of_getElem? (i := 241) (by decide +kernel))
theorem wd_242 : Cond.instanceMethod y_M_init ∈ cA := cA_tbl (List.mem_of_getElem? (i := 242) (by decide +kernel)) rfl
theorem wd_243 : Cond.code y_M_init b_M_init 5 none ∈ cA := cA_tbl (List.mem_of_getElem? (i := 243) (by decide +kernel)) rfl
theorem wd_244 : Cond.methodLink R_M 3 y_JR_init ∈ cA := cA_tbl (List.mem_of_getElem? (i := 244) (by decide +kernel)) rfl
theorem wd_245 : Cond.fieldLink R_M 9 "ExplainingSolver$Maximum" "\x72" "I" ∈ cA := cA_tbl (List.mem_of_getElem? (i := 245) (by decide +kernel)) rfl
theorem wd_246 : Cond.fieldLink R_M 15 "ExplainingSolver$Maximum" "i" "I" ∈ cA := cA_tbl (List.mem_of_getElem? (i := 246) (by decide +kernel)) rfl
theorem wd_247 : Cond.fieldLink R_M 18 "ExplainingSolver$Maximum" "j" "I" ∈ cA := cA_tbl (List.mem_of_getElem? (i := 247) (by decide +kernel)) rfl
theorem wd_248 : Cond.fieldLink R_M 21 "ExplainingSolver$Maximum" "k" "I" ∈ cA := cA_tbl (List.mem_of_getElem? (i := 248) (by decide +kernel)) rfl
theorem wd_249 : Cond.laysFinal "ExplainingSolver$Maximum" "ExplainingSolver$Maximum" "\x72" "I" ∈ cA := cA_tbl (List.mem_of_getElem? (i := 249) (by decide +kernel)) rfl
theorem wd_251 : Cond.laysFinal "ExplainingSolver$Maximum" "ExplainingSolver$Maximum" "i" "I" ∈ cA := cA_tbl (List.mem_of_getElem? (i := 251) (by decide +kernel)) rfl
theorem wd_253 : Cond.laysFinal "ExplainingSolver$Maximum" "ExplainingSolver$Maximum" "j" "I" ∈ cA := cA_tbl (List.mem_of_getElem? (i := 253) (by decide +kernel)) rfl
theorem wd_255 : Cond.laysFinal "ExplainingSolver$Maximum" "ExplainingSolver$Maximum" "k" "I" ∈ cA := cA_tbl (List.mem_of_getElem? (i := 255) (by decide +kernel)) rfl
theorem wd_258 : Cond.methodLink R_W 34 y_X_element ∈ cA := cA_tbl (List.mem_of_getElem? (i := 258) (by decide +kernel)) rfl
theorem wd_259 : Cond.instanceMethod y_X_element ∈ cA := cA_tbl (List.mem_of_getElem? (i := 259) (by decide +kernel)) rfl
theorem wd_260 : Cond.selects R_X y_X_element y_X_element ∈ cA := cA_tbl (List.mem_of_getElem? (i := 260) (by decide +kernel)) rfl
theorem wd_261 : Cond.code y_X_element b_X_element 6 (some .int) ∈ cA := cA_tbl (List.mem_of_getElem? (i := 261) (by decide +kernel)) rfl
theorem wd_262 : Cond.classLink R_X 90 R_E ∈ cA := cA_tbl (List.mem_of_getElem? (i := 262) (by decide +kernel)) rfl
theorem wd_263 : Cond.instantiable R_E 3 ∈ cA := cA_tbl (List.mem_of_getElem? (i := 263) (by decide +kernel)) rfl
theorem wd_264 : Cond.methodLinkNest R_X 92 y_E_init R_X ∈ lw_tbl := List.mem_append_right _ (List.mem_of_getElem? (i := 264) (by decide +kernel))
theorem wd_265 : Cond.instanceMethod y_E_init ∈ cA := cA_tbl (List.mem_of_getElem? (i := 265) (by decide +kernel)) rfl
theorem wd_266 : Cond.code y_E_init b_E_init 5 none ∈ cA := cA_tbl (List.mem_of_getElem? (i := 266) (by decide +kernel)) rfl
theorem wd_267 : Cond.methodLink R_E 1 y_JR_init ∈ cA := cA_tbl (List.mem_of_getElem? (i := 267) (by decide +kernel)) rfl
theorem wd_268 : Cond.fieldLink R_E 7 "ExplainingSolver$Element" "\x72" "I" ∈ cA := cA_tbl (List.mem_of_getElem? (i := 268) (by decide +kernel)) rfl
theorem wd_269 : Cond.fieldLink R_E 13 "ExplainingSolver$Element" "i" "I" ∈ cA := cA_tbl (List.mem_of_getElem? (i := 269) (by decide +kernel)) rfl
theorem wd_270 : Cond.fieldLink R_E 16 "ExplainingSolver$Element" "table" "J" ∈ cA := cA_tbl (List.mem_of_getElem? (i := 270) (by decide +kernel)) rfl
theorem wd_271 : Cond.laysFinal "ExplainingSolver$Element" "ExplainingSolver$Element" "\x72" "I" ∈ cA := cA_tbl (List.mem_of_getElem? (i := 271) (by decide +kernel)) rfl
theorem wd_273 : Cond.laysFinal "ExplainingSolver$Element" "ExplainingSolver$Element" "i" "I" ∈ cA := cA_tbl (List.mem_of_getElem? (i := 273) (by decide +kernel)) rfl
theorem wd_275 : Cond.laysFinal "ExplainingSolver$Element" "ExplainingSolver$Element" "table" "J" ∈ cA := cA_tbl (List.mem_of_getElem? (i := 275) (by decide +kernel)) rfl
theorem wd_278 : Cond.methodLink R_W 39 y_X_different ∈ cA := cA_tbl (List.mem_of_getElem? (i := 278) (by decide +kernel)) rfl
theorem wd_279 : Cond.instanceMethod y_X_different ∈ cA := cA_tbl (List.mem_of_getElem? (i := 279) (by decide +kernel)) rfl
theorem wd_280 : Cond.selects R_X y_X_different y_X_different ∈ cA := cA_tbl (List.mem_of_getElem? (i := 280) (by decide +kernel)) rfl
theorem wd_281 : Cond.code y_X_different b_X_different 2 (some .int) ∈ cA := cA_tbl (List.mem_of_getElem? (i := 281) (by decide +kernel)) rfl
theorem wd_282 : Cond.methodLink R_X 95 y_X_isSetOfVariables ∈ cA := cA_tbl (List.mem_of_getElem? (i := 282) (by decide +kernel)) rfl
theorem wd_284 : Cond.instanceMethod y_X_isSetOfVariables ∈ cA := cA_tbl (List.mem_of_getElem? (i := 284) (by decide +kernel)) rfl
theorem wd_285 : Cond.code y_X_isSetOfVariables b_X_isSetOfVariables 2 (some .boolean) ∈ cA := cA_tbl (List.mem_of_getElem? (i := 285) (by decide +kernel)) rfl
theorem wd_286 : Cond.classLink R_X 98 R_D ∈ cA := cA_tbl (List.mem_of_getElem? (i := 286) (by decide +kernel)) rfl
theorem wd_287 : Cond.instantiable R_D 1 ∈ cA := cA_tbl (List.mem_of_getElem? (i := 287) (by decide +kernel)) rfl
theorem wd_288 : Cond.methodLinkNest R_X 100 y_D_init R_X ∈ lw_tbl := List.mem_append_right _ (List.mem_of_getElem? (i := 288) (by decide +kernel))
theorem wd_289 : Cond.instanceMethod y_D_init ∈ cA := cA_tbl (List.mem_of_getElem? (i := 289) (by decide +kernel)) rfl
theorem wd_290 : Cond.code y_D_init b_D_init 2 none ∈ cA := cA_tbl (List.mem_of_getElem? (i := 290) (by decide +kernel)) rfl
theorem wd_291 : Cond.methodLink R_D 3 y_JR_init ∈ cA := cA_tbl (List.mem_of_getElem? (i := 291) (by decide +kernel)) rfl
theorem wd_292 : Cond.fieldLink R_D 9 "ExplainingSolver$Different" "set" "I" ∈ cA := cA_tbl (List.mem_of_getElem? (i := 292) (by decide +kernel)) rfl
theorem wd_293 : Cond.laysFinal "ExplainingSolver$Different" "ExplainingSolver$Different" "set" "I" ∈ cA := cA_tbl (List.mem_of_getElem? (i := 293) (by decide +kernel)) rfl
theorem wd_296 : Cond.methodLink R_W 44 y_X_cumulative ∈ cA := cA_tbl (List.mem_of_getElem? (i := 296) (by decide +kernel)) rfl
theorem wd_297 : Cond.instanceMethod y_X_cumulative ∈ cA := cA_tbl (List.mem_of_getElem? (i := 297) (by decide +kernel)) rfl
theorem wd_298 : Cond.selects R_X y_X_cumulative y_X_cumulative ∈ cA := cA_tbl (List.mem_of_getElem? (i := 298) (by decide +kernel)) rfl
theorem wd_299 : Cond.code y_X_cumulative b_X_cumulative 8 (some .int) ∈ cA := cA_tbl (List.mem_of_getElem? (i := 299) (by decide +kernel)) rfl
theorem wd_300 : Cond.classLink R_X 102 R_U ∈ cA := cA_tbl (List.mem_of_getElem? (i := 300) (by decide +kernel)) rfl
theorem wd_301 : Cond.methodLinkNest R_X 104 y_U_init R_X ∈ lw_tbl := List.mem_append_right _ (List.mem_of_getElem? (i := 301) (by decide +kernel))
theorem wd_302 : Cond.instanceMethod y_U_init ∈ cA := cA_tbl (List.mem_of_getElem? (i := 302) (by decide +kernel)) rfl
theorem wd_303 : Cond.code y_U_init b_U_init 7 none ∈ cA := cA_tbl (List.mem_of_getElem? (i := 303) (by decide +kernel)) rfl
theorem wd_304 : Cond.methodLink R_U 3 y_JR_init ∈ cA := cA_tbl (List.mem_of_getElem? (i := 304) (by decide +kernel)) rfl
theorem wd_305 : Cond.fieldLink R_U 9 "ExplainingSolver$Cumulative" "set" "I" ∈ cA := cA_tbl (List.mem_of_getElem? (i := 305) (by decide +kernel)) rfl
theorem wd_306 : Cond.fieldLink R_U 15 "ExplainingSolver$Cumulative" "durations" "J" ∈ cA := cA_tbl (List.mem_of_getElem? (i := 306) (by decide +kernel)) rfl
theorem wd_307 : Cond.fieldLink R_U 19 "ExplainingSolver$Cumulative" "needs" "J" ∈ cA := cA_tbl (List.mem_of_getElem? (i := 307) (by decide +kernel)) rfl
theorem wd_308 : Cond.fieldLink R_U 22 "ExplainingSolver$Cumulative" "capacity" "I" ∈ cA := cA_tbl (List.mem_of_getElem? (i := 308) (by decide +kernel)) rfl
theorem wd_309 : Cond.laysFinal "ExplainingSolver$Cumulative" "ExplainingSolver$Cumulative" "set" "I" ∈ cA := cA_tbl (List.mem_of_getElem? (i := 309) (by decide +kernel)) rfl
theorem wd_311 : Cond.laysFinal "ExplainingSolver$Cumulative" "ExplainingSolver$Cumulative" "durations" "J" ∈ cA := cA_tbl (List.mem_of_getElem? (i := 311) (by decide +kernel)) rfl
theorem wd_313 : Cond.laysFinal "ExplainingSolver$Cumulative" "ExplainingSolver$Cumulative" "needs" "J" ∈ cA := cA_tbl (List.mem_of_getElem? (i := 313) (by decide +kernel)) rfl
theorem wd_315 : Cond.laysFinal "ExplainingSolver$Cumulative" "ExplainingSolver$Cumulative" "capacity" "I" ∈ cA := cA_tbl (List.mem_of_getElem? (i := 315) (by decide +kernel)) rfl
theorem wd_318 : Cond.methodLink R_W 49 y_X_clause ∈ cA := cA_tbl (List.mem_of_getElem? (i := 318) (by decide +kernel)) rfl
theorem wd_319 : Cond.instanceMethod y_X_clause ∈ cA := cA_tbl (List.mem_of_getElem? (i := 319) (by decide +kernel)) rfl
theorem wd_320 : Cond.selects R_X y_X_clause y_X_clause ∈ cA := cA_tbl (List.mem_of_getElem? (i := 320) (by decide +kernel)) rfl
theorem wd_321 : Cond.code y_X_clause b_X_clause 9 (some .int) ∈ cA := cA_tbl (List.mem_of_getElem? (i := 321) (by decide +kernel)) rfl
theorem wd_322 : Cond.classLink R_X 107 R_C ∈ cA := cA_tbl (List.mem_of_getElem? (i := 322) (by decide +kernel)) rfl
theorem wd_323 : Cond.methodLinkNest R_X 109 y_C_init R_X ∈ lw_tbl := List.mem_append_right _ (List.mem_of_getElem? (i := 323) (by decide +kernel))
theorem wd_324 : Cond.instanceMethod y_C_init ∈ cA := cA_tbl (List.mem_of_getElem? (i := 324) (by decide +kernel)) rfl
theorem wd_325 : Cond.code y_C_init b_C_init 8 none ∈ cA := cA_tbl (List.mem_of_getElem? (i := 325) (by decide +kernel)) rfl
theorem wd_326 : Cond.methodLink R_C 3 y_JR_init ∈ cA := cA_tbl (List.mem_of_getElem? (i := 326) (by decide +kernel)) rfl
end
