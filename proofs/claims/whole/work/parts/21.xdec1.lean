section
theorem d_X_isVariable_0 : decode b_X_isVariable 0 = .ok (.iload_n 1, 1) := by decide +kernel
theorem d_X_isVariable_1 : decode b_X_isVariable 1 = .ok (.ifCond .lt 15, 3) := by decide +kernel
theorem d_X_isVariable_4 : decode b_X_isVariable 4 = .ok (.iload_n 1, 1) := by decide +kernel
theorem d_X_isVariable_5 : decode b_X_isVariable 5 = .ok (.aload_n 0, 1) := by decide +kernel
theorem d_X_isVariable_6 : decode b_X_isVariable 6 = .ok (.getfield 47, 3) := by decide +kernel
theorem d_X_isVariable_9 : decode b_X_isVariable 9 = .ok (.if_icmp .ge 7, 3) := by decide +kernel
theorem d_X_isVariable_12 : decode b_X_isVariable 12 = .ok (.iconst 1, 1) := by decide +kernel
theorem d_X_isVariable_13 : decode b_X_isVariable 13 = .ok (.goto 4, 3) := by decide +kernel
theorem d_X_isVariable_16 : decode b_X_isVariable 16 = .ok (.iconst 0, 1) := by decide +kernel
theorem d_X_isVariable_17 : decode b_X_isVariable 17 = .ok (.ireturn, 1) := by decide +kernel
theorem d_X_isVariableOrAbsent_0 : decode b_X_isVariableOrAbsent 0 = .ok (.iload_n 1, 1) := by decide +kernel
theorem d_X_isVariableOrAbsent_1 : decode b_X_isVariableOrAbsent 1 = .ok (.iconst (-1), 1) := by decide +kernel
theorem d_X_isVariableOrAbsent_2 : decode b_X_isVariableOrAbsent 2 = .ok (.if_icmp .eq 11, 3) := by decide +kernel
theorem d_X_isVariableOrAbsent_5 : decode b_X_isVariableOrAbsent 5 = .ok (.aload_n 0, 1) := by decide +kernel
theorem d_X_isVariableOrAbsent_6 : decode b_X_isVariableOrAbsent 6 = .ok (.iload_n 1, 1) := by decide +kernel
theorem d_X_isVariableOrAbsent_7 : decode b_X_isVariableOrAbsent 7 = .ok (.invokevirtual 75, 3) := by decide +kernel
theorem d_X_isVariableOrAbsent_10 : decode b_X_isVariableOrAbsent 10 = .ok (.ifCond .eq 7, 3) := by decide +kernel
theorem d_X_isVariableOrAbsent_13 : decode b_X_isVariableOrAbsent 13 = .ok (.iconst 1, 1) := by decide +kernel
theorem d_X_isVariableOrAbsent_14 : decode b_X_isVariableOrAbsent 14 = .ok (.goto 4, 3) := by decide +kernel
theorem d_X_isVariableOrAbsent_17 : decode b_X_isVariableOrAbsent 17 = .ok (.iconst 0, 1) := by decide +kernel
theorem d_X_isVariableOrAbsent_18 : decode b_X_isVariableOrAbsent 18 = .ok (.ireturn, 1) := by decide +kernel
theorem d_X_areVariablesOrAbsent_0 : decode b_X_areVariablesOrAbsent 0 = .ok (.aload_n 0, 1) := by decide +kernel
theorem d_X_areVariablesOrAbsent_1 : decode b_X_areVariablesOrAbsent 1 = .ok (.iload_n 1, 1) := by decide +kernel
theorem d_X_areVariablesOrAbsent_2 : decode b_X_areVariablesOrAbsent 2 = .ok (.invokevirtual 84, 3) := by decide +kernel
theorem d_X_areVariablesOrAbsent_5 : decode b_X_areVariablesOrAbsent 5 = .ok (.ifCond .eq 23, 3) := by decide +kernel
theorem d_X_areVariablesOrAbsent_8 : decode b_X_areVariablesOrAbsent 8 = .ok (.aload_n 0, 1) := by decide +kernel
theorem d_X_areVariablesOrAbsent_9 : decode b_X_areVariablesOrAbsent 9 = .ok (.iload_n 2, 1) := by decide +kernel
theorem d_X_areVariablesOrAbsent_10 : decode b_X_areVariablesOrAbsent 10 = .ok (.invokevirtual 84, 3) := by decide +kernel
theorem d_X_areVariablesOrAbsent_13 : decode b_X_areVariablesOrAbsent 13 = .ok (.ifCond .eq 15, 3) := by decide +kernel
theorem d_X_areVariablesOrAbsent_16 : decode b_X_areVariablesOrAbsent 16 = .ok (.aload_n 0, 1) := by decide +kernel
theorem d_X_areVariablesOrAbsent_17 : decode b_X_areVariablesOrAbsent 17 = .ok (.iload_n 3, 1) := by decide +kernel
theorem d_X_areVariablesOrAbsent_18 : decode b_X_areVariablesOrAbsent 18 = .ok (.invokevirtual 84, 3) := by decide +kernel
theorem d_X_areVariablesOrAbsent_21 : decode b_X_areVariablesOrAbsent 21 = .ok (.ifCond .eq 7, 3) := by decide +kernel
theorem d_X_areVariablesOrAbsent_24 : decode b_X_areVariablesOrAbsent 24 = .ok (.iconst 1, 1) := by decide +kernel
theorem d_X_areVariablesOrAbsent_25 : decode b_X_areVariablesOrAbsent 25 = .ok (.goto 4, 3) := by decide +kernel
theorem d_X_areVariablesOrAbsent_28 : decode b_X_areVariablesOrAbsent 28 = .ok (.iconst 0, 1) := by decide +kernel
theorem d_X_areVariablesOrAbsent_29 : decode b_X_areVariablesOrAbsent 29 = .ok (.ireturn, 1) := by decide +kernel
theorem d_X_isSetOfVariables_0 : decode b_X_isSetOfVariables 0 = .ok (.iload_n 1, 1) := by decide +kernel
theorem d_X_isSetOfVariables_1 : decode b_X_isSetOfVariables 1 = .ok (.ifCond .lt 17, 3) := by decide +kernel
theorem d_X_isSetOfVariables_4 : decode b_X_isSetOfVariables 4 = .ok (.iload_n 1, 1) := by decide +kernel
theorem d_X_isSetOfVariables_5 : decode b_X_isSetOfVariables 5 = .ok (.iconst 1, 1) := by decide +kernel
theorem d_X_isSetOfVariables_6 : decode b_X_isSetOfVariables 6 = .ok (.aload_n 0, 1) := by decide +kernel
theorem d_X_isSetOfVariables_7 : decode b_X_isSetOfVariables 7 = .ok (.getfield 47, 3) := by decide +kernel
theorem d_X_isSetOfVariables_10 : decode b_X_isSetOfVariables 10 = .ok (.ishl, 1) := by decide +kernel
theorem d_X_isSetOfVariables_11 : decode b_X_isSetOfVariables 11 = .ok (.if_icmp .ge 7, 3) := by decide +kernel
theorem d_X_isSetOfVariables_14 : decode b_X_isSetOfVariables 14 = .ok (.iconst 1, 1) := by decide +kernel
theorem d_X_isSetOfVariables_15 : decode b_X_isSetOfVariables 15 = .ok (.goto 4, 3) := by decide +kernel
theorem d_X_isSetOfVariables_18 : decode b_X_isSetOfVariables 18 = .ok (.iconst 0, 1) := by decide +kernel
theorem d_X_isSetOfVariables_19 : decode b_X_isSetOfVariables 19 = .ok (.ireturn, 1) := by decide +kernel
theorem d_X_isWithin_0 : decode b_X_isWithin 0 = .ok (.iload_n 0, 1) := by decide +kernel
theorem d_X_isWithin_1 : decode b_X_isWithin 1 = .ok (.iload_n 1, 1) := by decide +kernel
theorem d_X_isWithin_2 : decode b_X_isWithin 2 = .ok (.ineg, 1) := by decide +kernel
theorem d_X_isWithin_3 : decode b_X_isWithin 3 = .ok (.if_icmp .lt 12, 3) := by decide +kernel
theorem d_X_isWithin_6 : decode b_X_isWithin 6 = .ok (.iload_n 0, 1) := by decide +kernel
theorem d_X_isWithin_7 : decode b_X_isWithin 7 = .ok (.iload_n 1, 1) := by decide +kernel
theorem d_X_isWithin_8 : decode b_X_isWithin 8 = .ok (.if_icmp .gt 7, 3) := by decide +kernel
theorem d_X_isWithin_11 : decode b_X_isWithin 11 = .ok (.iconst 1, 1) := by decide +kernel
theorem d_X_isWithin_12 : decode b_X_isWithin 12 = .ok (.goto 4, 3) := by decide +kernel
theorem d_X_isWithin_15 : decode b_X_isWithin 15 = .ok (.iconst 0, 1) := by decide +kernel
theorem d_X_isWithin_16 : decode b_X_isWithin 16 = .ok (.ireturn, 1) := by decide +kernel
theorem d_X_isIn_0 : decode b_X_isIn 0 = .ok (.iload_n 1, 1) := by decide +kernel
theorem d_X_isIn_1 : decode b_X_isIn 1 = .ok (.iload_n 0, 1) := by decide +kernel
theorem d_X_isIn_2 : decode b_X_isIn 2 = .ok (.ishr, 1) := by decide +kernel
theorem d_X_isIn_3 : decode b_X_isIn 3 = .ok (.iconst 1, 1) := by decide +kernel
theorem d_X_isIn_4 : decode b_X_isIn 4 = .ok (.iand, 1) := by decide +kernel
theorem d_X_isIn_5 : decode b_X_isIn 5 = .ok (.iconst 1, 1) := by decide +kernel
theorem d_X_isIn_6 : decode b_X_isIn 6 = .ok (.if_icmp .ne 7, 3) := by decide +kernel
theorem d_X_isIn_9 : decode b_X_isIn 9 = .ok (.iconst 1, 1) := by decide +kernel
theorem d_X_isIn_10 : decode b_X_isIn 10 = .ok (.goto 4, 3) := by decide +kernel
theorem d_X_isIn_13 : decode b_X_isIn 13 = .ok (.iconst 0, 1) := by decide +kernel
theorem d_X_isIn_14 : decode b_X_isIn 14 = .ok (.ireturn, 1) := by decide +kernel
theorem d_X_variables_0 : decode b_X_variables 0 = .ok (.aload_n 0, 1) := by decide +kernel
theorem d_X_variables_1 : decode b_X_variables 1 = .ok (.getfield 47, 3) := by decide +kernel
theorem d_X_variables_4 : decode b_X_variables 4 = .ok (.ireturn, 1) := by decide +kernel
theorem d_X_constraints_0 : decode b_X_constraints 0 = .ok (.aload_n 0, 1) := by decide +kernel
theorem d_X_constraints_1 : decode b_X_constraints 1 = .ok (.getfield 110, 3) := by decide +kernel
theorem d_X_constraints_4 : decode b_X_constraints 4 = .ok (.ireturn, 1) := by decide +kernel
theorem d_X_assumptions_0 : decode b_X_assumptions 0 = .ok (.aload_n 0, 1) := by decide +kernel
theorem d_X_assumptions_1 : decode b_X_assumptions 1 = .ok (.getfield 113, 3) := by decide +kernel
theorem d_X_assumptions_4 : decode b_X_assumptions 4 = .ok (.ireturn, 1) := by decide +kernel
theorem d_X_space_0 : decode b_X_space 0 = .ok (.aload_n 0, 1) := by decide +kernel
theorem d_X_space_1 : decode b_X_space 1 = .ok (.getfield 37, 3) := by decide +kernel
theorem d_X_space_4 : decode b_X_space 4 = .ok (.ireturn, 1) := by decide +kernel
theorem d_X_value_0 : decode b_X_value 0 = .ok (.aload_n 0, 1) := by decide +kernel
theorem d_X_value_1 : decode b_X_value 1 = .ok (.getfield 54, 3) := by decide +kernel
theorem d_X_value_4 : decode b_X_value 4 = .ok (.ifCond .eq 20, 3) := by decide +kernel
theorem d_X_value_7 : decode b_X_value 7 = .ok (.aload_n 0, 1) := by decide +kernel
theorem d_X_value_8 : decode b_X_value 8 = .ok (.iload_n 1, 1) := by decide +kernel
theorem d_X_value_9 : decode b_X_value 9 = .ok (.invokevirtual 75, 3) := by decide +kernel
theorem d_X_value_12 : decode b_X_value 12 = .ok (.ifCond .eq 12, 3) := by decide +kernel
theorem d_X_value_15 : decode b_X_value 15 = .ok (.aload_n 0, 1) := by decide +kernel
theorem d_X_value_16 : decode b_X_value 16 = .ok (.getfield 28, 3) := by decide +kernel
theorem d_X_value_19 : decode b_X_value 19 = .ok (.iload_n 1, 1) := by decide +kernel
theorem d_X_value_20 : decode b_X_value 20 = .ok (.iaload, 1) := by decide +kernel
theorem d_X_value_21 : decode b_X_value 21 = .ok (.goto 6, 3) := by decide +kernel
theorem d_X_value_24 : decode b_X_value 24 = .ok (.sipush 1000, 3) := by decide +kernel
theorem d_X_value_27 : decode b_X_value 27 = .ok (.ireturn, 1) := by decide +kernel
theorem d_X_goToFirstPoint_0 : decode b_X_goToFirstPoint 0 = .ok (.aload_n 0, 1) := by decide +kernel
theorem d_X_goToFirstPoint_1 : decode b_X_goToFirstPoint 1 = .ok (.getfield 9, 3) := by decide +kernel
theorem d_X_goToFirstPoint_4 : decode b_X_goToFirstPoint 4 = .ok (.iconst 0, 1) := by decide +kernel
theorem d_X_goToFirstPoint_5 : decode b_X_goToFirstPoint 5 = .ok (.aload_n 0, 1) := by decide +kernel
theorem d_X_goToFirstPoint_6 : decode b_X_goToFirstPoint 6 = .ok (.getfield 31, 3) := by decide +kernel
theorem d_X_goToFirstPoint_9 : decode b_X_goToFirstPoint 9 = .ok (.iconst 0, 1) := by decide +kernel
theorem d_X_goToFirstPoint_10 : decode b_X_goToFirstPoint 10 = .ok (.aload_n 0, 1) := by decide +kernel
theorem d_X_goToFirstPoint_11 : decode b_X_goToFirstPoint 11 = .ok (.getfield 47, 3) := by decide +kernel
theorem d_X_goToFirstPoint_14 : decode b_X_goToFirstPoint 14 = .ok (.invokestatic 135, 3) := by decide +kernel
theorem d_X_goToFirstPoint_17 : decode b_X_goToFirstPoint 17 = .ok (.return_, 1) := by decide +kernel
theorem d_X_goToNextPoint_0 : decode b_X_goToNextPoint 0 = .ok (.aload_n 0, 1) := by decide +kernel
theorem d_X_goToNextPoint_1 : decode b_X_goToNextPoint 1 = .ok (.getfield 47, 3) := by decide +kernel
theorem d_X_goToNextPoint_4 : decode b_X_goToNextPoint 4 = .ok (.iconst 1, 1) := by decide +kernel
theorem d_X_goToNextPoint_5 : decode b_X_goToNextPoint 5 = .ok (.isub, 1) := by decide +kernel
theorem d_X_goToNextPoint_6 : decode b_X_goToNextPoint 6 = .ok (.istore_n 1, 1) := by decide +kernel
theorem d_X_goToNextPoint_7 : decode b_X_goToNextPoint 7 = .ok (.iload_n 1, 1) := by decide +kernel
theorem d_X_goToNextPoint_8 : decode b_X_goToNextPoint 8 = .ok (.ifCond .lt 47, 3) := by decide +kernel
theorem d_X_goToNextPoint_11 : decode b_X_goToNextPoint 11 = .ok (.aload_n 0, 1) := by decide +kernel
theorem d_X_goToNextPoint_12 : decode b_X_goToNextPoint 12 = .ok (.getfield 31, 3) := by decide +kernel
theorem d_X_goToNextPoint_15 : decode b_X_goToNextPoint 15 = .ok (.iload_n 1, 1) := by decide +kernel
theorem d_X_goToNextPoint_16 : decode b_X_goToNextPoint 16 = .ok (.iaload, 1) := by decide +kernel
theorem d_X_goToNextPoint_17 : decode b_X_goToNextPoint 17 = .ok (.aload_n 0, 1) := by decide +kernel
theorem d_X_goToNextPoint_18 : decode b_X_goToNextPoint 18 = .ok (.getfield 13, 3) := by decide +kernel
theorem d_X_goToNextPoint_21 : decode b_X_goToNextPoint 21 = .ok (.iload_n 1, 1) := by decide +kernel
theorem d_X_goToNextPoint_22 : decode b_X_goToNextPoint 22 = .ok (.iaload, 1) := by decide +kernel
theorem d_X_goToNextPoint_23 : decode b_X_goToNextPoint 23 = .ok (.if_icmp .ge 14, 3) := by decide +kernel
theorem d_X_goToNextPoint_26 : decode b_X_goToNextPoint 26 = .ok (.aload_n 0, 1) := by decide +kernel
theorem d_X_goToNextPoint_27 : decode b_X_goToNextPoint 27 = .ok (.getfield 31, 3) := by decide +kernel
theorem d_X_goToNextPoint_30 : decode b_X_goToNextPoint 30 = .ok (.iload_n 1, 1) := by decide +kernel
theorem d_X_goToNextPoint_31 : decode b_X_goToNextPoint 31 = .ok (.dup2, 1) := by decide +kernel
theorem d_X_goToNextPoint_32 : decode b_X_goToNextPoint 32 = .ok (.iaload, 1) := by decide +kernel
theorem d_X_goToNextPoint_33 : decode b_X_goToNextPoint 33 = .ok (.iconst 1, 1) := by decide +kernel
theorem d_X_goToNextPoint_34 : decode b_X_goToNextPoint 34 = .ok (.iadd, 1) := by decide +kernel
theorem d_X_goToNextPoint_35 : decode b_X_goToNextPoint 35 = .ok (.iastore, 1) := by decide +kernel
theorem d_X_goToNextPoint_36 : decode b_X_goToNextPoint 36 = .ok (.return_, 1) := by decide +kernel
theorem d_X_goToNextPoint_37 : decode b_X_goToNextPoint 37 = .ok (.aload_n 0, 1) := by decide +kernel
theorem d_X_goToNextPoint_38 : decode b_X_goToNextPoint 38 = .ok (.getfield 31, 3) := by decide +kernel
theorem d_X_goToNextPoint_41 : decode b_X_goToNextPoint 41 = .ok (.iload_n 1, 1) := by decide +kernel
theorem d_X_goToNextPoint_42 : decode b_X_goToNextPoint 42 = .ok (.aload_n 0, 1) := by decide +kernel
theorem d_X_goToNextPoint_43 : decode b_X_goToNextPoint 43 = .ok (.getfield 9, 3) := by decide +kernel
theorem d_X_goToNextPoint_46 : decode b_X_goToNextPoint 46 = .ok (.iload_n 1, 1) := by decide +kernel
theorem d_X_goToNextPoint_47 : decode b_X_goToNextPoint 47 = .ok (.iaload, 1) := by decide +kernel
theorem d_X_goToNextPoint_48 : decode b_X_goToNextPoint 48 = .ok (.iastore, 1) := by decide +kernel
theorem d_X_goToNextPoint_49 : decode b_X_goToNextPoint 49 = .ok (.iinc 1 ( -1), 3) := by decide +kernel
theorem d_X_goToNextPoint_52 : decode b_X_goToNextPoint 52 = .ok (.goto (-45), 3) := by decide +kernel
theorem d_X_goToNextPoint_55 : decode b_X_goToNextPoint 55 = .ok (.return_, 1) := by decide +kernel
theorem d_X_isAsAssumed_0 : decode b_X_isAsAssumed 0 = .ok (.iconst 0, 1) := by decide +kernel
theorem d_X_isAsAssumed_1 : decode b_X_isAsAssumed 1 = .ok (.istore_n 1, 1) := by decide +kernel
theorem d_X_isAsAssumed_2 : decode b_X_isAsAssumed 2 = .ok (.iload_n 1, 1) := by decide +kernel
theorem d_X_isAsAssumed_3 : decode b_X_isAsAssumed 3 = .ok (.aload_n 0, 1) := by decide +kernel
theorem d_X_isAsAssumed_4 : decode b_X_isAsAssumed 4 = .ok (.getfield 113, 3) := by decide +kernel
theorem d_X_isAsAssumed_7 : decode b_X_isAsAssumed 7 = .ok (.if_icmp .ge 43, 3) := by decide +kernel
theorem d_X_isAsAssumed_10 : decode b_X_isAsAssumed 10 = .ok (.aload_n 0, 1) := by decide +kernel
theorem d_X_isAsAssumed_11 : decode b_X_isAsAssumed 11 = .ok (.getfield 31, 3) := by decide +kernel
theorem d_X_isAsAssumed_14 : decode b_X_isAsAssumed 14 = .ok (.aload_n 0, 1) := by decide +kernel
theorem d_X_isAsAssumed_15 : decode b_X_isAsAssumed 15 = .ok (.getfield 19, 3) := by decide +kernel
theorem d_X_isAsAssumed_18 : decode b_X_isAsAssumed 18 = .ok (.iload_n 1, 1) := by decide +kernel
theorem d_X_isAsAssumed_19 : decode b_X_isAsAssumed 19 = .ok (.iaload, 1) := by decide +kernel
theorem d_X_isAsAssumed_20 : decode b_X_isAsAssumed 20 = .ok (.iaload, 1) := by decide +kernel
theorem d_X_isAsAssumed_21 : decode b_X_isAsAssumed 21 = .ok (.istore_n 2, 1) := by decide +kernel
theorem d_X_isAsAssumed_22 : decode b_X_isAsAssumed 22 = .ok (.iload_n 2, 1) := by decide +kernel
theorem d_X_isAsAssumed_23 : decode b_X_isAsAssumed 23 = .ok (.aload_n 0, 1) := by decide +kernel
theorem d_X_isAsAssumed_24 : decode b_X_isAsAssumed 24 = .ok (.getfield 22, 3) := by decide +kernel
theorem d_X_isAsAssumed_27 : decode b_X_isAsAssumed 27 = .ok (.iload_n 1, 1) := by decide +kernel
theorem d_X_isAsAssumed_28 : decode b_X_isAsAssumed 28 = .ok (.iaload, 1) := by decide +kernel
theorem d_X_isAsAssumed_29 : decode b_X_isAsAssumed 29 = .ok (.if_icmp .lt 13, 3) := by decide +kernel
theorem d_X_isAsAssumed_32 : decode b_X_isAsAssumed 32 = .ok (.iload_n 2, 1) := by decide +kernel
theorem d_X_isAsAssumed_33 : decode b_X_isAsAssumed 33 = .ok (.aload_n 0, 1) := by decide +kernel
theorem d_X_isAsAssumed_34 : decode b_X_isAsAssumed 34 = .ok (.getfield 25, 3) := by decide +kernel
theorem d_X_isAsAssumed_37 : decode b_X_isAsAssumed 37 = .ok (.iload_n 1, 1) := by decide +kernel
theorem d_X_isAsAssumed_38 : decode b_X_isAsAssumed 38 = .ok (.iaload, 1) := by decide +kernel
theorem d_X_isAsAssumed_39 : decode b_X_isAsAssumed 39 = .ok (.if_icmp .le 5, 3) := by decide +kernel
theorem d_X_isAsAssumed_42 : decode b_X_isAsAssumed 42 = .ok (.iconst 0, 1) := by decide +kernel
theorem d_X_isAsAssumed_43 : decode b_X_isAsAssumed 43 = .ok (.ireturn, 1) := by decide +kernel
theorem d_X_isAsAssumed_44 : decode b_X_isAsAssumed 44 = .ok (.iinc 1 1, 3) := by decide +kernel
theorem d_X_isAsAssumed_47 : decode b_X_isAsAssumed 47 = .ok (.goto (-45), 3) := by decide +kernel
theorem d_X_isAsAssumed_50 : decode b_X_isAsAssumed 50 = .ok (.iconst 1, 1) := by decide +kernel
theorem d_X_isAsAssumed_51 : decode b_X_isAsAssumed 51 = .ok (.ireturn, 1) := by decide +kernel
theorem d_X_splitPoints_0 : decode b_X_splitPoints 0 = .ok (.aload_n 0, 1) := by decide +kernel
theorem d_X_splitPoints_1 : decode b_X_splitPoints 1 = .ok (.getfield 37, 3) := by decide +kernel
theorem d_X_splitPoints_4 : decode b_X_splitPoints 4 = .ok (.iconst 1, 1) := by decide +kernel
theorem d_X_splitPoints_5 : decode b_X_splitPoints 5 = .ok (.isub, 1) := by decide +kernel
theorem d_X_splitPoints_6 : decode b_X_splitPoints 6 = .ok (.istore_n 2, 1) := by decide +kernel
theorem d_X_splitPoints_7 : decode b_X_splitPoints 7 = .ok (.iload_n 2, 1) := by decide +kernel
theorem d_X_splitPoints_8 : decode b_X_splitPoints 8 = .ok (.ifCond .lt 43, 3) := by decide +kernel
theorem d_X_splitPoints_11 : decode b_X_splitPoints 11 = .ok (.aload_n 0, 1) := by decide +kernel
theorem d_X_splitPoints_12 : decode b_X_splitPoints 12 = .ok (.getfield 16, 3) := by decide +kernel
theorem d_X_splitPoints_15 : decode b_X_splitPoints 15 = .ok (.iload_n 2, 1) := by decide +kernel
theorem d_X_splitPoints_16 : decode b_X_splitPoints 16 = .ok (.iaload, 1) := by decide +kernel
theorem d_X_splitPoints_17 : decode b_X_splitPoints 17 = .ok (.istore_n 3, 1) := by decide +kernel
theorem d_X_splitPoints_18 : decode b_X_splitPoints 18 = .ok (.iconst 0, 1) := by decide +kernel
theorem d_X_splitPoints_19 : decode b_X_splitPoints 19 = .ok (.istore 4, 2) := by decide +kernel
theorem d_X_splitPoints_21 : decode b_X_splitPoints 21 = .ok (.iload 4, 2) := by decide +kernel
theorem d_X_splitPoints_23 : decode b_X_splitPoints 23 = .ok (.iload_n 1, 1) := by decide +kernel
theorem d_X_splitPoints_24 : decode b_X_splitPoints 24 = .ok (.if_icmp .ge 21, 3) := by decide +kernel
theorem d_X_splitPoints_27 : decode b_X_splitPoints 27 = .ok (.aload_n 0, 1) := by decide +kernel
theorem d_X_splitPoints_28 : decode b_X_splitPoints 28 = .ok (.getfield 16, 3) := by decide +kernel
theorem d_X_splitPoints_31 : decode b_X_splitPoints 31 = .ok (.iload_n 2, 1) := by decide +kernel
theorem d_X_splitPoints_32 : decode b_X_splitPoints 32 = .ok (.iload_n 1, 1) := by decide +kernel
theorem d_X_splitPoints_33 : decode b_X_splitPoints 33 = .ok (.imul, 1) := by decide +kernel
theorem d_X_splitPoints_34 : decode b_X_splitPoints 34 = .ok (.iload 4, 2) := by decide +kernel
theorem d_X_splitPoints_36 : decode b_X_splitPoints 36 = .ok (.iadd, 1) := by decide +kernel
theorem d_X_splitPoints_37 : decode b_X_splitPoints 37 = .ok (.iload_n 3, 1) := by decide +kernel
theorem d_X_splitPoints_38 : decode b_X_splitPoints 38 = .ok (.iastore, 1) := by decide +kernel
theorem d_X_splitPoints_39 : decode b_X_splitPoints 39 = .ok (.iinc 4 1, 3) := by decide +kernel
theorem d_X_splitPoints_42 : decode b_X_splitPoints 42 = .ok (.goto (-21), 3) := by decide +kernel
theorem d_X_splitPoints_45 : decode b_X_splitPoints 45 = .ok (.iinc 2 ( -1), 3) := by decide +kernel
theorem d_X_splitPoints_48 : decode b_X_splitPoints 48 = .ok (.goto (-41), 3) := by decide +kernel
theorem d_X_splitPoints_51 : decode b_X_splitPoints 51 = .ok (.aload_n 0, 1) := by decide +kernel
theorem d_X_splitPoints_52 : decode b_X_splitPoints 52 = .ok (.aload_n 0, 1) := by decide +kernel
theorem d_X_splitPoints_53 : decode b_X_splitPoints 53 = .ok (.getfield 37, 3) := by decide +kernel
theorem d_X_splitPoints_56 : decode b_X_splitPoints 56 = .ok (.iload_n 1, 1) := by decide +kernel
theorem d_X_splitPoints_57 : decode b_X_splitPoints 57 = .ok (.imul, 1) := by decide +kernel
theorem d_X_splitPoints_58 : decode b_X_splitPoints 58 = .ok (.putfield 37, 3) := by decide +kernel
theorem d_X_splitPoints_61 : decode b_X_splitPoints 61 = .ok (.return_, 1) := by decide +kernel
theorem d_X_keepAsAnswer_0 : decode b_X_keepAsAnswer 0 = .ok (.iload_n 1, 1) := by decide +kernel
theorem d_X_keepAsAnswer_1 : decode b_X_keepAsAnswer 1 = .ok (.ifCond .eq 20, 3) := by decide +kernel
theorem d_X_keepAsAnswer_4 : decode b_X_keepAsAnswer 4 = .ok (.aload_n 0, 1) := by decide +kernel
theorem d_X_keepAsAnswer_5 : decode b_X_keepAsAnswer 5 = .ok (.getfield 34, 3) := by decide +kernel
theorem d_X_keepAsAnswer_8 : decode b_X_keepAsAnswer 8 = .ok (.iconst 0, 1) := by decide +kernel
theorem d_X_keepAsAnswer_9 : decode b_X_keepAsAnswer 9 = .ok (.aload_n 0, 1) := by decide +kernel
theorem d_X_keepAsAnswer_10 : decode b_X_keepAsAnswer 10 = .ok (.getfield 28, 3) := by decide +kernel
theorem d_X_keepAsAnswer_13 : decode b_X_keepAsAnswer 13 = .ok (.iconst 0, 1) := by decide +kernel
theorem d_X_keepAsAnswer_14 : decode b_X_keepAsAnswer 14 = .ok (.aload_n 0, 1) := by decide +kernel
theorem d_X_keepAsAnswer_15 : decode b_X_keepAsAnswer 15 = .ok (.getfield 47, 3) := by decide +kernel
theorem d_X_keepAsAnswer_18 : decode b_X_keepAsAnswer 18 = .ok (.invokestatic 135, 3) := by decide +kernel
theorem d_X_keepAsAnswer_21 : decode b_X_keepAsAnswer 21 = .ok (.aload_n 0, 1) := by decide +kernel
theorem d_X_keepAsAnswer_22 : decode b_X_keepAsAnswer 22 = .ok (.iload_n 1, 1) := by decide +kernel
theorem d_X_keepAsAnswer_23 : decode b_X_keepAsAnswer 23 = .ok (.putfield 54, 3) := by decide +kernel
theorem d_X_keepAsAnswer_26 : decode b_X_keepAsAnswer 26 = .ok (.iload_n 1, 1) := by decide +kernel
theorem d_X_keepAsAnswer_27 : decode b_X_keepAsAnswer 27 = .ok (.ireturn, 1) := by decide +kernel
theorem d_X_retract_0 : decode b_X_retract 0 = .ok (.aload_n 0, 1) := by decide +kernel
theorem d_X_retract_1 : decode b_X_retract 1 = .ok (.getfield 113, 3) := by decide +kernel
theorem d_X_retract_4 : decode b_X_retract 4 = .ok (.ifCond .ne 5, 3) := by decide +kernel
theorem d_X_retract_7 : decode b_X_retract 7 = .ok (.iconst 0, 1) := by decide +kernel
theorem d_X_retract_8 : decode b_X_retract 8 = .ok (.ireturn, 1) := by decide +kernel
theorem d_X_retract_9 : decode b_X_retract 9 = .ok (.aload_n 0, 1) := by decide +kernel
theorem d_X_retract_10 : decode b_X_retract 10 = .ok (.dup, 1) := by decide +kernel
theorem d_X_retract_11 : decode b_X_retract 11 = .ok (.getfield 113, 3) := by decide +kernel
theorem d_X_retract_14 : decode b_X_retract 14 = .ok (.iconst 1, 1) := by decide +kernel
theorem d_X_retract_15 : decode b_X_retract 15 = .ok (.isub, 1) := by decide +kernel
theorem d_X_retract_16 : decode b_X_retract 16 = .ok (.putfield 113, 3) := by decide +kernel
theorem d_X_retract_19 : decode b_X_retract 19 = .ok (.aload_n 0, 1) := by decide +kernel
theorem d_X_retract_20 : decode b_X_retract 20 = .ok (.iconst 0, 1) := by decide +kernel
theorem d_X_retract_21 : decode b_X_retract 21 = .ok (.putfield 54, 3) := by decide +kernel
theorem d_X_retract_24 : decode b_X_retract 24 = .ok (.iconst 1, 1) := by decide +kernel
theorem d_X_retract_25 : decode b_X_retract 25 = .ok (.ireturn, 1) := by decide +kernel
theorem d_X_assume_0 : decode b_X_assume 0 = .ok (.aload_n 0, 1) := by decide +kernel
theorem d_X_assume_1 : decode b_X_assume 1 = .ok (.iload_n 1, 1) := by decide +kernel
theorem d_X_assume_2 : decode b_X_assume 2 = .ok (.invokevirtual 75, 3) := by decide +kernel
theorem d_X_assume_5 : decode b_X_assume 5 = .ok (.ifCond .eq 12, 3) := by decide +kernel
theorem d_X_assume_8 : decode b_X_assume 8 = .ok (.aload_n 0, 1) := by decide +kernel
theorem d_X_assume_9 : decode b_X_assume 9 = .ok (.getfield 113, 3) := by decide +kernel
theorem d_X_assume_12 : decode b_X_assume 12 = .ok (.bipush 8, 2) := by decide +kernel
theorem d_X_assume_14 : decode b_X_assume 14 = .ok (.if_icmp .lt 5, 3) := by decide +kernel
theorem d_X_assume_17 : decode b_X_assume 17 = .ok (.iconst 0, 1) := by decide +kernel
theorem d_X_assume_18 : decode b_X_assume 18 = .ok (.ireturn, 1) := by decide +kernel
theorem d_X_assume_19 : decode b_X_assume 19 = .ok (.aload_n 0, 1) := by decide +kernel
theorem d_X_assume_20 : decode b_X_assume 20 = .ok (.getfield 19, 3) := by decide +kernel
theorem d_X_assume_23 : decode b_X_assume 23 = .ok (.aload_n 0, 1) := by decide +kernel
theorem d_X_assume_24 : decode b_X_assume 24 = .ok (.getfield 113, 3) := by decide +kernel
theorem d_X_assume_27 : decode b_X_assume 27 = .ok (.iload_n 1, 1) := by decide +kernel
theorem d_X_assume_28 : decode b_X_assume 28 = .ok (.iastore, 1) := by decide +kernel
theorem d_X_assume_29 : decode b_X_assume 29 = .ok (.aload_n 0, 1) := by decide +kernel
theorem d_X_assume_30 : decode b_X_assume 30 = .ok (.getfield 22, 3) := by decide +kernel
theorem d_X_assume_33 : decode b_X_assume 33 = .ok (.aload_n 0, 1) := by decide +kernel
theorem d_X_assume_34 : decode b_X_assume 34 = .ok (.getfield 113, 3) := by decide +kernel
theorem d_X_assume_37 : decode b_X_assume 37 = .ok (.iload_n 2, 1) := by decide +kernel
end
