section
theorem d_X_clause_61 : decode b_X_clause 61 = .ok (.ifCond .eq 28, 3) := by decide +kernel
theorem d_X_clause_64 : decode b_X_clause 64 = .ok (.aload_n 0, 1) := by decide +kernel
theorem d_X_clause_65 : decode b_X_clause 65 = .ok (.new 107, 3) := by decide +kernel
theorem d_X_clause_68 : decode b_X_clause 68 = .ok (.dup, 1) := by decide +kernel
theorem d_X_clause_69 : decode b_X_clause 69 = .ok (.iload_n 1, 1) := by decide +kernel
theorem d_X_clause_70 : decode b_X_clause 70 = .ok (.iload_n 2, 1) := by decide +kernel
theorem d_X_clause_71 : decode b_X_clause 71 = .ok (.iload_n 3, 1) := by decide +kernel
theorem d_X_clause_72 : decode b_X_clause 72 = .ok (.iload 4, 2) := by decide +kernel
theorem d_X_clause_74 : decode b_X_clause 74 = .ok (.iload 5, 2) := by decide +kernel
theorem d_X_clause_76 : decode b_X_clause 76 = .ok (.iload 6, 2) := by decide +kernel
theorem d_X_clause_78 : decode b_X_clause 78 = .ok (.iload 7, 2) := by decide +kernel
theorem d_X_clause_80 : decode b_X_clause 80 = .ok (.invokespecial 109, 3) := by decide +kernel
theorem d_X_clause_83 : decode b_X_clause 83 = .ok (.invokevirtual 71, 3) := by decide +kernel
theorem d_X_clause_86 : decode b_X_clause 86 = .ok (.goto 4, 3) := by decide +kernel
theorem d_X_clause_89 : decode b_X_clause 89 = .ok (.iconst (-1), 1) := by decide +kernel
theorem d_X_clause_90 : decode b_X_clause 90 = .ok (.ireturn, 1) := by decide +kernel
end
