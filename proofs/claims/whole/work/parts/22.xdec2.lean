section
theorem d_X_assume_38 : decode b_X_assume 38 = .ok (.iastore, 1) := by decide +kernel
theorem d_X_assume_39 : decode b_X_assume 39 = .ok (.aload_n 0, 1) := by decide +kernel
theorem d_X_assume_40 : decode b_X_assume 40 = .ok (.getfield 25, 3) := by decide +kernel
theorem d_X_assume_43 : decode b_X_assume 43 = .ok (.aload_n 0, 1) := by decide +kernel
theorem d_X_assume_44 : decode b_X_assume 44 = .ok (.getfield 113, 3) := by decide +kernel
theorem d_X_assume_47 : decode b_X_assume 47 = .ok (.iload_n 3, 1) := by decide +kernel
theorem d_X_assume_48 : decode b_X_assume 48 = .ok (.iastore, 1) := by decide +kernel
theorem d_X_assume_49 : decode b_X_assume 49 = .ok (.aload_n 0, 1) := by decide +kernel
theorem d_X_assume_50 : decode b_X_assume 50 = .ok (.dup, 1) := by decide +kernel
theorem d_X_assume_51 : decode b_X_assume 51 = .ok (.getfield 113, 3) := by decide +kernel
theorem d_X_assume_54 : decode b_X_assume 54 = .ok (.iconst 1, 1) := by decide +kernel
theorem d_X_assume_55 : decode b_X_assume 55 = .ok (.iadd, 1) := by decide +kernel
theorem d_X_assume_56 : decode b_X_assume 56 = .ok (.putfield 113, 3) := by decide +kernel
theorem d_X_assume_59 : decode b_X_assume 59 = .ok (.aload_n 0, 1) := by decide +kernel
theorem d_X_assume_60 : decode b_X_assume 60 = .ok (.iconst 0, 1) := by decide +kernel
theorem d_X_assume_61 : decode b_X_assume 61 = .ok (.putfield 54, 3) := by decide +kernel
theorem d_X_assume_64 : decode b_X_assume 64 = .ok (.iconst 1, 1) := by decide +kernel
theorem d_X_assume_65 : decode b_X_assume 65 = .ok (.ireturn, 1) := by decide +kernel
theorem d_X_drop_0 : decode b_X_drop 0 = .ok (.aload_n 0, 1) := by decide +kernel
theorem d_X_drop_1 : decode b_X_drop 1 = .ok (.getfield 110, 3) := by decide +kernel
theorem d_X_drop_4 : decode b_X_drop 4 = .ok (.ifCond .ne 5, 3) := by decide +kernel
theorem d_X_drop_7 : decode b_X_drop 7 = .ok (.iconst 0, 1) := by decide +kernel
theorem d_X_drop_8 : decode b_X_drop 8 = .ok (.ireturn, 1) := by decide +kernel
theorem d_X_drop_9 : decode b_X_drop 9 = .ok (.aload_n 0, 1) := by decide +kernel
theorem d_X_drop_10 : decode b_X_drop 10 = .ok (.dup, 1) := by decide +kernel
theorem d_X_drop_11 : decode b_X_drop 11 = .ok (.getfield 110, 3) := by decide +kernel
theorem d_X_drop_14 : decode b_X_drop 14 = .ok (.iconst 1, 1) := by decide +kernel
theorem d_X_drop_15 : decode b_X_drop 15 = .ok (.isub, 1) := by decide +kernel
theorem d_X_drop_16 : decode b_X_drop 16 = .ok (.putfield 110, 3) := by decide +kernel
theorem d_X_drop_19 : decode b_X_drop 19 = .ok (.iconst 0, 1) := by decide +kernel
theorem d_X_drop_20 : decode b_X_drop 20 = .ok (.istore_n 1, 1) := by decide +kernel
theorem d_X_drop_21 : decode b_X_drop 21 = .ok (.iload_n 1, 1) := by decide +kernel
theorem d_X_drop_22 : decode b_X_drop 22 = .ok (.aload_n 0, 1) := by decide +kernel
theorem d_X_drop_23 : decode b_X_drop 23 = .ok (.getfield 37, 3) := by decide +kernel
theorem d_X_drop_26 : decode b_X_drop 26 = .ok (.if_icmp .ge 30, 3) := by decide +kernel
theorem d_X_drop_29 : decode b_X_drop 29 = .ok (.aload_n 0, 1) := by decide +kernel
theorem d_X_drop_30 : decode b_X_drop 30 = .ok (.getfield 16, 3) := by decide +kernel
theorem d_X_drop_33 : decode b_X_drop 33 = .ok (.iload_n 1, 1) := by decide +kernel
theorem d_X_drop_34 : decode b_X_drop 34 = .ok (.iaload, 1) := by decide +kernel
theorem d_X_drop_35 : decode b_X_drop 35 = .ok (.aload_n 0, 1) := by decide +kernel
theorem d_X_drop_36 : decode b_X_drop 36 = .ok (.getfield 110, 3) := by decide +kernel
theorem d_X_drop_39 : decode b_X_drop 39 = .ok (.if_icmp .ne 11, 3) := by decide +kernel
theorem d_X_drop_42 : decode b_X_drop 42 = .ok (.aload_n 0, 1) := by decide +kernel
theorem d_X_drop_43 : decode b_X_drop 43 = .ok (.getfield 16, 3) := by decide +kernel
theorem d_X_drop_46 : decode b_X_drop 46 = .ok (.iload_n 1, 1) := by decide +kernel
theorem d_X_drop_47 : decode b_X_drop 47 = .ok (.bipush 12, 2) := by decide +kernel
theorem d_X_drop_49 : decode b_X_drop 49 = .ok (.iastore, 1) := by decide +kernel
theorem d_X_drop_50 : decode b_X_drop 50 = .ok (.iinc 1 1, 3) := by decide +kernel
theorem d_X_drop_53 : decode b_X_drop 53 = .ok (.goto (-32), 3) := by decide +kernel
theorem d_X_drop_56 : decode b_X_drop 56 = .ok (.aload_n 0, 1) := by decide +kernel
theorem d_X_drop_57 : decode b_X_drop 57 = .ok (.iconst 0, 1) := by decide +kernel
theorem d_X_drop_58 : decode b_X_drop 58 = .ok (.putfield 54, 3) := by decide +kernel
theorem d_X_drop_61 : decode b_X_drop 61 = .ok (.iconst 1, 1) := by decide +kernel
theorem d_X_drop_62 : decode b_X_drop 62 = .ok (.ireturn, 1) := by decide +kernel
theorem d_X_search_0 : decode b_X_search 0 = .ok (.iload_n 2, 1) := by decide +kernel
theorem d_X_search_1 : decode b_X_search 1 = .ok (.aload_n 0, 1) := by decide +kernel
theorem d_X_search_2 : decode b_X_search 2 = .ok (.getfield 9, 3) := by decide +kernel
theorem d_X_search_5 : decode b_X_search 5 = .ok (.iload_n 1, 1) := by decide +kernel
theorem d_X_search_6 : decode b_X_search 6 = .ok (.iaload, 1) := by decide +kernel
theorem d_X_search_7 : decode b_X_search 7 = .ok (.imul, 1) := by decide +kernel
theorem d_X_search_8 : decode b_X_search 8 = .ok (.iload_n 2, 1) := by decide +kernel
theorem d_X_search_9 : decode b_X_search 9 = .ok (.aload_n 0, 1) := by decide +kernel
theorem d_X_search_10 : decode b_X_search 10 = .ok (.getfield 13, 3) := by decide +kernel
theorem d_X_search_13 : decode b_X_search 13 = .ok (.iload_n 1, 1) := by decide +kernel
theorem d_X_search_14 : decode b_X_search 14 = .ok (.iaload, 1) := by decide +kernel
theorem d_X_search_15 : decode b_X_search 15 = .ok (.imul, 1) := by decide +kernel
theorem d_X_search_16 : decode b_X_search 16 = .ok (.invokestatic 141, 3) := by decide +kernel
theorem d_X_search_19 : decode b_X_search 19 = .ok (.istore_n 3, 1) := by decide +kernel
theorem d_X_search_20 : decode b_X_search 20 = .ok (.iconst 0, 1) := by decide +kernel
theorem d_X_search_21 : decode b_X_search 21 = .ok (.istore 4, 2) := by decide +kernel
theorem d_X_search_23 : decode b_X_search 23 = .ok (.aload_n 0, 1) := by decide +kernel
theorem d_X_search_24 : decode b_X_search 24 = .ok (.invokevirtual 123, 3) := by decide +kernel
theorem d_X_search_27 : decode b_X_search 27 = .ok (.iconst 0, 1) := by decide +kernel
theorem d_X_search_28 : decode b_X_search 28 = .ok (.istore 5, 2) := by decide +kernel
theorem d_X_search_30 : decode b_X_search 30 = .ok (.iload 5, 2) := by decide +kernel
theorem d_X_search_32 : decode b_X_search 32 = .ok (.aload_n 0, 1) := by decide +kernel
theorem d_X_search_33 : decode b_X_search 33 = .ok (.getfield 37, 3) := by decide +kernel
theorem d_X_search_36 : decode b_X_search 36 = .ok (.if_icmp .ge 90, 3) := by decide +kernel
theorem d_X_search_39 : decode b_X_search 39 = .ok (.aload_n 0, 1) := by decide +kernel
theorem d_X_search_40 : decode b_X_search 40 = .ok (.getfield 16, 3) := by decide +kernel
theorem d_X_search_43 : decode b_X_search 43 = .ok (.iload 5, 2) := by decide +kernel
theorem d_X_search_45 : decode b_X_search 45 = .ok (.iaload, 1) := by decide +kernel
theorem d_X_search_46 : decode b_X_search 46 = .ok (.bipush 12, 2) := by decide +kernel
theorem d_X_search_48 : decode b_X_search 48 = .ok (.if_icmp .ne 68, 3) := by decide +kernel
theorem d_X_search_51 : decode b_X_search 51 = .ok (.aload_n 0, 1) := by decide +kernel
theorem d_X_search_52 : decode b_X_search 52 = .ok (.invokevirtual 147, 3) := by decide +kernel
theorem d_X_search_55 : decode b_X_search 55 = .ok (.ifCond .eq 61, 3) := by decide +kernel
theorem d_X_search_58 : decode b_X_search 58 = .ok (.iload 4, 2) := by decide +kernel
theorem d_X_search_60 : decode b_X_search 60 = .ok (.ifCond .eq 22, 3) := by decide +kernel
theorem d_X_search_63 : decode b_X_search 63 = .ok (.iload_n 2, 1) := by decide +kernel
theorem d_X_search_64 : decode b_X_search 64 = .ok (.aload_n 0, 1) := by decide +kernel
theorem d_X_search_65 : decode b_X_search 65 = .ok (.getfield 31, 3) := by decide +kernel
theorem d_X_search_68 : decode b_X_search 68 = .ok (.iload_n 1, 1) := by decide +kernel
theorem d_X_search_69 : decode b_X_search 69 = .ok (.iaload, 1) := by decide +kernel
theorem d_X_search_70 : decode b_X_search 70 = .ok (.imul, 1) := by decide +kernel
theorem d_X_search_71 : decode b_X_search 71 = .ok (.iload_n 2, 1) := by decide +kernel
theorem d_X_search_72 : decode b_X_search 72 = .ok (.aload_n 0, 1) := by decide +kernel
theorem d_X_search_73 : decode b_X_search 73 = .ok (.getfield 34, 3) := by decide +kernel
theorem d_X_search_76 : decode b_X_search 76 = .ok (.iload_n 1, 1) := by decide +kernel
theorem d_X_search_77 : decode b_X_search 77 = .ok (.iaload, 1) := by decide +kernel
theorem d_X_search_78 : decode b_X_search 78 = .ok (.imul, 1) := by decide +kernel
theorem d_X_search_79 : decode b_X_search 79 = .ok (.if_icmp .ge 37, 3) := by decide +kernel
theorem d_X_search_82 : decode b_X_search 82 = .ok (.aload_n 0, 1) := by decide +kernel
theorem d_X_search_83 : decode b_X_search 83 = .ok (.getfield 31, 3) := by decide +kernel
theorem d_X_search_86 : decode b_X_search 86 = .ok (.iconst 0, 1) := by decide +kernel
theorem d_X_search_87 : decode b_X_search 87 = .ok (.aload_n 0, 1) := by decide +kernel
theorem d_X_search_88 : decode b_X_search 88 = .ok (.getfield 34, 3) := by decide +kernel
theorem d_X_search_91 : decode b_X_search 91 = .ok (.iconst 0, 1) := by decide +kernel
theorem d_X_search_92 : decode b_X_search 92 = .ok (.aload_n 0, 1) := by decide +kernel
theorem d_X_search_93 : decode b_X_search 93 = .ok (.getfield 47, 3) := by decide +kernel
theorem d_X_search_96 : decode b_X_search 96 = .ok (.invokestatic 135, 3) := by decide +kernel
theorem d_X_search_99 : decode b_X_search 99 = .ok (.iconst 1, 1) := by decide +kernel
theorem d_X_search_100 : decode b_X_search 100 = .ok (.istore 4, 2) := by decide +kernel
theorem d_X_search_102 : decode b_X_search 102 = .ok (.iload_n 2, 1) := by decide +kernel
theorem d_X_search_103 : decode b_X_search 103 = .ok (.aload_n 0, 1) := by decide +kernel
theorem d_X_search_104 : decode b_X_search 104 = .ok (.getfield 31, 3) := by decide +kernel
theorem d_X_search_107 : decode b_X_search 107 = .ok (.iload_n 1, 1) := by decide +kernel
theorem d_X_search_108 : decode b_X_search 108 = .ok (.iaload, 1) := by decide +kernel
theorem d_X_search_109 : decode b_X_search 109 = .ok (.imul, 1) := by decide +kernel
theorem d_X_search_110 : decode b_X_search 110 = .ok (.iload_n 3, 1) := by decide +kernel
theorem d_X_search_111 : decode b_X_search 111 = .ok (.if_icmp .ne 5, 3) := by decide +kernel
theorem d_X_search_114 : decode b_X_search 114 = .ok (.iconst 1, 1) := by decide +kernel
theorem d_X_search_115 : decode b_X_search 115 = .ok (.ireturn, 1) := by decide +kernel
theorem d_X_search_116 : decode b_X_search 116 = .ok (.aload_n 0, 1) := by decide +kernel
theorem d_X_search_117 : decode b_X_search 117 = .ok (.invokevirtual 132, 3) := by decide +kernel
theorem d_X_search_120 : decode b_X_search 120 = .ok (.iinc 5 1, 3) := by decide +kernel
theorem d_X_search_123 : decode b_X_search 123 = .ok (.goto (-93), 3) := by decide +kernel
theorem d_X_search_126 : decode b_X_search 126 = .ok (.iload 4, 2) := by decide +kernel
theorem d_X_search_128 : decode b_X_search 128 = .ok (.ireturn, 1) := by decide +kernel
theorem d_X_variable_0 : decode b_X_variable 0 = .ok (.iload_n 1, 1) := by decide +kernel
theorem d_X_variable_1 : decode b_X_variable 1 = .ok (.bipush (-20), 2) := by decide +kernel
theorem d_X_variable_3 : decode b_X_variable 3 = .ok (.if_icmp .lt 22, 3) := by decide +kernel
theorem d_X_variable_6 : decode b_X_variable 6 = .ok (.iload_n 1, 1) := by decide +kernel
theorem d_X_variable_7 : decode b_X_variable 7 = .ok (.iload_n 2, 1) := by decide +kernel
theorem d_X_variable_8 : decode b_X_variable 8 = .ok (.if_icmp .gt 17, 3) := by decide +kernel
theorem d_X_variable_11 : decode b_X_variable 11 = .ok (.iload_n 2, 1) := by decide +kernel
theorem d_X_variable_12 : decode b_X_variable 12 = .ok (.bipush 20, 2) := by decide +kernel
theorem d_X_variable_14 : decode b_X_variable 14 = .ok (.if_icmp .gt 11, 3) := by decide +kernel
theorem d_X_variable_17 : decode b_X_variable 17 = .ok (.iload_n 2, 1) := by decide +kernel
theorem d_X_variable_18 : decode b_X_variable 18 = .ok (.iload_n 1, 1) := by decide +kernel
theorem d_X_variable_19 : decode b_X_variable 19 = .ok (.isub, 1) := by decide +kernel
theorem d_X_variable_20 : decode b_X_variable 20 = .ok (.bipush 8, 2) := by decide +kernel
theorem d_X_variable_22 : decode b_X_variable 22 = .ok (.if_icmp .lt 5, 3) := by decide +kernel
theorem d_X_variable_25 : decode b_X_variable 25 = .ok (.iconst (-1), 1) := by decide +kernel
theorem d_X_variable_26 : decode b_X_variable 26 = .ok (.ireturn, 1) := by decide +kernel
theorem d_X_variable_27 : decode b_X_variable 27 = .ok (.iload_n 2, 1) := by decide +kernel
theorem d_X_variable_28 : decode b_X_variable 28 = .ok (.iload_n 1, 1) := by decide +kernel
theorem d_X_variable_29 : decode b_X_variable 29 = .ok (.isub, 1) := by decide +kernel
theorem d_X_variable_30 : decode b_X_variable 30 = .ok (.iconst 1, 1) := by decide +kernel
theorem d_X_variable_31 : decode b_X_variable 31 = .ok (.iadd, 1) := by decide +kernel
theorem d_X_variable_32 : decode b_X_variable 32 = .ok (.istore_n 3, 1) := by decide +kernel
theorem d_X_variable_33 : decode b_X_variable 33 = .ok (.aload_n 0, 1) := by decide +kernel
theorem d_X_variable_34 : decode b_X_variable 34 = .ok (.getfield 47, 3) := by decide +kernel
theorem d_X_variable_37 : decode b_X_variable 37 = .ok (.bipush 8, 2) := by decide +kernel
theorem d_X_variable_39 : decode b_X_variable 39 = .ok (.if_icmp .ge 15, 3) := by decide +kernel
theorem d_X_variable_42 : decode b_X_variable 42 = .ok (.aload_n 0, 1) := by decide +kernel
theorem d_X_variable_43 : decode b_X_variable 43 = .ok (.getfield 37, 3) := by decide +kernel
theorem d_X_variable_46 : decode b_X_variable 46 = .ok (.iload_n 3, 1) := by decide +kernel
theorem d_X_variable_47 : decode b_X_variable 47 = .ok (.imul, 1) := by decide +kernel
theorem d_X_variable_48 : decode b_X_variable 48 = .ok (.sipush 4096, 3) := by decide +kernel
theorem d_X_variable_51 : decode b_X_variable 51 = .ok (.if_icmp .le 6, 3) := by decide +kernel
theorem d_X_variable_54 : decode b_X_variable 54 = .ok (.bipush (-2), 2) := by decide +kernel
theorem d_X_variable_56 : decode b_X_variable 56 = .ok (.ireturn, 1) := by decide +kernel
theorem d_X_variable_57 : decode b_X_variable 57 = .ok (.aload_n 0, 1) := by decide +kernel
theorem d_X_variable_58 : decode b_X_variable 58 = .ok (.iload_n 3, 1) := by decide +kernel
theorem d_X_variable_59 : decode b_X_variable 59 = .ok (.invokevirtual 50, 3) := by decide +kernel
theorem d_X_variable_62 : decode b_X_variable 62 = .ok (.aload_n 0, 1) := by decide +kernel
theorem d_X_variable_63 : decode b_X_variable 63 = .ok (.getfield 9, 3) := by decide +kernel
theorem d_X_variable_66 : decode b_X_variable 66 = .ok (.aload_n 0, 1) := by decide +kernel
theorem d_X_variable_67 : decode b_X_variable 67 = .ok (.getfield 47, 3) := by decide +kernel
theorem d_X_variable_70 : decode b_X_variable 70 = .ok (.iload_n 1, 1) := by decide +kernel
theorem d_X_variable_71 : decode b_X_variable 71 = .ok (.iastore, 1) := by decide +kernel
theorem d_X_variable_72 : decode b_X_variable 72 = .ok (.aload_n 0, 1) := by decide +kernel
theorem d_X_variable_73 : decode b_X_variable 73 = .ok (.getfield 13, 3) := by decide +kernel
theorem d_X_variable_76 : decode b_X_variable 76 = .ok (.aload_n 0, 1) := by decide +kernel
theorem d_X_variable_77 : decode b_X_variable 77 = .ok (.getfield 47, 3) := by decide +kernel
theorem d_X_variable_80 : decode b_X_variable 80 = .ok (.iload_n 2, 1) := by decide +kernel
theorem d_X_variable_81 : decode b_X_variable 81 = .ok (.iastore, 1) := by decide +kernel
theorem d_X_variable_82 : decode b_X_variable 82 = .ok (.aload_n 0, 1) := by decide +kernel
theorem d_X_variable_83 : decode b_X_variable 83 = .ok (.iconst 0, 1) := by decide +kernel
theorem d_X_variable_84 : decode b_X_variable 84 = .ok (.putfield 54, 3) := by decide +kernel
theorem d_X_variable_87 : decode b_X_variable 87 = .ok (.aload_n 0, 1) := by decide +kernel
theorem d_X_variable_88 : decode b_X_variable 88 = .ok (.dup, 1) := by decide +kernel
theorem d_X_variable_89 : decode b_X_variable 89 = .ok (.getfield 47, 3) := by decide +kernel
theorem d_X_variable_92 : decode b_X_variable 92 = .ok (.dup_x1, 1) := by decide +kernel
theorem d_X_variable_93 : decode b_X_variable 93 = .ok (.iconst 1, 1) := by decide +kernel
theorem d_X_variable_94 : decode b_X_variable 94 = .ok (.iadd, 1) := by decide +kernel
theorem d_X_variable_95 : decode b_X_variable 95 = .ok (.putfield 47, 3) := by decide +kernel
theorem d_X_variable_98 : decode b_X_variable 98 = .ok (.ireturn, 1) := by decide +kernel
theorem d_X_solve_0 : decode b_X_solve 0 = .ok (.aload_n 0, 1) := by decide +kernel
theorem d_X_solve_1 : decode b_X_solve 1 = .ok (.aload_n 0, 1) := by decide +kernel
theorem d_X_solve_2 : decode b_X_solve 2 = .ok (.iconst 0, 1) := by decide +kernel
theorem d_X_solve_3 : decode b_X_solve 3 = .ok (.iconst 0, 1) := by decide +kernel
theorem d_X_solve_4 : decode b_X_solve 4 = .ok (.invokevirtual 116, 3) := by decide +kernel
theorem d_X_solve_7 : decode b_X_solve 7 = .ok (.invokevirtual 119, 3) := by decide +kernel
theorem d_X_solve_10 : decode b_X_solve 10 = .ok (.ireturn, 1) := by decide +kernel
theorem d_X_best_0 : decode b_X_best 0 = .ok (.aload_n 0, 1) := by decide +kernel
theorem d_X_best_1 : decode b_X_best 1 = .ok (.iload_n 1, 1) := by decide +kernel
theorem d_X_best_2 : decode b_X_best 2 = .ok (.invokevirtual 75, 3) := by decide +kernel
theorem d_X_best_5 : decode b_X_best 5 = .ok (.ifCond .eq 28, 3) := by decide +kernel
theorem d_X_best_8 : decode b_X_best 8 = .ok (.aload_n 0, 1) := by decide +kernel
theorem d_X_best_9 : decode b_X_best 9 = .ok (.aload_n 0, 1) := by decide +kernel
theorem d_X_best_10 : decode b_X_best 10 = .ok (.iload_n 1, 1) := by decide +kernel
theorem d_X_best_11 : decode b_X_best 11 = .ok (.iload_n 2, 1) := by decide +kernel
theorem d_X_best_12 : decode b_X_best 12 = .ok (.ifCond .eq 7, 3) := by decide +kernel
theorem d_X_best_15 : decode b_X_best 15 = .ok (.iconst (-1), 1) := by decide +kernel
theorem d_X_best_16 : decode b_X_best 16 = .ok (.goto 4, 3) := by decide +kernel
theorem d_X_best_19 : decode b_X_best 19 = .ok (.iconst 1, 1) := by decide +kernel
theorem d_X_best_20 : decode b_X_best 20 = .ok (.invokevirtual 116, 3) := by decide +kernel
theorem d_X_best_23 : decode b_X_best 23 = .ok (.invokevirtual 119, 3) := by decide +kernel
theorem d_X_best_26 : decode b_X_best 26 = .ok (.ifCond .eq 7, 3) := by decide +kernel
theorem d_X_best_29 : decode b_X_best 29 = .ok (.iconst 1, 1) := by decide +kernel
theorem d_X_best_30 : decode b_X_best 30 = .ok (.goto 4, 3) := by decide +kernel
theorem d_X_best_33 : decode b_X_best 33 = .ok (.iconst 0, 1) := by decide +kernel
theorem d_X_best_34 : decode b_X_best 34 = .ok (.ireturn, 1) := by decide +kernel
theorem d_X_least_0 : decode b_X_least 0 = .ok (.aload_n 0, 1) := by decide +kernel
theorem d_X_least_1 : decode b_X_least 1 = .ok (.iload_n 1, 1) := by decide +kernel
theorem d_X_least_2 : decode b_X_least 2 = .ok (.invokevirtual 75, 3) := by decide +kernel
theorem d_X_least_5 : decode b_X_least 5 = .ok (.ifCond .eq 21, 3) := by decide +kernel
theorem d_X_least_8 : decode b_X_least 8 = .ok (.aload_n 0, 1) := by decide +kernel
theorem d_X_least_9 : decode b_X_least 9 = .ok (.iload_n 1, 1) := by decide +kernel
theorem d_X_least_10 : decode b_X_least 10 = .ok (.iconst 1, 1) := by decide +kernel
theorem d_X_least_11 : decode b_X_least 11 = .ok (.invokevirtual 116, 3) := by decide +kernel
theorem d_X_least_14 : decode b_X_least 14 = .ok (.ifCond .eq 12, 3) := by decide +kernel
theorem d_X_least_17 : decode b_X_least 17 = .ok (.aload_n 0, 1) := by decide +kernel
theorem d_X_least_18 : decode b_X_least 18 = .ok (.getfield 34, 3) := by decide +kernel
theorem d_X_least_21 : decode b_X_least 21 = .ok (.iload_n 1, 1) := by decide +kernel
theorem d_X_least_22 : decode b_X_least 22 = .ok (.iaload, 1) := by decide +kernel
theorem d_X_least_23 : decode b_X_least 23 = .ok (.goto 6, 3) := by decide +kernel
theorem d_X_least_26 : decode b_X_least 26 = .ok (.sipush 1000, 3) := by decide +kernel
theorem d_X_least_29 : decode b_X_least 29 = .ok (.ireturn, 1) := by decide +kernel
theorem d_X_greatest_0 : decode b_X_greatest 0 = .ok (.aload_n 0, 1) := by decide +kernel
theorem d_X_greatest_1 : decode b_X_greatest 1 = .ok (.iload_n 1, 1) := by decide +kernel
theorem d_X_greatest_2 : decode b_X_greatest 2 = .ok (.invokevirtual 75, 3) := by decide +kernel
theorem d_X_greatest_5 : decode b_X_greatest 5 = .ok (.ifCond .eq 21, 3) := by decide +kernel
theorem d_X_greatest_8 : decode b_X_greatest 8 = .ok (.aload_n 0, 1) := by decide +kernel
theorem d_X_greatest_9 : decode b_X_greatest 9 = .ok (.iload_n 1, 1) := by decide +kernel
theorem d_X_greatest_10 : decode b_X_greatest 10 = .ok (.iconst (-1), 1) := by decide +kernel
theorem d_X_greatest_11 : decode b_X_greatest 11 = .ok (.invokevirtual 116, 3) := by decide +kernel
theorem d_X_greatest_14 : decode b_X_greatest 14 = .ok (.ifCond .eq 12, 3) := by decide +kernel
theorem d_X_greatest_17 : decode b_X_greatest 17 = .ok (.aload_n 0, 1) := by decide +kernel
theorem d_X_greatest_18 : decode b_X_greatest 18 = .ok (.getfield 34, 3) := by decide +kernel
theorem d_X_greatest_21 : decode b_X_greatest 21 = .ok (.iload_n 1, 1) := by decide +kernel
theorem d_X_greatest_22 : decode b_X_greatest 22 = .ok (.iaload, 1) := by decide +kernel
theorem d_X_greatest_23 : decode b_X_greatest 23 = .ok (.goto 6, 3) := by decide +kernel
theorem d_X_greatest_26 : decode b_X_greatest 26 = .ok (.sipush 1000, 3) := by decide +kernel
theorem d_X_greatest_29 : decode b_X_greatest 29 = .ok (.ireturn, 1) := by decide +kernel
theorem d_X_implies_0 : decode b_X_implies 0 = .ok (.aload_n 0, 1) := by decide +kernel
theorem d_X_implies_1 : decode b_X_implies 1 = .ok (.iload_n 1, 1) := by decide +kernel
theorem d_X_implies_2 : decode b_X_implies 2 = .ok (.invokevirtual 75, 3) := by decide +kernel
theorem d_X_implies_5 : decode b_X_implies 5 = .ok (.ifCond .eq 26, 3) := by decide +kernel
theorem d_X_implies_8 : decode b_X_implies 8 = .ok (.aload_n 0, 1) := by decide +kernel
theorem d_X_implies_9 : decode b_X_implies 9 = .ok (.iload_n 1, 1) := by decide +kernel
theorem d_X_implies_10 : decode b_X_implies 10 = .ok (.iconst (-1), 1) := by decide +kernel
theorem d_X_implies_11 : decode b_X_implies 11 = .ok (.invokevirtual 116, 3) := by decide +kernel
theorem d_X_implies_14 : decode b_X_implies 14 = .ok (.ifCond .eq 13, 3) := by decide +kernel
theorem d_X_implies_17 : decode b_X_implies 17 = .ok (.aload_n 0, 1) := by decide +kernel
theorem d_X_implies_18 : decode b_X_implies 18 = .ok (.getfield 34, 3) := by decide +kernel
theorem d_X_implies_21 : decode b_X_implies 21 = .ok (.iload_n 1, 1) := by decide +kernel
theorem d_X_implies_22 : decode b_X_implies 22 = .ok (.iaload, 1) := by decide +kernel
theorem d_X_implies_23 : decode b_X_implies 23 = .ok (.iload_n 2, 1) := by decide +kernel
theorem d_X_implies_24 : decode b_X_implies 24 = .ok (.if_icmp .gt 7, 3) := by decide +kernel
theorem d_X_implies_27 : decode b_X_implies 27 = .ok (.iconst 1, 1) := by decide +kernel
theorem d_X_implies_28 : decode b_X_implies 28 = .ok (.goto 4, 3) := by decide +kernel
theorem d_X_implies_31 : decode b_X_implies 31 = .ok (.iconst 0, 1) := by decide +kernel
theorem d_X_implies_32 : decode b_X_implies 32 = .ok (.ireturn, 1) := by decide +kernel
end
