section
theorem d_X_add_0 : decode b_X_add 0 = .ok (.aload_n 0, 1) := by decide +kernel
theorem d_X_add_1 : decode b_X_add 1 = .ok (.getfield 110, 3) := by decide +kernel
theorem d_X_add_4 : decode b_X_add 4 = .ok (.bipush 12, 2) := by decide +kernel
theorem d_X_add_6 : decode b_X_add 6 = .ok (.if_icmp .lt 6, 3) := by decide +kernel
theorem d_X_add_9 : decode b_X_add 9 = .ok (.bipush (-2), 2) := by decide +kernel
theorem d_X_add_11 : decode b_X_add 11 = .ok (.ireturn, 1) := by decide +kernel
theorem d_X_add_12 : decode b_X_add 12 = .ok (.aload_n 0, 1) := by decide +kernel
theorem d_X_add_13 : decode b_X_add 13 = .ok (.invokevirtual 123, 3) := by decide +kernel
theorem d_X_add_16 : decode b_X_add 16 = .ok (.iconst 0, 1) := by decide +kernel
theorem d_X_add_17 : decode b_X_add 17 = .ok (.istore_n 2, 1) := by decide +kernel
theorem d_X_add_18 : decode b_X_add 18 = .ok (.iload_n 2, 1) := by decide +kernel
theorem d_X_add_19 : decode b_X_add 19 = .ok (.aload_n 0, 1) := by decide +kernel
theorem d_X_add_20 : decode b_X_add 20 = .ok (.getfield 37, 3) := by decide +kernel
theorem d_X_add_23 : decode b_X_add 23 = .ok (.if_icmp .ge 47, 3) := by decide +kernel
theorem d_X_add_26 : decode b_X_add 26 = .ok (.aload_n 0, 1) := by decide +kernel
theorem d_X_add_27 : decode b_X_add 27 = .ok (.getfield 16, 3) := by decide +kernel
theorem d_X_add_30 : decode b_X_add 30 = .ok (.iload_n 2, 1) := by decide +kernel
theorem d_X_add_31 : decode b_X_add 31 = .ok (.iaload, 1) := by decide +kernel
theorem d_X_add_32 : decode b_X_add 32 = .ok (.bipush 12, 2) := by decide +kernel
theorem d_X_add_34 : decode b_X_add 34 = .ok (.if_icmp .ne 26, 3) := by decide +kernel
theorem d_X_add_37 : decode b_X_add 37 = .ok (.aload_n 1, 1) := by decide +kernel
theorem d_X_add_38 : decode b_X_add 38 = .ok (.aload_n 0, 1) := by decide +kernel
theorem d_X_add_39 : decode b_X_add 39 = .ok (.getfield 31, 3) := by decide +kernel
theorem d_X_add_42 : decode b_X_add 42 = .ok (.invokeinterface 126 2, 5) := by decide +kernel
theorem d_X_add_47 : decode b_X_add 47 = .ok (.ifCond .ne 13, 3) := by decide +kernel
theorem d_X_add_50 : decode b_X_add 50 = .ok (.aload_n 0, 1) := by decide +kernel
theorem d_X_add_51 : decode b_X_add 51 = .ok (.getfield 16, 3) := by decide +kernel
theorem d_X_add_54 : decode b_X_add 54 = .ok (.iload_n 2, 1) := by decide +kernel
theorem d_X_add_55 : decode b_X_add 55 = .ok (.aload_n 0, 1) := by decide +kernel
theorem d_X_add_56 : decode b_X_add 56 = .ok (.getfield 110, 3) := by decide +kernel
theorem d_X_add_59 : decode b_X_add 59 = .ok (.iastore, 1) := by decide +kernel
theorem d_X_add_60 : decode b_X_add 60 = .ok (.aload_n 0, 1) := by decide +kernel
theorem d_X_add_61 : decode b_X_add 61 = .ok (.invokevirtual 132, 3) := by decide +kernel
theorem d_X_add_64 : decode b_X_add 64 = .ok (.iinc 2 1, 3) := by decide +kernel
theorem d_X_add_67 : decode b_X_add 67 = .ok (.goto (-49), 3) := by decide +kernel
theorem d_X_add_70 : decode b_X_add 70 = .ok (.aload_n 0, 1) := by decide +kernel
theorem d_X_add_71 : decode b_X_add 71 = .ok (.iconst 0, 1) := by decide +kernel
theorem d_X_add_72 : decode b_X_add 72 = .ok (.putfield 54, 3) := by decide +kernel
theorem d_X_add_75 : decode b_X_add 75 = .ok (.aload_n 0, 1) := by decide +kernel
theorem d_X_add_76 : decode b_X_add 76 = .ok (.dup, 1) := by decide +kernel
theorem d_X_add_77 : decode b_X_add 77 = .ok (.getfield 110, 3) := by decide +kernel
theorem d_X_add_80 : decode b_X_add 80 = .ok (.dup_x1, 1) := by decide +kernel
theorem d_X_add_81 : decode b_X_add 81 = .ok (.iconst 1, 1) := by decide +kernel
theorem d_X_add_82 : decode b_X_add 82 = .ok (.iadd, 1) := by decide +kernel
theorem d_X_add_83 : decode b_X_add 83 = .ok (.putfield 110, 3) := by decide +kernel
theorem d_X_add_86 : decode b_X_add 86 = .ok (.ireturn, 1) := by decide +kernel
theorem d_X_reified_0 : decode b_X_reified 0 = .ok (.aload_n 0, 1) := by decide +kernel
theorem d_X_reified_1 : decode b_X_reified 1 = .ok (.iload_n 1, 1) := by decide +kernel
theorem d_X_reified_2 : decode b_X_reified 2 = .ok (.invokevirtual 75, 3) := by decide +kernel
theorem d_X_reified_5 : decode b_X_reified 5 = .ok (.ifCond .eq 33, 3) := by decide +kernel
theorem d_X_reified_8 : decode b_X_reified 8 = .ok (.aload_n 0, 1) := by decide +kernel
theorem d_X_reified_9 : decode b_X_reified 9 = .ok (.iload_n 2, 1) := by decide +kernel
theorem d_X_reified_10 : decode b_X_reified 10 = .ok (.invokevirtual 75, 3) := by decide +kernel
theorem d_X_reified_13 : decode b_X_reified 13 = .ok (.ifCond .eq 25, 3) := by decide +kernel
theorem d_X_reified_16 : decode b_X_reified 16 = .ok (.aload_n 0, 1) := by decide +kernel
theorem d_X_reified_17 : decode b_X_reified 17 = .ok (.iload_n 3, 1) := by decide +kernel
theorem d_X_reified_18 : decode b_X_reified 18 = .ok (.invokevirtual 75, 3) := by decide +kernel
theorem d_X_reified_21 : decode b_X_reified 21 = .ok (.ifCond .eq 17, 3) := by decide +kernel
theorem d_X_reified_24 : decode b_X_reified 24 = .ok (.iload 4, 2) := by decide +kernel
theorem d_X_reified_26 : decode b_X_reified 26 = .ok (.bipush 100, 2) := by decide +kernel
theorem d_X_reified_28 : decode b_X_reified 28 = .ok (.invokestatic 62, 3) := by decide +kernel
theorem d_X_reified_31 : decode b_X_reified 31 = .ok (.ifCond .eq 7, 3) := by decide +kernel
theorem d_X_reified_34 : decode b_X_reified 34 = .ok (.iconst 1, 1) := by decide +kernel
theorem d_X_reified_35 : decode b_X_reified 35 = .ok (.goto 4, 3) := by decide +kernel
theorem d_X_reified_38 : decode b_X_reified 38 = .ok (.iconst 0, 1) := by decide +kernel
theorem d_X_reified_39 : decode b_X_reified 39 = .ok (.istore 5, 2) := by decide +kernel
theorem d_X_reified_41 : decode b_X_reified 41 = .ok (.iload 5, 2) := by decide +kernel
theorem d_X_reified_43 : decode b_X_reified 43 = .ok (.ifCond .eq 22, 3) := by decide +kernel
theorem d_X_reified_46 : decode b_X_reified 46 = .ok (.aload_n 0, 1) := by decide +kernel
theorem d_X_reified_47 : decode b_X_reified 47 = .ok (.new 79, 3) := by decide +kernel
theorem d_X_reified_50 : decode b_X_reified 50 = .ok (.dup, 1) := by decide +kernel
theorem d_X_reified_51 : decode b_X_reified 51 = .ok (.iload_n 1, 1) := by decide +kernel
theorem d_X_reified_52 : decode b_X_reified 52 = .ok (.iload_n 2, 1) := by decide +kernel
theorem d_X_reified_53 : decode b_X_reified 53 = .ok (.iload_n 3, 1) := by decide +kernel
theorem d_X_reified_54 : decode b_X_reified 54 = .ok (.iload 4, 2) := by decide +kernel
theorem d_X_reified_56 : decode b_X_reified 56 = .ok (.invokespecial 81, 3) := by decide +kernel
theorem d_X_reified_59 : decode b_X_reified 59 = .ok (.invokevirtual 71, 3) := by decide +kernel
theorem d_X_reified_62 : decode b_X_reified 62 = .ok (.goto 4, 3) := by decide +kernel
theorem d_X_reified_65 : decode b_X_reified 65 = .ok (.iconst (-1), 1) := by decide +kernel
theorem d_X_reified_66 : decode b_X_reified 66 = .ok (.ireturn, 1) := by decide +kernel
theorem d_X_linear_0 : decode b_X_linear 0 = .ok (.aload_n 0, 1) := by decide +kernel
theorem d_X_linear_1 : decode b_X_linear 1 = .ok (.iload_n 1, 1) := by decide +kernel
theorem d_X_linear_2 : decode b_X_linear 2 = .ok (.iload_n 3, 1) := by decide +kernel
theorem d_X_linear_3 : decode b_X_linear 3 = .ok (.iload 5, 2) := by decide +kernel
theorem d_X_linear_5 : decode b_X_linear 5 = .ok (.invokevirtual 58, 3) := by decide +kernel
theorem d_X_linear_8 : decode b_X_linear 8 = .ok (.ifCond .eq 47, 3) := by decide +kernel
theorem d_X_linear_11 : decode b_X_linear 11 = .ok (.iload_n 2, 1) := by decide +kernel
theorem d_X_linear_12 : decode b_X_linear 12 = .ok (.bipush 9, 2) := by decide +kernel
theorem d_X_linear_14 : decode b_X_linear 14 = .ok (.invokestatic 62, 3) := by decide +kernel
theorem d_X_linear_17 : decode b_X_linear 17 = .ok (.ifCond .eq 38, 3) := by decide +kernel
theorem d_X_linear_20 : decode b_X_linear 20 = .ok (.iload 4, 2) := by decide +kernel
theorem d_X_linear_22 : decode b_X_linear 22 = .ok (.bipush 9, 2) := by decide +kernel
theorem d_X_linear_24 : decode b_X_linear 24 = .ok (.invokestatic 62, 3) := by decide +kernel
theorem d_X_linear_27 : decode b_X_linear 27 = .ok (.ifCond .eq 28, 3) := by decide +kernel
theorem d_X_linear_30 : decode b_X_linear 30 = .ok (.iload 6, 2) := by decide +kernel
theorem d_X_linear_32 : decode b_X_linear 32 = .ok (.bipush 9, 2) := by decide +kernel
theorem d_X_linear_34 : decode b_X_linear 34 = .ok (.invokestatic 62, 3) := by decide +kernel
theorem d_X_linear_37 : decode b_X_linear 37 = .ok (.ifCond .eq 18, 3) := by decide +kernel
theorem d_X_linear_40 : decode b_X_linear 40 = .ok (.iload 7, 2) := by decide +kernel
theorem d_X_linear_42 : decode b_X_linear 42 = .ok (.sipush 1000, 3) := by decide +kernel
theorem d_X_linear_45 : decode b_X_linear 45 = .ok (.invokestatic 62, 3) := by decide +kernel
theorem d_X_linear_48 : decode b_X_linear 48 = .ok (.ifCond .eq 7, 3) := by decide +kernel
theorem d_X_linear_51 : decode b_X_linear 51 = .ok (.iconst 1, 1) := by decide +kernel
theorem d_X_linear_52 : decode b_X_linear 52 = .ok (.goto 4, 3) := by decide +kernel
theorem d_X_linear_55 : decode b_X_linear 55 = .ok (.iconst 0, 1) := by decide +kernel
theorem d_X_linear_56 : decode b_X_linear 56 = .ok (.istore 8, 2) := by decide +kernel
theorem d_X_linear_58 : decode b_X_linear 58 = .ok (.iload 8, 2) := by decide +kernel
theorem d_X_linear_60 : decode b_X_linear 60 = .ok (.ifCond .eq 28, 3) := by decide +kernel
theorem d_X_linear_63 : decode b_X_linear 63 = .ok (.aload_n 0, 1) := by decide +kernel
theorem d_X_linear_64 : decode b_X_linear 64 = .ok (.new 66, 3) := by decide +kernel
theorem d_X_linear_67 : decode b_X_linear 67 = .ok (.dup, 1) := by decide +kernel
theorem d_X_linear_68 : decode b_X_linear 68 = .ok (.iload_n 1, 1) := by decide +kernel
theorem d_X_linear_69 : decode b_X_linear 69 = .ok (.iload_n 2, 1) := by decide +kernel
theorem d_X_linear_70 : decode b_X_linear 70 = .ok (.iload_n 3, 1) := by decide +kernel
theorem d_X_linear_71 : decode b_X_linear 71 = .ok (.iload 4, 2) := by decide +kernel
theorem d_X_linear_73 : decode b_X_linear 73 = .ok (.iload 5, 2) := by decide +kernel
theorem d_X_linear_75 : decode b_X_linear 75 = .ok (.iload 6, 2) := by decide +kernel
theorem d_X_linear_77 : decode b_X_linear 77 = .ok (.iload 7, 2) := by decide +kernel
theorem d_X_linear_79 : decode b_X_linear 79 = .ok (.invokespecial 68, 3) := by decide +kernel
theorem d_X_linear_82 : decode b_X_linear 82 = .ok (.invokevirtual 71, 3) := by decide +kernel
theorem d_X_linear_85 : decode b_X_linear 85 = .ok (.goto 4, 3) := by decide +kernel
theorem d_X_linear_88 : decode b_X_linear 88 = .ok (.iconst (-1), 1) := by decide +kernel
theorem d_X_linear_89 : decode b_X_linear 89 = .ok (.ireturn, 1) := by decide +kernel
theorem d_X_maximum_0 : decode b_X_maximum 0 = .ok (.aload_n 0, 1) := by decide +kernel
theorem d_X_maximum_1 : decode b_X_maximum 1 = .ok (.iload_n 1, 1) := by decide +kernel
theorem d_X_maximum_2 : decode b_X_maximum 2 = .ok (.invokevirtual 75, 3) := by decide +kernel
theorem d_X_maximum_5 : decode b_X_maximum 5 = .ok (.ifCond .eq 32, 3) := by decide +kernel
theorem d_X_maximum_8 : decode b_X_maximum 8 = .ok (.aload_n 0, 1) := by decide +kernel
theorem d_X_maximum_9 : decode b_X_maximum 9 = .ok (.iload_n 2, 1) := by decide +kernel
theorem d_X_maximum_10 : decode b_X_maximum 10 = .ok (.invokevirtual 75, 3) := by decide +kernel
theorem d_X_maximum_13 : decode b_X_maximum 13 = .ok (.ifCond .eq 24, 3) := by decide +kernel
theorem d_X_maximum_16 : decode b_X_maximum 16 = .ok (.aload_n 0, 1) := by decide +kernel
theorem d_X_maximum_17 : decode b_X_maximum 17 = .ok (.iload_n 3, 1) := by decide +kernel
theorem d_X_maximum_18 : decode b_X_maximum 18 = .ok (.invokevirtual 84, 3) := by decide +kernel
theorem d_X_maximum_21 : decode b_X_maximum 21 = .ok (.ifCond .eq 16, 3) := by decide +kernel
theorem d_X_maximum_24 : decode b_X_maximum 24 = .ok (.aload_n 0, 1) := by decide +kernel
theorem d_X_maximum_25 : decode b_X_maximum 25 = .ok (.iload 4, 2) := by decide +kernel
theorem d_X_maximum_27 : decode b_X_maximum 27 = .ok (.invokevirtual 84, 3) := by decide +kernel
theorem d_X_maximum_30 : decode b_X_maximum 30 = .ok (.ifCond .eq 7, 3) := by decide +kernel
theorem d_X_maximum_33 : decode b_X_maximum 33 = .ok (.iconst 1, 1) := by decide +kernel
theorem d_X_maximum_34 : decode b_X_maximum 34 = .ok (.goto 4, 3) := by decide +kernel
theorem d_X_maximum_37 : decode b_X_maximum 37 = .ok (.iconst 0, 1) := by decide +kernel
theorem d_X_maximum_38 : decode b_X_maximum 38 = .ok (.istore 5, 2) := by decide +kernel
theorem d_X_maximum_40 : decode b_X_maximum 40 = .ok (.iload 5, 2) := by decide +kernel
theorem d_X_maximum_42 : decode b_X_maximum 42 = .ok (.ifCond .eq 22, 3) := by decide +kernel
theorem d_X_maximum_45 : decode b_X_maximum 45 = .ok (.aload_n 0, 1) := by decide +kernel
theorem d_X_maximum_46 : decode b_X_maximum 46 = .ok (.new 87, 3) := by decide +kernel
theorem d_X_maximum_49 : decode b_X_maximum 49 = .ok (.dup, 1) := by decide +kernel
theorem d_X_maximum_50 : decode b_X_maximum 50 = .ok (.iload_n 1, 1) := by decide +kernel
theorem d_X_maximum_51 : decode b_X_maximum 51 = .ok (.iload_n 2, 1) := by decide +kernel
theorem d_X_maximum_52 : decode b_X_maximum 52 = .ok (.iload_n 3, 1) := by decide +kernel
theorem d_X_maximum_53 : decode b_X_maximum 53 = .ok (.iload 4, 2) := by decide +kernel
theorem d_X_maximum_55 : decode b_X_maximum 55 = .ok (.invokespecial 89, 3) := by decide +kernel
theorem d_X_maximum_58 : decode b_X_maximum 58 = .ok (.invokevirtual 71, 3) := by decide +kernel
theorem d_X_maximum_61 : decode b_X_maximum 61 = .ok (.goto 4, 3) := by decide +kernel
theorem d_X_maximum_64 : decode b_X_maximum 64 = .ok (.iconst (-1), 1) := by decide +kernel
theorem d_X_maximum_65 : decode b_X_maximum 65 = .ok (.ireturn, 1) := by decide +kernel
theorem d_X_element_0 : decode b_X_element 0 = .ok (.aload_n 0, 1) := by decide +kernel
theorem d_X_element_1 : decode b_X_element 1 = .ok (.iload_n 1, 1) := by decide +kernel
theorem d_X_element_2 : decode b_X_element 2 = .ok (.invokevirtual 75, 3) := by decide +kernel
theorem d_X_element_5 : decode b_X_element 5 = .ok (.ifCond .eq 15, 3) := by decide +kernel
theorem d_X_element_8 : decode b_X_element 8 = .ok (.aload_n 0, 1) := by decide +kernel
theorem d_X_element_9 : decode b_X_element 9 = .ok (.iload_n 2, 1) := by decide +kernel
theorem d_X_element_10 : decode b_X_element 10 = .ok (.invokevirtual 75, 3) := by decide +kernel
theorem d_X_element_13 : decode b_X_element 13 = .ok (.ifCond .eq 7, 3) := by decide +kernel
theorem d_X_element_16 : decode b_X_element 16 = .ok (.iconst 1, 1) := by decide +kernel
theorem d_X_element_17 : decode b_X_element 17 = .ok (.goto 4, 3) := by decide +kernel
theorem d_X_element_20 : decode b_X_element 20 = .ok (.iconst 0, 1) := by decide +kernel
theorem d_X_element_21 : decode b_X_element 21 = .ok (.istore 5, 2) := by decide +kernel
theorem d_X_element_23 : decode b_X_element 23 = .ok (.iload 5, 2) := by decide +kernel
theorem d_X_element_25 : decode b_X_element 25 = .ok (.ifCond .eq 20, 3) := by decide +kernel
theorem d_X_element_28 : decode b_X_element 28 = .ok (.aload_n 0, 1) := by decide +kernel
theorem d_X_element_29 : decode b_X_element 29 = .ok (.new 90, 3) := by decide +kernel
theorem d_X_element_32 : decode b_X_element 32 = .ok (.dup, 1) := by decide +kernel
theorem d_X_element_33 : decode b_X_element 33 = .ok (.iload_n 1, 1) := by decide +kernel
theorem d_X_element_34 : decode b_X_element 34 = .ok (.iload_n 2, 1) := by decide +kernel
theorem d_X_element_35 : decode b_X_element 35 = .ok (.lload_n 3, 1) := by decide +kernel
theorem d_X_element_36 : decode b_X_element 36 = .ok (.invokespecial 92, 3) := by decide +kernel
theorem d_X_element_39 : decode b_X_element 39 = .ok (.invokevirtual 71, 3) := by decide +kernel
theorem d_X_element_42 : decode b_X_element 42 = .ok (.goto 4, 3) := by decide +kernel
theorem d_X_element_45 : decode b_X_element 45 = .ok (.iconst (-1), 1) := by decide +kernel
theorem d_X_element_46 : decode b_X_element 46 = .ok (.ireturn, 1) := by decide +kernel
theorem d_X_different_0 : decode b_X_different 0 = .ok (.aload_n 0, 1) := by decide +kernel
theorem d_X_different_1 : decode b_X_different 1 = .ok (.iload_n 1, 1) := by decide +kernel
theorem d_X_different_2 : decode b_X_different 2 = .ok (.invokevirtual 95, 3) := by decide +kernel
theorem d_X_different_5 : decode b_X_different 5 = .ok (.ifCond .eq 18, 3) := by decide +kernel
theorem d_X_different_8 : decode b_X_different 8 = .ok (.aload_n 0, 1) := by decide +kernel
theorem d_X_different_9 : decode b_X_different 9 = .ok (.new 98, 3) := by decide +kernel
theorem d_X_different_12 : decode b_X_different 12 = .ok (.dup, 1) := by decide +kernel
theorem d_X_different_13 : decode b_X_different 13 = .ok (.iload_n 1, 1) := by decide +kernel
theorem d_X_different_14 : decode b_X_different 14 = .ok (.invokespecial 100, 3) := by decide +kernel
theorem d_X_different_17 : decode b_X_different 17 = .ok (.invokevirtual 71, 3) := by decide +kernel
theorem d_X_different_20 : decode b_X_different 20 = .ok (.goto 4, 3) := by decide +kernel
theorem d_X_different_23 : decode b_X_different 23 = .ok (.iconst (-1), 1) := by decide +kernel
theorem d_X_different_24 : decode b_X_different 24 = .ok (.ireturn, 1) := by decide +kernel
theorem d_X_cumulative_0 : decode b_X_cumulative 0 = .ok (.aload_n 0, 1) := by decide +kernel
theorem d_X_cumulative_1 : decode b_X_cumulative 1 = .ok (.iload_n 1, 1) := by decide +kernel
theorem d_X_cumulative_2 : decode b_X_cumulative 2 = .ok (.invokevirtual 95, 3) := by decide +kernel
theorem d_X_cumulative_5 : decode b_X_cumulative 5 = .ok (.ifCond .eq 19, 3) := by decide +kernel
theorem d_X_cumulative_8 : decode b_X_cumulative 8 = .ok (.iload 6, 2) := by decide +kernel
theorem d_X_cumulative_10 : decode b_X_cumulative 10 = .ok (.ifCond .lt 14, 3) := by decide +kernel
theorem d_X_cumulative_13 : decode b_X_cumulative 13 = .ok (.iload 6, 2) := by decide +kernel
theorem d_X_cumulative_15 : decode b_X_cumulative 15 = .ok (.bipush 100, 2) := by decide +kernel
theorem d_X_cumulative_17 : decode b_X_cumulative 17 = .ok (.if_icmp .gt 7, 3) := by decide +kernel
theorem d_X_cumulative_20 : decode b_X_cumulative 20 = .ok (.iconst 1, 1) := by decide +kernel
theorem d_X_cumulative_21 : decode b_X_cumulative 21 = .ok (.goto 4, 3) := by decide +kernel
theorem d_X_cumulative_24 : decode b_X_cumulative 24 = .ok (.iconst 0, 1) := by decide +kernel
theorem d_X_cumulative_25 : decode b_X_cumulative 25 = .ok (.istore 7, 2) := by decide +kernel
theorem d_X_cumulative_27 : decode b_X_cumulative 27 = .ok (.iload 7, 2) := by decide +kernel
theorem d_X_cumulative_29 : decode b_X_cumulative 29 = .ok (.ifCond .eq 23, 3) := by decide +kernel
theorem d_X_cumulative_32 : decode b_X_cumulative 32 = .ok (.aload_n 0, 1) := by decide +kernel
theorem d_X_cumulative_33 : decode b_X_cumulative 33 = .ok (.new 102, 3) := by decide +kernel
theorem d_X_cumulative_36 : decode b_X_cumulative 36 = .ok (.dup, 1) := by decide +kernel
theorem d_X_cumulative_37 : decode b_X_cumulative 37 = .ok (.iload_n 1, 1) := by decide +kernel
theorem d_X_cumulative_38 : decode b_X_cumulative 38 = .ok (.lload_n 2, 1) := by decide +kernel
theorem d_X_cumulative_39 : decode b_X_cumulative 39 = .ok (.lload 4, 2) := by decide +kernel
theorem d_X_cumulative_41 : decode b_X_cumulative 41 = .ok (.iload 6, 2) := by decide +kernel
theorem d_X_cumulative_43 : decode b_X_cumulative 43 = .ok (.invokespecial 104, 3) := by decide +kernel
theorem d_X_cumulative_46 : decode b_X_cumulative 46 = .ok (.invokevirtual 71, 3) := by decide +kernel
theorem d_X_cumulative_49 : decode b_X_cumulative 49 = .ok (.goto 4, 3) := by decide +kernel
theorem d_X_cumulative_52 : decode b_X_cumulative 52 = .ok (.iconst (-1), 1) := by decide +kernel
theorem d_X_cumulative_53 : decode b_X_cumulative 53 = .ok (.ireturn, 1) := by decide +kernel
theorem d_X_clause_0 : decode b_X_clause 0 = .ok (.aload_n 0, 1) := by decide +kernel
theorem d_X_clause_1 : decode b_X_clause 1 = .ok (.iload_n 1, 1) := by decide +kernel
theorem d_X_clause_2 : decode b_X_clause 2 = .ok (.iload_n 3, 1) := by decide +kernel
theorem d_X_clause_3 : decode b_X_clause 3 = .ok (.iload 5, 2) := by decide +kernel
theorem d_X_clause_5 : decode b_X_clause 5 = .ok (.invokevirtual 58, 3) := by decide +kernel
theorem d_X_clause_8 : decode b_X_clause 8 = .ok (.ifCond .eq 48, 3) := by decide +kernel
theorem d_X_clause_11 : decode b_X_clause 11 = .ok (.iload_n 2, 1) := by decide +kernel
theorem d_X_clause_12 : decode b_X_clause 12 = .ok (.bipush 100, 2) := by decide +kernel
theorem d_X_clause_14 : decode b_X_clause 14 = .ok (.invokestatic 62, 3) := by decide +kernel
theorem d_X_clause_17 : decode b_X_clause 17 = .ok (.ifCond .eq 39, 3) := by decide +kernel
theorem d_X_clause_20 : decode b_X_clause 20 = .ok (.iload 4, 2) := by decide +kernel
theorem d_X_clause_22 : decode b_X_clause 22 = .ok (.bipush 100, 2) := by decide +kernel
theorem d_X_clause_24 : decode b_X_clause 24 = .ok (.invokestatic 62, 3) := by decide +kernel
theorem d_X_clause_27 : decode b_X_clause 27 = .ok (.ifCond .eq 29, 3) := by decide +kernel
theorem d_X_clause_30 : decode b_X_clause 30 = .ok (.iload 6, 2) := by decide +kernel
theorem d_X_clause_32 : decode b_X_clause 32 = .ok (.bipush 100, 2) := by decide +kernel
theorem d_X_clause_34 : decode b_X_clause 34 = .ok (.invokestatic 62, 3) := by decide +kernel
theorem d_X_clause_37 : decode b_X_clause 37 = .ok (.ifCond .eq 19, 3) := by decide +kernel
theorem d_X_clause_40 : decode b_X_clause 40 = .ok (.iload 7, 2) := by decide +kernel
theorem d_X_clause_42 : decode b_X_clause 42 = .ok (.ifCond .lt 14, 3) := by decide +kernel
theorem d_X_clause_45 : decode b_X_clause 45 = .ok (.iload 7, 2) := by decide +kernel
theorem d_X_clause_47 : decode b_X_clause 47 = .ok (.bipush 7, 2) := by decide +kernel
theorem d_X_clause_49 : decode b_X_clause 49 = .ok (.if_icmp .gt 7, 3) := by decide +kernel
theorem d_X_clause_52 : decode b_X_clause 52 = .ok (.iconst 1, 1) := by decide +kernel
theorem d_X_clause_53 : decode b_X_clause 53 = .ok (.goto 4, 3) := by decide +kernel
theorem d_X_clause_56 : decode b_X_clause 56 = .ok (.iconst 0, 1) := by decide +kernel
theorem d_X_clause_57 : decode b_X_clause 57 = .ok (.istore 8, 2) := by decide +kernel
theorem d_X_clause_59 : decode b_X_clause 59 = .ok (.iload 8, 2) := by decide +kernel
end
