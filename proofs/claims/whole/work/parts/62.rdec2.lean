section
theorem d_D_holdsAt_1 : decode b_D_holdsAt 1 = .ok (.lstore_n 2, 1) := by decide +kernel
theorem d_D_holdsAt_2 : decode b_D_holdsAt 2 = .ok (.iconst 0, 1) := by decide +kernel
theorem d_D_holdsAt_3 : decode b_D_holdsAt 3 = .ok (.istore 4, 2) := by decide +kernel
theorem d_D_holdsAt_5 : decode b_D_holdsAt 5 = .ok (.iload 4, 2) := by decide +kernel
theorem d_D_holdsAt_7 : decode b_D_holdsAt 7 = .ok (.bipush 8, 2) := by decide +kernel
theorem d_D_holdsAt_9 : decode b_D_holdsAt 9 = .ok (.if_icmp .ge 48, 3) := by decide +kernel
theorem d_D_holdsAt_12 : decode b_D_holdsAt 12 = .ok (.iload 4, 2) := by decide +kernel
theorem d_D_holdsAt_14 : decode b_D_holdsAt 14 = .ok (.aload_n 0, 1) := by decide +kernel
theorem d_D_holdsAt_15 : decode b_D_holdsAt 15 = .ok (.getfield 9, 3) := by decide +kernel
theorem d_D_holdsAt_18 : decode b_D_holdsAt 18 = .ok (.invokestatic 15, 3) := by decide +kernel
theorem d_D_holdsAt_21 : decode b_D_holdsAt 21 = .ok (.ifCond .eq 30, 3) := by decide +kernel
theorem d_D_holdsAt_24 : decode b_D_holdsAt 24 = .ok (.lconst 1, 1) := by decide +kernel
theorem d_D_holdsAt_25 : decode b_D_holdsAt 25 = .ok (.aload_n 1, 1) := by decide +kernel
theorem d_D_holdsAt_26 : decode b_D_holdsAt 26 = .ok (.iload 4, 2) := by decide +kernel
theorem d_D_holdsAt_28 : decode b_D_holdsAt 28 = .ok (.iaload, 1) := by decide +kernel
theorem d_D_holdsAt_29 : decode b_D_holdsAt 29 = .ok (.bipush (-20), 2) := by decide +kernel
theorem d_D_holdsAt_31 : decode b_D_holdsAt 31 = .ok (.isub, 1) := by decide +kernel
theorem d_D_holdsAt_32 : decode b_D_holdsAt 32 = .ok (.lshl, 1) := by decide +kernel
theorem d_D_holdsAt_33 : decode b_D_holdsAt 33 = .ok (.lstore 5, 2) := by decide +kernel
theorem d_D_holdsAt_35 : decode b_D_holdsAt 35 = .ok (.lload_n 2, 1) := by decide +kernel
theorem d_D_holdsAt_36 : decode b_D_holdsAt 36 = .ok (.lload 5, 2) := by decide +kernel
theorem d_D_holdsAt_38 : decode b_D_holdsAt 38 = .ok (.land, 1) := by decide +kernel
theorem d_D_holdsAt_39 : decode b_D_holdsAt 39 = .ok (.lconst 0, 1) := by decide +kernel
theorem d_D_holdsAt_40 : decode b_D_holdsAt 40 = .ok (.lcmp, 1) := by decide +kernel
theorem d_D_holdsAt_41 : decode b_D_holdsAt 41 = .ok (.ifCond .eq 5, 3) := by decide +kernel
theorem d_D_holdsAt_44 : decode b_D_holdsAt 44 = .ok (.iconst 0, 1) := by decide +kernel
theorem d_D_holdsAt_45 : decode b_D_holdsAt 45 = .ok (.ireturn, 1) := by decide +kernel
theorem d_D_holdsAt_46 : decode b_D_holdsAt 46 = .ok (.lload_n 2, 1) := by decide +kernel
theorem d_D_holdsAt_47 : decode b_D_holdsAt 47 = .ok (.lload 5, 2) := by decide +kernel
theorem d_D_holdsAt_49 : decode b_D_holdsAt 49 = .ok (.lor, 1) := by decide +kernel
theorem d_D_holdsAt_50 : decode b_D_holdsAt 50 = .ok (.lstore_n 2, 1) := by decide +kernel
theorem d_D_holdsAt_51 : decode b_D_holdsAt 51 = .ok (.iinc 4 1, 3) := by decide +kernel
theorem d_D_holdsAt_54 : decode b_D_holdsAt 54 = .ok (.goto (-49), 3) := by decide +kernel
theorem d_D_holdsAt_57 : decode b_D_holdsAt 57 = .ok (.iconst 1, 1) := by decide +kernel
theorem d_D_holdsAt_58 : decode b_D_holdsAt 58 = .ok (.ireturn, 1) := by decide +kernel
theorem d_U_fourBits_0 : decode b_U_fourBits 0 = .ok (.lload_n 0, 1) := by decide +kernel
theorem d_U_fourBits_1 : decode b_U_fourBits 1 = .ok (.iconst 4, 1) := by decide +kernel
theorem d_U_fourBits_2 : decode b_U_fourBits 2 = .ok (.iload_n 2, 1) := by decide +kernel
theorem d_U_fourBits_3 : decode b_U_fourBits 3 = .ok (.imul, 1) := by decide +kernel
theorem d_U_fourBits_4 : decode b_U_fourBits 4 = .ok (.lshr, 1) := by decide +kernel
theorem d_U_fourBits_5 : decode b_U_fourBits 5 = .ok (.l2i, 1) := by decide +kernel
theorem d_U_fourBits_6 : decode b_U_fourBits 6 = .ok (.bipush 15, 2) := by decide +kernel
theorem d_U_fourBits_8 : decode b_U_fourBits 8 = .ok (.iand, 1) := by decide +kernel
theorem d_U_fourBits_9 : decode b_U_fourBits 9 = .ok (.ireturn, 1) := by decide +kernel
theorem d_U_needAt_0 : decode b_U_needAt 0 = .ok (.iconst 0, 1) := by decide +kernel
theorem d_U_needAt_1 : decode b_U_needAt 1 = .ok (.istore_n 3, 1) := by decide +kernel
theorem d_U_needAt_2 : decode b_U_needAt 2 = .ok (.iconst 0, 1) := by decide +kernel
theorem d_U_needAt_3 : decode b_U_needAt 3 = .ok (.istore 4, 2) := by decide +kernel
theorem d_U_needAt_5 : decode b_U_needAt 5 = .ok (.iload 4, 2) := by decide +kernel
theorem d_U_needAt_7 : decode b_U_needAt 7 = .ok (.bipush 8, 2) := by decide +kernel
theorem d_U_needAt_9 : decode b_U_needAt 9 = .ok (.if_icmp .ge 59, 3) := by decide +kernel
theorem d_U_needAt_12 : decode b_U_needAt 12 = .ok (.iload 4, 2) := by decide +kernel
theorem d_U_needAt_14 : decode b_U_needAt 14 = .ok (.aload_n 0, 1) := by decide +kernel
theorem d_U_needAt_15 : decode b_U_needAt 15 = .ok (.getfield 9, 3) := by decide +kernel
theorem d_U_needAt_18 : decode b_U_needAt 18 = .ok (.invokestatic 25, 3) := by decide +kernel
theorem d_U_needAt_21 : decode b_U_needAt 21 = .ok (.ifCond .eq 41, 3) := by decide +kernel
theorem d_U_needAt_24 : decode b_U_needAt 24 = .ok (.aload_n 2, 1) := by decide +kernel
theorem d_U_needAt_25 : decode b_U_needAt 25 = .ok (.iload 4, 2) := by decide +kernel
theorem d_U_needAt_27 : decode b_U_needAt 27 = .ok (.iaload, 1) := by decide +kernel
theorem d_U_needAt_28 : decode b_U_needAt 28 = .ok (.iload_n 1, 1) := by decide +kernel
theorem d_U_needAt_29 : decode b_U_needAt 29 = .ok (.if_icmp .gt 33, 3) := by decide +kernel
theorem d_U_needAt_32 : decode b_U_needAt 32 = .ok (.iload_n 1, 1) := by decide +kernel
theorem d_U_needAt_33 : decode b_U_needAt 33 = .ok (.aload_n 2, 1) := by decide +kernel
theorem d_U_needAt_34 : decode b_U_needAt 34 = .ok (.iload 4, 2) := by decide +kernel
theorem d_U_needAt_36 : decode b_U_needAt 36 = .ok (.iaload, 1) := by decide +kernel
theorem d_U_needAt_37 : decode b_U_needAt 37 = .ok (.aload_n 0, 1) := by decide +kernel
theorem d_U_needAt_38 : decode b_U_needAt 38 = .ok (.getfield 15, 3) := by decide +kernel
theorem d_U_needAt_41 : decode b_U_needAt 41 = .ok (.iload 4, 2) := by decide +kernel
theorem d_U_needAt_43 : decode b_U_needAt 43 = .ok (.invokestatic 33, 3) := by decide +kernel
theorem d_U_needAt_46 : decode b_U_needAt 46 = .ok (.iadd, 1) := by decide +kernel
theorem d_U_needAt_47 : decode b_U_needAt 47 = .ok (.if_icmp .ge 15, 3) := by decide +kernel
theorem d_U_needAt_50 : decode b_U_needAt 50 = .ok (.iload_n 3, 1) := by decide +kernel
theorem d_U_needAt_51 : decode b_U_needAt 51 = .ok (.aload_n 0, 1) := by decide +kernel
theorem d_U_needAt_52 : decode b_U_needAt 52 = .ok (.getfield 19, 3) := by decide +kernel
theorem d_U_needAt_55 : decode b_U_needAt 55 = .ok (.iload 4, 2) := by decide +kernel
theorem d_U_needAt_57 : decode b_U_needAt 57 = .ok (.invokestatic 33, 3) := by decide +kernel
theorem d_U_needAt_60 : decode b_U_needAt 60 = .ok (.iadd, 1) := by decide +kernel
theorem d_U_needAt_61 : decode b_U_needAt 61 = .ok (.istore_n 3, 1) := by decide +kernel
theorem d_U_needAt_62 : decode b_U_needAt 62 = .ok (.iinc 4 1, 3) := by decide +kernel
theorem d_U_needAt_65 : decode b_U_needAt 65 = .ok (.goto (-60), 3) := by decide +kernel
theorem d_U_needAt_68 : decode b_U_needAt 68 = .ok (.iload_n 3, 1) := by decide +kernel
theorem d_U_needAt_69 : decode b_U_needAt 69 = .ok (.ireturn, 1) := by decide +kernel
theorem d_U_holdsAt_0 : decode b_U_holdsAt 0 = .ok (.iconst 0, 1) := by decide +kernel
theorem d_U_holdsAt_1 : decode b_U_holdsAt 1 = .ok (.istore_n 2, 1) := by decide +kernel
theorem d_U_holdsAt_2 : decode b_U_holdsAt 2 = .ok (.iload_n 2, 1) := by decide +kernel
theorem d_U_holdsAt_3 : decode b_U_holdsAt 3 = .ok (.bipush 8, 2) := by decide +kernel
theorem d_U_holdsAt_5 : decode b_U_holdsAt 5 = .ok (.if_icmp .ge 37, 3) := by decide +kernel
theorem d_U_holdsAt_8 : decode b_U_holdsAt 8 = .ok (.iload_n 2, 1) := by decide +kernel
theorem d_U_holdsAt_9 : decode b_U_holdsAt 9 = .ok (.aload_n 0, 1) := by decide +kernel
theorem d_U_holdsAt_10 : decode b_U_holdsAt 10 = .ok (.getfield 9, 3) := by decide +kernel
theorem d_U_holdsAt_13 : decode b_U_holdsAt 13 = .ok (.invokestatic 25, 3) := by decide +kernel
theorem d_U_holdsAt_16 : decode b_U_holdsAt 16 = .ok (.ifCond .eq 20, 3) := by decide +kernel
theorem d_U_holdsAt_19 : decode b_U_holdsAt 19 = .ok (.aload_n 0, 1) := by decide +kernel
theorem d_U_holdsAt_20 : decode b_U_holdsAt 20 = .ok (.aload_n 1, 1) := by decide +kernel
theorem d_U_holdsAt_21 : decode b_U_holdsAt 21 = .ok (.iload_n 2, 1) := by decide +kernel
theorem d_U_holdsAt_22 : decode b_U_holdsAt 22 = .ok (.iaload, 1) := by decide +kernel
theorem d_U_holdsAt_23 : decode b_U_holdsAt 23 = .ok (.aload_n 1, 1) := by decide +kernel
theorem d_U_holdsAt_24 : decode b_U_holdsAt 24 = .ok (.invokevirtual 29, 3) := by decide +kernel
theorem d_U_holdsAt_27 : decode b_U_holdsAt 27 = .ok (.aload_n 0, 1) := by decide +kernel
theorem d_U_holdsAt_28 : decode b_U_holdsAt 28 = .ok (.getfield 22, 3) := by decide +kernel
theorem d_U_holdsAt_31 : decode b_U_holdsAt 31 = .ok (.if_icmp .le 5, 3) := by decide +kernel
theorem d_U_holdsAt_34 : decode b_U_holdsAt 34 = .ok (.iconst 0, 1) := by decide +kernel
theorem d_U_holdsAt_35 : decode b_U_holdsAt 35 = .ok (.ireturn, 1) := by decide +kernel
theorem d_U_holdsAt_36 : decode b_U_holdsAt 36 = .ok (.iinc 2 1, 3) := by decide +kernel
theorem d_U_holdsAt_39 : decode b_U_holdsAt 39 = .ok (.goto (-37), 3) := by decide +kernel
theorem d_U_holdsAt_42 : decode b_U_holdsAt 42 = .ok (.iconst 1, 1) := by decide +kernel
theorem d_U_holdsAt_43 : decode b_U_holdsAt 43 = .ok (.ireturn, 1) := by decide +kernel
theorem d_C_partHolds_0 : decode b_C_partHolds 0 = .ok (.iload_n 1, 1) := by decide +kernel
theorem d_C_partHolds_1 : decode b_C_partHolds 1 = .ok (.iconst (-1), 1) := by decide +kernel
theorem d_C_partHolds_2 : decode b_C_partHolds 2 = .ok (.if_icmp .ne 5, 3) := by decide +kernel
theorem d_C_partHolds_5 : decode b_C_partHolds 5 = .ok (.iconst 0, 1) := by decide +kernel
theorem d_C_partHolds_6 : decode b_C_partHolds 6 = .ok (.ireturn, 1) := by decide +kernel
theorem d_C_partHolds_7 : decode b_C_partHolds 7 = .ok (.iload_n 3, 1) := by decide +kernel
theorem d_C_partHolds_8 : decode b_C_partHolds 8 = .ok (.aload_n 0, 1) := by decide +kernel
theorem d_C_partHolds_9 : decode b_C_partHolds 9 = .ok (.getfield 30, 3) := by decide +kernel
theorem d_C_partHolds_12 : decode b_C_partHolds 12 = .ok (.invokestatic 37, 3) := by decide +kernel
theorem d_C_partHolds_15 : decode b_C_partHolds 15 = .ok (.ifCond .eq 19, 3) := by decide +kernel
theorem d_C_partHolds_18 : decode b_C_partHolds 18 = .ok (.aload 4, 2) := by decide +kernel
theorem d_C_partHolds_20 : decode b_C_partHolds 20 = .ok (.iload_n 1, 1) := by decide +kernel
theorem d_C_partHolds_21 : decode b_C_partHolds 21 = .ok (.iaload, 1) := by decide +kernel
theorem d_C_partHolds_22 : decode b_C_partHolds 22 = .ok (.iload_n 2, 1) := by decide +kernel
theorem d_C_partHolds_23 : decode b_C_partHolds 23 = .ok (.if_icmp .lt 7, 3) := by decide +kernel
theorem d_C_partHolds_26 : decode b_C_partHolds 26 = .ok (.iconst 1, 1) := by decide +kernel
theorem d_C_partHolds_27 : decode b_C_partHolds 27 = .ok (.goto 20, 3) := by decide +kernel
theorem d_C_partHolds_30 : decode b_C_partHolds 30 = .ok (.iconst 0, 1) := by decide +kernel
theorem d_C_partHolds_31 : decode b_C_partHolds 31 = .ok (.goto 16, 3) := by decide +kernel
theorem d_C_partHolds_34 : decode b_C_partHolds 34 = .ok (.aload 4, 2) := by decide +kernel
theorem d_C_partHolds_36 : decode b_C_partHolds 36 = .ok (.iload_n 1, 1) := by decide +kernel
theorem d_C_partHolds_37 : decode b_C_partHolds 37 = .ok (.iaload, 1) := by decide +kernel
theorem d_C_partHolds_38 : decode b_C_partHolds 38 = .ok (.iload_n 2, 1) := by decide +kernel
theorem d_C_partHolds_39 : decode b_C_partHolds 39 = .ok (.if_icmp .gt 7, 3) := by decide +kernel
theorem d_C_partHolds_42 : decode b_C_partHolds 42 = .ok (.iconst 1, 1) := by decide +kernel
theorem d_C_partHolds_43 : decode b_C_partHolds 43 = .ok (.goto 4, 3) := by decide +kernel
theorem d_C_partHolds_46 : decode b_C_partHolds 46 = .ok (.iconst 0, 1) := by decide +kernel
theorem d_C_partHolds_47 : decode b_C_partHolds 47 = .ok (.ireturn, 1) := by decide +kernel
theorem d_C_holdsAt_0 : decode b_C_holdsAt 0 = .ok (.aload_n 0, 1) := by decide +kernel
theorem d_C_holdsAt_1 : decode b_C_holdsAt 1 = .ok (.aload_n 0, 1) := by decide +kernel
theorem d_C_holdsAt_2 : decode b_C_holdsAt 2 = .ok (.getfield 9, 3) := by decide +kernel
theorem d_C_holdsAt_5 : decode b_C_holdsAt 5 = .ok (.aload_n 0, 1) := by decide +kernel
theorem d_C_holdsAt_6 : decode b_C_holdsAt 6 = .ok (.getfield 15, 3) := by decide +kernel
theorem d_C_holdsAt_9 : decode b_C_holdsAt 9 = .ok (.iconst 0, 1) := by decide +kernel
theorem d_C_holdsAt_10 : decode b_C_holdsAt 10 = .ok (.aload_n 1, 1) := by decide +kernel
theorem d_C_holdsAt_11 : decode b_C_holdsAt 11 = .ok (.invokevirtual 33, 3) := by decide +kernel
theorem d_C_holdsAt_14 : decode b_C_holdsAt 14 = .ok (.ifCond .ne 37, 3) := by decide +kernel
theorem d_C_holdsAt_17 : decode b_C_holdsAt 17 = .ok (.aload_n 0, 1) := by decide +kernel
theorem d_C_holdsAt_18 : decode b_C_holdsAt 18 = .ok (.aload_n 0, 1) := by decide +kernel
theorem d_C_holdsAt_19 : decode b_C_holdsAt 19 = .ok (.getfield 18, 3) := by decide +kernel
theorem d_C_holdsAt_22 : decode b_C_holdsAt 22 = .ok (.aload_n 0, 1) := by decide +kernel
theorem d_C_holdsAt_23 : decode b_C_holdsAt 23 = .ok (.getfield 21, 3) := by decide +kernel
theorem d_C_holdsAt_26 : decode b_C_holdsAt 26 = .ok (.iconst 1, 1) := by decide +kernel
theorem d_C_holdsAt_27 : decode b_C_holdsAt 27 = .ok (.aload_n 1, 1) := by decide +kernel
theorem d_C_holdsAt_28 : decode b_C_holdsAt 28 = .ok (.invokevirtual 33, 3) := by decide +kernel
theorem d_C_holdsAt_31 : decode b_C_holdsAt 31 = .ok (.ifCond .ne 20, 3) := by decide +kernel
theorem d_C_holdsAt_34 : decode b_C_holdsAt 34 = .ok (.aload_n 0, 1) := by decide +kernel
theorem d_C_holdsAt_35 : decode b_C_holdsAt 35 = .ok (.aload_n 0, 1) := by decide +kernel
theorem d_C_holdsAt_36 : decode b_C_holdsAt 36 = .ok (.getfield 24, 3) := by decide +kernel
theorem d_C_holdsAt_39 : decode b_C_holdsAt 39 = .ok (.aload_n 0, 1) := by decide +kernel
theorem d_C_holdsAt_40 : decode b_C_holdsAt 40 = .ok (.getfield 27, 3) := by decide +kernel
theorem d_C_holdsAt_43 : decode b_C_holdsAt 43 = .ok (.iconst 2, 1) := by decide +kernel
theorem d_C_holdsAt_44 : decode b_C_holdsAt 44 = .ok (.aload_n 1, 1) := by decide +kernel
theorem d_C_holdsAt_45 : decode b_C_holdsAt 45 = .ok (.invokevirtual 33, 3) := by decide +kernel
theorem d_C_holdsAt_48 : decode b_C_holdsAt 48 = .ok (.ifCond .eq 7, 3) := by decide +kernel
theorem d_C_holdsAt_51 : decode b_C_holdsAt 51 = .ok (.iconst 1, 1) := by decide +kernel
theorem d_C_holdsAt_52 : decode b_C_holdsAt 52 = .ok (.goto 4, 3) := by decide +kernel
theorem d_C_holdsAt_55 : decode b_C_holdsAt 55 = .ok (.iconst 0, 1) := by decide +kernel
theorem d_C_holdsAt_56 : decode b_C_holdsAt 56 = .ok (.ireturn, 1) := by decide +kernel
end
