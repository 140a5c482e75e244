section
theorem d_JR_init_0 : decode b_JR_init 0 = .ok (.aload_n 0, 1) := by decide +kernel
theorem d_JR_init_1 : decode b_JR_init 1 = .ok (.invokespecial 1, 3) := by decide +kernel
theorem d_JR_init_4 : decode b_JR_init 4 = .ok (.return_, 1) := by decide +kernel
theorem d_L_init_0 : decode b_L_init 0 = .ok (.aload_n 0, 1) := by decide +kernel
theorem d_L_init_1 : decode b_L_init 1 = .ok (.invokespecial 3, 3) := by decide +kernel
theorem d_L_init_4 : decode b_L_init 4 = .ok (.aload_n 0, 1) := by decide +kernel
theorem d_L_init_5 : decode b_L_init 5 = .ok (.iload_n 1, 1) := by decide +kernel
theorem d_L_init_6 : decode b_L_init 6 = .ok (.putfield 9, 3) := by decide +kernel
theorem d_L_init_9 : decode b_L_init 9 = .ok (.aload_n 0, 1) := by decide +kernel
theorem d_L_init_10 : decode b_L_init 10 = .ok (.iload_n 2, 1) := by decide +kernel
theorem d_L_init_11 : decode b_L_init 11 = .ok (.putfield 15, 3) := by decide +kernel
theorem d_L_init_14 : decode b_L_init 14 = .ok (.aload_n 0, 1) := by decide +kernel
theorem d_L_init_15 : decode b_L_init 15 = .ok (.iload_n 3, 1) := by decide +kernel
theorem d_L_init_16 : decode b_L_init 16 = .ok (.putfield 18, 3) := by decide +kernel
theorem d_L_init_19 : decode b_L_init 19 = .ok (.aload_n 0, 1) := by decide +kernel
theorem d_L_init_20 : decode b_L_init 20 = .ok (.iload 4, 2) := by decide +kernel
theorem d_L_init_22 : decode b_L_init 22 = .ok (.putfield 21, 3) := by decide +kernel
theorem d_L_init_25 : decode b_L_init 25 = .ok (.aload_n 0, 1) := by decide +kernel
theorem d_L_init_26 : decode b_L_init 26 = .ok (.iload 5, 2) := by decide +kernel
theorem d_L_init_28 : decode b_L_init 28 = .ok (.putfield 24, 3) := by decide +kernel
theorem d_L_init_31 : decode b_L_init 31 = .ok (.aload_n 0, 1) := by decide +kernel
theorem d_L_init_32 : decode b_L_init 32 = .ok (.iload 6, 2) := by decide +kernel
theorem d_L_init_34 : decode b_L_init 34 = .ok (.putfield 27, 3) := by decide +kernel
theorem d_L_init_37 : decode b_L_init 37 = .ok (.aload_n 0, 1) := by decide +kernel
theorem d_L_init_38 : decode b_L_init 38 = .ok (.iload 7, 2) := by decide +kernel
theorem d_L_init_40 : decode b_L_init 40 = .ok (.putfield 30, 3) := by decide +kernel
theorem d_L_init_43 : decode b_L_init 43 = .ok (.return_, 1) := by decide +kernel
theorem d_R_init_0 : decode b_R_init 0 = .ok (.aload_n 0, 1) := by decide +kernel
theorem d_R_init_1 : decode b_R_init 1 = .ok (.invokespecial 1, 3) := by decide +kernel
theorem d_R_init_4 : decode b_R_init 4 = .ok (.aload_n 0, 1) := by decide +kernel
theorem d_R_init_5 : decode b_R_init 5 = .ok (.iload_n 1, 1) := by decide +kernel
theorem d_R_init_6 : decode b_R_init 6 = .ok (.putfield 7, 3) := by decide +kernel
theorem d_R_init_9 : decode b_R_init 9 = .ok (.aload_n 0, 1) := by decide +kernel
theorem d_R_init_10 : decode b_R_init 10 = .ok (.iload_n 2, 1) := by decide +kernel
theorem d_R_init_11 : decode b_R_init 11 = .ok (.putfield 13, 3) := by decide +kernel
theorem d_R_init_14 : decode b_R_init 14 = .ok (.aload_n 0, 1) := by decide +kernel
theorem d_R_init_15 : decode b_R_init 15 = .ok (.iload_n 3, 1) := by decide +kernel
theorem d_R_init_16 : decode b_R_init 16 = .ok (.putfield 16, 3) := by decide +kernel
theorem d_R_init_19 : decode b_R_init 19 = .ok (.aload_n 0, 1) := by decide +kernel
theorem d_R_init_20 : decode b_R_init 20 = .ok (.iload 4, 2) := by decide +kernel
theorem d_R_init_22 : decode b_R_init 22 = .ok (.putfield 19, 3) := by decide +kernel
theorem d_R_init_25 : decode b_R_init 25 = .ok (.return_, 1) := by decide +kernel
theorem d_M_init_0 : decode b_M_init 0 = .ok (.aload_n 0, 1) := by decide +kernel
theorem d_M_init_1 : decode b_M_init 1 = .ok (.invokespecial 3, 3) := by decide +kernel
theorem d_M_init_4 : decode b_M_init 4 = .ok (.aload_n 0, 1) := by decide +kernel
theorem d_M_init_5 : decode b_M_init 5 = .ok (.iload_n 1, 1) := by decide +kernel
theorem d_M_init_6 : decode b_M_init 6 = .ok (.putfield 9, 3) := by decide +kernel
theorem d_M_init_9 : decode b_M_init 9 = .ok (.aload_n 0, 1) := by decide +kernel
theorem d_M_init_10 : decode b_M_init 10 = .ok (.iload_n 2, 1) := by decide +kernel
theorem d_M_init_11 : decode b_M_init 11 = .ok (.putfield 15, 3) := by decide +kernel
theorem d_M_init_14 : decode b_M_init 14 = .ok (.aload_n 0, 1) := by decide +kernel
theorem d_M_init_15 : decode b_M_init 15 = .ok (.iload_n 3, 1) := by decide +kernel
theorem d_M_init_16 : decode b_M_init 16 = .ok (.putfield 18, 3) := by decide +kernel
theorem d_M_init_19 : decode b_M_init 19 = .ok (.aload_n 0, 1) := by decide +kernel
theorem d_M_init_20 : decode b_M_init 20 = .ok (.iload 4, 2) := by decide +kernel
theorem d_M_init_22 : decode b_M_init 22 = .ok (.putfield 21, 3) := by decide +kernel
theorem d_M_init_25 : decode b_M_init 25 = .ok (.return_, 1) := by decide +kernel
theorem d_E_init_0 : decode b_E_init 0 = .ok (.aload_n 0, 1) := by decide +kernel
theorem d_E_init_1 : decode b_E_init 1 = .ok (.invokespecial 1, 3) := by decide +kernel
theorem d_E_init_4 : decode b_E_init 4 = .ok (.aload_n 0, 1) := by decide +kernel
theorem d_E_init_5 : decode b_E_init 5 = .ok (.iload_n 1, 1) := by decide +kernel
theorem d_E_init_6 : decode b_E_init 6 = .ok (.putfield 7, 3) := by decide +kernel
theorem d_E_init_9 : decode b_E_init 9 = .ok (.aload_n 0, 1) := by decide +kernel
theorem d_E_init_10 : decode b_E_init 10 = .ok (.iload_n 2, 1) := by decide +kernel
theorem d_E_init_11 : decode b_E_init 11 = .ok (.putfield 13, 3) := by decide +kernel
theorem d_E_init_14 : decode b_E_init 14 = .ok (.aload_n 0, 1) := by decide +kernel
theorem d_E_init_15 : decode b_E_init 15 = .ok (.lload_n 3, 1) := by decide +kernel
theorem d_E_init_16 : decode b_E_init 16 = .ok (.putfield 16, 3) := by decide +kernel
theorem d_E_init_19 : decode b_E_init 19 = .ok (.return_, 1) := by decide +kernel
theorem d_D_init_0 : decode b_D_init 0 = .ok (.aload_n 0, 1) := by decide +kernel
theorem d_D_init_1 : decode b_D_init 1 = .ok (.invokespecial 3, 3) := by decide +kernel
theorem d_D_init_4 : decode b_D_init 4 = .ok (.aload_n 0, 1) := by decide +kernel
theorem d_D_init_5 : decode b_D_init 5 = .ok (.iload_n 1, 1) := by decide +kernel
theorem d_D_init_6 : decode b_D_init 6 = .ok (.putfield 9, 3) := by decide +kernel
theorem d_D_init_9 : decode b_D_init 9 = .ok (.return_, 1) := by decide +kernel
theorem d_U_init_0 : decode b_U_init 0 = .ok (.aload_n 0, 1) := by decide +kernel
theorem d_U_init_1 : decode b_U_init 1 = .ok (.invokespecial 3, 3) := by decide +kernel
theorem d_U_init_4 : decode b_U_init 4 = .ok (.aload_n 0, 1) := by decide +kernel
theorem d_U_init_5 : decode b_U_init 5 = .ok (.iload_n 1, 1) := by decide +kernel
theorem d_U_init_6 : decode b_U_init 6 = .ok (.putfield 9, 3) := by decide +kernel
theorem d_U_init_9 : decode b_U_init 9 = .ok (.aload_n 0, 1) := by decide +kernel
theorem d_U_init_10 : decode b_U_init 10 = .ok (.lload_n 2, 1) := by decide +kernel
theorem d_U_init_11 : decode b_U_init 11 = .ok (.putfield 15, 3) := by decide +kernel
theorem d_U_init_14 : decode b_U_init 14 = .ok (.aload_n 0, 1) := by decide +kernel
theorem d_U_init_15 : decode b_U_init 15 = .ok (.lload 4, 2) := by decide +kernel
theorem d_U_init_17 : decode b_U_init 17 = .ok (.putfield 19, 3) := by decide +kernel
theorem d_U_init_20 : decode b_U_init 20 = .ok (.aload_n 0, 1) := by decide +kernel
theorem d_U_init_21 : decode b_U_init 21 = .ok (.iload 6, 2) := by decide +kernel
theorem d_U_init_23 : decode b_U_init 23 = .ok (.putfield 22, 3) := by decide +kernel
theorem d_U_init_26 : decode b_U_init 26 = .ok (.return_, 1) := by decide +kernel
theorem d_C_init_0 : decode b_C_init 0 = .ok (.aload_n 0, 1) := by decide +kernel
theorem d_C_init_1 : decode b_C_init 1 = .ok (.invokespecial 3, 3) := by decide +kernel
theorem d_C_init_4 : decode b_C_init 4 = .ok (.aload_n 0, 1) := by decide +kernel
theorem d_C_init_5 : decode b_C_init 5 = .ok (.iload_n 1, 1) := by decide +kernel
theorem d_C_init_6 : decode b_C_init 6 = .ok (.putfield 9, 3) := by decide +kernel
theorem d_C_init_9 : decode b_C_init 9 = .ok (.aload_n 0, 1) := by decide +kernel
theorem d_C_init_10 : decode b_C_init 10 = .ok (.iload_n 2, 1) := by decide +kernel
theorem d_C_init_11 : decode b_C_init 11 = .ok (.putfield 15, 3) := by decide +kernel
theorem d_C_init_14 : decode b_C_init 14 = .ok (.aload_n 0, 1) := by decide +kernel
theorem d_C_init_15 : decode b_C_init 15 = .ok (.iload_n 3, 1) := by decide +kernel
theorem d_C_init_16 : decode b_C_init 16 = .ok (.putfield 18, 3) := by decide +kernel
theorem d_C_init_19 : decode b_C_init 19 = .ok (.aload_n 0, 1) := by decide +kernel
theorem d_C_init_20 : decode b_C_init 20 = .ok (.iload 4, 2) := by decide +kernel
theorem d_C_init_22 : decode b_C_init 22 = .ok (.putfield 21, 3) := by decide +kernel
theorem d_C_init_25 : decode b_C_init 25 = .ok (.aload_n 0, 1) := by decide +kernel
theorem d_C_init_26 : decode b_C_init 26 = .ok (.iload 5, 2) := by decide +kernel
theorem d_C_init_28 : decode b_C_init 28 = .ok (.putfield 24, 3) := by decide +kernel
theorem d_C_init_31 : decode b_C_init 31 = .ok (.aload_n 0, 1) := by decide +kernel
theorem d_C_init_32 : decode b_C_init 32 = .ok (.iload 6, 2) := by decide +kernel
theorem d_C_init_34 : decode b_C_init 34 = .ok (.putfield 27, 3) := by decide +kernel
theorem d_C_init_37 : decode b_C_init 37 = .ok (.aload_n 0, 1) := by decide +kernel
theorem d_C_init_38 : decode b_C_init 38 = .ok (.iload 7, 2) := by decide +kernel
theorem d_C_init_40 : decode b_C_init 40 = .ok (.putfield 30, 3) := by decide +kernel
theorem d_C_init_43 : decode b_C_init 43 = .ok (.return_, 1) := by decide +kernel
theorem d_L_product_0 : decode b_L_product 0 = .ok (.iload_n 1, 1) := by decide +kernel
theorem d_L_product_1 : decode b_L_product 1 = .ok (.iconst (-1), 1) := by decide +kernel
theorem d_L_product_2 : decode b_L_product 2 = .ok (.if_icmp .ne 7, 3) := by decide +kernel
theorem d_L_product_5 : decode b_L_product 5 = .ok (.iconst 0, 1) := by decide +kernel
theorem d_L_product_6 : decode b_L_product 6 = .ok (.goto 8, 3) := by decide +kernel
theorem d_L_product_9 : decode b_L_product 9 = .ok (.iload_n 0, 1) := by decide +kernel
theorem d_L_product_10 : decode b_L_product 10 = .ok (.aload_n 2, 1) := by decide +kernel
theorem d_L_product_11 : decode b_L_product 11 = .ok (.iload_n 1, 1) := by decide +kernel
theorem d_L_product_12 : decode b_L_product 12 = .ok (.iaload, 1) := by decide +kernel
theorem d_L_product_13 : decode b_L_product 13 = .ok (.imul, 1) := by decide +kernel
theorem d_L_product_14 : decode b_L_product 14 = .ok (.ireturn, 1) := by decide +kernel
theorem d_L_holdsAt_0 : decode b_L_holdsAt 0 = .ok (.aload_n 0, 1) := by decide +kernel
theorem d_L_holdsAt_1 : decode b_L_holdsAt 1 = .ok (.getfield 15, 3) := by decide +kernel
theorem d_L_holdsAt_4 : decode b_L_holdsAt 4 = .ok (.aload_n 0, 1) := by decide +kernel
theorem d_L_holdsAt_5 : decode b_L_holdsAt 5 = .ok (.getfield 9, 3) := by decide +kernel
theorem d_L_holdsAt_8 : decode b_L_holdsAt 8 = .ok (.aload_n 1, 1) := by decide +kernel
theorem d_L_holdsAt_9 : decode b_L_holdsAt 9 = .ok (.invokestatic 33, 3) := by decide +kernel
theorem d_L_holdsAt_12 : decode b_L_holdsAt 12 = .ok (.aload_n 0, 1) := by decide +kernel
theorem d_L_holdsAt_13 : decode b_L_holdsAt 13 = .ok (.getfield 21, 3) := by decide +kernel
theorem d_L_holdsAt_16 : decode b_L_holdsAt 16 = .ok (.aload_n 0, 1) := by decide +kernel
theorem d_L_holdsAt_17 : decode b_L_holdsAt 17 = .ok (.getfield 18, 3) := by decide +kernel
theorem d_L_holdsAt_20 : decode b_L_holdsAt 20 = .ok (.aload_n 1, 1) := by decide +kernel
theorem d_L_holdsAt_21 : decode b_L_holdsAt 21 = .ok (.invokestatic 33, 3) := by decide +kernel
theorem d_L_holdsAt_24 : decode b_L_holdsAt 24 = .ok (.iadd, 1) := by decide +kernel
theorem d_L_holdsAt_25 : decode b_L_holdsAt 25 = .ok (.aload_n 0, 1) := by decide +kernel
theorem d_L_holdsAt_26 : decode b_L_holdsAt 26 = .ok (.getfield 27, 3) := by decide +kernel
theorem d_L_holdsAt_29 : decode b_L_holdsAt 29 = .ok (.aload_n 0, 1) := by decide +kernel
theorem d_L_holdsAt_30 : decode b_L_holdsAt 30 = .ok (.getfield 24, 3) := by decide +kernel
theorem d_L_holdsAt_33 : decode b_L_holdsAt 33 = .ok (.aload_n 1, 1) := by decide +kernel
theorem d_L_holdsAt_34 : decode b_L_holdsAt 34 = .ok (.invokestatic 33, 3) := by decide +kernel
theorem d_L_holdsAt_37 : decode b_L_holdsAt 37 = .ok (.iadd, 1) := by decide +kernel
theorem d_L_holdsAt_38 : decode b_L_holdsAt 38 = .ok (.aload_n 0, 1) := by decide +kernel
theorem d_L_holdsAt_39 : decode b_L_holdsAt 39 = .ok (.getfield 30, 3) := by decide +kernel
theorem d_L_holdsAt_42 : decode b_L_holdsAt 42 = .ok (.if_icmp .gt 7, 3) := by decide +kernel
theorem d_L_holdsAt_45 : decode b_L_holdsAt 45 = .ok (.iconst 1, 1) := by decide +kernel
theorem d_L_holdsAt_46 : decode b_L_holdsAt 46 = .ok (.goto 4, 3) := by decide +kernel
theorem d_L_holdsAt_49 : decode b_L_holdsAt 49 = .ok (.iconst 0, 1) := by decide +kernel
theorem d_L_holdsAt_50 : decode b_L_holdsAt 50 = .ok (.ireturn, 1) := by decide +kernel
theorem d_R_holdsAt_0 : decode b_R_holdsAt 0 = .ok (.aload_n 1, 1) := by decide +kernel
theorem d_R_holdsAt_1 : decode b_R_holdsAt 1 = .ok (.aload_n 0, 1) := by decide +kernel
theorem d_R_holdsAt_2 : decode b_R_holdsAt 2 = .ok (.getfield 7, 3) := by decide +kernel
theorem d_R_holdsAt_5 : decode b_R_holdsAt 5 = .ok (.iaload, 1) := by decide +kernel
theorem d_R_holdsAt_6 : decode b_R_holdsAt 6 = .ok (.iconst 1, 1) := by decide +kernel
theorem d_R_holdsAt_7 : decode b_R_holdsAt 7 = .ok (.if_icmp .lt 7, 3) := by decide +kernel
theorem d_R_holdsAt_10 : decode b_R_holdsAt 10 = .ok (.iconst 1, 1) := by decide +kernel
theorem d_R_holdsAt_11 : decode b_R_holdsAt 11 = .ok (.goto 4, 3) := by decide +kernel
theorem d_R_holdsAt_14 : decode b_R_holdsAt 14 = .ok (.iconst 0, 1) := by decide +kernel
theorem d_R_holdsAt_15 : decode b_R_holdsAt 15 = .ok (.aload_n 1, 1) := by decide +kernel
theorem d_R_holdsAt_16 : decode b_R_holdsAt 16 = .ok (.aload_n 0, 1) := by decide +kernel
theorem d_R_holdsAt_17 : decode b_R_holdsAt 17 = .ok (.getfield 13, 3) := by decide +kernel
theorem d_R_holdsAt_20 : decode b_R_holdsAt 20 = .ok (.iaload, 1) := by decide +kernel
theorem d_R_holdsAt_21 : decode b_R_holdsAt 21 = .ok (.aload_n 1, 1) := by decide +kernel
theorem d_R_holdsAt_22 : decode b_R_holdsAt 22 = .ok (.aload_n 0, 1) := by decide +kernel
theorem d_R_holdsAt_23 : decode b_R_holdsAt 23 = .ok (.getfield 16, 3) := by decide +kernel
theorem d_R_holdsAt_26 : decode b_R_holdsAt 26 = .ok (.iaload, 1) := by decide +kernel
theorem d_R_holdsAt_27 : decode b_R_holdsAt 27 = .ok (.aload_n 0, 1) := by decide +kernel
theorem d_R_holdsAt_28 : decode b_R_holdsAt 28 = .ok (.getfield 19, 3) := by decide +kernel
theorem d_R_holdsAt_31 : decode b_R_holdsAt 31 = .ok (.iadd, 1) := by decide +kernel
theorem d_R_holdsAt_32 : decode b_R_holdsAt 32 = .ok (.if_icmp .gt 7, 3) := by decide +kernel
theorem d_R_holdsAt_35 : decode b_R_holdsAt 35 = .ok (.iconst 1, 1) := by decide +kernel
theorem d_R_holdsAt_36 : decode b_R_holdsAt 36 = .ok (.goto 4, 3) := by decide +kernel
theorem d_R_holdsAt_39 : decode b_R_holdsAt 39 = .ok (.iconst 0, 1) := by decide +kernel
theorem d_R_holdsAt_40 : decode b_R_holdsAt 40 = .ok (.if_icmp .ne 7, 3) := by decide +kernel
theorem d_R_holdsAt_43 : decode b_R_holdsAt 43 = .ok (.iconst 1, 1) := by decide +kernel
theorem d_R_holdsAt_44 : decode b_R_holdsAt 44 = .ok (.goto 4, 3) := by decide +kernel
theorem d_R_holdsAt_47 : decode b_R_holdsAt 47 = .ok (.iconst 0, 1) := by decide +kernel
theorem d_R_holdsAt_48 : decode b_R_holdsAt 48 = .ok (.ireturn, 1) := by decide +kernel
theorem d_M_holdsAt_0 : decode b_M_holdsAt 0 = .ok (.aload_n 1, 1) := by decide +kernel
theorem d_M_holdsAt_1 : decode b_M_holdsAt 1 = .ok (.aload_n 0, 1) := by decide +kernel
theorem d_M_holdsAt_2 : decode b_M_holdsAt 2 = .ok (.getfield 15, 3) := by decide +kernel
theorem d_M_holdsAt_5 : decode b_M_holdsAt 5 = .ok (.iaload, 1) := by decide +kernel
theorem d_M_holdsAt_6 : decode b_M_holdsAt 6 = .ok (.istore_n 2, 1) := by decide +kernel
theorem d_M_holdsAt_7 : decode b_M_holdsAt 7 = .ok (.aload_n 0, 1) := by decide +kernel
theorem d_M_holdsAt_8 : decode b_M_holdsAt 8 = .ok (.getfield 18, 3) := by decide +kernel
theorem d_M_holdsAt_11 : decode b_M_holdsAt 11 = .ok (.iconst (-1), 1) := by decide +kernel
theorem d_M_holdsAt_12 : decode b_M_holdsAt 12 = .ok (.if_icmp .eq 14, 3) := by decide +kernel
theorem d_M_holdsAt_15 : decode b_M_holdsAt 15 = .ok (.iload_n 2, 1) := by decide +kernel
theorem d_M_holdsAt_16 : decode b_M_holdsAt 16 = .ok (.aload_n 1, 1) := by decide +kernel
theorem d_M_holdsAt_17 : decode b_M_holdsAt 17 = .ok (.aload_n 0, 1) := by decide +kernel
theorem d_M_holdsAt_18 : decode b_M_holdsAt 18 = .ok (.getfield 18, 3) := by decide +kernel
theorem d_M_holdsAt_21 : decode b_M_holdsAt 21 = .ok (.iaload, 1) := by decide +kernel
theorem d_M_holdsAt_22 : decode b_M_holdsAt 22 = .ok (.invokestatic 24, 3) := by decide +kernel
theorem d_M_holdsAt_25 : decode b_M_holdsAt 25 = .ok (.istore_n 2, 1) := by decide +kernel
theorem d_M_holdsAt_26 : decode b_M_holdsAt 26 = .ok (.aload_n 0, 1) := by decide +kernel
theorem d_M_holdsAt_27 : decode b_M_holdsAt 27 = .ok (.getfield 21, 3) := by decide +kernel
theorem d_M_holdsAt_30 : decode b_M_holdsAt 30 = .ok (.iconst (-1), 1) := by decide +kernel
theorem d_M_holdsAt_31 : decode b_M_holdsAt 31 = .ok (.if_icmp .eq 14, 3) := by decide +kernel
theorem d_M_holdsAt_34 : decode b_M_holdsAt 34 = .ok (.iload_n 2, 1) := by decide +kernel
theorem d_M_holdsAt_35 : decode b_M_holdsAt 35 = .ok (.aload_n 1, 1) := by decide +kernel
theorem d_M_holdsAt_36 : decode b_M_holdsAt 36 = .ok (.aload_n 0, 1) := by decide +kernel
theorem d_M_holdsAt_37 : decode b_M_holdsAt 37 = .ok (.getfield 21, 3) := by decide +kernel
theorem d_M_holdsAt_40 : decode b_M_holdsAt 40 = .ok (.iaload, 1) := by decide +kernel
theorem d_M_holdsAt_41 : decode b_M_holdsAt 41 = .ok (.invokestatic 24, 3) := by decide +kernel
theorem d_M_holdsAt_44 : decode b_M_holdsAt 44 = .ok (.istore_n 2, 1) := by decide +kernel
theorem d_M_holdsAt_45 : decode b_M_holdsAt 45 = .ok (.aload_n 1, 1) := by decide +kernel
theorem d_M_holdsAt_46 : decode b_M_holdsAt 46 = .ok (.aload_n 0, 1) := by decide +kernel
theorem d_M_holdsAt_47 : decode b_M_holdsAt 47 = .ok (.getfield 9, 3) := by decide +kernel
theorem d_M_holdsAt_50 : decode b_M_holdsAt 50 = .ok (.iaload, 1) := by decide +kernel
theorem d_M_holdsAt_51 : decode b_M_holdsAt 51 = .ok (.iload_n 2, 1) := by decide +kernel
theorem d_M_holdsAt_52 : decode b_M_holdsAt 52 = .ok (.if_icmp .ne 7, 3) := by decide +kernel
theorem d_M_holdsAt_55 : decode b_M_holdsAt 55 = .ok (.iconst 1, 1) := by decide +kernel
theorem d_M_holdsAt_56 : decode b_M_holdsAt 56 = .ok (.goto 4, 3) := by decide +kernel
theorem d_M_holdsAt_59 : decode b_M_holdsAt 59 = .ok (.iconst 0, 1) := by decide +kernel
theorem d_M_holdsAt_60 : decode b_M_holdsAt 60 = .ok (.ireturn, 1) := by decide +kernel
theorem d_E_holdsAt_0 : decode b_E_holdsAt 0 = .ok (.aload_n 1, 1) := by decide +kernel
theorem d_E_holdsAt_1 : decode b_E_holdsAt 1 = .ok (.aload_n 0, 1) := by decide +kernel
theorem d_E_holdsAt_2 : decode b_E_holdsAt 2 = .ok (.getfield 13, 3) := by decide +kernel
theorem d_E_holdsAt_5 : decode b_E_holdsAt 5 = .ok (.iaload, 1) := by decide +kernel
theorem d_E_holdsAt_6 : decode b_E_holdsAt 6 = .ok (.ifCond .lt 43, 3) := by decide +kernel
theorem d_E_holdsAt_9 : decode b_E_holdsAt 9 = .ok (.aload_n 1, 1) := by decide +kernel
theorem d_E_holdsAt_10 : decode b_E_holdsAt 10 = .ok (.aload_n 0, 1) := by decide +kernel
theorem d_E_holdsAt_11 : decode b_E_holdsAt 11 = .ok (.getfield 13, 3) := by decide +kernel
theorem d_E_holdsAt_14 : decode b_E_holdsAt 14 = .ok (.iaload, 1) := by decide +kernel
theorem d_E_holdsAt_15 : decode b_E_holdsAt 15 = .ok (.bipush 7, 2) := by decide +kernel
theorem d_E_holdsAt_17 : decode b_E_holdsAt 17 = .ok (.if_icmp .gt 32, 3) := by decide +kernel
theorem d_E_holdsAt_20 : decode b_E_holdsAt 20 = .ok (.aload_n 1, 1) := by decide +kernel
theorem d_E_holdsAt_21 : decode b_E_holdsAt 21 = .ok (.aload_n 0, 1) := by decide +kernel
theorem d_E_holdsAt_22 : decode b_E_holdsAt 22 = .ok (.getfield 7, 3) := by decide +kernel
theorem d_E_holdsAt_25 : decode b_E_holdsAt 25 = .ok (.iaload, 1) := by decide +kernel
theorem d_E_holdsAt_26 : decode b_E_holdsAt 26 = .ok (.aload_n 0, 1) := by decide +kernel
theorem d_E_holdsAt_27 : decode b_E_holdsAt 27 = .ok (.getfield 16, 3) := by decide +kernel
theorem d_E_holdsAt_30 : decode b_E_holdsAt 30 = .ok (.bipush 8, 2) := by decide +kernel
theorem d_E_holdsAt_32 : decode b_E_holdsAt 32 = .ok (.aload_n 1, 1) := by decide +kernel
theorem d_E_holdsAt_33 : decode b_E_holdsAt 33 = .ok (.aload_n 0, 1) := by decide +kernel
theorem d_E_holdsAt_34 : decode b_E_holdsAt 34 = .ok (.getfield 13, 3) := by decide +kernel
theorem d_E_holdsAt_37 : decode b_E_holdsAt 37 = .ok (.iaload, 1) := by decide +kernel
theorem d_E_holdsAt_38 : decode b_E_holdsAt 38 = .ok (.imul, 1) := by decide +kernel
theorem d_E_holdsAt_39 : decode b_E_holdsAt 39 = .ok (.lshr, 1) := by decide +kernel
theorem d_E_holdsAt_40 : decode b_E_holdsAt 40 = .ok (.l2i, 1) := by decide +kernel
theorem d_E_holdsAt_41 : decode b_E_holdsAt 41 = .ok (.i2b, 1) := by decide +kernel
theorem d_E_holdsAt_42 : decode b_E_holdsAt 42 = .ok (.if_icmp .ne 7, 3) := by decide +kernel
theorem d_E_holdsAt_45 : decode b_E_holdsAt 45 = .ok (.iconst 1, 1) := by decide +kernel
theorem d_E_holdsAt_46 : decode b_E_holdsAt 46 = .ok (.goto 4, 3) := by decide +kernel
theorem d_E_holdsAt_49 : decode b_E_holdsAt 49 = .ok (.iconst 0, 1) := by decide +kernel
theorem d_E_holdsAt_50 : decode b_E_holdsAt 50 = .ok (.ireturn, 1) := by decide +kernel
theorem d_D_holdsAt_0 : decode b_D_holdsAt 0 = .ok (.lconst 0, 1) := by decide +kernel
end
