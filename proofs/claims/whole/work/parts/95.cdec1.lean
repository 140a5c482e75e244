section
theorem d_JA_fill_0 : decode b_JA_fill 0 = .ok (.iconst 0, 1) := by decide +kernel
theorem d_JA_fill_1 : decode b_JA_fill 1 = .ok (.istore_n 2, 1) := by decide +kernel
theorem d_JA_fill_2 : decode b_JA_fill 2 = .ok (.aload_n 0, 1) := by decide +kernel
theorem d_JA_fill_3 : decode b_JA_fill 3 = .ok (.arraylength, 1) := by decide +kernel
theorem d_JA_fill_4 : decode b_JA_fill 4 = .ok (.istore_n 3, 1) := by decide +kernel
theorem d_JA_fill_5 : decode b_JA_fill 5 = .ok (.iload_n 2, 1) := by decide +kernel
theorem d_JA_fill_6 : decode b_JA_fill 6 = .ok (.iload_n 3, 1) := by decide +kernel
theorem d_JA_fill_7 : decode b_JA_fill 7 = .ok (.if_icmp .ge 13, 3) := by decide +kernel
theorem d_JA_fill_10 : decode b_JA_fill 10 = .ok (.aload_n 0, 1) := by decide +kernel
theorem d_JA_fill_11 : decode b_JA_fill 11 = .ok (.iload_n 2, 1) := by decide +kernel
theorem d_JA_fill_12 : decode b_JA_fill 12 = .ok (.iload_n 1, 1) := by decide +kernel
theorem d_JA_fill_13 : decode b_JA_fill 13 = .ok (.iastore, 1) := by decide +kernel
theorem d_JA_fill_14 : decode b_JA_fill 14 = .ok (.iinc 2 1, 3) := by decide +kernel
theorem d_JA_fill_17 : decode b_JA_fill 17 = .ok (.goto (-12), 3) := by decide +kernel
theorem d_JA_fill_20 : decode b_JA_fill 20 = .ok (.return_, 1) := by decide +kernel
theorem d_X_init_0 : decode b_X_init 0 = .ok (.aload_n 0, 1) := by decide +kernel
theorem d_X_init_1 : decode b_X_init 1 = .ok (.invokespecial 3, 3) := by decide +kernel
theorem d_X_init_4 : decode b_X_init 4 = .ok (.aload_n 0, 1) := by decide +kernel
theorem d_X_init_5 : decode b_X_init 5 = .ok (.bipush 8, 2) := by decide +kernel
theorem d_X_init_7 : decode b_X_init 7 = .ok (.newarray .int, 2) := by decide +kernel
theorem d_X_init_9 : decode b_X_init 9 = .ok (.putfield 9, 3) := by decide +kernel
theorem d_X_init_12 : decode b_X_init 12 = .ok (.aload_n 0, 1) := by decide +kernel
theorem d_X_init_13 : decode b_X_init 13 = .ok (.bipush 8, 2) := by decide +kernel
theorem d_X_init_15 : decode b_X_init 15 = .ok (.newarray .int, 2) := by decide +kernel
theorem d_X_init_17 : decode b_X_init 17 = .ok (.putfield 13, 3) := by decide +kernel
theorem d_X_init_20 : decode b_X_init 20 = .ok (.aload_n 0, 1) := by decide +kernel
theorem d_X_init_21 : decode b_X_init 21 = .ok (.sipush 4096, 3) := by decide +kernel
theorem d_X_init_24 : decode b_X_init 24 = .ok (.newarray .int, 2) := by decide +kernel
theorem d_X_init_26 : decode b_X_init 26 = .ok (.putfield 16, 3) := by decide +kernel
theorem d_X_init_29 : decode b_X_init 29 = .ok (.aload_n 0, 1) := by decide +kernel
theorem d_X_init_30 : decode b_X_init 30 = .ok (.bipush 8, 2) := by decide +kernel
theorem d_X_init_32 : decode b_X_init 32 = .ok (.newarray .int, 2) := by decide +kernel
theorem d_X_init_34 : decode b_X_init 34 = .ok (.putfield 19, 3) := by decide +kernel
theorem d_X_init_37 : decode b_X_init 37 = .ok (.aload_n 0, 1) := by decide +kernel
theorem d_X_init_38 : decode b_X_init 38 = .ok (.bipush 8, 2) := by decide +kernel
theorem d_X_init_40 : decode b_X_init 40 = .ok (.newarray .int, 2) := by decide +kernel
theorem d_X_init_42 : decode b_X_init 42 = .ok (.putfield 22, 3) := by decide +kernel
theorem d_X_init_45 : decode b_X_init 45 = .ok (.aload_n 0, 1) := by decide +kernel
theorem d_X_init_46 : decode b_X_init 46 = .ok (.bipush 8, 2) := by decide +kernel
theorem d_X_init_48 : decode b_X_init 48 = .ok (.newarray .int, 2) := by decide +kernel
theorem d_X_init_50 : decode b_X_init 50 = .ok (.putfield 25, 3) := by decide +kernel
theorem d_X_init_53 : decode b_X_init 53 = .ok (.aload_n 0, 1) := by decide +kernel
theorem d_X_init_54 : decode b_X_init 54 = .ok (.bipush 8, 2) := by decide +kernel
theorem d_X_init_56 : decode b_X_init 56 = .ok (.newarray .int, 2) := by decide +kernel
theorem d_X_init_58 : decode b_X_init 58 = .ok (.putfield 28, 3) := by decide +kernel
theorem d_X_init_61 : decode b_X_init 61 = .ok (.aload_n 0, 1) := by decide +kernel
theorem d_X_init_62 : decode b_X_init 62 = .ok (.bipush 8, 2) := by decide +kernel
theorem d_X_init_64 : decode b_X_init 64 = .ok (.newarray .int, 2) := by decide +kernel
theorem d_X_init_66 : decode b_X_init 66 = .ok (.putfield 31, 3) := by decide +kernel
theorem d_X_init_69 : decode b_X_init 69 = .ok (.aload_n 0, 1) := by decide +kernel
theorem d_X_init_70 : decode b_X_init 70 = .ok (.bipush 8, 2) := by decide +kernel
theorem d_X_init_72 : decode b_X_init 72 = .ok (.newarray .int, 2) := by decide +kernel
theorem d_X_init_74 : decode b_X_init 74 = .ok (.putfield 34, 3) := by decide +kernel
theorem d_X_init_77 : decode b_X_init 77 = .ok (.aload_n 0, 1) := by decide +kernel
theorem d_X_init_78 : decode b_X_init 78 = .ok (.iconst 1, 1) := by decide +kernel
theorem d_X_init_79 : decode b_X_init 79 = .ok (.putfield 37, 3) := by decide +kernel
theorem d_X_init_82 : decode b_X_init 82 = .ok (.aload_n 0, 1) := by decide +kernel
theorem d_X_init_83 : decode b_X_init 83 = .ok (.getfield 16, 3) := by decide +kernel
theorem d_X_init_86 : decode b_X_init 86 = .ok (.bipush 12, 2) := by decide +kernel
theorem d_X_init_88 : decode b_X_init 88 = .ok (.invokestatic 41, 3) := by decide +kernel
theorem d_X_init_91 : decode b_X_init 91 = .ok (.return_, 1) := by decide +kernel
end
