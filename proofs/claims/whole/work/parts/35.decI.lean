theorem d_T_init_0 : decode M_T_init.2.1 0 = .ok (.aload_n 0, 1) := by decide +kernel
theorem d_T_init_1 : decode M_T_init.2.1 1 = .ok (.invokespecial 3, 3) := by decide +kernel
theorem d_T_init_4 : decode M_T_init.2.1 4 = .ok (.aload_n 0, 1) := by decide +kernel
theorem d_T_init_5 : decode M_T_init.2.1 5 = .ok (.sipush (768), 3) := by decide +kernel
theorem d_T_init_8 : decode M_T_init.2.1 8 = .ok (.newarray .int, 2) := by decide +kernel
theorem d_T_init_10 : decode M_T_init.2.1 10 = .ok (.putfield 9, 3) := by decide +kernel
theorem d_T_init_13 : decode M_T_init.2.1 13 = .ok (.aload_n 0, 1) := by decide +kernel
theorem d_T_init_14 : decode M_T_init.2.1 14 = .ok (.new 13, 3) := by decide +kernel
theorem d_T_init_17 : decode M_T_init.2.1 17 = .ok (.dup, 1) := by decide +kernel
theorem d_T_init_18 : decode M_T_init.2.1 18 = .ok (.iconst 1, 1) := by decide +kernel
theorem d_T_init_19 : decode M_T_init.2.1 19 = .ok (.invokespecial 15, 3) := by decide +kernel
theorem d_T_init_22 : decode M_T_init.2.1 22 = .ok (.putfield 18, 3) := by decide +kernel
theorem d_T_init_25 : decode M_T_init.2.1 25 = .ok (.aload_n 0, 1) := by decide +kernel
theorem d_T_init_26 : decode M_T_init.2.1 26 = .ok (.new 13, 3) := by decide +kernel
theorem d_T_init_29 : decode M_T_init.2.1 29 = .ok (.dup, 1) := by decide +kernel
theorem d_T_init_30 : decode M_T_init.2.1 30 = .ok (.bipush (16), 2) := by decide +kernel
theorem d_T_init_32 : decode M_T_init.2.1 32 = .ok (.invokespecial 15, 3) := by decide +kernel
theorem d_T_init_35 : decode M_T_init.2.1 35 = .ok (.putfield 22, 3) := by decide +kernel
theorem d_T_init_38 : decode M_T_init.2.1 38 = .ok (.aload_n 0, 1) := by decide +kernel
theorem d_T_init_39 : decode M_T_init.2.1 39 = .ok (.new 25, 3) := by decide +kernel
theorem d_T_init_42 : decode M_T_init.2.1 42 = .ok (.dup, 1) := by decide +kernel
theorem d_T_init_43 : decode M_T_init.2.1 43 = .ok (.invokespecial 27, 3) := by decide +kernel
theorem d_T_init_46 : decode M_T_init.2.1 46 = .ok (.putfield 28, 3) := by decide +kernel
theorem d_T_init_49 : decode M_T_init.2.1 49 = .ok (.aload_n 0, 1) := by decide +kernel
theorem d_T_init_50 : decode M_T_init.2.1 50 = .ok (.iconst 4, 1) := by decide +kernel
theorem d_T_init_51 : decode M_T_init.2.1 51 = .ok (.newarray .int, 2) := by decide +kernel
theorem d_T_init_53 : decode M_T_init.2.1 53 = .ok (.putfield 32, 3) := by decide +kernel
theorem d_T_init_56 : decode M_T_init.2.1 56 = .ok (.aload_n 0, 1) := by decide +kernel
theorem d_T_init_57 : decode M_T_init.2.1 57 = .ok (.iconst 0, 1) := by decide +kernel
theorem d_T_init_58 : decode M_T_init.2.1 58 = .ok (.putfield 35, 3) := by decide +kernel
theorem d_T_init_61 : decode M_T_init.2.1 61 = .ok (.aload_n 0, 1) := by decide +kernel
theorem d_T_init_62 : decode M_T_init.2.1 62 = .ok (.iconst 0, 1) := by decide +kernel
theorem d_T_init_63 : decode M_T_init.2.1 63 = .ok (.putfield 39, 3) := by decide +kernel
theorem d_T_init_66 : decode M_T_init.2.1 66 = .ok (.return_, 1) := by decide +kernel
theorem d_S_init_0 : decode M_S_init.2.1 0 = .ok (.aload_n 0, 1) := by decide +kernel
theorem d_S_init_1 : decode M_S_init.2.1 1 = .ok (.invokespecial 1, 3) := by decide +kernel
theorem d_S_init_4 : decode M_S_init.2.1 4 = .ok (.aload_n 0, 1) := by decide +kernel
theorem d_S_init_5 : decode M_S_init.2.1 5 = .ok (.iload_n 1, 1) := by decide +kernel
theorem d_S_init_6 : decode M_S_init.2.1 6 = .ok (.putfield 7, 3) := by decide +kernel
theorem d_S_init_9 : decode M_S_init.2.1 9 = .ok (.aload_n 0, 1) := by decide +kernel
theorem d_S_init_10 : decode M_S_init.2.1 10 = .ok (.iconst 0, 1) := by decide +kernel
theorem d_S_init_11 : decode M_S_init.2.1 11 = .ok (.putfield 13, 3) := by decide +kernel
theorem d_S_init_14 : decode M_S_init.2.1 14 = .ok (.aload_n 0, 1) := by decide +kernel
theorem d_S_init_15 : decode M_S_init.2.1 15 = .ok (.iconst 0, 1) := by decide +kernel
theorem d_S_init_16 : decode M_S_init.2.1 16 = .ok (.putfield 16, 3) := by decide +kernel
theorem d_S_init_19 : decode M_S_init.2.1 19 = .ok (.return_, 1) := by decide +kernel
theorem d_L_init_0 : decode M_L_init.2.1 0 = .ok (.aload_n 0, 1) := by decide +kernel
theorem d_L_init_1 : decode M_L_init.2.1 1 = .ok (.invokespecial 3, 3) := by decide +kernel
theorem d_L_init_4 : decode M_L_init.2.1 4 = .ok (.aload_n 0, 1) := by decide +kernel
theorem d_L_init_5 : decode M_L_init.2.1 5 = .ok (.bipush (16), 2) := by decide +kernel
theorem d_L_init_7 : decode M_L_init.2.1 7 = .ok (.newarray .int, 2) := by decide +kernel
theorem d_L_init_9 : decode M_L_init.2.1 9 = .ok (.putfield 9, 3) := by decide +kernel
theorem d_L_init_12 : decode M_L_init.2.1 12 = .ok (.aload_n 0, 1) := by decide +kernel
theorem d_L_init_13 : decode M_L_init.2.1 13 = .ok (.iconst 0, 1) := by decide +kernel
theorem d_L_init_14 : decode M_L_init.2.1 14 = .ok (.putfield 15, 3) := by decide +kernel
theorem d_L_init_17 : decode M_L_init.2.1 17 = .ok (.aload_n 0, 1) := by decide +kernel
theorem d_L_init_18 : decode M_L_init.2.1 18 = .ok (.iconst 0, 1) := by decide +kernel
theorem d_L_init_19 : decode M_L_init.2.1 19 = .ok (.putfield 19, 3) := by decide +kernel
theorem d_L_init_22 : decode M_L_init.2.1 22 = .ok (.return_, 1) := by decide +kernel
theorem d_R_init_0 : decode M_R_init.2.1 0 = .ok (.aload_n 0, 1) := by decide +kernel
theorem d_R_init_1 : decode M_R_init.2.1 1 = .ok (.invokespecial 1, 3) := by decide +kernel
theorem d_R_init_4 : decode M_R_init.2.1 4 = .ok (.aload_n 0, 1) := by decide +kernel
theorem d_R_init_5 : decode M_R_init.2.1 5 = .ok (.iconst 4, 1) := by decide +kernel
theorem d_R_init_6 : decode M_R_init.2.1 6 = .ok (.newarray .int, 2) := by decide +kernel
theorem d_R_init_8 : decode M_R_init.2.1 8 = .ok (.putfield 7, 3) := by decide +kernel
theorem d_R_init_11 : decode M_R_init.2.1 11 = .ok (.aload_n 0, 1) := by decide +kernel
theorem d_R_init_12 : decode M_R_init.2.1 12 = .ok (.sipush (768), 3) := by decide +kernel
theorem d_R_init_15 : decode M_R_init.2.1 15 = .ok (.newarray .int, 2) := by decide +kernel
theorem d_R_init_17 : decode M_R_init.2.1 17 = .ok (.putfield 13, 3) := by decide +kernel
theorem d_R_init_20 : decode M_R_init.2.1 20 = .ok (.aload_n 0, 1) := by decide +kernel
theorem d_R_init_21 : decode M_R_init.2.1 21 = .ok (.bipush (16), 2) := by decide +kernel
theorem d_R_init_23 : decode M_R_init.2.1 23 = .ok (.newarray .int, 2) := by decide +kernel
theorem d_R_init_25 : decode M_R_init.2.1 25 = .ok (.putfield 16, 3) := by decide +kernel
theorem d_R_init_28 : decode M_R_init.2.1 28 = .ok (.aload_n 0, 1) := by decide +kernel
theorem d_R_init_29 : decode M_R_init.2.1 29 = .ok (.bipush (16), 2) := by decide +kernel
theorem d_R_init_31 : decode M_R_init.2.1 31 = .ok (.newarray .int, 2) := by decide +kernel
theorem d_R_init_33 : decode M_R_init.2.1 33 = .ok (.putfield 19, 3) := by decide +kernel
theorem d_R_init_36 : decode M_R_init.2.1 36 = .ok (.return_, 1) := by decide +kernel
