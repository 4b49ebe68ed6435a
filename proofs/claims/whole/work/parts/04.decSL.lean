theorem d_S_cover_0 : decode M_S_cover.2.1 0 = .ok (.aload_n 0, 1) := by decide +kernel
theorem d_S_cover_1 : decode M_S_cover.2.1 1 = .ok (.iload_n 1, 1) := by decide +kernel
theorem d_S_cover_2 : decode M_S_cover.2.1 2 = .ok (.putfield 13, 3) := by decide +kernel
theorem d_S_cover_5 : decode M_S_cover.2.1 5 = .ok (.aload_n 0, 1) := by decide +kernel
theorem d_S_cover_6 : decode M_S_cover.2.1 6 = .ok (.iload_n 2, 1) := by decide +kernel
theorem d_S_cover_7 : decode M_S_cover.2.1 7 = .ok (.putfield 16, 3) := by decide +kernel
theorem d_S_cover_10 : decode M_S_cover.2.1 10 = .ok (.return_, 1) := by decide +kernel
theorem d_S_holds_0 : decode M_S_holds.2.1 0 = .ok (.lload_n 1, 1) := by decide +kernel
theorem d_S_holds_1 : decode M_S_holds.2.1 1 = .ok (.aload_n 0, 1) := by decide +kernel
theorem d_S_holds_2 : decode M_S_holds.2.1 2 = .ok (.getfield 13, 3) := by decide +kernel
theorem d_S_holds_5 : decode M_S_holds.2.1 5 = .ok (.i2l, 1) := by decide +kernel
theorem d_S_holds_6 : decode M_S_holds.2.1 6 = .ok (.lcmp, 1) := by decide +kernel
theorem d_S_holds_7 : decode M_S_holds.2.1 7 = .ok (.ifCond .lt (22), 3) := by decide +kernel
theorem d_S_holds_10 : decode M_S_holds.2.1 10 = .ok (.lload_n 1, 1) := by decide +kernel
theorem d_S_holds_11 : decode M_S_holds.2.1 11 = .ok (.aload_n 0, 1) := by decide +kernel
theorem d_S_holds_12 : decode M_S_holds.2.1 12 = .ok (.getfield 13, 3) := by decide +kernel
theorem d_S_holds_15 : decode M_S_holds.2.1 15 = .ok (.aload_n 0, 1) := by decide +kernel
theorem d_S_holds_16 : decode M_S_holds.2.1 16 = .ok (.getfield 16, 3) := by decide +kernel
theorem d_S_holds_19 : decode M_S_holds.2.1 19 = .ok (.iadd, 1) := by decide +kernel
theorem d_S_holds_20 : decode M_S_holds.2.1 20 = .ok (.i2l, 1) := by decide +kernel
theorem d_S_holds_21 : decode M_S_holds.2.1 21 = .ok (.lcmp, 1) := by decide +kernel
theorem d_S_holds_22 : decode M_S_holds.2.1 22 = .ok (.ifCond .ge (7), 3) := by decide +kernel
theorem d_S_holds_25 : decode M_S_holds.2.1 25 = .ok (.iconst 1, 1) := by decide +kernel
theorem d_S_holds_26 : decode M_S_holds.2.1 26 = .ok (.goto (4), 3) := by decide +kernel
theorem d_S_holds_29 : decode M_S_holds.2.1 29 = .ok (.iconst 0, 1) := by decide +kernel
theorem d_S_holds_30 : decode M_S_holds.2.1 30 = .ok (.ireturn, 1) := by decide +kernel
theorem d_S_offsetOf_0 : decode M_S_offsetOf.2.1 0 = .ok (.lload_n 1, 1) := by decide +kernel
theorem d_S_offsetOf_1 : decode M_S_offsetOf.2.1 1 = .ok (.aload_n 0, 1) := by decide +kernel
theorem d_S_offsetOf_2 : decode M_S_offsetOf.2.1 2 = .ok (.getfield 13, 3) := by decide +kernel
theorem d_S_offsetOf_5 : decode M_S_offsetOf.2.1 5 = .ok (.i2l, 1) := by decide +kernel
theorem d_S_offsetOf_6 : decode M_S_offsetOf.2.1 6 = .ok (.lsub, 1) := by decide +kernel
theorem d_S_offsetOf_7 : decode M_S_offsetOf.2.1 7 = .ok (.l2i, 1) := by decide +kernel
theorem d_S_offsetOf_8 : decode M_S_offsetOf.2.1 8 = .ok (.aload_n 0, 1) := by decide +kernel
theorem d_S_offsetOf_9 : decode M_S_offsetOf.2.1 9 = .ok (.getfield 7, 3) := by decide +kernel
theorem d_S_offsetOf_12 : decode M_S_offsetOf.2.1 12 = .ok (.imul, 1) := by decide +kernel
theorem d_S_offsetOf_13 : decode M_S_offsetOf.2.1 13 = .ok (.ireturn, 1) := by decide +kernel
theorem d_S_firstOf_0 : decode M_S_firstOf.2.1 0 = .ok (.aload_n 0, 1) := by decide +kernel
theorem d_S_firstOf_1 : decode M_S_firstOf.2.1 1 = .ok (.getfield 13, 3) := by decide +kernel
theorem d_S_firstOf_4 : decode M_S_firstOf.2.1 4 = .ok (.iload_n 1, 1) := by decide +kernel
theorem d_S_firstOf_5 : decode M_S_firstOf.2.1 5 = .ok (.iload_n 2, 1) := by decide +kernel
theorem d_S_firstOf_6 : decode M_S_firstOf.2.1 6 = .ok (.invokestatic 19, 3) := by decide +kernel
theorem d_S_firstOf_9 : decode M_S_firstOf.2.1 9 = .ok (.ireturn, 1) := by decide +kernel
theorem d_S_countOf_0 : decode M_S_countOf.2.1 0 = .ok (.aload_n 0, 1) := by decide +kernel
theorem d_S_countOf_1 : decode M_S_countOf.2.1 1 = .ok (.getfield 13, 3) := by decide +kernel
theorem d_S_countOf_4 : decode M_S_countOf.2.1 4 = .ok (.aload_n 0, 1) := by decide +kernel
theorem d_S_countOf_5 : decode M_S_countOf.2.1 5 = .ok (.getfield 16, 3) := by decide +kernel
theorem d_S_countOf_8 : decode M_S_countOf.2.1 8 = .ok (.iadd, 1) := by decide +kernel
theorem d_S_countOf_9 : decode M_S_countOf.2.1 9 = .ok (.iload_n 1, 1) := by decide +kernel
theorem d_S_countOf_10 : decode M_S_countOf.2.1 10 = .ok (.iload_n 2, 1) := by decide +kernel
theorem d_S_countOf_11 : decode M_S_countOf.2.1 11 = .ok (.invokestatic 19, 3) := by decide +kernel
theorem d_S_countOf_14 : decode M_S_countOf.2.1 14 = .ok (.aload_n 0, 1) := by decide +kernel
theorem d_S_countOf_15 : decode M_S_countOf.2.1 15 = .ok (.getfield 13, 3) := by decide +kernel
theorem d_S_countOf_18 : decode M_S_countOf.2.1 18 = .ok (.iload_n 1, 1) := by decide +kernel
theorem d_S_countOf_19 : decode M_S_countOf.2.1 19 = .ok (.iload_n 2, 1) := by decide +kernel
theorem d_S_countOf_20 : decode M_S_countOf.2.1 20 = .ok (.invokestatic 19, 3) := by decide +kernel
theorem d_S_countOf_23 : decode M_S_countOf.2.1 23 = .ok (.isub, 1) := by decide +kernel
theorem d_S_countOf_24 : decode M_S_countOf.2.1 24 = .ok (.ireturn, 1) := by decide +kernel
theorem d_S_leastFrom_0 : decode M_S_leastFrom.2.1 0 = .ok (.iload_n 0, 1) := by decide +kernel
theorem d_S_leastFrom_1 : decode M_S_leastFrom.2.1 1 = .ok (.iload_n 2, 1) := by decide +kernel
theorem d_S_leastFrom_2 : decode M_S_leastFrom.2.1 2 = .ok (.isub, 1) := by decide +kernel
theorem d_S_leastFrom_3 : decode M_S_leastFrom.2.1 3 = .ok (.iconst 1, 1) := by decide +kernel
theorem d_S_leastFrom_4 : decode M_S_leastFrom.2.1 4 = .ok (.iload_n 1, 1) := by decide +kernel
theorem d_S_leastFrom_5 : decode M_S_leastFrom.2.1 5 = .ok (.ishl, 1) := by decide +kernel
theorem d_S_leastFrom_6 : decode M_S_leastFrom.2.1 6 = .ok (.iadd, 1) := by decide +kernel
theorem d_S_leastFrom_7 : decode M_S_leastFrom.2.1 7 = .ok (.iconst 1, 1) := by decide +kernel
theorem d_S_leastFrom_8 : decode M_S_leastFrom.2.1 8 = .ok (.isub, 1) := by decide +kernel
theorem d_S_leastFrom_9 : decode M_S_leastFrom.2.1 9 = .ok (.iload_n 1, 1) := by decide +kernel
theorem d_S_leastFrom_10 : decode M_S_leastFrom.2.1 10 = .ok (.ishr, 1) := by decide +kernel
theorem d_S_leastFrom_11 : decode M_S_leastFrom.2.1 11 = .ok (.ireturn, 1) := by decide +kernel
theorem d_L_readFrom_0 : decode M_L_readFrom.2.1 0 = .ok (.aload_n 0, 1) := by decide +kernel
theorem d_L_readFrom_1 : decode M_L_readFrom.2.1 1 = .ok (.iload 4, 2) := by decide +kernel
theorem d_L_readFrom_3 : decode M_L_readFrom.2.1 3 = .ok (.putfield 15, 3) := by decide +kernel
theorem d_L_readFrom_6 : decode M_L_readFrom.2.1 6 = .ok (.aload_n 0, 1) := by decide +kernel
theorem d_L_readFrom_7 : decode M_L_readFrom.2.1 7 = .ok (.iload 4, 2) := by decide +kernel
theorem d_L_readFrom_9 : decode M_L_readFrom.2.1 9 = .ok (.iload 5, 2) := by decide +kernel
theorem d_L_readFrom_11 : decode M_L_readFrom.2.1 11 = .ok (.iadd, 1) := by decide +kernel
theorem d_L_readFrom_12 : decode M_L_readFrom.2.1 12 = .ok (.iconst 1, 1) := by decide +kernel
theorem d_L_readFrom_13 : decode M_L_readFrom.2.1 13 = .ok (.isub, 1) := by decide +kernel
theorem d_L_readFrom_14 : decode M_L_readFrom.2.1 14 = .ok (.putfield 19, 3) := by decide +kernel
theorem d_L_readFrom_17 : decode M_L_readFrom.2.1 17 = .ok (.iconst 0, 1) := by decide +kernel
theorem d_L_readFrom_18 : decode M_L_readFrom.2.1 18 = .ok (.istore 6, 2) := by decide +kernel
theorem d_L_readFrom_20 : decode M_L_readFrom.2.1 20 = .ok (.iload 6, 2) := by decide +kernel
theorem d_L_readFrom_22 : decode M_L_readFrom.2.1 22 = .ok (.iload 5, 2) := by decide +kernel
theorem d_L_readFrom_24 : decode M_L_readFrom.2.1 24 = .ok (.if_icmp .ge (24), 3) := by decide +kernel
theorem d_L_readFrom_27 : decode M_L_readFrom.2.1 27 = .ok (.aload_n 0, 1) := by decide +kernel
theorem d_L_readFrom_28 : decode M_L_readFrom.2.1 28 = .ok (.getfield 9, 3) := by decide +kernel
theorem d_L_readFrom_31 : decode M_L_readFrom.2.1 31 = .ok (.iload 6, 2) := by decide +kernel
theorem d_L_readFrom_33 : decode M_L_readFrom.2.1 33 = .ok (.aload_n 1, 1) := by decide +kernel
theorem d_L_readFrom_34 : decode M_L_readFrom.2.1 34 = .ok (.iload_n 2, 1) := by decide +kernel
theorem d_L_readFrom_35 : decode M_L_readFrom.2.1 35 = .ok (.iload 6, 2) := by decide +kernel
theorem d_L_readFrom_37 : decode M_L_readFrom.2.1 37 = .ok (.iload_n 3, 1) := by decide +kernel
theorem d_L_readFrom_38 : decode M_L_readFrom.2.1 38 = .ok (.imul, 1) := by decide +kernel
theorem d_L_readFrom_39 : decode M_L_readFrom.2.1 39 = .ok (.iadd, 1) := by decide +kernel
theorem d_L_readFrom_40 : decode M_L_readFrom.2.1 40 = .ok (.iaload, 1) := by decide +kernel
theorem d_L_readFrom_41 : decode M_L_readFrom.2.1 41 = .ok (.iastore, 1) := by decide +kernel
theorem d_L_readFrom_42 : decode M_L_readFrom.2.1 42 = .ok (.iinc 6 (1), 3) := by decide +kernel
theorem d_L_readFrom_45 : decode M_L_readFrom.2.1 45 = .ok (.goto (-25), 3) := by decide +kernel
theorem d_L_readFrom_48 : decode M_L_readFrom.2.1 48 = .ok (.return_, 1) := by decide +kernel
theorem d_L_writeTo_0 : decode M_L_writeTo.2.1 0 = .ok (.iconst 0, 1) := by decide +kernel
theorem d_L_writeTo_1 : decode M_L_writeTo.2.1 1 = .ok (.istore 4, 2) := by decide +kernel
theorem d_L_writeTo_3 : decode M_L_writeTo.2.1 3 = .ok (.iload 4, 2) := by decide +kernel
theorem d_L_writeTo_5 : decode M_L_writeTo.2.1 5 = .ok (.aload_n 0, 1) := by decide +kernel
theorem d_L_writeTo_6 : decode M_L_writeTo.2.1 6 = .ok (.getfield 19, 3) := by decide +kernel
theorem d_L_writeTo_9 : decode M_L_writeTo.2.1 9 = .ok (.aload_n 0, 1) := by decide +kernel
theorem d_L_writeTo_10 : decode M_L_writeTo.2.1 10 = .ok (.getfield 15, 3) := by decide +kernel
theorem d_L_writeTo_13 : decode M_L_writeTo.2.1 13 = .ok (.isub, 1) := by decide +kernel
theorem d_L_writeTo_14 : decode M_L_writeTo.2.1 14 = .ok (.if_icmp .gt (24), 3) := by decide +kernel
theorem d_L_writeTo_17 : decode M_L_writeTo.2.1 17 = .ok (.aload_n 1, 1) := by decide +kernel
theorem d_L_writeTo_18 : decode M_L_writeTo.2.1 18 = .ok (.iload_n 2, 1) := by decide +kernel
theorem d_L_writeTo_19 : decode M_L_writeTo.2.1 19 = .ok (.iload 4, 2) := by decide +kernel
theorem d_L_writeTo_21 : decode M_L_writeTo.2.1 21 = .ok (.iload_n 3, 1) := by decide +kernel
theorem d_L_writeTo_22 : decode M_L_writeTo.2.1 22 = .ok (.imul, 1) := by decide +kernel
theorem d_L_writeTo_23 : decode M_L_writeTo.2.1 23 = .ok (.iadd, 1) := by decide +kernel
theorem d_L_writeTo_24 : decode M_L_writeTo.2.1 24 = .ok (.aload_n 0, 1) := by decide +kernel
theorem d_L_writeTo_25 : decode M_L_writeTo.2.1 25 = .ok (.getfield 9, 3) := by decide +kernel
theorem d_L_writeTo_28 : decode M_L_writeTo.2.1 28 = .ok (.iload 4, 2) := by decide +kernel
theorem d_L_writeTo_30 : decode M_L_writeTo.2.1 30 = .ok (.iaload, 1) := by decide +kernel
theorem d_L_writeTo_31 : decode M_L_writeTo.2.1 31 = .ok (.iastore, 1) := by decide +kernel
theorem d_L_writeTo_32 : decode M_L_writeTo.2.1 32 = .ok (.iinc 4 (1), 3) := by decide +kernel
theorem d_L_writeTo_35 : decode M_L_writeTo.2.1 35 = .ok (.goto (-32), 3) := by decide +kernel
theorem d_L_writeTo_38 : decode M_L_writeTo.2.1 38 = .ok (.return_, 1) := by decide +kernel
theorem d_L_liftForth_0 : decode M_L_liftForth.2.1 0 = .ok (.aload_n 0, 1) := by decide +kernel
theorem d_L_liftForth_1 : decode M_L_liftForth.2.1 1 = .ok (.getfield 15, 3) := by decide +kernel
theorem d_L_liftForth_4 : decode M_L_liftForth.2.1 4 = .ok (.aload_n 0, 1) := by decide +kernel
theorem d_L_liftForth_5 : decode M_L_liftForth.2.1 5 = .ok (.getfield 19, 3) := by decide +kernel
theorem d_L_liftForth_8 : decode M_L_liftForth.2.1 8 = .ok (.if_icmp .ne (37), 3) := by decide +kernel
theorem d_L_liftForth_11 : decode M_L_liftForth.2.1 11 = .ok (.aload_n 0, 1) := by decide +kernel
theorem d_L_liftForth_12 : decode M_L_liftForth.2.1 12 = .ok (.getfield 9, 3) := by decide +kernel
theorem d_L_liftForth_15 : decode M_L_liftForth.2.1 15 = .ok (.iconst 0, 1) := by decide +kernel
theorem d_L_liftForth_16 : decode M_L_liftForth.2.1 16 = .ok (.aload_n 0, 1) := by decide +kernel
theorem d_L_liftForth_17 : decode M_L_liftForth.2.1 17 = .ok (.getfield 15, 3) := by decide +kernel
theorem d_L_liftForth_20 : decode M_L_liftForth.2.1 20 = .ok (.invokestatic 22, 3) := by decide +kernel
theorem d_L_liftForth_23 : decode M_L_liftForth.2.1 23 = .ok (.ifCond .eq (14), 3) := by decide +kernel
theorem d_L_liftForth_26 : decode M_L_liftForth.2.1 26 = .ok (.aload_n 0, 1) := by decide +kernel
theorem d_L_liftForth_27 : decode M_L_liftForth.2.1 27 = .ok (.getfield 9, 3) := by decide +kernel
theorem d_L_liftForth_30 : decode M_L_liftForth.2.1 30 = .ok (.iconst 0, 1) := by decide +kernel
theorem d_L_liftForth_31 : decode M_L_liftForth.2.1 31 = .ok (.iaload, 1) := by decide +kernel
theorem d_L_liftForth_32 : decode M_L_liftForth.2.1 32 = .ok (.iconst 2, 1) := by decide +kernel
theorem d_L_liftForth_33 : decode M_L_liftForth.2.1 33 = .ok (.imul, 1) := by decide +kernel
theorem d_L_liftForth_34 : decode M_L_liftForth.2.1 34 = .ok (.goto (9), 3) := by decide +kernel
theorem d_L_liftForth_37 : decode M_L_liftForth.2.1 37 = .ok (.aload_n 0, 1) := by decide +kernel
theorem d_L_liftForth_38 : decode M_L_liftForth.2.1 38 = .ok (.getfield 9, 3) := by decide +kernel
theorem d_L_liftForth_41 : decode M_L_liftForth.2.1 41 = .ok (.iconst 0, 1) := by decide +kernel
theorem d_L_liftForth_42 : decode M_L_liftForth.2.1 42 = .ok (.iaload, 1) := by decide +kernel
theorem d_L_liftForth_43 : decode M_L_liftForth.2.1 43 = .ok (.iastore, 1) := by decide +kernel
theorem d_L_liftForth_44 : decode M_L_liftForth.2.1 44 = .ok (.return_, 1) := by decide +kernel
theorem d_L_liftForth_45 : decode M_L_liftForth.2.1 45 = .ok (.aload_n 0, 1) := by decide +kernel
theorem d_L_liftForth_46 : decode M_L_liftForth.2.1 46 = .ok (.invokevirtual 26, 3) := by decide +kernel
theorem d_L_liftForth_49 : decode M_L_liftForth.2.1 49 = .ok (.istore_n 2, 1) := by decide +kernel
theorem d_L_liftForth_50 : decode M_L_liftForth.2.1 50 = .ok (.iload_n 2, 1) := by decide +kernel
theorem d_L_liftForth_51 : decode M_L_liftForth.2.1 51 = .ok (.aload_n 0, 1) := by decide +kernel
theorem d_L_liftForth_52 : decode M_L_liftForth.2.1 52 = .ok (.getfield 19, 3) := by decide +kernel
theorem d_L_liftForth_55 : decode M_L_liftForth.2.1 55 = .ok (.if_icmp .gt (29), 3) := by decide +kernel
theorem d_L_liftForth_58 : decode M_L_liftForth.2.1 58 = .ok (.aload_n 0, 1) := by decide +kernel
theorem d_L_liftForth_59 : decode M_L_liftForth.2.1 59 = .ok (.getfield 9, 3) := by decide +kernel
theorem d_L_liftForth_62 : decode M_L_liftForth.2.1 62 = .ok (.iload_n 2, 1) := by decide +kernel
theorem d_L_liftForth_63 : decode M_L_liftForth.2.1 63 = .ok (.aload_n 0, 1) := by decide +kernel
theorem d_L_liftForth_64 : decode M_L_liftForth.2.1 64 = .ok (.getfield 15, 3) := by decide +kernel
theorem d_L_liftForth_67 : decode M_L_liftForth.2.1 67 = .ok (.isub, 1) := by decide +kernel
theorem d_L_liftForth_68 : decode M_L_liftForth.2.1 68 = .ok (.dup2, 1) := by decide +kernel
theorem d_L_liftForth_69 : decode M_L_liftForth.2.1 69 = .ok (.iaload, 1) := by decide +kernel
theorem d_L_liftForth_70 : decode M_L_liftForth.2.1 70 = .ok (.aload_n 0, 1) := by decide +kernel
theorem d_L_liftForth_71 : decode M_L_liftForth.2.1 71 = .ok (.iload_n 1, 1) := by decide +kernel
theorem d_L_liftForth_72 : decode M_L_liftForth.2.1 72 = .ok (.iload_n 2, 1) := by decide +kernel
theorem d_L_liftForth_73 : decode M_L_liftForth.2.1 73 = .ok (.invokevirtual 30, 3) := by decide +kernel
theorem d_L_liftForth_76 : decode M_L_liftForth.2.1 76 = .ok (.isub, 1) := by decide +kernel
theorem d_L_liftForth_77 : decode M_L_liftForth.2.1 77 = .ok (.iastore, 1) := by decide +kernel
theorem d_L_liftForth_78 : decode M_L_liftForth.2.1 78 = .ok (.iinc 2 (2), 3) := by decide +kernel
theorem d_L_liftForth_81 : decode M_L_liftForth.2.1 81 = .ok (.goto (-31), 3) := by decide +kernel
theorem d_L_liftForth_84 : decode M_L_liftForth.2.1 84 = .ok (.aload_n 0, 1) := by decide +kernel
theorem d_L_liftForth_85 : decode M_L_liftForth.2.1 85 = .ok (.invokevirtual 34, 3) := by decide +kernel
theorem d_L_liftForth_88 : decode M_L_liftForth.2.1 88 = .ok (.istore_n 2, 1) := by decide +kernel
theorem d_L_liftForth_89 : decode M_L_liftForth.2.1 89 = .ok (.iload_n 2, 1) := by decide +kernel
theorem d_L_liftForth_90 : decode M_L_liftForth.2.1 90 = .ok (.aload_n 0, 1) := by decide +kernel
theorem d_L_liftForth_91 : decode M_L_liftForth.2.1 91 = .ok (.getfield 19, 3) := by decide +kernel
theorem d_L_liftForth_94 : decode M_L_liftForth.2.1 94 = .ok (.if_icmp .gt (29), 3) := by decide +kernel
theorem d_L_liftForth_97 : decode M_L_liftForth.2.1 97 = .ok (.aload_n 0, 1) := by decide +kernel
theorem d_L_liftForth_98 : decode M_L_liftForth.2.1 98 = .ok (.getfield 9, 3) := by decide +kernel
theorem d_L_liftForth_101 : decode M_L_liftForth.2.1 101 = .ok (.iload_n 2, 1) := by decide +kernel
theorem d_L_liftForth_102 : decode M_L_liftForth.2.1 102 = .ok (.aload_n 0, 1) := by decide +kernel
theorem d_L_liftForth_103 : decode M_L_liftForth.2.1 103 = .ok (.getfield 15, 3) := by decide +kernel
theorem d_L_liftForth_106 : decode M_L_liftForth.2.1 106 = .ok (.isub, 1) := by decide +kernel
theorem d_L_liftForth_107 : decode M_L_liftForth.2.1 107 = .ok (.dup2, 1) := by decide +kernel
theorem d_L_liftForth_108 : decode M_L_liftForth.2.1 108 = .ok (.iaload, 1) := by decide +kernel
theorem d_L_liftForth_109 : decode M_L_liftForth.2.1 109 = .ok (.aload_n 0, 1) := by decide +kernel
theorem d_L_liftForth_110 : decode M_L_liftForth.2.1 110 = .ok (.iload_n 1, 1) := by decide +kernel
theorem d_L_liftForth_111 : decode M_L_liftForth.2.1 111 = .ok (.iload_n 2, 1) := by decide +kernel
theorem d_L_liftForth_112 : decode M_L_liftForth.2.1 112 = .ok (.invokevirtual 37, 3) := by decide +kernel
theorem d_L_liftForth_115 : decode M_L_liftForth.2.1 115 = .ok (.iadd, 1) := by decide +kernel
theorem d_L_liftForth_116 : decode M_L_liftForth.2.1 116 = .ok (.iastore, 1) := by decide +kernel
theorem d_L_liftForth_117 : decode M_L_liftForth.2.1 117 = .ok (.iinc 2 (2), 3) := by decide +kernel
theorem d_L_liftForth_120 : decode M_L_liftForth.2.1 120 = .ok (.goto (-31), 3) := by decide +kernel
theorem d_L_liftForth_123 : decode M_L_liftForth.2.1 123 = .ok (.return_, 1) := by decide +kernel
theorem d_L_liftBack_0 : decode M_L_liftBack.2.1 0 = .ok (.aload_n 0, 1) := by decide +kernel
theorem d_L_liftBack_1 : decode M_L_liftBack.2.1 1 = .ok (.getfield 15, 3) := by decide +kernel
theorem d_L_liftBack_4 : decode M_L_liftBack.2.1 4 = .ok (.aload_n 0, 1) := by decide +kernel
theorem d_L_liftBack_5 : decode M_L_liftBack.2.1 5 = .ok (.getfield 19, 3) := by decide +kernel
theorem d_L_liftBack_8 : decode M_L_liftBack.2.1 8 = .ok (.if_icmp .ne (37), 3) := by decide +kernel
theorem d_L_liftBack_11 : decode M_L_liftBack.2.1 11 = .ok (.aload_n 0, 1) := by decide +kernel
theorem d_L_liftBack_12 : decode M_L_liftBack.2.1 12 = .ok (.getfield 9, 3) := by decide +kernel
theorem d_L_liftBack_15 : decode M_L_liftBack.2.1 15 = .ok (.iconst 0, 1) := by decide +kernel
theorem d_L_liftBack_16 : decode M_L_liftBack.2.1 16 = .ok (.aload_n 0, 1) := by decide +kernel
theorem d_L_liftBack_17 : decode M_L_liftBack.2.1 17 = .ok (.getfield 15, 3) := by decide +kernel
theorem d_L_liftBack_20 : decode M_L_liftBack.2.1 20 = .ok (.invokestatic 22, 3) := by decide +kernel
theorem d_L_liftBack_23 : decode M_L_liftBack.2.1 23 = .ok (.ifCond .eq (14), 3) := by decide +kernel
theorem d_L_liftBack_26 : decode M_L_liftBack.2.1 26 = .ok (.aload_n 0, 1) := by decide +kernel
theorem d_L_liftBack_27 : decode M_L_liftBack.2.1 27 = .ok (.getfield 9, 3) := by decide +kernel
theorem d_L_liftBack_30 : decode M_L_liftBack.2.1 30 = .ok (.iconst 0, 1) := by decide +kernel
theorem d_L_liftBack_31 : decode M_L_liftBack.2.1 31 = .ok (.iaload, 1) := by decide +kernel
theorem d_L_liftBack_32 : decode M_L_liftBack.2.1 32 = .ok (.iconst 1, 1) := by decide +kernel
theorem d_L_liftBack_33 : decode M_L_liftBack.2.1 33 = .ok (.ishr, 1) := by decide +kernel
theorem d_L_liftBack_34 : decode M_L_liftBack.2.1 34 = .ok (.goto (9), 3) := by decide +kernel
theorem d_L_liftBack_37 : decode M_L_liftBack.2.1 37 = .ok (.aload_n 0, 1) := by decide +kernel
theorem d_L_liftBack_38 : decode M_L_liftBack.2.1 38 = .ok (.getfield 9, 3) := by decide +kernel
theorem d_L_liftBack_41 : decode M_L_liftBack.2.1 41 = .ok (.iconst 0, 1) := by decide +kernel
theorem d_L_liftBack_42 : decode M_L_liftBack.2.1 42 = .ok (.iaload, 1) := by decide +kernel
theorem d_L_liftBack_43 : decode M_L_liftBack.2.1 43 = .ok (.iastore, 1) := by decide +kernel
theorem d_L_liftBack_44 : decode M_L_liftBack.2.1 44 = .ok (.return_, 1) := by decide +kernel
theorem d_L_liftBack_45 : decode M_L_liftBack.2.1 45 = .ok (.aload_n 0, 1) := by decide +kernel
theorem d_L_liftBack_46 : decode M_L_liftBack.2.1 46 = .ok (.invokevirtual 34, 3) := by decide +kernel
theorem d_L_liftBack_49 : decode M_L_liftBack.2.1 49 = .ok (.istore_n 2, 1) := by decide +kernel
theorem d_L_liftBack_50 : decode M_L_liftBack.2.1 50 = .ok (.iload_n 2, 1) := by decide +kernel
theorem d_L_liftBack_51 : decode M_L_liftBack.2.1 51 = .ok (.aload_n 0, 1) := by decide +kernel
theorem d_L_liftBack_52 : decode M_L_liftBack.2.1 52 = .ok (.getfield 19, 3) := by decide +kernel
theorem d_L_liftBack_55 : decode M_L_liftBack.2.1 55 = .ok (.if_icmp .gt (29), 3) := by decide +kernel
theorem d_L_liftBack_58 : decode M_L_liftBack.2.1 58 = .ok (.aload_n 0, 1) := by decide +kernel
theorem d_L_liftBack_59 : decode M_L_liftBack.2.1 59 = .ok (.getfield 9, 3) := by decide +kernel
theorem d_L_liftBack_62 : decode M_L_liftBack.2.1 62 = .ok (.iload_n 2, 1) := by decide +kernel
theorem d_L_liftBack_63 : decode M_L_liftBack.2.1 63 = .ok (.aload_n 0, 1) := by decide +kernel
theorem d_L_liftBack_64 : decode M_L_liftBack.2.1 64 = .ok (.getfield 15, 3) := by decide +kernel
theorem d_L_liftBack_67 : decode M_L_liftBack.2.1 67 = .ok (.isub, 1) := by decide +kernel
theorem d_L_liftBack_68 : decode M_L_liftBack.2.1 68 = .ok (.dup2, 1) := by decide +kernel
theorem d_L_liftBack_69 : decode M_L_liftBack.2.1 69 = .ok (.iaload, 1) := by decide +kernel
theorem d_L_liftBack_70 : decode M_L_liftBack.2.1 70 = .ok (.aload_n 0, 1) := by decide +kernel
theorem d_L_liftBack_71 : decode M_L_liftBack.2.1 71 = .ok (.iload_n 1, 1) := by decide +kernel
theorem d_L_liftBack_72 : decode M_L_liftBack.2.1 72 = .ok (.iload_n 2, 1) := by decide +kernel
theorem d_L_liftBack_73 : decode M_L_liftBack.2.1 73 = .ok (.invokevirtual 37, 3) := by decide +kernel
theorem d_L_liftBack_76 : decode M_L_liftBack.2.1 76 = .ok (.isub, 1) := by decide +kernel
theorem d_L_liftBack_77 : decode M_L_liftBack.2.1 77 = .ok (.iastore, 1) := by decide +kernel
theorem d_L_liftBack_78 : decode M_L_liftBack.2.1 78 = .ok (.iinc 2 (2), 3) := by decide +kernel
theorem d_L_liftBack_81 : decode M_L_liftBack.2.1 81 = .ok (.goto (-31), 3) := by decide +kernel
theorem d_L_liftBack_84 : decode M_L_liftBack.2.1 84 = .ok (.aload_n 0, 1) := by decide +kernel
theorem d_L_liftBack_85 : decode M_L_liftBack.2.1 85 = .ok (.invokevirtual 26, 3) := by decide +kernel
theorem d_L_liftBack_88 : decode M_L_liftBack.2.1 88 = .ok (.istore_n 2, 1) := by decide +kernel
theorem d_L_liftBack_89 : decode M_L_liftBack.2.1 89 = .ok (.iload_n 2, 1) := by decide +kernel
theorem d_L_liftBack_90 : decode M_L_liftBack.2.1 90 = .ok (.aload_n 0, 1) := by decide +kernel
theorem d_L_liftBack_91 : decode M_L_liftBack.2.1 91 = .ok (.getfield 19, 3) := by decide +kernel
theorem d_L_liftBack_94 : decode M_L_liftBack.2.1 94 = .ok (.if_icmp .gt (29), 3) := by decide +kernel
theorem d_L_liftBack_97 : decode M_L_liftBack.2.1 97 = .ok (.aload_n 0, 1) := by decide +kernel
theorem d_L_liftBack_98 : decode M_L_liftBack.2.1 98 = .ok (.getfield 9, 3) := by decide +kernel
theorem d_L_liftBack_101 : decode M_L_liftBack.2.1 101 = .ok (.iload_n 2, 1) := by decide +kernel
theorem d_L_liftBack_102 : decode M_L_liftBack.2.1 102 = .ok (.aload_n 0, 1) := by decide +kernel
theorem d_L_liftBack_103 : decode M_L_liftBack.2.1 103 = .ok (.getfield 15, 3) := by decide +kernel
theorem d_L_liftBack_106 : decode M_L_liftBack.2.1 106 = .ok (.isub, 1) := by decide +kernel
theorem d_L_liftBack_107 : decode M_L_liftBack.2.1 107 = .ok (.dup2, 1) := by decide +kernel
theorem d_L_liftBack_108 : decode M_L_liftBack.2.1 108 = .ok (.iaload, 1) := by decide +kernel
theorem d_L_liftBack_109 : decode M_L_liftBack.2.1 109 = .ok (.aload_n 0, 1) := by decide +kernel
theorem d_L_liftBack_110 : decode M_L_liftBack.2.1 110 = .ok (.iload_n 1, 1) := by decide +kernel
theorem d_L_liftBack_111 : decode M_L_liftBack.2.1 111 = .ok (.iload_n 2, 1) := by decide +kernel
theorem d_L_liftBack_112 : decode M_L_liftBack.2.1 112 = .ok (.invokevirtual 30, 3) := by decide +kernel
theorem d_L_liftBack_115 : decode M_L_liftBack.2.1 115 = .ok (.iadd, 1) := by decide +kernel
theorem d_L_liftBack_116 : decode M_L_liftBack.2.1 116 = .ok (.iastore, 1) := by decide +kernel
theorem d_L_liftBack_117 : decode M_L_liftBack.2.1 117 = .ok (.iinc 2 (2), 3) := by decide +kernel
theorem d_L_liftBack_120 : decode M_L_liftBack.2.1 120 = .ok (.goto (-31), 3) := by decide +kernel
theorem d_L_liftBack_123 : decode M_L_liftBack.2.1 123 = .ok (.return_, 1) := by decide +kernel
theorem d_L_prediction_0 : decode M_L_prediction.2.1 0 = .ok (.iload_n 1, 1) := by decide +kernel
theorem d_L_prediction_1 : decode M_L_prediction.2.1 1 = .ok (.lookupswitch (44) #[((0), (27)), ((1), (36))], 27) := by decide +kernel
theorem d_L_prediction_28 : decode M_L_prediction.2.1 28 = .ok (.aload_n 0, 1) := by decide +kernel
theorem d_L_prediction_29 : decode M_L_prediction.2.1 29 = .ok (.iload_n 2, 1) := by decide +kernel
theorem d_L_prediction_30 : decode M_L_prediction.2.1 30 = .ok (.iconst 1, 1) := by decide +kernel
theorem d_L_prediction_31 : decode M_L_prediction.2.1 31 = .ok (.invokevirtual 40, 3) := by decide +kernel
theorem d_L_prediction_34 : decode M_L_prediction.2.1 34 = .ok (.iconst 1, 1) := by decide +kernel
theorem d_L_prediction_35 : decode M_L_prediction.2.1 35 = .ok (.ishr, 1) := by decide +kernel
theorem d_L_prediction_36 : decode M_L_prediction.2.1 36 = .ok (.ireturn, 1) := by decide +kernel
theorem d_L_prediction_37 : decode M_L_prediction.2.1 37 = .ok (.aload_n 0, 1) := by decide +kernel
theorem d_L_prediction_38 : decode M_L_prediction.2.1 38 = .ok (.iload_n 2, 1) := by decide +kernel
theorem d_L_prediction_39 : decode M_L_prediction.2.1 39 = .ok (.iconst 1, 1) := by decide +kernel
theorem d_L_prediction_40 : decode M_L_prediction.2.1 40 = .ok (.isub, 1) := by decide +kernel
theorem d_L_prediction_41 : decode M_L_prediction.2.1 41 = .ok (.invokevirtual 43, 3) := by decide +kernel
theorem d_L_prediction_44 : decode M_L_prediction.2.1 44 = .ok (.ireturn, 1) := by decide +kernel
theorem d_L_prediction_45 : decode M_L_prediction.2.1 45 = .ok (.bipush (9), 2) := by decide +kernel
theorem d_L_prediction_47 : decode M_L_prediction.2.1 47 = .ok (.aload_n 0, 1) := by decide +kernel
theorem d_L_prediction_48 : decode M_L_prediction.2.1 48 = .ok (.iload_n 2, 1) := by decide +kernel
theorem d_L_prediction_49 : decode M_L_prediction.2.1 49 = .ok (.iconst 1, 1) := by decide +kernel
theorem d_L_prediction_50 : decode M_L_prediction.2.1 50 = .ok (.invokevirtual 40, 3) := by decide +kernel
theorem d_L_prediction_53 : decode M_L_prediction.2.1 53 = .ok (.imul, 1) := by decide +kernel
theorem d_L_prediction_54 : decode M_L_prediction.2.1 54 = .ok (.aload_n 0, 1) := by decide +kernel
theorem d_L_prediction_55 : decode M_L_prediction.2.1 55 = .ok (.iload_n 2, 1) := by decide +kernel
theorem d_L_prediction_56 : decode M_L_prediction.2.1 56 = .ok (.iconst 3, 1) := by decide +kernel
theorem d_L_prediction_57 : decode M_L_prediction.2.1 57 = .ok (.invokevirtual 40, 3) := by decide +kernel
theorem d_L_prediction_60 : decode M_L_prediction.2.1 60 = .ok (.isub, 1) := by decide +kernel
theorem d_L_prediction_61 : decode M_L_prediction.2.1 61 = .ok (.bipush (8), 2) := by decide +kernel
theorem d_L_prediction_63 : decode M_L_prediction.2.1 63 = .ok (.iadd, 1) := by decide +kernel
theorem d_L_prediction_64 : decode M_L_prediction.2.1 64 = .ok (.iconst 4, 1) := by decide +kernel
theorem d_L_prediction_65 : decode M_L_prediction.2.1 65 = .ok (.ishr, 1) := by decide +kernel
theorem d_L_prediction_66 : decode M_L_prediction.2.1 66 = .ok (.ireturn, 1) := by decide +kernel
theorem d_L_update_0 : decode M_L_update.2.1 0 = .ok (.iload_n 1, 1) := by decide +kernel
theorem d_L_update_1 : decode M_L_update.2.1 1 = .ok (.iconst 1, 1) := by decide +kernel
theorem d_L_update_2 : decode M_L_update.2.1 2 = .ok (.if_icmp .ne (15), 3) := by decide +kernel
theorem d_L_update_5 : decode M_L_update.2.1 5 = .ok (.aload_n 0, 1) := by decide +kernel
theorem d_L_update_6 : decode M_L_update.2.1 6 = .ok (.iload_n 2, 1) := by decide +kernel
theorem d_L_update_7 : decode M_L_update.2.1 7 = .ok (.iconst 1, 1) := by decide +kernel
theorem d_L_update_8 : decode M_L_update.2.1 8 = .ok (.iadd, 1) := by decide +kernel
theorem d_L_update_9 : decode M_L_update.2.1 9 = .ok (.invokevirtual 43, 3) := by decide +kernel
theorem d_L_update_12 : decode M_L_update.2.1 12 = .ok (.iconst 1, 1) := by decide +kernel
theorem d_L_update_13 : decode M_L_update.2.1 13 = .ok (.ishr, 1) := by decide +kernel
theorem d_L_update_14 : decode M_L_update.2.1 14 = .ok (.goto (13), 3) := by decide +kernel
theorem d_L_update_17 : decode M_L_update.2.1 17 = .ok (.aload_n 0, 1) := by decide +kernel
theorem d_L_update_18 : decode M_L_update.2.1 18 = .ok (.iload_n 2, 1) := by decide +kernel
theorem d_L_update_19 : decode M_L_update.2.1 19 = .ok (.iconst 1, 1) := by decide +kernel
theorem d_L_update_20 : decode M_L_update.2.1 20 = .ok (.invokevirtual 40, 3) := by decide +kernel
theorem d_L_update_23 : decode M_L_update.2.1 23 = .ok (.iconst 2, 1) := by decide +kernel
theorem d_L_update_24 : decode M_L_update.2.1 24 = .ok (.iadd, 1) := by decide +kernel
theorem d_L_update_25 : decode M_L_update.2.1 25 = .ok (.iconst 2, 1) := by decide +kernel
theorem d_L_update_26 : decode M_L_update.2.1 26 = .ok (.ishr, 1) := by decide +kernel
theorem d_L_update_27 : decode M_L_update.2.1 27 = .ok (.ireturn, 1) := by decide +kernel
theorem d_L_neighbours_0 : decode M_L_neighbours.2.1 0 = .ok (.aload_n 0, 1) := by decide +kernel
theorem d_L_neighbours_1 : decode M_L_neighbours.2.1 1 = .ok (.iload_n 1, 1) := by decide +kernel
theorem d_L_neighbours_2 : decode M_L_neighbours.2.1 2 = .ok (.iload_n 2, 1) := by decide +kernel
theorem d_L_neighbours_3 : decode M_L_neighbours.2.1 3 = .ok (.isub, 1) := by decide +kernel
theorem d_L_neighbours_4 : decode M_L_neighbours.2.1 4 = .ok (.invokevirtual 43, 3) := by decide +kernel
theorem d_L_neighbours_7 : decode M_L_neighbours.2.1 7 = .ok (.aload_n 0, 1) := by decide +kernel
theorem d_L_neighbours_8 : decode M_L_neighbours.2.1 8 = .ok (.iload_n 1, 1) := by decide +kernel
theorem d_L_neighbours_9 : decode M_L_neighbours.2.1 9 = .ok (.iload_n 2, 1) := by decide +kernel
theorem d_L_neighbours_10 : decode M_L_neighbours.2.1 10 = .ok (.iadd, 1) := by decide +kernel
theorem d_L_neighbours_11 : decode M_L_neighbours.2.1 11 = .ok (.invokevirtual 43, 3) := by decide +kernel
theorem d_L_neighbours_14 : decode M_L_neighbours.2.1 14 = .ok (.iadd, 1) := by decide +kernel
theorem d_L_neighbours_15 : decode M_L_neighbours.2.1 15 = .ok (.ireturn, 1) := by decide +kernel
theorem d_L_value_0 : decode M_L_value.2.1 0 = .ok (.iload_n 1, 1) := by decide +kernel
theorem d_L_value_1 : decode M_L_value.2.1 1 = .ok (.istore_n 2, 1) := by decide +kernel
theorem d_L_value_2 : decode M_L_value.2.1 2 = .ok (.iconst 0, 1) := by decide +kernel
theorem d_L_value_3 : decode M_L_value.2.1 3 = .ok (.istore_n 3, 1) := by decide +kernel
theorem d_L_value_4 : decode M_L_value.2.1 4 = .ok (.iload_n 3, 1) := by decide +kernel
theorem d_L_value_5 : decode M_L_value.2.1 5 = .ok (.bipush (8), 2) := by decide +kernel
theorem d_L_value_7 : decode M_L_value.2.1 7 = .ok (.if_icmp .ge (53), 3) := by decide +kernel
theorem d_L_value_10 : decode M_L_value.2.1 10 = .ok (.iload_n 2, 1) := by decide +kernel
theorem d_L_value_11 : decode M_L_value.2.1 11 = .ok (.aload_n 0, 1) := by decide +kernel
theorem d_L_value_12 : decode M_L_value.2.1 12 = .ok (.getfield 15, 3) := by decide +kernel
theorem d_L_value_15 : decode M_L_value.2.1 15 = .ok (.if_icmp .lt (11), 3) := by decide +kernel
theorem d_L_value_18 : decode M_L_value.2.1 18 = .ok (.iload_n 2, 1) := by decide +kernel
theorem d_L_value_19 : decode M_L_value.2.1 19 = .ok (.aload_n 0, 1) := by decide +kernel
theorem d_L_value_20 : decode M_L_value.2.1 20 = .ok (.getfield 19, 3) := by decide +kernel
theorem d_L_value_23 : decode M_L_value.2.1 23 = .ok (.if_icmp .le (37), 3) := by decide +kernel
theorem d_L_value_26 : decode M_L_value.2.1 26 = .ok (.iload_n 2, 1) := by decide +kernel
theorem d_L_value_27 : decode M_L_value.2.1 27 = .ok (.aload_n 0, 1) := by decide +kernel
theorem d_L_value_28 : decode M_L_value.2.1 28 = .ok (.getfield 15, 3) := by decide +kernel
theorem d_L_value_31 : decode M_L_value.2.1 31 = .ok (.if_icmp .ge (14), 3) := by decide +kernel
theorem d_L_value_34 : decode M_L_value.2.1 34 = .ok (.iconst 2, 1) := by decide +kernel
theorem d_L_value_35 : decode M_L_value.2.1 35 = .ok (.aload_n 0, 1) := by decide +kernel
theorem d_L_value_36 : decode M_L_value.2.1 36 = .ok (.getfield 15, 3) := by decide +kernel
theorem d_L_value_39 : decode M_L_value.2.1 39 = .ok (.imul, 1) := by decide +kernel
theorem d_L_value_40 : decode M_L_value.2.1 40 = .ok (.iload_n 2, 1) := by decide +kernel
theorem d_L_value_41 : decode M_L_value.2.1 41 = .ok (.isub, 1) := by decide +kernel
theorem d_L_value_42 : decode M_L_value.2.1 42 = .ok (.goto (11), 3) := by decide +kernel
theorem d_L_value_45 : decode M_L_value.2.1 45 = .ok (.iconst 2, 1) := by decide +kernel
theorem d_L_value_46 : decode M_L_value.2.1 46 = .ok (.aload_n 0, 1) := by decide +kernel
theorem d_L_value_47 : decode M_L_value.2.1 47 = .ok (.getfield 19, 3) := by decide +kernel
theorem d_L_value_50 : decode M_L_value.2.1 50 = .ok (.imul, 1) := by decide +kernel
theorem d_L_value_51 : decode M_L_value.2.1 51 = .ok (.iload_n 2, 1) := by decide +kernel
theorem d_L_value_52 : decode M_L_value.2.1 52 = .ok (.isub, 1) := by decide +kernel
theorem d_L_value_53 : decode M_L_value.2.1 53 = .ok (.istore_n 2, 1) := by decide +kernel
theorem d_L_value_54 : decode M_L_value.2.1 54 = .ok (.iinc 3 (1), 3) := by decide +kernel
theorem d_L_value_57 : decode M_L_value.2.1 57 = .ok (.goto (-53), 3) := by decide +kernel
theorem d_L_value_60 : decode M_L_value.2.1 60 = .ok (.aload_n 0, 1) := by decide +kernel
theorem d_L_value_61 : decode M_L_value.2.1 61 = .ok (.getfield 9, 3) := by decide +kernel
theorem d_L_value_64 : decode M_L_value.2.1 64 = .ok (.iload_n 2, 1) := by decide +kernel
theorem d_L_value_65 : decode M_L_value.2.1 65 = .ok (.aload_n 0, 1) := by decide +kernel
theorem d_L_value_66 : decode M_L_value.2.1 66 = .ok (.getfield 15, 3) := by decide +kernel
theorem d_L_value_69 : decode M_L_value.2.1 69 = .ok (.isub, 1) := by decide +kernel
theorem d_L_value_70 : decode M_L_value.2.1 70 = .ok (.iaload, 1) := by decide +kernel
theorem d_L_value_71 : decode M_L_value.2.1 71 = .ok (.ireturn, 1) := by decide +kernel
theorem d_L_firstOdd_0 : decode M_L_firstOdd.2.1 0 = .ok (.aload_n 0, 1) := by decide +kernel
theorem d_L_firstOdd_1 : decode M_L_firstOdd.2.1 1 = .ok (.getfield 15, 3) := by decide +kernel
theorem d_L_firstOdd_4 : decode M_L_firstOdd.2.1 4 = .ok (.invokestatic 22, 3) := by decide +kernel
theorem d_L_firstOdd_7 : decode M_L_firstOdd.2.1 7 = .ok (.ifCond .eq (10), 3) := by decide +kernel
theorem d_L_firstOdd_10 : decode M_L_firstOdd.2.1 10 = .ok (.aload_n 0, 1) := by decide +kernel
theorem d_L_firstOdd_11 : decode M_L_firstOdd.2.1 11 = .ok (.getfield 15, 3) := by decide +kernel
theorem d_L_firstOdd_14 : decode M_L_firstOdd.2.1 14 = .ok (.goto (9), 3) := by decide +kernel
theorem d_L_firstOdd_17 : decode M_L_firstOdd.2.1 17 = .ok (.aload_n 0, 1) := by decide +kernel
theorem d_L_firstOdd_18 : decode M_L_firstOdd.2.1 18 = .ok (.getfield 15, 3) := by decide +kernel
theorem d_L_firstOdd_21 : decode M_L_firstOdd.2.1 21 = .ok (.iconst 1, 1) := by decide +kernel
theorem d_L_firstOdd_22 : decode M_L_firstOdd.2.1 22 = .ok (.iadd, 1) := by decide +kernel
theorem d_L_firstOdd_23 : decode M_L_firstOdd.2.1 23 = .ok (.ireturn, 1) := by decide +kernel
theorem d_L_firstEven_0 : decode M_L_firstEven.2.1 0 = .ok (.aload_n 0, 1) := by decide +kernel
theorem d_L_firstEven_1 : decode M_L_firstEven.2.1 1 = .ok (.getfield 15, 3) := by decide +kernel
theorem d_L_firstEven_4 : decode M_L_firstEven.2.1 4 = .ok (.invokestatic 22, 3) := by decide +kernel
theorem d_L_firstEven_7 : decode M_L_firstEven.2.1 7 = .ok (.ifCond .eq (12), 3) := by decide +kernel
theorem d_L_firstEven_10 : decode M_L_firstEven.2.1 10 = .ok (.aload_n 0, 1) := by decide +kernel
theorem d_L_firstEven_11 : decode M_L_firstEven.2.1 11 = .ok (.getfield 15, 3) := by decide +kernel
theorem d_L_firstEven_14 : decode M_L_firstEven.2.1 14 = .ok (.iconst 1, 1) := by decide +kernel
theorem d_L_firstEven_15 : decode M_L_firstEven.2.1 15 = .ok (.iadd, 1) := by decide +kernel
theorem d_L_firstEven_16 : decode M_L_firstEven.2.1 16 = .ok (.goto (7), 3) := by decide +kernel
theorem d_L_firstEven_19 : decode M_L_firstEven.2.1 19 = .ok (.aload_n 0, 1) := by decide +kernel
theorem d_L_firstEven_20 : decode M_L_firstEven.2.1 20 = .ok (.getfield 15, 3) := by decide +kernel
theorem d_L_firstEven_23 : decode M_L_firstEven.2.1 23 = .ok (.ireturn, 1) := by decide +kernel
theorem d_L_isOdd_0 : decode M_L_isOdd.2.1 0 = .ok (.iload_n 0, 1) := by decide +kernel
theorem d_L_isOdd_1 : decode M_L_isOdd.2.1 1 = .ok (.iconst 1, 1) := by decide +kernel
theorem d_L_isOdd_2 : decode M_L_isOdd.2.1 2 = .ok (.iand, 1) := by decide +kernel
theorem d_L_isOdd_3 : decode M_L_isOdd.2.1 3 = .ok (.iconst 1, 1) := by decide +kernel
theorem d_L_isOdd_4 : decode M_L_isOdd.2.1 4 = .ok (.if_icmp .ne (7), 3) := by decide +kernel
theorem d_L_isOdd_7 : decode M_L_isOdd.2.1 7 = .ok (.iconst 1, 1) := by decide +kernel
theorem d_L_isOdd_8 : decode M_L_isOdd.2.1 8 = .ok (.goto (4), 3) := by decide +kernel
theorem d_L_isOdd_11 : decode M_L_isOdd.2.1 11 = .ok (.iconst 0, 1) := by decide +kernel
theorem d_L_isOdd_12 : decode M_L_isOdd.2.1 12 = .ok (.ireturn, 1) := by decide +kernel
