theorem d_R_open_0 : decode M_R_open.2.1 0 = .ok (.iload_n 1, 1) := by decide +kernel
theorem d_R_open_1 : decode M_R_open.2.1 1 = .ok (.ifCond .lt (45), 3) := by decide +kernel
theorem d_R_open_4 : decode M_R_open.2.1 4 = .ok (.iload_n 1, 1) := by decide +kernel
theorem d_R_open_5 : decode M_R_open.2.1 5 = .ok (.sipush (1000), 3) := by decide +kernel
theorem d_R_open_8 : decode M_R_open.2.1 8 = .ok (.if_icmp .gt (38), 3) := by decide +kernel
theorem d_R_open_11 : decode M_R_open.2.1 11 = .ok (.iload_n 2, 1) := by decide +kernel
theorem d_R_open_12 : decode M_R_open.2.1 12 = .ok (.ifCond .lt (34), 3) := by decide +kernel
theorem d_R_open_15 : decode M_R_open.2.1 15 = .ok (.iload_n 2, 1) := by decide +kernel
theorem d_R_open_16 : decode M_R_open.2.1 16 = .ok (.sipush (1000), 3) := by decide +kernel
theorem d_R_open_19 : decode M_R_open.2.1 19 = .ok (.if_icmp .gt (27), 3) := by decide +kernel
theorem d_R_open_22 : decode M_R_open.2.1 22 = .ok (.iload_n 3, 1) := by decide +kernel
theorem d_R_open_23 : decode M_R_open.2.1 23 = .ok (.iconst 1, 1) := by decide +kernel
theorem d_R_open_24 : decode M_R_open.2.1 24 = .ok (.if_icmp .lt (22), 3) := by decide +kernel
theorem d_R_open_27 : decode M_R_open.2.1 27 = .ok (.iload_n 3, 1) := by decide +kernel
theorem d_R_open_28 : decode M_R_open.2.1 28 = .ok (.bipush (16), 2) := by decide +kernel
theorem d_R_open_30 : decode M_R_open.2.1 30 = .ok (.if_icmp .gt (16), 3) := by decide +kernel
theorem d_R_open_33 : decode M_R_open.2.1 33 = .ok (.iload 4, 2) := by decide +kernel
theorem d_R_open_35 : decode M_R_open.2.1 35 = .ok (.iconst 1, 1) := by decide +kernel
theorem d_R_open_36 : decode M_R_open.2.1 36 = .ok (.if_icmp .lt (10), 3) := by decide +kernel
theorem d_R_open_39 : decode M_R_open.2.1 39 = .ok (.iload 4, 2) := by decide +kernel
theorem d_R_open_41 : decode M_R_open.2.1 41 = .ok (.bipush (16), 2) := by decide +kernel
theorem d_R_open_43 : decode M_R_open.2.1 43 = .ok (.if_icmp .le (5), 3) := by decide +kernel
theorem d_R_open_46 : decode M_R_open.2.1 46 = .ok (.iconst 0, 1) := by decide +kernel
theorem d_R_open_47 : decode M_R_open.2.1 47 = .ok (.ireturn, 1) := by decide +kernel
theorem d_R_open_48 : decode M_R_open.2.1 48 = .ok (.aload_n 0, 1) := by decide +kernel
theorem d_R_open_49 : decode M_R_open.2.1 49 = .ok (.iconst 1, 1) := by decide +kernel
theorem d_R_open_50 : decode M_R_open.2.1 50 = .ok (.putfield 22, 3) := by decide +kernel
theorem d_R_open_53 : decode M_R_open.2.1 53 = .ok (.aload_n 0, 1) := by decide +kernel
theorem d_R_open_54 : decode M_R_open.2.1 54 = .ok (.iload_n 1, 1) := by decide +kernel
theorem d_R_open_55 : decode M_R_open.2.1 55 = .ok (.putfield 26, 3) := by decide +kernel
theorem d_R_open_58 : decode M_R_open.2.1 58 = .ok (.aload_n 0, 1) := by decide +kernel
theorem d_R_open_59 : decode M_R_open.2.1 59 = .ok (.iload_n 2, 1) := by decide +kernel
theorem d_R_open_60 : decode M_R_open.2.1 60 = .ok (.putfield 33, 3) := by decide +kernel
theorem d_R_open_63 : decode M_R_open.2.1 63 = .ok (.aload_n 0, 1) := by decide +kernel
theorem d_R_open_64 : decode M_R_open.2.1 64 = .ok (.iload_n 3, 1) := by decide +kernel
theorem d_R_open_65 : decode M_R_open.2.1 65 = .ok (.putfield 30, 3) := by decide +kernel
theorem d_R_open_68 : decode M_R_open.2.1 68 = .ok (.aload_n 0, 1) := by decide +kernel
theorem d_R_open_69 : decode M_R_open.2.1 69 = .ok (.iload 4, 2) := by decide +kernel
theorem d_R_open_71 : decode M_R_open.2.1 71 = .ok (.putfield 36, 3) := by decide +kernel
theorem d_R_open_74 : decode M_R_open.2.1 74 = .ok (.aload_n 0, 1) := by decide +kernel
theorem d_R_open_75 : decode M_R_open.2.1 75 = .ok (.iconst 0, 1) := by decide +kernel
theorem d_R_open_76 : decode M_R_open.2.1 76 = .ok (.putfield 39, 3) := by decide +kernel
theorem d_R_open_79 : decode M_R_open.2.1 79 = .ok (.aload_n 0, 1) := by decide +kernel
theorem d_R_open_80 : decode M_R_open.2.1 80 = .ok (.iconst 0, 1) := by decide +kernel
theorem d_R_open_81 : decode M_R_open.2.1 81 = .ok (.putfield 42, 3) := by decide +kernel
theorem d_R_open_84 : decode M_R_open.2.1 84 = .ok (.iconst 0, 1) := by decide +kernel
theorem d_R_open_85 : decode M_R_open.2.1 85 = .ok (.istore 5, 2) := by decide +kernel
theorem d_R_open_87 : decode M_R_open.2.1 87 = .ok (.iload 5, 2) := by decide +kernel
theorem d_R_open_89 : decode M_R_open.2.1 89 = .ok (.sipush (768), 3) := by decide +kernel
theorem d_R_open_92 : decode M_R_open.2.1 92 = .ok (.if_icmp .ge (17), 3) := by decide +kernel
theorem d_R_open_95 : decode M_R_open.2.1 95 = .ok (.aload_n 0, 1) := by decide +kernel
theorem d_R_open_96 : decode M_R_open.2.1 96 = .ok (.getfield 13, 3) := by decide +kernel
theorem d_R_open_99 : decode M_R_open.2.1 99 = .ok (.iload 5, 2) := by decide +kernel
theorem d_R_open_101 : decode M_R_open.2.1 101 = .ok (.iconst 0, 1) := by decide +kernel
theorem d_R_open_102 : decode M_R_open.2.1 102 = .ok (.iastore, 1) := by decide +kernel
theorem d_R_open_103 : decode M_R_open.2.1 103 = .ok (.iinc 5 (1), 3) := by decide +kernel
theorem d_R_open_106 : decode M_R_open.2.1 106 = .ok (.goto (-19), 3) := by decide +kernel
theorem d_R_open_109 : decode M_R_open.2.1 109 = .ok (.iconst 1, 1) := by decide +kernel
theorem d_R_open_110 : decode M_R_open.2.1 110 = .ok (.ireturn, 1) := by decide +kernel
theorem d_R_put_0 : decode M_R_put.2.1 0 = .ok (.iload_n 1, 1) := by decide +kernel
theorem d_R_put_1 : decode M_R_put.2.1 1 = .ok (.invokestatic 45, 3) := by decide +kernel
theorem d_R_put_4 : decode M_R_put.2.1 4 = .ok (.ifCond .eq (42), 3) := by decide +kernel
theorem d_R_put_7 : decode M_R_put.2.1 7 = .ok (.aload_n 0, 1) := by decide +kernel
theorem d_R_put_8 : decode M_R_put.2.1 8 = .ok (.iload_n 2, 1) := by decide +kernel
theorem d_R_put_9 : decode M_R_put.2.1 9 = .ok (.iload_n 3, 1) := by decide +kernel
theorem d_R_put_10 : decode M_R_put.2.1 10 = .ok (.invokevirtual 49, 3) := by decide +kernel
theorem d_R_put_13 : decode M_R_put.2.1 13 = .ok (.ifCond .eq (33), 3) := by decide +kernel
theorem d_R_put_16 : decode M_R_put.2.1 16 = .ok (.iload 4, 2) := by decide +kernel
theorem d_R_put_18 : decode M_R_put.2.1 18 = .ok (.sipush (-32768), 3) := by decide +kernel
theorem d_R_put_21 : decode M_R_put.2.1 21 = .ok (.if_icmp .lt (25), 3) := by decide +kernel
theorem d_R_put_24 : decode M_R_put.2.1 24 = .ok (.iload 4, 2) := by decide +kernel
theorem d_R_put_26 : decode M_R_put.2.1 26 = .ok (.sipush (32767), 3) := by decide +kernel
theorem d_R_put_29 : decode M_R_put.2.1 29 = .ok (.if_icmp .gt (17), 3) := by decide +kernel
theorem d_R_put_32 : decode M_R_put.2.1 32 = .ok (.aload_n 0, 1) := by decide +kernel
theorem d_R_put_33 : decode M_R_put.2.1 33 = .ok (.getfield 42, 3) := by decide +kernel
theorem d_R_put_36 : decode M_R_put.2.1 36 = .ok (.ifCond .gt (10), 3) := by decide +kernel
theorem d_R_put_39 : decode M_R_put.2.1 39 = .ok (.aload_n 0, 1) := by decide +kernel
theorem d_R_put_40 : decode M_R_put.2.1 40 = .ok (.getfield 39, 3) := by decide +kernel
theorem d_R_put_43 : decode M_R_put.2.1 43 = .ok (.ifCond .eq (5), 3) := by decide +kernel
theorem d_R_put_46 : decode M_R_put.2.1 46 = .ok (.iconst 0, 1) := by decide +kernel
theorem d_R_put_47 : decode M_R_put.2.1 47 = .ok (.ireturn, 1) := by decide +kernel
theorem d_R_put_48 : decode M_R_put.2.1 48 = .ok (.aload_n 0, 1) := by decide +kernel
theorem d_R_put_49 : decode M_R_put.2.1 49 = .ok (.getfield 13, 3) := by decide +kernel
theorem d_R_put_52 : decode M_R_put.2.1 52 = .ok (.aload_n 0, 1) := by decide +kernel
theorem d_R_put_53 : decode M_R_put.2.1 53 = .ok (.iload_n 1, 1) := by decide +kernel
theorem d_R_put_54 : decode M_R_put.2.1 54 = .ok (.iload_n 2, 1) := by decide +kernel
theorem d_R_put_55 : decode M_R_put.2.1 55 = .ok (.iload_n 3, 1) := by decide +kernel
theorem d_R_put_56 : decode M_R_put.2.1 56 = .ok (.invokevirtual 53, 3) := by decide +kernel
theorem d_R_put_59 : decode M_R_put.2.1 59 = .ok (.iload 4, 2) := by decide +kernel
theorem d_R_put_61 : decode M_R_put.2.1 61 = .ok (.iastore, 1) := by decide +kernel
theorem d_R_put_62 : decode M_R_put.2.1 62 = .ok (.iconst 1, 1) := by decide +kernel
theorem d_R_put_63 : decode M_R_put.2.1 63 = .ok (.ireturn, 1) := by decide +kernel
theorem d_R_mix_0 : decode M_R_mix.2.1 0 = .ok (.aload_n 0, 1) := by decide +kernel
theorem d_R_mix_1 : decode M_R_mix.2.1 1 = .ok (.getfield 22, 3) := by decide +kernel
theorem d_R_mix_4 : decode M_R_mix.2.1 4 = .ok (.ifCond .eq (17), 3) := by decide +kernel
theorem d_R_mix_7 : decode M_R_mix.2.1 7 = .ok (.aload_n 0, 1) := by decide +kernel
theorem d_R_mix_8 : decode M_R_mix.2.1 8 = .ok (.getfield 42, 3) := by decide +kernel
theorem d_R_mix_11 : decode M_R_mix.2.1 11 = .ok (.ifCond .gt (10), 3) := by decide +kernel
theorem d_R_mix_14 : decode M_R_mix.2.1 14 = .ok (.aload_n 0, 1) := by decide +kernel
theorem d_R_mix_15 : decode M_R_mix.2.1 15 = .ok (.getfield 39, 3) := by decide +kernel
theorem d_R_mix_18 : decode M_R_mix.2.1 18 = .ok (.ifCond .eq (5), 3) := by decide +kernel
theorem d_R_mix_21 : decode M_R_mix.2.1 21 = .ok (.iconst 0, 1) := by decide +kernel
theorem d_R_mix_22 : decode M_R_mix.2.1 22 = .ok (.ireturn, 1) := by decide +kernel
theorem d_R_mix_23 : decode M_R_mix.2.1 23 = .ok (.iconst 0, 1) := by decide +kernel
theorem d_R_mix_24 : decode M_R_mix.2.1 24 = .ok (.istore_n 1, 1) := by decide +kernel
theorem d_R_mix_25 : decode M_R_mix.2.1 25 = .ok (.iload_n 1, 1) := by decide +kernel
theorem d_R_mix_26 : decode M_R_mix.2.1 26 = .ok (.sipush (256), 3) := by decide +kernel
theorem d_R_mix_29 : decode M_R_mix.2.1 29 = .ok (.if_icmp .ge (82), 3) := by decide +kernel
theorem d_R_mix_32 : decode M_R_mix.2.1 32 = .ok (.aload_n 0, 1) := by decide +kernel
theorem d_R_mix_33 : decode M_R_mix.2.1 33 = .ok (.getfield 13, 3) := by decide +kernel
theorem d_R_mix_36 : decode M_R_mix.2.1 36 = .ok (.iload_n 1, 1) := by decide +kernel
theorem d_R_mix_37 : decode M_R_mix.2.1 37 = .ok (.iaload, 1) := by decide +kernel
theorem d_R_mix_38 : decode M_R_mix.2.1 38 = .ok (.istore_n 2, 1) := by decide +kernel
theorem d_R_mix_39 : decode M_R_mix.2.1 39 = .ok (.aload_n 0, 1) := by decide +kernel
theorem d_R_mix_40 : decode M_R_mix.2.1 40 = .ok (.getfield 13, 3) := by decide +kernel
theorem d_R_mix_43 : decode M_R_mix.2.1 43 = .ok (.sipush (256), 3) := by decide +kernel
theorem d_R_mix_46 : decode M_R_mix.2.1 46 = .ok (.iload_n 1, 1) := by decide +kernel
theorem d_R_mix_47 : decode M_R_mix.2.1 47 = .ok (.iadd, 1) := by decide +kernel
theorem d_R_mix_48 : decode M_R_mix.2.1 48 = .ok (.iaload, 1) := by decide +kernel
theorem d_R_mix_49 : decode M_R_mix.2.1 49 = .ok (.istore_n 3, 1) := by decide +kernel
theorem d_R_mix_50 : decode M_R_mix.2.1 50 = .ok (.aload_n 0, 1) := by decide +kernel
theorem d_R_mix_51 : decode M_R_mix.2.1 51 = .ok (.getfield 13, 3) := by decide +kernel
theorem d_R_mix_54 : decode M_R_mix.2.1 54 = .ok (.sipush (512), 3) := by decide +kernel
theorem d_R_mix_57 : decode M_R_mix.2.1 57 = .ok (.iload_n 1, 1) := by decide +kernel
theorem d_R_mix_58 : decode M_R_mix.2.1 58 = .ok (.iadd, 1) := by decide +kernel
theorem d_R_mix_59 : decode M_R_mix.2.1 59 = .ok (.iaload, 1) := by decide +kernel
theorem d_R_mix_60 : decode M_R_mix.2.1 60 = .ok (.istore 4, 2) := by decide +kernel
theorem d_R_mix_62 : decode M_R_mix.2.1 62 = .ok (.aload_n 0, 1) := by decide +kernel
theorem d_R_mix_63 : decode M_R_mix.2.1 63 = .ok (.getfield 13, 3) := by decide +kernel
theorem d_R_mix_66 : decode M_R_mix.2.1 66 = .ok (.iload_n 1, 1) := by decide +kernel
theorem d_R_mix_67 : decode M_R_mix.2.1 67 = .ok (.iload_n 2, 1) := by decide +kernel
theorem d_R_mix_68 : decode M_R_mix.2.1 68 = .ok (.iconst 2, 1) := by decide +kernel
theorem d_R_mix_69 : decode M_R_mix.2.1 69 = .ok (.iload_n 3, 1) := by decide +kernel
theorem d_R_mix_70 : decode M_R_mix.2.1 70 = .ok (.imul, 1) := by decide +kernel
theorem d_R_mix_71 : decode M_R_mix.2.1 71 = .ok (.iadd, 1) := by decide +kernel
theorem d_R_mix_72 : decode M_R_mix.2.1 72 = .ok (.iload 4, 2) := by decide +kernel
theorem d_R_mix_74 : decode M_R_mix.2.1 74 = .ok (.iadd, 1) := by decide +kernel
theorem d_R_mix_75 : decode M_R_mix.2.1 75 = .ok (.iconst 2, 1) := by decide +kernel
theorem d_R_mix_76 : decode M_R_mix.2.1 76 = .ok (.ishr, 1) := by decide +kernel
theorem d_R_mix_77 : decode M_R_mix.2.1 77 = .ok (.iastore, 1) := by decide +kernel
theorem d_R_mix_78 : decode M_R_mix.2.1 78 = .ok (.aload_n 0, 1) := by decide +kernel
theorem d_R_mix_79 : decode M_R_mix.2.1 79 = .ok (.getfield 13, 3) := by decide +kernel
theorem d_R_mix_82 : decode M_R_mix.2.1 82 = .ok (.sipush (256), 3) := by decide +kernel
theorem d_R_mix_85 : decode M_R_mix.2.1 85 = .ok (.iload_n 1, 1) := by decide +kernel
theorem d_R_mix_86 : decode M_R_mix.2.1 86 = .ok (.iadd, 1) := by decide +kernel
theorem d_R_mix_87 : decode M_R_mix.2.1 87 = .ok (.iload 4, 2) := by decide +kernel
theorem d_R_mix_89 : decode M_R_mix.2.1 89 = .ok (.iload_n 3, 1) := by decide +kernel
theorem d_R_mix_90 : decode M_R_mix.2.1 90 = .ok (.isub, 1) := by decide +kernel
theorem d_R_mix_91 : decode M_R_mix.2.1 91 = .ok (.iastore, 1) := by decide +kernel
theorem d_R_mix_92 : decode M_R_mix.2.1 92 = .ok (.aload_n 0, 1) := by decide +kernel
theorem d_R_mix_93 : decode M_R_mix.2.1 93 = .ok (.getfield 13, 3) := by decide +kernel
theorem d_R_mix_96 : decode M_R_mix.2.1 96 = .ok (.sipush (512), 3) := by decide +kernel
theorem d_R_mix_99 : decode M_R_mix.2.1 99 = .ok (.iload_n 1, 1) := by decide +kernel
theorem d_R_mix_100 : decode M_R_mix.2.1 100 = .ok (.iadd, 1) := by decide +kernel
theorem d_R_mix_101 : decode M_R_mix.2.1 101 = .ok (.iload_n 2, 1) := by decide +kernel
theorem d_R_mix_102 : decode M_R_mix.2.1 102 = .ok (.iload_n 3, 1) := by decide +kernel
theorem d_R_mix_103 : decode M_R_mix.2.1 103 = .ok (.isub, 1) := by decide +kernel
theorem d_R_mix_104 : decode M_R_mix.2.1 104 = .ok (.iastore, 1) := by decide +kernel
theorem d_R_mix_105 : decode M_R_mix.2.1 105 = .ok (.iinc 1 (1), 3) := by decide +kernel
theorem d_R_mix_108 : decode M_R_mix.2.1 108 = .ok (.goto (-83), 3) := by decide +kernel
theorem d_R_mix_111 : decode M_R_mix.2.1 111 = .ok (.aload_n 0, 1) := by decide +kernel
theorem d_R_mix_112 : decode M_R_mix.2.1 112 = .ok (.iconst 1, 1) := by decide +kernel
theorem d_R_mix_113 : decode M_R_mix.2.1 113 = .ok (.putfield 39, 3) := by decide +kernel
theorem d_R_mix_116 : decode M_R_mix.2.1 116 = .ok (.iconst 1, 1) := by decide +kernel
theorem d_R_mix_117 : decode M_R_mix.2.1 117 = .ok (.ireturn, 1) := by decide +kernel
theorem d_R_unmix_0 : decode M_R_unmix.2.1 0 = .ok (.aload_n 0, 1) := by decide +kernel
theorem d_R_unmix_1 : decode M_R_unmix.2.1 1 = .ok (.getfield 42, 3) := by decide +kernel
theorem d_R_unmix_4 : decode M_R_unmix.2.1 4 = .ok (.ifCond .gt (10), 3) := by decide +kernel
theorem d_R_unmix_7 : decode M_R_unmix.2.1 7 = .ok (.aload_n 0, 1) := by decide +kernel
theorem d_R_unmix_8 : decode M_R_unmix.2.1 8 = .ok (.getfield 39, 3) := by decide +kernel
theorem d_R_unmix_11 : decode M_R_unmix.2.1 11 = .ok (.ifCond .ne (5), 3) := by decide +kernel
theorem d_R_unmix_14 : decode M_R_unmix.2.1 14 = .ok (.iconst 0, 1) := by decide +kernel
theorem d_R_unmix_15 : decode M_R_unmix.2.1 15 = .ok (.ireturn, 1) := by decide +kernel
theorem d_R_unmix_16 : decode M_R_unmix.2.1 16 = .ok (.iconst 0, 1) := by decide +kernel
theorem d_R_unmix_17 : decode M_R_unmix.2.1 17 = .ok (.istore_n 1, 1) := by decide +kernel
theorem d_R_unmix_18 : decode M_R_unmix.2.1 18 = .ok (.iload_n 1, 1) := by decide +kernel
theorem d_R_unmix_19 : decode M_R_unmix.2.1 19 = .ok (.sipush (256), 3) := by decide +kernel
theorem d_R_unmix_22 : decode M_R_unmix.2.1 22 = .ok (.if_icmp .ge (86), 3) := by decide +kernel
theorem d_R_unmix_25 : decode M_R_unmix.2.1 25 = .ok (.aload_n 0, 1) := by decide +kernel
theorem d_R_unmix_26 : decode M_R_unmix.2.1 26 = .ok (.getfield 13, 3) := by decide +kernel
theorem d_R_unmix_29 : decode M_R_unmix.2.1 29 = .ok (.iload_n 1, 1) := by decide +kernel
theorem d_R_unmix_30 : decode M_R_unmix.2.1 30 = .ok (.iaload, 1) := by decide +kernel
theorem d_R_unmix_31 : decode M_R_unmix.2.1 31 = .ok (.istore_n 2, 1) := by decide +kernel
theorem d_R_unmix_32 : decode M_R_unmix.2.1 32 = .ok (.aload_n 0, 1) := by decide +kernel
theorem d_R_unmix_33 : decode M_R_unmix.2.1 33 = .ok (.getfield 13, 3) := by decide +kernel
theorem d_R_unmix_36 : decode M_R_unmix.2.1 36 = .ok (.sipush (256), 3) := by decide +kernel
theorem d_R_unmix_39 : decode M_R_unmix.2.1 39 = .ok (.iload_n 1, 1) := by decide +kernel
theorem d_R_unmix_40 : decode M_R_unmix.2.1 40 = .ok (.iadd, 1) := by decide +kernel
theorem d_R_unmix_41 : decode M_R_unmix.2.1 41 = .ok (.iaload, 1) := by decide +kernel
theorem d_R_unmix_42 : decode M_R_unmix.2.1 42 = .ok (.istore_n 3, 1) := by decide +kernel
theorem d_R_unmix_43 : decode M_R_unmix.2.1 43 = .ok (.aload_n 0, 1) := by decide +kernel
theorem d_R_unmix_44 : decode M_R_unmix.2.1 44 = .ok (.getfield 13, 3) := by decide +kernel
theorem d_R_unmix_47 : decode M_R_unmix.2.1 47 = .ok (.sipush (512), 3) := by decide +kernel
theorem d_R_unmix_50 : decode M_R_unmix.2.1 50 = .ok (.iload_n 1, 1) := by decide +kernel
theorem d_R_unmix_51 : decode M_R_unmix.2.1 51 = .ok (.iadd, 1) := by decide +kernel
theorem d_R_unmix_52 : decode M_R_unmix.2.1 52 = .ok (.iaload, 1) := by decide +kernel
theorem d_R_unmix_53 : decode M_R_unmix.2.1 53 = .ok (.istore 4, 2) := by decide +kernel
theorem d_R_unmix_55 : decode M_R_unmix.2.1 55 = .ok (.iload_n 2, 1) := by decide +kernel
theorem d_R_unmix_56 : decode M_R_unmix.2.1 56 = .ok (.iload_n 3, 1) := by decide +kernel
theorem d_R_unmix_57 : decode M_R_unmix.2.1 57 = .ok (.iload 4, 2) := by decide +kernel
theorem d_R_unmix_59 : decode M_R_unmix.2.1 59 = .ok (.iadd, 1) := by decide +kernel
theorem d_R_unmix_60 : decode M_R_unmix.2.1 60 = .ok (.iconst 2, 1) := by decide +kernel
theorem d_R_unmix_61 : decode M_R_unmix.2.1 61 = .ok (.ishr, 1) := by decide +kernel
theorem d_R_unmix_62 : decode M_R_unmix.2.1 62 = .ok (.isub, 1) := by decide +kernel
theorem d_R_unmix_63 : decode M_R_unmix.2.1 63 = .ok (.istore 5, 2) := by decide +kernel
theorem d_R_unmix_65 : decode M_R_unmix.2.1 65 = .ok (.aload_n 0, 1) := by decide +kernel
theorem d_R_unmix_66 : decode M_R_unmix.2.1 66 = .ok (.getfield 13, 3) := by decide +kernel
theorem d_R_unmix_69 : decode M_R_unmix.2.1 69 = .ok (.iload_n 1, 1) := by decide +kernel
theorem d_R_unmix_70 : decode M_R_unmix.2.1 70 = .ok (.iload 4, 2) := by decide +kernel
theorem d_R_unmix_72 : decode M_R_unmix.2.1 72 = .ok (.iload 5, 2) := by decide +kernel
theorem d_R_unmix_74 : decode M_R_unmix.2.1 74 = .ok (.iadd, 1) := by decide +kernel
theorem d_R_unmix_75 : decode M_R_unmix.2.1 75 = .ok (.iastore, 1) := by decide +kernel
theorem d_R_unmix_76 : decode M_R_unmix.2.1 76 = .ok (.aload_n 0, 1) := by decide +kernel
theorem d_R_unmix_77 : decode M_R_unmix.2.1 77 = .ok (.getfield 13, 3) := by decide +kernel
theorem d_R_unmix_80 : decode M_R_unmix.2.1 80 = .ok (.sipush (256), 3) := by decide +kernel
theorem d_R_unmix_83 : decode M_R_unmix.2.1 83 = .ok (.iload_n 1, 1) := by decide +kernel
theorem d_R_unmix_84 : decode M_R_unmix.2.1 84 = .ok (.iadd, 1) := by decide +kernel
theorem d_R_unmix_85 : decode M_R_unmix.2.1 85 = .ok (.iload 5, 2) := by decide +kernel
theorem d_R_unmix_87 : decode M_R_unmix.2.1 87 = .ok (.iastore, 1) := by decide +kernel
theorem d_R_unmix_88 : decode M_R_unmix.2.1 88 = .ok (.aload_n 0, 1) := by decide +kernel
theorem d_R_unmix_89 : decode M_R_unmix.2.1 89 = .ok (.getfield 13, 3) := by decide +kernel
theorem d_R_unmix_92 : decode M_R_unmix.2.1 92 = .ok (.sipush (512), 3) := by decide +kernel
theorem d_R_unmix_95 : decode M_R_unmix.2.1 95 = .ok (.iload_n 1, 1) := by decide +kernel
theorem d_R_unmix_96 : decode M_R_unmix.2.1 96 = .ok (.iadd, 1) := by decide +kernel
theorem d_R_unmix_97 : decode M_R_unmix.2.1 97 = .ok (.iload_n 3, 1) := by decide +kernel
theorem d_R_unmix_98 : decode M_R_unmix.2.1 98 = .ok (.iload 5, 2) := by decide +kernel
theorem d_R_unmix_100 : decode M_R_unmix.2.1 100 = .ok (.iadd, 1) := by decide +kernel
theorem d_R_unmix_101 : decode M_R_unmix.2.1 101 = .ok (.iastore, 1) := by decide +kernel
theorem d_R_unmix_102 : decode M_R_unmix.2.1 102 = .ok (.iinc 1 (1), 3) := by decide +kernel
theorem d_R_unmix_105 : decode M_R_unmix.2.1 105 = .ok (.goto (-87), 3) := by decide +kernel
theorem d_R_unmix_108 : decode M_R_unmix.2.1 108 = .ok (.aload_n 0, 1) := by decide +kernel
theorem d_R_unmix_109 : decode M_R_unmix.2.1 109 = .ok (.iconst 0, 1) := by decide +kernel
theorem d_R_unmix_110 : decode M_R_unmix.2.1 110 = .ok (.putfield 39, 3) := by decide +kernel
theorem d_R_unmix_113 : decode M_R_unmix.2.1 113 = .ok (.iconst 1, 1) := by decide +kernel
theorem d_R_unmix_114 : decode M_R_unmix.2.1 114 = .ok (.ireturn, 1) := by decide +kernel
theorem d_R_mixed_0 : decode M_R_mixed.2.1 0 = .ok (.aload_n 0, 1) := by decide +kernel
theorem d_R_mixed_1 : decode M_R_mixed.2.1 1 = .ok (.getfield 39, 3) := by decide +kernel
theorem d_R_mixed_4 : decode M_R_mixed.2.1 4 = .ok (.ireturn, 1) := by decide +kernel
theorem d_R_old_0 : decode M_R_old.2.1 0 = .ok (.aload_n 0, 1) := by decide +kernel
theorem d_R_old_1 : decode M_R_old.2.1 1 = .ok (.getfield 16, 3) := by decide +kernel
theorem d_R_old_4 : decode M_R_old.2.1 4 = .ok (.aload_n 0, 1) := by decide +kernel
theorem d_R_old_5 : decode M_R_old.2.1 5 = .ok (.iload_n 1, 1) := by decide +kernel
theorem d_R_old_6 : decode M_R_old.2.1 6 = .ok (.invokevirtual 63, 3) := by decide +kernel
theorem d_R_old_9 : decode M_R_old.2.1 9 = .ok (.aload_n 0, 1) := by decide +kernel
theorem d_R_old_10 : decode M_R_old.2.1 10 = .ok (.getfield 57, 3) := by decide +kernel
theorem d_R_old_13 : decode M_R_old.2.1 13 = .ok (.isub, 1) := by decide +kernel
theorem d_R_old_14 : decode M_R_old.2.1 14 = .ok (.iaload, 1) := by decide +kernel
theorem d_R_old_15 : decode M_R_old.2.1 15 = .ok (.ireturn, 1) := by decide +kernel
theorem d_R_odd_0 : decode M_R_odd.2.1 0 = .ok (.iload_n 0, 1) := by decide +kernel
theorem d_R_odd_1 : decode M_R_odd.2.1 1 = .ok (.iconst 2, 1) := by decide +kernel
theorem d_R_odd_2 : decode M_R_odd.2.1 2 = .ok (.irem, 1) := by decide +kernel
theorem d_R_odd_3 : decode M_R_odd.2.1 3 = .ok (.ifCond .eq (7), 3) := by decide +kernel
theorem d_R_odd_6 : decode M_R_odd.2.1 6 = .ok (.iconst 1, 1) := by decide +kernel
theorem d_R_odd_7 : decode M_R_odd.2.1 7 = .ok (.goto (4), 3) := by decide +kernel
theorem d_R_odd_10 : decode M_R_odd.2.1 10 = .ok (.iconst 0, 1) := by decide +kernel
theorem d_R_odd_11 : decode M_R_odd.2.1 11 = .ok (.ireturn, 1) := by decide +kernel
theorem d_R_predicted_0 : decode M_R_predicted.2.1 0 = .ok (.aload_n 0, 1) := by decide +kernel
theorem d_R_predicted_1 : decode M_R_predicted.2.1 1 = .ok (.getfield 67, 3) := by decide +kernel
theorem d_R_predicted_4 : decode M_R_predicted.2.1 4 = .ok (.ifCond .ne (9), 3) := by decide +kernel
theorem d_R_predicted_7 : decode M_R_predicted.2.1 7 = .ok (.iload_n 1, 1) := by decide +kernel
theorem d_R_predicted_8 : decode M_R_predicted.2.1 8 = .ok (.iload_n 2, 1) := by decide +kernel
theorem d_R_predicted_9 : decode M_R_predicted.2.1 9 = .ok (.iadd, 1) := by decide +kernel
theorem d_R_predicted_10 : decode M_R_predicted.2.1 10 = .ok (.iconst 1, 1) := by decide +kernel
theorem d_R_predicted_11 : decode M_R_predicted.2.1 11 = .ok (.ishr, 1) := by decide +kernel
theorem d_R_predicted_12 : decode M_R_predicted.2.1 12 = .ok (.ireturn, 1) := by decide +kernel
theorem d_R_predicted_13 : decode M_R_predicted.2.1 13 = .ok (.aload_n 0, 1) := by decide +kernel
theorem d_R_predicted_14 : decode M_R_predicted.2.1 14 = .ok (.getfield 67, 3) := by decide +kernel
theorem d_R_predicted_17 : decode M_R_predicted.2.1 17 = .ok (.iconst 1, 1) := by decide +kernel
theorem d_R_predicted_18 : decode M_R_predicted.2.1 18 = .ok (.if_icmp .ne (7), 3) := by decide +kernel
theorem d_R_predicted_21 : decode M_R_predicted.2.1 21 = .ok (.iload_n 1, 1) := by decide +kernel
theorem d_R_predicted_22 : decode M_R_predicted.2.1 22 = .ok (.goto (19), 3) := by decide +kernel
theorem d_R_predicted_25 : decode M_R_predicted.2.1 25 = .ok (.bipush (9), 2) := by decide +kernel
theorem d_R_predicted_27 : decode M_R_predicted.2.1 27 = .ok (.iload_n 1, 1) := by decide +kernel
theorem d_R_predicted_28 : decode M_R_predicted.2.1 28 = .ok (.iload_n 2, 1) := by decide +kernel
theorem d_R_predicted_29 : decode M_R_predicted.2.1 29 = .ok (.iadd, 1) := by decide +kernel
theorem d_R_predicted_30 : decode M_R_predicted.2.1 30 = .ok (.imul, 1) := by decide +kernel
theorem d_R_predicted_31 : decode M_R_predicted.2.1 31 = .ok (.iload_n 3, 1) := by decide +kernel
theorem d_R_predicted_32 : decode M_R_predicted.2.1 32 = .ok (.isub, 1) := by decide +kernel
theorem d_R_predicted_33 : decode M_R_predicted.2.1 33 = .ok (.iload 4, 2) := by decide +kernel
theorem d_R_predicted_35 : decode M_R_predicted.2.1 35 = .ok (.isub, 1) := by decide +kernel
theorem d_R_predicted_36 : decode M_R_predicted.2.1 36 = .ok (.bipush (8), 2) := by decide +kernel
theorem d_R_predicted_38 : decode M_R_predicted.2.1 38 = .ok (.iadd, 1) := by decide +kernel
theorem d_R_predicted_39 : decode M_R_predicted.2.1 39 = .ok (.iconst 4, 1) := by decide +kernel
theorem d_R_predicted_40 : decode M_R_predicted.2.1 40 = .ok (.ishr, 1) := by decide +kernel
theorem d_R_predicted_41 : decode M_R_predicted.2.1 41 = .ok (.ireturn, 1) := by decide +kernel
theorem d_R_updated_0 : decode M_R_updated.2.1 0 = .ok (.aload_n 0, 1) := by decide +kernel
theorem d_R_updated_1 : decode M_R_updated.2.1 1 = .ok (.getfield 67, 3) := by decide +kernel
theorem d_R_updated_4 : decode M_R_updated.2.1 4 = .ok (.iconst 1, 1) := by decide +kernel
theorem d_R_updated_5 : decode M_R_updated.2.1 5 = .ok (.if_icmp .ne (9), 3) := by decide +kernel
theorem d_R_updated_8 : decode M_R_updated.2.1 8 = .ok (.iload_n 2, 1) := by decide +kernel
theorem d_R_updated_9 : decode M_R_updated.2.1 9 = .ok (.iconst 1, 1) := by decide +kernel
theorem d_R_updated_10 : decode M_R_updated.2.1 10 = .ok (.ishr, 1) := by decide +kernel
theorem d_R_updated_11 : decode M_R_updated.2.1 11 = .ok (.goto (10), 3) := by decide +kernel
theorem d_R_updated_14 : decode M_R_updated.2.1 14 = .ok (.iload_n 1, 1) := by decide +kernel
theorem d_R_updated_15 : decode M_R_updated.2.1 15 = .ok (.iload_n 2, 1) := by decide +kernel
theorem d_R_updated_16 : decode M_R_updated.2.1 16 = .ok (.iadd, 1) := by decide +kernel
theorem d_R_updated_17 : decode M_R_updated.2.1 17 = .ok (.iconst 2, 1) := by decide +kernel
theorem d_R_updated_18 : decode M_R_updated.2.1 18 = .ok (.iadd, 1) := by decide +kernel
theorem d_R_updated_19 : decode M_R_updated.2.1 19 = .ok (.iconst 2, 1) := by decide +kernel
theorem d_R_updated_20 : decode M_R_updated.2.1 20 = .ok (.ishr, 1) := by decide +kernel
theorem d_R_updated_21 : decode M_R_updated.2.1 21 = .ok (.ireturn, 1) := by decide +kernel
theorem d_R_low_0 : decode M_R_low.2.1 0 = .ok (.aload_n 0, 1) := by decide +kernel
theorem d_R_low_1 : decode M_R_low.2.1 1 = .ok (.iload_n 1, 1) := by decide +kernel
theorem d_R_low_2 : decode M_R_low.2.1 2 = .ok (.invokevirtual 63, 3) := by decide +kernel
theorem d_R_low_5 : decode M_R_low.2.1 5 = .ok (.istore_n 2, 1) := by decide +kernel
theorem d_R_low_6 : decode M_R_low.2.1 6 = .ok (.aload_n 0, 1) := by decide +kernel
theorem d_R_low_7 : decode M_R_low.2.1 7 = .ok (.iload_n 2, 1) := by decide +kernel
theorem d_R_low_8 : decode M_R_low.2.1 8 = .ok (.invokevirtual 70, 3) := by decide +kernel
theorem d_R_low_11 : decode M_R_low.2.1 11 = .ok (.aload_n 0, 1) := by decide +kernel
theorem d_R_low_12 : decode M_R_low.2.1 12 = .ok (.aload_n 0, 1) := by decide +kernel
theorem d_R_low_13 : decode M_R_low.2.1 13 = .ok (.iload_n 2, 1) := by decide +kernel
theorem d_R_low_14 : decode M_R_low.2.1 14 = .ok (.iconst 1, 1) := by decide +kernel
theorem d_R_low_15 : decode M_R_low.2.1 15 = .ok (.isub, 1) := by decide +kernel
theorem d_R_low_16 : decode M_R_low.2.1 16 = .ok (.invokevirtual 70, 3) := by decide +kernel
theorem d_R_low_19 : decode M_R_low.2.1 19 = .ok (.aload_n 0, 1) := by decide +kernel
theorem d_R_low_20 : decode M_R_low.2.1 20 = .ok (.iload_n 2, 1) := by decide +kernel
theorem d_R_low_21 : decode M_R_low.2.1 21 = .ok (.iconst 1, 1) := by decide +kernel
theorem d_R_low_22 : decode M_R_low.2.1 22 = .ok (.iadd, 1) := by decide +kernel
theorem d_R_low_23 : decode M_R_low.2.1 23 = .ok (.invokevirtual 70, 3) := by decide +kernel
theorem d_R_low_26 : decode M_R_low.2.1 26 = .ok (.invokevirtual 77, 3) := by decide +kernel
theorem d_R_low_29 : decode M_R_low.2.1 29 = .ok (.isub, 1) := by decide +kernel
theorem d_R_low_30 : decode M_R_low.2.1 30 = .ok (.ireturn, 1) := by decide +kernel
theorem d_R_lifted_0 : decode M_R_lifted.2.1 0 = .ok (.aload_n 0, 1) := by decide +kernel
theorem d_R_lifted_1 : decode M_R_lifted.2.1 1 = .ok (.getfield 57, 3) := by decide +kernel
theorem d_R_lifted_4 : decode M_R_lifted.2.1 4 = .ok (.aload_n 0, 1) := by decide +kernel
theorem d_R_lifted_5 : decode M_R_lifted.2.1 5 = .ok (.getfield 60, 3) := by decide +kernel
theorem d_R_lifted_8 : decode M_R_lifted.2.1 8 = .ok (.if_icmp .ne (26), 3) := by decide +kernel
theorem d_R_lifted_11 : decode M_R_lifted.2.1 11 = .ok (.iload_n 1, 1) := by decide +kernel
theorem d_R_lifted_12 : decode M_R_lifted.2.1 12 = .ok (.invokestatic 81, 3) := by decide +kernel
theorem d_R_lifted_15 : decode M_R_lifted.2.1 15 = .ok (.ifCond .eq (13), 3) := by decide +kernel
theorem d_R_lifted_18 : decode M_R_lifted.2.1 18 = .ok (.iconst 2, 1) := by decide +kernel
theorem d_R_lifted_19 : decode M_R_lifted.2.1 19 = .ok (.aload_n 0, 1) := by decide +kernel
theorem d_R_lifted_20 : decode M_R_lifted.2.1 20 = .ok (.iload_n 1, 1) := by decide +kernel
theorem d_R_lifted_21 : decode M_R_lifted.2.1 21 = .ok (.invokevirtual 70, 3) := by decide +kernel
theorem d_R_lifted_24 : decode M_R_lifted.2.1 24 = .ok (.imul, 1) := by decide +kernel
theorem d_R_lifted_25 : decode M_R_lifted.2.1 25 = .ok (.goto (8), 3) := by decide +kernel
theorem d_R_lifted_28 : decode M_R_lifted.2.1 28 = .ok (.aload_n 0, 1) := by decide +kernel
theorem d_R_lifted_29 : decode M_R_lifted.2.1 29 = .ok (.iload_n 1, 1) := by decide +kernel
theorem d_R_lifted_30 : decode M_R_lifted.2.1 30 = .ok (.invokevirtual 70, 3) := by decide +kernel
theorem d_R_lifted_33 : decode M_R_lifted.2.1 33 = .ok (.ireturn, 1) := by decide +kernel
theorem d_R_lifted_34 : decode M_R_lifted.2.1 34 = .ok (.iload_n 1, 1) := by decide +kernel
theorem d_R_lifted_35 : decode M_R_lifted.2.1 35 = .ok (.invokestatic 81, 3) := by decide +kernel
theorem d_R_lifted_38 : decode M_R_lifted.2.1 38 = .ok (.ifCond .eq (11), 3) := by decide +kernel
theorem d_R_lifted_41 : decode M_R_lifted.2.1 41 = .ok (.aload_n 0, 1) := by decide +kernel
theorem d_R_lifted_42 : decode M_R_lifted.2.1 42 = .ok (.iload_n 1, 1) := by decide +kernel
theorem d_R_lifted_43 : decode M_R_lifted.2.1 43 = .ok (.invokevirtual 84, 3) := by decide +kernel
theorem d_R_lifted_46 : decode M_R_lifted.2.1 46 = .ok (.goto (27), 3) := by decide +kernel
theorem d_R_lifted_49 : decode M_R_lifted.2.1 49 = .ok (.aload_n 0, 1) := by decide +kernel
theorem d_R_lifted_50 : decode M_R_lifted.2.1 50 = .ok (.iload_n 1, 1) := by decide +kernel
theorem d_R_lifted_51 : decode M_R_lifted.2.1 51 = .ok (.invokevirtual 70, 3) := by decide +kernel
theorem d_R_lifted_54 : decode M_R_lifted.2.1 54 = .ok (.aload_n 0, 1) := by decide +kernel
theorem d_R_lifted_55 : decode M_R_lifted.2.1 55 = .ok (.aload_n 0, 1) := by decide +kernel
theorem d_R_lifted_56 : decode M_R_lifted.2.1 56 = .ok (.iload_n 1, 1) := by decide +kernel
theorem d_R_lifted_57 : decode M_R_lifted.2.1 57 = .ok (.iconst 1, 1) := by decide +kernel
theorem d_R_lifted_58 : decode M_R_lifted.2.1 58 = .ok (.isub, 1) := by decide +kernel
theorem d_R_lifted_59 : decode M_R_lifted.2.1 59 = .ok (.invokevirtual 84, 3) := by decide +kernel
theorem d_R_lifted_62 : decode M_R_lifted.2.1 62 = .ok (.aload_n 0, 1) := by decide +kernel
theorem d_R_lifted_63 : decode M_R_lifted.2.1 63 = .ok (.iload_n 1, 1) := by decide +kernel
theorem d_R_lifted_64 : decode M_R_lifted.2.1 64 = .ok (.iconst 1, 1) := by decide +kernel
theorem d_R_lifted_65 : decode M_R_lifted.2.1 65 = .ok (.iadd, 1) := by decide +kernel
theorem d_R_lifted_66 : decode M_R_lifted.2.1 66 = .ok (.invokevirtual 84, 3) := by decide +kernel
theorem d_R_lifted_69 : decode M_R_lifted.2.1 69 = .ok (.invokevirtual 77, 3) := by decide +kernel
theorem d_R_lifted_72 : decode M_R_lifted.2.1 72 = .ok (.iadd, 1) := by decide +kernel
theorem d_R_lifted_73 : decode M_R_lifted.2.1 73 = .ok (.ireturn, 1) := by decide +kernel
theorem d_R_liftedBack_0 : decode M_R_liftedBack.2.1 0 = .ok (.aload_n 0, 1) := by decide +kernel
theorem d_R_liftedBack_1 : decode M_R_liftedBack.2.1 1 = .ok (.getfield 57, 3) := by decide +kernel
theorem d_R_liftedBack_4 : decode M_R_liftedBack.2.1 4 = .ok (.aload_n 0, 1) := by decide +kernel
theorem d_R_liftedBack_5 : decode M_R_liftedBack.2.1 5 = .ok (.getfield 60, 3) := by decide +kernel
theorem d_R_liftedBack_8 : decode M_R_liftedBack.2.1 8 = .ok (.if_icmp .ne (26), 3) := by decide +kernel
theorem d_R_liftedBack_11 : decode M_R_liftedBack.2.1 11 = .ok (.iload_n 1, 1) := by decide +kernel
theorem d_R_liftedBack_12 : decode M_R_liftedBack.2.1 12 = .ok (.invokestatic 81, 3) := by decide +kernel
theorem d_R_liftedBack_15 : decode M_R_liftedBack.2.1 15 = .ok (.ifCond .eq (13), 3) := by decide +kernel
theorem d_R_liftedBack_18 : decode M_R_liftedBack.2.1 18 = .ok (.aload_n 0, 1) := by decide +kernel
theorem d_R_liftedBack_19 : decode M_R_liftedBack.2.1 19 = .ok (.iload_n 1, 1) := by decide +kernel
theorem d_R_liftedBack_20 : decode M_R_liftedBack.2.1 20 = .ok (.invokevirtual 70, 3) := by decide +kernel
theorem d_R_liftedBack_23 : decode M_R_liftedBack.2.1 23 = .ok (.iconst 1, 1) := by decide +kernel
theorem d_R_liftedBack_24 : decode M_R_liftedBack.2.1 24 = .ok (.ishr, 1) := by decide +kernel
theorem d_R_liftedBack_25 : decode M_R_liftedBack.2.1 25 = .ok (.goto (8), 3) := by decide +kernel
theorem d_R_liftedBack_28 : decode M_R_liftedBack.2.1 28 = .ok (.aload_n 0, 1) := by decide +kernel
theorem d_R_liftedBack_29 : decode M_R_liftedBack.2.1 29 = .ok (.iload_n 1, 1) := by decide +kernel
theorem d_R_liftedBack_30 : decode M_R_liftedBack.2.1 30 = .ok (.invokevirtual 70, 3) := by decide +kernel
theorem d_R_liftedBack_33 : decode M_R_liftedBack.2.1 33 = .ok (.ireturn, 1) := by decide +kernel
theorem d_R_liftedBack_34 : decode M_R_liftedBack.2.1 34 = .ok (.iload_n 1, 1) := by decide +kernel
theorem d_R_liftedBack_35 : decode M_R_liftedBack.2.1 35 = .ok (.invokestatic 81, 3) := by decide +kernel
theorem d_R_liftedBack_38 : decode M_R_liftedBack.2.1 38 = .ok (.ifCond .eq (44), 3) := by decide +kernel
theorem d_R_liftedBack_41 : decode M_R_liftedBack.2.1 41 = .ok (.aload_n 0, 1) := by decide +kernel
theorem d_R_liftedBack_42 : decode M_R_liftedBack.2.1 42 = .ok (.iload_n 1, 1) := by decide +kernel
theorem d_R_liftedBack_43 : decode M_R_liftedBack.2.1 43 = .ok (.invokevirtual 70, 3) := by decide +kernel
theorem d_R_liftedBack_46 : decode M_R_liftedBack.2.1 46 = .ok (.aload_n 0, 1) := by decide +kernel
theorem d_R_liftedBack_47 : decode M_R_liftedBack.2.1 47 = .ok (.aload_n 0, 1) := by decide +kernel
theorem d_R_liftedBack_48 : decode M_R_liftedBack.2.1 48 = .ok (.iload_n 1, 1) := by decide +kernel
theorem d_R_liftedBack_49 : decode M_R_liftedBack.2.1 49 = .ok (.iconst 1, 1) := by decide +kernel
theorem d_R_liftedBack_50 : decode M_R_liftedBack.2.1 50 = .ok (.isub, 1) := by decide +kernel
theorem d_R_liftedBack_51 : decode M_R_liftedBack.2.1 51 = .ok (.invokevirtual 87, 3) := by decide +kernel
theorem d_R_liftedBack_54 : decode M_R_liftedBack.2.1 54 = .ok (.aload_n 0, 1) := by decide +kernel
theorem d_R_liftedBack_55 : decode M_R_liftedBack.2.1 55 = .ok (.iload_n 1, 1) := by decide +kernel
theorem d_R_liftedBack_56 : decode M_R_liftedBack.2.1 56 = .ok (.iconst 1, 1) := by decide +kernel
theorem d_R_liftedBack_57 : decode M_R_liftedBack.2.1 57 = .ok (.iadd, 1) := by decide +kernel
theorem d_R_liftedBack_58 : decode M_R_liftedBack.2.1 58 = .ok (.invokevirtual 87, 3) := by decide +kernel
theorem d_R_liftedBack_61 : decode M_R_liftedBack.2.1 61 = .ok (.aload_n 0, 1) := by decide +kernel
theorem d_R_liftedBack_62 : decode M_R_liftedBack.2.1 62 = .ok (.iload_n 1, 1) := by decide +kernel
theorem d_R_liftedBack_63 : decode M_R_liftedBack.2.1 63 = .ok (.iconst 3, 1) := by decide +kernel
theorem d_R_liftedBack_64 : decode M_R_liftedBack.2.1 64 = .ok (.isub, 1) := by decide +kernel
theorem d_R_liftedBack_65 : decode M_R_liftedBack.2.1 65 = .ok (.invokevirtual 87, 3) := by decide +kernel
theorem d_R_liftedBack_68 : decode M_R_liftedBack.2.1 68 = .ok (.aload_n 0, 1) := by decide +kernel
theorem d_R_liftedBack_69 : decode M_R_liftedBack.2.1 69 = .ok (.iload_n 1, 1) := by decide +kernel
theorem d_R_liftedBack_70 : decode M_R_liftedBack.2.1 70 = .ok (.iconst 3, 1) := by decide +kernel
theorem d_R_liftedBack_71 : decode M_R_liftedBack.2.1 71 = .ok (.iadd, 1) := by decide +kernel
theorem d_R_liftedBack_72 : decode M_R_liftedBack.2.1 72 = .ok (.invokevirtual 87, 3) := by decide +kernel
theorem d_R_liftedBack_75 : decode M_R_liftedBack.2.1 75 = .ok (.invokevirtual 73, 3) := by decide +kernel
theorem d_R_liftedBack_78 : decode M_R_liftedBack.2.1 78 = .ok (.iadd, 1) := by decide +kernel
theorem d_R_liftedBack_79 : decode M_R_liftedBack.2.1 79 = .ok (.goto (8), 3) := by decide +kernel
theorem d_R_liftedBack_82 : decode M_R_liftedBack.2.1 82 = .ok (.aload_n 0, 1) := by decide +kernel
theorem d_R_liftedBack_83 : decode M_R_liftedBack.2.1 83 = .ok (.iload_n 1, 1) := by decide +kernel
theorem d_R_liftedBack_84 : decode M_R_liftedBack.2.1 84 = .ok (.invokevirtual 87, 3) := by decide +kernel
theorem d_R_liftedBack_87 : decode M_R_liftedBack.2.1 87 = .ok (.ireturn, 1) := by decide +kernel
theorem d_R_work_0 : decode M_R_work.2.1 0 = .ok (.aload_n 0, 1) := by decide +kernel
theorem d_R_work_1 : decode M_R_work.2.1 1 = .ok (.getfield 57, 3) := by decide +kernel
theorem d_R_work_4 : decode M_R_work.2.1 4 = .ok (.istore_n 2, 1) := by decide +kernel
theorem d_R_work_5 : decode M_R_work.2.1 5 = .ok (.iload_n 2, 1) := by decide +kernel
theorem d_R_work_6 : decode M_R_work.2.1 6 = .ok (.aload_n 0, 1) := by decide +kernel
theorem d_R_work_7 : decode M_R_work.2.1 7 = .ok (.getfield 60, 3) := by decide +kernel
theorem d_R_work_10 : decode M_R_work.2.1 10 = .ok (.if_icmp .gt (37), 3) := by decide +kernel
theorem d_R_work_13 : decode M_R_work.2.1 13 = .ok (.aload_n 0, 1) := by decide +kernel
theorem d_R_work_14 : decode M_R_work.2.1 14 = .ok (.getfield 19, 3) := by decide +kernel
theorem d_R_work_17 : decode M_R_work.2.1 17 = .ok (.iload_n 2, 1) := by decide +kernel
theorem d_R_work_18 : decode M_R_work.2.1 18 = .ok (.aload_n 0, 1) := by decide +kernel
theorem d_R_work_19 : decode M_R_work.2.1 19 = .ok (.getfield 57, 3) := by decide +kernel
theorem d_R_work_22 : decode M_R_work.2.1 22 = .ok (.isub, 1) := by decide +kernel
theorem d_R_work_23 : decode M_R_work.2.1 23 = .ok (.iload_n 1, 1) := by decide +kernel
theorem d_R_work_24 : decode M_R_work.2.1 24 = .ok (.ifCond .eq (11), 3) := by decide +kernel
theorem d_R_work_27 : decode M_R_work.2.1 27 = .ok (.aload_n 0, 1) := by decide +kernel
theorem d_R_work_28 : decode M_R_work.2.1 28 = .ok (.iload_n 2, 1) := by decide +kernel
theorem d_R_work_29 : decode M_R_work.2.1 29 = .ok (.invokevirtual 90, 3) := by decide +kernel
theorem d_R_work_32 : decode M_R_work.2.1 32 = .ok (.goto (8), 3) := by decide +kernel
theorem d_R_work_35 : decode M_R_work.2.1 35 = .ok (.aload_n 0, 1) := by decide +kernel
theorem d_R_work_36 : decode M_R_work.2.1 36 = .ok (.iload_n 2, 1) := by decide +kernel
theorem d_R_work_37 : decode M_R_work.2.1 37 = .ok (.invokevirtual 93, 3) := by decide +kernel
theorem d_R_work_40 : decode M_R_work.2.1 40 = .ok (.iastore, 1) := by decide +kernel
theorem d_R_work_41 : decode M_R_work.2.1 41 = .ok (.iinc 2 (1), 3) := by decide +kernel
theorem d_R_work_44 : decode M_R_work.2.1 44 = .ok (.goto (-39), 3) := by decide +kernel
theorem d_R_work_47 : decode M_R_work.2.1 47 = .ok (.return_, 1) := by decide +kernel
theorem d_R_row_0 : decode M_R_row.2.1 0 = .ok (.aload_n 0, 1) := by decide +kernel
theorem d_R_row_1 : decode M_R_row.2.1 1 = .ok (.aload_n 0, 1) := by decide +kernel
theorem d_R_row_2 : decode M_R_row.2.1 2 = .ok (.getfield 26, 3) := by decide +kernel
theorem d_R_row_5 : decode M_R_row.2.1 5 = .ok (.iload_n 3, 1) := by decide +kernel
theorem d_R_row_6 : decode M_R_row.2.1 6 = .ok (.invokestatic 96, 3) := by decide +kernel
theorem d_R_row_9 : decode M_R_row.2.1 9 = .ok (.putfield 57, 3) := by decide +kernel
theorem d_R_row_12 : decode M_R_row.2.1 12 = .ok (.aload_n 0, 1) := by decide +kernel
theorem d_R_row_13 : decode M_R_row.2.1 13 = .ok (.aload_n 0, 1) := by decide +kernel
theorem d_R_row_14 : decode M_R_row.2.1 14 = .ok (.getfield 26, 3) := by decide +kernel
theorem d_R_row_17 : decode M_R_row.2.1 17 = .ok (.aload_n 0, 1) := by decide +kernel
theorem d_R_row_18 : decode M_R_row.2.1 18 = .ok (.getfield 30, 3) := by decide +kernel
theorem d_R_row_21 : decode M_R_row.2.1 21 = .ok (.iadd, 1) := by decide +kernel
theorem d_R_row_22 : decode M_R_row.2.1 22 = .ok (.iload_n 3, 1) := by decide +kernel
theorem d_R_row_23 : decode M_R_row.2.1 23 = .ok (.invokestatic 96, 3) := by decide +kernel
theorem d_R_row_26 : decode M_R_row.2.1 26 = .ok (.iconst 1, 1) := by decide +kernel
theorem d_R_row_27 : decode M_R_row.2.1 27 = .ok (.isub, 1) := by decide +kernel
theorem d_R_row_28 : decode M_R_row.2.1 28 = .ok (.putfield 60, 3) := by decide +kernel
theorem d_R_row_31 : decode M_R_row.2.1 31 = .ok (.aload_n 0, 1) := by decide +kernel
theorem d_R_row_32 : decode M_R_row.2.1 32 = .ok (.getfield 57, 3) := by decide +kernel
theorem d_R_row_35 : decode M_R_row.2.1 35 = .ok (.istore 5, 2) := by decide +kernel
theorem d_R_row_37 : decode M_R_row.2.1 37 = .ok (.iload 5, 2) := by decide +kernel
theorem d_R_row_39 : decode M_R_row.2.1 39 = .ok (.aload_n 0, 1) := by decide +kernel
theorem d_R_row_40 : decode M_R_row.2.1 40 = .ok (.getfield 60, 3) := by decide +kernel
theorem d_R_row_43 : decode M_R_row.2.1 43 = .ok (.if_icmp .gt (31), 3) := by decide +kernel
theorem d_R_row_46 : decode M_R_row.2.1 46 = .ok (.aload_n 0, 1) := by decide +kernel
theorem d_R_row_47 : decode M_R_row.2.1 47 = .ok (.getfield 16, 3) := by decide +kernel
theorem d_R_row_50 : decode M_R_row.2.1 50 = .ok (.iload 5, 2) := by decide +kernel
theorem d_R_row_52 : decode M_R_row.2.1 52 = .ok (.aload_n 0, 1) := by decide +kernel
theorem d_R_row_53 : decode M_R_row.2.1 53 = .ok (.getfield 57, 3) := by decide +kernel
theorem d_R_row_56 : decode M_R_row.2.1 56 = .ok (.isub, 1) := by decide +kernel
theorem d_R_row_57 : decode M_R_row.2.1 57 = .ok (.aload_n 0, 1) := by decide +kernel
theorem d_R_row_58 : decode M_R_row.2.1 58 = .ok (.iload_n 1, 1) := by decide +kernel
theorem d_R_row_59 : decode M_R_row.2.1 59 = .ok (.iload 5, 2) := by decide +kernel
theorem d_R_row_61 : decode M_R_row.2.1 61 = .ok (.iload_n 3, 1) := by decide +kernel
theorem d_R_row_62 : decode M_R_row.2.1 62 = .ok (.imul, 1) := by decide +kernel
theorem d_R_row_63 : decode M_R_row.2.1 63 = .ok (.iload_n 2, 1) := by decide +kernel
theorem d_R_row_64 : decode M_R_row.2.1 64 = .ok (.invokevirtual 99, 3) := by decide +kernel
theorem d_R_row_67 : decode M_R_row.2.1 67 = .ok (.iastore, 1) := by decide +kernel
theorem d_R_row_68 : decode M_R_row.2.1 68 = .ok (.iinc 5 (1), 3) := by decide +kernel
theorem d_R_row_71 : decode M_R_row.2.1 71 = .ok (.goto (-34), 3) := by decide +kernel
theorem d_R_row_74 : decode M_R_row.2.1 74 = .ok (.aload_n 0, 1) := by decide +kernel
theorem d_R_row_75 : decode M_R_row.2.1 75 = .ok (.iload 4, 2) := by decide +kernel
theorem d_R_row_77 : decode M_R_row.2.1 77 = .ok (.invokevirtual 102, 3) := by decide +kernel
theorem d_R_row_80 : decode M_R_row.2.1 80 = .ok (.aload_n 0, 1) := by decide +kernel
theorem d_R_row_81 : decode M_R_row.2.1 81 = .ok (.getfield 57, 3) := by decide +kernel
theorem d_R_row_84 : decode M_R_row.2.1 84 = .ok (.istore 5, 2) := by decide +kernel
theorem d_R_row_86 : decode M_R_row.2.1 86 = .ok (.iload 5, 2) := by decide +kernel
theorem d_R_row_88 : decode M_R_row.2.1 88 = .ok (.aload_n 0, 1) := by decide +kernel
theorem d_R_row_89 : decode M_R_row.2.1 89 = .ok (.getfield 60, 3) := by decide +kernel
theorem d_R_row_92 : decode M_R_row.2.1 92 = .ok (.if_icmp .gt (36), 3) := by decide +kernel
theorem d_R_row_95 : decode M_R_row.2.1 95 = .ok (.aload_n 0, 1) := by decide +kernel
theorem d_R_row_96 : decode M_R_row.2.1 96 = .ok (.getfield 13, 3) := by decide +kernel
theorem d_R_row_99 : decode M_R_row.2.1 99 = .ok (.aload_n 0, 1) := by decide +kernel
theorem d_R_row_100 : decode M_R_row.2.1 100 = .ok (.iload_n 1, 1) := by decide +kernel
theorem d_R_row_101 : decode M_R_row.2.1 101 = .ok (.iload 5, 2) := by decide +kernel
theorem d_R_row_103 : decode M_R_row.2.1 103 = .ok (.iload_n 3, 1) := by decide +kernel
theorem d_R_row_104 : decode M_R_row.2.1 104 = .ok (.imul, 1) := by decide +kernel
theorem d_R_row_105 : decode M_R_row.2.1 105 = .ok (.iload_n 2, 1) := by decide +kernel
theorem d_R_row_106 : decode M_R_row.2.1 106 = .ok (.invokevirtual 53, 3) := by decide +kernel
theorem d_R_row_109 : decode M_R_row.2.1 109 = .ok (.aload_n 0, 1) := by decide +kernel
theorem d_R_row_110 : decode M_R_row.2.1 110 = .ok (.getfield 19, 3) := by decide +kernel
theorem d_R_row_113 : decode M_R_row.2.1 113 = .ok (.iload 5, 2) := by decide +kernel
theorem d_R_row_115 : decode M_R_row.2.1 115 = .ok (.aload_n 0, 1) := by decide +kernel
theorem d_R_row_116 : decode M_R_row.2.1 116 = .ok (.getfield 57, 3) := by decide +kernel
theorem d_R_row_119 : decode M_R_row.2.1 119 = .ok (.isub, 1) := by decide +kernel
theorem d_R_row_120 : decode M_R_row.2.1 120 = .ok (.iaload, 1) := by decide +kernel
theorem d_R_row_121 : decode M_R_row.2.1 121 = .ok (.iastore, 1) := by decide +kernel
theorem d_R_row_122 : decode M_R_row.2.1 122 = .ok (.iinc 5 (1), 3) := by decide +kernel
theorem d_R_row_125 : decode M_R_row.2.1 125 = .ok (.goto (-39), 3) := by decide +kernel
theorem d_R_row_128 : decode M_R_row.2.1 128 = .ok (.return_, 1) := by decide +kernel
theorem d_R_rows_0 : decode M_R_rows.2.1 0 = .ok (.aload_n 0, 1) := by decide +kernel
theorem d_R_rows_1 : decode M_R_rows.2.1 1 = .ok (.getfield 33, 3) := by decide +kernel
theorem d_R_rows_4 : decode M_R_rows.2.1 4 = .ok (.istore 4, 2) := by decide +kernel
theorem d_R_rows_6 : decode M_R_rows.2.1 6 = .ok (.iload 4, 2) := by decide +kernel
theorem d_R_rows_8 : decode M_R_rows.2.1 8 = .ok (.aload_n 0, 1) := by decide +kernel
theorem d_R_rows_9 : decode M_R_rows.2.1 9 = .ok (.getfield 33, 3) := by decide +kernel
theorem d_R_rows_12 : decode M_R_rows.2.1 12 = .ok (.aload_n 0, 1) := by decide +kernel
theorem d_R_rows_13 : decode M_R_rows.2.1 13 = .ok (.getfield 36, 3) := by decide +kernel
theorem d_R_rows_16 : decode M_R_rows.2.1 16 = .ok (.iadd, 1) := by decide +kernel
theorem d_R_rows_17 : decode M_R_rows.2.1 17 = .ok (.if_icmp .ge (25), 3) := by decide +kernel
theorem d_R_rows_20 : decode M_R_rows.2.1 20 = .ok (.iload 4, 2) := by decide +kernel
theorem d_R_rows_22 : decode M_R_rows.2.1 22 = .ok (.iload_n 2, 1) := by decide +kernel
theorem d_R_rows_23 : decode M_R_rows.2.1 23 = .ok (.irem, 1) := by decide +kernel
theorem d_R_rows_24 : decode M_R_rows.2.1 24 = .ok (.ifCond .ne (12), 3) := by decide +kernel
theorem d_R_rows_27 : decode M_R_rows.2.1 27 = .ok (.aload_n 0, 1) := by decide +kernel
theorem d_R_rows_28 : decode M_R_rows.2.1 28 = .ok (.iload_n 1, 1) := by decide +kernel
theorem d_R_rows_29 : decode M_R_rows.2.1 29 = .ok (.iload 4, 2) := by decide +kernel
theorem d_R_rows_31 : decode M_R_rows.2.1 31 = .ok (.iload_n 2, 1) := by decide +kernel
theorem d_R_rows_32 : decode M_R_rows.2.1 32 = .ok (.iload_n 3, 1) := by decide +kernel
theorem d_R_rows_33 : decode M_R_rows.2.1 33 = .ok (.invokevirtual 110, 3) := by decide +kernel
theorem d_R_rows_36 : decode M_R_rows.2.1 36 = .ok (.iinc 4 (1), 3) := by decide +kernel
theorem d_R_rows_39 : decode M_R_rows.2.1 39 = .ok (.goto (-33), 3) := by decide +kernel
theorem d_R_rows_42 : decode M_R_rows.2.1 42 = .ok (.return_, 1) := by decide +kernel
theorem d_R_scale_0 : decode M_R_scale.2.1 0 = .ok (.iconst 1, 1) := by decide +kernel
theorem d_R_scale_1 : decode M_R_scale.2.1 1 = .ok (.iload_n 0, 1) := by decide +kernel
theorem d_R_scale_2 : decode M_R_scale.2.1 2 = .ok (.iconst 1, 1) := by decide +kernel
theorem d_R_scale_3 : decode M_R_scale.2.1 3 = .ok (.isub, 1) := by decide +kernel
theorem d_R_scale_4 : decode M_R_scale.2.1 4 = .ok (.ishl, 1) := by decide +kernel
theorem d_R_scale_5 : decode M_R_scale.2.1 5 = .ok (.ireturn, 1) := by decide +kernel
theorem d_R_levels_0 : decode M_R_levels.2.1 0 = .ok (.aload_n 0, 1) := by decide +kernel
theorem d_R_levels_1 : decode M_R_levels.2.1 1 = .ok (.getfield 42, 3) := by decide +kernel
theorem d_R_levels_4 : decode M_R_levels.2.1 4 = .ok (.ireturn, 1) := by decide +kernel
theorem d_R_shift_0 : decode M_R_shift.2.1 0 = .ok (.iload_n 2, 1) := by decide +kernel
theorem d_R_shift_1 : decode M_R_shift.2.1 1 = .ok (.ifCond .eq (9), 3) := by decide +kernel
theorem d_R_shift_4 : decode M_R_shift.2.1 4 = .ok (.iload_n 1, 1) := by decide +kernel
theorem d_R_shift_5 : decode M_R_shift.2.1 5 = .ok (.iconst 1, 1) := by decide +kernel
theorem d_R_shift_6 : decode M_R_shift.2.1 6 = .ok (.ishr, 1) := by decide +kernel
theorem d_R_shift_7 : decode M_R_shift.2.1 7 = .ok (.goto (6), 3) := by decide +kernel
theorem d_R_shift_10 : decode M_R_shift.2.1 10 = .ok (.iload_n 1, 1) := by decide +kernel
theorem d_R_shift_11 : decode M_R_shift.2.1 11 = .ok (.iconst 1, 1) := by decide +kernel
theorem d_R_shift_12 : decode M_R_shift.2.1 12 = .ok (.iand, 1) := by decide +kernel
theorem d_R_shift_13 : decode M_R_shift.2.1 13 = .ok (.istore_n 3, 1) := by decide +kernel
theorem d_R_shift_14 : decode M_R_shift.2.1 14 = .ok (.iload_n 0, 1) := by decide +kernel
theorem d_R_shift_15 : decode M_R_shift.2.1 15 = .ok (.invokestatic 113, 3) := by decide +kernel
theorem d_R_shift_18 : decode M_R_shift.2.1 18 = .ok (.iload_n 3, 1) := by decide +kernel
theorem d_R_shift_19 : decode M_R_shift.2.1 19 = .ok (.imul, 1) := by decide +kernel
theorem d_R_shift_20 : decode M_R_shift.2.1 20 = .ok (.ireturn, 1) := by decide +kernel
theorem d_R_least_0 : decode M_R_least.2.1 0 = .ok (.iconst 2, 1) := by decide +kernel
theorem d_R_least_1 : decode M_R_least.2.1 1 = .ok (.iload_n 0, 1) := by decide +kernel
theorem d_R_least_2 : decode M_R_least.2.1 2 = .ok (.invokestatic 113, 3) := by decide +kernel
theorem d_R_least_5 : decode M_R_least.2.1 5 = .ok (.imul, 1) := by decide +kernel
theorem d_R_least_6 : decode M_R_least.2.1 6 = .ok (.istore 4, 2) := by decide +kernel
theorem d_R_least_8 : decode M_R_least.2.1 8 = .ok (.iconst 0, 1) := by decide +kernel
theorem d_R_least_9 : decode M_R_least.2.1 9 = .ok (.istore 5, 2) := by decide +kernel
theorem d_R_least_11 : decode M_R_least.2.1 11 = .ok (.iload 4, 2) := by decide +kernel
theorem d_R_least_13 : decode M_R_least.2.1 13 = .ok (.iload 5, 2) := by decide +kernel
theorem d_R_least_15 : decode M_R_least.2.1 15 = .ok (.imul, 1) := by decide +kernel
theorem d_R_least_16 : decode M_R_least.2.1 16 = .ok (.iload_n 0, 1) := by decide +kernel
theorem d_R_least_17 : decode M_R_least.2.1 17 = .ok (.iload_n 1, 1) := by decide +kernel
theorem d_R_least_18 : decode M_R_least.2.1 18 = .ok (.iload_n 2, 1) := by decide +kernel
theorem d_R_least_19 : decode M_R_least.2.1 19 = .ok (.invokestatic 126, 3) := by decide +kernel
theorem d_R_least_22 : decode M_R_least.2.1 22 = .ok (.iadd, 1) := by decide +kernel
theorem d_R_least_23 : decode M_R_least.2.1 23 = .ok (.iload_n 3, 1) := by decide +kernel
theorem d_R_least_24 : decode M_R_least.2.1 24 = .ok (.if_icmp .ge (9), 3) := by decide +kernel
theorem d_R_least_27 : decode M_R_least.2.1 27 = .ok (.iinc 5 (1), 3) := by decide +kernel
theorem d_R_least_30 : decode M_R_least.2.1 30 = .ok (.goto (-19), 3) := by decide +kernel
theorem d_R_least_33 : decode M_R_least.2.1 33 = .ok (.iload 5, 2) := by decide +kernel
theorem d_R_least_35 : decode M_R_least.2.1 35 = .ok (.ireturn, 1) := by decide +kernel
theorem d_R_start_0 : decode M_R_start.2.1 0 = .ok (.aload_n 0, 1) := by decide +kernel
theorem d_R_start_1 : decode M_R_start.2.1 1 = .ok (.getfield 22, 3) := by decide +kernel
theorem d_R_start_4 : decode M_R_start.2.1 4 = .ok (.ifCond .eq (20), 3) := by decide +kernel
theorem d_R_start_7 : decode M_R_start.2.1 7 = .ok (.iload_n 1, 1) := by decide +kernel
theorem d_R_start_8 : decode M_R_start.2.1 8 = .ok (.iconst 1, 1) := by decide +kernel
theorem d_R_start_9 : decode M_R_start.2.1 9 = .ok (.if_icmp .lt (15), 3) := by decide +kernel
theorem d_R_start_12 : decode M_R_start.2.1 12 = .ok (.iload_n 1, 1) := by decide +kernel
theorem d_R_start_13 : decode M_R_start.2.1 13 = .ok (.iconst 4, 1) := by decide +kernel
theorem d_R_start_14 : decode M_R_start.2.1 14 = .ok (.if_icmp .gt (10), 3) := by decide +kernel
theorem d_R_start_17 : decode M_R_start.2.1 17 = .ok (.iload_n 2, 1) := by decide +kernel
theorem d_R_start_18 : decode M_R_start.2.1 18 = .ok (.invokestatic 130, 3) := by decide +kernel
theorem d_R_start_21 : decode M_R_start.2.1 21 = .ok (.ifCond .ne (7), 3) := by decide +kernel
theorem d_R_start_24 : decode M_R_start.2.1 24 = .ok (.iconst (-1), 1) := by decide +kernel
theorem d_R_start_25 : decode M_R_start.2.1 25 = .ok (.goto (24), 3) := by decide +kernel
theorem d_R_start_28 : decode M_R_start.2.1 28 = .ok (.iload_n 1, 1) := by decide +kernel
theorem d_R_start_29 : decode M_R_start.2.1 29 = .ok (.iload_n 2, 1) := by decide +kernel
theorem d_R_start_30 : decode M_R_start.2.1 30 = .ok (.iload_n 3, 1) := by decide +kernel
theorem d_R_start_31 : decode M_R_start.2.1 31 = .ok (.iload_n 3, 1) := by decide +kernel
theorem d_R_start_32 : decode M_R_start.2.1 32 = .ok (.ifCond .eq (10), 3) := by decide +kernel
theorem d_R_start_35 : decode M_R_start.2.1 35 = .ok (.aload_n 0, 1) := by decide +kernel
theorem d_R_start_36 : decode M_R_start.2.1 36 = .ok (.getfield 33, 3) := by decide +kernel
theorem d_R_start_39 : decode M_R_start.2.1 39 = .ok (.goto (7), 3) := by decide +kernel
theorem d_R_start_42 : decode M_R_start.2.1 42 = .ok (.aload_n 0, 1) := by decide +kernel
theorem d_R_start_43 : decode M_R_start.2.1 43 = .ok (.getfield 26, 3) := by decide +kernel
theorem d_R_start_46 : decode M_R_start.2.1 46 = .ok (.invokestatic 133, 3) := by decide +kernel
theorem d_R_start_49 : decode M_R_start.2.1 49 = .ok (.ireturn, 1) := by decide +kernel
theorem d_R_size_0 : decode M_R_size.2.1 0 = .ok (.aload_n 0, 1) := by decide +kernel
theorem d_R_size_1 : decode M_R_size.2.1 1 = .ok (.getfield 22, 3) := by decide +kernel
theorem d_R_size_4 : decode M_R_size.2.1 4 = .ok (.ifCond .eq (20), 3) := by decide +kernel
theorem d_R_size_7 : decode M_R_size.2.1 7 = .ok (.iload_n 1, 1) := by decide +kernel
theorem d_R_size_8 : decode M_R_size.2.1 8 = .ok (.iconst 1, 1) := by decide +kernel
theorem d_R_size_9 : decode M_R_size.2.1 9 = .ok (.if_icmp .lt (15), 3) := by decide +kernel
theorem d_R_size_12 : decode M_R_size.2.1 12 = .ok (.iload_n 1, 1) := by decide +kernel
theorem d_R_size_13 : decode M_R_size.2.1 13 = .ok (.iconst 4, 1) := by decide +kernel
theorem d_R_size_14 : decode M_R_size.2.1 14 = .ok (.if_icmp .gt (10), 3) := by decide +kernel
theorem d_R_size_17 : decode M_R_size.2.1 17 = .ok (.iload_n 2, 1) := by decide +kernel
theorem d_R_size_18 : decode M_R_size.2.1 18 = .ok (.invokestatic 130, 3) := by decide +kernel
theorem d_R_size_21 : decode M_R_size.2.1 21 = .ok (.ifCond .ne (5), 3) := by decide +kernel
theorem d_R_size_24 : decode M_R_size.2.1 24 = .ok (.iconst (-1), 1) := by decide +kernel
theorem d_R_size_25 : decode M_R_size.2.1 25 = .ok (.ireturn, 1) := by decide +kernel
theorem d_R_size_26 : decode M_R_size.2.1 26 = .ok (.iconst 0, 1) := by decide +kernel
theorem d_R_size_27 : decode M_R_size.2.1 27 = .ok (.istore 4, 2) := by decide +kernel
theorem d_R_size_29 : decode M_R_size.2.1 29 = .ok (.iconst 0, 1) := by decide +kernel
theorem d_R_size_30 : decode M_R_size.2.1 30 = .ok (.istore 5, 2) := by decide +kernel
theorem d_R_size_32 : decode M_R_size.2.1 32 = .ok (.iload 5, 2) := by decide +kernel
theorem d_R_size_34 : decode M_R_size.2.1 34 = .ok (.iload_n 3, 1) := by decide +kernel
theorem d_R_size_35 : decode M_R_size.2.1 35 = .ok (.ifCond .eq (10), 3) := by decide +kernel
theorem d_R_size_38 : decode M_R_size.2.1 38 = .ok (.aload_n 0, 1) := by decide +kernel
theorem d_R_size_39 : decode M_R_size.2.1 39 = .ok (.getfield 36, 3) := by decide +kernel
theorem d_R_size_42 : decode M_R_size.2.1 42 = .ok (.goto (7), 3) := by decide +kernel
theorem d_R_size_45 : decode M_R_size.2.1 45 = .ok (.aload_n 0, 1) := by decide +kernel
theorem d_R_size_46 : decode M_R_size.2.1 46 = .ok (.getfield 30, 3) := by decide +kernel
theorem d_R_size_49 : decode M_R_size.2.1 49 = .ok (.if_icmp .ge (59), 3) := by decide +kernel
theorem d_R_size_52 : decode M_R_size.2.1 52 = .ok (.iload_n 3, 1) := by decide +kernel
theorem d_R_size_53 : decode M_R_size.2.1 53 = .ok (.ifCond .eq (10), 3) := by decide +kernel
theorem d_R_size_56 : decode M_R_size.2.1 56 = .ok (.aload_n 0, 1) := by decide +kernel
theorem d_R_size_57 : decode M_R_size.2.1 57 = .ok (.getfield 33, 3) := by decide +kernel
theorem d_R_size_60 : decode M_R_size.2.1 60 = .ok (.goto (7), 3) := by decide +kernel
theorem d_R_size_63 : decode M_R_size.2.1 63 = .ok (.aload_n 0, 1) := by decide +kernel
theorem d_R_size_64 : decode M_R_size.2.1 64 = .ok (.getfield 26, 3) := by decide +kernel
theorem d_R_size_67 : decode M_R_size.2.1 67 = .ok (.iload 5, 2) := by decide +kernel
theorem d_R_size_69 : decode M_R_size.2.1 69 = .ok (.iadd, 1) := by decide +kernel
theorem d_R_size_70 : decode M_R_size.2.1 70 = .ok (.iload_n 1, 1) := by decide +kernel
theorem d_R_size_71 : decode M_R_size.2.1 71 = .ok (.iload_n 2, 1) := by decide +kernel
theorem d_R_size_72 : decode M_R_size.2.1 72 = .ok (.iload_n 3, 1) := by decide +kernel
theorem d_R_size_73 : decode M_R_size.2.1 73 = .ok (.invokestatic 126, 3) := by decide +kernel
theorem d_R_size_76 : decode M_R_size.2.1 76 = .ok (.isub, 1) := by decide +kernel
theorem d_R_size_77 : decode M_R_size.2.1 77 = .ok (.istore 6, 2) := by decide +kernel
theorem d_R_size_79 : decode M_R_size.2.1 79 = .ok (.iload 6, 2) := by decide +kernel
theorem d_R_size_81 : decode M_R_size.2.1 81 = .ok (.iconst 2, 1) := by decide +kernel
theorem d_R_size_82 : decode M_R_size.2.1 82 = .ok (.iload_n 1, 1) := by decide +kernel
theorem d_R_size_83 : decode M_R_size.2.1 83 = .ok (.invokestatic 113, 3) := by decide +kernel
theorem d_R_size_86 : decode M_R_size.2.1 86 = .ok (.imul, 1) := by decide +kernel
theorem d_R_size_87 : decode M_R_size.2.1 87 = .ok (.irem, 1) := by decide +kernel
theorem d_R_size_88 : decode M_R_size.2.1 88 = .ok (.ifCond .ne (10), 3) := by decide +kernel
theorem d_R_size_91 : decode M_R_size.2.1 91 = .ok (.iload 4, 2) := by decide +kernel
theorem d_R_size_93 : decode M_R_size.2.1 93 = .ok (.iconst 1, 1) := by decide +kernel
theorem d_R_size_94 : decode M_R_size.2.1 94 = .ok (.iadd, 1) := by decide +kernel
theorem d_R_size_95 : decode M_R_size.2.1 95 = .ok (.goto (5), 3) := by decide +kernel
theorem d_R_size_98 : decode M_R_size.2.1 98 = .ok (.iload 4, 2) := by decide +kernel
theorem d_R_size_100 : decode M_R_size.2.1 100 = .ok (.istore 4, 2) := by decide +kernel
theorem d_R_size_102 : decode M_R_size.2.1 102 = .ok (.iinc 5 (1), 3) := by decide +kernel
theorem d_R_size_105 : decode M_R_size.2.1 105 = .ok (.goto (-73), 3) := by decide +kernel
theorem d_R_size_108 : decode M_R_size.2.1 108 = .ok (.iload 4, 2) := by decide +kernel
theorem d_R_size_110 : decode M_R_size.2.1 110 = .ok (.ireturn, 1) := by decide +kernel
theorem d_R_thinned_0 : decode M_R_thinned.2.1 0 = .ok (.iload_n 0, 1) := by decide +kernel
theorem d_R_thinned_1 : decode M_R_thinned.2.1 1 = .ok (.invokestatic 141, 3) := by decide +kernel
theorem d_R_thinned_4 : decode M_R_thinned.2.1 4 = .ok (.iload_n 1, 1) := by decide +kernel
theorem d_R_thinned_5 : decode M_R_thinned.2.1 5 = .ok (.i2l, 1) := by decide +kernel
theorem d_R_thinned_6 : decode M_R_thinned.2.1 6 = .ok (.ldiv, 1) := by decide +kernel
theorem d_R_thinned_7 : decode M_R_thinned.2.1 7 = .ok (.lstore_n 2, 1) := by decide +kernel
theorem d_R_thinned_8 : decode M_R_thinned.2.1 8 = .ok (.lload_n 2, 1) := by decide +kernel
theorem d_R_thinned_9 : decode M_R_thinned.2.1 9 = .ok (.lconst 0, 1) := by decide +kernel
theorem d_R_thinned_10 : decode M_R_thinned.2.1 10 = .ok (.lcmp, 1) := by decide +kernel
theorem d_R_thinned_11 : decode M_R_thinned.2.1 11 = .ok (.ifCond .ne (7), 3) := by decide +kernel
theorem d_R_thinned_14 : decode M_R_thinned.2.1 14 = .ok (.lconst 0, 1) := by decide +kernel
theorem d_R_thinned_15 : decode M_R_thinned.2.1 15 = .ok (.goto (12), 3) := by decide +kernel
theorem d_R_thinned_18 : decode M_R_thinned.2.1 18 = .ok (.lload_n 2, 1) := by decide +kernel
theorem d_R_thinned_19 : decode M_R_thinned.2.1 19 = .ok (.iload_n 1, 1) := by decide +kernel
theorem d_R_thinned_20 : decode M_R_thinned.2.1 20 = .ok (.i2l, 1) := by decide +kernel
theorem d_R_thinned_21 : decode M_R_thinned.2.1 21 = .ok (.lmul, 1) := by decide +kernel
theorem d_R_thinned_22 : decode M_R_thinned.2.1 22 = .ok (.iload_n 1, 1) := by decide +kernel
theorem d_R_thinned_23 : decode M_R_thinned.2.1 23 = .ok (.iconst 2, 1) := by decide +kernel
theorem d_R_thinned_24 : decode M_R_thinned.2.1 24 = .ok (.idiv, 1) := by decide +kernel
theorem d_R_thinned_25 : decode M_R_thinned.2.1 25 = .ok (.i2l, 1) := by decide +kernel
theorem d_R_thinned_26 : decode M_R_thinned.2.1 26 = .ok (.ladd, 1) := by decide +kernel
theorem d_R_thinned_27 : decode M_R_thinned.2.1 27 = .ok (.lstore 4, 2) := by decide +kernel
theorem d_R_thinned_29 : decode M_R_thinned.2.1 29 = .ok (.iload_n 0, 1) := by decide +kernel
theorem d_R_thinned_30 : decode M_R_thinned.2.1 30 = .ok (.ifCond .ge (9), 3) := by decide +kernel
theorem d_R_thinned_33 : decode M_R_thinned.2.1 33 = .ok (.lload 4, 2) := by decide +kernel
theorem d_R_thinned_35 : decode M_R_thinned.2.1 35 = .ok (.lneg, 1) := by decide +kernel
theorem d_R_thinned_36 : decode M_R_thinned.2.1 36 = .ok (.goto (5), 3) := by decide +kernel
theorem d_R_thinned_39 : decode M_R_thinned.2.1 39 = .ok (.lload 4, 2) := by decide +kernel
theorem d_R_thinned_41 : decode M_R_thinned.2.1 41 = .ok (.l2i, 1) := by decide +kernel
theorem d_R_thinned_42 : decode M_R_thinned.2.1 42 = .ok (.ireturn, 1) := by decide +kernel
theorem d_R_thin_0 : decode M_R_thin.2.1 0 = .ok (.aload_n 0, 1) := by decide +kernel
theorem d_R_thin_1 : decode M_R_thin.2.1 1 = .ok (.iload_n 1, 1) := by decide +kernel
theorem d_R_thin_2 : decode M_R_thin.2.1 2 = .ok (.invokevirtual 123, 3) := by decide +kernel
theorem d_R_thin_5 : decode M_R_thin.2.1 5 = .ok (.ifCond .eq (34), 3) := by decide +kernel
theorem d_R_thin_8 : decode M_R_thin.2.1 8 = .ok (.iload_n 2, 1) := by decide +kernel
theorem d_R_thin_9 : decode M_R_thin.2.1 9 = .ok (.invokestatic 130, 3) := by decide +kernel
theorem d_R_thin_12 : decode M_R_thin.2.1 12 = .ok (.ifCond .eq (27), 3) := by decide +kernel
theorem d_R_thin_15 : decode M_R_thin.2.1 15 = .ok (.iload_n 2, 1) := by decide +kernel
theorem d_R_thin_16 : decode M_R_thin.2.1 16 = .ok (.ifCond .ne (11), 3) := by decide +kernel
theorem d_R_thin_19 : decode M_R_thin.2.1 19 = .ok (.iload_n 1, 1) := by decide +kernel
theorem d_R_thin_20 : decode M_R_thin.2.1 20 = .ok (.aload_n 0, 1) := by decide +kernel
theorem d_R_thin_21 : decode M_R_thin.2.1 21 = .ok (.getfield 42, 3) := by decide +kernel
theorem d_R_thin_24 : decode M_R_thin.2.1 24 = .ok (.if_icmp .ne (15), 3) := by decide +kernel
theorem d_R_thin_27 : decode M_R_thin.2.1 27 = .ok (.iload_n 3, 1) := by decide +kernel
theorem d_R_thin_28 : decode M_R_thin.2.1 28 = .ok (.iconst 1, 1) := by decide +kernel
theorem d_R_thin_29 : decode M_R_thin.2.1 29 = .ok (.if_icmp .lt (10), 3) := by decide +kernel
theorem d_R_thin_32 : decode M_R_thin.2.1 32 = .ok (.iload_n 3, 1) := by decide +kernel
theorem d_R_thin_33 : decode M_R_thin.2.1 33 = .ok (.sipush (32767), 3) := by decide +kernel
theorem d_R_thin_36 : decode M_R_thin.2.1 36 = .ok (.if_icmp .le (5), 3) := by decide +kernel
theorem d_R_thin_39 : decode M_R_thin.2.1 39 = .ok (.iconst (-1), 1) := by decide +kernel
theorem d_R_thin_40 : decode M_R_thin.2.1 40 = .ok (.ireturn, 1) := by decide +kernel
theorem d_R_thin_41 : decode M_R_thin.2.1 41 = .ok (.iconst 0, 1) := by decide +kernel
theorem d_R_thin_42 : decode M_R_thin.2.1 42 = .ok (.istore 4, 2) := by decide +kernel
theorem d_R_thin_44 : decode M_R_thin.2.1 44 = .ok (.iconst 0, 1) := by decide +kernel
theorem d_R_thin_45 : decode M_R_thin.2.1 45 = .ok (.istore 5, 2) := by decide +kernel
theorem d_R_thin_47 : decode M_R_thin.2.1 47 = .ok (.iload 5, 2) := by decide +kernel
theorem d_R_thin_49 : decode M_R_thin.2.1 49 = .ok (.sipush (768), 3) := by decide +kernel
theorem d_R_thin_52 : decode M_R_thin.2.1 52 = .ok (.if_icmp .ge (107), 3) := by decide +kernel
theorem d_R_thin_55 : decode M_R_thin.2.1 55 = .ok (.aload_n 0, 1) := by decide +kernel
theorem d_R_thin_56 : decode M_R_thin.2.1 56 = .ok (.getfield 26, 3) := by decide +kernel
theorem d_R_thin_59 : decode M_R_thin.2.1 59 = .ok (.iload 5, 2) := by decide +kernel
theorem d_R_thin_61 : decode M_R_thin.2.1 61 = .ok (.bipush (16), 2) := by decide +kernel
theorem d_R_thin_63 : decode M_R_thin.2.1 63 = .ok (.irem, 1) := by decide +kernel
theorem d_R_thin_64 : decode M_R_thin.2.1 64 = .ok (.iadd, 1) := by decide +kernel
theorem d_R_thin_65 : decode M_R_thin.2.1 65 = .ok (.istore 6, 2) := by decide +kernel
theorem d_R_thin_67 : decode M_R_thin.2.1 67 = .ok (.aload_n 0, 1) := by decide +kernel
theorem d_R_thin_68 : decode M_R_thin.2.1 68 = .ok (.getfield 33, 3) := by decide +kernel
theorem d_R_thin_71 : decode M_R_thin.2.1 71 = .ok (.iload 5, 2) := by decide +kernel
theorem d_R_thin_73 : decode M_R_thin.2.1 73 = .ok (.bipush (16), 2) := by decide +kernel
theorem d_R_thin_75 : decode M_R_thin.2.1 75 = .ok (.idiv, 1) := by decide +kernel
theorem d_R_thin_76 : decode M_R_thin.2.1 76 = .ok (.bipush (16), 2) := by decide +kernel
theorem d_R_thin_78 : decode M_R_thin.2.1 78 = .ok (.irem, 1) := by decide +kernel
theorem d_R_thin_79 : decode M_R_thin.2.1 79 = .ok (.iadd, 1) := by decide +kernel
theorem d_R_thin_80 : decode M_R_thin.2.1 80 = .ok (.istore 7, 2) := by decide +kernel
theorem d_R_thin_82 : decode M_R_thin.2.1 82 = .ok (.aload_n 0, 1) := by decide +kernel
theorem d_R_thin_83 : decode M_R_thin.2.1 83 = .ok (.iload 6, 2) := by decide +kernel
theorem d_R_thin_85 : decode M_R_thin.2.1 85 = .ok (.iload 7, 2) := by decide +kernel
theorem d_R_thin_87 : decode M_R_thin.2.1 87 = .ok (.invokevirtual 49, 3) := by decide +kernel
theorem d_R_thin_90 : decode M_R_thin.2.1 90 = .ok (.ifCond .eq (63), 3) := by decide +kernel
theorem d_R_thin_93 : decode M_R_thin.2.1 93 = .ok (.iload_n 1, 1) := by decide +kernel
theorem d_R_thin_94 : decode M_R_thin.2.1 94 = .ok (.iload_n 2, 1) := by decide +kernel
theorem d_R_thin_95 : decode M_R_thin.2.1 95 = .ok (.iload 6, 2) := by decide +kernel
theorem d_R_thin_97 : decode M_R_thin.2.1 97 = .ok (.iload 7, 2) := by decide +kernel
theorem d_R_thin_99 : decode M_R_thin.2.1 99 = .ok (.invokestatic 145, 3) := by decide +kernel
theorem d_R_thin_102 : decode M_R_thin.2.1 102 = .ok (.ifCond .eq (51), 3) := by decide +kernel
theorem d_R_thin_105 : decode M_R_thin.2.1 105 = .ok (.aload_n 0, 1) := by decide +kernel
theorem d_R_thin_106 : decode M_R_thin.2.1 106 = .ok (.getfield 13, 3) := by decide +kernel
theorem d_R_thin_109 : decode M_R_thin.2.1 109 = .ok (.iload 5, 2) := by decide +kernel
theorem d_R_thin_111 : decode M_R_thin.2.1 111 = .ok (.iaload, 1) := by decide +kernel
theorem d_R_thin_112 : decode M_R_thin.2.1 112 = .ok (.istore 8, 2) := by decide +kernel
theorem d_R_thin_114 : decode M_R_thin.2.1 114 = .ok (.aload_n 0, 1) := by decide +kernel
theorem d_R_thin_115 : decode M_R_thin.2.1 115 = .ok (.getfield 13, 3) := by decide +kernel
theorem d_R_thin_118 : decode M_R_thin.2.1 118 = .ok (.iload 5, 2) := by decide +kernel
theorem d_R_thin_120 : decode M_R_thin.2.1 120 = .ok (.iload 8, 2) := by decide +kernel
theorem d_R_thin_122 : decode M_R_thin.2.1 122 = .ok (.iload_n 3, 1) := by decide +kernel
theorem d_R_thin_123 : decode M_R_thin.2.1 123 = .ok (.invokestatic 149, 3) := by decide +kernel
theorem d_R_thin_126 : decode M_R_thin.2.1 126 = .ok (.iastore, 1) := by decide +kernel
theorem d_R_thin_127 : decode M_R_thin.2.1 127 = .ok (.iload 8, 2) := by decide +kernel
theorem d_R_thin_129 : decode M_R_thin.2.1 129 = .ok (.ifCond .eq (20), 3) := by decide +kernel
theorem d_R_thin_132 : decode M_R_thin.2.1 132 = .ok (.aload_n 0, 1) := by decide +kernel
theorem d_R_thin_133 : decode M_R_thin.2.1 133 = .ok (.getfield 13, 3) := by decide +kernel
theorem d_R_thin_136 : decode M_R_thin.2.1 136 = .ok (.iload 5, 2) := by decide +kernel
theorem d_R_thin_138 : decode M_R_thin.2.1 138 = .ok (.iaload, 1) := by decide +kernel
theorem d_R_thin_139 : decode M_R_thin.2.1 139 = .ok (.ifCond .ne (10), 3) := by decide +kernel
theorem d_R_thin_142 : decode M_R_thin.2.1 142 = .ok (.iload 4, 2) := by decide +kernel
theorem d_R_thin_144 : decode M_R_thin.2.1 144 = .ok (.iconst 1, 1) := by decide +kernel
theorem d_R_thin_145 : decode M_R_thin.2.1 145 = .ok (.iadd, 1) := by decide +kernel
theorem d_R_thin_146 : decode M_R_thin.2.1 146 = .ok (.goto (5), 3) := by decide +kernel
theorem d_R_thin_149 : decode M_R_thin.2.1 149 = .ok (.iload 4, 2) := by decide +kernel
theorem d_R_thin_151 : decode M_R_thin.2.1 151 = .ok (.istore 4, 2) := by decide +kernel
theorem d_R_thin_153 : decode M_R_thin.2.1 153 = .ok (.iinc 5 (1), 3) := by decide +kernel
theorem d_R_thin_156 : decode M_R_thin.2.1 156 = .ok (.goto (-109), 3) := by decide +kernel
theorem d_R_thin_159 : decode M_R_thin.2.1 159 = .ok (.iload 4, 2) := by decide +kernel
theorem d_R_thin_161 : decode M_R_thin.2.1 161 = .ok (.ireturn, 1) := by decide +kernel
theorem d_R_weight_0 : decode M_R_weight.2.1 0 = .ok (.aload_n 0, 1) := by decide +kernel
theorem d_R_weight_1 : decode M_R_weight.2.1 1 = .ok (.iload_n 2, 1) := by decide +kernel
theorem d_R_weight_2 : decode M_R_weight.2.1 2 = .ok (.invokevirtual 123, 3) := by decide +kernel
theorem d_R_weight_5 : decode M_R_weight.2.1 5 = .ok (.ifCond .eq (17), 3) := by decide +kernel
theorem d_R_weight_8 : decode M_R_weight.2.1 8 = .ok (.iload_n 3, 1) := by decide +kernel
theorem d_R_weight_9 : decode M_R_weight.2.1 9 = .ok (.invokestatic 130, 3) := by decide +kernel
theorem d_R_weight_12 : decode M_R_weight.2.1 12 = .ok (.ifCond .eq (10), 3) := by decide +kernel
theorem d_R_weight_15 : decode M_R_weight.2.1 15 = .ok (.iload_n 1, 1) := by decide +kernel
theorem d_R_weight_16 : decode M_R_weight.2.1 16 = .ok (.invokestatic 45, 3) := by decide +kernel
theorem d_R_weight_19 : decode M_R_weight.2.1 19 = .ok (.ifCond .ne (7), 3) := by decide +kernel
theorem d_R_weight_22 : decode M_R_weight.2.1 22 = .ok (.ldc2_w 152, 3) := by decide +kernel
theorem d_R_weight_25 : decode M_R_weight.2.1 25 = .ok (.lreturn, 1) := by decide +kernel
theorem d_R_weight_26 : decode M_R_weight.2.1 26 = .ok (.lconst 0, 1) := by decide +kernel
theorem d_R_weight_27 : decode M_R_weight.2.1 27 = .ok (.lstore 4, 2) := by decide +kernel
theorem d_R_weight_29 : decode M_R_weight.2.1 29 = .ok (.aload_n 0, 1) := by decide +kernel
theorem d_R_weight_30 : decode M_R_weight.2.1 30 = .ok (.getfield 33, 3) := by decide +kernel
theorem d_R_weight_33 : decode M_R_weight.2.1 33 = .ok (.istore 6, 2) := by decide +kernel
theorem d_R_weight_35 : decode M_R_weight.2.1 35 = .ok (.iload 6, 2) := by decide +kernel
theorem d_R_weight_37 : decode M_R_weight.2.1 37 = .ok (.aload_n 0, 1) := by decide +kernel
theorem d_R_weight_38 : decode M_R_weight.2.1 38 = .ok (.getfield 33, 3) := by decide +kernel
theorem d_R_weight_41 : decode M_R_weight.2.1 41 = .ok (.aload_n 0, 1) := by decide +kernel
theorem d_R_weight_42 : decode M_R_weight.2.1 42 = .ok (.getfield 36, 3) := by decide +kernel
theorem d_R_weight_45 : decode M_R_weight.2.1 45 = .ok (.iadd, 1) := by decide +kernel
theorem d_R_weight_46 : decode M_R_weight.2.1 46 = .ok (.if_icmp .ge (68), 3) := by decide +kernel
theorem d_R_weight_49 : decode M_R_weight.2.1 49 = .ok (.aload_n 0, 1) := by decide +kernel
theorem d_R_weight_50 : decode M_R_weight.2.1 50 = .ok (.getfield 26, 3) := by decide +kernel
theorem d_R_weight_53 : decode M_R_weight.2.1 53 = .ok (.istore 7, 2) := by decide +kernel
theorem d_R_weight_55 : decode M_R_weight.2.1 55 = .ok (.iload 7, 2) := by decide +kernel
theorem d_R_weight_57 : decode M_R_weight.2.1 57 = .ok (.aload_n 0, 1) := by decide +kernel
theorem d_R_weight_58 : decode M_R_weight.2.1 58 = .ok (.getfield 26, 3) := by decide +kernel
theorem d_R_weight_61 : decode M_R_weight.2.1 61 = .ok (.aload_n 0, 1) := by decide +kernel
theorem d_R_weight_62 : decode M_R_weight.2.1 62 = .ok (.getfield 30, 3) := by decide +kernel
theorem d_R_weight_65 : decode M_R_weight.2.1 65 = .ok (.iadd, 1) := by decide +kernel
theorem d_R_weight_66 : decode M_R_weight.2.1 66 = .ok (.if_icmp .ge (42), 3) := by decide +kernel
theorem d_R_weight_69 : decode M_R_weight.2.1 69 = .ok (.lload 4, 2) := by decide +kernel
theorem d_R_weight_71 : decode M_R_weight.2.1 71 = .ok (.iload_n 2, 1) := by decide +kernel
theorem d_R_weight_72 : decode M_R_weight.2.1 72 = .ok (.iload_n 3, 1) := by decide +kernel
theorem d_R_weight_73 : decode M_R_weight.2.1 73 = .ok (.iload 7, 2) := by decide +kernel
theorem d_R_weight_75 : decode M_R_weight.2.1 75 = .ok (.iload 6, 2) := by decide +kernel
theorem d_R_weight_77 : decode M_R_weight.2.1 77 = .ok (.invokestatic 145, 3) := by decide +kernel
theorem d_R_weight_80 : decode M_R_weight.2.1 80 = .ok (.ifCond .eq (18), 3) := by decide +kernel
theorem d_R_weight_83 : decode M_R_weight.2.1 83 = .ok (.aload_n 0, 1) := by decide +kernel
theorem d_R_weight_84 : decode M_R_weight.2.1 84 = .ok (.iload_n 1, 1) := by decide +kernel
theorem d_R_weight_85 : decode M_R_weight.2.1 85 = .ok (.iload 7, 2) := by decide +kernel
theorem d_R_weight_87 : decode M_R_weight.2.1 87 = .ok (.iload 6, 2) := by decide +kernel
theorem d_R_weight_89 : decode M_R_weight.2.1 89 = .ok (.invokevirtual 99, 3) := by decide +kernel
theorem d_R_weight_92 : decode M_R_weight.2.1 92 = .ok (.invokestatic 141, 3) := by decide +kernel
theorem d_R_weight_95 : decode M_R_weight.2.1 95 = .ok (.goto (4), 3) := by decide +kernel
theorem d_R_weight_98 : decode M_R_weight.2.1 98 = .ok (.lconst 0, 1) := by decide +kernel
theorem d_R_weight_99 : decode M_R_weight.2.1 99 = .ok (.ladd, 1) := by decide +kernel
theorem d_R_weight_100 : decode M_R_weight.2.1 100 = .ok (.lstore 4, 2) := by decide +kernel
theorem d_R_weight_102 : decode M_R_weight.2.1 102 = .ok (.iinc 7 (1), 3) := by decide +kernel
theorem d_R_weight_105 : decode M_R_weight.2.1 105 = .ok (.goto (-50), 3) := by decide +kernel
theorem d_R_weight_108 : decode M_R_weight.2.1 108 = .ok (.iinc 6 (1), 3) := by decide +kernel
theorem d_R_weight_111 : decode M_R_weight.2.1 111 = .ok (.goto (-76), 3) := by decide +kernel
theorem d_R_weight_114 : decode M_R_weight.2.1 114 = .ok (.lload 4, 2) := by decide +kernel
theorem d_R_weight_116 : decode M_R_weight.2.1 116 = .ok (.lreturn, 1) := by decide +kernel
