theorem d_T_open_0 : decode M_T_open.2.1 0 = .ok (.iload_n 1, 1) := by decide +kernel
theorem d_T_open_1 : decode M_T_open.2.1 1 = .ok (.invokestatic 43, 3) := by decide +kernel
theorem d_T_open_4 : decode M_T_open.2.1 4 = .ok (.ifCond .eq (25), 3) := by decide +kernel
theorem d_T_open_7 : decode M_T_open.2.1 7 = .ok (.iload_n 2, 1) := by decide +kernel
theorem d_T_open_8 : decode M_T_open.2.1 8 = .ok (.invokestatic 43, 3) := by decide +kernel
theorem d_T_open_11 : decode M_T_open.2.1 11 = .ok (.ifCond .eq (18), 3) := by decide +kernel
theorem d_T_open_14 : decode M_T_open.2.1 14 = .ok (.iload_n 3, 1) := by decide +kernel
theorem d_T_open_15 : decode M_T_open.2.1 15 = .ok (.invokestatic 47, 3) := by decide +kernel
theorem d_T_open_18 : decode M_T_open.2.1 18 = .ok (.ifCond .eq (11), 3) := by decide +kernel
theorem d_T_open_21 : decode M_T_open.2.1 21 = .ok (.iload 4, 2) := by decide +kernel
theorem d_T_open_23 : decode M_T_open.2.1 23 = .ok (.invokestatic 47, 3) := by decide +kernel
theorem d_T_open_26 : decode M_T_open.2.1 26 = .ok (.ifCond .ne (5), 3) := by decide +kernel
theorem d_T_open_29 : decode M_T_open.2.1 29 = .ok (.iconst 0, 1) := by decide +kernel
theorem d_T_open_30 : decode M_T_open.2.1 30 = .ok (.ireturn, 1) := by decide +kernel
theorem d_T_open_31 : decode M_T_open.2.1 31 = .ok (.aload_n 0, 1) := by decide +kernel
theorem d_T_open_32 : decode M_T_open.2.1 32 = .ok (.getfield 18, 3) := by decide +kernel
theorem d_T_open_35 : decode M_T_open.2.1 35 = .ok (.iload_n 1, 1) := by decide +kernel
theorem d_T_open_36 : decode M_T_open.2.1 36 = .ok (.iload_n 3, 1) := by decide +kernel
theorem d_T_open_37 : decode M_T_open.2.1 37 = .ok (.invokevirtual 50, 3) := by decide +kernel
theorem d_T_open_40 : decode M_T_open.2.1 40 = .ok (.aload_n 0, 1) := by decide +kernel
theorem d_T_open_41 : decode M_T_open.2.1 41 = .ok (.getfield 22, 3) := by decide +kernel
theorem d_T_open_44 : decode M_T_open.2.1 44 = .ok (.iload_n 2, 1) := by decide +kernel
theorem d_T_open_45 : decode M_T_open.2.1 45 = .ok (.iload 4, 2) := by decide +kernel
theorem d_T_open_47 : decode M_T_open.2.1 47 = .ok (.invokevirtual 50, 3) := by decide +kernel
theorem d_T_open_50 : decode M_T_open.2.1 50 = .ok (.aload_n 0, 1) := by decide +kernel
theorem d_T_open_51 : decode M_T_open.2.1 51 = .ok (.getfield 9, 3) := by decide +kernel
theorem d_T_open_54 : decode M_T_open.2.1 54 = .ok (.iconst 0, 1) := by decide +kernel
theorem d_T_open_55 : decode M_T_open.2.1 55 = .ok (.invokestatic 54, 3) := by decide +kernel
theorem d_T_open_58 : decode M_T_open.2.1 58 = .ok (.aload_n 0, 1) := by decide +kernel
theorem d_T_open_59 : decode M_T_open.2.1 59 = .ok (.iconst 0, 1) := by decide +kernel
theorem d_T_open_60 : decode M_T_open.2.1 60 = .ok (.putfield 35, 3) := by decide +kernel
theorem d_T_open_63 : decode M_T_open.2.1 63 = .ok (.aload_n 0, 1) := by decide +kernel
theorem d_T_open_64 : decode M_T_open.2.1 64 = .ok (.iconst 0, 1) := by decide +kernel
theorem d_T_open_65 : decode M_T_open.2.1 65 = .ok (.putfield 39, 3) := by decide +kernel
theorem d_T_open_68 : decode M_T_open.2.1 68 = .ok (.iconst 1, 1) := by decide +kernel
theorem d_T_open_69 : decode M_T_open.2.1 69 = .ok (.ireturn, 1) := by decide +kernel
theorem d_T_put_0 : decode M_T_put.2.1 0 = .ok (.aload_n 0, 1) := by decide +kernel
theorem d_T_put_1 : decode M_T_put.2.1 1 = .ok (.iload_n 1, 1) := by decide +kernel
theorem d_T_put_2 : decode M_T_put.2.1 2 = .ok (.iload_n 2, 1) := by decide +kernel
theorem d_T_put_3 : decode M_T_put.2.1 3 = .ok (.i2l, 1) := by decide +kernel
theorem d_T_put_4 : decode M_T_put.2.1 4 = .ok (.iload_n 3, 1) := by decide +kernel
theorem d_T_put_5 : decode M_T_put.2.1 5 = .ok (.i2l, 1) := by decide +kernel
theorem d_T_put_6 : decode M_T_put.2.1 6 = .ok (.invokevirtual 60, 3) := by decide +kernel
theorem d_T_put_9 : decode M_T_put.2.1 9 = .ok (.istore 5, 2) := by decide +kernel
theorem d_T_put_11 : decode M_T_put.2.1 11 = .ok (.iload 5, 2) := by decide +kernel
theorem d_T_put_13 : decode M_T_put.2.1 13 = .ok (.iconst (-1), 1) := by decide +kernel
theorem d_T_put_14 : decode M_T_put.2.1 14 = .ok (.if_icmp .eq (19), 3) := by decide +kernel
theorem d_T_put_17 : decode M_T_put.2.1 17 = .ok (.iload 4, 2) := by decide +kernel
theorem d_T_put_19 : decode M_T_put.2.1 19 = .ok (.sipush (-32768), 3) := by decide +kernel
theorem d_T_put_22 : decode M_T_put.2.1 22 = .ok (.if_icmp .lt (11), 3) := by decide +kernel
theorem d_T_put_25 : decode M_T_put.2.1 25 = .ok (.iload 4, 2) := by decide +kernel
theorem d_T_put_27 : decode M_T_put.2.1 27 = .ok (.sipush (32767), 3) := by decide +kernel
theorem d_T_put_30 : decode M_T_put.2.1 30 = .ok (.if_icmp .le (5), 3) := by decide +kernel
theorem d_T_put_33 : decode M_T_put.2.1 33 = .ok (.iconst 0, 1) := by decide +kernel
theorem d_T_put_34 : decode M_T_put.2.1 34 = .ok (.ireturn, 1) := by decide +kernel
theorem d_T_put_35 : decode M_T_put.2.1 35 = .ok (.aload_n 0, 1) := by decide +kernel
theorem d_T_put_36 : decode M_T_put.2.1 36 = .ok (.getfield 35, 3) := by decide +kernel
theorem d_T_put_39 : decode M_T_put.2.1 39 = .ok (.ifCond .gt (10), 3) := by decide +kernel
theorem d_T_put_42 : decode M_T_put.2.1 42 = .ok (.aload_n 0, 1) := by decide +kernel
theorem d_T_put_43 : decode M_T_put.2.1 43 = .ok (.getfield 39, 3) := by decide +kernel
theorem d_T_put_46 : decode M_T_put.2.1 46 = .ok (.ifCond .eq (5), 3) := by decide +kernel
theorem d_T_put_49 : decode M_T_put.2.1 49 = .ok (.iconst 0, 1) := by decide +kernel
theorem d_T_put_50 : decode M_T_put.2.1 50 = .ok (.ireturn, 1) := by decide +kernel
theorem d_T_put_51 : decode M_T_put.2.1 51 = .ok (.aload_n 0, 1) := by decide +kernel
theorem d_T_put_52 : decode M_T_put.2.1 52 = .ok (.getfield 9, 3) := by decide +kernel
theorem d_T_put_55 : decode M_T_put.2.1 55 = .ok (.iload 5, 2) := by decide +kernel
theorem d_T_put_57 : decode M_T_put.2.1 57 = .ok (.iload 4, 2) := by decide +kernel
theorem d_T_put_59 : decode M_T_put.2.1 59 = .ok (.iastore, 1) := by decide +kernel
theorem d_T_put_60 : decode M_T_put.2.1 60 = .ok (.iconst 1, 1) := by decide +kernel
theorem d_T_put_61 : decode M_T_put.2.1 61 = .ok (.ireturn, 1) := by decide +kernel
theorem d_T_at_0 : decode M_T_at.2.1 0 = .ok (.aload_n 0, 1) := by decide +kernel
theorem d_T_at_1 : decode M_T_at.2.1 1 = .ok (.aload_n 0, 1) := by decide +kernel
theorem d_T_at_2 : decode M_T_at.2.1 2 = .ok (.iload_n 1, 1) := by decide +kernel
theorem d_T_at_3 : decode M_T_at.2.1 3 = .ok (.iload_n 2, 1) := by decide +kernel
theorem d_T_at_4 : decode M_T_at.2.1 4 = .ok (.i2l, 1) := by decide +kernel
theorem d_T_at_5 : decode M_T_at.2.1 5 = .ok (.iload_n 3, 1) := by decide +kernel
theorem d_T_at_6 : decode M_T_at.2.1 6 = .ok (.i2l, 1) := by decide +kernel
theorem d_T_at_7 : decode M_T_at.2.1 7 = .ok (.invokevirtual 60, 3) := by decide +kernel
theorem d_T_at_10 : decode M_T_at.2.1 10 = .ok (.invokevirtual 64, 3) := by decide +kernel
theorem d_T_at_13 : decode M_T_at.2.1 13 = .ok (.ireturn, 1) := by decide +kernel
theorem d_T_mix_0 : decode M_T_mix.2.1 0 = .ok (.aload_n 0, 1) := by decide +kernel
theorem d_T_mix_1 : decode M_T_mix.2.1 1 = .ok (.invokevirtual 68, 3) := by decide +kernel
theorem d_T_mix_4 : decode M_T_mix.2.1 4 = .ok (.ifCond .eq (17), 3) := by decide +kernel
theorem d_T_mix_7 : decode M_T_mix.2.1 7 = .ok (.aload_n 0, 1) := by decide +kernel
theorem d_T_mix_8 : decode M_T_mix.2.1 8 = .ok (.getfield 35, 3) := by decide +kernel
theorem d_T_mix_11 : decode M_T_mix.2.1 11 = .ok (.ifCond .gt (10), 3) := by decide +kernel
theorem d_T_mix_14 : decode M_T_mix.2.1 14 = .ok (.aload_n 0, 1) := by decide +kernel
theorem d_T_mix_15 : decode M_T_mix.2.1 15 = .ok (.getfield 39, 3) := by decide +kernel
theorem d_T_mix_18 : decode M_T_mix.2.1 18 = .ok (.ifCond .eq (5), 3) := by decide +kernel
theorem d_T_mix_21 : decode M_T_mix.2.1 21 = .ok (.iconst 0, 1) := by decide +kernel
theorem d_T_mix_22 : decode M_T_mix.2.1 22 = .ok (.ireturn, 1) := by decide +kernel
theorem d_T_mix_23 : decode M_T_mix.2.1 23 = .ok (.iconst 0, 1) := by decide +kernel
theorem d_T_mix_24 : decode M_T_mix.2.1 24 = .ok (.istore_n 1, 1) := by decide +kernel
theorem d_T_mix_25 : decode M_T_mix.2.1 25 = .ok (.iload_n 1, 1) := by decide +kernel
theorem d_T_mix_26 : decode M_T_mix.2.1 26 = .ok (.sipush (256), 3) := by decide +kernel
theorem d_T_mix_29 : decode M_T_mix.2.1 29 = .ok (.if_icmp .ge (14), 3) := by decide +kernel
theorem d_T_mix_32 : decode M_T_mix.2.1 32 = .ok (.aload_n 0, 1) := by decide +kernel
theorem d_T_mix_33 : decode M_T_mix.2.1 33 = .ok (.iload_n 1, 1) := by decide +kernel
theorem d_T_mix_34 : decode M_T_mix.2.1 34 = .ok (.invokevirtual 72, 3) := by decide +kernel
theorem d_T_mix_37 : decode M_T_mix.2.1 37 = .ok (.iinc 1 (1), 3) := by decide +kernel
theorem d_T_mix_40 : decode M_T_mix.2.1 40 = .ok (.goto (-15), 3) := by decide +kernel
theorem d_T_mix_43 : decode M_T_mix.2.1 43 = .ok (.aload_n 0, 1) := by decide +kernel
theorem d_T_mix_44 : decode M_T_mix.2.1 44 = .ok (.iconst 1, 1) := by decide +kernel
theorem d_T_mix_45 : decode M_T_mix.2.1 45 = .ok (.putfield 39, 3) := by decide +kernel
theorem d_T_mix_48 : decode M_T_mix.2.1 48 = .ok (.iconst 1, 1) := by decide +kernel
theorem d_T_mix_49 : decode M_T_mix.2.1 49 = .ok (.ireturn, 1) := by decide +kernel
theorem d_T_unmix_0 : decode M_T_unmix.2.1 0 = .ok (.aload_n 0, 1) := by decide +kernel
theorem d_T_unmix_1 : decode M_T_unmix.2.1 1 = .ok (.getfield 35, 3) := by decide +kernel
theorem d_T_unmix_4 : decode M_T_unmix.2.1 4 = .ok (.ifCond .gt (10), 3) := by decide +kernel
theorem d_T_unmix_7 : decode M_T_unmix.2.1 7 = .ok (.aload_n 0, 1) := by decide +kernel
theorem d_T_unmix_8 : decode M_T_unmix.2.1 8 = .ok (.getfield 39, 3) := by decide +kernel
theorem d_T_unmix_11 : decode M_T_unmix.2.1 11 = .ok (.ifCond .ne (5), 3) := by decide +kernel
theorem d_T_unmix_14 : decode M_T_unmix.2.1 14 = .ok (.iconst 0, 1) := by decide +kernel
theorem d_T_unmix_15 : decode M_T_unmix.2.1 15 = .ok (.ireturn, 1) := by decide +kernel
theorem d_T_unmix_16 : decode M_T_unmix.2.1 16 = .ok (.iconst 0, 1) := by decide +kernel
theorem d_T_unmix_17 : decode M_T_unmix.2.1 17 = .ok (.istore_n 1, 1) := by decide +kernel
theorem d_T_unmix_18 : decode M_T_unmix.2.1 18 = .ok (.iload_n 1, 1) := by decide +kernel
theorem d_T_unmix_19 : decode M_T_unmix.2.1 19 = .ok (.sipush (256), 3) := by decide +kernel
theorem d_T_unmix_22 : decode M_T_unmix.2.1 22 = .ok (.if_icmp .ge (14), 3) := by decide +kernel
theorem d_T_unmix_25 : decode M_T_unmix.2.1 25 = .ok (.aload_n 0, 1) := by decide +kernel
theorem d_T_unmix_26 : decode M_T_unmix.2.1 26 = .ok (.iload_n 1, 1) := by decide +kernel
theorem d_T_unmix_27 : decode M_T_unmix.2.1 27 = .ok (.invokevirtual 75, 3) := by decide +kernel
theorem d_T_unmix_30 : decode M_T_unmix.2.1 30 = .ok (.iinc 1 (1), 3) := by decide +kernel
theorem d_T_unmix_33 : decode M_T_unmix.2.1 33 = .ok (.goto (-15), 3) := by decide +kernel
theorem d_T_unmix_36 : decode M_T_unmix.2.1 36 = .ok (.aload_n 0, 1) := by decide +kernel
theorem d_T_unmix_37 : decode M_T_unmix.2.1 37 = .ok (.iconst 0, 1) := by decide +kernel
theorem d_T_unmix_38 : decode M_T_unmix.2.1 38 = .ok (.putfield 39, 3) := by decide +kernel
theorem d_T_unmix_41 : decode M_T_unmix.2.1 41 = .ok (.iconst 1, 1) := by decide +kernel
theorem d_T_unmix_42 : decode M_T_unmix.2.1 42 = .ok (.ireturn, 1) := by decide +kernel
theorem d_T_mixed_0 : decode M_T_mixed.2.1 0 = .ok (.aload_n 0, 1) := by decide +kernel
theorem d_T_mixed_1 : decode M_T_mixed.2.1 1 = .ok (.getfield 39, 3) := by decide +kernel
theorem d_T_mixed_4 : decode M_T_mixed.2.1 4 = .ok (.ireturn, 1) := by decide +kernel
theorem d_T_forward_0 : decode M_T_forward.2.1 0 = .ok (.aload_n 0, 1) := by decide +kernel
theorem d_T_forward_1 : decode M_T_forward.2.1 1 = .ok (.invokevirtual 68, 3) := by decide +kernel
theorem d_T_forward_4 : decode M_T_forward.2.1 4 = .ok (.ifCond .eq (20), 3) := by decide +kernel
theorem d_T_forward_7 : decode M_T_forward.2.1 7 = .ok (.iload_n 1, 1) := by decide +kernel
theorem d_T_forward_8 : decode M_T_forward.2.1 8 = .ok (.ifCond .lt (16), 3) := by decide +kernel
theorem d_T_forward_11 : decode M_T_forward.2.1 11 = .ok (.iload_n 1, 1) := by decide +kernel
theorem d_T_forward_12 : decode M_T_forward.2.1 12 = .ok (.iconst 3, 1) := by decide +kernel
theorem d_T_forward_13 : decode M_T_forward.2.1 13 = .ok (.if_icmp .ge (11), 3) := by decide +kernel
theorem d_T_forward_16 : decode M_T_forward.2.1 16 = .ok (.aload_n 0, 1) := by decide +kernel
theorem d_T_forward_17 : decode M_T_forward.2.1 17 = .ok (.getfield 35, 3) := by decide +kernel
theorem d_T_forward_20 : decode M_T_forward.2.1 20 = .ok (.iconst 4, 1) := by decide +kernel
theorem d_T_forward_21 : decode M_T_forward.2.1 21 = .ok (.if_icmp .lt (5), 3) := by decide +kernel
theorem d_T_forward_24 : decode M_T_forward.2.1 24 = .ok (.iconst 0, 1) := by decide +kernel
theorem d_T_forward_25 : decode M_T_forward.2.1 25 = .ok (.ireturn, 1) := by decide +kernel
theorem d_T_forward_26 : decode M_T_forward.2.1 26 = .ok (.iconst 0, 1) := by decide +kernel
theorem d_T_forward_27 : decode M_T_forward.2.1 27 = .ok (.istore_n 2, 1) := by decide +kernel
theorem d_T_forward_28 : decode M_T_forward.2.1 28 = .ok (.iload_n 2, 1) := by decide +kernel
theorem d_T_forward_29 : decode M_T_forward.2.1 29 = .ok (.iconst 3, 1) := by decide +kernel
theorem d_T_forward_30 : decode M_T_forward.2.1 30 = .ok (.if_icmp .ge (39), 3) := by decide +kernel
theorem d_T_forward_33 : decode M_T_forward.2.1 33 = .ok (.aload_n 0, 1) := by decide +kernel
theorem d_T_forward_34 : decode M_T_forward.2.1 34 = .ok (.iload_n 2, 1) := by decide +kernel
theorem d_T_forward_35 : decode M_T_forward.2.1 35 = .ok (.aload_n 0, 1) := by decide +kernel
theorem d_T_forward_36 : decode M_T_forward.2.1 36 = .ok (.getfield 22, 3) := by decide +kernel
theorem d_T_forward_39 : decode M_T_forward.2.1 39 = .ok (.aload_n 0, 1) := by decide +kernel
theorem d_T_forward_40 : decode M_T_forward.2.1 40 = .ok (.getfield 18, 3) := by decide +kernel
theorem d_T_forward_43 : decode M_T_forward.2.1 43 = .ok (.iload_n 1, 1) := by decide +kernel
theorem d_T_forward_44 : decode M_T_forward.2.1 44 = .ok (.iconst 1, 1) := by decide +kernel
theorem d_T_forward_45 : decode M_T_forward.2.1 45 = .ok (.invokevirtual 78, 3) := by decide +kernel
theorem d_T_forward_48 : decode M_T_forward.2.1 48 = .ok (.aload_n 0, 1) := by decide +kernel
theorem d_T_forward_49 : decode M_T_forward.2.1 49 = .ok (.iload_n 2, 1) := by decide +kernel
theorem d_T_forward_50 : decode M_T_forward.2.1 50 = .ok (.aload_n 0, 1) := by decide +kernel
theorem d_T_forward_51 : decode M_T_forward.2.1 51 = .ok (.getfield 18, 3) := by decide +kernel
theorem d_T_forward_54 : decode M_T_forward.2.1 54 = .ok (.aload_n 0, 1) := by decide +kernel
theorem d_T_forward_55 : decode M_T_forward.2.1 55 = .ok (.getfield 22, 3) := by decide +kernel
theorem d_T_forward_58 : decode M_T_forward.2.1 58 = .ok (.iload_n 1, 1) := by decide +kernel
theorem d_T_forward_59 : decode M_T_forward.2.1 59 = .ok (.iconst 1, 1) := by decide +kernel
theorem d_T_forward_60 : decode M_T_forward.2.1 60 = .ok (.invokevirtual 78, 3) := by decide +kernel
theorem d_T_forward_63 : decode M_T_forward.2.1 63 = .ok (.iinc 2 (1), 3) := by decide +kernel
theorem d_T_forward_66 : decode M_T_forward.2.1 66 = .ok (.goto (-38), 3) := by decide +kernel
theorem d_T_forward_69 : decode M_T_forward.2.1 69 = .ok (.aload_n 0, 1) := by decide +kernel
theorem d_T_forward_70 : decode M_T_forward.2.1 70 = .ok (.getfield 32, 3) := by decide +kernel
theorem d_T_forward_73 : decode M_T_forward.2.1 73 = .ok (.aload_n 0, 1) := by decide +kernel
theorem d_T_forward_74 : decode M_T_forward.2.1 74 = .ok (.getfield 35, 3) := by decide +kernel
theorem d_T_forward_77 : decode M_T_forward.2.1 77 = .ok (.iload_n 1, 1) := by decide +kernel
theorem d_T_forward_78 : decode M_T_forward.2.1 78 = .ok (.iastore, 1) := by decide +kernel
theorem d_T_forward_79 : decode M_T_forward.2.1 79 = .ok (.aload_n 0, 1) := by decide +kernel
theorem d_T_forward_80 : decode M_T_forward.2.1 80 = .ok (.dup, 1) := by decide +kernel
theorem d_T_forward_81 : decode M_T_forward.2.1 81 = .ok (.getfield 35, 3) := by decide +kernel
theorem d_T_forward_84 : decode M_T_forward.2.1 84 = .ok (.iconst 1, 1) := by decide +kernel
theorem d_T_forward_85 : decode M_T_forward.2.1 85 = .ok (.iadd, 1) := by decide +kernel
theorem d_T_forward_86 : decode M_T_forward.2.1 86 = .ok (.putfield 35, 3) := by decide +kernel
theorem d_T_forward_89 : decode M_T_forward.2.1 89 = .ok (.iconst 1, 1) := by decide +kernel
theorem d_T_forward_90 : decode M_T_forward.2.1 90 = .ok (.ireturn, 1) := by decide +kernel
theorem d_T_back_0 : decode M_T_back.2.1 0 = .ok (.aload_n 0, 1) := by decide +kernel
theorem d_T_back_1 : decode M_T_back.2.1 1 = .ok (.getfield 35, 3) := by decide +kernel
theorem d_T_back_4 : decode M_T_back.2.1 4 = .ok (.ifCond .ne (5), 3) := by decide +kernel
theorem d_T_back_7 : decode M_T_back.2.1 7 = .ok (.iconst 0, 1) := by decide +kernel
theorem d_T_back_8 : decode M_T_back.2.1 8 = .ok (.ireturn, 1) := by decide +kernel
theorem d_T_back_9 : decode M_T_back.2.1 9 = .ok (.aload_n 0, 1) := by decide +kernel
theorem d_T_back_10 : decode M_T_back.2.1 10 = .ok (.dup, 1) := by decide +kernel
theorem d_T_back_11 : decode M_T_back.2.1 11 = .ok (.getfield 35, 3) := by decide +kernel
theorem d_T_back_14 : decode M_T_back.2.1 14 = .ok (.iconst 1, 1) := by decide +kernel
theorem d_T_back_15 : decode M_T_back.2.1 15 = .ok (.isub, 1) := by decide +kernel
theorem d_T_back_16 : decode M_T_back.2.1 16 = .ok (.putfield 35, 3) := by decide +kernel
theorem d_T_back_19 : decode M_T_back.2.1 19 = .ok (.aload_n 0, 1) := by decide +kernel
theorem d_T_back_20 : decode M_T_back.2.1 20 = .ok (.getfield 32, 3) := by decide +kernel
theorem d_T_back_23 : decode M_T_back.2.1 23 = .ok (.aload_n 0, 1) := by decide +kernel
theorem d_T_back_24 : decode M_T_back.2.1 24 = .ok (.getfield 35, 3) := by decide +kernel
theorem d_T_back_27 : decode M_T_back.2.1 27 = .ok (.iaload, 1) := by decide +kernel
theorem d_T_back_28 : decode M_T_back.2.1 28 = .ok (.istore_n 1, 1) := by decide +kernel
theorem d_T_back_29 : decode M_T_back.2.1 29 = .ok (.iconst 0, 1) := by decide +kernel
theorem d_T_back_30 : decode M_T_back.2.1 30 = .ok (.istore_n 2, 1) := by decide +kernel
theorem d_T_back_31 : decode M_T_back.2.1 31 = .ok (.iload_n 2, 1) := by decide +kernel
theorem d_T_back_32 : decode M_T_back.2.1 32 = .ok (.iconst 3, 1) := by decide +kernel
theorem d_T_back_33 : decode M_T_back.2.1 33 = .ok (.if_icmp .ge (39), 3) := by decide +kernel
theorem d_T_back_36 : decode M_T_back.2.1 36 = .ok (.aload_n 0, 1) := by decide +kernel
theorem d_T_back_37 : decode M_T_back.2.1 37 = .ok (.iload_n 2, 1) := by decide +kernel
theorem d_T_back_38 : decode M_T_back.2.1 38 = .ok (.aload_n 0, 1) := by decide +kernel
theorem d_T_back_39 : decode M_T_back.2.1 39 = .ok (.getfield 18, 3) := by decide +kernel
theorem d_T_back_42 : decode M_T_back.2.1 42 = .ok (.aload_n 0, 1) := by decide +kernel
theorem d_T_back_43 : decode M_T_back.2.1 43 = .ok (.getfield 22, 3) := by decide +kernel
theorem d_T_back_46 : decode M_T_back.2.1 46 = .ok (.iload_n 1, 1) := by decide +kernel
theorem d_T_back_47 : decode M_T_back.2.1 47 = .ok (.iconst 0, 1) := by decide +kernel
theorem d_T_back_48 : decode M_T_back.2.1 48 = .ok (.invokevirtual 78, 3) := by decide +kernel
theorem d_T_back_51 : decode M_T_back.2.1 51 = .ok (.aload_n 0, 1) := by decide +kernel
theorem d_T_back_52 : decode M_T_back.2.1 52 = .ok (.iload_n 2, 1) := by decide +kernel
theorem d_T_back_53 : decode M_T_back.2.1 53 = .ok (.aload_n 0, 1) := by decide +kernel
theorem d_T_back_54 : decode M_T_back.2.1 54 = .ok (.getfield 22, 3) := by decide +kernel
theorem d_T_back_57 : decode M_T_back.2.1 57 = .ok (.aload_n 0, 1) := by decide +kernel
theorem d_T_back_58 : decode M_T_back.2.1 58 = .ok (.getfield 18, 3) := by decide +kernel
theorem d_T_back_61 : decode M_T_back.2.1 61 = .ok (.iload_n 1, 1) := by decide +kernel
theorem d_T_back_62 : decode M_T_back.2.1 62 = .ok (.iconst 0, 1) := by decide +kernel
theorem d_T_back_63 : decode M_T_back.2.1 63 = .ok (.invokevirtual 78, 3) := by decide +kernel
theorem d_T_back_66 : decode M_T_back.2.1 66 = .ok (.iinc 2 (1), 3) := by decide +kernel
theorem d_T_back_69 : decode M_T_back.2.1 69 = .ok (.goto (-38), 3) := by decide +kernel
theorem d_T_back_72 : decode M_T_back.2.1 72 = .ok (.iconst 1, 1) := by decide +kernel
theorem d_T_back_73 : decode M_T_back.2.1 73 = .ok (.ireturn, 1) := by decide +kernel
theorem d_T_levels_0 : decode M_T_levels.2.1 0 = .ok (.aload_n 0, 1) := by decide +kernel
theorem d_T_levels_1 : decode M_T_levels.2.1 1 = .ok (.getfield 35, 3) := by decide +kernel
theorem d_T_levels_4 : decode M_T_levels.2.1 4 = .ok (.ireturn, 1) := by decide +kernel
theorem d_T_kernel_0 : decode M_T_kernel.2.1 0 = .ok (.aload_n 0, 1) := by decide +kernel
theorem d_T_kernel_1 : decode M_T_kernel.2.1 1 = .ok (.iload_n 1, 1) := by decide +kernel
theorem d_T_kernel_2 : decode M_T_kernel.2.1 2 = .ok (.invokevirtual 82, 3) := by decide +kernel
theorem d_T_kernel_5 : decode M_T_kernel.2.1 5 = .ok (.ifCond .eq (14), 3) := by decide +kernel
theorem d_T_kernel_8 : decode M_T_kernel.2.1 8 = .ok (.aload_n 0, 1) := by decide +kernel
theorem d_T_kernel_9 : decode M_T_kernel.2.1 9 = .ok (.getfield 32, 3) := by decide +kernel
theorem d_T_kernel_12 : decode M_T_kernel.2.1 12 = .ok (.iload_n 1, 1) := by decide +kernel
theorem d_T_kernel_13 : decode M_T_kernel.2.1 13 = .ok (.iconst 1, 1) := by decide +kernel
theorem d_T_kernel_14 : decode M_T_kernel.2.1 14 = .ok (.isub, 1) := by decide +kernel
theorem d_T_kernel_15 : decode M_T_kernel.2.1 15 = .ok (.iaload, 1) := by decide +kernel
theorem d_T_kernel_16 : decode M_T_kernel.2.1 16 = .ok (.goto (4), 3) := by decide +kernel
theorem d_T_kernel_19 : decode M_T_kernel.2.1 19 = .ok (.iconst (-1), 1) := by decide +kernel
theorem d_T_kernel_20 : decode M_T_kernel.2.1 20 = .ok (.ireturn, 1) := by decide +kernel
theorem d_T_start_0 : decode M_T_start.2.1 0 = .ok (.aload_n 0, 1) := by decide +kernel
theorem d_T_start_1 : decode M_T_start.2.1 1 = .ok (.invokevirtual 68, 3) := by decide +kernel
theorem d_T_start_4 : decode M_T_start.2.1 4 = .ok (.ifCond .eq (17), 3) := by decide +kernel
theorem d_T_start_7 : decode M_T_start.2.1 7 = .ok (.iload_n 1, 1) := by decide +kernel
theorem d_T_start_8 : decode M_T_start.2.1 8 = .ok (.invokestatic 85, 3) := by decide +kernel
theorem d_T_start_11 : decode M_T_start.2.1 11 = .ok (.ifCond .eq (10), 3) := by decide +kernel
theorem d_T_start_14 : decode M_T_start.2.1 14 = .ok (.iload_n 2, 1) := by decide +kernel
theorem d_T_start_15 : decode M_T_start.2.1 15 = .ok (.invokestatic 88, 3) := by decide +kernel
theorem d_T_start_18 : decode M_T_start.2.1 18 = .ok (.ifCond .ne (5), 3) := by decide +kernel
theorem d_T_start_21 : decode M_T_start.2.1 21 = .ok (.iconst (-1), 1) := by decide +kernel
theorem d_T_start_22 : decode M_T_start.2.1 22 = .ok (.ireturn, 1) := by decide +kernel
theorem d_T_start_23 : decode M_T_start.2.1 23 = .ok (.iload_n 3, 1) := by decide +kernel
theorem d_T_start_24 : decode M_T_start.2.1 24 = .ok (.ifCond .eq (19), 3) := by decide +kernel
theorem d_T_start_27 : decode M_T_start.2.1 27 = .ok (.aload_n 0, 1) := by decide +kernel
theorem d_T_start_28 : decode M_T_start.2.1 28 = .ok (.getfield 22, 3) := by decide +kernel
theorem d_T_start_31 : decode M_T_start.2.1 31 = .ok (.iload_n 1, 1) := by decide +kernel
theorem d_T_start_32 : decode M_T_start.2.1 32 = .ok (.iload_n 1, 1) := by decide +kernel
theorem d_T_start_33 : decode M_T_start.2.1 33 = .ok (.iload_n 2, 1) := by decide +kernel
theorem d_T_start_34 : decode M_T_start.2.1 34 = .ok (.invokestatic 91, 3) := by decide +kernel
theorem d_T_start_37 : decode M_T_start.2.1 37 = .ok (.invokevirtual 95, 3) := by decide +kernel
theorem d_T_start_40 : decode M_T_start.2.1 40 = .ok (.goto (16), 3) := by decide +kernel
theorem d_T_start_43 : decode M_T_start.2.1 43 = .ok (.aload_n 0, 1) := by decide +kernel
theorem d_T_start_44 : decode M_T_start.2.1 44 = .ok (.getfield 18, 3) := by decide +kernel
theorem d_T_start_47 : decode M_T_start.2.1 47 = .ok (.iload_n 1, 1) := by decide +kernel
theorem d_T_start_48 : decode M_T_start.2.1 48 = .ok (.iload_n 1, 1) := by decide +kernel
theorem d_T_start_49 : decode M_T_start.2.1 49 = .ok (.iload_n 2, 1) := by decide +kernel
theorem d_T_start_50 : decode M_T_start.2.1 50 = .ok (.invokestatic 98, 3) := by decide +kernel
theorem d_T_start_53 : decode M_T_start.2.1 53 = .ok (.invokevirtual 95, 3) := by decide +kernel
theorem d_T_start_56 : decode M_T_start.2.1 56 = .ok (.ireturn, 1) := by decide +kernel
theorem d_T_size_0 : decode M_T_size.2.1 0 = .ok (.aload_n 0, 1) := by decide +kernel
theorem d_T_size_1 : decode M_T_size.2.1 1 = .ok (.invokevirtual 68, 3) := by decide +kernel
theorem d_T_size_4 : decode M_T_size.2.1 4 = .ok (.ifCond .eq (17), 3) := by decide +kernel
theorem d_T_size_7 : decode M_T_size.2.1 7 = .ok (.iload_n 1, 1) := by decide +kernel
theorem d_T_size_8 : decode M_T_size.2.1 8 = .ok (.invokestatic 85, 3) := by decide +kernel
theorem d_T_size_11 : decode M_T_size.2.1 11 = .ok (.ifCond .eq (10), 3) := by decide +kernel
theorem d_T_size_14 : decode M_T_size.2.1 14 = .ok (.iload_n 2, 1) := by decide +kernel
theorem d_T_size_15 : decode M_T_size.2.1 15 = .ok (.invokestatic 88, 3) := by decide +kernel
theorem d_T_size_18 : decode M_T_size.2.1 18 = .ok (.ifCond .ne (5), 3) := by decide +kernel
theorem d_T_size_21 : decode M_T_size.2.1 21 = .ok (.iconst (-1), 1) := by decide +kernel
theorem d_T_size_22 : decode M_T_size.2.1 22 = .ok (.ireturn, 1) := by decide +kernel
theorem d_T_size_23 : decode M_T_size.2.1 23 = .ok (.iload_n 3, 1) := by decide +kernel
theorem d_T_size_24 : decode M_T_size.2.1 24 = .ok (.ifCond .eq (19), 3) := by decide +kernel
theorem d_T_size_27 : decode M_T_size.2.1 27 = .ok (.aload_n 0, 1) := by decide +kernel
theorem d_T_size_28 : decode M_T_size.2.1 28 = .ok (.getfield 22, 3) := by decide +kernel
theorem d_T_size_31 : decode M_T_size.2.1 31 = .ok (.iload_n 1, 1) := by decide +kernel
theorem d_T_size_32 : decode M_T_size.2.1 32 = .ok (.iload_n 1, 1) := by decide +kernel
theorem d_T_size_33 : decode M_T_size.2.1 33 = .ok (.iload_n 2, 1) := by decide +kernel
theorem d_T_size_34 : decode M_T_size.2.1 34 = .ok (.invokestatic 91, 3) := by decide +kernel
theorem d_T_size_37 : decode M_T_size.2.1 37 = .ok (.invokevirtual 101, 3) := by decide +kernel
theorem d_T_size_40 : decode M_T_size.2.1 40 = .ok (.goto (16), 3) := by decide +kernel
theorem d_T_size_43 : decode M_T_size.2.1 43 = .ok (.aload_n 0, 1) := by decide +kernel
theorem d_T_size_44 : decode M_T_size.2.1 44 = .ok (.getfield 18, 3) := by decide +kernel
theorem d_T_size_47 : decode M_T_size.2.1 47 = .ok (.iload_n 1, 1) := by decide +kernel
theorem d_T_size_48 : decode M_T_size.2.1 48 = .ok (.iload_n 1, 1) := by decide +kernel
theorem d_T_size_49 : decode M_T_size.2.1 49 = .ok (.iload_n 2, 1) := by decide +kernel
theorem d_T_size_50 : decode M_T_size.2.1 50 = .ok (.invokestatic 98, 3) := by decide +kernel
theorem d_T_size_53 : decode M_T_size.2.1 53 = .ok (.invokevirtual 101, 3) := by decide +kernel
theorem d_T_size_56 : decode M_T_size.2.1 56 = .ok (.ireturn, 1) := by decide +kernel
theorem d_T_coefficient_0 : decode M_T_coefficient.2.1 0 = .ok (.aload_n 0, 1) := by decide +kernel
theorem d_T_coefficient_1 : decode M_T_coefficient.2.1 1 = .ok (.iload_n 2, 1) := by decide +kernel
theorem d_T_coefficient_2 : decode M_T_coefficient.2.1 2 = .ok (.invokevirtual 82, 3) := by decide +kernel
theorem d_T_coefficient_5 : decode M_T_coefficient.2.1 5 = .ok (.ifCond .eq (10), 3) := by decide +kernel
theorem d_T_coefficient_8 : decode M_T_coefficient.2.1 8 = .ok (.iload_n 3, 1) := by decide +kernel
theorem d_T_coefficient_9 : decode M_T_coefficient.2.1 9 = .ok (.invokestatic 88, 3) := by decide +kernel
theorem d_T_coefficient_12 : decode M_T_coefficient.2.1 12 = .ok (.ifCond .ne (5), 3) := by decide +kernel
theorem d_T_coefficient_15 : decode M_T_coefficient.2.1 15 = .ok (.iconst 0, 1) := by decide +kernel
theorem d_T_coefficient_16 : decode M_T_coefficient.2.1 16 = .ok (.ireturn, 1) := by decide +kernel
theorem d_T_coefficient_17 : decode M_T_coefficient.2.1 17 = .ok (.aload_n 0, 1) := by decide +kernel
theorem d_T_coefficient_18 : decode M_T_coefficient.2.1 18 = .ok (.aload_n 0, 1) := by decide +kernel
theorem d_T_coefficient_19 : decode M_T_coefficient.2.1 19 = .ok (.iload_n 1, 1) := by decide +kernel
theorem d_T_coefficient_20 : decode M_T_coefficient.2.1 20 = .ok (.iload_n 2, 1) := by decide +kernel
theorem d_T_coefficient_21 : decode M_T_coefficient.2.1 21 = .ok (.iload_n 3, 1) := by decide +kernel
theorem d_T_coefficient_22 : decode M_T_coefficient.2.1 22 = .ok (.iload 4, 2) := by decide +kernel
theorem d_T_coefficient_24 : decode M_T_coefficient.2.1 24 = .ok (.iload 5, 2) := by decide +kernel
theorem d_T_coefficient_26 : decode M_T_coefficient.2.1 26 = .ok (.invokevirtual 104, 3) := by decide +kernel
theorem d_T_coefficient_29 : decode M_T_coefficient.2.1 29 = .ok (.invokevirtual 64, 3) := by decide +kernel
theorem d_T_coefficient_32 : decode M_T_coefficient.2.1 32 = .ok (.ireturn, 1) := by decide +kernel
theorem d_T_thin_0 : decode M_T_thin.2.1 0 = .ok (.aload_n 0, 1) := by decide +kernel
theorem d_T_thin_1 : decode M_T_thin.2.1 1 = .ok (.iload_n 1, 1) := by decide +kernel
theorem d_T_thin_2 : decode M_T_thin.2.1 2 = .ok (.invokevirtual 82, 3) := by decide +kernel
theorem d_T_thin_5 : decode M_T_thin.2.1 5 = .ok (.ifCond .eq (22), 3) := by decide +kernel
theorem d_T_thin_8 : decode M_T_thin.2.1 8 = .ok (.iload_n 2, 1) := by decide +kernel
theorem d_T_thin_9 : decode M_T_thin.2.1 9 = .ok (.invokestatic 88, 3) := by decide +kernel
theorem d_T_thin_12 : decode M_T_thin.2.1 12 = .ok (.ifCond .eq (15), 3) := by decide +kernel
theorem d_T_thin_15 : decode M_T_thin.2.1 15 = .ok (.iload_n 3, 1) := by decide +kernel
theorem d_T_thin_16 : decode M_T_thin.2.1 16 = .ok (.iconst 1, 1) := by decide +kernel
theorem d_T_thin_17 : decode M_T_thin.2.1 17 = .ok (.if_icmp .lt (10), 3) := by decide +kernel
theorem d_T_thin_20 : decode M_T_thin.2.1 20 = .ok (.iload_n 3, 1) := by decide +kernel
theorem d_T_thin_21 : decode M_T_thin.2.1 21 = .ok (.sipush (32767), 3) := by decide +kernel
theorem d_T_thin_24 : decode M_T_thin.2.1 24 = .ok (.if_icmp .le (5), 3) := by decide +kernel
theorem d_T_thin_27 : decode M_T_thin.2.1 27 = .ok (.iconst (-1), 1) := by decide +kernel
theorem d_T_thin_28 : decode M_T_thin.2.1 28 = .ok (.ireturn, 1) := by decide +kernel
theorem d_T_thin_29 : decode M_T_thin.2.1 29 = .ok (.iload_n 2, 1) := by decide +kernel
theorem d_T_thin_30 : decode M_T_thin.2.1 30 = .ok (.ifCond .ne (13), 3) := by decide +kernel
theorem d_T_thin_33 : decode M_T_thin.2.1 33 = .ok (.iload_n 1, 1) := by decide +kernel
theorem d_T_thin_34 : decode M_T_thin.2.1 34 = .ok (.aload_n 0, 1) := by decide +kernel
theorem d_T_thin_35 : decode M_T_thin.2.1 35 = .ok (.getfield 35, 3) := by decide +kernel
theorem d_T_thin_38 : decode M_T_thin.2.1 38 = .ok (.if_icmp .eq (5), 3) := by decide +kernel
theorem d_T_thin_41 : decode M_T_thin.2.1 41 = .ok (.iconst (-1), 1) := by decide +kernel
theorem d_T_thin_42 : decode M_T_thin.2.1 42 = .ok (.ireturn, 1) := by decide +kernel
theorem d_T_thin_43 : decode M_T_thin.2.1 43 = .ok (.iconst 0, 1) := by decide +kernel
theorem d_T_thin_44 : decode M_T_thin.2.1 44 = .ok (.istore 4, 2) := by decide +kernel
theorem d_T_thin_46 : decode M_T_thin.2.1 46 = .ok (.iconst 0, 1) := by decide +kernel
theorem d_T_thin_47 : decode M_T_thin.2.1 47 = .ok (.istore 5, 2) := by decide +kernel
theorem d_T_thin_49 : decode M_T_thin.2.1 49 = .ok (.iload 5, 2) := by decide +kernel
theorem d_T_thin_51 : decode M_T_thin.2.1 51 = .ok (.aload_n 0, 1) := by decide +kernel
theorem d_T_thin_52 : decode M_T_thin.2.1 52 = .ok (.getfield 9, 3) := by decide +kernel
theorem d_T_thin_55 : decode M_T_thin.2.1 55 = .ok (.arraylength, 1) := by decide +kernel
theorem d_T_thin_56 : decode M_T_thin.2.1 56 = .ok (.if_icmp .ge (67), 3) := by decide +kernel
theorem d_T_thin_59 : decode M_T_thin.2.1 59 = .ok (.aload_n 0, 1) := by decide +kernel
theorem d_T_thin_60 : decode M_T_thin.2.1 60 = .ok (.iload 5, 2) := by decide +kernel
theorem d_T_thin_62 : decode M_T_thin.2.1 62 = .ok (.iload_n 1, 1) := by decide +kernel
theorem d_T_thin_63 : decode M_T_thin.2.1 63 = .ok (.iload_n 2, 1) := by decide +kernel
theorem d_T_thin_64 : decode M_T_thin.2.1 64 = .ok (.invokevirtual 108, 3) := by decide +kernel
theorem d_T_thin_67 : decode M_T_thin.2.1 67 = .ok (.ifCond .eq (50), 3) := by decide +kernel
theorem d_T_thin_70 : decode M_T_thin.2.1 70 = .ok (.aload_n 0, 1) := by decide +kernel
theorem d_T_thin_71 : decode M_T_thin.2.1 71 = .ok (.getfield 9, 3) := by decide +kernel
theorem d_T_thin_74 : decode M_T_thin.2.1 74 = .ok (.iload 5, 2) := by decide +kernel
theorem d_T_thin_76 : decode M_T_thin.2.1 76 = .ok (.iaload, 1) := by decide +kernel
theorem d_T_thin_77 : decode M_T_thin.2.1 77 = .ok (.istore 6, 2) := by decide +kernel
theorem d_T_thin_79 : decode M_T_thin.2.1 79 = .ok (.aload_n 0, 1) := by decide +kernel
theorem d_T_thin_80 : decode M_T_thin.2.1 80 = .ok (.getfield 9, 3) := by decide +kernel
theorem d_T_thin_83 : decode M_T_thin.2.1 83 = .ok (.iload 5, 2) := by decide +kernel
theorem d_T_thin_85 : decode M_T_thin.2.1 85 = .ok (.iload 6, 2) := by decide +kernel
theorem d_T_thin_87 : decode M_T_thin.2.1 87 = .ok (.iload_n 3, 1) := by decide +kernel
theorem d_T_thin_88 : decode M_T_thin.2.1 88 = .ok (.invokestatic 112, 3) := by decide +kernel
theorem d_T_thin_91 : decode M_T_thin.2.1 91 = .ok (.iastore, 1) := by decide +kernel
theorem d_T_thin_92 : decode M_T_thin.2.1 92 = .ok (.iload 4, 2) := by decide +kernel
theorem d_T_thin_94 : decode M_T_thin.2.1 94 = .ok (.iload 6, 2) := by decide +kernel
theorem d_T_thin_96 : decode M_T_thin.2.1 96 = .ok (.ifCond .eq (17), 3) := by decide +kernel
theorem d_T_thin_99 : decode M_T_thin.2.1 99 = .ok (.aload_n 0, 1) := by decide +kernel
theorem d_T_thin_100 : decode M_T_thin.2.1 100 = .ok (.getfield 9, 3) := by decide +kernel
theorem d_T_thin_103 : decode M_T_thin.2.1 103 = .ok (.iload 5, 2) := by decide +kernel
theorem d_T_thin_105 : decode M_T_thin.2.1 105 = .ok (.iaload, 1) := by decide +kernel
theorem d_T_thin_106 : decode M_T_thin.2.1 106 = .ok (.ifCond .ne (7), 3) := by decide +kernel
theorem d_T_thin_109 : decode M_T_thin.2.1 109 = .ok (.iconst 1, 1) := by decide +kernel
theorem d_T_thin_110 : decode M_T_thin.2.1 110 = .ok (.goto (4), 3) := by decide +kernel
theorem d_T_thin_113 : decode M_T_thin.2.1 113 = .ok (.iconst 0, 1) := by decide +kernel
theorem d_T_thin_114 : decode M_T_thin.2.1 114 = .ok (.iadd, 1) := by decide +kernel
theorem d_T_thin_115 : decode M_T_thin.2.1 115 = .ok (.istore 4, 2) := by decide +kernel
theorem d_T_thin_117 : decode M_T_thin.2.1 117 = .ok (.iinc 5 (1), 3) := by decide +kernel
theorem d_T_thin_120 : decode M_T_thin.2.1 120 = .ok (.goto (-71), 3) := by decide +kernel
theorem d_T_thin_123 : decode M_T_thin.2.1 123 = .ok (.iload 4, 2) := by decide +kernel
theorem d_T_thin_125 : decode M_T_thin.2.1 125 = .ok (.ireturn, 1) := by decide +kernel
theorem d_T_weight_0 : decode M_T_weight.2.1 0 = .ok (.aload_n 0, 1) := by decide +kernel
theorem d_T_weight_1 : decode M_T_weight.2.1 1 = .ok (.iload_n 2, 1) := by decide +kernel
theorem d_T_weight_2 : decode M_T_weight.2.1 2 = .ok (.invokevirtual 82, 3) := by decide +kernel
theorem d_T_weight_5 : decode M_T_weight.2.1 5 = .ok (.ifCond .eq (17), 3) := by decide +kernel
theorem d_T_weight_8 : decode M_T_weight.2.1 8 = .ok (.iload_n 3, 1) := by decide +kernel
theorem d_T_weight_9 : decode M_T_weight.2.1 9 = .ok (.invokestatic 88, 3) := by decide +kernel
theorem d_T_weight_12 : decode M_T_weight.2.1 12 = .ok (.ifCond .eq (10), 3) := by decide +kernel
theorem d_T_weight_15 : decode M_T_weight.2.1 15 = .ok (.iload_n 1, 1) := by decide +kernel
theorem d_T_weight_16 : decode M_T_weight.2.1 16 = .ok (.invokestatic 115, 3) := by decide +kernel
theorem d_T_weight_19 : decode M_T_weight.2.1 19 = .ok (.ifCond .ne (7), 3) := by decide +kernel
theorem d_T_weight_22 : decode M_T_weight.2.1 22 = .ok (.ldc2_w 118, 3) := by decide +kernel
theorem d_T_weight_25 : decode M_T_weight.2.1 25 = .ok (.lreturn, 1) := by decide +kernel
theorem d_T_weight_26 : decode M_T_weight.2.1 26 = .ok (.lconst 0, 1) := by decide +kernel
theorem d_T_weight_27 : decode M_T_weight.2.1 27 = .ok (.lstore 4, 2) := by decide +kernel
theorem d_T_weight_29 : decode M_T_weight.2.1 29 = .ok (.iload_n 1, 1) := by decide +kernel
theorem d_T_weight_30 : decode M_T_weight.2.1 30 = .ok (.sipush (256), 3) := by decide +kernel
theorem d_T_weight_33 : decode M_T_weight.2.1 33 = .ok (.imul, 1) := by decide +kernel
theorem d_T_weight_34 : decode M_T_weight.2.1 34 = .ok (.istore 6, 2) := by decide +kernel
theorem d_T_weight_36 : decode M_T_weight.2.1 36 = .ok (.iload 6, 2) := by decide +kernel
theorem d_T_weight_38 : decode M_T_weight.2.1 38 = .ok (.istore 7, 2) := by decide +kernel
theorem d_T_weight_40 : decode M_T_weight.2.1 40 = .ok (.iload 7, 2) := by decide +kernel
theorem d_T_weight_42 : decode M_T_weight.2.1 42 = .ok (.iload 6, 2) := by decide +kernel
theorem d_T_weight_44 : decode M_T_weight.2.1 44 = .ok (.sipush (256), 3) := by decide +kernel
theorem d_T_weight_47 : decode M_T_weight.2.1 47 = .ok (.iadd, 1) := by decide +kernel
theorem d_T_weight_48 : decode M_T_weight.2.1 48 = .ok (.if_icmp .ge (35), 3) := by decide +kernel
theorem d_T_weight_51 : decode M_T_weight.2.1 51 = .ok (.aload_n 0, 1) := by decide +kernel
theorem d_T_weight_52 : decode M_T_weight.2.1 52 = .ok (.iload 7, 2) := by decide +kernel
theorem d_T_weight_54 : decode M_T_weight.2.1 54 = .ok (.iload_n 2, 1) := by decide +kernel
theorem d_T_weight_55 : decode M_T_weight.2.1 55 = .ok (.iload_n 3, 1) := by decide +kernel
theorem d_T_weight_56 : decode M_T_weight.2.1 56 = .ok (.invokevirtual 108, 3) := by decide +kernel
theorem d_T_weight_59 : decode M_T_weight.2.1 59 = .ok (.ifCond .eq (18), 3) := by decide +kernel
theorem d_T_weight_62 : decode M_T_weight.2.1 62 = .ok (.lload 4, 2) := by decide +kernel
theorem d_T_weight_64 : decode M_T_weight.2.1 64 = .ok (.aload_n 0, 1) := by decide +kernel
theorem d_T_weight_65 : decode M_T_weight.2.1 65 = .ok (.getfield 9, 3) := by decide +kernel
theorem d_T_weight_68 : decode M_T_weight.2.1 68 = .ok (.iload 7, 2) := by decide +kernel
theorem d_T_weight_70 : decode M_T_weight.2.1 70 = .ok (.iaload, 1) := by decide +kernel
theorem d_T_weight_71 : decode M_T_weight.2.1 71 = .ok (.invokestatic 120, 3) := by decide +kernel
theorem d_T_weight_74 : decode M_T_weight.2.1 74 = .ok (.ladd, 1) := by decide +kernel
theorem d_T_weight_75 : decode M_T_weight.2.1 75 = .ok (.lstore 4, 2) := by decide +kernel
theorem d_T_weight_77 : decode M_T_weight.2.1 77 = .ok (.iinc 7 (1), 3) := by decide +kernel
theorem d_T_weight_80 : decode M_T_weight.2.1 80 = .ok (.goto (-40), 3) := by decide +kernel
theorem d_T_weight_83 : decode M_T_weight.2.1 83 = .ok (.lload 4, 2) := by decide +kernel
theorem d_T_weight_85 : decode M_T_weight.2.1 85 = .ok (.lreturn, 1) := by decide +kernel
theorem d_T_isCorner_0 : decode M_T_isCorner.2.1 0 = .ok (.iload_n 0, 1) := by decide +kernel
theorem d_T_isCorner_1 : decode M_T_isCorner.2.1 1 = .ok (.ifCond .lt (14), 3) := by decide +kernel
theorem d_T_isCorner_4 : decode M_T_isCorner.2.1 4 = .ok (.iload_n 0, 1) := by decide +kernel
theorem d_T_isCorner_5 : decode M_T_isCorner.2.1 5 = .ok (.sipush (1000), 3) := by decide +kernel
theorem d_T_isCorner_8 : decode M_T_isCorner.2.1 8 = .ok (.if_icmp .gt (7), 3) := by decide +kernel
theorem d_T_isCorner_11 : decode M_T_isCorner.2.1 11 = .ok (.iconst 1, 1) := by decide +kernel
theorem d_T_isCorner_12 : decode M_T_isCorner.2.1 12 = .ok (.goto (4), 3) := by decide +kernel
theorem d_T_isCorner_15 : decode M_T_isCorner.2.1 15 = .ok (.iconst 0, 1) := by decide +kernel
theorem d_T_isCorner_16 : decode M_T_isCorner.2.1 16 = .ok (.ireturn, 1) := by decide +kernel
theorem d_T_isSide_0 : decode M_T_isSide.2.1 0 = .ok (.iload_n 0, 1) := by decide +kernel
theorem d_T_isSide_1 : decode M_T_isSide.2.1 1 = .ok (.iconst 1, 1) := by decide +kernel
theorem d_T_isSide_2 : decode M_T_isSide.2.1 2 = .ok (.if_icmp .lt (13), 3) := by decide +kernel
theorem d_T_isSide_5 : decode M_T_isSide.2.1 5 = .ok (.iload_n 0, 1) := by decide +kernel
theorem d_T_isSide_6 : decode M_T_isSide.2.1 6 = .ok (.bipush (16), 2) := by decide +kernel
theorem d_T_isSide_8 : decode M_T_isSide.2.1 8 = .ok (.if_icmp .gt (7), 3) := by decide +kernel
theorem d_T_isSide_11 : decode M_T_isSide.2.1 11 = .ok (.iconst 1, 1) := by decide +kernel
theorem d_T_isSide_12 : decode M_T_isSide.2.1 12 = .ok (.goto (4), 3) := by decide +kernel
theorem d_T_isSide_15 : decode M_T_isSide.2.1 15 = .ok (.iconst 0, 1) := by decide +kernel
theorem d_T_isSide_16 : decode M_T_isSide.2.1 16 = .ok (.ireturn, 1) := by decide +kernel
theorem d_T_isPlane_0 : decode M_T_isPlane.2.1 0 = .ok (.iload_n 0, 1) := by decide +kernel
theorem d_T_isPlane_1 : decode M_T_isPlane.2.1 1 = .ok (.ifCond .lt (12), 3) := by decide +kernel
theorem d_T_isPlane_4 : decode M_T_isPlane.2.1 4 = .ok (.iload_n 0, 1) := by decide +kernel
theorem d_T_isPlane_5 : decode M_T_isPlane.2.1 5 = .ok (.iconst 3, 1) := by decide +kernel
theorem d_T_isPlane_6 : decode M_T_isPlane.2.1 6 = .ok (.if_icmp .ge (7), 3) := by decide +kernel
theorem d_T_isPlane_9 : decode M_T_isPlane.2.1 9 = .ok (.iconst 1, 1) := by decide +kernel
theorem d_T_isPlane_10 : decode M_T_isPlane.2.1 10 = .ok (.goto (4), 3) := by decide +kernel
theorem d_T_isPlane_13 : decode M_T_isPlane.2.1 13 = .ok (.iconst 0, 1) := by decide +kernel
theorem d_T_isPlane_14 : decode M_T_isPlane.2.1 14 = .ok (.ireturn, 1) := by decide +kernel
theorem d_T_isLevel_0 : decode M_T_isLevel.2.1 0 = .ok (.iload_n 0, 1) := by decide +kernel
theorem d_T_isLevel_1 : decode M_T_isLevel.2.1 1 = .ok (.iconst 1, 1) := by decide +kernel
theorem d_T_isLevel_2 : decode M_T_isLevel.2.1 2 = .ok (.if_icmp .lt (12), 3) := by decide +kernel
theorem d_T_isLevel_5 : decode M_T_isLevel.2.1 5 = .ok (.iload_n 0, 1) := by decide +kernel
theorem d_T_isLevel_6 : decode M_T_isLevel.2.1 6 = .ok (.iconst 4, 1) := by decide +kernel
theorem d_T_isLevel_7 : decode M_T_isLevel.2.1 7 = .ok (.if_icmp .gt (7), 3) := by decide +kernel
theorem d_T_isLevel_10 : decode M_T_isLevel.2.1 10 = .ok (.iconst 1, 1) := by decide +kernel
theorem d_T_isLevel_11 : decode M_T_isLevel.2.1 11 = .ok (.goto (4), 3) := by decide +kernel
theorem d_T_isLevel_14 : decode M_T_isLevel.2.1 14 = .ok (.iconst 0, 1) := by decide +kernel
theorem d_T_isLevel_15 : decode M_T_isLevel.2.1 15 = .ok (.ireturn, 1) := by decide +kernel
theorem d_T_isSubband_0 : decode M_T_isSubband.2.1 0 = .ok (.iload_n 0, 1) := by decide +kernel
theorem d_T_isSubband_1 : decode M_T_isSubband.2.1 1 = .ok (.ifCond .lt (12), 3) := by decide +kernel
theorem d_T_isSubband_4 : decode M_T_isSubband.2.1 4 = .ok (.iload_n 0, 1) := by decide +kernel
theorem d_T_isSubband_5 : decode M_T_isSubband.2.1 5 = .ok (.iconst 4, 1) := by decide +kernel
theorem d_T_isSubband_6 : decode M_T_isSubband.2.1 6 = .ok (.if_icmp .ge (7), 3) := by decide +kernel
theorem d_T_isSubband_9 : decode M_T_isSubband.2.1 9 = .ok (.iconst 1, 1) := by decide +kernel
theorem d_T_isSubband_10 : decode M_T_isSubband.2.1 10 = .ok (.goto (4), 3) := by decide +kernel
theorem d_T_isSubband_13 : decode M_T_isSubband.2.1 13 = .ok (.iconst 0, 1) := by decide +kernel
theorem d_T_isSubband_14 : decode M_T_isSubband.2.1 14 = .ok (.ireturn, 1) := by decide +kernel
theorem d_T_hasTile_0 : decode M_T_hasTile.2.1 0 = .ok (.aload_n 0, 1) := by decide +kernel
theorem d_T_hasTile_1 : decode M_T_hasTile.2.1 1 = .ok (.getfield 18, 3) := by decide +kernel
theorem d_T_hasTile_4 : decode M_T_hasTile.2.1 4 = .ok (.getfield 124, 3) := by decide +kernel
theorem d_T_hasTile_7 : decode M_T_hasTile.2.1 7 = .ok (.ifCond .le (7), 3) := by decide +kernel
theorem d_T_hasTile_10 : decode M_T_hasTile.2.1 10 = .ok (.iconst 1, 1) := by decide +kernel
theorem d_T_hasTile_11 : decode M_T_hasTile.2.1 11 = .ok (.goto (4), 3) := by decide +kernel
theorem d_T_hasTile_14 : decode M_T_hasTile.2.1 14 = .ok (.iconst 0, 1) := by decide +kernel
theorem d_T_hasTile_15 : decode M_T_hasTile.2.1 15 = .ok (.ireturn, 1) := by decide +kernel
theorem d_T_hasLevel_0 : decode M_T_hasLevel.2.1 0 = .ok (.iload_n 1, 1) := by decide +kernel
theorem d_T_hasLevel_1 : decode M_T_hasLevel.2.1 1 = .ok (.iconst 1, 1) := by decide +kernel
theorem d_T_hasLevel_2 : decode M_T_hasLevel.2.1 2 = .ok (.if_icmp .lt (15), 3) := by decide +kernel
theorem d_T_hasLevel_5 : decode M_T_hasLevel.2.1 5 = .ok (.iload_n 1, 1) := by decide +kernel
theorem d_T_hasLevel_6 : decode M_T_hasLevel.2.1 6 = .ok (.aload_n 0, 1) := by decide +kernel
theorem d_T_hasLevel_7 : decode M_T_hasLevel.2.1 7 = .ok (.getfield 35, 3) := by decide +kernel
theorem d_T_hasLevel_10 : decode M_T_hasLevel.2.1 10 = .ok (.if_icmp .gt (7), 3) := by decide +kernel
theorem d_T_hasLevel_13 : decode M_T_hasLevel.2.1 13 = .ok (.iconst 1, 1) := by decide +kernel
theorem d_T_hasLevel_14 : decode M_T_hasLevel.2.1 14 = .ok (.goto (4), 3) := by decide +kernel
theorem d_T_hasLevel_17 : decode M_T_hasLevel.2.1 17 = .ok (.iconst 0, 1) := by decide +kernel
theorem d_T_hasLevel_18 : decode M_T_hasLevel.2.1 18 = .ok (.ireturn, 1) := by decide +kernel
theorem d_T_shiftRight_0 : decode M_T_shiftRight.2.1 0 = .ok (.iload_n 1, 1) := by decide +kernel
theorem d_T_shiftRight_1 : decode M_T_shiftRight.2.1 1 = .ok (.iconst 1, 1) := by decide +kernel
theorem d_T_shiftRight_2 : decode M_T_shiftRight.2.1 2 = .ok (.iand, 1) := by decide +kernel
theorem d_T_shiftRight_3 : decode M_T_shiftRight.2.1 3 = .ok (.iload_n 0, 1) := by decide +kernel
theorem d_T_shiftRight_4 : decode M_T_shiftRight.2.1 4 = .ok (.iconst 1, 1) := by decide +kernel
theorem d_T_shiftRight_5 : decode M_T_shiftRight.2.1 5 = .ok (.isub, 1) := by decide +kernel
theorem d_T_shiftRight_6 : decode M_T_shiftRight.2.1 6 = .ok (.ishl, 1) := by decide +kernel
theorem d_T_shiftRight_7 : decode M_T_shiftRight.2.1 7 = .ok (.ireturn, 1) := by decide +kernel
theorem d_T_shiftDown_0 : decode M_T_shiftDown.2.1 0 = .ok (.iload_n 1, 1) := by decide +kernel
theorem d_T_shiftDown_1 : decode M_T_shiftDown.2.1 1 = .ok (.iconst 1, 1) := by decide +kernel
theorem d_T_shiftDown_2 : decode M_T_shiftDown.2.1 2 = .ok (.ishr, 1) := by decide +kernel
theorem d_T_shiftDown_3 : decode M_T_shiftDown.2.1 3 = .ok (.iload_n 0, 1) := by decide +kernel
theorem d_T_shiftDown_4 : decode M_T_shiftDown.2.1 4 = .ok (.iconst 1, 1) := by decide +kernel
theorem d_T_shiftDown_5 : decode M_T_shiftDown.2.1 5 = .ok (.isub, 1) := by decide +kernel
theorem d_T_shiftDown_6 : decode M_T_shiftDown.2.1 6 = .ok (.ishl, 1) := by decide +kernel
theorem d_T_shiftDown_7 : decode M_T_shiftDown.2.1 7 = .ok (.ireturn, 1) := by decide +kernel
theorem d_T_cellOfPlace_0 : decode M_T_cellOfPlace.2.1 0 = .ok (.iload_n 1, 1) := by decide +kernel
theorem d_T_cellOfPlace_1 : decode M_T_cellOfPlace.2.1 1 = .ok (.invokestatic 115, 3) := by decide +kernel
theorem d_T_cellOfPlace_4 : decode M_T_cellOfPlace.2.1 4 = .ok (.ifCond .eq (26), 3) := by decide +kernel
theorem d_T_cellOfPlace_7 : decode M_T_cellOfPlace.2.1 7 = .ok (.aload_n 0, 1) := by decide +kernel
theorem d_T_cellOfPlace_8 : decode M_T_cellOfPlace.2.1 8 = .ok (.getfield 18, 3) := by decide +kernel
theorem d_T_cellOfPlace_11 : decode M_T_cellOfPlace.2.1 11 = .ok (.lload_n 2, 1) := by decide +kernel
theorem d_T_cellOfPlace_12 : decode M_T_cellOfPlace.2.1 12 = .ok (.invokevirtual 127, 3) := by decide +kernel
theorem d_T_cellOfPlace_15 : decode M_T_cellOfPlace.2.1 15 = .ok (.ifCond .eq (15), 3) := by decide +kernel
theorem d_T_cellOfPlace_18 : decode M_T_cellOfPlace.2.1 18 = .ok (.aload_n 0, 1) := by decide +kernel
theorem d_T_cellOfPlace_19 : decode M_T_cellOfPlace.2.1 19 = .ok (.getfield 22, 3) := by decide +kernel
theorem d_T_cellOfPlace_22 : decode M_T_cellOfPlace.2.1 22 = .ok (.lload 4, 2) := by decide +kernel
theorem d_T_cellOfPlace_24 : decode M_T_cellOfPlace.2.1 24 = .ok (.invokevirtual 127, 3) := by decide +kernel
theorem d_T_cellOfPlace_27 : decode M_T_cellOfPlace.2.1 27 = .ok (.ifCond .ne (5), 3) := by decide +kernel
theorem d_T_cellOfPlace_30 : decode M_T_cellOfPlace.2.1 30 = .ok (.iconst (-1), 1) := by decide +kernel
theorem d_T_cellOfPlace_31 : decode M_T_cellOfPlace.2.1 31 = .ok (.ireturn, 1) := by decide +kernel
theorem d_T_cellOfPlace_32 : decode M_T_cellOfPlace.2.1 32 = .ok (.iload_n 1, 1) := by decide +kernel
theorem d_T_cellOfPlace_33 : decode M_T_cellOfPlace.2.1 33 = .ok (.sipush (256), 3) := by decide +kernel
theorem d_T_cellOfPlace_36 : decode M_T_cellOfPlace.2.1 36 = .ok (.imul, 1) := by decide +kernel
theorem d_T_cellOfPlace_37 : decode M_T_cellOfPlace.2.1 37 = .ok (.aload_n 0, 1) := by decide +kernel
theorem d_T_cellOfPlace_38 : decode M_T_cellOfPlace.2.1 38 = .ok (.getfield 18, 3) := by decide +kernel
theorem d_T_cellOfPlace_41 : decode M_T_cellOfPlace.2.1 41 = .ok (.lload_n 2, 1) := by decide +kernel
theorem d_T_cellOfPlace_42 : decode M_T_cellOfPlace.2.1 42 = .ok (.invokevirtual 131, 3) := by decide +kernel
theorem d_T_cellOfPlace_45 : decode M_T_cellOfPlace.2.1 45 = .ok (.iadd, 1) := by decide +kernel
theorem d_T_cellOfPlace_46 : decode M_T_cellOfPlace.2.1 46 = .ok (.aload_n 0, 1) := by decide +kernel
theorem d_T_cellOfPlace_47 : decode M_T_cellOfPlace.2.1 47 = .ok (.getfield 22, 3) := by decide +kernel
theorem d_T_cellOfPlace_50 : decode M_T_cellOfPlace.2.1 50 = .ok (.lload 4, 2) := by decide +kernel
theorem d_T_cellOfPlace_52 : decode M_T_cellOfPlace.2.1 52 = .ok (.invokevirtual 131, 3) := by decide +kernel
theorem d_T_cellOfPlace_55 : decode M_T_cellOfPlace.2.1 55 = .ok (.iadd, 1) := by decide +kernel
theorem d_T_cellOfPlace_56 : decode M_T_cellOfPlace.2.1 56 = .ok (.ireturn, 1) := by decide +kernel
theorem d_T_cellOfCoordinates_0 : decode M_T_cellOfCoordinates.2.1 0 = .ok (.iload 4, 2) := by decide +kernel
theorem d_T_cellOfCoordinates_2 : decode M_T_cellOfCoordinates.2.1 2 = .ok (.i2l, 1) := by decide +kernel
theorem d_T_cellOfCoordinates_3 : decode M_T_cellOfCoordinates.2.1 3 = .ok (.iload_n 2, 1) := by decide +kernel
theorem d_T_cellOfCoordinates_4 : decode M_T_cellOfCoordinates.2.1 4 = .ok (.lshl, 1) := by decide +kernel
theorem d_T_cellOfCoordinates_5 : decode M_T_cellOfCoordinates.2.1 5 = .ok (.iload_n 2, 1) := by decide +kernel
theorem d_T_cellOfCoordinates_6 : decode M_T_cellOfCoordinates.2.1 6 = .ok (.iload_n 3, 1) := by decide +kernel
theorem d_T_cellOfCoordinates_7 : decode M_T_cellOfCoordinates.2.1 7 = .ok (.invokestatic 98, 3) := by decide +kernel
theorem d_T_cellOfCoordinates_10 : decode M_T_cellOfCoordinates.2.1 10 = .ok (.i2l, 1) := by decide +kernel
theorem d_T_cellOfCoordinates_11 : decode M_T_cellOfCoordinates.2.1 11 = .ok (.ladd, 1) := by decide +kernel
theorem d_T_cellOfCoordinates_12 : decode M_T_cellOfCoordinates.2.1 12 = .ok (.lstore 6, 2) := by decide +kernel
theorem d_T_cellOfCoordinates_14 : decode M_T_cellOfCoordinates.2.1 14 = .ok (.iload 5, 2) := by decide +kernel
theorem d_T_cellOfCoordinates_16 : decode M_T_cellOfCoordinates.2.1 16 = .ok (.i2l, 1) := by decide +kernel
theorem d_T_cellOfCoordinates_17 : decode M_T_cellOfCoordinates.2.1 17 = .ok (.iload_n 2, 1) := by decide +kernel
theorem d_T_cellOfCoordinates_18 : decode M_T_cellOfCoordinates.2.1 18 = .ok (.lshl, 1) := by decide +kernel
theorem d_T_cellOfCoordinates_19 : decode M_T_cellOfCoordinates.2.1 19 = .ok (.iload_n 2, 1) := by decide +kernel
theorem d_T_cellOfCoordinates_20 : decode M_T_cellOfCoordinates.2.1 20 = .ok (.iload_n 3, 1) := by decide +kernel
theorem d_T_cellOfCoordinates_21 : decode M_T_cellOfCoordinates.2.1 21 = .ok (.invokestatic 91, 3) := by decide +kernel
theorem d_T_cellOfCoordinates_24 : decode M_T_cellOfCoordinates.2.1 24 = .ok (.i2l, 1) := by decide +kernel
theorem d_T_cellOfCoordinates_25 : decode M_T_cellOfCoordinates.2.1 25 = .ok (.ladd, 1) := by decide +kernel
theorem d_T_cellOfCoordinates_26 : decode M_T_cellOfCoordinates.2.1 26 = .ok (.lstore 8, 2) := by decide +kernel
theorem d_T_cellOfCoordinates_28 : decode M_T_cellOfCoordinates.2.1 28 = .ok (.aload_n 0, 1) := by decide +kernel
theorem d_T_cellOfCoordinates_29 : decode M_T_cellOfCoordinates.2.1 29 = .ok (.iload_n 1, 1) := by decide +kernel
theorem d_T_cellOfCoordinates_30 : decode M_T_cellOfCoordinates.2.1 30 = .ok (.lload 6, 2) := by decide +kernel
theorem d_T_cellOfCoordinates_32 : decode M_T_cellOfCoordinates.2.1 32 = .ok (.lload 8, 2) := by decide +kernel
theorem d_T_cellOfCoordinates_34 : decode M_T_cellOfCoordinates.2.1 34 = .ok (.invokevirtual 60, 3) := by decide +kernel
theorem d_T_cellOfCoordinates_37 : decode M_T_cellOfCoordinates.2.1 37 = .ok (.ireturn, 1) := by decide +kernel
theorem d_T_valueIn_0 : decode M_T_valueIn.2.1 0 = .ok (.iload_n 1, 1) := by decide +kernel
theorem d_T_valueIn_1 : decode M_T_valueIn.2.1 1 = .ok (.iconst (-1), 1) := by decide +kernel
theorem d_T_valueIn_2 : decode M_T_valueIn.2.1 2 = .ok (.if_icmp .ne (7), 3) := by decide +kernel
theorem d_T_valueIn_5 : decode M_T_valueIn.2.1 5 = .ok (.iconst 0, 1) := by decide +kernel
theorem d_T_valueIn_6 : decode M_T_valueIn.2.1 6 = .ok (.goto (9), 3) := by decide +kernel
theorem d_T_valueIn_9 : decode M_T_valueIn.2.1 9 = .ok (.aload_n 0, 1) := by decide +kernel
theorem d_T_valueIn_10 : decode M_T_valueIn.2.1 10 = .ok (.getfield 9, 3) := by decide +kernel
theorem d_T_valueIn_13 : decode M_T_valueIn.2.1 13 = .ok (.iload_n 1, 1) := by decide +kernel
theorem d_T_valueIn_14 : decode M_T_valueIn.2.1 14 = .ok (.iaload, 1) := by decide +kernel
theorem d_T_valueIn_15 : decode M_T_valueIn.2.1 15 = .ok (.ireturn, 1) := by decide +kernel
theorem d_T_isOfSubband_0 : decode M_T_isOfSubband.2.1 0 = .ok (.aload_n 0, 1) := by decide +kernel
theorem d_T_isOfSubband_1 : decode M_T_isOfSubband.2.1 1 = .ok (.getfield 18, 3) := by decide +kernel
theorem d_T_isOfSubband_4 : decode M_T_isOfSubband.2.1 4 = .ok (.getfield 135, 3) := by decide +kernel
theorem d_T_isOfSubband_7 : decode M_T_isOfSubband.2.1 7 = .ok (.iload_n 1, 1) := by decide +kernel
theorem d_T_isOfSubband_8 : decode M_T_isOfSubband.2.1 8 = .ok (.bipush (16), 2) := by decide +kernel
theorem d_T_isOfSubband_10 : decode M_T_isOfSubband.2.1 10 = .ok (.irem, 1) := by decide +kernel
theorem d_T_isOfSubband_11 : decode M_T_isOfSubband.2.1 11 = .ok (.iadd, 1) := by decide +kernel
theorem d_T_isOfSubband_12 : decode M_T_isOfSubband.2.1 12 = .ok (.istore 4, 2) := by decide +kernel
theorem d_T_isOfSubband_14 : decode M_T_isOfSubband.2.1 14 = .ok (.aload_n 0, 1) := by decide +kernel
theorem d_T_isOfSubband_15 : decode M_T_isOfSubband.2.1 15 = .ok (.getfield 22, 3) := by decide +kernel
theorem d_T_isOfSubband_18 : decode M_T_isOfSubband.2.1 18 = .ok (.getfield 135, 3) := by decide +kernel
theorem d_T_isOfSubband_21 : decode M_T_isOfSubband.2.1 21 = .ok (.iload_n 1, 1) := by decide +kernel
theorem d_T_isOfSubband_22 : decode M_T_isOfSubband.2.1 22 = .ok (.bipush (16), 2) := by decide +kernel
theorem d_T_isOfSubband_24 : decode M_T_isOfSubband.2.1 24 = .ok (.idiv, 1) := by decide +kernel
theorem d_T_isOfSubband_25 : decode M_T_isOfSubband.2.1 25 = .ok (.bipush (16), 2) := by decide +kernel
theorem d_T_isOfSubband_27 : decode M_T_isOfSubband.2.1 27 = .ok (.irem, 1) := by decide +kernel
theorem d_T_isOfSubband_28 : decode M_T_isOfSubband.2.1 28 = .ok (.iadd, 1) := by decide +kernel
theorem d_T_isOfSubband_29 : decode M_T_isOfSubband.2.1 29 = .ok (.istore 5, 2) := by decide +kernel
theorem d_T_isOfSubband_31 : decode M_T_isOfSubband.2.1 31 = .ok (.iconst 1, 1) := by decide +kernel
theorem d_T_isOfSubband_32 : decode M_T_isOfSubband.2.1 32 = .ok (.iload_n 2, 1) := by decide +kernel
theorem d_T_isOfSubband_33 : decode M_T_isOfSubband.2.1 33 = .ok (.ishl, 1) := by decide +kernel
theorem d_T_isOfSubband_34 : decode M_T_isOfSubband.2.1 34 = .ok (.iconst 1, 1) := by decide +kernel
theorem d_T_isOfSubband_35 : decode M_T_isOfSubband.2.1 35 = .ok (.isub, 1) := by decide +kernel
theorem d_T_isOfSubband_36 : decode M_T_isOfSubband.2.1 36 = .ok (.istore 6, 2) := by decide +kernel
theorem d_T_isOfSubband_38 : decode M_T_isOfSubband.2.1 38 = .ok (.iload 4, 2) := by decide +kernel
theorem d_T_isOfSubband_40 : decode M_T_isOfSubband.2.1 40 = .ok (.iload 6, 2) := by decide +kernel
theorem d_T_isOfSubband_42 : decode M_T_isOfSubband.2.1 42 = .ok (.iand, 1) := by decide +kernel
theorem d_T_isOfSubband_43 : decode M_T_isOfSubband.2.1 43 = .ok (.iload_n 2, 1) := by decide +kernel
theorem d_T_isOfSubband_44 : decode M_T_isOfSubband.2.1 44 = .ok (.iload_n 3, 1) := by decide +kernel
theorem d_T_isOfSubband_45 : decode M_T_isOfSubband.2.1 45 = .ok (.invokestatic 98, 3) := by decide +kernel
theorem d_T_isOfSubband_48 : decode M_T_isOfSubband.2.1 48 = .ok (.if_icmp .ne (20), 3) := by decide +kernel
theorem d_T_isOfSubband_51 : decode M_T_isOfSubband.2.1 51 = .ok (.iload 5, 2) := by decide +kernel
theorem d_T_isOfSubband_53 : decode M_T_isOfSubband.2.1 53 = .ok (.iload 6, 2) := by decide +kernel
theorem d_T_isOfSubband_55 : decode M_T_isOfSubband.2.1 55 = .ok (.iand, 1) := by decide +kernel
theorem d_T_isOfSubband_56 : decode M_T_isOfSubband.2.1 56 = .ok (.iload_n 2, 1) := by decide +kernel
theorem d_T_isOfSubband_57 : decode M_T_isOfSubband.2.1 57 = .ok (.iload_n 3, 1) := by decide +kernel
theorem d_T_isOfSubband_58 : decode M_T_isOfSubband.2.1 58 = .ok (.invokestatic 91, 3) := by decide +kernel
theorem d_T_isOfSubband_61 : decode M_T_isOfSubband.2.1 61 = .ok (.if_icmp .ne (7), 3) := by decide +kernel
theorem d_T_isOfSubband_64 : decode M_T_isOfSubband.2.1 64 = .ok (.iconst 1, 1) := by decide +kernel
theorem d_T_isOfSubband_65 : decode M_T_isOfSubband.2.1 65 = .ok (.goto (4), 3) := by decide +kernel
theorem d_T_isOfSubband_68 : decode M_T_isOfSubband.2.1 68 = .ok (.iconst 0, 1) := by decide +kernel
theorem d_T_isOfSubband_69 : decode M_T_isOfSubband.2.1 69 = .ok (.ireturn, 1) := by decide +kernel
theorem d_T_mixCell_0 : decode M_T_mixCell.2.1 0 = .ok (.aload_n 0, 1) := by decide +kernel
theorem d_T_mixCell_1 : decode M_T_mixCell.2.1 1 = .ok (.getfield 9, 3) := by decide +kernel
theorem d_T_mixCell_4 : decode M_T_mixCell.2.1 4 = .ok (.iload_n 1, 1) := by decide +kernel
theorem d_T_mixCell_5 : decode M_T_mixCell.2.1 5 = .ok (.iaload, 1) := by decide +kernel
theorem d_T_mixCell_6 : decode M_T_mixCell.2.1 6 = .ok (.istore_n 2, 1) := by decide +kernel
theorem d_T_mixCell_7 : decode M_T_mixCell.2.1 7 = .ok (.aload_n 0, 1) := by decide +kernel
theorem d_T_mixCell_8 : decode M_T_mixCell.2.1 8 = .ok (.getfield 9, 3) := by decide +kernel
theorem d_T_mixCell_11 : decode M_T_mixCell.2.1 11 = .ok (.iload_n 1, 1) := by decide +kernel
theorem d_T_mixCell_12 : decode M_T_mixCell.2.1 12 = .ok (.sipush (256), 3) := by decide +kernel
theorem d_T_mixCell_15 : decode M_T_mixCell.2.1 15 = .ok (.iadd, 1) := by decide +kernel
theorem d_T_mixCell_16 : decode M_T_mixCell.2.1 16 = .ok (.iaload, 1) := by decide +kernel
theorem d_T_mixCell_17 : decode M_T_mixCell.2.1 17 = .ok (.istore_n 3, 1) := by decide +kernel
theorem d_T_mixCell_18 : decode M_T_mixCell.2.1 18 = .ok (.aload_n 0, 1) := by decide +kernel
theorem d_T_mixCell_19 : decode M_T_mixCell.2.1 19 = .ok (.getfield 9, 3) := by decide +kernel
theorem d_T_mixCell_22 : decode M_T_mixCell.2.1 22 = .ok (.iload_n 1, 1) := by decide +kernel
theorem d_T_mixCell_23 : decode M_T_mixCell.2.1 23 = .ok (.sipush (512), 3) := by decide +kernel
theorem d_T_mixCell_26 : decode M_T_mixCell.2.1 26 = .ok (.iadd, 1) := by decide +kernel
theorem d_T_mixCell_27 : decode M_T_mixCell.2.1 27 = .ok (.iaload, 1) := by decide +kernel
theorem d_T_mixCell_28 : decode M_T_mixCell.2.1 28 = .ok (.istore 4, 2) := by decide +kernel
theorem d_T_mixCell_30 : decode M_T_mixCell.2.1 30 = .ok (.aload_n 0, 1) := by decide +kernel
theorem d_T_mixCell_31 : decode M_T_mixCell.2.1 31 = .ok (.getfield 9, 3) := by decide +kernel
theorem d_T_mixCell_34 : decode M_T_mixCell.2.1 34 = .ok (.iload_n 1, 1) := by decide +kernel
theorem d_T_mixCell_35 : decode M_T_mixCell.2.1 35 = .ok (.iload_n 2, 1) := by decide +kernel
theorem d_T_mixCell_36 : decode M_T_mixCell.2.1 36 = .ok (.iconst 2, 1) := by decide +kernel
theorem d_T_mixCell_37 : decode M_T_mixCell.2.1 37 = .ok (.iload_n 3, 1) := by decide +kernel
theorem d_T_mixCell_38 : decode M_T_mixCell.2.1 38 = .ok (.imul, 1) := by decide +kernel
theorem d_T_mixCell_39 : decode M_T_mixCell.2.1 39 = .ok (.iadd, 1) := by decide +kernel
theorem d_T_mixCell_40 : decode M_T_mixCell.2.1 40 = .ok (.iload 4, 2) := by decide +kernel
theorem d_T_mixCell_42 : decode M_T_mixCell.2.1 42 = .ok (.iadd, 1) := by decide +kernel
theorem d_T_mixCell_43 : decode M_T_mixCell.2.1 43 = .ok (.iconst 2, 1) := by decide +kernel
theorem d_T_mixCell_44 : decode M_T_mixCell.2.1 44 = .ok (.ishr, 1) := by decide +kernel
theorem d_T_mixCell_45 : decode M_T_mixCell.2.1 45 = .ok (.iastore, 1) := by decide +kernel
theorem d_T_mixCell_46 : decode M_T_mixCell.2.1 46 = .ok (.aload_n 0, 1) := by decide +kernel
theorem d_T_mixCell_47 : decode M_T_mixCell.2.1 47 = .ok (.getfield 9, 3) := by decide +kernel
theorem d_T_mixCell_50 : decode M_T_mixCell.2.1 50 = .ok (.iload_n 1, 1) := by decide +kernel
theorem d_T_mixCell_51 : decode M_T_mixCell.2.1 51 = .ok (.sipush (256), 3) := by decide +kernel
theorem d_T_mixCell_54 : decode M_T_mixCell.2.1 54 = .ok (.iadd, 1) := by decide +kernel
theorem d_T_mixCell_55 : decode M_T_mixCell.2.1 55 = .ok (.iload 4, 2) := by decide +kernel
theorem d_T_mixCell_57 : decode M_T_mixCell.2.1 57 = .ok (.iload_n 3, 1) := by decide +kernel
theorem d_T_mixCell_58 : decode M_T_mixCell.2.1 58 = .ok (.isub, 1) := by decide +kernel
theorem d_T_mixCell_59 : decode M_T_mixCell.2.1 59 = .ok (.iastore, 1) := by decide +kernel
theorem d_T_mixCell_60 : decode M_T_mixCell.2.1 60 = .ok (.aload_n 0, 1) := by decide +kernel
theorem d_T_mixCell_61 : decode M_T_mixCell.2.1 61 = .ok (.getfield 9, 3) := by decide +kernel
theorem d_T_mixCell_64 : decode M_T_mixCell.2.1 64 = .ok (.iload_n 1, 1) := by decide +kernel
theorem d_T_mixCell_65 : decode M_T_mixCell.2.1 65 = .ok (.sipush (512), 3) := by decide +kernel
theorem d_T_mixCell_68 : decode M_T_mixCell.2.1 68 = .ok (.iadd, 1) := by decide +kernel
theorem d_T_mixCell_69 : decode M_T_mixCell.2.1 69 = .ok (.iload_n 2, 1) := by decide +kernel
theorem d_T_mixCell_70 : decode M_T_mixCell.2.1 70 = .ok (.iload_n 3, 1) := by decide +kernel
theorem d_T_mixCell_71 : decode M_T_mixCell.2.1 71 = .ok (.isub, 1) := by decide +kernel
theorem d_T_mixCell_72 : decode M_T_mixCell.2.1 72 = .ok (.iastore, 1) := by decide +kernel
theorem d_T_mixCell_73 : decode M_T_mixCell.2.1 73 = .ok (.return_, 1) := by decide +kernel
theorem d_T_unmixCell_0 : decode M_T_unmixCell.2.1 0 = .ok (.aload_n 0, 1) := by decide +kernel
theorem d_T_unmixCell_1 : decode M_T_unmixCell.2.1 1 = .ok (.getfield 9, 3) := by decide +kernel
theorem d_T_unmixCell_4 : decode M_T_unmixCell.2.1 4 = .ok (.iload_n 1, 1) := by decide +kernel
theorem d_T_unmixCell_5 : decode M_T_unmixCell.2.1 5 = .ok (.iaload, 1) := by decide +kernel
theorem d_T_unmixCell_6 : decode M_T_unmixCell.2.1 6 = .ok (.istore_n 2, 1) := by decide +kernel
theorem d_T_unmixCell_7 : decode M_T_unmixCell.2.1 7 = .ok (.aload_n 0, 1) := by decide +kernel
theorem d_T_unmixCell_8 : decode M_T_unmixCell.2.1 8 = .ok (.getfield 9, 3) := by decide +kernel
theorem d_T_unmixCell_11 : decode M_T_unmixCell.2.1 11 = .ok (.iload_n 1, 1) := by decide +kernel
theorem d_T_unmixCell_12 : decode M_T_unmixCell.2.1 12 = .ok (.sipush (256), 3) := by decide +kernel
theorem d_T_unmixCell_15 : decode M_T_unmixCell.2.1 15 = .ok (.iadd, 1) := by decide +kernel
theorem d_T_unmixCell_16 : decode M_T_unmixCell.2.1 16 = .ok (.iaload, 1) := by decide +kernel
theorem d_T_unmixCell_17 : decode M_T_unmixCell.2.1 17 = .ok (.istore_n 3, 1) := by decide +kernel
theorem d_T_unmixCell_18 : decode M_T_unmixCell.2.1 18 = .ok (.aload_n 0, 1) := by decide +kernel
theorem d_T_unmixCell_19 : decode M_T_unmixCell.2.1 19 = .ok (.getfield 9, 3) := by decide +kernel
theorem d_T_unmixCell_22 : decode M_T_unmixCell.2.1 22 = .ok (.iload_n 1, 1) := by decide +kernel
theorem d_T_unmixCell_23 : decode M_T_unmixCell.2.1 23 = .ok (.sipush (512), 3) := by decide +kernel
theorem d_T_unmixCell_26 : decode M_T_unmixCell.2.1 26 = .ok (.iadd, 1) := by decide +kernel
theorem d_T_unmixCell_27 : decode M_T_unmixCell.2.1 27 = .ok (.iaload, 1) := by decide +kernel
theorem d_T_unmixCell_28 : decode M_T_unmixCell.2.1 28 = .ok (.istore 4, 2) := by decide +kernel
theorem d_T_unmixCell_30 : decode M_T_unmixCell.2.1 30 = .ok (.iload_n 2, 1) := by decide +kernel
theorem d_T_unmixCell_31 : decode M_T_unmixCell.2.1 31 = .ok (.iload_n 3, 1) := by decide +kernel
theorem d_T_unmixCell_32 : decode M_T_unmixCell.2.1 32 = .ok (.iload 4, 2) := by decide +kernel
theorem d_T_unmixCell_34 : decode M_T_unmixCell.2.1 34 = .ok (.iadd, 1) := by decide +kernel
theorem d_T_unmixCell_35 : decode M_T_unmixCell.2.1 35 = .ok (.iconst 2, 1) := by decide +kernel
theorem d_T_unmixCell_36 : decode M_T_unmixCell.2.1 36 = .ok (.ishr, 1) := by decide +kernel
theorem d_T_unmixCell_37 : decode M_T_unmixCell.2.1 37 = .ok (.isub, 1) := by decide +kernel
theorem d_T_unmixCell_38 : decode M_T_unmixCell.2.1 38 = .ok (.istore 5, 2) := by decide +kernel
theorem d_T_unmixCell_40 : decode M_T_unmixCell.2.1 40 = .ok (.aload_n 0, 1) := by decide +kernel
theorem d_T_unmixCell_41 : decode M_T_unmixCell.2.1 41 = .ok (.getfield 9, 3) := by decide +kernel
theorem d_T_unmixCell_44 : decode M_T_unmixCell.2.1 44 = .ok (.iload_n 1, 1) := by decide +kernel
theorem d_T_unmixCell_45 : decode M_T_unmixCell.2.1 45 = .ok (.iload 4, 2) := by decide +kernel
theorem d_T_unmixCell_47 : decode M_T_unmixCell.2.1 47 = .ok (.iload 5, 2) := by decide +kernel
theorem d_T_unmixCell_49 : decode M_T_unmixCell.2.1 49 = .ok (.iadd, 1) := by decide +kernel
theorem d_T_unmixCell_50 : decode M_T_unmixCell.2.1 50 = .ok (.iastore, 1) := by decide +kernel
theorem d_T_unmixCell_51 : decode M_T_unmixCell.2.1 51 = .ok (.aload_n 0, 1) := by decide +kernel
theorem d_T_unmixCell_52 : decode M_T_unmixCell.2.1 52 = .ok (.getfield 9, 3) := by decide +kernel
theorem d_T_unmixCell_55 : decode M_T_unmixCell.2.1 55 = .ok (.iload_n 1, 1) := by decide +kernel
theorem d_T_unmixCell_56 : decode M_T_unmixCell.2.1 56 = .ok (.sipush (256), 3) := by decide +kernel
theorem d_T_unmixCell_59 : decode M_T_unmixCell.2.1 59 = .ok (.iadd, 1) := by decide +kernel
theorem d_T_unmixCell_60 : decode M_T_unmixCell.2.1 60 = .ok (.iload 5, 2) := by decide +kernel
theorem d_T_unmixCell_62 : decode M_T_unmixCell.2.1 62 = .ok (.iastore, 1) := by decide +kernel
theorem d_T_unmixCell_63 : decode M_T_unmixCell.2.1 63 = .ok (.aload_n 0, 1) := by decide +kernel
theorem d_T_unmixCell_64 : decode M_T_unmixCell.2.1 64 = .ok (.getfield 9, 3) := by decide +kernel
theorem d_T_unmixCell_67 : decode M_T_unmixCell.2.1 67 = .ok (.iload_n 1, 1) := by decide +kernel
theorem d_T_unmixCell_68 : decode M_T_unmixCell.2.1 68 = .ok (.sipush (512), 3) := by decide +kernel
theorem d_T_unmixCell_71 : decode M_T_unmixCell.2.1 71 = .ok (.iadd, 1) := by decide +kernel
theorem d_T_unmixCell_72 : decode M_T_unmixCell.2.1 72 = .ok (.iload_n 3, 1) := by decide +kernel
theorem d_T_unmixCell_73 : decode M_T_unmixCell.2.1 73 = .ok (.iload 5, 2) := by decide +kernel
theorem d_T_unmixCell_75 : decode M_T_unmixCell.2.1 75 = .ok (.iadd, 1) := by decide +kernel
theorem d_T_unmixCell_76 : decode M_T_unmixCell.2.1 76 = .ok (.iastore, 1) := by decide +kernel
theorem d_T_unmixCell_77 : decode M_T_unmixCell.2.1 77 = .ok (.return_, 1) := by decide +kernel
theorem d_T_liftLines_0 : decode M_T_liftLines.2.1 0 = .ok (.aload_n 0, 1) := by decide +kernel
theorem d_T_liftLines_1 : decode M_T_liftLines.2.1 1 = .ok (.getfield 35, 3) := by decide +kernel
theorem d_T_liftLines_4 : decode M_T_liftLines.2.1 4 = .ok (.istore 6, 2) := by decide +kernel
theorem d_T_liftLines_6 : decode M_T_liftLines.2.1 6 = .ok (.aload_n 2, 1) := by decide +kernel
theorem d_T_liftLines_7 : decode M_T_liftLines.2.1 7 = .ok (.iload 6, 2) := by decide +kernel
theorem d_T_liftLines_9 : decode M_T_liftLines.2.1 9 = .ok (.iconst 0, 1) := by decide +kernel
theorem d_T_liftLines_10 : decode M_T_liftLines.2.1 10 = .ok (.invokevirtual 101, 3) := by decide +kernel
theorem d_T_liftLines_13 : decode M_T_liftLines.2.1 13 = .ok (.istore 7, 2) := by decide +kernel
theorem d_T_liftLines_15 : decode M_T_liftLines.2.1 15 = .ok (.iload 7, 2) := by decide +kernel
theorem d_T_liftLines_17 : decode M_T_liftLines.2.1 17 = .ok (.ifCond .ne (4), 3) := by decide +kernel
theorem d_T_liftLines_20 : decode M_T_liftLines.2.1 20 = .ok (.return_, 1) := by decide +kernel
theorem d_T_liftLines_21 : decode M_T_liftLines.2.1 21 = .ok (.aload_n 2, 1) := by decide +kernel
theorem d_T_liftLines_22 : decode M_T_liftLines.2.1 22 = .ok (.iload 6, 2) := by decide +kernel
theorem d_T_liftLines_24 : decode M_T_liftLines.2.1 24 = .ok (.iconst 0, 1) := by decide +kernel
theorem d_T_liftLines_25 : decode M_T_liftLines.2.1 25 = .ok (.invokevirtual 95, 3) := by decide +kernel
theorem d_T_liftLines_28 : decode M_T_liftLines.2.1 28 = .ok (.istore 8, 2) := by decide +kernel
theorem d_T_liftLines_30 : decode M_T_liftLines.2.1 30 = .ok (.aload_n 3, 1) := by decide +kernel
theorem d_T_liftLines_31 : decode M_T_liftLines.2.1 31 = .ok (.iload 6, 2) := by decide +kernel
theorem d_T_liftLines_33 : decode M_T_liftLines.2.1 33 = .ok (.iconst 0, 1) := by decide +kernel
theorem d_T_liftLines_34 : decode M_T_liftLines.2.1 34 = .ok (.invokevirtual 95, 3) := by decide +kernel
theorem d_T_liftLines_37 : decode M_T_liftLines.2.1 37 = .ok (.istore 9, 2) := by decide +kernel
theorem d_T_liftLines_39 : decode M_T_liftLines.2.1 39 = .ok (.iload 9, 2) := by decide +kernel
theorem d_T_liftLines_41 : decode M_T_liftLines.2.1 41 = .ok (.aload_n 3, 1) := by decide +kernel
theorem d_T_liftLines_42 : decode M_T_liftLines.2.1 42 = .ok (.iload 6, 2) := by decide +kernel
theorem d_T_liftLines_44 : decode M_T_liftLines.2.1 44 = .ok (.iconst 0, 1) := by decide +kernel
theorem d_T_liftLines_45 : decode M_T_liftLines.2.1 45 = .ok (.invokevirtual 101, 3) := by decide +kernel
theorem d_T_liftLines_48 : decode M_T_liftLines.2.1 48 = .ok (.iadd, 1) := by decide +kernel
theorem d_T_liftLines_49 : decode M_T_liftLines.2.1 49 = .ok (.istore 10, 2) := by decide +kernel
theorem d_T_liftLines_51 : decode M_T_liftLines.2.1 51 = .ok (.iload 9, 2) := by decide +kernel
theorem d_T_liftLines_53 : decode M_T_liftLines.2.1 53 = .ok (.istore 11, 2) := by decide +kernel
theorem d_T_liftLines_55 : decode M_T_liftLines.2.1 55 = .ok (.iload 11, 2) := by decide +kernel
theorem d_T_liftLines_57 : decode M_T_liftLines.2.1 57 = .ok (.iload 10, 2) := by decide +kernel
theorem d_T_liftLines_59 : decode M_T_liftLines.2.1 59 = .ok (.if_icmp .ge (108), 3) := by decide +kernel
theorem d_T_liftLines_62 : decode M_T_liftLines.2.1 62 = .ok (.iload_n 1, 1) := by decide +kernel
theorem d_T_liftLines_63 : decode M_T_liftLines.2.1 63 = .ok (.sipush (256), 3) := by decide +kernel
theorem d_T_liftLines_66 : decode M_T_liftLines.2.1 66 = .ok (.imul, 1) := by decide +kernel
theorem d_T_liftLines_67 : decode M_T_liftLines.2.1 67 = .ok (.aload_n 2, 1) := by decide +kernel
theorem d_T_liftLines_68 : decode M_T_liftLines.2.1 68 = .ok (.iload 8, 2) := by decide +kernel
theorem d_T_liftLines_70 : decode M_T_liftLines.2.1 70 = .ok (.iload 6, 2) := by decide +kernel
theorem d_T_liftLines_72 : decode M_T_liftLines.2.1 72 = .ok (.ishl, 1) := by decide +kernel
theorem d_T_liftLines_73 : decode M_T_liftLines.2.1 73 = .ok (.i2l, 1) := by decide +kernel
theorem d_T_liftLines_74 : decode M_T_liftLines.2.1 74 = .ok (.invokevirtual 131, 3) := by decide +kernel
theorem d_T_liftLines_77 : decode M_T_liftLines.2.1 77 = .ok (.iadd, 1) := by decide +kernel
theorem d_T_liftLines_78 : decode M_T_liftLines.2.1 78 = .ok (.aload_n 3, 1) := by decide +kernel
theorem d_T_liftLines_79 : decode M_T_liftLines.2.1 79 = .ok (.iload 11, 2) := by decide +kernel
theorem d_T_liftLines_81 : decode M_T_liftLines.2.1 81 = .ok (.iload 6, 2) := by decide +kernel
theorem d_T_liftLines_83 : decode M_T_liftLines.2.1 83 = .ok (.ishl, 1) := by decide +kernel
theorem d_T_liftLines_84 : decode M_T_liftLines.2.1 84 = .ok (.i2l, 1) := by decide +kernel
theorem d_T_liftLines_85 : decode M_T_liftLines.2.1 85 = .ok (.invokevirtual 131, 3) := by decide +kernel
theorem d_T_liftLines_88 : decode M_T_liftLines.2.1 88 = .ok (.iadd, 1) := by decide +kernel
theorem d_T_liftLines_89 : decode M_T_liftLines.2.1 89 = .ok (.istore 12, 2) := by decide +kernel
theorem d_T_liftLines_91 : decode M_T_liftLines.2.1 91 = .ok (.aload_n 0, 1) := by decide +kernel
theorem d_T_liftLines_92 : decode M_T_liftLines.2.1 92 = .ok (.getfield 28, 3) := by decide +kernel
theorem d_T_liftLines_95 : decode M_T_liftLines.2.1 95 = .ok (.aload_n 0, 1) := by decide +kernel
theorem d_T_liftLines_96 : decode M_T_liftLines.2.1 96 = .ok (.getfield 9, 3) := by decide +kernel
theorem d_T_liftLines_99 : decode M_T_liftLines.2.1 99 = .ok (.iload 12, 2) := by decide +kernel
theorem d_T_liftLines_101 : decode M_T_liftLines.2.1 101 = .ok (.aload_n 2, 1) := by decide +kernel
theorem d_T_liftLines_102 : decode M_T_liftLines.2.1 102 = .ok (.getfield 138, 3) := by decide +kernel
theorem d_T_liftLines_105 : decode M_T_liftLines.2.1 105 = .ok (.iload 6, 2) := by decide +kernel
theorem d_T_liftLines_107 : decode M_T_liftLines.2.1 107 = .ok (.ishl, 1) := by decide +kernel
theorem d_T_liftLines_108 : decode M_T_liftLines.2.1 108 = .ok (.iload 8, 2) := by decide +kernel
theorem d_T_liftLines_110 : decode M_T_liftLines.2.1 110 = .ok (.iload 7, 2) := by decide +kernel
theorem d_T_liftLines_112 : decode M_T_liftLines.2.1 112 = .ok (.invokevirtual 141, 3) := by decide +kernel
theorem d_T_liftLines_115 : decode M_T_liftLines.2.1 115 = .ok (.iload 5, 2) := by decide +kernel
theorem d_T_liftLines_117 : decode M_T_liftLines.2.1 117 = .ok (.ifCond .eq (15), 3) := by decide +kernel
theorem d_T_liftLines_120 : decode M_T_liftLines.2.1 120 = .ok (.aload_n 0, 1) := by decide +kernel
theorem d_T_liftLines_121 : decode M_T_liftLines.2.1 121 = .ok (.getfield 28, 3) := by decide +kernel
theorem d_T_liftLines_124 : decode M_T_liftLines.2.1 124 = .ok (.iload 4, 2) := by decide +kernel
theorem d_T_liftLines_126 : decode M_T_liftLines.2.1 126 = .ok (.invokevirtual 145, 3) := by decide +kernel
theorem d_T_liftLines_129 : decode M_T_liftLines.2.1 129 = .ok (.goto (12), 3) := by decide +kernel
theorem d_T_liftLines_132 : decode M_T_liftLines.2.1 132 = .ok (.aload_n 0, 1) := by decide +kernel
theorem d_T_liftLines_133 : decode M_T_liftLines.2.1 133 = .ok (.getfield 28, 3) := by decide +kernel
theorem d_T_liftLines_136 : decode M_T_liftLines.2.1 136 = .ok (.iload 4, 2) := by decide +kernel
theorem d_T_liftLines_138 : decode M_T_liftLines.2.1 138 = .ok (.invokevirtual 148, 3) := by decide +kernel
theorem d_T_liftLines_141 : decode M_T_liftLines.2.1 141 = .ok (.aload_n 0, 1) := by decide +kernel
theorem d_T_liftLines_142 : decode M_T_liftLines.2.1 142 = .ok (.getfield 28, 3) := by decide +kernel
theorem d_T_liftLines_145 : decode M_T_liftLines.2.1 145 = .ok (.aload_n 0, 1) := by decide +kernel
theorem d_T_liftLines_146 : decode M_T_liftLines.2.1 146 = .ok (.getfield 9, 3) := by decide +kernel
theorem d_T_liftLines_149 : decode M_T_liftLines.2.1 149 = .ok (.iload 12, 2) := by decide +kernel
theorem d_T_liftLines_151 : decode M_T_liftLines.2.1 151 = .ok (.aload_n 2, 1) := by decide +kernel
theorem d_T_liftLines_152 : decode M_T_liftLines.2.1 152 = .ok (.getfield 138, 3) := by decide +kernel
theorem d_T_liftLines_155 : decode M_T_liftLines.2.1 155 = .ok (.iload 6, 2) := by decide +kernel
theorem d_T_liftLines_157 : decode M_T_liftLines.2.1 157 = .ok (.ishl, 1) := by decide +kernel
theorem d_T_liftLines_158 : decode M_T_liftLines.2.1 158 = .ok (.invokevirtual 151, 3) := by decide +kernel
theorem d_T_liftLines_161 : decode M_T_liftLines.2.1 161 = .ok (.iinc 11 (1), 3) := by decide +kernel
theorem d_T_liftLines_164 : decode M_T_liftLines.2.1 164 = .ok (.goto (-109), 3) := by decide +kernel
theorem d_T_liftLines_167 : decode M_T_liftLines.2.1 167 = .ok (.return_, 1) := by decide +kernel
theorem d_T_thinned_0 : decode M_T_thinned.2.1 0 = .ok (.iload_n 0, 1) := by decide +kernel
theorem d_T_thinned_1 : decode M_T_thinned.2.1 1 = .ok (.invokestatic 120, 3) := by decide +kernel
theorem d_T_thinned_4 : decode M_T_thinned.2.1 4 = .ok (.iload_n 1, 1) := by decide +kernel
theorem d_T_thinned_5 : decode M_T_thinned.2.1 5 = .ok (.i2l, 1) := by decide +kernel
theorem d_T_thinned_6 : decode M_T_thinned.2.1 6 = .ok (.ldiv, 1) := by decide +kernel
theorem d_T_thinned_7 : decode M_T_thinned.2.1 7 = .ok (.lstore_n 2, 1) := by decide +kernel
theorem d_T_thinned_8 : decode M_T_thinned.2.1 8 = .ok (.lload_n 2, 1) := by decide +kernel
theorem d_T_thinned_9 : decode M_T_thinned.2.1 9 = .ok (.lconst 0, 1) := by decide +kernel
theorem d_T_thinned_10 : decode M_T_thinned.2.1 10 = .ok (.lcmp, 1) := by decide +kernel
theorem d_T_thinned_11 : decode M_T_thinned.2.1 11 = .ok (.ifCond .ne (5), 3) := by decide +kernel
theorem d_T_thinned_14 : decode M_T_thinned.2.1 14 = .ok (.iconst 0, 1) := by decide +kernel
theorem d_T_thinned_15 : decode M_T_thinned.2.1 15 = .ok (.ireturn, 1) := by decide +kernel
theorem d_T_thinned_16 : decode M_T_thinned.2.1 16 = .ok (.lload_n 2, 1) := by decide +kernel
theorem d_T_thinned_17 : decode M_T_thinned.2.1 17 = .ok (.iload_n 1, 1) := by decide +kernel
theorem d_T_thinned_18 : decode M_T_thinned.2.1 18 = .ok (.i2l, 1) := by decide +kernel
theorem d_T_thinned_19 : decode M_T_thinned.2.1 19 = .ok (.lmul, 1) := by decide +kernel
theorem d_T_thinned_20 : decode M_T_thinned.2.1 20 = .ok (.iload_n 1, 1) := by decide +kernel
theorem d_T_thinned_21 : decode M_T_thinned.2.1 21 = .ok (.iconst 2, 1) := by decide +kernel
theorem d_T_thinned_22 : decode M_T_thinned.2.1 22 = .ok (.idiv, 1) := by decide +kernel
theorem d_T_thinned_23 : decode M_T_thinned.2.1 23 = .ok (.i2l, 1) := by decide +kernel
theorem d_T_thinned_24 : decode M_T_thinned.2.1 24 = .ok (.ladd, 1) := by decide +kernel
theorem d_T_thinned_25 : decode M_T_thinned.2.1 25 = .ok (.lstore 4, 2) := by decide +kernel
theorem d_T_thinned_27 : decode M_T_thinned.2.1 27 = .ok (.iload_n 0, 1) := by decide +kernel
theorem d_T_thinned_28 : decode M_T_thinned.2.1 28 = .ok (.ifCond .ge (9), 3) := by decide +kernel
theorem d_T_thinned_31 : decode M_T_thinned.2.1 31 = .ok (.lload 4, 2) := by decide +kernel
theorem d_T_thinned_33 : decode M_T_thinned.2.1 33 = .ok (.lneg, 1) := by decide +kernel
theorem d_T_thinned_34 : decode M_T_thinned.2.1 34 = .ok (.goto (5), 3) := by decide +kernel
theorem d_T_thinned_37 : decode M_T_thinned.2.1 37 = .ok (.lload 4, 2) := by decide +kernel
theorem d_T_thinned_39 : decode M_T_thinned.2.1 39 = .ok (.l2i, 1) := by decide +kernel
theorem d_T_thinned_40 : decode M_T_thinned.2.1 40 = .ok (.ireturn, 1) := by decide +kernel
theorem d_T_amountOf_0 : decode M_T_amountOf.2.1 0 = .ok (.iload_n 0, 1) := by decide +kernel
theorem d_T_amountOf_1 : decode M_T_amountOf.2.1 1 = .ok (.i2l, 1) := by decide +kernel
theorem d_T_amountOf_2 : decode M_T_amountOf.2.1 2 = .ok (.invokestatic 155, 3) := by decide +kernel
theorem d_T_amountOf_5 : decode M_T_amountOf.2.1 5 = .ok (.lreturn, 1) := by decide +kernel
theorem d_J_fill_0 : decode M_J_fill.2.1 0 = .ok (.iconst 0, 1) := by decide +kernel
theorem d_J_fill_1 : decode M_J_fill.2.1 1 = .ok (.istore_n 2, 1) := by decide +kernel
theorem d_J_fill_2 : decode M_J_fill.2.1 2 = .ok (.aload_n 0, 1) := by decide +kernel
theorem d_J_fill_3 : decode M_J_fill.2.1 3 = .ok (.arraylength, 1) := by decide +kernel
theorem d_J_fill_4 : decode M_J_fill.2.1 4 = .ok (.istore_n 3, 1) := by decide +kernel
theorem d_J_fill_5 : decode M_J_fill.2.1 5 = .ok (.iload_n 2, 1) := by decide +kernel
theorem d_J_fill_6 : decode M_J_fill.2.1 6 = .ok (.iload_n 3, 1) := by decide +kernel
theorem d_J_fill_7 : decode M_J_fill.2.1 7 = .ok (.if_icmp .ge (13), 3) := by decide +kernel
theorem d_J_fill_10 : decode M_J_fill.2.1 10 = .ok (.aload_n 0, 1) := by decide +kernel
theorem d_J_fill_11 : decode M_J_fill.2.1 11 = .ok (.iload_n 2, 1) := by decide +kernel
theorem d_J_fill_12 : decode M_J_fill.2.1 12 = .ok (.iload_n 1, 1) := by decide +kernel
theorem d_J_fill_13 : decode M_J_fill.2.1 13 = .ok (.iastore, 1) := by decide +kernel
theorem d_J_fill_14 : decode M_J_fill.2.1 14 = .ok (.iinc 2 (1), 3) := by decide +kernel
theorem d_J_fill_17 : decode M_J_fill.2.1 17 = .ok (.goto (-12), 3) := by decide +kernel
theorem d_J_fill_20 : decode M_J_fill.2.1 20 = .ok (.return_, 1) := by decide +kernel
