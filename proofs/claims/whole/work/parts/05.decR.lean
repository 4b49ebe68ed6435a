theorem d_R_isPlace_0 : decode M_R_isPlace.2.1 0 = .ok (.aload_n 0, 1) := by decide +kernel
theorem d_R_isPlace_1 : decode M_R_isPlace.2.1 1 = .ok (.getfield 22, 3) := by decide +kernel
theorem d_R_isPlace_4 : decode M_R_isPlace.2.1 4 = .ok (.ifCond .eq (49), 3) := by decide +kernel
theorem d_R_isPlace_7 : decode M_R_isPlace.2.1 7 = .ok (.iload_n 1, 1) := by decide +kernel
theorem d_R_isPlace_8 : decode M_R_isPlace.2.1 8 = .ok (.aload_n 0, 1) := by decide +kernel
theorem d_R_isPlace_9 : decode M_R_isPlace.2.1 9 = .ok (.getfield 26, 3) := by decide +kernel
theorem d_R_isPlace_12 : decode M_R_isPlace.2.1 12 = .ok (.if_icmp .lt (41), 3) := by decide +kernel
theorem d_R_isPlace_15 : decode M_R_isPlace.2.1 15 = .ok (.iload_n 1, 1) := by decide +kernel
theorem d_R_isPlace_16 : decode M_R_isPlace.2.1 16 = .ok (.aload_n 0, 1) := by decide +kernel
theorem d_R_isPlace_17 : decode M_R_isPlace.2.1 17 = .ok (.getfield 26, 3) := by decide +kernel
theorem d_R_isPlace_20 : decode M_R_isPlace.2.1 20 = .ok (.aload_n 0, 1) := by decide +kernel
theorem d_R_isPlace_21 : decode M_R_isPlace.2.1 21 = .ok (.getfield 30, 3) := by decide +kernel
theorem d_R_isPlace_24 : decode M_R_isPlace.2.1 24 = .ok (.iadd, 1) := by decide +kernel
theorem d_R_isPlace_25 : decode M_R_isPlace.2.1 25 = .ok (.if_icmp .ge (28), 3) := by decide +kernel
theorem d_R_isPlace_28 : decode M_R_isPlace.2.1 28 = .ok (.iload_n 2, 1) := by decide +kernel
theorem d_R_isPlace_29 : decode M_R_isPlace.2.1 29 = .ok (.aload_n 0, 1) := by decide +kernel
theorem d_R_isPlace_30 : decode M_R_isPlace.2.1 30 = .ok (.getfield 33, 3) := by decide +kernel
theorem d_R_isPlace_33 : decode M_R_isPlace.2.1 33 = .ok (.if_icmp .lt (20), 3) := by decide +kernel
theorem d_R_isPlace_36 : decode M_R_isPlace.2.1 36 = .ok (.iload_n 2, 1) := by decide +kernel
theorem d_R_isPlace_37 : decode M_R_isPlace.2.1 37 = .ok (.aload_n 0, 1) := by decide +kernel
theorem d_R_isPlace_38 : decode M_R_isPlace.2.1 38 = .ok (.getfield 33, 3) := by decide +kernel
theorem d_R_isPlace_41 : decode M_R_isPlace.2.1 41 = .ok (.aload_n 0, 1) := by decide +kernel
theorem d_R_isPlace_42 : decode M_R_isPlace.2.1 42 = .ok (.getfield 36, 3) := by decide +kernel
theorem d_R_isPlace_45 : decode M_R_isPlace.2.1 45 = .ok (.iadd, 1) := by decide +kernel
theorem d_R_isPlace_46 : decode M_R_isPlace.2.1 46 = .ok (.if_icmp .ge (7), 3) := by decide +kernel
theorem d_R_isPlace_49 : decode M_R_isPlace.2.1 49 = .ok (.iconst 1, 1) := by decide +kernel
theorem d_R_isPlace_50 : decode M_R_isPlace.2.1 50 = .ok (.goto (4), 3) := by decide +kernel
theorem d_R_isPlace_53 : decode M_R_isPlace.2.1 53 = .ok (.iconst 0, 1) := by decide +kernel
theorem d_R_isPlace_54 : decode M_R_isPlace.2.1 54 = .ok (.ireturn, 1) := by decide +kernel
theorem d_R_isPlane_0 : decode M_R_isPlane.2.1 0 = .ok (.iload_n 0, 1) := by decide +kernel
theorem d_R_isPlane_1 : decode M_R_isPlane.2.1 1 = .ok (.ifCond .lt (12), 3) := by decide +kernel
theorem d_R_isPlane_4 : decode M_R_isPlane.2.1 4 = .ok (.iload_n 0, 1) := by decide +kernel
theorem d_R_isPlane_5 : decode M_R_isPlane.2.1 5 = .ok (.iconst 2, 1) := by decide +kernel
theorem d_R_isPlane_6 : decode M_R_isPlane.2.1 6 = .ok (.if_icmp .gt (7), 3) := by decide +kernel
theorem d_R_isPlane_9 : decode M_R_isPlane.2.1 9 = .ok (.iconst 1, 1) := by decide +kernel
theorem d_R_isPlane_10 : decode M_R_isPlane.2.1 10 = .ok (.goto (4), 3) := by decide +kernel
theorem d_R_isPlane_13 : decode M_R_isPlane.2.1 13 = .ok (.iconst 0, 1) := by decide +kernel
theorem d_R_isPlane_14 : decode M_R_isPlane.2.1 14 = .ok (.ireturn, 1) := by decide +kernel
theorem d_R_cell_0 : decode M_R_cell.2.1 0 = .ok (.sipush (256), 3) := by decide +kernel
theorem d_R_cell_3 : decode M_R_cell.2.1 3 = .ok (.iload_n 1, 1) := by decide +kernel
theorem d_R_cell_4 : decode M_R_cell.2.1 4 = .ok (.imul, 1) := by decide +kernel
theorem d_R_cell_5 : decode M_R_cell.2.1 5 = .ok (.bipush (16), 2) := by decide +kernel
theorem d_R_cell_7 : decode M_R_cell.2.1 7 = .ok (.iload_n 3, 1) := by decide +kernel
theorem d_R_cell_8 : decode M_R_cell.2.1 8 = .ok (.aload_n 0, 1) := by decide +kernel
theorem d_R_cell_9 : decode M_R_cell.2.1 9 = .ok (.getfield 33, 3) := by decide +kernel
theorem d_R_cell_12 : decode M_R_cell.2.1 12 = .ok (.isub, 1) := by decide +kernel
theorem d_R_cell_13 : decode M_R_cell.2.1 13 = .ok (.imul, 1) := by decide +kernel
theorem d_R_cell_14 : decode M_R_cell.2.1 14 = .ok (.iadd, 1) := by decide +kernel
theorem d_R_cell_15 : decode M_R_cell.2.1 15 = .ok (.iload_n 2, 1) := by decide +kernel
theorem d_R_cell_16 : decode M_R_cell.2.1 16 = .ok (.iadd, 1) := by decide +kernel
theorem d_R_cell_17 : decode M_R_cell.2.1 17 = .ok (.aload_n 0, 1) := by decide +kernel
theorem d_R_cell_18 : decode M_R_cell.2.1 18 = .ok (.getfield 26, 3) := by decide +kernel
theorem d_R_cell_21 : decode M_R_cell.2.1 21 = .ok (.isub, 1) := by decide +kernel
theorem d_R_cell_22 : decode M_R_cell.2.1 22 = .ok (.ireturn, 1) := by decide +kernel
theorem d_R_at_0 : decode M_R_at.2.1 0 = .ok (.iload_n 1, 1) := by decide +kernel
theorem d_R_at_1 : decode M_R_at.2.1 1 = .ok (.invokestatic 45, 3) := by decide +kernel
theorem d_R_at_4 : decode M_R_at.2.1 4 = .ok (.ifCond .eq (27), 3) := by decide +kernel
theorem d_R_at_7 : decode M_R_at.2.1 7 = .ok (.aload_n 0, 1) := by decide +kernel
theorem d_R_at_8 : decode M_R_at.2.1 8 = .ok (.iload_n 2, 1) := by decide +kernel
theorem d_R_at_9 : decode M_R_at.2.1 9 = .ok (.iload_n 3, 1) := by decide +kernel
theorem d_R_at_10 : decode M_R_at.2.1 10 = .ok (.invokevirtual 49, 3) := by decide +kernel
theorem d_R_at_13 : decode M_R_at.2.1 13 = .ok (.ifCond .eq (18), 3) := by decide +kernel
theorem d_R_at_16 : decode M_R_at.2.1 16 = .ok (.aload_n 0, 1) := by decide +kernel
theorem d_R_at_17 : decode M_R_at.2.1 17 = .ok (.getfield 13, 3) := by decide +kernel
theorem d_R_at_20 : decode M_R_at.2.1 20 = .ok (.aload_n 0, 1) := by decide +kernel
theorem d_R_at_21 : decode M_R_at.2.1 21 = .ok (.iload_n 1, 1) := by decide +kernel
theorem d_R_at_22 : decode M_R_at.2.1 22 = .ok (.iload_n 2, 1) := by decide +kernel
theorem d_R_at_23 : decode M_R_at.2.1 23 = .ok (.iload_n 3, 1) := by decide +kernel
theorem d_R_at_24 : decode M_R_at.2.1 24 = .ok (.invokevirtual 53, 3) := by decide +kernel
theorem d_R_at_27 : decode M_R_at.2.1 27 = .ok (.iaload, 1) := by decide +kernel
theorem d_R_at_28 : decode M_R_at.2.1 28 = .ok (.goto (4), 3) := by decide +kernel
theorem d_R_at_31 : decode M_R_at.2.1 31 = .ok (.iconst 0, 1) := by decide +kernel
theorem d_R_at_32 : decode M_R_at.2.1 32 = .ok (.ireturn, 1) := by decide +kernel
theorem d_R_inside_0 : decode M_R_inside.2.1 0 = .ok (.iload_n 1, 1) := by decide +kernel
theorem d_R_inside_1 : decode M_R_inside.2.1 1 = .ok (.istore_n 2, 1) := by decide +kernel
theorem d_R_inside_2 : decode M_R_inside.2.1 2 = .ok (.iload_n 2, 1) := by decide +kernel
theorem d_R_inside_3 : decode M_R_inside.2.1 3 = .ok (.aload_n 0, 1) := by decide +kernel
theorem d_R_inside_4 : decode M_R_inside.2.1 4 = .ok (.getfield 57, 3) := by decide +kernel
theorem d_R_inside_7 : decode M_R_inside.2.1 7 = .ok (.if_icmp .lt (11), 3) := by decide +kernel
theorem d_R_inside_10 : decode M_R_inside.2.1 10 = .ok (.iload_n 2, 1) := by decide +kernel
theorem d_R_inside_11 : decode M_R_inside.2.1 11 = .ok (.aload_n 0, 1) := by decide +kernel
theorem d_R_inside_12 : decode M_R_inside.2.1 12 = .ok (.getfield 60, 3) := by decide +kernel
theorem d_R_inside_15 : decode M_R_inside.2.1 15 = .ok (.if_icmp .le (34), 3) := by decide +kernel
theorem d_R_inside_18 : decode M_R_inside.2.1 18 = .ok (.iload_n 2, 1) := by decide +kernel
theorem d_R_inside_19 : decode M_R_inside.2.1 19 = .ok (.aload_n 0, 1) := by decide +kernel
theorem d_R_inside_20 : decode M_R_inside.2.1 20 = .ok (.getfield 57, 3) := by decide +kernel
theorem d_R_inside_23 : decode M_R_inside.2.1 23 = .ok (.if_icmp .ge (14), 3) := by decide +kernel
theorem d_R_inside_26 : decode M_R_inside.2.1 26 = .ok (.iconst 2, 1) := by decide +kernel
theorem d_R_inside_27 : decode M_R_inside.2.1 27 = .ok (.aload_n 0, 1) := by decide +kernel
theorem d_R_inside_28 : decode M_R_inside.2.1 28 = .ok (.getfield 57, 3) := by decide +kernel
theorem d_R_inside_31 : decode M_R_inside.2.1 31 = .ok (.imul, 1) := by decide +kernel
theorem d_R_inside_32 : decode M_R_inside.2.1 32 = .ok (.iload_n 2, 1) := by decide +kernel
theorem d_R_inside_33 : decode M_R_inside.2.1 33 = .ok (.isub, 1) := by decide +kernel
theorem d_R_inside_34 : decode M_R_inside.2.1 34 = .ok (.goto (11), 3) := by decide +kernel
theorem d_R_inside_37 : decode M_R_inside.2.1 37 = .ok (.iconst 2, 1) := by decide +kernel
theorem d_R_inside_38 : decode M_R_inside.2.1 38 = .ok (.aload_n 0, 1) := by decide +kernel
theorem d_R_inside_39 : decode M_R_inside.2.1 39 = .ok (.getfield 60, 3) := by decide +kernel
theorem d_R_inside_42 : decode M_R_inside.2.1 42 = .ok (.imul, 1) := by decide +kernel
theorem d_R_inside_43 : decode M_R_inside.2.1 43 = .ok (.iload_n 2, 1) := by decide +kernel
theorem d_R_inside_44 : decode M_R_inside.2.1 44 = .ok (.isub, 1) := by decide +kernel
theorem d_R_inside_45 : decode M_R_inside.2.1 45 = .ok (.istore_n 2, 1) := by decide +kernel
theorem d_R_inside_46 : decode M_R_inside.2.1 46 = .ok (.goto (-44), 3) := by decide +kernel
theorem d_R_inside_49 : decode M_R_inside.2.1 49 = .ok (.iload_n 2, 1) := by decide +kernel
theorem d_R_inside_50 : decode M_R_inside.2.1 50 = .ok (.ireturn, 1) := by decide +kernel
theorem d_R_high_0 : decode M_R_high.2.1 0 = .ok (.aload_n 0, 1) := by decide +kernel
theorem d_R_high_1 : decode M_R_high.2.1 1 = .ok (.iload_n 1, 1) := by decide +kernel
theorem d_R_high_2 : decode M_R_high.2.1 2 = .ok (.invokevirtual 63, 3) := by decide +kernel
theorem d_R_high_5 : decode M_R_high.2.1 5 = .ok (.istore_n 2, 1) := by decide +kernel
theorem d_R_high_6 : decode M_R_high.2.1 6 = .ok (.aload_n 0, 1) := by decide +kernel
theorem d_R_high_7 : decode M_R_high.2.1 7 = .ok (.iload_n 2, 1) := by decide +kernel
theorem d_R_high_8 : decode M_R_high.2.1 8 = .ok (.invokevirtual 70, 3) := by decide +kernel
theorem d_R_high_11 : decode M_R_high.2.1 11 = .ok (.aload_n 0, 1) := by decide +kernel
theorem d_R_high_12 : decode M_R_high.2.1 12 = .ok (.aload_n 0, 1) := by decide +kernel
theorem d_R_high_13 : decode M_R_high.2.1 13 = .ok (.iload_n 2, 1) := by decide +kernel
theorem d_R_high_14 : decode M_R_high.2.1 14 = .ok (.iconst 1, 1) := by decide +kernel
theorem d_R_high_15 : decode M_R_high.2.1 15 = .ok (.isub, 1) := by decide +kernel
theorem d_R_high_16 : decode M_R_high.2.1 16 = .ok (.invokevirtual 70, 3) := by decide +kernel
theorem d_R_high_19 : decode M_R_high.2.1 19 = .ok (.aload_n 0, 1) := by decide +kernel
theorem d_R_high_20 : decode M_R_high.2.1 20 = .ok (.iload_n 2, 1) := by decide +kernel
theorem d_R_high_21 : decode M_R_high.2.1 21 = .ok (.iconst 1, 1) := by decide +kernel
theorem d_R_high_22 : decode M_R_high.2.1 22 = .ok (.iadd, 1) := by decide +kernel
theorem d_R_high_23 : decode M_R_high.2.1 23 = .ok (.invokevirtual 70, 3) := by decide +kernel
theorem d_R_high_26 : decode M_R_high.2.1 26 = .ok (.aload_n 0, 1) := by decide +kernel
theorem d_R_high_27 : decode M_R_high.2.1 27 = .ok (.iload_n 2, 1) := by decide +kernel
theorem d_R_high_28 : decode M_R_high.2.1 28 = .ok (.iconst 3, 1) := by decide +kernel
theorem d_R_high_29 : decode M_R_high.2.1 29 = .ok (.isub, 1) := by decide +kernel
theorem d_R_high_30 : decode M_R_high.2.1 30 = .ok (.invokevirtual 70, 3) := by decide +kernel
theorem d_R_high_33 : decode M_R_high.2.1 33 = .ok (.aload_n 0, 1) := by decide +kernel
theorem d_R_high_34 : decode M_R_high.2.1 34 = .ok (.iload_n 2, 1) := by decide +kernel
theorem d_R_high_35 : decode M_R_high.2.1 35 = .ok (.iconst 3, 1) := by decide +kernel
theorem d_R_high_36 : decode M_R_high.2.1 36 = .ok (.iadd, 1) := by decide +kernel
theorem d_R_high_37 : decode M_R_high.2.1 37 = .ok (.invokevirtual 70, 3) := by decide +kernel
theorem d_R_high_40 : decode M_R_high.2.1 40 = .ok (.invokevirtual 73, 3) := by decide +kernel
theorem d_R_high_43 : decode M_R_high.2.1 43 = .ok (.isub, 1) := by decide +kernel
theorem d_R_high_44 : decode M_R_high.2.1 44 = .ok (.ireturn, 1) := by decide +kernel
theorem d_R_from_0 : decode M_R_from.2.1 0 = .ok (.iconst 0, 1) := by decide +kernel
theorem d_R_from_1 : decode M_R_from.2.1 1 = .ok (.istore_n 2, 1) := by decide +kernel
theorem d_R_from_2 : decode M_R_from.2.1 2 = .ok (.iload_n 2, 1) := by decide +kernel
theorem d_R_from_3 : decode M_R_from.2.1 3 = .ok (.iload_n 1, 1) := by decide +kernel
theorem d_R_from_4 : decode M_R_from.2.1 4 = .ok (.imul, 1) := by decide +kernel
theorem d_R_from_5 : decode M_R_from.2.1 5 = .ok (.iload_n 0, 1) := by decide +kernel
theorem d_R_from_6 : decode M_R_from.2.1 6 = .ok (.if_icmp .ge (9), 3) := by decide +kernel
theorem d_R_from_9 : decode M_R_from.2.1 9 = .ok (.iinc 2 (1), 3) := by decide +kernel
theorem d_R_from_12 : decode M_R_from.2.1 12 = .ok (.goto (-10), 3) := by decide +kernel
theorem d_R_from_15 : decode M_R_from.2.1 15 = .ok (.iload_n 2, 1) := by decide +kernel
theorem d_R_from_16 : decode M_R_from.2.1 16 = .ok (.ireturn, 1) := by decide +kernel
theorem d_R_column_0 : decode M_R_column.2.1 0 = .ok (.aload_n 0, 1) := by decide +kernel
theorem d_R_column_1 : decode M_R_column.2.1 1 = .ok (.aload_n 0, 1) := by decide +kernel
theorem d_R_column_2 : decode M_R_column.2.1 2 = .ok (.getfield 33, 3) := by decide +kernel
theorem d_R_column_5 : decode M_R_column.2.1 5 = .ok (.iload_n 3, 1) := by decide +kernel
theorem d_R_column_6 : decode M_R_column.2.1 6 = .ok (.invokestatic 96, 3) := by decide +kernel
theorem d_R_column_9 : decode M_R_column.2.1 9 = .ok (.putfield 57, 3) := by decide +kernel
theorem d_R_column_12 : decode M_R_column.2.1 12 = .ok (.aload_n 0, 1) := by decide +kernel
theorem d_R_column_13 : decode M_R_column.2.1 13 = .ok (.aload_n 0, 1) := by decide +kernel
theorem d_R_column_14 : decode M_R_column.2.1 14 = .ok (.getfield 33, 3) := by decide +kernel
theorem d_R_column_17 : decode M_R_column.2.1 17 = .ok (.aload_n 0, 1) := by decide +kernel
theorem d_R_column_18 : decode M_R_column.2.1 18 = .ok (.getfield 36, 3) := by decide +kernel
theorem d_R_column_21 : decode M_R_column.2.1 21 = .ok (.iadd, 1) := by decide +kernel
theorem d_R_column_22 : decode M_R_column.2.1 22 = .ok (.iload_n 3, 1) := by decide +kernel
theorem d_R_column_23 : decode M_R_column.2.1 23 = .ok (.invokestatic 96, 3) := by decide +kernel
theorem d_R_column_26 : decode M_R_column.2.1 26 = .ok (.iconst 1, 1) := by decide +kernel
theorem d_R_column_27 : decode M_R_column.2.1 27 = .ok (.isub, 1) := by decide +kernel
theorem d_R_column_28 : decode M_R_column.2.1 28 = .ok (.putfield 60, 3) := by decide +kernel
theorem d_R_column_31 : decode M_R_column.2.1 31 = .ok (.aload_n 0, 1) := by decide +kernel
theorem d_R_column_32 : decode M_R_column.2.1 32 = .ok (.getfield 57, 3) := by decide +kernel
theorem d_R_column_35 : decode M_R_column.2.1 35 = .ok (.istore 5, 2) := by decide +kernel
theorem d_R_column_37 : decode M_R_column.2.1 37 = .ok (.iload 5, 2) := by decide +kernel
theorem d_R_column_39 : decode M_R_column.2.1 39 = .ok (.aload_n 0, 1) := by decide +kernel
theorem d_R_column_40 : decode M_R_column.2.1 40 = .ok (.getfield 60, 3) := by decide +kernel
theorem d_R_column_43 : decode M_R_column.2.1 43 = .ok (.if_icmp .gt (31), 3) := by decide +kernel
theorem d_R_column_46 : decode M_R_column.2.1 46 = .ok (.aload_n 0, 1) := by decide +kernel
theorem d_R_column_47 : decode M_R_column.2.1 47 = .ok (.getfield 16, 3) := by decide +kernel
theorem d_R_column_50 : decode M_R_column.2.1 50 = .ok (.iload 5, 2) := by decide +kernel
theorem d_R_column_52 : decode M_R_column.2.1 52 = .ok (.aload_n 0, 1) := by decide +kernel
theorem d_R_column_53 : decode M_R_column.2.1 53 = .ok (.getfield 57, 3) := by decide +kernel
theorem d_R_column_56 : decode M_R_column.2.1 56 = .ok (.isub, 1) := by decide +kernel
theorem d_R_column_57 : decode M_R_column.2.1 57 = .ok (.aload_n 0, 1) := by decide +kernel
theorem d_R_column_58 : decode M_R_column.2.1 58 = .ok (.iload_n 1, 1) := by decide +kernel
theorem d_R_column_59 : decode M_R_column.2.1 59 = .ok (.iload_n 2, 1) := by decide +kernel
theorem d_R_column_60 : decode M_R_column.2.1 60 = .ok (.iload 5, 2) := by decide +kernel
theorem d_R_column_62 : decode M_R_column.2.1 62 = .ok (.iload_n 3, 1) := by decide +kernel
theorem d_R_column_63 : decode M_R_column.2.1 63 = .ok (.imul, 1) := by decide +kernel
theorem d_R_column_64 : decode M_R_column.2.1 64 = .ok (.invokevirtual 99, 3) := by decide +kernel
theorem d_R_column_67 : decode M_R_column.2.1 67 = .ok (.iastore, 1) := by decide +kernel
theorem d_R_column_68 : decode M_R_column.2.1 68 = .ok (.iinc 5 (1), 3) := by decide +kernel
theorem d_R_column_71 : decode M_R_column.2.1 71 = .ok (.goto (-34), 3) := by decide +kernel
theorem d_R_column_74 : decode M_R_column.2.1 74 = .ok (.aload_n 0, 1) := by decide +kernel
theorem d_R_column_75 : decode M_R_column.2.1 75 = .ok (.iload 4, 2) := by decide +kernel
theorem d_R_column_77 : decode M_R_column.2.1 77 = .ok (.invokevirtual 102, 3) := by decide +kernel
theorem d_R_column_80 : decode M_R_column.2.1 80 = .ok (.aload_n 0, 1) := by decide +kernel
theorem d_R_column_81 : decode M_R_column.2.1 81 = .ok (.getfield 57, 3) := by decide +kernel
theorem d_R_column_84 : decode M_R_column.2.1 84 = .ok (.istore 5, 2) := by decide +kernel
theorem d_R_column_86 : decode M_R_column.2.1 86 = .ok (.iload 5, 2) := by decide +kernel
theorem d_R_column_88 : decode M_R_column.2.1 88 = .ok (.aload_n 0, 1) := by decide +kernel
theorem d_R_column_89 : decode M_R_column.2.1 89 = .ok (.getfield 60, 3) := by decide +kernel
theorem d_R_column_92 : decode M_R_column.2.1 92 = .ok (.if_icmp .gt (36), 3) := by decide +kernel
theorem d_R_column_95 : decode M_R_column.2.1 95 = .ok (.aload_n 0, 1) := by decide +kernel
theorem d_R_column_96 : decode M_R_column.2.1 96 = .ok (.getfield 13, 3) := by decide +kernel
theorem d_R_column_99 : decode M_R_column.2.1 99 = .ok (.aload_n 0, 1) := by decide +kernel
theorem d_R_column_100 : decode M_R_column.2.1 100 = .ok (.iload_n 1, 1) := by decide +kernel
theorem d_R_column_101 : decode M_R_column.2.1 101 = .ok (.iload_n 2, 1) := by decide +kernel
theorem d_R_column_102 : decode M_R_column.2.1 102 = .ok (.iload 5, 2) := by decide +kernel
theorem d_R_column_104 : decode M_R_column.2.1 104 = .ok (.iload_n 3, 1) := by decide +kernel
theorem d_R_column_105 : decode M_R_column.2.1 105 = .ok (.imul, 1) := by decide +kernel
theorem d_R_column_106 : decode M_R_column.2.1 106 = .ok (.invokevirtual 53, 3) := by decide +kernel
theorem d_R_column_109 : decode M_R_column.2.1 109 = .ok (.aload_n 0, 1) := by decide +kernel
theorem d_R_column_110 : decode M_R_column.2.1 110 = .ok (.getfield 19, 3) := by decide +kernel
theorem d_R_column_113 : decode M_R_column.2.1 113 = .ok (.iload 5, 2) := by decide +kernel
theorem d_R_column_115 : decode M_R_column.2.1 115 = .ok (.aload_n 0, 1) := by decide +kernel
theorem d_R_column_116 : decode M_R_column.2.1 116 = .ok (.getfield 57, 3) := by decide +kernel
theorem d_R_column_119 : decode M_R_column.2.1 119 = .ok (.isub, 1) := by decide +kernel
theorem d_R_column_120 : decode M_R_column.2.1 120 = .ok (.iaload, 1) := by decide +kernel
theorem d_R_column_121 : decode M_R_column.2.1 121 = .ok (.iastore, 1) := by decide +kernel
theorem d_R_column_122 : decode M_R_column.2.1 122 = .ok (.iinc 5 (1), 3) := by decide +kernel
theorem d_R_column_125 : decode M_R_column.2.1 125 = .ok (.goto (-39), 3) := by decide +kernel
theorem d_R_column_128 : decode M_R_column.2.1 128 = .ok (.return_, 1) := by decide +kernel
theorem d_R_columns_0 : decode M_R_columns.2.1 0 = .ok (.aload_n 0, 1) := by decide +kernel
theorem d_R_columns_1 : decode M_R_columns.2.1 1 = .ok (.getfield 26, 3) := by decide +kernel
theorem d_R_columns_4 : decode M_R_columns.2.1 4 = .ok (.istore 4, 2) := by decide +kernel
theorem d_R_columns_6 : decode M_R_columns.2.1 6 = .ok (.iload 4, 2) := by decide +kernel
theorem d_R_columns_8 : decode M_R_columns.2.1 8 = .ok (.aload_n 0, 1) := by decide +kernel
theorem d_R_columns_9 : decode M_R_columns.2.1 9 = .ok (.getfield 26, 3) := by decide +kernel
theorem d_R_columns_12 : decode M_R_columns.2.1 12 = .ok (.aload_n 0, 1) := by decide +kernel
theorem d_R_columns_13 : decode M_R_columns.2.1 13 = .ok (.getfield 30, 3) := by decide +kernel
theorem d_R_columns_16 : decode M_R_columns.2.1 16 = .ok (.iadd, 1) := by decide +kernel
theorem d_R_columns_17 : decode M_R_columns.2.1 17 = .ok (.if_icmp .ge (25), 3) := by decide +kernel
theorem d_R_columns_20 : decode M_R_columns.2.1 20 = .ok (.iload 4, 2) := by decide +kernel
theorem d_R_columns_22 : decode M_R_columns.2.1 22 = .ok (.iload_n 2, 1) := by decide +kernel
theorem d_R_columns_23 : decode M_R_columns.2.1 23 = .ok (.irem, 1) := by decide +kernel
theorem d_R_columns_24 : decode M_R_columns.2.1 24 = .ok (.ifCond .ne (12), 3) := by decide +kernel
theorem d_R_columns_27 : decode M_R_columns.2.1 27 = .ok (.aload_n 0, 1) := by decide +kernel
theorem d_R_columns_28 : decode M_R_columns.2.1 28 = .ok (.iload_n 1, 1) := by decide +kernel
theorem d_R_columns_29 : decode M_R_columns.2.1 29 = .ok (.iload 4, 2) := by decide +kernel
theorem d_R_columns_31 : decode M_R_columns.2.1 31 = .ok (.iload_n 2, 1) := by decide +kernel
theorem d_R_columns_32 : decode M_R_columns.2.1 32 = .ok (.iload_n 3, 1) := by decide +kernel
theorem d_R_columns_33 : decode M_R_columns.2.1 33 = .ok (.invokevirtual 106, 3) := by decide +kernel
theorem d_R_columns_36 : decode M_R_columns.2.1 36 = .ok (.iinc 4 (1), 3) := by decide +kernel
theorem d_R_columns_39 : decode M_R_columns.2.1 39 = .ok (.goto (-33), 3) := by decide +kernel
theorem d_R_columns_42 : decode M_R_columns.2.1 42 = .ok (.return_, 1) := by decide +kernel
theorem d_R_forward_0 : decode M_R_forward.2.1 0 = .ok (.aload_n 0, 1) := by decide +kernel
theorem d_R_forward_1 : decode M_R_forward.2.1 1 = .ok (.getfield 22, 3) := by decide +kernel
theorem d_R_forward_4 : decode M_R_forward.2.1 4 = .ok (.ifCond .eq (20), 3) := by decide +kernel
theorem d_R_forward_7 : decode M_R_forward.2.1 7 = .ok (.iload_n 1, 1) := by decide +kernel
theorem d_R_forward_8 : decode M_R_forward.2.1 8 = .ok (.ifCond .lt (16), 3) := by decide +kernel
theorem d_R_forward_11 : decode M_R_forward.2.1 11 = .ok (.iload_n 1, 1) := by decide +kernel
theorem d_R_forward_12 : decode M_R_forward.2.1 12 = .ok (.iconst 2, 1) := by decide +kernel
theorem d_R_forward_13 : decode M_R_forward.2.1 13 = .ok (.if_icmp .gt (11), 3) := by decide +kernel
theorem d_R_forward_16 : decode M_R_forward.2.1 16 = .ok (.aload_n 0, 1) := by decide +kernel
theorem d_R_forward_17 : decode M_R_forward.2.1 17 = .ok (.getfield 42, 3) := by decide +kernel
theorem d_R_forward_20 : decode M_R_forward.2.1 20 = .ok (.iconst 4, 1) := by decide +kernel
theorem d_R_forward_21 : decode M_R_forward.2.1 21 = .ok (.if_icmp .lt (5), 3) := by decide +kernel
theorem d_R_forward_24 : decode M_R_forward.2.1 24 = .ok (.iconst 0, 1) := by decide +kernel
theorem d_R_forward_25 : decode M_R_forward.2.1 25 = .ok (.ireturn, 1) := by decide +kernel
theorem d_R_forward_26 : decode M_R_forward.2.1 26 = .ok (.aload_n 0, 1) := by decide +kernel
theorem d_R_forward_27 : decode M_R_forward.2.1 27 = .ok (.getfield 7, 3) := by decide +kernel
theorem d_R_forward_30 : decode M_R_forward.2.1 30 = .ok (.aload_n 0, 1) := by decide +kernel
theorem d_R_forward_31 : decode M_R_forward.2.1 31 = .ok (.getfield 42, 3) := by decide +kernel
theorem d_R_forward_34 : decode M_R_forward.2.1 34 = .ok (.iload_n 1, 1) := by decide +kernel
theorem d_R_forward_35 : decode M_R_forward.2.1 35 = .ok (.iastore, 1) := by decide +kernel
theorem d_R_forward_36 : decode M_R_forward.2.1 36 = .ok (.aload_n 0, 1) := by decide +kernel
theorem d_R_forward_37 : decode M_R_forward.2.1 37 = .ok (.dup, 1) := by decide +kernel
theorem d_R_forward_38 : decode M_R_forward.2.1 38 = .ok (.getfield 42, 3) := by decide +kernel
theorem d_R_forward_41 : decode M_R_forward.2.1 41 = .ok (.iconst 1, 1) := by decide +kernel
theorem d_R_forward_42 : decode M_R_forward.2.1 42 = .ok (.iadd, 1) := by decide +kernel
theorem d_R_forward_43 : decode M_R_forward.2.1 43 = .ok (.putfield 42, 3) := by decide +kernel
theorem d_R_forward_46 : decode M_R_forward.2.1 46 = .ok (.aload_n 0, 1) := by decide +kernel
theorem d_R_forward_47 : decode M_R_forward.2.1 47 = .ok (.iload_n 1, 1) := by decide +kernel
theorem d_R_forward_48 : decode M_R_forward.2.1 48 = .ok (.putfield 67, 3) := by decide +kernel
theorem d_R_forward_51 : decode M_R_forward.2.1 51 = .ok (.aload_n 0, 1) := by decide +kernel
theorem d_R_forward_52 : decode M_R_forward.2.1 52 = .ok (.getfield 42, 3) := by decide +kernel
theorem d_R_forward_55 : decode M_R_forward.2.1 55 = .ok (.invokestatic 113, 3) := by decide +kernel
theorem d_R_forward_58 : decode M_R_forward.2.1 58 = .ok (.istore_n 2, 1) := by decide +kernel
theorem d_R_forward_59 : decode M_R_forward.2.1 59 = .ok (.iconst 0, 1) := by decide +kernel
theorem d_R_forward_60 : decode M_R_forward.2.1 60 = .ok (.istore_n 3, 1) := by decide +kernel
theorem d_R_forward_61 : decode M_R_forward.2.1 61 = .ok (.iload_n 3, 1) := by decide +kernel
theorem d_R_forward_62 : decode M_R_forward.2.1 62 = .ok (.iconst 3, 1) := by decide +kernel
theorem d_R_forward_63 : decode M_R_forward.2.1 63 = .ok (.if_icmp .ge (23), 3) := by decide +kernel
theorem d_R_forward_66 : decode M_R_forward.2.1 66 = .ok (.aload_n 0, 1) := by decide +kernel
theorem d_R_forward_67 : decode M_R_forward.2.1 67 = .ok (.iload_n 3, 1) := by decide +kernel
theorem d_R_forward_68 : decode M_R_forward.2.1 68 = .ok (.iload_n 2, 1) := by decide +kernel
theorem d_R_forward_69 : decode M_R_forward.2.1 69 = .ok (.iconst 0, 1) := by decide +kernel
theorem d_R_forward_70 : decode M_R_forward.2.1 70 = .ok (.invokevirtual 116, 3) := by decide +kernel
theorem d_R_forward_73 : decode M_R_forward.2.1 73 = .ok (.aload_n 0, 1) := by decide +kernel
theorem d_R_forward_74 : decode M_R_forward.2.1 74 = .ok (.iload_n 3, 1) := by decide +kernel
theorem d_R_forward_75 : decode M_R_forward.2.1 75 = .ok (.iload_n 2, 1) := by decide +kernel
theorem d_R_forward_76 : decode M_R_forward.2.1 76 = .ok (.iconst 0, 1) := by decide +kernel
theorem d_R_forward_77 : decode M_R_forward.2.1 77 = .ok (.invokevirtual 120, 3) := by decide +kernel
theorem d_R_forward_80 : decode M_R_forward.2.1 80 = .ok (.iinc 3 (1), 3) := by decide +kernel
theorem d_R_forward_83 : decode M_R_forward.2.1 83 = .ok (.goto (-22), 3) := by decide +kernel
theorem d_R_forward_86 : decode M_R_forward.2.1 86 = .ok (.iconst 1, 1) := by decide +kernel
theorem d_R_forward_87 : decode M_R_forward.2.1 87 = .ok (.ireturn, 1) := by decide +kernel
theorem d_R_back_0 : decode M_R_back.2.1 0 = .ok (.aload_n 0, 1) := by decide +kernel
theorem d_R_back_1 : decode M_R_back.2.1 1 = .ok (.getfield 42, 3) := by decide +kernel
theorem d_R_back_4 : decode M_R_back.2.1 4 = .ok (.ifCond .ne (5), 3) := by decide +kernel
theorem d_R_back_7 : decode M_R_back.2.1 7 = .ok (.iconst 0, 1) := by decide +kernel
theorem d_R_back_8 : decode M_R_back.2.1 8 = .ok (.ireturn, 1) := by decide +kernel
theorem d_R_back_9 : decode M_R_back.2.1 9 = .ok (.aload_n 0, 1) := by decide +kernel
theorem d_R_back_10 : decode M_R_back.2.1 10 = .ok (.aload_n 0, 1) := by decide +kernel
theorem d_R_back_11 : decode M_R_back.2.1 11 = .ok (.getfield 7, 3) := by decide +kernel
theorem d_R_back_14 : decode M_R_back.2.1 14 = .ok (.aload_n 0, 1) := by decide +kernel
theorem d_R_back_15 : decode M_R_back.2.1 15 = .ok (.getfield 42, 3) := by decide +kernel
theorem d_R_back_18 : decode M_R_back.2.1 18 = .ok (.iconst 1, 1) := by decide +kernel
theorem d_R_back_19 : decode M_R_back.2.1 19 = .ok (.isub, 1) := by decide +kernel
theorem d_R_back_20 : decode M_R_back.2.1 20 = .ok (.iaload, 1) := by decide +kernel
theorem d_R_back_21 : decode M_R_back.2.1 21 = .ok (.putfield 67, 3) := by decide +kernel
theorem d_R_back_24 : decode M_R_back.2.1 24 = .ok (.aload_n 0, 1) := by decide +kernel
theorem d_R_back_25 : decode M_R_back.2.1 25 = .ok (.getfield 42, 3) := by decide +kernel
theorem d_R_back_28 : decode M_R_back.2.1 28 = .ok (.invokestatic 113, 3) := by decide +kernel
theorem d_R_back_31 : decode M_R_back.2.1 31 = .ok (.istore_n 1, 1) := by decide +kernel
theorem d_R_back_32 : decode M_R_back.2.1 32 = .ok (.iconst 0, 1) := by decide +kernel
theorem d_R_back_33 : decode M_R_back.2.1 33 = .ok (.istore_n 2, 1) := by decide +kernel
theorem d_R_back_34 : decode M_R_back.2.1 34 = .ok (.iload_n 2, 1) := by decide +kernel
theorem d_R_back_35 : decode M_R_back.2.1 35 = .ok (.iconst 3, 1) := by decide +kernel
theorem d_R_back_36 : decode M_R_back.2.1 36 = .ok (.if_icmp .ge (23), 3) := by decide +kernel
theorem d_R_back_39 : decode M_R_back.2.1 39 = .ok (.aload_n 0, 1) := by decide +kernel
theorem d_R_back_40 : decode M_R_back.2.1 40 = .ok (.iload_n 2, 1) := by decide +kernel
theorem d_R_back_41 : decode M_R_back.2.1 41 = .ok (.iload_n 1, 1) := by decide +kernel
theorem d_R_back_42 : decode M_R_back.2.1 42 = .ok (.iconst 1, 1) := by decide +kernel
theorem d_R_back_43 : decode M_R_back.2.1 43 = .ok (.invokevirtual 120, 3) := by decide +kernel
theorem d_R_back_46 : decode M_R_back.2.1 46 = .ok (.aload_n 0, 1) := by decide +kernel
theorem d_R_back_47 : decode M_R_back.2.1 47 = .ok (.iload_n 2, 1) := by decide +kernel
theorem d_R_back_48 : decode M_R_back.2.1 48 = .ok (.iload_n 1, 1) := by decide +kernel
theorem d_R_back_49 : decode M_R_back.2.1 49 = .ok (.iconst 1, 1) := by decide +kernel
theorem d_R_back_50 : decode M_R_back.2.1 50 = .ok (.invokevirtual 116, 3) := by decide +kernel
theorem d_R_back_53 : decode M_R_back.2.1 53 = .ok (.iinc 2 (1), 3) := by decide +kernel
theorem d_R_back_56 : decode M_R_back.2.1 56 = .ok (.goto (-22), 3) := by decide +kernel
theorem d_R_back_59 : decode M_R_back.2.1 59 = .ok (.aload_n 0, 1) := by decide +kernel
theorem d_R_back_60 : decode M_R_back.2.1 60 = .ok (.dup, 1) := by decide +kernel
theorem d_R_back_61 : decode M_R_back.2.1 61 = .ok (.getfield 42, 3) := by decide +kernel
theorem d_R_back_64 : decode M_R_back.2.1 64 = .ok (.iconst 1, 1) := by decide +kernel
theorem d_R_back_65 : decode M_R_back.2.1 65 = .ok (.isub, 1) := by decide +kernel
theorem d_R_back_66 : decode M_R_back.2.1 66 = .ok (.putfield 42, 3) := by decide +kernel
theorem d_R_back_69 : decode M_R_back.2.1 69 = .ok (.iconst 1, 1) := by decide +kernel
theorem d_R_back_70 : decode M_R_back.2.1 70 = .ok (.ireturn, 1) := by decide +kernel
theorem d_R_isLevel_0 : decode M_R_isLevel.2.1 0 = .ok (.iload_n 1, 1) := by decide +kernel
theorem d_R_isLevel_1 : decode M_R_isLevel.2.1 1 = .ok (.iconst 1, 1) := by decide +kernel
theorem d_R_isLevel_2 : decode M_R_isLevel.2.1 2 = .ok (.if_icmp .lt (15), 3) := by decide +kernel
theorem d_R_isLevel_5 : decode M_R_isLevel.2.1 5 = .ok (.iload_n 1, 1) := by decide +kernel
theorem d_R_isLevel_6 : decode M_R_isLevel.2.1 6 = .ok (.aload_n 0, 1) := by decide +kernel
theorem d_R_isLevel_7 : decode M_R_isLevel.2.1 7 = .ok (.getfield 42, 3) := by decide +kernel
theorem d_R_isLevel_10 : decode M_R_isLevel.2.1 10 = .ok (.if_icmp .gt (7), 3) := by decide +kernel
theorem d_R_isLevel_13 : decode M_R_isLevel.2.1 13 = .ok (.iconst 1, 1) := by decide +kernel
theorem d_R_isLevel_14 : decode M_R_isLevel.2.1 14 = .ok (.goto (4), 3) := by decide +kernel
theorem d_R_isLevel_17 : decode M_R_isLevel.2.1 17 = .ok (.iconst 0, 1) := by decide +kernel
theorem d_R_isLevel_18 : decode M_R_isLevel.2.1 18 = .ok (.ireturn, 1) := by decide +kernel
theorem d_R_kernel_0 : decode M_R_kernel.2.1 0 = .ok (.aload_n 0, 1) := by decide +kernel
theorem d_R_kernel_1 : decode M_R_kernel.2.1 1 = .ok (.iload_n 1, 1) := by decide +kernel
theorem d_R_kernel_2 : decode M_R_kernel.2.1 2 = .ok (.invokevirtual 123, 3) := by decide +kernel
theorem d_R_kernel_5 : decode M_R_kernel.2.1 5 = .ok (.ifCond .eq (14), 3) := by decide +kernel
theorem d_R_kernel_8 : decode M_R_kernel.2.1 8 = .ok (.aload_n 0, 1) := by decide +kernel
theorem d_R_kernel_9 : decode M_R_kernel.2.1 9 = .ok (.getfield 7, 3) := by decide +kernel
theorem d_R_kernel_12 : decode M_R_kernel.2.1 12 = .ok (.iload_n 1, 1) := by decide +kernel
theorem d_R_kernel_13 : decode M_R_kernel.2.1 13 = .ok (.iconst 1, 1) := by decide +kernel
theorem d_R_kernel_14 : decode M_R_kernel.2.1 14 = .ok (.isub, 1) := by decide +kernel
theorem d_R_kernel_15 : decode M_R_kernel.2.1 15 = .ok (.iaload, 1) := by decide +kernel
theorem d_R_kernel_16 : decode M_R_kernel.2.1 16 = .ok (.goto (4), 3) := by decide +kernel
theorem d_R_kernel_19 : decode M_R_kernel.2.1 19 = .ok (.iconst (-1), 1) := by decide +kernel
theorem d_R_kernel_20 : decode M_R_kernel.2.1 20 = .ok (.ireturn, 1) := by decide +kernel
theorem d_R_isBand_0 : decode M_R_isBand.2.1 0 = .ok (.iload_n 0, 1) := by decide +kernel
theorem d_R_isBand_1 : decode M_R_isBand.2.1 1 = .ok (.ifCond .lt (12), 3) := by decide +kernel
theorem d_R_isBand_4 : decode M_R_isBand.2.1 4 = .ok (.iload_n 0, 1) := by decide +kernel
theorem d_R_isBand_5 : decode M_R_isBand.2.1 5 = .ok (.iconst 3, 1) := by decide +kernel
theorem d_R_isBand_6 : decode M_R_isBand.2.1 6 = .ok (.if_icmp .gt (7), 3) := by decide +kernel
theorem d_R_isBand_9 : decode M_R_isBand.2.1 9 = .ok (.iconst 1, 1) := by decide +kernel
theorem d_R_isBand_10 : decode M_R_isBand.2.1 10 = .ok (.goto (4), 3) := by decide +kernel
theorem d_R_isBand_13 : decode M_R_isBand.2.1 13 = .ok (.iconst 0, 1) := by decide +kernel
theorem d_R_isBand_14 : decode M_R_isBand.2.1 14 = .ok (.ireturn, 1) := by decide +kernel
theorem d_R_belongs_0 : decode M_R_belongs.2.1 0 = .ok (.iconst 2, 1) := by decide +kernel
theorem d_R_belongs_1 : decode M_R_belongs.2.1 1 = .ok (.iload_n 0, 1) := by decide +kernel
theorem d_R_belongs_2 : decode M_R_belongs.2.1 2 = .ok (.invokestatic 113, 3) := by decide +kernel
theorem d_R_belongs_5 : decode M_R_belongs.2.1 5 = .ok (.imul, 1) := by decide +kernel
theorem d_R_belongs_6 : decode M_R_belongs.2.1 6 = .ok (.istore 4, 2) := by decide +kernel
theorem d_R_belongs_8 : decode M_R_belongs.2.1 8 = .ok (.iload_n 2, 1) := by decide +kernel
theorem d_R_belongs_9 : decode M_R_belongs.2.1 9 = .ok (.iload_n 0, 1) := by decide +kernel
theorem d_R_belongs_10 : decode M_R_belongs.2.1 10 = .ok (.iload_n 1, 1) := by decide +kernel
theorem d_R_belongs_11 : decode M_R_belongs.2.1 11 = .ok (.iconst 0, 1) := by decide +kernel
theorem d_R_belongs_12 : decode M_R_belongs.2.1 12 = .ok (.invokestatic 126, 3) := by decide +kernel
theorem d_R_belongs_15 : decode M_R_belongs.2.1 15 = .ok (.isub, 1) := by decide +kernel
theorem d_R_belongs_16 : decode M_R_belongs.2.1 16 = .ok (.iload 4, 2) := by decide +kernel
theorem d_R_belongs_18 : decode M_R_belongs.2.1 18 = .ok (.irem, 1) := by decide +kernel
theorem d_R_belongs_19 : decode M_R_belongs.2.1 19 = .ok (.ifCond .ne (21), 3) := by decide +kernel
theorem d_R_belongs_22 : decode M_R_belongs.2.1 22 = .ok (.iload_n 3, 1) := by decide +kernel
theorem d_R_belongs_23 : decode M_R_belongs.2.1 23 = .ok (.iload_n 0, 1) := by decide +kernel
theorem d_R_belongs_24 : decode M_R_belongs.2.1 24 = .ok (.iload_n 1, 1) := by decide +kernel
theorem d_R_belongs_25 : decode M_R_belongs.2.1 25 = .ok (.iconst 1, 1) := by decide +kernel
theorem d_R_belongs_26 : decode M_R_belongs.2.1 26 = .ok (.invokestatic 126, 3) := by decide +kernel
theorem d_R_belongs_29 : decode M_R_belongs.2.1 29 = .ok (.isub, 1) := by decide +kernel
theorem d_R_belongs_30 : decode M_R_belongs.2.1 30 = .ok (.iload 4, 2) := by decide +kernel
theorem d_R_belongs_32 : decode M_R_belongs.2.1 32 = .ok (.irem, 1) := by decide +kernel
theorem d_R_belongs_33 : decode M_R_belongs.2.1 33 = .ok (.ifCond .ne (7), 3) := by decide +kernel
theorem d_R_belongs_36 : decode M_R_belongs.2.1 36 = .ok (.iconst 1, 1) := by decide +kernel
theorem d_R_belongs_37 : decode M_R_belongs.2.1 37 = .ok (.goto (4), 3) := by decide +kernel
theorem d_R_belongs_40 : decode M_R_belongs.2.1 40 = .ok (.iconst 0, 1) := by decide +kernel
theorem d_R_belongs_41 : decode M_R_belongs.2.1 41 = .ok (.ireturn, 1) := by decide +kernel
theorem d_R_coefficient_0 : decode M_R_coefficient.2.1 0 = .ok (.aload_n 0, 1) := by decide +kernel
theorem d_R_coefficient_1 : decode M_R_coefficient.2.1 1 = .ok (.iload_n 2, 1) := by decide +kernel
theorem d_R_coefficient_2 : decode M_R_coefficient.2.1 2 = .ok (.invokevirtual 123, 3) := by decide +kernel
theorem d_R_coefficient_5 : decode M_R_coefficient.2.1 5 = .ok (.ifCond .eq (17), 3) := by decide +kernel
theorem d_R_coefficient_8 : decode M_R_coefficient.2.1 8 = .ok (.iload_n 3, 1) := by decide +kernel
theorem d_R_coefficient_9 : decode M_R_coefficient.2.1 9 = .ok (.invokestatic 130, 3) := by decide +kernel
theorem d_R_coefficient_12 : decode M_R_coefficient.2.1 12 = .ok (.ifCond .eq (10), 3) := by decide +kernel
theorem d_R_coefficient_15 : decode M_R_coefficient.2.1 15 = .ok (.iload_n 1, 1) := by decide +kernel
theorem d_R_coefficient_16 : decode M_R_coefficient.2.1 16 = .ok (.invokestatic 45, 3) := by decide +kernel
theorem d_R_coefficient_19 : decode M_R_coefficient.2.1 19 = .ok (.ifCond .ne (5), 3) := by decide +kernel
theorem d_R_coefficient_22 : decode M_R_coefficient.2.1 22 = .ok (.iconst 0, 1) := by decide +kernel
theorem d_R_coefficient_23 : decode M_R_coefficient.2.1 23 = .ok (.ireturn, 1) := by decide +kernel
theorem d_R_coefficient_24 : decode M_R_coefficient.2.1 24 = .ok (.ldc2_w 137, 3) := by decide +kernel
theorem d_R_coefficient_27 : decode M_R_coefficient.2.1 27 = .ok (.iload_n 2, 1) := by decide +kernel
theorem d_R_coefficient_28 : decode M_R_coefficient.2.1 28 = .ok (.invokestatic 113, 3) := by decide +kernel
theorem d_R_coefficient_31 : decode M_R_coefficient.2.1 31 = .ok (.i2l, 1) := by decide +kernel
theorem d_R_coefficient_32 : decode M_R_coefficient.2.1 32 = .ok (.lmul, 1) := by decide +kernel
theorem d_R_coefficient_33 : decode M_R_coefficient.2.1 33 = .ok (.iload 4, 2) := by decide +kernel
theorem d_R_coefficient_35 : decode M_R_coefficient.2.1 35 = .ok (.i2l, 1) := by decide +kernel
theorem d_R_coefficient_36 : decode M_R_coefficient.2.1 36 = .ok (.lmul, 1) := by decide +kernel
theorem d_R_coefficient_37 : decode M_R_coefficient.2.1 37 = .ok (.iload_n 2, 1) := by decide +kernel
theorem d_R_coefficient_38 : decode M_R_coefficient.2.1 38 = .ok (.iload_n 3, 1) := by decide +kernel
theorem d_R_coefficient_39 : decode M_R_coefficient.2.1 39 = .ok (.iconst 0, 1) := by decide +kernel
theorem d_R_coefficient_40 : decode M_R_coefficient.2.1 40 = .ok (.invokestatic 126, 3) := by decide +kernel
theorem d_R_coefficient_43 : decode M_R_coefficient.2.1 43 = .ok (.i2l, 1) := by decide +kernel
theorem d_R_coefficient_44 : decode M_R_coefficient.2.1 44 = .ok (.ladd, 1) := by decide +kernel
theorem d_R_coefficient_45 : decode M_R_coefficient.2.1 45 = .ok (.lstore 6, 2) := by decide +kernel
theorem d_R_coefficient_47 : decode M_R_coefficient.2.1 47 = .ok (.ldc2_w 137, 3) := by decide +kernel
theorem d_R_coefficient_50 : decode M_R_coefficient.2.1 50 = .ok (.iload_n 2, 1) := by decide +kernel
theorem d_R_coefficient_51 : decode M_R_coefficient.2.1 51 = .ok (.invokestatic 113, 3) := by decide +kernel
theorem d_R_coefficient_54 : decode M_R_coefficient.2.1 54 = .ok (.i2l, 1) := by decide +kernel
theorem d_R_coefficient_55 : decode M_R_coefficient.2.1 55 = .ok (.lmul, 1) := by decide +kernel
theorem d_R_coefficient_56 : decode M_R_coefficient.2.1 56 = .ok (.iload 5, 2) := by decide +kernel
theorem d_R_coefficient_58 : decode M_R_coefficient.2.1 58 = .ok (.i2l, 1) := by decide +kernel
theorem d_R_coefficient_59 : decode M_R_coefficient.2.1 59 = .ok (.lmul, 1) := by decide +kernel
theorem d_R_coefficient_60 : decode M_R_coefficient.2.1 60 = .ok (.iload_n 2, 1) := by decide +kernel
theorem d_R_coefficient_61 : decode M_R_coefficient.2.1 61 = .ok (.iload_n 3, 1) := by decide +kernel
theorem d_R_coefficient_62 : decode M_R_coefficient.2.1 62 = .ok (.iconst 1, 1) := by decide +kernel
theorem d_R_coefficient_63 : decode M_R_coefficient.2.1 63 = .ok (.invokestatic 126, 3) := by decide +kernel
theorem d_R_coefficient_66 : decode M_R_coefficient.2.1 66 = .ok (.i2l, 1) := by decide +kernel
theorem d_R_coefficient_67 : decode M_R_coefficient.2.1 67 = .ok (.ladd, 1) := by decide +kernel
theorem d_R_coefficient_68 : decode M_R_coefficient.2.1 68 = .ok (.lstore 8, 2) := by decide +kernel
theorem d_R_coefficient_70 : decode M_R_coefficient.2.1 70 = .ok (.lload 6, 2) := by decide +kernel
theorem d_R_coefficient_72 : decode M_R_coefficient.2.1 72 = .ok (.lconst 0, 1) := by decide +kernel
theorem d_R_coefficient_73 : decode M_R_coefficient.2.1 73 = .ok (.lcmp, 1) := by decide +kernel
theorem d_R_coefficient_74 : decode M_R_coefficient.2.1 74 = .ok (.ifCond .lt (28), 3) := by decide +kernel
theorem d_R_coefficient_77 : decode M_R_coefficient.2.1 77 = .ok (.lload 6, 2) := by decide +kernel
theorem d_R_coefficient_79 : decode M_R_coefficient.2.1 79 = .ok (.ldc2_w 139, 3) := by decide +kernel
theorem d_R_coefficient_82 : decode M_R_coefficient.2.1 82 = .ok (.lcmp, 1) := by decide +kernel
theorem d_R_coefficient_83 : decode M_R_coefficient.2.1 83 = .ok (.ifCond .gt (19), 3) := by decide +kernel
theorem d_R_coefficient_86 : decode M_R_coefficient.2.1 86 = .ok (.lload 8, 2) := by decide +kernel
theorem d_R_coefficient_88 : decode M_R_coefficient.2.1 88 = .ok (.lconst 0, 1) := by decide +kernel
theorem d_R_coefficient_89 : decode M_R_coefficient.2.1 89 = .ok (.lcmp, 1) := by decide +kernel
theorem d_R_coefficient_90 : decode M_R_coefficient.2.1 90 = .ok (.ifCond .lt (12), 3) := by decide +kernel
theorem d_R_coefficient_93 : decode M_R_coefficient.2.1 93 = .ok (.lload 8, 2) := by decide +kernel
theorem d_R_coefficient_95 : decode M_R_coefficient.2.1 95 = .ok (.ldc2_w 139, 3) := by decide +kernel
theorem d_R_coefficient_98 : decode M_R_coefficient.2.1 98 = .ok (.lcmp, 1) := by decide +kernel
theorem d_R_coefficient_99 : decode M_R_coefficient.2.1 99 = .ok (.ifCond .le (7), 3) := by decide +kernel
theorem d_R_coefficient_102 : decode M_R_coefficient.2.1 102 = .ok (.iconst 1, 1) := by decide +kernel
theorem d_R_coefficient_103 : decode M_R_coefficient.2.1 103 = .ok (.goto (4), 3) := by decide +kernel
theorem d_R_coefficient_106 : decode M_R_coefficient.2.1 106 = .ok (.iconst 0, 1) := by decide +kernel
theorem d_R_coefficient_107 : decode M_R_coefficient.2.1 107 = .ok (.istore 10, 2) := by decide +kernel
theorem d_R_coefficient_109 : decode M_R_coefficient.2.1 109 = .ok (.iload 10, 2) := by decide +kernel
theorem d_R_coefficient_111 : decode M_R_coefficient.2.1 111 = .ok (.ifCond .eq (7), 3) := by decide +kernel
theorem d_R_coefficient_114 : decode M_R_coefficient.2.1 114 = .ok (.iconst 0, 1) := by decide +kernel
theorem d_R_coefficient_115 : decode M_R_coefficient.2.1 115 = .ok (.goto (14), 3) := by decide +kernel
theorem d_R_coefficient_118 : decode M_R_coefficient.2.1 118 = .ok (.aload_n 0, 1) := by decide +kernel
theorem d_R_coefficient_119 : decode M_R_coefficient.2.1 119 = .ok (.iload_n 1, 1) := by decide +kernel
theorem d_R_coefficient_120 : decode M_R_coefficient.2.1 120 = .ok (.lload 6, 2) := by decide +kernel
theorem d_R_coefficient_122 : decode M_R_coefficient.2.1 122 = .ok (.l2i, 1) := by decide +kernel
theorem d_R_coefficient_123 : decode M_R_coefficient.2.1 123 = .ok (.lload 8, 2) := by decide +kernel
theorem d_R_coefficient_125 : decode M_R_coefficient.2.1 125 = .ok (.l2i, 1) := by decide +kernel
theorem d_R_coefficient_126 : decode M_R_coefficient.2.1 126 = .ok (.invokevirtual 99, 3) := by decide +kernel
theorem d_R_coefficient_129 : decode M_R_coefficient.2.1 129 = .ok (.ireturn, 1) := by decide +kernel
theorem d_R_amount_0 : decode M_R_amount.2.1 0 = .ok (.iload_n 0, 1) := by decide +kernel
theorem d_R_amount_1 : decode M_R_amount.2.1 1 = .ok (.ifCond .ge (9), 3) := by decide +kernel
theorem d_R_amount_4 : decode M_R_amount.2.1 4 = .ok (.iload_n 0, 1) := by decide +kernel
theorem d_R_amount_5 : decode M_R_amount.2.1 5 = .ok (.i2l, 1) := by decide +kernel
theorem d_R_amount_6 : decode M_R_amount.2.1 6 = .ok (.lneg, 1) := by decide +kernel
theorem d_R_amount_7 : decode M_R_amount.2.1 7 = .ok (.goto (5), 3) := by decide +kernel
theorem d_R_amount_10 : decode M_R_amount.2.1 10 = .ok (.iload_n 0, 1) := by decide +kernel
theorem d_R_amount_11 : decode M_R_amount.2.1 11 = .ok (.i2l, 1) := by decide +kernel
theorem d_R_amount_12 : decode M_R_amount.2.1 12 = .ok (.lreturn, 1) := by decide +kernel
