theorem d_PS_init_0 : decode prog_1_method_1_code 0 = .ok (.aload_n 0, 1) := by decide +kernel
theorem d_PS_init_1 : decode prog_1_method_1_code 1 = .ok (.invokespecial 1, 3) := by decide +kernel
theorem d_PS_init_4 : decode prog_1_method_1_code 4 = .ok (.aload_n 0, 1) := by decide +kernel
theorem d_PS_init_5 : decode prog_1_method_1_code 5 = .ok (.bipush (6), 2) := by decide +kernel
theorem d_PS_init_7 : decode prog_1_method_1_code 7 = .ok (.newarray .int, 2) := by decide +kernel
theorem d_PS_init_9 : decode prog_1_method_1_code 9 = .ok (.putfield 9, 3) := by decide +kernel
theorem d_PS_init_12 : decode prog_1_method_1_code 12 = .ok (.aload_n 0, 1) := by decide +kernel
theorem d_PS_init_13 : decode prog_1_method_1_code 13 = .ok (.new 13, 3) := by decide +kernel
theorem d_PS_init_16 : decode prog_1_method_1_code 16 = .ok (.dup, 1) := by decide +kernel
theorem d_PS_init_17 : decode prog_1_method_1_code 17 = .ok (.bipush (90), 2) := by decide +kernel
theorem d_PS_init_19 : decode prog_1_method_1_code 19 = .ok (.invokespecial 15, 3) := by decide +kernel
theorem d_PS_init_22 : decode prog_1_method_1_code 22 = .ok (.putfield 18, 3) := by decide +kernel
theorem d_PS_init_25 : decode prog_1_method_1_code 25 = .ok (.aload_n 0, 1) := by decide +kernel
theorem d_PS_init_26 : decode prog_1_method_1_code 26 = .ok (.new 22, 3) := by decide +kernel
theorem d_PS_init_29 : decode prog_1_method_1_code 29 = .ok (.dup, 1) := by decide +kernel
theorem d_PS_init_30 : decode prog_1_method_1_code 30 = .ok (.invokespecial 24, 3) := by decide +kernel
theorem d_PS_init_33 : decode prog_1_method_1_code 33 = .ok (.putfield 25, 3) := by decide +kernel
theorem d_PS_init_36 : decode prog_1_method_1_code 36 = .ok (.aload_n 0, 1) := by decide +kernel
theorem d_PS_init_37 : decode prog_1_method_1_code 37 = .ok (.new 29, 3) := by decide +kernel
theorem d_PS_init_40 : decode prog_1_method_1_code 40 = .ok (.dup, 1) := by decide +kernel
theorem d_PS_init_41 : decode prog_1_method_1_code 41 = .ok (.ldc 31, 2) := by decide +kernel
theorem d_PS_init_43 : decode prog_1_method_1_code 43 = .ok (.invokespecial 32, 3) := by decide +kernel
theorem d_PS_init_46 : decode prog_1_method_1_code 46 = .ok (.putfield 33, 3) := by decide +kernel
theorem d_PS_init_49 : decode prog_1_method_1_code 49 = .ok (.aload_n 0, 1) := by decide +kernel
theorem d_PS_init_50 : decode prog_1_method_1_code 50 = .ok (.new 13, 3) := by decide +kernel
theorem d_PS_init_53 : decode prog_1_method_1_code 53 = .ok (.dup, 1) := by decide +kernel
theorem d_PS_init_54 : decode prog_1_method_1_code 54 = .ok (.ldc 37, 2) := by decide +kernel
theorem d_PS_init_56 : decode prog_1_method_1_code 56 = .ok (.invokespecial 15, 3) := by decide +kernel
theorem d_PS_init_59 : decode prog_1_method_1_code 59 = .ok (.putfield 38, 3) := by decide +kernel
theorem d_PS_init_62 : decode prog_1_method_1_code 62 = .ok (.aload_n 0, 1) := by decide +kernel
theorem d_PS_init_63 : decode prog_1_method_1_code 63 = .ok (.new 41, 3) := by decide +kernel
theorem d_PS_init_66 : decode prog_1_method_1_code 66 = .ok (.dup, 1) := by decide +kernel
theorem d_PS_init_67 : decode prog_1_method_1_code 67 = .ok (.invokespecial 43, 3) := by decide +kernel
theorem d_PS_init_70 : decode prog_1_method_1_code 70 = .ok (.putfield 44, 3) := by decide +kernel
theorem d_PS_init_73 : decode prog_1_method_1_code 73 = .ok (.aload_n 0, 1) := by decide +kernel
theorem d_PS_init_74 : decode prog_1_method_1_code 74 = .ok (.new 48, 3) := by decide +kernel
theorem d_PS_init_77 : decode prog_1_method_1_code 77 = .ok (.dup, 1) := by decide +kernel
theorem d_PS_init_78 : decode prog_1_method_1_code 78 = .ok (.invokespecial 50, 3) := by decide +kernel
theorem d_PS_init_81 : decode prog_1_method_1_code 81 = .ok (.putfield 51, 3) := by decide +kernel
theorem d_PS_init_84 : decode prog_1_method_1_code 84 = .ok (.return_, 1) := by decide +kernel
theorem d_PS_values_0 : decode prog_1_method_2_code 0 = .ok (.iload_n 1, 1) := by decide +kernel
theorem d_PS_values_1 : decode prog_1_method_2_code 1 = .ok (.ifCond .lt (9), 3) := by decide +kernel
theorem d_PS_values_4 : decode prog_1_method_2_code 4 = .ok (.iload_n 1, 1) := by decide +kernel
theorem d_PS_values_5 : decode prog_1_method_2_code 5 = .ok (.ldc 31, 2) := by decide +kernel
theorem d_PS_values_7 : decode prog_1_method_2_code 7 = .ok (.if_icmp .le (5), 3) := by decide +kernel
theorem d_PS_values_10 : decode prog_1_method_2_code 10 = .ok (.iconst (-1), 1) := by decide +kernel
theorem d_PS_values_11 : decode prog_1_method_2_code 11 = .ok (.ireturn, 1) := by decide +kernel
theorem d_PS_values_12 : decode prog_1_method_2_code 12 = .ok (.aload_n 0, 1) := by decide +kernel
theorem d_PS_values_13 : decode prog_1_method_2_code 13 = .ok (.getfield 9, 3) := by decide +kernel
theorem d_PS_values_16 : decode prog_1_method_2_code 16 = .ok (.iconst (1), 1) := by decide +kernel
theorem d_PS_values_17 : decode prog_1_method_2_code 17 = .ok (.iaload, 1) := by decide +kernel
theorem d_PS_values_18 : decode prog_1_method_2_code 18 = .ok (.istore_n 2, 1) := by decide +kernel
theorem d_PS_values_19 : decode prog_1_method_2_code 19 = .ok (.aload_n 0, 1) := by decide +kernel
theorem d_PS_values_20 : decode prog_1_method_2_code 20 = .ok (.invokevirtual 55, 3) := by decide +kernel
theorem d_PS_values_23 : decode prog_1_method_2_code 23 = .ok (.ifCond .ne (11), 3) := by decide +kernel
theorem d_PS_values_26 : decode prog_1_method_2_code 26 = .ok (.iload_n 1, 1) := by decide +kernel
theorem d_PS_values_27 : decode prog_1_method_2_code 27 = .ok (.ldc 31, 2) := by decide +kernel
theorem d_PS_values_29 : decode prog_1_method_2_code 29 = .ok (.iload_n 2, 1) := by decide +kernel
theorem d_PS_values_30 : decode prog_1_method_2_code 30 = .ok (.isub, 1) := by decide +kernel
theorem d_PS_values_31 : decode prog_1_method_2_code 31 = .ok (.if_icmp .le (6), 3) := by decide +kernel
theorem d_PS_values_34 : decode prog_1_method_2_code 34 = .ok (.bipush (-3), 2) := by decide +kernel
theorem d_PS_values_36 : decode prog_1_method_2_code 36 = .ok (.ireturn, 1) := by decide +kernel
theorem d_PS_values_37 : decode prog_1_method_2_code 37 = .ok (.aload_n 0, 1) := by decide +kernel
theorem d_PS_values_38 : decode prog_1_method_2_code 38 = .ok (.getfield 33, 3) := by decide +kernel
theorem d_PS_values_41 : decode prog_1_method_2_code 41 = .ok (.iload_n 2, 1) := by decide +kernel
theorem d_PS_values_42 : decode prog_1_method_2_code 42 = .ok (.iload_n 2, 1) := by decide +kernel
theorem d_PS_values_43 : decode prog_1_method_2_code 43 = .ok (.iload_n 1, 1) := by decide +kernel
theorem d_PS_values_44 : decode prog_1_method_2_code 44 = .ok (.iadd, 1) := by decide +kernel
theorem d_PS_values_45 : decode prog_1_method_2_code 45 = .ok (.invokevirtual 59, 3) := by decide +kernel
theorem d_PS_values_48 : decode prog_1_method_2_code 48 = .ok (.aload_n 0, 1) := by decide +kernel
theorem d_PS_values_49 : decode prog_1_method_2_code 49 = .ok (.getfield 9, 3) := by decide +kernel
theorem d_PS_values_52 : decode prog_1_method_2_code 52 = .ok (.iconst (1), 1) := by decide +kernel
theorem d_PS_values_53 : decode prog_1_method_2_code 53 = .ok (.iload_n 2, 1) := by decide +kernel
theorem d_PS_values_54 : decode prog_1_method_2_code 54 = .ok (.iload_n 1, 1) := by decide +kernel
theorem d_PS_values_55 : decode prog_1_method_2_code 55 = .ok (.iadd, 1) := by decide +kernel
theorem d_PS_values_56 : decode prog_1_method_2_code 56 = .ok (.iastore, 1) := by decide +kernel
theorem d_PS_values_57 : decode prog_1_method_2_code 57 = .ok (.aload_n 0, 1) := by decide +kernel
theorem d_PS_values_58 : decode prog_1_method_2_code 58 = .ok (.iconst (1), 1) := by decide +kernel
theorem d_PS_values_59 : decode prog_1_method_2_code 59 = .ok (.iload_n 2, 1) := by decide +kernel
theorem d_PS_values_60 : decode prog_1_method_2_code 60 = .ok (.iload_n 1, 1) := by decide +kernel
theorem d_PS_values_61 : decode prog_1_method_2_code 61 = .ok (.invokevirtual 63, 3) := by decide +kernel
theorem d_PS_values_64 : decode prog_1_method_2_code 64 = .ok (.ireturn, 1) := by decide +kernel
theorem d_PS_noRowLeft_0 : decode prog_1_method_28_code 0 = .ok (.aload_n 0, 1) := by decide +kernel
theorem d_PS_noRowLeft_1 : decode prog_1_method_28_code 1 = .ok (.getfield 9, 3) := by decide +kernel
theorem d_PS_noRowLeft_4 : decode prog_1_method_28_code 4 = .ok (.iconst (0), 1) := by decide +kernel
theorem d_PS_noRowLeft_5 : decode prog_1_method_28_code 5 = .ok (.iaload, 1) := by decide +kernel
theorem d_PS_noRowLeft_6 : decode prog_1_method_28_code 6 = .ok (.sipush (16384), 3) := by decide +kernel
theorem d_PS_noRowLeft_9 : decode prog_1_method_28_code 9 = .ok (.if_icmp .lt (7), 3) := by decide +kernel
theorem d_PS_noRowLeft_12 : decode prog_1_method_28_code 12 = .ok (.iconst (1), 1) := by decide +kernel
theorem d_PS_noRowLeft_13 : decode prog_1_method_28_code 13 = .ok (.goto (4), 3) := by decide +kernel
theorem d_PS_noRowLeft_16 : decode prog_1_method_28_code 16 = .ok (.iconst (0), 1) := by decide +kernel
theorem d_PS_noRowLeft_17 : decode prog_1_method_28_code 17 = .ok (.ireturn, 1) := by decide +kernel
theorem d_PS_addRow_0 : decode prog_1_method_29_code 0 = .ok (.aload_n 0, 1) := by decide +kernel
theorem d_PS_addRow_1 : decode prog_1_method_29_code 1 = .ok (.getfield 9, 3) := by decide +kernel
theorem d_PS_addRow_4 : decode prog_1_method_29_code 4 = .ok (.iconst (0), 1) := by decide +kernel
theorem d_PS_addRow_5 : decode prog_1_method_29_code 5 = .ok (.dup2, 1) := by decide +kernel
theorem d_PS_addRow_6 : decode prog_1_method_29_code 6 = .ok (.iaload, 1) := by decide +kernel
theorem d_PS_addRow_7 : decode prog_1_method_29_code 7 = .ok (.iconst (1), 1) := by decide +kernel
theorem d_PS_addRow_8 : decode prog_1_method_29_code 8 = .ok (.iadd, 1) := by decide +kernel
theorem d_PS_addRow_9 : decode prog_1_method_29_code 9 = .ok (.iastore, 1) := by decide +kernel
theorem d_PS_addRow_10 : decode prog_1_method_29_code 10 = .ok (.aload_n 0, 1) := by decide +kernel
theorem d_PS_addRow_11 : decode prog_1_method_29_code 11 = .ok (.getfield 25, 3) := by decide +kernel
theorem d_PS_addRow_14 : decode prog_1_method_29_code 14 = .ok (.aload_n 0, 1) := by decide +kernel
theorem d_PS_addRow_15 : decode prog_1_method_29_code 15 = .ok (.getfield 9, 3) := by decide +kernel
theorem d_PS_addRow_18 : decode prog_1_method_29_code 18 = .ok (.iconst (0), 1) := by decide +kernel
theorem d_PS_addRow_19 : decode prog_1_method_29_code 19 = .ok (.iaload, 1) := by decide +kernel
theorem d_PS_addRow_20 : decode prog_1_method_29_code 20 = .ok (.iload_n 1, 1) := by decide +kernel
theorem d_PS_addRow_21 : decode prog_1_method_29_code 21 = .ok (.iload_n 2, 1) := by decide +kernel
theorem d_PS_addRow_22 : decode prog_1_method_29_code 22 = .ok (.iload_n 3, 1) := by decide +kernel
theorem d_PS_addRow_23 : decode prog_1_method_29_code 23 = .ok (.invokevirtual 157, 3) := by decide +kernel
theorem d_PS_addRow_26 : decode prog_1_method_29_code 26 = .ok (.aload_n 0, 1) := by decide +kernel
theorem d_PS_addRow_27 : decode prog_1_method_29_code 27 = .ok (.getfield 9, 3) := by decide +kernel
theorem d_PS_addRow_30 : decode prog_1_method_29_code 30 = .ok (.iconst (0), 1) := by decide +kernel
theorem d_PS_addRow_31 : decode prog_1_method_29_code 31 = .ok (.iaload, 1) := by decide +kernel
theorem d_PS_addRow_32 : decode prog_1_method_29_code 32 = .ok (.ireturn, 1) := by decide +kernel
theorem d_PS_bytes_0 : decode prog_1_method_3_code 0 = .ok (.iload_n 1, 1) := by decide +kernel
theorem d_PS_bytes_1 : decode prog_1_method_3_code 1 = .ok (.ifCond .lt (9), 3) := by decide +kernel
theorem d_PS_bytes_4 : decode prog_1_method_3_code 4 = .ok (.iload_n 1, 1) := by decide +kernel
theorem d_PS_bytes_5 : decode prog_1_method_3_code 5 = .ok (.ldc 37, 2) := by decide +kernel
theorem d_PS_bytes_7 : decode prog_1_method_3_code 7 = .ok (.if_icmp .le (5), 3) := by decide +kernel
theorem d_PS_bytes_10 : decode prog_1_method_3_code 10 = .ok (.iconst (-1), 1) := by decide +kernel
theorem d_PS_bytes_11 : decode prog_1_method_3_code 11 = .ok (.ireturn, 1) := by decide +kernel
theorem d_PS_bytes_12 : decode prog_1_method_3_code 12 = .ok (.aload_n 0, 1) := by decide +kernel
theorem d_PS_bytes_13 : decode prog_1_method_3_code 13 = .ok (.getfield 9, 3) := by decide +kernel
theorem d_PS_bytes_16 : decode prog_1_method_3_code 16 = .ok (.iconst (2), 1) := by decide +kernel
theorem d_PS_bytes_17 : decode prog_1_method_3_code 17 = .ok (.iaload, 1) := by decide +kernel
theorem d_PS_bytes_18 : decode prog_1_method_3_code 18 = .ok (.istore_n 2, 1) := by decide +kernel
theorem d_PS_bytes_19 : decode prog_1_method_3_code 19 = .ok (.aload_n 0, 1) := by decide +kernel
theorem d_PS_bytes_20 : decode prog_1_method_3_code 20 = .ok (.invokevirtual 55, 3) := by decide +kernel
theorem d_PS_bytes_23 : decode prog_1_method_3_code 23 = .ok (.ifCond .ne (11), 3) := by decide +kernel
theorem d_PS_bytes_26 : decode prog_1_method_3_code 26 = .ok (.iload_n 1, 1) := by decide +kernel
theorem d_PS_bytes_27 : decode prog_1_method_3_code 27 = .ok (.ldc 37, 2) := by decide +kernel
theorem d_PS_bytes_29 : decode prog_1_method_3_code 29 = .ok (.iload_n 2, 1) := by decide +kernel
theorem d_PS_bytes_30 : decode prog_1_method_3_code 30 = .ok (.isub, 1) := by decide +kernel
theorem d_PS_bytes_31 : decode prog_1_method_3_code 31 = .ok (.if_icmp .le (6), 3) := by decide +kernel
theorem d_PS_bytes_34 : decode prog_1_method_3_code 34 = .ok (.bipush (-3), 2) := by decide +kernel
theorem d_PS_bytes_36 : decode prog_1_method_3_code 36 = .ok (.ireturn, 1) := by decide +kernel
theorem d_PS_bytes_37 : decode prog_1_method_3_code 37 = .ok (.aload_n 0, 1) := by decide +kernel
theorem d_PS_bytes_38 : decode prog_1_method_3_code 38 = .ok (.getfield 38, 3) := by decide +kernel
theorem d_PS_bytes_41 : decode prog_1_method_3_code 41 = .ok (.iload_n 2, 1) := by decide +kernel
theorem d_PS_bytes_42 : decode prog_1_method_3_code 42 = .ok (.iload_n 2, 1) := by decide +kernel
theorem d_PS_bytes_43 : decode prog_1_method_3_code 43 = .ok (.iload_n 1, 1) := by decide +kernel
theorem d_PS_bytes_44 : decode prog_1_method_3_code 44 = .ok (.iadd, 1) := by decide +kernel
theorem d_PS_bytes_45 : decode prog_1_method_3_code 45 = .ok (.invokevirtual 67, 3) := by decide +kernel
theorem d_PS_bytes_48 : decode prog_1_method_3_code 48 = .ok (.aload_n 0, 1) := by decide +kernel
theorem d_PS_bytes_49 : decode prog_1_method_3_code 49 = .ok (.getfield 9, 3) := by decide +kernel
theorem d_PS_bytes_52 : decode prog_1_method_3_code 52 = .ok (.iconst (2), 1) := by decide +kernel
theorem d_PS_bytes_53 : decode prog_1_method_3_code 53 = .ok (.iload_n 2, 1) := by decide +kernel
theorem d_PS_bytes_54 : decode prog_1_method_3_code 54 = .ok (.iload_n 1, 1) := by decide +kernel
theorem d_PS_bytes_55 : decode prog_1_method_3_code 55 = .ok (.iadd, 1) := by decide +kernel
theorem d_PS_bytes_56 : decode prog_1_method_3_code 56 = .ok (.iastore, 1) := by decide +kernel
theorem d_PS_bytes_57 : decode prog_1_method_3_code 57 = .ok (.aload_n 0, 1) := by decide +kernel
theorem d_PS_bytes_58 : decode prog_1_method_3_code 58 = .ok (.iconst (2), 1) := by decide +kernel
theorem d_PS_bytes_59 : decode prog_1_method_3_code 59 = .ok (.iload_n 2, 1) := by decide +kernel
theorem d_PS_bytes_60 : decode prog_1_method_3_code 60 = .ok (.iload_n 1, 1) := by decide +kernel
theorem d_PS_bytes_61 : decode prog_1_method_3_code 61 = .ok (.invokevirtual 63, 3) := by decide +kernel
theorem d_PS_bytes_64 : decode prog_1_method_3_code 64 = .ok (.ireturn, 1) := by decide +kernel
theorem d_PS_part_0 : decode prog_1_method_4_code 0 = .ok (.aload_n 0, 1) := by decide +kernel
theorem d_PS_part_1 : decode prog_1_method_4_code 1 = .ok (.iload_n 1, 1) := by decide +kernel
theorem d_PS_part_2 : decode prog_1_method_4_code 2 = .ok (.invokevirtual 68, 3) := by decide +kernel
theorem d_PS_part_5 : decode prog_1_method_4_code 5 = .ok (.ifCond .eq (11), 3) := by decide +kernel
theorem d_PS_part_8 : decode prog_1_method_4_code 8 = .ok (.iload_n 2, 1) := by decide +kernel
theorem d_PS_part_9 : decode prog_1_method_4_code 9 = .ok (.ifCond .lt (7), 3) := by decide +kernel
theorem d_PS_part_12 : decode prog_1_method_4_code 12 = .ok (.iload_n 3, 1) := by decide +kernel
theorem d_PS_part_13 : decode prog_1_method_4_code 13 = .ok (.ifCond .ge (5), 3) := by decide +kernel
theorem d_PS_part_16 : decode prog_1_method_4_code 16 = .ok (.iconst (-1), 1) := by decide +kernel
theorem d_PS_part_17 : decode prog_1_method_4_code 17 = .ok (.ireturn, 1) := by decide +kernel
theorem d_PS_part_18 : decode prog_1_method_4_code 18 = .ok (.iload_n 2, 1) := by decide +kernel
theorem d_PS_part_19 : decode prog_1_method_4_code 19 = .ok (.aload_n 0, 1) := by decide +kernel
theorem d_PS_part_20 : decode prog_1_method_4_code 20 = .ok (.getfield 25, 3) := by decide +kernel
theorem d_PS_part_23 : decode prog_1_method_4_code 23 = .ok (.getfield 72, 3) := by decide +kernel
theorem d_PS_part_26 : decode prog_1_method_4_code 26 = .ok (.iload_n 1, 1) := by decide +kernel
theorem d_PS_part_27 : decode prog_1_method_4_code 27 = .ok (.invokevirtual 75, 3) := by decide +kernel
theorem d_PS_part_30 : decode prog_1_method_4_code 30 = .ok (.iload_n 3, 1) := by decide +kernel
theorem d_PS_part_31 : decode prog_1_method_4_code 31 = .ok (.isub, 1) := by decide +kernel
theorem d_PS_part_32 : decode prog_1_method_4_code 32 = .ok (.if_icmp .le (5), 3) := by decide +kernel
theorem d_PS_part_35 : decode prog_1_method_4_code 35 = .ok (.iconst (-1), 1) := by decide +kernel
theorem d_PS_part_36 : decode prog_1_method_4_code 36 = .ok (.ireturn, 1) := by decide +kernel
theorem d_PS_part_37 : decode prog_1_method_4_code 37 = .ok (.aload_n 0, 1) := by decide +kernel
theorem d_PS_part_38 : decode prog_1_method_4_code 38 = .ok (.invokevirtual 55, 3) := by decide +kernel
theorem d_PS_part_41 : decode prog_1_method_4_code 41 = .ok (.ifCond .eq (6), 3) := by decide +kernel
theorem d_PS_part_44 : decode prog_1_method_4_code 44 = .ok (.bipush (-3), 2) := by decide +kernel
theorem d_PS_part_46 : decode prog_1_method_4_code 46 = .ok (.ireturn, 1) := by decide +kernel
theorem d_PS_part_47 : decode prog_1_method_4_code 47 = .ok (.aload_n 0, 1) := by decide +kernel
theorem d_PS_part_48 : decode prog_1_method_4_code 48 = .ok (.aload_n 0, 1) := by decide +kernel
theorem d_PS_part_49 : decode prog_1_method_4_code 49 = .ok (.getfield 25, 3) := by decide +kernel
theorem d_PS_part_52 : decode prog_1_method_4_code 52 = .ok (.getfield 79, 3) := by decide +kernel
theorem d_PS_part_55 : decode prog_1_method_4_code 55 = .ok (.iload_n 1, 1) := by decide +kernel
theorem d_PS_part_56 : decode prog_1_method_4_code 56 = .ok (.invokevirtual 75, 3) := by decide +kernel
theorem d_PS_part_59 : decode prog_1_method_4_code 59 = .ok (.aload_n 0, 1) := by decide +kernel
theorem d_PS_part_60 : decode prog_1_method_4_code 60 = .ok (.getfield 25, 3) := by decide +kernel
theorem d_PS_part_63 : decode prog_1_method_4_code 63 = .ok (.getfield 82, 3) := by decide +kernel
theorem d_PS_part_66 : decode prog_1_method_4_code 66 = .ok (.iload_n 1, 1) := by decide +kernel
theorem d_PS_part_67 : decode prog_1_method_4_code 67 = .ok (.invokevirtual 75, 3) := by decide +kernel
theorem d_PS_part_70 : decode prog_1_method_4_code 70 = .ok (.iload_n 2, 1) := by decide +kernel
theorem d_PS_part_71 : decode prog_1_method_4_code 71 = .ok (.iadd, 1) := by decide +kernel
theorem d_PS_part_72 : decode prog_1_method_4_code 72 = .ok (.iload_n 3, 1) := by decide +kernel
theorem d_PS_part_73 : decode prog_1_method_4_code 73 = .ok (.invokevirtual 63, 3) := by decide +kernel
theorem d_PS_part_76 : decode prog_1_method_4_code 76 = .ok (.ireturn, 1) := by decide +kernel
theorem d_PS_isRow_0 : decode prog_1_method_24_code 0 = .ok (.iload_n 1, 1) := by decide +kernel
theorem d_PS_isRow_1 : decode prog_1_method_24_code 1 = .ok (.iconst (1), 1) := by decide +kernel
theorem d_PS_isRow_2 : decode prog_1_method_24_code 2 = .ok (.if_icmp .lt (17), 3) := by decide +kernel
theorem d_PS_isRow_5 : decode prog_1_method_24_code 5 = .ok (.iload_n 1, 1) := by decide +kernel
theorem d_PS_isRow_6 : decode prog_1_method_24_code 6 = .ok (.aload_n 0, 1) := by decide +kernel
theorem d_PS_isRow_7 : decode prog_1_method_24_code 7 = .ok (.getfield 9, 3) := by decide +kernel
theorem d_PS_isRow_10 : decode prog_1_method_24_code 10 = .ok (.iconst (0), 1) := by decide +kernel
theorem d_PS_isRow_11 : decode prog_1_method_24_code 11 = .ok (.iaload, 1) := by decide +kernel
theorem d_PS_isRow_12 : decode prog_1_method_24_code 12 = .ok (.if_icmp .gt (7), 3) := by decide +kernel
theorem d_PS_isRow_15 : decode prog_1_method_24_code 15 = .ok (.iconst (1), 1) := by decide +kernel
theorem d_PS_isRow_16 : decode prog_1_method_24_code 16 = .ok (.goto (4), 3) := by decide +kernel
theorem d_PS_isRow_19 : decode prog_1_method_24_code 19 = .ok (.iconst (0), 1) := by decide +kernel
theorem d_PS_isRow_20 : decode prog_1_method_24_code 20 = .ok (.ireturn, 1) := by decide +kernel
theorem d_PS_sort_0 : decode prog_1_method_5_code 0 = .ok (.aload_n 0, 1) := by decide +kernel
theorem d_PS_sort_1 : decode prog_1_method_5_code 1 = .ok (.iload_n 1, 1) := by decide +kernel
theorem d_PS_sort_2 : decode prog_1_method_5_code 2 = .ok (.invokevirtual 68, 3) := by decide +kernel
theorem d_PS_sort_5 : decode prog_1_method_5_code 5 = .ok (.ifCond .eq (17), 3) := by decide +kernel
theorem d_PS_sort_8 : decode prog_1_method_5_code 8 = .ok (.aload_n 0, 1) := by decide +kernel
theorem d_PS_sort_9 : decode prog_1_method_5_code 9 = .ok (.getfield 25, 3) := by decide +kernel
theorem d_PS_sort_12 : decode prog_1_method_5_code 12 = .ok (.getfield 79, 3) := by decide +kernel
theorem d_PS_sort_15 : decode prog_1_method_5_code 15 = .ok (.iload_n 1, 1) := by decide +kernel
theorem d_PS_sort_16 : decode prog_1_method_5_code 16 = .ok (.invokevirtual 75, 3) := by decide +kernel
theorem d_PS_sort_19 : decode prog_1_method_5_code 19 = .ok (.goto (4), 3) := by decide +kernel
theorem d_PS_sort_22 : decode prog_1_method_5_code 22 = .ok (.iconst (-1), 1) := by decide +kernel
theorem d_PS_sort_23 : decode prog_1_method_5_code 23 = .ok (.ireturn, 1) := by decide +kernel
theorem d_PS_length_0 : decode prog_1_method_6_code 0 = .ok (.aload_n 0, 1) := by decide +kernel
theorem d_PS_length_1 : decode prog_1_method_6_code 1 = .ok (.iload_n 1, 1) := by decide +kernel
theorem d_PS_length_2 : decode prog_1_method_6_code 2 = .ok (.invokevirtual 68, 3) := by decide +kernel
theorem d_PS_length_5 : decode prog_1_method_6_code 5 = .ok (.ifCond .eq (17), 3) := by decide +kernel
theorem d_PS_length_8 : decode prog_1_method_6_code 8 = .ok (.aload_n 0, 1) := by decide +kernel
theorem d_PS_length_9 : decode prog_1_method_6_code 9 = .ok (.getfield 25, 3) := by decide +kernel
theorem d_PS_length_12 : decode prog_1_method_6_code 12 = .ok (.getfield 72, 3) := by decide +kernel
theorem d_PS_length_15 : decode prog_1_method_6_code 15 = .ok (.iload_n 1, 1) := by decide +kernel
theorem d_PS_length_16 : decode prog_1_method_6_code 16 = .ok (.invokevirtual 75, 3) := by decide +kernel
theorem d_PS_length_19 : decode prog_1_method_6_code 19 = .ok (.goto (4), 3) := by decide +kernel
theorem d_PS_length_22 : decode prog_1_method_6_code 22 = .ok (.iconst (-1), 1) := by decide +kernel
theorem d_PS_length_23 : decode prog_1_method_6_code 23 = .ok (.ireturn, 1) := by decide +kernel
theorem d_PS_set_0 : decode prog_1_method_7_code 0 = .ok (.aload_n 0, 1) := by decide +kernel
theorem d_PS_set_1 : decode prog_1_method_7_code 1 = .ok (.iconst (1), 1) := by decide +kernel
theorem d_PS_set_2 : decode prog_1_method_7_code 2 = .ok (.iload_n 1, 1) := by decide +kernel
theorem d_PS_set_3 : decode prog_1_method_7_code 3 = .ok (.iload_n 2, 1) := by decide +kernel
theorem d_PS_set_4 : decode prog_1_method_7_code 4 = .ok (.invokevirtual 85, 3) := by decide +kernel
theorem d_PS_set_7 : decode prog_1_method_7_code 7 = .ok (.istore 5, 2) := by decide +kernel
theorem d_PS_set_9 : decode prog_1_method_7_code 9 = .ok (.iload 5, 2) := by decide +kernel
theorem d_PS_set_11 : decode prog_1_method_7_code 11 = .ok (.iconst (-1), 1) := by decide +kernel
theorem d_PS_set_12 : decode prog_1_method_7_code 12 = .ok (.if_icmp .eq (11), 3) := by decide +kernel
theorem d_PS_set_15 : decode prog_1_method_7_code 15 = .ok (.iload_n 3, 1) := by decide +kernel
theorem d_PS_set_16 : decode prog_1_method_7_code 16 = .ok (.iconst (0), 1) := by decide +kernel
theorem d_PS_set_17 : decode prog_1_method_7_code 17 = .ok (.invokestatic 88, 3) := by decide +kernel
theorem d_PS_set_20 : decode prog_1_method_7_code 20 = .ok (.ifCond .ne (5), 3) := by decide +kernel
theorem d_PS_set_23 : decode prog_1_method_7_code 23 = .ok (.iconst (-1), 1) := by decide +kernel
theorem d_PS_set_24 : decode prog_1_method_7_code 24 = .ok (.ireturn, 1) := by decide +kernel
theorem d_PS_set_25 : decode prog_1_method_7_code 25 = .ok (.aload_n 0, 1) := by decide +kernel
theorem d_PS_set_26 : decode prog_1_method_7_code 26 = .ok (.iconst (1), 1) := by decide +kernel
theorem d_PS_set_27 : decode prog_1_method_7_code 27 = .ok (.iload 5, 2) := by decide +kernel
theorem d_PS_set_29 : decode prog_1_method_7_code 29 = .ok (.invokevirtual 92, 3) := by decide +kernel
theorem d_PS_set_32 : decode prog_1_method_7_code 32 = .ok (.ifCond .ne (6), 3) := by decide +kernel
theorem d_PS_set_35 : decode prog_1_method_7_code 35 = .ok (.bipush (-3), 2) := by decide +kernel
theorem d_PS_set_37 : decode prog_1_method_7_code 37 = .ok (.ireturn, 1) := by decide +kernel
theorem d_PS_set_38 : decode prog_1_method_7_code 38 = .ok (.aload_n 0, 1) := by decide +kernel
theorem d_PS_set_39 : decode prog_1_method_7_code 39 = .ok (.getfield 33, 3) := by decide +kernel
theorem d_PS_set_42 : decode prog_1_method_7_code 42 = .ok (.iload 5, 2) := by decide +kernel
theorem d_PS_set_44 : decode prog_1_method_7_code 44 = .ok (.iload_n 3, 1) := by decide +kernel
theorem d_PS_set_45 : decode prog_1_method_7_code 45 = .ok (.iload 4, 2) := by decide +kernel
theorem d_PS_set_47 : decode prog_1_method_7_code 47 = .ok (.invokevirtual 95, 3) := by decide +kernel
theorem d_PS_set_50 : decode prog_1_method_7_code 50 = .ok (.iconst (1), 1) := by decide +kernel
theorem d_PS_set_51 : decode prog_1_method_7_code 51 = .ok (.ireturn, 1) := by decide +kernel
theorem d_PS_indexIn_0 : decode prog_1_method_30_code 0 = .ok (.aload_n 0, 1) := by decide +kernel
theorem d_PS_indexIn_1 : decode prog_1_method_30_code 1 = .ok (.iload_n 2, 1) := by decide +kernel
theorem d_PS_indexIn_2 : decode prog_1_method_30_code 2 = .ok (.invokevirtual 68, 3) := by decide +kernel
theorem d_PS_indexIn_5 : decode prog_1_method_30_code 5 = .ok (.ifCond .eq (18), 3) := by decide +kernel
theorem d_PS_indexIn_8 : decode prog_1_method_30_code 8 = .ok (.aload_n 0, 1) := by decide +kernel
theorem d_PS_indexIn_9 : decode prog_1_method_30_code 9 = .ok (.getfield 25, 3) := by decide +kernel
theorem d_PS_indexIn_12 : decode prog_1_method_30_code 12 = .ok (.getfield 79, 3) := by decide +kernel
theorem d_PS_indexIn_15 : decode prog_1_method_30_code 15 = .ok (.iload_n 2, 1) := by decide +kernel
theorem d_PS_indexIn_16 : decode prog_1_method_30_code 16 = .ok (.invokevirtual 75, 3) := by decide +kernel
theorem d_PS_indexIn_19 : decode prog_1_method_30_code 19 = .ok (.iload_n 1, 1) := by decide +kernel
theorem d_PS_indexIn_20 : decode prog_1_method_30_code 20 = .ok (.if_icmp .eq (5), 3) := by decide +kernel
theorem d_PS_indexIn_23 : decode prog_1_method_30_code 23 = .ok (.iconst (-1), 1) := by decide +kernel
theorem d_PS_indexIn_24 : decode prog_1_method_30_code 24 = .ok (.ireturn, 1) := by decide +kernel
theorem d_PS_indexIn_25 : decode prog_1_method_30_code 25 = .ok (.iload_n 3, 1) := by decide +kernel
theorem d_PS_indexIn_26 : decode prog_1_method_30_code 26 = .ok (.ifCond .lt (18), 3) := by decide +kernel
theorem d_PS_indexIn_29 : decode prog_1_method_30_code 29 = .ok (.iload_n 3, 1) := by decide +kernel
theorem d_PS_indexIn_30 : decode prog_1_method_30_code 30 = .ok (.aload_n 0, 1) := by decide +kernel
theorem d_PS_indexIn_31 : decode prog_1_method_30_code 31 = .ok (.getfield 25, 3) := by decide +kernel
theorem d_PS_indexIn_34 : decode prog_1_method_30_code 34 = .ok (.getfield 72, 3) := by decide +kernel
theorem d_PS_indexIn_37 : decode prog_1_method_30_code 37 = .ok (.iload_n 2, 1) := by decide +kernel
theorem d_PS_indexIn_38 : decode prog_1_method_30_code 38 = .ok (.invokevirtual 75, 3) := by decide +kernel
theorem d_PS_indexIn_41 : decode prog_1_method_30_code 41 = .ok (.if_icmp .lt (5), 3) := by decide +kernel
theorem d_PS_indexIn_44 : decode prog_1_method_30_code 44 = .ok (.iconst (-1), 1) := by decide +kernel
theorem d_PS_indexIn_45 : decode prog_1_method_30_code 45 = .ok (.ireturn, 1) := by decide +kernel
theorem d_PS_indexIn_46 : decode prog_1_method_30_code 46 = .ok (.aload_n 0, 1) := by decide +kernel
theorem d_PS_indexIn_47 : decode prog_1_method_30_code 47 = .ok (.getfield 25, 3) := by decide +kernel
theorem d_PS_indexIn_50 : decode prog_1_method_30_code 50 = .ok (.getfield 82, 3) := by decide +kernel
theorem d_PS_indexIn_53 : decode prog_1_method_30_code 53 = .ok (.iload_n 2, 1) := by decide +kernel
theorem d_PS_indexIn_54 : decode prog_1_method_30_code 54 = .ok (.invokevirtual 75, 3) := by decide +kernel
theorem d_PS_indexIn_57 : decode prog_1_method_30_code 57 = .ok (.iload_n 3, 1) := by decide +kernel
theorem d_PS_indexIn_58 : decode prog_1_method_30_code 58 = .ok (.iadd, 1) := by decide +kernel
theorem d_PS_indexIn_59 : decode prog_1_method_30_code 59 = .ok (.ireturn, 1) := by decide +kernel
theorem d_PS_isKind_0 : decode prog_1_method_23_code 0 = .ok (.iload_n 0, 1) := by decide +kernel
theorem d_PS_isKind_1 : decode prog_1_method_23_code 1 = .ok (.iload_n 1, 1) := by decide +kernel
theorem d_PS_isKind_2 : decode prog_1_method_23_code 2 = .ok (.if_icmp .lt (13), 3) := by decide +kernel
theorem d_PS_isKind_5 : decode prog_1_method_23_code 5 = .ok (.iload_n 0, 1) := by decide +kernel
theorem d_PS_isKind_6 : decode prog_1_method_23_code 6 = .ok (.bipush (15), 2) := by decide +kernel
theorem d_PS_isKind_8 : decode prog_1_method_23_code 8 = .ok (.if_icmp .gt (7), 3) := by decide +kernel
theorem d_PS_isKind_11 : decode prog_1_method_23_code 11 = .ok (.iconst (1), 1) := by decide +kernel
theorem d_PS_isKind_12 : decode prog_1_method_23_code 12 = .ok (.goto (4), 3) := by decide +kernel
theorem d_PS_isKind_15 : decode prog_1_method_23_code 15 = .ok (.iconst (0), 1) := by decide +kernel
theorem d_PS_isKind_16 : decode prog_1_method_23_code 16 = .ok (.ireturn, 1) := by decide +kernel
theorem d_PS_remember_0 : decode prog_1_method_34_code 0 = .ok (.aload_n 0, 1) := by decide +kernel
theorem d_PS_remember_1 : decode prog_1_method_34_code 1 = .ok (.iload_n 1, 1) := by decide +kernel
theorem d_PS_remember_2 : decode prog_1_method_34_code 2 = .ok (.iload_n 2, 1) := by decide +kernel
theorem d_PS_remember_3 : decode prog_1_method_34_code 3 = .ok (.invokevirtual 163, 3) := by decide +kernel
theorem d_PS_remember_6 : decode prog_1_method_34_code 6 = .ok (.ifCond .ne (5), 3) := by decide +kernel
theorem d_PS_remember_9 : decode prog_1_method_34_code 9 = .ok (.iconst (1), 1) := by decide +kernel
theorem d_PS_remember_10 : decode prog_1_method_34_code 10 = .ok (.ireturn, 1) := by decide +kernel
theorem d_PS_remember_11 : decode prog_1_method_34_code 11 = .ok (.aload_n 0, 1) := by decide +kernel
theorem d_PS_remember_12 : decode prog_1_method_34_code 12 = .ok (.getfield 9, 3) := by decide +kernel
theorem d_PS_remember_15 : decode prog_1_method_34_code 15 = .ok (.iconst (5), 1) := by decide +kernel
theorem d_PS_remember_16 : decode prog_1_method_34_code 16 = .ok (.iaload, 1) := by decide +kernel
theorem d_PS_remember_17 : decode prog_1_method_34_code 17 = .ok (.istore_n 3, 1) := by decide +kernel
theorem d_PS_remember_18 : decode prog_1_method_34_code 18 = .ok (.iload_n 3, 1) := by decide +kernel
theorem d_PS_remember_19 : decode prog_1_method_34_code 19 = .ok (.ldc 166, 2) := by decide +kernel
theorem d_PS_remember_21 : decode prog_1_method_34_code 21 = .ok (.if_icmp .lt (5), 3) := by decide +kernel
theorem d_PS_remember_24 : decode prog_1_method_34_code 24 = .ok (.iconst (0), 1) := by decide +kernel
theorem d_PS_remember_25 : decode prog_1_method_34_code 25 = .ok (.ireturn, 1) := by decide +kernel
theorem d_PS_remember_26 : decode prog_1_method_34_code 26 = .ok (.aload_n 0, 1) := by decide +kernel
theorem d_PS_remember_27 : decode prog_1_method_34_code 27 = .ok (.getfield 51, 3) := by decide +kernel
theorem d_PS_remember_30 : decode prog_1_method_34_code 30 = .ok (.iload_n 3, 1) := by decide +kernel
theorem d_PS_remember_31 : decode prog_1_method_34_code 31 = .ok (.iload_n 1, 1) := by decide +kernel
theorem d_PS_remember_32 : decode prog_1_method_34_code 32 = .ok (.iload_n 2, 1) := by decide +kernel
theorem d_PS_remember_33 : decode prog_1_method_34_code 33 = .ok (.aload_n 0, 1) := by decide +kernel
theorem d_PS_remember_34 : decode prog_1_method_34_code 34 = .ok (.iload_n 1, 1) := by decide +kernel
theorem d_PS_remember_35 : decode prog_1_method_34_code 35 = .ok (.invokevirtual 167, 3) := by decide +kernel
theorem d_PS_remember_38 : decode prog_1_method_34_code 38 = .ok (.invokevirtual 171, 3) := by decide +kernel
theorem d_PS_remember_41 : decode prog_1_method_34_code 41 = .ok (.aload_n 0, 1) := by decide +kernel
theorem d_PS_remember_42 : decode prog_1_method_34_code 42 = .ok (.getfield 9, 3) := by decide +kernel
theorem d_PS_remember_45 : decode prog_1_method_34_code 45 = .ok (.iconst (5), 1) := by decide +kernel
theorem d_PS_remember_46 : decode prog_1_method_34_code 46 = .ok (.dup2, 1) := by decide +kernel
theorem d_PS_remember_47 : decode prog_1_method_34_code 47 = .ok (.iaload, 1) := by decide +kernel
theorem d_PS_remember_48 : decode prog_1_method_34_code 48 = .ok (.iconst (1), 1) := by decide +kernel
theorem d_PS_remember_49 : decode prog_1_method_34_code 49 = .ok (.iadd, 1) := by decide +kernel
theorem d_PS_remember_50 : decode prog_1_method_34_code 50 = .ok (.iastore, 1) := by decide +kernel
theorem d_PS_remember_51 : decode prog_1_method_34_code 51 = .ok (.iconst (1), 1) := by decide +kernel
theorem d_PS_remember_52 : decode prog_1_method_34_code 52 = .ok (.ireturn, 1) := by decide +kernel
theorem d_PS_mustRemember_0 : decode prog_1_method_35_code 0 = .ok (.aload_n 0, 1) := by decide +kernel
theorem d_PS_mustRemember_1 : decode prog_1_method_35_code 1 = .ok (.getfield 145, 3) := by decide +kernel
theorem d_PS_mustRemember_4 : decode prog_1_method_35_code 4 = .ok (.ifCond .eq (16), 3) := by decide +kernel
theorem d_PS_mustRemember_7 : decode prog_1_method_35_code 7 = .ok (.iload_n 2, 1) := by decide +kernel
theorem d_PS_mustRemember_8 : decode prog_1_method_35_code 8 = .ok (.aload_n 0, 1) := by decide +kernel
theorem d_PS_mustRemember_9 : decode prog_1_method_35_code 9 = .ok (.aload_n 0, 1) := by decide +kernel
theorem d_PS_mustRemember_10 : decode prog_1_method_35_code 10 = .ok (.getfield 145, 3) := by decide +kernel
theorem d_PS_mustRemember_13 : decode prog_1_method_35_code 13 = .ok (.iload_n 1, 1) := by decide +kernel
theorem d_PS_mustRemember_14 : decode prog_1_method_35_code 14 = .ok (.invokevirtual 151, 3) := by decide +kernel
theorem d_PS_mustRemember_17 : decode prog_1_method_35_code 17 = .ok (.if_icmp .lt (5), 3) := by decide +kernel
theorem d_PS_mustRemember_20 : decode prog_1_method_35_code 20 = .ok (.iconst (0), 1) := by decide +kernel
theorem d_PS_mustRemember_21 : decode prog_1_method_35_code 21 = .ok (.ireturn, 1) := by decide +kernel
theorem d_PS_mustRemember_22 : decode prog_1_method_35_code 22 = .ok (.aload_n 0, 1) := by decide +kernel
theorem d_PS_mustRemember_23 : decode prog_1_method_35_code 23 = .ok (.aload_n 0, 1) := by decide +kernel
theorem d_PS_mustRemember_24 : decode prog_1_method_35_code 24 = .ok (.getfield 145, 3) := by decide +kernel
theorem d_PS_mustRemember_27 : decode prog_1_method_35_code 27 = .ok (.iconst (5), 1) := by decide +kernel
theorem d_PS_mustRemember_28 : decode prog_1_method_35_code 28 = .ok (.invokevirtual 151, 3) := by decide +kernel
theorem d_PS_mustRemember_31 : decode prog_1_method_35_code 31 = .ok (.istore_n 3, 1) := by decide +kernel
theorem d_PS_mustRemember_32 : decode prog_1_method_35_code 32 = .ok (.aload_n 0, 1) := by decide +kernel
theorem d_PS_mustRemember_33 : decode prog_1_method_35_code 33 = .ok (.getfield 51, 3) := by decide +kernel
theorem d_PS_mustRemember_36 : decode prog_1_method_35_code 36 = .ok (.iload_n 1, 1) := by decide +kernel
theorem d_PS_mustRemember_37 : decode prog_1_method_35_code 37 = .ok (.iload_n 2, 1) := by decide +kernel
theorem d_PS_mustRemember_38 : decode prog_1_method_35_code 38 = .ok (.iload_n 3, 1) := by decide +kernel
theorem d_PS_mustRemember_39 : decode prog_1_method_35_code 39 = .ok (.aload_n 0, 1) := by decide +kernel
theorem d_PS_mustRemember_40 : decode prog_1_method_35_code 40 = .ok (.getfield 9, 3) := by decide +kernel
theorem d_PS_mustRemember_43 : decode prog_1_method_35_code 43 = .ok (.iconst (5), 1) := by decide +kernel
theorem d_PS_mustRemember_44 : decode prog_1_method_35_code 44 = .ok (.iaload, 1) := by decide +kernel
theorem d_PS_mustRemember_45 : decode prog_1_method_35_code 45 = .ok (.invokevirtual 174, 3) := by decide +kernel
theorem d_PS_mustRemember_48 : decode prog_1_method_35_code 48 = .ok (.ifCond .ne (7), 3) := by decide +kernel
theorem d_PS_mustRemember_51 : decode prog_1_method_35_code 51 = .ok (.iconst (1), 1) := by decide +kernel
theorem d_PS_mustRemember_52 : decode prog_1_method_35_code 52 = .ok (.goto (4), 3) := by decide +kernel
theorem d_PS_mustRemember_55 : decode prog_1_method_35_code 55 = .ok (.iconst (0), 1) := by decide +kernel
theorem d_PS_mustRemember_56 : decode prog_1_method_35_code 56 = .ok (.ireturn, 1) := by decide +kernel
theorem d_PS_countAtSave_0 : decode prog_1_method_33_code 0 = .ok (.aload_n 0, 1) := by decide +kernel
theorem d_PS_countAtSave_1 : decode prog_1_method_33_code 1 = .ok (.getfield 18, 3) := by decide +kernel
theorem d_PS_countAtSave_4 : decode prog_1_method_33_code 4 = .ok (.iload_n 1, 1) := by decide +kernel
theorem d_PS_countAtSave_5 : decode prog_1_method_33_code 5 = .ok (.iconst (1), 1) := by decide +kernel
theorem d_PS_countAtSave_6 : decode prog_1_method_33_code 6 = .ok (.isub, 1) := by decide +kernel
theorem d_PS_countAtSave_7 : decode prog_1_method_33_code 7 = .ok (.bipush (6), 2) := by decide +kernel
theorem d_PS_countAtSave_9 : decode prog_1_method_33_code 9 = .ok (.imul, 1) := by decide +kernel
theorem d_PS_countAtSave_10 : decode prog_1_method_33_code 10 = .ok (.iload_n 2, 1) := by decide +kernel
theorem d_PS_countAtSave_11 : decode prog_1_method_33_code 11 = .ok (.iadd, 1) := by decide +kernel
theorem d_PS_countAtSave_12 : decode prog_1_method_33_code 12 = .ok (.invokevirtual 75, 3) := by decide +kernel
theorem d_PS_countAtSave_15 : decode prog_1_method_33_code 15 = .ok (.ireturn, 1) := by decide +kernel
theorem d_PS_valuesOf_0 : decode prog_1_method_37_code 0 = .ok (.iload_n 1, 1) := by decide +kernel
theorem d_PS_valuesOf_1 : decode prog_1_method_37_code 1 = .ok (.iconst (4), 1) := by decide +kernel
theorem d_PS_valuesOf_2 : decode prog_1_method_37_code 2 = .ok (.if_icmp .ne (13), 3) := by decide +kernel
theorem d_PS_valuesOf_5 : decode prog_1_method_37_code 5 = .ok (.aload_n 0, 1) := by decide +kernel
theorem d_PS_valuesOf_6 : decode prog_1_method_37_code 6 = .ok (.getfield 44, 3) := by decide +kernel
theorem d_PS_valuesOf_9 : decode prog_1_method_37_code 9 = .ok (.getfield 119, 3) := by decide +kernel
theorem d_PS_valuesOf_12 : decode prog_1_method_37_code 12 = .ok (.goto (7), 3) := by decide +kernel
theorem d_PS_valuesOf_15 : decode prog_1_method_37_code 15 = .ok (.aload_n 0, 1) := by decide +kernel
theorem d_PS_valuesOf_16 : decode prog_1_method_37_code 16 = .ok (.getfield 33, 3) := by decide +kernel
theorem d_PS_valuesOf_19 : decode prog_1_method_37_code 19 = .ok (.areturn, 1) := by decide +kernel
theorem d_PS_get_0 : decode prog_1_method_8_code 0 = .ok (.aload_n 0, 1) := by decide +kernel
theorem d_PS_get_1 : decode prog_1_method_8_code 1 = .ok (.iconst (1), 1) := by decide +kernel
theorem d_PS_get_2 : decode prog_1_method_8_code 2 = .ok (.iload_n 1, 1) := by decide +kernel
theorem d_PS_get_3 : decode prog_1_method_8_code 3 = .ok (.iload_n 2, 1) := by decide +kernel
theorem d_PS_get_4 : decode prog_1_method_8_code 4 = .ok (.invokevirtual 85, 3) := by decide +kernel
theorem d_PS_get_7 : decode prog_1_method_8_code 7 = .ok (.istore_n 3, 1) := by decide +kernel
theorem d_PS_get_8 : decode prog_1_method_8_code 8 = .ok (.iload_n 3, 1) := by decide +kernel
theorem d_PS_get_9 : decode prog_1_method_8_code 9 = .ok (.iconst (-1), 1) := by decide +kernel
theorem d_PS_get_10 : decode prog_1_method_8_code 10 = .ok (.if_icmp .eq (15), 3) := by decide +kernel
theorem d_PS_get_13 : decode prog_1_method_8_code 13 = .ok (.aload_n 0, 1) := by decide +kernel
theorem d_PS_get_14 : decode prog_1_method_8_code 14 = .ok (.getfield 33, 3) := by decide +kernel
theorem d_PS_get_17 : decode prog_1_method_8_code 17 = .ok (.getfield 99, 3) := by decide +kernel
theorem d_PS_get_20 : decode prog_1_method_8_code 20 = .ok (.iload_n 3, 1) := by decide +kernel
theorem d_PS_get_21 : decode prog_1_method_8_code 21 = .ok (.invokevirtual 75, 3) := by decide +kernel
theorem d_PS_get_24 : decode prog_1_method_8_code 24 = .ok (.ireturn, 1) := by decide +kernel
theorem d_PS_get_25 : decode prog_1_method_8_code 25 = .ok (.aload_n 0, 1) := by decide +kernel
theorem d_PS_get_26 : decode prog_1_method_8_code 26 = .ok (.iconst (2), 1) := by decide +kernel
theorem d_PS_get_27 : decode prog_1_method_8_code 27 = .ok (.iload_n 1, 1) := by decide +kernel
theorem d_PS_get_28 : decode prog_1_method_8_code 28 = .ok (.iload_n 2, 1) := by decide +kernel
theorem d_PS_get_29 : decode prog_1_method_8_code 29 = .ok (.invokevirtual 85, 3) := by decide +kernel
theorem d_PS_get_32 : decode prog_1_method_8_code 32 = .ok (.istore_n 3, 1) := by decide +kernel
theorem d_PS_get_33 : decode prog_1_method_8_code 33 = .ok (.iload_n 3, 1) := by decide +kernel
theorem d_PS_get_34 : decode prog_1_method_8_code 34 = .ok (.iconst (-1), 1) := by decide +kernel
theorem d_PS_get_35 : decode prog_1_method_8_code 35 = .ok (.if_icmp .ne (7), 3) := by decide +kernel
theorem d_PS_get_38 : decode prog_1_method_8_code 38 = .ok (.iconst (-1), 1) := by decide +kernel
theorem d_PS_get_39 : decode prog_1_method_8_code 39 = .ok (.goto (11), 3) := by decide +kernel
theorem d_PS_get_42 : decode prog_1_method_8_code 42 = .ok (.aload_n 0, 1) := by decide +kernel
theorem d_PS_get_43 : decode prog_1_method_8_code 43 = .ok (.getfield 38, 3) := by decide +kernel
theorem d_PS_get_46 : decode prog_1_method_8_code 46 = .ok (.iload_n 3, 1) := by decide +kernel
theorem d_PS_get_47 : decode prog_1_method_8_code 47 = .ok (.invokevirtual 75, 3) := by decide +kernel
theorem d_PS_get_50 : decode prog_1_method_8_code 50 = .ok (.ireturn, 1) := by decide +kernel
theorem d_PS_number_0 : decode prog_1_method_9_code 0 = .ok (.aload_n 0, 1) := by decide +kernel
theorem d_PS_number_1 : decode prog_1_method_9_code 1 = .ok (.iconst (1), 1) := by decide +kernel
theorem d_PS_number_2 : decode prog_1_method_9_code 2 = .ok (.iload_n 1, 1) := by decide +kernel
theorem d_PS_number_3 : decode prog_1_method_9_code 3 = .ok (.iload_n 2, 1) := by decide +kernel
theorem d_PS_number_4 : decode prog_1_method_9_code 4 = .ok (.invokevirtual 85, 3) := by decide +kernel
theorem d_PS_number_7 : decode prog_1_method_9_code 7 = .ok (.istore_n 3, 1) := by decide +kernel
theorem d_PS_number_8 : decode prog_1_method_9_code 8 = .ok (.iload_n 3, 1) := by decide +kernel
theorem d_PS_number_9 : decode prog_1_method_9_code 9 = .ok (.iconst (-1), 1) := by decide +kernel
theorem d_PS_number_10 : decode prog_1_method_9_code 10 = .ok (.if_icmp .ne (7), 3) := by decide +kernel
theorem d_PS_number_13 : decode prog_1_method_9_code 13 = .ok (.iconst (0), 1) := by decide +kernel
theorem d_PS_number_14 : decode prog_1_method_9_code 14 = .ok (.goto (14), 3) := by decide +kernel
theorem d_PS_number_17 : decode prog_1_method_9_code 17 = .ok (.aload_n 0, 1) := by decide +kernel
theorem d_PS_number_18 : decode prog_1_method_9_code 18 = .ok (.getfield 33, 3) := by decide +kernel
theorem d_PS_number_21 : decode prog_1_method_9_code 21 = .ok (.getfield 102, 3) := by decide +kernel
theorem d_PS_number_24 : decode prog_1_method_9_code 24 = .ok (.iload_n 3, 1) := by decide +kernel
theorem d_PS_number_25 : decode prog_1_method_9_code 25 = .ok (.invokevirtual 75, 3) := by decide +kernel
theorem d_PS_number_28 : decode prog_1_method_9_code 28 = .ok (.ireturn, 1) := by decide +kernel
theorem d_PS_setByte_0 : decode prog_1_method_10_code 0 = .ok (.aload_n 0, 1) := by decide +kernel
theorem d_PS_setByte_1 : decode prog_1_method_10_code 1 = .ok (.iconst (2), 1) := by decide +kernel
theorem d_PS_setByte_2 : decode prog_1_method_10_code 2 = .ok (.iload_n 1, 1) := by decide +kernel
theorem d_PS_setByte_3 : decode prog_1_method_10_code 3 = .ok (.iload_n 2, 1) := by decide +kernel
theorem d_PS_setByte_4 : decode prog_1_method_10_code 4 = .ok (.invokevirtual 85, 3) := by decide +kernel
theorem d_PS_setByte_7 : decode prog_1_method_10_code 7 = .ok (.istore 4, 2) := by decide +kernel
theorem d_PS_setByte_9 : decode prog_1_method_10_code 9 = .ok (.iload 4, 2) := by decide +kernel
theorem d_PS_setByte_11 : decode prog_1_method_10_code 11 = .ok (.iconst (-1), 1) := by decide +kernel
theorem d_PS_setByte_12 : decode prog_1_method_10_code 12 = .ok (.if_icmp .ne (5), 3) := by decide +kernel
theorem d_PS_setByte_15 : decode prog_1_method_10_code 15 = .ok (.iconst (-1), 1) := by decide +kernel
theorem d_PS_setByte_16 : decode prog_1_method_10_code 16 = .ok (.ireturn, 1) := by decide +kernel
theorem d_PS_setByte_17 : decode prog_1_method_10_code 17 = .ok (.aload_n 0, 1) := by decide +kernel
theorem d_PS_setByte_18 : decode prog_1_method_10_code 18 = .ok (.getfield 38, 3) := by decide +kernel
theorem d_PS_setByte_21 : decode prog_1_method_10_code 21 = .ok (.iload 4, 2) := by decide +kernel
theorem d_PS_setByte_23 : decode prog_1_method_10_code 23 = .ok (.iload_n 3, 1) := by decide +kernel
theorem d_PS_setByte_24 : decode prog_1_method_10_code 24 = .ok (.sipush (255), 3) := by decide +kernel
theorem d_PS_setByte_27 : decode prog_1_method_10_code 27 = .ok (.iand, 1) := by decide +kernel
theorem d_PS_setByte_28 : decode prog_1_method_10_code 28 = .ok (.invokevirtual 105, 3) := by decide +kernel
theorem d_PS_setByte_31 : decode prog_1_method_10_code 31 = .ok (.iconst (1), 1) := by decide +kernel
theorem d_PS_setByte_32 : decode prog_1_method_10_code 32 = .ok (.ireturn, 1) := by decide +kernel
theorem d_PS_dictionary_0 : decode prog_1_method_11_code 0 = .ok (.aload_n 0, 1) := by decide +kernel
theorem d_PS_dictionary_1 : decode prog_1_method_11_code 1 = .ok (.getfield 9, 3) := by decide +kernel
theorem d_PS_dictionary_4 : decode prog_1_method_11_code 4 = .ok (.iconst (3), 1) := by decide +kernel
theorem d_PS_dictionary_5 : decode prog_1_method_11_code 5 = .ok (.iaload, 1) := by decide +kernel
theorem d_PS_dictionary_6 : decode prog_1_method_11_code 6 = .ok (.sipush (1024), 3) := by decide +kernel
theorem d_PS_dictionary_9 : decode prog_1_method_11_code 9 = .ok (.if_icmp .lt (6), 3) := by decide +kernel
theorem d_PS_dictionary_12 : decode prog_1_method_11_code 12 = .ok (.bipush (-3), 2) := by decide +kernel
theorem d_PS_dictionary_14 : decode prog_1_method_11_code 14 = .ok (.ireturn, 1) := by decide +kernel
theorem d_PS_dictionary_15 : decode prog_1_method_11_code 15 = .ok (.aload_n 0, 1) := by decide +kernel
theorem d_PS_dictionary_16 : decode prog_1_method_11_code 16 = .ok (.getfield 9, 3) := by decide +kernel
theorem d_PS_dictionary_19 : decode prog_1_method_11_code 19 = .ok (.iconst (3), 1) := by decide +kernel
theorem d_PS_dictionary_20 : decode prog_1_method_11_code 20 = .ok (.dup2, 1) := by decide +kernel
theorem d_PS_dictionary_21 : decode prog_1_method_11_code 21 = .ok (.iaload, 1) := by decide +kernel
theorem d_PS_dictionary_22 : decode prog_1_method_11_code 22 = .ok (.iconst (1), 1) := by decide +kernel
theorem d_PS_dictionary_23 : decode prog_1_method_11_code 23 = .ok (.iadd, 1) := by decide +kernel
theorem d_PS_dictionary_24 : decode prog_1_method_11_code 24 = .ok (.iastore, 1) := by decide +kernel
theorem d_PS_dictionary_25 : decode prog_1_method_11_code 25 = .ok (.aload_n 0, 1) := by decide +kernel
theorem d_PS_dictionary_26 : decode prog_1_method_11_code 26 = .ok (.getfield 9, 3) := by decide +kernel
theorem d_PS_dictionary_29 : decode prog_1_method_11_code 29 = .ok (.iconst (3), 1) := by decide +kernel
theorem d_PS_dictionary_30 : decode prog_1_method_11_code 30 = .ok (.iaload, 1) := by decide +kernel
theorem d_PS_dictionary_31 : decode prog_1_method_11_code 31 = .ok (.ireturn, 1) := by decide +kernel
theorem d_PS_define_0 : decode prog_1_method_12_code 0 = .ok (.aload_n 0, 1) := by decide +kernel
theorem d_PS_define_1 : decode prog_1_method_12_code 1 = .ok (.iload_n 1, 1) := by decide +kernel
theorem d_PS_define_2 : decode prog_1_method_12_code 2 = .ok (.iload_n 2, 1) := by decide +kernel
theorem d_PS_define_3 : decode prog_1_method_12_code 3 = .ok (.invokevirtual 108, 3) := by decide +kernel
theorem d_PS_define_6 : decode prog_1_method_12_code 6 = .ok (.ifCond .eq (12), 3) := by decide +kernel
theorem d_PS_define_9 : decode prog_1_method_12_code 9 = .ok (.iload 4, 2) := by decide +kernel
theorem d_PS_define_11 : decode prog_1_method_12_code 11 = .ok (.iconst (0), 1) := by decide +kernel
theorem d_PS_define_12 : decode prog_1_method_12_code 12 = .ok (.invokestatic 88, 3) := by decide +kernel
theorem d_PS_define_15 : decode prog_1_method_12_code 15 = .ok (.ifCond .ne (5), 3) := by decide +kernel
theorem d_PS_define_18 : decode prog_1_method_12_code 18 = .ok (.iconst (-1), 1) := by decide +kernel
theorem d_PS_define_19 : decode prog_1_method_12_code 19 = .ok (.ireturn, 1) := by decide +kernel
theorem d_PS_define_20 : decode prog_1_method_12_code 20 = .ok (.aload_n 0, 1) := by decide +kernel
theorem d_PS_define_21 : decode prog_1_method_12_code 21 = .ok (.getfield 44, 3) := by decide +kernel
theorem d_PS_define_24 : decode prog_1_method_12_code 24 = .ok (.iload_n 1, 1) := by decide +kernel
theorem d_PS_define_25 : decode prog_1_method_12_code 25 = .ok (.iload_n 2, 1) := by decide +kernel
theorem d_PS_define_26 : decode prog_1_method_12_code 26 = .ok (.iload_n 3, 1) := by decide +kernel
theorem d_PS_define_27 : decode prog_1_method_12_code 27 = .ok (.aload_n 0, 1) := by decide +kernel
theorem d_PS_define_28 : decode prog_1_method_12_code 28 = .ok (.getfield 9, 3) := by decide +kernel
theorem d_PS_define_31 : decode prog_1_method_12_code 31 = .ok (.iconst (4), 1) := by decide +kernel
theorem d_PS_define_32 : decode prog_1_method_12_code 32 = .ok (.iaload, 1) := by decide +kernel
theorem d_PS_define_33 : decode prog_1_method_12_code 33 = .ok (.invokevirtual 111, 3) := by decide +kernel
theorem d_PS_define_36 : decode prog_1_method_12_code 36 = .ok (.istore 6, 2) := by decide +kernel
theorem d_PS_define_38 : decode prog_1_method_12_code 38 = .ok (.iload 6, 2) := by decide +kernel
theorem d_PS_define_40 : decode prog_1_method_12_code 40 = .ok (.iconst (-1), 1) := by decide +kernel
theorem d_PS_define_41 : decode prog_1_method_12_code 41 = .ok (.if_icmp .ne (15), 3) := by decide +kernel
theorem d_PS_define_44 : decode prog_1_method_12_code 44 = .ok (.aload_n 0, 1) := by decide +kernel
theorem d_PS_define_45 : decode prog_1_method_12_code 45 = .ok (.iload_n 1, 1) := by decide +kernel
theorem d_PS_define_46 : decode prog_1_method_12_code 46 = .ok (.iload_n 2, 1) := by decide +kernel
theorem d_PS_define_47 : decode prog_1_method_12_code 47 = .ok (.iload_n 3, 1) := by decide +kernel
theorem d_PS_define_48 : decode prog_1_method_12_code 48 = .ok (.iload 4, 2) := by decide +kernel
theorem d_PS_define_50 : decode prog_1_method_12_code 50 = .ok (.iload 5, 2) := by decide +kernel
theorem d_PS_define_52 : decode prog_1_method_12_code 52 = .ok (.invokevirtual 115, 3) := by decide +kernel
theorem d_PS_define_55 : decode prog_1_method_12_code 55 = .ok (.ireturn, 1) := by decide +kernel
theorem d_PS_define_56 : decode prog_1_method_12_code 56 = .ok (.aload_n 0, 1) := by decide +kernel
theorem d_PS_define_57 : decode prog_1_method_12_code 57 = .ok (.iconst (4), 1) := by decide +kernel
theorem d_PS_define_58 : decode prog_1_method_12_code 58 = .ok (.iload 6, 2) := by decide +kernel
theorem d_PS_define_60 : decode prog_1_method_12_code 60 = .ok (.invokevirtual 92, 3) := by decide +kernel
theorem d_PS_define_63 : decode prog_1_method_12_code 63 = .ok (.ifCond .ne (6), 3) := by decide +kernel
theorem d_PS_define_66 : decode prog_1_method_12_code 66 = .ok (.bipush (-3), 2) := by decide +kernel
theorem d_PS_define_68 : decode prog_1_method_12_code 68 = .ok (.ireturn, 1) := by decide +kernel
theorem d_PS_define_69 : decode prog_1_method_12_code 69 = .ok (.aload_n 0, 1) := by decide +kernel
theorem d_PS_define_70 : decode prog_1_method_12_code 70 = .ok (.getfield 44, 3) := by decide +kernel
theorem d_PS_define_73 : decode prog_1_method_12_code 73 = .ok (.getfield 119, 3) := by decide +kernel
theorem d_PS_define_76 : decode prog_1_method_12_code 76 = .ok (.iload 6, 2) := by decide +kernel
theorem d_PS_define_78 : decode prog_1_method_12_code 78 = .ok (.iload 4, 2) := by decide +kernel
theorem d_PS_define_80 : decode prog_1_method_12_code 80 = .ok (.iload 5, 2) := by decide +kernel
theorem d_PS_define_82 : decode prog_1_method_12_code 82 = .ok (.invokevirtual 95, 3) := by decide +kernel
theorem d_PS_define_85 : decode prog_1_method_12_code 85 = .ok (.iconst (0), 1) := by decide +kernel
theorem d_PS_define_86 : decode prog_1_method_12_code 86 = .ok (.ireturn, 1) := by decide +kernel
theorem d_PS_isKeyPossible_0 : decode prog_1_method_26_code 0 = .ok (.aload_n 0, 1) := by decide +kernel
theorem d_PS_isKeyPossible_1 : decode prog_1_method_26_code 1 = .ok (.iload_n 1, 1) := by decide +kernel
theorem d_PS_isKeyPossible_2 : decode prog_1_method_26_code 2 = .ok (.invokevirtual 125, 3) := by decide +kernel
theorem d_PS_isKeyPossible_5 : decode prog_1_method_26_code 5 = .ok (.ifCond .eq (15), 3) := by decide +kernel
theorem d_PS_isKeyPossible_8 : decode prog_1_method_26_code 8 = .ok (.iload_n 2, 1) := by decide +kernel
theorem d_PS_isKeyPossible_9 : decode prog_1_method_26_code 9 = .ok (.iconst (1), 1) := by decide +kernel
theorem d_PS_isKeyPossible_10 : decode prog_1_method_26_code 10 = .ok (.invokestatic 88, 3) := by decide +kernel
theorem d_PS_isKeyPossible_13 : decode prog_1_method_26_code 13 = .ok (.ifCond .eq (7), 3) := by decide +kernel
theorem d_PS_isKeyPossible_16 : decode prog_1_method_26_code 16 = .ok (.iconst (1), 1) := by decide +kernel
theorem d_PS_isKeyPossible_17 : decode prog_1_method_26_code 17 = .ok (.goto (4), 3) := by decide +kernel
theorem d_PS_isKeyPossible_20 : decode prog_1_method_26_code 20 = .ok (.iconst (0), 1) := by decide +kernel
theorem d_PS_isKeyPossible_21 : decode prog_1_method_26_code 21 = .ok (.ireturn, 1) := by decide +kernel
theorem d_PS_isDictionary_0 : decode prog_1_method_25_code 0 = .ok (.iload_n 1, 1) := by decide +kernel
theorem d_PS_isDictionary_1 : decode prog_1_method_25_code 1 = .ok (.iconst (1), 1) := by decide +kernel
theorem d_PS_isDictionary_2 : decode prog_1_method_25_code 2 = .ok (.if_icmp .lt (17), 3) := by decide +kernel
theorem d_PS_isDictionary_5 : decode prog_1_method_25_code 5 = .ok (.iload_n 1, 1) := by decide +kernel
theorem d_PS_isDictionary_6 : decode prog_1_method_25_code 6 = .ok (.aload_n 0, 1) := by decide +kernel
theorem d_PS_isDictionary_7 : decode prog_1_method_25_code 7 = .ok (.getfield 9, 3) := by decide +kernel
theorem d_PS_isDictionary_10 : decode prog_1_method_25_code 10 = .ok (.iconst (3), 1) := by decide +kernel
theorem d_PS_isDictionary_11 : decode prog_1_method_25_code 11 = .ok (.iaload, 1) := by decide +kernel
theorem d_PS_isDictionary_12 : decode prog_1_method_25_code 12 = .ok (.if_icmp .gt (7), 3) := by decide +kernel
theorem d_PS_isDictionary_15 : decode prog_1_method_25_code 15 = .ok (.iconst (1), 1) := by decide +kernel
theorem d_PS_isDictionary_16 : decode prog_1_method_25_code 16 = .ok (.goto (4), 3) := by decide +kernel
theorem d_PS_isDictionary_19 : decode prog_1_method_25_code 19 = .ok (.iconst (0), 1) := by decide +kernel
theorem d_PS_isDictionary_20 : decode prog_1_method_25_code 20 = .ok (.ireturn, 1) := by decide +kernel
theorem d_PS_addKey_0 : decode prog_1_method_31_code 0 = .ok (.aload_n 0, 1) := by decide +kernel
theorem d_PS_addKey_1 : decode prog_1_method_31_code 1 = .ok (.getfield 9, 3) := by decide +kernel
theorem d_PS_addKey_4 : decode prog_1_method_31_code 4 = .ok (.iconst (4), 1) := by decide +kernel
theorem d_PS_addKey_5 : decode prog_1_method_31_code 5 = .ok (.iaload, 1) := by decide +kernel
theorem d_PS_addKey_6 : decode prog_1_method_31_code 6 = .ok (.istore 6, 2) := by decide +kernel
theorem d_PS_addKey_8 : decode prog_1_method_31_code 8 = .ok (.iload 6, 2) := by decide +kernel
theorem d_PS_addKey_10 : decode prog_1_method_31_code 10 = .ok (.sipush (16384), 3) := by decide +kernel
theorem d_PS_addKey_13 : decode prog_1_method_31_code 13 = .ok (.if_icmp .lt (6), 3) := by decide +kernel
theorem d_PS_addKey_16 : decode prog_1_method_31_code 16 = .ok (.bipush (-3), 2) := by decide +kernel
theorem d_PS_addKey_18 : decode prog_1_method_31_code 18 = .ok (.ireturn, 1) := by decide +kernel
theorem d_PS_addKey_19 : decode prog_1_method_31_code 19 = .ok (.aload_n 0, 1) := by decide +kernel
theorem d_PS_addKey_20 : decode prog_1_method_31_code 20 = .ok (.getfield 44, 3) := by decide +kernel
theorem d_PS_addKey_23 : decode prog_1_method_31_code 23 = .ok (.iload 6, 2) := by decide +kernel
theorem d_PS_addKey_25 : decode prog_1_method_31_code 25 = .ok (.iload_n 1, 1) := by decide +kernel
theorem d_PS_addKey_26 : decode prog_1_method_31_code 26 = .ok (.iload_n 2, 1) := by decide +kernel
theorem d_PS_addKey_27 : decode prog_1_method_31_code 27 = .ok (.iload_n 3, 1) := by decide +kernel
theorem d_PS_addKey_28 : decode prog_1_method_31_code 28 = .ok (.invokevirtual 160, 3) := by decide +kernel
theorem d_PS_addKey_31 : decode prog_1_method_31_code 31 = .ok (.aload_n 0, 1) := by decide +kernel
theorem d_PS_addKey_32 : decode prog_1_method_31_code 32 = .ok (.getfield 44, 3) := by decide +kernel
theorem d_PS_addKey_35 : decode prog_1_method_31_code 35 = .ok (.getfield 119, 3) := by decide +kernel
theorem d_PS_addKey_38 : decode prog_1_method_31_code 38 = .ok (.iload 6, 2) := by decide +kernel
theorem d_PS_addKey_40 : decode prog_1_method_31_code 40 = .ok (.iload 4, 2) := by decide +kernel
theorem d_PS_addKey_42 : decode prog_1_method_31_code 42 = .ok (.iload 5, 2) := by decide +kernel
theorem d_PS_addKey_44 : decode prog_1_method_31_code 44 = .ok (.invokevirtual 95, 3) := by decide +kernel
theorem d_PS_addKey_47 : decode prog_1_method_31_code 47 = .ok (.aload_n 0, 1) := by decide +kernel
theorem d_PS_addKey_48 : decode prog_1_method_31_code 48 = .ok (.getfield 9, 3) := by decide +kernel
theorem d_PS_addKey_51 : decode prog_1_method_31_code 51 = .ok (.iconst (4), 1) := by decide +kernel
theorem d_PS_addKey_52 : decode prog_1_method_31_code 52 = .ok (.iload 6, 2) := by decide +kernel
theorem d_PS_addKey_54 : decode prog_1_method_31_code 54 = .ok (.iconst (1), 1) := by decide +kernel
theorem d_PS_addKey_55 : decode prog_1_method_31_code 55 = .ok (.iadd, 1) := by decide +kernel
theorem d_PS_addKey_56 : decode prog_1_method_31_code 56 = .ok (.iastore, 1) := by decide +kernel
theorem d_PS_addKey_57 : decode prog_1_method_31_code 57 = .ok (.iconst (1), 1) := by decide +kernel
theorem d_PS_addKey_58 : decode prog_1_method_31_code 58 = .ok (.ireturn, 1) := by decide +kernel
theorem d_PS_find_0 : decode prog_1_method_13_code 0 = .ok (.aload_n 0, 1) := by decide +kernel
theorem d_PS_find_1 : decode prog_1_method_13_code 1 = .ok (.iload_n 1, 1) := by decide +kernel
theorem d_PS_find_2 : decode prog_1_method_13_code 2 = .ok (.iload_n 2, 1) := by decide +kernel
theorem d_PS_find_3 : decode prog_1_method_13_code 3 = .ok (.invokevirtual 108, 3) := by decide +kernel
theorem d_PS_find_6 : decode prog_1_method_13_code 6 = .ok (.ifCond .ne (5), 3) := by decide +kernel
theorem d_PS_find_9 : decode prog_1_method_13_code 9 = .ok (.iconst (-1), 1) := by decide +kernel
theorem d_PS_find_10 : decode prog_1_method_13_code 10 = .ok (.ireturn, 1) := by decide +kernel
theorem d_PS_find_11 : decode prog_1_method_13_code 11 = .ok (.aload_n 0, 1) := by decide +kernel
theorem d_PS_find_12 : decode prog_1_method_13_code 12 = .ok (.getfield 44, 3) := by decide +kernel
theorem d_PS_find_15 : decode prog_1_method_13_code 15 = .ok (.iload_n 1, 1) := by decide +kernel
theorem d_PS_find_16 : decode prog_1_method_13_code 16 = .ok (.iload_n 2, 1) := by decide +kernel
theorem d_PS_find_17 : decode prog_1_method_13_code 17 = .ok (.iload_n 3, 1) := by decide +kernel
theorem d_PS_find_18 : decode prog_1_method_13_code 18 = .ok (.aload_n 0, 1) := by decide +kernel
theorem d_PS_find_19 : decode prog_1_method_13_code 19 = .ok (.getfield 9, 3) := by decide +kernel
theorem d_PS_find_22 : decode prog_1_method_13_code 22 = .ok (.iconst (4), 1) := by decide +kernel
theorem d_PS_find_23 : decode prog_1_method_13_code 23 = .ok (.iaload, 1) := by decide +kernel
theorem d_PS_find_24 : decode prog_1_method_13_code 24 = .ok (.invokevirtual 122, 3) := by decide +kernel
theorem d_PS_find_27 : decode prog_1_method_13_code 27 = .ok (.istore 4, 2) := by decide +kernel
theorem d_PS_find_29 : decode prog_1_method_13_code 29 = .ok (.iload 4, 2) := by decide +kernel
theorem d_PS_find_31 : decode prog_1_method_13_code 31 = .ok (.iconst (-1), 1) := by decide +kernel
theorem d_PS_find_32 : decode prog_1_method_13_code 32 = .ok (.if_icmp .ne (8), 3) := by decide +kernel
theorem d_PS_find_35 : decode prog_1_method_13_code 35 = .ok (.bipush (-2), 2) := by decide +kernel
theorem d_PS_find_37 : decode prog_1_method_13_code 37 = .ok (.goto (18), 3) := by decide +kernel
theorem d_PS_find_40 : decode prog_1_method_13_code 40 = .ok (.aload_n 0, 1) := by decide +kernel
theorem d_PS_find_41 : decode prog_1_method_13_code 41 = .ok (.getfield 44, 3) := by decide +kernel
theorem d_PS_find_44 : decode prog_1_method_13_code 44 = .ok (.getfield 119, 3) := by decide +kernel
theorem d_PS_find_47 : decode prog_1_method_13_code 47 = .ok (.getfield 99, 3) := by decide +kernel
theorem d_PS_find_50 : decode prog_1_method_13_code 50 = .ok (.iload 4, 2) := by decide +kernel
theorem d_PS_find_52 : decode prog_1_method_13_code 52 = .ok (.invokevirtual 75, 3) := by decide +kernel
theorem d_PS_find_55 : decode prog_1_method_13_code 55 = .ok (.ireturn, 1) := by decide +kernel
theorem d_PS_found_0 : decode prog_1_method_14_code 0 = .ok (.aload_n 0, 1) := by decide +kernel
theorem d_PS_found_1 : decode prog_1_method_14_code 1 = .ok (.getfield 44, 3) := by decide +kernel
theorem d_PS_found_4 : decode prog_1_method_14_code 4 = .ok (.iload_n 1, 1) := by decide +kernel
theorem d_PS_found_5 : decode prog_1_method_14_code 5 = .ok (.iload_n 2, 1) := by decide +kernel
theorem d_PS_found_6 : decode prog_1_method_14_code 6 = .ok (.iload_n 3, 1) := by decide +kernel
theorem d_PS_found_7 : decode prog_1_method_14_code 7 = .ok (.aload_n 0, 1) := by decide +kernel
theorem d_PS_found_8 : decode prog_1_method_14_code 8 = .ok (.getfield 9, 3) := by decide +kernel
theorem d_PS_found_11 : decode prog_1_method_14_code 11 = .ok (.iconst (4), 1) := by decide +kernel
theorem d_PS_found_12 : decode prog_1_method_14_code 12 = .ok (.iaload, 1) := by decide +kernel
theorem d_PS_found_13 : decode prog_1_method_14_code 13 = .ok (.invokevirtual 122, 3) := by decide +kernel
theorem d_PS_found_16 : decode prog_1_method_14_code 16 = .ok (.istore 4, 2) := by decide +kernel
theorem d_PS_found_18 : decode prog_1_method_14_code 18 = .ok (.iload 4, 2) := by decide +kernel
theorem d_PS_found_20 : decode prog_1_method_14_code 20 = .ok (.iconst (-1), 1) := by decide +kernel
theorem d_PS_found_21 : decode prog_1_method_14_code 21 = .ok (.if_icmp .ne (7), 3) := by decide +kernel
theorem d_PS_found_24 : decode prog_1_method_14_code 24 = .ok (.iconst (0), 1) := by decide +kernel
theorem d_PS_found_25 : decode prog_1_method_14_code 25 = .ok (.goto (18), 3) := by decide +kernel
theorem d_PS_found_28 : decode prog_1_method_14_code 28 = .ok (.aload_n 0, 1) := by decide +kernel
theorem d_PS_found_29 : decode prog_1_method_14_code 29 = .ok (.getfield 44, 3) := by decide +kernel
theorem d_PS_found_32 : decode prog_1_method_14_code 32 = .ok (.getfield 119, 3) := by decide +kernel
theorem d_PS_found_35 : decode prog_1_method_14_code 35 = .ok (.getfield 102, 3) := by decide +kernel
theorem d_PS_found_38 : decode prog_1_method_14_code 38 = .ok (.iload 4, 2) := by decide +kernel
theorem d_PS_found_40 : decode prog_1_method_14_code 40 = .ok (.invokevirtual 75, 3) := by decide +kernel
theorem d_PS_found_43 : decode prog_1_method_14_code 43 = .ok (.ireturn, 1) := by decide +kernel
theorem d_PS_undefine_0 : decode prog_1_method_15_code 0 = .ok (.aload_n 0, 1) := by decide +kernel
theorem d_PS_undefine_1 : decode prog_1_method_15_code 1 = .ok (.iload_n 1, 1) := by decide +kernel
theorem d_PS_undefine_2 : decode prog_1_method_15_code 2 = .ok (.iload_n 2, 1) := by decide +kernel
theorem d_PS_undefine_3 : decode prog_1_method_15_code 3 = .ok (.invokevirtual 108, 3) := by decide +kernel
theorem d_PS_undefine_6 : decode prog_1_method_15_code 6 = .ok (.ifCond .ne (5), 3) := by decide +kernel
theorem d_PS_undefine_9 : decode prog_1_method_15_code 9 = .ok (.iconst (-1), 1) := by decide +kernel
theorem d_PS_undefine_10 : decode prog_1_method_15_code 10 = .ok (.ireturn, 1) := by decide +kernel
theorem d_PS_undefine_11 : decode prog_1_method_15_code 11 = .ok (.aload_n 0, 1) := by decide +kernel
theorem d_PS_undefine_12 : decode prog_1_method_15_code 12 = .ok (.getfield 44, 3) := by decide +kernel
theorem d_PS_undefine_15 : decode prog_1_method_15_code 15 = .ok (.iload_n 1, 1) := by decide +kernel
theorem d_PS_undefine_16 : decode prog_1_method_15_code 16 = .ok (.iload_n 2, 1) := by decide +kernel
theorem d_PS_undefine_17 : decode prog_1_method_15_code 17 = .ok (.iload_n 3, 1) := by decide +kernel
theorem d_PS_undefine_18 : decode prog_1_method_15_code 18 = .ok (.aload_n 0, 1) := by decide +kernel
theorem d_PS_undefine_19 : decode prog_1_method_15_code 19 = .ok (.getfield 9, 3) := by decide +kernel
theorem d_PS_undefine_22 : decode prog_1_method_15_code 22 = .ok (.iconst (4), 1) := by decide +kernel
theorem d_PS_undefine_23 : decode prog_1_method_15_code 23 = .ok (.iaload, 1) := by decide +kernel
theorem d_PS_undefine_24 : decode prog_1_method_15_code 24 = .ok (.invokevirtual 122, 3) := by decide +kernel
theorem d_PS_undefine_27 : decode prog_1_method_15_code 27 = .ok (.istore 4, 2) := by decide +kernel
theorem d_PS_undefine_29 : decode prog_1_method_15_code 29 = .ok (.iload 4, 2) := by decide +kernel
theorem d_PS_undefine_31 : decode prog_1_method_15_code 31 = .ok (.iconst (-1), 1) := by decide +kernel
theorem d_PS_undefine_32 : decode prog_1_method_15_code 32 = .ok (.if_icmp .ne (6), 3) := by decide +kernel
theorem d_PS_undefine_35 : decode prog_1_method_15_code 35 = .ok (.bipush (-2), 2) := by decide +kernel
theorem d_PS_undefine_37 : decode prog_1_method_15_code 37 = .ok (.ireturn, 1) := by decide +kernel
theorem d_PS_undefine_38 : decode prog_1_method_15_code 38 = .ok (.aload_n 0, 1) := by decide +kernel
theorem d_PS_undefine_39 : decode prog_1_method_15_code 39 = .ok (.iconst (4), 1) := by decide +kernel
theorem d_PS_undefine_40 : decode prog_1_method_15_code 40 = .ok (.iload 4, 2) := by decide +kernel
theorem d_PS_undefine_42 : decode prog_1_method_15_code 42 = .ok (.invokevirtual 92, 3) := by decide +kernel
theorem d_PS_undefine_45 : decode prog_1_method_15_code 45 = .ok (.ifCond .ne (6), 3) := by decide +kernel
theorem d_PS_undefine_48 : decode prog_1_method_15_code 48 = .ok (.bipush (-3), 2) := by decide +kernel
theorem d_PS_undefine_50 : decode prog_1_method_15_code 50 = .ok (.ireturn, 1) := by decide +kernel
theorem d_PS_undefine_51 : decode prog_1_method_15_code 51 = .ok (.aload_n 0, 1) := by decide +kernel
theorem d_PS_undefine_52 : decode prog_1_method_15_code 52 = .ok (.getfield 44, 3) := by decide +kernel
theorem d_PS_undefine_55 : decode prog_1_method_15_code 55 = .ok (.getfield 119, 3) := by decide +kernel
theorem d_PS_undefine_58 : decode prog_1_method_15_code 58 = .ok (.iload 4, 2) := by decide +kernel
theorem d_PS_undefine_60 : decode prog_1_method_15_code 60 = .ok (.iconst (-1), 1) := by decide +kernel
theorem d_PS_undefine_61 : decode prog_1_method_15_code 61 = .ok (.iconst (0), 1) := by decide +kernel
theorem d_PS_undefine_62 : decode prog_1_method_15_code 62 = .ok (.invokevirtual 95, 3) := by decide +kernel
theorem d_PS_undefine_65 : decode prog_1_method_15_code 65 = .ok (.iconst (1), 1) := by decide +kernel
theorem d_PS_undefine_66 : decode prog_1_method_15_code 66 = .ok (.ireturn, 1) := by decide +kernel
theorem d_PS_count_0 : decode prog_1_method_16_code 0 = .ok (.aload_n 0, 1) := by decide +kernel
theorem d_PS_count_1 : decode prog_1_method_16_code 1 = .ok (.iload_n 1, 1) := by decide +kernel
theorem d_PS_count_2 : decode prog_1_method_16_code 2 = .ok (.invokevirtual 125, 3) := by decide +kernel
theorem d_PS_count_5 : decode prog_1_method_16_code 5 = .ok (.ifCond .eq (20), 3) := by decide +kernel
theorem d_PS_count_8 : decode prog_1_method_16_code 8 = .ok (.aload_n 0, 1) := by decide +kernel
theorem d_PS_count_9 : decode prog_1_method_16_code 9 = .ok (.getfield 44, 3) := by decide +kernel
theorem d_PS_count_12 : decode prog_1_method_16_code 12 = .ok (.iload_n 1, 1) := by decide +kernel
theorem d_PS_count_13 : decode prog_1_method_16_code 13 = .ok (.aload_n 0, 1) := by decide +kernel
theorem d_PS_count_14 : decode prog_1_method_16_code 14 = .ok (.getfield 9, 3) := by decide +kernel
theorem d_PS_count_17 : decode prog_1_method_16_code 17 = .ok (.iconst (4), 1) := by decide +kernel
theorem d_PS_count_18 : decode prog_1_method_16_code 18 = .ok (.iaload, 1) := by decide +kernel
theorem d_PS_count_19 : decode prog_1_method_16_code 19 = .ok (.invokevirtual 128, 3) := by decide +kernel
theorem d_PS_count_22 : decode prog_1_method_16_code 22 = .ok (.goto (4), 3) := by decide +kernel
theorem d_PS_count_25 : decode prog_1_method_16_code 25 = .ok (.iconst (-1), 1) := by decide +kernel
theorem d_PS_count_26 : decode prog_1_method_16_code 26 = .ok (.ireturn, 1) := by decide +kernel
theorem d_PS_next_0 : decode prog_1_method_17_code 0 = .ok (.aload_n 0, 1) := by decide +kernel
theorem d_PS_next_1 : decode prog_1_method_17_code 1 = .ok (.iload_n 1, 1) := by decide +kernel
theorem d_PS_next_2 : decode prog_1_method_17_code 2 = .ok (.invokevirtual 125, 3) := by decide +kernel
theorem d_PS_next_5 : decode prog_1_method_17_code 5 = .ok (.ifCond .eq (11), 3) := by decide +kernel
theorem d_PS_next_8 : decode prog_1_method_17_code 8 = .ok (.iload_n 2, 1) := by decide +kernel
theorem d_PS_next_9 : decode prog_1_method_17_code 9 = .ok (.iconst (0), 1) := by decide +kernel
theorem d_PS_next_10 : decode prog_1_method_17_code 10 = .ok (.invokestatic 88, 3) := by decide +kernel
theorem d_PS_next_13 : decode prog_1_method_17_code 13 = .ok (.ifCond .ne (5), 3) := by decide +kernel
theorem d_PS_next_16 : decode prog_1_method_17_code 16 = .ok (.iconst (-1), 1) := by decide +kernel
theorem d_PS_next_17 : decode prog_1_method_17_code 17 = .ok (.ireturn, 1) := by decide +kernel
theorem d_PS_next_18 : decode prog_1_method_17_code 18 = .ok (.iconst (0), 1) := by decide +kernel
theorem d_PS_next_19 : decode prog_1_method_17_code 19 = .ok (.istore 4, 2) := by decide +kernel
theorem d_PS_next_21 : decode prog_1_method_17_code 21 = .ok (.iload_n 2, 1) := by decide +kernel
theorem d_PS_next_22 : decode prog_1_method_17_code 22 = .ok (.ifCond .eq (36), 3) := by decide +kernel
theorem d_PS_next_25 : decode prog_1_method_17_code 25 = .ok (.aload_n 0, 1) := by decide +kernel
theorem d_PS_next_26 : decode prog_1_method_17_code 26 = .ok (.getfield 44, 3) := by decide +kernel
theorem d_PS_next_29 : decode prog_1_method_17_code 29 = .ok (.iload_n 1, 1) := by decide +kernel
theorem d_PS_next_30 : decode prog_1_method_17_code 30 = .ok (.iload_n 2, 1) := by decide +kernel
theorem d_PS_next_31 : decode prog_1_method_17_code 31 = .ok (.iload_n 3, 1) := by decide +kernel
theorem d_PS_next_32 : decode prog_1_method_17_code 32 = .ok (.aload_n 0, 1) := by decide +kernel
theorem d_PS_next_33 : decode prog_1_method_17_code 33 = .ok (.getfield 9, 3) := by decide +kernel
theorem d_PS_next_36 : decode prog_1_method_17_code 36 = .ok (.iconst (4), 1) := by decide +kernel
theorem d_PS_next_37 : decode prog_1_method_17_code 37 = .ok (.iaload, 1) := by decide +kernel
theorem d_PS_next_38 : decode prog_1_method_17_code 38 = .ok (.invokevirtual 111, 3) := by decide +kernel
theorem d_PS_next_41 : decode prog_1_method_17_code 41 = .ok (.istore 5, 2) := by decide +kernel
theorem d_PS_next_43 : decode prog_1_method_17_code 43 = .ok (.iload 5, 2) := by decide +kernel
theorem d_PS_next_45 : decode prog_1_method_17_code 45 = .ok (.iconst (-1), 1) := by decide +kernel
theorem d_PS_next_46 : decode prog_1_method_17_code 46 = .ok (.if_icmp .ne (6), 3) := by decide +kernel
theorem d_PS_next_49 : decode prog_1_method_17_code 49 = .ok (.bipush (-2), 2) := by decide +kernel
theorem d_PS_next_51 : decode prog_1_method_17_code 51 = .ok (.ireturn, 1) := by decide +kernel
theorem d_PS_next_52 : decode prog_1_method_17_code 52 = .ok (.iload 5, 2) := by decide +kernel
theorem d_PS_next_54 : decode prog_1_method_17_code 54 = .ok (.iconst (1), 1) := by decide +kernel
theorem d_PS_next_55 : decode prog_1_method_17_code 55 = .ok (.iadd, 1) := by decide +kernel
theorem d_PS_next_56 : decode prog_1_method_17_code 56 = .ok (.istore 4, 2) := by decide +kernel
theorem d_PS_next_58 : decode prog_1_method_17_code 58 = .ok (.aload_n 0, 1) := by decide +kernel
theorem d_PS_next_59 : decode prog_1_method_17_code 59 = .ok (.aload_n 0, 1) := by decide +kernel
theorem d_PS_next_60 : decode prog_1_method_17_code 60 = .ok (.getfield 44, 3) := by decide +kernel
theorem d_PS_next_63 : decode prog_1_method_17_code 63 = .ok (.iload_n 1, 1) := by decide +kernel
theorem d_PS_next_64 : decode prog_1_method_17_code 64 = .ok (.iload 4, 2) := by decide +kernel
theorem d_PS_next_66 : decode prog_1_method_17_code 66 = .ok (.aload_n 0, 1) := by decide +kernel
theorem d_PS_next_67 : decode prog_1_method_17_code 67 = .ok (.getfield 9, 3) := by decide +kernel
theorem d_PS_next_70 : decode prog_1_method_17_code 70 = .ok (.iconst (4), 1) := by decide +kernel
theorem d_PS_next_71 : decode prog_1_method_17_code 71 = .ok (.iaload, 1) := by decide +kernel
theorem d_PS_next_72 : decode prog_1_method_17_code 72 = .ok (.invokevirtual 132, 3) := by decide +kernel
theorem d_PS_next_75 : decode prog_1_method_17_code 75 = .ok (.invokevirtual 135, 3) := by decide +kernel
theorem d_PS_next_78 : decode prog_1_method_17_code 78 = .ok (.ireturn, 1) := by decide +kernel
theorem d_PS_moveCursor_0 : decode prog_1_method_32_code 0 = .ok (.iload_n 1, 1) := by decide +kernel
theorem d_PS_moveCursor_1 : decode prog_1_method_32_code 1 = .ok (.iconst (-1), 1) := by decide +kernel
theorem d_PS_moveCursor_2 : decode prog_1_method_32_code 2 = .ok (.if_icmp .ne (15), 3) := by decide +kernel
theorem d_PS_moveCursor_5 : decode prog_1_method_32_code 5 = .ok (.aload_n 0, 1) := by decide +kernel
theorem d_PS_moveCursor_6 : decode prog_1_method_32_code 6 = .ok (.iconst (0), 1) := by decide +kernel
theorem d_PS_moveCursor_7 : decode prog_1_method_32_code 7 = .ok (.putfield 138, 3) := by decide +kernel
theorem d_PS_moveCursor_10 : decode prog_1_method_32_code 10 = .ok (.aload_n 0, 1) := by decide +kernel
theorem d_PS_moveCursor_11 : decode prog_1_method_32_code 11 = .ok (.iconst (0), 1) := by decide +kernel
theorem d_PS_moveCursor_12 : decode prog_1_method_32_code 12 = .ok (.putfield 142, 3) := by decide +kernel
theorem d_PS_moveCursor_15 : decode prog_1_method_32_code 15 = .ok (.iconst (0), 1) := by decide +kernel
theorem d_PS_moveCursor_16 : decode prog_1_method_32_code 16 = .ok (.ireturn, 1) := by decide +kernel
theorem d_PS_moveCursor_17 : decode prog_1_method_32_code 17 = .ok (.aload_n 0, 1) := by decide +kernel
theorem d_PS_moveCursor_18 : decode prog_1_method_32_code 18 = .ok (.aload_n 0, 1) := by decide +kernel
theorem d_PS_moveCursor_19 : decode prog_1_method_32_code 19 = .ok (.getfield 44, 3) := by decide +kernel
theorem d_PS_moveCursor_22 : decode prog_1_method_32_code 22 = .ok (.getfield 161, 3) := by decide +kernel
theorem d_PS_moveCursor_25 : decode prog_1_method_32_code 25 = .ok (.iload_n 1, 1) := by decide +kernel
theorem d_PS_moveCursor_26 : decode prog_1_method_32_code 26 = .ok (.invokevirtual 75, 3) := by decide +kernel
theorem d_PS_moveCursor_29 : decode prog_1_method_32_code 29 = .ok (.putfield 138, 3) := by decide +kernel
theorem d_PS_moveCursor_32 : decode prog_1_method_32_code 32 = .ok (.aload_n 0, 1) := by decide +kernel
theorem d_PS_moveCursor_33 : decode prog_1_method_32_code 33 = .ok (.aload_n 0, 1) := by decide +kernel
theorem d_PS_moveCursor_34 : decode prog_1_method_32_code 34 = .ok (.getfield 44, 3) := by decide +kernel
theorem d_PS_moveCursor_37 : decode prog_1_method_32_code 37 = .ok (.getfield 162, 3) := by decide +kernel
theorem d_PS_moveCursor_40 : decode prog_1_method_32_code 40 = .ok (.iload_n 1, 1) := by decide +kernel
theorem d_PS_moveCursor_41 : decode prog_1_method_32_code 41 = .ok (.invokevirtual 75, 3) := by decide +kernel
theorem d_PS_moveCursor_44 : decode prog_1_method_32_code 44 = .ok (.putfield 142, 3) := by decide +kernel
theorem d_PS_moveCursor_47 : decode prog_1_method_32_code 47 = .ok (.iconst (1), 1) := by decide +kernel
theorem d_PS_moveCursor_48 : decode prog_1_method_32_code 48 = .ok (.ireturn, 1) := by decide +kernel
theorem d_PS_cursorKind_0 : decode prog_1_method_18_code 0 = .ok (.aload_n 0, 1) := by decide +kernel
theorem d_PS_cursorKind_1 : decode prog_1_method_18_code 1 = .ok (.getfield 138, 3) := by decide +kernel
theorem d_PS_cursorKind_4 : decode prog_1_method_18_code 4 = .ok (.ireturn, 1) := by decide +kernel
theorem d_PS_cursorNumber_0 : decode prog_1_method_19_code 0 = .ok (.aload_n 0, 1) := by decide +kernel
theorem d_PS_cursorNumber_1 : decode prog_1_method_19_code 1 = .ok (.getfield 142, 3) := by decide +kernel
theorem d_PS_cursorNumber_4 : decode prog_1_method_19_code 4 = .ok (.ireturn, 1) := by decide +kernel
theorem d_PS_save_0 : decode prog_1_method_20_code 0 = .ok (.aload_n 0, 1) := by decide +kernel
theorem d_PS_save_1 : decode prog_1_method_20_code 1 = .ok (.getfield 145, 3) := by decide +kernel
theorem d_PS_save_4 : decode prog_1_method_20_code 4 = .ok (.bipush (15), 2) := by decide +kernel
theorem d_PS_save_6 : decode prog_1_method_20_code 6 = .ok (.if_icmp .lt (6), 3) := by decide +kernel
theorem d_PS_save_9 : decode prog_1_method_20_code 9 = .ok (.bipush (-3), 2) := by decide +kernel
theorem d_PS_save_11 : decode prog_1_method_20_code 11 = .ok (.ireturn, 1) := by decide +kernel
theorem d_PS_save_12 : decode prog_1_method_20_code 12 = .ok (.iconst (0), 1) := by decide +kernel
theorem d_PS_save_13 : decode prog_1_method_20_code 13 = .ok (.istore_n 1, 1) := by decide +kernel
theorem d_PS_save_14 : decode prog_1_method_20_code 14 = .ok (.iload_n 1, 1) := by decide +kernel
theorem d_PS_save_15 : decode prog_1_method_20_code 15 = .ok (.bipush (6), 2) := by decide +kernel
theorem d_PS_save_17 : decode prog_1_method_20_code 17 = .ok (.if_icmp .ge (31), 3) := by decide +kernel
theorem d_PS_save_20 : decode prog_1_method_20_code 20 = .ok (.aload_n 0, 1) := by decide +kernel
theorem d_PS_save_21 : decode prog_1_method_20_code 21 = .ok (.getfield 18, 3) := by decide +kernel
theorem d_PS_save_24 : decode prog_1_method_20_code 24 = .ok (.aload_n 0, 1) := by decide +kernel
theorem d_PS_save_25 : decode prog_1_method_20_code 25 = .ok (.getfield 145, 3) := by decide +kernel
theorem d_PS_save_28 : decode prog_1_method_20_code 28 = .ok (.bipush (6), 2) := by decide +kernel
theorem d_PS_save_30 : decode prog_1_method_20_code 30 = .ok (.imul, 1) := by decide +kernel
theorem d_PS_save_31 : decode prog_1_method_20_code 31 = .ok (.iload_n 1, 1) := by decide +kernel
theorem d_PS_save_32 : decode prog_1_method_20_code 32 = .ok (.iadd, 1) := by decide +kernel
theorem d_PS_save_33 : decode prog_1_method_20_code 33 = .ok (.aload_n 0, 1) := by decide +kernel
theorem d_PS_save_34 : decode prog_1_method_20_code 34 = .ok (.getfield 9, 3) := by decide +kernel
theorem d_PS_save_37 : decode prog_1_method_20_code 37 = .ok (.iload_n 1, 1) := by decide +kernel
theorem d_PS_save_38 : decode prog_1_method_20_code 38 = .ok (.iaload, 1) := by decide +kernel
theorem d_PS_save_39 : decode prog_1_method_20_code 39 = .ok (.invokevirtual 105, 3) := by decide +kernel
theorem d_PS_save_42 : decode prog_1_method_20_code 42 = .ok (.iinc 1 (1), 3) := by decide +kernel
theorem d_PS_save_45 : decode prog_1_method_20_code 45 = .ok (.goto (-31), 3) := by decide +kernel
theorem d_PS_save_48 : decode prog_1_method_20_code 48 = .ok (.aload_n 0, 1) := by decide +kernel
theorem d_PS_save_49 : decode prog_1_method_20_code 49 = .ok (.dup, 1) := by decide +kernel
theorem d_PS_save_50 : decode prog_1_method_20_code 50 = .ok (.getfield 145, 3) := by decide +kernel
theorem d_PS_save_53 : decode prog_1_method_20_code 53 = .ok (.iconst (1), 1) := by decide +kernel
theorem d_PS_save_54 : decode prog_1_method_20_code 54 = .ok (.iadd, 1) := by decide +kernel
theorem d_PS_save_55 : decode prog_1_method_20_code 55 = .ok (.putfield 145, 3) := by decide +kernel
theorem d_PS_save_58 : decode prog_1_method_20_code 58 = .ok (.aload_n 0, 1) := by decide +kernel
theorem d_PS_save_59 : decode prog_1_method_20_code 59 = .ok (.getfield 145, 3) := by decide +kernel
theorem d_PS_save_62 : decode prog_1_method_20_code 62 = .ok (.ireturn, 1) := by decide +kernel
theorem d_PS_restore_0 : decode prog_1_method_21_code 0 = .ok (.aload_n 0, 1) := by decide +kernel
theorem d_PS_restore_1 : decode prog_1_method_21_code 1 = .ok (.iload_n 1, 1) := by decide +kernel
theorem d_PS_restore_2 : decode prog_1_method_21_code 2 = .ok (.invokevirtual 148, 3) := by decide +kernel
theorem d_PS_restore_5 : decode prog_1_method_21_code 5 = .ok (.ifCond .ne (5), 3) := by decide +kernel
theorem d_PS_restore_8 : decode prog_1_method_21_code 8 = .ok (.iconst (-1), 1) := by decide +kernel
theorem d_PS_restore_9 : decode prog_1_method_21_code 9 = .ok (.ireturn, 1) := by decide +kernel
theorem d_PS_restore_10 : decode prog_1_method_21_code 10 = .ok (.aload_n 0, 1) := by decide +kernel
theorem d_PS_restore_11 : decode prog_1_method_21_code 11 = .ok (.aload_n 0, 1) := by decide +kernel
theorem d_PS_restore_12 : decode prog_1_method_21_code 12 = .ok (.iload_n 1, 1) := by decide +kernel
theorem d_PS_restore_13 : decode prog_1_method_21_code 13 = .ok (.iconst (5), 1) := by decide +kernel
theorem d_PS_restore_14 : decode prog_1_method_21_code 14 = .ok (.invokevirtual 151, 3) := by decide +kernel
theorem d_PS_restore_17 : decode prog_1_method_21_code 17 = .ok (.invokevirtual 154, 3) := by decide +kernel
theorem d_PS_restore_20 : decode prog_1_method_21_code 20 = .ok (.iconst (0), 1) := by decide +kernel
theorem d_PS_restore_21 : decode prog_1_method_21_code 21 = .ok (.istore_n 2, 1) := by decide +kernel
theorem d_PS_restore_22 : decode prog_1_method_21_code 22 = .ok (.iload_n 2, 1) := by decide +kernel
theorem d_PS_restore_23 : decode prog_1_method_21_code 23 = .ok (.bipush (6), 2) := by decide +kernel
theorem d_PS_restore_25 : decode prog_1_method_21_code 25 = .ok (.if_icmp .ge (21), 3) := by decide +kernel
theorem d_PS_restore_28 : decode prog_1_method_21_code 28 = .ok (.aload_n 0, 1) := by decide +kernel
theorem d_PS_restore_29 : decode prog_1_method_21_code 29 = .ok (.getfield 9, 3) := by decide +kernel
theorem d_PS_restore_32 : decode prog_1_method_21_code 32 = .ok (.iload_n 2, 1) := by decide +kernel
theorem d_PS_restore_33 : decode prog_1_method_21_code 33 = .ok (.aload_n 0, 1) := by decide +kernel
theorem d_PS_restore_34 : decode prog_1_method_21_code 34 = .ok (.iload_n 1, 1) := by decide +kernel
theorem d_PS_restore_35 : decode prog_1_method_21_code 35 = .ok (.iload_n 2, 1) := by decide +kernel
theorem d_PS_restore_36 : decode prog_1_method_21_code 36 = .ok (.invokevirtual 151, 3) := by decide +kernel
theorem d_PS_restore_39 : decode prog_1_method_21_code 39 = .ok (.iastore, 1) := by decide +kernel
theorem d_PS_restore_40 : decode prog_1_method_21_code 40 = .ok (.iinc 2 (1), 3) := by decide +kernel
theorem d_PS_restore_43 : decode prog_1_method_21_code 43 = .ok (.goto (-21), 3) := by decide +kernel
theorem d_PS_restore_46 : decode prog_1_method_21_code 46 = .ok (.aload_n 0, 1) := by decide +kernel
theorem d_PS_restore_47 : decode prog_1_method_21_code 47 = .ok (.iload_n 1, 1) := by decide +kernel
theorem d_PS_restore_48 : decode prog_1_method_21_code 48 = .ok (.iconst (1), 1) := by decide +kernel
theorem d_PS_restore_49 : decode prog_1_method_21_code 49 = .ok (.isub, 1) := by decide +kernel
theorem d_PS_restore_50 : decode prog_1_method_21_code 50 = .ok (.putfield 145, 3) := by decide +kernel
theorem d_PS_restore_53 : decode prog_1_method_21_code 53 = .ok (.aload_n 0, 1) := by decide +kernel
theorem d_PS_restore_54 : decode prog_1_method_21_code 54 = .ok (.getfield 145, 3) := by decide +kernel
theorem d_PS_restore_57 : decode prog_1_method_21_code 57 = .ok (.ireturn, 1) := by decide +kernel
theorem d_PS_isSave_0 : decode prog_1_method_27_code 0 = .ok (.iload_n 1, 1) := by decide +kernel
theorem d_PS_isSave_1 : decode prog_1_method_27_code 1 = .ok (.iconst (1), 1) := by decide +kernel
theorem d_PS_isSave_2 : decode prog_1_method_27_code 2 = .ok (.if_icmp .lt (15), 3) := by decide +kernel
theorem d_PS_isSave_5 : decode prog_1_method_27_code 5 = .ok (.iload_n 1, 1) := by decide +kernel
theorem d_PS_isSave_6 : decode prog_1_method_27_code 6 = .ok (.aload_n 0, 1) := by decide +kernel
theorem d_PS_isSave_7 : decode prog_1_method_27_code 7 = .ok (.getfield 145, 3) := by decide +kernel
theorem d_PS_isSave_10 : decode prog_1_method_27_code 10 = .ok (.if_icmp .gt (7), 3) := by decide +kernel
theorem d_PS_isSave_13 : decode prog_1_method_27_code 13 = .ok (.iconst (1), 1) := by decide +kernel
theorem d_PS_isSave_14 : decode prog_1_method_27_code 14 = .ok (.goto (4), 3) := by decide +kernel
theorem d_PS_isSave_17 : decode prog_1_method_27_code 17 = .ok (.iconst (0), 1) := by decide +kernel
theorem d_PS_isSave_18 : decode prog_1_method_27_code 18 = .ok (.ireturn, 1) := by decide +kernel
theorem d_PS_putBack_0 : decode prog_1_method_36_code 0 = .ok (.aload_n 0, 1) := by decide +kernel
theorem d_PS_putBack_1 : decode prog_1_method_36_code 1 = .ok (.getfield 9, 3) := by decide +kernel
theorem d_PS_putBack_4 : decode prog_1_method_36_code 4 = .ok (.iconst (5), 1) := by decide +kernel
theorem d_PS_putBack_5 : decode prog_1_method_36_code 5 = .ok (.iaload, 1) := by decide +kernel
theorem d_PS_putBack_6 : decode prog_1_method_36_code 6 = .ok (.iconst (1), 1) := by decide +kernel
theorem d_PS_putBack_7 : decode prog_1_method_36_code 7 = .ok (.isub, 1) := by decide +kernel
theorem d_PS_putBack_8 : decode prog_1_method_36_code 8 = .ok (.istore_n 2, 1) := by decide +kernel
theorem d_PS_putBack_9 : decode prog_1_method_36_code 9 = .ok (.iload_n 2, 1) := by decide +kernel
theorem d_PS_putBack_10 : decode prog_1_method_36_code 10 = .ok (.iload_n 1, 1) := by decide +kernel
theorem d_PS_putBack_11 : decode prog_1_method_36_code 11 = .ok (.if_icmp .lt (68), 3) := by decide +kernel
theorem d_PS_putBack_14 : decode prog_1_method_36_code 14 = .ok (.aload_n 0, 1) := by decide +kernel
theorem d_PS_putBack_15 : decode prog_1_method_36_code 15 = .ok (.aload_n 0, 1) := by decide +kernel
theorem d_PS_putBack_16 : decode prog_1_method_36_code 16 = .ok (.getfield 51, 3) := by decide +kernel
theorem d_PS_putBack_19 : decode prog_1_method_36_code 19 = .ok (.getfield 178, 3) := by decide +kernel
theorem d_PS_putBack_22 : decode prog_1_method_36_code 22 = .ok (.iload_n 2, 1) := by decide +kernel
theorem d_PS_putBack_23 : decode prog_1_method_36_code 23 = .ok (.invokevirtual 75, 3) := by decide +kernel
theorem d_PS_putBack_26 : decode prog_1_method_36_code 26 = .ok (.invokevirtual 167, 3) := by decide +kernel
theorem d_PS_putBack_29 : decode prog_1_method_36_code 29 = .ok (.astore_n 3, 1) := by decide +kernel
theorem d_PS_putBack_30 : decode prog_1_method_36_code 30 = .ok (.aload_n 3, 1) := by decide +kernel
theorem d_PS_putBack_31 : decode prog_1_method_36_code 31 = .ok (.aload_n 0, 1) := by decide +kernel
theorem d_PS_putBack_32 : decode prog_1_method_36_code 32 = .ok (.getfield 51, 3) := by decide +kernel
theorem d_PS_putBack_35 : decode prog_1_method_36_code 35 = .ok (.getfield 181, 3) := by decide +kernel
theorem d_PS_putBack_38 : decode prog_1_method_36_code 38 = .ok (.iload_n 2, 1) := by decide +kernel
theorem d_PS_putBack_39 : decode prog_1_method_36_code 39 = .ok (.invokevirtual 75, 3) := by decide +kernel
theorem d_PS_putBack_42 : decode prog_1_method_36_code 42 = .ok (.aload_n 0, 1) := by decide +kernel
theorem d_PS_putBack_43 : decode prog_1_method_36_code 43 = .ok (.getfield 51, 3) := by decide +kernel
theorem d_PS_putBack_46 : decode prog_1_method_36_code 46 = .ok (.getfield 184, 3) := by decide +kernel
theorem d_PS_putBack_49 : decode prog_1_method_36_code 49 = .ok (.getfield 99, 3) := by decide +kernel
theorem d_PS_putBack_52 : decode prog_1_method_36_code 52 = .ok (.iload_n 2, 1) := by decide +kernel
theorem d_PS_putBack_53 : decode prog_1_method_36_code 53 = .ok (.invokevirtual 75, 3) := by decide +kernel
theorem d_PS_putBack_56 : decode prog_1_method_36_code 56 = .ok (.aload_n 0, 1) := by decide +kernel
theorem d_PS_putBack_57 : decode prog_1_method_36_code 57 = .ok (.getfield 51, 3) := by decide +kernel
theorem d_PS_putBack_60 : decode prog_1_method_36_code 60 = .ok (.getfield 184, 3) := by decide +kernel
theorem d_PS_putBack_63 : decode prog_1_method_36_code 63 = .ok (.getfield 102, 3) := by decide +kernel
theorem d_PS_putBack_66 : decode prog_1_method_36_code 66 = .ok (.iload_n 2, 1) := by decide +kernel
theorem d_PS_putBack_67 : decode prog_1_method_36_code 67 = .ok (.invokevirtual 75, 3) := by decide +kernel
theorem d_PS_putBack_70 : decode prog_1_method_36_code 70 = .ok (.invokevirtual 95, 3) := by decide +kernel
theorem d_PS_putBack_73 : decode prog_1_method_36_code 73 = .ok (.iinc 2 (-1), 3) := by decide +kernel
theorem d_PS_putBack_76 : decode prog_1_method_36_code 76 = .ok (.goto (-67), 3) := by decide +kernel
theorem d_PS_putBack_79 : decode prog_1_method_36_code 79 = .ok (.return_, 1) := by decide +kernel
theorem d_PS_noted_0 : decode prog_1_method_22_code 0 = .ok (.iload_n 2, 1) := by decide +kernel
theorem d_PS_noted_1 : decode prog_1_method_22_code 1 = .ok (.ifCond .lt (9), 3) := by decide +kernel
theorem d_PS_noted_4 : decode prog_1_method_22_code 4 = .ok (.iload_n 2, 1) := by decide +kernel
theorem d_PS_noted_5 : decode prog_1_method_22_code 5 = .ok (.bipush (6), 2) := by decide +kernel
theorem d_PS_noted_7 : decode prog_1_method_22_code 7 = .ok (.if_icmp .lt (5), 3) := by decide +kernel
theorem d_PS_noted_10 : decode prog_1_method_22_code 10 = .ok (.iconst (-1), 1) := by decide +kernel
theorem d_PS_noted_11 : decode prog_1_method_22_code 11 = .ok (.ireturn, 1) := by decide +kernel
theorem d_PS_noted_12 : decode prog_1_method_22_code 12 = .ok (.iload_n 1, 1) := by decide +kernel
theorem d_PS_noted_13 : decode prog_1_method_22_code 13 = .ok (.ifCond .ne (10), 3) := by decide +kernel
theorem d_PS_noted_16 : decode prog_1_method_22_code 16 = .ok (.aload_n 0, 1) := by decide +kernel
theorem d_PS_noted_17 : decode prog_1_method_22_code 17 = .ok (.getfield 9, 3) := by decide +kernel
theorem d_PS_noted_20 : decode prog_1_method_22_code 20 = .ok (.iload_n 2, 1) := by decide +kernel
theorem d_PS_noted_21 : decode prog_1_method_22_code 21 = .ok (.iaload, 1) := by decide +kernel
theorem d_PS_noted_22 : decode prog_1_method_22_code 22 = .ok (.ireturn, 1) := by decide +kernel
theorem d_PS_noted_23 : decode prog_1_method_22_code 23 = .ok (.aload_n 0, 1) := by decide +kernel
theorem d_PS_noted_24 : decode prog_1_method_22_code 24 = .ok (.iload_n 1, 1) := by decide +kernel
theorem d_PS_noted_25 : decode prog_1_method_22_code 25 = .ok (.invokevirtual 148, 3) := by decide +kernel
theorem d_PS_noted_28 : decode prog_1_method_22_code 28 = .ok (.ifCond .eq (17), 3) := by decide +kernel
theorem d_PS_noted_31 : decode prog_1_method_22_code 31 = .ok (.iload_n 2, 1) := by decide +kernel
theorem d_PS_noted_32 : decode prog_1_method_22_code 32 = .ok (.iconst (5), 1) := by decide +kernel
theorem d_PS_noted_33 : decode prog_1_method_22_code 33 = .ok (.if_icmp .eq (12), 3) := by decide +kernel
theorem d_PS_noted_36 : decode prog_1_method_22_code 36 = .ok (.aload_n 0, 1) := by decide +kernel
theorem d_PS_noted_37 : decode prog_1_method_22_code 37 = .ok (.iload_n 1, 1) := by decide +kernel
theorem d_PS_noted_38 : decode prog_1_method_22_code 38 = .ok (.iload_n 2, 1) := by decide +kernel
theorem d_PS_noted_39 : decode prog_1_method_22_code 39 = .ok (.invokevirtual 151, 3) := by decide +kernel
theorem d_PS_noted_42 : decode prog_1_method_22_code 42 = .ok (.goto (4), 3) := by decide +kernel
theorem d_PS_noted_45 : decode prog_1_method_22_code 45 = .ok (.iconst (-1), 1) := by decide +kernel
theorem d_PS_noted_46 : decode prog_1_method_22_code 46 = .ok (.ireturn, 1) := by decide +kernel
