theorem d_Mod_init_0 : decode prog_8_method_1_code 0 = .ok (.aload_n 0, 1) := by decide +kernel
theorem d_Mod_init_1 : decode prog_8_method_1_code 1 = .ok (.invokespecial 1, 3) := by decide +kernel
theorem d_Mod_init_4 : decode prog_8_method_1_code 4 = .ok (.aload_n 0, 1) := by decide +kernel
theorem d_Mod_init_5 : decode prog_8_method_1_code 5 = .ok (.sipush (16385), 3) := by decide +kernel
theorem d_Mod_init_8 : decode prog_8_method_1_code 8 = .ok (.newarray .byte, 2) := by decide +kernel
theorem d_Mod_init_10 : decode prog_8_method_1_code 10 = .ok (.putfield 7, 3) := by decide +kernel
theorem d_Mod_init_13 : decode prog_8_method_1_code 13 = .ok (.aload_n 0, 1) := by decide +kernel
theorem d_Mod_init_14 : decode prog_8_method_1_code 14 = .ok (.sipush (16385), 3) := by decide +kernel
theorem d_Mod_init_17 : decode prog_8_method_1_code 17 = .ok (.newarray .int, 2) := by decide +kernel
theorem d_Mod_init_19 : decode prog_8_method_1_code 19 = .ok (.putfield 13, 3) := by decide +kernel
theorem d_Mod_init_22 : decode prog_8_method_1_code 22 = .ok (.aload_n 0, 1) := by decide +kernel
theorem d_Mod_init_23 : decode prog_8_method_1_code 23 = .ok (.sipush (16385), 3) := by decide +kernel
theorem d_Mod_init_26 : decode prog_8_method_1_code 26 = .ok (.newarray .int, 2) := by decide +kernel
theorem d_Mod_init_28 : decode prog_8_method_1_code 28 = .ok (.putfield 17, 3) := by decide +kernel
theorem d_Mod_init_31 : decode prog_8_method_1_code 31 = .ok (.aload_n 0, 1) := by decide +kernel
theorem d_Mod_init_32 : decode prog_8_method_1_code 32 = .ok (.ldc 20, 2) := by decide +kernel
theorem d_Mod_init_34 : decode prog_8_method_1_code 34 = .ok (.newarray .byte, 2) := by decide +kernel
theorem d_Mod_init_36 : decode prog_8_method_1_code 36 = .ok (.putfield 21, 3) := by decide +kernel
theorem d_Mod_init_39 : decode prog_8_method_1_code 39 = .ok (.aload_n 0, 1) := by decide +kernel
theorem d_Mod_init_40 : decode prog_8_method_1_code 40 = .ok (.ldc 20, 2) := by decide +kernel
theorem d_Mod_init_42 : decode prog_8_method_1_code 42 = .ok (.newarray .int, 2) := by decide +kernel
theorem d_Mod_init_44 : decode prog_8_method_1_code 44 = .ok (.putfield 24, 3) := by decide +kernel
theorem d_Mod_init_47 : decode prog_8_method_1_code 47 = .ok (.aload_n 0, 1) := by decide +kernel
theorem d_Mod_init_48 : decode prog_8_method_1_code 48 = .ok (.ldc 27, 2) := by decide +kernel
theorem d_Mod_init_50 : decode prog_8_method_1_code 50 = .ok (.newarray .byte, 2) := by decide +kernel
theorem d_Mod_init_52 : decode prog_8_method_1_code 52 = .ok (.putfield 28, 3) := by decide +kernel
theorem d_Mod_init_55 : decode prog_8_method_1_code 55 = .ok (.aload_n 0, 1) := by decide +kernel
theorem d_Mod_init_56 : decode prog_8_method_1_code 56 = .ok (.sipush (16384), 3) := by decide +kernel
theorem d_Mod_init_59 : decode prog_8_method_1_code 59 = .ok (.newarray .short, 2) := by decide +kernel
theorem d_Mod_init_61 : decode prog_8_method_1_code 61 = .ok (.putfield 31, 3) := by decide +kernel
theorem d_Mod_init_64 : decode prog_8_method_1_code 64 = .ok (.aload_n 0, 1) := by decide +kernel
theorem d_Mod_init_65 : decode prog_8_method_1_code 65 = .ok (.sipush (16384), 3) := by decide +kernel
theorem d_Mod_init_68 : decode prog_8_method_1_code 68 = .ok (.newarray .byte, 2) := by decide +kernel
theorem d_Mod_init_70 : decode prog_8_method_1_code 70 = .ok (.putfield 35, 3) := by decide +kernel
theorem d_Mod_init_73 : decode prog_8_method_1_code 73 = .ok (.aload_n 0, 1) := by decide +kernel
theorem d_Mod_init_74 : decode prog_8_method_1_code 74 = .ok (.sipush (16384), 3) := by decide +kernel
theorem d_Mod_init_77 : decode prog_8_method_1_code 77 = .ok (.newarray .int, 2) := by decide +kernel
theorem d_Mod_init_79 : decode prog_8_method_1_code 79 = .ok (.putfield 38, 3) := by decide +kernel
theorem d_Mod_init_82 : decode prog_8_method_1_code 82 = .ok (.aload_n 0, 1) := by decide +kernel
theorem d_Mod_init_83 : decode prog_8_method_1_code 83 = .ok (.sipush (16384), 3) := by decide +kernel
theorem d_Mod_init_86 : decode prog_8_method_1_code 86 = .ok (.newarray .byte, 2) := by decide +kernel
theorem d_Mod_init_88 : decode prog_8_method_1_code 88 = .ok (.putfield 41, 3) := by decide +kernel
theorem d_Mod_init_91 : decode prog_8_method_1_code 91 = .ok (.aload_n 0, 1) := by decide +kernel
theorem d_Mod_init_92 : decode prog_8_method_1_code 92 = .ok (.sipush (16384), 3) := by decide +kernel
theorem d_Mod_init_95 : decode prog_8_method_1_code 95 = .ok (.newarray .int, 2) := by decide +kernel
theorem d_Mod_init_97 : decode prog_8_method_1_code 97 = .ok (.putfield 44, 3) := by decide +kernel
theorem d_Mod_init_100 : decode prog_8_method_1_code 100 = .ok (.aload_n 0, 1) := by decide +kernel
theorem d_Mod_init_101 : decode prog_8_method_1_code 101 = .ok (.sipush (16384), 3) := by decide +kernel
theorem d_Mod_init_104 : decode prog_8_method_1_code 104 = .ok (.newarray .boolean, 2) := by decide +kernel
theorem d_Mod_init_106 : decode prog_8_method_1_code 106 = .ok (.putfield 47, 3) := by decide +kernel
theorem d_Mod_init_109 : decode prog_8_method_1_code 109 = .ok (.aload_n 0, 1) := by decide +kernel
theorem d_Mod_init_110 : decode prog_8_method_1_code 110 = .ok (.bipush (80), 2) := by decide +kernel
theorem d_Mod_init_112 : decode prog_8_method_1_code 112 = .ok (.newarray .int, 2) := by decide +kernel
theorem d_Mod_init_114 : decode prog_8_method_1_code 114 = .ok (.putfield 51, 3) := by decide +kernel
theorem d_Mod_init_117 : decode prog_8_method_1_code 117 = .ok (.aload_n 0, 1) := by decide +kernel
theorem d_Mod_init_118 : decode prog_8_method_1_code 118 = .ok (.bipush (17), 2) := by decide +kernel
theorem d_Mod_init_120 : decode prog_8_method_1_code 120 = .ok (.newarray .int, 2) := by decide +kernel
theorem d_Mod_init_122 : decode prog_8_method_1_code 122 = .ok (.putfield 54, 3) := by decide +kernel
theorem d_Mod_init_125 : decode prog_8_method_1_code 125 = .ok (.aload_n 0, 1) := by decide +kernel
theorem d_Mod_init_126 : decode prog_8_method_1_code 126 = .ok (.ldc 57, 2) := by decide +kernel
theorem d_Mod_init_128 : decode prog_8_method_1_code 128 = .ok (.newarray .int, 2) := by decide +kernel
theorem d_Mod_init_130 : decode prog_8_method_1_code 130 = .ok (.putfield 58, 3) := by decide +kernel
theorem d_Mod_init_133 : decode prog_8_method_1_code 133 = .ok (.aload_n 0, 1) := by decide +kernel
theorem d_Mod_init_134 : decode prog_8_method_1_code 134 = .ok (.ldc 57, 2) := by decide +kernel
theorem d_Mod_init_136 : decode prog_8_method_1_code 136 = .ok (.newarray .byte, 2) := by decide +kernel
theorem d_Mod_init_138 : decode prog_8_method_1_code 138 = .ok (.putfield 61, 3) := by decide +kernel
theorem d_Mod_init_141 : decode prog_8_method_1_code 141 = .ok (.aload_n 0, 1) := by decide +kernel
theorem d_Mod_init_142 : decode prog_8_method_1_code 142 = .ok (.ldc 57, 2) := by decide +kernel
theorem d_Mod_init_144 : decode prog_8_method_1_code 144 = .ok (.newarray .int, 2) := by decide +kernel
theorem d_Mod_init_146 : decode prog_8_method_1_code 146 = .ok (.putfield 64, 3) := by decide +kernel
theorem d_Mod_init_149 : decode prog_8_method_1_code 149 = .ok (.aload_n 0, 1) := by decide +kernel
theorem d_Mod_init_150 : decode prog_8_method_1_code 150 = .ok (.ldc 57, 2) := by decide +kernel
theorem d_Mod_init_152 : decode prog_8_method_1_code 152 = .ok (.newarray .boolean, 2) := by decide +kernel
theorem d_Mod_init_154 : decode prog_8_method_1_code 154 = .ok (.putfield 67, 3) := by decide +kernel
theorem d_Mod_init_157 : decode prog_8_method_1_code 157 = .ok (.return_, 1) := by decide +kernel
theorem d_Mod_values_0 : decode prog_8_method_3_code 0 = .ok (.iload_n 1, 1) := by decide +kernel
theorem d_Mod_values_1 : decode prog_8_method_3_code 1 = .ok (.ifCond .lt (9), 3) := by decide +kernel
theorem d_Mod_values_4 : decode prog_8_method_3_code 4 = .ok (.iload_n 1, 1) := by decide +kernel
theorem d_Mod_values_5 : decode prog_8_method_3_code 5 = .ok (.ldc 20, 2) := by decide +kernel
theorem d_Mod_values_7 : decode prog_8_method_3_code 7 = .ok (.if_icmp .le (5), 3) := by decide +kernel
theorem d_Mod_values_10 : decode prog_8_method_3_code 10 = .ok (.iconst (-1), 1) := by decide +kernel
theorem d_Mod_values_11 : decode prog_8_method_3_code 11 = .ok (.ireturn, 1) := by decide +kernel
theorem d_Mod_values_12 : decode prog_8_method_3_code 12 = .ok (.aload_n 0, 1) := by decide +kernel
theorem d_Mod_values_13 : decode prog_8_method_3_code 13 = .ok (.getfield 70, 3) := by decide +kernel
theorem d_Mod_values_16 : decode prog_8_method_3_code 16 = .ok (.sipush (16384), 3) := by decide +kernel
theorem d_Mod_values_19 : decode prog_8_method_3_code 19 = .ok (.if_icmp .eq (14), 3) := by decide +kernel
theorem d_Mod_values_22 : decode prog_8_method_3_code 22 = .ok (.aload_n 0, 1) := by decide +kernel
theorem d_Mod_values_23 : decode prog_8_method_3_code 23 = .ok (.getfield 74, 3) := by decide +kernel
theorem d_Mod_values_26 : decode prog_8_method_3_code 26 = .ok (.iload_n 1, 1) := by decide +kernel
theorem d_Mod_values_27 : decode prog_8_method_3_code 27 = .ok (.iadd, 1) := by decide +kernel
theorem d_Mod_values_28 : decode prog_8_method_3_code 28 = .ok (.ldc 20, 2) := by decide +kernel
theorem d_Mod_values_30 : decode prog_8_method_3_code 30 = .ok (.if_icmp .le (6), 3) := by decide +kernel
theorem d_Mod_values_33 : decode prog_8_method_3_code 33 = .ok (.bipush (-3), 2) := by decide +kernel
theorem d_Mod_values_35 : decode prog_8_method_3_code 35 = .ok (.ireturn, 1) := by decide +kernel
theorem d_Mod_values_36 : decode prog_8_method_3_code 36 = .ok (.iconst (0), 1) := by decide +kernel
theorem d_Mod_values_37 : decode prog_8_method_3_code 37 = .ok (.istore_n 2, 1) := by decide +kernel
theorem d_Mod_values_38 : decode prog_8_method_3_code 38 = .ok (.iload_n 2, 1) := by decide +kernel
theorem d_Mod_values_39 : decode prog_8_method_3_code 39 = .ok (.iload_n 1, 1) := by decide +kernel
theorem d_Mod_values_40 : decode prog_8_method_3_code 40 = .ok (.if_icmp .ge (33), 3) := by decide +kernel
theorem d_Mod_values_43 : decode prog_8_method_3_code 43 = .ok (.aload_n 0, 1) := by decide +kernel
theorem d_Mod_values_44 : decode prog_8_method_3_code 44 = .ok (.getfield 21, 3) := by decide +kernel
theorem d_Mod_values_47 : decode prog_8_method_3_code 47 = .ok (.aload_n 0, 1) := by decide +kernel
theorem d_Mod_values_48 : decode prog_8_method_3_code 48 = .ok (.getfield 74, 3) := by decide +kernel
theorem d_Mod_values_51 : decode prog_8_method_3_code 51 = .ok (.iload_n 2, 1) := by decide +kernel
theorem d_Mod_values_52 : decode prog_8_method_3_code 52 = .ok (.iadd, 1) := by decide +kernel
theorem d_Mod_values_53 : decode prog_8_method_3_code 53 = .ok (.iconst (0), 1) := by decide +kernel
theorem d_Mod_values_54 : decode prog_8_method_3_code 54 = .ok (.bastore, 1) := by decide +kernel
theorem d_Mod_values_55 : decode prog_8_method_3_code 55 = .ok (.aload_n 0, 1) := by decide +kernel
theorem d_Mod_values_56 : decode prog_8_method_3_code 56 = .ok (.getfield 24, 3) := by decide +kernel
theorem d_Mod_values_59 : decode prog_8_method_3_code 59 = .ok (.aload_n 0, 1) := by decide +kernel
theorem d_Mod_values_60 : decode prog_8_method_3_code 60 = .ok (.getfield 74, 3) := by decide +kernel
theorem d_Mod_values_63 : decode prog_8_method_3_code 63 = .ok (.iload_n 2, 1) := by decide +kernel
theorem d_Mod_values_64 : decode prog_8_method_3_code 64 = .ok (.iadd, 1) := by decide +kernel
theorem d_Mod_values_65 : decode prog_8_method_3_code 65 = .ok (.iconst (0), 1) := by decide +kernel
theorem d_Mod_values_66 : decode prog_8_method_3_code 66 = .ok (.iastore, 1) := by decide +kernel
theorem d_Mod_values_67 : decode prog_8_method_3_code 67 = .ok (.iinc 2 (1), 3) := by decide +kernel
theorem d_Mod_values_70 : decode prog_8_method_3_code 70 = .ok (.goto (-32), 3) := by decide +kernel
theorem d_Mod_values_73 : decode prog_8_method_3_code 73 = .ok (.aload_n 0, 1) := by decide +kernel
theorem d_Mod_values_74 : decode prog_8_method_3_code 74 = .ok (.dup, 1) := by decide +kernel
theorem d_Mod_values_75 : decode prog_8_method_3_code 75 = .ok (.getfield 74, 3) := by decide +kernel
theorem d_Mod_values_78 : decode prog_8_method_3_code 78 = .ok (.iload_n 1, 1) := by decide +kernel
theorem d_Mod_values_79 : decode prog_8_method_3_code 79 = .ok (.iadd, 1) := by decide +kernel
theorem d_Mod_values_80 : decode prog_8_method_3_code 80 = .ok (.putfield 74, 3) := by decide +kernel
theorem d_Mod_values_83 : decode prog_8_method_3_code 83 = .ok (.aload_n 0, 1) := by decide +kernel
theorem d_Mod_values_84 : decode prog_8_method_3_code 84 = .ok (.iconst (1), 1) := by decide +kernel
theorem d_Mod_values_85 : decode prog_8_method_3_code 85 = .ok (.aload_n 0, 1) := by decide +kernel
theorem d_Mod_values_86 : decode prog_8_method_3_code 86 = .ok (.getfield 74, 3) := by decide +kernel
theorem d_Mod_values_89 : decode prog_8_method_3_code 89 = .ok (.iload_n 1, 1) := by decide +kernel
theorem d_Mod_values_90 : decode prog_8_method_3_code 90 = .ok (.isub, 1) := by decide +kernel
theorem d_Mod_values_91 : decode prog_8_method_3_code 91 = .ok (.iload_n 1, 1) := by decide +kernel
theorem d_Mod_values_92 : decode prog_8_method_3_code 92 = .ok (.invokevirtual 77, 3) := by decide +kernel
theorem d_Mod_values_95 : decode prog_8_method_3_code 95 = .ok (.ireturn, 1) := by decide +kernel
theorem d_Mod_row_0 : decode prog_8_method_2_code 0 = .ok (.aload_n 0, 1) := by decide +kernel
theorem d_Mod_row_1 : decode prog_8_method_2_code 1 = .ok (.dup, 1) := by decide +kernel
theorem d_Mod_row_2 : decode prog_8_method_2_code 2 = .ok (.getfield 70, 3) := by decide +kernel
theorem d_Mod_row_5 : decode prog_8_method_2_code 5 = .ok (.iconst (1), 1) := by decide +kernel
theorem d_Mod_row_6 : decode prog_8_method_2_code 6 = .ok (.iadd, 1) := by decide +kernel
theorem d_Mod_row_7 : decode prog_8_method_2_code 7 = .ok (.putfield 70, 3) := by decide +kernel
theorem d_Mod_row_10 : decode prog_8_method_2_code 10 = .ok (.aload_n 0, 1) := by decide +kernel
theorem d_Mod_row_11 : decode prog_8_method_2_code 11 = .ok (.getfield 7, 3) := by decide +kernel
theorem d_Mod_row_14 : decode prog_8_method_2_code 14 = .ok (.aload_n 0, 1) := by decide +kernel
theorem d_Mod_row_15 : decode prog_8_method_2_code 15 = .ok (.getfield 70, 3) := by decide +kernel
theorem d_Mod_row_18 : decode prog_8_method_2_code 18 = .ok (.iload_n 1, 1) := by decide +kernel
theorem d_Mod_row_19 : decode prog_8_method_2_code 19 = .ok (.i2b, 1) := by decide +kernel
theorem d_Mod_row_20 : decode prog_8_method_2_code 20 = .ok (.bastore, 1) := by decide +kernel
theorem d_Mod_row_21 : decode prog_8_method_2_code 21 = .ok (.aload_n 0, 1) := by decide +kernel
theorem d_Mod_row_22 : decode prog_8_method_2_code 22 = .ok (.getfield 13, 3) := by decide +kernel
theorem d_Mod_row_25 : decode prog_8_method_2_code 25 = .ok (.aload_n 0, 1) := by decide +kernel
theorem d_Mod_row_26 : decode prog_8_method_2_code 26 = .ok (.getfield 70, 3) := by decide +kernel
theorem d_Mod_row_29 : decode prog_8_method_2_code 29 = .ok (.iload_n 2, 1) := by decide +kernel
theorem d_Mod_row_30 : decode prog_8_method_2_code 30 = .ok (.iastore, 1) := by decide +kernel
theorem d_Mod_row_31 : decode prog_8_method_2_code 31 = .ok (.aload_n 0, 1) := by decide +kernel
theorem d_Mod_row_32 : decode prog_8_method_2_code 32 = .ok (.getfield 17, 3) := by decide +kernel
theorem d_Mod_row_35 : decode prog_8_method_2_code 35 = .ok (.aload_n 0, 1) := by decide +kernel
theorem d_Mod_row_36 : decode prog_8_method_2_code 36 = .ok (.getfield 70, 3) := by decide +kernel
theorem d_Mod_row_39 : decode prog_8_method_2_code 39 = .ok (.iload_n 3, 1) := by decide +kernel
theorem d_Mod_row_40 : decode prog_8_method_2_code 40 = .ok (.iastore, 1) := by decide +kernel
theorem d_Mod_row_41 : decode prog_8_method_2_code 41 = .ok (.aload_n 0, 1) := by decide +kernel
theorem d_Mod_row_42 : decode prog_8_method_2_code 42 = .ok (.getfield 70, 3) := by decide +kernel
theorem d_Mod_row_45 : decode prog_8_method_2_code 45 = .ok (.ireturn, 1) := by decide +kernel
theorem d_Mod_bytes_0 : decode prog_8_method_4_code 0 = .ok (.iload_n 1, 1) := by decide +kernel
theorem d_Mod_bytes_1 : decode prog_8_method_4_code 1 = .ok (.ifCond .lt (9), 3) := by decide +kernel
theorem d_Mod_bytes_4 : decode prog_8_method_4_code 4 = .ok (.iload_n 1, 1) := by decide +kernel
theorem d_Mod_bytes_5 : decode prog_8_method_4_code 5 = .ok (.ldc 27, 2) := by decide +kernel
theorem d_Mod_bytes_7 : decode prog_8_method_4_code 7 = .ok (.if_icmp .le (5), 3) := by decide +kernel
theorem d_Mod_bytes_10 : decode prog_8_method_4_code 10 = .ok (.iconst (-1), 1) := by decide +kernel
theorem d_Mod_bytes_11 : decode prog_8_method_4_code 11 = .ok (.ireturn, 1) := by decide +kernel
theorem d_Mod_bytes_12 : decode prog_8_method_4_code 12 = .ok (.aload_n 0, 1) := by decide +kernel
theorem d_Mod_bytes_13 : decode prog_8_method_4_code 13 = .ok (.getfield 70, 3) := by decide +kernel
theorem d_Mod_bytes_16 : decode prog_8_method_4_code 16 = .ok (.sipush (16384), 3) := by decide +kernel
theorem d_Mod_bytes_19 : decode prog_8_method_4_code 19 = .ok (.if_icmp .eq (14), 3) := by decide +kernel
theorem d_Mod_bytes_22 : decode prog_8_method_4_code 22 = .ok (.aload_n 0, 1) := by decide +kernel
theorem d_Mod_bytes_23 : decode prog_8_method_4_code 23 = .ok (.getfield 81, 3) := by decide +kernel
theorem d_Mod_bytes_26 : decode prog_8_method_4_code 26 = .ok (.iload_n 1, 1) := by decide +kernel
theorem d_Mod_bytes_27 : decode prog_8_method_4_code 27 = .ok (.iadd, 1) := by decide +kernel
theorem d_Mod_bytes_28 : decode prog_8_method_4_code 28 = .ok (.ldc 27, 2) := by decide +kernel
theorem d_Mod_bytes_30 : decode prog_8_method_4_code 30 = .ok (.if_icmp .le (6), 3) := by decide +kernel
theorem d_Mod_bytes_33 : decode prog_8_method_4_code 33 = .ok (.bipush (-3), 2) := by decide +kernel
theorem d_Mod_bytes_35 : decode prog_8_method_4_code 35 = .ok (.ireturn, 1) := by decide +kernel
theorem d_Mod_bytes_36 : decode prog_8_method_4_code 36 = .ok (.iconst (0), 1) := by decide +kernel
theorem d_Mod_bytes_37 : decode prog_8_method_4_code 37 = .ok (.istore_n 2, 1) := by decide +kernel
theorem d_Mod_bytes_38 : decode prog_8_method_4_code 38 = .ok (.iload_n 2, 1) := by decide +kernel
theorem d_Mod_bytes_39 : decode prog_8_method_4_code 39 = .ok (.iload_n 1, 1) := by decide +kernel
theorem d_Mod_bytes_40 : decode prog_8_method_4_code 40 = .ok (.if_icmp .ge (21), 3) := by decide +kernel
theorem d_Mod_bytes_43 : decode prog_8_method_4_code 43 = .ok (.aload_n 0, 1) := by decide +kernel
theorem d_Mod_bytes_44 : decode prog_8_method_4_code 44 = .ok (.getfield 28, 3) := by decide +kernel
theorem d_Mod_bytes_47 : decode prog_8_method_4_code 47 = .ok (.aload_n 0, 1) := by decide +kernel
theorem d_Mod_bytes_48 : decode prog_8_method_4_code 48 = .ok (.getfield 81, 3) := by decide +kernel
theorem d_Mod_bytes_51 : decode prog_8_method_4_code 51 = .ok (.iload_n 2, 1) := by decide +kernel
theorem d_Mod_bytes_52 : decode prog_8_method_4_code 52 = .ok (.iadd, 1) := by decide +kernel
theorem d_Mod_bytes_53 : decode prog_8_method_4_code 53 = .ok (.iconst (0), 1) := by decide +kernel
theorem d_Mod_bytes_54 : decode prog_8_method_4_code 54 = .ok (.bastore, 1) := by decide +kernel
theorem d_Mod_bytes_55 : decode prog_8_method_4_code 55 = .ok (.iinc 2 (1), 3) := by decide +kernel
theorem d_Mod_bytes_58 : decode prog_8_method_4_code 58 = .ok (.goto (-20), 3) := by decide +kernel
theorem d_Mod_bytes_61 : decode prog_8_method_4_code 61 = .ok (.aload_n 0, 1) := by decide +kernel
theorem d_Mod_bytes_62 : decode prog_8_method_4_code 62 = .ok (.dup, 1) := by decide +kernel
theorem d_Mod_bytes_63 : decode prog_8_method_4_code 63 = .ok (.getfield 81, 3) := by decide +kernel
theorem d_Mod_bytes_66 : decode prog_8_method_4_code 66 = .ok (.iload_n 1, 1) := by decide +kernel
theorem d_Mod_bytes_67 : decode prog_8_method_4_code 67 = .ok (.iadd, 1) := by decide +kernel
theorem d_Mod_bytes_68 : decode prog_8_method_4_code 68 = .ok (.putfield 81, 3) := by decide +kernel
theorem d_Mod_bytes_71 : decode prog_8_method_4_code 71 = .ok (.aload_n 0, 1) := by decide +kernel
theorem d_Mod_bytes_72 : decode prog_8_method_4_code 72 = .ok (.iconst (2), 1) := by decide +kernel
theorem d_Mod_bytes_73 : decode prog_8_method_4_code 73 = .ok (.aload_n 0, 1) := by decide +kernel
theorem d_Mod_bytes_74 : decode prog_8_method_4_code 74 = .ok (.getfield 81, 3) := by decide +kernel
theorem d_Mod_bytes_77 : decode prog_8_method_4_code 77 = .ok (.iload_n 1, 1) := by decide +kernel
theorem d_Mod_bytes_78 : decode prog_8_method_4_code 78 = .ok (.isub, 1) := by decide +kernel
theorem d_Mod_bytes_79 : decode prog_8_method_4_code 79 = .ok (.iload_n 1, 1) := by decide +kernel
theorem d_Mod_bytes_80 : decode prog_8_method_4_code 80 = .ok (.invokevirtual 77, 3) := by decide +kernel
theorem d_Mod_bytes_83 : decode prog_8_method_4_code 83 = .ok (.ireturn, 1) := by decide +kernel
theorem d_Mod_part_0 : decode prog_8_method_6_code 0 = .ok (.aload_n 0, 1) := by decide +kernel
theorem d_Mod_part_1 : decode prog_8_method_6_code 1 = .ok (.iload_n 1, 1) := by decide +kernel
theorem d_Mod_part_2 : decode prog_8_method_6_code 2 = .ok (.invokevirtual 84, 3) := by decide +kernel
theorem d_Mod_part_5 : decode prog_8_method_6_code 5 = .ok (.ifCond .eq (33), 3) := by decide +kernel
theorem d_Mod_part_8 : decode prog_8_method_6_code 8 = .ok (.iload_n 2, 1) := by decide +kernel
theorem d_Mod_part_9 : decode prog_8_method_6_code 9 = .ok (.ifCond .lt (29), 3) := by decide +kernel
theorem d_Mod_part_12 : decode prog_8_method_6_code 12 = .ok (.iload_n 3, 1) := by decide +kernel
theorem d_Mod_part_13 : decode prog_8_method_6_code 13 = .ok (.ifCond .lt (25), 3) := by decide +kernel
theorem d_Mod_part_16 : decode prog_8_method_6_code 16 = .ok (.iload_n 2, 1) := by decide +kernel
theorem d_Mod_part_17 : decode prog_8_method_6_code 17 = .ok (.aload_n 0, 1) := by decide +kernel
theorem d_Mod_part_18 : decode prog_8_method_6_code 18 = .ok (.getfield 17, 3) := by decide +kernel
theorem d_Mod_part_21 : decode prog_8_method_6_code 21 = .ok (.iload_n 1, 1) := by decide +kernel
theorem d_Mod_part_22 : decode prog_8_method_6_code 22 = .ok (.iaload, 1) := by decide +kernel
theorem d_Mod_part_23 : decode prog_8_method_6_code 23 = .ok (.if_icmp .gt (15), 3) := by decide +kernel
theorem d_Mod_part_26 : decode prog_8_method_6_code 26 = .ok (.iload_n 3, 1) := by decide +kernel
theorem d_Mod_part_27 : decode prog_8_method_6_code 27 = .ok (.aload_n 0, 1) := by decide +kernel
theorem d_Mod_part_28 : decode prog_8_method_6_code 28 = .ok (.getfield 17, 3) := by decide +kernel
theorem d_Mod_part_31 : decode prog_8_method_6_code 31 = .ok (.iload_n 1, 1) := by decide +kernel
theorem d_Mod_part_32 : decode prog_8_method_6_code 32 = .ok (.iaload, 1) := by decide +kernel
theorem d_Mod_part_33 : decode prog_8_method_6_code 33 = .ok (.iload_n 2, 1) := by decide +kernel
theorem d_Mod_part_34 : decode prog_8_method_6_code 34 = .ok (.isub, 1) := by decide +kernel
theorem d_Mod_part_35 : decode prog_8_method_6_code 35 = .ok (.if_icmp .le (5), 3) := by decide +kernel
theorem d_Mod_part_38 : decode prog_8_method_6_code 38 = .ok (.iconst (-1), 1) := by decide +kernel
theorem d_Mod_part_39 : decode prog_8_method_6_code 39 = .ok (.ireturn, 1) := by decide +kernel
theorem d_Mod_part_40 : decode prog_8_method_6_code 40 = .ok (.aload_n 0, 1) := by decide +kernel
theorem d_Mod_part_41 : decode prog_8_method_6_code 41 = .ok (.getfield 70, 3) := by decide +kernel
theorem d_Mod_part_44 : decode prog_8_method_6_code 44 = .ok (.sipush (16384), 3) := by decide +kernel
theorem d_Mod_part_47 : decode prog_8_method_6_code 47 = .ok (.if_icmp .ne (8), 3) := by decide +kernel
theorem d_Mod_part_50 : decode prog_8_method_6_code 50 = .ok (.bipush (-3), 2) := by decide +kernel
theorem d_Mod_part_52 : decode prog_8_method_6_code 52 = .ok (.goto (22), 3) := by decide +kernel
theorem d_Mod_part_55 : decode prog_8_method_6_code 55 = .ok (.aload_n 0, 1) := by decide +kernel
theorem d_Mod_part_56 : decode prog_8_method_6_code 56 = .ok (.aload_n 0, 1) := by decide +kernel
theorem d_Mod_part_57 : decode prog_8_method_6_code 57 = .ok (.getfield 7, 3) := by decide +kernel
theorem d_Mod_part_60 : decode prog_8_method_6_code 60 = .ok (.iload_n 1, 1) := by decide +kernel
theorem d_Mod_part_61 : decode prog_8_method_6_code 61 = .ok (.baload, 1) := by decide +kernel
theorem d_Mod_part_62 : decode prog_8_method_6_code 62 = .ok (.aload_n 0, 1) := by decide +kernel
theorem d_Mod_part_63 : decode prog_8_method_6_code 63 = .ok (.getfield 13, 3) := by decide +kernel
theorem d_Mod_part_66 : decode prog_8_method_6_code 66 = .ok (.iload_n 1, 1) := by decide +kernel
theorem d_Mod_part_67 : decode prog_8_method_6_code 67 = .ok (.iaload, 1) := by decide +kernel
theorem d_Mod_part_68 : decode prog_8_method_6_code 68 = .ok (.iload_n 2, 1) := by decide +kernel
theorem d_Mod_part_69 : decode prog_8_method_6_code 69 = .ok (.iadd, 1) := by decide +kernel
theorem d_Mod_part_70 : decode prog_8_method_6_code 70 = .ok (.iload_n 3, 1) := by decide +kernel
theorem d_Mod_part_71 : decode prog_8_method_6_code 71 = .ok (.invokevirtual 77, 3) := by decide +kernel
theorem d_Mod_part_74 : decode prog_8_method_6_code 74 = .ok (.ireturn, 1) := by decide +kernel
theorem d_Mod_isRow_0 : decode prog_8_method_5_code 0 = .ok (.iload_n 1, 1) := by decide +kernel
theorem d_Mod_isRow_1 : decode prog_8_method_5_code 1 = .ok (.iconst (1), 1) := by decide +kernel
theorem d_Mod_isRow_2 : decode prog_8_method_5_code 2 = .ok (.if_icmp .lt (15), 3) := by decide +kernel
theorem d_Mod_isRow_5 : decode prog_8_method_5_code 5 = .ok (.iload_n 1, 1) := by decide +kernel
theorem d_Mod_isRow_6 : decode prog_8_method_5_code 6 = .ok (.aload_n 0, 1) := by decide +kernel
theorem d_Mod_isRow_7 : decode prog_8_method_5_code 7 = .ok (.getfield 70, 3) := by decide +kernel
theorem d_Mod_isRow_10 : decode prog_8_method_5_code 10 = .ok (.if_icmp .gt (7), 3) := by decide +kernel
theorem d_Mod_isRow_13 : decode prog_8_method_5_code 13 = .ok (.iconst (1), 1) := by decide +kernel
theorem d_Mod_isRow_14 : decode prog_8_method_5_code 14 = .ok (.goto (4), 3) := by decide +kernel
theorem d_Mod_isRow_17 : decode prog_8_method_5_code 17 = .ok (.iconst (0), 1) := by decide +kernel
theorem d_Mod_isRow_18 : decode prog_8_method_5_code 18 = .ok (.ireturn, 1) := by decide +kernel
theorem d_Mod_sort_0 : decode prog_8_method_7_code 0 = .ok (.aload_n 0, 1) := by decide +kernel
theorem d_Mod_sort_1 : decode prog_8_method_7_code 1 = .ok (.iload_n 1, 1) := by decide +kernel
theorem d_Mod_sort_2 : decode prog_8_method_7_code 2 = .ok (.invokevirtual 84, 3) := by decide +kernel
theorem d_Mod_sort_5 : decode prog_8_method_7_code 5 = .ok (.ifCond .eq (12), 3) := by decide +kernel
theorem d_Mod_sort_8 : decode prog_8_method_7_code 8 = .ok (.aload_n 0, 1) := by decide +kernel
theorem d_Mod_sort_9 : decode prog_8_method_7_code 9 = .ok (.getfield 7, 3) := by decide +kernel
theorem d_Mod_sort_12 : decode prog_8_method_7_code 12 = .ok (.iload_n 1, 1) := by decide +kernel
theorem d_Mod_sort_13 : decode prog_8_method_7_code 13 = .ok (.baload, 1) := by decide +kernel
theorem d_Mod_sort_14 : decode prog_8_method_7_code 14 = .ok (.goto (4), 3) := by decide +kernel
theorem d_Mod_sort_17 : decode prog_8_method_7_code 17 = .ok (.iconst (-1), 1) := by decide +kernel
theorem d_Mod_sort_18 : decode prog_8_method_7_code 18 = .ok (.ireturn, 1) := by decide +kernel
theorem d_Mod_length_0 : decode prog_8_method_8_code 0 = .ok (.aload_n 0, 1) := by decide +kernel
theorem d_Mod_length_1 : decode prog_8_method_8_code 1 = .ok (.iload_n 1, 1) := by decide +kernel
theorem d_Mod_length_2 : decode prog_8_method_8_code 2 = .ok (.invokevirtual 84, 3) := by decide +kernel
theorem d_Mod_length_5 : decode prog_8_method_8_code 5 = .ok (.ifCond .eq (12), 3) := by decide +kernel
theorem d_Mod_length_8 : decode prog_8_method_8_code 8 = .ok (.aload_n 0, 1) := by decide +kernel
theorem d_Mod_length_9 : decode prog_8_method_8_code 9 = .ok (.getfield 17, 3) := by decide +kernel
theorem d_Mod_length_12 : decode prog_8_method_8_code 12 = .ok (.iload_n 1, 1) := by decide +kernel
theorem d_Mod_length_13 : decode prog_8_method_8_code 13 = .ok (.iaload, 1) := by decide +kernel
theorem d_Mod_length_14 : decode prog_8_method_8_code 14 = .ok (.goto (4), 3) := by decide +kernel
theorem d_Mod_length_17 : decode prog_8_method_8_code 17 = .ok (.iconst (-1), 1) := by decide +kernel
theorem d_Mod_length_18 : decode prog_8_method_8_code 18 = .ok (.ireturn, 1) := by decide +kernel
theorem d_Mod_set_0 : decode prog_8_method_12_code 0 = .ok (.aload_n 0, 1) := by decide +kernel
theorem d_Mod_set_1 : decode prog_8_method_12_code 1 = .ok (.iload_n 1, 1) := by decide +kernel
theorem d_Mod_set_2 : decode prog_8_method_12_code 2 = .ok (.iload_n 2, 1) := by decide +kernel
theorem d_Mod_set_3 : decode prog_8_method_12_code 3 = .ok (.invokevirtual 97, 3) := by decide +kernel
theorem d_Mod_set_6 : decode prog_8_method_12_code 6 = .ok (.istore 5, 2) := by decide +kernel
theorem d_Mod_set_8 : decode prog_8_method_12_code 8 = .ok (.iload 5, 2) := by decide +kernel
theorem d_Mod_set_10 : decode prog_8_method_12_code 10 = .ok (.ifCond .lt (23), 3) := by decide +kernel
theorem d_Mod_set_13 : decode prog_8_method_12_code 13 = .ok (.aload_n 0, 1) := by decide +kernel
theorem d_Mod_set_14 : decode prog_8_method_12_code 14 = .ok (.getfield 7, 3) := by decide +kernel
theorem d_Mod_set_17 : decode prog_8_method_12_code 17 = .ok (.iload_n 1, 1) := by decide +kernel
theorem d_Mod_set_18 : decode prog_8_method_12_code 18 = .ok (.baload, 1) := by decide +kernel
theorem d_Mod_set_19 : decode prog_8_method_12_code 19 = .ok (.iconst (1), 1) := by decide +kernel
theorem d_Mod_set_20 : decode prog_8_method_12_code 20 = .ok (.if_icmp .ne (13), 3) := by decide +kernel
theorem d_Mod_set_23 : decode prog_8_method_12_code 23 = .ok (.iload_n 3, 1) := by decide +kernel
theorem d_Mod_set_24 : decode prog_8_method_12_code 24 = .ok (.ifCond .lt (9), 3) := by decide +kernel
theorem d_Mod_set_27 : decode prog_8_method_12_code 27 = .ok (.iload_n 3, 1) := by decide +kernel
theorem d_Mod_set_28 : decode prog_8_method_12_code 28 = .ok (.bipush (15), 2) := by decide +kernel
theorem d_Mod_set_30 : decode prog_8_method_12_code 30 = .ok (.if_icmp .le (5), 3) := by decide +kernel
theorem d_Mod_set_33 : decode prog_8_method_12_code 33 = .ok (.iconst (-1), 1) := by decide +kernel
theorem d_Mod_set_34 : decode prog_8_method_12_code 34 = .ok (.ireturn, 1) := by decide +kernel
theorem d_Mod_set_35 : decode prog_8_method_12_code 35 = .ok (.aload_n 0, 1) := by decide +kernel
theorem d_Mod_set_36 : decode prog_8_method_12_code 36 = .ok (.iload 5, 2) := by decide +kernel
theorem d_Mod_set_38 : decode prog_8_method_12_code 38 = .ok (.invokevirtual 101, 3) := by decide +kernel
theorem d_Mod_set_41 : decode prog_8_method_12_code 41 = .ok (.ifCond .ne (6), 3) := by decide +kernel
theorem d_Mod_set_44 : decode prog_8_method_12_code 44 = .ok (.bipush (-3), 2) := by decide +kernel
theorem d_Mod_set_46 : decode prog_8_method_12_code 46 = .ok (.ireturn, 1) := by decide +kernel
theorem d_Mod_set_47 : decode prog_8_method_12_code 47 = .ok (.aload_n 0, 1) := by decide +kernel
theorem d_Mod_set_48 : decode prog_8_method_12_code 48 = .ok (.getfield 21, 3) := by decide +kernel
theorem d_Mod_set_51 : decode prog_8_method_12_code 51 = .ok (.iload 5, 2) := by decide +kernel
theorem d_Mod_set_53 : decode prog_8_method_12_code 53 = .ok (.iload_n 3, 1) := by decide +kernel
theorem d_Mod_set_54 : decode prog_8_method_12_code 54 = .ok (.i2b, 1) := by decide +kernel
theorem d_Mod_set_55 : decode prog_8_method_12_code 55 = .ok (.bastore, 1) := by decide +kernel
theorem d_Mod_set_56 : decode prog_8_method_12_code 56 = .ok (.aload_n 0, 1) := by decide +kernel
theorem d_Mod_set_57 : decode prog_8_method_12_code 57 = .ok (.getfield 24, 3) := by decide +kernel
theorem d_Mod_set_60 : decode prog_8_method_12_code 60 = .ok (.iload 5, 2) := by decide +kernel
theorem d_Mod_set_62 : decode prog_8_method_12_code 62 = .ok (.iload_n 3, 1) := by decide +kernel
theorem d_Mod_set_63 : decode prog_8_method_12_code 63 = .ok (.ifCond .ne (7), 3) := by decide +kernel
theorem d_Mod_set_66 : decode prog_8_method_12_code 66 = .ok (.iconst (0), 1) := by decide +kernel
theorem d_Mod_set_67 : decode prog_8_method_12_code 67 = .ok (.goto (5), 3) := by decide +kernel
theorem d_Mod_set_70 : decode prog_8_method_12_code 70 = .ok (.iload 4, 2) := by decide +kernel
theorem d_Mod_set_72 : decode prog_8_method_12_code 72 = .ok (.iastore, 1) := by decide +kernel
theorem d_Mod_set_73 : decode prog_8_method_12_code 73 = .ok (.iconst (1), 1) := by decide +kernel
theorem d_Mod_set_74 : decode prog_8_method_12_code 74 = .ok (.ireturn, 1) := by decide +kernel
theorem d_Mod_at_0 : decode prog_8_method_9_code 0 = .ok (.aload_n 0, 1) := by decide +kernel
theorem d_Mod_at_1 : decode prog_8_method_9_code 1 = .ok (.iload_n 1, 1) := by decide +kernel
theorem d_Mod_at_2 : decode prog_8_method_9_code 2 = .ok (.invokevirtual 84, 3) := by decide +kernel
theorem d_Mod_at_5 : decode prog_8_method_9_code 5 = .ok (.ifCond .eq (28), 3) := by decide +kernel
theorem d_Mod_at_8 : decode prog_8_method_9_code 8 = .ok (.iload_n 2, 1) := by decide +kernel
theorem d_Mod_at_9 : decode prog_8_method_9_code 9 = .ok (.ifCond .lt (24), 3) := by decide +kernel
theorem d_Mod_at_12 : decode prog_8_method_9_code 12 = .ok (.iload_n 2, 1) := by decide +kernel
theorem d_Mod_at_13 : decode prog_8_method_9_code 13 = .ok (.aload_n 0, 1) := by decide +kernel
theorem d_Mod_at_14 : decode prog_8_method_9_code 14 = .ok (.getfield 17, 3) := by decide +kernel
theorem d_Mod_at_17 : decode prog_8_method_9_code 17 = .ok (.iload_n 1, 1) := by decide +kernel
theorem d_Mod_at_18 : decode prog_8_method_9_code 18 = .ok (.iaload, 1) := by decide +kernel
theorem d_Mod_at_19 : decode prog_8_method_9_code 19 = .ok (.if_icmp .ge (14), 3) := by decide +kernel
theorem d_Mod_at_22 : decode prog_8_method_9_code 22 = .ok (.aload_n 0, 1) := by decide +kernel
theorem d_Mod_at_23 : decode prog_8_method_9_code 23 = .ok (.getfield 13, 3) := by decide +kernel
theorem d_Mod_at_26 : decode prog_8_method_9_code 26 = .ok (.iload_n 1, 1) := by decide +kernel
theorem d_Mod_at_27 : decode prog_8_method_9_code 27 = .ok (.iaload, 1) := by decide +kernel
theorem d_Mod_at_28 : decode prog_8_method_9_code 28 = .ok (.iload_n 2, 1) := by decide +kernel
theorem d_Mod_at_29 : decode prog_8_method_9_code 29 = .ok (.iadd, 1) := by decide +kernel
theorem d_Mod_at_30 : decode prog_8_method_9_code 30 = .ok (.goto (4), 3) := by decide +kernel
theorem d_Mod_at_33 : decode prog_8_method_9_code 33 = .ok (.iconst (-1), 1) := by decide +kernel
theorem d_Mod_at_34 : decode prog_8_method_9_code 34 = .ok (.ireturn, 1) := by decide +kernel
theorem d_Mod_remember_0 : decode prog_8_method_11_code 0 = .ok (.aload_n 0, 1) := by decide +kernel
theorem d_Mod_remember_1 : decode prog_8_method_11_code 1 = .ok (.iload_n 1, 1) := by decide +kernel
theorem d_Mod_remember_2 : decode prog_8_method_11_code 2 = .ok (.invokevirtual 94, 3) := by decide +kernel
theorem d_Mod_remember_5 : decode prog_8_method_11_code 5 = .ok (.ifCond .ne (5), 3) := by decide +kernel
theorem d_Mod_remember_8 : decode prog_8_method_11_code 8 = .ok (.iconst (1), 1) := by decide +kernel
theorem d_Mod_remember_9 : decode prog_8_method_11_code 9 = .ok (.ireturn, 1) := by decide +kernel
theorem d_Mod_remember_10 : decode prog_8_method_11_code 10 = .ok (.aload_n 0, 1) := by decide +kernel
theorem d_Mod_remember_11 : decode prog_8_method_11_code 11 = .ok (.getfield 91, 3) := by decide +kernel
theorem d_Mod_remember_14 : decode prog_8_method_11_code 14 = .ok (.ldc 57, 2) := by decide +kernel
theorem d_Mod_remember_16 : decode prog_8_method_11_code 16 = .ok (.if_icmp .ne (5), 3) := by decide +kernel
theorem d_Mod_remember_19 : decode prog_8_method_11_code 19 = .ok (.iconst (0), 1) := by decide +kernel
theorem d_Mod_remember_20 : decode prog_8_method_11_code 20 = .ok (.ireturn, 1) := by decide +kernel
theorem d_Mod_remember_21 : decode prog_8_method_11_code 21 = .ok (.aload_n 0, 1) := by decide +kernel
theorem d_Mod_remember_22 : decode prog_8_method_11_code 22 = .ok (.getfield 58, 3) := by decide +kernel
theorem d_Mod_remember_25 : decode prog_8_method_11_code 25 = .ok (.aload_n 0, 1) := by decide +kernel
theorem d_Mod_remember_26 : decode prog_8_method_11_code 26 = .ok (.getfield 91, 3) := by decide +kernel
theorem d_Mod_remember_29 : decode prog_8_method_11_code 29 = .ok (.iload_n 1, 1) := by decide +kernel
theorem d_Mod_remember_30 : decode prog_8_method_11_code 30 = .ok (.iastore, 1) := by decide +kernel
theorem d_Mod_remember_31 : decode prog_8_method_11_code 31 = .ok (.iload_n 1, 1) := by decide +kernel
theorem d_Mod_remember_32 : decode prog_8_method_11_code 32 = .ok (.ifCond .lt (36), 3) := by decide +kernel
theorem d_Mod_remember_35 : decode prog_8_method_11_code 35 = .ok (.aload_n 0, 1) := by decide +kernel
theorem d_Mod_remember_36 : decode prog_8_method_11_code 36 = .ok (.getfield 61, 3) := by decide +kernel
theorem d_Mod_remember_39 : decode prog_8_method_11_code 39 = .ok (.aload_n 0, 1) := by decide +kernel
theorem d_Mod_remember_40 : decode prog_8_method_11_code 40 = .ok (.getfield 91, 3) := by decide +kernel
theorem d_Mod_remember_43 : decode prog_8_method_11_code 43 = .ok (.aload_n 0, 1) := by decide +kernel
theorem d_Mod_remember_44 : decode prog_8_method_11_code 44 = .ok (.getfield 21, 3) := by decide +kernel
theorem d_Mod_remember_47 : decode prog_8_method_11_code 47 = .ok (.iload_n 1, 1) := by decide +kernel
theorem d_Mod_remember_48 : decode prog_8_method_11_code 48 = .ok (.baload, 1) := by decide +kernel
theorem d_Mod_remember_49 : decode prog_8_method_11_code 49 = .ok (.bastore, 1) := by decide +kernel
theorem d_Mod_remember_50 : decode prog_8_method_11_code 50 = .ok (.aload_n 0, 1) := by decide +kernel
theorem d_Mod_remember_51 : decode prog_8_method_11_code 51 = .ok (.getfield 64, 3) := by decide +kernel
theorem d_Mod_remember_54 : decode prog_8_method_11_code 54 = .ok (.aload_n 0, 1) := by decide +kernel
theorem d_Mod_remember_55 : decode prog_8_method_11_code 55 = .ok (.getfield 91, 3) := by decide +kernel
theorem d_Mod_remember_58 : decode prog_8_method_11_code 58 = .ok (.aload_n 0, 1) := by decide +kernel
theorem d_Mod_remember_59 : decode prog_8_method_11_code 59 = .ok (.getfield 24, 3) := by decide +kernel
theorem d_Mod_remember_62 : decode prog_8_method_11_code 62 = .ok (.iload_n 1, 1) := by decide +kernel
theorem d_Mod_remember_63 : decode prog_8_method_11_code 63 = .ok (.iaload, 1) := by decide +kernel
theorem d_Mod_remember_64 : decode prog_8_method_11_code 64 = .ok (.iastore, 1) := by decide +kernel
theorem d_Mod_remember_65 : decode prog_8_method_11_code 65 = .ok (.goto (54), 3) := by decide +kernel
theorem d_Mod_remember_68 : decode prog_8_method_11_code 68 = .ok (.aload_n 0, 1) := by decide +kernel
theorem d_Mod_remember_69 : decode prog_8_method_11_code 69 = .ok (.getfield 61, 3) := by decide +kernel
theorem d_Mod_remember_72 : decode prog_8_method_11_code 72 = .ok (.aload_n 0, 1) := by decide +kernel
theorem d_Mod_remember_73 : decode prog_8_method_11_code 73 = .ok (.getfield 91, 3) := by decide +kernel
theorem d_Mod_remember_76 : decode prog_8_method_11_code 76 = .ok (.aload_n 0, 1) := by decide +kernel
theorem d_Mod_remember_77 : decode prog_8_method_11_code 77 = .ok (.getfield 41, 3) := by decide +kernel
theorem d_Mod_remember_80 : decode prog_8_method_11_code 80 = .ok (.iconst (-1), 1) := by decide +kernel
theorem d_Mod_remember_81 : decode prog_8_method_11_code 81 = .ok (.iload_n 1, 1) := by decide +kernel
theorem d_Mod_remember_82 : decode prog_8_method_11_code 82 = .ok (.isub, 1) := by decide +kernel
theorem d_Mod_remember_83 : decode prog_8_method_11_code 83 = .ok (.baload, 1) := by decide +kernel
theorem d_Mod_remember_84 : decode prog_8_method_11_code 84 = .ok (.bastore, 1) := by decide +kernel
theorem d_Mod_remember_85 : decode prog_8_method_11_code 85 = .ok (.aload_n 0, 1) := by decide +kernel
theorem d_Mod_remember_86 : decode prog_8_method_11_code 86 = .ok (.getfield 64, 3) := by decide +kernel
theorem d_Mod_remember_89 : decode prog_8_method_11_code 89 = .ok (.aload_n 0, 1) := by decide +kernel
theorem d_Mod_remember_90 : decode prog_8_method_11_code 90 = .ok (.getfield 91, 3) := by decide +kernel
theorem d_Mod_remember_93 : decode prog_8_method_11_code 93 = .ok (.aload_n 0, 1) := by decide +kernel
theorem d_Mod_remember_94 : decode prog_8_method_11_code 94 = .ok (.getfield 44, 3) := by decide +kernel
theorem d_Mod_remember_97 : decode prog_8_method_11_code 97 = .ok (.iconst (-1), 1) := by decide +kernel
theorem d_Mod_remember_98 : decode prog_8_method_11_code 98 = .ok (.iload_n 1, 1) := by decide +kernel
theorem d_Mod_remember_99 : decode prog_8_method_11_code 99 = .ok (.isub, 1) := by decide +kernel
theorem d_Mod_remember_100 : decode prog_8_method_11_code 100 = .ok (.iaload, 1) := by decide +kernel
theorem d_Mod_remember_101 : decode prog_8_method_11_code 101 = .ok (.iastore, 1) := by decide +kernel
theorem d_Mod_remember_102 : decode prog_8_method_11_code 102 = .ok (.aload_n 0, 1) := by decide +kernel
theorem d_Mod_remember_103 : decode prog_8_method_11_code 103 = .ok (.getfield 67, 3) := by decide +kernel
theorem d_Mod_remember_106 : decode prog_8_method_11_code 106 = .ok (.aload_n 0, 1) := by decide +kernel
theorem d_Mod_remember_107 : decode prog_8_method_11_code 107 = .ok (.getfield 91, 3) := by decide +kernel
theorem d_Mod_remember_110 : decode prog_8_method_11_code 110 = .ok (.aload_n 0, 1) := by decide +kernel
theorem d_Mod_remember_111 : decode prog_8_method_11_code 111 = .ok (.getfield 47, 3) := by decide +kernel
theorem d_Mod_remember_114 : decode prog_8_method_11_code 114 = .ok (.iconst (-1), 1) := by decide +kernel
theorem d_Mod_remember_115 : decode prog_8_method_11_code 115 = .ok (.iload_n 1, 1) := by decide +kernel
theorem d_Mod_remember_116 : decode prog_8_method_11_code 116 = .ok (.isub, 1) := by decide +kernel
theorem d_Mod_remember_117 : decode prog_8_method_11_code 117 = .ok (.baload, 1) := by decide +kernel
theorem d_Mod_remember_118 : decode prog_8_method_11_code 118 = .ok (.bastore, 1) := by decide +kernel
theorem d_Mod_remember_119 : decode prog_8_method_11_code 119 = .ok (.aload_n 0, 1) := by decide +kernel
theorem d_Mod_remember_120 : decode prog_8_method_11_code 120 = .ok (.dup, 1) := by decide +kernel
theorem d_Mod_remember_121 : decode prog_8_method_11_code 121 = .ok (.getfield 91, 3) := by decide +kernel
theorem d_Mod_remember_124 : decode prog_8_method_11_code 124 = .ok (.iconst (1), 1) := by decide +kernel
theorem d_Mod_remember_125 : decode prog_8_method_11_code 125 = .ok (.iadd, 1) := by decide +kernel
theorem d_Mod_remember_126 : decode prog_8_method_11_code 126 = .ok (.putfield 91, 3) := by decide +kernel
theorem d_Mod_remember_129 : decode prog_8_method_11_code 129 = .ok (.iconst (1), 1) := by decide +kernel
theorem d_Mod_remember_130 : decode prog_8_method_11_code 130 = .ok (.ireturn, 1) := by decide +kernel
theorem d_Mod_isOpen_0 : decode prog_8_method_10_code 0 = .ok (.aload_n 0, 1) := by decide +kernel
theorem d_Mod_isOpen_1 : decode prog_8_method_10_code 1 = .ok (.getfield 88, 3) := by decide +kernel
theorem d_Mod_isOpen_4 : decode prog_8_method_10_code 4 = .ok (.ifCond .ne (5), 3) := by decide +kernel
theorem d_Mod_isOpen_7 : decode prog_8_method_10_code 7 = .ok (.iconst (0), 1) := by decide +kernel
theorem d_Mod_isOpen_8 : decode prog_8_method_10_code 8 = .ok (.ireturn, 1) := by decide +kernel
theorem d_Mod_isOpen_9 : decode prog_8_method_10_code 9 = .ok (.iload_n 1, 1) := by decide +kernel
theorem d_Mod_isOpen_10 : decode prog_8_method_10_code 10 = .ok (.ifCond .lt (28), 3) := by decide +kernel
theorem d_Mod_isOpen_13 : decode prog_8_method_10_code 13 = .ok (.iload_n 1, 1) := by decide +kernel
theorem d_Mod_isOpen_14 : decode prog_8_method_10_code 14 = .ok (.aload_n 0, 1) := by decide +kernel
theorem d_Mod_isOpen_15 : decode prog_8_method_10_code 15 = .ok (.getfield 51, 3) := by decide +kernel
theorem d_Mod_isOpen_18 : decode prog_8_method_10_code 18 = .ok (.iconst (5), 1) := by decide +kernel
theorem d_Mod_isOpen_19 : decode prog_8_method_10_code 19 = .ok (.aload_n 0, 1) := by decide +kernel
theorem d_Mod_isOpen_20 : decode prog_8_method_10_code 20 = .ok (.getfield 88, 3) := by decide +kernel
theorem d_Mod_isOpen_23 : decode prog_8_method_10_code 23 = .ok (.imul, 1) := by decide +kernel
theorem d_Mod_isOpen_24 : decode prog_8_method_10_code 24 = .ok (.iconst (1), 1) := by decide +kernel
theorem d_Mod_isOpen_25 : decode prog_8_method_10_code 25 = .ok (.iadd, 1) := by decide +kernel
theorem d_Mod_isOpen_26 : decode prog_8_method_10_code 26 = .ok (.iaload, 1) := by decide +kernel
theorem d_Mod_isOpen_27 : decode prog_8_method_10_code 27 = .ok (.if_icmp .ge (7), 3) := by decide +kernel
theorem d_Mod_isOpen_30 : decode prog_8_method_10_code 30 = .ok (.iconst (1), 1) := by decide +kernel
theorem d_Mod_isOpen_31 : decode prog_8_method_10_code 31 = .ok (.goto (31), 3) := by decide +kernel
theorem d_Mod_isOpen_34 : decode prog_8_method_10_code 34 = .ok (.iconst (0), 1) := by decide +kernel
theorem d_Mod_isOpen_35 : decode prog_8_method_10_code 35 = .ok (.goto (27), 3) := by decide +kernel
theorem d_Mod_isOpen_38 : decode prog_8_method_10_code 38 = .ok (.iconst (-1), 1) := by decide +kernel
theorem d_Mod_isOpen_39 : decode prog_8_method_10_code 39 = .ok (.iload_n 1, 1) := by decide +kernel
theorem d_Mod_isOpen_40 : decode prog_8_method_10_code 40 = .ok (.isub, 1) := by decide +kernel
theorem d_Mod_isOpen_41 : decode prog_8_method_10_code 41 = .ok (.aload_n 0, 1) := by decide +kernel
theorem d_Mod_isOpen_42 : decode prog_8_method_10_code 42 = .ok (.getfield 51, 3) := by decide +kernel
theorem d_Mod_isOpen_45 : decode prog_8_method_10_code 45 = .ok (.iconst (5), 1) := by decide +kernel
theorem d_Mod_isOpen_46 : decode prog_8_method_10_code 46 = .ok (.aload_n 0, 1) := by decide +kernel
theorem d_Mod_isOpen_47 : decode prog_8_method_10_code 47 = .ok (.getfield 88, 3) := by decide +kernel
theorem d_Mod_isOpen_50 : decode prog_8_method_10_code 50 = .ok (.imul, 1) := by decide +kernel
theorem d_Mod_isOpen_51 : decode prog_8_method_10_code 51 = .ok (.iconst (4), 1) := by decide +kernel
theorem d_Mod_isOpen_52 : decode prog_8_method_10_code 52 = .ok (.iadd, 1) := by decide +kernel
theorem d_Mod_isOpen_53 : decode prog_8_method_10_code 53 = .ok (.iaload, 1) := by decide +kernel
theorem d_Mod_isOpen_54 : decode prog_8_method_10_code 54 = .ok (.if_icmp .ge (7), 3) := by decide +kernel
theorem d_Mod_isOpen_57 : decode prog_8_method_10_code 57 = .ok (.iconst (1), 1) := by decide +kernel
theorem d_Mod_isOpen_58 : decode prog_8_method_10_code 58 = .ok (.goto (4), 3) := by decide +kernel
theorem d_Mod_isOpen_61 : decode prog_8_method_10_code 61 = .ok (.iconst (0), 1) := by decide +kernel
theorem d_Mod_isOpen_62 : decode prog_8_method_10_code 62 = .ok (.istore_n 2, 1) := by decide +kernel
theorem d_Mod_isOpen_63 : decode prog_8_method_10_code 63 = .ok (.aload_n 0, 1) := by decide +kernel
theorem d_Mod_isOpen_64 : decode prog_8_method_10_code 64 = .ok (.getfield 54, 3) := by decide +kernel
theorem d_Mod_isOpen_67 : decode prog_8_method_10_code 67 = .ok (.aload_n 0, 1) := by decide +kernel
theorem d_Mod_isOpen_68 : decode prog_8_method_10_code 68 = .ok (.getfield 88, 3) := by decide +kernel
theorem d_Mod_isOpen_71 : decode prog_8_method_10_code 71 = .ok (.iaload, 1) := by decide +kernel
theorem d_Mod_isOpen_72 : decode prog_8_method_10_code 72 = .ok (.istore_n 3, 1) := by decide +kernel
theorem d_Mod_isOpen_73 : decode prog_8_method_10_code 73 = .ok (.iload_n 3, 1) := by decide +kernel
theorem d_Mod_isOpen_74 : decode prog_8_method_10_code 74 = .ok (.aload_n 0, 1) := by decide +kernel
theorem d_Mod_isOpen_75 : decode prog_8_method_10_code 75 = .ok (.getfield 91, 3) := by decide +kernel
theorem d_Mod_isOpen_78 : decode prog_8_method_10_code 78 = .ok (.if_icmp .ge (29), 3) := by decide +kernel
theorem d_Mod_isOpen_81 : decode prog_8_method_10_code 81 = .ok (.iload_n 2, 1) := by decide +kernel
theorem d_Mod_isOpen_82 : decode prog_8_method_10_code 82 = .ok (.ifCond .eq (25), 3) := by decide +kernel
theorem d_Mod_isOpen_85 : decode prog_8_method_10_code 85 = .ok (.aload_n 0, 1) := by decide +kernel
theorem d_Mod_isOpen_86 : decode prog_8_method_10_code 86 = .ok (.getfield 58, 3) := by decide +kernel
theorem d_Mod_isOpen_89 : decode prog_8_method_10_code 89 = .ok (.iload_n 3, 1) := by decide +kernel
theorem d_Mod_isOpen_90 : decode prog_8_method_10_code 90 = .ok (.iaload, 1) := by decide +kernel
theorem d_Mod_isOpen_91 : decode prog_8_method_10_code 91 = .ok (.iload_n 1, 1) := by decide +kernel
theorem d_Mod_isOpen_92 : decode prog_8_method_10_code 92 = .ok (.if_icmp .eq (7), 3) := by decide +kernel
theorem d_Mod_isOpen_95 : decode prog_8_method_10_code 95 = .ok (.iconst (1), 1) := by decide +kernel
theorem d_Mod_isOpen_96 : decode prog_8_method_10_code 96 = .ok (.goto (4), 3) := by decide +kernel
theorem d_Mod_isOpen_99 : decode prog_8_method_10_code 99 = .ok (.iconst (0), 1) := by decide +kernel
theorem d_Mod_isOpen_100 : decode prog_8_method_10_code 100 = .ok (.istore_n 2, 1) := by decide +kernel
theorem d_Mod_isOpen_101 : decode prog_8_method_10_code 101 = .ok (.iinc 3 (1), 3) := by decide +kernel
theorem d_Mod_isOpen_104 : decode prog_8_method_10_code 104 = .ok (.goto (-31), 3) := by decide +kernel
theorem d_Mod_isOpen_107 : decode prog_8_method_10_code 107 = .ok (.iload_n 2, 1) := by decide +kernel
theorem d_Mod_isOpen_108 : decode prog_8_method_10_code 108 = .ok (.ireturn, 1) := by decide +kernel
theorem d_Mod_get_0 : decode prog_8_method_13_code 0 = .ok (.aload_n 0, 1) := by decide +kernel
theorem d_Mod_get_1 : decode prog_8_method_13_code 1 = .ok (.iload_n 1, 1) := by decide +kernel
theorem d_Mod_get_2 : decode prog_8_method_13_code 2 = .ok (.iload_n 2, 1) := by decide +kernel
theorem d_Mod_get_3 : decode prog_8_method_13_code 3 = .ok (.invokevirtual 97, 3) := by decide +kernel
theorem d_Mod_get_6 : decode prog_8_method_13_code 6 = .ok (.istore_n 3, 1) := by decide +kernel
theorem d_Mod_get_7 : decode prog_8_method_13_code 7 = .ok (.iload_n 3, 1) := by decide +kernel
theorem d_Mod_get_8 : decode prog_8_method_13_code 8 = .ok (.ifCond .ge (5), 3) := by decide +kernel
theorem d_Mod_get_11 : decode prog_8_method_13_code 11 = .ok (.iconst (-1), 1) := by decide +kernel
theorem d_Mod_get_12 : decode prog_8_method_13_code 12 = .ok (.ireturn, 1) := by decide +kernel
theorem d_Mod_get_13 : decode prog_8_method_13_code 13 = .ok (.aload_n 0, 1) := by decide +kernel
theorem d_Mod_get_14 : decode prog_8_method_13_code 14 = .ok (.getfield 7, 3) := by decide +kernel
theorem d_Mod_get_17 : decode prog_8_method_13_code 17 = .ok (.iload_n 1, 1) := by decide +kernel
theorem d_Mod_get_18 : decode prog_8_method_13_code 18 = .ok (.baload, 1) := by decide +kernel
theorem d_Mod_get_19 : decode prog_8_method_13_code 19 = .ok (.iconst (1), 1) := by decide +kernel
theorem d_Mod_get_20 : decode prog_8_method_13_code 20 = .ok (.if_icmp .ne (12), 3) := by decide +kernel
theorem d_Mod_get_23 : decode prog_8_method_13_code 23 = .ok (.aload_n 0, 1) := by decide +kernel
theorem d_Mod_get_24 : decode prog_8_method_13_code 24 = .ok (.getfield 21, 3) := by decide +kernel
theorem d_Mod_get_27 : decode prog_8_method_13_code 27 = .ok (.iload_n 3, 1) := by decide +kernel
theorem d_Mod_get_28 : decode prog_8_method_13_code 28 = .ok (.baload, 1) := by decide +kernel
theorem d_Mod_get_29 : decode prog_8_method_13_code 29 = .ok (.goto (13), 3) := by decide +kernel
theorem d_Mod_get_32 : decode prog_8_method_13_code 32 = .ok (.aload_n 0, 1) := by decide +kernel
theorem d_Mod_get_33 : decode prog_8_method_13_code 33 = .ok (.getfield 28, 3) := by decide +kernel
theorem d_Mod_get_36 : decode prog_8_method_13_code 36 = .ok (.iload_n 3, 1) := by decide +kernel
theorem d_Mod_get_37 : decode prog_8_method_13_code 37 = .ok (.baload, 1) := by decide +kernel
theorem d_Mod_get_38 : decode prog_8_method_13_code 38 = .ok (.sipush (255), 3) := by decide +kernel
theorem d_Mod_get_41 : decode prog_8_method_13_code 41 = .ok (.iand, 1) := by decide +kernel
theorem d_Mod_get_42 : decode prog_8_method_13_code 42 = .ok (.ireturn, 1) := by decide +kernel
theorem d_Mod_number_0 : decode prog_8_method_14_code 0 = .ok (.aload_n 0, 1) := by decide +kernel
theorem d_Mod_number_1 : decode prog_8_method_14_code 1 = .ok (.iload_n 1, 1) := by decide +kernel
theorem d_Mod_number_2 : decode prog_8_method_14_code 2 = .ok (.iload_n 2, 1) := by decide +kernel
theorem d_Mod_number_3 : decode prog_8_method_14_code 3 = .ok (.invokevirtual 97, 3) := by decide +kernel
theorem d_Mod_number_6 : decode prog_8_method_14_code 6 = .ok (.istore_n 3, 1) := by decide +kernel
theorem d_Mod_number_7 : decode prog_8_method_14_code 7 = .ok (.iload_n 3, 1) := by decide +kernel
theorem d_Mod_number_8 : decode prog_8_method_14_code 8 = .ok (.ifCond .lt (13), 3) := by decide +kernel
theorem d_Mod_number_11 : decode prog_8_method_14_code 11 = .ok (.aload_n 0, 1) := by decide +kernel
theorem d_Mod_number_12 : decode prog_8_method_14_code 12 = .ok (.getfield 7, 3) := by decide +kernel
theorem d_Mod_number_15 : decode prog_8_method_14_code 15 = .ok (.iload_n 1, 1) := by decide +kernel
theorem d_Mod_number_16 : decode prog_8_method_14_code 16 = .ok (.baload, 1) := by decide +kernel
theorem d_Mod_number_17 : decode prog_8_method_14_code 17 = .ok (.iconst (1), 1) := by decide +kernel
theorem d_Mod_number_18 : decode prog_8_method_14_code 18 = .ok (.if_icmp .eq (7), 3) := by decide +kernel
theorem d_Mod_number_21 : decode prog_8_method_14_code 21 = .ok (.iconst (0), 1) := by decide +kernel
theorem d_Mod_number_22 : decode prog_8_method_14_code 22 = .ok (.goto (9), 3) := by decide +kernel
theorem d_Mod_number_25 : decode prog_8_method_14_code 25 = .ok (.aload_n 0, 1) := by decide +kernel
theorem d_Mod_number_26 : decode prog_8_method_14_code 26 = .ok (.getfield 24, 3) := by decide +kernel
theorem d_Mod_number_29 : decode prog_8_method_14_code 29 = .ok (.iload_n 3, 1) := by decide +kernel
theorem d_Mod_number_30 : decode prog_8_method_14_code 30 = .ok (.iaload, 1) := by decide +kernel
theorem d_Mod_number_31 : decode prog_8_method_14_code 31 = .ok (.ireturn, 1) := by decide +kernel
theorem d_Mod_setByte_0 : decode prog_8_method_15_code 0 = .ok (.aload_n 0, 1) := by decide +kernel
theorem d_Mod_setByte_1 : decode prog_8_method_15_code 1 = .ok (.iload_n 1, 1) := by decide +kernel
theorem d_Mod_setByte_2 : decode prog_8_method_15_code 2 = .ok (.iload_n 2, 1) := by decide +kernel
theorem d_Mod_setByte_3 : decode prog_8_method_15_code 3 = .ok (.invokevirtual 97, 3) := by decide +kernel
theorem d_Mod_setByte_6 : decode prog_8_method_15_code 6 = .ok (.istore 4, 2) := by decide +kernel
theorem d_Mod_setByte_8 : decode prog_8_method_15_code 8 = .ok (.iload 4, 2) := by decide +kernel
theorem d_Mod_setByte_10 : decode prog_8_method_15_code 10 = .ok (.ifCond .lt (13), 3) := by decide +kernel
theorem d_Mod_setByte_13 : decode prog_8_method_15_code 13 = .ok (.aload_n 0, 1) := by decide +kernel
theorem d_Mod_setByte_14 : decode prog_8_method_15_code 14 = .ok (.getfield 7, 3) := by decide +kernel
theorem d_Mod_setByte_17 : decode prog_8_method_15_code 17 = .ok (.iload_n 1, 1) := by decide +kernel
theorem d_Mod_setByte_18 : decode prog_8_method_15_code 18 = .ok (.baload, 1) := by decide +kernel
theorem d_Mod_setByte_19 : decode prog_8_method_15_code 19 = .ok (.iconst (2), 1) := by decide +kernel
theorem d_Mod_setByte_20 : decode prog_8_method_15_code 20 = .ok (.if_icmp .eq (5), 3) := by decide +kernel
theorem d_Mod_setByte_23 : decode prog_8_method_15_code 23 = .ok (.iconst (-1), 1) := by decide +kernel
theorem d_Mod_setByte_24 : decode prog_8_method_15_code 24 = .ok (.ireturn, 1) := by decide +kernel
theorem d_Mod_setByte_25 : decode prog_8_method_15_code 25 = .ok (.aload_n 0, 1) := by decide +kernel
theorem d_Mod_setByte_26 : decode prog_8_method_15_code 26 = .ok (.getfield 28, 3) := by decide +kernel
theorem d_Mod_setByte_29 : decode prog_8_method_15_code 29 = .ok (.iload 4, 2) := by decide +kernel
theorem d_Mod_setByte_31 : decode prog_8_method_15_code 31 = .ok (.iload_n 3, 1) := by decide +kernel
theorem d_Mod_setByte_32 : decode prog_8_method_15_code 32 = .ok (.i2b, 1) := by decide +kernel
theorem d_Mod_setByte_33 : decode prog_8_method_15_code 33 = .ok (.bastore, 1) := by decide +kernel
theorem d_Mod_setByte_34 : decode prog_8_method_15_code 34 = .ok (.iconst (1), 1) := by decide +kernel
theorem d_Mod_setByte_35 : decode prog_8_method_15_code 35 = .ok (.ireturn, 1) := by decide +kernel
theorem d_Mod_dictionary_0 : decode prog_8_method_16_code 0 = .ok (.aload_n 0, 1) := by decide +kernel
theorem d_Mod_dictionary_1 : decode prog_8_method_16_code 1 = .ok (.getfield 104, 3) := by decide +kernel
theorem d_Mod_dictionary_4 : decode prog_8_method_16_code 4 = .ok (.sipush (1024), 3) := by decide +kernel
theorem d_Mod_dictionary_7 : decode prog_8_method_16_code 7 = .ok (.if_icmp .ne (6), 3) := by decide +kernel
theorem d_Mod_dictionary_10 : decode prog_8_method_16_code 10 = .ok (.bipush (-3), 2) := by decide +kernel
theorem d_Mod_dictionary_12 : decode prog_8_method_16_code 12 = .ok (.ireturn, 1) := by decide +kernel
theorem d_Mod_dictionary_13 : decode prog_8_method_16_code 13 = .ok (.aload_n 0, 1) := by decide +kernel
theorem d_Mod_dictionary_14 : decode prog_8_method_16_code 14 = .ok (.dup, 1) := by decide +kernel
theorem d_Mod_dictionary_15 : decode prog_8_method_16_code 15 = .ok (.getfield 104, 3) := by decide +kernel
theorem d_Mod_dictionary_18 : decode prog_8_method_16_code 18 = .ok (.iconst (1), 1) := by decide +kernel
theorem d_Mod_dictionary_19 : decode prog_8_method_16_code 19 = .ok (.iadd, 1) := by decide +kernel
theorem d_Mod_dictionary_20 : decode prog_8_method_16_code 20 = .ok (.putfield 104, 3) := by decide +kernel
theorem d_Mod_dictionary_23 : decode prog_8_method_16_code 23 = .ok (.aload_n 0, 1) := by decide +kernel
theorem d_Mod_dictionary_24 : decode prog_8_method_16_code 24 = .ok (.getfield 104, 3) := by decide +kernel
theorem d_Mod_dictionary_27 : decode prog_8_method_16_code 27 = .ok (.ireturn, 1) := by decide +kernel
theorem d_Mod_define_0 : decode prog_8_method_20_code 0 = .ok (.aload_n 0, 1) := by decide +kernel
theorem d_Mod_define_1 : decode prog_8_method_20_code 1 = .ok (.iload_n 1, 1) := by decide +kernel
theorem d_Mod_define_2 : decode prog_8_method_20_code 2 = .ok (.invokevirtual 110, 3) := by decide +kernel
theorem d_Mod_define_5 : decode prog_8_method_20_code 5 = .ok (.ifCond .eq (22), 3) := by decide +kernel
theorem d_Mod_define_8 : decode prog_8_method_20_code 8 = .ok (.iload_n 2, 1) := by decide +kernel
theorem d_Mod_define_9 : decode prog_8_method_20_code 9 = .ok (.invokestatic 113, 3) := by decide +kernel
theorem d_Mod_define_12 : decode prog_8_method_20_code 12 = .ok (.ifCond .eq (15), 3) := by decide +kernel
theorem d_Mod_define_15 : decode prog_8_method_20_code 15 = .ok (.iload 4, 2) := by decide +kernel
theorem d_Mod_define_17 : decode prog_8_method_20_code 17 = .ok (.ifCond .lt (10), 3) := by decide +kernel
theorem d_Mod_define_20 : decode prog_8_method_20_code 20 = .ok (.iload 4, 2) := by decide +kernel
theorem d_Mod_define_22 : decode prog_8_method_20_code 22 = .ok (.bipush (15), 2) := by decide +kernel
theorem d_Mod_define_24 : decode prog_8_method_20_code 24 = .ok (.if_icmp .le (5), 3) := by decide +kernel
theorem d_Mod_define_27 : decode prog_8_method_20_code 27 = .ok (.iconst (-1), 1) := by decide +kernel
theorem d_Mod_define_28 : decode prog_8_method_20_code 28 = .ok (.ireturn, 1) := by decide +kernel
theorem d_Mod_define_29 : decode prog_8_method_20_code 29 = .ok (.aload_n 0, 1) := by decide +kernel
theorem d_Mod_define_30 : decode prog_8_method_20_code 30 = .ok (.iload_n 1, 1) := by decide +kernel
theorem d_Mod_define_31 : decode prog_8_method_20_code 31 = .ok (.iload_n 2, 1) := by decide +kernel
theorem d_Mod_define_32 : decode prog_8_method_20_code 32 = .ok (.iload_n 3, 1) := by decide +kernel
theorem d_Mod_define_33 : decode prog_8_method_20_code 33 = .ok (.invokevirtual 116, 3) := by decide +kernel
theorem d_Mod_define_36 : decode prog_8_method_20_code 36 = .ok (.istore 6, 2) := by decide +kernel
theorem d_Mod_define_38 : decode prog_8_method_20_code 38 = .ok (.iload 6, 2) := by decide +kernel
theorem d_Mod_define_40 : decode prog_8_method_20_code 40 = .ok (.ifCond .ge (16), 3) := by decide +kernel
theorem d_Mod_define_43 : decode prog_8_method_20_code 43 = .ok (.aload_n 0, 1) := by decide +kernel
theorem d_Mod_define_44 : decode prog_8_method_20_code 44 = .ok (.getfield 107, 3) := by decide +kernel
theorem d_Mod_define_47 : decode prog_8_method_20_code 47 = .ok (.sipush (16384), 3) := by decide +kernel
theorem d_Mod_define_50 : decode prog_8_method_20_code 50 = .ok (.if_icmp .ne (6), 3) := by decide +kernel
theorem d_Mod_define_53 : decode prog_8_method_20_code 53 = .ok (.bipush (-3), 2) := by decide +kernel
theorem d_Mod_define_55 : decode prog_8_method_20_code 55 = .ok (.ireturn, 1) := by decide +kernel
theorem d_Mod_define_56 : decode prog_8_method_20_code 56 = .ok (.iload 6, 2) := by decide +kernel
theorem d_Mod_define_58 : decode prog_8_method_20_code 58 = .ok (.ifCond .lt (17), 3) := by decide +kernel
theorem d_Mod_define_61 : decode prog_8_method_20_code 61 = .ok (.aload_n 0, 1) := by decide +kernel
theorem d_Mod_define_62 : decode prog_8_method_20_code 62 = .ok (.iconst (-1), 1) := by decide +kernel
theorem d_Mod_define_63 : decode prog_8_method_20_code 63 = .ok (.iload 6, 2) := by decide +kernel
theorem d_Mod_define_65 : decode prog_8_method_20_code 65 = .ok (.isub, 1) := by decide +kernel
theorem d_Mod_define_66 : decode prog_8_method_20_code 66 = .ok (.invokevirtual 101, 3) := by decide +kernel
theorem d_Mod_define_69 : decode prog_8_method_20_code 69 = .ok (.ifCond .ne (6), 3) := by decide +kernel
theorem d_Mod_define_72 : decode prog_8_method_20_code 72 = .ok (.bipush (-3), 2) := by decide +kernel
theorem d_Mod_define_74 : decode prog_8_method_20_code 74 = .ok (.ireturn, 1) := by decide +kernel
theorem d_Mod_define_75 : decode prog_8_method_20_code 75 = .ok (.iload 6, 2) := by decide +kernel
theorem d_Mod_define_77 : decode prog_8_method_20_code 77 = .ok (.ifCond .ge (7), 3) := by decide +kernel
theorem d_Mod_define_80 : decode prog_8_method_20_code 80 = .ok (.iconst (1), 1) := by decide +kernel
theorem d_Mod_define_81 : decode prog_8_method_20_code 81 = .ok (.goto (4), 3) := by decide +kernel
theorem d_Mod_define_84 : decode prog_8_method_20_code 84 = .ok (.iconst (0), 1) := by decide +kernel
theorem d_Mod_define_85 : decode prog_8_method_20_code 85 = .ok (.istore 7, 2) := by decide +kernel
theorem d_Mod_define_87 : decode prog_8_method_20_code 87 = .ok (.iload 6, 2) := by decide +kernel
theorem d_Mod_define_89 : decode prog_8_method_20_code 89 = .ok (.ifCond .ge (45), 3) := by decide +kernel
theorem d_Mod_define_92 : decode prog_8_method_20_code 92 = .ok (.aload_n 0, 1) := by decide +kernel
theorem d_Mod_define_93 : decode prog_8_method_20_code 93 = .ok (.getfield 107, 3) := by decide +kernel
theorem d_Mod_define_96 : decode prog_8_method_20_code 96 = .ok (.istore 6, 2) := by decide +kernel
theorem d_Mod_define_98 : decode prog_8_method_20_code 98 = .ok (.aload_n 0, 1) := by decide +kernel
theorem d_Mod_define_99 : decode prog_8_method_20_code 99 = .ok (.dup, 1) := by decide +kernel
theorem d_Mod_define_100 : decode prog_8_method_20_code 100 = .ok (.getfield 107, 3) := by decide +kernel
theorem d_Mod_define_103 : decode prog_8_method_20_code 103 = .ok (.iconst (1), 1) := by decide +kernel
theorem d_Mod_define_104 : decode prog_8_method_20_code 104 = .ok (.iadd, 1) := by decide +kernel
theorem d_Mod_define_105 : decode prog_8_method_20_code 105 = .ok (.putfield 107, 3) := by decide +kernel
theorem d_Mod_define_108 : decode prog_8_method_20_code 108 = .ok (.aload_n 0, 1) := by decide +kernel
theorem d_Mod_define_109 : decode prog_8_method_20_code 109 = .ok (.getfield 31, 3) := by decide +kernel
theorem d_Mod_define_112 : decode prog_8_method_20_code 112 = .ok (.iload 6, 2) := by decide +kernel
theorem d_Mod_define_114 : decode prog_8_method_20_code 114 = .ok (.iload_n 1, 1) := by decide +kernel
theorem d_Mod_define_115 : decode prog_8_method_20_code 115 = .ok (.i2s, 1) := by decide +kernel
theorem d_Mod_define_116 : decode prog_8_method_20_code 116 = .ok (.sastore, 1) := by decide +kernel
theorem d_Mod_define_117 : decode prog_8_method_20_code 117 = .ok (.aload_n 0, 1) := by decide +kernel
theorem d_Mod_define_118 : decode prog_8_method_20_code 118 = .ok (.getfield 35, 3) := by decide +kernel
theorem d_Mod_define_121 : decode prog_8_method_20_code 121 = .ok (.iload 6, 2) := by decide +kernel
theorem d_Mod_define_123 : decode prog_8_method_20_code 123 = .ok (.iload_n 2, 1) := by decide +kernel
theorem d_Mod_define_124 : decode prog_8_method_20_code 124 = .ok (.i2b, 1) := by decide +kernel
theorem d_Mod_define_125 : decode prog_8_method_20_code 125 = .ok (.bastore, 1) := by decide +kernel
theorem d_Mod_define_126 : decode prog_8_method_20_code 126 = .ok (.aload_n 0, 1) := by decide +kernel
theorem d_Mod_define_127 : decode prog_8_method_20_code 127 = .ok (.getfield 38, 3) := by decide +kernel
theorem d_Mod_define_130 : decode prog_8_method_20_code 130 = .ok (.iload 6, 2) := by decide +kernel
theorem d_Mod_define_132 : decode prog_8_method_20_code 132 = .ok (.iload_n 3, 1) := by decide +kernel
theorem d_Mod_define_133 : decode prog_8_method_20_code 133 = .ok (.iastore, 1) := by decide +kernel
theorem d_Mod_define_134 : decode prog_8_method_20_code 134 = .ok (.aload_n 0, 1) := by decide +kernel
theorem d_Mod_define_135 : decode prog_8_method_20_code 135 = .ok (.getfield 41, 3) := by decide +kernel
theorem d_Mod_define_138 : decode prog_8_method_20_code 138 = .ok (.iload 6, 2) := by decide +kernel
theorem d_Mod_define_140 : decode prog_8_method_20_code 140 = .ok (.iload 4, 2) := by decide +kernel
theorem d_Mod_define_142 : decode prog_8_method_20_code 142 = .ok (.i2b, 1) := by decide +kernel
theorem d_Mod_define_143 : decode prog_8_method_20_code 143 = .ok (.bastore, 1) := by decide +kernel
theorem d_Mod_define_144 : decode prog_8_method_20_code 144 = .ok (.aload_n 0, 1) := by decide +kernel
theorem d_Mod_define_145 : decode prog_8_method_20_code 145 = .ok (.getfield 44, 3) := by decide +kernel
theorem d_Mod_define_148 : decode prog_8_method_20_code 148 = .ok (.iload 6, 2) := by decide +kernel
theorem d_Mod_define_150 : decode prog_8_method_20_code 150 = .ok (.iload 4, 2) := by decide +kernel
theorem d_Mod_define_152 : decode prog_8_method_20_code 152 = .ok (.ifCond .ne (7), 3) := by decide +kernel
theorem d_Mod_define_155 : decode prog_8_method_20_code 155 = .ok (.iconst (0), 1) := by decide +kernel
theorem d_Mod_define_156 : decode prog_8_method_20_code 156 = .ok (.goto (5), 3) := by decide +kernel
theorem d_Mod_define_159 : decode prog_8_method_20_code 159 = .ok (.iload 5, 2) := by decide +kernel
theorem d_Mod_define_161 : decode prog_8_method_20_code 161 = .ok (.iastore, 1) := by decide +kernel
theorem d_Mod_define_162 : decode prog_8_method_20_code 162 = .ok (.aload_n 0, 1) := by decide +kernel
theorem d_Mod_define_163 : decode prog_8_method_20_code 163 = .ok (.getfield 47, 3) := by decide +kernel
theorem d_Mod_define_166 : decode prog_8_method_20_code 166 = .ok (.iload 6, 2) := by decide +kernel
theorem d_Mod_define_168 : decode prog_8_method_20_code 168 = .ok (.iconst (0), 1) := by decide +kernel
theorem d_Mod_define_169 : decode prog_8_method_20_code 169 = .ok (.bastore, 1) := by decide +kernel
theorem d_Mod_define_170 : decode prog_8_method_20_code 170 = .ok (.iload 7, 2) := by decide +kernel
theorem d_Mod_define_172 : decode prog_8_method_20_code 172 = .ok (.ireturn, 1) := by decide +kernel
theorem d_Mod_isDictionary_0 : decode prog_8_method_17_code 0 = .ok (.iload_n 1, 1) := by decide +kernel
theorem d_Mod_isDictionary_1 : decode prog_8_method_17_code 1 = .ok (.iconst (1), 1) := by decide +kernel
theorem d_Mod_isDictionary_2 : decode prog_8_method_17_code 2 = .ok (.if_icmp .lt (15), 3) := by decide +kernel
theorem d_Mod_isDictionary_5 : decode prog_8_method_17_code 5 = .ok (.iload_n 1, 1) := by decide +kernel
theorem d_Mod_isDictionary_6 : decode prog_8_method_17_code 6 = .ok (.aload_n 0, 1) := by decide +kernel
theorem d_Mod_isDictionary_7 : decode prog_8_method_17_code 7 = .ok (.getfield 104, 3) := by decide +kernel
theorem d_Mod_isDictionary_10 : decode prog_8_method_17_code 10 = .ok (.if_icmp .gt (7), 3) := by decide +kernel
theorem d_Mod_isDictionary_13 : decode prog_8_method_17_code 13 = .ok (.iconst (1), 1) := by decide +kernel
theorem d_Mod_isDictionary_14 : decode prog_8_method_17_code 14 = .ok (.goto (4), 3) := by decide +kernel
theorem d_Mod_isDictionary_17 : decode prog_8_method_17_code 17 = .ok (.iconst (0), 1) := by decide +kernel
theorem d_Mod_isDictionary_18 : decode prog_8_method_17_code 18 = .ok (.ireturn, 1) := by decide +kernel
theorem d_Mod_isKey_0 : decode prog_8_method_18_code 0 = .ok (.iload_n 0, 1) := by decide +kernel
theorem d_Mod_isKey_1 : decode prog_8_method_18_code 1 = .ok (.iconst (1), 1) := by decide +kernel
theorem d_Mod_isKey_2 : decode prog_8_method_18_code 2 = .ok (.if_icmp .lt (13), 3) := by decide +kernel
theorem d_Mod_isKey_5 : decode prog_8_method_18_code 5 = .ok (.iload_n 0, 1) := by decide +kernel
theorem d_Mod_isKey_6 : decode prog_8_method_18_code 6 = .ok (.bipush (15), 2) := by decide +kernel
theorem d_Mod_isKey_8 : decode prog_8_method_18_code 8 = .ok (.if_icmp .gt (7), 3) := by decide +kernel
theorem d_Mod_isKey_11 : decode prog_8_method_18_code 11 = .ok (.iconst (1), 1) := by decide +kernel
theorem d_Mod_isKey_12 : decode prog_8_method_18_code 12 = .ok (.goto (4), 3) := by decide +kernel
theorem d_Mod_isKey_15 : decode prog_8_method_18_code 15 = .ok (.iconst (0), 1) := by decide +kernel
theorem d_Mod_isKey_16 : decode prog_8_method_18_code 16 = .ok (.ireturn, 1) := by decide +kernel
theorem d_Mod_key_0 : decode prog_8_method_19_code 0 = .ok (.iconst (0), 1) := by decide +kernel
theorem d_Mod_key_1 : decode prog_8_method_19_code 1 = .ok (.istore 4, 2) := by decide +kernel
theorem d_Mod_key_3 : decode prog_8_method_19_code 3 = .ok (.iload 4, 2) := by decide +kernel
theorem d_Mod_key_5 : decode prog_8_method_19_code 5 = .ok (.aload_n 0, 1) := by decide +kernel
theorem d_Mod_key_6 : decode prog_8_method_19_code 6 = .ok (.getfield 107, 3) := by decide +kernel
theorem d_Mod_key_9 : decode prog_8_method_19_code 9 = .ok (.if_icmp .ge (42), 3) := by decide +kernel
theorem d_Mod_key_12 : decode prog_8_method_19_code 12 = .ok (.aload_n 0, 1) := by decide +kernel
theorem d_Mod_key_13 : decode prog_8_method_19_code 13 = .ok (.getfield 31, 3) := by decide +kernel
theorem d_Mod_key_16 : decode prog_8_method_19_code 16 = .ok (.iload 4, 2) := by decide +kernel
theorem d_Mod_key_18 : decode prog_8_method_19_code 18 = .ok (.saload, 1) := by decide +kernel
theorem d_Mod_key_19 : decode prog_8_method_19_code 19 = .ok (.iload_n 1, 1) := by decide +kernel
theorem d_Mod_key_20 : decode prog_8_method_19_code 20 = .ok (.if_icmp .ne (25), 3) := by decide +kernel
theorem d_Mod_key_23 : decode prog_8_method_19_code 23 = .ok (.aload_n 0, 1) := by decide +kernel
theorem d_Mod_key_24 : decode prog_8_method_19_code 24 = .ok (.getfield 35, 3) := by decide +kernel
theorem d_Mod_key_27 : decode prog_8_method_19_code 27 = .ok (.iload 4, 2) := by decide +kernel
theorem d_Mod_key_29 : decode prog_8_method_19_code 29 = .ok (.baload, 1) := by decide +kernel
theorem d_Mod_key_30 : decode prog_8_method_19_code 30 = .ok (.iload_n 2, 1) := by decide +kernel
theorem d_Mod_key_31 : decode prog_8_method_19_code 31 = .ok (.if_icmp .ne (14), 3) := by decide +kernel
theorem d_Mod_key_34 : decode prog_8_method_19_code 34 = .ok (.aload_n 0, 1) := by decide +kernel
theorem d_Mod_key_35 : decode prog_8_method_19_code 35 = .ok (.getfield 38, 3) := by decide +kernel
theorem d_Mod_key_38 : decode prog_8_method_19_code 38 = .ok (.iload 4, 2) := by decide +kernel
theorem d_Mod_key_40 : decode prog_8_method_19_code 40 = .ok (.iaload, 1) := by decide +kernel
theorem d_Mod_key_41 : decode prog_8_method_19_code 41 = .ok (.iload_n 3, 1) := by decide +kernel
theorem d_Mod_key_42 : decode prog_8_method_19_code 42 = .ok (.if_icmp .eq (9), 3) := by decide +kernel
theorem d_Mod_key_45 : decode prog_8_method_19_code 45 = .ok (.iinc 4 (1), 3) := by decide +kernel
theorem d_Mod_key_48 : decode prog_8_method_19_code 48 = .ok (.goto (-45), 3) := by decide +kernel
theorem d_Mod_key_51 : decode prog_8_method_19_code 51 = .ok (.iload 4, 2) := by decide +kernel
theorem d_Mod_key_53 : decode prog_8_method_19_code 53 = .ok (.aload_n 0, 1) := by decide +kernel
theorem d_Mod_key_54 : decode prog_8_method_19_code 54 = .ok (.getfield 107, 3) := by decide +kernel
theorem d_Mod_key_57 : decode prog_8_method_19_code 57 = .ok (.if_icmp .ge (8), 3) := by decide +kernel
theorem d_Mod_key_60 : decode prog_8_method_19_code 60 = .ok (.iload 4, 2) := by decide +kernel
theorem d_Mod_key_62 : decode prog_8_method_19_code 62 = .ok (.goto (4), 3) := by decide +kernel
theorem d_Mod_key_65 : decode prog_8_method_19_code 65 = .ok (.iconst (-1), 1) := by decide +kernel
theorem d_Mod_key_66 : decode prog_8_method_19_code 66 = .ok (.ireturn, 1) := by decide +kernel
theorem d_Mod_find_0 : decode prog_8_method_22_code 0 = .ok (.aload_n 0, 1) := by decide +kernel
theorem d_Mod_find_1 : decode prog_8_method_22_code 1 = .ok (.iload_n 1, 1) := by decide +kernel
theorem d_Mod_find_2 : decode prog_8_method_22_code 2 = .ok (.invokevirtual 110, 3) := by decide +kernel
theorem d_Mod_find_5 : decode prog_8_method_22_code 5 = .ok (.ifCond .eq (10), 3) := by decide +kernel
theorem d_Mod_find_8 : decode prog_8_method_22_code 8 = .ok (.iload_n 2, 1) := by decide +kernel
theorem d_Mod_find_9 : decode prog_8_method_22_code 9 = .ok (.invokestatic 113, 3) := by decide +kernel
theorem d_Mod_find_12 : decode prog_8_method_22_code 12 = .ok (.ifCond .ne (5), 3) := by decide +kernel
theorem d_Mod_find_15 : decode prog_8_method_22_code 15 = .ok (.iconst (-1), 1) := by decide +kernel
theorem d_Mod_find_16 : decode prog_8_method_22_code 16 = .ok (.ireturn, 1) := by decide +kernel
theorem d_Mod_find_17 : decode prog_8_method_22_code 17 = .ok (.aload_n 0, 1) := by decide +kernel
theorem d_Mod_find_18 : decode prog_8_method_22_code 18 = .ok (.iload_n 1, 1) := by decide +kernel
theorem d_Mod_find_19 : decode prog_8_method_22_code 19 = .ok (.iload_n 2, 1) := by decide +kernel
theorem d_Mod_find_20 : decode prog_8_method_22_code 20 = .ok (.iload_n 3, 1) := by decide +kernel
theorem d_Mod_find_21 : decode prog_8_method_22_code 21 = .ok (.invokevirtual 119, 3) := by decide +kernel
theorem d_Mod_find_24 : decode prog_8_method_22_code 24 = .ok (.istore 4, 2) := by decide +kernel
theorem d_Mod_find_26 : decode prog_8_method_22_code 26 = .ok (.iload 4, 2) := by decide +kernel
theorem d_Mod_find_28 : decode prog_8_method_22_code 28 = .ok (.ifCond .ge (8), 3) := by decide +kernel
theorem d_Mod_find_31 : decode prog_8_method_22_code 31 = .ok (.bipush (-2), 2) := by decide +kernel
theorem d_Mod_find_33 : decode prog_8_method_22_code 33 = .ok (.goto (10), 3) := by decide +kernel
theorem d_Mod_find_36 : decode prog_8_method_22_code 36 = .ok (.aload_n 0, 1) := by decide +kernel
theorem d_Mod_find_37 : decode prog_8_method_22_code 37 = .ok (.getfield 41, 3) := by decide +kernel
theorem d_Mod_find_40 : decode prog_8_method_22_code 40 = .ok (.iload 4, 2) := by decide +kernel
theorem d_Mod_find_42 : decode prog_8_method_22_code 42 = .ok (.baload, 1) := by decide +kernel
theorem d_Mod_find_43 : decode prog_8_method_22_code 43 = .ok (.ireturn, 1) := by decide +kernel
theorem d_Mod_there_0 : decode prog_8_method_21_code 0 = .ok (.aload_n 0, 1) := by decide +kernel
theorem d_Mod_there_1 : decode prog_8_method_21_code 1 = .ok (.iload_n 1, 1) := by decide +kernel
theorem d_Mod_there_2 : decode prog_8_method_21_code 2 = .ok (.iload_n 2, 1) := by decide +kernel
theorem d_Mod_there_3 : decode prog_8_method_21_code 3 = .ok (.iload_n 3, 1) := by decide +kernel
theorem d_Mod_there_4 : decode prog_8_method_21_code 4 = .ok (.invokevirtual 116, 3) := by decide +kernel
theorem d_Mod_there_7 : decode prog_8_method_21_code 7 = .ok (.istore 4, 2) := by decide +kernel
theorem d_Mod_there_9 : decode prog_8_method_21_code 9 = .ok (.iload 4, 2) := by decide +kernel
theorem d_Mod_there_11 : decode prog_8_method_21_code 11 = .ok (.ifCond .lt (18), 3) := by decide +kernel
theorem d_Mod_there_14 : decode prog_8_method_21_code 14 = .ok (.aload_n 0, 1) := by decide +kernel
theorem d_Mod_there_15 : decode prog_8_method_21_code 15 = .ok (.getfield 47, 3) := by decide +kernel
theorem d_Mod_there_18 : decode prog_8_method_21_code 18 = .ok (.iload 4, 2) := by decide +kernel
theorem d_Mod_there_20 : decode prog_8_method_21_code 20 = .ok (.baload, 1) := by decide +kernel
theorem d_Mod_there_21 : decode prog_8_method_21_code 21 = .ok (.ifCond .ne (8), 3) := by decide +kernel
theorem d_Mod_there_24 : decode prog_8_method_21_code 24 = .ok (.iload 4, 2) := by decide +kernel
theorem d_Mod_there_26 : decode prog_8_method_21_code 26 = .ok (.goto (4), 3) := by decide +kernel
theorem d_Mod_there_29 : decode prog_8_method_21_code 29 = .ok (.iconst (-1), 1) := by decide +kernel
theorem d_Mod_there_30 : decode prog_8_method_21_code 30 = .ok (.ireturn, 1) := by decide +kernel
theorem d_Mod_found_0 : decode prog_8_method_23_code 0 = .ok (.aload_n 0, 1) := by decide +kernel
theorem d_Mod_found_1 : decode prog_8_method_23_code 1 = .ok (.iload_n 1, 1) := by decide +kernel
theorem d_Mod_found_2 : decode prog_8_method_23_code 2 = .ok (.invokevirtual 110, 3) := by decide +kernel
theorem d_Mod_found_5 : decode prog_8_method_23_code 5 = .ok (.ifCond .eq (13), 3) := by decide +kernel
theorem d_Mod_found_8 : decode prog_8_method_23_code 8 = .ok (.aload_n 0, 1) := by decide +kernel
theorem d_Mod_found_9 : decode prog_8_method_23_code 9 = .ok (.iload_n 1, 1) := by decide +kernel
theorem d_Mod_found_10 : decode prog_8_method_23_code 10 = .ok (.iload_n 2, 1) := by decide +kernel
theorem d_Mod_found_11 : decode prog_8_method_23_code 11 = .ok (.iload_n 3, 1) := by decide +kernel
theorem d_Mod_found_12 : decode prog_8_method_23_code 12 = .ok (.invokevirtual 119, 3) := by decide +kernel
theorem d_Mod_found_15 : decode prog_8_method_23_code 15 = .ok (.goto (4), 3) := by decide +kernel
theorem d_Mod_found_18 : decode prog_8_method_23_code 18 = .ok (.iconst (-1), 1) := by decide +kernel
theorem d_Mod_found_19 : decode prog_8_method_23_code 19 = .ok (.istore 4, 2) := by decide +kernel
theorem d_Mod_found_21 : decode prog_8_method_23_code 21 = .ok (.iload 4, 2) := by decide +kernel
theorem d_Mod_found_23 : decode prog_8_method_23_code 23 = .ok (.ifCond .ge (7), 3) := by decide +kernel
theorem d_Mod_found_26 : decode prog_8_method_23_code 26 = .ok (.iconst (0), 1) := by decide +kernel
theorem d_Mod_found_27 : decode prog_8_method_23_code 27 = .ok (.goto (10), 3) := by decide +kernel
theorem d_Mod_found_30 : decode prog_8_method_23_code 30 = .ok (.aload_n 0, 1) := by decide +kernel
theorem d_Mod_found_31 : decode prog_8_method_23_code 31 = .ok (.getfield 44, 3) := by decide +kernel
theorem d_Mod_found_34 : decode prog_8_method_23_code 34 = .ok (.iload 4, 2) := by decide +kernel
theorem d_Mod_found_36 : decode prog_8_method_23_code 36 = .ok (.iaload, 1) := by decide +kernel
theorem d_Mod_found_37 : decode prog_8_method_23_code 37 = .ok (.ireturn, 1) := by decide +kernel
theorem d_Mod_undefine_0 : decode prog_8_method_24_code 0 = .ok (.aload_n 0, 1) := by decide +kernel
theorem d_Mod_undefine_1 : decode prog_8_method_24_code 1 = .ok (.iload_n 1, 1) := by decide +kernel
theorem d_Mod_undefine_2 : decode prog_8_method_24_code 2 = .ok (.invokevirtual 110, 3) := by decide +kernel
theorem d_Mod_undefine_5 : decode prog_8_method_24_code 5 = .ok (.ifCond .eq (10), 3) := by decide +kernel
theorem d_Mod_undefine_8 : decode prog_8_method_24_code 8 = .ok (.iload_n 2, 1) := by decide +kernel
theorem d_Mod_undefine_9 : decode prog_8_method_24_code 9 = .ok (.invokestatic 113, 3) := by decide +kernel
theorem d_Mod_undefine_12 : decode prog_8_method_24_code 12 = .ok (.ifCond .ne (5), 3) := by decide +kernel
theorem d_Mod_undefine_15 : decode prog_8_method_24_code 15 = .ok (.iconst (-1), 1) := by decide +kernel
theorem d_Mod_undefine_16 : decode prog_8_method_24_code 16 = .ok (.ireturn, 1) := by decide +kernel
theorem d_Mod_undefine_17 : decode prog_8_method_24_code 17 = .ok (.aload_n 0, 1) := by decide +kernel
theorem d_Mod_undefine_18 : decode prog_8_method_24_code 18 = .ok (.iload_n 1, 1) := by decide +kernel
theorem d_Mod_undefine_19 : decode prog_8_method_24_code 19 = .ok (.iload_n 2, 1) := by decide +kernel
theorem d_Mod_undefine_20 : decode prog_8_method_24_code 20 = .ok (.iload_n 3, 1) := by decide +kernel
theorem d_Mod_undefine_21 : decode prog_8_method_24_code 21 = .ok (.invokevirtual 119, 3) := by decide +kernel
theorem d_Mod_undefine_24 : decode prog_8_method_24_code 24 = .ok (.istore 4, 2) := by decide +kernel
theorem d_Mod_undefine_26 : decode prog_8_method_24_code 26 = .ok (.iload 4, 2) := by decide +kernel
theorem d_Mod_undefine_28 : decode prog_8_method_24_code 28 = .ok (.ifCond .ge (6), 3) := by decide +kernel
theorem d_Mod_undefine_31 : decode prog_8_method_24_code 31 = .ok (.bipush (-2), 2) := by decide +kernel
theorem d_Mod_undefine_33 : decode prog_8_method_24_code 33 = .ok (.ireturn, 1) := by decide +kernel
theorem d_Mod_undefine_34 : decode prog_8_method_24_code 34 = .ok (.aload_n 0, 1) := by decide +kernel
theorem d_Mod_undefine_35 : decode prog_8_method_24_code 35 = .ok (.iconst (-1), 1) := by decide +kernel
theorem d_Mod_undefine_36 : decode prog_8_method_24_code 36 = .ok (.iload 4, 2) := by decide +kernel
theorem d_Mod_undefine_38 : decode prog_8_method_24_code 38 = .ok (.isub, 1) := by decide +kernel
theorem d_Mod_undefine_39 : decode prog_8_method_24_code 39 = .ok (.invokevirtual 101, 3) := by decide +kernel
theorem d_Mod_undefine_42 : decode prog_8_method_24_code 42 = .ok (.ifCond .ne (6), 3) := by decide +kernel
theorem d_Mod_undefine_45 : decode prog_8_method_24_code 45 = .ok (.bipush (-3), 2) := by decide +kernel
theorem d_Mod_undefine_47 : decode prog_8_method_24_code 47 = .ok (.ireturn, 1) := by decide +kernel
theorem d_Mod_undefine_48 : decode prog_8_method_24_code 48 = .ok (.aload_n 0, 1) := by decide +kernel
theorem d_Mod_undefine_49 : decode prog_8_method_24_code 49 = .ok (.getfield 47, 3) := by decide +kernel
theorem d_Mod_undefine_52 : decode prog_8_method_24_code 52 = .ok (.iload 4, 2) := by decide +kernel
theorem d_Mod_undefine_54 : decode prog_8_method_24_code 54 = .ok (.iconst (1), 1) := by decide +kernel
theorem d_Mod_undefine_55 : decode prog_8_method_24_code 55 = .ok (.bastore, 1) := by decide +kernel
theorem d_Mod_undefine_56 : decode prog_8_method_24_code 56 = .ok (.iconst (1), 1) := by decide +kernel
theorem d_Mod_undefine_57 : decode prog_8_method_24_code 57 = .ok (.ireturn, 1) := by decide +kernel
theorem d_Mod_count_0 : decode prog_8_method_25_code 0 = .ok (.aload_n 0, 1) := by decide +kernel
theorem d_Mod_count_1 : decode prog_8_method_25_code 1 = .ok (.iload_n 1, 1) := by decide +kernel
theorem d_Mod_count_2 : decode prog_8_method_25_code 2 = .ok (.invokevirtual 110, 3) := by decide +kernel
theorem d_Mod_count_5 : decode prog_8_method_25_code 5 = .ok (.ifCond .ne (5), 3) := by decide +kernel
theorem d_Mod_count_8 : decode prog_8_method_25_code 8 = .ok (.iconst (-1), 1) := by decide +kernel
theorem d_Mod_count_9 : decode prog_8_method_25_code 9 = .ok (.ireturn, 1) := by decide +kernel
theorem d_Mod_count_10 : decode prog_8_method_25_code 10 = .ok (.iconst (0), 1) := by decide +kernel
theorem d_Mod_count_11 : decode prog_8_method_25_code 11 = .ok (.istore_n 2, 1) := by decide +kernel
theorem d_Mod_count_12 : decode prog_8_method_25_code 12 = .ok (.iconst (0), 1) := by decide +kernel
theorem d_Mod_count_13 : decode prog_8_method_25_code 13 = .ok (.istore_n 3, 1) := by decide +kernel
theorem d_Mod_count_14 : decode prog_8_method_25_code 14 = .ok (.iload_n 3, 1) := by decide +kernel
theorem d_Mod_count_15 : decode prog_8_method_25_code 15 = .ok (.aload_n 0, 1) := by decide +kernel
theorem d_Mod_count_16 : decode prog_8_method_25_code 16 = .ok (.getfield 107, 3) := by decide +kernel
theorem d_Mod_count_19 : decode prog_8_method_25_code 19 = .ok (.if_icmp .ge (36), 3) := by decide +kernel
theorem d_Mod_count_22 : decode prog_8_method_25_code 22 = .ok (.iload_n 2, 1) := by decide +kernel
theorem d_Mod_count_23 : decode prog_8_method_25_code 23 = .ok (.aload_n 0, 1) := by decide +kernel
theorem d_Mod_count_24 : decode prog_8_method_25_code 24 = .ok (.getfield 31, 3) := by decide +kernel
theorem d_Mod_count_27 : decode prog_8_method_25_code 27 = .ok (.iload_n 3, 1) := by decide +kernel
theorem d_Mod_count_28 : decode prog_8_method_25_code 28 = .ok (.saload, 1) := by decide +kernel
theorem d_Mod_count_29 : decode prog_8_method_25_code 29 = .ok (.iload_n 1, 1) := by decide +kernel
theorem d_Mod_count_30 : decode prog_8_method_25_code 30 = .ok (.if_icmp .ne (16), 3) := by decide +kernel
theorem d_Mod_count_33 : decode prog_8_method_25_code 33 = .ok (.aload_n 0, 1) := by decide +kernel
theorem d_Mod_count_34 : decode prog_8_method_25_code 34 = .ok (.getfield 47, 3) := by decide +kernel
theorem d_Mod_count_37 : decode prog_8_method_25_code 37 = .ok (.iload_n 3, 1) := by decide +kernel
theorem d_Mod_count_38 : decode prog_8_method_25_code 38 = .ok (.baload, 1) := by decide +kernel
theorem d_Mod_count_39 : decode prog_8_method_25_code 39 = .ok (.ifCond .ne (7), 3) := by decide +kernel
theorem d_Mod_count_42 : decode prog_8_method_25_code 42 = .ok (.iconst (1), 1) := by decide +kernel
theorem d_Mod_count_43 : decode prog_8_method_25_code 43 = .ok (.goto (4), 3) := by decide +kernel
theorem d_Mod_count_46 : decode prog_8_method_25_code 46 = .ok (.iconst (0), 1) := by decide +kernel
theorem d_Mod_count_47 : decode prog_8_method_25_code 47 = .ok (.iadd, 1) := by decide +kernel
theorem d_Mod_count_48 : decode prog_8_method_25_code 48 = .ok (.istore_n 2, 1) := by decide +kernel
theorem d_Mod_count_49 : decode prog_8_method_25_code 49 = .ok (.iinc 3 (1), 3) := by decide +kernel
theorem d_Mod_count_52 : decode prog_8_method_25_code 52 = .ok (.goto (-38), 3) := by decide +kernel
theorem d_Mod_count_55 : decode prog_8_method_25_code 55 = .ok (.iload_n 2, 1) := by decide +kernel
theorem d_Mod_count_56 : decode prog_8_method_25_code 56 = .ok (.ireturn, 1) := by decide +kernel
theorem d_Mod_next_0 : decode prog_8_method_26_code 0 = .ok (.aload_n 0, 1) := by decide +kernel
theorem d_Mod_next_1 : decode prog_8_method_26_code 1 = .ok (.iload_n 1, 1) := by decide +kernel
theorem d_Mod_next_2 : decode prog_8_method_26_code 2 = .ok (.invokevirtual 110, 3) := by decide +kernel
theorem d_Mod_next_5 : decode prog_8_method_26_code 5 = .ok (.ifCond .eq (13), 3) := by decide +kernel
theorem d_Mod_next_8 : decode prog_8_method_26_code 8 = .ok (.iload_n 2, 1) := by decide +kernel
theorem d_Mod_next_9 : decode prog_8_method_26_code 9 = .ok (.ifCond .lt (9), 3) := by decide +kernel
theorem d_Mod_next_12 : decode prog_8_method_26_code 12 = .ok (.iload_n 2, 1) := by decide +kernel
theorem d_Mod_next_13 : decode prog_8_method_26_code 13 = .ok (.bipush (15), 2) := by decide +kernel
theorem d_Mod_next_15 : decode prog_8_method_26_code 15 = .ok (.if_icmp .le (5), 3) := by decide +kernel
theorem d_Mod_next_18 : decode prog_8_method_26_code 18 = .ok (.iconst (-1), 1) := by decide +kernel
theorem d_Mod_next_19 : decode prog_8_method_26_code 19 = .ok (.ireturn, 1) := by decide +kernel
theorem d_Mod_next_20 : decode prog_8_method_26_code 20 = .ok (.iload_n 2, 1) := by decide +kernel
theorem d_Mod_next_21 : decode prog_8_method_26_code 21 = .ok (.ifCond .ne (7), 3) := by decide +kernel
theorem d_Mod_next_24 : decode prog_8_method_26_code 24 = .ok (.iconst (-1), 1) := by decide +kernel
theorem d_Mod_next_25 : decode prog_8_method_26_code 25 = .ok (.goto (10), 3) := by decide +kernel
theorem d_Mod_next_28 : decode prog_8_method_26_code 28 = .ok (.aload_n 0, 1) := by decide +kernel
theorem d_Mod_next_29 : decode prog_8_method_26_code 29 = .ok (.iload_n 1, 1) := by decide +kernel
theorem d_Mod_next_30 : decode prog_8_method_26_code 30 = .ok (.iload_n 2, 1) := by decide +kernel
theorem d_Mod_next_31 : decode prog_8_method_26_code 31 = .ok (.iload_n 3, 1) := by decide +kernel
theorem d_Mod_next_32 : decode prog_8_method_26_code 32 = .ok (.invokevirtual 116, 3) := by decide +kernel
theorem d_Mod_next_35 : decode prog_8_method_26_code 35 = .ok (.istore 4, 2) := by decide +kernel
theorem d_Mod_next_37 : decode prog_8_method_26_code 37 = .ok (.iload_n 2, 1) := by decide +kernel
theorem d_Mod_next_38 : decode prog_8_method_26_code 38 = .ok (.ifCond .le (11), 3) := by decide +kernel
theorem d_Mod_next_41 : decode prog_8_method_26_code 41 = .ok (.iload 4, 2) := by decide +kernel
theorem d_Mod_next_43 : decode prog_8_method_26_code 43 = .ok (.ifCond .ge (6), 3) := by decide +kernel
theorem d_Mod_next_46 : decode prog_8_method_26_code 46 = .ok (.bipush (-2), 2) := by decide +kernel
theorem d_Mod_next_48 : decode prog_8_method_26_code 48 = .ok (.ireturn, 1) := by decide +kernel
theorem d_Mod_next_49 : decode prog_8_method_26_code 49 = .ok (.iinc 4 (1), 3) := by decide +kernel
theorem d_Mod_next_52 : decode prog_8_method_26_code 52 = .ok (.iload 4, 2) := by decide +kernel
theorem d_Mod_next_54 : decode prog_8_method_26_code 54 = .ok (.aload_n 0, 1) := by decide +kernel
theorem d_Mod_next_55 : decode prog_8_method_26_code 55 = .ok (.getfield 107, 3) := by decide +kernel
theorem d_Mod_next_58 : decode prog_8_method_26_code 58 = .ok (.if_icmp .ge (30), 3) := by decide +kernel
theorem d_Mod_next_61 : decode prog_8_method_26_code 61 = .ok (.aload_n 0, 1) := by decide +kernel
theorem d_Mod_next_62 : decode prog_8_method_26_code 62 = .ok (.getfield 31, 3) := by decide +kernel
theorem d_Mod_next_65 : decode prog_8_method_26_code 65 = .ok (.iload 4, 2) := by decide +kernel
theorem d_Mod_next_67 : decode prog_8_method_26_code 67 = .ok (.saload, 1) := by decide +kernel
theorem d_Mod_next_68 : decode prog_8_method_26_code 68 = .ok (.iload_n 1, 1) := by decide +kernel
theorem d_Mod_next_69 : decode prog_8_method_26_code 69 = .ok (.if_icmp .ne (13), 3) := by decide +kernel
theorem d_Mod_next_72 : decode prog_8_method_26_code 72 = .ok (.aload_n 0, 1) := by decide +kernel
theorem d_Mod_next_73 : decode prog_8_method_26_code 73 = .ok (.getfield 47, 3) := by decide +kernel
theorem d_Mod_next_76 : decode prog_8_method_26_code 76 = .ok (.iload 4, 2) := by decide +kernel
theorem d_Mod_next_78 : decode prog_8_method_26_code 78 = .ok (.baload, 1) := by decide +kernel
theorem d_Mod_next_79 : decode prog_8_method_26_code 79 = .ok (.ifCond .eq (9), 3) := by decide +kernel
theorem d_Mod_next_82 : decode prog_8_method_26_code 82 = .ok (.iinc 4 (1), 3) := by decide +kernel
theorem d_Mod_next_85 : decode prog_8_method_26_code 85 = .ok (.goto (-33), 3) := by decide +kernel
theorem d_Mod_next_88 : decode prog_8_method_26_code 88 = .ok (.aload_n 0, 1) := by decide +kernel
theorem d_Mod_next_89 : decode prog_8_method_26_code 89 = .ok (.iload 4, 2) := by decide +kernel
theorem d_Mod_next_91 : decode prog_8_method_26_code 91 = .ok (.aload_n 0, 1) := by decide +kernel
theorem d_Mod_next_92 : decode prog_8_method_26_code 92 = .ok (.getfield 107, 3) := by decide +kernel
theorem d_Mod_next_95 : decode prog_8_method_26_code 95 = .ok (.if_icmp .ge (13), 3) := by decide +kernel
theorem d_Mod_next_98 : decode prog_8_method_26_code 98 = .ok (.aload_n 0, 1) := by decide +kernel
theorem d_Mod_next_99 : decode prog_8_method_26_code 99 = .ok (.getfield 35, 3) := by decide +kernel
theorem d_Mod_next_102 : decode prog_8_method_26_code 102 = .ok (.iload 4, 2) := by decide +kernel
theorem d_Mod_next_104 : decode prog_8_method_26_code 104 = .ok (.baload, 1) := by decide +kernel
theorem d_Mod_next_105 : decode prog_8_method_26_code 105 = .ok (.goto (4), 3) := by decide +kernel
theorem d_Mod_next_108 : decode prog_8_method_26_code 108 = .ok (.iconst (0), 1) := by decide +kernel
theorem d_Mod_next_109 : decode prog_8_method_26_code 109 = .ok (.putfield 122, 3) := by decide +kernel
theorem d_Mod_next_112 : decode prog_8_method_26_code 112 = .ok (.aload_n 0, 1) := by decide +kernel
theorem d_Mod_next_113 : decode prog_8_method_26_code 113 = .ok (.iload 4, 2) := by decide +kernel
theorem d_Mod_next_115 : decode prog_8_method_26_code 115 = .ok (.aload_n 0, 1) := by decide +kernel
theorem d_Mod_next_116 : decode prog_8_method_26_code 116 = .ok (.getfield 107, 3) := by decide +kernel
theorem d_Mod_next_119 : decode prog_8_method_26_code 119 = .ok (.if_icmp .ge (13), 3) := by decide +kernel
theorem d_Mod_next_122 : decode prog_8_method_26_code 122 = .ok (.aload_n 0, 1) := by decide +kernel
theorem d_Mod_next_123 : decode prog_8_method_26_code 123 = .ok (.getfield 38, 3) := by decide +kernel
theorem d_Mod_next_126 : decode prog_8_method_26_code 126 = .ok (.iload 4, 2) := by decide +kernel
theorem d_Mod_next_128 : decode prog_8_method_26_code 128 = .ok (.iaload, 1) := by decide +kernel
theorem d_Mod_next_129 : decode prog_8_method_26_code 129 = .ok (.goto (4), 3) := by decide +kernel
theorem d_Mod_next_132 : decode prog_8_method_26_code 132 = .ok (.iconst (0), 1) := by decide +kernel
theorem d_Mod_next_133 : decode prog_8_method_26_code 133 = .ok (.putfield 125, 3) := by decide +kernel
theorem d_Mod_next_136 : decode prog_8_method_26_code 136 = .ok (.iload 4, 2) := by decide +kernel
theorem d_Mod_next_138 : decode prog_8_method_26_code 138 = .ok (.aload_n 0, 1) := by decide +kernel
theorem d_Mod_next_139 : decode prog_8_method_26_code 139 = .ok (.getfield 107, 3) := by decide +kernel
theorem d_Mod_next_142 : decode prog_8_method_26_code 142 = .ok (.if_icmp .ge (7), 3) := by decide +kernel
theorem d_Mod_next_145 : decode prog_8_method_26_code 145 = .ok (.iconst (1), 1) := by decide +kernel
theorem d_Mod_next_146 : decode prog_8_method_26_code 146 = .ok (.goto (4), 3) := by decide +kernel
theorem d_Mod_next_149 : decode prog_8_method_26_code 149 = .ok (.iconst (0), 1) := by decide +kernel
theorem d_Mod_next_150 : decode prog_8_method_26_code 150 = .ok (.ireturn, 1) := by decide +kernel
theorem d_Mod_cursorKind_0 : decode prog_8_method_27_code 0 = .ok (.aload_n 0, 1) := by decide +kernel
theorem d_Mod_cursorKind_1 : decode prog_8_method_27_code 1 = .ok (.getfield 122, 3) := by decide +kernel
theorem d_Mod_cursorKind_4 : decode prog_8_method_27_code 4 = .ok (.ireturn, 1) := by decide +kernel
theorem d_Mod_cursorNumber_0 : decode prog_8_method_28_code 0 = .ok (.aload_n 0, 1) := by decide +kernel
theorem d_Mod_cursorNumber_1 : decode prog_8_method_28_code 1 = .ok (.getfield 125, 3) := by decide +kernel
theorem d_Mod_cursorNumber_4 : decode prog_8_method_28_code 4 = .ok (.ireturn, 1) := by decide +kernel
theorem d_Mod_save_0 : decode prog_8_method_30_code 0 = .ok (.aload_n 0, 1) := by decide +kernel
theorem d_Mod_save_1 : decode prog_8_method_30_code 1 = .ok (.getfield 88, 3) := by decide +kernel
theorem d_Mod_save_4 : decode prog_8_method_30_code 4 = .ok (.bipush (15), 2) := by decide +kernel
theorem d_Mod_save_6 : decode prog_8_method_30_code 6 = .ok (.if_icmp .ne (6), 3) := by decide +kernel
theorem d_Mod_save_9 : decode prog_8_method_30_code 9 = .ok (.bipush (-3), 2) := by decide +kernel
theorem d_Mod_save_11 : decode prog_8_method_30_code 11 = .ok (.ireturn, 1) := by decide +kernel
theorem d_Mod_save_12 : decode prog_8_method_30_code 12 = .ok (.aload_n 0, 1) := by decide +kernel
theorem d_Mod_save_13 : decode prog_8_method_30_code 13 = .ok (.dup, 1) := by decide +kernel
theorem d_Mod_save_14 : decode prog_8_method_30_code 14 = .ok (.getfield 88, 3) := by decide +kernel
theorem d_Mod_save_17 : decode prog_8_method_30_code 17 = .ok (.iconst (1), 1) := by decide +kernel
theorem d_Mod_save_18 : decode prog_8_method_30_code 18 = .ok (.iadd, 1) := by decide +kernel
theorem d_Mod_save_19 : decode prog_8_method_30_code 19 = .ok (.putfield 88, 3) := by decide +kernel
theorem d_Mod_save_22 : decode prog_8_method_30_code 22 = .ok (.iconst (0), 1) := by decide +kernel
theorem d_Mod_save_23 : decode prog_8_method_30_code 23 = .ok (.istore_n 1, 1) := by decide +kernel
theorem d_Mod_save_24 : decode prog_8_method_30_code 24 = .ok (.iload_n 1, 1) := by decide +kernel
theorem d_Mod_save_25 : decode prog_8_method_30_code 25 = .ok (.iconst (5), 1) := by decide +kernel
theorem d_Mod_save_26 : decode prog_8_method_30_code 26 = .ok (.if_icmp .ge (27), 3) := by decide +kernel
theorem d_Mod_save_29 : decode prog_8_method_30_code 29 = .ok (.aload_n 0, 1) := by decide +kernel
theorem d_Mod_save_30 : decode prog_8_method_30_code 30 = .ok (.getfield 51, 3) := by decide +kernel
theorem d_Mod_save_33 : decode prog_8_method_30_code 33 = .ok (.iconst (5), 1) := by decide +kernel
theorem d_Mod_save_34 : decode prog_8_method_30_code 34 = .ok (.aload_n 0, 1) := by decide +kernel
theorem d_Mod_save_35 : decode prog_8_method_30_code 35 = .ok (.getfield 88, 3) := by decide +kernel
theorem d_Mod_save_38 : decode prog_8_method_30_code 38 = .ok (.imul, 1) := by decide +kernel
theorem d_Mod_save_39 : decode prog_8_method_30_code 39 = .ok (.iload_n 1, 1) := by decide +kernel
theorem d_Mod_save_40 : decode prog_8_method_30_code 40 = .ok (.iadd, 1) := by decide +kernel
theorem d_Mod_save_41 : decode prog_8_method_30_code 41 = .ok (.aload_n 0, 1) := by decide +kernel
theorem d_Mod_save_42 : decode prog_8_method_30_code 42 = .ok (.iload_n 1, 1) := by decide +kernel
theorem d_Mod_save_43 : decode prog_8_method_30_code 43 = .ok (.invokevirtual 128, 3) := by decide +kernel
theorem d_Mod_save_46 : decode prog_8_method_30_code 46 = .ok (.iastore, 1) := by decide +kernel
theorem d_Mod_save_47 : decode prog_8_method_30_code 47 = .ok (.iinc 1 (1), 3) := by decide +kernel
theorem d_Mod_save_50 : decode prog_8_method_30_code 50 = .ok (.goto (-26), 3) := by decide +kernel
theorem d_Mod_save_53 : decode prog_8_method_30_code 53 = .ok (.aload_n 0, 1) := by decide +kernel
theorem d_Mod_save_54 : decode prog_8_method_30_code 54 = .ok (.getfield 54, 3) := by decide +kernel
theorem d_Mod_save_57 : decode prog_8_method_30_code 57 = .ok (.aload_n 0, 1) := by decide +kernel
theorem d_Mod_save_58 : decode prog_8_method_30_code 58 = .ok (.getfield 88, 3) := by decide +kernel
theorem d_Mod_save_61 : decode prog_8_method_30_code 61 = .ok (.aload_n 0, 1) := by decide +kernel
theorem d_Mod_save_62 : decode prog_8_method_30_code 62 = .ok (.getfield 91, 3) := by decide +kernel
theorem d_Mod_save_65 : decode prog_8_method_30_code 65 = .ok (.iastore, 1) := by decide +kernel
theorem d_Mod_save_66 : decode prog_8_method_30_code 66 = .ok (.aload_n 0, 1) := by decide +kernel
theorem d_Mod_save_67 : decode prog_8_method_30_code 67 = .ok (.getfield 88, 3) := by decide +kernel
theorem d_Mod_save_70 : decode prog_8_method_30_code 70 = .ok (.ireturn, 1) := by decide +kernel
theorem d_Mod_now_0 : decode prog_8_method_29_code 0 = .ok (.iload_n 1, 1) := by decide +kernel
theorem d_Mod_now_1 : decode prog_8_method_29_code 1 = .ok (.ifCond .ne (10), 3) := by decide +kernel
theorem d_Mod_now_4 : decode prog_8_method_29_code 4 = .ok (.aload_n 0, 1) := by decide +kernel
theorem d_Mod_now_5 : decode prog_8_method_29_code 5 = .ok (.getfield 70, 3) := by decide +kernel
theorem d_Mod_now_8 : decode prog_8_method_29_code 8 = .ok (.goto (43), 3) := by decide +kernel
theorem d_Mod_now_11 : decode prog_8_method_29_code 11 = .ok (.iload_n 1, 1) := by decide +kernel
theorem d_Mod_now_12 : decode prog_8_method_29_code 12 = .ok (.iconst (1), 1) := by decide +kernel
theorem d_Mod_now_13 : decode prog_8_method_29_code 13 = .ok (.if_icmp .ne (10), 3) := by decide +kernel
theorem d_Mod_now_16 : decode prog_8_method_29_code 16 = .ok (.aload_n 0, 1) := by decide +kernel
theorem d_Mod_now_17 : decode prog_8_method_29_code 17 = .ok (.getfield 74, 3) := by decide +kernel
theorem d_Mod_now_20 : decode prog_8_method_29_code 20 = .ok (.goto (31), 3) := by decide +kernel
theorem d_Mod_now_23 : decode prog_8_method_29_code 23 = .ok (.iload_n 1, 1) := by decide +kernel
theorem d_Mod_now_24 : decode prog_8_method_29_code 24 = .ok (.iconst (2), 1) := by decide +kernel
theorem d_Mod_now_25 : decode prog_8_method_29_code 25 = .ok (.if_icmp .ne (10), 3) := by decide +kernel
theorem d_Mod_now_28 : decode prog_8_method_29_code 28 = .ok (.aload_n 0, 1) := by decide +kernel
theorem d_Mod_now_29 : decode prog_8_method_29_code 29 = .ok (.getfield 81, 3) := by decide +kernel
theorem d_Mod_now_32 : decode prog_8_method_29_code 32 = .ok (.goto (19), 3) := by decide +kernel
theorem d_Mod_now_35 : decode prog_8_method_29_code 35 = .ok (.iload_n 1, 1) := by decide +kernel
theorem d_Mod_now_36 : decode prog_8_method_29_code 36 = .ok (.iconst (3), 1) := by decide +kernel
theorem d_Mod_now_37 : decode prog_8_method_29_code 37 = .ok (.if_icmp .ne (10), 3) := by decide +kernel
theorem d_Mod_now_40 : decode prog_8_method_29_code 40 = .ok (.aload_n 0, 1) := by decide +kernel
theorem d_Mod_now_41 : decode prog_8_method_29_code 41 = .ok (.getfield 104, 3) := by decide +kernel
theorem d_Mod_now_44 : decode prog_8_method_29_code 44 = .ok (.goto (7), 3) := by decide +kernel
theorem d_Mod_now_47 : decode prog_8_method_29_code 47 = .ok (.aload_n 0, 1) := by decide +kernel
theorem d_Mod_now_48 : decode prog_8_method_29_code 48 = .ok (.getfield 107, 3) := by decide +kernel
theorem d_Mod_now_51 : decode prog_8_method_29_code 51 = .ok (.ireturn, 1) := by decide +kernel
theorem d_Mod_restore_0 : decode prog_8_method_32_code 0 = .ok (.iload_n 1, 1) := by decide +kernel
theorem d_Mod_restore_1 : decode prog_8_method_32_code 1 = .ok (.iconst (1), 1) := by decide +kernel
theorem d_Mod_restore_2 : decode prog_8_method_32_code 2 = .ok (.if_icmp .lt (11), 3) := by decide +kernel
theorem d_Mod_restore_5 : decode prog_8_method_32_code 5 = .ok (.iload_n 1, 1) := by decide +kernel
theorem d_Mod_restore_6 : decode prog_8_method_32_code 6 = .ok (.aload_n 0, 1) := by decide +kernel
theorem d_Mod_restore_7 : decode prog_8_method_32_code 7 = .ok (.getfield 88, 3) := by decide +kernel
theorem d_Mod_restore_10 : decode prog_8_method_32_code 10 = .ok (.if_icmp .le (5), 3) := by decide +kernel
theorem d_Mod_restore_13 : decode prog_8_method_32_code 13 = .ok (.iconst (-1), 1) := by decide +kernel
theorem d_Mod_restore_14 : decode prog_8_method_32_code 14 = .ok (.ireturn, 1) := by decide +kernel
theorem d_Mod_restore_15 : decode prog_8_method_32_code 15 = .ok (.aload_n 0, 1) := by decide +kernel
theorem d_Mod_restore_16 : decode prog_8_method_32_code 16 = .ok (.getfield 91, 3) := by decide +kernel
theorem d_Mod_restore_19 : decode prog_8_method_32_code 19 = .ok (.aload_n 0, 1) := by decide +kernel
theorem d_Mod_restore_20 : decode prog_8_method_32_code 20 = .ok (.getfield 54, 3) := by decide +kernel
theorem d_Mod_restore_23 : decode prog_8_method_32_code 23 = .ok (.iload_n 1, 1) := by decide +kernel
theorem d_Mod_restore_24 : decode prog_8_method_32_code 24 = .ok (.iaload, 1) := by decide +kernel
theorem d_Mod_restore_25 : decode prog_8_method_32_code 25 = .ok (.if_icmp .le (10), 3) := by decide +kernel
theorem d_Mod_restore_28 : decode prog_8_method_32_code 28 = .ok (.aload_n 0, 1) := by decide +kernel
theorem d_Mod_restore_29 : decode prog_8_method_32_code 29 = .ok (.invokevirtual 132, 3) := by decide +kernel
theorem d_Mod_restore_32 : decode prog_8_method_32_code 32 = .ok (.goto (-17), 3) := by decide +kernel
theorem d_Mod_restore_35 : decode prog_8_method_32_code 35 = .ok (.aload_n 0, 1) := by decide +kernel
theorem d_Mod_restore_36 : decode prog_8_method_32_code 36 = .ok (.aload_n 0, 1) := by decide +kernel
theorem d_Mod_restore_37 : decode prog_8_method_32_code 37 = .ok (.getfield 51, 3) := by decide +kernel
theorem d_Mod_restore_40 : decode prog_8_method_32_code 40 = .ok (.iconst (5), 1) := by decide +kernel
theorem d_Mod_restore_41 : decode prog_8_method_32_code 41 = .ok (.iload_n 1, 1) := by decide +kernel
theorem d_Mod_restore_42 : decode prog_8_method_32_code 42 = .ok (.imul, 1) := by decide +kernel
theorem d_Mod_restore_43 : decode prog_8_method_32_code 43 = .ok (.iaload, 1) := by decide +kernel
theorem d_Mod_restore_44 : decode prog_8_method_32_code 44 = .ok (.putfield 70, 3) := by decide +kernel
theorem d_Mod_restore_47 : decode prog_8_method_32_code 47 = .ok (.aload_n 0, 1) := by decide +kernel
theorem d_Mod_restore_48 : decode prog_8_method_32_code 48 = .ok (.aload_n 0, 1) := by decide +kernel
theorem d_Mod_restore_49 : decode prog_8_method_32_code 49 = .ok (.getfield 51, 3) := by decide +kernel
theorem d_Mod_restore_52 : decode prog_8_method_32_code 52 = .ok (.iconst (5), 1) := by decide +kernel
theorem d_Mod_restore_53 : decode prog_8_method_32_code 53 = .ok (.iload_n 1, 1) := by decide +kernel
theorem d_Mod_restore_54 : decode prog_8_method_32_code 54 = .ok (.imul, 1) := by decide +kernel
theorem d_Mod_restore_55 : decode prog_8_method_32_code 55 = .ok (.iconst (1), 1) := by decide +kernel
theorem d_Mod_restore_56 : decode prog_8_method_32_code 56 = .ok (.iadd, 1) := by decide +kernel
theorem d_Mod_restore_57 : decode prog_8_method_32_code 57 = .ok (.iaload, 1) := by decide +kernel
theorem d_Mod_restore_58 : decode prog_8_method_32_code 58 = .ok (.putfield 74, 3) := by decide +kernel
theorem d_Mod_restore_61 : decode prog_8_method_32_code 61 = .ok (.aload_n 0, 1) := by decide +kernel
theorem d_Mod_restore_62 : decode prog_8_method_32_code 62 = .ok (.aload_n 0, 1) := by decide +kernel
theorem d_Mod_restore_63 : decode prog_8_method_32_code 63 = .ok (.getfield 51, 3) := by decide +kernel
theorem d_Mod_restore_66 : decode prog_8_method_32_code 66 = .ok (.iconst (5), 1) := by decide +kernel
theorem d_Mod_restore_67 : decode prog_8_method_32_code 67 = .ok (.iload_n 1, 1) := by decide +kernel
theorem d_Mod_restore_68 : decode prog_8_method_32_code 68 = .ok (.imul, 1) := by decide +kernel
theorem d_Mod_restore_69 : decode prog_8_method_32_code 69 = .ok (.iconst (2), 1) := by decide +kernel
theorem d_Mod_restore_70 : decode prog_8_method_32_code 70 = .ok (.iadd, 1) := by decide +kernel
theorem d_Mod_restore_71 : decode prog_8_method_32_code 71 = .ok (.iaload, 1) := by decide +kernel
theorem d_Mod_restore_72 : decode prog_8_method_32_code 72 = .ok (.putfield 81, 3) := by decide +kernel
theorem d_Mod_restore_75 : decode prog_8_method_32_code 75 = .ok (.aload_n 0, 1) := by decide +kernel
theorem d_Mod_restore_76 : decode prog_8_method_32_code 76 = .ok (.aload_n 0, 1) := by decide +kernel
theorem d_Mod_restore_77 : decode prog_8_method_32_code 77 = .ok (.getfield 51, 3) := by decide +kernel
theorem d_Mod_restore_80 : decode prog_8_method_32_code 80 = .ok (.iconst (5), 1) := by decide +kernel
theorem d_Mod_restore_81 : decode prog_8_method_32_code 81 = .ok (.iload_n 1, 1) := by decide +kernel
theorem d_Mod_restore_82 : decode prog_8_method_32_code 82 = .ok (.imul, 1) := by decide +kernel
theorem d_Mod_restore_83 : decode prog_8_method_32_code 83 = .ok (.iconst (3), 1) := by decide +kernel
theorem d_Mod_restore_84 : decode prog_8_method_32_code 84 = .ok (.iadd, 1) := by decide +kernel
theorem d_Mod_restore_85 : decode prog_8_method_32_code 85 = .ok (.iaload, 1) := by decide +kernel
theorem d_Mod_restore_86 : decode prog_8_method_32_code 86 = .ok (.putfield 104, 3) := by decide +kernel
theorem d_Mod_restore_89 : decode prog_8_method_32_code 89 = .ok (.aload_n 0, 1) := by decide +kernel
theorem d_Mod_restore_90 : decode prog_8_method_32_code 90 = .ok (.aload_n 0, 1) := by decide +kernel
theorem d_Mod_restore_91 : decode prog_8_method_32_code 91 = .ok (.getfield 51, 3) := by decide +kernel
theorem d_Mod_restore_94 : decode prog_8_method_32_code 94 = .ok (.iconst (5), 1) := by decide +kernel
theorem d_Mod_restore_95 : decode prog_8_method_32_code 95 = .ok (.iload_n 1, 1) := by decide +kernel
theorem d_Mod_restore_96 : decode prog_8_method_32_code 96 = .ok (.imul, 1) := by decide +kernel
theorem d_Mod_restore_97 : decode prog_8_method_32_code 97 = .ok (.iconst (4), 1) := by decide +kernel
theorem d_Mod_restore_98 : decode prog_8_method_32_code 98 = .ok (.iadd, 1) := by decide +kernel
theorem d_Mod_restore_99 : decode prog_8_method_32_code 99 = .ok (.iaload, 1) := by decide +kernel
theorem d_Mod_restore_100 : decode prog_8_method_32_code 100 = .ok (.putfield 107, 3) := by decide +kernel
theorem d_Mod_restore_103 : decode prog_8_method_32_code 103 = .ok (.aload_n 0, 1) := by decide +kernel
theorem d_Mod_restore_104 : decode prog_8_method_32_code 104 = .ok (.iload_n 1, 1) := by decide +kernel
theorem d_Mod_restore_105 : decode prog_8_method_32_code 105 = .ok (.iconst (1), 1) := by decide +kernel
theorem d_Mod_restore_106 : decode prog_8_method_32_code 106 = .ok (.isub, 1) := by decide +kernel
theorem d_Mod_restore_107 : decode prog_8_method_32_code 107 = .ok (.putfield 88, 3) := by decide +kernel
theorem d_Mod_restore_110 : decode prog_8_method_32_code 110 = .ok (.aload_n 0, 1) := by decide +kernel
theorem d_Mod_restore_111 : decode prog_8_method_32_code 111 = .ok (.getfield 88, 3) := by decide +kernel
theorem d_Mod_restore_114 : decode prog_8_method_32_code 114 = .ok (.ireturn, 1) := by decide +kernel
theorem d_Mod_back_0 : decode prog_8_method_31_code 0 = .ok (.aload_n 0, 1) := by decide +kernel
theorem d_Mod_back_1 : decode prog_8_method_31_code 1 = .ok (.dup, 1) := by decide +kernel
theorem d_Mod_back_2 : decode prog_8_method_31_code 2 = .ok (.getfield 91, 3) := by decide +kernel
theorem d_Mod_back_5 : decode prog_8_method_31_code 5 = .ok (.iconst (1), 1) := by decide +kernel
theorem d_Mod_back_6 : decode prog_8_method_31_code 6 = .ok (.isub, 1) := by decide +kernel
theorem d_Mod_back_7 : decode prog_8_method_31_code 7 = .ok (.putfield 91, 3) := by decide +kernel
theorem d_Mod_back_10 : decode prog_8_method_31_code 10 = .ok (.aload_n 0, 1) := by decide +kernel
theorem d_Mod_back_11 : decode prog_8_method_31_code 11 = .ok (.getfield 58, 3) := by decide +kernel
theorem d_Mod_back_14 : decode prog_8_method_31_code 14 = .ok (.aload_n 0, 1) := by decide +kernel
theorem d_Mod_back_15 : decode prog_8_method_31_code 15 = .ok (.getfield 91, 3) := by decide +kernel
theorem d_Mod_back_18 : decode prog_8_method_31_code 18 = .ok (.iaload, 1) := by decide +kernel
theorem d_Mod_back_19 : decode prog_8_method_31_code 19 = .ok (.istore_n 1, 1) := by decide +kernel
theorem d_Mod_back_20 : decode prog_8_method_31_code 20 = .ok (.iload_n 1, 1) := by decide +kernel
theorem d_Mod_back_21 : decode prog_8_method_31_code 21 = .ok (.ifCond .lt (36), 3) := by decide +kernel
theorem d_Mod_back_24 : decode prog_8_method_31_code 24 = .ok (.aload_n 0, 1) := by decide +kernel
theorem d_Mod_back_25 : decode prog_8_method_31_code 25 = .ok (.getfield 21, 3) := by decide +kernel
theorem d_Mod_back_28 : decode prog_8_method_31_code 28 = .ok (.iload_n 1, 1) := by decide +kernel
theorem d_Mod_back_29 : decode prog_8_method_31_code 29 = .ok (.aload_n 0, 1) := by decide +kernel
theorem d_Mod_back_30 : decode prog_8_method_31_code 30 = .ok (.getfield 61, 3) := by decide +kernel
theorem d_Mod_back_33 : decode prog_8_method_31_code 33 = .ok (.aload_n 0, 1) := by decide +kernel
theorem d_Mod_back_34 : decode prog_8_method_31_code 34 = .ok (.getfield 91, 3) := by decide +kernel
theorem d_Mod_back_37 : decode prog_8_method_31_code 37 = .ok (.baload, 1) := by decide +kernel
theorem d_Mod_back_38 : decode prog_8_method_31_code 38 = .ok (.bastore, 1) := by decide +kernel
theorem d_Mod_back_39 : decode prog_8_method_31_code 39 = .ok (.aload_n 0, 1) := by decide +kernel
theorem d_Mod_back_40 : decode prog_8_method_31_code 40 = .ok (.getfield 24, 3) := by decide +kernel
theorem d_Mod_back_43 : decode prog_8_method_31_code 43 = .ok (.iload_n 1, 1) := by decide +kernel
theorem d_Mod_back_44 : decode prog_8_method_31_code 44 = .ok (.aload_n 0, 1) := by decide +kernel
theorem d_Mod_back_45 : decode prog_8_method_31_code 45 = .ok (.getfield 64, 3) := by decide +kernel
theorem d_Mod_back_48 : decode prog_8_method_31_code 48 = .ok (.aload_n 0, 1) := by decide +kernel
theorem d_Mod_back_49 : decode prog_8_method_31_code 49 = .ok (.getfield 91, 3) := by decide +kernel
theorem d_Mod_back_52 : decode prog_8_method_31_code 52 = .ok (.iaload, 1) := by decide +kernel
theorem d_Mod_back_53 : decode prog_8_method_31_code 53 = .ok (.iastore, 1) := by decide +kernel
theorem d_Mod_back_54 : decode prog_8_method_31_code 54 = .ok (.goto (54), 3) := by decide +kernel
theorem d_Mod_back_57 : decode prog_8_method_31_code 57 = .ok (.aload_n 0, 1) := by decide +kernel
theorem d_Mod_back_58 : decode prog_8_method_31_code 58 = .ok (.getfield 41, 3) := by decide +kernel
theorem d_Mod_back_61 : decode prog_8_method_31_code 61 = .ok (.iconst (-1), 1) := by decide +kernel
theorem d_Mod_back_62 : decode prog_8_method_31_code 62 = .ok (.iload_n 1, 1) := by decide +kernel
theorem d_Mod_back_63 : decode prog_8_method_31_code 63 = .ok (.isub, 1) := by decide +kernel
theorem d_Mod_back_64 : decode prog_8_method_31_code 64 = .ok (.aload_n 0, 1) := by decide +kernel
theorem d_Mod_back_65 : decode prog_8_method_31_code 65 = .ok (.getfield 61, 3) := by decide +kernel
theorem d_Mod_back_68 : decode prog_8_method_31_code 68 = .ok (.aload_n 0, 1) := by decide +kernel
theorem d_Mod_back_69 : decode prog_8_method_31_code 69 = .ok (.getfield 91, 3) := by decide +kernel
theorem d_Mod_back_72 : decode prog_8_method_31_code 72 = .ok (.baload, 1) := by decide +kernel
theorem d_Mod_back_73 : decode prog_8_method_31_code 73 = .ok (.bastore, 1) := by decide +kernel
theorem d_Mod_back_74 : decode prog_8_method_31_code 74 = .ok (.aload_n 0, 1) := by decide +kernel
theorem d_Mod_back_75 : decode prog_8_method_31_code 75 = .ok (.getfield 44, 3) := by decide +kernel
theorem d_Mod_back_78 : decode prog_8_method_31_code 78 = .ok (.iconst (-1), 1) := by decide +kernel
theorem d_Mod_back_79 : decode prog_8_method_31_code 79 = .ok (.iload_n 1, 1) := by decide +kernel
theorem d_Mod_back_80 : decode prog_8_method_31_code 80 = .ok (.isub, 1) := by decide +kernel
theorem d_Mod_back_81 : decode prog_8_method_31_code 81 = .ok (.aload_n 0, 1) := by decide +kernel
theorem d_Mod_back_82 : decode prog_8_method_31_code 82 = .ok (.getfield 64, 3) := by decide +kernel
theorem d_Mod_back_85 : decode prog_8_method_31_code 85 = .ok (.aload_n 0, 1) := by decide +kernel
theorem d_Mod_back_86 : decode prog_8_method_31_code 86 = .ok (.getfield 91, 3) := by decide +kernel
theorem d_Mod_back_89 : decode prog_8_method_31_code 89 = .ok (.iaload, 1) := by decide +kernel
theorem d_Mod_back_90 : decode prog_8_method_31_code 90 = .ok (.iastore, 1) := by decide +kernel
theorem d_Mod_back_91 : decode prog_8_method_31_code 91 = .ok (.aload_n 0, 1) := by decide +kernel
theorem d_Mod_back_92 : decode prog_8_method_31_code 92 = .ok (.getfield 47, 3) := by decide +kernel
theorem d_Mod_back_95 : decode prog_8_method_31_code 95 = .ok (.iconst (-1), 1) := by decide +kernel
theorem d_Mod_back_96 : decode prog_8_method_31_code 96 = .ok (.iload_n 1, 1) := by decide +kernel
theorem d_Mod_back_97 : decode prog_8_method_31_code 97 = .ok (.isub, 1) := by decide +kernel
theorem d_Mod_back_98 : decode prog_8_method_31_code 98 = .ok (.aload_n 0, 1) := by decide +kernel
theorem d_Mod_back_99 : decode prog_8_method_31_code 99 = .ok (.getfield 67, 3) := by decide +kernel
theorem d_Mod_back_102 : decode prog_8_method_31_code 102 = .ok (.aload_n 0, 1) := by decide +kernel
theorem d_Mod_back_103 : decode prog_8_method_31_code 103 = .ok (.getfield 91, 3) := by decide +kernel
theorem d_Mod_back_106 : decode prog_8_method_31_code 106 = .ok (.baload, 1) := by decide +kernel
theorem d_Mod_back_107 : decode prog_8_method_31_code 107 = .ok (.bastore, 1) := by decide +kernel
theorem d_Mod_back_108 : decode prog_8_method_31_code 108 = .ok (.return_, 1) := by decide +kernel
theorem d_Mod_noted_0 : decode prog_8_method_33_code 0 = .ok (.iload_n 1, 1) := by decide +kernel
theorem d_Mod_noted_1 : decode prog_8_method_33_code 1 = .ok (.ifCond .lt (29), 3) := by decide +kernel
theorem d_Mod_noted_4 : decode prog_8_method_33_code 4 = .ok (.iload_n 1, 1) := by decide +kernel
theorem d_Mod_noted_5 : decode prog_8_method_33_code 5 = .ok (.aload_n 0, 1) := by decide +kernel
theorem d_Mod_noted_6 : decode prog_8_method_33_code 6 = .ok (.getfield 88, 3) := by decide +kernel
theorem d_Mod_noted_9 : decode prog_8_method_33_code 9 = .ok (.if_icmp .gt (21), 3) := by decide +kernel
theorem d_Mod_noted_12 : decode prog_8_method_33_code 12 = .ok (.iload_n 2, 1) := by decide +kernel
theorem d_Mod_noted_13 : decode prog_8_method_33_code 13 = .ok (.ifCond .lt (17), 3) := by decide +kernel
theorem d_Mod_noted_16 : decode prog_8_method_33_code 16 = .ok (.iload_n 2, 1) := by decide +kernel
theorem d_Mod_noted_17 : decode prog_8_method_33_code 17 = .ok (.iconst (5), 1) := by decide +kernel
theorem d_Mod_noted_18 : decode prog_8_method_33_code 18 = .ok (.if_icmp .gt (12), 3) := by decide +kernel
theorem d_Mod_noted_21 : decode prog_8_method_33_code 21 = .ok (.iload_n 2, 1) := by decide +kernel
theorem d_Mod_noted_22 : decode prog_8_method_33_code 22 = .ok (.iconst (5), 1) := by decide +kernel
theorem d_Mod_noted_23 : decode prog_8_method_33_code 23 = .ok (.if_icmp .ne (9), 3) := by decide +kernel
theorem d_Mod_noted_26 : decode prog_8_method_33_code 26 = .ok (.iload_n 1, 1) := by decide +kernel
theorem d_Mod_noted_27 : decode prog_8_method_33_code 27 = .ok (.ifCond .le (5), 3) := by decide +kernel
theorem d_Mod_noted_30 : decode prog_8_method_33_code 30 = .ok (.iconst (-1), 1) := by decide +kernel
theorem d_Mod_noted_31 : decode prog_8_method_33_code 31 = .ok (.ireturn, 1) := by decide +kernel
theorem d_Mod_noted_32 : decode prog_8_method_33_code 32 = .ok (.iload_n 2, 1) := by decide +kernel
theorem d_Mod_noted_33 : decode prog_8_method_33_code 33 = .ok (.iconst (5), 1) := by decide +kernel
theorem d_Mod_noted_34 : decode prog_8_method_33_code 34 = .ok (.if_icmp .ne (8), 3) := by decide +kernel
theorem d_Mod_noted_37 : decode prog_8_method_33_code 37 = .ok (.aload_n 0, 1) := by decide +kernel
theorem d_Mod_noted_38 : decode prog_8_method_33_code 38 = .ok (.getfield 91, 3) := by decide +kernel
theorem d_Mod_noted_41 : decode prog_8_method_33_code 41 = .ok (.ireturn, 1) := by decide +kernel
theorem d_Mod_noted_42 : decode prog_8_method_33_code 42 = .ok (.iload_n 1, 1) := by decide +kernel
theorem d_Mod_noted_43 : decode prog_8_method_33_code 43 = .ok (.ifCond .ne (11), 3) := by decide +kernel
theorem d_Mod_noted_46 : decode prog_8_method_33_code 46 = .ok (.aload_n 0, 1) := by decide +kernel
theorem d_Mod_noted_47 : decode prog_8_method_33_code 47 = .ok (.iload_n 2, 1) := by decide +kernel
theorem d_Mod_noted_48 : decode prog_8_method_33_code 48 = .ok (.invokevirtual 128, 3) := by decide +kernel
theorem d_Mod_noted_51 : decode prog_8_method_33_code 51 = .ok (.goto (13), 3) := by decide +kernel
theorem d_Mod_noted_54 : decode prog_8_method_33_code 54 = .ok (.aload_n 0, 1) := by decide +kernel
theorem d_Mod_noted_55 : decode prog_8_method_33_code 55 = .ok (.getfield 51, 3) := by decide +kernel
theorem d_Mod_noted_58 : decode prog_8_method_33_code 58 = .ok (.iconst (5), 1) := by decide +kernel
theorem d_Mod_noted_59 : decode prog_8_method_33_code 59 = .ok (.iload_n 1, 1) := by decide +kernel
theorem d_Mod_noted_60 : decode prog_8_method_33_code 60 = .ok (.imul, 1) := by decide +kernel
theorem d_Mod_noted_61 : decode prog_8_method_33_code 61 = .ok (.iload_n 2, 1) := by decide +kernel
theorem d_Mod_noted_62 : decode prog_8_method_33_code 62 = .ok (.iadd, 1) := by decide +kernel
theorem d_Mod_noted_63 : decode prog_8_method_33_code 63 = .ok (.iaload, 1) := by decide +kernel
theorem d_Mod_noted_64 : decode prog_8_method_33_code 64 = .ok (.ireturn, 1) := by decide +kernel
