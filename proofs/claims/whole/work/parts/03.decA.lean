theorem d_Col_init_0 : decode prog_2_method_1_code 0 = .ok (.aload_n 0, 1) := by decide +kernel
theorem d_Col_init_1 : decode prog_2_method_1_code 1 = .ok (.invokespecial 1, 3) := by decide +kernel
theorem d_Col_init_4 : decode prog_2_method_1_code 4 = .ok (.aload_n 0, 1) := by decide +kernel
theorem d_Col_init_5 : decode prog_2_method_1_code 5 = .ok (.bipush (16), 2) := by decide +kernel
theorem d_Col_init_7 : decode prog_2_method_1_code 7 = .ok (.newarray .int, 2) := by decide +kernel
theorem d_Col_init_9 : decode prog_2_method_1_code 9 = .ok (.putfield 9, 3) := by decide +kernel
theorem d_Col_init_12 : decode prog_2_method_1_code 12 = .ok (.aload_n 0, 1) := by decide +kernel
theorem d_Col_init_13 : decode prog_2_method_1_code 13 = .ok (.iload_n 1, 1) := by decide +kernel
theorem d_Col_init_14 : decode prog_2_method_1_code 14 = .ok (.putfield 13, 3) := by decide +kernel
theorem d_Col_init_17 : decode prog_2_method_1_code 17 = .ok (.return_, 1) := by decide +kernel
theorem d_Row_init_0 : decode prog_5_method_1_code 0 = .ok (.aload_n 0, 1) := by decide +kernel
theorem d_Row_init_1 : decode prog_5_method_1_code 1 = .ok (.invokespecial 3, 3) := by decide +kernel
theorem d_Row_init_4 : decode prog_5_method_1_code 4 = .ok (.aload_n 0, 1) := by decide +kernel
theorem d_Row_init_5 : decode prog_5_method_1_code 5 = .ok (.new 9, 3) := by decide +kernel
theorem d_Row_init_8 : decode prog_5_method_1_code 8 = .ok (.dup, 1) := by decide +kernel
theorem d_Row_init_9 : decode prog_5_method_1_code 9 = .ok (.sipush (16385), 3) := by decide +kernel
theorem d_Row_init_12 : decode prog_5_method_1_code 12 = .ok (.invokespecial 11, 3) := by decide +kernel
theorem d_Row_init_15 : decode prog_5_method_1_code 15 = .ok (.putfield 14, 3) := by decide +kernel
theorem d_Row_init_18 : decode prog_5_method_1_code 18 = .ok (.aload_n 0, 1) := by decide +kernel
theorem d_Row_init_19 : decode prog_5_method_1_code 19 = .ok (.new 9, 3) := by decide +kernel
theorem d_Row_init_22 : decode prog_5_method_1_code 22 = .ok (.dup, 1) := by decide +kernel
theorem d_Row_init_23 : decode prog_5_method_1_code 23 = .ok (.sipush (16385), 3) := by decide +kernel
theorem d_Row_init_26 : decode prog_5_method_1_code 26 = .ok (.invokespecial 11, 3) := by decide +kernel
theorem d_Row_init_29 : decode prog_5_method_1_code 29 = .ok (.putfield 20, 3) := by decide +kernel
theorem d_Row_init_32 : decode prog_5_method_1_code 32 = .ok (.aload_n 0, 1) := by decide +kernel
theorem d_Row_init_33 : decode prog_5_method_1_code 33 = .ok (.new 9, 3) := by decide +kernel
theorem d_Row_init_36 : decode prog_5_method_1_code 36 = .ok (.dup, 1) := by decide +kernel
theorem d_Row_init_37 : decode prog_5_method_1_code 37 = .ok (.sipush (16385), 3) := by decide +kernel
theorem d_Row_init_40 : decode prog_5_method_1_code 40 = .ok (.invokespecial 11, 3) := by decide +kernel
theorem d_Row_init_43 : decode prog_5_method_1_code 43 = .ok (.putfield 23, 3) := by decide +kernel
theorem d_Row_init_46 : decode prog_5_method_1_code 46 = .ok (.return_, 1) := by decide +kernel
theorem d_Val_init_0 : decode prog_6_method_1_code 0 = .ok (.aload_n 0, 1) := by decide +kernel
theorem d_Val_init_1 : decode prog_6_method_1_code 1 = .ok (.invokespecial 3, 3) := by decide +kernel
theorem d_Val_init_4 : decode prog_6_method_1_code 4 = .ok (.aload_n 0, 1) := by decide +kernel
theorem d_Val_init_5 : decode prog_6_method_1_code 5 = .ok (.new 9, 3) := by decide +kernel
theorem d_Val_init_8 : decode prog_6_method_1_code 8 = .ok (.dup, 1) := by decide +kernel
theorem d_Val_init_9 : decode prog_6_method_1_code 9 = .ok (.iload_n 1, 1) := by decide +kernel
theorem d_Val_init_10 : decode prog_6_method_1_code 10 = .ok (.invokespecial 11, 3) := by decide +kernel
theorem d_Val_init_13 : decode prog_6_method_1_code 13 = .ok (.putfield 14, 3) := by decide +kernel
theorem d_Val_init_16 : decode prog_6_method_1_code 16 = .ok (.aload_n 0, 1) := by decide +kernel
theorem d_Val_init_17 : decode prog_6_method_1_code 17 = .ok (.new 9, 3) := by decide +kernel
theorem d_Val_init_20 : decode prog_6_method_1_code 20 = .ok (.dup, 1) := by decide +kernel
theorem d_Val_init_21 : decode prog_6_method_1_code 21 = .ok (.iload_n 1, 1) := by decide +kernel
theorem d_Val_init_22 : decode prog_6_method_1_code 22 = .ok (.invokespecial 11, 3) := by decide +kernel
theorem d_Val_init_25 : decode prog_6_method_1_code 25 = .ok (.putfield 20, 3) := by decide +kernel
theorem d_Val_init_28 : decode prog_6_method_1_code 28 = .ok (.return_, 1) := by decide +kernel
theorem d_Key_init_0 : decode prog_3_method_1_code 0 = .ok (.aload_n 0, 1) := by decide +kernel
theorem d_Key_init_1 : decode prog_3_method_1_code 1 = .ok (.invokespecial 3, 3) := by decide +kernel
theorem d_Key_init_4 : decode prog_3_method_1_code 4 = .ok (.aload_n 0, 1) := by decide +kernel
theorem d_Key_init_5 : decode prog_3_method_1_code 5 = .ok (.new 9, 3) := by decide +kernel
theorem d_Key_init_8 : decode prog_3_method_1_code 8 = .ok (.dup, 1) := by decide +kernel
theorem d_Key_init_9 : decode prog_3_method_1_code 9 = .ok (.sipush (16384), 3) := by decide +kernel
theorem d_Key_init_12 : decode prog_3_method_1_code 12 = .ok (.invokespecial 11, 3) := by decide +kernel
theorem d_Key_init_15 : decode prog_3_method_1_code 15 = .ok (.putfield 14, 3) := by decide +kernel
theorem d_Key_init_18 : decode prog_3_method_1_code 18 = .ok (.aload_n 0, 1) := by decide +kernel
theorem d_Key_init_19 : decode prog_3_method_1_code 19 = .ok (.new 9, 3) := by decide +kernel
theorem d_Key_init_22 : decode prog_3_method_1_code 22 = .ok (.dup, 1) := by decide +kernel
theorem d_Key_init_23 : decode prog_3_method_1_code 23 = .ok (.sipush (16384), 3) := by decide +kernel
theorem d_Key_init_26 : decode prog_3_method_1_code 26 = .ok (.invokespecial 11, 3) := by decide +kernel
theorem d_Key_init_29 : decode prog_3_method_1_code 29 = .ok (.putfield 20, 3) := by decide +kernel
theorem d_Key_init_32 : decode prog_3_method_1_code 32 = .ok (.aload_n 0, 1) := by decide +kernel
theorem d_Key_init_33 : decode prog_3_method_1_code 33 = .ok (.new 9, 3) := by decide +kernel
theorem d_Key_init_36 : decode prog_3_method_1_code 36 = .ok (.dup, 1) := by decide +kernel
theorem d_Key_init_37 : decode prog_3_method_1_code 37 = .ok (.sipush (16384), 3) := by decide +kernel
theorem d_Key_init_40 : decode prog_3_method_1_code 40 = .ok (.invokespecial 11, 3) := by decide +kernel
theorem d_Key_init_43 : decode prog_3_method_1_code 43 = .ok (.putfield 23, 3) := by decide +kernel
theorem d_Key_init_46 : decode prog_3_method_1_code 46 = .ok (.aload_n 0, 1) := by decide +kernel
theorem d_Key_init_47 : decode prog_3_method_1_code 47 = .ok (.new 26, 3) := by decide +kernel
theorem d_Key_init_50 : decode prog_3_method_1_code 50 = .ok (.dup, 1) := by decide +kernel
theorem d_Key_init_51 : decode prog_3_method_1_code 51 = .ok (.sipush (16384), 3) := by decide +kernel
theorem d_Key_init_54 : decode prog_3_method_1_code 54 = .ok (.invokespecial 28, 3) := by decide +kernel
theorem d_Key_init_57 : decode prog_3_method_1_code 57 = .ok (.putfield 29, 3) := by decide +kernel
theorem d_Key_init_60 : decode prog_3_method_1_code 60 = .ok (.return_, 1) := by decide +kernel
theorem d_Mem_init_0 : decode prog_4_method_1_code 0 = .ok (.aload_n 0, 1) := by decide +kernel
theorem d_Mem_init_1 : decode prog_4_method_1_code 1 = .ok (.invokespecial 3, 3) := by decide +kernel
theorem d_Mem_init_4 : decode prog_4_method_1_code 4 = .ok (.aload_n 0, 1) := by decide +kernel
theorem d_Mem_init_5 : decode prog_4_method_1_code 5 = .ok (.new 9, 3) := by decide +kernel
theorem d_Mem_init_8 : decode prog_4_method_1_code 8 = .ok (.dup, 1) := by decide +kernel
theorem d_Mem_init_9 : decode prog_4_method_1_code 9 = .ok (.ldc 11, 2) := by decide +kernel
theorem d_Mem_init_11 : decode prog_4_method_1_code 11 = .ok (.invokespecial 12, 3) := by decide +kernel
theorem d_Mem_init_14 : decode prog_4_method_1_code 14 = .ok (.putfield 15, 3) := by decide +kernel
theorem d_Mem_init_17 : decode prog_4_method_1_code 17 = .ok (.aload_n 0, 1) := by decide +kernel
theorem d_Mem_init_18 : decode prog_4_method_1_code 18 = .ok (.new 9, 3) := by decide +kernel
theorem d_Mem_init_21 : decode prog_4_method_1_code 21 = .ok (.dup, 1) := by decide +kernel
theorem d_Mem_init_22 : decode prog_4_method_1_code 22 = .ok (.ldc 11, 2) := by decide +kernel
theorem d_Mem_init_24 : decode prog_4_method_1_code 24 = .ok (.invokespecial 12, 3) := by decide +kernel
theorem d_Mem_init_27 : decode prog_4_method_1_code 27 = .ok (.putfield 21, 3) := by decide +kernel
theorem d_Mem_init_30 : decode prog_4_method_1_code 30 = .ok (.aload_n 0, 1) := by decide +kernel
theorem d_Mem_init_31 : decode prog_4_method_1_code 31 = .ok (.new 24, 3) := by decide +kernel
theorem d_Mem_init_34 : decode prog_4_method_1_code 34 = .ok (.dup, 1) := by decide +kernel
theorem d_Mem_init_35 : decode prog_4_method_1_code 35 = .ok (.ldc 11, 2) := by decide +kernel
theorem d_Mem_init_37 : decode prog_4_method_1_code 37 = .ok (.invokespecial 26, 3) := by decide +kernel
theorem d_Mem_init_40 : decode prog_4_method_1_code 40 = .ok (.putfield 27, 3) := by decide +kernel
theorem d_Mem_init_43 : decode prog_4_method_1_code 43 = .ok (.return_, 1) := by decide +kernel
theorem d_Val_wipe_0 : decode prog_6_method_3_code 0 = .ok (.aload_n 0, 1) := by decide +kernel
theorem d_Val_wipe_1 : decode prog_6_method_3_code 1 = .ok (.getfield 14, 3) := by decide +kernel
theorem d_Val_wipe_4 : decode prog_6_method_3_code 4 = .ok (.iload_n 1, 1) := by decide +kernel
theorem d_Val_wipe_5 : decode prog_6_method_3_code 5 = .ok (.iload_n 2, 1) := by decide +kernel
theorem d_Val_wipe_6 : decode prog_6_method_3_code 6 = .ok (.invokevirtual 27, 3) := by decide +kernel
theorem d_Val_wipe_9 : decode prog_6_method_3_code 9 = .ok (.aload_n 0, 1) := by decide +kernel
theorem d_Val_wipe_10 : decode prog_6_method_3_code 10 = .ok (.getfield 20, 3) := by decide +kernel
theorem d_Val_wipe_13 : decode prog_6_method_3_code 13 = .ok (.iload_n 1, 1) := by decide +kernel
theorem d_Val_wipe_14 : decode prog_6_method_3_code 14 = .ok (.iload_n 2, 1) := by decide +kernel
theorem d_Val_wipe_15 : decode prog_6_method_3_code 15 = .ok (.invokevirtual 27, 3) := by decide +kernel
theorem d_Val_wipe_18 : decode prog_6_method_3_code 18 = .ok (.return_, 1) := by decide +kernel
theorem d_Col_wipe_0 : decode prog_2_method_4_code 0 = .ok (.iload_n 2, 1) := by decide +kernel
theorem d_Col_wipe_1 : decode prog_2_method_4_code 1 = .ok (.aload_n 0, 1) := by decide +kernel
theorem d_Col_wipe_2 : decode prog_2_method_4_code 2 = .ok (.getfield 9, 3) := by decide +kernel
theorem d_Col_wipe_5 : decode prog_2_method_4_code 5 = .ok (.arraylength, 1) := by decide +kernel
theorem d_Col_wipe_6 : decode prog_2_method_4_code 6 = .ok (.invokestatic 29, 3) := by decide +kernel
theorem d_Col_wipe_9 : decode prog_2_method_4_code 9 = .ok (.istore_n 3, 1) := by decide +kernel
theorem d_Col_wipe_10 : decode prog_2_method_4_code 10 = .ok (.iload_n 1, 1) := by decide +kernel
theorem d_Col_wipe_11 : decode prog_2_method_4_code 11 = .ok (.ifCond .lt (18), 3) := by decide +kernel
theorem d_Col_wipe_14 : decode prog_2_method_4_code 14 = .ok (.iload_n 1, 1) := by decide +kernel
theorem d_Col_wipe_15 : decode prog_2_method_4_code 15 = .ok (.iload_n 3, 1) := by decide +kernel
theorem d_Col_wipe_16 : decode prog_2_method_4_code 16 = .ok (.if_icmp .ge (13), 3) := by decide +kernel
theorem d_Col_wipe_19 : decode prog_2_method_4_code 19 = .ok (.aload_n 0, 1) := by decide +kernel
theorem d_Col_wipe_20 : decode prog_2_method_4_code 20 = .ok (.getfield 9, 3) := by decide +kernel
theorem d_Col_wipe_23 : decode prog_2_method_4_code 23 = .ok (.iload_n 1, 1) := by decide +kernel
theorem d_Col_wipe_24 : decode prog_2_method_4_code 24 = .ok (.iload_n 3, 1) := by decide +kernel
theorem d_Col_wipe_25 : decode prog_2_method_4_code 25 = .ok (.iconst (0), 1) := by decide +kernel
theorem d_Col_wipe_26 : decode prog_2_method_4_code 26 = .ok (.invokestatic 32, 3) := by decide +kernel
theorem d_Col_wipe_29 : decode prog_2_method_4_code 29 = .ok (.return_, 1) := by decide +kernel
theorem d_Arr_fill_0 : decode prog_12_method_104_code 0 = .ok (.aload_n 0, 1) := by decide +kernel
theorem d_Arr_fill_1 : decode prog_12_method_104_code 1 = .ok (.arraylength, 1) := by decide +kernel
theorem d_Arr_fill_2 : decode prog_12_method_104_code 2 = .ok (.iload_n 1, 1) := by decide +kernel
theorem d_Arr_fill_3 : decode prog_12_method_104_code 3 = .ok (.iload_n 2, 1) := by decide +kernel
theorem d_Arr_fill_4 : decode prog_12_method_104_code 4 = .ok (.invokestatic 13, 3) := by decide +kernel
theorem d_Arr_fill_7 : decode prog_12_method_104_code 7 = .ok (.iload_n 1, 1) := by decide +kernel
theorem d_Arr_fill_8 : decode prog_12_method_104_code 8 = .ok (.istore 4, 2) := by decide +kernel
theorem d_Arr_fill_10 : decode prog_12_method_104_code 10 = .ok (.iload 4, 2) := by decide +kernel
theorem d_Arr_fill_12 : decode prog_12_method_104_code 12 = .ok (.iload_n 2, 1) := by decide +kernel
theorem d_Arr_fill_13 : decode prog_12_method_104_code 13 = .ok (.if_icmp .ge (14), 3) := by decide +kernel
theorem d_Arr_fill_16 : decode prog_12_method_104_code 16 = .ok (.aload_n 0, 1) := by decide +kernel
theorem d_Arr_fill_17 : decode prog_12_method_104_code 17 = .ok (.iload 4, 2) := by decide +kernel
theorem d_Arr_fill_19 : decode prog_12_method_104_code 19 = .ok (.iload_n 3, 1) := by decide +kernel
theorem d_Arr_fill_20 : decode prog_12_method_104_code 20 = .ok (.iastore, 1) := by decide +kernel
theorem d_Arr_fill_21 : decode prog_12_method_104_code 21 = .ok (.iinc 4 (1), 3) := by decide +kernel
theorem d_Arr_fill_24 : decode prog_12_method_104_code 24 = .ok (.goto (-14), 3) := by decide +kernel
theorem d_Arr_fill_27 : decode prog_12_method_104_code 27 = .ok (.return_, 1) := by decide +kernel
theorem d_Arr_rangeCheck_0 : decode prog_12_method_30_code 0 = .ok (.iload_n 1, 1) := by decide +kernel
theorem d_Arr_rangeCheck_1 : decode prog_12_method_30_code 1 = .ok (.iload_n 2, 1) := by decide +kernel
theorem d_Arr_rangeCheck_2 : decode prog_12_method_30_code 2 = .ok (.if_icmp .le (44), 3) := by decide +kernel
theorem d_Arr_rangeCheck_8 : decode prog_12_method_30_code 8 = .ok (.dup, 1) := by decide +kernel
theorem d_Arr_rangeCheck_12 : decode prog_12_method_30_code 12 = .ok (.dup, 1) := by decide +kernel
theorem d_Arr_rangeCheck_21 : decode prog_12_method_30_code 21 = .ok (.iload_n 1, 1) := by decide +kernel
theorem d_Arr_rangeCheck_30 : decode prog_12_method_30_code 30 = .ok (.iload_n 2, 1) := by decide +kernel
theorem d_Arr_rangeCheck_46 : decode prog_12_method_30_code 46 = .ok (.iload_n 1, 1) := by decide +kernel
theorem d_Arr_rangeCheck_47 : decode prog_12_method_30_code 47 = .ok (.ifCond .ge (12), 3) := by decide +kernel
theorem d_Arr_rangeCheck_53 : decode prog_12_method_30_code 53 = .ok (.dup, 1) := by decide +kernel
theorem d_Arr_rangeCheck_54 : decode prog_12_method_30_code 54 = .ok (.iload_n 1, 1) := by decide +kernel
theorem d_Arr_rangeCheck_59 : decode prog_12_method_30_code 59 = .ok (.iload_n 2, 1) := by decide +kernel
theorem d_Arr_rangeCheck_60 : decode prog_12_method_30_code 60 = .ok (.iload_n 0, 1) := by decide +kernel
theorem d_Arr_rangeCheck_61 : decode prog_12_method_30_code 61 = .ok (.if_icmp .le (12), 3) := by decide +kernel
theorem d_Arr_rangeCheck_67 : decode prog_12_method_30_code 67 = .ok (.dup, 1) := by decide +kernel
theorem d_Arr_rangeCheck_68 : decode prog_12_method_30_code 68 = .ok (.iload_n 2, 1) := by decide +kernel
theorem d_Arr_rangeCheck_73 : decode prog_12_method_30_code 73 = .ok (.return_, 1) := by decide +kernel
theorem d_Row_write_0 : decode prog_5_method_2_code 0 = .ok (.aload_n 0, 1) := by decide +kernel
theorem d_Row_write_1 : decode prog_5_method_2_code 1 = .ok (.getfield 14, 3) := by decide +kernel
theorem d_Row_write_4 : decode prog_5_method_2_code 4 = .ok (.iload_n 1, 1) := by decide +kernel
theorem d_Row_write_5 : decode prog_5_method_2_code 5 = .ok (.iload_n 2, 1) := by decide +kernel
theorem d_Row_write_6 : decode prog_5_method_2_code 6 = .ok (.invokevirtual 26, 3) := by decide +kernel
theorem d_Row_write_9 : decode prog_5_method_2_code 9 = .ok (.aload_n 0, 1) := by decide +kernel
theorem d_Row_write_10 : decode prog_5_method_2_code 10 = .ok (.getfield 20, 3) := by decide +kernel
theorem d_Row_write_13 : decode prog_5_method_2_code 13 = .ok (.iload_n 1, 1) := by decide +kernel
theorem d_Row_write_14 : decode prog_5_method_2_code 14 = .ok (.iload_n 3, 1) := by decide +kernel
theorem d_Row_write_15 : decode prog_5_method_2_code 15 = .ok (.invokevirtual 26, 3) := by decide +kernel
theorem d_Row_write_18 : decode prog_5_method_2_code 18 = .ok (.aload_n 0, 1) := by decide +kernel
theorem d_Row_write_19 : decode prog_5_method_2_code 19 = .ok (.getfield 23, 3) := by decide +kernel
theorem d_Row_write_22 : decode prog_5_method_2_code 22 = .ok (.iload_n 1, 1) := by decide +kernel
theorem d_Row_write_23 : decode prog_5_method_2_code 23 = .ok (.iload 4, 2) := by decide +kernel
theorem d_Row_write_25 : decode prog_5_method_2_code 25 = .ok (.invokevirtual 26, 3) := by decide +kernel
theorem d_Row_write_28 : decode prog_5_method_2_code 28 = .ok (.return_, 1) := by decide +kernel
theorem d_Col_put_0 : decode prog_2_method_3_code 0 = .ok (.iload_n 1, 1) := by decide +kernel
theorem d_Col_put_1 : decode prog_2_method_3_code 1 = .ok (.ifCond .lt (11), 3) := by decide +kernel
theorem d_Col_put_4 : decode prog_2_method_3_code 4 = .ok (.iload_n 1, 1) := by decide +kernel
theorem d_Col_put_5 : decode prog_2_method_3_code 5 = .ok (.aload_n 0, 1) := by decide +kernel
theorem d_Col_put_6 : decode prog_2_method_3_code 6 = .ok (.getfield 13, 3) := by decide +kernel
theorem d_Col_put_9 : decode prog_2_method_3_code 9 = .ok (.if_icmp .lt (4), 3) := by decide +kernel
theorem d_Col_put_12 : decode prog_2_method_3_code 12 = .ok (.return_, 1) := by decide +kernel
theorem d_Col_put_13 : decode prog_2_method_3_code 13 = .ok (.iload_n 1, 1) := by decide +kernel
theorem d_Col_put_14 : decode prog_2_method_3_code 14 = .ok (.aload_n 0, 1) := by decide +kernel
theorem d_Col_put_15 : decode prog_2_method_3_code 15 = .ok (.getfield 9, 3) := by decide +kernel
theorem d_Col_put_18 : decode prog_2_method_3_code 18 = .ok (.arraylength, 1) := by decide +kernel
theorem d_Col_put_19 : decode prog_2_method_3_code 19 = .ok (.if_icmp .lt (46), 3) := by decide +kernel
theorem d_Col_put_22 : decode prog_2_method_3_code 22 = .ok (.iload_n 1, 1) := by decide +kernel
theorem d_Col_put_23 : decode prog_2_method_3_code 23 = .ok (.iconst (1), 1) := by decide +kernel
theorem d_Col_put_24 : decode prog_2_method_3_code 24 = .ok (.iadd, 1) := by decide +kernel
theorem d_Col_put_25 : decode prog_2_method_3_code 25 = .ok (.iconst (2), 1) := by decide +kernel
theorem d_Col_put_26 : decode prog_2_method_3_code 26 = .ok (.aload_n 0, 1) := by decide +kernel
theorem d_Col_put_27 : decode prog_2_method_3_code 27 = .ok (.getfield 9, 3) := by decide +kernel
theorem d_Col_put_30 : decode prog_2_method_3_code 30 = .ok (.arraylength, 1) := by decide +kernel
theorem d_Col_put_31 : decode prog_2_method_3_code 31 = .ok (.imul, 1) := by decide +kernel
theorem d_Col_put_32 : decode prog_2_method_3_code 32 = .ok (.invokestatic 17, 3) := by decide +kernel
theorem d_Col_put_35 : decode prog_2_method_3_code 35 = .ok (.istore_n 3, 1) := by decide +kernel
theorem d_Col_put_36 : decode prog_2_method_3_code 36 = .ok (.aload_n 0, 1) := by decide +kernel
theorem d_Col_put_37 : decode prog_2_method_3_code 37 = .ok (.aload_n 0, 1) := by decide +kernel
theorem d_Col_put_38 : decode prog_2_method_3_code 38 = .ok (.getfield 9, 3) := by decide +kernel
theorem d_Col_put_41 : decode prog_2_method_3_code 41 = .ok (.iload_n 3, 1) := by decide +kernel
theorem d_Col_put_42 : decode prog_2_method_3_code 42 = .ok (.aload_n 0, 1) := by decide +kernel
theorem d_Col_put_43 : decode prog_2_method_3_code 43 = .ok (.getfield 13, 3) := by decide +kernel
theorem d_Col_put_46 : decode prog_2_method_3_code 46 = .ok (.iconst (2), 1) := by decide +kernel
theorem d_Col_put_47 : decode prog_2_method_3_code 47 = .ok (.idiv, 1) := by decide +kernel
theorem d_Col_put_48 : decode prog_2_method_3_code 48 = .ok (.if_icmp .le (10), 3) := by decide +kernel
theorem d_Col_put_51 : decode prog_2_method_3_code 51 = .ok (.aload_n 0, 1) := by decide +kernel
theorem d_Col_put_52 : decode prog_2_method_3_code 52 = .ok (.getfield 13, 3) := by decide +kernel
theorem d_Col_put_55 : decode prog_2_method_3_code 55 = .ok (.goto (4), 3) := by decide +kernel
theorem d_Col_put_58 : decode prog_2_method_3_code 58 = .ok (.iload_n 3, 1) := by decide +kernel
theorem d_Col_put_59 : decode prog_2_method_3_code 59 = .ok (.invokestatic 23, 3) := by decide +kernel
theorem d_Col_put_62 : decode prog_2_method_3_code 62 = .ok (.putfield 9, 3) := by decide +kernel
theorem d_Col_put_65 : decode prog_2_method_3_code 65 = .ok (.aload_n 0, 1) := by decide +kernel
theorem d_Col_put_66 : decode prog_2_method_3_code 66 = .ok (.getfield 9, 3) := by decide +kernel
theorem d_Col_put_69 : decode prog_2_method_3_code 69 = .ok (.iload_n 1, 1) := by decide +kernel
theorem d_Col_put_70 : decode prog_2_method_3_code 70 = .ok (.iload_n 2, 1) := by decide +kernel
theorem d_Col_put_71 : decode prog_2_method_3_code 71 = .ok (.iastore, 1) := by decide +kernel
theorem d_Col_put_72 : decode prog_2_method_3_code 72 = .ok (.return_, 1) := by decide +kernel
theorem d_Arr_copyOf_0 : decode prog_12_method_123_code 0 = .ok (.iload_n 1, 1) := by decide +kernel
theorem d_Arr_copyOf_1 : decode prog_12_method_123_code 1 = .ok (.aload_n 0, 1) := by decide +kernel
theorem d_Arr_copyOf_2 : decode prog_12_method_123_code 2 = .ok (.arraylength, 1) := by decide +kernel
theorem d_Arr_copyOf_3 : decode prog_12_method_123_code 3 = .ok (.if_icmp .ne (11), 3) := by decide +kernel
theorem d_Arr_copyOf_6 : decode prog_12_method_123_code 6 = .ok (.aload_n 0, 1) := by decide +kernel
theorem d_Arr_copyOf_7 : decode prog_12_method_123_code 7 = .ok (.invokevirtual 316, 3) := by decide +kernel
theorem d_Arr_copyOf_10 : decode prog_12_method_123_code 10 = .ok (.checkcast 317, 3) := by decide +kernel
theorem d_Arr_copyOf_13 : decode prog_12_method_123_code 13 = .ok (.areturn, 1) := by decide +kernel
theorem d_Arr_copyOf_14 : decode prog_12_method_123_code 14 = .ok (.iload_n 1, 1) := by decide +kernel
theorem d_Arr_copyOf_15 : decode prog_12_method_123_code 15 = .ok (.newarray .int, 2) := by decide +kernel
theorem d_Arr_copyOf_17 : decode prog_12_method_123_code 17 = .ok (.astore_n 2, 1) := by decide +kernel
theorem d_Arr_copyOf_18 : decode prog_12_method_123_code 18 = .ok (.aload_n 0, 1) := by decide +kernel
theorem d_Arr_copyOf_19 : decode prog_12_method_123_code 19 = .ok (.iconst (0), 1) := by decide +kernel
theorem d_Arr_copyOf_20 : decode prog_12_method_123_code 20 = .ok (.aload_n 2, 1) := by decide +kernel
theorem d_Arr_copyOf_21 : decode prog_12_method_123_code 21 = .ok (.iconst (0), 1) := by decide +kernel
theorem d_Arr_copyOf_22 : decode prog_12_method_123_code 22 = .ok (.aload_n 0, 1) := by decide +kernel
theorem d_Arr_copyOf_23 : decode prog_12_method_123_code 23 = .ok (.arraylength, 1) := by decide +kernel
theorem d_Arr_copyOf_24 : decode prog_12_method_123_code 24 = .ok (.iload_n 1, 1) := by decide +kernel
theorem d_Arr_copyOf_25 : decode prog_12_method_123_code 25 = .ok (.invokestatic 304, 3) := by decide +kernel
theorem d_Arr_copyOf_28 : decode prog_12_method_123_code 28 = .ok (.invokestatic 150, 3) := by decide +kernel
theorem d_Arr_copyOf_31 : decode prog_12_method_123_code 31 = .ok (.aload_n 2, 1) := by decide +kernel
theorem d_Arr_copyOf_32 : decode prog_12_method_123_code 32 = .ok (.areturn, 1) := by decide +kernel
theorem d_Col_at_0 : decode prog_2_method_2_code 0 = .ok (.iload_n 1, 1) := by decide +kernel
theorem d_Col_at_1 : decode prog_2_method_2_code 1 = .ok (.ifCond .lt (21), 3) := by decide +kernel
theorem d_Col_at_4 : decode prog_2_method_2_code 4 = .ok (.iload_n 1, 1) := by decide +kernel
theorem d_Col_at_5 : decode prog_2_method_2_code 5 = .ok (.aload_n 0, 1) := by decide +kernel
theorem d_Col_at_6 : decode prog_2_method_2_code 6 = .ok (.getfield 9, 3) := by decide +kernel
theorem d_Col_at_9 : decode prog_2_method_2_code 9 = .ok (.arraylength, 1) := by decide +kernel
theorem d_Col_at_10 : decode prog_2_method_2_code 10 = .ok (.if_icmp .ge (12), 3) := by decide +kernel
theorem d_Col_at_13 : decode prog_2_method_2_code 13 = .ok (.aload_n 0, 1) := by decide +kernel
theorem d_Col_at_14 : decode prog_2_method_2_code 14 = .ok (.getfield 9, 3) := by decide +kernel
theorem d_Col_at_17 : decode prog_2_method_2_code 17 = .ok (.iload_n 1, 1) := by decide +kernel
theorem d_Col_at_18 : decode prog_2_method_2_code 18 = .ok (.iaload, 1) := by decide +kernel
theorem d_Col_at_19 : decode prog_2_method_2_code 19 = .ok (.goto (4), 3) := by decide +kernel
theorem d_Col_at_22 : decode prog_2_method_2_code 22 = .ok (.iconst (0), 1) := by decide +kernel
theorem d_Col_at_23 : decode prog_2_method_2_code 23 = .ok (.ireturn, 1) := by decide +kernel
theorem d_Mem_hold_0 : decode prog_4_method_3_code 0 = .ok (.iload_n 3, 1) := by decide +kernel
theorem d_Mem_hold_1 : decode prog_4_method_3_code 1 = .ok (.istore 5, 2) := by decide +kernel
theorem d_Mem_hold_3 : decode prog_4_method_3_code 3 = .ok (.iload 5, 2) := by decide +kernel
theorem d_Mem_hold_5 : decode prog_4_method_3_code 5 = .ok (.iload 4, 2) := by decide +kernel
theorem d_Mem_hold_7 : decode prog_4_method_3_code 7 = .ok (.if_icmp .ge (37), 3) := by decide +kernel
theorem d_Mem_hold_10 : decode prog_4_method_3_code 10 = .ok (.aload_n 0, 1) := by decide +kernel
theorem d_Mem_hold_11 : decode prog_4_method_3_code 11 = .ok (.getfield 21, 3) := by decide +kernel
theorem d_Mem_hold_14 : decode prog_4_method_3_code 14 = .ok (.iload 5, 2) := by decide +kernel
theorem d_Mem_hold_16 : decode prog_4_method_3_code 16 = .ok (.invokevirtual 38, 3) := by decide +kernel
theorem d_Mem_hold_19 : decode prog_4_method_3_code 19 = .ok (.iload_n 2, 1) := by decide +kernel
theorem d_Mem_hold_20 : decode prog_4_method_3_code 20 = .ok (.if_icmp .ne (18), 3) := by decide +kernel
theorem d_Mem_hold_23 : decode prog_4_method_3_code 23 = .ok (.aload_n 0, 1) := by decide +kernel
theorem d_Mem_hold_24 : decode prog_4_method_3_code 24 = .ok (.getfield 15, 3) := by decide +kernel
theorem d_Mem_hold_27 : decode prog_4_method_3_code 27 = .ok (.iload 5, 2) := by decide +kernel
theorem d_Mem_hold_29 : decode prog_4_method_3_code 29 = .ok (.invokevirtual 38, 3) := by decide +kernel
theorem d_Mem_hold_32 : decode prog_4_method_3_code 32 = .ok (.iload_n 1, 1) := by decide +kernel
theorem d_Mem_hold_33 : decode prog_4_method_3_code 33 = .ok (.if_icmp .ne (5), 3) := by decide +kernel
theorem d_Mem_hold_36 : decode prog_4_method_3_code 36 = .ok (.iconst (1), 1) := by decide +kernel
theorem d_Mem_hold_37 : decode prog_4_method_3_code 37 = .ok (.ireturn, 1) := by decide +kernel
theorem d_Mem_hold_38 : decode prog_4_method_3_code 38 = .ok (.iinc 5 (1), 3) := by decide +kernel
theorem d_Mem_hold_41 : decode prog_4_method_3_code 41 = .ok (.goto (-38), 3) := by decide +kernel
theorem d_Mem_hold_44 : decode prog_4_method_3_code 44 = .ok (.iconst (0), 1) := by decide +kernel
theorem d_Mem_hold_45 : decode prog_4_method_3_code 45 = .ok (.ireturn, 1) := by decide +kernel
theorem d_Mem_write_0 : decode prog_4_method_2_code 0 = .ok (.aload_n 0, 1) := by decide +kernel
theorem d_Mem_write_1 : decode prog_4_method_2_code 1 = .ok (.getfield 15, 3) := by decide +kernel
theorem d_Mem_write_4 : decode prog_4_method_2_code 4 = .ok (.iload_n 1, 1) := by decide +kernel
theorem d_Mem_write_5 : decode prog_4_method_2_code 5 = .ok (.iload_n 2, 1) := by decide +kernel
theorem d_Mem_write_6 : decode prog_4_method_2_code 6 = .ok (.invokevirtual 31, 3) := by decide +kernel
theorem d_Mem_write_9 : decode prog_4_method_2_code 9 = .ok (.aload_n 0, 1) := by decide +kernel
theorem d_Mem_write_10 : decode prog_4_method_2_code 10 = .ok (.getfield 21, 3) := by decide +kernel
theorem d_Mem_write_13 : decode prog_4_method_2_code 13 = .ok (.iload_n 1, 1) := by decide +kernel
theorem d_Mem_write_14 : decode prog_4_method_2_code 14 = .ok (.iload_n 3, 1) := by decide +kernel
theorem d_Mem_write_15 : decode prog_4_method_2_code 15 = .ok (.invokevirtual 31, 3) := by decide +kernel
theorem d_Mem_write_18 : decode prog_4_method_2_code 18 = .ok (.aload_n 0, 1) := by decide +kernel
theorem d_Mem_write_19 : decode prog_4_method_2_code 19 = .ok (.getfield 27, 3) := by decide +kernel
theorem d_Mem_write_22 : decode prog_4_method_2_code 22 = .ok (.iload_n 1, 1) := by decide +kernel
theorem d_Mem_write_23 : decode prog_4_method_2_code 23 = .ok (.aload 4, 2) := by decide +kernel
theorem d_Mem_write_25 : decode prog_4_method_2_code 25 = .ok (.getfield 35, 3) := by decide +kernel
theorem d_Mem_write_28 : decode prog_4_method_2_code 28 = .ok (.iload_n 3, 1) := by decide +kernel
theorem d_Mem_write_29 : decode prog_4_method_2_code 29 = .ok (.invokevirtual 38, 3) := by decide +kernel
theorem d_Mem_write_32 : decode prog_4_method_2_code 32 = .ok (.aload 4, 2) := by decide +kernel
theorem d_Mem_write_34 : decode prog_4_method_2_code 34 = .ok (.getfield 42, 3) := by decide +kernel
theorem d_Mem_write_37 : decode prog_4_method_2_code 37 = .ok (.iload_n 3, 1) := by decide +kernel
theorem d_Mem_write_38 : decode prog_4_method_2_code 38 = .ok (.invokevirtual 38, 3) := by decide +kernel
theorem d_Mem_write_41 : decode prog_4_method_2_code 41 = .ok (.invokevirtual 45, 3) := by decide +kernel
theorem d_Mem_write_44 : decode prog_4_method_2_code 44 = .ok (.return_, 1) := by decide +kernel
theorem d_Val_write_0 : decode prog_6_method_2_code 0 = .ok (.aload_n 0, 1) := by decide +kernel
theorem d_Val_write_1 : decode prog_6_method_2_code 1 = .ok (.getfield 14, 3) := by decide +kernel
theorem d_Val_write_4 : decode prog_6_method_2_code 4 = .ok (.iload_n 1, 1) := by decide +kernel
theorem d_Val_write_5 : decode prog_6_method_2_code 5 = .ok (.iload_n 2, 1) := by decide +kernel
theorem d_Val_write_6 : decode prog_6_method_2_code 6 = .ok (.invokevirtual 23, 3) := by decide +kernel
theorem d_Val_write_9 : decode prog_6_method_2_code 9 = .ok (.aload_n 0, 1) := by decide +kernel
theorem d_Val_write_10 : decode prog_6_method_2_code 10 = .ok (.getfield 20, 3) := by decide +kernel
theorem d_Val_write_13 : decode prog_6_method_2_code 13 = .ok (.iload_n 1, 1) := by decide +kernel
theorem d_Val_write_14 : decode prog_6_method_2_code 14 = .ok (.iload_n 2, 1) := by decide +kernel
theorem d_Val_write_15 : decode prog_6_method_2_code 15 = .ok (.ifCond .ne (7), 3) := by decide +kernel
theorem d_Val_write_18 : decode prog_6_method_2_code 18 = .ok (.iconst (0), 1) := by decide +kernel
theorem d_Val_write_19 : decode prog_6_method_2_code 19 = .ok (.goto (4), 3) := by decide +kernel
theorem d_Val_write_22 : decode prog_6_method_2_code 22 = .ok (.iload_n 3, 1) := by decide +kernel
theorem d_Val_write_23 : decode prog_6_method_2_code 23 = .ok (.invokevirtual 23, 3) := by decide +kernel
theorem d_Val_write_26 : decode prog_6_method_2_code 26 = .ok (.return_, 1) := by decide +kernel
theorem d_Key_indexOf_0 : decode prog_3_method_3_code 0 = .ok (.iconst (0), 1) := by decide +kernel
theorem d_Key_indexOf_1 : decode prog_3_method_3_code 1 = .ok (.istore 5, 2) := by decide +kernel
theorem d_Key_indexOf_3 : decode prog_3_method_3_code 3 = .ok (.iload 5, 2) := by decide +kernel
theorem d_Key_indexOf_5 : decode prog_3_method_3_code 5 = .ok (.iload 4, 2) := by decide +kernel
theorem d_Key_indexOf_7 : decode prog_3_method_3_code 7 = .ok (.if_icmp .ge (51), 3) := by decide +kernel
theorem d_Key_indexOf_10 : decode prog_3_method_3_code 10 = .ok (.aload_n 0, 1) := by decide +kernel
theorem d_Key_indexOf_11 : decode prog_3_method_3_code 11 = .ok (.getfield 23, 3) := by decide +kernel
theorem d_Key_indexOf_14 : decode prog_3_method_3_code 14 = .ok (.iload 5, 2) := by decide +kernel
theorem d_Key_indexOf_16 : decode prog_3_method_3_code 16 = .ok (.invokevirtual 37, 3) := by decide +kernel
theorem d_Key_indexOf_19 : decode prog_3_method_3_code 19 = .ok (.iload_n 3, 1) := by decide +kernel
theorem d_Key_indexOf_20 : decode prog_3_method_3_code 20 = .ok (.if_icmp .ne (32), 3) := by decide +kernel
theorem d_Key_indexOf_23 : decode prog_3_method_3_code 23 = .ok (.aload_n 0, 1) := by decide +kernel
theorem d_Key_indexOf_24 : decode prog_3_method_3_code 24 = .ok (.getfield 20, 3) := by decide +kernel
theorem d_Key_indexOf_27 : decode prog_3_method_3_code 27 = .ok (.iload 5, 2) := by decide +kernel
theorem d_Key_indexOf_29 : decode prog_3_method_3_code 29 = .ok (.invokevirtual 37, 3) := by decide +kernel
theorem d_Key_indexOf_32 : decode prog_3_method_3_code 32 = .ok (.iload_n 2, 1) := by decide +kernel
theorem d_Key_indexOf_33 : decode prog_3_method_3_code 33 = .ok (.if_icmp .ne (19), 3) := by decide +kernel
theorem d_Key_indexOf_36 : decode prog_3_method_3_code 36 = .ok (.aload_n 0, 1) := by decide +kernel
theorem d_Key_indexOf_37 : decode prog_3_method_3_code 37 = .ok (.getfield 14, 3) := by decide +kernel
theorem d_Key_indexOf_40 : decode prog_3_method_3_code 40 = .ok (.iload 5, 2) := by decide +kernel
theorem d_Key_indexOf_42 : decode prog_3_method_3_code 42 = .ok (.invokevirtual 37, 3) := by decide +kernel
theorem d_Key_indexOf_45 : decode prog_3_method_3_code 45 = .ok (.iload_n 1, 1) := by decide +kernel
theorem d_Key_indexOf_46 : decode prog_3_method_3_code 46 = .ok (.if_icmp .ne (6), 3) := by decide +kernel
theorem d_Key_indexOf_49 : decode prog_3_method_3_code 49 = .ok (.iload 5, 2) := by decide +kernel
theorem d_Key_indexOf_51 : decode prog_3_method_3_code 51 = .ok (.ireturn, 1) := by decide +kernel
theorem d_Key_indexOf_52 : decode prog_3_method_3_code 52 = .ok (.iinc 5 (1), 3) := by decide +kernel
theorem d_Key_indexOf_55 : decode prog_3_method_3_code 55 = .ok (.goto (-52), 3) := by decide +kernel
theorem d_Key_indexOf_58 : decode prog_3_method_3_code 58 = .ok (.iconst (-1), 1) := by decide +kernel
theorem d_Key_indexOf_59 : decode prog_3_method_3_code 59 = .ok (.ireturn, 1) := by decide +kernel
theorem d_Key_write_0 : decode prog_3_method_2_code 0 = .ok (.aload_n 0, 1) := by decide +kernel
theorem d_Key_write_1 : decode prog_3_method_2_code 1 = .ok (.getfield 14, 3) := by decide +kernel
theorem d_Key_write_4 : decode prog_3_method_2_code 4 = .ok (.iload_n 1, 1) := by decide +kernel
theorem d_Key_write_5 : decode prog_3_method_2_code 5 = .ok (.iload_n 2, 1) := by decide +kernel
theorem d_Key_write_6 : decode prog_3_method_2_code 6 = .ok (.invokevirtual 33, 3) := by decide +kernel
theorem d_Key_write_9 : decode prog_3_method_2_code 9 = .ok (.aload_n 0, 1) := by decide +kernel
theorem d_Key_write_10 : decode prog_3_method_2_code 10 = .ok (.getfield 20, 3) := by decide +kernel
theorem d_Key_write_13 : decode prog_3_method_2_code 13 = .ok (.iload_n 1, 1) := by decide +kernel
theorem d_Key_write_14 : decode prog_3_method_2_code 14 = .ok (.iload_n 3, 1) := by decide +kernel
theorem d_Key_write_15 : decode prog_3_method_2_code 15 = .ok (.invokevirtual 33, 3) := by decide +kernel
theorem d_Key_write_18 : decode prog_3_method_2_code 18 = .ok (.aload_n 0, 1) := by decide +kernel
theorem d_Key_write_19 : decode prog_3_method_2_code 19 = .ok (.getfield 23, 3) := by decide +kernel
theorem d_Key_write_22 : decode prog_3_method_2_code 22 = .ok (.iload_n 1, 1) := by decide +kernel
theorem d_Key_write_23 : decode prog_3_method_2_code 23 = .ok (.iload 4, 2) := by decide +kernel
theorem d_Key_write_25 : decode prog_3_method_2_code 25 = .ok (.invokevirtual 33, 3) := by decide +kernel
theorem d_Key_write_28 : decode prog_3_method_2_code 28 = .ok (.return_, 1) := by decide +kernel
theorem d_Key_indexIfThere_0 : decode prog_3_method_4_code 0 = .ok (.aload_n 0, 1) := by decide +kernel
theorem d_Key_indexIfThere_1 : decode prog_3_method_4_code 1 = .ok (.iload_n 1, 1) := by decide +kernel
theorem d_Key_indexIfThere_2 : decode prog_3_method_4_code 2 = .ok (.iload_n 2, 1) := by decide +kernel
theorem d_Key_indexIfThere_3 : decode prog_3_method_4_code 3 = .ok (.iload_n 3, 1) := by decide +kernel
theorem d_Key_indexIfThere_4 : decode prog_3_method_4_code 4 = .ok (.iload 4, 2) := by decide +kernel
theorem d_Key_indexIfThere_6 : decode prog_3_method_4_code 6 = .ok (.invokevirtual 41, 3) := by decide +kernel
theorem d_Key_indexIfThere_9 : decode prog_3_method_4_code 9 = .ok (.istore 5, 2) := by decide +kernel
theorem d_Key_indexIfThere_11 : decode prog_3_method_4_code 11 = .ok (.iload 5, 2) := by decide +kernel
theorem d_Key_indexIfThere_13 : decode prog_3_method_4_code 13 = .ok (.iconst (-1), 1) := by decide +kernel
theorem d_Key_indexIfThere_14 : decode prog_3_method_4_code 14 = .ok (.if_icmp .eq (18), 3) := by decide +kernel
theorem d_Key_indexIfThere_17 : decode prog_3_method_4_code 17 = .ok (.aload_n 0, 1) := by decide +kernel
theorem d_Key_indexIfThere_18 : decode prog_3_method_4_code 18 = .ok (.iload 5, 2) := by decide +kernel
theorem d_Key_indexIfThere_20 : decode prog_3_method_4_code 20 = .ok (.iload_n 1, 1) := by decide +kernel
theorem d_Key_indexIfThere_21 : decode prog_3_method_4_code 21 = .ok (.invokevirtual 45, 3) := by decide +kernel
theorem d_Key_indexIfThere_24 : decode prog_3_method_4_code 24 = .ok (.ifCond .eq (8), 3) := by decide +kernel
theorem d_Key_indexIfThere_27 : decode prog_3_method_4_code 27 = .ok (.iload 5, 2) := by decide +kernel
theorem d_Key_indexIfThere_29 : decode prog_3_method_4_code 29 = .ok (.goto (4), 3) := by decide +kernel
theorem d_Key_indexIfThere_32 : decode prog_3_method_4_code 32 = .ok (.iconst (-1), 1) := by decide +kernel
theorem d_Key_indexIfThere_33 : decode prog_3_method_4_code 33 = .ok (.ireturn, 1) := by decide +kernel
theorem d_Key_isThere_0 : decode prog_3_method_7_code 0 = .ok (.aload_n 0, 1) := by decide +kernel
theorem d_Key_isThere_1 : decode prog_3_method_7_code 1 = .ok (.getfield 14, 3) := by decide +kernel
theorem d_Key_isThere_4 : decode prog_3_method_7_code 4 = .ok (.iload_n 1, 1) := by decide +kernel
theorem d_Key_isThere_5 : decode prog_3_method_7_code 5 = .ok (.invokevirtual 37, 3) := by decide +kernel
theorem d_Key_isThere_8 : decode prog_3_method_7_code 8 = .ok (.iload_n 2, 1) := by decide +kernel
theorem d_Key_isThere_9 : decode prog_3_method_7_code 9 = .ok (.if_icmp .ne (22), 3) := by decide +kernel
theorem d_Key_isThere_12 : decode prog_3_method_7_code 12 = .ok (.aload_n 0, 1) := by decide +kernel
theorem d_Key_isThere_13 : decode prog_3_method_7_code 13 = .ok (.getfield 29, 3) := by decide +kernel
theorem d_Key_isThere_16 : decode prog_3_method_7_code 16 = .ok (.getfield 49, 3) := by decide +kernel
theorem d_Key_isThere_19 : decode prog_3_method_7_code 19 = .ok (.iload_n 1, 1) := by decide +kernel
theorem d_Key_isThere_20 : decode prog_3_method_7_code 20 = .ok (.invokevirtual 37, 3) := by decide +kernel
theorem d_Key_isThere_23 : decode prog_3_method_7_code 23 = .ok (.iconst (-1), 1) := by decide +kernel
theorem d_Key_isThere_24 : decode prog_3_method_7_code 24 = .ok (.if_icmp .eq (7), 3) := by decide +kernel
theorem d_Key_isThere_27 : decode prog_3_method_7_code 27 = .ok (.iconst (1), 1) := by decide +kernel
theorem d_Key_isThere_28 : decode prog_3_method_7_code 28 = .ok (.goto (4), 3) := by decide +kernel
theorem d_Key_isThere_31 : decode prog_3_method_7_code 31 = .ok (.iconst (0), 1) := by decide +kernel
theorem d_Key_isThere_32 : decode prog_3_method_7_code 32 = .ok (.ireturn, 1) := by decide +kernel
theorem d_Key_howManyThere_0 : decode prog_3_method_6_code 0 = .ok (.iconst (0), 1) := by decide +kernel
theorem d_Key_howManyThere_1 : decode prog_3_method_6_code 1 = .ok (.istore_n 3, 1) := by decide +kernel
theorem d_Key_howManyThere_2 : decode prog_3_method_6_code 2 = .ok (.iconst (0), 1) := by decide +kernel
theorem d_Key_howManyThere_3 : decode prog_3_method_6_code 3 = .ok (.istore 4, 2) := by decide +kernel
theorem d_Key_howManyThere_5 : decode prog_3_method_6_code 5 = .ok (.iload 4, 2) := by decide +kernel
theorem d_Key_howManyThere_7 : decode prog_3_method_6_code 7 = .ok (.iload_n 2, 1) := by decide +kernel
theorem d_Key_howManyThere_8 : decode prog_3_method_6_code 8 = .ok (.if_icmp .ge (22), 3) := by decide +kernel
theorem d_Key_howManyThere_11 : decode prog_3_method_6_code 11 = .ok (.aload_n 0, 1) := by decide +kernel
theorem d_Key_howManyThere_12 : decode prog_3_method_6_code 12 = .ok (.iload 4, 2) := by decide +kernel
theorem d_Key_howManyThere_14 : decode prog_3_method_6_code 14 = .ok (.iload_n 1, 1) := by decide +kernel
theorem d_Key_howManyThere_15 : decode prog_3_method_6_code 15 = .ok (.invokevirtual 45, 3) := by decide +kernel
theorem d_Key_howManyThere_18 : decode prog_3_method_6_code 18 = .ok (.ifCond .eq (6), 3) := by decide +kernel
theorem d_Key_howManyThere_21 : decode prog_3_method_6_code 21 = .ok (.iinc 3 (1), 3) := by decide +kernel
theorem d_Key_howManyThere_24 : decode prog_3_method_6_code 24 = .ok (.iinc 4 (1), 3) := by decide +kernel
theorem d_Key_howManyThere_27 : decode prog_3_method_6_code 27 = .ok (.goto (-22), 3) := by decide +kernel
theorem d_Key_howManyThere_30 : decode prog_3_method_6_code 30 = .ok (.iload_n 3, 1) := by decide +kernel
theorem d_Key_howManyThere_31 : decode prog_3_method_6_code 31 = .ok (.ireturn, 1) := by decide +kernel
theorem d_Key_firstThere_0 : decode prog_3_method_5_code 0 = .ok (.iload_n 2, 1) := by decide +kernel
theorem d_Key_firstThere_1 : decode prog_3_method_5_code 1 = .ok (.istore 4, 2) := by decide +kernel
theorem d_Key_firstThere_3 : decode prog_3_method_5_code 3 = .ok (.iload 4, 2) := by decide +kernel
theorem d_Key_firstThere_5 : decode prog_3_method_5_code 5 = .ok (.iload_n 3, 1) := by decide +kernel
theorem d_Key_firstThere_6 : decode prog_3_method_5_code 6 = .ok (.if_icmp .ge (22), 3) := by decide +kernel
theorem d_Key_firstThere_9 : decode prog_3_method_5_code 9 = .ok (.aload_n 0, 1) := by decide +kernel
theorem d_Key_firstThere_10 : decode prog_3_method_5_code 10 = .ok (.iload 4, 2) := by decide +kernel
theorem d_Key_firstThere_12 : decode prog_3_method_5_code 12 = .ok (.iload_n 1, 1) := by decide +kernel
theorem d_Key_firstThere_13 : decode prog_3_method_5_code 13 = .ok (.invokevirtual 45, 3) := by decide +kernel
theorem d_Key_firstThere_16 : decode prog_3_method_5_code 16 = .ok (.ifCond .eq (6), 3) := by decide +kernel
theorem d_Key_firstThere_19 : decode prog_3_method_5_code 19 = .ok (.iload 4, 2) := by decide +kernel
theorem d_Key_firstThere_21 : decode prog_3_method_5_code 21 = .ok (.ireturn, 1) := by decide +kernel
theorem d_Key_firstThere_22 : decode prog_3_method_5_code 22 = .ok (.iinc 4 (1), 3) := by decide +kernel
theorem d_Key_firstThere_25 : decode prog_3_method_5_code 25 = .ok (.goto (-22), 3) := by decide +kernel
theorem d_Key_firstThere_28 : decode prog_3_method_5_code 28 = .ok (.iconst (-1), 1) := by decide +kernel
theorem d_Key_firstThere_29 : decode prog_3_method_5_code 29 = .ok (.ireturn, 1) := by decide +kernel
