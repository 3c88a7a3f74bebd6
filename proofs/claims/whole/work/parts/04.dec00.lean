theorem d_Lg_bitCount_0 : decode b_Lg_bitCount 0 = .ok (.lload_n 0, 1) := by decide +kernel
theorem d_Lg_bitCount_1 : decode b_Lg_bitCount 1 = .ok (.lload_n 0, 1) := by decide +kernel
theorem d_Lg_bitCount_2 : decode b_Lg_bitCount 2 = .ok (.iconst 1, 1) := by decide +kernel
theorem d_Lg_bitCount_3 : decode b_Lg_bitCount 3 = .ok (.lushr, 1) := by decide +kernel
theorem d_Lg_bitCount_4 : decode b_Lg_bitCount 4 = .ok (.ldc2_w 314, 3) := by decide +kernel
theorem d_Lg_bitCount_7 : decode b_Lg_bitCount 7 = .ok (.land, 1) := by decide +kernel
theorem d_Lg_bitCount_8 : decode b_Lg_bitCount 8 = .ok (.lsub, 1) := by decide +kernel
theorem d_Lg_bitCount_9 : decode b_Lg_bitCount 9 = .ok (.lstore_n 0, 1) := by decide +kernel
theorem d_Lg_bitCount_10 : decode b_Lg_bitCount 10 = .ok (.lload_n 0, 1) := by decide +kernel
theorem d_Lg_bitCount_11 : decode b_Lg_bitCount 11 = .ok (.ldc2_w 316, 3) := by decide +kernel
theorem d_Lg_bitCount_14 : decode b_Lg_bitCount 14 = .ok (.land, 1) := by decide +kernel
theorem d_Lg_bitCount_15 : decode b_Lg_bitCount 15 = .ok (.lload_n 0, 1) := by decide +kernel
theorem d_Lg_bitCount_16 : decode b_Lg_bitCount 16 = .ok (.iconst 2, 1) := by decide +kernel
theorem d_Lg_bitCount_17 : decode b_Lg_bitCount 17 = .ok (.lushr, 1) := by decide +kernel
theorem d_Lg_bitCount_18 : decode b_Lg_bitCount 18 = .ok (.ldc2_w 316, 3) := by decide +kernel
theorem d_Lg_bitCount_21 : decode b_Lg_bitCount 21 = .ok (.land, 1) := by decide +kernel
theorem d_Lg_bitCount_22 : decode b_Lg_bitCount 22 = .ok (.ladd, 1) := by decide +kernel
theorem d_Lg_bitCount_23 : decode b_Lg_bitCount 23 = .ok (.lstore_n 0, 1) := by decide +kernel
theorem d_Lg_bitCount_24 : decode b_Lg_bitCount 24 = .ok (.lload_n 0, 1) := by decide +kernel
theorem d_Lg_bitCount_25 : decode b_Lg_bitCount 25 = .ok (.lload_n 0, 1) := by decide +kernel
theorem d_Lg_bitCount_26 : decode b_Lg_bitCount 26 = .ok (.iconst 4, 1) := by decide +kernel
theorem d_Lg_bitCount_27 : decode b_Lg_bitCount 27 = .ok (.lushr, 1) := by decide +kernel
theorem d_Lg_bitCount_28 : decode b_Lg_bitCount 28 = .ok (.ladd, 1) := by decide +kernel
theorem d_Lg_bitCount_29 : decode b_Lg_bitCount 29 = .ok (.ldc2_w 318, 3) := by decide +kernel
theorem d_Lg_bitCount_32 : decode b_Lg_bitCount 32 = .ok (.land, 1) := by decide +kernel
theorem d_Lg_bitCount_33 : decode b_Lg_bitCount 33 = .ok (.lstore_n 0, 1) := by decide +kernel
theorem d_Lg_bitCount_34 : decode b_Lg_bitCount 34 = .ok (.lload_n 0, 1) := by decide +kernel
theorem d_Lg_bitCount_35 : decode b_Lg_bitCount 35 = .ok (.lload_n 0, 1) := by decide +kernel
theorem d_Lg_bitCount_36 : decode b_Lg_bitCount 36 = .ok (.bipush 8, 2) := by decide +kernel
theorem d_Lg_bitCount_38 : decode b_Lg_bitCount 38 = .ok (.lushr, 1) := by decide +kernel
theorem d_Lg_bitCount_39 : decode b_Lg_bitCount 39 = .ok (.ladd, 1) := by decide +kernel
theorem d_Lg_bitCount_40 : decode b_Lg_bitCount 40 = .ok (.lstore_n 0, 1) := by decide +kernel
theorem d_Lg_bitCount_41 : decode b_Lg_bitCount 41 = .ok (.lload_n 0, 1) := by decide +kernel
theorem d_Lg_bitCount_42 : decode b_Lg_bitCount 42 = .ok (.lload_n 0, 1) := by decide +kernel
theorem d_Lg_bitCount_43 : decode b_Lg_bitCount 43 = .ok (.bipush 16, 2) := by decide +kernel
theorem d_Lg_bitCount_45 : decode b_Lg_bitCount 45 = .ok (.lushr, 1) := by decide +kernel
theorem d_Lg_bitCount_46 : decode b_Lg_bitCount 46 = .ok (.ladd, 1) := by decide +kernel
theorem d_Lg_bitCount_47 : decode b_Lg_bitCount 47 = .ok (.lstore_n 0, 1) := by decide +kernel
theorem d_Lg_bitCount_48 : decode b_Lg_bitCount 48 = .ok (.lload_n 0, 1) := by decide +kernel
theorem d_Lg_bitCount_49 : decode b_Lg_bitCount 49 = .ok (.lload_n 0, 1) := by decide +kernel
theorem d_Lg_bitCount_50 : decode b_Lg_bitCount 50 = .ok (.bipush 32, 2) := by decide +kernel
theorem d_Lg_bitCount_52 : decode b_Lg_bitCount 52 = .ok (.lushr, 1) := by decide +kernel
theorem d_Lg_bitCount_53 : decode b_Lg_bitCount 53 = .ok (.ladd, 1) := by decide +kernel
theorem d_Lg_bitCount_54 : decode b_Lg_bitCount 54 = .ok (.lstore_n 0, 1) := by decide +kernel
theorem d_Lg_bitCount_55 : decode b_Lg_bitCount 55 = .ok (.lload_n 0, 1) := by decide +kernel
theorem d_Lg_bitCount_56 : decode b_Lg_bitCount 56 = .ok (.l2i, 1) := by decide +kernel
theorem d_Lg_bitCount_57 : decode b_Lg_bitCount 57 = .ok (.bipush 127, 2) := by decide +kernel
theorem d_Lg_bitCount_59 : decode b_Lg_bitCount 59 = .ok (.iand, 1) := by decide +kernel
theorem d_Lg_bitCount_60 : decode b_Lg_bitCount 60 = .ok (.ireturn, 1) := by decide +kernel
theorem d_In_compare_0 : decode b_In_compare 0 = .ok (.iload_n 0, 1) := by decide +kernel
theorem d_In_compare_1 : decode b_In_compare 1 = .ok (.iload_n 1, 1) := by decide +kernel
theorem d_In_compare_2 : decode b_In_compare 2 = .ok (.if_icmp .ge 7, 3) := by decide +kernel
theorem d_In_compare_9 : decode b_In_compare 9 = .ok (.iload_n 0, 1) := by decide +kernel
theorem d_In_compare_10 : decode b_In_compare 10 = .ok (.iload_n 1, 1) := by decide +kernel
theorem d_In_compare_11 : decode b_In_compare 11 = .ok (.if_icmp .ne 7, 3) := by decide +kernel
theorem d_In_compare_18 : decode b_In_compare 18 = .ok (.iconst 1, 1) := by decide +kernel
theorem d_In_compare_19 : decode b_In_compare 19 = .ok (.ireturn, 1) := by decide +kernel
theorem d_In_compare_14 : decode b_In_compare 14 = .ok (.iconst 0, 1) := by decide +kernel
theorem d_In_compare_15 : decode b_In_compare 15 = .ok (.goto 4, 3) := by decide +kernel
theorem d_In_compare_5 : decode b_In_compare 5 = .ok (.iconst (-1), 1) := by decide +kernel
theorem d_In_compare_6 : decode b_In_compare 6 = .ok (.goto 13, 3) := by decide +kernel
theorem d_In_compareUnsigned_0 : decode b_In_compareUnsigned 0 = .ok (.iload_n 0, 1) := by decide +kernel
theorem d_In_compareUnsigned_1 : decode b_In_compareUnsigned 1 = .ok (.ldc 127, 2) := by decide +kernel
theorem d_In_compareUnsigned_3 : decode b_In_compareUnsigned 3 = .ok (.iadd, 1) := by decide +kernel
theorem d_In_compareUnsigned_4 : decode b_In_compareUnsigned 4 = .ok (.iload_n 1, 1) := by decide +kernel
theorem d_In_compareUnsigned_5 : decode b_In_compareUnsigned 5 = .ok (.ldc 127, 2) := by decide +kernel
theorem d_In_compareUnsigned_7 : decode b_In_compareUnsigned 7 = .ok (.iadd, 1) := by decide +kernel
theorem d_In_compareUnsigned_8 : decode b_In_compareUnsigned 8 = .ok (.invokestatic 259, 3) := by decide +kernel
theorem d_In_compareUnsigned_11 : decode b_In_compareUnsigned 11 = .ok (.ireturn, 1) := by decide +kernel
theorem d_Ar_fill_0 : decode b_Ar_fill 0 = .ok (.iconst 0, 1) := by decide +kernel
theorem d_Ar_fill_1 : decode b_Ar_fill 1 = .ok (.istore_n 3, 1) := by decide +kernel
theorem d_Ar_fill_2 : decode b_Ar_fill 2 = .ok (.aload_n 0, 1) := by decide +kernel
theorem d_Ar_fill_3 : decode b_Ar_fill 3 = .ok (.arraylength, 1) := by decide +kernel
theorem d_Ar_fill_4 : decode b_Ar_fill 4 = .ok (.istore 4, 2) := by decide +kernel
theorem d_Ar_fill_6 : decode b_Ar_fill 6 = .ok (.iload_n 3, 1) := by decide +kernel
theorem d_Ar_fill_7 : decode b_Ar_fill 7 = .ok (.iload 4, 2) := by decide +kernel
theorem d_Ar_fill_9 : decode b_Ar_fill 9 = .ok (.if_icmp .ge 13, 3) := by decide +kernel
theorem d_Ar_fill_12 : decode b_Ar_fill 12 = .ok (.aload_n 0, 1) := by decide +kernel
theorem d_Ar_fill_13 : decode b_Ar_fill 13 = .ok (.iload_n 3, 1) := by decide +kernel
theorem d_Ar_fill_14 : decode b_Ar_fill 14 = .ok (.lload_n 1, 1) := by decide +kernel
theorem d_Ar_fill_15 : decode b_Ar_fill 15 = .ok (.lastore, 1) := by decide +kernel
theorem d_Ar_fill_16 : decode b_Ar_fill 16 = .ok (.iinc 3 1, 3) := by decide +kernel
theorem d_Ar_fill_19 : decode b_Ar_fill 19 = .ok (.goto (-13), 3) := by decide +kernel
theorem d_Ar_fill_22 : decode b_Ar_fill 22 = .ok (.return_, 1) := by decide +kernel
theorem d_Co_op_0 : decode b_Co_op 0 = .ok (.iload_n 0, 1) := by decide +kernel
theorem d_Co_op_1 : decode b_Co_op 1 = .ok (.bipush 127, 2) := by decide +kernel
theorem d_Co_op_3 : decode b_Co_op 3 = .ok (.iand, 1) := by decide +kernel
theorem d_Co_op_4 : decode b_Co_op 4 = .ok (.ireturn, 1) := by decide +kernel
theorem d_Co_d_0 : decode b_Co_d 0 = .ok (.iload_n 0, 1) := by decide +kernel
theorem d_Co_d_1 : decode b_Co_d 1 = .ok (.bipush 7, 2) := by decide +kernel
theorem d_Co_d_3 : decode b_Co_d 3 = .ok (.iushr, 1) := by decide +kernel
theorem d_Co_d_4 : decode b_Co_d 4 = .ok (.bipush 31, 2) := by decide +kernel
theorem d_Co_d_6 : decode b_Co_d 6 = .ok (.iand, 1) := by decide +kernel
theorem d_Co_d_7 : decode b_Co_d 7 = .ok (.ireturn, 1) := by decide +kernel
theorem d_Co_f_0 : decode b_Co_f 0 = .ok (.iload_n 0, 1) := by decide +kernel
theorem d_Co_f_1 : decode b_Co_f 1 = .ok (.bipush 12, 2) := by decide +kernel
theorem d_Co_f_3 : decode b_Co_f 3 = .ok (.iushr, 1) := by decide +kernel
theorem d_Co_f_4 : decode b_Co_f 4 = .ok (.bipush 7, 2) := by decide +kernel
theorem d_Co_f_6 : decode b_Co_f 6 = .ok (.iand, 1) := by decide +kernel
theorem d_Co_f_7 : decode b_Co_f 7 = .ok (.ireturn, 1) := by decide +kernel
theorem d_Co_s_0 : decode b_Co_s 0 = .ok (.iload_n 0, 1) := by decide +kernel
theorem d_Co_s_1 : decode b_Co_s 1 = .ok (.bipush 15, 2) := by decide +kernel
theorem d_Co_s_3 : decode b_Co_s 3 = .ok (.iushr, 1) := by decide +kernel
theorem d_Co_s_4 : decode b_Co_s 4 = .ok (.bipush 31, 2) := by decide +kernel
theorem d_Co_s_6 : decode b_Co_s 6 = .ok (.iand, 1) := by decide +kernel
theorem d_Co_s_7 : decode b_Co_s 7 = .ok (.ireturn, 1) := by decide +kernel
theorem d_Co_t_0 : decode b_Co_t 0 = .ok (.iload_n 0, 1) := by decide +kernel
theorem d_Co_t_1 : decode b_Co_t 1 = .ok (.bipush 20, 2) := by decide +kernel
theorem d_Co_t_3 : decode b_Co_t 3 = .ok (.iushr, 1) := by decide +kernel
theorem d_Co_t_4 : decode b_Co_t 4 = .ok (.bipush 31, 2) := by decide +kernel
theorem d_Co_t_6 : decode b_Co_t 6 = .ok (.iand, 1) := by decide +kernel
theorem d_Co_t_7 : decode b_Co_t 7 = .ok (.ireturn, 1) := by decide +kernel
theorem d_Co_g_0 : decode b_Co_g 0 = .ok (.iload_n 0, 1) := by decide +kernel
theorem d_Co_g_1 : decode b_Co_g 1 = .ok (.bipush 25, 2) := by decide +kernel
theorem d_Co_g_3 : decode b_Co_g 3 = .ok (.iushr, 1) := by decide +kernel
theorem d_Co_g_4 : decode b_Co_g 4 = .ok (.ireturn, 1) := by decide +kernel
theorem d_Co_i_0 : decode b_Co_i 0 = .ok (.iload_n 0, 1) := by decide +kernel
theorem d_Co_i_1 : decode b_Co_i 1 = .ok (.bipush 20, 2) := by decide +kernel
theorem d_Co_i_3 : decode b_Co_i 3 = .ok (.ishr, 1) := by decide +kernel
theorem d_Co_i_4 : decode b_Co_i 4 = .ok (.ireturn, 1) := by decide +kernel
theorem d_Co_j_0 : decode b_Co_j 0 = .ok (.iload_n 0, 1) := by decide +kernel
theorem d_Co_j_1 : decode b_Co_j 1 = .ok (.bipush 25, 2) := by decide +kernel
theorem d_Co_j_3 : decode b_Co_j 3 = .ok (.ishr, 1) := by decide +kernel
theorem d_Co_j_4 : decode b_Co_j 4 = .ok (.iconst 5, 1) := by decide +kernel
theorem d_Co_j_5 : decode b_Co_j 5 = .ok (.ishl, 1) := by decide +kernel
theorem d_Co_j_6 : decode b_Co_j 6 = .ok (.iload_n 0, 1) := by decide +kernel
theorem d_Co_j_7 : decode b_Co_j 7 = .ok (.invokestatic 7, 3) := by decide +kernel
theorem d_Co_j_10 : decode b_Co_j 10 = .ok (.ior, 1) := by decide +kernel
theorem d_Co_j_11 : decode b_Co_j 11 = .ok (.ireturn, 1) := by decide +kernel
theorem d_Co_k_0 : decode b_Co_k 0 = .ok (.iload_n 0, 1) := by decide +kernel
theorem d_Co_k_1 : decode b_Co_k 1 = .ok (.bipush 31, 2) := by decide +kernel
theorem d_Co_k_3 : decode b_Co_k 3 = .ok (.ishr, 1) := by decide +kernel
theorem d_Co_k_4 : decode b_Co_k 4 = .ok (.bipush 12, 2) := by decide +kernel
theorem d_Co_k_6 : decode b_Co_k 6 = .ok (.ishl, 1) := by decide +kernel
theorem d_Co_k_7 : decode b_Co_k 7 = .ok (.iload_n 0, 1) := by decide +kernel
theorem d_Co_k_8 : decode b_Co_k 8 = .ok (.bipush 7, 2) := by decide +kernel
theorem d_Co_k_10 : decode b_Co_k 10 = .ok (.iushr, 1) := by decide +kernel
theorem d_Co_k_11 : decode b_Co_k 11 = .ok (.iconst 1, 1) := by decide +kernel
theorem d_Co_k_12 : decode b_Co_k 12 = .ok (.iand, 1) := by decide +kernel
theorem d_Co_k_13 : decode b_Co_k 13 = .ok (.bipush 11, 2) := by decide +kernel
theorem d_Co_k_15 : decode b_Co_k 15 = .ok (.ishl, 1) := by decide +kernel
theorem d_Co_k_16 : decode b_Co_k 16 = .ok (.ior, 1) := by decide +kernel
theorem d_Co_k_17 : decode b_Co_k 17 = .ok (.iload_n 0, 1) := by decide +kernel
theorem d_Co_k_18 : decode b_Co_k 18 = .ok (.bipush 25, 2) := by decide +kernel
theorem d_Co_k_20 : decode b_Co_k 20 = .ok (.iushr, 1) := by decide +kernel
theorem d_Co_k_21 : decode b_Co_k 21 = .ok (.bipush 63, 2) := by decide +kernel
theorem d_Co_k_23 : decode b_Co_k 23 = .ok (.iand, 1) := by decide +kernel
theorem d_Co_k_24 : decode b_Co_k 24 = .ok (.iconst 5, 1) := by decide +kernel
theorem d_Co_k_25 : decode b_Co_k 25 = .ok (.ishl, 1) := by decide +kernel
theorem d_Co_k_26 : decode b_Co_k 26 = .ok (.ior, 1) := by decide +kernel
theorem d_Co_k_27 : decode b_Co_k 27 = .ok (.iload_n 0, 1) := by decide +kernel
theorem d_Co_k_28 : decode b_Co_k 28 = .ok (.bipush 8, 2) := by decide +kernel
theorem d_Co_k_30 : decode b_Co_k 30 = .ok (.iushr, 1) := by decide +kernel
theorem d_Co_k_31 : decode b_Co_k 31 = .ok (.bipush 15, 2) := by decide +kernel
theorem d_Co_k_33 : decode b_Co_k 33 = .ok (.iand, 1) := by decide +kernel
theorem d_Co_k_34 : decode b_Co_k 34 = .ok (.iconst 1, 1) := by decide +kernel
theorem d_Co_k_35 : decode b_Co_k 35 = .ok (.ishl, 1) := by decide +kernel
theorem d_Co_k_36 : decode b_Co_k 36 = .ok (.ior, 1) := by decide +kernel
theorem d_Co_k_37 : decode b_Co_k 37 = .ok (.ireturn, 1) := by decide +kernel
theorem d_Co_u_0 : decode b_Co_u 0 = .ok (.iload_n 0, 1) := by decide +kernel
theorem d_Co_u_1 : decode b_Co_u 1 = .ok (.sipush (-4096), 3) := by decide +kernel
theorem d_Co_u_4 : decode b_Co_u 4 = .ok (.iand, 1) := by decide +kernel
theorem d_Co_u_5 : decode b_Co_u 5 = .ok (.ireturn, 1) := by decide +kernel
theorem d_Co_l_0 : decode b_Co_l 0 = .ok (.iload_n 0, 1) := by decide +kernel
theorem d_Co_l_1 : decode b_Co_l 1 = .ok (.bipush 31, 2) := by decide +kernel
theorem d_Co_l_3 : decode b_Co_l 3 = .ok (.ishr, 1) := by decide +kernel
theorem d_Co_l_4 : decode b_Co_l 4 = .ok (.bipush 20, 2) := by decide +kernel
theorem d_Co_l_6 : decode b_Co_l 6 = .ok (.ishl, 1) := by decide +kernel
theorem d_Co_l_7 : decode b_Co_l 7 = .ok (.iload_n 0, 1) := by decide +kernel
theorem d_Co_l_8 : decode b_Co_l 8 = .ok (.ldc 13, 2) := by decide +kernel
theorem d_Co_l_10 : decode b_Co_l 10 = .ok (.iand, 1) := by decide +kernel
theorem d_Co_l_11 : decode b_Co_l 11 = .ok (.ior, 1) := by decide +kernel
theorem d_Co_l_12 : decode b_Co_l 12 = .ok (.iload_n 0, 1) := by decide +kernel
theorem d_Co_l_13 : decode b_Co_l 13 = .ok (.bipush 20, 2) := by decide +kernel
theorem d_Co_l_15 : decode b_Co_l 15 = .ok (.iushr, 1) := by decide +kernel
theorem d_Co_l_16 : decode b_Co_l 16 = .ok (.iconst 1, 1) := by decide +kernel
theorem d_Co_l_17 : decode b_Co_l 17 = .ok (.iand, 1) := by decide +kernel
theorem d_Co_l_18 : decode b_Co_l 18 = .ok (.bipush 11, 2) := by decide +kernel
theorem d_Co_l_20 : decode b_Co_l 20 = .ok (.ishl, 1) := by decide +kernel
theorem d_Co_l_21 : decode b_Co_l 21 = .ok (.ior, 1) := by decide +kernel
theorem d_Co_l_22 : decode b_Co_l 22 = .ok (.iload_n 0, 1) := by decide +kernel
theorem d_Co_l_23 : decode b_Co_l 23 = .ok (.bipush 21, 2) := by decide +kernel
theorem d_Co_l_25 : decode b_Co_l 25 = .ok (.iushr, 1) := by decide +kernel
theorem d_Co_l_26 : decode b_Co_l 26 = .ok (.sipush 1023, 3) := by decide +kernel
theorem d_Co_l_29 : decode b_Co_l 29 = .ok (.iand, 1) := by decide +kernel
theorem d_Co_l_30 : decode b_Co_l 30 = .ok (.iconst 1, 1) := by decide +kernel
theorem d_Co_l_31 : decode b_Co_l 31 = .ok (.ishl, 1) := by decide +kernel
theorem d_Co_l_32 : decode b_Co_l 32 = .ok (.ior, 1) := by decide +kernel
theorem d_Co_l_33 : decode b_Co_l 33 = .ok (.ireturn, 1) := by decide +kernel
theorem d_Co_size_0 : decode b_Co_size 0 = .ok (.iconst 1, 1) := by decide +kernel
theorem d_Co_size_1 : decode b_Co_size 1 = .ok (.iload_n 0, 1) := by decide +kernel
theorem d_Co_size_2 : decode b_Co_size 2 = .ok (.iconst 3, 1) := by decide +kernel
theorem d_Co_size_3 : decode b_Co_size 3 = .ok (.iand, 1) := by decide +kernel
theorem d_Co_size_4 : decode b_Co_size 4 = .ok (.ishl, 1) := by decide +kernel
theorem d_Co_size_5 : decode b_Co_size 5 = .ok (.ireturn, 1) := by decide +kernel
theorem d_Co_shiftOf_0 : decode b_Co_shiftOf 0 = .ok (.iload_n 0, 1) := by decide +kernel
theorem d_Co_shiftOf_1 : decode b_Co_shiftOf 1 = .ok (.iconst 3, 1) := by decide +kernel
theorem d_Co_shiftOf_2 : decode b_Co_shiftOf 2 = .ok (.iand, 1) := by decide +kernel
theorem d_Co_shiftOf_3 : decode b_Co_shiftOf 3 = .ok (.iconst 3, 1) := by decide +kernel
theorem d_Co_shiftOf_4 : decode b_Co_shiftOf 4 = .ok (.ishl, 1) := by decide +kernel
theorem d_Co_shiftOf_5 : decode b_Co_shiftOf 5 = .ok (.ireturn, 1) := by decide +kernel
theorem d_Co_loaded_0 : decode b_Co_loaded 0 = .ok (.iload_n 0, 1) := by decide +kernel
theorem d_Co_loaded_1 : decode b_Co_loaded 1 = .ok (.tableswitch 56 0 5 #[39, 42, 56, 56, 45, 51], 39) := by decide +kernel
theorem d_Co_loaded_40 : decode b_Co_loaded 40 = .ok (.iload_n 1, 1) := by decide +kernel
theorem d_Co_loaded_41 : decode b_Co_loaded 41 = .ok (.i2b, 1) := by decide +kernel
theorem d_Co_loaded_42 : decode b_Co_loaded 42 = .ok (.ireturn, 1) := by decide +kernel
theorem d_Co_loaded_43 : decode b_Co_loaded 43 = .ok (.iload_n 1, 1) := by decide +kernel
theorem d_Co_loaded_44 : decode b_Co_loaded 44 = .ok (.i2s, 1) := by decide +kernel
theorem d_Co_loaded_45 : decode b_Co_loaded 45 = .ok (.ireturn, 1) := by decide +kernel
theorem d_Co_loaded_57 : decode b_Co_loaded 57 = .ok (.iload_n 1, 1) := by decide +kernel
theorem d_Co_loaded_58 : decode b_Co_loaded 58 = .ok (.ireturn, 1) := by decide +kernel
theorem d_Co_loaded_46 : decode b_Co_loaded 46 = .ok (.iload_n 1, 1) := by decide +kernel
theorem d_Co_loaded_47 : decode b_Co_loaded 47 = .ok (.sipush 255, 3) := by decide +kernel
theorem d_Co_loaded_50 : decode b_Co_loaded 50 = .ok (.iand, 1) := by decide +kernel
theorem d_Co_loaded_51 : decode b_Co_loaded 51 = .ok (.ireturn, 1) := by decide +kernel
theorem d_Co_loaded_52 : decode b_Co_loaded 52 = .ok (.iload_n 1, 1) := by decide +kernel
theorem d_Co_loaded_53 : decode b_Co_loaded 53 = .ok (.ldc 14, 2) := by decide +kernel
theorem d_Co_loaded_55 : decode b_Co_loaded 55 = .ok (.iand, 1) := by decide +kernel
theorem d_Co_loaded_56 : decode b_Co_loaded 56 = .ok (.ireturn, 1) := by decide +kernel
theorem d_Co_isTaken_0 : decode b_Co_isTaken 0 = .ok (.iload_n 0, 1) := by decide +kernel
theorem d_Co_isTaken_1 : decode b_Co_isTaken 1 = .ok (.tableswitch 101 0 6 #[43, 54, 101, 101, 65, 76, 87], 43) := by decide +kernel
theorem d_Co_isTaken_44 : decode b_Co_isTaken 44 = .ok (.iload_n 1, 1) := by decide +kernel
theorem d_Co_isTaken_45 : decode b_Co_isTaken 45 = .ok (.iload_n 2, 1) := by decide +kernel
theorem d_Co_isTaken_46 : decode b_Co_isTaken 46 = .ok (.if_icmp .ne 7, 3) := by decide +kernel
theorem d_Co_isTaken_53 : decode b_Co_isTaken 53 = .ok (.iconst 0, 1) := by decide +kernel
theorem d_Co_isTaken_54 : decode b_Co_isTaken 54 = .ok (.ireturn, 1) := by decide +kernel
theorem d_Co_isTaken_49 : decode b_Co_isTaken 49 = .ok (.iconst 1, 1) := by decide +kernel
theorem d_Co_isTaken_50 : decode b_Co_isTaken 50 = .ok (.goto 4, 3) := by decide +kernel
theorem d_Co_isTaken_55 : decode b_Co_isTaken 55 = .ok (.iload_n 1, 1) := by decide +kernel
theorem d_Co_isTaken_56 : decode b_Co_isTaken 56 = .ok (.iload_n 2, 1) := by decide +kernel
theorem d_Co_isTaken_57 : decode b_Co_isTaken 57 = .ok (.if_icmp .eq 7, 3) := by decide +kernel
theorem d_Co_isTaken_64 : decode b_Co_isTaken 64 = .ok (.iconst 0, 1) := by decide +kernel
theorem d_Co_isTaken_65 : decode b_Co_isTaken 65 = .ok (.ireturn, 1) := by decide +kernel
theorem d_Co_isTaken_60 : decode b_Co_isTaken 60 = .ok (.iconst 1, 1) := by decide +kernel
theorem d_Co_isTaken_61 : decode b_Co_isTaken 61 = .ok (.goto 4, 3) := by decide +kernel
theorem d_Co_isTaken_102 : decode b_Co_isTaken 102 = .ok (.iload_n 1, 1) := by decide +kernel
theorem d_Co_isTaken_103 : decode b_Co_isTaken 103 = .ok (.iload_n 2, 1) := by decide +kernel
theorem d_Co_isTaken_104 : decode b_Co_isTaken 104 = .ok (.invokestatic 15, 3) := by decide +kernel
theorem d_Co_isTaken_107 : decode b_Co_isTaken 107 = .ok (.ifCond .lt 7, 3) := by decide +kernel
theorem d_Co_isTaken_114 : decode b_Co_isTaken 114 = .ok (.iconst 0, 1) := by decide +kernel
theorem d_Co_isTaken_115 : decode b_Co_isTaken 115 = .ok (.ireturn, 1) := by decide +kernel
theorem d_Co_isTaken_110 : decode b_Co_isTaken 110 = .ok (.iconst 1, 1) := by decide +kernel
theorem d_Co_isTaken_111 : decode b_Co_isTaken 111 = .ok (.goto 4, 3) := by decide +kernel
theorem d_Co_isTaken_66 : decode b_Co_isTaken 66 = .ok (.iload_n 1, 1) := by decide +kernel
theorem d_Co_isTaken_67 : decode b_Co_isTaken 67 = .ok (.iload_n 2, 1) := by decide +kernel
theorem d_Co_isTaken_68 : decode b_Co_isTaken 68 = .ok (.if_icmp .ge 7, 3) := by decide +kernel
theorem d_Co_isTaken_75 : decode b_Co_isTaken 75 = .ok (.iconst 0, 1) := by decide +kernel
theorem d_Co_isTaken_76 : decode b_Co_isTaken 76 = .ok (.ireturn, 1) := by decide +kernel
theorem d_Co_isTaken_71 : decode b_Co_isTaken 71 = .ok (.iconst 1, 1) := by decide +kernel
theorem d_Co_isTaken_72 : decode b_Co_isTaken 72 = .ok (.goto 4, 3) := by decide +kernel
theorem d_Co_isTaken_77 : decode b_Co_isTaken 77 = .ok (.iload_n 1, 1) := by decide +kernel
theorem d_Co_isTaken_78 : decode b_Co_isTaken 78 = .ok (.iload_n 2, 1) := by decide +kernel
theorem d_Co_isTaken_79 : decode b_Co_isTaken 79 = .ok (.if_icmp .lt 7, 3) := by decide +kernel
theorem d_Co_isTaken_86 : decode b_Co_isTaken 86 = .ok (.iconst 0, 1) := by decide +kernel
theorem d_Co_isTaken_87 : decode b_Co_isTaken 87 = .ok (.ireturn, 1) := by decide +kernel
theorem d_Co_isTaken_82 : decode b_Co_isTaken 82 = .ok (.iconst 1, 1) := by decide +kernel
theorem d_Co_isTaken_83 : decode b_Co_isTaken 83 = .ok (.goto 4, 3) := by decide +kernel
theorem d_Co_isTaken_88 : decode b_Co_isTaken 88 = .ok (.iload_n 1, 1) := by decide +kernel
theorem d_Co_isTaken_89 : decode b_Co_isTaken 89 = .ok (.iload_n 2, 1) := by decide +kernel
theorem d_Co_isTaken_90 : decode b_Co_isTaken 90 = .ok (.invokestatic 15, 3) := by decide +kernel
theorem d_Co_isTaken_93 : decode b_Co_isTaken 93 = .ok (.ifCond .ge 7, 3) := by decide +kernel
theorem d_Co_isTaken_100 : decode b_Co_isTaken 100 = .ok (.iconst 0, 1) := by decide +kernel
theorem d_Co_isTaken_101 : decode b_Co_isTaken 101 = .ok (.ireturn, 1) := by decide +kernel
theorem d_Co_isTaken_96 : decode b_Co_isTaken 96 = .ok (.iconst 1, 1) := by decide +kernel
theorem d_Co_isTaken_97 : decode b_Co_isTaken 97 = .ok (.goto 4, 3) := by decide +kernel
theorem d_Co_computed_0 : decode b_Co_computed 0 = .ok (.iload_n 0, 1) := by decide +kernel
theorem d_Co_computed_1 : decode b_Co_computed 1 = .ok (.tableswitch 117 0 6 #[43, 57, 64, 75, 89, 93, 113], 43) := by decide +kernel
theorem d_Co_computed_44 : decode b_Co_computed 44 = .ok (.iload_n 1, 1) := by decide +kernel
theorem d_Co_computed_45 : decode b_Co_computed 45 = .ok (.ifCond .eq 9, 3) := by decide +kernel
theorem d_Co_computed_54 : decode b_Co_computed 54 = .ok (.iload_n 2, 1) := by decide +kernel
theorem d_Co_computed_55 : decode b_Co_computed 55 = .ok (.iload_n 3, 1) := by decide +kernel
theorem d_Co_computed_56 : decode b_Co_computed 56 = .ok (.iadd, 1) := by decide +kernel
theorem d_Co_computed_57 : decode b_Co_computed 57 = .ok (.ireturn, 1) := by decide +kernel
theorem d_Co_computed_48 : decode b_Co_computed 48 = .ok (.iload_n 2, 1) := by decide +kernel
theorem d_Co_computed_49 : decode b_Co_computed 49 = .ok (.iload_n 3, 1) := by decide +kernel
theorem d_Co_computed_50 : decode b_Co_computed 50 = .ok (.isub, 1) := by decide +kernel
theorem d_Co_computed_51 : decode b_Co_computed 51 = .ok (.goto 6, 3) := by decide +kernel
theorem d_Co_computed_58 : decode b_Co_computed 58 = .ok (.iload_n 2, 1) := by decide +kernel
theorem d_Co_computed_59 : decode b_Co_computed 59 = .ok (.iload_n 3, 1) := by decide +kernel
theorem d_Co_computed_60 : decode b_Co_computed 60 = .ok (.bipush 31, 2) := by decide +kernel
theorem d_Co_computed_62 : decode b_Co_computed 62 = .ok (.iand, 1) := by decide +kernel
theorem d_Co_computed_63 : decode b_Co_computed 63 = .ok (.ishl, 1) := by decide +kernel
theorem d_Co_computed_64 : decode b_Co_computed 64 = .ok (.ireturn, 1) := by decide +kernel
theorem d_Co_computed_65 : decode b_Co_computed 65 = .ok (.iload_n 2, 1) := by decide +kernel
theorem d_Co_computed_66 : decode b_Co_computed 66 = .ok (.iload_n 3, 1) := by decide +kernel
theorem d_Co_computed_67 : decode b_Co_computed 67 = .ok (.if_icmp .ge 7, 3) := by decide +kernel
theorem d_Co_computed_74 : decode b_Co_computed 74 = .ok (.iconst 0, 1) := by decide +kernel
theorem d_Co_computed_75 : decode b_Co_computed 75 = .ok (.ireturn, 1) := by decide +kernel
theorem d_Co_computed_70 : decode b_Co_computed 70 = .ok (.iconst 1, 1) := by decide +kernel
theorem d_Co_computed_71 : decode b_Co_computed 71 = .ok (.goto 4, 3) := by decide +kernel
theorem d_Co_computed_76 : decode b_Co_computed 76 = .ok (.iload_n 2, 1) := by decide +kernel
theorem d_Co_computed_77 : decode b_Co_computed 77 = .ok (.iload_n 3, 1) := by decide +kernel
theorem d_Co_computed_78 : decode b_Co_computed 78 = .ok (.invokestatic 15, 3) := by decide +kernel
theorem d_Co_computed_81 : decode b_Co_computed 81 = .ok (.ifCond .ge 7, 3) := by decide +kernel
theorem d_Co_computed_88 : decode b_Co_computed 88 = .ok (.iconst 0, 1) := by decide +kernel
theorem d_Co_computed_89 : decode b_Co_computed 89 = .ok (.ireturn, 1) := by decide +kernel
theorem d_Co_computed_84 : decode b_Co_computed 84 = .ok (.iconst 1, 1) := by decide +kernel
theorem d_Co_computed_85 : decode b_Co_computed 85 = .ok (.goto 4, 3) := by decide +kernel
theorem d_Co_computed_90 : decode b_Co_computed 90 = .ok (.iload_n 2, 1) := by decide +kernel
theorem d_Co_computed_91 : decode b_Co_computed 91 = .ok (.iload_n 3, 1) := by decide +kernel
