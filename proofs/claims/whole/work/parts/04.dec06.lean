theorem d_Mo_syndrome_34 : decode b_Mo_syndrome 34 = .ok (.iload_n 2, 1) := by decide +kernel
theorem d_Mo_syndrome_35 : decode b_Mo_syndrome 35 = .ok (.ireturn, 1) := by decide +kernel
theorem d_Mo_syndrome_10 : decode b_Mo_syndrome 10 = .ok (.lload_n 0, 1) := by decide +kernel
theorem d_Mo_syndrome_11 : decode b_Mo_syndrome 11 = .ok (.iload_n 3, 1) := by decide +kernel
theorem d_Mo_syndrome_12 : decode b_Mo_syndrome 12 = .ok (.lshr, 1) := by decide +kernel
theorem d_Mo_syndrome_13 : decode b_Mo_syndrome 13 = .ok (.lconst 1, 1) := by decide +kernel
theorem d_Mo_syndrome_14 : decode b_Mo_syndrome 14 = .ok (.land, 1) := by decide +kernel
theorem d_Mo_syndrome_15 : decode b_Mo_syndrome 15 = .ok (.lconst 1, 1) := by decide +kernel
theorem d_Mo_syndrome_16 : decode b_Mo_syndrome 16 = .ok (.lcmp, 1) := by decide +kernel
theorem d_Mo_syndrome_17 : decode b_Mo_syndrome 17 = .ok (.ifCond .ne 9, 3) := by decide +kernel
theorem d_Mo_syndrome_26 : decode b_Mo_syndrome 26 = .ok (.iload_n 2, 1) := by decide +kernel
theorem d_Mo_syndrome_27 : decode b_Mo_syndrome 27 = .ok (.istore_n 2, 1) := by decide +kernel
theorem d_Mo_syndrome_28 : decode b_Mo_syndrome 28 = .ok (.iinc 3 1, 3) := by decide +kernel
theorem d_Mo_syndrome_31 : decode b_Mo_syndrome 31 = .ok (.goto (-27), 3) := by decide +kernel
theorem d_Mo_syndrome_20 : decode b_Mo_syndrome 20 = .ok (.iload_n 2, 1) := by decide +kernel
theorem d_Mo_syndrome_21 : decode b_Mo_syndrome 21 = .ok (.iload_n 3, 1) := by decide +kernel
theorem d_Mo_syndrome_22 : decode b_Mo_syndrome 22 = .ok (.ixor, 1) := by decide +kernel
theorem d_Mo_syndrome_23 : decode b_Mo_syndrome 23 = .ok (.goto 4, 3) := by decide +kernel
theorem d_Mo_isOdd_0 : decode b_Mo_isOdd 0 = .ok (.iconst 0, 1) := by decide +kernel
theorem d_Mo_isOdd_1 : decode b_Mo_isOdd 1 = .ok (.istore_n 2, 1) := by decide +kernel
theorem d_Mo_isOdd_2 : decode b_Mo_isOdd 2 = .ok (.iconst 0, 1) := by decide +kernel
theorem d_Mo_isOdd_3 : decode b_Mo_isOdd 3 = .ok (.istore_n 3, 1) := by decide +kernel
theorem d_Mo_isOdd_4 : decode b_Mo_isOdd 4 = .ok (.iload_n 3, 1) := by decide +kernel
theorem d_Mo_isOdd_5 : decode b_Mo_isOdd 5 = .ok (.bipush 39, 2) := by decide +kernel
theorem d_Mo_isOdd_7 : decode b_Mo_isOdd 7 = .ok (.if_icmp .ge 34, 3) := by decide +kernel
theorem d_Mo_isOdd_41 : decode b_Mo_isOdd 41 = .ok (.iload_n 2, 1) := by decide +kernel
theorem d_Mo_isOdd_42 : decode b_Mo_isOdd 42 = .ok (.ireturn, 1) := by decide +kernel
theorem d_Mo_isOdd_10 : decode b_Mo_isOdd 10 = .ok (.iload_n 2, 1) := by decide +kernel
theorem d_Mo_isOdd_11 : decode b_Mo_isOdd 11 = .ok (.lload_n 0, 1) := by decide +kernel
theorem d_Mo_isOdd_12 : decode b_Mo_isOdd 12 = .ok (.iload_n 3, 1) := by decide +kernel
theorem d_Mo_isOdd_13 : decode b_Mo_isOdd 13 = .ok (.lshr, 1) := by decide +kernel
theorem d_Mo_isOdd_14 : decode b_Mo_isOdd 14 = .ok (.lconst 1, 1) := by decide +kernel
theorem d_Mo_isOdd_15 : decode b_Mo_isOdd 15 = .ok (.land, 1) := by decide +kernel
theorem d_Mo_isOdd_16 : decode b_Mo_isOdd 16 = .ok (.lconst 1, 1) := by decide +kernel
theorem d_Mo_isOdd_17 : decode b_Mo_isOdd 17 = .ok (.lcmp, 1) := by decide +kernel
theorem d_Mo_isOdd_18 : decode b_Mo_isOdd 18 = .ok (.ifCond .ne 7, 3) := by decide +kernel
theorem d_Mo_isOdd_25 : decode b_Mo_isOdd 25 = .ok (.iconst 0, 1) := by decide +kernel
theorem d_Mo_isOdd_26 : decode b_Mo_isOdd 26 = .ok (.if_icmp .eq 7, 3) := by decide +kernel
theorem d_Mo_isOdd_33 : decode b_Mo_isOdd 33 = .ok (.iconst 0, 1) := by decide +kernel
theorem d_Mo_isOdd_34 : decode b_Mo_isOdd 34 = .ok (.istore_n 2, 1) := by decide +kernel
theorem d_Mo_isOdd_35 : decode b_Mo_isOdd 35 = .ok (.iinc 3 1, 3) := by decide +kernel
theorem d_Mo_isOdd_38 : decode b_Mo_isOdd 38 = .ok (.goto (-34), 3) := by decide +kernel
theorem d_Mo_isOdd_29 : decode b_Mo_isOdd 29 = .ok (.iconst 1, 1) := by decide +kernel
theorem d_Mo_isOdd_30 : decode b_Mo_isOdd 30 = .ok (.goto 4, 3) := by decide +kernel
theorem d_Mo_isOdd_21 : decode b_Mo_isOdd 21 = .ok (.iconst 1, 1) := by decide +kernel
theorem d_Mo_isOdd_22 : decode b_Mo_isOdd 22 = .ok (.goto 4, 3) := by decide +kernel
theorem d_Mo_dataOf_0 : decode b_Mo_dataOf 0 = .ok (.iconst 0, 1) := by decide +kernel
theorem d_Mo_dataOf_1 : decode b_Mo_dataOf 1 = .ok (.istore_n 2, 1) := by decide +kernel
theorem d_Mo_dataOf_2 : decode b_Mo_dataOf 2 = .ok (.iconst 0, 1) := by decide +kernel
theorem d_Mo_dataOf_3 : decode b_Mo_dataOf 3 = .ok (.istore_n 3, 1) := by decide +kernel
theorem d_Mo_dataOf_4 : decode b_Mo_dataOf 4 = .ok (.iconst 3, 1) := by decide +kernel
theorem d_Mo_dataOf_5 : decode b_Mo_dataOf 5 = .ok (.istore 4, 2) := by decide +kernel
theorem d_Mo_dataOf_7 : decode b_Mo_dataOf 7 = .ok (.iload 4, 2) := by decide +kernel
theorem d_Mo_dataOf_9 : decode b_Mo_dataOf 9 = .ok (.bipush 39, 2) := by decide +kernel
theorem d_Mo_dataOf_11 : decode b_Mo_dataOf 11 = .ok (.if_icmp .ge 41, 3) := by decide +kernel
theorem d_Mo_dataOf_52 : decode b_Mo_dataOf 52 = .ok (.iload_n 2, 1) := by decide +kernel
theorem d_Mo_dataOf_53 : decode b_Mo_dataOf 53 = .ok (.ireturn, 1) := by decide +kernel
theorem d_Mo_dataOf_14 : decode b_Mo_dataOf 14 = .ok (.iload 4, 2) := by decide +kernel
theorem d_Mo_dataOf_16 : decode b_Mo_dataOf 16 = .ok (.invokestatic 36, 3) := by decide +kernel
theorem d_Mo_dataOf_19 : decode b_Mo_dataOf 19 = .ok (.ifCond .eq 27, 3) := by decide +kernel
theorem d_Mo_dataOf_46 : decode b_Mo_dataOf 46 = .ok (.iinc 4 1, 3) := by decide +kernel
theorem d_Mo_dataOf_49 : decode b_Mo_dataOf 49 = .ok (.goto (-42), 3) := by decide +kernel
theorem d_Mo_dataOf_22 : decode b_Mo_dataOf 22 = .ok (.lload_n 0, 1) := by decide +kernel
theorem d_Mo_dataOf_23 : decode b_Mo_dataOf 23 = .ok (.iload 4, 2) := by decide +kernel
theorem d_Mo_dataOf_25 : decode b_Mo_dataOf 25 = .ok (.lshr, 1) := by decide +kernel
theorem d_Mo_dataOf_26 : decode b_Mo_dataOf 26 = .ok (.lconst 1, 1) := by decide +kernel
theorem d_Mo_dataOf_27 : decode b_Mo_dataOf 27 = .ok (.land, 1) := by decide +kernel
theorem d_Mo_dataOf_28 : decode b_Mo_dataOf 28 = .ok (.lconst 1, 1) := by decide +kernel
theorem d_Mo_dataOf_29 : decode b_Mo_dataOf 29 = .ok (.lcmp, 1) := by decide +kernel
theorem d_Mo_dataOf_30 : decode b_Mo_dataOf 30 = .ok (.ifCond .ne 11, 3) := by decide +kernel
theorem d_Mo_dataOf_41 : decode b_Mo_dataOf 41 = .ok (.iload_n 2, 1) := by decide +kernel
theorem d_Mo_dataOf_42 : decode b_Mo_dataOf 42 = .ok (.istore_n 2, 1) := by decide +kernel
theorem d_Mo_dataOf_43 : decode b_Mo_dataOf 43 = .ok (.iinc 3 1, 3) := by decide +kernel
theorem d_Mo_dataOf_33 : decode b_Mo_dataOf 33 = .ok (.iload_n 2, 1) := by decide +kernel
theorem d_Mo_dataOf_34 : decode b_Mo_dataOf 34 = .ok (.iconst 1, 1) := by decide +kernel
theorem d_Mo_dataOf_35 : decode b_Mo_dataOf 35 = .ok (.iload_n 3, 1) := by decide +kernel
theorem d_Mo_dataOf_36 : decode b_Mo_dataOf 36 = .ok (.ishl, 1) := by decide +kernel
theorem d_Mo_dataOf_37 : decode b_Mo_dataOf 37 = .ok (.ior, 1) := by decide +kernel
theorem d_Mo_dataOf_38 : decode b_Mo_dataOf 38 = .ok (.goto 4, 3) := by decide +kernel
theorem d_Mo_encoded_0 : decode b_Mo_encoded 0 = .ok (.lconst 0, 1) := by decide +kernel
theorem d_Mo_encoded_1 : decode b_Mo_encoded 1 = .ok (.lstore_n 1, 1) := by decide +kernel
theorem d_Mo_encoded_2 : decode b_Mo_encoded 2 = .ok (.iconst 0, 1) := by decide +kernel
theorem d_Mo_encoded_3 : decode b_Mo_encoded 3 = .ok (.istore_n 3, 1) := by decide +kernel
theorem d_Mo_encoded_4 : decode b_Mo_encoded 4 = .ok (.iconst 3, 1) := by decide +kernel
theorem d_Mo_encoded_5 : decode b_Mo_encoded 5 = .ok (.istore 4, 2) := by decide +kernel
theorem d_Mo_encoded_7 : decode b_Mo_encoded 7 = .ok (.iload 4, 2) := by decide +kernel
theorem d_Mo_encoded_9 : decode b_Mo_encoded 9 = .ok (.bipush 39, 2) := by decide +kernel
theorem d_Mo_encoded_11 : decode b_Mo_encoded 11 = .ok (.if_icmp .ge 40, 3) := by decide +kernel
theorem d_Mo_encoded_51 : decode b_Mo_encoded 51 = .ok (.lload_n 1, 1) := by decide +kernel
theorem d_Mo_encoded_52 : decode b_Mo_encoded 52 = .ok (.invokestatic 40, 3) := by decide +kernel
theorem d_Mo_encoded_55 : decode b_Mo_encoded 55 = .ok (.istore 4, 2) := by decide +kernel
theorem d_Mo_encoded_57 : decode b_Mo_encoded 57 = .ok (.iconst 0, 1) := by decide +kernel
theorem d_Mo_encoded_58 : decode b_Mo_encoded 58 = .ok (.istore 5, 2) := by decide +kernel
theorem d_Mo_encoded_60 : decode b_Mo_encoded 60 = .ok (.iload 5, 2) := by decide +kernel
theorem d_Mo_encoded_62 : decode b_Mo_encoded 62 = .ok (.bipush 6, 2) := by decide +kernel
theorem d_Mo_encoded_64 : decode b_Mo_encoded 64 = .ok (.if_icmp .ge 33, 3) := by decide +kernel
theorem d_Mo_encoded_97 : decode b_Mo_encoded 97 = .ok (.lload_n 1, 1) := by decide +kernel
theorem d_Mo_encoded_98 : decode b_Mo_encoded 98 = .ok (.invokestatic 44, 3) := by decide +kernel
theorem d_Mo_encoded_101 : decode b_Mo_encoded 101 = .ok (.ifCond .eq 9, 3) := by decide +kernel
theorem d_Mo_encoded_110 : decode b_Mo_encoded 110 = .ok (.lload_n 1, 1) := by decide +kernel
theorem d_Mo_encoded_111 : decode b_Mo_encoded 111 = .ok (.lreturn, 1) := by decide +kernel
theorem d_Mo_encoded_104 : decode b_Mo_encoded 104 = .ok (.lload_n 1, 1) := by decide +kernel
theorem d_Mo_encoded_105 : decode b_Mo_encoded 105 = .ok (.lconst 1, 1) := by decide +kernel
theorem d_Mo_encoded_106 : decode b_Mo_encoded 106 = .ok (.lor, 1) := by decide +kernel
theorem d_Mo_encoded_107 : decode b_Mo_encoded 107 = .ok (.goto 4, 3) := by decide +kernel
theorem d_Mo_encoded_67 : decode b_Mo_encoded 67 = .ok (.iload 4, 2) := by decide +kernel
theorem d_Mo_encoded_69 : decode b_Mo_encoded 69 = .ok (.iload 5, 2) := by decide +kernel
theorem d_Mo_encoded_71 : decode b_Mo_encoded 71 = .ok (.ishr, 1) := by decide +kernel
theorem d_Mo_encoded_72 : decode b_Mo_encoded 72 = .ok (.iconst 1, 1) := by decide +kernel
theorem d_Mo_encoded_73 : decode b_Mo_encoded 73 = .ok (.iand, 1) := by decide +kernel
theorem d_Mo_encoded_74 : decode b_Mo_encoded 74 = .ok (.iconst 1, 1) := by decide +kernel
theorem d_Mo_encoded_75 : decode b_Mo_encoded 75 = .ok (.if_icmp .ne 14, 3) := by decide +kernel
theorem d_Mo_encoded_89 : decode b_Mo_encoded 89 = .ok (.lload_n 1, 1) := by decide +kernel
theorem d_Mo_encoded_90 : decode b_Mo_encoded 90 = .ok (.lstore_n 1, 1) := by decide +kernel
theorem d_Mo_encoded_91 : decode b_Mo_encoded 91 = .ok (.iinc 5 1, 3) := by decide +kernel
theorem d_Mo_encoded_94 : decode b_Mo_encoded 94 = .ok (.goto (-34), 3) := by decide +kernel
theorem d_Mo_encoded_78 : decode b_Mo_encoded 78 = .ok (.lload_n 1, 1) := by decide +kernel
theorem d_Mo_encoded_79 : decode b_Mo_encoded 79 = .ok (.lconst 1, 1) := by decide +kernel
theorem d_Mo_encoded_80 : decode b_Mo_encoded 80 = .ok (.iconst 1, 1) := by decide +kernel
theorem d_Mo_encoded_81 : decode b_Mo_encoded 81 = .ok (.iload 5, 2) := by decide +kernel
theorem d_Mo_encoded_83 : decode b_Mo_encoded 83 = .ok (.ishl, 1) := by decide +kernel
theorem d_Mo_encoded_84 : decode b_Mo_encoded 84 = .ok (.lshl, 1) := by decide +kernel
theorem d_Mo_encoded_85 : decode b_Mo_encoded 85 = .ok (.lor, 1) := by decide +kernel
theorem d_Mo_encoded_86 : decode b_Mo_encoded 86 = .ok (.goto 4, 3) := by decide +kernel
theorem d_Mo_encoded_14 : decode b_Mo_encoded 14 = .ok (.iload 4, 2) := by decide +kernel
theorem d_Mo_encoded_16 : decode b_Mo_encoded 16 = .ok (.invokestatic 36, 3) := by decide +kernel
theorem d_Mo_encoded_19 : decode b_Mo_encoded 19 = .ok (.ifCond .eq 26, 3) := by decide +kernel
theorem d_Mo_encoded_45 : decode b_Mo_encoded 45 = .ok (.iinc 4 1, 3) := by decide +kernel
theorem d_Mo_encoded_48 : decode b_Mo_encoded 48 = .ok (.goto (-41), 3) := by decide +kernel
theorem d_Mo_encoded_22 : decode b_Mo_encoded 22 = .ok (.iload_n 0, 1) := by decide +kernel
theorem d_Mo_encoded_23 : decode b_Mo_encoded 23 = .ok (.iload_n 3, 1) := by decide +kernel
theorem d_Mo_encoded_24 : decode b_Mo_encoded 24 = .ok (.ishr, 1) := by decide +kernel
theorem d_Mo_encoded_25 : decode b_Mo_encoded 25 = .ok (.iconst 1, 1) := by decide +kernel
theorem d_Mo_encoded_26 : decode b_Mo_encoded 26 = .ok (.iand, 1) := by decide +kernel
theorem d_Mo_encoded_27 : decode b_Mo_encoded 27 = .ok (.iconst 1, 1) := by decide +kernel
theorem d_Mo_encoded_28 : decode b_Mo_encoded 28 = .ok (.if_icmp .ne 12, 3) := by decide +kernel
theorem d_Mo_encoded_40 : decode b_Mo_encoded 40 = .ok (.lload_n 1, 1) := by decide +kernel
theorem d_Mo_encoded_41 : decode b_Mo_encoded 41 = .ok (.lstore_n 1, 1) := by decide +kernel
theorem d_Mo_encoded_42 : decode b_Mo_encoded 42 = .ok (.iinc 3 1, 3) := by decide +kernel
theorem d_Mo_encoded_31 : decode b_Mo_encoded 31 = .ok (.lload_n 1, 1) := by decide +kernel
theorem d_Mo_encoded_32 : decode b_Mo_encoded 32 = .ok (.lconst 1, 1) := by decide +kernel
theorem d_Mo_encoded_33 : decode b_Mo_encoded 33 = .ok (.iload 4, 2) := by decide +kernel
theorem d_Mo_encoded_35 : decode b_Mo_encoded 35 = .ok (.lshl, 1) := by decide +kernel
theorem d_Mo_encoded_36 : decode b_Mo_encoded 36 = .ok (.lor, 1) := by decide +kernel
theorem d_Mo_encoded_37 : decode b_Mo_encoded 37 = .ok (.goto 4, 3) := by decide +kernel
theorem d_Mo_wrongBit_0 : decode b_Mo_wrongBit 0 = .ok (.lload_n 0, 1) := by decide +kernel
theorem d_Mo_wrongBit_1 : decode b_Mo_wrongBit 1 = .ok (.invokestatic 40, 3) := by decide +kernel
theorem d_Mo_wrongBit_4 : decode b_Mo_wrongBit 4 = .ok (.istore_n 2, 1) := by decide +kernel
theorem d_Mo_wrongBit_5 : decode b_Mo_wrongBit 5 = .ok (.lload_n 0, 1) := by decide +kernel
theorem d_Mo_wrongBit_6 : decode b_Mo_wrongBit 6 = .ok (.invokestatic 44, 3) := by decide +kernel
theorem d_Mo_wrongBit_9 : decode b_Mo_wrongBit 9 = .ok (.ifCond .eq 18, 3) := by decide +kernel
theorem d_Mo_wrongBit_27 : decode b_Mo_wrongBit 27 = .ok (.iload_n 2, 1) := by decide +kernel
theorem d_Mo_wrongBit_28 : decode b_Mo_wrongBit 28 = .ok (.ifCond .ne 7, 3) := by decide +kernel
theorem d_Mo_wrongBit_35 : decode b_Mo_wrongBit 35 = .ok (.bipush (-2), 2) := by decide +kernel
theorem d_Mo_wrongBit_37 : decode b_Mo_wrongBit 37 = .ok (.ireturn, 1) := by decide +kernel
theorem d_Mo_wrongBit_31 : decode b_Mo_wrongBit 31 = .ok (.iconst (-1), 1) := by decide +kernel
theorem d_Mo_wrongBit_32 : decode b_Mo_wrongBit 32 = .ok (.goto 5, 3) := by decide +kernel
theorem d_Mo_wrongBit_12 : decode b_Mo_wrongBit 12 = .ok (.iload_n 2, 1) := by decide +kernel
theorem d_Mo_wrongBit_13 : decode b_Mo_wrongBit 13 = .ok (.bipush 39, 2) := by decide +kernel
theorem d_Mo_wrongBit_15 : decode b_Mo_wrongBit 15 = .ok (.if_icmp .ge 7, 3) := by decide +kernel
theorem d_Mo_wrongBit_22 : decode b_Mo_wrongBit 22 = .ok (.bipush (-2), 2) := by decide +kernel
theorem d_Mo_wrongBit_24 : decode b_Mo_wrongBit 24 = .ok (.goto 13, 3) := by decide +kernel
theorem d_Mo_wrongBit_18 : decode b_Mo_wrongBit 18 = .ok (.iload_n 2, 1) := by decide +kernel
theorem d_Mo_wrongBit_19 : decode b_Mo_wrongBit 19 = .ok (.goto 18, 3) := by decide +kernel
theorem d_Mo_mend_0 : decode b_Mo_mend 0 = .ok (.aload_n 0, 1) := by decide +kernel
theorem d_Mo_mend_1 : decode b_Mo_mend 1 = .ok (.getfield 13, 3) := by decide +kernel
theorem d_Mo_mend_4 : decode b_Mo_mend 4 = .ok (.iload_n 1, 1) := by decide +kernel
theorem d_Mo_mend_5 : decode b_Mo_mend 5 = .ok (.laload, 1) := by decide +kernel
theorem d_Mo_mend_6 : decode b_Mo_mend 6 = .ok (.invokestatic 48, 3) := by decide +kernel
theorem d_Mo_mend_9 : decode b_Mo_mend 9 = .ok (.istore_n 2, 1) := by decide +kernel
theorem d_Mo_mend_10 : decode b_Mo_mend 10 = .ok (.iload_n 2, 1) := by decide +kernel
theorem d_Mo_mend_11 : decode b_Mo_mend 11 = .ok (.ifCond .lt 29, 3) := by decide +kernel
theorem d_Mo_mend_40 : decode b_Mo_mend 40 = .ok (.iload_n 2, 1) := by decide +kernel
theorem d_Mo_mend_41 : decode b_Mo_mend 41 = .ok (.bipush (-2), 2) := by decide +kernel
theorem d_Mo_mend_43 : decode b_Mo_mend 43 = .ok (.if_icmp .eq 7, 3) := by decide +kernel
theorem d_Mo_mend_50 : decode b_Mo_mend 50 = .ok (.iconst 0, 1) := by decide +kernel
theorem d_Mo_mend_51 : decode b_Mo_mend 51 = .ok (.ireturn, 1) := by decide +kernel
theorem d_Mo_mend_46 : decode b_Mo_mend 46 = .ok (.iconst 1, 1) := by decide +kernel
theorem d_Mo_mend_47 : decode b_Mo_mend 47 = .ok (.goto 4, 3) := by decide +kernel
theorem d_Mo_mend_14 : decode b_Mo_mend 14 = .ok (.aload_n 0, 1) := by decide +kernel
theorem d_Mo_mend_15 : decode b_Mo_mend 15 = .ok (.getfield 13, 3) := by decide +kernel
theorem d_Mo_mend_18 : decode b_Mo_mend 18 = .ok (.iload_n 1, 1) := by decide +kernel
theorem d_Mo_mend_19 : decode b_Mo_mend 19 = .ok (.aload_n 0, 1) := by decide +kernel
theorem d_Mo_mend_20 : decode b_Mo_mend 20 = .ok (.getfield 13, 3) := by decide +kernel
theorem d_Mo_mend_23 : decode b_Mo_mend 23 = .ok (.iload_n 1, 1) := by decide +kernel
theorem d_Mo_mend_24 : decode b_Mo_mend 24 = .ok (.laload, 1) := by decide +kernel
theorem d_Mo_mend_25 : decode b_Mo_mend 25 = .ok (.lconst 1, 1) := by decide +kernel
theorem d_Mo_mend_26 : decode b_Mo_mend 26 = .ok (.iload_n 2, 1) := by decide +kernel
theorem d_Mo_mend_27 : decode b_Mo_mend 27 = .ok (.lshl, 1) := by decide +kernel
theorem d_Mo_mend_28 : decode b_Mo_mend 28 = .ok (.lxor, 1) := by decide +kernel
theorem d_Mo_mend_29 : decode b_Mo_mend 29 = .ok (.lastore, 1) := by decide +kernel
theorem d_Mo_mend_30 : decode b_Mo_mend 30 = .ok (.aload_n 0, 1) := by decide +kernel
theorem d_Mo_mend_31 : decode b_Mo_mend 31 = .ok (.getfield 29, 3) := by decide +kernel
theorem d_Mo_mend_34 : decode b_Mo_mend 34 = .ok (.iconst 0, 1) := by decide +kernel
theorem d_Mo_mend_35 : decode b_Mo_mend 35 = .ok (.dup2, 1) := by decide +kernel
theorem d_Mo_mend_36 : decode b_Mo_mend 36 = .ok (.iaload, 1) := by decide +kernel
theorem d_Mo_mend_37 : decode b_Mo_mend 37 = .ok (.iconst 1, 1) := by decide +kernel
theorem d_Mo_mend_38 : decode b_Mo_mend 38 = .ok (.iadd, 1) := by decide +kernel
theorem d_Mo_mend_39 : decode b_Mo_mend 39 = .ok (.iastore, 1) := by decide +kernel
theorem d_Mo_keep_0 : decode b_Mo_keep 0 = .ok (.aload_n 0, 1) := by decide +kernel
theorem d_Mo_keep_1 : decode b_Mo_keep 1 = .ok (.getfield 7, 3) := by decide +kernel
theorem d_Mo_keep_4 : decode b_Mo_keep 4 = .ok (.iload_n 1, 1) := by decide +kernel
theorem d_Mo_keep_5 : decode b_Mo_keep 5 = .ok (.iload_n 2, 1) := by decide +kernel
theorem d_Mo_keep_6 : decode b_Mo_keep 6 = .ok (.iastore, 1) := by decide +kernel
theorem d_Mo_keep_7 : decode b_Mo_keep 7 = .ok (.aload_n 0, 1) := by decide +kernel
theorem d_Mo_keep_8 : decode b_Mo_keep 8 = .ok (.getfield 13, 3) := by decide +kernel
theorem d_Mo_keep_11 : decode b_Mo_keep 11 = .ok (.iload_n 1, 1) := by decide +kernel
theorem d_Mo_keep_12 : decode b_Mo_keep 12 = .ok (.lconst 0, 1) := by decide +kernel
theorem d_Mo_keep_13 : decode b_Mo_keep 13 = .ok (.lastore, 1) := by decide +kernel
theorem d_Mo_keep_14 : decode b_Mo_keep 14 = .ok (.return_, 1) := by decide +kernel
theorem d_Mo_line_0 : decode b_Mo_line 0 = .ok (.iload_n 0, 1) := by decide +kernel
theorem d_Mo_line_1 : decode b_Mo_line 1 = .ok (.i2l, 1) := by decide +kernel
theorem d_Mo_line_2 : decode b_Mo_line 2 = .ok (.ldc2_w 51, 3) := by decide +kernel
theorem d_Mo_line_5 : decode b_Mo_line 5 = .ok (.land, 1) := by decide +kernel
theorem d_Mo_line_6 : decode b_Mo_line 6 = .ok (.iload_n 1, 1) := by decide +kernel
theorem d_Mo_line_7 : decode b_Mo_line 7 = .ok (.i2l, 1) := by decide +kernel
theorem d_Mo_line_8 : decode b_Mo_line 8 = .ok (.bipush 32, 2) := by decide +kernel
theorem d_Mo_line_10 : decode b_Mo_line 10 = .ok (.lshl, 1) := by decide +kernel
theorem d_Mo_line_11 : decode b_Mo_line 11 = .ok (.lor, 1) := by decide +kernel
theorem d_Mo_line_12 : decode b_Mo_line 12 = .ok (.ldc2_w 53, 3) := by decide +kernel
theorem d_Mo_line_15 : decode b_Mo_line 15 = .ok (.lor, 1) := by decide +kernel
theorem d_Mo_line_16 : decode b_Mo_line 16 = .ok (.lstore_n 2, 1) := by decide +kernel
theorem d_Mo_line_17 : decode b_Mo_line 17 = .ok (.lload_n 2, 1) := by decide +kernel
theorem d_Mo_line_18 : decode b_Mo_line 18 = .ok (.invokestatic 44, 3) := by decide +kernel
theorem d_Mo_line_21 : decode b_Mo_line 21 = .ok (.ifCond .eq 11, 3) := by decide +kernel
theorem d_Mo_line_32 : decode b_Mo_line 32 = .ok (.lload_n 2, 1) := by decide +kernel
theorem d_Mo_line_33 : decode b_Mo_line 33 = .ok (.lreturn, 1) := by decide +kernel
theorem d_Mo_line_24 : decode b_Mo_line 24 = .ok (.lload_n 2, 1) := by decide +kernel
theorem d_Mo_line_25 : decode b_Mo_line 25 = .ok (.ldc2_w 55, 3) := by decide +kernel
theorem d_Mo_line_28 : decode b_Mo_line 28 = .ok (.lor, 1) := by decide +kernel
theorem d_Mo_line_29 : decode b_Mo_line 29 = .ok (.goto 4, 3) := by decide +kernel
theorem d_Mo_stop_0 : decode b_Mo_stop 0 = .ok (.aload_n 0, 1) := by decide +kernel
theorem d_Mo_stop_1 : decode b_Mo_stop 1 = .ok (.iload_n 1, 1) := by decide +kernel
theorem d_Mo_stop_2 : decode b_Mo_stop 2 = .ok (.putfield 94, 3) := by decide +kernel
theorem d_Mo_stop_5 : decode b_Mo_stop 5 = .ok (.aload_n 0, 1) := by decide +kernel
theorem d_Mo_stop_6 : decode b_Mo_stop 6 = .ok (.iload_n 2, 1) := by decide +kernel
theorem d_Mo_stop_7 : decode b_Mo_stop 7 = .ok (.putfield 97, 3) := by decide +kernel
theorem d_Mo_stop_10 : decode b_Mo_stop 10 = .ok (.return_, 1) := by decide +kernel
theorem d_Mo_holds_0 : decode b_Mo_holds 0 = .ok (.iconst 4, 1) := by decide +kernel
theorem d_Mo_holds_1 : decode b_Mo_holds 1 = .ok (.iload_n 1, 1) := by decide +kernel
theorem d_Mo_holds_2 : decode b_Mo_holds 2 = .ok (.imul, 1) := by decide +kernel
theorem d_Mo_holds_3 : decode b_Mo_holds 3 = .ok (.iload_n 2, 1) := by decide +kernel
theorem d_Mo_holds_4 : decode b_Mo_holds 4 = .ok (.iconst 4, 1) := by decide +kernel
theorem d_Mo_holds_5 : decode b_Mo_holds 5 = .ok (.irem, 1) := by decide +kernel
theorem d_Mo_holds_6 : decode b_Mo_holds 6 = .ok (.iadd, 1) := by decide +kernel
theorem d_Mo_holds_7 : decode b_Mo_holds 7 = .ok (.istore_n 3, 1) := by decide +kernel
theorem d_Mo_holds_8 : decode b_Mo_holds 8 = .ok (.aload_n 0, 1) := by decide +kernel
theorem d_Mo_holds_9 : decode b_Mo_holds 9 = .ok (.getfield 23, 3) := by decide +kernel
theorem d_Mo_holds_12 : decode b_Mo_holds 12 = .ok (.iload_n 3, 1) := by decide +kernel
theorem d_Mo_holds_13 : decode b_Mo_holds 13 = .ok (.laload, 1) := by decide +kernel
theorem d_Mo_holds_14 : decode b_Mo_holds 14 = .ok (.invokestatic 44, 3) := by decide +kernel
theorem d_Mo_holds_17 : decode b_Mo_holds 17 = .ok (.ifCond .eq 22, 3) := by decide +kernel
theorem d_Mo_holds_39 : decode b_Mo_holds 39 = .ok (.aload_n 0, 1) := by decide +kernel
theorem d_Mo_holds_40 : decode b_Mo_holds 40 = .ok (.getfield 23, 3) := by decide +kernel
theorem d_Mo_holds_43 : decode b_Mo_holds 43 = .ok (.iload_n 3, 1) := by decide +kernel
theorem d_Mo_holds_44 : decode b_Mo_holds 44 = .ok (.laload, 1) := by decide +kernel
theorem d_Mo_holds_45 : decode b_Mo_holds 45 = .ok (.bipush 36, 2) := by decide +kernel
theorem d_Mo_holds_47 : decode b_Mo_holds 47 = .ok (.lshr, 1) := by decide +kernel
theorem d_Mo_holds_48 : decode b_Mo_holds 48 = .ok (.lconst 1, 1) := by decide +kernel
theorem d_Mo_holds_49 : decode b_Mo_holds 49 = .ok (.land, 1) := by decide +kernel
theorem d_Mo_holds_50 : decode b_Mo_holds 50 = .ok (.lconst 1, 1) := by decide +kernel
theorem d_Mo_holds_51 : decode b_Mo_holds 51 = .ok (.lcmp, 1) := by decide +kernel
theorem d_Mo_holds_52 : decode b_Mo_holds 52 = .ok (.ifCond .ne 27, 3) := by decide +kernel
theorem d_Mo_holds_79 : decode b_Mo_holds 79 = .ok (.iconst 0, 1) := by decide +kernel
theorem d_Mo_holds_80 : decode b_Mo_holds 80 = .ok (.ireturn, 1) := by decide +kernel
theorem d_Mo_holds_55 : decode b_Mo_holds 55 = .ok (.aload_n 0, 1) := by decide +kernel
theorem d_Mo_holds_56 : decode b_Mo_holds 56 = .ok (.getfield 23, 3) := by decide +kernel
theorem d_Mo_holds_59 : decode b_Mo_holds 59 = .ok (.iload_n 3, 1) := by decide +kernel
theorem d_Mo_holds_60 : decode b_Mo_holds 60 = .ok (.laload, 1) := by decide +kernel
theorem d_Mo_holds_61 : decode b_Mo_holds 61 = .ok (.bipush 32, 2) := by decide +kernel
theorem d_Mo_holds_63 : decode b_Mo_holds 63 = .ok (.lshr, 1) := by decide +kernel
theorem d_Mo_holds_64 : decode b_Mo_holds 64 = .ok (.ldc2_w 57, 3) := by decide +kernel
theorem d_Mo_holds_67 : decode b_Mo_holds 67 = .ok (.land, 1) := by decide +kernel
theorem d_Mo_holds_68 : decode b_Mo_holds 68 = .ok (.l2i, 1) := by decide +kernel
theorem d_Mo_holds_69 : decode b_Mo_holds 69 = .ok (.iload_n 2, 1) := by decide +kernel
theorem d_Mo_holds_70 : decode b_Mo_holds 70 = .ok (.iconst 4, 1) := by decide +kernel
theorem d_Mo_holds_71 : decode b_Mo_holds 71 = .ok (.idiv, 1) := by decide +kernel
theorem d_Mo_holds_72 : decode b_Mo_holds 72 = .ok (.if_icmp .ne 7, 3) := by decide +kernel
theorem d_Mo_holds_75 : decode b_Mo_holds 75 = .ok (.iconst 1, 1) := by decide +kernel
theorem d_Mo_holds_76 : decode b_Mo_holds 76 = .ok (.goto 4, 3) := by decide +kernel
theorem d_Mo_holds_20 : decode b_Mo_holds 20 = .ok (.aload_n 0, 1) := by decide +kernel
theorem d_Mo_holds_21 : decode b_Mo_holds 21 = .ok (.getfield 23, 3) := by decide +kernel
theorem d_Mo_holds_24 : decode b_Mo_holds 24 = .ok (.iload_n 3, 1) := by decide +kernel
theorem d_Mo_holds_25 : decode b_Mo_holds 25 = .ok (.lconst 0, 1) := by decide +kernel
theorem d_Mo_holds_26 : decode b_Mo_holds 26 = .ok (.lastore, 1) := by decide +kernel
theorem d_Mo_holds_27 : decode b_Mo_holds 27 = .ok (.aload_n 0, 1) := by decide +kernel
theorem d_Mo_holds_28 : decode b_Mo_holds 28 = .ok (.getfield 29, 3) := by decide +kernel
theorem d_Mo_holds_31 : decode b_Mo_holds 31 = .ok (.iconst 3, 1) := by decide +kernel
theorem d_Mo_holds_32 : decode b_Mo_holds 32 = .ok (.iload_n 1, 1) := by decide +kernel
theorem d_Mo_holds_33 : decode b_Mo_holds 33 = .ok (.iadd, 1) := by decide +kernel
theorem d_Mo_holds_34 : decode b_Mo_holds 34 = .ok (.dup2, 1) := by decide +kernel
theorem d_Mo_holds_35 : decode b_Mo_holds 35 = .ok (.iaload, 1) := by decide +kernel
theorem d_Mo_holds_36 : decode b_Mo_holds 36 = .ok (.iconst 1, 1) := by decide +kernel
theorem d_Mo_holds_37 : decode b_Mo_holds 37 = .ok (.iadd, 1) := by decide +kernel
theorem d_Mo_holds_38 : decode b_Mo_holds 38 = .ok (.iastore, 1) := by decide +kernel
theorem d_Mo_fetch_0 : decode b_Mo_fetch 0 = .ok (.iconst 4, 1) := by decide +kernel
theorem d_Mo_fetch_1 : decode b_Mo_fetch 1 = .ok (.iload_n 1, 1) := by decide +kernel
theorem d_Mo_fetch_2 : decode b_Mo_fetch 2 = .ok (.imul, 1) := by decide +kernel
theorem d_Mo_fetch_3 : decode b_Mo_fetch 3 = .ok (.iload_n 2, 1) := by decide +kernel
theorem d_Mo_fetch_4 : decode b_Mo_fetch 4 = .ok (.iconst 4, 1) := by decide +kernel
