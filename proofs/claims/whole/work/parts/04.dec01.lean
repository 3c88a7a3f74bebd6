theorem d_Co_computed_92 : decode b_Co_computed 92 = .ok (.ixor, 1) := by decide +kernel
theorem d_Co_computed_93 : decode b_Co_computed 93 = .ok (.ireturn, 1) := by decide +kernel
theorem d_Co_computed_94 : decode b_Co_computed 94 = .ok (.iload_n 1, 1) := by decide +kernel
theorem d_Co_computed_95 : decode b_Co_computed 95 = .ok (.ifCond .eq 12, 3) := by decide +kernel
theorem d_Co_computed_107 : decode b_Co_computed 107 = .ok (.iload_n 2, 1) := by decide +kernel
theorem d_Co_computed_108 : decode b_Co_computed 108 = .ok (.iload_n 3, 1) := by decide +kernel
theorem d_Co_computed_109 : decode b_Co_computed 109 = .ok (.bipush 31, 2) := by decide +kernel
theorem d_Co_computed_111 : decode b_Co_computed 111 = .ok (.iand, 1) := by decide +kernel
theorem d_Co_computed_112 : decode b_Co_computed 112 = .ok (.iushr, 1) := by decide +kernel
theorem d_Co_computed_113 : decode b_Co_computed 113 = .ok (.ireturn, 1) := by decide +kernel
theorem d_Co_computed_98 : decode b_Co_computed 98 = .ok (.iload_n 2, 1) := by decide +kernel
theorem d_Co_computed_99 : decode b_Co_computed 99 = .ok (.iload_n 3, 1) := by decide +kernel
theorem d_Co_computed_100 : decode b_Co_computed 100 = .ok (.bipush 31, 2) := by decide +kernel
theorem d_Co_computed_102 : decode b_Co_computed 102 = .ok (.iand, 1) := by decide +kernel
theorem d_Co_computed_103 : decode b_Co_computed 103 = .ok (.ishr, 1) := by decide +kernel
theorem d_Co_computed_104 : decode b_Co_computed 104 = .ok (.goto 9, 3) := by decide +kernel
theorem d_Co_computed_114 : decode b_Co_computed 114 = .ok (.iload_n 2, 1) := by decide +kernel
theorem d_Co_computed_115 : decode b_Co_computed 115 = .ok (.iload_n 3, 1) := by decide +kernel
theorem d_Co_computed_116 : decode b_Co_computed 116 = .ok (.ior, 1) := by decide +kernel
theorem d_Co_computed_117 : decode b_Co_computed 117 = .ok (.ireturn, 1) := by decide +kernel
theorem d_Co_computed_118 : decode b_Co_computed 118 = .ok (.iload_n 2, 1) := by decide +kernel
theorem d_Co_computed_119 : decode b_Co_computed 119 = .ok (.iload_n 3, 1) := by decide +kernel
theorem d_Co_computed_120 : decode b_Co_computed 120 = .ok (.iand, 1) := by decide +kernel
theorem d_Co_computed_121 : decode b_Co_computed 121 = .ok (.ireturn, 1) := by decide +kernel
theorem d_Me_xorOfNumbers_0 : decode b_Me_xorOfNumbers 0 = .ok (.iconst 0, 1) := by decide +kernel
theorem d_Me_xorOfNumbers_1 : decode b_Me_xorOfNumbers 1 = .ok (.istore_n 2, 1) := by decide +kernel
theorem d_Me_xorOfNumbers_2 : decode b_Me_xorOfNumbers 2 = .ok (.iconst 0, 1) := by decide +kernel
theorem d_Me_xorOfNumbers_3 : decode b_Me_xorOfNumbers 3 = .ok (.istore_n 3, 1) := by decide +kernel
theorem d_Me_xorOfNumbers_4 : decode b_Me_xorOfNumbers 4 = .ok (.iload_n 3, 1) := by decide +kernel
theorem d_Me_xorOfNumbers_5 : decode b_Me_xorOfNumbers 5 = .ok (.getstatic 23, 3) := by decide +kernel
theorem d_Me_xorOfNumbers_8 : decode b_Me_xorOfNumbers 8 = .ok (.arraylength, 1) := by decide +kernel
theorem d_Me_xorOfNumbers_9 : decode b_Me_xorOfNumbers 9 = .ok (.if_icmp .ge 26, 3) := by decide +kernel
theorem d_Me_xorOfNumbers_12 : decode b_Me_xorOfNumbers 12 = .ok (.iload_n 2, 1) := by decide +kernel
theorem d_Me_xorOfNumbers_13 : decode b_Me_xorOfNumbers 13 = .ok (.lload_n 0, 1) := by decide +kernel
theorem d_Me_xorOfNumbers_14 : decode b_Me_xorOfNumbers 14 = .ok (.getstatic 23, 3) := by decide +kernel
theorem d_Me_xorOfNumbers_17 : decode b_Me_xorOfNumbers 17 = .ok (.iload_n 3, 1) := by decide +kernel
theorem d_Me_xorOfNumbers_18 : decode b_Me_xorOfNumbers 18 = .ok (.laload, 1) := by decide +kernel
theorem d_Me_xorOfNumbers_19 : decode b_Me_xorOfNumbers 19 = .ok (.land, 1) := by decide +kernel
theorem d_Me_xorOfNumbers_20 : decode b_Me_xorOfNumbers 20 = .ok (.invokestatic 26, 3) := by decide +kernel
theorem d_Me_xorOfNumbers_23 : decode b_Me_xorOfNumbers 23 = .ok (.iconst 1, 1) := by decide +kernel
theorem d_Me_xorOfNumbers_24 : decode b_Me_xorOfNumbers 24 = .ok (.iand, 1) := by decide +kernel
theorem d_Me_xorOfNumbers_25 : decode b_Me_xorOfNumbers 25 = .ok (.iload_n 3, 1) := by decide +kernel
theorem d_Me_xorOfNumbers_26 : decode b_Me_xorOfNumbers 26 = .ok (.ishl, 1) := by decide +kernel
theorem d_Me_xorOfNumbers_27 : decode b_Me_xorOfNumbers 27 = .ok (.ior, 1) := by decide +kernel
theorem d_Me_xorOfNumbers_28 : decode b_Me_xorOfNumbers 28 = .ok (.istore_n 2, 1) := by decide +kernel
theorem d_Me_xorOfNumbers_29 : decode b_Me_xorOfNumbers 29 = .ok (.iinc 3 1, 3) := by decide +kernel
theorem d_Me_xorOfNumbers_32 : decode b_Me_xorOfNumbers 32 = .ok (.goto (-28), 3) := by decide +kernel
theorem d_Me_xorOfNumbers_35 : decode b_Me_xorOfNumbers 35 = .ok (.iload_n 2, 1) := by decide +kernel
theorem d_Me_xorOfNumbers_36 : decode b_Me_xorOfNumbers 36 = .ok (.ireturn, 1) := by decide +kernel
theorem d_Me_spread_0 : decode b_Me_spread 0 = .ok (.iload_n 0, 1) := by decide +kernel
theorem d_Me_spread_1 : decode b_Me_spread 1 = .ok (.i2l, 1) := by decide +kernel
theorem d_Me_spread_2 : decode b_Me_spread 2 = .ok (.lconst 1, 1) := by decide +kernel
theorem d_Me_spread_3 : decode b_Me_spread 3 = .ok (.land, 1) := by decide +kernel
theorem d_Me_spread_4 : decode b_Me_spread 4 = .ok (.iconst 3, 1) := by decide +kernel
theorem d_Me_spread_5 : decode b_Me_spread 5 = .ok (.lshl, 1) := by decide +kernel
theorem d_Me_spread_6 : decode b_Me_spread 6 = .ok (.iload_n 0, 1) := by decide +kernel
theorem d_Me_spread_7 : decode b_Me_spread 7 = .ok (.i2l, 1) := by decide +kernel
theorem d_Me_spread_8 : decode b_Me_spread 8 = .ok (.ldc2_w 44, 3) := by decide +kernel
theorem d_Me_spread_11 : decode b_Me_spread 11 = .ok (.land, 1) := by decide +kernel
theorem d_Me_spread_12 : decode b_Me_spread 12 = .ok (.iconst 4, 1) := by decide +kernel
theorem d_Me_spread_13 : decode b_Me_spread 13 = .ok (.lshl, 1) := by decide +kernel
theorem d_Me_spread_14 : decode b_Me_spread 14 = .ok (.lor, 1) := by decide +kernel
theorem d_Me_spread_15 : decode b_Me_spread 15 = .ok (.iload_n 0, 1) := by decide +kernel
theorem d_Me_spread_16 : decode b_Me_spread 16 = .ok (.i2l, 1) := by decide +kernel
theorem d_Me_spread_17 : decode b_Me_spread 17 = .ok (.ldc2_w 46, 3) := by decide +kernel
theorem d_Me_spread_20 : decode b_Me_spread 20 = .ok (.land, 1) := by decide +kernel
theorem d_Me_spread_21 : decode b_Me_spread 21 = .ok (.iconst 5, 1) := by decide +kernel
theorem d_Me_spread_22 : decode b_Me_spread 22 = .ok (.lshl, 1) := by decide +kernel
theorem d_Me_spread_23 : decode b_Me_spread 23 = .ok (.lor, 1) := by decide +kernel
theorem d_Me_spread_24 : decode b_Me_spread 24 = .ok (.iload_n 0, 1) := by decide +kernel
theorem d_Me_spread_25 : decode b_Me_spread 25 = .ok (.i2l, 1) := by decide +kernel
theorem d_Me_spread_26 : decode b_Me_spread 26 = .ok (.ldc2_w 48, 3) := by decide +kernel
theorem d_Me_spread_29 : decode b_Me_spread 29 = .ok (.land, 1) := by decide +kernel
theorem d_Me_spread_30 : decode b_Me_spread 30 = .ok (.bipush 6, 2) := by decide +kernel
theorem d_Me_spread_32 : decode b_Me_spread 32 = .ok (.lshl, 1) := by decide +kernel
theorem d_Me_spread_33 : decode b_Me_spread 33 = .ok (.lor, 1) := by decide +kernel
theorem d_Me_spread_34 : decode b_Me_spread 34 = .ok (.iload_n 0, 1) := by decide +kernel
theorem d_Me_spread_35 : decode b_Me_spread 35 = .ok (.i2l, 1) := by decide +kernel
theorem d_Me_spread_36 : decode b_Me_spread 36 = .ok (.ldc2_w 50, 3) := by decide +kernel
theorem d_Me_spread_39 : decode b_Me_spread 39 = .ok (.land, 1) := by decide +kernel
theorem d_Me_spread_40 : decode b_Me_spread 40 = .ok (.bipush 7, 2) := by decide +kernel
theorem d_Me_spread_42 : decode b_Me_spread 42 = .ok (.lshl, 1) := by decide +kernel
theorem d_Me_spread_43 : decode b_Me_spread 43 = .ok (.lor, 1) := by decide +kernel
theorem d_Me_spread_44 : decode b_Me_spread 44 = .ok (.lreturn, 1) := by decide +kernel
theorem d_Me_gathered_0 : decode b_Me_gathered 0 = .ok (.lload_n 0, 1) := by decide +kernel
theorem d_Me_gathered_1 : decode b_Me_gathered 1 = .ok (.iconst 3, 1) := by decide +kernel
theorem d_Me_gathered_2 : decode b_Me_gathered 2 = .ok (.lushr, 1) := by decide +kernel
theorem d_Me_gathered_3 : decode b_Me_gathered 3 = .ok (.lconst 1, 1) := by decide +kernel
theorem d_Me_gathered_4 : decode b_Me_gathered 4 = .ok (.land, 1) := by decide +kernel
theorem d_Me_gathered_5 : decode b_Me_gathered 5 = .ok (.lload_n 0, 1) := by decide +kernel
theorem d_Me_gathered_6 : decode b_Me_gathered 6 = .ok (.iconst 4, 1) := by decide +kernel
theorem d_Me_gathered_7 : decode b_Me_gathered 7 = .ok (.lushr, 1) := by decide +kernel
theorem d_Me_gathered_8 : decode b_Me_gathered 8 = .ok (.ldc2_w 44, 3) := by decide +kernel
theorem d_Me_gathered_11 : decode b_Me_gathered 11 = .ok (.land, 1) := by decide +kernel
theorem d_Me_gathered_12 : decode b_Me_gathered 12 = .ok (.lor, 1) := by decide +kernel
theorem d_Me_gathered_13 : decode b_Me_gathered 13 = .ok (.lload_n 0, 1) := by decide +kernel
theorem d_Me_gathered_14 : decode b_Me_gathered 14 = .ok (.iconst 5, 1) := by decide +kernel
theorem d_Me_gathered_15 : decode b_Me_gathered 15 = .ok (.lushr, 1) := by decide +kernel
theorem d_Me_gathered_16 : decode b_Me_gathered 16 = .ok (.ldc2_w 46, 3) := by decide +kernel
theorem d_Me_gathered_19 : decode b_Me_gathered 19 = .ok (.land, 1) := by decide +kernel
theorem d_Me_gathered_20 : decode b_Me_gathered 20 = .ok (.lor, 1) := by decide +kernel
theorem d_Me_gathered_21 : decode b_Me_gathered 21 = .ok (.lload_n 0, 1) := by decide +kernel
theorem d_Me_gathered_22 : decode b_Me_gathered 22 = .ok (.bipush 6, 2) := by decide +kernel
theorem d_Me_gathered_24 : decode b_Me_gathered 24 = .ok (.lushr, 1) := by decide +kernel
theorem d_Me_gathered_25 : decode b_Me_gathered 25 = .ok (.ldc2_w 48, 3) := by decide +kernel
theorem d_Me_gathered_28 : decode b_Me_gathered 28 = .ok (.land, 1) := by decide +kernel
theorem d_Me_gathered_29 : decode b_Me_gathered 29 = .ok (.lor, 1) := by decide +kernel
theorem d_Me_gathered_30 : decode b_Me_gathered 30 = .ok (.lload_n 0, 1) := by decide +kernel
theorem d_Me_gathered_31 : decode b_Me_gathered 31 = .ok (.bipush 7, 2) := by decide +kernel
theorem d_Me_gathered_33 : decode b_Me_gathered 33 = .ok (.lushr, 1) := by decide +kernel
theorem d_Me_gathered_34 : decode b_Me_gathered 34 = .ok (.ldc2_w 50, 3) := by decide +kernel
theorem d_Me_gathered_37 : decode b_Me_gathered 37 = .ok (.land, 1) := by decide +kernel
theorem d_Me_gathered_38 : decode b_Me_gathered 38 = .ok (.lor, 1) := by decide +kernel
theorem d_Me_gathered_39 : decode b_Me_gathered 39 = .ok (.lreturn, 1) := by decide +kernel
theorem d_Me_putRight_0 : decode b_Me_putRight 0 = .ok (.lload_n 0, 1) := by decide +kernel
theorem d_Me_putRight_1 : decode b_Me_putRight 1 = .ok (.invokestatic 19, 3) := by decide +kernel
theorem d_Me_putRight_4 : decode b_Me_putRight 4 = .ok (.istore_n 2, 1) := by decide +kernel
theorem d_Me_putRight_5 : decode b_Me_putRight 5 = .ok (.lload_n 0, 1) := by decide +kernel
theorem d_Me_putRight_6 : decode b_Me_putRight 6 = .ok (.invokestatic 26, 3) := by decide +kernel
theorem d_Me_putRight_9 : decode b_Me_putRight 9 = .ok (.iconst 1, 1) := by decide +kernel
theorem d_Me_putRight_10 : decode b_Me_putRight 10 = .ok (.iand, 1) := by decide +kernel
theorem d_Me_putRight_11 : decode b_Me_putRight 11 = .ok (.iconst 1, 1) := by decide +kernel
theorem d_Me_putRight_12 : decode b_Me_putRight 12 = .ok (.if_icmp .ne 7, 3) := by decide +kernel
theorem d_Me_putRight_19 : decode b_Me_putRight 19 = .ok (.iconst 0, 1) := by decide +kernel
theorem d_Me_putRight_20 : decode b_Me_putRight 20 = .ok (.istore_n 3, 1) := by decide +kernel
theorem d_Me_putRight_21 : decode b_Me_putRight 21 = .ok (.iload_n 3, 1) := by decide +kernel
theorem d_Me_putRight_22 : decode b_Me_putRight 22 = .ok (.ifCond .ne 15, 3) := by decide +kernel
theorem d_Me_putRight_25 : decode b_Me_putRight 25 = .ok (.iload_n 2, 1) := by decide +kernel
theorem d_Me_putRight_26 : decode b_Me_putRight 26 = .ok (.ifCond .ne 7, 3) := by decide +kernel
theorem d_Me_putRight_33 : decode b_Me_putRight 33 = .ok (.ldc2_w 35, 3) := by decide +kernel
theorem d_Me_putRight_36 : decode b_Me_putRight 36 = .ok (.lreturn, 1) := by decide +kernel
theorem d_Me_putRight_29 : decode b_Me_putRight 29 = .ok (.lload_n 0, 1) := by decide +kernel
theorem d_Me_putRight_30 : decode b_Me_putRight 30 = .ok (.goto 6, 3) := by decide +kernel
theorem d_Me_putRight_15 : decode b_Me_putRight 15 = .ok (.iconst 1, 1) := by decide +kernel
theorem d_Me_putRight_16 : decode b_Me_putRight 16 = .ok (.goto 4, 3) := by decide +kernel
theorem d_Me_putRight_37 : decode b_Me_putRight 37 = .ok (.iload_n 2, 1) := by decide +kernel
theorem d_Me_putRight_38 : decode b_Me_putRight 38 = .ok (.bipush 39, 2) := by decide +kernel
theorem d_Me_putRight_40 : decode b_Me_putRight 40 = .ok (.if_icmp .ge 11, 3) := by decide +kernel
theorem d_Me_putRight_51 : decode b_Me_putRight 51 = .ok (.ldc2_w 35, 3) := by decide +kernel
theorem d_Me_putRight_54 : decode b_Me_putRight 54 = .ok (.lreturn, 1) := by decide +kernel
theorem d_Me_putRight_43 : decode b_Me_putRight 43 = .ok (.lload_n 0, 1) := by decide +kernel
theorem d_Me_putRight_44 : decode b_Me_putRight 44 = .ok (.lconst 1, 1) := by decide +kernel
theorem d_Me_putRight_45 : decode b_Me_putRight 45 = .ok (.iload_n 2, 1) := by decide +kernel
theorem d_Me_putRight_46 : decode b_Me_putRight 46 = .ok (.lshl, 1) := by decide +kernel
theorem d_Me_putRight_47 : decode b_Me_putRight 47 = .ok (.lxor, 1) := by decide +kernel
theorem d_Me_putRight_48 : decode b_Me_putRight 48 = .ok (.goto 6, 3) := by decide +kernel
theorem d_Me_keep_0 : decode b_Me_keep 0 = .ok (.iload_n 2, 1) := by decide +kernel
theorem d_Me_keep_1 : decode b_Me_keep 1 = .ok (.invokestatic 15, 3) := by decide +kernel
theorem d_Me_keep_4 : decode b_Me_keep 4 = .ok (.lstore_n 3, 1) := by decide +kernel
theorem d_Me_keep_5 : decode b_Me_keep 5 = .ok (.lload_n 3, 1) := by decide +kernel
theorem d_Me_keep_6 : decode b_Me_keep 6 = .ok (.invokestatic 19, 3) := by decide +kernel
theorem d_Me_keep_9 : decode b_Me_keep 9 = .ok (.istore 5, 2) := by decide +kernel
theorem d_Me_keep_11 : decode b_Me_keep 11 = .ok (.iconst 0, 1) := by decide +kernel
theorem d_Me_keep_12 : decode b_Me_keep 12 = .ok (.istore 6, 2) := by decide +kernel
theorem d_Me_keep_14 : decode b_Me_keep 14 = .ok (.iload 6, 2) := by decide +kernel
theorem d_Me_keep_16 : decode b_Me_keep 16 = .ok (.getstatic 23, 3) := by decide +kernel
theorem d_Me_keep_19 : decode b_Me_keep 19 = .ok (.arraylength, 1) := by decide +kernel
theorem d_Me_keep_20 : decode b_Me_keep 20 = .ok (.if_icmp .ge 25, 3) := by decide +kernel
theorem d_Me_keep_23 : decode b_Me_keep 23 = .ok (.lload_n 3, 1) := by decide +kernel
theorem d_Me_keep_24 : decode b_Me_keep 24 = .ok (.iload 5, 2) := by decide +kernel
theorem d_Me_keep_26 : decode b_Me_keep 26 = .ok (.iload 6, 2) := by decide +kernel
theorem d_Me_keep_28 : decode b_Me_keep 28 = .ok (.iushr, 1) := by decide +kernel
theorem d_Me_keep_29 : decode b_Me_keep 29 = .ok (.i2l, 1) := by decide +kernel
theorem d_Me_keep_30 : decode b_Me_keep 30 = .ok (.lconst 1, 1) := by decide +kernel
theorem d_Me_keep_31 : decode b_Me_keep 31 = .ok (.land, 1) := by decide +kernel
theorem d_Me_keep_32 : decode b_Me_keep 32 = .ok (.iconst 1, 1) := by decide +kernel
theorem d_Me_keep_33 : decode b_Me_keep 33 = .ok (.iload 6, 2) := by decide +kernel
theorem d_Me_keep_35 : decode b_Me_keep 35 = .ok (.ishl, 1) := by decide +kernel
theorem d_Me_keep_36 : decode b_Me_keep 36 = .ok (.lshl, 1) := by decide +kernel
theorem d_Me_keep_37 : decode b_Me_keep 37 = .ok (.lor, 1) := by decide +kernel
theorem d_Me_keep_38 : decode b_Me_keep 38 = .ok (.lstore_n 3, 1) := by decide +kernel
theorem d_Me_keep_39 : decode b_Me_keep 39 = .ok (.iinc 6 1, 3) := by decide +kernel
theorem d_Me_keep_42 : decode b_Me_keep 42 = .ok (.goto (-28), 3) := by decide +kernel
theorem d_Me_keep_45 : decode b_Me_keep 45 = .ok (.aload_n 0, 1) := by decide +kernel
theorem d_Me_keep_46 : decode b_Me_keep 46 = .ok (.getfield 9, 3) := by decide +kernel
theorem d_Me_keep_49 : decode b_Me_keep 49 = .ok (.iload_n 1, 1) := by decide +kernel
theorem d_Me_keep_50 : decode b_Me_keep 50 = .ok (.lload_n 3, 1) := by decide +kernel
theorem d_Me_keep_51 : decode b_Me_keep 51 = .ok (.lload_n 3, 1) := by decide +kernel
theorem d_Me_keep_52 : decode b_Me_keep 52 = .ok (.invokestatic 26, 3) := by decide +kernel
theorem d_Me_keep_55 : decode b_Me_keep 55 = .ok (.iconst 1, 1) := by decide +kernel
theorem d_Me_keep_56 : decode b_Me_keep 56 = .ok (.iand, 1) := by decide +kernel
theorem d_Me_keep_57 : decode b_Me_keep 57 = .ok (.i2l, 1) := by decide +kernel
theorem d_Me_keep_58 : decode b_Me_keep 58 = .ok (.lor, 1) := by decide +kernel
theorem d_Me_keep_59 : decode b_Me_keep 59 = .ok (.lastore, 1) := by decide +kernel
theorem d_Me_keep_60 : decode b_Me_keep 60 = .ok (.return_, 1) := by decide +kernel
theorem d_Me_inspect_0 : decode b_Me_inspect 0 = .ok (.aload_n 0, 1) := by decide +kernel
theorem d_Me_inspect_1 : decode b_Me_inspect 1 = .ok (.getfield 9, 3) := by decide +kernel
theorem d_Me_inspect_4 : decode b_Me_inspect 4 = .ok (.iload_n 1, 1) := by decide +kernel
theorem d_Me_inspect_5 : decode b_Me_inspect 5 = .ok (.laload, 1) := by decide +kernel
theorem d_Me_inspect_6 : decode b_Me_inspect 6 = .ok (.invokestatic 31, 3) := by decide +kernel
theorem d_Me_inspect_9 : decode b_Me_inspect 9 = .ok (.lstore_n 2, 1) := by decide +kernel
theorem d_Me_inspect_10 : decode b_Me_inspect 10 = .ok (.lload_n 2, 1) := by decide +kernel
theorem d_Me_inspect_11 : decode b_Me_inspect 11 = .ok (.ldc2_w 35, 3) := by decide +kernel
theorem d_Me_inspect_14 : decode b_Me_inspect 14 = .ok (.lcmp, 1) := by decide +kernel
theorem d_Me_inspect_15 : decode b_Me_inspect 15 = .ok (.ifCond .ne 9, 3) := by decide +kernel
theorem d_Me_inspect_24 : decode b_Me_inspect 24 = .ok (.lload_n 2, 1) := by decide +kernel
theorem d_Me_inspect_25 : decode b_Me_inspect 25 = .ok (.invokestatic 37, 3) := by decide +kernel
theorem d_Me_inspect_28 : decode b_Me_inspect 28 = .ok (.lreturn, 1) := by decide +kernel
theorem d_Me_inspect_18 : decode b_Me_inspect 18 = .ok (.ldc2_w 35, 3) := by decide +kernel
theorem d_Me_inspect_21 : decode b_Me_inspect 21 = .ok (.goto 7, 3) := by decide +kernel
theorem d_Me_mend_0 : decode b_Me_mend 0 = .ok (.aload_n 0, 1) := by decide +kernel
theorem d_Me_mend_1 : decode b_Me_mend 1 = .ok (.getfield 9, 3) := by decide +kernel
theorem d_Me_mend_4 : decode b_Me_mend 4 = .ok (.iload_n 1, 1) := by decide +kernel
theorem d_Me_mend_5 : decode b_Me_mend 5 = .ok (.laload, 1) := by decide +kernel
theorem d_Me_mend_6 : decode b_Me_mend 6 = .ok (.invokestatic 31, 3) := by decide +kernel
theorem d_Me_mend_9 : decode b_Me_mend 9 = .ok (.lstore_n 2, 1) := by decide +kernel
theorem d_Me_mend_10 : decode b_Me_mend 10 = .ok (.lload_n 2, 1) := by decide +kernel
theorem d_Me_mend_11 : decode b_Me_mend 11 = .ok (.ldc2_w 35, 3) := by decide +kernel
theorem d_Me_mend_14 : decode b_Me_mend 14 = .ok (.lcmp, 1) := by decide +kernel
theorem d_Me_mend_15 : decode b_Me_mend 15 = .ok (.ifCond .ne 7, 3) := by decide +kernel
theorem d_Me_mend_22 : decode b_Me_mend 22 = .ok (.lload_n 2, 1) := by decide +kernel
theorem d_Me_mend_23 : decode b_Me_mend 23 = .ok (.aload_n 0, 1) := by decide +kernel
theorem d_Me_mend_24 : decode b_Me_mend 24 = .ok (.getfield 9, 3) := by decide +kernel
theorem d_Me_mend_27 : decode b_Me_mend 27 = .ok (.iload_n 1, 1) := by decide +kernel
theorem d_Me_mend_28 : decode b_Me_mend 28 = .ok (.laload, 1) := by decide +kernel
theorem d_Me_mend_29 : decode b_Me_mend 29 = .ok (.lcmp, 1) := by decide +kernel
theorem d_Me_mend_30 : decode b_Me_mend 30 = .ok (.ifCond .eq 20, 3) := by decide +kernel
theorem d_Me_mend_50 : decode b_Me_mend 50 = .ok (.lload_n 2, 1) := by decide +kernel
theorem d_Me_mend_51 : decode b_Me_mend 51 = .ok (.invokestatic 37, 3) := by decide +kernel
theorem d_Me_mend_54 : decode b_Me_mend 54 = .ok (.lreturn, 1) := by decide +kernel
theorem d_Me_mend_33 : decode b_Me_mend 33 = .ok (.aload_n 0, 1) := by decide +kernel
theorem d_Me_mend_34 : decode b_Me_mend 34 = .ok (.getfield 9, 3) := by decide +kernel
theorem d_Me_mend_37 : decode b_Me_mend 37 = .ok (.iload_n 1, 1) := by decide +kernel
theorem d_Me_mend_38 : decode b_Me_mend 38 = .ok (.lload_n 2, 1) := by decide +kernel
theorem d_Me_mend_39 : decode b_Me_mend 39 = .ok (.lastore, 1) := by decide +kernel
theorem d_Me_mend_40 : decode b_Me_mend 40 = .ok (.aload_n 0, 1) := by decide +kernel
theorem d_Me_mend_41 : decode b_Me_mend 41 = .ok (.dup, 1) := by decide +kernel
theorem d_Me_mend_42 : decode b_Me_mend 42 = .ok (.getfield 40, 3) := by decide +kernel
theorem d_Me_mend_45 : decode b_Me_mend 45 = .ok (.iconst 1, 1) := by decide +kernel
theorem d_Me_mend_46 : decode b_Me_mend 46 = .ok (.iadd, 1) := by decide +kernel
theorem d_Me_mend_47 : decode b_Me_mend 47 = .ok (.putfield 40, 3) := by decide +kernel
theorem d_Me_mend_18 : decode b_Me_mend 18 = .ok (.ldc2_w 35, 3) := by decide +kernel
theorem d_Me_mend_21 : decode b_Me_mend 21 = .ok (.lreturn, 1) := by decide +kernel
theorem d_Ca_dropAll_0 : decode b_Ca_dropAll 0 = .ok (.aload_n 0, 1) := by decide +kernel
theorem d_Ca_dropAll_1 : decode b_Ca_dropAll 1 = .ok (.getfield 9, 3) := by decide +kernel
theorem d_Ca_dropAll_4 : decode b_Ca_dropAll 4 = .ok (.lconst 0, 1) := by decide +kernel
theorem d_Ca_dropAll_5 : decode b_Ca_dropAll 5 = .ok (.invokestatic 15, 3) := by decide +kernel
theorem d_Ca_dropAll_8 : decode b_Ca_dropAll 8 = .ok (.return_, 1) := by decide +kernel
theorem d_Ca_drop_0 : decode b_Ca_drop 0 = .ok (.aload_n 0, 1) := by decide +kernel
theorem d_Ca_drop_1 : decode b_Ca_drop 1 = .ok (.getfield 9, 3) := by decide +kernel
theorem d_Ca_drop_4 : decode b_Ca_drop 4 = .ok (.iload_n 1, 1) := by decide +kernel
theorem d_Ca_drop_5 : decode b_Ca_drop 5 = .ok (.iconst 3, 1) := by decide +kernel
theorem d_Ca_drop_6 : decode b_Ca_drop 6 = .ok (.iand, 1) := by decide +kernel
theorem d_Ca_drop_7 : decode b_Ca_drop 7 = .ok (.lconst 0, 1) := by decide +kernel
theorem d_Ca_drop_8 : decode b_Ca_drop 8 = .ok (.lastore, 1) := by decide +kernel
theorem d_Ca_drop_9 : decode b_Ca_drop 9 = .ok (.return_, 1) := by decide +kernel
theorem d_Ca_dropIfWrong_0 : decode b_Ca_dropIfWrong 0 = .ok (.aload_n 0, 1) := by decide +kernel
theorem d_Ca_dropIfWrong_1 : decode b_Ca_dropIfWrong 1 = .ok (.getfield 9, 3) := by decide +kernel
theorem d_Ca_dropIfWrong_4 : decode b_Ca_dropIfWrong 4 = .ok (.iload_n 1, 1) := by decide +kernel
theorem d_Ca_dropIfWrong_5 : decode b_Ca_dropIfWrong 5 = .ok (.iconst 3, 1) := by decide +kernel
theorem d_Ca_dropIfWrong_6 : decode b_Ca_dropIfWrong 6 = .ok (.iand, 1) := by decide +kernel
theorem d_Ca_dropIfWrong_7 : decode b_Ca_dropIfWrong 7 = .ok (.laload, 1) := by decide +kernel
theorem d_Ca_dropIfWrong_8 : decode b_Ca_dropIfWrong 8 = .ok (.invokestatic 21, 3) := by decide +kernel
theorem d_Ca_dropIfWrong_11 : decode b_Ca_dropIfWrong 11 = .ok (.iconst 1, 1) := by decide +kernel
theorem d_Ca_dropIfWrong_12 : decode b_Ca_dropIfWrong 12 = .ok (.iand, 1) := by decide +kernel
theorem d_Ca_dropIfWrong_13 : decode b_Ca_dropIfWrong 13 = .ok (.iconst 1, 1) := by decide +kernel
theorem d_Ca_dropIfWrong_14 : decode b_Ca_dropIfWrong 14 = .ok (.if_icmp .ne 22, 3) := by decide +kernel
theorem d_Ca_dropIfWrong_36 : decode b_Ca_dropIfWrong 36 = .ok (.return_, 1) := by decide +kernel
theorem d_Ca_dropIfWrong_17 : decode b_Ca_dropIfWrong 17 = .ok (.aload_n 0, 1) := by decide +kernel
theorem d_Ca_dropIfWrong_18 : decode b_Ca_dropIfWrong 18 = .ok (.getfield 9, 3) := by decide +kernel
theorem d_Ca_dropIfWrong_21 : decode b_Ca_dropIfWrong 21 = .ok (.iload_n 1, 1) := by decide +kernel
theorem d_Ca_dropIfWrong_22 : decode b_Ca_dropIfWrong 22 = .ok (.iconst 3, 1) := by decide +kernel
theorem d_Ca_dropIfWrong_23 : decode b_Ca_dropIfWrong 23 = .ok (.iand, 1) := by decide +kernel
theorem d_Ca_dropIfWrong_24 : decode b_Ca_dropIfWrong 24 = .ok (.lconst 0, 1) := by decide +kernel
theorem d_Ca_dropIfWrong_25 : decode b_Ca_dropIfWrong 25 = .ok (.lastore, 1) := by decide +kernel
theorem d_Ca_dropIfWrong_26 : decode b_Ca_dropIfWrong 26 = .ok (.aload_n 0, 1) := by decide +kernel
theorem d_Ca_dropIfWrong_27 : decode b_Ca_dropIfWrong 27 = .ok (.dup, 1) := by decide +kernel
theorem d_Ca_dropIfWrong_28 : decode b_Ca_dropIfWrong 28 = .ok (.getfield 27, 3) := by decide +kernel
theorem d_Ca_dropIfWrong_31 : decode b_Ca_dropIfWrong 31 = .ok (.iconst 1, 1) := by decide +kernel
theorem d_Ca_dropIfWrong_32 : decode b_Ca_dropIfWrong 32 = .ok (.iadd, 1) := by decide +kernel
theorem d_Ca_dropIfWrong_33 : decode b_Ca_dropIfWrong 33 = .ok (.putfield 27, 3) := by decide +kernel
theorem d_Ca_holds_0 : decode b_Ca_holds 0 = .ok (.aload_n 0, 1) := by decide +kernel
theorem d_Ca_holds_1 : decode b_Ca_holds 1 = .ok (.getfield 9, 3) := by decide +kernel
theorem d_Ca_holds_4 : decode b_Ca_holds 4 = .ok (.iload_n 1, 1) := by decide +kernel
theorem d_Ca_holds_5 : decode b_Ca_holds 5 = .ok (.iconst 3, 1) := by decide +kernel
theorem d_Ca_holds_6 : decode b_Ca_holds 6 = .ok (.iand, 1) := by decide +kernel
theorem d_Ca_holds_7 : decode b_Ca_holds 7 = .ok (.laload, 1) := by decide +kernel
theorem d_Ca_holds_8 : decode b_Ca_holds 8 = .ok (.bipush 32, 2) := by decide +kernel
theorem d_Ca_holds_10 : decode b_Ca_holds 10 = .ok (.lushr, 1) := by decide +kernel
theorem d_Ca_holds_11 : decode b_Ca_holds 11 = .ok (.ldc2_w 31, 3) := by decide +kernel
theorem d_Ca_holds_14 : decode b_Ca_holds 14 = .ok (.land, 1) := by decide +kernel
theorem d_Ca_holds_15 : decode b_Ca_holds 15 = .ok (.bipush 16, 2) := by decide +kernel
theorem d_Ca_holds_17 : decode b_Ca_holds 17 = .ok (.iload_n 1, 1) := by decide +kernel
theorem d_Ca_holds_18 : decode b_Ca_holds 18 = .ok (.iconst 2, 1) := by decide +kernel
theorem d_Ca_holds_19 : decode b_Ca_holds 19 = .ok (.iushr, 1) := by decide +kernel
theorem d_Ca_holds_20 : decode b_Ca_holds 20 = .ok (.ior, 1) := by decide +kernel
theorem d_Ca_holds_21 : decode b_Ca_holds 21 = .ok (.i2l, 1) := by decide +kernel
theorem d_Ca_holds_22 : decode b_Ca_holds 22 = .ok (.lcmp, 1) := by decide +kernel
theorem d_Ca_holds_23 : decode b_Ca_holds 23 = .ok (.ifCond .ne 7, 3) := by decide +kernel
theorem d_Ca_holds_30 : decode b_Ca_holds 30 = .ok (.iconst 0, 1) := by decide +kernel
theorem d_Ca_holds_31 : decode b_Ca_holds 31 = .ok (.ireturn, 1) := by decide +kernel
theorem d_Ca_holds_26 : decode b_Ca_holds 26 = .ok (.iconst 1, 1) := by decide +kernel
theorem d_Ca_holds_27 : decode b_Ca_holds 27 = .ok (.goto 4, 3) := by decide +kernel
theorem d_Ca_held_0 : decode b_Ca_held 0 = .ok (.aload_n 0, 1) := by decide +kernel
theorem d_Ca_held_1 : decode b_Ca_held 1 = .ok (.getfield 9, 3) := by decide +kernel
theorem d_Ca_held_4 : decode b_Ca_held 4 = .ok (.iload_n 1, 1) := by decide +kernel
theorem d_Ca_held_5 : decode b_Ca_held 5 = .ok (.iconst 3, 1) := by decide +kernel
theorem d_Ca_held_6 : decode b_Ca_held 6 = .ok (.iand, 1) := by decide +kernel
theorem d_Ca_held_7 : decode b_Ca_held 7 = .ok (.laload, 1) := by decide +kernel
theorem d_Ca_held_8 : decode b_Ca_held 8 = .ok (.ldc2_w 33, 3) := by decide +kernel
