theorem d_V_store_166 : decode b_V_store 166 = .ok (.invokevirtual 269, 3) := by decide +kernel
theorem d_V_store_169 : decode b_V_store 169 = .ok (.aload_n 0, 1) := by decide +kernel
theorem d_V_store_170 : decode b_V_store 170 = .ok (.iload_n 1, 1) := by decide +kernel
theorem d_V_store_171 : decode b_V_store 171 = .ok (.invokevirtual 233, 3) := by decide +kernel
theorem d_V_store_174 : decode b_V_store 174 = .ok (.return_, 1) := by decide +kernel
theorem d_V_store_126 : decode b_V_store 126 = .ok (.sipush 255, 3) := by decide +kernel
theorem d_V_store_129 : decode b_V_store 129 = .ok (.goto 6, 3) := by decide +kernel
theorem d_V_store_114 : decode b_V_store 114 = .ok (.aload_n 0, 1) := by decide +kernel
theorem d_V_store_115 : decode b_V_store 115 = .ok (.iconst 5, 1) := by decide +kernel
theorem d_V_store_116 : decode b_V_store 116 = .ok (.iload 6, 2) := by decide +kernel
theorem d_V_store_118 : decode b_V_store 118 = .ok (.invokevirtual 128, 3) := by decide +kernel
theorem d_V_store_121 : decode b_V_store 121 = .ok (.return_, 1) := by decide +kernel
theorem d_V_store_79 : decode b_V_store 79 = .ok (.aload_n 0, 1) := by decide +kernel
theorem d_V_store_80 : decode b_V_store 80 = .ok (.iload 6, 2) := by decide +kernel
theorem d_V_store_82 : decode b_V_store 82 = .ok (.iload 5, 2) := by decide +kernel
theorem d_V_store_84 : decode b_V_store 84 = .ok (.invokevirtual 269, 3) := by decide +kernel
theorem d_V_store_87 : decode b_V_store 87 = .ok (.aload_n 0, 1) := by decide +kernel
theorem d_V_store_88 : decode b_V_store 88 = .ok (.iload_n 1, 1) := by decide +kernel
theorem d_V_store_89 : decode b_V_store 89 = .ok (.invokevirtual 233, 3) := by decide +kernel
theorem d_V_store_92 : decode b_V_store 92 = .ok (.return_, 1) := by decide +kernel
theorem d_V_store_47 : decode b_V_store 47 = .ok (.aload_n 0, 1) := by decide +kernel
theorem d_V_store_48 : decode b_V_store 48 = .ok (.iconst 1, 1) := by decide +kernel
theorem d_V_store_49 : decode b_V_store 49 = .ok (.iload 4, 2) := by decide +kernel
theorem d_V_store_51 : decode b_V_store 51 = .ok (.invokevirtual 128, 3) := by decide +kernel
theorem d_V_store_54 : decode b_V_store 54 = .ok (.return_, 1) := by decide +kernel
theorem d_V_store_10 : decode b_V_store 10 = .ok (.aload_n 0, 1) := by decide +kernel
theorem d_V_store_11 : decode b_V_store 11 = .ok (.iconst 2, 1) := by decide +kernel
theorem d_V_store_12 : decode b_V_store 12 = .ok (.iload_n 2, 1) := by decide +kernel
theorem d_V_store_13 : decode b_V_store 13 = .ok (.invokevirtual 128, 3) := by decide +kernel
theorem d_V_store_16 : decode b_V_store 16 = .ok (.return_, 1) := by decide +kernel
theorem d_V_computeWithNumber_0 : decode b_V_computeWithNumber 0 = .ok (.iload_n 2, 1) := by decide +kernel
theorem d_V_computeWithNumber_1 : decode b_V_computeWithNumber 1 = .ok (.invokestatic 236, 3) := by decide +kernel
theorem d_V_computeWithNumber_4 : decode b_V_computeWithNumber 4 = .ok (.istore_n 3, 1) := by decide +kernel
theorem d_V_computeWithNumber_5 : decode b_V_computeWithNumber 5 = .ok (.iload_n 2, 1) := by decide +kernel
theorem d_V_computeWithNumber_6 : decode b_V_computeWithNumber 6 = .ok (.invokestatic 273, 3) := by decide +kernel
theorem d_V_computeWithNumber_9 : decode b_V_computeWithNumber 9 = .ok (.istore 4, 2) := by decide +kernel
theorem d_V_computeWithNumber_11 : decode b_V_computeWithNumber 11 = .ok (.iload_n 3, 1) := by decide +kernel
theorem d_V_computeWithNumber_12 : decode b_V_computeWithNumber 12 = .ok (.iconst 5, 1) := by decide +kernel
theorem d_V_computeWithNumber_13 : decode b_V_computeWithNumber 13 = .ok (.if_icmp .ne 14, 3) := by decide +kernel
theorem d_V_computeWithNumber_27 : decode b_V_computeWithNumber 27 = .ok (.iconst 0, 1) := by decide +kernel
theorem d_V_computeWithNumber_28 : decode b_V_computeWithNumber 28 = .ok (.istore 5, 2) := by decide +kernel
theorem d_V_computeWithNumber_30 : decode b_V_computeWithNumber 30 = .ok (.iload_n 3, 1) := by decide +kernel
theorem d_V_computeWithNumber_31 : decode b_V_computeWithNumber 31 = .ok (.iconst 1, 1) := by decide +kernel
theorem d_V_computeWithNumber_32 : decode b_V_computeWithNumber 32 = .ok (.if_icmp .eq 8, 3) := by decide +kernel
theorem d_V_computeWithNumber_40 : decode b_V_computeWithNumber 40 = .ok (.iconst 1, 1) := by decide +kernel
theorem d_V_computeWithNumber_41 : decode b_V_computeWithNumber 41 = .ok (.goto 4, 3) := by decide +kernel
theorem d_V_computeWithNumber_45 : decode b_V_computeWithNumber 45 = .ok (.istore 6, 2) := by decide +kernel
theorem d_V_computeWithNumber_47 : decode b_V_computeWithNumber 47 = .ok (.iload 6, 2) := by decide +kernel
theorem d_V_computeWithNumber_49 : decode b_V_computeWithNumber 49 = .ok (.ifCond .eq 20, 3) := by decide +kernel
theorem d_V_computeWithNumber_52 : decode b_V_computeWithNumber 52 = .ok (.iload 4, 2) := by decide +kernel
theorem d_V_computeWithNumber_54 : decode b_V_computeWithNumber 54 = .ok (.ifCond .eq 15, 3) := by decide +kernel
theorem d_V_computeWithNumber_69 : decode b_V_computeWithNumber 69 = .ok (.aload_n 0, 1) := by decide +kernel
theorem d_V_computeWithNumber_70 : decode b_V_computeWithNumber 70 = .ok (.getfield 29, 3) := by decide +kernel
theorem d_V_computeWithNumber_73 : decode b_V_computeWithNumber 73 = .ok (.iload_n 2, 1) := by decide +kernel
theorem d_V_computeWithNumber_74 : decode b_V_computeWithNumber 74 = .ok (.invokestatic 239, 3) := by decide +kernel
theorem d_V_computeWithNumber_77 : decode b_V_computeWithNumber 77 = .ok (.invokevirtual 242, 3) := by decide +kernel
theorem d_V_computeWithNumber_80 : decode b_V_computeWithNumber 80 = .ok (.istore 7, 2) := by decide +kernel
theorem d_V_computeWithNumber_82 : decode b_V_computeWithNumber 82 = .ok (.aload_n 0, 1) := by decide +kernel
theorem d_V_computeWithNumber_83 : decode b_V_computeWithNumber 83 = .ok (.iload_n 1, 1) := by decide +kernel
theorem d_V_computeWithNumber_84 : decode b_V_computeWithNumber 84 = .ok (.iload_n 2, 1) := by decide +kernel
theorem d_V_computeWithNumber_85 : decode b_V_computeWithNumber 85 = .ok (.invokestatic 191, 3) := by decide +kernel
theorem d_V_computeWithNumber_88 : decode b_V_computeWithNumber 88 = .ok (.iload_n 3, 1) := by decide +kernel
theorem d_V_computeWithNumber_89 : decode b_V_computeWithNumber 89 = .ok (.iload 5, 2) := by decide +kernel
theorem d_V_computeWithNumber_91 : decode b_V_computeWithNumber 91 = .ok (.iload 7, 2) := by decide +kernel
theorem d_V_computeWithNumber_93 : decode b_V_computeWithNumber 93 = .ok (.iload_n 2, 1) := by decide +kernel
theorem d_V_computeWithNumber_94 : decode b_V_computeWithNumber 94 = .ok (.invokestatic 245, 3) := by decide +kernel
theorem d_V_computeWithNumber_97 : decode b_V_computeWithNumber 97 = .ok (.invokestatic 276, 3) := by decide +kernel
theorem d_V_computeWithNumber_100 : decode b_V_computeWithNumber 100 = .ok (.invokevirtual 197, 3) := by decide +kernel
theorem d_V_computeWithNumber_103 : decode b_V_computeWithNumber 103 = .ok (.return_, 1) := by decide +kernel
theorem d_V_computeWithNumber_57 : decode b_V_computeWithNumber 57 = .ok (.iload 5, 2) := by decide +kernel
theorem d_V_computeWithNumber_59 : decode b_V_computeWithNumber 59 = .ok (.ifCond .ne 10, 3) := by decide +kernel
theorem d_V_computeWithNumber_62 : decode b_V_computeWithNumber 62 = .ok (.aload_n 0, 1) := by decide +kernel
theorem d_V_computeWithNumber_63 : decode b_V_computeWithNumber 63 = .ok (.iconst 2, 1) := by decide +kernel
theorem d_V_computeWithNumber_64 : decode b_V_computeWithNumber 64 = .ok (.iload_n 2, 1) := by decide +kernel
theorem d_V_computeWithNumber_65 : decode b_V_computeWithNumber 65 = .ok (.invokevirtual 128, 3) := by decide +kernel
theorem d_V_computeWithNumber_68 : decode b_V_computeWithNumber 68 = .ok (.return_, 1) := by decide +kernel
theorem d_V_computeWithNumber_35 : decode b_V_computeWithNumber 35 = .ok (.iload_n 3, 1) := by decide +kernel
theorem d_V_computeWithNumber_36 : decode b_V_computeWithNumber 36 = .ok (.iconst 5, 1) := by decide +kernel
theorem d_V_computeWithNumber_37 : decode b_V_computeWithNumber 37 = .ok (.if_icmp .ne 7, 3) := by decide +kernel
theorem d_V_computeWithNumber_44 : decode b_V_computeWithNumber 44 = .ok (.iconst 0, 1) := by decide +kernel
theorem d_V_computeWithNumber_16 : decode b_V_computeWithNumber 16 = .ok (.iload 4, 2) := by decide +kernel
theorem d_V_computeWithNumber_18 : decode b_V_computeWithNumber 18 = .ok (.bipush 32, 2) := by decide +kernel
theorem d_V_computeWithNumber_20 : decode b_V_computeWithNumber 20 = .ok (.if_icmp .ne 7, 3) := by decide +kernel
theorem d_V_computeWithNumber_23 : decode b_V_computeWithNumber 23 = .ok (.iconst 1, 1) := by decide +kernel
theorem d_V_computeWithNumber_24 : decode b_V_computeWithNumber 24 = .ok (.goto 4, 3) := by decide +kernel
theorem d_V_computeWithRegister_0 : decode b_V_computeWithRegister 0 = .ok (.iload_n 2, 1) := by decide +kernel
theorem d_V_computeWithRegister_1 : decode b_V_computeWithRegister 1 = .ok (.invokestatic 236, 3) := by decide +kernel
theorem d_V_computeWithRegister_4 : decode b_V_computeWithRegister 4 = .ok (.istore_n 3, 1) := by decide +kernel
theorem d_V_computeWithRegister_5 : decode b_V_computeWithRegister 5 = .ok (.iload_n 2, 1) := by decide +kernel
theorem d_V_computeWithRegister_6 : decode b_V_computeWithRegister 6 = .ok (.invokestatic 273, 3) := by decide +kernel
theorem d_V_computeWithRegister_9 : decode b_V_computeWithRegister 9 = .ok (.istore 4, 2) := by decide +kernel
theorem d_V_computeWithRegister_11 : decode b_V_computeWithRegister 11 = .ok (.iload 4, 2) := by decide +kernel
theorem d_V_computeWithRegister_13 : decode b_V_computeWithRegister 13 = .ok (.bipush 32, 2) := by decide +kernel
theorem d_V_computeWithRegister_15 : decode b_V_computeWithRegister 15 = .ok (.if_icmp .ne 16, 3) := by decide +kernel
theorem d_V_computeWithRegister_31 : decode b_V_computeWithRegister 31 = .ok (.iconst 0, 1) := by decide +kernel
theorem d_V_computeWithRegister_32 : decode b_V_computeWithRegister 32 = .ok (.istore 5, 2) := by decide +kernel
theorem d_V_computeWithRegister_34 : decode b_V_computeWithRegister 34 = .ok (.iload 4, 2) := by decide +kernel
theorem d_V_computeWithRegister_36 : decode b_V_computeWithRegister 36 = .ok (.ifCond .eq 15, 3) := by decide +kernel
theorem d_V_computeWithRegister_51 : decode b_V_computeWithRegister 51 = .ok (.aload_n 0, 1) := by decide +kernel
theorem d_V_computeWithRegister_52 : decode b_V_computeWithRegister 52 = .ok (.getfield 29, 3) := by decide +kernel
theorem d_V_computeWithRegister_55 : decode b_V_computeWithRegister 55 = .ok (.iload_n 2, 1) := by decide +kernel
theorem d_V_computeWithRegister_56 : decode b_V_computeWithRegister 56 = .ok (.invokestatic 239, 3) := by decide +kernel
theorem d_V_computeWithRegister_59 : decode b_V_computeWithRegister 59 = .ok (.invokevirtual 242, 3) := by decide +kernel
theorem d_V_computeWithRegister_62 : decode b_V_computeWithRegister 62 = .ok (.istore 6, 2) := by decide +kernel
theorem d_V_computeWithRegister_64 : decode b_V_computeWithRegister 64 = .ok (.aload_n 0, 1) := by decide +kernel
theorem d_V_computeWithRegister_65 : decode b_V_computeWithRegister 65 = .ok (.getfield 29, 3) := by decide +kernel
theorem d_V_computeWithRegister_68 : decode b_V_computeWithRegister 68 = .ok (.iload_n 2, 1) := by decide +kernel
theorem d_V_computeWithRegister_69 : decode b_V_computeWithRegister 69 = .ok (.invokestatic 248, 3) := by decide +kernel
theorem d_V_computeWithRegister_72 : decode b_V_computeWithRegister 72 = .ok (.invokevirtual 242, 3) := by decide +kernel
theorem d_V_computeWithRegister_75 : decode b_V_computeWithRegister 75 = .ok (.istore 7, 2) := by decide +kernel
theorem d_V_computeWithRegister_77 : decode b_V_computeWithRegister 77 = .ok (.aload_n 0, 1) := by decide +kernel
theorem d_V_computeWithRegister_78 : decode b_V_computeWithRegister 78 = .ok (.iload_n 1, 1) := by decide +kernel
theorem d_V_computeWithRegister_79 : decode b_V_computeWithRegister 79 = .ok (.iload_n 2, 1) := by decide +kernel
theorem d_V_computeWithRegister_80 : decode b_V_computeWithRegister 80 = .ok (.invokestatic 191, 3) := by decide +kernel
theorem d_V_computeWithRegister_83 : decode b_V_computeWithRegister 83 = .ok (.iload_n 3, 1) := by decide +kernel
theorem d_V_computeWithRegister_84 : decode b_V_computeWithRegister 84 = .ok (.iload 5, 2) := by decide +kernel
theorem d_V_computeWithRegister_86 : decode b_V_computeWithRegister 86 = .ok (.iload 6, 2) := by decide +kernel
theorem d_V_computeWithRegister_88 : decode b_V_computeWithRegister 88 = .ok (.iload 7, 2) := by decide +kernel
theorem d_V_computeWithRegister_90 : decode b_V_computeWithRegister 90 = .ok (.invokestatic 276, 3) := by decide +kernel
theorem d_V_computeWithRegister_93 : decode b_V_computeWithRegister 93 = .ok (.invokevirtual 197, 3) := by decide +kernel
theorem d_V_computeWithRegister_96 : decode b_V_computeWithRegister 96 = .ok (.return_, 1) := by decide +kernel
theorem d_V_computeWithRegister_39 : decode b_V_computeWithRegister 39 = .ok (.iload 5, 2) := by decide +kernel
theorem d_V_computeWithRegister_41 : decode b_V_computeWithRegister 41 = .ok (.ifCond .ne 10, 3) := by decide +kernel
theorem d_V_computeWithRegister_44 : decode b_V_computeWithRegister 44 = .ok (.aload_n 0, 1) := by decide +kernel
theorem d_V_computeWithRegister_45 : decode b_V_computeWithRegister 45 = .ok (.iconst 2, 1) := by decide +kernel
theorem d_V_computeWithRegister_46 : decode b_V_computeWithRegister 46 = .ok (.iload_n 2, 1) := by decide +kernel
theorem d_V_computeWithRegister_47 : decode b_V_computeWithRegister 47 = .ok (.invokevirtual 128, 3) := by decide +kernel
theorem d_V_computeWithRegister_50 : decode b_V_computeWithRegister 50 = .ok (.return_, 1) := by decide +kernel
theorem d_V_computeWithRegister_18 : decode b_V_computeWithRegister 18 = .ok (.iload_n 3, 1) := by decide +kernel
theorem d_V_computeWithRegister_19 : decode b_V_computeWithRegister 19 = .ok (.ifCond .eq 8, 3) := by decide +kernel
theorem d_V_computeWithRegister_27 : decode b_V_computeWithRegister 27 = .ok (.iconst 1, 1) := by decide +kernel
theorem d_V_computeWithRegister_28 : decode b_V_computeWithRegister 28 = .ok (.goto 4, 3) := by decide +kernel
theorem d_V_computeWithRegister_22 : decode b_V_computeWithRegister 22 = .ok (.iload_n 3, 1) := by decide +kernel
theorem d_V_computeWithRegister_23 : decode b_V_computeWithRegister 23 = .ok (.iconst 5, 1) := by decide +kernel
theorem d_V_computeWithRegister_24 : decode b_V_computeWithRegister 24 = .ok (.if_icmp .ne 7, 3) := by decide +kernel
theorem d_V_doNothing_0 : decode b_V_doNothing 0 = .ok (.iload_n 2, 1) := by decide +kernel
theorem d_V_doNothing_1 : decode b_V_doNothing 1 = .ok (.invokestatic 236, 3) := by decide +kernel
theorem d_V_doNothing_4 : decode b_V_doNothing 4 = .ok (.ifCond .eq 10, 3) := by decide +kernel
theorem d_V_doNothing_14 : decode b_V_doNothing 14 = .ok (.aload_n 0, 1) := by decide +kernel
theorem d_V_doNothing_15 : decode b_V_doNothing 15 = .ok (.iload_n 1, 1) := by decide +kernel
theorem d_V_doNothing_16 : decode b_V_doNothing 16 = .ok (.invokevirtual 233, 3) := by decide +kernel
theorem d_V_doNothing_19 : decode b_V_doNothing 19 = .ok (.return_, 1) := by decide +kernel
theorem d_V_doNothing_7 : decode b_V_doNothing 7 = .ok (.aload_n 0, 1) := by decide +kernel
theorem d_V_doNothing_8 : decode b_V_doNothing 8 = .ok (.iconst 2, 1) := by decide +kernel
theorem d_V_doNothing_9 : decode b_V_doNothing 9 = .ok (.iload_n 2, 1) := by decide +kernel
theorem d_V_doNothing_10 : decode b_V_doNothing 10 = .ok (.invokevirtual 128, 3) := by decide +kernel
theorem d_V_doNothing_13 : decode b_V_doNothing 13 = .ok (.return_, 1) := by decide +kernel
theorem d_V_callOrBreak_0 : decode b_V_callOrBreak 0 = .ok (.iload_n 1, 1) := by decide +kernel
theorem d_V_callOrBreak_1 : decode b_V_callOrBreak 1 = .ok (.bipush 115, 2) := by decide +kernel
theorem d_V_callOrBreak_3 : decode b_V_callOrBreak 3 = .ok (.if_icmp .ne 12, 3) := by decide +kernel
theorem d_V_callOrBreak_15 : decode b_V_callOrBreak 15 = .ok (.iload_n 1, 1) := by decide +kernel
theorem d_V_callOrBreak_16 : decode b_V_callOrBreak 16 = .ok (.ldc_w 280, 3) := by decide +kernel
theorem d_V_callOrBreak_19 : decode b_V_callOrBreak 19 = .ok (.if_icmp .ne 12, 3) := by decide +kernel
theorem d_V_callOrBreak_31 : decode b_V_callOrBreak 31 = .ok (.aload_n 0, 1) := by decide +kernel
theorem d_V_callOrBreak_32 : decode b_V_callOrBreak 32 = .ok (.iconst 2, 1) := by decide +kernel
theorem d_V_callOrBreak_33 : decode b_V_callOrBreak 33 = .ok (.iload_n 1, 1) := by decide +kernel
theorem d_V_callOrBreak_34 : decode b_V_callOrBreak 34 = .ok (.invokevirtual 128, 3) := by decide +kernel
theorem d_V_callOrBreak_37 : decode b_V_callOrBreak 37 = .ok (.return_, 1) := by decide +kernel
theorem d_V_callOrBreak_22 : decode b_V_callOrBreak 22 = .ok (.aload_n 0, 1) := by decide +kernel
theorem d_V_callOrBreak_23 : decode b_V_callOrBreak 23 = .ok (.iconst 4, 1) := by decide +kernel
theorem d_V_callOrBreak_24 : decode b_V_callOrBreak 24 = .ok (.iconst 0, 1) := by decide +kernel
theorem d_V_callOrBreak_25 : decode b_V_callOrBreak 25 = .ok (.invokevirtual 128, 3) := by decide +kernel
theorem d_V_callOrBreak_28 : decode b_V_callOrBreak 28 = .ok (.goto 9, 3) := by decide +kernel
theorem d_V_callOrBreak_6 : decode b_V_callOrBreak 6 = .ok (.aload_n 0, 1) := by decide +kernel
theorem d_V_callOrBreak_7 : decode b_V_callOrBreak 7 = .ok (.iconst 3, 1) := by decide +kernel
theorem d_V_callOrBreak_8 : decode b_V_callOrBreak 8 = .ok (.iconst 0, 1) := by decide +kernel
theorem d_V_callOrBreak_9 : decode b_V_callOrBreak 9 = .ok (.invokevirtual 128, 3) := by decide +kernel
theorem d_V_callOrBreak_12 : decode b_V_callOrBreak 12 = .ok (.goto 25, 3) := by decide +kernel
theorem d_V_doInstruction_0 : decode b_V_doInstruction 0 = .ok (.aload_n 0, 1) := by decide +kernel
theorem d_V_doInstruction_1 : decode b_V_doInstruction 1 = .ok (.getfield 29, 3) := by decide +kernel
theorem d_V_doInstruction_4 : decode b_V_doInstruction 4 = .ok (.iconst 0, 1) := by decide +kernel
theorem d_V_doInstruction_5 : decode b_V_doInstruction 5 = .ok (.invokevirtual 70, 3) := by decide +kernel
theorem d_V_doInstruction_8 : decode b_V_doInstruction 8 = .ok (.istore_n 1, 1) := by decide +kernel
theorem d_V_doInstruction_9 : decode b_V_doInstruction 9 = .ok (.iload_n 1, 1) := by decide +kernel
theorem d_V_doInstruction_10 : decode b_V_doInstruction 10 = .ok (.iconst 4, 1) := by decide +kernel
theorem d_V_doInstruction_11 : decode b_V_doInstruction 11 = .ok (.invokestatic 179, 3) := by decide +kernel
theorem d_V_doInstruction_14 : decode b_V_doInstruction 14 = .ok (.ifCond .ne 10, 3) := by decide +kernel
theorem d_V_doInstruction_24 : decode b_V_doInstruction 24 = .ok (.aload_n 0, 1) := by decide +kernel
theorem d_V_doInstruction_25 : decode b_V_doInstruction 25 = .ok (.aload_n 0, 1) := by decide +kernel
theorem d_V_doInstruction_26 : decode b_V_doInstruction 26 = .ok (.getfield 19, 3) := by decide +kernel
theorem d_V_doInstruction_29 : decode b_V_doInstruction 29 = .ok (.iload_n 1, 1) := by decide +kernel
theorem d_V_doInstruction_30 : decode b_V_doInstruction 30 = .ok (.iconst 2, 1) := by decide +kernel
theorem d_V_doInstruction_31 : decode b_V_doInstruction 31 = .ok (.iushr, 1) := by decide +kernel
theorem d_V_doInstruction_32 : decode b_V_doInstruction 32 = .ok (.invokevirtual 182, 3) := by decide +kernel
theorem d_V_doInstruction_35 : decode b_V_doInstruction 35 = .ok (.lstore_n 2, 1) := by decide +kernel
theorem d_V_doInstruction_36 : decode b_V_doInstruction 36 = .ok (.lload_n 2, 1) := by decide +kernel
theorem d_V_doInstruction_37 : decode b_V_doInstruction 37 = .ok (.ldc2_w 161, 3) := by decide +kernel
theorem d_V_doInstruction_40 : decode b_V_doInstruction 40 = .ok (.lcmp, 1) := by decide +kernel
theorem d_V_doInstruction_41 : decode b_V_doInstruction 41 = .ok (.ifCond .ne 12, 3) := by decide +kernel
theorem d_V_doInstruction_53 : decode b_V_doInstruction 53 = .ok (.lload_n 2, 1) := by decide +kernel
theorem d_V_doInstruction_54 : decode b_V_doInstruction 54 = .ok (.l2i, 1) := by decide +kernel
theorem d_V_doInstruction_55 : decode b_V_doInstruction 55 = .ok (.istore 4, 2) := by decide +kernel
theorem d_V_doInstruction_57 : decode b_V_doInstruction 57 = .ok (.iload 4, 2) := by decide +kernel
theorem d_V_doInstruction_59 : decode b_V_doInstruction 59 = .ok (.invokestatic 186, 3) := by decide +kernel
theorem d_V_doInstruction_62 : decode b_V_doInstruction 62 = .ok (.lookupswitch 218 #[(3, 168), (15, 208), (19, 188), (23, 108), (35, 178), (51, 198), (55, 90), (99, 158), (103, 148), (111, 128)], 90) := by decide +kernel
theorem d_V_doInstruction_230 : decode b_V_doInstruction 230 = .ok (.aload_n 0, 1) := by decide +kernel
theorem d_V_doInstruction_231 : decode b_V_doInstruction 231 = .ok (.iload_n 1, 1) := by decide +kernel
theorem d_V_doInstruction_232 : decode b_V_doInstruction 232 = .ok (.iload 4, 2) := by decide +kernel
theorem d_V_doInstruction_234 : decode b_V_doInstruction 234 = .ok (.invokevirtual 212, 3) := by decide +kernel
theorem d_V_doInstruction_237 : decode b_V_doInstruction 237 = .ok (.goto 49, 3) := by decide +kernel
theorem d_V_doInstruction_286 : decode b_V_doInstruction 286 = .ok (.return_, 1) := by decide +kernel
theorem d_V_doInstruction_270 : decode b_V_doInstruction 270 = .ok (.aload_n 0, 1) := by decide +kernel
theorem d_V_doInstruction_271 : decode b_V_doInstruction 271 = .ok (.iload_n 1, 1) := by decide +kernel
theorem d_V_doInstruction_272 : decode b_V_doInstruction 272 = .ok (.iload 4, 2) := by decide +kernel
theorem d_V_doInstruction_274 : decode b_V_doInstruction 274 = .ok (.invokevirtual 224, 3) := by decide +kernel
theorem d_V_doInstruction_277 : decode b_V_doInstruction 277 = .ok (.goto 9, 3) := by decide +kernel
theorem d_V_doInstruction_250 : decode b_V_doInstruction 250 = .ok (.aload_n 0, 1) := by decide +kernel
theorem d_V_doInstruction_251 : decode b_V_doInstruction 251 = .ok (.iload_n 1, 1) := by decide +kernel
theorem d_V_doInstruction_252 : decode b_V_doInstruction 252 = .ok (.iload 4, 2) := by decide +kernel
theorem d_V_doInstruction_254 : decode b_V_doInstruction 254 = .ok (.invokevirtual 218, 3) := by decide +kernel
theorem d_V_doInstruction_257 : decode b_V_doInstruction 257 = .ok (.goto 29, 3) := by decide +kernel
theorem d_V_doInstruction_170 : decode b_V_doInstruction 170 = .ok (.aload_n 0, 1) := by decide +kernel
theorem d_V_doInstruction_171 : decode b_V_doInstruction 171 = .ok (.iload_n 1, 1) := by decide +kernel
theorem d_V_doInstruction_172 : decode b_V_doInstruction 172 = .ok (.iload 4, 2) := by decide +kernel
theorem d_V_doInstruction_174 : decode b_V_doInstruction 174 = .ok (.invokestatic 191, 3) := by decide +kernel
theorem d_V_doInstruction_177 : decode b_V_doInstruction 177 = .ok (.iload_n 1, 1) := by decide +kernel
theorem d_V_doInstruction_178 : decode b_V_doInstruction 178 = .ok (.iload 4, 2) := by decide +kernel
theorem d_V_doInstruction_180 : decode b_V_doInstruction 180 = .ok (.invokestatic 194, 3) := by decide +kernel
theorem d_V_doInstruction_183 : decode b_V_doInstruction 183 = .ok (.iadd, 1) := by decide +kernel
theorem d_V_doInstruction_184 : decode b_V_doInstruction 184 = .ok (.invokevirtual 197, 3) := by decide +kernel
theorem d_V_doInstruction_187 : decode b_V_doInstruction 187 = .ok (.goto 99, 3) := by decide +kernel
theorem d_V_doInstruction_240 : decode b_V_doInstruction 240 = .ok (.aload_n 0, 1) := by decide +kernel
theorem d_V_doInstruction_241 : decode b_V_doInstruction 241 = .ok (.iload_n 1, 1) := by decide +kernel
theorem d_V_doInstruction_242 : decode b_V_doInstruction 242 = .ok (.iload 4, 2) := by decide +kernel
theorem d_V_doInstruction_244 : decode b_V_doInstruction 244 = .ok (.invokevirtual 215, 3) := by decide +kernel
theorem d_V_doInstruction_247 : decode b_V_doInstruction 247 = .ok (.goto 39, 3) := by decide +kernel
theorem d_V_doInstruction_260 : decode b_V_doInstruction 260 = .ok (.aload_n 0, 1) := by decide +kernel
theorem d_V_doInstruction_261 : decode b_V_doInstruction 261 = .ok (.iload_n 1, 1) := by decide +kernel
theorem d_V_doInstruction_262 : decode b_V_doInstruction 262 = .ok (.iload 4, 2) := by decide +kernel
theorem d_V_doInstruction_264 : decode b_V_doInstruction 264 = .ok (.invokevirtual 221, 3) := by decide +kernel
theorem d_V_doInstruction_267 : decode b_V_doInstruction 267 = .ok (.goto 19, 3) := by decide +kernel
theorem d_V_doInstruction_152 : decode b_V_doInstruction 152 = .ok (.aload_n 0, 1) := by decide +kernel
theorem d_V_doInstruction_153 : decode b_V_doInstruction 153 = .ok (.iload_n 1, 1) := by decide +kernel
theorem d_V_doInstruction_154 : decode b_V_doInstruction 154 = .ok (.iload 4, 2) := by decide +kernel
theorem d_V_doInstruction_156 : decode b_V_doInstruction 156 = .ok (.invokestatic 191, 3) := by decide +kernel
theorem d_V_doInstruction_159 : decode b_V_doInstruction 159 = .ok (.iload 4, 2) := by decide +kernel
theorem d_V_doInstruction_161 : decode b_V_doInstruction 161 = .ok (.invokestatic 194, 3) := by decide +kernel
theorem d_V_doInstruction_164 : decode b_V_doInstruction 164 = .ok (.invokevirtual 197, 3) := by decide +kernel
theorem d_V_doInstruction_167 : decode b_V_doInstruction 167 = .ok (.goto 119, 3) := by decide +kernel
theorem d_V_doInstruction_220 : decode b_V_doInstruction 220 = .ok (.aload_n 0, 1) := by decide +kernel
theorem d_V_doInstruction_221 : decode b_V_doInstruction 221 = .ok (.iload_n 1, 1) := by decide +kernel
theorem d_V_doInstruction_222 : decode b_V_doInstruction 222 = .ok (.iload 4, 2) := by decide +kernel
theorem d_V_doInstruction_224 : decode b_V_doInstruction 224 = .ok (.invokevirtual 209, 3) := by decide +kernel
theorem d_V_doInstruction_227 : decode b_V_doInstruction 227 = .ok (.goto 59, 3) := by decide +kernel
theorem d_V_doInstruction_210 : decode b_V_doInstruction 210 = .ok (.aload_n 0, 1) := by decide +kernel
theorem d_V_doInstruction_211 : decode b_V_doInstruction 211 = .ok (.iload_n 1, 1) := by decide +kernel
theorem d_V_doInstruction_212 : decode b_V_doInstruction 212 = .ok (.iload 4, 2) := by decide +kernel
theorem d_V_doInstruction_214 : decode b_V_doInstruction 214 = .ok (.invokevirtual 206, 3) := by decide +kernel
theorem d_V_doInstruction_217 : decode b_V_doInstruction 217 = .ok (.goto 69, 3) := by decide +kernel
theorem d_V_doInstruction_190 : decode b_V_doInstruction 190 = .ok (.aload_n 0, 1) := by decide +kernel
theorem d_V_doInstruction_191 : decode b_V_doInstruction 191 = .ok (.iload_n 1, 1) := by decide +kernel
theorem d_V_doInstruction_192 : decode b_V_doInstruction 192 = .ok (.iload 4, 2) := by decide +kernel
theorem d_V_doInstruction_194 : decode b_V_doInstruction 194 = .ok (.invokestatic 191, 3) := by decide +kernel
theorem d_V_doInstruction_197 : decode b_V_doInstruction 197 = .ok (.iload_n 1, 1) := by decide +kernel
theorem d_V_doInstruction_198 : decode b_V_doInstruction 198 = .ok (.iload 4, 2) := by decide +kernel
theorem d_V_doInstruction_200 : decode b_V_doInstruction 200 = .ok (.invokestatic 200, 3) := by decide +kernel
theorem d_V_doInstruction_203 : decode b_V_doInstruction 203 = .ok (.iadd, 1) := by decide +kernel
theorem d_V_doInstruction_204 : decode b_V_doInstruction 204 = .ok (.invokevirtual 203, 3) := by decide +kernel
theorem d_V_doInstruction_207 : decode b_V_doInstruction 207 = .ok (.goto 79, 3) := by decide +kernel
theorem d_V_doInstruction_280 : decode b_V_doInstruction 280 = .ok (.aload_n 0, 1) := by decide +kernel
theorem d_V_doInstruction_281 : decode b_V_doInstruction 281 = .ok (.iload 4, 2) := by decide +kernel
theorem d_V_doInstruction_283 : decode b_V_doInstruction 283 = .ok (.invokevirtual 227, 3) := by decide +kernel
theorem d_V_doInstruction_44 : decode b_V_doInstruction 44 = .ok (.aload_n 0, 1) := by decide +kernel
theorem d_V_doInstruction_45 : decode b_V_doInstruction 45 = .ok (.iconst 5, 1) := by decide +kernel
theorem d_V_doInstruction_46 : decode b_V_doInstruction 46 = .ok (.iload_n 1, 1) := by decide +kernel
theorem d_V_doInstruction_47 : decode b_V_doInstruction 47 = .ok (.iconst 2, 1) := by decide +kernel
theorem d_V_doInstruction_48 : decode b_V_doInstruction 48 = .ok (.iushr, 1) := by decide +kernel
theorem d_V_doInstruction_49 : decode b_V_doInstruction 49 = .ok (.invokevirtual 128, 3) := by decide +kernel
theorem d_V_doInstruction_52 : decode b_V_doInstruction 52 = .ok (.return_, 1) := by decide +kernel
theorem d_V_doInstruction_17 : decode b_V_doInstruction 17 = .ok (.aload_n 0, 1) := by decide +kernel
theorem d_V_doInstruction_18 : decode b_V_doInstruction 18 = .ok (.iconst 1, 1) := by decide +kernel
theorem d_V_doInstruction_19 : decode b_V_doInstruction 19 = .ok (.iload_n 1, 1) := by decide +kernel
theorem d_V_doInstruction_20 : decode b_V_doInstruction 20 = .ok (.invokevirtual 128, 3) := by decide +kernel
theorem d_V_doInstruction_23 : decode b_V_doInstruction 23 = .ok (.return_, 1) := by decide +kernel
theorem d_Mo_outside_0 : decode b_Mo_outside 0 = .ok (.iload_n 0, 1) := by decide +kernel
theorem d_Mo_outside_1 : decode b_Mo_outside 1 = .ok (.ifCond .lt 8, 3) := by decide +kernel
theorem d_Mo_outside_9 : decode b_Mo_outside 9 = .ok (.iconst 1, 1) := by decide +kernel
theorem d_Mo_outside_10 : decode b_Mo_outside 10 = .ok (.goto 4, 3) := by decide +kernel
theorem d_Mo_outside_14 : decode b_Mo_outside 14 = .ok (.ireturn, 1) := by decide +kernel
theorem d_Mo_outside_4 : decode b_Mo_outside 4 = .ok (.iload_n 0, 1) := by decide +kernel
theorem d_Mo_outside_5 : decode b_Mo_outside 5 = .ok (.iload_n 1, 1) := by decide +kernel
theorem d_Mo_outside_6 : decode b_Mo_outside 6 = .ok (.if_icmp .le 7, 3) := by decide +kernel
theorem d_Mo_outside_13 : decode b_Mo_outside 13 = .ok (.iconst 0, 1) := by decide +kernel
theorem d_Mo_isData_0 : decode b_Mo_isData 0 = .ok (.iload_n 0, 1) := by decide +kernel
theorem d_Mo_isData_1 : decode b_Mo_isData 1 = .ok (.iload_n 0, 1) := by decide +kernel
theorem d_Mo_isData_2 : decode b_Mo_isData 2 = .ok (.iconst 1, 1) := by decide +kernel
theorem d_Mo_isData_3 : decode b_Mo_isData 3 = .ok (.isub, 1) := by decide +kernel
theorem d_Mo_isData_4 : decode b_Mo_isData 4 = .ok (.iand, 1) := by decide +kernel
theorem d_Mo_isData_5 : decode b_Mo_isData 5 = .ok (.ifCond .eq 7, 3) := by decide +kernel
theorem d_Mo_isData_12 : decode b_Mo_isData 12 = .ok (.iconst 0, 1) := by decide +kernel
theorem d_Mo_isData_13 : decode b_Mo_isData 13 = .ok (.ireturn, 1) := by decide +kernel
theorem d_Mo_isData_8 : decode b_Mo_isData 8 = .ok (.iconst 1, 1) := by decide +kernel
theorem d_Mo_isData_9 : decode b_Mo_isData 9 = .ok (.goto 4, 3) := by decide +kernel
theorem d_Mo_syndrome_0 : decode b_Mo_syndrome 0 = .ok (.iconst 0, 1) := by decide +kernel
theorem d_Mo_syndrome_1 : decode b_Mo_syndrome 1 = .ok (.istore_n 2, 1) := by decide +kernel
theorem d_Mo_syndrome_2 : decode b_Mo_syndrome 2 = .ok (.iconst 1, 1) := by decide +kernel
theorem d_Mo_syndrome_3 : decode b_Mo_syndrome 3 = .ok (.istore_n 3, 1) := by decide +kernel
theorem d_Mo_syndrome_4 : decode b_Mo_syndrome 4 = .ok (.iload_n 3, 1) := by decide +kernel
theorem d_Mo_syndrome_5 : decode b_Mo_syndrome 5 = .ok (.bipush 39, 2) := by decide +kernel
theorem d_Mo_syndrome_7 : decode b_Mo_syndrome 7 = .ok (.if_icmp .ge 27, 3) := by decide +kernel
