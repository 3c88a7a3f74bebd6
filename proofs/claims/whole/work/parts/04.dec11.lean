theorem d_Mo_bits_47 : decode b_Mo_bits 47 = .ok (.aload_n 0, 1) := by decide +kernel
theorem d_Mo_bits_48 : decode b_Mo_bits 48 = .ok (.getfield 13, 3) := by decide +kernel
theorem d_Mo_bits_51 : decode b_Mo_bits 51 = .ok (.iload_n 1, 1) := by decide +kernel
theorem d_Mo_bits_52 : decode b_Mo_bits 52 = .ok (.laload, 1) := by decide +kernel
theorem d_Mo_bits_53 : decode b_Mo_bits 53 = .ok (.lxor, 1) := by decide +kernel
theorem d_Mo_bits_54 : decode b_Mo_bits 54 = .ok (.goto 29, 3) := by decide +kernel
theorem d_Mo_bits_21 : decode b_Mo_bits 21 = .ok (.aload_n 0, 1) := by decide +kernel
theorem d_Mo_bits_22 : decode b_Mo_bits 22 = .ok (.getfield 23, 3) := by decide +kernel
theorem d_Mo_bits_25 : decode b_Mo_bits 25 = .ok (.iload_n 1, 1) := by decide +kernel
theorem d_Mo_bits_26 : decode b_Mo_bits 26 = .ok (.sipush 160, 3) := by decide +kernel
theorem d_Mo_bits_29 : decode b_Mo_bits 29 = .ok (.isub, 1) := by decide +kernel
theorem d_Mo_bits_30 : decode b_Mo_bits 30 = .ok (.laload, 1) := by decide +kernel
theorem d_Mo_bits_31 : decode b_Mo_bits 31 = .ok (.lreturn, 1) := by decide +kernel
theorem d_Mo_bits_10 : decode b_Mo_bits 10 = .ok (.ldc2_w 211, 3) := by decide +kernel
theorem d_Mo_bits_13 : decode b_Mo_bits 13 = .ok (.lreturn, 1) := by decide +kernel
theorem d_Mo_cause_0 : decode b_Mo_cause 0 = .ok (.aload_n 0, 1) := by decide +kernel
theorem d_Mo_cause_1 : decode b_Mo_cause 1 = .ok (.getfield 94, 3) := by decide +kernel
theorem d_Mo_cause_4 : decode b_Mo_cause 4 = .ok (.ireturn, 1) := by decide +kernel
theorem d_Mo_value_0 : decode b_Mo_value 0 = .ok (.aload_n 0, 1) := by decide +kernel
theorem d_Mo_value_1 : decode b_Mo_value 1 = .ok (.getfield 97, 3) := by decide +kernel
theorem d_Mo_value_4 : decode b_Mo_value 4 = .ok (.ireturn, 1) := by decide +kernel
theorem d_Mo_cycles_0 : decode b_Mo_cycles 0 = .ok (.aload_n 0, 1) := by decide +kernel
theorem d_Mo_cycles_1 : decode b_Mo_cycles 1 = .ok (.getfield 190, 3) := by decide +kernel
theorem d_Mo_cycles_4 : decode b_Mo_cycles 4 = .ok (.ireturn, 1) := by decide +kernel
theorem d_Mo_count_0 : decode b_Mo_count 0 = .ok (.iload_n 1, 1) := by decide +kernel
theorem d_Mo_count_1 : decode b_Mo_count 1 = .ok (.iconst 5, 1) := by decide +kernel
theorem d_Mo_count_2 : decode b_Mo_count 2 = .ok (.invokestatic 135, 3) := by decide +kernel
theorem d_Mo_count_5 : decode b_Mo_count 5 = .ok (.ifCond .eq 7, 3) := by decide +kernel
theorem d_Mo_count_12 : decode b_Mo_count 12 = .ok (.aload_n 0, 1) := by decide +kernel
theorem d_Mo_count_13 : decode b_Mo_count 13 = .ok (.getfield 29, 3) := by decide +kernel
theorem d_Mo_count_16 : decode b_Mo_count 16 = .ok (.iload_n 1, 1) := by decide +kernel
theorem d_Mo_count_17 : decode b_Mo_count 17 = .ok (.iaload, 1) := by decide +kernel
theorem d_Mo_count_18 : decode b_Mo_count 18 = .ok (.ireturn, 1) := by decide +kernel
theorem d_Mo_count_8 : decode b_Mo_count 8 = .ok (.iconst (-1), 1) := by decide +kernel
theorem d_Mo_count_9 : decode b_Mo_count 9 = .ok (.goto 9, 3) := by decide +kernel
theorem d_Mo_instruct_0 : decode b_Mo_instruct 0 = .ok (.aload_n 0, 1) := by decide +kernel
theorem d_Mo_instruct_1 : decode b_Mo_instruct 1 = .ok (.aload_n 0, 1) := by decide +kernel
theorem d_Mo_instruct_2 : decode b_Mo_instruct 2 = .ok (.iconst 0, 1) := by decide +kernel
theorem d_Mo_instruct_3 : decode b_Mo_instruct 3 = .ok (.invokevirtual 87, 3) := by decide +kernel
theorem d_Mo_instruct_6 : decode b_Mo_instruct 6 = .ok (.putfield 124, 3) := by decide +kernel
theorem d_Mo_instruct_9 : decode b_Mo_instruct 9 = .ok (.aload_n 0, 1) := by decide +kernel
theorem d_Mo_instruct_10 : decode b_Mo_instruct 10 = .ok (.iconst 0, 1) := by decide +kernel
theorem d_Mo_instruct_11 : decode b_Mo_instruct 11 = .ok (.putfield 107, 3) := by decide +kernel
theorem d_Mo_instruct_14 : decode b_Mo_instruct 14 = .ok (.aload_n 0, 1) := by decide +kernel
theorem d_Mo_instruct_15 : decode b_Mo_instruct 15 = .ok (.aload_n 0, 1) := by decide +kernel
theorem d_Mo_instruct_16 : decode b_Mo_instruct 16 = .ok (.getfield 124, 3) := by decide +kernel
theorem d_Mo_instruct_19 : decode b_Mo_instruct 19 = .ok (.iconst 4, 1) := by decide +kernel
theorem d_Mo_instruct_20 : decode b_Mo_instruct 20 = .ok (.iadd, 1) := by decide +kernel
theorem d_Mo_instruct_21 : decode b_Mo_instruct 21 = .ok (.putfield 114, 3) := by decide +kernel
theorem d_Mo_instruct_24 : decode b_Mo_instruct 24 = .ok (.aload_n 0, 1) := by decide +kernel
theorem d_Mo_instruct_25 : decode b_Mo_instruct 25 = .ok (.getfield 124, 3) := by decide +kernel
theorem d_Mo_instruct_28 : decode b_Mo_instruct 28 = .ok (.iconst 4, 1) := by decide +kernel
theorem d_Mo_instruct_29 : decode b_Mo_instruct 29 = .ok (.irem, 1) := by decide +kernel
theorem d_Mo_instruct_30 : decode b_Mo_instruct 30 = .ok (.ifCond .ne 16, 3) := by decide +kernel
theorem d_Mo_instruct_46 : decode b_Mo_instruct 46 = .ok (.aload_n 0, 1) := by decide +kernel
theorem d_Mo_instruct_47 : decode b_Mo_instruct 47 = .ok (.iconst 1, 1) := by decide +kernel
theorem d_Mo_instruct_48 : decode b_Mo_instruct 48 = .ok (.aload_n 0, 1) := by decide +kernel
theorem d_Mo_instruct_49 : decode b_Mo_instruct 49 = .ok (.getfield 124, 3) := by decide +kernel
theorem d_Mo_instruct_52 : decode b_Mo_instruct 52 = .ok (.invokevirtual 66, 3) := by decide +kernel
theorem d_Mo_instruct_55 : decode b_Mo_instruct 55 = .ok (.goto 29, 3) := by decide +kernel
theorem d_Mo_instruct_84 : decode b_Mo_instruct 84 = .ok (.aload_n 0, 1) := by decide +kernel
theorem d_Mo_instruct_85 : decode b_Mo_instruct 85 = .ok (.getfield 94, 3) := by decide +kernel
theorem d_Mo_instruct_88 : decode b_Mo_instruct 88 = .ok (.ifCond .ne 40, 3) := by decide +kernel
theorem d_Mo_instruct_128 : decode b_Mo_instruct 128 = .ok (.return_, 1) := by decide +kernel
theorem d_Mo_instruct_91 : decode b_Mo_instruct 91 = .ok (.aload_n 0, 1) := by decide +kernel
theorem d_Mo_instruct_92 : decode b_Mo_instruct 92 = .ok (.bipush 7, 2) := by decide +kernel
theorem d_Mo_instruct_94 : decode b_Mo_instruct 94 = .ok (.iconst 5, 1) := by decide +kernel
theorem d_Mo_instruct_95 : decode b_Mo_instruct 95 = .ok (.invokevirtual 103, 3) := by decide +kernel
theorem d_Mo_instruct_98 : decode b_Mo_instruct 98 = .ok (.istore_n 1, 1) := by decide +kernel
theorem d_Mo_instruct_99 : decode b_Mo_instruct 99 = .ok (.aload_n 0, 1) := by decide +kernel
theorem d_Mo_instruct_100 : decode b_Mo_instruct 100 = .ok (.getfield 107, 3) := by decide +kernel
theorem d_Mo_instruct_103 : decode b_Mo_instruct 103 = .ok (.ifCond .eq 16, 3) := by decide +kernel
theorem d_Mo_instruct_119 : decode b_Mo_instruct 119 = .ok (.aload_n 0, 1) := by decide +kernel
theorem d_Mo_instruct_120 : decode b_Mo_instruct 120 = .ok (.iconst 0, 1) := by decide +kernel
theorem d_Mo_instruct_121 : decode b_Mo_instruct 121 = .ok (.aload_n 0, 1) := by decide +kernel
theorem d_Mo_instruct_122 : decode b_Mo_instruct 122 = .ok (.getfield 114, 3) := by decide +kernel
theorem d_Mo_instruct_125 : decode b_Mo_instruct 125 = .ok (.invokevirtual 91, 3) := by decide +kernel
theorem d_Mo_instruct_33 : decode b_Mo_instruct 33 = .ok (.aload_n 0, 1) := by decide +kernel
theorem d_Mo_instruct_34 : decode b_Mo_instruct 34 = .ok (.getfield 124, 3) := by decide +kernel
theorem d_Mo_instruct_37 : decode b_Mo_instruct 37 = .ok (.sipush 255, 3) := by decide +kernel
theorem d_Mo_instruct_40 : decode b_Mo_instruct 40 = .ok (.invokestatic 135, 3) := by decide +kernel
theorem d_Mo_instruct_43 : decode b_Mo_instruct 43 = .ok (.ifCond .eq 15, 3) := by decide +kernel
theorem d_Mo_instruct_58 : decode b_Mo_instruct 58 = .ok (.aload_n 0, 1) := by decide +kernel
theorem d_Mo_instruct_59 : decode b_Mo_instruct 59 = .ok (.iconst 0, 1) := by decide +kernel
theorem d_Mo_instruct_60 : decode b_Mo_instruct 60 = .ok (.aload_n 0, 1) := by decide +kernel
theorem d_Mo_instruct_61 : decode b_Mo_instruct 61 = .ok (.getfield 124, 3) := by decide +kernel
theorem d_Mo_instruct_64 : decode b_Mo_instruct 64 = .ok (.iconst 4, 1) := by decide +kernel
theorem d_Mo_instruct_65 : decode b_Mo_instruct 65 = .ok (.idiv, 1) := by decide +kernel
theorem d_Mo_instruct_66 : decode b_Mo_instruct 66 = .ok (.invokevirtual 141, 3) := by decide +kernel
theorem d_Mo_instruct_69 : decode b_Mo_instruct 69 = .ok (.ifCond .eq 15, 3) := by decide +kernel
theorem d_Mo_instruct_72 : decode b_Mo_instruct 72 = .ok (.aload_n 0, 1) := by decide +kernel
theorem d_Mo_instruct_73 : decode b_Mo_instruct 73 = .ok (.aload_n 0, 1) := by decide +kernel
theorem d_Mo_instruct_74 : decode b_Mo_instruct 74 = .ok (.getfield 77, 3) := by decide +kernel
theorem d_Mo_instruct_77 : decode b_Mo_instruct 77 = .ok (.putfield 100, 3) := by decide +kernel
theorem d_Mo_instruct_80 : decode b_Mo_instruct 80 = .ok (.aload_n 0, 1) := by decide +kernel
theorem d_Mo_instruct_81 : decode b_Mo_instruct 81 = .ok (.invokevirtual 184, 3) := by decide +kernel
theorem d_Mo_instruct_106 : decode b_Mo_instruct 106 = .ok (.iload_n 1, 1) := by decide +kernel
theorem d_Mo_instruct_107 : decode b_Mo_instruct 107 = .ok (.ifCond .le 12, 3) := by decide +kernel
theorem d_Mo_instruct_110 : decode b_Mo_instruct 110 = .ok (.aload_n 0, 1) := by decide +kernel
theorem d_Mo_instruct_111 : decode b_Mo_instruct 111 = .ok (.iload_n 1, 1) := by decide +kernel
theorem d_Mo_instruct_112 : decode b_Mo_instruct 112 = .ok (.aload_n 0, 1) := by decide +kernel
theorem d_Mo_instruct_113 : decode b_Mo_instruct 113 = .ok (.getfield 111, 3) := by decide +kernel
theorem d_Mo_instruct_116 : decode b_Mo_instruct 116 = .ok (.invokevirtual 91, 3) := by decide +kernel
theorem d_V_run_0 : decode b_V_run 0 = .ok (.iload_n 1, 1) := by decide +kernel
theorem d_V_run_1 : decode b_V_run 1 = .ok (.ifCond .lt 10, 3) := by decide +kernel
theorem d_V_run_11 : decode b_V_run 11 = .ok (.iconst (-1), 1) := by decide +kernel
theorem d_V_run_12 : decode b_V_run 12 = .ok (.ireturn, 1) := by decide +kernel
theorem d_V_run_4 : decode b_V_run 4 = .ok (.iload_n 1, 1) := by decide +kernel
theorem d_V_run_5 : decode b_V_run 5 = .ok (.sipush 500, 3) := by decide +kernel
theorem d_V_run_8 : decode b_V_run 8 = .ok (.if_icmp .le 5, 3) := by decide +kernel
theorem d_V_run_13 : decode b_V_run 13 = .ok (.iconst 0, 1) := by decide +kernel
theorem d_V_run_14 : decode b_V_run 14 = .ok (.istore_n 2, 1) := by decide +kernel
theorem d_V_run_15 : decode b_V_run 15 = .ok (.iload_n 2, 1) := by decide +kernel
theorem d_V_run_16 : decode b_V_run 16 = .ok (.iload_n 1, 1) := by decide +kernel
theorem d_V_run_17 : decode b_V_run 17 = .ok (.if_icmp .ge 57, 3) := by decide +kernel
theorem d_V_run_74 : decode b_V_run 74 = .ok (.iload_n 2, 1) := by decide +kernel
theorem d_V_run_75 : decode b_V_run 75 = .ok (.ireturn, 1) := by decide +kernel
theorem d_V_run_20 : decode b_V_run 20 = .ok (.aload_n 0, 1) := by decide +kernel
theorem d_V_run_21 : decode b_V_run 21 = .ok (.getfield 110, 3) := by decide +kernel
theorem d_V_run_24 : decode b_V_run 24 = .ok (.ifCond .ne 50, 3) := by decide +kernel
theorem d_V_run_27 : decode b_V_run 27 = .ok (.iinc 2 1, 3) := by decide +kernel
theorem d_V_run_30 : decode b_V_run 30 = .ok (.aload_n 0, 1) := by decide +kernel
theorem d_V_run_31 : decode b_V_run 31 = .ok (.dup, 1) := by decide +kernel
theorem d_V_run_32 : decode b_V_run 32 = .ok (.getfield 103, 3) := by decide +kernel
theorem d_V_run_35 : decode b_V_run 35 = .ok (.iconst 1, 1) := by decide +kernel
theorem d_V_run_36 : decode b_V_run 36 = .ok (.iadd, 1) := by decide +kernel
theorem d_V_run_37 : decode b_V_run 37 = .ok (.putfield 103, 3) := by decide +kernel
theorem d_V_run_40 : decode b_V_run 40 = .ok (.aload_n 0, 1) := by decide +kernel
theorem d_V_run_41 : decode b_V_run 41 = .ok (.invokevirtual 113, 3) := by decide +kernel
theorem d_V_run_44 : decode b_V_run 44 = .ok (.aload_n 0, 1) := by decide +kernel
theorem d_V_run_45 : decode b_V_run 45 = .ok (.getfield 29, 3) := by decide +kernel
theorem d_V_run_48 : decode b_V_run 48 = .ok (.invokevirtual 116, 3) := by decide +kernel
theorem d_V_run_51 : decode b_V_run 51 = .ok (.aload_n 0, 1) := by decide +kernel
theorem d_V_run_52 : decode b_V_run 52 = .ok (.invokevirtual 119, 3) := by decide +kernel
theorem d_V_run_55 : decode b_V_run 55 = .ok (.aload_n 0, 1) := by decide +kernel
theorem d_V_run_56 : decode b_V_run 56 = .ok (.getfield 103, 3) := by decide +kernel
theorem d_V_run_59 : decode b_V_run 59 = .ok (.aload_n 0, 1) := by decide +kernel
theorem d_V_run_60 : decode b_V_run 60 = .ok (.getfield 49, 3) := by decide +kernel
theorem d_V_run_63 : decode b_V_run 63 = .ok (.irem, 1) := by decide +kernel
theorem d_V_run_64 : decode b_V_run 64 = .ok (.ifCond .ne (-49), 3) := by decide +kernel
theorem d_V_run_67 : decode b_V_run 67 = .ok (.aload_n 0, 1) := by decide +kernel
theorem d_V_run_68 : decode b_V_run 68 = .ok (.invokevirtual 122, 3) := by decide +kernel
theorem d_V_run_71 : decode b_V_run 71 = .ok (.goto (-56), 3) := by decide +kernel
theorem d_Mo_run_0 : decode b_Mo_run 0 = .ok (.iload_n 1, 1) := by decide +kernel
theorem d_Mo_run_1 : decode b_Mo_run 1 = .ok (.sipush 500, 3) := by decide +kernel
theorem d_Mo_run_4 : decode b_Mo_run 4 = .ok (.invokestatic 135, 3) := by decide +kernel
theorem d_Mo_run_7 : decode b_Mo_run 7 = .ok (.ifCond .eq 5, 3) := by decide +kernel
theorem d_Mo_run_12 : decode b_Mo_run 12 = .ok (.iconst 0, 1) := by decide +kernel
theorem d_Mo_run_13 : decode b_Mo_run 13 = .ok (.istore_n 2, 1) := by decide +kernel
theorem d_Mo_run_14 : decode b_Mo_run 14 = .ok (.iload_n 2, 1) := by decide +kernel
theorem d_Mo_run_15 : decode b_Mo_run 15 = .ok (.iload_n 1, 1) := by decide +kernel
theorem d_Mo_run_16 : decode b_Mo_run 16 = .ok (.if_icmp .ge 54, 3) := by decide +kernel
theorem d_Mo_run_70 : decode b_Mo_run 70 = .ok (.iload_n 2, 1) := by decide +kernel
theorem d_Mo_run_71 : decode b_Mo_run 71 = .ok (.ireturn, 1) := by decide +kernel
theorem d_Mo_run_19 : decode b_Mo_run 19 = .ok (.aload_n 0, 1) := by decide +kernel
theorem d_Mo_run_20 : decode b_Mo_run 20 = .ok (.getfield 94, 3) := by decide +kernel
theorem d_Mo_run_23 : decode b_Mo_run 23 = .ok (.ifCond .ne 47, 3) := by decide +kernel
theorem d_Mo_run_26 : decode b_Mo_run 26 = .ok (.aload_n 0, 1) := by decide +kernel
theorem d_Mo_run_27 : decode b_Mo_run 27 = .ok (.dup, 1) := by decide +kernel
theorem d_Mo_run_28 : decode b_Mo_run 28 = .ok (.getfield 190, 3) := by decide +kernel
theorem d_Mo_run_31 : decode b_Mo_run 31 = .ok (.iconst 1, 1) := by decide +kernel
theorem d_Mo_run_32 : decode b_Mo_run 32 = .ok (.iadd, 1) := by decide +kernel
theorem d_Mo_run_33 : decode b_Mo_run 33 = .ok (.putfield 190, 3) := by decide +kernel
theorem d_Mo_run_36 : decode b_Mo_run 36 = .ok (.aload_n 0, 1) := by decide +kernel
theorem d_Mo_run_37 : decode b_Mo_run 37 = .ok (.invokevirtual 196, 3) := by decide +kernel
theorem d_Mo_run_40 : decode b_Mo_run 40 = .ok (.aload_n 0, 1) := by decide +kernel
theorem d_Mo_run_41 : decode b_Mo_run 41 = .ok (.invokevirtual 199, 3) := by decide +kernel
theorem d_Mo_run_44 : decode b_Mo_run 44 = .ok (.aload_n 0, 1) := by decide +kernel
theorem d_Mo_run_45 : decode b_Mo_run 45 = .ok (.invokevirtual 202, 3) := by decide +kernel
theorem d_Mo_run_48 : decode b_Mo_run 48 = .ok (.aload_n 0, 1) := by decide +kernel
theorem d_Mo_run_49 : decode b_Mo_run 49 = .ok (.getfield 190, 3) := by decide +kernel
theorem d_Mo_run_52 : decode b_Mo_run 52 = .ok (.aload_n 0, 1) := by decide +kernel
theorem d_Mo_run_53 : decode b_Mo_run 53 = .ok (.getfield 32, 3) := by decide +kernel
theorem d_Mo_run_56 : decode b_Mo_run 56 = .ok (.irem, 1) := by decide +kernel
theorem d_Mo_run_57 : decode b_Mo_run 57 = .ok (.ifCond .ne 7, 3) := by decide +kernel
theorem d_Mo_run_64 : decode b_Mo_run 64 = .ok (.iinc 2 1, 3) := by decide +kernel
theorem d_Mo_run_67 : decode b_Mo_run 67 = .ok (.goto (-53), 3) := by decide +kernel
theorem d_Mo_run_60 : decode b_Mo_run 60 = .ok (.aload_n 0, 1) := by decide +kernel
theorem d_Mo_run_61 : decode b_Mo_run 61 = .ok (.invokevirtual 205, 3) := by decide +kernel
theorem d_Mo_run_10 : decode b_Mo_run 10 = .ok (.iconst (-1), 1) := by decide +kernel
theorem d_Mo_run_11 : decode b_Mo_run 11 = .ok (.ireturn, 1) := by decide +kernel
