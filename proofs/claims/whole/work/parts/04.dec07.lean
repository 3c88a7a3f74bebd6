theorem d_Mo_fetch_5 : decode b_Mo_fetch 5 = .ok (.irem, 1) := by decide +kernel
theorem d_Mo_fetch_6 : decode b_Mo_fetch 6 = .ok (.iadd, 1) := by decide +kernel
theorem d_Mo_fetch_7 : decode b_Mo_fetch 7 = .ok (.istore_n 3, 1) := by decide +kernel
theorem d_Mo_fetch_8 : decode b_Mo_fetch 8 = .ok (.aload_n 0, 1) := by decide +kernel
theorem d_Mo_fetch_9 : decode b_Mo_fetch 9 = .ok (.iload_n 1, 1) := by decide +kernel
theorem d_Mo_fetch_10 : decode b_Mo_fetch 10 = .ok (.iload_n 2, 1) := by decide +kernel
theorem d_Mo_fetch_11 : decode b_Mo_fetch 11 = .ok (.invokevirtual 59, 3) := by decide +kernel
theorem d_Mo_fetch_14 : decode b_Mo_fetch 14 = .ok (.ifCond .ne 47, 3) := by decide +kernel
theorem d_Mo_fetch_61 : decode b_Mo_fetch 61 = .ok (.aload_n 0, 1) := by decide +kernel
theorem d_Mo_fetch_62 : decode b_Mo_fetch 62 = .ok (.aload_n 0, 1) := by decide +kernel
theorem d_Mo_fetch_63 : decode b_Mo_fetch 63 = .ok (.getfield 23, 3) := by decide +kernel
theorem d_Mo_fetch_66 : decode b_Mo_fetch 66 = .ok (.iload_n 3, 1) := by decide +kernel
theorem d_Mo_fetch_67 : decode b_Mo_fetch 67 = .ok (.laload, 1) := by decide +kernel
theorem d_Mo_fetch_68 : decode b_Mo_fetch 68 = .ok (.l2i, 1) := by decide +kernel
theorem d_Mo_fetch_69 : decode b_Mo_fetch 69 = .ok (.putfield 77, 3) := by decide +kernel
theorem d_Mo_fetch_72 : decode b_Mo_fetch 72 = .ok (.iconst 1, 1) := by decide +kernel
theorem d_Mo_fetch_73 : decode b_Mo_fetch 73 = .ok (.ireturn, 1) := by decide +kernel
theorem d_Mo_fetch_17 : decode b_Mo_fetch 17 = .ok (.aload_n 0, 1) := by decide +kernel
theorem d_Mo_fetch_18 : decode b_Mo_fetch 18 = .ok (.iload_n 2, 1) := by decide +kernel
theorem d_Mo_fetch_19 : decode b_Mo_fetch 19 = .ok (.invokevirtual 63, 3) := by decide +kernel
theorem d_Mo_fetch_22 : decode b_Mo_fetch 22 = .ok (.ifCond .ne 11, 3) := by decide +kernel
theorem d_Mo_fetch_33 : decode b_Mo_fetch 33 = .ok (.aload_n 0, 1) := by decide +kernel
theorem d_Mo_fetch_34 : decode b_Mo_fetch 34 = .ok (.getfield 23, 3) := by decide +kernel
theorem d_Mo_fetch_37 : decode b_Mo_fetch 37 = .ok (.iload_n 3, 1) := by decide +kernel
theorem d_Mo_fetch_38 : decode b_Mo_fetch 38 = .ok (.aload_n 0, 1) := by decide +kernel
theorem d_Mo_fetch_39 : decode b_Mo_fetch 39 = .ok (.getfield 7, 3) := by decide +kernel
theorem d_Mo_fetch_42 : decode b_Mo_fetch 42 = .ok (.iload_n 2, 1) := by decide +kernel
theorem d_Mo_fetch_43 : decode b_Mo_fetch 43 = .ok (.iaload, 1) := by decide +kernel
theorem d_Mo_fetch_44 : decode b_Mo_fetch 44 = .ok (.aload_n 0, 1) := by decide +kernel
theorem d_Mo_fetch_45 : decode b_Mo_fetch 45 = .ok (.getfield 13, 3) := by decide +kernel
theorem d_Mo_fetch_48 : decode b_Mo_fetch 48 = .ok (.iload_n 2, 1) := by decide +kernel
theorem d_Mo_fetch_49 : decode b_Mo_fetch 49 = .ok (.laload, 1) := by decide +kernel
theorem d_Mo_fetch_50 : decode b_Mo_fetch 50 = .ok (.invokestatic 70, 3) := by decide +kernel
theorem d_Mo_fetch_53 : decode b_Mo_fetch 53 = .ok (.ixor, 1) := by decide +kernel
theorem d_Mo_fetch_54 : decode b_Mo_fetch 54 = .ok (.iload_n 2, 1) := by decide +kernel
theorem d_Mo_fetch_55 : decode b_Mo_fetch 55 = .ok (.iconst 4, 1) := by decide +kernel
theorem d_Mo_fetch_56 : decode b_Mo_fetch 56 = .ok (.idiv, 1) := by decide +kernel
theorem d_Mo_fetch_57 : decode b_Mo_fetch 57 = .ok (.invokestatic 73, 3) := by decide +kernel
theorem d_Mo_fetch_60 : decode b_Mo_fetch 60 = .ok (.lastore, 1) := by decide +kernel
theorem d_Mo_fetch_25 : decode b_Mo_fetch 25 = .ok (.aload_n 0, 1) := by decide +kernel
theorem d_Mo_fetch_26 : decode b_Mo_fetch 26 = .ok (.iconst 5, 1) := by decide +kernel
theorem d_Mo_fetch_27 : decode b_Mo_fetch 27 = .ok (.iload_n 2, 1) := by decide +kernel
theorem d_Mo_fetch_28 : decode b_Mo_fetch 28 = .ok (.invokevirtual 66, 3) := by decide +kernel
theorem d_Mo_fetch_31 : decode b_Mo_fetch 31 = .ok (.iconst 0, 1) := by decide +kernel
theorem d_Mo_fetch_32 : decode b_Mo_fetch 32 = .ok (.ireturn, 1) := by decide +kernel
theorem d_Mo_save_0 : decode b_Mo_save 0 = .ok (.aload_n 0, 1) := by decide +kernel
theorem d_Mo_save_1 : decode b_Mo_save 1 = .ok (.iload_n 1, 1) := by decide +kernel
theorem d_Mo_save_2 : decode b_Mo_save 2 = .ok (.iload_n 2, 1) := by decide +kernel
theorem d_Mo_save_3 : decode b_Mo_save 3 = .ok (.invokevirtual 80, 3) := by decide +kernel
theorem d_Mo_save_6 : decode b_Mo_save 6 = .ok (.aload_n 0, 1) := by decide +kernel
theorem d_Mo_save_7 : decode b_Mo_save 7 = .ok (.iconst 0, 1) := by decide +kernel
theorem d_Mo_save_8 : decode b_Mo_save 8 = .ok (.iload_n 1, 1) := by decide +kernel
theorem d_Mo_save_9 : decode b_Mo_save 9 = .ok (.invokevirtual 59, 3) := by decide +kernel
theorem d_Mo_save_12 : decode b_Mo_save 12 = .ok (.ifCond .eq 12, 3) := by decide +kernel
theorem d_Mo_save_24 : decode b_Mo_save 24 = .ok (.aload_n 0, 1) := by decide +kernel
theorem d_Mo_save_25 : decode b_Mo_save 25 = .ok (.iconst 1, 1) := by decide +kernel
theorem d_Mo_save_26 : decode b_Mo_save 26 = .ok (.iload_n 1, 1) := by decide +kernel
theorem d_Mo_save_27 : decode b_Mo_save 27 = .ok (.invokevirtual 59, 3) := by decide +kernel
theorem d_Mo_save_30 : decode b_Mo_save 30 = .ok (.ifCond .eq 20, 3) := by decide +kernel
theorem d_Mo_save_50 : decode b_Mo_save 50 = .ok (.return_, 1) := by decide +kernel
theorem d_Mo_save_33 : decode b_Mo_save 33 = .ok (.aload_n 0, 1) := by decide +kernel
theorem d_Mo_save_34 : decode b_Mo_save 34 = .ok (.getfield 23, 3) := by decide +kernel
theorem d_Mo_save_37 : decode b_Mo_save 37 = .ok (.iconst 4, 1) := by decide +kernel
theorem d_Mo_save_38 : decode b_Mo_save 38 = .ok (.iload_n 1, 1) := by decide +kernel
theorem d_Mo_save_39 : decode b_Mo_save 39 = .ok (.iconst 4, 1) := by decide +kernel
theorem d_Mo_save_40 : decode b_Mo_save 40 = .ok (.irem, 1) := by decide +kernel
theorem d_Mo_save_41 : decode b_Mo_save 41 = .ok (.iadd, 1) := by decide +kernel
theorem d_Mo_save_42 : decode b_Mo_save 42 = .ok (.iload_n 2, 1) := by decide +kernel
theorem d_Mo_save_43 : decode b_Mo_save 43 = .ok (.iload_n 1, 1) := by decide +kernel
theorem d_Mo_save_44 : decode b_Mo_save 44 = .ok (.iconst 4, 1) := by decide +kernel
theorem d_Mo_save_45 : decode b_Mo_save 45 = .ok (.idiv, 1) := by decide +kernel
theorem d_Mo_save_46 : decode b_Mo_save 46 = .ok (.invokestatic 73, 3) := by decide +kernel
theorem d_Mo_save_49 : decode b_Mo_save 49 = .ok (.lastore, 1) := by decide +kernel
theorem d_Mo_save_15 : decode b_Mo_save 15 = .ok (.aload_n 0, 1) := by decide +kernel
theorem d_Mo_save_16 : decode b_Mo_save 16 = .ok (.getfield 23, 3) := by decide +kernel
theorem d_Mo_save_19 : decode b_Mo_save 19 = .ok (.iload_n 1, 1) := by decide +kernel
theorem d_Mo_save_20 : decode b_Mo_save 20 = .ok (.iconst 4, 1) := by decide +kernel
theorem d_Mo_save_21 : decode b_Mo_save 21 = .ok (.irem, 1) := by decide +kernel
theorem d_Mo_save_22 : decode b_Mo_save 22 = .ok (.lconst 0, 1) := by decide +kernel
theorem d_Mo_save_23 : decode b_Mo_save 23 = .ok (.lastore, 1) := by decide +kernel
theorem d_Mo_two_0 : decode b_Mo_two 0 = .ok (.iload_n 0, 1) := by decide +kernel
theorem d_Mo_two_1 : decode b_Mo_two 1 = .ok (.iload_n 1, 1) := by decide +kernel
theorem d_Mo_two_2 : decode b_Mo_two 2 = .ok (.iand, 1) := by decide +kernel
theorem d_Mo_two_3 : decode b_Mo_two 3 = .ok (.iload_n 0, 1) := by decide +kernel
theorem d_Mo_two_4 : decode b_Mo_two 4 = .ok (.iload_n 2, 1) := by decide +kernel
theorem d_Mo_two_5 : decode b_Mo_two 5 = .ok (.iand, 1) := by decide +kernel
theorem d_Mo_two_6 : decode b_Mo_two 6 = .ok (.ior, 1) := by decide +kernel
theorem d_Mo_two_7 : decode b_Mo_two 7 = .ok (.iload_n 1, 1) := by decide +kernel
theorem d_Mo_two_8 : decode b_Mo_two 8 = .ok (.iload_n 2, 1) := by decide +kernel
theorem d_Mo_two_9 : decode b_Mo_two 9 = .ok (.iand, 1) := by decide +kernel
theorem d_Mo_two_10 : decode b_Mo_two 10 = .ok (.ior, 1) := by decide +kernel
theorem d_Mo_two_11 : decode b_Mo_two 11 = .ok (.ireturn, 1) := by decide +kernel
theorem d_Mo_valueOf_0 : decode b_Mo_valueOf 0 = .ok (.aload_n 0, 1) := by decide +kernel
theorem d_Mo_valueOf_1 : decode b_Mo_valueOf 1 = .ok (.getfield 17, 3) := by decide +kernel
theorem d_Mo_valueOf_4 : decode b_Mo_valueOf 4 = .ok (.iload_n 1, 1) := by decide +kernel
theorem d_Mo_valueOf_5 : decode b_Mo_valueOf 5 = .ok (.iaload, 1) := by decide +kernel
theorem d_Mo_valueOf_6 : decode b_Mo_valueOf 6 = .ok (.aload_n 0, 1) := by decide +kernel
theorem d_Mo_valueOf_7 : decode b_Mo_valueOf 7 = .ok (.getfield 20, 3) := by decide +kernel
theorem d_Mo_valueOf_10 : decode b_Mo_valueOf 10 = .ok (.iconst 3, 1) := by decide +kernel
theorem d_Mo_valueOf_11 : decode b_Mo_valueOf 11 = .ok (.iload_n 1, 1) := by decide +kernel
theorem d_Mo_valueOf_12 : decode b_Mo_valueOf 12 = .ok (.imul, 1) := by decide +kernel
theorem d_Mo_valueOf_13 : decode b_Mo_valueOf 13 = .ok (.iaload, 1) := by decide +kernel
theorem d_Mo_valueOf_14 : decode b_Mo_valueOf 14 = .ok (.aload_n 0, 1) := by decide +kernel
theorem d_Mo_valueOf_15 : decode b_Mo_valueOf 15 = .ok (.getfield 20, 3) := by decide +kernel
theorem d_Mo_valueOf_18 : decode b_Mo_valueOf 18 = .ok (.iconst 3, 1) := by decide +kernel
theorem d_Mo_valueOf_19 : decode b_Mo_valueOf 19 = .ok (.iload_n 1, 1) := by decide +kernel
theorem d_Mo_valueOf_20 : decode b_Mo_valueOf 20 = .ok (.imul, 1) := by decide +kernel
theorem d_Mo_valueOf_21 : decode b_Mo_valueOf 21 = .ok (.iconst 1, 1) := by decide +kernel
theorem d_Mo_valueOf_22 : decode b_Mo_valueOf 22 = .ok (.iadd, 1) := by decide +kernel
theorem d_Mo_valueOf_23 : decode b_Mo_valueOf 23 = .ok (.iaload, 1) := by decide +kernel
theorem d_Mo_valueOf_24 : decode b_Mo_valueOf 24 = .ok (.aload_n 0, 1) := by decide +kernel
theorem d_Mo_valueOf_25 : decode b_Mo_valueOf 25 = .ok (.getfield 20, 3) := by decide +kernel
theorem d_Mo_valueOf_28 : decode b_Mo_valueOf 28 = .ok (.iconst 3, 1) := by decide +kernel
theorem d_Mo_valueOf_29 : decode b_Mo_valueOf 29 = .ok (.iload_n 1, 1) := by decide +kernel
theorem d_Mo_valueOf_30 : decode b_Mo_valueOf 30 = .ok (.imul, 1) := by decide +kernel
theorem d_Mo_valueOf_31 : decode b_Mo_valueOf 31 = .ok (.iconst 2, 1) := by decide +kernel
theorem d_Mo_valueOf_32 : decode b_Mo_valueOf 32 = .ok (.iadd, 1) := by decide +kernel
theorem d_Mo_valueOf_33 : decode b_Mo_valueOf 33 = .ok (.iaload, 1) := by decide +kernel
theorem d_Mo_valueOf_34 : decode b_Mo_valueOf 34 = .ok (.invokestatic 83, 3) := by decide +kernel
theorem d_Mo_valueOf_37 : decode b_Mo_valueOf 37 = .ok (.ixor, 1) := by decide +kernel
theorem d_Mo_valueOf_38 : decode b_Mo_valueOf 38 = .ok (.ireturn, 1) := by decide +kernel
theorem d_Mo_operand_0 : decode b_Mo_operand 0 = .ok (.iload_n 1, 1) := by decide +kernel
theorem d_Mo_operand_1 : decode b_Mo_operand 1 = .ok (.ifCond .ne 7, 3) := by decide +kernel
theorem d_Mo_operand_8 : decode b_Mo_operand 8 = .ok (.aload_n 0, 1) := by decide +kernel
theorem d_Mo_operand_9 : decode b_Mo_operand 9 = .ok (.iload_n 1, 1) := by decide +kernel
theorem d_Mo_operand_10 : decode b_Mo_operand 10 = .ok (.invokevirtual 87, 3) := by decide +kernel
theorem d_Mo_operand_13 : decode b_Mo_operand 13 = .ok (.ireturn, 1) := by decide +kernel
theorem d_Mo_operand_4 : decode b_Mo_operand 4 = .ok (.iconst 0, 1) := by decide +kernel
theorem d_Mo_operand_5 : decode b_Mo_operand 5 = .ok (.goto 8, 3) := by decide +kernel
theorem d_Mo_put_0 : decode b_Mo_put 0 = .ok (.aload_n 0, 1) := by decide +kernel
theorem d_Mo_put_1 : decode b_Mo_put 1 = .ok (.getfield 17, 3) := by decide +kernel
theorem d_Mo_put_4 : decode b_Mo_put 4 = .ok (.iload_n 1, 1) := by decide +kernel
theorem d_Mo_put_5 : decode b_Mo_put 5 = .ok (.iload_n 2, 1) := by decide +kernel
theorem d_Mo_put_6 : decode b_Mo_put 6 = .ok (.iastore, 1) := by decide +kernel
theorem d_Mo_put_7 : decode b_Mo_put 7 = .ok (.iconst 0, 1) := by decide +kernel
theorem d_Mo_put_8 : decode b_Mo_put 8 = .ok (.istore_n 3, 1) := by decide +kernel
theorem d_Mo_put_9 : decode b_Mo_put 9 = .ok (.iload_n 3, 1) := by decide +kernel
theorem d_Mo_put_10 : decode b_Mo_put 10 = .ok (.iconst 3, 1) := by decide +kernel
theorem d_Mo_put_11 : decode b_Mo_put 11 = .ok (.if_icmp .ge 20, 3) := by decide +kernel
theorem d_Mo_put_14 : decode b_Mo_put 14 = .ok (.aload_n 0, 1) := by decide +kernel
theorem d_Mo_put_15 : decode b_Mo_put 15 = .ok (.getfield 20, 3) := by decide +kernel
theorem d_Mo_put_18 : decode b_Mo_put 18 = .ok (.iconst 3, 1) := by decide +kernel
theorem d_Mo_put_19 : decode b_Mo_put 19 = .ok (.iload_n 1, 1) := by decide +kernel
theorem d_Mo_put_20 : decode b_Mo_put 20 = .ok (.imul, 1) := by decide +kernel
theorem d_Mo_put_21 : decode b_Mo_put 21 = .ok (.iload_n 3, 1) := by decide +kernel
theorem d_Mo_put_22 : decode b_Mo_put 22 = .ok (.iadd, 1) := by decide +kernel
theorem d_Mo_put_23 : decode b_Mo_put 23 = .ok (.iconst 0, 1) := by decide +kernel
theorem d_Mo_put_24 : decode b_Mo_put 24 = .ok (.iastore, 1) := by decide +kernel
theorem d_Mo_put_25 : decode b_Mo_put 25 = .ok (.iinc 3 1, 3) := by decide +kernel
theorem d_Mo_put_28 : decode b_Mo_put 28 = .ok (.goto (-19), 3) := by decide +kernel
theorem d_Mo_put_31 : decode b_Mo_put 31 = .ok (.return_, 1) := by decide +kernel
theorem d_Mo_vote_0 : decode b_Mo_vote 0 = .ok (.iconst 0, 1) := by decide +kernel
theorem d_Mo_vote_1 : decode b_Mo_vote 1 = .ok (.istore_n 1, 1) := by decide +kernel
theorem d_Mo_vote_2 : decode b_Mo_vote 2 = .ok (.iload_n 1, 1) := by decide +kernel
theorem d_Mo_vote_3 : decode b_Mo_vote 3 = .ok (.bipush 32, 2) := by decide +kernel
theorem d_Mo_vote_5 : decode b_Mo_vote 5 = .ok (.if_icmp .ge 94, 3) := by decide +kernel
theorem d_Mo_vote_99 : decode b_Mo_vote 99 = .ok (.return_, 1) := by decide +kernel
theorem d_Mo_vote_8 : decode b_Mo_vote 8 = .ok (.aload_n 0, 1) := by decide +kernel
theorem d_Mo_vote_9 : decode b_Mo_vote 9 = .ok (.getfield 20, 3) := by decide +kernel
theorem d_Mo_vote_12 : decode b_Mo_vote 12 = .ok (.iconst 3, 1) := by decide +kernel
theorem d_Mo_vote_13 : decode b_Mo_vote 13 = .ok (.iload_n 1, 1) := by decide +kernel
theorem d_Mo_vote_14 : decode b_Mo_vote 14 = .ok (.imul, 1) := by decide +kernel
theorem d_Mo_vote_15 : decode b_Mo_vote 15 = .ok (.iaload, 1) := by decide +kernel
theorem d_Mo_vote_16 : decode b_Mo_vote 16 = .ok (.aload_n 0, 1) := by decide +kernel
theorem d_Mo_vote_17 : decode b_Mo_vote 17 = .ok (.getfield 20, 3) := by decide +kernel
theorem d_Mo_vote_20 : decode b_Mo_vote 20 = .ok (.iconst 3, 1) := by decide +kernel
theorem d_Mo_vote_21 : decode b_Mo_vote 21 = .ok (.iload_n 1, 1) := by decide +kernel
theorem d_Mo_vote_22 : decode b_Mo_vote 22 = .ok (.imul, 1) := by decide +kernel
theorem d_Mo_vote_23 : decode b_Mo_vote 23 = .ok (.iconst 1, 1) := by decide +kernel
theorem d_Mo_vote_24 : decode b_Mo_vote 24 = .ok (.iadd, 1) := by decide +kernel
theorem d_Mo_vote_25 : decode b_Mo_vote 25 = .ok (.iaload, 1) := by decide +kernel
theorem d_Mo_vote_26 : decode b_Mo_vote 26 = .ok (.if_icmp .ne 28, 3) := by decide +kernel
theorem d_Mo_vote_54 : decode b_Mo_vote 54 = .ok (.iconst 0, 1) := by decide +kernel
theorem d_Mo_vote_55 : decode b_Mo_vote 55 = .ok (.istore_n 2, 1) := by decide +kernel
theorem d_Mo_vote_56 : decode b_Mo_vote 56 = .ok (.aload_n 0, 1) := by decide +kernel
theorem d_Mo_vote_57 : decode b_Mo_vote 57 = .ok (.getfield 29, 3) := by decide +kernel
theorem d_Mo_vote_60 : decode b_Mo_vote 60 = .ok (.iconst 2, 1) := by decide +kernel
theorem d_Mo_vote_61 : decode b_Mo_vote 61 = .ok (.iload_n 2, 1) := by decide +kernel
theorem d_Mo_vote_62 : decode b_Mo_vote 62 = .ok (.ifCond .eq 12, 3) := by decide +kernel
theorem d_Mo_vote_74 : decode b_Mo_vote 74 = .ok (.aload_n 0, 1) := by decide +kernel
theorem d_Mo_vote_75 : decode b_Mo_vote 75 = .ok (.getfield 29, 3) := by decide +kernel
theorem d_Mo_vote_78 : decode b_Mo_vote 78 = .ok (.iconst 2, 1) := by decide +kernel
theorem d_Mo_vote_79 : decode b_Mo_vote 79 = .ok (.iaload, 1) := by decide +kernel
theorem d_Mo_vote_80 : decode b_Mo_vote 80 = .ok (.iconst 1, 1) := by decide +kernel
theorem d_Mo_vote_81 : decode b_Mo_vote 81 = .ok (.iadd, 1) := by decide +kernel
theorem d_Mo_vote_82 : decode b_Mo_vote 82 = .ok (.iastore, 1) := by decide +kernel
theorem d_Mo_vote_83 : decode b_Mo_vote 83 = .ok (.aload_n 0, 1) := by decide +kernel
theorem d_Mo_vote_84 : decode b_Mo_vote 84 = .ok (.iload_n 1, 1) := by decide +kernel
theorem d_Mo_vote_85 : decode b_Mo_vote 85 = .ok (.aload_n 0, 1) := by decide +kernel
theorem d_Mo_vote_86 : decode b_Mo_vote 86 = .ok (.iload_n 1, 1) := by decide +kernel
theorem d_Mo_vote_87 : decode b_Mo_vote 87 = .ok (.invokevirtual 87, 3) := by decide +kernel
theorem d_Mo_vote_90 : decode b_Mo_vote 90 = .ok (.invokevirtual 91, 3) := by decide +kernel
theorem d_Mo_vote_93 : decode b_Mo_vote 93 = .ok (.iinc 1 1, 3) := by decide +kernel
theorem d_Mo_vote_96 : decode b_Mo_vote 96 = .ok (.goto (-94), 3) := by decide +kernel
theorem d_Mo_vote_29 : decode b_Mo_vote 29 = .ok (.aload_n 0, 1) := by decide +kernel
theorem d_Mo_vote_30 : decode b_Mo_vote 30 = .ok (.getfield 20, 3) := by decide +kernel
theorem d_Mo_vote_33 : decode b_Mo_vote 33 = .ok (.iconst 3, 1) := by decide +kernel
theorem d_Mo_vote_34 : decode b_Mo_vote 34 = .ok (.iload_n 1, 1) := by decide +kernel
theorem d_Mo_vote_35 : decode b_Mo_vote 35 = .ok (.imul, 1) := by decide +kernel
theorem d_Mo_vote_36 : decode b_Mo_vote 36 = .ok (.iaload, 1) := by decide +kernel
theorem d_Mo_vote_37 : decode b_Mo_vote 37 = .ok (.aload_n 0, 1) := by decide +kernel
theorem d_Mo_vote_38 : decode b_Mo_vote 38 = .ok (.getfield 20, 3) := by decide +kernel
theorem d_Mo_vote_41 : decode b_Mo_vote 41 = .ok (.iconst 3, 1) := by decide +kernel
theorem d_Mo_vote_42 : decode b_Mo_vote 42 = .ok (.iload_n 1, 1) := by decide +kernel
theorem d_Mo_vote_43 : decode b_Mo_vote 43 = .ok (.imul, 1) := by decide +kernel
theorem d_Mo_vote_44 : decode b_Mo_vote 44 = .ok (.iconst 2, 1) := by decide +kernel
theorem d_Mo_vote_45 : decode b_Mo_vote 45 = .ok (.iadd, 1) := by decide +kernel
theorem d_Mo_vote_46 : decode b_Mo_vote 46 = .ok (.iaload, 1) := by decide +kernel
theorem d_Mo_vote_47 : decode b_Mo_vote 47 = .ok (.if_icmp .ne 7, 3) := by decide +kernel
theorem d_Mo_vote_50 : decode b_Mo_vote 50 = .ok (.iconst 1, 1) := by decide +kernel
theorem d_Mo_vote_51 : decode b_Mo_vote 51 = .ok (.goto 4, 3) := by decide +kernel
theorem d_Mo_vote_65 : decode b_Mo_vote 65 = .ok (.aload_n 0, 1) := by decide +kernel
theorem d_Mo_vote_66 : decode b_Mo_vote 66 = .ok (.getfield 29, 3) := by decide +kernel
theorem d_Mo_vote_69 : decode b_Mo_vote 69 = .ok (.iconst 2, 1) := by decide +kernel
theorem d_Mo_vote_70 : decode b_Mo_vote 70 = .ok (.iaload, 1) := by decide +kernel
theorem d_Mo_vote_71 : decode b_Mo_vote 71 = .ok (.goto 11, 3) := by decide +kernel
theorem d_Mo_field_0 : decode b_Mo_field 0 = .ok (.aload_n 0, 1) := by decide +kernel
theorem d_Mo_field_1 : decode b_Mo_field 1 = .ok (.getfield 100, 3) := by decide +kernel
theorem d_Mo_field_4 : decode b_Mo_field 4 = .ok (.iload_n 1, 1) := by decide +kernel
theorem d_Mo_field_5 : decode b_Mo_field 5 = .ok (.iushr, 1) := by decide +kernel
theorem d_Mo_field_6 : decode b_Mo_field 6 = .ok (.iconst 1, 1) := by decide +kernel
theorem d_Mo_field_7 : decode b_Mo_field 7 = .ok (.iload_n 2, 1) := by decide +kernel
theorem d_Mo_field_8 : decode b_Mo_field 8 = .ok (.ishl, 1) := by decide +kernel
theorem d_Mo_field_9 : decode b_Mo_field 9 = .ok (.iconst 1, 1) := by decide +kernel
theorem d_Mo_field_10 : decode b_Mo_field 10 = .ok (.isub, 1) := by decide +kernel
theorem d_Mo_field_11 : decode b_Mo_field 11 = .ok (.iand, 1) := by decide +kernel
theorem d_Mo_field_12 : decode b_Mo_field 12 = .ok (.ireturn, 1) := by decide +kernel
theorem d_Mo_numberJ_0 : decode b_Mo_numberJ 0 = .ok (.aload_n 0, 1) := by decide +kernel
theorem d_Mo_numberJ_1 : decode b_Mo_numberJ 1 = .ok (.getfield 100, 3) := by decide +kernel
theorem d_Mo_numberJ_4 : decode b_Mo_numberJ 4 = .ok (.bipush 25, 2) := by decide +kernel
theorem d_Mo_numberJ_6 : decode b_Mo_numberJ 6 = .ok (.ishr, 1) := by decide +kernel
theorem d_Mo_numberJ_7 : decode b_Mo_numberJ 7 = .ok (.iconst 5, 1) := by decide +kernel
theorem d_Mo_numberJ_8 : decode b_Mo_numberJ 8 = .ok (.ishl, 1) := by decide +kernel
theorem d_Mo_numberJ_9 : decode b_Mo_numberJ 9 = .ok (.aload_n 0, 1) := by decide +kernel
theorem d_Mo_numberJ_10 : decode b_Mo_numberJ 10 = .ok (.bipush 7, 2) := by decide +kernel
theorem d_Mo_numberJ_12 : decode b_Mo_numberJ 12 = .ok (.iconst 5, 1) := by decide +kernel
theorem d_Mo_numberJ_13 : decode b_Mo_numberJ 13 = .ok (.invokevirtual 103, 3) := by decide +kernel
theorem d_Mo_numberJ_16 : decode b_Mo_numberJ 16 = .ok (.ior, 1) := by decide +kernel
theorem d_Mo_numberJ_17 : decode b_Mo_numberJ 17 = .ok (.ireturn, 1) := by decide +kernel
theorem d_Mo_numberK_0 : decode b_Mo_numberK 0 = .ok (.aload_n 0, 1) := by decide +kernel
theorem d_Mo_numberK_1 : decode b_Mo_numberK 1 = .ok (.getfield 100, 3) := by decide +kernel
theorem d_Mo_numberK_4 : decode b_Mo_numberK 4 = .ok (.bipush 31, 2) := by decide +kernel
theorem d_Mo_numberK_6 : decode b_Mo_numberK 6 = .ok (.ishr, 1) := by decide +kernel
theorem d_Mo_numberK_7 : decode b_Mo_numberK 7 = .ok (.bipush 12, 2) := by decide +kernel
theorem d_Mo_numberK_9 : decode b_Mo_numberK 9 = .ok (.ishl, 1) := by decide +kernel
theorem d_Mo_numberK_10 : decode b_Mo_numberK 10 = .ok (.aload_n 0, 1) := by decide +kernel
theorem d_Mo_numberK_11 : decode b_Mo_numberK 11 = .ok (.bipush 7, 2) := by decide +kernel
theorem d_Mo_numberK_13 : decode b_Mo_numberK 13 = .ok (.iconst 1, 1) := by decide +kernel
theorem d_Mo_numberK_14 : decode b_Mo_numberK 14 = .ok (.invokevirtual 103, 3) := by decide +kernel
theorem d_Mo_numberK_17 : decode b_Mo_numberK 17 = .ok (.bipush 11, 2) := by decide +kernel
theorem d_Mo_numberK_19 : decode b_Mo_numberK 19 = .ok (.ishl, 1) := by decide +kernel
theorem d_Mo_numberK_20 : decode b_Mo_numberK 20 = .ok (.ior, 1) := by decide +kernel
theorem d_Mo_numberK_21 : decode b_Mo_numberK 21 = .ok (.aload_n 0, 1) := by decide +kernel
theorem d_Mo_numberK_22 : decode b_Mo_numberK 22 = .ok (.bipush 25, 2) := by decide +kernel
theorem d_Mo_numberK_24 : decode b_Mo_numberK 24 = .ok (.bipush 6, 2) := by decide +kernel
theorem d_Mo_numberK_26 : decode b_Mo_numberK 26 = .ok (.invokevirtual 103, 3) := by decide +kernel
theorem d_Mo_numberK_29 : decode b_Mo_numberK 29 = .ok (.iconst 5, 1) := by decide +kernel
theorem d_Mo_numberK_30 : decode b_Mo_numberK 30 = .ok (.ishl, 1) := by decide +kernel
theorem d_Mo_numberK_31 : decode b_Mo_numberK 31 = .ok (.ior, 1) := by decide +kernel
theorem d_Mo_numberK_32 : decode b_Mo_numberK 32 = .ok (.aload_n 0, 1) := by decide +kernel
theorem d_Mo_numberK_33 : decode b_Mo_numberK 33 = .ok (.bipush 8, 2) := by decide +kernel
theorem d_Mo_numberK_35 : decode b_Mo_numberK 35 = .ok (.iconst 4, 1) := by decide +kernel
theorem d_Mo_numberK_36 : decode b_Mo_numberK 36 = .ok (.invokevirtual 103, 3) := by decide +kernel
theorem d_Mo_numberK_39 : decode b_Mo_numberK 39 = .ok (.iconst 1, 1) := by decide +kernel
theorem d_Mo_numberK_40 : decode b_Mo_numberK 40 = .ok (.ishl, 1) := by decide +kernel
theorem d_Mo_numberK_41 : decode b_Mo_numberK 41 = .ok (.ior, 1) := by decide +kernel
theorem d_Mo_numberK_42 : decode b_Mo_numberK 42 = .ok (.ireturn, 1) := by decide +kernel
theorem d_Mo_numberL_0 : decode b_Mo_numberL 0 = .ok (.aload_n 0, 1) := by decide +kernel
theorem d_Mo_numberL_1 : decode b_Mo_numberL 1 = .ok (.getfield 100, 3) := by decide +kernel
theorem d_Mo_numberL_4 : decode b_Mo_numberL 4 = .ok (.bipush 31, 2) := by decide +kernel
theorem d_Mo_numberL_6 : decode b_Mo_numberL 6 = .ok (.ishr, 1) := by decide +kernel
theorem d_Mo_numberL_7 : decode b_Mo_numberL 7 = .ok (.bipush 20, 2) := by decide +kernel
theorem d_Mo_numberL_9 : decode b_Mo_numberL 9 = .ok (.ishl, 1) := by decide +kernel
theorem d_Mo_numberL_10 : decode b_Mo_numberL 10 = .ok (.aload_n 0, 1) := by decide +kernel
theorem d_Mo_numberL_11 : decode b_Mo_numberL 11 = .ok (.bipush 12, 2) := by decide +kernel
theorem d_Mo_numberL_13 : decode b_Mo_numberL 13 = .ok (.bipush 8, 2) := by decide +kernel
theorem d_Mo_numberL_15 : decode b_Mo_numberL 15 = .ok (.invokevirtual 103, 3) := by decide +kernel
theorem d_Mo_numberL_18 : decode b_Mo_numberL 18 = .ok (.bipush 12, 2) := by decide +kernel
theorem d_Mo_numberL_20 : decode b_Mo_numberL 20 = .ok (.ishl, 1) := by decide +kernel
theorem d_Mo_numberL_21 : decode b_Mo_numberL 21 = .ok (.ior, 1) := by decide +kernel
theorem d_Mo_numberL_22 : decode b_Mo_numberL 22 = .ok (.aload_n 0, 1) := by decide +kernel
theorem d_Mo_numberL_23 : decode b_Mo_numberL 23 = .ok (.bipush 20, 2) := by decide +kernel
theorem d_Mo_numberL_25 : decode b_Mo_numberL 25 = .ok (.iconst 1, 1) := by decide +kernel
theorem d_Mo_numberL_26 : decode b_Mo_numberL 26 = .ok (.invokevirtual 103, 3) := by decide +kernel
theorem d_Mo_numberL_29 : decode b_Mo_numberL 29 = .ok (.bipush 11, 2) := by decide +kernel
theorem d_Mo_numberL_31 : decode b_Mo_numberL 31 = .ok (.ishl, 1) := by decide +kernel
theorem d_Mo_numberL_32 : decode b_Mo_numberL 32 = .ok (.ior, 1) := by decide +kernel
theorem d_Mo_numberL_33 : decode b_Mo_numberL 33 = .ok (.aload_n 0, 1) := by decide +kernel
theorem d_Mo_numberL_34 : decode b_Mo_numberL 34 = .ok (.bipush 21, 2) := by decide +kernel
theorem d_Mo_numberL_36 : decode b_Mo_numberL 36 = .ok (.bipush 10, 2) := by decide +kernel
theorem d_Mo_numberL_38 : decode b_Mo_numberL 38 = .ok (.invokevirtual 103, 3) := by decide +kernel
theorem d_Mo_numberL_41 : decode b_Mo_numberL 41 = .ok (.iconst 1, 1) := by decide +kernel
theorem d_Mo_numberL_42 : decode b_Mo_numberL 42 = .ok (.ishl, 1) := by decide +kernel
theorem d_Mo_numberL_43 : decode b_Mo_numberL 43 = .ok (.ior, 1) := by decide +kernel
theorem d_Mo_numberL_44 : decode b_Mo_numberL 44 = .ok (.ireturn, 1) := by decide +kernel
theorem d_Mo_give_0 : decode b_Mo_give 0 = .ok (.aload_n 0, 1) := by decide +kernel
theorem d_Mo_give_1 : decode b_Mo_give 1 = .ok (.iconst 1, 1) := by decide +kernel
theorem d_Mo_give_2 : decode b_Mo_give 2 = .ok (.putfield 107, 3) := by decide +kernel
theorem d_Mo_give_5 : decode b_Mo_give 5 = .ok (.aload_n 0, 1) := by decide +kernel
theorem d_Mo_give_6 : decode b_Mo_give 6 = .ok (.iload_n 1, 1) := by decide +kernel
