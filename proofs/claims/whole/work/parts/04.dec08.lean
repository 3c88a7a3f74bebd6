theorem d_Mo_give_7 : decode b_Mo_give 7 = .ok (.putfield 111, 3) := by decide +kernel
theorem d_Mo_give_10 : decode b_Mo_give 10 = .ok (.return_, 1) := by decide +kernel
theorem d_Mo_go_0 : decode b_Mo_go 0 = .ok (.iload_n 1, 1) := by decide +kernel
theorem d_Mo_go_1 : decode b_Mo_go 1 = .ok (.iconst 3, 1) := by decide +kernel
theorem d_Mo_go_2 : decode b_Mo_go 2 = .ok (.iand, 1) := by decide +kernel
theorem d_Mo_go_3 : decode b_Mo_go 3 = .ok (.ifCond .eq 9, 3) := by decide +kernel
theorem d_Mo_go_12 : decode b_Mo_go 12 = .ok (.aload_n 0, 1) := by decide +kernel
theorem d_Mo_go_13 : decode b_Mo_go 13 = .ok (.iload_n 1, 1) := by decide +kernel
theorem d_Mo_go_14 : decode b_Mo_go 14 = .ok (.putfield 114, 3) := by decide +kernel
theorem d_Mo_go_17 : decode b_Mo_go 17 = .ok (.return_, 1) := by decide +kernel
theorem d_Mo_go_6 : decode b_Mo_go 6 = .ok (.aload_n 0, 1) := by decide +kernel
theorem d_Mo_go_7 : decode b_Mo_go 7 = .ok (.iconst 1, 1) := by decide +kernel
theorem d_Mo_go_8 : decode b_Mo_go 8 = .ok (.iload_n 1, 1) := by decide +kernel
theorem d_Mo_go_9 : decode b_Mo_go 9 = .ok (.invokevirtual 66, 3) := by decide +kernel
theorem d_Mo_illegal_0 : decode b_Mo_illegal 0 = .ok (.aload_n 0, 1) := by decide +kernel
theorem d_Mo_illegal_1 : decode b_Mo_illegal 1 = .ok (.iconst 2, 1) := by decide +kernel
theorem d_Mo_illegal_2 : decode b_Mo_illegal 2 = .ok (.aload_n 0, 1) := by decide +kernel
theorem d_Mo_illegal_3 : decode b_Mo_illegal 3 = .ok (.getfield 100, 3) := by decide +kernel
theorem d_Mo_illegal_6 : decode b_Mo_illegal 6 = .ok (.invokevirtual 66, 3) := by decide +kernel
theorem d_Mo_illegal_9 : decode b_Mo_illegal 9 = .ok (.return_, 1) := by decide +kernel
theorem d_Mo_isLess_0 : decode b_Mo_isLess 0 = .ok (.iload_n 2, 1) := by decide +kernel
theorem d_Mo_isLess_1 : decode b_Mo_isLess 1 = .ok (.ifCond .eq 16, 3) := by decide +kernel
theorem d_Mo_isLess_17 : decode b_Mo_isLess 17 = .ok (.iload_n 0, 1) := by decide +kernel
theorem d_Mo_isLess_18 : decode b_Mo_isLess 18 = .ok (.iload_n 1, 1) := by decide +kernel
theorem d_Mo_isLess_19 : decode b_Mo_isLess 19 = .ok (.if_icmp .ge 7, 3) := by decide +kernel
theorem d_Mo_isLess_26 : decode b_Mo_isLess 26 = .ok (.iconst 0, 1) := by decide +kernel
theorem d_Mo_isLess_27 : decode b_Mo_isLess 27 = .ok (.iload_n 0, 1) := by decide +kernel
theorem d_Mo_isLess_28 : decode b_Mo_isLess 28 = .ok (.ifCond .ge 7, 3) := by decide +kernel
theorem d_Mo_isLess_35 : decode b_Mo_isLess 35 = .ok (.iconst 0, 1) := by decide +kernel
theorem d_Mo_isLess_36 : decode b_Mo_isLess 36 = .ok (.iload_n 1, 1) := by decide +kernel
theorem d_Mo_isLess_37 : decode b_Mo_isLess 37 = .ok (.ifCond .ge 7, 3) := by decide +kernel
theorem d_Mo_isLess_44 : decode b_Mo_isLess 44 = .ok (.iconst 0, 1) := by decide +kernel
theorem d_Mo_isLess_45 : decode b_Mo_isLess 45 = .ok (.if_icmp .eq 7, 3) := by decide +kernel
theorem d_Mo_isLess_52 : decode b_Mo_isLess 52 = .ok (.iconst 0, 1) := by decide +kernel
theorem d_Mo_isLess_53 : decode b_Mo_isLess 53 = .ok (.if_icmp .eq 7, 3) := by decide +kernel
theorem d_Mo_isLess_60 : decode b_Mo_isLess 60 = .ok (.iconst 0, 1) := by decide +kernel
theorem d_Mo_isLess_61 : decode b_Mo_isLess 61 = .ok (.ireturn, 1) := by decide +kernel
theorem d_Mo_isLess_40 : decode b_Mo_isLess 40 = .ok (.iconst 1, 1) := by decide +kernel
theorem d_Mo_isLess_41 : decode b_Mo_isLess 41 = .ok (.goto 4, 3) := by decide +kernel
theorem d_Mo_isLess_48 : decode b_Mo_isLess 48 = .ok (.iconst 1, 1) := by decide +kernel
theorem d_Mo_isLess_49 : decode b_Mo_isLess 49 = .ok (.goto 4, 3) := by decide +kernel
theorem d_Mo_isLess_56 : decode b_Mo_isLess 56 = .ok (.iconst 1, 1) := by decide +kernel
theorem d_Mo_isLess_57 : decode b_Mo_isLess 57 = .ok (.goto 4, 3) := by decide +kernel
theorem d_Mo_isLess_31 : decode b_Mo_isLess 31 = .ok (.iconst 1, 1) := by decide +kernel
theorem d_Mo_isLess_32 : decode b_Mo_isLess 32 = .ok (.goto 4, 3) := by decide +kernel
theorem d_Mo_isLess_22 : decode b_Mo_isLess 22 = .ok (.iconst 1, 1) := by decide +kernel
theorem d_Mo_isLess_23 : decode b_Mo_isLess 23 = .ok (.goto 4, 3) := by decide +kernel
theorem d_Mo_isLess_4 : decode b_Mo_isLess 4 = .ok (.iload_n 0, 1) := by decide +kernel
theorem d_Mo_isLess_5 : decode b_Mo_isLess 5 = .ok (.iload_n 1, 1) := by decide +kernel
theorem d_Mo_isLess_6 : decode b_Mo_isLess 6 = .ok (.if_icmp .ge 7, 3) := by decide +kernel
theorem d_Mo_isLess_13 : decode b_Mo_isLess 13 = .ok (.iconst 0, 1) := by decide +kernel
theorem d_Mo_isLess_14 : decode b_Mo_isLess 14 = .ok (.goto 47, 3) := by decide +kernel
theorem d_Mo_isLess_9 : decode b_Mo_isLess 9 = .ok (.iconst 1, 1) := by decide +kernel
theorem d_Mo_isLess_10 : decode b_Mo_isLess 10 = .ok (.goto 51, 3) := by decide +kernel
theorem d_Mo_branch_0 : decode b_Mo_branch 0 = .ok (.iload_n 1, 1) := by decide +kernel
theorem d_Mo_branch_1 : decode b_Mo_branch 1 = .ok (.iconst 2, 1) := by decide +kernel
theorem d_Mo_branch_2 : decode b_Mo_branch 2 = .ok (.if_icmp .ge 16, 3) := by decide +kernel
theorem d_Mo_branch_18 : decode b_Mo_branch 18 = .ok (.iload_n 2, 1) := by decide +kernel
theorem d_Mo_branch_19 : decode b_Mo_branch 19 = .ok (.iload_n 3, 1) := by decide +kernel
theorem d_Mo_branch_20 : decode b_Mo_branch 20 = .ok (.iload_n 1, 1) := by decide +kernel
theorem d_Mo_branch_21 : decode b_Mo_branch 21 = .ok (.bipush 6, 2) := by decide +kernel
theorem d_Mo_branch_23 : decode b_Mo_branch 23 = .ok (.if_icmp .ge 7, 3) := by decide +kernel
theorem d_Mo_branch_30 : decode b_Mo_branch 30 = .ok (.iconst 0, 1) := by decide +kernel
theorem d_Mo_branch_31 : decode b_Mo_branch 31 = .ok (.invokestatic 117, 3) := by decide +kernel
theorem d_Mo_branch_34 : decode b_Mo_branch 34 = .ok (.istore 4, 2) := by decide +kernel
theorem d_Mo_branch_36 : decode b_Mo_branch 36 = .ok (.iload_n 1, 1) := by decide +kernel
theorem d_Mo_branch_37 : decode b_Mo_branch 37 = .ok (.iconst 2, 1) := by decide +kernel
theorem d_Mo_branch_38 : decode b_Mo_branch 38 = .ok (.if_icmp .eq 8, 3) := by decide +kernel
theorem d_Mo_branch_46 : decode b_Mo_branch 46 = .ok (.aload_n 0, 1) := by decide +kernel
theorem d_Mo_branch_47 : decode b_Mo_branch 47 = .ok (.invokevirtual 121, 3) := by decide +kernel
theorem d_Mo_branch_50 : decode b_Mo_branch 50 = .ok (.goto 33, 3) := by decide +kernel
theorem d_Mo_branch_83 : decode b_Mo_branch 83 = .ok (.return_, 1) := by decide +kernel
theorem d_Mo_branch_41 : decode b_Mo_branch 41 = .ok (.iload_n 1, 1) := by decide +kernel
theorem d_Mo_branch_42 : decode b_Mo_branch 42 = .ok (.iconst 3, 1) := by decide +kernel
theorem d_Mo_branch_43 : decode b_Mo_branch 43 = .ok (.if_icmp .ne 10, 3) := by decide +kernel
theorem d_Mo_branch_53 : decode b_Mo_branch 53 = .ok (.iload 4, 2) := by decide +kernel
theorem d_Mo_branch_55 : decode b_Mo_branch 55 = .ok (.iload_n 1, 1) := by decide +kernel
theorem d_Mo_branch_56 : decode b_Mo_branch 56 = .ok (.iconst 2, 1) := by decide +kernel
theorem d_Mo_branch_57 : decode b_Mo_branch 57 = .ok (.irem, 1) := by decide +kernel
theorem d_Mo_branch_58 : decode b_Mo_branch 58 = .ok (.iconst 1, 1) := by decide +kernel
theorem d_Mo_branch_59 : decode b_Mo_branch 59 = .ok (.if_icmp .ne 7, 3) := by decide +kernel
theorem d_Mo_branch_66 : decode b_Mo_branch 66 = .ok (.iconst 0, 1) := by decide +kernel
theorem d_Mo_branch_67 : decode b_Mo_branch 67 = .ok (.if_icmp .eq 16, 3) := by decide +kernel
theorem d_Mo_branch_70 : decode b_Mo_branch 70 = .ok (.aload_n 0, 1) := by decide +kernel
theorem d_Mo_branch_71 : decode b_Mo_branch 71 = .ok (.aload_n 0, 1) := by decide +kernel
theorem d_Mo_branch_72 : decode b_Mo_branch 72 = .ok (.getfield 124, 3) := by decide +kernel
theorem d_Mo_branch_75 : decode b_Mo_branch 75 = .ok (.aload_n 0, 1) := by decide +kernel
theorem d_Mo_branch_76 : decode b_Mo_branch 76 = .ok (.invokevirtual 127, 3) := by decide +kernel
theorem d_Mo_branch_79 : decode b_Mo_branch 79 = .ok (.iadd, 1) := by decide +kernel
theorem d_Mo_branch_80 : decode b_Mo_branch 80 = .ok (.invokevirtual 131, 3) := by decide +kernel
theorem d_Mo_branch_62 : decode b_Mo_branch 62 = .ok (.iconst 1, 1) := by decide +kernel
theorem d_Mo_branch_63 : decode b_Mo_branch 63 = .ok (.goto 4, 3) := by decide +kernel
theorem d_Mo_branch_26 : decode b_Mo_branch 26 = .ok (.iconst 1, 1) := by decide +kernel
theorem d_Mo_branch_27 : decode b_Mo_branch 27 = .ok (.goto 4, 3) := by decide +kernel
theorem d_Mo_branch_5 : decode b_Mo_branch 5 = .ok (.iload_n 2, 1) := by decide +kernel
theorem d_Mo_branch_6 : decode b_Mo_branch 6 = .ok (.iload_n 3, 1) := by decide +kernel
theorem d_Mo_branch_7 : decode b_Mo_branch 7 = .ok (.if_icmp .ne 7, 3) := by decide +kernel
theorem d_Mo_branch_14 : decode b_Mo_branch 14 = .ok (.iconst 0, 1) := by decide +kernel
theorem d_Mo_branch_15 : decode b_Mo_branch 15 = .ok (.goto 19, 3) := by decide +kernel
theorem d_Mo_branch_10 : decode b_Mo_branch 10 = .ok (.iconst 1, 1) := by decide +kernel
theorem d_Mo_branch_11 : decode b_Mo_branch 11 = .ok (.goto 23, 3) := by decide +kernel
theorem d_Mo_reaches_0 : decode b_Mo_reaches 0 = .ok (.iload_n 1, 1) := by decide +kernel
theorem d_Mo_reaches_1 : decode b_Mo_reaches 1 = .ok (.iload_n 2, 1) := by decide +kernel
theorem d_Mo_reaches_2 : decode b_Mo_reaches 2 = .ok (.irem, 1) := by decide +kernel
theorem d_Mo_reaches_3 : decode b_Mo_reaches 3 = .ok (.ifCond .ne 13, 3) := by decide +kernel
theorem d_Mo_reaches_16 : decode b_Mo_reaches 16 = .ok (.aload_n 0, 1) := by decide +kernel
theorem d_Mo_reaches_17 : decode b_Mo_reaches 17 = .ok (.iconst 1, 1) := by decide +kernel
theorem d_Mo_reaches_18 : decode b_Mo_reaches 18 = .ok (.iload_n 1, 1) := by decide +kernel
theorem d_Mo_reaches_19 : decode b_Mo_reaches 19 = .ok (.invokevirtual 66, 3) := by decide +kernel
theorem d_Mo_reaches_22 : decode b_Mo_reaches 22 = .ok (.iconst 0, 1) := by decide +kernel
theorem d_Mo_reaches_23 : decode b_Mo_reaches 23 = .ok (.ireturn, 1) := by decide +kernel
theorem d_Mo_reaches_6 : decode b_Mo_reaches 6 = .ok (.iload_n 1, 1) := by decide +kernel
theorem d_Mo_reaches_7 : decode b_Mo_reaches 7 = .ok (.sipush 255, 3) := by decide +kernel
theorem d_Mo_reaches_10 : decode b_Mo_reaches 10 = .ok (.invokestatic 135, 3) := by decide +kernel
theorem d_Mo_reaches_13 : decode b_Mo_reaches 13 = .ok (.ifCond .eq 11, 3) := by decide +kernel
theorem d_Mo_reaches_24 : decode b_Mo_reaches 24 = .ok (.iconst 1, 1) := by decide +kernel
theorem d_Mo_reaches_25 : decode b_Mo_reaches 25 = .ok (.ireturn, 1) := by decide +kernel
theorem d_Mo_load_0 : decode b_Mo_load 0 = .ok (.iload_n 1, 1) := by decide +kernel
theorem d_Mo_load_1 : decode b_Mo_load 1 = .ok (.iconst 4, 1) := by decide +kernel
theorem d_Mo_load_2 : decode b_Mo_load 2 = .ok (.irem, 1) := by decide +kernel
theorem d_Mo_load_3 : decode b_Mo_load 3 = .ok (.ifCond .ne 7, 3) := by decide +kernel
theorem d_Mo_load_10 : decode b_Mo_load 10 = .ok (.iload_n 1, 1) := by decide +kernel
theorem d_Mo_load_11 : decode b_Mo_load 11 = .ok (.iconst 4, 1) := by decide +kernel
theorem d_Mo_load_12 : decode b_Mo_load 12 = .ok (.irem, 1) := by decide +kernel
theorem d_Mo_load_13 : decode b_Mo_load 13 = .ok (.iconst 1, 1) := by decide +kernel
theorem d_Mo_load_14 : decode b_Mo_load 14 = .ok (.if_icmp .ne 7, 3) := by decide +kernel
theorem d_Mo_load_21 : decode b_Mo_load 21 = .ok (.iconst 4, 1) := by decide +kernel
theorem d_Mo_load_22 : decode b_Mo_load 22 = .ok (.istore_n 3, 1) := by decide +kernel
theorem d_Mo_load_23 : decode b_Mo_load 23 = .ok (.iload_n 1, 1) := by decide +kernel
theorem d_Mo_load_24 : decode b_Mo_load 24 = .ok (.iconst 3, 1) := by decide +kernel
theorem d_Mo_load_25 : decode b_Mo_load 25 = .ok (.if_icmp .eq 8, 3) := by decide +kernel
theorem d_Mo_load_33 : decode b_Mo_load 33 = .ok (.aload_n 0, 1) := by decide +kernel
theorem d_Mo_load_34 : decode b_Mo_load 34 = .ok (.invokevirtual 121, 3) := by decide +kernel
theorem d_Mo_load_37 : decode b_Mo_load 37 = .ok (.goto 70, 3) := by decide +kernel
theorem d_Mo_load_107 : decode b_Mo_load 107 = .ok (.return_, 1) := by decide +kernel
theorem d_Mo_load_28 : decode b_Mo_load 28 = .ok (.iload_n 1, 1) := by decide +kernel
theorem d_Mo_load_29 : decode b_Mo_load 29 = .ok (.iconst 5, 1) := by decide +kernel
theorem d_Mo_load_30 : decode b_Mo_load 30 = .ok (.if_icmp .le 10, 3) := by decide +kernel
theorem d_Mo_load_40 : decode b_Mo_load 40 = .ok (.aload_n 0, 1) := by decide +kernel
theorem d_Mo_load_41 : decode b_Mo_load 41 = .ok (.iload_n 2, 1) := by decide +kernel
theorem d_Mo_load_42 : decode b_Mo_load 42 = .ok (.iload_n 3, 1) := by decide +kernel
theorem d_Mo_load_43 : decode b_Mo_load 43 = .ok (.invokevirtual 138, 3) := by decide +kernel
theorem d_Mo_load_46 : decode b_Mo_load 46 = .ok (.ifCond .eq 61, 3) := by decide +kernel
theorem d_Mo_load_49 : decode b_Mo_load 49 = .ok (.aload_n 0, 1) := by decide +kernel
theorem d_Mo_load_50 : decode b_Mo_load 50 = .ok (.iconst 1, 1) := by decide +kernel
theorem d_Mo_load_51 : decode b_Mo_load 51 = .ok (.iload_n 2, 1) := by decide +kernel
theorem d_Mo_load_52 : decode b_Mo_load 52 = .ok (.iconst 4, 1) := by decide +kernel
theorem d_Mo_load_53 : decode b_Mo_load 53 = .ok (.idiv, 1) := by decide +kernel
theorem d_Mo_load_54 : decode b_Mo_load 54 = .ok (.invokevirtual 141, 3) := by decide +kernel
theorem d_Mo_load_57 : decode b_Mo_load 57 = .ok (.ifCond .eq 50, 3) := by decide +kernel
theorem d_Mo_load_60 : decode b_Mo_load 60 = .ok (.bipush 32, 2) := by decide +kernel
theorem d_Mo_load_62 : decode b_Mo_load 62 = .ok (.bipush 8, 2) := by decide +kernel
theorem d_Mo_load_64 : decode b_Mo_load 64 = .ok (.iload_n 3, 1) := by decide +kernel
theorem d_Mo_load_65 : decode b_Mo_load 65 = .ok (.imul, 1) := by decide +kernel
theorem d_Mo_load_66 : decode b_Mo_load 66 = .ok (.isub, 1) := by decide +kernel
theorem d_Mo_load_67 : decode b_Mo_load 67 = .ok (.istore 4, 2) := by decide +kernel
theorem d_Mo_load_69 : decode b_Mo_load 69 = .ok (.aload_n 0, 1) := by decide +kernel
theorem d_Mo_load_70 : decode b_Mo_load 70 = .ok (.getfield 77, 3) := by decide +kernel
theorem d_Mo_load_73 : decode b_Mo_load 73 = .ok (.bipush 8, 2) := by decide +kernel
theorem d_Mo_load_75 : decode b_Mo_load 75 = .ok (.iload_n 2, 1) := by decide +kernel
theorem d_Mo_load_76 : decode b_Mo_load 76 = .ok (.iconst 4, 1) := by decide +kernel
theorem d_Mo_load_77 : decode b_Mo_load 77 = .ok (.irem, 1) := by decide +kernel
theorem d_Mo_load_78 : decode b_Mo_load 78 = .ok (.imul, 1) := by decide +kernel
theorem d_Mo_load_79 : decode b_Mo_load 79 = .ok (.ishr, 1) := by decide +kernel
theorem d_Mo_load_80 : decode b_Mo_load 80 = .ok (.iload 4, 2) := by decide +kernel
theorem d_Mo_load_82 : decode b_Mo_load 82 = .ok (.ishl, 1) := by decide +kernel
theorem d_Mo_load_83 : decode b_Mo_load 83 = .ok (.istore 5, 2) := by decide +kernel
theorem d_Mo_load_85 : decode b_Mo_load 85 = .ok (.aload_n 0, 1) := by decide +kernel
theorem d_Mo_load_86 : decode b_Mo_load 86 = .ok (.iload_n 1, 1) := by decide +kernel
theorem d_Mo_load_87 : decode b_Mo_load 87 = .ok (.iconst 4, 1) := by decide +kernel
theorem d_Mo_load_88 : decode b_Mo_load 88 = .ok (.if_icmp .ge 11, 3) := by decide +kernel
theorem d_Mo_load_99 : decode b_Mo_load 99 = .ok (.iload 5, 2) := by decide +kernel
theorem d_Mo_load_101 : decode b_Mo_load 101 = .ok (.iload 4, 2) := by decide +kernel
theorem d_Mo_load_103 : decode b_Mo_load 103 = .ok (.iushr, 1) := by decide +kernel
theorem d_Mo_load_104 : decode b_Mo_load 104 = .ok (.invokevirtual 144, 3) := by decide +kernel
theorem d_Mo_load_91 : decode b_Mo_load 91 = .ok (.iload 5, 2) := by decide +kernel
theorem d_Mo_load_93 : decode b_Mo_load 93 = .ok (.iload 4, 2) := by decide +kernel
theorem d_Mo_load_95 : decode b_Mo_load 95 = .ok (.ishr, 1) := by decide +kernel
theorem d_Mo_load_96 : decode b_Mo_load 96 = .ok (.goto 8, 3) := by decide +kernel
theorem d_Mo_load_17 : decode b_Mo_load 17 = .ok (.iconst 2, 1) := by decide +kernel
theorem d_Mo_load_18 : decode b_Mo_load 18 = .ok (.goto 4, 3) := by decide +kernel
theorem d_Mo_load_6 : decode b_Mo_load 6 = .ok (.iconst 1, 1) := by decide +kernel
theorem d_Mo_load_7 : decode b_Mo_load 7 = .ok (.goto 15, 3) := by decide +kernel
theorem d_Mo_store_0 : decode b_Mo_store 0 = .ok (.iload_n 1, 1) := by decide +kernel
theorem d_Mo_store_1 : decode b_Mo_store 1 = .ok (.iconst 2, 1) := by decide +kernel
theorem d_Mo_store_2 : decode b_Mo_store 2 = .ok (.if_icmp .le 10, 3) := by decide +kernel
theorem d_Mo_store_12 : decode b_Mo_store 12 = .ok (.aload_n 0, 1) := by decide +kernel
theorem d_Mo_store_13 : decode b_Mo_store 13 = .ok (.iload_n 2, 1) := by decide +kernel
theorem d_Mo_store_14 : decode b_Mo_store 14 = .ok (.iconst 1, 1) := by decide +kernel
theorem d_Mo_store_15 : decode b_Mo_store 15 = .ok (.iload_n 1, 1) := by decide +kernel
theorem d_Mo_store_16 : decode b_Mo_store 16 = .ok (.ishl, 1) := by decide +kernel
theorem d_Mo_store_17 : decode b_Mo_store 17 = .ok (.invokevirtual 138, 3) := by decide +kernel
theorem d_Mo_store_20 : decode b_Mo_store 20 = .ok (.ifCond .eq 90, 3) := by decide +kernel
theorem d_Mo_store_110 : decode b_Mo_store 110 = .ok (.return_, 1) := by decide +kernel
theorem d_Mo_store_23 : decode b_Mo_store 23 = .ok (.iload_n 1, 1) := by decide +kernel
theorem d_Mo_store_24 : decode b_Mo_store 24 = .ok (.iconst 2, 1) := by decide +kernel
theorem d_Mo_store_25 : decode b_Mo_store 25 = .ok (.if_icmp .eq 14, 3) := by decide +kernel
theorem d_Mo_store_39 : decode b_Mo_store 39 = .ok (.bipush 8, 2) := by decide +kernel
theorem d_Mo_store_41 : decode b_Mo_store 41 = .ok (.iload_n 2, 1) := by decide +kernel
theorem d_Mo_store_42 : decode b_Mo_store 42 = .ok (.iconst 4, 1) := by decide +kernel
theorem d_Mo_store_43 : decode b_Mo_store 43 = .ok (.irem, 1) := by decide +kernel
theorem d_Mo_store_44 : decode b_Mo_store 44 = .ok (.imul, 1) := by decide +kernel
theorem d_Mo_store_45 : decode b_Mo_store 45 = .ok (.istore 4, 2) := by decide +kernel
theorem d_Mo_store_47 : decode b_Mo_store 47 = .ok (.iload_n 1, 1) := by decide +kernel
theorem d_Mo_store_48 : decode b_Mo_store 48 = .ok (.ifCond .ne 9, 3) := by decide +kernel
theorem d_Mo_store_57 : decode b_Mo_store 57 = .ok (.iload_n 1, 1) := by decide +kernel
theorem d_Mo_store_58 : decode b_Mo_store 58 = .ok (.iconst 1, 1) := by decide +kernel
theorem d_Mo_store_59 : decode b_Mo_store 59 = .ok (.if_icmp .ne 8, 3) := by decide +kernel
theorem d_Mo_store_67 : decode b_Mo_store 67 = .ok (.iconst (-1), 1) := by decide +kernel
theorem d_Mo_store_68 : decode b_Mo_store 68 = .ok (.istore 5, 2) := by decide +kernel
theorem d_Mo_store_70 : decode b_Mo_store 70 = .ok (.iload_n 1, 1) := by decide +kernel
theorem d_Mo_store_71 : decode b_Mo_store 71 = .ok (.iconst 2, 1) := by decide +kernel
theorem d_Mo_store_72 : decode b_Mo_store 72 = .ok (.if_icmp .ne 7, 3) := by decide +kernel
theorem d_Mo_store_75 : decode b_Mo_store 75 = .ok (.iconst 0, 1) := by decide +kernel
theorem d_Mo_store_76 : decode b_Mo_store 76 = .ok (.goto 7, 3) := by decide +kernel
theorem d_Mo_store_83 : decode b_Mo_store 83 = .ok (.istore 6, 2) := by decide +kernel
theorem d_Mo_store_85 : decode b_Mo_store 85 = .ok (.aload_n 0, 1) := by decide +kernel
theorem d_Mo_store_86 : decode b_Mo_store 86 = .ok (.iload_n 2, 1) := by decide +kernel
theorem d_Mo_store_87 : decode b_Mo_store 87 = .ok (.iconst 4, 1) := by decide +kernel
theorem d_Mo_store_88 : decode b_Mo_store 88 = .ok (.idiv, 1) := by decide +kernel
theorem d_Mo_store_89 : decode b_Mo_store 89 = .ok (.iload 6, 2) := by decide +kernel
theorem d_Mo_store_91 : decode b_Mo_store 91 = .ok (.iload 5, 2) := by decide +kernel
theorem d_Mo_store_93 : decode b_Mo_store 93 = .ok (.iload 4, 2) := by decide +kernel
theorem d_Mo_store_95 : decode b_Mo_store 95 = .ok (.ishl, 1) := by decide +kernel
theorem d_Mo_store_96 : decode b_Mo_store 96 = .ok (.iconst (-1), 1) := by decide +kernel
theorem d_Mo_store_97 : decode b_Mo_store 97 = .ok (.ixor, 1) := by decide +kernel
theorem d_Mo_store_98 : decode b_Mo_store 98 = .ok (.iand, 1) := by decide +kernel
theorem d_Mo_store_99 : decode b_Mo_store 99 = .ok (.iload_n 3, 1) := by decide +kernel
theorem d_Mo_store_100 : decode b_Mo_store 100 = .ok (.iload 5, 2) := by decide +kernel
theorem d_Mo_store_102 : decode b_Mo_store 102 = .ok (.iand, 1) := by decide +kernel
theorem d_Mo_store_103 : decode b_Mo_store 103 = .ok (.iload 4, 2) := by decide +kernel
theorem d_Mo_store_105 : decode b_Mo_store 105 = .ok (.ishl, 1) := by decide +kernel
theorem d_Mo_store_106 : decode b_Mo_store 106 = .ok (.ior, 1) := by decide +kernel
theorem d_Mo_store_107 : decode b_Mo_store 107 = .ok (.invokevirtual 148, 3) := by decide +kernel
theorem d_Mo_store_62 : decode b_Mo_store 62 = .ok (.ldc 147, 2) := by decide +kernel
theorem d_Mo_store_64 : decode b_Mo_store 64 = .ok (.goto 4, 3) := by decide +kernel
theorem d_Mo_store_51 : decode b_Mo_store 51 = .ok (.sipush 255, 3) := by decide +kernel
theorem d_Mo_store_54 : decode b_Mo_store 54 = .ok (.goto 14, 3) := by decide +kernel
theorem d_Mo_store_28 : decode b_Mo_store 28 = .ok (.aload_n 0, 1) := by decide +kernel
theorem d_Mo_store_29 : decode b_Mo_store 29 = .ok (.iconst 1, 1) := by decide +kernel
theorem d_Mo_store_30 : decode b_Mo_store 30 = .ok (.iload_n 2, 1) := by decide +kernel
theorem d_Mo_store_31 : decode b_Mo_store 31 = .ok (.iconst 4, 1) := by decide +kernel
theorem d_Mo_store_32 : decode b_Mo_store 32 = .ok (.idiv, 1) := by decide +kernel
theorem d_Mo_store_33 : decode b_Mo_store 33 = .ok (.invokevirtual 141, 3) := by decide +kernel
theorem d_Mo_store_36 : decode b_Mo_store 36 = .ok (.ifCond .eq 74, 3) := by decide +kernel
theorem d_Mo_store_79 : decode b_Mo_store 79 = .ok (.aload_n 0, 1) := by decide +kernel
theorem d_Mo_store_80 : decode b_Mo_store 80 = .ok (.getfield 77, 3) := by decide +kernel
theorem d_Mo_store_5 : decode b_Mo_store 5 = .ok (.aload_n 0, 1) := by decide +kernel
theorem d_Mo_store_6 : decode b_Mo_store 6 = .ok (.invokevirtual 121, 3) := by decide +kernel
theorem d_Mo_store_9 : decode b_Mo_store 9 = .ok (.goto 101, 3) := by decide +kernel
theorem d_Mo_reckoned_0 : decode b_Mo_reckoned 0 = .ok (.iload_n 1, 1) := by decide +kernel
theorem d_Mo_reckoned_1 : decode b_Mo_reckoned 1 = .ok (.tableswitch 99 0 6 #[43, 47, 54, 69, 84, 88, 95], 43) := by decide +kernel
theorem d_Mo_reckoned_44 : decode b_Mo_reckoned 44 = .ok (.iload_n 2, 1) := by decide +kernel
theorem d_Mo_reckoned_45 : decode b_Mo_reckoned 45 = .ok (.iload_n 3, 1) := by decide +kernel
theorem d_Mo_reckoned_46 : decode b_Mo_reckoned 46 = .ok (.iadd, 1) := by decide +kernel
theorem d_Mo_reckoned_47 : decode b_Mo_reckoned 47 = .ok (.ireturn, 1) := by decide +kernel
theorem d_Mo_reckoned_48 : decode b_Mo_reckoned 48 = .ok (.iload_n 2, 1) := by decide +kernel
theorem d_Mo_reckoned_49 : decode b_Mo_reckoned 49 = .ok (.iload_n 3, 1) := by decide +kernel
theorem d_Mo_reckoned_50 : decode b_Mo_reckoned 50 = .ok (.bipush 31, 2) := by decide +kernel
theorem d_Mo_reckoned_52 : decode b_Mo_reckoned 52 = .ok (.iand, 1) := by decide +kernel
theorem d_Mo_reckoned_53 : decode b_Mo_reckoned 53 = .ok (.ishl, 1) := by decide +kernel
theorem d_Mo_reckoned_54 : decode b_Mo_reckoned 54 = .ok (.ireturn, 1) := by decide +kernel
theorem d_Mo_reckoned_55 : decode b_Mo_reckoned 55 = .ok (.iload_n 2, 1) := by decide +kernel
theorem d_Mo_reckoned_56 : decode b_Mo_reckoned 56 = .ok (.iload_n 3, 1) := by decide +kernel
theorem d_Mo_reckoned_57 : decode b_Mo_reckoned 57 = .ok (.iconst 1, 1) := by decide +kernel
theorem d_Mo_reckoned_58 : decode b_Mo_reckoned 58 = .ok (.invokestatic 117, 3) := by decide +kernel
theorem d_Mo_reckoned_61 : decode b_Mo_reckoned 61 = .ok (.ifCond .eq 7, 3) := by decide +kernel
theorem d_Mo_reckoned_68 : decode b_Mo_reckoned 68 = .ok (.iconst 0, 1) := by decide +kernel
theorem d_Mo_reckoned_69 : decode b_Mo_reckoned 69 = .ok (.ireturn, 1) := by decide +kernel
theorem d_Mo_reckoned_64 : decode b_Mo_reckoned 64 = .ok (.iconst 1, 1) := by decide +kernel
theorem d_Mo_reckoned_65 : decode b_Mo_reckoned 65 = .ok (.goto 4, 3) := by decide +kernel
theorem d_Mo_reckoned_70 : decode b_Mo_reckoned 70 = .ok (.iload_n 2, 1) := by decide +kernel
theorem d_Mo_reckoned_71 : decode b_Mo_reckoned 71 = .ok (.iload_n 3, 1) := by decide +kernel
theorem d_Mo_reckoned_72 : decode b_Mo_reckoned 72 = .ok (.iconst 0, 1) := by decide +kernel
theorem d_Mo_reckoned_73 : decode b_Mo_reckoned 73 = .ok (.invokestatic 117, 3) := by decide +kernel
theorem d_Mo_reckoned_76 : decode b_Mo_reckoned 76 = .ok (.ifCond .eq 7, 3) := by decide +kernel
theorem d_Mo_reckoned_83 : decode b_Mo_reckoned 83 = .ok (.iconst 0, 1) := by decide +kernel
theorem d_Mo_reckoned_84 : decode b_Mo_reckoned 84 = .ok (.ireturn, 1) := by decide +kernel
theorem d_Mo_reckoned_79 : decode b_Mo_reckoned 79 = .ok (.iconst 1, 1) := by decide +kernel
theorem d_Mo_reckoned_80 : decode b_Mo_reckoned 80 = .ok (.goto 4, 3) := by decide +kernel
theorem d_Mo_reckoned_85 : decode b_Mo_reckoned 85 = .ok (.iload_n 2, 1) := by decide +kernel
theorem d_Mo_reckoned_86 : decode b_Mo_reckoned 86 = .ok (.iload_n 3, 1) := by decide +kernel
theorem d_Mo_reckoned_87 : decode b_Mo_reckoned 87 = .ok (.ixor, 1) := by decide +kernel
theorem d_Mo_reckoned_88 : decode b_Mo_reckoned 88 = .ok (.ireturn, 1) := by decide +kernel
theorem d_Mo_reckoned_89 : decode b_Mo_reckoned 89 = .ok (.iload_n 2, 1) := by decide +kernel
theorem d_Mo_reckoned_90 : decode b_Mo_reckoned 90 = .ok (.iload_n 3, 1) := by decide +kernel
theorem d_Mo_reckoned_91 : decode b_Mo_reckoned 91 = .ok (.bipush 31, 2) := by decide +kernel
theorem d_Mo_reckoned_93 : decode b_Mo_reckoned 93 = .ok (.iand, 1) := by decide +kernel
theorem d_Mo_reckoned_94 : decode b_Mo_reckoned 94 = .ok (.iushr, 1) := by decide +kernel
theorem d_Mo_reckoned_95 : decode b_Mo_reckoned 95 = .ok (.ireturn, 1) := by decide +kernel
theorem d_Mo_reckoned_96 : decode b_Mo_reckoned 96 = .ok (.iload_n 2, 1) := by decide +kernel
theorem d_Mo_reckoned_97 : decode b_Mo_reckoned 97 = .ok (.iload_n 3, 1) := by decide +kernel
theorem d_Mo_reckoned_98 : decode b_Mo_reckoned 98 = .ok (.ior, 1) := by decide +kernel
theorem d_Mo_reckoned_99 : decode b_Mo_reckoned 99 = .ok (.ireturn, 1) := by decide +kernel
theorem d_Mo_reckoned_100 : decode b_Mo_reckoned 100 = .ok (.iload_n 2, 1) := by decide +kernel
theorem d_Mo_reckoned_101 : decode b_Mo_reckoned 101 = .ok (.iload_n 3, 1) := by decide +kernel
theorem d_Mo_reckoned_102 : decode b_Mo_reckoned 102 = .ok (.iand, 1) := by decide +kernel
theorem d_Mo_reckoned_103 : decode b_Mo_reckoned 103 = .ok (.ireturn, 1) := by decide +kernel
theorem d_Mo_reckon_0 : decode b_Mo_reckon 0 = .ok (.iload_n 2, 1) := by decide +kernel
theorem d_Mo_reckon_1 : decode b_Mo_reckon 1 = .ok (.ifCond .eq 18, 3) := by decide +kernel
