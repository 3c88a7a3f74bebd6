theorem d_V_scrub_25 : decode b_V_scrub 25 = .ok (.putfield 134, 3) := by decide +kernel
theorem d_V_fetch_0 : decode b_V_fetch 0 = .ok (.aload_n 1, 1) := by decide +kernel
theorem d_V_fetch_1 : decode b_V_fetch 1 = .ok (.iload_n 2, 1) := by decide +kernel
theorem d_V_fetch_2 : decode b_V_fetch 2 = .ok (.invokevirtual 163, 3) := by decide +kernel
theorem d_V_fetch_5 : decode b_V_fetch 5 = .ok (.aload_n 1, 1) := by decide +kernel
theorem d_V_fetch_6 : decode b_V_fetch 6 = .ok (.iload_n 2, 1) := by decide +kernel
theorem d_V_fetch_7 : decode b_V_fetch 7 = .ok (.invokevirtual 167, 3) := by decide +kernel
theorem d_V_fetch_10 : decode b_V_fetch 10 = .ok (.ifCond .eq 9, 3) := by decide +kernel
theorem d_V_fetch_19 : decode b_V_fetch 19 = .ok (.aload_n 0, 1) := by decide +kernel
theorem d_V_fetch_20 : decode b_V_fetch 20 = .ok (.getfield 12, 3) := by decide +kernel
theorem d_V_fetch_23 : decode b_V_fetch 23 = .ok (.iload_n 2, 1) := by decide +kernel
theorem d_V_fetch_24 : decode b_V_fetch 24 = .ok (.invokevirtual 158, 3) := by decide +kernel
theorem d_V_fetch_27 : decode b_V_fetch 27 = .ok (.lstore_n 3, 1) := by decide +kernel
theorem d_V_fetch_28 : decode b_V_fetch 28 = .ok (.lload_n 3, 1) := by decide +kernel
theorem d_V_fetch_29 : decode b_V_fetch 29 = .ok (.ldc2_w 161, 3) := by decide +kernel
theorem d_V_fetch_32 : decode b_V_fetch 32 = .ok (.lcmp, 1) := by decide +kernel
theorem d_V_fetch_33 : decode b_V_fetch 33 = .ok (.ifCond .eq 10, 3) := by decide +kernel
theorem d_V_fetch_43 : decode b_V_fetch 43 = .ok (.lload_n 3, 1) := by decide +kernel
theorem d_V_fetch_44 : decode b_V_fetch 44 = .ok (.lreturn, 1) := by decide +kernel
theorem d_V_fetch_36 : decode b_V_fetch 36 = .ok (.aload_n 1, 1) := by decide +kernel
theorem d_V_fetch_37 : decode b_V_fetch 37 = .ok (.iload_n 2, 1) := by decide +kernel
theorem d_V_fetch_38 : decode b_V_fetch 38 = .ok (.lload_n 3, 1) := by decide +kernel
theorem d_V_fetch_39 : decode b_V_fetch 39 = .ok (.l2i, 1) := by decide +kernel
theorem d_V_fetch_40 : decode b_V_fetch 40 = .ok (.invokevirtual 173, 3) := by decide +kernel
theorem d_V_fetch_13 : decode b_V_fetch 13 = .ok (.aload_n 1, 1) := by decide +kernel
theorem d_V_fetch_14 : decode b_V_fetch 14 = .ok (.iload_n 2, 1) := by decide +kernel
theorem d_V_fetch_15 : decode b_V_fetch 15 = .ok (.invokevirtual 170, 3) := by decide +kernel
theorem d_V_fetch_18 : decode b_V_fetch 18 = .ok (.lreturn, 1) := by decide +kernel
theorem d_V_save_0 : decode b_V_save 0 = .ok (.aload_n 0, 1) := by decide +kernel
theorem d_V_save_1 : decode b_V_save 1 = .ok (.getfield 12, 3) := by decide +kernel
theorem d_V_save_4 : decode b_V_save 4 = .ok (.iload_n 1, 1) := by decide +kernel
theorem d_V_save_5 : decode b_V_save 5 = .ok (.iload_n 2, 1) := by decide +kernel
theorem d_V_save_6 : decode b_V_save 6 = .ok (.invokevirtual 57, 3) := by decide +kernel
theorem d_V_save_9 : decode b_V_save 9 = .ok (.aload_n 0, 1) := by decide +kernel
theorem d_V_save_10 : decode b_V_save 10 = .ok (.getfield 19, 3) := by decide +kernel
theorem d_V_save_13 : decode b_V_save 13 = .ok (.iload_n 1, 1) := by decide +kernel
theorem d_V_save_14 : decode b_V_save 14 = .ok (.invokevirtual 163, 3) := by decide +kernel
theorem d_V_save_17 : decode b_V_save 17 = .ok (.aload_n 0, 1) := by decide +kernel
theorem d_V_save_18 : decode b_V_save 18 = .ok (.getfield 23, 3) := by decide +kernel
theorem d_V_save_21 : decode b_V_save 21 = .ok (.iload_n 1, 1) := by decide +kernel
theorem d_V_save_22 : decode b_V_save 22 = .ok (.invokevirtual 163, 3) := by decide +kernel
theorem d_V_save_25 : decode b_V_save 25 = .ok (.aload_n 0, 1) := by decide +kernel
theorem d_V_save_26 : decode b_V_save 26 = .ok (.getfield 19, 3) := by decide +kernel
theorem d_V_save_29 : decode b_V_save 29 = .ok (.iload_n 1, 1) := by decide +kernel
theorem d_V_save_30 : decode b_V_save 30 = .ok (.invokevirtual 167, 3) := by decide +kernel
theorem d_V_save_33 : decode b_V_save 33 = .ok (.ifCond .eq 11, 3) := by decide +kernel
theorem d_V_save_44 : decode b_V_save 44 = .ok (.aload_n 0, 1) := by decide +kernel
theorem d_V_save_45 : decode b_V_save 45 = .ok (.getfield 23, 3) := by decide +kernel
theorem d_V_save_48 : decode b_V_save 48 = .ok (.iload_n 1, 1) := by decide +kernel
theorem d_V_save_49 : decode b_V_save 49 = .ok (.invokevirtual 167, 3) := by decide +kernel
theorem d_V_save_52 : decode b_V_save 52 = .ok (.ifCond .eq 12, 3) := by decide +kernel
theorem d_V_save_64 : decode b_V_save 64 = .ok (.return_, 1) := by decide +kernel
theorem d_V_save_55 : decode b_V_save 55 = .ok (.aload_n 0, 1) := by decide +kernel
theorem d_V_save_56 : decode b_V_save 56 = .ok (.getfield 23, 3) := by decide +kernel
theorem d_V_save_59 : decode b_V_save 59 = .ok (.iload_n 1, 1) := by decide +kernel
theorem d_V_save_60 : decode b_V_save 60 = .ok (.iload_n 2, 1) := by decide +kernel
theorem d_V_save_61 : decode b_V_save 61 = .ok (.invokevirtual 173, 3) := by decide +kernel
theorem d_V_save_36 : decode b_V_save 36 = .ok (.aload_n 0, 1) := by decide +kernel
theorem d_V_save_37 : decode b_V_save 37 = .ok (.getfield 19, 3) := by decide +kernel
theorem d_V_save_40 : decode b_V_save 40 = .ok (.iload_n 1, 1) := by decide +kernel
theorem d_V_save_41 : decode b_V_save 41 = .ok (.invokevirtual 176, 3) := by decide +kernel
theorem d_V_goOn_0 : decode b_V_goOn 0 = .ok (.aload_n 0, 1) := by decide +kernel
theorem d_V_goOn_1 : decode b_V_goOn 1 = .ok (.getfield 29, 3) := by decide +kernel
theorem d_V_goOn_4 : decode b_V_goOn 4 = .ok (.iconst 0, 1) := by decide +kernel
theorem d_V_goOn_5 : decode b_V_goOn 5 = .ok (.iload_n 1, 1) := by decide +kernel
theorem d_V_goOn_6 : decode b_V_goOn 6 = .ok (.iconst 4, 1) := by decide +kernel
theorem d_V_goOn_7 : decode b_V_goOn 7 = .ok (.iadd, 1) := by decide +kernel
theorem d_V_goOn_8 : decode b_V_goOn 8 = .ok (.invokevirtual 67, 3) := by decide +kernel
theorem d_V_goOn_11 : decode b_V_goOn 11 = .ok (.return_, 1) := by decide +kernel
theorem d_V_finish_0 : decode b_V_finish 0 = .ok (.aload_n 0, 1) := by decide +kernel
theorem d_V_finish_1 : decode b_V_finish 1 = .ok (.getfield 29, 3) := by decide +kernel
theorem d_V_finish_4 : decode b_V_finish 4 = .ok (.iload_n 2, 1) := by decide +kernel
theorem d_V_finish_5 : decode b_V_finish 5 = .ok (.iload_n 3, 1) := by decide +kernel
theorem d_V_finish_6 : decode b_V_finish 6 = .ok (.invokevirtual 230, 3) := by decide +kernel
theorem d_V_finish_9 : decode b_V_finish 9 = .ok (.aload_n 0, 1) := by decide +kernel
theorem d_V_finish_10 : decode b_V_finish 10 = .ok (.iload_n 1, 1) := by decide +kernel
theorem d_V_finish_11 : decode b_V_finish 11 = .ok (.invokevirtual 233, 3) := by decide +kernel
theorem d_V_finish_14 : decode b_V_finish 14 = .ok (.return_, 1) := by decide +kernel
theorem d_V_jump_0 : decode b_V_jump 0 = .ok (.iload_n 3, 1) := by decide +kernel
theorem d_V_jump_1 : decode b_V_jump 1 = .ok (.iconst 3, 1) := by decide +kernel
theorem d_V_jump_2 : decode b_V_jump 2 = .ok (.iand, 1) := by decide +kernel
theorem d_V_jump_3 : decode b_V_jump 3 = .ok (.ifCond .eq 10, 3) := by decide +kernel
theorem d_V_jump_13 : decode b_V_jump 13 = .ok (.aload_n 0, 1) := by decide +kernel
theorem d_V_jump_14 : decode b_V_jump 14 = .ok (.getfield 29, 3) := by decide +kernel
theorem d_V_jump_17 : decode b_V_jump 17 = .ok (.iload_n 2, 1) := by decide +kernel
theorem d_V_jump_18 : decode b_V_jump 18 = .ok (.iload_n 1, 1) := by decide +kernel
theorem d_V_jump_19 : decode b_V_jump 19 = .ok (.iconst 4, 1) := by decide +kernel
theorem d_V_jump_20 : decode b_V_jump 20 = .ok (.iadd, 1) := by decide +kernel
theorem d_V_jump_21 : decode b_V_jump 21 = .ok (.invokevirtual 230, 3) := by decide +kernel
theorem d_V_jump_24 : decode b_V_jump 24 = .ok (.aload_n 0, 1) := by decide +kernel
theorem d_V_jump_25 : decode b_V_jump 25 = .ok (.getfield 29, 3) := by decide +kernel
theorem d_V_jump_28 : decode b_V_jump 28 = .ok (.iconst 0, 1) := by decide +kernel
theorem d_V_jump_29 : decode b_V_jump 29 = .ok (.iload_n 3, 1) := by decide +kernel
theorem d_V_jump_30 : decode b_V_jump 30 = .ok (.invokevirtual 67, 3) := by decide +kernel
theorem d_V_jump_33 : decode b_V_jump 33 = .ok (.return_, 1) := by decide +kernel
theorem d_V_jump_6 : decode b_V_jump 6 = .ok (.aload_n 0, 1) := by decide +kernel
theorem d_V_jump_7 : decode b_V_jump 7 = .ok (.iconst 1, 1) := by decide +kernel
theorem d_V_jump_8 : decode b_V_jump 8 = .ok (.iload_n 3, 1) := by decide +kernel
theorem d_V_jump_9 : decode b_V_jump 9 = .ok (.invokevirtual 128, 3) := by decide +kernel
theorem d_V_jump_12 : decode b_V_jump 12 = .ok (.return_, 1) := by decide +kernel
theorem d_V_jumpByRegister_0 : decode b_V_jumpByRegister 0 = .ok (.iload_n 2, 1) := by decide +kernel
theorem d_V_jumpByRegister_1 : decode b_V_jumpByRegister 1 = .ok (.invokestatic 236, 3) := by decide +kernel
theorem d_V_jumpByRegister_4 : decode b_V_jumpByRegister 4 = .ok (.ifCond .eq 10, 3) := by decide +kernel
theorem d_V_jumpByRegister_14 : decode b_V_jumpByRegister 14 = .ok (.aload_n 0, 1) := by decide +kernel
theorem d_V_jumpByRegister_15 : decode b_V_jumpByRegister 15 = .ok (.getfield 29, 3) := by decide +kernel
theorem d_V_jumpByRegister_18 : decode b_V_jumpByRegister 18 = .ok (.iload_n 2, 1) := by decide +kernel
theorem d_V_jumpByRegister_19 : decode b_V_jumpByRegister 19 = .ok (.invokestatic 239, 3) := by decide +kernel
theorem d_V_jumpByRegister_22 : decode b_V_jumpByRegister 22 = .ok (.invokevirtual 242, 3) := by decide +kernel
theorem d_V_jumpByRegister_25 : decode b_V_jumpByRegister 25 = .ok (.istore_n 3, 1) := by decide +kernel
theorem d_V_jumpByRegister_26 : decode b_V_jumpByRegister 26 = .ok (.aload_n 0, 1) := by decide +kernel
theorem d_V_jumpByRegister_27 : decode b_V_jumpByRegister 27 = .ok (.iload_n 1, 1) := by decide +kernel
theorem d_V_jumpByRegister_28 : decode b_V_jumpByRegister 28 = .ok (.iload_n 2, 1) := by decide +kernel
theorem d_V_jumpByRegister_29 : decode b_V_jumpByRegister 29 = .ok (.invokestatic 191, 3) := by decide +kernel
theorem d_V_jumpByRegister_32 : decode b_V_jumpByRegister 32 = .ok (.iload_n 3, 1) := by decide +kernel
theorem d_V_jumpByRegister_33 : decode b_V_jumpByRegister 33 = .ok (.iload_n 2, 1) := by decide +kernel
theorem d_V_jumpByRegister_34 : decode b_V_jumpByRegister 34 = .ok (.invokestatic 245, 3) := by decide +kernel
theorem d_V_jumpByRegister_37 : decode b_V_jumpByRegister 37 = .ok (.iadd, 1) := by decide +kernel
theorem d_V_jumpByRegister_38 : decode b_V_jumpByRegister 38 = .ok (.bipush (-2), 2) := by decide +kernel
theorem d_V_jumpByRegister_40 : decode b_V_jumpByRegister 40 = .ok (.iand, 1) := by decide +kernel
theorem d_V_jumpByRegister_41 : decode b_V_jumpByRegister 41 = .ok (.invokevirtual 203, 3) := by decide +kernel
theorem d_V_jumpByRegister_44 : decode b_V_jumpByRegister 44 = .ok (.return_, 1) := by decide +kernel
theorem d_V_jumpByRegister_7 : decode b_V_jumpByRegister 7 = .ok (.aload_n 0, 1) := by decide +kernel
theorem d_V_jumpByRegister_8 : decode b_V_jumpByRegister 8 = .ok (.iconst 2, 1) := by decide +kernel
theorem d_V_jumpByRegister_9 : decode b_V_jumpByRegister 9 = .ok (.iload_n 2, 1) := by decide +kernel
theorem d_V_jumpByRegister_10 : decode b_V_jumpByRegister 10 = .ok (.invokevirtual 128, 3) := by decide +kernel
theorem d_V_jumpByRegister_13 : decode b_V_jumpByRegister 13 = .ok (.return_, 1) := by decide +kernel
theorem d_V_branch_0 : decode b_V_branch 0 = .ok (.iload_n 2, 1) := by decide +kernel
theorem d_V_branch_1 : decode b_V_branch 1 = .ok (.invokestatic 236, 3) := by decide +kernel
theorem d_V_branch_4 : decode b_V_branch 4 = .ok (.istore_n 3, 1) := by decide +kernel
theorem d_V_branch_5 : decode b_V_branch 5 = .ok (.iload_n 3, 1) := by decide +kernel
theorem d_V_branch_6 : decode b_V_branch 6 = .ok (.iconst 2, 1) := by decide +kernel
theorem d_V_branch_7 : decode b_V_branch 7 = .ok (.if_icmp .eq 8, 3) := by decide +kernel
theorem d_V_branch_15 : decode b_V_branch 15 = .ok (.aload_n 0, 1) := by decide +kernel
theorem d_V_branch_16 : decode b_V_branch 16 = .ok (.iconst 2, 1) := by decide +kernel
theorem d_V_branch_17 : decode b_V_branch 17 = .ok (.iload_n 2, 1) := by decide +kernel
theorem d_V_branch_18 : decode b_V_branch 18 = .ok (.invokevirtual 128, 3) := by decide +kernel
theorem d_V_branch_21 : decode b_V_branch 21 = .ok (.return_, 1) := by decide +kernel
theorem d_V_branch_10 : decode b_V_branch 10 = .ok (.iload_n 3, 1) := by decide +kernel
theorem d_V_branch_11 : decode b_V_branch 11 = .ok (.iconst 3, 1) := by decide +kernel
theorem d_V_branch_12 : decode b_V_branch 12 = .ok (.if_icmp .ne 10, 3) := by decide +kernel
theorem d_V_branch_22 : decode b_V_branch 22 = .ok (.aload_n 0, 1) := by decide +kernel
theorem d_V_branch_23 : decode b_V_branch 23 = .ok (.getfield 29, 3) := by decide +kernel
theorem d_V_branch_26 : decode b_V_branch 26 = .ok (.iload_n 2, 1) := by decide +kernel
theorem d_V_branch_27 : decode b_V_branch 27 = .ok (.invokestatic 239, 3) := by decide +kernel
theorem d_V_branch_30 : decode b_V_branch 30 = .ok (.invokevirtual 242, 3) := by decide +kernel
theorem d_V_branch_33 : decode b_V_branch 33 = .ok (.istore 4, 2) := by decide +kernel
theorem d_V_branch_35 : decode b_V_branch 35 = .ok (.aload_n 0, 1) := by decide +kernel
theorem d_V_branch_36 : decode b_V_branch 36 = .ok (.getfield 29, 3) := by decide +kernel
theorem d_V_branch_39 : decode b_V_branch 39 = .ok (.iload_n 2, 1) := by decide +kernel
theorem d_V_branch_40 : decode b_V_branch 40 = .ok (.invokestatic 248, 3) := by decide +kernel
theorem d_V_branch_43 : decode b_V_branch 43 = .ok (.invokevirtual 242, 3) := by decide +kernel
theorem d_V_branch_46 : decode b_V_branch 46 = .ok (.istore 5, 2) := by decide +kernel
theorem d_V_branch_48 : decode b_V_branch 48 = .ok (.iload_n 3, 1) := by decide +kernel
theorem d_V_branch_49 : decode b_V_branch 49 = .ok (.iload 4, 2) := by decide +kernel
theorem d_V_branch_51 : decode b_V_branch 51 = .ok (.iload 5, 2) := by decide +kernel
theorem d_V_branch_53 : decode b_V_branch 53 = .ok (.invokestatic 251, 3) := by decide +kernel
theorem d_V_branch_56 : decode b_V_branch 56 = .ok (.ifCond .eq 18, 3) := by decide +kernel
theorem d_V_branch_74 : decode b_V_branch 74 = .ok (.aload_n 0, 1) := by decide +kernel
theorem d_V_branch_75 : decode b_V_branch 75 = .ok (.iload_n 1, 1) := by decide +kernel
theorem d_V_branch_76 : decode b_V_branch 76 = .ok (.invokevirtual 233, 3) := by decide +kernel
theorem d_V_branch_79 : decode b_V_branch 79 = .ok (.return_, 1) := by decide +kernel
theorem d_V_branch_59 : decode b_V_branch 59 = .ok (.aload_n 0, 1) := by decide +kernel
theorem d_V_branch_60 : decode b_V_branch 60 = .ok (.iload_n 1, 1) := by decide +kernel
theorem d_V_branch_61 : decode b_V_branch 61 = .ok (.iconst 0, 1) := by decide +kernel
theorem d_V_branch_62 : decode b_V_branch 62 = .ok (.iload_n 1, 1) := by decide +kernel
theorem d_V_branch_63 : decode b_V_branch 63 = .ok (.iload_n 2, 1) := by decide +kernel
theorem d_V_branch_64 : decode b_V_branch 64 = .ok (.invokestatic 255, 3) := by decide +kernel
theorem d_V_branch_67 : decode b_V_branch 67 = .ok (.iadd, 1) := by decide +kernel
theorem d_V_branch_68 : decode b_V_branch 68 = .ok (.invokevirtual 203, 3) := by decide +kernel
theorem d_V_branch_71 : decode b_V_branch 71 = .ok (.goto 8, 3) := by decide +kernel
theorem d_V_load_0 : decode b_V_load 0 = .ok (.iload_n 2, 1) := by decide +kernel
theorem d_V_load_1 : decode b_V_load 1 = .ok (.invokestatic 236, 3) := by decide +kernel
theorem d_V_load_4 : decode b_V_load 4 = .ok (.istore_n 3, 1) := by decide +kernel
theorem d_V_load_5 : decode b_V_load 5 = .ok (.iload_n 3, 1) := by decide +kernel
theorem d_V_load_6 : decode b_V_load 6 = .ok (.iconst 3, 1) := by decide +kernel
theorem d_V_load_7 : decode b_V_load 7 = .ok (.if_icmp .eq 8, 3) := by decide +kernel
theorem d_V_load_15 : decode b_V_load 15 = .ok (.aload_n 0, 1) := by decide +kernel
theorem d_V_load_16 : decode b_V_load 16 = .ok (.iconst 2, 1) := by decide +kernel
theorem d_V_load_17 : decode b_V_load 17 = .ok (.iload_n 2, 1) := by decide +kernel
theorem d_V_load_18 : decode b_V_load 18 = .ok (.invokevirtual 128, 3) := by decide +kernel
theorem d_V_load_21 : decode b_V_load 21 = .ok (.return_, 1) := by decide +kernel
theorem d_V_load_10 : decode b_V_load 10 = .ok (.iload_n 3, 1) := by decide +kernel
theorem d_V_load_11 : decode b_V_load 11 = .ok (.iconst 5, 1) := by decide +kernel
theorem d_V_load_12 : decode b_V_load 12 = .ok (.if_icmp .le 10, 3) := by decide +kernel
theorem d_V_load_22 : decode b_V_load 22 = .ok (.aload_n 0, 1) := by decide +kernel
theorem d_V_load_23 : decode b_V_load 23 = .ok (.getfield 29, 3) := by decide +kernel
theorem d_V_load_26 : decode b_V_load 26 = .ok (.iload_n 2, 1) := by decide +kernel
theorem d_V_load_27 : decode b_V_load 27 = .ok (.invokestatic 239, 3) := by decide +kernel
theorem d_V_load_30 : decode b_V_load 30 = .ok (.invokevirtual 242, 3) := by decide +kernel
theorem d_V_load_33 : decode b_V_load 33 = .ok (.iload_n 2, 1) := by decide +kernel
theorem d_V_load_34 : decode b_V_load 34 = .ok (.invokestatic 245, 3) := by decide +kernel
theorem d_V_load_37 : decode b_V_load 37 = .ok (.iadd, 1) := by decide +kernel
theorem d_V_load_38 : decode b_V_load 38 = .ok (.istore 4, 2) := by decide +kernel
theorem d_V_load_40 : decode b_V_load 40 = .ok (.iload 4, 2) := by decide +kernel
theorem d_V_load_42 : decode b_V_load 42 = .ok (.iload_n 3, 1) := by decide +kernel
theorem d_V_load_43 : decode b_V_load 43 = .ok (.invokestatic 258, 3) := by decide +kernel
theorem d_V_load_46 : decode b_V_load 46 = .ok (.invokestatic 179, 3) := by decide +kernel
theorem d_V_load_49 : decode b_V_load 49 = .ok (.ifCond .ne 11, 3) := by decide +kernel
theorem d_V_load_60 : decode b_V_load 60 = .ok (.aload_n 0, 1) := by decide +kernel
theorem d_V_load_61 : decode b_V_load 61 = .ok (.aload_n 0, 1) := by decide +kernel
theorem d_V_load_62 : decode b_V_load 62 = .ok (.getfield 23, 3) := by decide +kernel
theorem d_V_load_65 : decode b_V_load 65 = .ok (.iload 4, 2) := by decide +kernel
theorem d_V_load_67 : decode b_V_load 67 = .ok (.iconst 2, 1) := by decide +kernel
theorem d_V_load_68 : decode b_V_load 68 = .ok (.iushr, 1) := by decide +kernel
theorem d_V_load_69 : decode b_V_load 69 = .ok (.invokevirtual 182, 3) := by decide +kernel
theorem d_V_load_72 : decode b_V_load 72 = .ok (.lstore 5, 2) := by decide +kernel
theorem d_V_load_74 : decode b_V_load 74 = .ok (.lload 5, 2) := by decide +kernel
theorem d_V_load_76 : decode b_V_load 76 = .ok (.ldc2_w 161, 3) := by decide +kernel
theorem d_V_load_79 : decode b_V_load 79 = .ok (.lcmp, 1) := by decide +kernel
theorem d_V_load_80 : decode b_V_load 80 = .ok (.ifCond .ne 13, 3) := by decide +kernel
theorem d_V_load_93 : decode b_V_load 93 = .ok (.aload_n 0, 1) := by decide +kernel
theorem d_V_load_94 : decode b_V_load 94 = .ok (.iload_n 1, 1) := by decide +kernel
theorem d_V_load_95 : decode b_V_load 95 = .ok (.iload_n 2, 1) := by decide +kernel
theorem d_V_load_96 : decode b_V_load 96 = .ok (.invokestatic 191, 3) := by decide +kernel
theorem d_V_load_99 : decode b_V_load 99 = .ok (.iload_n 3, 1) := by decide +kernel
theorem d_V_load_100 : decode b_V_load 100 = .ok (.lload 5, 2) := by decide +kernel
theorem d_V_load_102 : decode b_V_load 102 = .ok (.l2i, 1) := by decide +kernel
theorem d_V_load_103 : decode b_V_load 103 = .ok (.iload 4, 2) := by decide +kernel
theorem d_V_load_105 : decode b_V_load 105 = .ok (.invokestatic 260, 3) := by decide +kernel
theorem d_V_load_108 : decode b_V_load 108 = .ok (.iushr, 1) := by decide +kernel
theorem d_V_load_109 : decode b_V_load 109 = .ok (.invokestatic 263, 3) := by decide +kernel
theorem d_V_load_112 : decode b_V_load 112 = .ok (.invokevirtual 197, 3) := by decide +kernel
theorem d_V_load_115 : decode b_V_load 115 = .ok (.return_, 1) := by decide +kernel
theorem d_V_load_83 : decode b_V_load 83 = .ok (.aload_n 0, 1) := by decide +kernel
theorem d_V_load_84 : decode b_V_load 84 = .ok (.iconst 5, 1) := by decide +kernel
theorem d_V_load_85 : decode b_V_load 85 = .ok (.iload 4, 2) := by decide +kernel
theorem d_V_load_87 : decode b_V_load 87 = .ok (.iconst 2, 1) := by decide +kernel
theorem d_V_load_88 : decode b_V_load 88 = .ok (.iushr, 1) := by decide +kernel
theorem d_V_load_89 : decode b_V_load 89 = .ok (.invokevirtual 128, 3) := by decide +kernel
theorem d_V_load_92 : decode b_V_load 92 = .ok (.return_, 1) := by decide +kernel
theorem d_V_load_52 : decode b_V_load 52 = .ok (.aload_n 0, 1) := by decide +kernel
theorem d_V_load_53 : decode b_V_load 53 = .ok (.iconst 1, 1) := by decide +kernel
theorem d_V_load_54 : decode b_V_load 54 = .ok (.iload 4, 2) := by decide +kernel
theorem d_V_load_56 : decode b_V_load 56 = .ok (.invokevirtual 128, 3) := by decide +kernel
theorem d_V_load_59 : decode b_V_load 59 = .ok (.return_, 1) := by decide +kernel
theorem d_V_store_0 : decode b_V_store 0 = .ok (.iload_n 2, 1) := by decide +kernel
theorem d_V_store_1 : decode b_V_store 1 = .ok (.invokestatic 236, 3) := by decide +kernel
theorem d_V_store_4 : decode b_V_store 4 = .ok (.istore_n 3, 1) := by decide +kernel
theorem d_V_store_5 : decode b_V_store 5 = .ok (.iload_n 3, 1) := by decide +kernel
theorem d_V_store_6 : decode b_V_store 6 = .ok (.iconst 2, 1) := by decide +kernel
theorem d_V_store_7 : decode b_V_store 7 = .ok (.if_icmp .le 10, 3) := by decide +kernel
theorem d_V_store_17 : decode b_V_store 17 = .ok (.aload_n 0, 1) := by decide +kernel
theorem d_V_store_18 : decode b_V_store 18 = .ok (.getfield 29, 3) := by decide +kernel
theorem d_V_store_21 : decode b_V_store 21 = .ok (.iload_n 2, 1) := by decide +kernel
theorem d_V_store_22 : decode b_V_store 22 = .ok (.invokestatic 239, 3) := by decide +kernel
theorem d_V_store_25 : decode b_V_store 25 = .ok (.invokevirtual 242, 3) := by decide +kernel
theorem d_V_store_28 : decode b_V_store 28 = .ok (.iload_n 2, 1) := by decide +kernel
theorem d_V_store_29 : decode b_V_store 29 = .ok (.invokestatic 266, 3) := by decide +kernel
theorem d_V_store_32 : decode b_V_store 32 = .ok (.iadd, 1) := by decide +kernel
theorem d_V_store_33 : decode b_V_store 33 = .ok (.istore 4, 2) := by decide +kernel
theorem d_V_store_35 : decode b_V_store 35 = .ok (.iload 4, 2) := by decide +kernel
theorem d_V_store_37 : decode b_V_store 37 = .ok (.iload_n 3, 1) := by decide +kernel
theorem d_V_store_38 : decode b_V_store 38 = .ok (.invokestatic 258, 3) := by decide +kernel
theorem d_V_store_41 : decode b_V_store 41 = .ok (.invokestatic 179, 3) := by decide +kernel
theorem d_V_store_44 : decode b_V_store 44 = .ok (.ifCond .ne 11, 3) := by decide +kernel
theorem d_V_store_55 : decode b_V_store 55 = .ok (.aload_n 0, 1) := by decide +kernel
theorem d_V_store_56 : decode b_V_store 56 = .ok (.getfield 29, 3) := by decide +kernel
theorem d_V_store_59 : decode b_V_store 59 = .ok (.iload_n 2, 1) := by decide +kernel
theorem d_V_store_60 : decode b_V_store 60 = .ok (.invokestatic 248, 3) := by decide +kernel
theorem d_V_store_63 : decode b_V_store 63 = .ok (.invokevirtual 242, 3) := by decide +kernel
theorem d_V_store_66 : decode b_V_store 66 = .ok (.istore 5, 2) := by decide +kernel
theorem d_V_store_68 : decode b_V_store 68 = .ok (.iload 4, 2) := by decide +kernel
theorem d_V_store_70 : decode b_V_store 70 = .ok (.iconst 2, 1) := by decide +kernel
theorem d_V_store_71 : decode b_V_store 71 = .ok (.iushr, 1) := by decide +kernel
theorem d_V_store_72 : decode b_V_store 72 = .ok (.istore 6, 2) := by decide +kernel
theorem d_V_store_74 : decode b_V_store 74 = .ok (.iload_n 3, 1) := by decide +kernel
theorem d_V_store_75 : decode b_V_store 75 = .ok (.iconst 2, 1) := by decide +kernel
theorem d_V_store_76 : decode b_V_store 76 = .ok (.if_icmp .ne 17, 3) := by decide +kernel
theorem d_V_store_93 : decode b_V_store 93 = .ok (.aload_n 0, 1) := by decide +kernel
theorem d_V_store_94 : decode b_V_store 94 = .ok (.aload_n 0, 1) := by decide +kernel
theorem d_V_store_95 : decode b_V_store 95 = .ok (.getfield 23, 3) := by decide +kernel
theorem d_V_store_98 : decode b_V_store 98 = .ok (.iload 6, 2) := by decide +kernel
theorem d_V_store_100 : decode b_V_store 100 = .ok (.invokevirtual 182, 3) := by decide +kernel
theorem d_V_store_103 : decode b_V_store 103 = .ok (.lstore 7, 2) := by decide +kernel
theorem d_V_store_105 : decode b_V_store 105 = .ok (.lload 7, 2) := by decide +kernel
theorem d_V_store_107 : decode b_V_store 107 = .ok (.ldc2_w 161, 3) := by decide +kernel
theorem d_V_store_110 : decode b_V_store 110 = .ok (.lcmp, 1) := by decide +kernel
theorem d_V_store_111 : decode b_V_store 111 = .ok (.ifCond .ne 11, 3) := by decide +kernel
theorem d_V_store_122 : decode b_V_store 122 = .ok (.iload_n 3, 1) := by decide +kernel
theorem d_V_store_123 : decode b_V_store 123 = .ok (.ifCond .ne 9, 3) := by decide +kernel
theorem d_V_store_132 : decode b_V_store 132 = .ok (.ldc_w 272, 3) := by decide +kernel
theorem d_V_store_135 : decode b_V_store 135 = .ok (.iload 4, 2) := by decide +kernel
theorem d_V_store_137 : decode b_V_store 137 = .ok (.invokestatic 260, 3) := by decide +kernel
theorem d_V_store_140 : decode b_V_store 140 = .ok (.ishl, 1) := by decide +kernel
theorem d_V_store_141 : decode b_V_store 141 = .ok (.istore 9, 2) := by decide +kernel
theorem d_V_store_143 : decode b_V_store 143 = .ok (.aload_n 0, 1) := by decide +kernel
theorem d_V_store_144 : decode b_V_store 144 = .ok (.iload 6, 2) := by decide +kernel
theorem d_V_store_146 : decode b_V_store 146 = .ok (.lload 7, 2) := by decide +kernel
theorem d_V_store_148 : decode b_V_store 148 = .ok (.l2i, 1) := by decide +kernel
theorem d_V_store_149 : decode b_V_store 149 = .ok (.iload 9, 2) := by decide +kernel
theorem d_V_store_151 : decode b_V_store 151 = .ok (.iconst (-1), 1) := by decide +kernel
theorem d_V_store_152 : decode b_V_store 152 = .ok (.ixor, 1) := by decide +kernel
theorem d_V_store_153 : decode b_V_store 153 = .ok (.iand, 1) := by decide +kernel
theorem d_V_store_154 : decode b_V_store 154 = .ok (.iload 5, 2) := by decide +kernel
theorem d_V_store_156 : decode b_V_store 156 = .ok (.iload 4, 2) := by decide +kernel
theorem d_V_store_158 : decode b_V_store 158 = .ok (.invokestatic 260, 3) := by decide +kernel
theorem d_V_store_161 : decode b_V_store 161 = .ok (.ishl, 1) := by decide +kernel
theorem d_V_store_162 : decode b_V_store 162 = .ok (.iload 9, 2) := by decide +kernel
theorem d_V_store_164 : decode b_V_store 164 = .ok (.iand, 1) := by decide +kernel
theorem d_V_store_165 : decode b_V_store 165 = .ok (.ior, 1) := by decide +kernel
