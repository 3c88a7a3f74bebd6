theorem d_Ca_held_11 : decode b_Ca_held 11 = .ok (.land, 1) := by decide +kernel
theorem d_Ca_held_12 : decode b_Ca_held 12 = .ok (.lreturn, 1) := by decide +kernel
theorem d_Ca_fill_0 : decode b_Ca_fill 0 = .ok (.iload_n 2, 1) := by decide +kernel
theorem d_Ca_fill_1 : decode b_Ca_fill 1 = .ok (.i2l, 1) := by decide +kernel
theorem d_Ca_fill_2 : decode b_Ca_fill 2 = .ok (.ldc2_w 33, 3) := by decide +kernel
theorem d_Ca_fill_5 : decode b_Ca_fill 5 = .ok (.land, 1) := by decide +kernel
theorem d_Ca_fill_6 : decode b_Ca_fill 6 = .ok (.bipush 16, 2) := by decide +kernel
theorem d_Ca_fill_8 : decode b_Ca_fill 8 = .ok (.iload_n 1, 1) := by decide +kernel
theorem d_Ca_fill_9 : decode b_Ca_fill 9 = .ok (.iconst 2, 1) := by decide +kernel
theorem d_Ca_fill_10 : decode b_Ca_fill 10 = .ok (.iushr, 1) := by decide +kernel
theorem d_Ca_fill_11 : decode b_Ca_fill 11 = .ok (.ior, 1) := by decide +kernel
theorem d_Ca_fill_12 : decode b_Ca_fill 12 = .ok (.i2l, 1) := by decide +kernel
theorem d_Ca_fill_13 : decode b_Ca_fill 13 = .ok (.bipush 32, 2) := by decide +kernel
theorem d_Ca_fill_15 : decode b_Ca_fill 15 = .ok (.lshl, 1) := by decide +kernel
theorem d_Ca_fill_16 : decode b_Ca_fill 16 = .ok (.lor, 1) := by decide +kernel
theorem d_Ca_fill_17 : decode b_Ca_fill 17 = .ok (.lstore_n 3, 1) := by decide +kernel
theorem d_Ca_fill_18 : decode b_Ca_fill 18 = .ok (.aload_n 0, 1) := by decide +kernel
theorem d_Ca_fill_19 : decode b_Ca_fill 19 = .ok (.getfield 9, 3) := by decide +kernel
theorem d_Ca_fill_22 : decode b_Ca_fill 22 = .ok (.iload_n 1, 1) := by decide +kernel
theorem d_Ca_fill_23 : decode b_Ca_fill 23 = .ok (.iconst 3, 1) := by decide +kernel
theorem d_Ca_fill_24 : decode b_Ca_fill 24 = .ok (.iand, 1) := by decide +kernel
theorem d_Ca_fill_25 : decode b_Ca_fill 25 = .ok (.lload_n 3, 1) := by decide +kernel
theorem d_Ca_fill_26 : decode b_Ca_fill 26 = .ok (.lload_n 3, 1) := by decide +kernel
theorem d_Ca_fill_27 : decode b_Ca_fill 27 = .ok (.invokestatic 21, 3) := by decide +kernel
theorem d_Ca_fill_30 : decode b_Ca_fill 30 = .ok (.i2l, 1) := by decide +kernel
theorem d_Ca_fill_31 : decode b_Ca_fill 31 = .ok (.lconst 1, 1) := by decide +kernel
theorem d_Ca_fill_32 : decode b_Ca_fill 32 = .ok (.land, 1) := by decide +kernel
theorem d_Ca_fill_33 : decode b_Ca_fill 33 = .ok (.bipush 37, 2) := by decide +kernel
theorem d_Ca_fill_35 : decode b_Ca_fill 35 = .ok (.lshl, 1) := by decide +kernel
theorem d_Ca_fill_36 : decode b_Ca_fill 36 = .ok (.lor, 1) := by decide +kernel
theorem d_Ca_fill_37 : decode b_Ca_fill 37 = .ok (.lastore, 1) := by decide +kernel
theorem d_Ca_fill_38 : decode b_Ca_fill 38 = .ok (.return_, 1) := by decide +kernel
theorem d_Re_agreed_0 : decode b_Re_agreed 0 = .ok (.aload_n 0, 1) := by decide +kernel
theorem d_Re_agreed_1 : decode b_Re_agreed 1 = .ok (.getfield 9, 3) := by decide +kernel
theorem d_Re_agreed_4 : decode b_Re_agreed 4 = .ok (.iconst 3, 1) := by decide +kernel
theorem d_Re_agreed_5 : decode b_Re_agreed 5 = .ok (.iload_n 1, 1) := by decide +kernel
theorem d_Re_agreed_6 : decode b_Re_agreed 6 = .ok (.imul, 1) := by decide +kernel
theorem d_Re_agreed_7 : decode b_Re_agreed 7 = .ok (.iaload, 1) := by decide +kernel
theorem d_Re_agreed_8 : decode b_Re_agreed 8 = .ok (.istore_n 2, 1) := by decide +kernel
theorem d_Re_agreed_9 : decode b_Re_agreed 9 = .ok (.aload_n 0, 1) := by decide +kernel
theorem d_Re_agreed_10 : decode b_Re_agreed 10 = .ok (.getfield 9, 3) := by decide +kernel
theorem d_Re_agreed_13 : decode b_Re_agreed 13 = .ok (.iconst 3, 1) := by decide +kernel
theorem d_Re_agreed_14 : decode b_Re_agreed 14 = .ok (.iload_n 1, 1) := by decide +kernel
theorem d_Re_agreed_15 : decode b_Re_agreed 15 = .ok (.imul, 1) := by decide +kernel
theorem d_Re_agreed_16 : decode b_Re_agreed 16 = .ok (.iconst 1, 1) := by decide +kernel
theorem d_Re_agreed_17 : decode b_Re_agreed 17 = .ok (.iadd, 1) := by decide +kernel
theorem d_Re_agreed_18 : decode b_Re_agreed 18 = .ok (.iaload, 1) := by decide +kernel
theorem d_Re_agreed_19 : decode b_Re_agreed 19 = .ok (.istore_n 3, 1) := by decide +kernel
theorem d_Re_agreed_20 : decode b_Re_agreed 20 = .ok (.aload_n 0, 1) := by decide +kernel
theorem d_Re_agreed_21 : decode b_Re_agreed 21 = .ok (.getfield 9, 3) := by decide +kernel
theorem d_Re_agreed_24 : decode b_Re_agreed 24 = .ok (.iconst 3, 1) := by decide +kernel
theorem d_Re_agreed_25 : decode b_Re_agreed 25 = .ok (.iload_n 1, 1) := by decide +kernel
theorem d_Re_agreed_26 : decode b_Re_agreed 26 = .ok (.imul, 1) := by decide +kernel
theorem d_Re_agreed_27 : decode b_Re_agreed 27 = .ok (.iconst 2, 1) := by decide +kernel
theorem d_Re_agreed_28 : decode b_Re_agreed 28 = .ok (.iadd, 1) := by decide +kernel
theorem d_Re_agreed_29 : decode b_Re_agreed 29 = .ok (.iaload, 1) := by decide +kernel
theorem d_Re_agreed_30 : decode b_Re_agreed 30 = .ok (.istore 4, 2) := by decide +kernel
theorem d_Re_agreed_32 : decode b_Re_agreed 32 = .ok (.iload_n 2, 1) := by decide +kernel
theorem d_Re_agreed_33 : decode b_Re_agreed 33 = .ok (.iload_n 3, 1) := by decide +kernel
theorem d_Re_agreed_34 : decode b_Re_agreed 34 = .ok (.iand, 1) := by decide +kernel
theorem d_Re_agreed_35 : decode b_Re_agreed 35 = .ok (.iload_n 2, 1) := by decide +kernel
theorem d_Re_agreed_36 : decode b_Re_agreed 36 = .ok (.iload 4, 2) := by decide +kernel
theorem d_Re_agreed_38 : decode b_Re_agreed 38 = .ok (.iand, 1) := by decide +kernel
theorem d_Re_agreed_39 : decode b_Re_agreed 39 = .ok (.ior, 1) := by decide +kernel
theorem d_Re_agreed_40 : decode b_Re_agreed 40 = .ok (.iload_n 3, 1) := by decide +kernel
theorem d_Re_agreed_41 : decode b_Re_agreed 41 = .ok (.iload 4, 2) := by decide +kernel
theorem d_Re_agreed_43 : decode b_Re_agreed 43 = .ok (.iand, 1) := by decide +kernel
theorem d_Re_agreed_44 : decode b_Re_agreed 44 = .ok (.ior, 1) := by decide +kernel
theorem d_Re_agreed_45 : decode b_Re_agreed 45 = .ok (.ireturn, 1) := by decide +kernel
theorem d_Re_put_0 : decode b_Re_put 0 = .ok (.aload_n 0, 1) := by decide +kernel
theorem d_Re_put_1 : decode b_Re_put 1 = .ok (.getfield 9, 3) := by decide +kernel
theorem d_Re_put_4 : decode b_Re_put 4 = .ok (.iconst 3, 1) := by decide +kernel
theorem d_Re_put_5 : decode b_Re_put 5 = .ok (.iload_n 1, 1) := by decide +kernel
theorem d_Re_put_6 : decode b_Re_put 6 = .ok (.imul, 1) := by decide +kernel
theorem d_Re_put_7 : decode b_Re_put 7 = .ok (.iload_n 2, 1) := by decide +kernel
theorem d_Re_put_8 : decode b_Re_put 8 = .ok (.iastore, 1) := by decide +kernel
theorem d_Re_put_9 : decode b_Re_put 9 = .ok (.aload_n 0, 1) := by decide +kernel
theorem d_Re_put_10 : decode b_Re_put 10 = .ok (.getfield 9, 3) := by decide +kernel
theorem d_Re_put_13 : decode b_Re_put 13 = .ok (.iconst 3, 1) := by decide +kernel
theorem d_Re_put_14 : decode b_Re_put 14 = .ok (.iload_n 1, 1) := by decide +kernel
theorem d_Re_put_15 : decode b_Re_put 15 = .ok (.imul, 1) := by decide +kernel
theorem d_Re_put_16 : decode b_Re_put 16 = .ok (.iconst 1, 1) := by decide +kernel
theorem d_Re_put_17 : decode b_Re_put 17 = .ok (.iadd, 1) := by decide +kernel
theorem d_Re_put_18 : decode b_Re_put 18 = .ok (.iload_n 2, 1) := by decide +kernel
theorem d_Re_put_19 : decode b_Re_put 19 = .ok (.iastore, 1) := by decide +kernel
theorem d_Re_put_20 : decode b_Re_put 20 = .ok (.aload_n 0, 1) := by decide +kernel
theorem d_Re_put_21 : decode b_Re_put 21 = .ok (.getfield 9, 3) := by decide +kernel
theorem d_Re_put_24 : decode b_Re_put 24 = .ok (.iconst 3, 1) := by decide +kernel
theorem d_Re_put_25 : decode b_Re_put 25 = .ok (.iload_n 1, 1) := by decide +kernel
theorem d_Re_put_26 : decode b_Re_put 26 = .ok (.imul, 1) := by decide +kernel
theorem d_Re_put_27 : decode b_Re_put 27 = .ok (.iconst 2, 1) := by decide +kernel
theorem d_Re_put_28 : decode b_Re_put 28 = .ok (.iadd, 1) := by decide +kernel
theorem d_Re_put_29 : decode b_Re_put 29 = .ok (.iload_n 2, 1) := by decide +kernel
theorem d_Re_put_30 : decode b_Re_put 30 = .ok (.iastore, 1) := by decide +kernel
theorem d_Re_put_31 : decode b_Re_put 31 = .ok (.return_, 1) := by decide +kernel
theorem d_Re_operand_0 : decode b_Re_operand 0 = .ok (.iload_n 1, 1) := by decide +kernel
theorem d_Re_operand_1 : decode b_Re_operand 1 = .ok (.ifCond .ne 7, 3) := by decide +kernel
theorem d_Re_operand_8 : decode b_Re_operand 8 = .ok (.aload_n 0, 1) := by decide +kernel
theorem d_Re_operand_9 : decode b_Re_operand 9 = .ok (.iload_n 1, 1) := by decide +kernel
theorem d_Re_operand_10 : decode b_Re_operand 10 = .ok (.invokevirtual 15, 3) := by decide +kernel
theorem d_Re_operand_13 : decode b_Re_operand 13 = .ok (.ireturn, 1) := by decide +kernel
theorem d_Re_operand_4 : decode b_Re_operand 4 = .ok (.iconst 0, 1) := by decide +kernel
theorem d_Re_operand_5 : decode b_Re_operand 5 = .ok (.goto 8, 3) := by decide +kernel
theorem d_Re_putResult_0 : decode b_Re_putResult 0 = .ok (.iload_n 1, 1) := by decide +kernel
theorem d_Re_putResult_1 : decode b_Re_putResult 1 = .ok (.ifCond .eq 9, 3) := by decide +kernel
theorem d_Re_putResult_10 : decode b_Re_putResult 10 = .ok (.return_, 1) := by decide +kernel
theorem d_Re_putResult_4 : decode b_Re_putResult 4 = .ok (.aload_n 0, 1) := by decide +kernel
theorem d_Re_putResult_5 : decode b_Re_putResult 5 = .ok (.iload_n 1, 1) := by decide +kernel
theorem d_Re_putResult_6 : decode b_Re_putResult 6 = .ok (.iload_n 2, 1) := by decide +kernel
theorem d_Re_putResult_7 : decode b_Re_putResult 7 = .ok (.invokevirtual 19, 3) := by decide +kernel
theorem d_Re_vote_0 : decode b_Re_vote 0 = .ok (.iconst 0, 1) := by decide +kernel
theorem d_Re_vote_1 : decode b_Re_vote 1 = .ok (.istore_n 1, 1) := by decide +kernel
theorem d_Re_vote_2 : decode b_Re_vote 2 = .ok (.iload_n 1, 1) := by decide +kernel
theorem d_Re_vote_3 : decode b_Re_vote 3 = .ok (.bipush 32, 2) := by decide +kernel
theorem d_Re_vote_5 : decode b_Re_vote 5 = .ok (.if_icmp .ge 66, 3) := by decide +kernel
theorem d_Re_vote_71 : decode b_Re_vote 71 = .ok (.return_, 1) := by decide +kernel
theorem d_Re_vote_8 : decode b_Re_vote 8 = .ok (.aload_n 0, 1) := by decide +kernel
theorem d_Re_vote_9 : decode b_Re_vote 9 = .ok (.getfield 9, 3) := by decide +kernel
theorem d_Re_vote_12 : decode b_Re_vote 12 = .ok (.iconst 3, 1) := by decide +kernel
theorem d_Re_vote_13 : decode b_Re_vote 13 = .ok (.iload_n 1, 1) := by decide +kernel
theorem d_Re_vote_14 : decode b_Re_vote 14 = .ok (.imul, 1) := by decide +kernel
theorem d_Re_vote_15 : decode b_Re_vote 15 = .ok (.iaload, 1) := by decide +kernel
theorem d_Re_vote_16 : decode b_Re_vote 16 = .ok (.istore_n 2, 1) := by decide +kernel
theorem d_Re_vote_17 : decode b_Re_vote 17 = .ok (.iload_n 2, 1) := by decide +kernel
theorem d_Re_vote_18 : decode b_Re_vote 18 = .ok (.aload_n 0, 1) := by decide +kernel
theorem d_Re_vote_19 : decode b_Re_vote 19 = .ok (.getfield 9, 3) := by decide +kernel
theorem d_Re_vote_22 : decode b_Re_vote 22 = .ok (.iconst 3, 1) := by decide +kernel
theorem d_Re_vote_23 : decode b_Re_vote 23 = .ok (.iload_n 1, 1) := by decide +kernel
theorem d_Re_vote_24 : decode b_Re_vote 24 = .ok (.imul, 1) := by decide +kernel
theorem d_Re_vote_25 : decode b_Re_vote 25 = .ok (.iconst 1, 1) := by decide +kernel
theorem d_Re_vote_26 : decode b_Re_vote 26 = .ok (.iadd, 1) := by decide +kernel
theorem d_Re_vote_27 : decode b_Re_vote 27 = .ok (.iaload, 1) := by decide +kernel
theorem d_Re_vote_28 : decode b_Re_vote 28 = .ok (.if_icmp .ne 17, 3) := by decide +kernel
theorem d_Re_vote_45 : decode b_Re_vote 45 = .ok (.aload_n 0, 1) := by decide +kernel
theorem d_Re_vote_46 : decode b_Re_vote 46 = .ok (.iload_n 1, 1) := by decide +kernel
theorem d_Re_vote_47 : decode b_Re_vote 47 = .ok (.aload_n 0, 1) := by decide +kernel
theorem d_Re_vote_48 : decode b_Re_vote 48 = .ok (.iload_n 1, 1) := by decide +kernel
theorem d_Re_vote_49 : decode b_Re_vote 49 = .ok (.invokevirtual 15, 3) := by decide +kernel
theorem d_Re_vote_52 : decode b_Re_vote 52 = .ok (.invokevirtual 19, 3) := by decide +kernel
theorem d_Re_vote_55 : decode b_Re_vote 55 = .ok (.aload_n 0, 1) := by decide +kernel
theorem d_Re_vote_56 : decode b_Re_vote 56 = .ok (.dup, 1) := by decide +kernel
theorem d_Re_vote_57 : decode b_Re_vote 57 = .ok (.getfield 23, 3) := by decide +kernel
theorem d_Re_vote_60 : decode b_Re_vote 60 = .ok (.iconst 1, 1) := by decide +kernel
theorem d_Re_vote_61 : decode b_Re_vote 61 = .ok (.iadd, 1) := by decide +kernel
theorem d_Re_vote_62 : decode b_Re_vote 62 = .ok (.putfield 23, 3) := by decide +kernel
theorem d_Re_vote_65 : decode b_Re_vote 65 = .ok (.iinc 1 1, 3) := by decide +kernel
theorem d_Re_vote_68 : decode b_Re_vote 68 = .ok (.goto (-66), 3) := by decide +kernel
theorem d_Re_vote_31 : decode b_Re_vote 31 = .ok (.iload_n 2, 1) := by decide +kernel
theorem d_Re_vote_32 : decode b_Re_vote 32 = .ok (.aload_n 0, 1) := by decide +kernel
theorem d_Re_vote_33 : decode b_Re_vote 33 = .ok (.getfield 9, 3) := by decide +kernel
theorem d_Re_vote_36 : decode b_Re_vote 36 = .ok (.iconst 3, 1) := by decide +kernel
theorem d_Re_vote_37 : decode b_Re_vote 37 = .ok (.iload_n 1, 1) := by decide +kernel
theorem d_Re_vote_38 : decode b_Re_vote 38 = .ok (.imul, 1) := by decide +kernel
theorem d_Re_vote_39 : decode b_Re_vote 39 = .ok (.iconst 2, 1) := by decide +kernel
theorem d_Re_vote_40 : decode b_Re_vote 40 = .ok (.iadd, 1) := by decide +kernel
theorem d_Re_vote_41 : decode b_Re_vote 41 = .ok (.iaload, 1) := by decide +kernel
theorem d_Re_vote_42 : decode b_Re_vote 42 = .ok (.if_icmp .eq 23, 3) := by decide +kernel
theorem d_Fa_append_0 : decode b_Fa_append 0 = .ok (.aload_n 0, 1) := by decide +kernel
theorem d_Fa_append_1 : decode b_Fa_append 1 = .ok (.getfield 9, 3) := by decide +kernel
theorem d_Fa_append_4 : decode b_Fa_append 4 = .ok (.aload_n 0, 1) := by decide +kernel
theorem d_Fa_append_5 : decode b_Fa_append 5 = .ok (.getfield 21, 3) := by decide +kernel
theorem d_Fa_append_8 : decode b_Fa_append 8 = .ok (.iload_n 1, 1) := by decide +kernel
theorem d_Fa_append_9 : decode b_Fa_append 9 = .ok (.iastore, 1) := by decide +kernel
theorem d_Fa_append_10 : decode b_Fa_append 10 = .ok (.aload_n 0, 1) := by decide +kernel
theorem d_Fa_append_11 : decode b_Fa_append 11 = .ok (.getfield 15, 3) := by decide +kernel
theorem d_Fa_append_14 : decode b_Fa_append 14 = .ok (.aload_n 0, 1) := by decide +kernel
theorem d_Fa_append_15 : decode b_Fa_append 15 = .ok (.getfield 21, 3) := by decide +kernel
theorem d_Fa_append_18 : decode b_Fa_append 18 = .ok (.iload_n 2, 1) := by decide +kernel
theorem d_Fa_append_19 : decode b_Fa_append 19 = .ok (.iastore, 1) := by decide +kernel
theorem d_Fa_append_20 : decode b_Fa_append 20 = .ok (.aload_n 0, 1) := by decide +kernel
theorem d_Fa_append_21 : decode b_Fa_append 21 = .ok (.getfield 18, 3) := by decide +kernel
theorem d_Fa_append_24 : decode b_Fa_append 24 = .ok (.aload_n 0, 1) := by decide +kernel
theorem d_Fa_append_25 : decode b_Fa_append 25 = .ok (.getfield 21, 3) := by decide +kernel
theorem d_Fa_append_28 : decode b_Fa_append 28 = .ok (.iload_n 3, 1) := by decide +kernel
theorem d_Fa_append_29 : decode b_Fa_append 29 = .ok (.iastore, 1) := by decide +kernel
theorem d_Fa_append_30 : decode b_Fa_append 30 = .ok (.aload_n 0, 1) := by decide +kernel
theorem d_Fa_append_31 : decode b_Fa_append 31 = .ok (.dup, 1) := by decide +kernel
theorem d_Fa_append_32 : decode b_Fa_append 32 = .ok (.getfield 21, 3) := by decide +kernel
theorem d_Fa_append_35 : decode b_Fa_append 35 = .ok (.iconst 1, 1) := by decide +kernel
theorem d_Fa_append_36 : decode b_Fa_append 36 = .ok (.iadd, 1) := by decide +kernel
theorem d_Fa_append_37 : decode b_Fa_append 37 = .ok (.putfield 21, 3) := by decide +kernel
theorem d_Fa_append_40 : decode b_Fa_append 40 = .ok (.return_, 1) := by decide +kernel
theorem d_Fa_move_0 : decode b_Fa_move 0 = .ok (.aload_n 0, 1) := by decide +kernel
theorem d_Fa_move_1 : decode b_Fa_move 1 = .ok (.getfield 9, 3) := by decide +kernel
theorem d_Fa_move_4 : decode b_Fa_move 4 = .ok (.iload_n 2, 1) := by decide +kernel
theorem d_Fa_move_5 : decode b_Fa_move 5 = .ok (.aload_n 0, 1) := by decide +kernel
theorem d_Fa_move_6 : decode b_Fa_move 6 = .ok (.getfield 9, 3) := by decide +kernel
theorem d_Fa_move_9 : decode b_Fa_move 9 = .ok (.iload_n 1, 1) := by decide +kernel
theorem d_Fa_move_10 : decode b_Fa_move 10 = .ok (.iaload, 1) := by decide +kernel
theorem d_Fa_move_11 : decode b_Fa_move 11 = .ok (.iastore, 1) := by decide +kernel
theorem d_Fa_move_12 : decode b_Fa_move 12 = .ok (.aload_n 0, 1) := by decide +kernel
theorem d_Fa_move_13 : decode b_Fa_move 13 = .ok (.getfield 15, 3) := by decide +kernel
theorem d_Fa_move_16 : decode b_Fa_move 16 = .ok (.iload_n 2, 1) := by decide +kernel
theorem d_Fa_move_17 : decode b_Fa_move 17 = .ok (.aload_n 0, 1) := by decide +kernel
theorem d_Fa_move_18 : decode b_Fa_move 18 = .ok (.getfield 15, 3) := by decide +kernel
theorem d_Fa_move_21 : decode b_Fa_move 21 = .ok (.iload_n 1, 1) := by decide +kernel
theorem d_Fa_move_22 : decode b_Fa_move 22 = .ok (.iaload, 1) := by decide +kernel
theorem d_Fa_move_23 : decode b_Fa_move 23 = .ok (.iastore, 1) := by decide +kernel
theorem d_Fa_move_24 : decode b_Fa_move 24 = .ok (.aload_n 0, 1) := by decide +kernel
theorem d_Fa_move_25 : decode b_Fa_move 25 = .ok (.getfield 18, 3) := by decide +kernel
theorem d_Fa_move_28 : decode b_Fa_move 28 = .ok (.iload_n 2, 1) := by decide +kernel
theorem d_Fa_move_29 : decode b_Fa_move 29 = .ok (.aload_n 0, 1) := by decide +kernel
theorem d_Fa_move_30 : decode b_Fa_move 30 = .ok (.getfield 18, 3) := by decide +kernel
theorem d_Fa_move_33 : decode b_Fa_move 33 = .ok (.iload_n 1, 1) := by decide +kernel
theorem d_Fa_move_34 : decode b_Fa_move 34 = .ok (.iaload, 1) := by decide +kernel
theorem d_Fa_move_35 : decode b_Fa_move 35 = .ok (.iastore, 1) := by decide +kernel
theorem d_Fa_move_36 : decode b_Fa_move 36 = .ok (.return_, 1) := by decide +kernel
theorem d_V_isWord_0 : decode b_V_isWord 0 = .ok (.iload_n 0, 1) := by decide +kernel
theorem d_V_isWord_1 : decode b_V_isWord 1 = .ok (.ifCond .lt 13, 3) := by decide +kernel
theorem d_V_isWord_14 : decode b_V_isWord 14 = .ok (.iconst 0, 1) := by decide +kernel
theorem d_V_isWord_15 : decode b_V_isWord 15 = .ok (.ireturn, 1) := by decide +kernel
theorem d_V_isWord_4 : decode b_V_isWord 4 = .ok (.iload_n 0, 1) := by decide +kernel
theorem d_V_isWord_5 : decode b_V_isWord 5 = .ok (.bipush 64, 2) := by decide +kernel
theorem d_V_isWord_7 : decode b_V_isWord 7 = .ok (.if_icmp .ge 7, 3) := by decide +kernel
theorem d_V_isWord_10 : decode b_V_isWord 10 = .ok (.iconst 1, 1) := by decide +kernel
theorem d_V_isWord_11 : decode b_V_isWord 11 = .ok (.goto 4, 3) := by decide +kernel
theorem d_V_isRegister_0 : decode b_V_isRegister 0 = .ok (.iload_n 0, 1) := by decide +kernel
theorem d_V_isRegister_1 : decode b_V_isRegister 1 = .ok (.ifCond .lt 13, 3) := by decide +kernel
theorem d_V_isRegister_14 : decode b_V_isRegister 14 = .ok (.iconst 0, 1) := by decide +kernel
theorem d_V_isRegister_15 : decode b_V_isRegister 15 = .ok (.ireturn, 1) := by decide +kernel
theorem d_V_isRegister_4 : decode b_V_isRegister 4 = .ok (.iload_n 0, 1) := by decide +kernel
theorem d_V_isRegister_5 : decode b_V_isRegister 5 = .ok (.bipush 32, 2) := by decide +kernel
theorem d_V_isRegister_7 : decode b_V_isRegister 7 = .ok (.if_icmp .ge 7, 3) := by decide +kernel
theorem d_V_isRegister_10 : decode b_V_isRegister 10 = .ok (.iconst 1, 1) := by decide +kernel
theorem d_V_isRegister_11 : decode b_V_isRegister 11 = .ok (.goto 4, 3) := by decide +kernel
theorem d_V_isBit_0 : decode b_V_isBit 0 = .ok (.iload_n 0, 1) := by decide +kernel
theorem d_V_isBit_1 : decode b_V_isBit 1 = .ok (.ifCond .lt 14, 3) := by decide +kernel
theorem d_V_isBit_15 : decode b_V_isBit 15 = .ok (.iconst 0, 1) := by decide +kernel
theorem d_V_isBit_16 : decode b_V_isBit 16 = .ok (.ireturn, 1) := by decide +kernel
theorem d_V_isBit_4 : decode b_V_isBit 4 = .ok (.iload_n 0, 1) := by decide +kernel
theorem d_V_isBit_5 : decode b_V_isBit 5 = .ok (.sipush 168, 3) := by decide +kernel
theorem d_V_isBit_8 : decode b_V_isBit 8 = .ok (.if_icmp .ge 7, 3) := by decide +kernel
theorem d_V_isBit_11 : decode b_V_isBit 11 = .ok (.iload_n 1, 1) := by decide +kernel
theorem d_V_isBit_12 : decode b_V_isBit 12 = .ok (.ifCond .ge 5, 3) := by decide +kernel
theorem d_V_isBit_17 : decode b_V_isBit 17 = .ok (.iload_n 0, 1) := by decide +kernel
theorem d_V_isBit_18 : decode b_V_isBit 18 = .ok (.bipush 64, 2) := by decide +kernel
theorem d_V_isBit_20 : decode b_V_isBit 20 = .ok (.if_icmp .ge 15, 3) := by decide +kernel
theorem d_V_isBit_35 : decode b_V_isBit 35 = .ok (.iload_n 1, 1) := by decide +kernel
theorem d_V_isBit_36 : decode b_V_isBit 36 = .ok (.iload_n 0, 1) := by decide +kernel
theorem d_V_isBit_37 : decode b_V_isBit 37 = .ok (.sipush 160, 3) := by decide +kernel
theorem d_V_isBit_40 : decode b_V_isBit 40 = .ok (.if_icmp .ge 8, 3) := by decide +kernel
theorem d_V_isBit_48 : decode b_V_isBit 48 = .ok (.bipush 38, 2) := by decide +kernel
theorem d_V_isBit_50 : decode b_V_isBit 50 = .ok (.if_icmp .ge 7, 3) := by decide +kernel
theorem d_V_isBit_57 : decode b_V_isBit 57 = .ok (.iconst 0, 1) := by decide +kernel
theorem d_V_isBit_58 : decode b_V_isBit 58 = .ok (.ireturn, 1) := by decide +kernel
theorem d_V_isBit_53 : decode b_V_isBit 53 = .ok (.iconst 1, 1) := by decide +kernel
theorem d_V_isBit_54 : decode b_V_isBit 54 = .ok (.goto 4, 3) := by decide +kernel
theorem d_V_isBit_43 : decode b_V_isBit 43 = .ok (.bipush 32, 2) := by decide +kernel
theorem d_V_isBit_45 : decode b_V_isBit 45 = .ok (.goto 5, 3) := by decide +kernel
theorem d_V_isBit_23 : decode b_V_isBit 23 = .ok (.iload_n 1, 1) := by decide +kernel
theorem d_V_isBit_24 : decode b_V_isBit 24 = .ok (.bipush 39, 2) := by decide +kernel
theorem d_V_isBit_26 : decode b_V_isBit 26 = .ok (.if_icmp .ge 7, 3) := by decide +kernel
theorem d_V_isBit_33 : decode b_V_isBit 33 = .ok (.iconst 0, 1) := by decide +kernel
theorem d_V_isBit_34 : decode b_V_isBit 34 = .ok (.ireturn, 1) := by decide +kernel
theorem d_V_isBit_29 : decode b_V_isBit 29 = .ok (.iconst 1, 1) := by decide +kernel
theorem d_V_isBit_30 : decode b_V_isBit 30 = .ok (.goto 4, 3) := by decide +kernel
theorem d_V_isAddress_0 : decode b_V_isAddress 0 = .ok (.iload_n 0, 1) := by decide +kernel
theorem d_V_isAddress_1 : decode b_V_isAddress 1 = .ok (.ifCond .lt 22, 3) := by decide +kernel
theorem d_V_isAddress_23 : decode b_V_isAddress 23 = .ok (.iconst 0, 1) := by decide +kernel
theorem d_V_isAddress_24 : decode b_V_isAddress 24 = .ok (.ireturn, 1) := by decide +kernel
theorem d_V_isAddress_4 : decode b_V_isAddress 4 = .ok (.iload_n 0, 1) := by decide +kernel
theorem d_V_isAddress_5 : decode b_V_isAddress 5 = .ok (.sipush 255, 3) := by decide +kernel
theorem d_V_isAddress_8 : decode b_V_isAddress 8 = .ok (.if_icmp .gt 15, 3) := by decide +kernel
theorem d_V_isAddress_11 : decode b_V_isAddress 11 = .ok (.iload_n 0, 1) := by decide +kernel
theorem d_V_isAddress_12 : decode b_V_isAddress 12 = .ok (.iload_n 1, 1) := by decide +kernel
theorem d_V_isAddress_13 : decode b_V_isAddress 13 = .ok (.iconst 1, 1) := by decide +kernel
theorem d_V_isAddress_14 : decode b_V_isAddress 14 = .ok (.isub, 1) := by decide +kernel
theorem d_V_isAddress_15 : decode b_V_isAddress 15 = .ok (.iand, 1) := by decide +kernel
theorem d_V_isAddress_16 : decode b_V_isAddress 16 = .ok (.ifCond .ne 7, 3) := by decide +kernel
theorem d_V_isAddress_19 : decode b_V_isAddress 19 = .ok (.iconst 1, 1) := by decide +kernel
theorem d_V_isAddress_20 : decode b_V_isAddress 20 = .ok (.goto 4, 3) := by decide +kernel
theorem d_V_invert_0 : decode b_V_invert 0 = .ok (.iload_n 1, 1) := by decide +kernel
theorem d_V_invert_1 : decode b_V_invert 1 = .ok (.bipush 64, 2) := by decide +kernel
theorem d_V_invert_3 : decode b_V_invert 3 = .ok (.if_icmp .ge 21, 3) := by decide +kernel
theorem d_V_invert_24 : decode b_V_invert 24 = .ok (.iload_n 1, 1) := by decide +kernel
theorem d_V_invert_25 : decode b_V_invert 25 = .ok (.sipush 160, 3) := by decide +kernel
theorem d_V_invert_28 : decode b_V_invert 28 = .ok (.if_icmp .ge 24, 3) := by decide +kernel
theorem d_V_invert_52 : decode b_V_invert 52 = .ok (.iload_n 1, 1) := by decide +kernel
theorem d_V_invert_53 : decode b_V_invert 53 = .ok (.sipush 164, 3) := by decide +kernel
theorem d_V_invert_56 : decode b_V_invert 56 = .ok (.if_icmp .ge 25, 3) := by decide +kernel
theorem d_V_invert_81 : decode b_V_invert 81 = .ok (.aload_n 0, 1) := by decide +kernel
theorem d_V_invert_82 : decode b_V_invert 82 = .ok (.getfield 23, 3) := by decide +kernel
theorem d_V_invert_85 : decode b_V_invert 85 = .ok (.getfield 90, 3) := by decide +kernel
theorem d_V_invert_88 : decode b_V_invert 88 = .ok (.iload_n 1, 1) := by decide +kernel
theorem d_V_invert_89 : decode b_V_invert 89 = .ok (.sipush 164, 3) := by decide +kernel
theorem d_V_invert_92 : decode b_V_invert 92 = .ok (.isub, 1) := by decide +kernel
theorem d_V_invert_93 : decode b_V_invert 93 = .ok (.dup2, 1) := by decide +kernel
theorem d_V_invert_94 : decode b_V_invert 94 = .ok (.laload, 1) := by decide +kernel
theorem d_V_invert_95 : decode b_V_invert 95 = .ok (.lconst 1, 1) := by decide +kernel
theorem d_V_invert_96 : decode b_V_invert 96 = .ok (.iload_n 2, 1) := by decide +kernel
theorem d_V_invert_97 : decode b_V_invert 97 = .ok (.lshl, 1) := by decide +kernel
theorem d_V_invert_98 : decode b_V_invert 98 = .ok (.lxor, 1) := by decide +kernel
theorem d_V_invert_99 : decode b_V_invert 99 = .ok (.lastore, 1) := by decide +kernel
theorem d_V_invert_100 : decode b_V_invert 100 = .ok (.return_, 1) := by decide +kernel
theorem d_V_invert_59 : decode b_V_invert 59 = .ok (.aload_n 0, 1) := by decide +kernel
theorem d_V_invert_60 : decode b_V_invert 60 = .ok (.getfield 19, 3) := by decide +kernel
theorem d_V_invert_63 : decode b_V_invert 63 = .ok (.getfield 90, 3) := by decide +kernel
theorem d_V_invert_66 : decode b_V_invert 66 = .ok (.iload_n 1, 1) := by decide +kernel
theorem d_V_invert_67 : decode b_V_invert 67 = .ok (.sipush 160, 3) := by decide +kernel
theorem d_V_invert_70 : decode b_V_invert 70 = .ok (.isub, 1) := by decide +kernel
