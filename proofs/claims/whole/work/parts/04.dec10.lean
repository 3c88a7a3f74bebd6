theorem d_Mo_makeFaults_58 : decode b_Mo_makeFaults 58 = .ok (.if_icmp .ge 29, 3) := by decide +kernel
theorem d_Mo_makeFaults_61 : decode b_Mo_makeFaults 61 = .ok (.aload_n 0, 1) := by decide +kernel
theorem d_Mo_makeFaults_62 : decode b_Mo_makeFaults 62 = .ok (.getfield 26, 3) := by decide +kernel
theorem d_Mo_makeFaults_65 : decode b_Mo_makeFaults 65 = .ok (.iconst 3, 1) := by decide +kernel
theorem d_Mo_makeFaults_66 : decode b_Mo_makeFaults 66 = .ok (.iload_n 1, 1) := by decide +kernel
theorem d_Mo_makeFaults_67 : decode b_Mo_makeFaults 67 = .ok (.imul, 1) := by decide +kernel
theorem d_Mo_makeFaults_68 : decode b_Mo_makeFaults 68 = .ok (.iload_n 3, 1) := by decide +kernel
theorem d_Mo_makeFaults_69 : decode b_Mo_makeFaults 69 = .ok (.iadd, 1) := by decide +kernel
theorem d_Mo_makeFaults_70 : decode b_Mo_makeFaults 70 = .ok (.aload_n 0, 1) := by decide +kernel
theorem d_Mo_makeFaults_71 : decode b_Mo_makeFaults 71 = .ok (.getfield 26, 3) := by decide +kernel
theorem d_Mo_makeFaults_74 : decode b_Mo_makeFaults 74 = .ok (.iconst 3, 1) := by decide +kernel
theorem d_Mo_makeFaults_75 : decode b_Mo_makeFaults 75 = .ok (.iload_n 2, 1) := by decide +kernel
theorem d_Mo_makeFaults_76 : decode b_Mo_makeFaults 76 = .ok (.imul, 1) := by decide +kernel
theorem d_Mo_makeFaults_77 : decode b_Mo_makeFaults 77 = .ok (.iload_n 3, 1) := by decide +kernel
theorem d_Mo_makeFaults_78 : decode b_Mo_makeFaults 78 = .ok (.iadd, 1) := by decide +kernel
theorem d_Mo_makeFaults_79 : decode b_Mo_makeFaults 79 = .ok (.iaload, 1) := by decide +kernel
theorem d_Mo_makeFaults_80 : decode b_Mo_makeFaults 80 = .ok (.iastore, 1) := by decide +kernel
theorem d_Mo_makeFaults_81 : decode b_Mo_makeFaults 81 = .ok (.iinc 3 1, 3) := by decide +kernel
theorem d_Mo_makeFaults_84 : decode b_Mo_makeFaults 84 = .ok (.goto (-28), 3) := by decide +kernel
theorem d_Mo_makeFaults_87 : decode b_Mo_makeFaults 87 = .ok (.iinc 1 1, 3) := by decide +kernel
theorem d_Mo_makeFaults_90 : decode b_Mo_makeFaults 90 = .ok (.iinc 2 1, 3) := by decide +kernel
theorem d_Mo_makeFaults_93 : decode b_Mo_makeFaults 93 = .ok (.goto (-89), 3) := by decide +kernel
theorem d_Mo_makeFaults_27 : decode b_Mo_makeFaults 27 = .ok (.aload_n 0, 1) := by decide +kernel
theorem d_Mo_makeFaults_28 : decode b_Mo_makeFaults 28 = .ok (.aload_n 0, 1) := by decide +kernel
theorem d_Mo_makeFaults_29 : decode b_Mo_makeFaults 29 = .ok (.getfield 26, 3) := by decide +kernel
theorem d_Mo_makeFaults_32 : decode b_Mo_makeFaults 32 = .ok (.iconst 3, 1) := by decide +kernel
theorem d_Mo_makeFaults_33 : decode b_Mo_makeFaults 33 = .ok (.iload_n 2, 1) := by decide +kernel
theorem d_Mo_makeFaults_34 : decode b_Mo_makeFaults 34 = .ok (.imul, 1) := by decide +kernel
theorem d_Mo_makeFaults_35 : decode b_Mo_makeFaults 35 = .ok (.iconst 1, 1) := by decide +kernel
theorem d_Mo_makeFaults_36 : decode b_Mo_makeFaults 36 = .ok (.iadd, 1) := by decide +kernel
theorem d_Mo_makeFaults_37 : decode b_Mo_makeFaults 37 = .ok (.iaload, 1) := by decide +kernel
theorem d_Mo_makeFaults_38 : decode b_Mo_makeFaults 38 = .ok (.aload_n 0, 1) := by decide +kernel
theorem d_Mo_makeFaults_39 : decode b_Mo_makeFaults 39 = .ok (.getfield 26, 3) := by decide +kernel
theorem d_Mo_makeFaults_42 : decode b_Mo_makeFaults 42 = .ok (.iconst 3, 1) := by decide +kernel
theorem d_Mo_makeFaults_43 : decode b_Mo_makeFaults 43 = .ok (.iload_n 2, 1) := by decide +kernel
theorem d_Mo_makeFaults_44 : decode b_Mo_makeFaults 44 = .ok (.imul, 1) := by decide +kernel
theorem d_Mo_makeFaults_45 : decode b_Mo_makeFaults 45 = .ok (.iconst 2, 1) := by decide +kernel
theorem d_Mo_makeFaults_46 : decode b_Mo_makeFaults 46 = .ok (.iadd, 1) := by decide +kernel
theorem d_Mo_makeFaults_47 : decode b_Mo_makeFaults 47 = .ok (.iaload, 1) := by decide +kernel
theorem d_Mo_makeFaults_48 : decode b_Mo_makeFaults 48 = .ok (.invokevirtual 193, 3) := by decide +kernel
theorem d_Mo_makeFaults_51 : decode b_Mo_makeFaults 51 = .ok (.goto 39, 3) := by decide +kernel
theorem d_Mo_scrub_0 : decode b_Mo_scrub 0 = .ok (.aload_n 0, 1) := by decide +kernel
theorem d_Mo_scrub_1 : decode b_Mo_scrub 1 = .ok (.aload_n 0, 1) := by decide +kernel
theorem d_Mo_scrub_2 : decode b_Mo_scrub 2 = .ok (.getfield 29, 3) := by decide +kernel
theorem d_Mo_scrub_5 : decode b_Mo_scrub 5 = .ok (.iconst 5, 1) := by decide +kernel
theorem d_Mo_scrub_6 : decode b_Mo_scrub 6 = .ok (.iaload, 1) := by decide +kernel
theorem d_Mo_scrub_7 : decode b_Mo_scrub 7 = .ok (.invokevirtual 63, 3) := by decide +kernel
theorem d_Mo_scrub_10 : decode b_Mo_scrub 10 = .ok (.ifCond .ne 13, 3) := by decide +kernel
theorem d_Mo_scrub_23 : decode b_Mo_scrub 23 = .ok (.aload_n 0, 1) := by decide +kernel
theorem d_Mo_scrub_24 : decode b_Mo_scrub 24 = .ok (.getfield 29, 3) := by decide +kernel
theorem d_Mo_scrub_27 : decode b_Mo_scrub 27 = .ok (.iconst 5, 1) := by decide +kernel
theorem d_Mo_scrub_28 : decode b_Mo_scrub 28 = .ok (.aload_n 0, 1) := by decide +kernel
theorem d_Mo_scrub_29 : decode b_Mo_scrub 29 = .ok (.getfield 29, 3) := by decide +kernel
theorem d_Mo_scrub_32 : decode b_Mo_scrub 32 = .ok (.iconst 5, 1) := by decide +kernel
theorem d_Mo_scrub_33 : decode b_Mo_scrub 33 = .ok (.iaload, 1) := by decide +kernel
theorem d_Mo_scrub_34 : decode b_Mo_scrub 34 = .ok (.iconst 1, 1) := by decide +kernel
theorem d_Mo_scrub_35 : decode b_Mo_scrub 35 = .ok (.iadd, 1) := by decide +kernel
theorem d_Mo_scrub_36 : decode b_Mo_scrub 36 = .ok (.bipush 64, 2) := by decide +kernel
theorem d_Mo_scrub_38 : decode b_Mo_scrub 38 = .ok (.irem, 1) := by decide +kernel
theorem d_Mo_scrub_39 : decode b_Mo_scrub 39 = .ok (.iastore, 1) := by decide +kernel
theorem d_Mo_scrub_40 : decode b_Mo_scrub 40 = .ok (.return_, 1) := by decide +kernel
theorem d_Mo_scrub_13 : decode b_Mo_scrub 13 = .ok (.aload_n 0, 1) := by decide +kernel
theorem d_Mo_scrub_14 : decode b_Mo_scrub 14 = .ok (.getfield 29, 3) := by decide +kernel
theorem d_Mo_scrub_17 : decode b_Mo_scrub 17 = .ok (.iconst 1, 1) := by decide +kernel
theorem d_Mo_scrub_18 : decode b_Mo_scrub 18 = .ok (.dup2, 1) := by decide +kernel
theorem d_Mo_scrub_19 : decode b_Mo_scrub 19 = .ok (.iaload, 1) := by decide +kernel
theorem d_Mo_scrub_20 : decode b_Mo_scrub 20 = .ok (.iconst 1, 1) := by decide +kernel
theorem d_Mo_scrub_21 : decode b_Mo_scrub 21 = .ok (.iadd, 1) := by decide +kernel
theorem d_Mo_scrub_22 : decode b_Mo_scrub 22 = .ok (.iastore, 1) := by decide +kernel
theorem d_Mo_resume_0 : decode b_Mo_resume 0 = .ok (.aload_n 0, 1) := by decide +kernel
theorem d_Mo_resume_1 : decode b_Mo_resume 1 = .ok (.getfield 94, 3) := by decide +kernel
theorem d_Mo_resume_4 : decode b_Mo_resume 4 = .ok (.ifCond .ne 5, 3) := by decide +kernel
theorem d_Mo_resume_9 : decode b_Mo_resume 9 = .ok (.aload_n 0, 1) := by decide +kernel
theorem d_Mo_resume_10 : decode b_Mo_resume 10 = .ok (.iconst 0, 1) := by decide +kernel
theorem d_Mo_resume_11 : decode b_Mo_resume 11 = .ok (.iload_n 1, 1) := by decide +kernel
theorem d_Mo_resume_12 : decode b_Mo_resume 12 = .ok (.invokevirtual 91, 3) := by decide +kernel
theorem d_Mo_resume_15 : decode b_Mo_resume 15 = .ok (.aload_n 0, 1) := by decide +kernel
theorem d_Mo_resume_16 : decode b_Mo_resume 16 = .ok (.iconst 0, 1) := by decide +kernel
theorem d_Mo_resume_17 : decode b_Mo_resume 17 = .ok (.iconst 0, 1) := by decide +kernel
theorem d_Mo_resume_18 : decode b_Mo_resume 18 = .ok (.invokevirtual 66, 3) := by decide +kernel
theorem d_Mo_resume_21 : decode b_Mo_resume 21 = .ok (.iconst 1, 1) := by decide +kernel
theorem d_Mo_resume_22 : decode b_Mo_resume 22 = .ok (.ireturn, 1) := by decide +kernel
theorem d_Mo_resume_7 : decode b_Mo_resume 7 = .ok (.iconst 0, 1) := by decide +kernel
theorem d_Mo_resume_8 : decode b_Mo_resume 8 = .ok (.ireturn, 1) := by decide +kernel
theorem d_Mo_write_0 : decode b_Mo_write 0 = .ok (.iload_n 1, 1) := by decide +kernel
theorem d_Mo_write_1 : decode b_Mo_write 1 = .ok (.bipush 63, 2) := by decide +kernel
theorem d_Mo_write_3 : decode b_Mo_write 3 = .ok (.invokestatic 135, 3) := by decide +kernel
theorem d_Mo_write_6 : decode b_Mo_write 6 = .ok (.ifCond .eq 5, 3) := by decide +kernel
theorem d_Mo_write_11 : decode b_Mo_write 11 = .ok (.aload_n 0, 1) := by decide +kernel
theorem d_Mo_write_12 : decode b_Mo_write 12 = .ok (.iload_n 1, 1) := by decide +kernel
theorem d_Mo_write_13 : decode b_Mo_write 13 = .ok (.iload_n 2, 1) := by decide +kernel
theorem d_Mo_write_14 : decode b_Mo_write 14 = .ok (.invokevirtual 80, 3) := by decide +kernel
theorem d_Mo_write_17 : decode b_Mo_write 17 = .ok (.iconst 0, 1) := by decide +kernel
theorem d_Mo_write_18 : decode b_Mo_write 18 = .ok (.istore_n 3, 1) := by decide +kernel
theorem d_Mo_write_19 : decode b_Mo_write 19 = .ok (.iload_n 3, 1) := by decide +kernel
theorem d_Mo_write_20 : decode b_Mo_write 20 = .ok (.bipush 8, 2) := by decide +kernel
theorem d_Mo_write_22 : decode b_Mo_write 22 = .ok (.if_icmp .ge 16, 3) := by decide +kernel
theorem d_Mo_write_25 : decode b_Mo_write 25 = .ok (.aload_n 0, 1) := by decide +kernel
theorem d_Mo_write_26 : decode b_Mo_write 26 = .ok (.getfield 23, 3) := by decide +kernel
theorem d_Mo_write_29 : decode b_Mo_write 29 = .ok (.iload_n 3, 1) := by decide +kernel
theorem d_Mo_write_30 : decode b_Mo_write 30 = .ok (.lconst 0, 1) := by decide +kernel
theorem d_Mo_write_31 : decode b_Mo_write 31 = .ok (.lastore, 1) := by decide +kernel
theorem d_Mo_write_32 : decode b_Mo_write 32 = .ok (.iinc 3 1, 3) := by decide +kernel
theorem d_Mo_write_35 : decode b_Mo_write 35 = .ok (.goto (-16), 3) := by decide +kernel
theorem d_Mo_write_38 : decode b_Mo_write 38 = .ok (.iconst 1, 1) := by decide +kernel
theorem d_Mo_write_39 : decode b_Mo_write 39 = .ok (.ireturn, 1) := by decide +kernel
theorem d_Mo_write_9 : decode b_Mo_write 9 = .ok (.iconst 0, 1) := by decide +kernel
theorem d_Mo_write_10 : decode b_Mo_write 10 = .ok (.ireturn, 1) := by decide +kernel
theorem d_Mo_set_0 : decode b_Mo_set 0 = .ok (.iload_n 1, 1) := by decide +kernel
theorem d_Mo_set_1 : decode b_Mo_set 1 = .ok (.bipush 31, 2) := by decide +kernel
theorem d_Mo_set_3 : decode b_Mo_set 3 = .ok (.invokestatic 135, 3) := by decide +kernel
theorem d_Mo_set_6 : decode b_Mo_set 6 = .ok (.ifCond .eq 5, 3) := by decide +kernel
theorem d_Mo_set_11 : decode b_Mo_set 11 = .ok (.aload_n 0, 1) := by decide +kernel
theorem d_Mo_set_12 : decode b_Mo_set 12 = .ok (.iload_n 1, 1) := by decide +kernel
theorem d_Mo_set_13 : decode b_Mo_set 13 = .ok (.iload_n 2, 1) := by decide +kernel
theorem d_Mo_set_14 : decode b_Mo_set 14 = .ok (.invokevirtual 91, 3) := by decide +kernel
theorem d_Mo_set_17 : decode b_Mo_set 17 = .ok (.iconst 1, 1) := by decide +kernel
theorem d_Mo_set_18 : decode b_Mo_set 18 = .ok (.ireturn, 1) := by decide +kernel
theorem d_Mo_set_9 : decode b_Mo_set 9 = .ok (.iconst 0, 1) := by decide +kernel
theorem d_Mo_set_10 : decode b_Mo_set 10 = .ok (.ireturn, 1) := by decide +kernel
theorem d_Mo_noBit_0 : decode b_Mo_noBit 0 = .ok (.iload_n 0, 1) := by decide +kernel
theorem d_Mo_noBit_1 : decode b_Mo_noBit 1 = .ok (.sipush 167, 3) := by decide +kernel
theorem d_Mo_noBit_4 : decode b_Mo_noBit 4 = .ok (.invokestatic 135, 3) := by decide +kernel
theorem d_Mo_noBit_7 : decode b_Mo_noBit 7 = .ok (.ifCond .ne 35, 3) := by decide +kernel
theorem d_Mo_noBit_42 : decode b_Mo_noBit 42 = .ok (.iconst 1, 1) := by decide +kernel
theorem d_Mo_noBit_43 : decode b_Mo_noBit 43 = .ok (.goto 4, 3) := by decide +kernel
theorem d_Mo_noBit_47 : decode b_Mo_noBit 47 = .ok (.ireturn, 1) := by decide +kernel
theorem d_Mo_noBit_10 : decode b_Mo_noBit 10 = .ok (.iload_n 1, 1) := by decide +kernel
theorem d_Mo_noBit_11 : decode b_Mo_noBit 11 = .ok (.iload_n 0, 1) := by decide +kernel
theorem d_Mo_noBit_12 : decode b_Mo_noBit 12 = .ok (.bipush 64, 2) := by decide +kernel
theorem d_Mo_noBit_14 : decode b_Mo_noBit 14 = .ok (.if_icmp .ge 8, 3) := by decide +kernel
theorem d_Mo_noBit_22 : decode b_Mo_noBit 22 = .ok (.iload_n 0, 1) := by decide +kernel
theorem d_Mo_noBit_23 : decode b_Mo_noBit 23 = .ok (.sipush 160, 3) := by decide +kernel
theorem d_Mo_noBit_26 : decode b_Mo_noBit 26 = .ok (.if_icmp .ge 8, 3) := by decide +kernel
theorem d_Mo_noBit_34 : decode b_Mo_noBit 34 = .ok (.bipush 37, 2) := by decide +kernel
theorem d_Mo_noBit_36 : decode b_Mo_noBit 36 = .ok (.invokestatic 135, 3) := by decide +kernel
theorem d_Mo_noBit_39 : decode b_Mo_noBit 39 = .ok (.ifCond .eq 7, 3) := by decide +kernel
theorem d_Mo_noBit_46 : decode b_Mo_noBit 46 = .ok (.iconst 0, 1) := by decide +kernel
theorem d_Mo_noBit_29 : decode b_Mo_noBit 29 = .ok (.bipush 31, 2) := by decide +kernel
theorem d_Mo_noBit_31 : decode b_Mo_noBit 31 = .ok (.goto 5, 3) := by decide +kernel
theorem d_Mo_noBit_17 : decode b_Mo_noBit 17 = .ok (.bipush 38, 2) := by decide +kernel
theorem d_Mo_noBit_19 : decode b_Mo_noBit 19 = .ok (.goto 17, 3) := by decide +kernel
theorem d_Mo_flip_0 : decode b_Mo_flip 0 = .ok (.iload_n 1, 1) := by decide +kernel
theorem d_Mo_flip_1 : decode b_Mo_flip 1 = .ok (.iload_n 2, 1) := by decide +kernel
theorem d_Mo_flip_2 : decode b_Mo_flip 2 = .ok (.invokestatic 208, 3) := by decide +kernel
theorem d_Mo_flip_5 : decode b_Mo_flip 5 = .ok (.ifCond .eq 5, 3) := by decide +kernel
theorem d_Mo_flip_10 : decode b_Mo_flip 10 = .ok (.aload_n 0, 1) := by decide +kernel
theorem d_Mo_flip_11 : decode b_Mo_flip 11 = .ok (.iload_n 1, 1) := by decide +kernel
theorem d_Mo_flip_12 : decode b_Mo_flip 12 = .ok (.iload_n 2, 1) := by decide +kernel
theorem d_Mo_flip_13 : decode b_Mo_flip 13 = .ok (.invokevirtual 193, 3) := by decide +kernel
theorem d_Mo_flip_16 : decode b_Mo_flip 16 = .ok (.iconst 1, 1) := by decide +kernel
theorem d_Mo_flip_17 : decode b_Mo_flip 17 = .ok (.ireturn, 1) := by decide +kernel
theorem d_Mo_flip_8 : decode b_Mo_flip 8 = .ok (.iconst 0, 1) := by decide +kernel
theorem d_Mo_flip_9 : decode b_Mo_flip 9 = .ok (.ireturn, 1) := by decide +kernel
theorem d_Mo_plan_0 : decode b_Mo_plan 0 = .ok (.iload_n 1, 1) := by decide +kernel
theorem d_Mo_plan_1 : decode b_Mo_plan 1 = .ok (.iconst 1, 1) := by decide +kernel
theorem d_Mo_plan_2 : decode b_Mo_plan 2 = .ok (.if_icmp .lt 27, 3) := by decide +kernel
theorem d_Mo_plan_29 : decode b_Mo_plan 29 = .ok (.iconst 0, 1) := by decide +kernel
theorem d_Mo_plan_30 : decode b_Mo_plan 30 = .ok (.ireturn, 1) := by decide +kernel
theorem d_Mo_plan_5 : decode b_Mo_plan 5 = .ok (.iload_n 1, 1) := by decide +kernel
theorem d_Mo_plan_6 : decode b_Mo_plan 6 = .ok (.sipush 1000, 3) := by decide +kernel
theorem d_Mo_plan_9 : decode b_Mo_plan 9 = .ok (.if_icmp .gt 20, 3) := by decide +kernel
theorem d_Mo_plan_12 : decode b_Mo_plan 12 = .ok (.iload_n 2, 1) := by decide +kernel
theorem d_Mo_plan_13 : decode b_Mo_plan 13 = .ok (.iload_n 3, 1) := by decide +kernel
theorem d_Mo_plan_14 : decode b_Mo_plan 14 = .ok (.invokestatic 208, 3) := by decide +kernel
theorem d_Mo_plan_17 : decode b_Mo_plan 17 = .ok (.ifCond .ne 12, 3) := by decide +kernel
theorem d_Mo_plan_20 : decode b_Mo_plan 20 = .ok (.aload_n 0, 1) := by decide +kernel
theorem d_Mo_plan_21 : decode b_Mo_plan 21 = .ok (.getfield 187, 3) := by decide +kernel
theorem d_Mo_plan_24 : decode b_Mo_plan 24 = .ok (.bipush 16, 2) := by decide +kernel
theorem d_Mo_plan_26 : decode b_Mo_plan 26 = .ok (.if_icmp .ne 5, 3) := by decide +kernel
theorem d_Mo_plan_31 : decode b_Mo_plan 31 = .ok (.aload_n 0, 1) := by decide +kernel
theorem d_Mo_plan_32 : decode b_Mo_plan 32 = .ok (.getfield 26, 3) := by decide +kernel
theorem d_Mo_plan_35 : decode b_Mo_plan 35 = .ok (.iconst 3, 1) := by decide +kernel
theorem d_Mo_plan_36 : decode b_Mo_plan 36 = .ok (.aload_n 0, 1) := by decide +kernel
theorem d_Mo_plan_37 : decode b_Mo_plan 37 = .ok (.getfield 187, 3) := by decide +kernel
theorem d_Mo_plan_40 : decode b_Mo_plan 40 = .ok (.imul, 1) := by decide +kernel
theorem d_Mo_plan_41 : decode b_Mo_plan 41 = .ok (.aload_n 0, 1) := by decide +kernel
theorem d_Mo_plan_42 : decode b_Mo_plan 42 = .ok (.getfield 190, 3) := by decide +kernel
theorem d_Mo_plan_45 : decode b_Mo_plan 45 = .ok (.iload_n 1, 1) := by decide +kernel
theorem d_Mo_plan_46 : decode b_Mo_plan 46 = .ok (.iadd, 1) := by decide +kernel
theorem d_Mo_plan_47 : decode b_Mo_plan 47 = .ok (.iastore, 1) := by decide +kernel
theorem d_Mo_plan_48 : decode b_Mo_plan 48 = .ok (.aload_n 0, 1) := by decide +kernel
theorem d_Mo_plan_49 : decode b_Mo_plan 49 = .ok (.getfield 26, 3) := by decide +kernel
theorem d_Mo_plan_52 : decode b_Mo_plan 52 = .ok (.iconst 3, 1) := by decide +kernel
theorem d_Mo_plan_53 : decode b_Mo_plan 53 = .ok (.aload_n 0, 1) := by decide +kernel
theorem d_Mo_plan_54 : decode b_Mo_plan 54 = .ok (.getfield 187, 3) := by decide +kernel
theorem d_Mo_plan_57 : decode b_Mo_plan 57 = .ok (.imul, 1) := by decide +kernel
theorem d_Mo_plan_58 : decode b_Mo_plan 58 = .ok (.iconst 1, 1) := by decide +kernel
theorem d_Mo_plan_59 : decode b_Mo_plan 59 = .ok (.iadd, 1) := by decide +kernel
theorem d_Mo_plan_60 : decode b_Mo_plan 60 = .ok (.iload_n 2, 1) := by decide +kernel
theorem d_Mo_plan_61 : decode b_Mo_plan 61 = .ok (.iastore, 1) := by decide +kernel
theorem d_Mo_plan_62 : decode b_Mo_plan 62 = .ok (.aload_n 0, 1) := by decide +kernel
theorem d_Mo_plan_63 : decode b_Mo_plan 63 = .ok (.getfield 26, 3) := by decide +kernel
theorem d_Mo_plan_66 : decode b_Mo_plan 66 = .ok (.iconst 3, 1) := by decide +kernel
theorem d_Mo_plan_67 : decode b_Mo_plan 67 = .ok (.aload_n 0, 1) := by decide +kernel
theorem d_Mo_plan_68 : decode b_Mo_plan 68 = .ok (.getfield 187, 3) := by decide +kernel
theorem d_Mo_plan_71 : decode b_Mo_plan 71 = .ok (.imul, 1) := by decide +kernel
theorem d_Mo_plan_72 : decode b_Mo_plan 72 = .ok (.iconst 2, 1) := by decide +kernel
theorem d_Mo_plan_73 : decode b_Mo_plan 73 = .ok (.iadd, 1) := by decide +kernel
theorem d_Mo_plan_74 : decode b_Mo_plan 74 = .ok (.iload_n 3, 1) := by decide +kernel
theorem d_Mo_plan_75 : decode b_Mo_plan 75 = .ok (.iastore, 1) := by decide +kernel
theorem d_Mo_plan_76 : decode b_Mo_plan 76 = .ok (.aload_n 0, 1) := by decide +kernel
theorem d_Mo_plan_77 : decode b_Mo_plan 77 = .ok (.dup, 1) := by decide +kernel
theorem d_Mo_plan_78 : decode b_Mo_plan 78 = .ok (.getfield 187, 3) := by decide +kernel
theorem d_Mo_plan_81 : decode b_Mo_plan 81 = .ok (.iconst 1, 1) := by decide +kernel
theorem d_Mo_plan_82 : decode b_Mo_plan 82 = .ok (.iadd, 1) := by decide +kernel
theorem d_Mo_plan_83 : decode b_Mo_plan 83 = .ok (.putfield 187, 3) := by decide +kernel
theorem d_Mo_plan_86 : decode b_Mo_plan 86 = .ok (.iconst 1, 1) := by decide +kernel
theorem d_Mo_plan_87 : decode b_Mo_plan 87 = .ok (.ireturn, 1) := by decide +kernel
theorem d_Mo_planned_0 : decode b_Mo_planned 0 = .ok (.aload_n 0, 1) := by decide +kernel
theorem d_Mo_planned_1 : decode b_Mo_planned 1 = .ok (.getfield 187, 3) := by decide +kernel
theorem d_Mo_planned_4 : decode b_Mo_planned 4 = .ok (.ireturn, 1) := by decide +kernel
theorem d_Mo_register_0 : decode b_Mo_register 0 = .ok (.iload_n 1, 1) := by decide +kernel
theorem d_Mo_register_1 : decode b_Mo_register 1 = .ok (.bipush 31, 2) := by decide +kernel
theorem d_Mo_register_3 : decode b_Mo_register 3 = .ok (.invokestatic 135, 3) := by decide +kernel
theorem d_Mo_register_6 : decode b_Mo_register 6 = .ok (.ifCond .eq 7, 3) := by decide +kernel
theorem d_Mo_register_13 : decode b_Mo_register 13 = .ok (.aload_n 0, 1) := by decide +kernel
theorem d_Mo_register_14 : decode b_Mo_register 14 = .ok (.iload_n 1, 1) := by decide +kernel
theorem d_Mo_register_15 : decode b_Mo_register 15 = .ok (.invokevirtual 87, 3) := by decide +kernel
theorem d_Mo_register_18 : decode b_Mo_register 18 = .ok (.ireturn, 1) := by decide +kernel
theorem d_Mo_register_9 : decode b_Mo_register 9 = .ok (.iconst 0, 1) := by decide +kernel
theorem d_Mo_register_10 : decode b_Mo_register 10 = .ok (.goto 8, 3) := by decide +kernel
theorem d_Mo_look_0 : decode b_Mo_look 0 = .ok (.iload_n 1, 1) := by decide +kernel
theorem d_Mo_look_1 : decode b_Mo_look 1 = .ok (.bipush 63, 2) := by decide +kernel
theorem d_Mo_look_3 : decode b_Mo_look 3 = .ok (.invokestatic 135, 3) := by decide +kernel
theorem d_Mo_look_6 : decode b_Mo_look 6 = .ok (.ifCond .eq 7, 3) := by decide +kernel
theorem d_Mo_look_13 : decode b_Mo_look 13 = .ok (.aload_n 0, 1) := by decide +kernel
theorem d_Mo_look_14 : decode b_Mo_look 14 = .ok (.getfield 13, 3) := by decide +kernel
theorem d_Mo_look_17 : decode b_Mo_look 17 = .ok (.iload_n 1, 1) := by decide +kernel
theorem d_Mo_look_18 : decode b_Mo_look 18 = .ok (.laload, 1) := by decide +kernel
theorem d_Mo_look_19 : decode b_Mo_look 19 = .ok (.invokestatic 48, 3) := by decide +kernel
theorem d_Mo_look_22 : decode b_Mo_look 22 = .ok (.istore_n 2, 1) := by decide +kernel
theorem d_Mo_look_23 : decode b_Mo_look 23 = .ok (.iload_n 2, 1) := by decide +kernel
theorem d_Mo_look_24 : decode b_Mo_look 24 = .ok (.ifCond .lt 16, 3) := by decide +kernel
theorem d_Mo_look_40 : decode b_Mo_look 40 = .ok (.aload_n 0, 1) := by decide +kernel
theorem d_Mo_look_41 : decode b_Mo_look 41 = .ok (.getfield 13, 3) := by decide +kernel
theorem d_Mo_look_44 : decode b_Mo_look 44 = .ok (.iload_n 1, 1) := by decide +kernel
theorem d_Mo_look_45 : decode b_Mo_look 45 = .ok (.laload, 1) := by decide +kernel
theorem d_Mo_look_46 : decode b_Mo_look 46 = .ok (.lstore_n 3, 1) := by decide +kernel
theorem d_Mo_look_47 : decode b_Mo_look 47 = .ok (.iload_n 2, 1) := by decide +kernel
theorem d_Mo_look_48 : decode b_Mo_look 48 = .ok (.bipush (-2), 2) := by decide +kernel
theorem d_Mo_look_50 : decode b_Mo_look 50 = .ok (.if_icmp .ne 9, 3) := by decide +kernel
theorem d_Mo_look_59 : decode b_Mo_look 59 = .ok (.aload_n 0, 1) := by decide +kernel
theorem d_Mo_look_60 : decode b_Mo_look 60 = .ok (.getfield 7, 3) := by decide +kernel
theorem d_Mo_look_63 : decode b_Mo_look 63 = .ok (.iload_n 1, 1) := by decide +kernel
theorem d_Mo_look_64 : decode b_Mo_look 64 = .ok (.iaload, 1) := by decide +kernel
theorem d_Mo_look_65 : decode b_Mo_look 65 = .ok (.lload_n 3, 1) := by decide +kernel
theorem d_Mo_look_66 : decode b_Mo_look 66 = .ok (.invokestatic 70, 3) := by decide +kernel
theorem d_Mo_look_69 : decode b_Mo_look 69 = .ok (.ixor, 1) := by decide +kernel
theorem d_Mo_look_70 : decode b_Mo_look 70 = .ok (.i2l, 1) := by decide +kernel
theorem d_Mo_look_71 : decode b_Mo_look 71 = .ok (.ldc2_w 51, 3) := by decide +kernel
theorem d_Mo_look_74 : decode b_Mo_look 74 = .ok (.land, 1) := by decide +kernel
theorem d_Mo_look_75 : decode b_Mo_look 75 = .ok (.lreturn, 1) := by decide +kernel
theorem d_Mo_look_53 : decode b_Mo_look 53 = .ok (.ldc2_w 213, 3) := by decide +kernel
theorem d_Mo_look_56 : decode b_Mo_look 56 = .ok (.goto 19, 3) := by decide +kernel
theorem d_Mo_look_27 : decode b_Mo_look 27 = .ok (.aload_n 0, 1) := by decide +kernel
theorem d_Mo_look_28 : decode b_Mo_look 28 = .ok (.getfield 13, 3) := by decide +kernel
theorem d_Mo_look_31 : decode b_Mo_look 31 = .ok (.iload_n 1, 1) := by decide +kernel
theorem d_Mo_look_32 : decode b_Mo_look 32 = .ok (.laload, 1) := by decide +kernel
theorem d_Mo_look_33 : decode b_Mo_look 33 = .ok (.lconst 1, 1) := by decide +kernel
theorem d_Mo_look_34 : decode b_Mo_look 34 = .ok (.iload_n 2, 1) := by decide +kernel
theorem d_Mo_look_35 : decode b_Mo_look 35 = .ok (.lshl, 1) := by decide +kernel
theorem d_Mo_look_36 : decode b_Mo_look 36 = .ok (.lxor, 1) := by decide +kernel
theorem d_Mo_look_37 : decode b_Mo_look 37 = .ok (.goto 9, 3) := by decide +kernel
theorem d_Mo_look_9 : decode b_Mo_look 9 = .ok (.ldc2_w 211, 3) := by decide +kernel
theorem d_Mo_look_12 : decode b_Mo_look 12 = .ok (.lreturn, 1) := by decide +kernel
theorem d_Mo_bits_0 : decode b_Mo_bits 0 = .ok (.iload_n 1, 1) := by decide +kernel
theorem d_Mo_bits_1 : decode b_Mo_bits 1 = .ok (.sipush 167, 3) := by decide +kernel
theorem d_Mo_bits_4 : decode b_Mo_bits 4 = .ok (.invokestatic 135, 3) := by decide +kernel
theorem d_Mo_bits_7 : decode b_Mo_bits 7 = .ok (.ifCond .eq 7, 3) := by decide +kernel
theorem d_Mo_bits_14 : decode b_Mo_bits 14 = .ok (.iload_n 1, 1) := by decide +kernel
theorem d_Mo_bits_15 : decode b_Mo_bits 15 = .ok (.sipush 159, 3) := by decide +kernel
theorem d_Mo_bits_18 : decode b_Mo_bits 18 = .ok (.if_icmp .le 14, 3) := by decide +kernel
theorem d_Mo_bits_32 : decode b_Mo_bits 32 = .ok (.iload_n 1, 1) := by decide +kernel
theorem d_Mo_bits_33 : decode b_Mo_bits 33 = .ok (.bipush 64, 2) := by decide +kernel
theorem d_Mo_bits_35 : decode b_Mo_bits 35 = .ok (.if_icmp .ge 22, 3) := by decide +kernel
theorem d_Mo_bits_57 : decode b_Mo_bits 57 = .ok (.aload_n 0, 1) := by decide +kernel
theorem d_Mo_bits_58 : decode b_Mo_bits 58 = .ok (.getfield 17, 3) := by decide +kernel
theorem d_Mo_bits_61 : decode b_Mo_bits 61 = .ok (.iload_n 1, 1) := by decide +kernel
theorem d_Mo_bits_62 : decode b_Mo_bits 62 = .ok (.bipush 64, 2) := by decide +kernel
theorem d_Mo_bits_64 : decode b_Mo_bits 64 = .ok (.isub, 1) := by decide +kernel
theorem d_Mo_bits_65 : decode b_Mo_bits 65 = .ok (.iconst 3, 1) := by decide +kernel
theorem d_Mo_bits_66 : decode b_Mo_bits 66 = .ok (.idiv, 1) := by decide +kernel
theorem d_Mo_bits_67 : decode b_Mo_bits 67 = .ok (.iaload, 1) := by decide +kernel
theorem d_Mo_bits_68 : decode b_Mo_bits 68 = .ok (.aload_n 0, 1) := by decide +kernel
theorem d_Mo_bits_69 : decode b_Mo_bits 69 = .ok (.getfield 20, 3) := by decide +kernel
theorem d_Mo_bits_72 : decode b_Mo_bits 72 = .ok (.iload_n 1, 1) := by decide +kernel
theorem d_Mo_bits_73 : decode b_Mo_bits 73 = .ok (.bipush 64, 2) := by decide +kernel
theorem d_Mo_bits_75 : decode b_Mo_bits 75 = .ok (.isub, 1) := by decide +kernel
theorem d_Mo_bits_76 : decode b_Mo_bits 76 = .ok (.iaload, 1) := by decide +kernel
theorem d_Mo_bits_77 : decode b_Mo_bits 77 = .ok (.ixor, 1) := by decide +kernel
theorem d_Mo_bits_78 : decode b_Mo_bits 78 = .ok (.i2l, 1) := by decide +kernel
theorem d_Mo_bits_79 : decode b_Mo_bits 79 = .ok (.ldc2_w 51, 3) := by decide +kernel
theorem d_Mo_bits_82 : decode b_Mo_bits 82 = .ok (.land, 1) := by decide +kernel
theorem d_Mo_bits_83 : decode b_Mo_bits 83 = .ok (.lreturn, 1) := by decide +kernel
theorem d_Mo_bits_38 : decode b_Mo_bits 38 = .ok (.aload_n 0, 1) := by decide +kernel
theorem d_Mo_bits_39 : decode b_Mo_bits 39 = .ok (.getfield 7, 3) := by decide +kernel
theorem d_Mo_bits_42 : decode b_Mo_bits 42 = .ok (.iload_n 1, 1) := by decide +kernel
theorem d_Mo_bits_43 : decode b_Mo_bits 43 = .ok (.iaload, 1) := by decide +kernel
theorem d_Mo_bits_44 : decode b_Mo_bits 44 = .ok (.invokestatic 215, 3) := by decide +kernel
