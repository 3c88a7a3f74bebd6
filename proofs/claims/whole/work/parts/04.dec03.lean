theorem d_V_invert_71 : decode b_V_invert 71 = .ok (.dup2, 1) := by decide +kernel
theorem d_V_invert_72 : decode b_V_invert 72 = .ok (.laload, 1) := by decide +kernel
theorem d_V_invert_73 : decode b_V_invert 73 = .ok (.lconst 1, 1) := by decide +kernel
theorem d_V_invert_74 : decode b_V_invert 74 = .ok (.iload_n 2, 1) := by decide +kernel
theorem d_V_invert_75 : decode b_V_invert 75 = .ok (.lshl, 1) := by decide +kernel
theorem d_V_invert_76 : decode b_V_invert 76 = .ok (.lxor, 1) := by decide +kernel
theorem d_V_invert_77 : decode b_V_invert 77 = .ok (.lastore, 1) := by decide +kernel
theorem d_V_invert_78 : decode b_V_invert 78 = .ok (.goto 22, 3) := by decide +kernel
theorem d_V_invert_31 : decode b_V_invert 31 = .ok (.aload_n 0, 1) := by decide +kernel
theorem d_V_invert_32 : decode b_V_invert 32 = .ok (.getfield 29, 3) := by decide +kernel
theorem d_V_invert_35 : decode b_V_invert 35 = .ok (.getfield 84, 3) := by decide +kernel
theorem d_V_invert_38 : decode b_V_invert 38 = .ok (.iload_n 1, 1) := by decide +kernel
theorem d_V_invert_39 : decode b_V_invert 39 = .ok (.bipush 64, 2) := by decide +kernel
theorem d_V_invert_41 : decode b_V_invert 41 = .ok (.isub, 1) := by decide +kernel
theorem d_V_invert_42 : decode b_V_invert 42 = .ok (.dup2, 1) := by decide +kernel
theorem d_V_invert_43 : decode b_V_invert 43 = .ok (.iaload, 1) := by decide +kernel
theorem d_V_invert_44 : decode b_V_invert 44 = .ok (.iconst 1, 1) := by decide +kernel
theorem d_V_invert_45 : decode b_V_invert 45 = .ok (.iload_n 2, 1) := by decide +kernel
theorem d_V_invert_46 : decode b_V_invert 46 = .ok (.ishl, 1) := by decide +kernel
theorem d_V_invert_47 : decode b_V_invert 47 = .ok (.ixor, 1) := by decide +kernel
theorem d_V_invert_48 : decode b_V_invert 48 = .ok (.iastore, 1) := by decide +kernel
theorem d_V_invert_49 : decode b_V_invert 49 = .ok (.goto 51, 3) := by decide +kernel
theorem d_V_invert_6 : decode b_V_invert 6 = .ok (.aload_n 0, 1) := by decide +kernel
theorem d_V_invert_7 : decode b_V_invert 7 = .ok (.getfield 12, 3) := by decide +kernel
theorem d_V_invert_10 : decode b_V_invert 10 = .ok (.getfield 80, 3) := by decide +kernel
theorem d_V_invert_13 : decode b_V_invert 13 = .ok (.iload_n 1, 1) := by decide +kernel
theorem d_V_invert_14 : decode b_V_invert 14 = .ok (.dup2, 1) := by decide +kernel
theorem d_V_invert_15 : decode b_V_invert 15 = .ok (.laload, 1) := by decide +kernel
theorem d_V_invert_16 : decode b_V_invert 16 = .ok (.lconst 1, 1) := by decide +kernel
theorem d_V_invert_17 : decode b_V_invert 17 = .ok (.iload_n 2, 1) := by decide +kernel
theorem d_V_invert_18 : decode b_V_invert 18 = .ok (.lshl, 1) := by decide +kernel
theorem d_V_invert_19 : decode b_V_invert 19 = .ok (.lxor, 1) := by decide +kernel
theorem d_V_invert_20 : decode b_V_invert 20 = .ok (.lastore, 1) := by decide +kernel
theorem d_V_invert_21 : decode b_V_invert 21 = .ok (.goto 79, 3) := by decide +kernel
theorem d_V_write_0 : decode b_V_write 0 = .ok (.iload_n 1, 1) := by decide +kernel
theorem d_V_write_1 : decode b_V_write 1 = .ok (.invokestatic 53, 3) := by decide +kernel
theorem d_V_write_4 : decode b_V_write 4 = .ok (.ifCond .ne 5, 3) := by decide +kernel
theorem d_V_write_9 : decode b_V_write 9 = .ok (.aload_n 0, 1) := by decide +kernel
theorem d_V_write_10 : decode b_V_write 10 = .ok (.getfield 12, 3) := by decide +kernel
theorem d_V_write_13 : decode b_V_write 13 = .ok (.iload_n 1, 1) := by decide +kernel
theorem d_V_write_14 : decode b_V_write 14 = .ok (.iload_n 2, 1) := by decide +kernel
theorem d_V_write_15 : decode b_V_write 15 = .ok (.invokevirtual 57, 3) := by decide +kernel
theorem d_V_write_18 : decode b_V_write 18 = .ok (.aload_n 0, 1) := by decide +kernel
theorem d_V_write_19 : decode b_V_write 19 = .ok (.getfield 19, 3) := by decide +kernel
theorem d_V_write_22 : decode b_V_write 22 = .ok (.invokevirtual 61, 3) := by decide +kernel
theorem d_V_write_25 : decode b_V_write 25 = .ok (.aload_n 0, 1) := by decide +kernel
theorem d_V_write_26 : decode b_V_write 26 = .ok (.getfield 23, 3) := by decide +kernel
theorem d_V_write_29 : decode b_V_write 29 = .ok (.invokevirtual 61, 3) := by decide +kernel
theorem d_V_write_32 : decode b_V_write 32 = .ok (.iconst 1, 1) := by decide +kernel
theorem d_V_write_33 : decode b_V_write 33 = .ok (.ireturn, 1) := by decide +kernel
theorem d_V_write_7 : decode b_V_write 7 = .ok (.iconst 0, 1) := by decide +kernel
theorem d_V_write_8 : decode b_V_write 8 = .ok (.ireturn, 1) := by decide +kernel
theorem d_V_set_0 : decode b_V_set 0 = .ok (.iload_n 1, 1) := by decide +kernel
theorem d_V_set_1 : decode b_V_set 1 = .ok (.invokestatic 64, 3) := by decide +kernel
theorem d_V_set_4 : decode b_V_set 4 = .ok (.ifCond .ne 5, 3) := by decide +kernel
theorem d_V_set_9 : decode b_V_set 9 = .ok (.aload_n 0, 1) := by decide +kernel
theorem d_V_set_10 : decode b_V_set 10 = .ok (.getfield 29, 3) := by decide +kernel
theorem d_V_set_13 : decode b_V_set 13 = .ok (.iload_n 1, 1) := by decide +kernel
theorem d_V_set_14 : decode b_V_set 14 = .ok (.iload_n 2, 1) := by decide +kernel
theorem d_V_set_15 : decode b_V_set 15 = .ok (.invokevirtual 67, 3) := by decide +kernel
theorem d_V_set_18 : decode b_V_set 18 = .ok (.iconst 1, 1) := by decide +kernel
theorem d_V_set_19 : decode b_V_set 19 = .ok (.ireturn, 1) := by decide +kernel
theorem d_V_set_7 : decode b_V_set 7 = .ok (.iconst 0, 1) := by decide +kernel
theorem d_V_set_8 : decode b_V_set 8 = .ok (.ireturn, 1) := by decide +kernel
theorem d_V_register_0 : decode b_V_register 0 = .ok (.iload_n 1, 1) := by decide +kernel
theorem d_V_register_1 : decode b_V_register 1 = .ok (.invokestatic 64, 3) := by decide +kernel
theorem d_V_register_4 : decode b_V_register 4 = .ok (.ifCond .eq 14, 3) := by decide +kernel
theorem d_V_register_18 : decode b_V_register 18 = .ok (.iconst 0, 1) := by decide +kernel
theorem d_V_register_19 : decode b_V_register 19 = .ok (.ireturn, 1) := by decide +kernel
theorem d_V_register_7 : decode b_V_register 7 = .ok (.aload_n 0, 1) := by decide +kernel
theorem d_V_register_8 : decode b_V_register 8 = .ok (.getfield 29, 3) := by decide +kernel
theorem d_V_register_11 : decode b_V_register 11 = .ok (.iload_n 1, 1) := by decide +kernel
theorem d_V_register_12 : decode b_V_register 12 = .ok (.invokevirtual 70, 3) := by decide +kernel
theorem d_V_register_15 : decode b_V_register 15 = .ok (.goto 4, 3) := by decide +kernel
theorem d_V_look_0 : decode b_V_look 0 = .ok (.iload_n 1, 1) := by decide +kernel
theorem d_V_look_1 : decode b_V_look 1 = .ok (.invokestatic 53, 3) := by decide +kernel
theorem d_V_look_4 : decode b_V_look 4 = .ok (.ifCond .eq 14, 3) := by decide +kernel
theorem d_V_look_18 : decode b_V_look 18 = .ok (.ldc2_w 78, 3) := by decide +kernel
theorem d_V_look_21 : decode b_V_look 21 = .ok (.lreturn, 1) := by decide +kernel
theorem d_V_look_7 : decode b_V_look 7 = .ok (.aload_n 0, 1) := by decide +kernel
theorem d_V_look_8 : decode b_V_look 8 = .ok (.getfield 12, 3) := by decide +kernel
theorem d_V_look_11 : decode b_V_look 11 = .ok (.iload_n 1, 1) := by decide +kernel
theorem d_V_look_12 : decode b_V_look 12 = .ok (.invokevirtual 74, 3) := by decide +kernel
theorem d_V_look_15 : decode b_V_look 15 = .ok (.goto 6, 3) := by decide +kernel
theorem d_V_bits_0 : decode b_V_bits 0 = .ok (.iload_n 1, 1) := by decide +kernel
theorem d_V_bits_1 : decode b_V_bits 1 = .ok (.ifCond .lt 10, 3) := by decide +kernel
theorem d_V_bits_11 : decode b_V_bits 11 = .ok (.ldc2_w 78, 3) := by decide +kernel
theorem d_V_bits_14 : decode b_V_bits 14 = .ok (.lreturn, 1) := by decide +kernel
theorem d_V_bits_4 : decode b_V_bits 4 = .ok (.iload_n 1, 1) := by decide +kernel
theorem d_V_bits_5 : decode b_V_bits 5 = .ok (.sipush 168, 3) := by decide +kernel
theorem d_V_bits_8 : decode b_V_bits 8 = .ok (.if_icmp .lt 7, 3) := by decide +kernel
theorem d_V_bits_15 : decode b_V_bits 15 = .ok (.iload_n 1, 1) := by decide +kernel
theorem d_V_bits_16 : decode b_V_bits 16 = .ok (.bipush 64, 2) := by decide +kernel
theorem d_V_bits_18 : decode b_V_bits 18 = .ok (.if_icmp .ge 13, 3) := by decide +kernel
theorem d_V_bits_31 : decode b_V_bits 31 = .ok (.iload_n 1, 1) := by decide +kernel
theorem d_V_bits_32 : decode b_V_bits 32 = .ok (.sipush 160, 3) := by decide +kernel
theorem d_V_bits_35 : decode b_V_bits 35 = .ok (.if_icmp .ge 21, 3) := by decide +kernel
theorem d_V_bits_56 : decode b_V_bits 56 = .ok (.iload_n 1, 1) := by decide +kernel
theorem d_V_bits_57 : decode b_V_bits 57 = .ok (.sipush 164, 3) := by decide +kernel
theorem d_V_bits_60 : decode b_V_bits 60 = .ok (.if_icmp .ge 17, 3) := by decide +kernel
theorem d_V_bits_77 : decode b_V_bits 77 = .ok (.aload_n 0, 1) := by decide +kernel
theorem d_V_bits_78 : decode b_V_bits 78 = .ok (.getfield 23, 3) := by decide +kernel
theorem d_V_bits_81 : decode b_V_bits 81 = .ok (.getfield 90, 3) := by decide +kernel
theorem d_V_bits_84 : decode b_V_bits 84 = .ok (.iload_n 1, 1) := by decide +kernel
theorem d_V_bits_85 : decode b_V_bits 85 = .ok (.sipush 164, 3) := by decide +kernel
theorem d_V_bits_88 : decode b_V_bits 88 = .ok (.isub, 1) := by decide +kernel
theorem d_V_bits_89 : decode b_V_bits 89 = .ok (.laload, 1) := by decide +kernel
theorem d_V_bits_90 : decode b_V_bits 90 = .ok (.lreturn, 1) := by decide +kernel
theorem d_V_bits_63 : decode b_V_bits 63 = .ok (.aload_n 0, 1) := by decide +kernel
theorem d_V_bits_64 : decode b_V_bits 64 = .ok (.getfield 19, 3) := by decide +kernel
theorem d_V_bits_67 : decode b_V_bits 67 = .ok (.getfield 90, 3) := by decide +kernel
theorem d_V_bits_70 : decode b_V_bits 70 = .ok (.iload_n 1, 1) := by decide +kernel
theorem d_V_bits_71 : decode b_V_bits 71 = .ok (.sipush 160, 3) := by decide +kernel
theorem d_V_bits_74 : decode b_V_bits 74 = .ok (.isub, 1) := by decide +kernel
theorem d_V_bits_75 : decode b_V_bits 75 = .ok (.laload, 1) := by decide +kernel
theorem d_V_bits_76 : decode b_V_bits 76 = .ok (.lreturn, 1) := by decide +kernel
theorem d_V_bits_38 : decode b_V_bits 38 = .ok (.aload_n 0, 1) := by decide +kernel
theorem d_V_bits_39 : decode b_V_bits 39 = .ok (.getfield 29, 3) := by decide +kernel
theorem d_V_bits_42 : decode b_V_bits 42 = .ok (.getfield 84, 3) := by decide +kernel
theorem d_V_bits_45 : decode b_V_bits 45 = .ok (.iload_n 1, 1) := by decide +kernel
theorem d_V_bits_46 : decode b_V_bits 46 = .ok (.bipush 64, 2) := by decide +kernel
theorem d_V_bits_48 : decode b_V_bits 48 = .ok (.isub, 1) := by decide +kernel
theorem d_V_bits_49 : decode b_V_bits 49 = .ok (.iaload, 1) := by decide +kernel
theorem d_V_bits_50 : decode b_V_bits 50 = .ok (.i2l, 1) := by decide +kernel
theorem d_V_bits_51 : decode b_V_bits 51 = .ok (.ldc2_w 88, 3) := by decide +kernel
theorem d_V_bits_54 : decode b_V_bits 54 = .ok (.land, 1) := by decide +kernel
theorem d_V_bits_55 : decode b_V_bits 55 = .ok (.lreturn, 1) := by decide +kernel
theorem d_V_bits_21 : decode b_V_bits 21 = .ok (.aload_n 0, 1) := by decide +kernel
theorem d_V_bits_22 : decode b_V_bits 22 = .ok (.getfield 12, 3) := by decide +kernel
theorem d_V_bits_25 : decode b_V_bits 25 = .ok (.getfield 80, 3) := by decide +kernel
theorem d_V_bits_28 : decode b_V_bits 28 = .ok (.iload_n 1, 1) := by decide +kernel
theorem d_V_bits_29 : decode b_V_bits 29 = .ok (.laload, 1) := by decide +kernel
theorem d_V_bits_30 : decode b_V_bits 30 = .ok (.lreturn, 1) := by decide +kernel
theorem d_V_flip_0 : decode b_V_flip 0 = .ok (.iload_n 1, 1) := by decide +kernel
theorem d_V_flip_1 : decode b_V_flip 1 = .ok (.iload_n 2, 1) := by decide +kernel
theorem d_V_flip_2 : decode b_V_flip 2 = .ok (.invokestatic 93, 3) := by decide +kernel
theorem d_V_flip_5 : decode b_V_flip 5 = .ok (.ifCond .ne 5, 3) := by decide +kernel
theorem d_V_flip_10 : decode b_V_flip 10 = .ok (.aload_n 0, 1) := by decide +kernel
theorem d_V_flip_11 : decode b_V_flip 11 = .ok (.iload_n 1, 1) := by decide +kernel
theorem d_V_flip_12 : decode b_V_flip 12 = .ok (.iload_n 2, 1) := by decide +kernel
theorem d_V_flip_13 : decode b_V_flip 13 = .ok (.invokevirtual 97, 3) := by decide +kernel
theorem d_V_flip_16 : decode b_V_flip 16 = .ok (.iconst 1, 1) := by decide +kernel
theorem d_V_flip_17 : decode b_V_flip 17 = .ok (.ireturn, 1) := by decide +kernel
theorem d_V_flip_8 : decode b_V_flip 8 = .ok (.iconst 0, 1) := by decide +kernel
theorem d_V_flip_9 : decode b_V_flip 9 = .ok (.ireturn, 1) := by decide +kernel
theorem d_V_plan_0 : decode b_V_plan 0 = .ok (.iload_n 1, 1) := by decide +kernel
theorem d_V_plan_1 : decode b_V_plan 1 = .ok (.iconst 1, 1) := by decide +kernel
theorem d_V_plan_2 : decode b_V_plan 2 = .ok (.if_icmp .lt 30, 3) := by decide +kernel
theorem d_V_plan_32 : decode b_V_plan 32 = .ok (.iconst 0, 1) := by decide +kernel
theorem d_V_plan_33 : decode b_V_plan 33 = .ok (.ireturn, 1) := by decide +kernel
theorem d_V_plan_5 : decode b_V_plan 5 = .ok (.iload_n 1, 1) := by decide +kernel
theorem d_V_plan_6 : decode b_V_plan 6 = .ok (.sipush 1000, 3) := by decide +kernel
theorem d_V_plan_9 : decode b_V_plan 9 = .ok (.if_icmp .gt 23, 3) := by decide +kernel
theorem d_V_plan_12 : decode b_V_plan 12 = .ok (.iload_n 2, 1) := by decide +kernel
theorem d_V_plan_13 : decode b_V_plan 13 = .ok (.iload_n 3, 1) := by decide +kernel
theorem d_V_plan_14 : decode b_V_plan 14 = .ok (.invokestatic 93, 3) := by decide +kernel
theorem d_V_plan_17 : decode b_V_plan 17 = .ok (.ifCond .eq 15, 3) := by decide +kernel
theorem d_V_plan_20 : decode b_V_plan 20 = .ok (.aload_n 0, 1) := by decide +kernel
theorem d_V_plan_21 : decode b_V_plan 21 = .ok (.getfield 36, 3) := by decide +kernel
theorem d_V_plan_24 : decode b_V_plan 24 = .ok (.getfield 100, 3) := by decide +kernel
theorem d_V_plan_27 : decode b_V_plan 27 = .ok (.bipush 16, 2) := by decide +kernel
theorem d_V_plan_29 : decode b_V_plan 29 = .ok (.if_icmp .ne 5, 3) := by decide +kernel
theorem d_V_plan_34 : decode b_V_plan 34 = .ok (.aload_n 0, 1) := by decide +kernel
theorem d_V_plan_35 : decode b_V_plan 35 = .ok (.getfield 36, 3) := by decide +kernel
theorem d_V_plan_38 : decode b_V_plan 38 = .ok (.aload_n 0, 1) := by decide +kernel
theorem d_V_plan_39 : decode b_V_plan 39 = .ok (.getfield 103, 3) := by decide +kernel
theorem d_V_plan_42 : decode b_V_plan 42 = .ok (.iload_n 1, 1) := by decide +kernel
theorem d_V_plan_43 : decode b_V_plan 43 = .ok (.iadd, 1) := by decide +kernel
theorem d_V_plan_44 : decode b_V_plan 44 = .ok (.iload_n 2, 1) := by decide +kernel
theorem d_V_plan_45 : decode b_V_plan 45 = .ok (.iload_n 3, 1) := by decide +kernel
theorem d_V_plan_46 : decode b_V_plan 46 = .ok (.invokevirtual 106, 3) := by decide +kernel
theorem d_V_plan_49 : decode b_V_plan 49 = .ok (.iconst 1, 1) := by decide +kernel
theorem d_V_plan_50 : decode b_V_plan 50 = .ok (.ireturn, 1) := by decide +kernel
theorem d_V_planned_0 : decode b_V_planned 0 = .ok (.aload_n 0, 1) := by decide +kernel
theorem d_V_planned_1 : decode b_V_planned 1 = .ok (.getfield 36, 3) := by decide +kernel
theorem d_V_planned_4 : decode b_V_planned 4 = .ok (.getfield 100, 3) := by decide +kernel
theorem d_V_planned_7 : decode b_V_planned 7 = .ok (.ireturn, 1) := by decide +kernel
theorem d_V_cause_0 : decode b_V_cause 0 = .ok (.aload_n 0, 1) := by decide +kernel
theorem d_V_cause_1 : decode b_V_cause 1 = .ok (.getfield 110, 3) := by decide +kernel
theorem d_V_cause_4 : decode b_V_cause 4 = .ok (.ireturn, 1) := by decide +kernel
theorem d_V_value_0 : decode b_V_value 0 = .ok (.aload_n 0, 1) := by decide +kernel
theorem d_V_value_1 : decode b_V_value 1 = .ok (.getfield 125, 3) := by decide +kernel
theorem d_V_value_4 : decode b_V_value 4 = .ok (.ireturn, 1) := by decide +kernel
theorem d_V_cycles_0 : decode b_V_cycles 0 = .ok (.aload_n 0, 1) := by decide +kernel
theorem d_V_cycles_1 : decode b_V_cycles 1 = .ok (.getfield 103, 3) := by decide +kernel
theorem d_V_cycles_4 : decode b_V_cycles 4 = .ok (.ireturn, 1) := by decide +kernel
theorem d_V_count_0 : decode b_V_count 0 = .ok (.iload_n 1, 1) := by decide +kernel
theorem d_V_count_1 : decode b_V_count 1 = .ok (.tableswitch 81 0 5 #[39, 47, 52, 60, 68, 76], 39) := by decide +kernel
theorem d_V_count_40 : decode b_V_count 40 = .ok (.aload_n 0, 1) := by decide +kernel
theorem d_V_count_41 : decode b_V_count 41 = .ok (.getfield 12, 3) := by decide +kernel
theorem d_V_count_44 : decode b_V_count 44 = .ok (.getfield 131, 3) := by decide +kernel
theorem d_V_count_47 : decode b_V_count 47 = .ok (.ireturn, 1) := by decide +kernel
theorem d_V_count_48 : decode b_V_count 48 = .ok (.aload_n 0, 1) := by decide +kernel
theorem d_V_count_49 : decode b_V_count 49 = .ok (.getfield 134, 3) := by decide +kernel
theorem d_V_count_52 : decode b_V_count 52 = .ok (.ireturn, 1) := by decide +kernel
theorem d_V_count_53 : decode b_V_count 53 = .ok (.aload_n 0, 1) := by decide +kernel
theorem d_V_count_54 : decode b_V_count 54 = .ok (.getfield 29, 3) := by decide +kernel
theorem d_V_count_57 : decode b_V_count 57 = .ok (.getfield 137, 3) := by decide +kernel
theorem d_V_count_60 : decode b_V_count 60 = .ok (.ireturn, 1) := by decide +kernel
theorem d_V_count_61 : decode b_V_count 61 = .ok (.aload_n 0, 1) := by decide +kernel
theorem d_V_count_62 : decode b_V_count 62 = .ok (.getfield 19, 3) := by decide +kernel
theorem d_V_count_65 : decode b_V_count 65 = .ok (.getfield 140, 3) := by decide +kernel
theorem d_V_count_68 : decode b_V_count 68 = .ok (.ireturn, 1) := by decide +kernel
theorem d_V_count_69 : decode b_V_count 69 = .ok (.aload_n 0, 1) := by decide +kernel
theorem d_V_count_70 : decode b_V_count 70 = .ok (.getfield 23, 3) := by decide +kernel
theorem d_V_count_73 : decode b_V_count 73 = .ok (.getfield 140, 3) := by decide +kernel
theorem d_V_count_76 : decode b_V_count 76 = .ok (.ireturn, 1) := by decide +kernel
theorem d_V_count_77 : decode b_V_count 77 = .ok (.aload_n 0, 1) := by decide +kernel
theorem d_V_count_78 : decode b_V_count 78 = .ok (.getfield 143, 3) := by decide +kernel
theorem d_V_count_81 : decode b_V_count 81 = .ok (.ireturn, 1) := by decide +kernel
theorem d_V_count_82 : decode b_V_count 82 = .ok (.iconst (-1), 1) := by decide +kernel
theorem d_V_count_83 : decode b_V_count 83 = .ok (.ireturn, 1) := by decide +kernel
theorem d_V_stop_0 : decode b_V_stop 0 = .ok (.aload_n 0, 1) := by decide +kernel
theorem d_V_stop_1 : decode b_V_stop 1 = .ok (.iload_n 1, 1) := by decide +kernel
theorem d_V_stop_2 : decode b_V_stop 2 = .ok (.putfield 110, 3) := by decide +kernel
theorem d_V_stop_5 : decode b_V_stop 5 = .ok (.aload_n 0, 1) := by decide +kernel
theorem d_V_stop_6 : decode b_V_stop 6 = .ok (.iload_n 2, 1) := by decide +kernel
theorem d_V_stop_7 : decode b_V_stop 7 = .ok (.putfield 125, 3) := by decide +kernel
theorem d_V_stop_10 : decode b_V_stop 10 = .ok (.return_, 1) := by decide +kernel
theorem d_V_resume_0 : decode b_V_resume 0 = .ok (.aload_n 0, 1) := by decide +kernel
theorem d_V_resume_1 : decode b_V_resume 1 = .ok (.getfield 110, 3) := by decide +kernel
theorem d_V_resume_4 : decode b_V_resume 4 = .ok (.ifCond .ne 5, 3) := by decide +kernel
theorem d_V_resume_9 : decode b_V_resume 9 = .ok (.aload_n 0, 1) := by decide +kernel
theorem d_V_resume_10 : decode b_V_resume 10 = .ok (.iconst 0, 1) := by decide +kernel
theorem d_V_resume_11 : decode b_V_resume 11 = .ok (.iconst 0, 1) := by decide +kernel
theorem d_V_resume_12 : decode b_V_resume 12 = .ok (.invokevirtual 128, 3) := by decide +kernel
theorem d_V_resume_15 : decode b_V_resume 15 = .ok (.aload_n 0, 1) := by decide +kernel
theorem d_V_resume_16 : decode b_V_resume 16 = .ok (.getfield 29, 3) := by decide +kernel
theorem d_V_resume_19 : decode b_V_resume 19 = .ok (.iconst 0, 1) := by decide +kernel
theorem d_V_resume_20 : decode b_V_resume 20 = .ok (.iload_n 1, 1) := by decide +kernel
theorem d_V_resume_21 : decode b_V_resume 21 = .ok (.invokevirtual 67, 3) := by decide +kernel
theorem d_V_resume_24 : decode b_V_resume 24 = .ok (.iconst 1, 1) := by decide +kernel
theorem d_V_resume_25 : decode b_V_resume 25 = .ok (.ireturn, 1) := by decide +kernel
theorem d_V_resume_7 : decode b_V_resume 7 = .ok (.iconst 0, 1) := by decide +kernel
theorem d_V_resume_8 : decode b_V_resume 8 = .ok (.ireturn, 1) := by decide +kernel
theorem d_V_makePlannedFaults_0 : decode b_V_makePlannedFaults 0 = .ok (.iconst 0, 1) := by decide +kernel
theorem d_V_makePlannedFaults_1 : decode b_V_makePlannedFaults 1 = .ok (.istore_n 1, 1) := by decide +kernel
theorem d_V_makePlannedFaults_2 : decode b_V_makePlannedFaults 2 = .ok (.iconst 0, 1) := by decide +kernel
theorem d_V_makePlannedFaults_3 : decode b_V_makePlannedFaults 3 = .ok (.istore_n 2, 1) := by decide +kernel
theorem d_V_makePlannedFaults_4 : decode b_V_makePlannedFaults 4 = .ok (.iload_n 2, 1) := by decide +kernel
theorem d_V_makePlannedFaults_5 : decode b_V_makePlannedFaults 5 = .ok (.aload_n 0, 1) := by decide +kernel
theorem d_V_makePlannedFaults_6 : decode b_V_makePlannedFaults 6 = .ok (.getfield 36, 3) := by decide +kernel
theorem d_V_makePlannedFaults_9 : decode b_V_makePlannedFaults 9 = .ok (.getfield 100, 3) := by decide +kernel
theorem d_V_makePlannedFaults_12 : decode b_V_makePlannedFaults 12 = .ok (.if_icmp .ge 62, 3) := by decide +kernel
theorem d_V_makePlannedFaults_74 : decode b_V_makePlannedFaults 74 = .ok (.aload_n 0, 1) := by decide +kernel
theorem d_V_makePlannedFaults_75 : decode b_V_makePlannedFaults 75 = .ok (.getfield 36, 3) := by decide +kernel
theorem d_V_makePlannedFaults_78 : decode b_V_makePlannedFaults 78 = .ok (.iload_n 1, 1) := by decide +kernel
theorem d_V_makePlannedFaults_79 : decode b_V_makePlannedFaults 79 = .ok (.putfield 100, 3) := by decide +kernel
theorem d_V_makePlannedFaults_82 : decode b_V_makePlannedFaults 82 = .ok (.return_, 1) := by decide +kernel
theorem d_V_makePlannedFaults_15 : decode b_V_makePlannedFaults 15 = .ok (.aload_n 0, 1) := by decide +kernel
theorem d_V_makePlannedFaults_16 : decode b_V_makePlannedFaults 16 = .ok (.getfield 36, 3) := by decide +kernel
theorem d_V_makePlannedFaults_19 : decode b_V_makePlannedFaults 19 = .ok (.getfield 146, 3) := by decide +kernel
theorem d_V_makePlannedFaults_22 : decode b_V_makePlannedFaults 22 = .ok (.iload_n 2, 1) := by decide +kernel
theorem d_V_makePlannedFaults_23 : decode b_V_makePlannedFaults 23 = .ok (.iaload, 1) := by decide +kernel
theorem d_V_makePlannedFaults_24 : decode b_V_makePlannedFaults 24 = .ok (.aload_n 0, 1) := by decide +kernel
theorem d_V_makePlannedFaults_25 : decode b_V_makePlannedFaults 25 = .ok (.getfield 103, 3) := by decide +kernel
theorem d_V_makePlannedFaults_28 : decode b_V_makePlannedFaults 28 = .ok (.if_icmp .ne 28, 3) := by decide +kernel
theorem d_V_makePlannedFaults_56 : decode b_V_makePlannedFaults 56 = .ok (.aload_n 0, 1) := by decide +kernel
theorem d_V_makePlannedFaults_57 : decode b_V_makePlannedFaults 57 = .ok (.getfield 36, 3) := by decide +kernel
theorem d_V_makePlannedFaults_60 : decode b_V_makePlannedFaults 60 = .ok (.iload_n 2, 1) := by decide +kernel
theorem d_V_makePlannedFaults_61 : decode b_V_makePlannedFaults 61 = .ok (.iload_n 1, 1) := by decide +kernel
theorem d_V_makePlannedFaults_62 : decode b_V_makePlannedFaults 62 = .ok (.invokevirtual 155, 3) := by decide +kernel
theorem d_V_makePlannedFaults_65 : decode b_V_makePlannedFaults 65 = .ok (.iinc 1 1, 3) := by decide +kernel
theorem d_V_makePlannedFaults_68 : decode b_V_makePlannedFaults 68 = .ok (.iinc 2 1, 3) := by decide +kernel
theorem d_V_makePlannedFaults_71 : decode b_V_makePlannedFaults 71 = .ok (.goto (-67), 3) := by decide +kernel
theorem d_V_makePlannedFaults_31 : decode b_V_makePlannedFaults 31 = .ok (.aload_n 0, 1) := by decide +kernel
theorem d_V_makePlannedFaults_32 : decode b_V_makePlannedFaults 32 = .ok (.aload_n 0, 1) := by decide +kernel
theorem d_V_makePlannedFaults_33 : decode b_V_makePlannedFaults 33 = .ok (.getfield 36, 3) := by decide +kernel
theorem d_V_makePlannedFaults_36 : decode b_V_makePlannedFaults 36 = .ok (.getfield 149, 3) := by decide +kernel
theorem d_V_makePlannedFaults_39 : decode b_V_makePlannedFaults 39 = .ok (.iload_n 2, 1) := by decide +kernel
theorem d_V_makePlannedFaults_40 : decode b_V_makePlannedFaults 40 = .ok (.iaload, 1) := by decide +kernel
theorem d_V_makePlannedFaults_41 : decode b_V_makePlannedFaults 41 = .ok (.aload_n 0, 1) := by decide +kernel
theorem d_V_makePlannedFaults_42 : decode b_V_makePlannedFaults 42 = .ok (.getfield 36, 3) := by decide +kernel
theorem d_V_makePlannedFaults_45 : decode b_V_makePlannedFaults 45 = .ok (.getfield 152, 3) := by decide +kernel
theorem d_V_makePlannedFaults_48 : decode b_V_makePlannedFaults 48 = .ok (.iload_n 2, 1) := by decide +kernel
theorem d_V_makePlannedFaults_49 : decode b_V_makePlannedFaults 49 = .ok (.iaload, 1) := by decide +kernel
theorem d_V_makePlannedFaults_50 : decode b_V_makePlannedFaults 50 = .ok (.invokevirtual 97, 3) := by decide +kernel
theorem d_V_makePlannedFaults_53 : decode b_V_makePlannedFaults 53 = .ok (.goto 15, 3) := by decide +kernel
theorem d_V_scrub_0 : decode b_V_scrub 0 = .ok (.aload_n 0, 1) := by decide +kernel
theorem d_V_scrub_1 : decode b_V_scrub 1 = .ok (.getfield 12, 3) := by decide +kernel
theorem d_V_scrub_4 : decode b_V_scrub 4 = .ok (.aload_n 0, 1) := by decide +kernel
theorem d_V_scrub_5 : decode b_V_scrub 5 = .ok (.getfield 143, 3) := by decide +kernel
theorem d_V_scrub_8 : decode b_V_scrub 8 = .ok (.invokevirtual 158, 3) := by decide +kernel
theorem d_V_scrub_11 : decode b_V_scrub 11 = .ok (.ldc2_w 161, 3) := by decide +kernel
theorem d_V_scrub_14 : decode b_V_scrub 14 = .ok (.lcmp, 1) := by decide +kernel
theorem d_V_scrub_15 : decode b_V_scrub 15 = .ok (.ifCond .ne 13, 3) := by decide +kernel
theorem d_V_scrub_28 : decode b_V_scrub 28 = .ok (.aload_n 0, 1) := by decide +kernel
theorem d_V_scrub_29 : decode b_V_scrub 29 = .ok (.aload_n 0, 1) := by decide +kernel
theorem d_V_scrub_30 : decode b_V_scrub 30 = .ok (.getfield 143, 3) := by decide +kernel
theorem d_V_scrub_33 : decode b_V_scrub 33 = .ok (.iconst 1, 1) := by decide +kernel
theorem d_V_scrub_34 : decode b_V_scrub 34 = .ok (.iadd, 1) := by decide +kernel
theorem d_V_scrub_35 : decode b_V_scrub 35 = .ok (.bipush 64, 2) := by decide +kernel
theorem d_V_scrub_37 : decode b_V_scrub 37 = .ok (.irem, 1) := by decide +kernel
theorem d_V_scrub_38 : decode b_V_scrub 38 = .ok (.putfield 143, 3) := by decide +kernel
theorem d_V_scrub_41 : decode b_V_scrub 41 = .ok (.return_, 1) := by decide +kernel
theorem d_V_scrub_18 : decode b_V_scrub 18 = .ok (.aload_n 0, 1) := by decide +kernel
theorem d_V_scrub_19 : decode b_V_scrub 19 = .ok (.dup, 1) := by decide +kernel
theorem d_V_scrub_20 : decode b_V_scrub 20 = .ok (.getfield 134, 3) := by decide +kernel
theorem d_V_scrub_23 : decode b_V_scrub 23 = .ok (.iconst 1, 1) := by decide +kernel
theorem d_V_scrub_24 : decode b_V_scrub 24 = .ok (.iadd, 1) := by decide +kernel
