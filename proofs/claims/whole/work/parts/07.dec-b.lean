theorem dX5_init_0 : decode cX5_init 0 = .ok (.aload_n 0, 1) := by decide +kernel
theorem dX5_init_1 : decode cX5_init 1 = .ok (.invokespecial 1, 3) := by decide +kernel
theorem dX5_init_4 : decode cX5_init 4 = .ok (.aload_n 0, 1) := by decide +kernel
theorem dX5_init_5 : decode cX5_init 5 = .ok (.new 7, 3) := by decide +kernel
theorem dX5_init_8 : decode cX5_init 8 = .ok (.dup, 1) := by decide +kernel
theorem dX5_init_9 : decode cX5_init 9 = .ok (.invokespecial 9, 3) := by decide +kernel
theorem dX5_init_12 : decode cX5_init 12 = .ok (.putfield 10, 3) := by decide +kernel
theorem dX5_init_15 : decode cX5_init 15 = .ok (.aload_n 0, 1) := by decide +kernel
theorem dX5_init_16 : decode cX5_init 16 = .ok (.new 16, 3) := by decide +kernel
theorem dX5_init_19 : decode cX5_init 19 = .ok (.dup, 1) := by decide +kernel
theorem dX5_init_20 : decode cX5_init 20 = .ok (.invokespecial 18, 3) := by decide +kernel
theorem dX5_init_23 : decode cX5_init 23 = .ok (.putfield 19, 3) := by decide +kernel
theorem dX5_init_26 : decode cX5_init 26 = .ok (.aload_n 0, 1) := by decide +kernel
theorem dX5_init_27 : decode cX5_init 27 = .ok (.new 23, 3) := by decide +kernel
theorem dX5_init_30 : decode cX5_init 30 = .ok (.dup, 1) := by decide +kernel
theorem dX5_init_31 : decode cX5_init 31 = .ok (.aload_n 0, 1) := by decide +kernel
theorem dX5_init_32 : decode cX5_init 32 = .ok (.getfield 10, 3) := by decide +kernel
theorem dX5_init_35 : decode cX5_init 35 = .ok (.aload_n 0, 1) := by decide +kernel
theorem dX5_init_36 : decode cX5_init 36 = .ok (.getfield 19, 3) := by decide +kernel
theorem dX5_init_39 : decode cX5_init 39 = .ok (.invokespecial 25, 3) := by decide +kernel
theorem dX5_init_42 : decode cX5_init 42 = .ok (.putfield 28, 3) := by decide +kernel
theorem dX5_init_45 : decode cX5_init 45 = .ok (.aload_n 0, 1) := by decide +kernel
theorem dX5_init_46 : decode cX5_init 46 = .ok (.new 32, 3) := by decide +kernel
theorem dX5_init_49 : decode cX5_init 49 = .ok (.dup, 1) := by decide +kernel
theorem dX5_init_50 : decode cX5_init 50 = .ok (.aload_n 0, 1) := by decide +kernel
theorem dX5_init_51 : decode cX5_init 51 = .ok (.getfield 10, 3) := by decide +kernel
theorem dX5_init_54 : decode cX5_init 54 = .ok (.aload_n 0, 1) := by decide +kernel
theorem dX5_init_55 : decode cX5_init 55 = .ok (.getfield 19, 3) := by decide +kernel
theorem dX5_init_58 : decode cX5_init 58 = .ok (.aload_n 0, 1) := by decide +kernel
theorem dX5_init_59 : decode cX5_init 59 = .ok (.getfield 28, 3) := by decide +kernel
theorem dX5_init_62 : decode cX5_init 62 = .ok (.invokespecial 34, 3) := by decide +kernel
theorem dX5_init_65 : decode cX5_init 65 = .ok (.putfield 37, 3) := by decide +kernel
theorem dX5_init_68 : decode cX5_init 68 = .ok (.aload_n 0, 1) := by decide +kernel
theorem dX5_init_69 : decode cX5_init 69 = .ok (.new 41, 3) := by decide +kernel
theorem dX5_init_72 : decode cX5_init 72 = .ok (.dup, 1) := by decide +kernel
theorem dX5_init_73 : decode cX5_init 73 = .ok (.aload_n 0, 1) := by decide +kernel
theorem dX5_init_74 : decode cX5_init 74 = .ok (.getfield 10, 3) := by decide +kernel
theorem dX5_init_77 : decode cX5_init 77 = .ok (.aload_n 0, 1) := by decide +kernel
theorem dX5_init_78 : decode cX5_init 78 = .ok (.getfield 19, 3) := by decide +kernel
theorem dX5_init_81 : decode cX5_init 81 = .ok (.invokespecial 43, 3) := by decide +kernel
theorem dX5_init_84 : decode cX5_init 84 = .ok (.putfield 44, 3) := by decide +kernel
theorem dX5_init_87 : decode cX5_init 87 = .ok (.return_, 1) := by decide +kernel
theorem dX5_clear_0 : decode cX5_clear 0 = .ok (.aload_n 0, 1) := by decide +kernel
theorem dX5_clear_1 : decode cX5_clear 1 = .ok (.getfield 10, 3) := by decide +kernel
theorem dX5_clear_4 : decode cX5_clear 4 = .ok (.invokevirtual 48, 3) := by decide +kernel
theorem dX5_clear_7 : decode cX5_clear 7 = .ok (.aload_n 0, 1) := by decide +kernel
theorem dX5_clear_8 : decode cX5_clear 8 = .ok (.getfield 28, 3) := by decide +kernel
theorem dX5_clear_11 : decode cX5_clear 11 = .ok (.invokevirtual 51, 3) := by decide +kernel
theorem dX5_clear_14 : decode cX5_clear 14 = .ok (.aload_n 0, 1) := by decide +kernel
theorem dX5_clear_15 : decode cX5_clear 15 = .ok (.getfield 44, 3) := by decide +kernel
theorem dX5_clear_18 : decode cX5_clear 18 = .ok (.invokevirtual 54, 3) := by decide +kernel
theorem dX5_clear_21 : decode cX5_clear 21 = .ok (.return_, 1) := by decide +kernel
theorem dX5_write_0 : decode cX5_write 0 = .ok (.iload_n 3, 1) := by decide +kernel
theorem dX5_write_1 : decode cX5_write 1 = .ok (.iconst 1, 1) := by decide +kernel
theorem dX5_write_2 : decode cX5_write 2 = .ok (.bipush 8, 2) := by decide +kernel
theorem dX5_write_4 : decode cX5_write 4 = .ok (.invokestatic 57, 3) := by decide +kernel
theorem dX5_write_7 : decode cX5_write 7 = .ok (.ifCond .eq 15, 3) := by decide +kernel
theorem dX5_write_10 : decode cX5_write 10 = .ok (.aload_n 0, 1) := by decide +kernel
theorem dX5_write_11 : decode cX5_write 11 = .ok (.getfield 10, 3) := by decide +kernel
theorem dX5_write_14 : decode cX5_write 14 = .ok (.iload_n 3, 1) := by decide +kernel
theorem dX5_write_15 : decode cX5_write 15 = .ok (.i2l, 1) := by decide +kernel
theorem dX5_write_16 : decode cX5_write 16 = .ok (.invokevirtual 61, 3) := by decide +kernel
theorem dX5_write_19 : decode cX5_write 19 = .ok (.ifCond .ne 5, 3) := by decide +kernel
theorem dX5_write_22 : decode cX5_write 22 = .ok (.iconst 0, 1) := by decide +kernel
theorem dX5_write_23 : decode cX5_write 23 = .ok (.ireturn, 1) := by decide +kernel
theorem dX5_write_24 : decode cX5_write 24 = .ok (.aload_n 0, 1) := by decide +kernel
theorem dX5_write_25 : decode cX5_write 25 = .ok (.getfield 10, 3) := by decide +kernel
theorem dX5_write_28 : decode cX5_write 28 = .ok (.lload_n 1, 1) := by decide +kernel
theorem dX5_write_29 : decode cX5_write 29 = .ok (.iload_n 3, 1) := by decide +kernel
theorem dX5_write_30 : decode cX5_write 30 = .ok (.invokevirtual 65, 3) := by decide +kernel
theorem dX5_write_33 : decode cX5_write 33 = .ok (.iconst 1, 1) := by decide +kernel
theorem dX5_write_34 : decode cX5_write 34 = .ok (.ireturn, 1) := by decide +kernel
theorem dX5_within_0 : decode cX5_within 0 = .ok (.iload_n 0, 1) := by decide +kernel
theorem dX5_within_1 : decode cX5_within 1 = .ok (.iload_n 1, 1) := by decide +kernel
theorem dX5_within_2 : decode cX5_within 2 = .ok (.if_icmp .lt 12, 3) := by decide +kernel
theorem dX5_within_5 : decode cX5_within 5 = .ok (.iload_n 0, 1) := by decide +kernel
theorem dX5_within_6 : decode cX5_within 6 = .ok (.iload_n 2, 1) := by decide +kernel
theorem dX5_within_7 : decode cX5_within 7 = .ok (.if_icmp .gt 7, 3) := by decide +kernel
theorem dX5_within_10 : decode cX5_within 10 = .ok (.iconst 1, 1) := by decide +kernel
theorem dX5_within_11 : decode cX5_within 11 = .ok (.goto 4, 3) := by decide +kernel
theorem dX5_within_14 : decode cX5_within 14 = .ok (.iconst 0, 1) := by decide +kernel
theorem dX5_within_15 : decode cX5_within 15 = .ok (.ireturn, 1) := by decide +kernel
theorem dX5_roomFor_0 : decode cX5_roomFor 0 = .ok (.sipush 512, 3) := by decide +kernel
theorem dX5_roomFor_3 : decode cX5_roomFor 3 = .ok (.istore_n 1, 1) := by decide +kernel
theorem dX5_roomFor_4 : decode cX5_roomFor 4 = .ok (.iload_n 1, 1) := by decide +kernel
theorem dX5_roomFor_5 : decode cX5_roomFor 5 = .ok (.iload_n 0, 1) := by decide +kernel
theorem dX5_roomFor_6 : decode cX5_roomFor 6 = .ok (.if_icmp .ge 17, 3) := by decide +kernel
theorem dX5_roomFor_9 : decode cX5_roomFor 9 = .ok (.iload_n 1, 1) := by decide +kernel
theorem dX5_roomFor_10 : decode cX5_roomFor 10 = .ok (.ldc 183, 2) := by decide +kernel
theorem dX5_roomFor_12 : decode cX5_roomFor 12 = .ok (.if_icmp .ge 11, 3) := by decide +kernel
theorem dX5_roomFor_15 : decode cX5_roomFor 15 = .ok (.iload_n 1, 1) := by decide +kernel
theorem dX5_roomFor_16 : decode cX5_roomFor 16 = .ok (.bipush 8, 2) := by decide +kernel
theorem dX5_roomFor_18 : decode cX5_roomFor 18 = .ok (.imul, 1) := by decide +kernel
theorem dX5_roomFor_19 : decode cX5_roomFor 19 = .ok (.istore_n 1, 1) := by decide +kernel
theorem dX5_roomFor_20 : decode cX5_roomFor 20 = .ok (.goto (-16), 3) := by decide +kernel
theorem dX5_roomFor_23 : decode cX5_roomFor 23 = .ok (.iload_n 1, 1) := by decide +kernel
theorem dX5_roomFor_24 : decode cX5_roomFor 24 = .ok (.ireturn, 1) := by decide +kernel
theorem dX5_again_0 : decode cX5_again 0 = .ok (.iload_n 1, 1) := by decide +kernel
theorem dX5_again_1 : decode cX5_again 1 = .ok (.iconst 1, 1) := by decide +kernel
theorem dX5_again_2 : decode cX5_again 2 = .ok (.aload_n 0, 1) := by decide +kernel
theorem dX5_again_3 : decode cX5_again 3 = .ok (.getfield 10, 3) := by decide +kernel
theorem dX5_again_6 : decode cX5_again 6 = .ok (.getfield 69, 3) := by decide +kernel
theorem dX5_again_9 : decode cX5_again 9 = .ok (.invokestatic 57, 3) := by decide +kernel
theorem dX5_again_12 : decode cX5_again 12 = .ok (.ifCond .eq 22, 3) := by decide +kernel
theorem dX5_again_15 : decode cX5_again 15 = .ok (.iload_n 2, 1) := by decide +kernel
theorem dX5_again_16 : decode cX5_again 16 = .ok (.ifCond .lt 18, 3) := by decide +kernel
theorem dX5_again_19 : decode cX5_again 19 = .ok (.aload_n 0, 1) := by decide +kernel
theorem dX5_again_20 : decode cX5_again 20 = .ok (.getfield 10, 3) := by decide +kernel
theorem dX5_again_23 : decode cX5_again 23 = .ok (.iload_n 1, 1) := by decide +kernel
theorem dX5_again_24 : decode cX5_again 24 = .ok (.i2l, 1) := by decide +kernel
theorem dX5_again_25 : decode cX5_again 25 = .ok (.iload_n 2, 1) := by decide +kernel
theorem dX5_again_26 : decode cX5_again 26 = .ok (.i2l, 1) := by decide +kernel
theorem dX5_again_27 : decode cX5_again 27 = .ok (.lmul, 1) := by decide +kernel
theorem dX5_again_28 : decode cX5_again 28 = .ok (.invokevirtual 61, 3) := by decide +kernel
theorem dX5_again_31 : decode cX5_again 31 = .ok (.ifCond .ne 5, 3) := by decide +kernel
theorem dX5_again_34 : decode cX5_again 34 = .ok (.iconst 0, 1) := by decide +kernel
theorem dX5_again_35 : decode cX5_again 35 = .ok (.ireturn, 1) := by decide +kernel
theorem dX5_again_36 : decode cX5_again 36 = .ok (.aload_n 0, 1) := by decide +kernel
theorem dX5_again_37 : decode cX5_again 37 = .ok (.getfield 10, 3) := by decide +kernel
theorem dX5_again_40 : decode cX5_again 40 = .ok (.iload_n 1, 1) := by decide +kernel
theorem dX5_again_41 : decode cX5_again 41 = .ok (.iload_n 1, 1) := by decide +kernel
theorem dX5_again_42 : decode cX5_again 42 = .ok (.iload_n 2, 1) := by decide +kernel
theorem dX5_again_43 : decode cX5_again 43 = .ok (.imul, 1) := by decide +kernel
theorem dX5_again_44 : decode cX5_again 44 = .ok (.invokevirtual 73, 3) := by decide +kernel
theorem dX5_again_47 : decode cX5_again 47 = .ok (.iconst 1, 1) := by decide +kernel
theorem dX5_again_48 : decode cX5_again 48 = .ok (.ireturn, 1) := by decide +kernel
theorem dX5_history_0 : decode cX5_history 0 = .ok (.iload_n 1, 1) := by decide +kernel
theorem dX5_history_1 : decode cX5_history 1 = .ok (.iconst 0, 1) := by decide +kernel
theorem dX5_history_2 : decode cX5_history 2 = .ok (.aload_n 0, 1) := by decide +kernel
theorem dX5_history_3 : decode cX5_history 3 = .ok (.getfield 10, 3) := by decide +kernel
theorem dX5_history_6 : decode cX5_history 6 = .ok (.getfield 69, 3) := by decide +kernel
theorem dX5_history_9 : decode cX5_history 9 = .ok (.invokestatic 57, 3) := by decide +kernel
theorem dX5_history_12 : decode cX5_history 12 = .ok (.ifCond .ne 5, 3) := by decide +kernel
theorem dX5_history_15 : decode cX5_history 15 = .ok (.iconst 0, 1) := by decide +kernel
theorem dX5_history_16 : decode cX5_history 16 = .ok (.ireturn, 1) := by decide +kernel
theorem dX5_history_17 : decode cX5_history 17 = .ok (.aload_n 0, 1) := by decide +kernel
theorem dX5_history_18 : decode cX5_history 18 = .ok (.getfield 10, 3) := by decide +kernel
theorem dX5_history_21 : decode cX5_history 21 = .ok (.iload_n 1, 1) := by decide +kernel
theorem dX5_history_22 : decode cX5_history 22 = .ok (.putfield 77, 3) := by decide +kernel
theorem dX5_history_25 : decode cX5_history 25 = .ok (.iconst 1, 1) := by decide +kernel
theorem dX5_history_26 : decode cX5_history 26 = .ok (.ireturn, 1) := by decide +kernel
theorem dX5_rule_0 : decode cX5_rule 0 = .ok (.iload_n 1, 1) := by decide +kernel
theorem dX5_rule_1 : decode cX5_rule 1 = .ok (.iconst 0, 1) := by decide +kernel
theorem dX5_rule_2 : decode cX5_rule 2 = .ok (.iconst 4, 1) := by decide +kernel
theorem dX5_rule_3 : decode cX5_rule 3 = .ok (.invokestatic 57, 3) := by decide +kernel
theorem dX5_rule_6 : decode cX5_rule 6 = .ok (.ifCond .eq 34, 3) := by decide +kernel
theorem dX5_rule_9 : decode cX5_rule 9 = .ok (.iload_n 2, 1) := by decide +kernel
theorem dX5_rule_10 : decode cX5_rule 10 = .ok (.iconst 1, 1) := by decide +kernel
theorem dX5_rule_11 : decode cX5_rule 11 = .ok (.ldc 80, 2) := by decide +kernel
theorem dX5_rule_13 : decode cX5_rule 13 = .ok (.invokestatic 57, 3) := by decide +kernel
theorem dX5_rule_16 : decode cX5_rule 16 = .ok (.ifCond .eq 24, 3) := by decide +kernel
theorem dX5_rule_19 : decode cX5_rule 19 = .ok (.iload_n 3, 1) := by decide +kernel
theorem dX5_rule_20 : decode cX5_rule 20 = .ok (.iconst 3, 1) := by decide +kernel
theorem dX5_rule_21 : decode cX5_rule 21 = .ok (.bipush 8, 2) := by decide +kernel
theorem dX5_rule_23 : decode cX5_rule 23 = .ok (.invokestatic 57, 3) := by decide +kernel
theorem dX5_rule_26 : decode cX5_rule 26 = .ok (.ifCond .eq 14, 3) := by decide +kernel
theorem dX5_rule_29 : decode cX5_rule 29 = .ok (.iload 4, 2) := by decide +kernel
theorem dX5_rule_31 : decode cX5_rule 31 = .ok (.iload_n 3, 1) := by decide +kernel
theorem dX5_rule_32 : decode cX5_rule 32 = .ok (.ldc 81, 2) := by decide +kernel
theorem dX5_rule_34 : decode cX5_rule 34 = .ok (.invokestatic 57, 3) := by decide +kernel
theorem dX5_rule_37 : decode cX5_rule 37 = .ok (.ifCond .ne 5, 3) := by decide +kernel
theorem dX5_rule_40 : decode cX5_rule 40 = .ok (.iconst 0, 1) := by decide +kernel
theorem dX5_rule_41 : decode cX5_rule 41 = .ok (.ireturn, 1) := by decide +kernel
theorem dX5_rule_42 : decode cX5_rule 42 = .ok (.aload_n 0, 1) := by decide +kernel
theorem dX5_rule_43 : decode cX5_rule 43 = .ok (.getfield 19, 3) := by decide +kernel
theorem dX5_rule_46 : decode cX5_rule 46 = .ok (.iload_n 1, 1) := by decide +kernel
theorem dX5_rule_47 : decode cX5_rule 47 = .ok (.putfield 82, 3) := by decide +kernel
theorem dX5_rule_50 : decode cX5_rule 50 = .ok (.aload_n 0, 1) := by decide +kernel
theorem dX5_rule_51 : decode cX5_rule 51 = .ok (.getfield 19, 3) := by decide +kernel
theorem dX5_rule_54 : decode cX5_rule 54 = .ok (.iload_n 2, 1) := by decide +kernel
theorem dX5_rule_55 : decode cX5_rule 55 = .ok (.putfield 85, 3) := by decide +kernel
theorem dX5_rule_58 : decode cX5_rule 58 = .ok (.aload_n 0, 1) := by decide +kernel
theorem dX5_rule_59 : decode cX5_rule 59 = .ok (.getfield 19, 3) := by decide +kernel
theorem dX5_rule_62 : decode cX5_rule 62 = .ok (.iload_n 3, 1) := by decide +kernel
theorem dX5_rule_63 : decode cX5_rule 63 = .ok (.putfield 88, 3) := by decide +kernel
theorem dX5_rule_66 : decode cX5_rule 66 = .ok (.aload_n 0, 1) := by decide +kernel
theorem dX5_rule_67 : decode cX5_rule 67 = .ok (.getfield 19, 3) := by decide +kernel
theorem dX5_rule_70 : decode cX5_rule 70 = .ok (.iload 4, 2) := by decide +kernel
theorem dX5_rule_72 : decode cX5_rule 72 = .ok (.putfield 91, 3) := by decide +kernel
theorem dX5_rule_75 : decode cX5_rule 75 = .ok (.iconst 1, 1) := by decide +kernel
theorem dX5_rule_76 : decode cX5_rule 76 = .ok (.ireturn, 1) := by decide +kernel
theorem dX5_bounds_0 : decode cX5_bounds 0 = .ok (.iload_n 1, 1) := by decide +kernel
theorem dX5_bounds_1 : decode cX5_bounds 1 = .ok (.iconst 0, 1) := by decide +kernel
theorem dX5_bounds_2 : decode cX5_bounds 2 = .ok (.bipush 32, 2) := by decide +kernel
theorem dX5_bounds_4 : decode cX5_bounds 4 = .ok (.invokestatic 57, 3) := by decide +kernel
theorem dX5_bounds_7 : decode cX5_bounds 7 = .ok (.ifCond .eq 36, 3) := by decide +kernel
theorem dX5_bounds_10 : decode cX5_bounds 10 = .ok (.iload_n 2, 1) := by decide +kernel
theorem dX5_bounds_11 : decode cX5_bounds 11 = .ok (.iconst 0, 1) := by decide +kernel
theorem dX5_bounds_12 : decode cX5_bounds 12 = .ok (.bipush 32, 2) := by decide +kernel
theorem dX5_bounds_14 : decode cX5_bounds 14 = .ok (.invokestatic 57, 3) := by decide +kernel
theorem dX5_bounds_17 : decode cX5_bounds 17 = .ok (.ifCond .eq 26, 3) := by decide +kernel
theorem dX5_bounds_20 : decode cX5_bounds 20 = .ok (.iload_n 3, 1) := by decide +kernel
theorem dX5_bounds_21 : decode cX5_bounds 21 = .ok (.iconst 0, 1) := by decide +kernel
theorem dX5_bounds_22 : decode cX5_bounds 22 = .ok (.sipush 255, 3) := by decide +kernel
theorem dX5_bounds_25 : decode cX5_bounds 25 = .ok (.invokestatic 57, 3) := by decide +kernel
theorem dX5_bounds_28 : decode cX5_bounds 28 = .ok (.ifCond .eq 15, 3) := by decide +kernel
theorem dX5_bounds_31 : decode cX5_bounds 31 = .ok (.iload 4, 2) := by decide +kernel
theorem dX5_bounds_33 : decode cX5_bounds 33 = .ok (.iconst 0, 1) := by decide +kernel
theorem dX5_bounds_34 : decode cX5_bounds 34 = .ok (.sipush 255, 3) := by decide +kernel
theorem dX5_bounds_37 : decode cX5_bounds 37 = .ok (.invokestatic 57, 3) := by decide +kernel
theorem dX5_bounds_40 : decode cX5_bounds 40 = .ok (.ifCond .ne 5, 3) := by decide +kernel
theorem dX5_bounds_43 : decode cX5_bounds 43 = .ok (.iconst 0, 1) := by decide +kernel
theorem dX5_bounds_44 : decode cX5_bounds 44 = .ok (.ireturn, 1) := by decide +kernel
theorem dX5_bounds_45 : decode cX5_bounds 45 = .ok (.aload_n 0, 1) := by decide +kernel
theorem dX5_bounds_46 : decode cX5_bounds 46 = .ok (.getfield 19, 3) := by decide +kernel
theorem dX5_bounds_49 : decode cX5_bounds 49 = .ok (.iload_n 1, 1) := by decide +kernel
theorem dX5_bounds_50 : decode cX5_bounds 50 = .ok (.putfield 94, 3) := by decide +kernel
theorem dX5_bounds_53 : decode cX5_bounds 53 = .ok (.aload_n 0, 1) := by decide +kernel
theorem dX5_bounds_54 : decode cX5_bounds 54 = .ok (.getfield 19, 3) := by decide +kernel
theorem dX5_bounds_57 : decode cX5_bounds 57 = .ok (.iload_n 2, 1) := by decide +kernel
theorem dX5_bounds_58 : decode cX5_bounds 58 = .ok (.putfield 97, 3) := by decide +kernel
theorem dX5_bounds_61 : decode cX5_bounds 61 = .ok (.aload_n 0, 1) := by decide +kernel
theorem dX5_bounds_62 : decode cX5_bounds 62 = .ok (.getfield 19, 3) := by decide +kernel
theorem dX5_bounds_65 : decode cX5_bounds 65 = .ok (.iload_n 3, 1) := by decide +kernel
theorem dX5_bounds_66 : decode cX5_bounds 66 = .ok (.putfield 100, 3) := by decide +kernel
theorem dX5_bounds_69 : decode cX5_bounds 69 = .ok (.aload_n 0, 1) := by decide +kernel
theorem dX5_bounds_70 : decode cX5_bounds 70 = .ok (.getfield 19, 3) := by decide +kernel
theorem dX5_bounds_73 : decode cX5_bounds 73 = .ok (.iload 4, 2) := by decide +kernel
theorem dX5_bounds_75 : decode cX5_bounds 75 = .ok (.putfield 103, 3) := by decide +kernel
theorem dX5_bounds_78 : decode cX5_bounds 78 = .ok (.iconst 1, 1) := by decide +kernel
theorem dX5_bounds_79 : decode cX5_bounds 79 = .ok (.ireturn, 1) := by decide +kernel
theorem dX5_at_0 : decode cX5_at 0 = .ok (.aload_n 0, 1) := by decide +kernel
theorem dX5_at_1 : decode cX5_at 1 = .ok (.getfield 10, 3) := by decide +kernel
theorem dX5_at_4 : decode cX5_at 4 = .ok (.iload_n 1, 1) := by decide +kernel
theorem dX5_at_5 : decode cX5_at 5 = .ok (.invokevirtual 106, 3) := by decide +kernel
theorem dX5_at_8 : decode cX5_at 8 = .ok (.ifCond .eq 21, 3) := by decide +kernel
theorem dX5_at_11 : decode cX5_at 11 = .ok (.iload_n 2, 1) := by decide +kernel
theorem dX5_at_12 : decode cX5_at 12 = .ok (.iconst 0, 1) := by decide +kernel
theorem dX5_at_13 : decode cX5_at 13 = .ok (.iconst 3, 1) := by decide +kernel
theorem dX5_at_14 : decode cX5_at 14 = .ok (.invokestatic 57, 3) := by decide +kernel
theorem dX5_at_17 : decode cX5_at 17 = .ok (.ifCond .eq 12, 3) := by decide +kernel
theorem dX5_at_20 : decode cX5_at 20 = .ok (.iload_n 3, 1) := by decide +kernel
theorem dX5_at_21 : decode cX5_at 21 = .ok (.iconst 0, 1) := by decide +kernel
theorem dX5_at_22 : decode cX5_at 22 = .ok (.iconst 1, 1) := by decide +kernel
theorem dX5_at_23 : decode cX5_at 23 = .ok (.invokestatic 57, 3) := by decide +kernel
theorem dX5_at_26 : decode cX5_at 26 = .ok (.ifCond .ne 5, 3) := by decide +kernel
theorem dX5_at_29 : decode cX5_at 29 = .ok (.iconst 0, 1) := by decide +kernel
theorem dX5_at_30 : decode cX5_at 30 = .ok (.ireturn, 1) := by decide +kernel
theorem dX5_at_31 : decode cX5_at 31 = .ok (.aload_n 0, 1) := by decide +kernel
theorem dX5_at_32 : decode cX5_at 32 = .ok (.getfield 28, 3) := by decide +kernel
theorem dX5_at_35 : decode cX5_at 35 = .ok (.invokevirtual 110, 3) := by decide +kernel
theorem dX5_at_38 : decode cX5_at 38 = .ok (.aload_n 0, 1) := by decide +kernel
theorem dX5_at_39 : decode cX5_at 39 = .ok (.getfield 28, 3) := by decide +kernel
theorem dX5_at_42 : decode cX5_at 42 = .ok (.iload_n 1, 1) := by decide +kernel
theorem dX5_at_43 : decode cX5_at 43 = .ok (.iload_n 2, 1) := by decide +kernel
theorem dX5_at_44 : decode cX5_at 44 = .ok (.invokevirtual 113, 3) := by decide +kernel
theorem dX5_at_47 : decode cX5_at 47 = .ok (.iload_n 3, 1) := by decide +kernel
theorem dX5_at_48 : decode cX5_at 48 = .ok (.ifCond .ne 13, 3) := by decide +kernel
theorem dX5_at_51 : decode cX5_at 51 = .ok (.aload_n 0, 1) := by decide +kernel
theorem dX5_at_52 : decode cX5_at 52 = .ok (.getfield 28, 3) := by decide +kernel
theorem dX5_at_55 : decode cX5_at 55 = .ok (.getfield 116, 3) := by decide +kernel
theorem dX5_at_58 : decode cX5_at 58 = .ok (.goto 10, 3) := by decide +kernel
theorem dX5_at_61 : decode cX5_at 61 = .ok (.aload_n 0, 1) := by decide +kernel
theorem dX5_at_62 : decode cX5_at 62 = .ok (.getfield 28, 3) := by decide +kernel
theorem dX5_at_65 : decode cX5_at 65 = .ok (.getfield 119, 3) := by decide +kernel
theorem dX5_at_68 : decode cX5_at 68 = .ok (.ireturn, 1) := by decide +kernel
theorem dX5_count_0 : decode cX5_count 0 = .ok (.aload_n 0, 1) := by decide +kernel
theorem dX5_count_1 : decode cX5_count 1 = .ok (.getfield 10, 3) := by decide +kernel
theorem dX5_count_4 : decode cX5_count 4 = .ok (.iload_n 1, 1) := by decide +kernel
theorem dX5_count_5 : decode cX5_count 5 = .ok (.invokevirtual 106, 3) := by decide +kernel
theorem dX5_count_8 : decode cX5_count 8 = .ok (.ifCond .ne 5, 3) := by decide +kernel
theorem dX5_count_11 : decode cX5_count 11 = .ok (.iconst 0, 1) := by decide +kernel
theorem dX5_count_12 : decode cX5_count 12 = .ok (.ireturn, 1) := by decide +kernel
theorem dX5_count_13 : decode cX5_count 13 = .ok (.aload_n 0, 1) := by decide +kernel
theorem dX5_count_14 : decode cX5_count 14 = .ok (.getfield 28, 3) := by decide +kernel
theorem dX5_count_17 : decode cX5_count 17 = .ok (.invokevirtual 110, 3) := by decide +kernel
theorem dX5_count_20 : decode cX5_count 20 = .ok (.aload_n 0, 1) := by decide +kernel
theorem dX5_count_21 : decode cX5_count 21 = .ok (.getfield 28, 3) := by decide +kernel
theorem dX5_count_24 : decode cX5_count 24 = .ok (.iload_n 1, 1) := by decide +kernel
theorem dX5_count_25 : decode cX5_count 25 = .ok (.invokevirtual 122, 3) := by decide +kernel
theorem dX5_count_28 : decode cX5_count 28 = .ok (.ireturn, 1) := by decide +kernel
theorem dX5_go_0 : decode cX5_go 0 = .ok (.aload_n 0, 1) := by decide +kernel
theorem dX5_go_1 : decode cX5_go 1 = .ok (.getfield 19, 3) := by decide +kernel
theorem dX5_go_4 : decode cX5_go 4 = .ok (.getfield 82, 3) := by decide +kernel
theorem dX5_go_7 : decode cX5_go 7 = .ok (.iconst 4, 1) := by decide +kernel
theorem dX5_go_8 : decode cX5_go 8 = .ok (.if_icmp .ne 7, 3) := by decide +kernel
theorem dX5_go_11 : decode cX5_go 11 = .ok (.iconst 1, 1) := by decide +kernel
theorem dX5_go_12 : decode cX5_go 12 = .ok (.goto 4, 3) := by decide +kernel
theorem dX5_go_15 : decode cX5_go 15 = .ok (.iconst 0, 1) := by decide +kernel
theorem dX5_go_16 : decode cX5_go 16 = .ok (.istore_n 1, 1) := by decide +kernel
theorem dX5_go_17 : decode cX5_go 17 = .ok (.iload_n 1, 1) := by decide +kernel
theorem dX5_go_18 : decode cX5_go 18 = .ok (.ifCond .eq 26, 3) := by decide +kernel
theorem dX5_go_21 : decode cX5_go 21 = .ok (.aload_n 0, 1) := by decide +kernel
theorem dX5_go_22 : decode cX5_go 22 = .ok (.getfield 10, 3) := by decide +kernel
theorem dX5_go_25 : decode cX5_go 25 = .ok (.getfield 69, 3) := by decide +kernel
theorem dX5_go_28 : decode cX5_go 28 = .ok (.aload_n 0, 1) := by decide +kernel
theorem dX5_go_29 : decode cX5_go 29 = .ok (.getfield 10, 3) := by decide +kernel
theorem dX5_go_32 : decode cX5_go 32 = .ok (.getfield 77, 3) := by decide +kernel
theorem dX5_go_35 : decode cX5_go 35 = .ok (.isub, 1) := by decide +kernel
theorem dX5_go_36 : decode cX5_go 36 = .ok (.sipush 8192, 3) := by decide +kernel
theorem dX5_go_39 : decode cX5_go 39 = .ok (.if_icmp .le 5, 3) := by decide +kernel
theorem dX5_go_42 : decode cX5_go 42 = .ok (.iconst (-1), 1) := by decide +kernel
theorem dX5_go_43 : decode cX5_go 43 = .ok (.ireturn, 1) := by decide +kernel
theorem dX5_go_44 : decode cX5_go 44 = .ok (.aload_n 0, 1) := by decide +kernel
theorem dX5_go_45 : decode cX5_go 45 = .ok (.getfield 28, 3) := by decide +kernel
theorem dX5_go_48 : decode cX5_go 48 = .ok (.invokevirtual 110, 3) := by decide +kernel
theorem dX5_go_51 : decode cX5_go 51 = .ok (.aload_n 0, 1) := by decide +kernel
theorem dX5_go_52 : decode cX5_go 52 = .ok (.getfield 44, 3) := by decide +kernel
theorem dX5_go_55 : decode cX5_go 55 = .ok (.invokevirtual 126, 3) := by decide +kernel
theorem dX5_go_58 : decode cX5_go 58 = .ok (.iload_n 1, 1) := by decide +kernel
theorem dX5_go_59 : decode cX5_go 59 = .ok (.ifCond .eq 10, 3) := by decide +kernel
theorem dX5_go_62 : decode cX5_go 62 = .ok (.aload_n 0, 1) := by decide +kernel
theorem dX5_go_63 : decode cX5_go 63 = .ok (.invokevirtual 129, 3) := by decide +kernel
theorem dX5_go_66 : decode cX5_go 66 = .ok (.goto 7, 3) := by decide +kernel
theorem dX5_go_69 : decode cX5_go 69 = .ok (.aload_n 0, 1) := by decide +kernel
theorem dX5_go_70 : decode cX5_go 70 = .ok (.invokevirtual 132, 3) := by decide +kernel
theorem dX5_go_73 : decode cX5_go 73 = .ok (.aload_n 0, 1) := by decide +kernel
theorem dX5_go_74 : decode cX5_go 74 = .ok (.getfield 44, 3) := by decide +kernel
theorem dX5_go_77 : decode cX5_go 77 = .ok (.getfield 135, 3) := by decide +kernel
theorem dX5_go_80 : decode cX5_go 80 = .ok (.ireturn, 1) := by decide +kernel
theorem dX5_followPlan_0 : decode cX5_followPlan 0 = .ok (.aload_n 0, 1) := by decide +kernel
theorem dX5_followPlan_1 : decode cX5_followPlan 1 = .ok (.getfield 37, 3) := by decide +kernel
theorem dX5_followPlan_4 : decode cX5_followPlan 4 = .ok (.invokevirtual 176, 3) := by decide +kernel
theorem dX5_followPlan_7 : decode cX5_followPlan 7 = .ok (.aload_n 0, 1) := by decide +kernel
theorem dX5_followPlan_8 : decode cX5_followPlan 8 = .ok (.getfield 10, 3) := by decide +kernel
theorem dX5_followPlan_11 : decode cX5_followPlan 11 = .ok (.getfield 69, 3) := by decide +kernel
theorem dX5_followPlan_14 : decode cX5_followPlan 14 = .ok (.aload_n 0, 1) := by decide +kernel
theorem dX5_followPlan_15 : decode cX5_followPlan 15 = .ok (.getfield 10, 3) := by decide +kernel
theorem dX5_followPlan_18 : decode cX5_followPlan 18 = .ok (.getfield 77, 3) := by decide +kernel
theorem dX5_followPlan_21 : decode cX5_followPlan 21 = .ok (.isub, 1) := by decide +kernel
theorem dX5_followPlan_22 : decode cX5_followPlan 22 = .ok (.istore_n 1, 1) := by decide +kernel
theorem dX5_followPlan_23 : decode cX5_followPlan 23 = .ok (.iconst 0, 1) := by decide +kernel
theorem dX5_followPlan_24 : decode cX5_followPlan 24 = .ok (.istore_n 2, 1) := by decide +kernel
theorem dX5_followPlan_25 : decode cX5_followPlan 25 = .ok (.iload_n 2, 1) := by decide +kernel
theorem dX5_followPlan_26 : decode cX5_followPlan 26 = .ok (.iload_n 1, 1) := by decide +kernel
theorem dX5_followPlan_27 : decode cX5_followPlan 27 = .ok (.if_icmp .ge 47, 3) := by decide +kernel
theorem dX5_followPlan_30 : decode cX5_followPlan 30 = .ok (.aload_n 0, 1) := by decide +kernel
theorem dX5_followPlan_31 : decode cX5_followPlan 31 = .ok (.getfield 44, 3) := by decide +kernel
theorem dX5_followPlan_34 : decode cX5_followPlan 34 = .ok (.aload_n 0, 1) := by decide +kernel
theorem dX5_followPlan_35 : decode cX5_followPlan 35 = .ok (.getfield 37, 3) := by decide +kernel
theorem dX5_followPlan_38 : decode cX5_followPlan 38 = .ok (.getfield 179, 3) := by decide +kernel
theorem dX5_followPlan_41 : decode cX5_followPlan 41 = .ok (.iload_n 2, 1) := by decide +kernel
theorem dX5_followPlan_42 : decode cX5_followPlan 42 = .ok (.iaload, 1) := by decide +kernel
theorem dX5_followPlan_43 : decode cX5_followPlan 43 = .ok (.aload_n 0, 1) := by decide +kernel
theorem dX5_followPlan_44 : decode cX5_followPlan 44 = .ok (.getfield 37, 3) := by decide +kernel
theorem dX5_followPlan_47 : decode cX5_followPlan 47 = .ok (.getfield 181, 3) := by decide +kernel
theorem dX5_followPlan_50 : decode cX5_followPlan 50 = .ok (.iload_n 2, 1) := by decide +kernel
theorem dX5_followPlan_51 : decode cX5_followPlan 51 = .ok (.iaload, 1) := by decide +kernel
theorem dX5_followPlan_52 : decode cX5_followPlan 52 = .ok (.invokevirtual 167, 3) := by decide +kernel
theorem dX5_followPlan_55 : decode cX5_followPlan 55 = .ok (.iload_n 2, 1) := by decide +kernel
theorem dX5_followPlan_56 : decode cX5_followPlan 56 = .ok (.iconst 1, 1) := by decide +kernel
theorem dX5_followPlan_57 : decode cX5_followPlan 57 = .ok (.aload_n 0, 1) := by decide +kernel
theorem dX5_followPlan_58 : decode cX5_followPlan 58 = .ok (.getfield 37, 3) := by decide +kernel
theorem dX5_followPlan_61 : decode cX5_followPlan 61 = .ok (.getfield 179, 3) := by decide +kernel
theorem dX5_followPlan_64 : decode cX5_followPlan 64 = .ok (.iload_n 2, 1) := by decide +kernel
theorem dX5_followPlan_65 : decode cX5_followPlan 65 = .ok (.iaload, 1) := by decide +kernel
theorem dX5_followPlan_66 : decode cX5_followPlan 66 = .ok (.invokestatic 170, 3) := by decide +kernel
theorem dX5_followPlan_69 : decode cX5_followPlan 69 = .ok (.iadd, 1) := by decide +kernel
theorem dX5_followPlan_70 : decode cX5_followPlan 70 = .ok (.istore_n 2, 1) := by decide +kernel
theorem dX5_followPlan_71 : decode cX5_followPlan 71 = .ok (.goto (-46), 3) := by decide +kernel
theorem dX5_followPlan_74 : decode cX5_followPlan 74 = .ok (.return_, 1) := by decide +kernel
theorem dX5_bitsOf_0 : decode cX5_bitsOf 0 = .ok (.iconst 0, 1) := by decide +kernel
theorem dX5_bitsOf_1 : decode cX5_bitsOf 1 = .ok (.istore_n 1, 1) := by decide +kernel
theorem dX5_bitsOf_2 : decode cX5_bitsOf 2 = .ok (.iload_n 1, 1) := by decide +kernel
theorem dX5_bitsOf_3 : decode cX5_bitsOf 3 = .ok (.bipush 31, 2) := by decide +kernel
theorem dX5_bitsOf_5 : decode cX5_bitsOf 5 = .ok (.if_icmp .ge 15, 3) := by decide +kernel
theorem dX5_bitsOf_8 : decode cX5_bitsOf 8 = .ok (.iload_n 0, 1) := by decide +kernel
theorem dX5_bitsOf_9 : decode cX5_bitsOf 9 = .ok (.iload_n 1, 1) := by decide +kernel
theorem dX5_bitsOf_10 : decode cX5_bitsOf 10 = .ok (.ishr, 1) := by decide +kernel
theorem dX5_bitsOf_11 : decode cX5_bitsOf 11 = .ok (.ifCond .eq 9, 3) := by decide +kernel
theorem dX5_bitsOf_14 : decode cX5_bitsOf 14 = .ok (.iinc 1 1, 3) := by decide +kernel
theorem dX5_bitsOf_17 : decode cX5_bitsOf 17 = .ok (.goto (-15), 3) := by decide +kernel
theorem dX5_bitsOf_20 : decode cX5_bitsOf 20 = .ok (.iload_n 1, 1) := by decide +kernel
theorem dX5_bitsOf_21 : decode cX5_bitsOf 21 = .ok (.ireturn, 1) := by decide +kernel
theorem dX5_takeWhatIsSought_0 : decode cX5_takeWhatIsSought 0 = .ok (.aload_n 0, 1) := by decide +kernel
theorem dX5_takeWhatIsSought_1 : decode cX5_takeWhatIsSought 1 = .ok (.getfield 10, 3) := by decide +kernel
theorem dX5_takeWhatIsSought_4 : decode cX5_takeWhatIsSought 4 = .ok (.getfield 77, 3) := by decide +kernel
theorem dX5_takeWhatIsSought_7 : decode cX5_takeWhatIsSought 7 = .ok (.istore_n 1, 1) := by decide +kernel
theorem dX5_takeWhatIsSought_8 : decode cX5_takeWhatIsSought 8 = .ok (.iload_n 1, 1) := by decide +kernel
theorem dX5_takeWhatIsSought_9 : decode cX5_takeWhatIsSought 9 = .ok (.aload_n 0, 1) := by decide +kernel
theorem dX5_takeWhatIsSought_10 : decode cX5_takeWhatIsSought 10 = .ok (.getfield 10, 3) := by decide +kernel
theorem dX5_takeWhatIsSought_13 : decode cX5_takeWhatIsSought 13 = .ok (.getfield 69, 3) := by decide +kernel
theorem dX5_takeWhatIsSought_16 : decode cX5_takeWhatIsSought 16 = .ok (.if_icmp .ge 56, 3) := by decide +kernel
theorem dX5_takeWhatIsSought_19 : decode cX5_takeWhatIsSought 19 = .ok (.aload_n 0, 1) := by decide +kernel
theorem dX5_takeWhatIsSought_20 : decode cX5_takeWhatIsSought 20 = .ok (.getfield 28, 3) := by decide +kernel
theorem dX5_takeWhatIsSought_23 : decode cX5_takeWhatIsSought 23 = .ok (.iload_n 1, 1) := by decide +kernel
theorem dX5_takeWhatIsSought_24 : decode cX5_takeWhatIsSought 24 = .ok (.aload_n 0, 1) := by decide +kernel
theorem dX5_takeWhatIsSought_25 : decode cX5_takeWhatIsSought 25 = .ok (.getfield 19, 3) := by decide +kernel
theorem dX5_takeWhatIsSought_28 : decode cX5_takeWhatIsSought 28 = .ok (.getfield 82, 3) := by decide +kernel
theorem dX5_takeWhatIsSought_31 : decode cX5_takeWhatIsSought 31 = .ok (.invokevirtual 113, 3) := by decide +kernel
theorem dX5_takeWhatIsSought_34 : decode cX5_takeWhatIsSought 34 = .ok (.aload_n 0, 1) := by decide +kernel
theorem dX5_takeWhatIsSought_35 : decode cX5_takeWhatIsSought 35 = .ok (.getfield 44, 3) := by decide +kernel
theorem dX5_takeWhatIsSought_38 : decode cX5_takeWhatIsSought 38 = .ok (.aload_n 0, 1) := by decide +kernel
theorem dX5_takeWhatIsSought_39 : decode cX5_takeWhatIsSought 39 = .ok (.getfield 28, 3) := by decide +kernel
theorem dX5_takeWhatIsSought_42 : decode cX5_takeWhatIsSought 42 = .ok (.getfield 116, 3) := by decide +kernel
theorem dX5_takeWhatIsSought_45 : decode cX5_takeWhatIsSought 45 = .ok (.aload_n 0, 1) := by decide +kernel
theorem dX5_takeWhatIsSought_46 : decode cX5_takeWhatIsSought 46 = .ok (.getfield 28, 3) := by decide +kernel
theorem dX5_takeWhatIsSought_49 : decode cX5_takeWhatIsSought 49 = .ok (.getfield 119, 3) := by decide +kernel
theorem dX5_takeWhatIsSought_52 : decode cX5_takeWhatIsSought 52 = .ok (.invokevirtual 167, 3) := by decide +kernel
theorem dX5_takeWhatIsSought_55 : decode cX5_takeWhatIsSought 55 = .ok (.iload_n 1, 1) := by decide +kernel
theorem dX5_takeWhatIsSought_56 : decode cX5_takeWhatIsSought 56 = .ok (.iconst 1, 1) := by decide +kernel
theorem dX5_takeWhatIsSought_57 : decode cX5_takeWhatIsSought 57 = .ok (.aload_n 0, 1) := by decide +kernel
theorem dX5_takeWhatIsSought_58 : decode cX5_takeWhatIsSought 58 = .ok (.getfield 28, 3) := by decide +kernel
theorem dX5_takeWhatIsSought_61 : decode cX5_takeWhatIsSought 61 = .ok (.getfield 116, 3) := by decide +kernel
theorem dX5_takeWhatIsSought_64 : decode cX5_takeWhatIsSought 64 = .ok (.invokestatic 170, 3) := by decide +kernel
theorem dX5_takeWhatIsSought_67 : decode cX5_takeWhatIsSought 67 = .ok (.iadd, 1) := by decide +kernel
theorem dX5_takeWhatIsSought_68 : decode cX5_takeWhatIsSought 68 = .ok (.istore_n 1, 1) := by decide +kernel
theorem dX5_takeWhatIsSought_69 : decode cX5_takeWhatIsSought 69 = .ok (.goto (-61), 3) := by decide +kernel
theorem dX5_takeWhatIsSought_72 : decode cX5_takeWhatIsSought 72 = .ok (.return_, 1) := by decide +kernel
theorem dX5_stretch_0 : decode cX5_stretch 0 = .ok (.iload_n 1, 1) := by decide +kernel
theorem dX5_stretch_1 : decode cX5_stretch 1 = .ok (.iconst 0, 1) := by decide +kernel
theorem dX5_stretch_2 : decode cX5_stretch 2 = .ok (.aload_n 0, 1) := by decide +kernel
theorem dX5_stretch_3 : decode cX5_stretch 3 = .ok (.getfield 44, 3) := by decide +kernel
theorem dX5_stretch_6 : decode cX5_stretch 6 = .ok (.getfield 135, 3) := by decide +kernel
theorem dX5_stretch_9 : decode cX5_stretch 9 = .ok (.iconst 1, 1) := by decide +kernel
theorem dX5_stretch_10 : decode cX5_stretch 10 = .ok (.isub, 1) := by decide +kernel
theorem dX5_stretch_11 : decode cX5_stretch 11 = .ok (.invokestatic 57, 3) := by decide +kernel
theorem dX5_stretch_14 : decode cX5_stretch 14 = .ok (.ifCond .ne 5, 3) := by decide +kernel
theorem dX5_stretch_17 : decode cX5_stretch 17 = .ok (.iconst (-1), 1) := by decide +kernel
theorem dX5_stretch_18 : decode cX5_stretch 18 = .ok (.ireturn, 1) := by decide +kernel
theorem dX5_stretch_19 : decode cX5_stretch 19 = .ok (.iload_n 2, 1) := by decide +kernel
theorem dX5_stretch_20 : decode cX5_stretch 20 = .ok (.tableswitch 58 0 2 #[28, 38, 48], 28) := by decide +kernel
theorem dX5_stretch_48 : decode cX5_stretch 48 = .ok (.aload_n 0, 1) := by decide +kernel
theorem dX5_stretch_49 : decode cX5_stretch 49 = .ok (.getfield 44, 3) := by decide +kernel
theorem dX5_stretch_52 : decode cX5_stretch 52 = .ok (.getfield 138, 3) := by decide +kernel
theorem dX5_stretch_55 : decode cX5_stretch 55 = .ok (.iload_n 1, 1) := by decide +kernel
theorem dX5_stretch_56 : decode cX5_stretch 56 = .ok (.iaload, 1) := by decide +kernel
theorem dX5_stretch_57 : decode cX5_stretch 57 = .ok (.ireturn, 1) := by decide +kernel
theorem dX5_stretch_58 : decode cX5_stretch 58 = .ok (.aload_n 0, 1) := by decide +kernel
theorem dX5_stretch_59 : decode cX5_stretch 59 = .ok (.getfield 44, 3) := by decide +kernel
theorem dX5_stretch_62 : decode cX5_stretch 62 = .ok (.getfield 142, 3) := by decide +kernel
theorem dX5_stretch_65 : decode cX5_stretch 65 = .ok (.iload_n 1, 1) := by decide +kernel
theorem dX5_stretch_66 : decode cX5_stretch 66 = .ok (.iaload, 1) := by decide +kernel
theorem dX5_stretch_67 : decode cX5_stretch 67 = .ok (.ireturn, 1) := by decide +kernel
theorem dX5_stretch_68 : decode cX5_stretch 68 = .ok (.aload_n 0, 1) := by decide +kernel
theorem dX5_stretch_69 : decode cX5_stretch 69 = .ok (.getfield 44, 3) := by decide +kernel
theorem dX5_stretch_72 : decode cX5_stretch 72 = .ok (.getfield 145, 3) := by decide +kernel
theorem dX5_stretch_75 : decode cX5_stretch 75 = .ok (.iload_n 1, 1) := by decide +kernel
theorem dX5_stretch_76 : decode cX5_stretch 76 = .ok (.iaload, 1) := by decide +kernel
theorem dX5_stretch_77 : decode cX5_stretch 77 = .ok (.ireturn, 1) := by decide +kernel
theorem dX5_stretch_78 : decode cX5_stretch 78 = .ok (.iconst (-1), 1) := by decide +kernel
theorem dX5_stretch_79 : decode cX5_stretch 79 = .ok (.ireturn, 1) := by decide +kernel
theorem dX5_about_0 : decode cX5_about 0 = .ok (.iload_n 1, 1) := by decide +kernel
theorem dX5_about_1 : decode cX5_about 1 = .ok (.tableswitch 75 0 4 #[35, 43, 51, 59, 67], 35) := by decide +kernel
theorem dX5_about_36 : decode cX5_about 36 = .ok (.aload_n 0, 1) := by decide +kernel
theorem dX5_about_37 : decode cX5_about 37 = .ok (.getfield 44, 3) := by decide +kernel
theorem dX5_about_40 : decode cX5_about 40 = .ok (.getfield 148, 3) := by decide +kernel
theorem dX5_about_43 : decode cX5_about 43 = .ok (.ireturn, 1) := by decide +kernel
theorem dX5_about_44 : decode cX5_about 44 = .ok (.aload_n 0, 1) := by decide +kernel
theorem dX5_about_45 : decode cX5_about 45 = .ok (.getfield 44, 3) := by decide +kernel
theorem dX5_about_48 : decode cX5_about 48 = .ok (.getfield 151, 3) := by decide +kernel
theorem dX5_about_51 : decode cX5_about 51 = .ok (.ireturn, 1) := by decide +kernel
theorem dX5_about_52 : decode cX5_about 52 = .ok (.aload_n 0, 1) := by decide +kernel
theorem dX5_about_53 : decode cX5_about 53 = .ok (.getfield 44, 3) := by decide +kernel
theorem dX5_about_56 : decode cX5_about 56 = .ok (.getfield 154, 3) := by decide +kernel
theorem dX5_about_59 : decode cX5_about 59 = .ok (.ireturn, 1) := by decide +kernel
theorem dX5_about_60 : decode cX5_about 60 = .ok (.aload_n 0, 1) := by decide +kernel
theorem dX5_about_61 : decode cX5_about 61 = .ok (.getfield 44, 3) := by decide +kernel
theorem dX5_about_64 : decode cX5_about 64 = .ok (.getfield 157, 3) := by decide +kernel
theorem dX5_about_67 : decode cX5_about 67 = .ok (.ireturn, 1) := by decide +kernel
theorem dX5_about_68 : decode cX5_about 68 = .ok (.aload_n 0, 1) := by decide +kernel
theorem dX5_about_69 : decode cX5_about 69 = .ok (.getfield 44, 3) := by decide +kernel
theorem dX5_about_72 : decode cX5_about 72 = .ok (.getfield 160, 3) := by decide +kernel
theorem dX5_about_75 : decode cX5_about 75 = .ok (.ireturn, 1) := by decide +kernel
theorem dX5_about_76 : decode cX5_about 76 = .ok (.iconst (-1), 1) := by decide +kernel
theorem dX5_about_77 : decode cX5_about 77 = .ok (.ireturn, 1) := by decide +kernel
theorem dX5_unlike_0 : decode cX5_unlike 0 = .ok (.aload_n 0, 1) := by decide +kernel
theorem dX5_unlike_1 : decode cX5_unlike 1 = .ok (.getfield 44, 3) := by decide +kernel
theorem dX5_unlike_4 : decode cX5_unlike 4 = .ok (.invokevirtual 163, 3) := by decide +kernel
theorem dX5_unlike_7 : decode cX5_unlike 7 = .ok (.ireturn, 1) := by decide +kernel
theorem dX5_size_0 : decode cX5_size 0 = .ok (.aload_n 0, 1) := by decide +kernel
theorem dX5_size_1 : decode cX5_size 1 = .ok (.getfield 10, 3) := by decide +kernel
theorem dX5_size_4 : decode cX5_size 4 = .ok (.getfield 69, 3) := by decide +kernel
theorem dX5_size_7 : decode cX5_size 7 = .ok (.ireturn, 1) := by decide +kernel
