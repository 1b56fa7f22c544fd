theorem dX6_init_0 : decode cX6_init 0 = .ok (.aload_n 0, 1) := by decide +kernel
theorem dX6_init_1 : decode cX6_init 1 = .ok (.invokespecial 1, 3) := by decide +kernel
theorem dX6_init_4 : decode cX6_init 4 = .ok (.aload_n 0, 1) := by decide +kernel
theorem dX6_init_5 : decode cX6_init 5 = .ok (.ldc 7, 2) := by decide +kernel
theorem dX6_init_7 : decode cX6_init 7 = .ok (.newarray .byte, 2) := by decide +kernel
theorem dX6_init_9 : decode cX6_init 9 = .ok (.putfield 8, 3) := by decide +kernel
theorem dX6_init_12 : decode cX6_init 12 = .ok (.aload_n 0, 1) := by decide +kernel
theorem dX6_init_13 : decode cX6_init 13 = .ok (.iconst 2, 1) := by decide +kernel
theorem dX6_init_14 : decode cX6_init 14 = .ok (.putfield 14, 3) := by decide +kernel
theorem dX6_init_17 : decode cX6_init 17 = .ok (.aload_n 0, 1) := by decide +kernel
theorem dX6_init_18 : decode cX6_init 18 = .ok (.ldc 18, 2) := by decide +kernel
theorem dX6_init_20 : decode cX6_init 20 = .ok (.putfield 19, 3) := by decide +kernel
theorem dX6_init_23 : decode cX6_init 23 = .ok (.aload_n 0, 1) := by decide +kernel
theorem dX6_init_24 : decode cX6_init 24 = .ok (.iconst 4, 1) := by decide +kernel
theorem dX6_init_25 : decode cX6_init 25 = .ok (.putfield 22, 3) := by decide +kernel
theorem dX6_init_28 : decode cX6_init 28 = .ok (.aload_n 0, 1) := by decide +kernel
theorem dX6_init_29 : decode cX6_init 29 = .ok (.ldc 25, 2) := by decide +kernel
theorem dX6_init_31 : decode cX6_init 31 = .ok (.putfield 26, 3) := by decide +kernel
theorem dX6_init_34 : decode cX6_init 34 = .ok (.aload_n 0, 1) := by decide +kernel
theorem dX6_init_35 : decode cX6_init 35 = .ok (.bipush 8, 2) := by decide +kernel
theorem dX6_init_37 : decode cX6_init 37 = .ok (.putfield 29, 3) := by decide +kernel
theorem dX6_init_40 : decode cX6_init 40 = .ok (.aload_n 0, 1) := by decide +kernel
theorem dX6_init_41 : decode cX6_init 41 = .ok (.bipush 16, 2) := by decide +kernel
theorem dX6_init_43 : decode cX6_init 43 = .ok (.putfield 32, 3) := by decide +kernel
theorem dX6_init_46 : decode cX6_init 46 = .ok (.aload_n 0, 1) := by decide +kernel
theorem dX6_init_47 : decode cX6_init 47 = .ok (.sipush 11000, 3) := by decide +kernel
theorem dX6_init_50 : decode cX6_init 50 = .ok (.newarray .int, 2) := by decide +kernel
theorem dX6_init_52 : decode cX6_init 52 = .ok (.putfield 35, 3) := by decide +kernel
theorem dX6_init_55 : decode cX6_init 55 = .ok (.aload_n 0, 1) := by decide +kernel
theorem dX6_init_56 : decode cX6_init 56 = .ok (.sipush 11000, 3) := by decide +kernel
theorem dX6_init_59 : decode cX6_init 59 = .ok (.newarray .int, 2) := by decide +kernel
theorem dX6_init_61 : decode cX6_init 61 = .ok (.putfield 39, 3) := by decide +kernel
theorem dX6_init_64 : decode cX6_init 64 = .ok (.aload_n 0, 1) := by decide +kernel
theorem dX6_init_65 : decode cX6_init 65 = .ok (.sipush 11000, 3) := by decide +kernel
theorem dX6_init_68 : decode cX6_init 68 = .ok (.newarray .int, 2) := by decide +kernel
theorem dX6_init_70 : decode cX6_init 70 = .ok (.putfield 42, 3) := by decide +kernel
theorem dX6_init_73 : decode cX6_init 73 = .ok (.aload_n 0, 1) := by decide +kernel
theorem dX6_init_74 : decode cX6_init 74 = .ok (.ldc 7, 2) := by decide +kernel
theorem dX6_init_76 : decode cX6_init 76 = .ok (.newarray .byte, 2) := by decide +kernel
theorem dX6_init_78 : decode cX6_init 78 = .ok (.putfield 45, 3) := by decide +kernel
theorem dX6_init_81 : decode cX6_init 81 = .ok (.aload_n 0, 1) := by decide +kernel
theorem dX6_init_82 : decode cX6_init 82 = .ok (.sipush 8193, 3) := by decide +kernel
theorem dX6_init_85 : decode cX6_init 85 = .ok (.newarray .int, 2) := by decide +kernel
theorem dX6_init_87 : decode cX6_init 87 = .ok (.putfield 48, 3) := by decide +kernel
theorem dX6_init_90 : decode cX6_init 90 = .ok (.aload_n 0, 1) := by decide +kernel
theorem dX6_init_91 : decode cX6_init 91 = .ok (.sipush 8193, 3) := by decide +kernel
theorem dX6_init_94 : decode cX6_init 94 = .ok (.newarray .int, 2) := by decide +kernel
theorem dX6_init_96 : decode cX6_init 96 = .ok (.putfield 51, 3) := by decide +kernel
theorem dX6_init_99 : decode cX6_init 99 = .ok (.aload_n 0, 1) := by decide +kernel
theorem dX6_init_100 : decode cX6_init 100 = .ok (.sipush 8193, 3) := by decide +kernel
theorem dX6_init_103 : decode cX6_init 103 = .ok (.newarray .int, 2) := by decide +kernel
theorem dX6_init_105 : decode cX6_init 105 = .ok (.putfield 54, 3) := by decide +kernel
theorem dX6_init_108 : decode cX6_init 108 = .ok (.return_, 1) := by decide +kernel
theorem dX6_clear_0 : decode cX6_clear 0 = .ok (.aload_n 0, 1) := by decide +kernel
theorem dX6_clear_1 : decode cX6_clear 1 = .ok (.iconst 0, 1) := by decide +kernel
theorem dX6_clear_2 : decode cX6_clear 2 = .ok (.putfield 57, 3) := by decide +kernel
theorem dX6_clear_5 : decode cX6_clear 5 = .ok (.aload_n 0, 1) := by decide +kernel
theorem dX6_clear_6 : decode cX6_clear 6 = .ok (.iconst 0, 1) := by decide +kernel
theorem dX6_clear_7 : decode cX6_clear 7 = .ok (.putfield 60, 3) := by decide +kernel
theorem dX6_clear_10 : decode cX6_clear 10 = .ok (.aload_n 0, 1) := by decide +kernel
theorem dX6_clear_11 : decode cX6_clear 11 = .ok (.iconst 0, 1) := by decide +kernel
theorem dX6_clear_12 : decode cX6_clear 12 = .ok (.putfield 63, 3) := by decide +kernel
theorem dX6_clear_15 : decode cX6_clear 15 = .ok (.aload_n 0, 1) := by decide +kernel
theorem dX6_clear_16 : decode cX6_clear 16 = .ok (.iconst 0, 1) := by decide +kernel
theorem dX6_clear_17 : decode cX6_clear 17 = .ok (.putfield 66, 3) := by decide +kernel
theorem dX6_clear_20 : decode cX6_clear 20 = .ok (.aload_n 0, 1) := by decide +kernel
theorem dX6_clear_21 : decode cX6_clear 21 = .ok (.iconst 0, 1) := by decide +kernel
theorem dX6_clear_22 : decode cX6_clear 22 = .ok (.putfield 69, 3) := by decide +kernel
theorem dX6_clear_25 : decode cX6_clear 25 = .ok (.aload_n 0, 1) := by decide +kernel
theorem dX6_clear_26 : decode cX6_clear 26 = .ok (.iconst 0, 1) := by decide +kernel
theorem dX6_clear_27 : decode cX6_clear 27 = .ok (.putfield 72, 3) := by decide +kernel
theorem dX6_clear_30 : decode cX6_clear 30 = .ok (.aload_n 0, 1) := by decide +kernel
theorem dX6_clear_31 : decode cX6_clear 31 = .ok (.iconst 0, 1) := by decide +kernel
theorem dX6_clear_32 : decode cX6_clear 32 = .ok (.putfield 75, 3) := by decide +kernel
theorem dX6_clear_35 : decode cX6_clear 35 = .ok (.aload_n 0, 1) := by decide +kernel
theorem dX6_clear_36 : decode cX6_clear 36 = .ok (.iconst 0, 1) := by decide +kernel
theorem dX6_clear_37 : decode cX6_clear 37 = .ok (.putfield 78, 3) := by decide +kernel
theorem dX6_clear_40 : decode cX6_clear 40 = .ok (.return_, 1) := by decide +kernel
theorem dX6_write_0 : decode cX6_write 0 = .ok (.iload_n 3, 1) := by decide +kernel
theorem dX6_write_1 : decode cX6_write 1 = .ok (.iconst 1, 1) := by decide +kernel
theorem dX6_write_2 : decode cX6_write 2 = .ok (.bipush 8, 2) := by decide +kernel
theorem dX6_write_4 : decode cX6_write 4 = .ok (.invokestatic 81, 3) := by decide +kernel
theorem dX6_write_7 : decode cX6_write 7 = .ok (.ifCond .eq 14, 3) := by decide +kernel
theorem dX6_write_10 : decode cX6_write 10 = .ok (.aload_n 0, 1) := by decide +kernel
theorem dX6_write_11 : decode cX6_write 11 = .ok (.getfield 57, 3) := by decide +kernel
theorem dX6_write_14 : decode cX6_write 14 = .ok (.iload_n 3, 1) := by decide +kernel
theorem dX6_write_15 : decode cX6_write 15 = .ok (.iadd, 1) := by decide +kernel
theorem dX6_write_16 : decode cX6_write 16 = .ok (.ldc 7, 2) := by decide +kernel
theorem dX6_write_18 : decode cX6_write 18 = .ok (.if_icmp .le 5, 3) := by decide +kernel
theorem dX6_write_21 : decode cX6_write 21 = .ok (.iconst 0, 1) := by decide +kernel
theorem dX6_write_22 : decode cX6_write 22 = .ok (.ireturn, 1) := by decide +kernel
theorem dX6_write_23 : decode cX6_write 23 = .ok (.iconst 0, 1) := by decide +kernel
theorem dX6_write_24 : decode cX6_write 24 = .ok (.istore 4, 2) := by decide +kernel
theorem dX6_write_26 : decode cX6_write 26 = .ok (.iload 4, 2) := by decide +kernel
theorem dX6_write_28 : decode cX6_write 28 = .ok (.iload_n 3, 1) := by decide +kernel
theorem dX6_write_29 : decode cX6_write 29 = .ok (.if_icmp .ge 33, 3) := by decide +kernel
theorem dX6_write_32 : decode cX6_write 32 = .ok (.aload_n 0, 1) := by decide +kernel
theorem dX6_write_33 : decode cX6_write 33 = .ok (.getfield 8, 3) := by decide +kernel
theorem dX6_write_36 : decode cX6_write 36 = .ok (.aload_n 0, 1) := by decide +kernel
theorem dX6_write_37 : decode cX6_write 37 = .ok (.getfield 57, 3) := by decide +kernel
theorem dX6_write_40 : decode cX6_write 40 = .ok (.iload 4, 2) := by decide +kernel
theorem dX6_write_42 : decode cX6_write 42 = .ok (.iadd, 1) := by decide +kernel
theorem dX6_write_43 : decode cX6_write 43 = .ok (.lload_n 1, 1) := by decide +kernel
theorem dX6_write_44 : decode cX6_write 44 = .ok (.bipush 56, 2) := by decide +kernel
theorem dX6_write_46 : decode cX6_write 46 = .ok (.bipush 8, 2) := by decide +kernel
theorem dX6_write_48 : decode cX6_write 48 = .ok (.iload 4, 2) := by decide +kernel
theorem dX6_write_50 : decode cX6_write 50 = .ok (.imul, 1) := by decide +kernel
theorem dX6_write_51 : decode cX6_write 51 = .ok (.isub, 1) := by decide +kernel
theorem dX6_write_52 : decode cX6_write 52 = .ok (.lshr, 1) := by decide +kernel
theorem dX6_write_53 : decode cX6_write 53 = .ok (.l2i, 1) := by decide +kernel
theorem dX6_write_54 : decode cX6_write 54 = .ok (.i2b, 1) := by decide +kernel
theorem dX6_write_55 : decode cX6_write 55 = .ok (.bastore, 1) := by decide +kernel
theorem dX6_write_56 : decode cX6_write 56 = .ok (.iinc 4 1, 3) := by decide +kernel
theorem dX6_write_59 : decode cX6_write 59 = .ok (.goto (-33), 3) := by decide +kernel
theorem dX6_write_62 : decode cX6_write 62 = .ok (.aload_n 0, 1) := by decide +kernel
theorem dX6_write_63 : decode cX6_write 63 = .ok (.dup, 1) := by decide +kernel
theorem dX6_write_64 : decode cX6_write 64 = .ok (.getfield 57, 3) := by decide +kernel
theorem dX6_write_67 : decode cX6_write 67 = .ok (.iload_n 3, 1) := by decide +kernel
theorem dX6_write_68 : decode cX6_write 68 = .ok (.iadd, 1) := by decide +kernel
theorem dX6_write_69 : decode cX6_write 69 = .ok (.putfield 57, 3) := by decide +kernel
theorem dX6_write_72 : decode cX6_write 72 = .ok (.iconst 1, 1) := by decide +kernel
theorem dX6_write_73 : decode cX6_write 73 = .ok (.ireturn, 1) := by decide +kernel
theorem dX6_within_0 : decode cX6_within 0 = .ok (.iload_n 0, 1) := by decide +kernel
theorem dX6_within_1 : decode cX6_within 1 = .ok (.iload_n 1, 1) := by decide +kernel
theorem dX6_within_2 : decode cX6_within 2 = .ok (.if_icmp .lt 12, 3) := by decide +kernel
theorem dX6_within_5 : decode cX6_within 5 = .ok (.iload_n 0, 1) := by decide +kernel
theorem dX6_within_6 : decode cX6_within 6 = .ok (.iload_n 2, 1) := by decide +kernel
theorem dX6_within_7 : decode cX6_within 7 = .ok (.if_icmp .gt 7, 3) := by decide +kernel
theorem dX6_within_10 : decode cX6_within 10 = .ok (.iconst 1, 1) := by decide +kernel
theorem dX6_within_11 : decode cX6_within 11 = .ok (.goto 4, 3) := by decide +kernel
theorem dX6_within_14 : decode cX6_within 14 = .ok (.iconst 0, 1) := by decide +kernel
theorem dX6_within_15 : decode cX6_within 15 = .ok (.ireturn, 1) := by decide +kernel
theorem dX6_again_0 : decode cX6_again 0 = .ok (.iload_n 1, 1) := by decide +kernel
theorem dX6_again_1 : decode cX6_again 1 = .ok (.iconst 1, 1) := by decide +kernel
theorem dX6_again_2 : decode cX6_again 2 = .ok (.aload_n 0, 1) := by decide +kernel
theorem dX6_again_3 : decode cX6_again 3 = .ok (.getfield 57, 3) := by decide +kernel
theorem dX6_again_6 : decode cX6_again 6 = .ok (.invokestatic 81, 3) := by decide +kernel
theorem dX6_again_9 : decode cX6_again 9 = .ok (.ifCond .eq 24, 3) := by decide +kernel
theorem dX6_again_12 : decode cX6_again 12 = .ok (.iload_n 2, 1) := by decide +kernel
theorem dX6_again_13 : decode cX6_again 13 = .ok (.ifCond .lt 20, 3) := by decide +kernel
theorem dX6_again_16 : decode cX6_again 16 = .ok (.iload_n 1, 1) := by decide +kernel
theorem dX6_again_17 : decode cX6_again 17 = .ok (.i2l, 1) := by decide +kernel
theorem dX6_again_18 : decode cX6_again 18 = .ok (.iload_n 2, 1) := by decide +kernel
theorem dX6_again_19 : decode cX6_again 19 = .ok (.i2l, 1) := by decide +kernel
theorem dX6_again_20 : decode cX6_again 20 = .ok (.lmul, 1) := by decide +kernel
theorem dX6_again_21 : decode cX6_again 21 = .ok (.ldc 7, 2) := by decide +kernel
theorem dX6_again_23 : decode cX6_again 23 = .ok (.aload_n 0, 1) := by decide +kernel
theorem dX6_again_24 : decode cX6_again 24 = .ok (.getfield 57, 3) := by decide +kernel
theorem dX6_again_27 : decode cX6_again 27 = .ok (.isub, 1) := by decide +kernel
theorem dX6_again_28 : decode cX6_again 28 = .ok (.i2l, 1) := by decide +kernel
theorem dX6_again_29 : decode cX6_again 29 = .ok (.lcmp, 1) := by decide +kernel
theorem dX6_again_30 : decode cX6_again 30 = .ok (.ifCond .le 5, 3) := by decide +kernel
theorem dX6_again_33 : decode cX6_again 33 = .ok (.iconst 0, 1) := by decide +kernel
theorem dX6_again_34 : decode cX6_again 34 = .ok (.ireturn, 1) := by decide +kernel
theorem dX6_again_35 : decode cX6_again 35 = .ok (.iconst 0, 1) := by decide +kernel
theorem dX6_again_36 : decode cX6_again 36 = .ok (.istore_n 3, 1) := by decide +kernel
theorem dX6_again_37 : decode cX6_again 37 = .ok (.iload_n 3, 1) := by decide +kernel
theorem dX6_again_38 : decode cX6_again 38 = .ok (.iload_n 1, 1) := by decide +kernel
theorem dX6_again_39 : decode cX6_again 39 = .ok (.iload_n 2, 1) := by decide +kernel
theorem dX6_again_40 : decode cX6_again 40 = .ok (.imul, 1) := by decide +kernel
theorem dX6_again_41 : decode cX6_again 41 = .ok (.if_icmp .ge 39, 3) := by decide +kernel
theorem dX6_again_44 : decode cX6_again 44 = .ok (.aload_n 0, 1) := by decide +kernel
theorem dX6_again_45 : decode cX6_again 45 = .ok (.getfield 8, 3) := by decide +kernel
theorem dX6_again_48 : decode cX6_again 48 = .ok (.aload_n 0, 1) := by decide +kernel
theorem dX6_again_49 : decode cX6_again 49 = .ok (.getfield 57, 3) := by decide +kernel
theorem dX6_again_52 : decode cX6_again 52 = .ok (.aload_n 0, 1) := by decide +kernel
theorem dX6_again_53 : decode cX6_again 53 = .ok (.getfield 8, 3) := by decide +kernel
theorem dX6_again_56 : decode cX6_again 56 = .ok (.aload_n 0, 1) := by decide +kernel
theorem dX6_again_57 : decode cX6_again 57 = .ok (.getfield 57, 3) := by decide +kernel
theorem dX6_again_60 : decode cX6_again 60 = .ok (.iload_n 1, 1) := by decide +kernel
theorem dX6_again_61 : decode cX6_again 61 = .ok (.isub, 1) := by decide +kernel
theorem dX6_again_62 : decode cX6_again 62 = .ok (.baload, 1) := by decide +kernel
theorem dX6_again_63 : decode cX6_again 63 = .ok (.bastore, 1) := by decide +kernel
theorem dX6_again_64 : decode cX6_again 64 = .ok (.aload_n 0, 1) := by decide +kernel
theorem dX6_again_65 : decode cX6_again 65 = .ok (.dup, 1) := by decide +kernel
theorem dX6_again_66 : decode cX6_again 66 = .ok (.getfield 57, 3) := by decide +kernel
theorem dX6_again_69 : decode cX6_again 69 = .ok (.iconst 1, 1) := by decide +kernel
theorem dX6_again_70 : decode cX6_again 70 = .ok (.iadd, 1) := by decide +kernel
theorem dX6_again_71 : decode cX6_again 71 = .ok (.putfield 57, 3) := by decide +kernel
theorem dX6_again_74 : decode cX6_again 74 = .ok (.iinc 3 1, 3) := by decide +kernel
theorem dX6_again_77 : decode cX6_again 77 = .ok (.goto (-40), 3) := by decide +kernel
theorem dX6_again_80 : decode cX6_again 80 = .ok (.iconst 1, 1) := by decide +kernel
theorem dX6_again_81 : decode cX6_again 81 = .ok (.ireturn, 1) := by decide +kernel
theorem dX6_history_0 : decode cX6_history 0 = .ok (.iload_n 1, 1) := by decide +kernel
theorem dX6_history_1 : decode cX6_history 1 = .ok (.iconst 0, 1) := by decide +kernel
theorem dX6_history_2 : decode cX6_history 2 = .ok (.aload_n 0, 1) := by decide +kernel
theorem dX6_history_3 : decode cX6_history 3 = .ok (.getfield 57, 3) := by decide +kernel
theorem dX6_history_6 : decode cX6_history 6 = .ok (.invokestatic 81, 3) := by decide +kernel
theorem dX6_history_9 : decode cX6_history 9 = .ok (.ifCond .ne 5, 3) := by decide +kernel
theorem dX6_history_12 : decode cX6_history 12 = .ok (.iconst 0, 1) := by decide +kernel
theorem dX6_history_13 : decode cX6_history 13 = .ok (.ireturn, 1) := by decide +kernel
theorem dX6_history_14 : decode cX6_history 14 = .ok (.aload_n 0, 1) := by decide +kernel
theorem dX6_history_15 : decode cX6_history 15 = .ok (.iload_n 1, 1) := by decide +kernel
theorem dX6_history_16 : decode cX6_history 16 = .ok (.putfield 60, 3) := by decide +kernel
theorem dX6_history_19 : decode cX6_history 19 = .ok (.iconst 1, 1) := by decide +kernel
theorem dX6_history_20 : decode cX6_history 20 = .ok (.ireturn, 1) := by decide +kernel
theorem dX6_rule_0 : decode cX6_rule 0 = .ok (.iload_n 1, 1) := by decide +kernel
theorem dX6_rule_1 : decode cX6_rule 1 = .ok (.iconst 0, 1) := by decide +kernel
theorem dX6_rule_2 : decode cX6_rule 2 = .ok (.iconst 4, 1) := by decide +kernel
theorem dX6_rule_3 : decode cX6_rule 3 = .ok (.invokestatic 81, 3) := by decide +kernel
theorem dX6_rule_6 : decode cX6_rule 6 = .ok (.ifCond .eq 34, 3) := by decide +kernel
theorem dX6_rule_9 : decode cX6_rule 9 = .ok (.iload_n 2, 1) := by decide +kernel
theorem dX6_rule_10 : decode cX6_rule 10 = .ok (.iconst 1, 1) := by decide +kernel
theorem dX6_rule_11 : decode cX6_rule 11 = .ok (.ldc 18, 2) := by decide +kernel
theorem dX6_rule_13 : decode cX6_rule 13 = .ok (.invokestatic 81, 3) := by decide +kernel
theorem dX6_rule_16 : decode cX6_rule 16 = .ok (.ifCond .eq 24, 3) := by decide +kernel
theorem dX6_rule_19 : decode cX6_rule 19 = .ok (.iload_n 3, 1) := by decide +kernel
theorem dX6_rule_20 : decode cX6_rule 20 = .ok (.iconst 3, 1) := by decide +kernel
theorem dX6_rule_21 : decode cX6_rule 21 = .ok (.bipush 8, 2) := by decide +kernel
theorem dX6_rule_23 : decode cX6_rule 23 = .ok (.invokestatic 81, 3) := by decide +kernel
theorem dX6_rule_26 : decode cX6_rule 26 = .ok (.ifCond .eq 14, 3) := by decide +kernel
theorem dX6_rule_29 : decode cX6_rule 29 = .ok (.iload 4, 2) := by decide +kernel
theorem dX6_rule_31 : decode cX6_rule 31 = .ok (.iload_n 3, 1) := by decide +kernel
theorem dX6_rule_32 : decode cX6_rule 32 = .ok (.ldc 25, 2) := by decide +kernel
theorem dX6_rule_34 : decode cX6_rule 34 = .ok (.invokestatic 81, 3) := by decide +kernel
theorem dX6_rule_37 : decode cX6_rule 37 = .ok (.ifCond .ne 5, 3) := by decide +kernel
theorem dX6_rule_40 : decode cX6_rule 40 = .ok (.iconst 0, 1) := by decide +kernel
theorem dX6_rule_41 : decode cX6_rule 41 = .ok (.ireturn, 1) := by decide +kernel
theorem dX6_rule_42 : decode cX6_rule 42 = .ok (.aload_n 0, 1) := by decide +kernel
theorem dX6_rule_43 : decode cX6_rule 43 = .ok (.iload_n 1, 1) := by decide +kernel
theorem dX6_rule_44 : decode cX6_rule 44 = .ok (.putfield 14, 3) := by decide +kernel
theorem dX6_rule_47 : decode cX6_rule 47 = .ok (.aload_n 0, 1) := by decide +kernel
theorem dX6_rule_48 : decode cX6_rule 48 = .ok (.iload_n 2, 1) := by decide +kernel
theorem dX6_rule_49 : decode cX6_rule 49 = .ok (.putfield 19, 3) := by decide +kernel
theorem dX6_rule_52 : decode cX6_rule 52 = .ok (.aload_n 0, 1) := by decide +kernel
theorem dX6_rule_53 : decode cX6_rule 53 = .ok (.iload_n 3, 1) := by decide +kernel
theorem dX6_rule_54 : decode cX6_rule 54 = .ok (.putfield 22, 3) := by decide +kernel
theorem dX6_rule_57 : decode cX6_rule 57 = .ok (.aload_n 0, 1) := by decide +kernel
theorem dX6_rule_58 : decode cX6_rule 58 = .ok (.iload 4, 2) := by decide +kernel
theorem dX6_rule_60 : decode cX6_rule 60 = .ok (.putfield 26, 3) := by decide +kernel
theorem dX6_rule_63 : decode cX6_rule 63 = .ok (.iconst 1, 1) := by decide +kernel
theorem dX6_rule_64 : decode cX6_rule 64 = .ok (.ireturn, 1) := by decide +kernel
theorem dX6_bounds_0 : decode cX6_bounds 0 = .ok (.iload_n 1, 1) := by decide +kernel
theorem dX6_bounds_1 : decode cX6_bounds 1 = .ok (.iconst 0, 1) := by decide +kernel
theorem dX6_bounds_2 : decode cX6_bounds 2 = .ok (.bipush 32, 2) := by decide +kernel
theorem dX6_bounds_4 : decode cX6_bounds 4 = .ok (.invokestatic 81, 3) := by decide +kernel
theorem dX6_bounds_7 : decode cX6_bounds 7 = .ok (.ifCond .eq 36, 3) := by decide +kernel
theorem dX6_bounds_10 : decode cX6_bounds 10 = .ok (.iload_n 2, 1) := by decide +kernel
theorem dX6_bounds_11 : decode cX6_bounds 11 = .ok (.iconst 0, 1) := by decide +kernel
theorem dX6_bounds_12 : decode cX6_bounds 12 = .ok (.bipush 32, 2) := by decide +kernel
theorem dX6_bounds_14 : decode cX6_bounds 14 = .ok (.invokestatic 81, 3) := by decide +kernel
theorem dX6_bounds_17 : decode cX6_bounds 17 = .ok (.ifCond .eq 26, 3) := by decide +kernel
theorem dX6_bounds_20 : decode cX6_bounds 20 = .ok (.iload_n 3, 1) := by decide +kernel
theorem dX6_bounds_21 : decode cX6_bounds 21 = .ok (.iconst 0, 1) := by decide +kernel
theorem dX6_bounds_22 : decode cX6_bounds 22 = .ok (.sipush 255, 3) := by decide +kernel
theorem dX6_bounds_25 : decode cX6_bounds 25 = .ok (.invokestatic 81, 3) := by decide +kernel
theorem dX6_bounds_28 : decode cX6_bounds 28 = .ok (.ifCond .eq 15, 3) := by decide +kernel
theorem dX6_bounds_31 : decode cX6_bounds 31 = .ok (.iload 4, 2) := by decide +kernel
theorem dX6_bounds_33 : decode cX6_bounds 33 = .ok (.iconst 0, 1) := by decide +kernel
theorem dX6_bounds_34 : decode cX6_bounds 34 = .ok (.sipush 255, 3) := by decide +kernel
theorem dX6_bounds_37 : decode cX6_bounds 37 = .ok (.invokestatic 81, 3) := by decide +kernel
theorem dX6_bounds_40 : decode cX6_bounds 40 = .ok (.ifCond .ne 5, 3) := by decide +kernel
theorem dX6_bounds_43 : decode cX6_bounds 43 = .ok (.iconst 0, 1) := by decide +kernel
theorem dX6_bounds_44 : decode cX6_bounds 44 = .ok (.ireturn, 1) := by decide +kernel
theorem dX6_bounds_45 : decode cX6_bounds 45 = .ok (.aload_n 0, 1) := by decide +kernel
theorem dX6_bounds_46 : decode cX6_bounds 46 = .ok (.iload_n 1, 1) := by decide +kernel
theorem dX6_bounds_47 : decode cX6_bounds 47 = .ok (.putfield 85, 3) := by decide +kernel
theorem dX6_bounds_50 : decode cX6_bounds 50 = .ok (.aload_n 0, 1) := by decide +kernel
theorem dX6_bounds_51 : decode cX6_bounds 51 = .ok (.iload_n 2, 1) := by decide +kernel
theorem dX6_bounds_52 : decode cX6_bounds 52 = .ok (.putfield 88, 3) := by decide +kernel
theorem dX6_bounds_55 : decode cX6_bounds 55 = .ok (.aload_n 0, 1) := by decide +kernel
theorem dX6_bounds_56 : decode cX6_bounds 56 = .ok (.iload_n 3, 1) := by decide +kernel
theorem dX6_bounds_57 : decode cX6_bounds 57 = .ok (.putfield 29, 3) := by decide +kernel
theorem dX6_bounds_60 : decode cX6_bounds 60 = .ok (.aload_n 0, 1) := by decide +kernel
theorem dX6_bounds_61 : decode cX6_bounds 61 = .ok (.iload 4, 2) := by decide +kernel
theorem dX6_bounds_63 : decode cX6_bounds 63 = .ok (.putfield 32, 3) := by decide +kernel
theorem dX6_bounds_66 : decode cX6_bounds 66 = .ok (.iconst 1, 1) := by decide +kernel
theorem dX6_bounds_67 : decode cX6_bounds 67 = .ok (.ireturn, 1) := by decide +kernel
theorem dX6_at_0 : decode cX6_at 0 = .ok (.iload_n 1, 1) := by decide +kernel
theorem dX6_at_1 : decode cX6_at 1 = .ok (.iconst 0, 1) := by decide +kernel
theorem dX6_at_2 : decode cX6_at 2 = .ok (.aload_n 0, 1) := by decide +kernel
theorem dX6_at_3 : decode cX6_at 3 = .ok (.getfield 57, 3) := by decide +kernel
theorem dX6_at_6 : decode cX6_at 6 = .ok (.iconst 1, 1) := by decide +kernel
theorem dX6_at_7 : decode cX6_at 7 = .ok (.isub, 1) := by decide +kernel
theorem dX6_at_8 : decode cX6_at 8 = .ok (.invokestatic 81, 3) := by decide +kernel
theorem dX6_at_11 : decode cX6_at 11 = .ok (.ifCond .eq 30, 3) := by decide +kernel
theorem dX6_at_14 : decode cX6_at 14 = .ok (.iload_n 2, 1) := by decide +kernel
theorem dX6_at_15 : decode cX6_at 15 = .ok (.iconst 0, 1) := by decide +kernel
theorem dX6_at_16 : decode cX6_at 16 = .ok (.iconst 3, 1) := by decide +kernel
theorem dX6_at_17 : decode cX6_at 17 = .ok (.invokestatic 81, 3) := by decide +kernel
theorem dX6_at_20 : decode cX6_at 20 = .ok (.ifCond .eq 21, 3) := by decide +kernel
theorem dX6_at_23 : decode cX6_at 23 = .ok (.iload_n 3, 1) := by decide +kernel
theorem dX6_at_24 : decode cX6_at 24 = .ok (.iconst 0, 1) := by decide +kernel
theorem dX6_at_25 : decode cX6_at 25 = .ok (.iconst 1, 1) := by decide +kernel
theorem dX6_at_26 : decode cX6_at 26 = .ok (.invokestatic 81, 3) := by decide +kernel
theorem dX6_at_29 : decode cX6_at 29 = .ok (.ifCond .eq 12, 3) := by decide +kernel
theorem dX6_at_32 : decode cX6_at 32 = .ok (.aload_n 0, 1) := by decide +kernel
theorem dX6_at_33 : decode cX6_at 33 = .ok (.iload_n 1, 1) := by decide +kernel
theorem dX6_at_34 : decode cX6_at 34 = .ok (.iload_n 2, 1) := by decide +kernel
theorem dX6_at_35 : decode cX6_at 35 = .ok (.invokevirtual 123, 3) := by decide +kernel
theorem dX6_at_38 : decode cX6_at 38 = .ok (.ifCond .ne 5, 3) := by decide +kernel
theorem dX6_at_41 : decode cX6_at 41 = .ok (.iconst 0, 1) := by decide +kernel
theorem dX6_at_42 : decode cX6_at 42 = .ok (.ireturn, 1) := by decide +kernel
theorem dX6_at_43 : decode cX6_at 43 = .ok (.iload_n 3, 1) := by decide +kernel
theorem dX6_at_44 : decode cX6_at 44 = .ok (.ifCond .ne 10, 3) := by decide +kernel
theorem dX6_at_47 : decode cX6_at 47 = .ok (.aload_n 0, 1) := by decide +kernel
theorem dX6_at_48 : decode cX6_at 48 = .ok (.getfield 102, 3) := by decide +kernel
theorem dX6_at_51 : decode cX6_at 51 = .ok (.goto 7, 3) := by decide +kernel
theorem dX6_at_54 : decode cX6_at 54 = .ok (.aload_n 0, 1) := by decide +kernel
theorem dX6_at_55 : decode cX6_at 55 = .ok (.getfield 105, 3) := by decide +kernel
theorem dX6_at_58 : decode cX6_at 58 = .ok (.ireturn, 1) := by decide +kernel
theorem dX6_chosen_0 : decode cX6_chosen 0 = .ok (.iload_n 2, 1) := by decide +kernel
theorem dX6_chosen_1 : decode cX6_chosen 1 = .ok (.ifCond .ne 13, 3) := by decide +kernel
theorem dX6_chosen_4 : decode cX6_chosen 4 = .ok (.aload_n 0, 1) := by decide +kernel
theorem dX6_chosen_5 : decode cX6_chosen 5 = .ok (.iload_n 1, 1) := by decide +kernel
theorem dX6_chosen_6 : decode cX6_chosen 6 = .ok (.aload_n 0, 1) := by decide +kernel
theorem dX6_chosen_7 : decode cX6_chosen 7 = .ok (.getfield 22, 3) := by decide +kernel
theorem dX6_chosen_10 : decode cX6_chosen 10 = .ok (.invokevirtual 115, 3) := by decide +kernel
theorem dX6_chosen_13 : decode cX6_chosen 13 = .ok (.ireturn, 1) := by decide +kernel
theorem dX6_chosen_14 : decode cX6_chosen 14 = .ok (.iload_n 2, 1) := by decide +kernel
theorem dX6_chosen_15 : decode cX6_chosen 15 = .ok (.iconst 1, 1) := by decide +kernel
theorem dX6_chosen_16 : decode cX6_chosen 16 = .ok (.if_icmp .ne 47, 3) := by decide +kernel
theorem dX6_chosen_19 : decode cX6_chosen 19 = .ok (.aload_n 0, 1) := by decide +kernel
theorem dX6_chosen_20 : decode cX6_chosen 20 = .ok (.iload_n 1, 1) := by decide +kernel
theorem dX6_chosen_21 : decode cX6_chosen 21 = .ok (.aload_n 0, 1) := by decide +kernel
theorem dX6_chosen_22 : decode cX6_chosen 22 = .ok (.getfield 22, 3) := by decide +kernel
theorem dX6_chosen_25 : decode cX6_chosen 25 = .ok (.bipush 8, 2) := by decide +kernel
theorem dX6_chosen_27 : decode cX6_chosen 27 = .ok (.if_icmp .le 10, 3) := by decide +kernel
theorem dX6_chosen_30 : decode cX6_chosen 30 = .ok (.aload_n 0, 1) := by decide +kernel
theorem dX6_chosen_31 : decode cX6_chosen 31 = .ok (.getfield 22, 3) := by decide +kernel
theorem dX6_chosen_34 : decode cX6_chosen 34 = .ok (.goto 5, 3) := by decide +kernel
theorem dX6_chosen_37 : decode cX6_chosen 37 = .ok (.bipush 8, 2) := by decide +kernel
theorem dX6_chosen_39 : decode cX6_chosen 39 = .ok (.invokevirtual 115, 3) := by decide +kernel
theorem dX6_chosen_42 : decode cX6_chosen 42 = .ok (.ifCond .ne 15, 3) := by decide +kernel
theorem dX6_chosen_45 : decode cX6_chosen 45 = .ok (.aload_n 0, 1) := by decide +kernel
theorem dX6_chosen_46 : decode cX6_chosen 46 = .ok (.iload_n 1, 1) := by decide +kernel
theorem dX6_chosen_47 : decode cX6_chosen 47 = .ok (.aload_n 0, 1) := by decide +kernel
theorem dX6_chosen_48 : decode cX6_chosen 48 = .ok (.getfield 22, 3) := by decide +kernel
theorem dX6_chosen_51 : decode cX6_chosen 51 = .ok (.invokevirtual 115, 3) := by decide +kernel
theorem dX6_chosen_54 : decode cX6_chosen 54 = .ok (.ifCond .eq 7, 3) := by decide +kernel
theorem dX6_chosen_57 : decode cX6_chosen 57 = .ok (.iconst 1, 1) := by decide +kernel
theorem dX6_chosen_58 : decode cX6_chosen 58 = .ok (.goto 4, 3) := by decide +kernel
theorem dX6_chosen_61 : decode cX6_chosen 61 = .ok (.iconst 0, 1) := by decide +kernel
theorem dX6_chosen_62 : decode cX6_chosen 62 = .ok (.ireturn, 1) := by decide +kernel
theorem dX6_chosen_63 : decode cX6_chosen 63 = .ok (.iload_n 2, 1) := by decide +kernel
theorem dX6_chosen_64 : decode cX6_chosen 64 = .ok (.iconst 2, 1) := by decide +kernel
theorem dX6_chosen_65 : decode cX6_chosen 65 = .ok (.if_icmp .eq 13, 3) := by decide +kernel
theorem dX6_chosen_68 : decode cX6_chosen 68 = .ok (.iload_n 1, 1) := by decide +kernel
theorem dX6_chosen_69 : decode cX6_chosen 69 = .ok (.iconst 1, 1) := by decide +kernel
theorem dX6_chosen_70 : decode cX6_chosen 70 = .ok (.iadd, 1) := by decide +kernel
theorem dX6_chosen_71 : decode cX6_chosen 71 = .ok (.aload_n 0, 1) := by decide +kernel
theorem dX6_chosen_72 : decode cX6_chosen 72 = .ok (.invokevirtual 95, 3) := by decide +kernel
theorem dX6_chosen_75 : decode cX6_chosen 75 = .ok (.if_icmp .le 9, 3) := by decide +kernel
theorem dX6_chosen_78 : decode cX6_chosen 78 = .ok (.aload_n 0, 1) := by decide +kernel
theorem dX6_chosen_79 : decode cX6_chosen 79 = .ok (.iload_n 1, 1) := by decide +kernel
theorem dX6_chosen_80 : decode cX6_chosen 80 = .ok (.invokevirtual 119, 3) := by decide +kernel
theorem dX6_chosen_83 : decode cX6_chosen 83 = .ok (.ireturn, 1) := by decide +kernel
theorem dX6_chosen_84 : decode cX6_chosen 84 = .ok (.aload_n 0, 1) := by decide +kernel
theorem dX6_chosen_85 : decode cX6_chosen 85 = .ok (.iload_n 1, 1) := by decide +kernel
theorem dX6_chosen_86 : decode cX6_chosen 86 = .ok (.iconst 1, 1) := by decide +kernel
theorem dX6_chosen_87 : decode cX6_chosen 87 = .ok (.iadd, 1) := by decide +kernel
theorem dX6_chosen_88 : decode cX6_chosen 88 = .ok (.invokevirtual 119, 3) := by decide +kernel
theorem dX6_chosen_91 : decode cX6_chosen 91 = .ok (.istore_n 3, 1) := by decide +kernel
theorem dX6_chosen_92 : decode cX6_chosen 92 = .ok (.aload_n 0, 1) := by decide +kernel
theorem dX6_chosen_93 : decode cX6_chosen 93 = .ok (.getfield 102, 3) := by decide +kernel
theorem dX6_chosen_96 : decode cX6_chosen 96 = .ok (.istore 4, 2) := by decide +kernel
theorem dX6_chosen_98 : decode cX6_chosen 98 = .ok (.aload_n 0, 1) := by decide +kernel
theorem dX6_chosen_99 : decode cX6_chosen 99 = .ok (.iload_n 1, 1) := by decide +kernel
theorem dX6_chosen_100 : decode cX6_chosen 100 = .ok (.invokevirtual 119, 3) := by decide +kernel
theorem dX6_chosen_103 : decode cX6_chosen 103 = .ok (.istore 5, 2) := by decide +kernel
theorem dX6_chosen_105 : decode cX6_chosen 105 = .ok (.iload_n 3, 1) := by decide +kernel
theorem dX6_chosen_106 : decode cX6_chosen 106 = .ok (.ifCond .eq 17, 3) := by decide +kernel
theorem dX6_chosen_109 : decode cX6_chosen 109 = .ok (.iload 5, 2) := by decide +kernel
theorem dX6_chosen_111 : decode cX6_chosen 111 = .ok (.ifCond .eq 12, 3) := by decide +kernel
theorem dX6_chosen_114 : decode cX6_chosen 114 = .ok (.iload 4, 2) := by decide +kernel
theorem dX6_chosen_116 : decode cX6_chosen 116 = .ok (.aload_n 0, 1) := by decide +kernel
theorem dX6_chosen_117 : decode cX6_chosen 117 = .ok (.getfield 102, 3) := by decide +kernel
theorem dX6_chosen_120 : decode cX6_chosen 120 = .ok (.if_icmp .gt 6, 3) := by decide +kernel
theorem dX6_chosen_123 : decode cX6_chosen 123 = .ok (.iload 5, 2) := by decide +kernel
theorem dX6_chosen_125 : decode cX6_chosen 125 = .ok (.ireturn, 1) := by decide +kernel
theorem dX6_chosen_126 : decode cX6_chosen 126 = .ok (.aload_n 0, 1) := by decide +kernel
theorem dX6_chosen_127 : decode cX6_chosen 127 = .ok (.iconst 0, 1) := by decide +kernel
theorem dX6_chosen_128 : decode cX6_chosen 128 = .ok (.putfield 102, 3) := by decide +kernel
theorem dX6_chosen_131 : decode cX6_chosen 131 = .ok (.aload_n 0, 1) := by decide +kernel
theorem dX6_chosen_132 : decode cX6_chosen 132 = .ok (.iconst 0, 1) := by decide +kernel
theorem dX6_chosen_133 : decode cX6_chosen 133 = .ok (.putfield 105, 3) := by decide +kernel
theorem dX6_chosen_136 : decode cX6_chosen 136 = .ok (.iconst 0, 1) := by decide +kernel
theorem dX6_chosen_137 : decode cX6_chosen 137 = .ok (.ireturn, 1) := by decide +kernel
theorem dX6_nearest_0 : decode cX6_nearest 0 = .ok (.aload_n 0, 1) := by decide +kernel
theorem dX6_nearest_1 : decode cX6_nearest 1 = .ok (.iload_n 1, 1) := by decide +kernel
theorem dX6_nearest_2 : decode cX6_nearest 2 = .ok (.invokevirtual 98, 3) := by decide +kernel
theorem dX6_nearest_5 : decode cX6_nearest 5 = .ok (.istore_n 3, 1) := by decide +kernel
theorem dX6_nearest_6 : decode cX6_nearest 6 = .ok (.aload_n 0, 1) := by decide +kernel
theorem dX6_nearest_7 : decode cX6_nearest 7 = .ok (.iconst 0, 1) := by decide +kernel
theorem dX6_nearest_8 : decode cX6_nearest 8 = .ok (.putfield 102, 3) := by decide +kernel
theorem dX6_nearest_11 : decode cX6_nearest 11 = .ok (.aload_n 0, 1) := by decide +kernel
theorem dX6_nearest_12 : decode cX6_nearest 12 = .ok (.iconst 0, 1) := by decide +kernel
theorem dX6_nearest_13 : decode cX6_nearest 13 = .ok (.putfield 105, 3) := by decide +kernel
theorem dX6_nearest_16 : decode cX6_nearest 16 = .ok (.iload_n 3, 1) := by decide +kernel
theorem dX6_nearest_17 : decode cX6_nearest 17 = .ok (.iload_n 2, 1) := by decide +kernel
theorem dX6_nearest_18 : decode cX6_nearest 18 = .ok (.if_icmp .ge 5, 3) := by decide +kernel
theorem dX6_nearest_21 : decode cX6_nearest 21 = .ok (.iconst 0, 1) := by decide +kernel
theorem dX6_nearest_22 : decode cX6_nearest 22 = .ok (.ireturn, 1) := by decide +kernel
theorem dX6_nearest_23 : decode cX6_nearest 23 = .ok (.iload_n 1, 1) := by decide +kernel
theorem dX6_nearest_24 : decode cX6_nearest 24 = .ok (.iconst 1, 1) := by decide +kernel
theorem dX6_nearest_25 : decode cX6_nearest 25 = .ok (.isub, 1) := by decide +kernel
theorem dX6_nearest_26 : decode cX6_nearest 26 = .ok (.istore 4, 2) := by decide +kernel
theorem dX6_nearest_28 : decode cX6_nearest 28 = .ok (.iload 4, 2) := by decide +kernel
theorem dX6_nearest_30 : decode cX6_nearest 30 = .ok (.aload_n 0, 1) := by decide +kernel
theorem dX6_nearest_31 : decode cX6_nearest 31 = .ok (.iload_n 1, 1) := by decide +kernel
theorem dX6_nearest_32 : decode cX6_nearest 32 = .ok (.invokevirtual 108, 3) := by decide +kernel
theorem dX6_nearest_35 : decode cX6_nearest 35 = .ok (.if_icmp .lt 46, 3) := by decide +kernel
theorem dX6_nearest_38 : decode cX6_nearest 38 = .ok (.aload_n 0, 1) := by decide +kernel
theorem dX6_nearest_39 : decode cX6_nearest 39 = .ok (.iload_n 1, 1) := by decide +kernel
theorem dX6_nearest_40 : decode cX6_nearest 40 = .ok (.iload 4, 2) := by decide +kernel
theorem dX6_nearest_42 : decode cX6_nearest 42 = .ok (.iload_n 2, 1) := by decide +kernel
theorem dX6_nearest_43 : decode cX6_nearest 43 = .ok (.invokevirtual 111, 3) := by decide +kernel
theorem dX6_nearest_46 : decode cX6_nearest 46 = .ok (.iload_n 2, 1) := by decide +kernel
theorem dX6_nearest_47 : decode cX6_nearest 47 = .ok (.if_icmp .ge 6, 3) := by decide +kernel
theorem dX6_nearest_50 : decode cX6_nearest 50 = .ok (.goto 25, 3) := by decide +kernel
theorem dX6_nearest_53 : decode cX6_nearest 53 = .ok (.aload_n 0, 1) := by decide +kernel
theorem dX6_nearest_54 : decode cX6_nearest 54 = .ok (.aload_n 0, 1) := by decide +kernel
theorem dX6_nearest_55 : decode cX6_nearest 55 = .ok (.iload_n 1, 1) := by decide +kernel
theorem dX6_nearest_56 : decode cX6_nearest 56 = .ok (.iload 4, 2) := by decide +kernel
theorem dX6_nearest_58 : decode cX6_nearest 58 = .ok (.iload_n 3, 1) := by decide +kernel
theorem dX6_nearest_59 : decode cX6_nearest 59 = .ok (.invokevirtual 111, 3) := by decide +kernel
theorem dX6_nearest_62 : decode cX6_nearest 62 = .ok (.putfield 102, 3) := by decide +kernel
theorem dX6_nearest_65 : decode cX6_nearest 65 = .ok (.aload_n 0, 1) := by decide +kernel
theorem dX6_nearest_66 : decode cX6_nearest 66 = .ok (.iload_n 1, 1) := by decide +kernel
theorem dX6_nearest_67 : decode cX6_nearest 67 = .ok (.iload 4, 2) := by decide +kernel
theorem dX6_nearest_69 : decode cX6_nearest 69 = .ok (.isub, 1) := by decide +kernel
theorem dX6_nearest_70 : decode cX6_nearest 70 = .ok (.putfield 105, 3) := by decide +kernel
theorem dX6_nearest_73 : decode cX6_nearest 73 = .ok (.iconst 1, 1) := by decide +kernel
theorem dX6_nearest_74 : decode cX6_nearest 74 = .ok (.ireturn, 1) := by decide +kernel
theorem dX6_nearest_75 : decode cX6_nearest 75 = .ok (.iinc 4 (-1), 3) := by decide +kernel
theorem dX6_nearest_78 : decode cX6_nearest 78 = .ok (.goto (-50), 3) := by decide +kernel
theorem dX6_nearest_81 : decode cX6_nearest 81 = .ok (.iconst 0, 1) := by decide +kernel
theorem dX6_nearest_82 : decode cX6_nearest 82 = .ok (.ireturn, 1) := by decide +kernel
theorem dX6_room_0 : decode cX6_room 0 = .ok (.aload_n 0, 1) := by decide +kernel
theorem dX6_room_1 : decode cX6_room 1 = .ok (.invokevirtual 91, 3) := by decide +kernel
theorem dX6_room_4 : decode cX6_room 4 = .ok (.iload_n 1, 1) := by decide +kernel
theorem dX6_room_5 : decode cX6_room 5 = .ok (.isub, 1) := by decide +kernel
theorem dX6_room_6 : decode cX6_room 6 = .ok (.istore_n 2, 1) := by decide +kernel
theorem dX6_room_7 : decode cX6_room 7 = .ok (.iload_n 1, 1) := by decide +kernel
theorem dX6_room_8 : decode cX6_room 8 = .ok (.aload_n 0, 1) := by decide +kernel
theorem dX6_room_9 : decode cX6_room 9 = .ok (.invokevirtual 95, 3) := by decide +kernel
theorem dX6_room_12 : decode cX6_room 12 = .ok (.if_icmp .gt 11, 3) := by decide +kernel
theorem dX6_room_15 : decode cX6_room 15 = .ok (.iload_n 2, 1) := by decide +kernel
theorem dX6_room_16 : decode cX6_room 16 = .ok (.aload_n 0, 1) := by decide +kernel
theorem dX6_room_17 : decode cX6_room 17 = .ok (.getfield 22, 3) := by decide +kernel
theorem dX6_room_20 : decode cX6_room 20 = .ok (.if_icmp .ge 7, 3) := by decide +kernel
theorem dX6_room_23 : decode cX6_room 23 = .ok (.iconst 0, 1) := by decide +kernel
theorem dX6_room_24 : decode cX6_room 24 = .ok (.goto 19, 3) := by decide +kernel
theorem dX6_room_27 : decode cX6_room 27 = .ok (.iload_n 2, 1) := by decide +kernel
theorem dX6_room_28 : decode cX6_room 28 = .ok (.aload_n 0, 1) := by decide +kernel
theorem dX6_room_29 : decode cX6_room 29 = .ok (.getfield 26, 3) := by decide +kernel
theorem dX6_room_32 : decode cX6_room 32 = .ok (.if_icmp .ge 7, 3) := by decide +kernel
theorem dX6_room_35 : decode cX6_room 35 = .ok (.iload_n 2, 1) := by decide +kernel
theorem dX6_room_36 : decode cX6_room 36 = .ok (.goto 7, 3) := by decide +kernel
theorem dX6_room_39 : decode cX6_room 39 = .ok (.aload_n 0, 1) := by decide +kernel
theorem dX6_room_40 : decode cX6_room 40 = .ok (.getfield 26, 3) := by decide +kernel
theorem dX6_room_43 : decode cX6_room 43 = .ok (.ireturn, 1) := by decide +kernel
theorem dX6_end_0 : decode cX6_end 0 = .ok (.aload_n 0, 1) := by decide +kernel
theorem dX6_end_1 : decode cX6_end 1 = .ok (.getfield 57, 3) := by decide +kernel
theorem dX6_end_4 : decode cX6_end 4 = .ok (.aload_n 0, 1) := by decide +kernel
theorem dX6_end_5 : decode cX6_end 5 = .ok (.getfield 88, 3) := by decide +kernel
theorem dX6_end_8 : decode cX6_end 8 = .ok (.if_icmp .ge 7, 3) := by decide +kernel
theorem dX6_end_11 : decode cX6_end 11 = .ok (.iconst 0, 1) := by decide +kernel
theorem dX6_end_12 : decode cX6_end 12 = .ok (.goto 12, 3) := by decide +kernel
theorem dX6_end_15 : decode cX6_end 15 = .ok (.aload_n 0, 1) := by decide +kernel
theorem dX6_end_16 : decode cX6_end 16 = .ok (.getfield 57, 3) := by decide +kernel
theorem dX6_end_19 : decode cX6_end 19 = .ok (.aload_n 0, 1) := by decide +kernel
theorem dX6_end_20 : decode cX6_end 20 = .ok (.getfield 88, 3) := by decide +kernel
theorem dX6_end_23 : decode cX6_end 23 = .ok (.isub, 1) := by decide +kernel
theorem dX6_end_24 : decode cX6_end 24 = .ok (.ireturn, 1) := by decide +kernel
theorem dX6_last_0 : decode cX6_last 0 = .ok (.aload_n 0, 1) := by decide +kernel
theorem dX6_last_1 : decode cX6_last 1 = .ok (.getfield 57, 3) := by decide +kernel
theorem dX6_last_4 : decode cX6_last 4 = .ok (.iconst 1, 1) := by decide +kernel
theorem dX6_last_5 : decode cX6_last 5 = .ok (.isub, 1) := by decide +kernel
theorem dX6_last_6 : decode cX6_last 6 = .ok (.aload_n 0, 1) := by decide +kernel
theorem dX6_last_7 : decode cX6_last 7 = .ok (.getfield 85, 3) := by decide +kernel
theorem dX6_last_10 : decode cX6_last 10 = .ok (.isub, 1) := by decide +kernel
theorem dX6_last_11 : decode cX6_last 11 = .ok (.ireturn, 1) := by decide +kernel
theorem dX6_lowest_0 : decode cX6_lowest 0 = .ok (.iload_n 1, 1) := by decide +kernel
theorem dX6_lowest_1 : decode cX6_lowest 1 = .ok (.aload_n 0, 1) := by decide +kernel
theorem dX6_lowest_2 : decode cX6_lowest 2 = .ok (.getfield 19, 3) := by decide +kernel
theorem dX6_lowest_5 : decode cX6_lowest 5 = .ok (.if_icmp .ge 7, 3) := by decide +kernel
theorem dX6_lowest_8 : decode cX6_lowest 8 = .ok (.iconst 0, 1) := by decide +kernel
theorem dX6_lowest_9 : decode cX6_lowest 9 = .ok (.goto 9, 3) := by decide +kernel
theorem dX6_lowest_12 : decode cX6_lowest 12 = .ok (.iload_n 1, 1) := by decide +kernel
theorem dX6_lowest_13 : decode cX6_lowest 13 = .ok (.aload_n 0, 1) := by decide +kernel
theorem dX6_lowest_14 : decode cX6_lowest 14 = .ok (.getfield 19, 3) := by decide +kernel
theorem dX6_lowest_17 : decode cX6_lowest 17 = .ok (.isub, 1) := by decide +kernel
theorem dX6_lowest_18 : decode cX6_lowest 18 = .ok (.ireturn, 1) := by decide +kernel
theorem dX6_alike_0 : decode cX6_alike 0 = .ok (.iconst 0, 1) := by decide +kernel
theorem dX6_alike_1 : decode cX6_alike 1 = .ok (.istore 4, 2) := by decide +kernel
theorem dX6_alike_3 : decode cX6_alike 3 = .ok (.iload 4, 2) := by decide +kernel
theorem dX6_alike_5 : decode cX6_alike 5 = .ok (.iload_n 3, 1) := by decide +kernel
theorem dX6_alike_6 : decode cX6_alike 6 = .ok (.if_icmp .ge 30, 3) := by decide +kernel
theorem dX6_alike_9 : decode cX6_alike 9 = .ok (.aload_n 0, 1) := by decide +kernel
theorem dX6_alike_10 : decode cX6_alike 10 = .ok (.getfield 8, 3) := by decide +kernel
theorem dX6_alike_13 : decode cX6_alike 13 = .ok (.iload_n 1, 1) := by decide +kernel
theorem dX6_alike_14 : decode cX6_alike 14 = .ok (.iload 4, 2) := by decide +kernel
theorem dX6_alike_16 : decode cX6_alike 16 = .ok (.iadd, 1) := by decide +kernel
theorem dX6_alike_17 : decode cX6_alike 17 = .ok (.baload, 1) := by decide +kernel
theorem dX6_alike_18 : decode cX6_alike 18 = .ok (.aload_n 0, 1) := by decide +kernel
theorem dX6_alike_19 : decode cX6_alike 19 = .ok (.getfield 8, 3) := by decide +kernel
theorem dX6_alike_22 : decode cX6_alike 22 = .ok (.iload_n 2, 1) := by decide +kernel
theorem dX6_alike_23 : decode cX6_alike 23 = .ok (.iload 4, 2) := by decide +kernel
theorem dX6_alike_25 : decode cX6_alike 25 = .ok (.iadd, 1) := by decide +kernel
theorem dX6_alike_26 : decode cX6_alike 26 = .ok (.baload, 1) := by decide +kernel
theorem dX6_alike_27 : decode cX6_alike 27 = .ok (.if_icmp .ne 9, 3) := by decide +kernel
theorem dX6_alike_30 : decode cX6_alike 30 = .ok (.iinc 4 1, 3) := by decide +kernel
theorem dX6_alike_33 : decode cX6_alike 33 = .ok (.goto (-30), 3) := by decide +kernel
theorem dX6_alike_36 : decode cX6_alike 36 = .ok (.iload 4, 2) := by decide +kernel
theorem dX6_alike_38 : decode cX6_alike 38 = .ok (.ireturn, 1) := by decide +kernel
theorem dX6_longest_0 : decode cX6_longest 0 = .ok (.aload_n 0, 1) := by decide +kernel
theorem dX6_longest_1 : decode cX6_longest 1 = .ok (.iload_n 1, 1) := by decide +kernel
theorem dX6_longest_2 : decode cX6_longest 2 = .ok (.invokevirtual 98, 3) := by decide +kernel
theorem dX6_longest_5 : decode cX6_longest 5 = .ok (.istore_n 2, 1) := by decide +kernel
theorem dX6_longest_6 : decode cX6_longest 6 = .ok (.aload_n 0, 1) := by decide +kernel
theorem dX6_longest_7 : decode cX6_longest 7 = .ok (.iconst 0, 1) := by decide +kernel
theorem dX6_longest_8 : decode cX6_longest 8 = .ok (.putfield 102, 3) := by decide +kernel
theorem dX6_longest_11 : decode cX6_longest 11 = .ok (.aload_n 0, 1) := by decide +kernel
theorem dX6_longest_12 : decode cX6_longest 12 = .ok (.iconst 0, 1) := by decide +kernel
theorem dX6_longest_13 : decode cX6_longest 13 = .ok (.putfield 105, 3) := by decide +kernel
theorem dX6_longest_16 : decode cX6_longest 16 = .ok (.iload_n 1, 1) := by decide +kernel
theorem dX6_longest_17 : decode cX6_longest 17 = .ok (.iconst 1, 1) := by decide +kernel
theorem dX6_longest_18 : decode cX6_longest 18 = .ok (.isub, 1) := by decide +kernel
theorem dX6_longest_19 : decode cX6_longest 19 = .ok (.istore_n 3, 1) := by decide +kernel
theorem dX6_longest_20 : decode cX6_longest 20 = .ok (.iload_n 3, 1) := by decide +kernel
theorem dX6_longest_21 : decode cX6_longest 21 = .ok (.aload_n 0, 1) := by decide +kernel
theorem dX6_longest_22 : decode cX6_longest 22 = .ok (.iload_n 1, 1) := by decide +kernel
theorem dX6_longest_23 : decode cX6_longest 23 = .ok (.invokevirtual 108, 3) := by decide +kernel
theorem dX6_longest_26 : decode cX6_longest 26 = .ok (.if_icmp .lt 88, 3) := by decide +kernel
theorem dX6_longest_29 : decode cX6_longest 29 = .ok (.aload_n 0, 1) := by decide +kernel
theorem dX6_longest_30 : decode cX6_longest 30 = .ok (.getfield 102, 3) := by decide +kernel
theorem dX6_longest_33 : decode cX6_longest 33 = .ok (.iload_n 2, 1) := by decide +kernel
theorem dX6_longest_34 : decode cX6_longest 34 = .ok (.if_icmp .ge 80, 3) := by decide +kernel
theorem dX6_longest_37 : decode cX6_longest 37 = .ok (.aload_n 0, 1) := by decide +kernel
theorem dX6_longest_38 : decode cX6_longest 38 = .ok (.getfield 8, 3) := by decide +kernel
theorem dX6_longest_41 : decode cX6_longest 41 = .ok (.iload_n 1, 1) := by decide +kernel
theorem dX6_longest_42 : decode cX6_longest 42 = .ok (.aload_n 0, 1) := by decide +kernel
theorem dX6_longest_43 : decode cX6_longest 43 = .ok (.getfield 102, 3) := by decide +kernel
theorem dX6_longest_46 : decode cX6_longest 46 = .ok (.iadd, 1) := by decide +kernel
theorem dX6_longest_47 : decode cX6_longest 47 = .ok (.baload, 1) := by decide +kernel
theorem dX6_longest_48 : decode cX6_longest 48 = .ok (.aload_n 0, 1) := by decide +kernel
theorem dX6_longest_49 : decode cX6_longest 49 = .ok (.getfield 8, 3) := by decide +kernel
theorem dX6_longest_52 : decode cX6_longest 52 = .ok (.iload_n 3, 1) := by decide +kernel
theorem dX6_longest_53 : decode cX6_longest 53 = .ok (.aload_n 0, 1) := by decide +kernel
theorem dX6_longest_54 : decode cX6_longest 54 = .ok (.getfield 102, 3) := by decide +kernel
theorem dX6_longest_57 : decode cX6_longest 57 = .ok (.iadd, 1) := by decide +kernel
theorem dX6_longest_58 : decode cX6_longest 58 = .ok (.baload, 1) := by decide +kernel
theorem dX6_longest_59 : decode cX6_longest 59 = .ok (.if_icmp .eq 6, 3) := by decide +kernel
theorem dX6_longest_62 : decode cX6_longest 62 = .ok (.goto 46, 3) := by decide +kernel
theorem dX6_longest_65 : decode cX6_longest 65 = .ok (.aload_n 0, 1) := by decide +kernel
theorem dX6_longest_66 : decode cX6_longest 66 = .ok (.iload_n 1, 1) := by decide +kernel
theorem dX6_longest_67 : decode cX6_longest 67 = .ok (.iload_n 3, 1) := by decide +kernel
theorem dX6_longest_68 : decode cX6_longest 68 = .ok (.iload_n 2, 1) := by decide +kernel
theorem dX6_longest_69 : decode cX6_longest 69 = .ok (.invokevirtual 111, 3) := by decide +kernel
theorem dX6_longest_72 : decode cX6_longest 72 = .ok (.istore 4, 2) := by decide +kernel
theorem dX6_longest_74 : decode cX6_longest 74 = .ok (.iload 4, 2) := by decide +kernel
theorem dX6_longest_76 : decode cX6_longest 76 = .ok (.aload_n 0, 1) := by decide +kernel
theorem dX6_longest_77 : decode cX6_longest 77 = .ok (.getfield 22, 3) := by decide +kernel
theorem dX6_longest_80 : decode cX6_longest 80 = .ok (.if_icmp .lt 28, 3) := by decide +kernel
theorem dX6_longest_83 : decode cX6_longest 83 = .ok (.iload 4, 2) := by decide +kernel
theorem dX6_longest_85 : decode cX6_longest 85 = .ok (.aload_n 0, 1) := by decide +kernel
theorem dX6_longest_86 : decode cX6_longest 86 = .ok (.getfield 102, 3) := by decide +kernel
theorem dX6_longest_89 : decode cX6_longest 89 = .ok (.if_icmp .gt 6, 3) := by decide +kernel
theorem dX6_longest_92 : decode cX6_longest 92 = .ok (.goto 16, 3) := by decide +kernel
theorem dX6_longest_95 : decode cX6_longest 95 = .ok (.aload_n 0, 1) := by decide +kernel
theorem dX6_longest_96 : decode cX6_longest 96 = .ok (.iload 4, 2) := by decide +kernel
theorem dX6_longest_98 : decode cX6_longest 98 = .ok (.putfield 102, 3) := by decide +kernel
theorem dX6_longest_101 : decode cX6_longest 101 = .ok (.aload_n 0, 1) := by decide +kernel
theorem dX6_longest_102 : decode cX6_longest 102 = .ok (.iload_n 1, 1) := by decide +kernel
theorem dX6_longest_103 : decode cX6_longest 103 = .ok (.iload_n 3, 1) := by decide +kernel
theorem dX6_longest_104 : decode cX6_longest 104 = .ok (.isub, 1) := by decide +kernel
theorem dX6_longest_105 : decode cX6_longest 105 = .ok (.putfield 105, 3) := by decide +kernel
theorem dX6_longest_108 : decode cX6_longest 108 = .ok (.iinc 3 (-1), 3) := by decide +kernel
theorem dX6_longest_111 : decode cX6_longest 111 = .ok (.goto (-91), 3) := by decide +kernel
theorem dX6_longest_114 : decode cX6_longest 114 = .ok (.aload_n 0, 1) := by decide +kernel
theorem dX6_longest_115 : decode cX6_longest 115 = .ok (.getfield 102, 3) := by decide +kernel
theorem dX6_longest_118 : decode cX6_longest 118 = .ok (.ifCond .le 7, 3) := by decide +kernel
theorem dX6_longest_121 : decode cX6_longest 121 = .ok (.iconst 1, 1) := by decide +kernel
theorem dX6_longest_122 : decode cX6_longest 122 = .ok (.goto 4, 3) := by decide +kernel
theorem dX6_longest_125 : decode cX6_longest 125 = .ok (.iconst 0, 1) := by decide +kernel
theorem dX6_longest_126 : decode cX6_longest 126 = .ok (.ireturn, 1) := by decide +kernel
theorem dX6_count_0 : decode cX6_count 0 = .ok (.iload_n 1, 1) := by decide +kernel
theorem dX6_count_1 : decode cX6_count 1 = .ok (.iconst 0, 1) := by decide +kernel
theorem dX6_count_2 : decode cX6_count 2 = .ok (.aload_n 0, 1) := by decide +kernel
theorem dX6_count_3 : decode cX6_count 3 = .ok (.getfield 57, 3) := by decide +kernel
theorem dX6_count_6 : decode cX6_count 6 = .ok (.iconst 1, 1) := by decide +kernel
theorem dX6_count_7 : decode cX6_count 7 = .ok (.isub, 1) := by decide +kernel
theorem dX6_count_8 : decode cX6_count 8 = .ok (.invokestatic 81, 3) := by decide +kernel
theorem dX6_count_11 : decode cX6_count 11 = .ok (.ifCond .eq 11, 3) := by decide +kernel
theorem dX6_count_14 : decode cX6_count 14 = .ok (.aload_n 0, 1) := by decide +kernel
theorem dX6_count_15 : decode cX6_count 15 = .ok (.iload_n 1, 1) := by decide +kernel
theorem dX6_count_16 : decode cX6_count 16 = .ok (.invokevirtual 98, 3) := by decide +kernel
theorem dX6_count_19 : decode cX6_count 19 = .ok (.ifCond .ne 5, 3) := by decide +kernel
theorem dX6_count_22 : decode cX6_count 22 = .ok (.iconst 0, 1) := by decide +kernel
theorem dX6_count_23 : decode cX6_count 23 = .ok (.ireturn, 1) := by decide +kernel
theorem dX6_count_24 : decode cX6_count 24 = .ok (.iconst 0, 1) := by decide +kernel
theorem dX6_count_25 : decode cX6_count 25 = .ok (.istore_n 2, 1) := by decide +kernel
theorem dX6_count_26 : decode cX6_count 26 = .ok (.iload_n 1, 1) := by decide +kernel
theorem dX6_count_27 : decode cX6_count 27 = .ok (.iconst 1, 1) := by decide +kernel
theorem dX6_count_28 : decode cX6_count 28 = .ok (.isub, 1) := by decide +kernel
theorem dX6_count_29 : decode cX6_count 29 = .ok (.istore_n 3, 1) := by decide +kernel
theorem dX6_count_30 : decode cX6_count 30 = .ok (.iload_n 3, 1) := by decide +kernel
theorem dX6_count_31 : decode cX6_count 31 = .ok (.aload_n 0, 1) := by decide +kernel
theorem dX6_count_32 : decode cX6_count 32 = .ok (.iload_n 1, 1) := by decide +kernel
theorem dX6_count_33 : decode cX6_count 33 = .ok (.invokevirtual 108, 3) := by decide +kernel
theorem dX6_count_36 : decode cX6_count 36 = .ok (.if_icmp .lt 34, 3) := by decide +kernel
theorem dX6_count_39 : decode cX6_count 39 = .ok (.iload_n 2, 1) := by decide +kernel
theorem dX6_count_40 : decode cX6_count 40 = .ok (.aload_n 0, 1) := by decide +kernel
theorem dX6_count_41 : decode cX6_count 41 = .ok (.iload_n 1, 1) := by decide +kernel
theorem dX6_count_42 : decode cX6_count 42 = .ok (.iload_n 3, 1) := by decide +kernel
theorem dX6_count_43 : decode cX6_count 43 = .ok (.aload_n 0, 1) := by decide +kernel
theorem dX6_count_44 : decode cX6_count 44 = .ok (.getfield 22, 3) := by decide +kernel
theorem dX6_count_47 : decode cX6_count 47 = .ok (.invokevirtual 111, 3) := by decide +kernel
theorem dX6_count_50 : decode cX6_count 50 = .ok (.aload_n 0, 1) := by decide +kernel
theorem dX6_count_51 : decode cX6_count 51 = .ok (.getfield 22, 3) := by decide +kernel
theorem dX6_count_54 : decode cX6_count 54 = .ok (.if_icmp .ne 7, 3) := by decide +kernel
theorem dX6_count_57 : decode cX6_count 57 = .ok (.iconst 1, 1) := by decide +kernel
theorem dX6_count_58 : decode cX6_count 58 = .ok (.goto 4, 3) := by decide +kernel
theorem dX6_count_61 : decode cX6_count 61 = .ok (.iconst 0, 1) := by decide +kernel
theorem dX6_count_62 : decode cX6_count 62 = .ok (.iadd, 1) := by decide +kernel
theorem dX6_count_63 : decode cX6_count 63 = .ok (.istore_n 2, 1) := by decide +kernel
theorem dX6_count_64 : decode cX6_count 64 = .ok (.iinc 3 (-1), 3) := by decide +kernel
theorem dX6_count_67 : decode cX6_count 67 = .ok (.goto (-37), 3) := by decide +kernel
theorem dX6_count_70 : decode cX6_count 70 = .ok (.iload_n 2, 1) := by decide +kernel
theorem dX6_count_71 : decode cX6_count 71 = .ok (.ireturn, 1) := by decide +kernel
theorem dX6_go_0 : decode cX6_go 0 = .ok (.aload_n 0, 1) := by decide +kernel
theorem dX6_go_1 : decode cX6_go 1 = .ok (.getfield 14, 3) := by decide +kernel
theorem dX6_go_4 : decode cX6_go 4 = .ok (.iconst 4, 1) := by decide +kernel
theorem dX6_go_5 : decode cX6_go 5 = .ok (.if_icmp .ne 20, 3) := by decide +kernel
theorem dX6_go_8 : decode cX6_go 8 = .ok (.aload_n 0, 1) := by decide +kernel
theorem dX6_go_9 : decode cX6_go 9 = .ok (.getfield 57, 3) := by decide +kernel
theorem dX6_go_12 : decode cX6_go 12 = .ok (.aload_n 0, 1) := by decide +kernel
theorem dX6_go_13 : decode cX6_go 13 = .ok (.getfield 60, 3) := by decide +kernel
theorem dX6_go_16 : decode cX6_go 16 = .ok (.isub, 1) := by decide +kernel
theorem dX6_go_17 : decode cX6_go 17 = .ok (.sipush 8192, 3) := by decide +kernel
theorem dX6_go_20 : decode cX6_go 20 = .ok (.if_icmp .le 5, 3) := by decide +kernel
theorem dX6_go_23 : decode cX6_go 23 = .ok (.iconst (-1), 1) := by decide +kernel
theorem dX6_go_24 : decode cX6_go 24 = .ok (.ireturn, 1) := by decide +kernel
theorem dX6_go_25 : decode cX6_go 25 = .ok (.aload_n 0, 1) := by decide +kernel
theorem dX6_go_26 : decode cX6_go 26 = .ok (.iconst 0, 1) := by decide +kernel
theorem dX6_go_27 : decode cX6_go 27 = .ok (.putfield 63, 3) := by decide +kernel
theorem dX6_go_30 : decode cX6_go 30 = .ok (.aload_n 0, 1) := by decide +kernel
theorem dX6_go_31 : decode cX6_go 31 = .ok (.iconst 0, 1) := by decide +kernel
theorem dX6_go_32 : decode cX6_go 32 = .ok (.putfield 66, 3) := by decide +kernel
theorem dX6_go_35 : decode cX6_go 35 = .ok (.aload_n 0, 1) := by decide +kernel
theorem dX6_go_36 : decode cX6_go 36 = .ok (.iconst 0, 1) := by decide +kernel
theorem dX6_go_37 : decode cX6_go 37 = .ok (.putfield 69, 3) := by decide +kernel
theorem dX6_go_40 : decode cX6_go 40 = .ok (.aload_n 0, 1) := by decide +kernel
theorem dX6_go_41 : decode cX6_go 41 = .ok (.iconst 0, 1) := by decide +kernel
theorem dX6_go_42 : decode cX6_go 42 = .ok (.putfield 72, 3) := by decide +kernel
theorem dX6_go_45 : decode cX6_go 45 = .ok (.aload_n 0, 1) := by decide +kernel
theorem dX6_go_46 : decode cX6_go 46 = .ok (.aload_n 0, 1) := by decide +kernel
theorem dX6_go_47 : decode cX6_go 47 = .ok (.getfield 57, 3) := by decide +kernel
theorem dX6_go_50 : decode cX6_go 50 = .ok (.putfield 75, 3) := by decide +kernel
theorem dX6_go_53 : decode cX6_go 53 = .ok (.aload_n 0, 1) := by decide +kernel
theorem dX6_go_54 : decode cX6_go 54 = .ok (.aload_n 0, 1) := by decide +kernel
theorem dX6_go_55 : decode cX6_go 55 = .ok (.getfield 60, 3) := by decide +kernel
theorem dX6_go_58 : decode cX6_go 58 = .ok (.putfield 78, 3) := by decide +kernel
theorem dX6_go_61 : decode cX6_go 61 = .ok (.aload_n 0, 1) := by decide +kernel
theorem dX6_go_62 : decode cX6_go 62 = .ok (.getfield 14, 3) := by decide +kernel
theorem dX6_go_65 : decode cX6_go 65 = .ok (.iconst 4, 1) := by decide +kernel
theorem dX6_go_66 : decode cX6_go 66 = .ok (.if_icmp .ne 7, 3) := by decide +kernel
theorem dX6_go_69 : decode cX6_go 69 = .ok (.aload_n 0, 1) := by decide +kernel
theorem dX6_go_70 : decode cX6_go 70 = .ok (.invokevirtual 129, 3) := by decide +kernel
theorem dX6_go_73 : decode cX6_go 73 = .ok (.aload_n 0, 1) := by decide +kernel
theorem dX6_go_74 : decode cX6_go 74 = .ok (.getfield 60, 3) := by decide +kernel
theorem dX6_go_77 : decode cX6_go 77 = .ok (.istore_n 1, 1) := by decide +kernel
theorem dX6_go_78 : decode cX6_go 78 = .ok (.iload_n 1, 1) := by decide +kernel
theorem dX6_go_79 : decode cX6_go 79 = .ok (.aload_n 0, 1) := by decide +kernel
theorem dX6_go_80 : decode cX6_go 80 = .ok (.getfield 57, 3) := by decide +kernel
theorem dX6_go_83 : decode cX6_go 83 = .ok (.if_icmp .ge 62, 3) := by decide +kernel
theorem dX6_go_86 : decode cX6_go 86 = .ok (.aload_n 0, 1) := by decide +kernel
theorem dX6_go_87 : decode cX6_go 87 = .ok (.getfield 14, 3) := by decide +kernel
theorem dX6_go_90 : decode cX6_go 90 = .ok (.iconst 4, 1) := by decide +kernel
theorem dX6_go_91 : decode cX6_go 91 = .ok (.if_icmp .ne 11, 3) := by decide +kernel
theorem dX6_go_94 : decode cX6_go 94 = .ok (.aload_n 0, 1) := by decide +kernel
theorem dX6_go_95 : decode cX6_go 95 = .ok (.iload_n 1, 1) := by decide +kernel
theorem dX6_go_96 : decode cX6_go 96 = .ok (.invokevirtual 132, 3) := by decide +kernel
theorem dX6_go_99 : decode cX6_go 99 = .ok (.goto 12, 3) := by decide +kernel
theorem dX6_go_102 : decode cX6_go 102 = .ok (.aload_n 0, 1) := by decide +kernel
theorem dX6_go_103 : decode cX6_go 103 = .ok (.iload_n 1, 1) := by decide +kernel
theorem dX6_go_104 : decode cX6_go 104 = .ok (.aload_n 0, 1) := by decide +kernel
theorem dX6_go_105 : decode cX6_go 105 = .ok (.getfield 14, 3) := by decide +kernel
theorem dX6_go_108 : decode cX6_go 108 = .ok (.invokevirtual 123, 3) := by decide +kernel
theorem dX6_go_111 : decode cX6_go 111 = .ok (.istore_n 2, 1) := by decide +kernel
theorem dX6_go_112 : decode cX6_go 112 = .ok (.iload_n 2, 1) := by decide +kernel
theorem dX6_go_113 : decode cX6_go 113 = .ok (.ifCond .eq 10, 3) := by decide +kernel
theorem dX6_go_116 : decode cX6_go 116 = .ok (.aload_n 0, 1) := by decide +kernel
theorem dX6_go_117 : decode cX6_go 117 = .ok (.invokevirtual 135, 3) := by decide +kernel
theorem dX6_go_120 : decode cX6_go 120 = .ok (.goto 7, 3) := by decide +kernel
theorem dX6_go_123 : decode cX6_go 123 = .ok (.aload_n 0, 1) := by decide +kernel
theorem dX6_go_124 : decode cX6_go 124 = .ok (.invokevirtual 138, 3) := by decide +kernel
theorem dX6_go_127 : decode cX6_go 127 = .ok (.iload_n 1, 1) := by decide +kernel
theorem dX6_go_128 : decode cX6_go 128 = .ok (.iload_n 2, 1) := by decide +kernel
theorem dX6_go_129 : decode cX6_go 129 = .ok (.ifCond .eq 10, 3) := by decide +kernel
theorem dX6_go_132 : decode cX6_go 132 = .ok (.aload_n 0, 1) := by decide +kernel
theorem dX6_go_133 : decode cX6_go 133 = .ok (.getfield 102, 3) := by decide +kernel
theorem dX6_go_136 : decode cX6_go 136 = .ok (.goto 4, 3) := by decide +kernel
theorem dX6_go_139 : decode cX6_go 139 = .ok (.iconst 1, 1) := by decide +kernel
theorem dX6_go_140 : decode cX6_go 140 = .ok (.iadd, 1) := by decide +kernel
theorem dX6_go_141 : decode cX6_go 141 = .ok (.istore_n 1, 1) := by decide +kernel
theorem dX6_go_142 : decode cX6_go 142 = .ok (.goto (-64), 3) := by decide +kernel
theorem dX6_go_145 : decode cX6_go 145 = .ok (.aload_n 0, 1) := by decide +kernel
theorem dX6_go_146 : decode cX6_go 146 = .ok (.getfield 63, 3) := by decide +kernel
theorem dX6_go_149 : decode cX6_go 149 = .ok (.ireturn, 1) := by decide +kernel
theorem dX6_reckon_0 : decode cX6_reckon 0 = .ok (.aload_n 0, 1) := by decide +kernel
theorem dX6_reckon_1 : decode cX6_reckon 1 = .ok (.getfield 48, 3) := by decide +kernel
theorem dX6_reckon_4 : decode cX6_reckon 4 = .ok (.aload_n 0, 1) := by decide +kernel
theorem dX6_reckon_5 : decode cX6_reckon 5 = .ok (.getfield 57, 3) := by decide +kernel
theorem dX6_reckon_8 : decode cX6_reckon 8 = .ok (.aload_n 0, 1) := by decide +kernel
theorem dX6_reckon_9 : decode cX6_reckon 9 = .ok (.getfield 60, 3) := by decide +kernel
theorem dX6_reckon_12 : decode cX6_reckon 12 = .ok (.isub, 1) := by decide +kernel
theorem dX6_reckon_13 : decode cX6_reckon 13 = .ok (.iconst 0, 1) := by decide +kernel
theorem dX6_reckon_14 : decode cX6_reckon 14 = .ok (.iastore, 1) := by decide +kernel
theorem dX6_reckon_15 : decode cX6_reckon 15 = .ok (.aload_n 0, 1) := by decide +kernel
theorem dX6_reckon_16 : decode cX6_reckon 16 = .ok (.getfield 57, 3) := by decide +kernel
theorem dX6_reckon_19 : decode cX6_reckon 19 = .ok (.iconst 1, 1) := by decide +kernel
theorem dX6_reckon_20 : decode cX6_reckon 20 = .ok (.isub, 1) := by decide +kernel
theorem dX6_reckon_21 : decode cX6_reckon 21 = .ok (.istore_n 1, 1) := by decide +kernel
theorem dX6_reckon_22 : decode cX6_reckon 22 = .ok (.iload_n 1, 1) := by decide +kernel
theorem dX6_reckon_23 : decode cX6_reckon 23 = .ok (.aload_n 0, 1) := by decide +kernel
theorem dX6_reckon_24 : decode cX6_reckon 24 = .ok (.getfield 60, 3) := by decide +kernel
theorem dX6_reckon_27 : decode cX6_reckon 27 = .ok (.if_icmp .lt 171, 3) := by decide +kernel
theorem dX6_reckon_30 : decode cX6_reckon 30 = .ok (.iload_n 1, 1) := by decide +kernel
theorem dX6_reckon_31 : decode cX6_reckon 31 = .ok (.aload_n 0, 1) := by decide +kernel
theorem dX6_reckon_32 : decode cX6_reckon 32 = .ok (.getfield 60, 3) := by decide +kernel
theorem dX6_reckon_35 : decode cX6_reckon 35 = .ok (.isub, 1) := by decide +kernel
theorem dX6_reckon_36 : decode cX6_reckon 36 = .ok (.istore_n 2, 1) := by decide +kernel
theorem dX6_reckon_37 : decode cX6_reckon 37 = .ok (.aload_n 0, 1) := by decide +kernel
theorem dX6_reckon_38 : decode cX6_reckon 38 = .ok (.getfield 48, 3) := by decide +kernel
theorem dX6_reckon_41 : decode cX6_reckon 41 = .ok (.iload_n 2, 1) := by decide +kernel
theorem dX6_reckon_42 : decode cX6_reckon 42 = .ok (.aload_n 0, 1) := by decide +kernel
theorem dX6_reckon_43 : decode cX6_reckon 43 = .ok (.getfield 29, 3) := by decide +kernel
theorem dX6_reckon_46 : decode cX6_reckon 46 = .ok (.aload_n 0, 1) := by decide +kernel
theorem dX6_reckon_47 : decode cX6_reckon 47 = .ok (.getfield 48, 3) := by decide +kernel
theorem dX6_reckon_50 : decode cX6_reckon 50 = .ok (.iload_n 2, 1) := by decide +kernel
theorem dX6_reckon_51 : decode cX6_reckon 51 = .ok (.iconst 1, 1) := by decide +kernel
theorem dX6_reckon_52 : decode cX6_reckon 52 = .ok (.iadd, 1) := by decide +kernel
theorem dX6_reckon_53 : decode cX6_reckon 53 = .ok (.iaload, 1) := by decide +kernel
theorem dX6_reckon_54 : decode cX6_reckon 54 = .ok (.iadd, 1) := by decide +kernel
theorem dX6_reckon_55 : decode cX6_reckon 55 = .ok (.iastore, 1) := by decide +kernel
theorem dX6_reckon_56 : decode cX6_reckon 56 = .ok (.aload_n 0, 1) := by decide +kernel
theorem dX6_reckon_57 : decode cX6_reckon 57 = .ok (.getfield 51, 3) := by decide +kernel
theorem dX6_reckon_60 : decode cX6_reckon 60 = .ok (.iload_n 2, 1) := by decide +kernel
theorem dX6_reckon_61 : decode cX6_reckon 61 = .ok (.iconst 0, 1) := by decide +kernel
theorem dX6_reckon_62 : decode cX6_reckon 62 = .ok (.iastore, 1) := by decide +kernel
theorem dX6_reckon_63 : decode cX6_reckon 63 = .ok (.aload_n 0, 1) := by decide +kernel
theorem dX6_reckon_64 : decode cX6_reckon 64 = .ok (.getfield 54, 3) := by decide +kernel
theorem dX6_reckon_67 : decode cX6_reckon 67 = .ok (.iload_n 2, 1) := by decide +kernel
theorem dX6_reckon_68 : decode cX6_reckon 68 = .ok (.iconst 0, 1) := by decide +kernel
theorem dX6_reckon_69 : decode cX6_reckon 69 = .ok (.iastore, 1) := by decide +kernel
theorem dX6_reckon_70 : decode cX6_reckon 70 = .ok (.aload_n 0, 1) := by decide +kernel
theorem dX6_reckon_71 : decode cX6_reckon 71 = .ok (.iload_n 1, 1) := by decide +kernel
theorem dX6_reckon_72 : decode cX6_reckon 72 = .ok (.invokevirtual 98, 3) := by decide +kernel
theorem dX6_reckon_75 : decode cX6_reckon 75 = .ok (.istore_n 3, 1) := by decide +kernel
theorem dX6_reckon_76 : decode cX6_reckon 76 = .ok (.aload_n 0, 1) := by decide +kernel
theorem dX6_reckon_77 : decode cX6_reckon 77 = .ok (.getfield 22, 3) := by decide +kernel
theorem dX6_reckon_80 : decode cX6_reckon 80 = .ok (.iconst 1, 1) := by decide +kernel
theorem dX6_reckon_81 : decode cX6_reckon 81 = .ok (.isub, 1) := by decide +kernel
theorem dX6_reckon_82 : decode cX6_reckon 82 = .ok (.istore 4, 2) := by decide +kernel
theorem dX6_reckon_84 : decode cX6_reckon 84 = .ok (.iload_n 1, 1) := by decide +kernel
theorem dX6_reckon_85 : decode cX6_reckon 85 = .ok (.iconst 1, 1) := by decide +kernel
theorem dX6_reckon_86 : decode cX6_reckon 86 = .ok (.isub, 1) := by decide +kernel
theorem dX6_reckon_87 : decode cX6_reckon 87 = .ok (.istore 5, 2) := by decide +kernel
theorem dX6_reckon_89 : decode cX6_reckon 89 = .ok (.iload 5, 2) := by decide +kernel
theorem dX6_reckon_91 : decode cX6_reckon 91 = .ok (.aload_n 0, 1) := by decide +kernel
theorem dX6_reckon_92 : decode cX6_reckon 92 = .ok (.iload_n 1, 1) := by decide +kernel
theorem dX6_reckon_93 : decode cX6_reckon 93 = .ok (.invokevirtual 108, 3) := by decide +kernel
theorem dX6_reckon_96 : decode cX6_reckon 96 = .ok (.if_icmp .lt 96, 3) := by decide +kernel
theorem dX6_reckon_99 : decode cX6_reckon 99 = .ok (.iload 4, 2) := by decide +kernel
theorem dX6_reckon_101 : decode cX6_reckon 101 = .ok (.iload_n 3, 1) := by decide +kernel
theorem dX6_reckon_102 : decode cX6_reckon 102 = .ok (.if_icmp .ge 90, 3) := by decide +kernel
theorem dX6_reckon_105 : decode cX6_reckon 105 = .ok (.aload_n 0, 1) := by decide +kernel
theorem dX6_reckon_106 : decode cX6_reckon 106 = .ok (.getfield 8, 3) := by decide +kernel
theorem dX6_reckon_109 : decode cX6_reckon 109 = .ok (.iload_n 1, 1) := by decide +kernel
theorem dX6_reckon_110 : decode cX6_reckon 110 = .ok (.iload 4, 2) := by decide +kernel
theorem dX6_reckon_112 : decode cX6_reckon 112 = .ok (.iadd, 1) := by decide +kernel
theorem dX6_reckon_113 : decode cX6_reckon 113 = .ok (.baload, 1) := by decide +kernel
theorem dX6_reckon_114 : decode cX6_reckon 114 = .ok (.aload_n 0, 1) := by decide +kernel
theorem dX6_reckon_115 : decode cX6_reckon 115 = .ok (.getfield 8, 3) := by decide +kernel
theorem dX6_reckon_118 : decode cX6_reckon 118 = .ok (.iload 5, 2) := by decide +kernel
theorem dX6_reckon_120 : decode cX6_reckon 120 = .ok (.iload 4, 2) := by decide +kernel
theorem dX6_reckon_122 : decode cX6_reckon 122 = .ok (.iadd, 1) := by decide +kernel
theorem dX6_reckon_123 : decode cX6_reckon 123 = .ok (.baload, 1) := by decide +kernel
theorem dX6_reckon_124 : decode cX6_reckon 124 = .ok (.if_icmp .eq 6, 3) := by decide +kernel
theorem dX6_reckon_127 : decode cX6_reckon 127 = .ok (.goto 59, 3) := by decide +kernel
theorem dX6_reckon_130 : decode cX6_reckon 130 = .ok (.aload_n 0, 1) := by decide +kernel
theorem dX6_reckon_131 : decode cX6_reckon 131 = .ok (.iload_n 1, 1) := by decide +kernel
theorem dX6_reckon_132 : decode cX6_reckon 132 = .ok (.iload 5, 2) := by decide +kernel
theorem dX6_reckon_134 : decode cX6_reckon 134 = .ok (.iload_n 3, 1) := by decide +kernel
theorem dX6_reckon_135 : decode cX6_reckon 135 = .ok (.invokevirtual 111, 3) := by decide +kernel
theorem dX6_reckon_138 : decode cX6_reckon 138 = .ok (.istore 6, 2) := by decide +kernel
theorem dX6_reckon_140 : decode cX6_reckon 140 = .ok (.iload 4, 2) := by decide +kernel
theorem dX6_reckon_142 : decode cX6_reckon 142 = .ok (.iconst 1, 1) := by decide +kernel
theorem dX6_reckon_143 : decode cX6_reckon 143 = .ok (.iadd, 1) := by decide +kernel
theorem dX6_reckon_144 : decode cX6_reckon 144 = .ok (.istore 7, 2) := by decide +kernel
theorem dX6_reckon_146 : decode cX6_reckon 146 = .ok (.iload 7, 2) := by decide +kernel
theorem dX6_reckon_148 : decode cX6_reckon 148 = .ok (.iload 6, 2) := by decide +kernel
theorem dX6_reckon_150 : decode cX6_reckon 150 = .ok (.if_icmp .gt 20, 3) := by decide +kernel
theorem dX6_reckon_153 : decode cX6_reckon 153 = .ok (.aload_n 0, 1) := by decide +kernel
theorem dX6_reckon_154 : decode cX6_reckon 154 = .ok (.iload_n 2, 1) := by decide +kernel
theorem dX6_reckon_155 : decode cX6_reckon 155 = .ok (.iload 7, 2) := by decide +kernel
theorem dX6_reckon_157 : decode cX6_reckon 157 = .ok (.iload_n 1, 1) := by decide +kernel
theorem dX6_reckon_158 : decode cX6_reckon 158 = .ok (.iload 5, 2) := by decide +kernel
theorem dX6_reckon_160 : decode cX6_reckon 160 = .ok (.isub, 1) := by decide +kernel
theorem dX6_reckon_161 : decode cX6_reckon 161 = .ok (.invokevirtual 141, 3) := by decide +kernel
theorem dX6_reckon_164 : decode cX6_reckon 164 = .ok (.iinc 7 1, 3) := by decide +kernel
theorem dX6_reckon_167 : decode cX6_reckon 167 = .ok (.goto (-21), 3) := by decide +kernel
theorem dX6_reckon_170 : decode cX6_reckon 170 = .ok (.iload 6, 2) := by decide +kernel
theorem dX6_reckon_172 : decode cX6_reckon 172 = .ok (.iload 4, 2) := by decide +kernel
theorem dX6_reckon_174 : decode cX6_reckon 174 = .ok (.if_icmp .le 8, 3) := by decide +kernel
theorem dX6_reckon_177 : decode cX6_reckon 177 = .ok (.iload 6, 2) := by decide +kernel
theorem dX6_reckon_179 : decode cX6_reckon 179 = .ok (.goto 5, 3) := by decide +kernel
theorem dX6_reckon_182 : decode cX6_reckon 182 = .ok (.iload 4, 2) := by decide +kernel
theorem dX6_reckon_184 : decode cX6_reckon 184 = .ok (.istore 4, 2) := by decide +kernel
theorem dX6_reckon_186 : decode cX6_reckon 186 = .ok (.iinc 5 (-1), 3) := by decide +kernel
theorem dX6_reckon_189 : decode cX6_reckon 189 = .ok (.goto (-100), 3) := by decide +kernel
theorem dX6_reckon_192 : decode cX6_reckon 192 = .ok (.iinc 1 (-1), 3) := by decide +kernel
theorem dX6_reckon_195 : decode cX6_reckon 195 = .ok (.goto (-173), 3) := by decide +kernel
theorem dX6_reckon_198 : decode cX6_reckon 198 = .ok (.return_, 1) := by decide +kernel
theorem dX6_better_0 : decode cX6_better 0 = .ok (.aload_n 0, 1) := by decide +kernel
theorem dX6_better_1 : decode cX6_better 1 = .ok (.getfield 32, 3) := by decide +kernel
theorem dX6_better_4 : decode cX6_better 4 = .ok (.iload_n 3, 1) := by decide +kernel
theorem dX6_better_5 : decode cX6_better 5 = .ok (.invokestatic 126, 3) := by decide +kernel
theorem dX6_better_8 : decode cX6_better 8 = .ok (.iadd, 1) := by decide +kernel
theorem dX6_better_9 : decode cX6_better 9 = .ok (.aload_n 0, 1) := by decide +kernel
theorem dX6_better_10 : decode cX6_better 10 = .ok (.getfield 48, 3) := by decide +kernel
theorem dX6_better_13 : decode cX6_better 13 = .ok (.iload_n 1, 1) := by decide +kernel
theorem dX6_better_14 : decode cX6_better 14 = .ok (.iload_n 2, 1) := by decide +kernel
theorem dX6_better_15 : decode cX6_better 15 = .ok (.iadd, 1) := by decide +kernel
theorem dX6_better_16 : decode cX6_better 16 = .ok (.iaload, 1) := by decide +kernel
theorem dX6_better_17 : decode cX6_better 17 = .ok (.iadd, 1) := by decide +kernel
theorem dX6_better_18 : decode cX6_better 18 = .ok (.istore 4, 2) := by decide +kernel
theorem dX6_better_20 : decode cX6_better 20 = .ok (.iload 4, 2) := by decide +kernel
theorem dX6_better_22 : decode cX6_better 22 = .ok (.aload_n 0, 1) := by decide +kernel
theorem dX6_better_23 : decode cX6_better 23 = .ok (.getfield 48, 3) := by decide +kernel
theorem dX6_better_26 : decode cX6_better 26 = .ok (.iload_n 1, 1) := by decide +kernel
theorem dX6_better_27 : decode cX6_better 27 = .ok (.iaload, 1) := by decide +kernel
theorem dX6_better_28 : decode cX6_better 28 = .ok (.if_icmp .ne 7, 3) := by decide +kernel
theorem dX6_better_31 : decode cX6_better 31 = .ok (.iconst 1, 1) := by decide +kernel
theorem dX6_better_32 : decode cX6_better 32 = .ok (.goto 4, 3) := by decide +kernel
theorem dX6_better_35 : decode cX6_better 35 = .ok (.iconst 0, 1) := by decide +kernel
theorem dX6_better_36 : decode cX6_better 36 = .ok (.istore 5, 2) := by decide +kernel
theorem dX6_better_38 : decode cX6_better 38 = .ok (.iload 4, 2) := by decide +kernel
theorem dX6_better_40 : decode cX6_better 40 = .ok (.aload_n 0, 1) := by decide +kernel
theorem dX6_better_41 : decode cX6_better 41 = .ok (.getfield 48, 3) := by decide +kernel
theorem dX6_better_44 : decode cX6_better 44 = .ok (.iload_n 1, 1) := by decide +kernel
theorem dX6_better_45 : decode cX6_better 45 = .ok (.iaload, 1) := by decide +kernel
theorem dX6_better_46 : decode cX6_better 46 = .ok (.if_icmp .lt 18, 3) := by decide +kernel
theorem dX6_better_49 : decode cX6_better 49 = .ok (.iload 5, 2) := by decide +kernel
theorem dX6_better_51 : decode cX6_better 51 = .ok (.ifCond .eq 17, 3) := by decide +kernel
theorem dX6_better_54 : decode cX6_better 54 = .ok (.iload_n 2, 1) := by decide +kernel
theorem dX6_better_55 : decode cX6_better 55 = .ok (.aload_n 0, 1) := by decide +kernel
theorem dX6_better_56 : decode cX6_better 56 = .ok (.getfield 51, 3) := by decide +kernel
theorem dX6_better_59 : decode cX6_better 59 = .ok (.iload_n 1, 1) := by decide +kernel
theorem dX6_better_60 : decode cX6_better 60 = .ok (.iaload, 1) := by decide +kernel
theorem dX6_better_61 : decode cX6_better 61 = .ok (.if_icmp .le 7, 3) := by decide +kernel
theorem dX6_better_64 : decode cX6_better 64 = .ok (.iconst 1, 1) := by decide +kernel
theorem dX6_better_65 : decode cX6_better 65 = .ok (.goto 4, 3) := by decide +kernel
theorem dX6_better_68 : decode cX6_better 68 = .ok (.iconst 0, 1) := by decide +kernel
theorem dX6_better_69 : decode cX6_better 69 = .ok (.istore 6, 2) := by decide +kernel
theorem dX6_better_71 : decode cX6_better 71 = .ok (.iload 6, 2) := by decide +kernel
theorem dX6_better_73 : decode cX6_better 73 = .ok (.ifCond .ne 4, 3) := by decide +kernel
theorem dX6_better_76 : decode cX6_better 76 = .ok (.return_, 1) := by decide +kernel
theorem dX6_better_77 : decode cX6_better 77 = .ok (.aload_n 0, 1) := by decide +kernel
theorem dX6_better_78 : decode cX6_better 78 = .ok (.getfield 48, 3) := by decide +kernel
theorem dX6_better_81 : decode cX6_better 81 = .ok (.iload_n 1, 1) := by decide +kernel
theorem dX6_better_82 : decode cX6_better 82 = .ok (.iload 4, 2) := by decide +kernel
theorem dX6_better_84 : decode cX6_better 84 = .ok (.iastore, 1) := by decide +kernel
theorem dX6_better_85 : decode cX6_better 85 = .ok (.aload_n 0, 1) := by decide +kernel
theorem dX6_better_86 : decode cX6_better 86 = .ok (.getfield 51, 3) := by decide +kernel
theorem dX6_better_89 : decode cX6_better 89 = .ok (.iload_n 1, 1) := by decide +kernel
theorem dX6_better_90 : decode cX6_better 90 = .ok (.iload_n 2, 1) := by decide +kernel
theorem dX6_better_91 : decode cX6_better 91 = .ok (.iastore, 1) := by decide +kernel
theorem dX6_better_92 : decode cX6_better 92 = .ok (.aload_n 0, 1) := by decide +kernel
theorem dX6_better_93 : decode cX6_better 93 = .ok (.getfield 54, 3) := by decide +kernel
theorem dX6_better_96 : decode cX6_better 96 = .ok (.iload_n 1, 1) := by decide +kernel
theorem dX6_better_97 : decode cX6_better 97 = .ok (.iload_n 3, 1) := by decide +kernel
theorem dX6_better_98 : decode cX6_better 98 = .ok (.iastore, 1) := by decide +kernel
theorem dX6_better_99 : decode cX6_better 99 = .ok (.return_, 1) := by decide +kernel
theorem dX6_bits_0 : decode cX6_bits 0 = .ok (.iconst 0, 1) := by decide +kernel
theorem dX6_bits_1 : decode cX6_bits 1 = .ok (.istore_n 1, 1) := by decide +kernel
theorem dX6_bits_2 : decode cX6_bits 2 = .ok (.iload_n 0, 1) := by decide +kernel
theorem dX6_bits_3 : decode cX6_bits 3 = .ok (.istore_n 2, 1) := by decide +kernel
theorem dX6_bits_4 : decode cX6_bits 4 = .ok (.iload_n 2, 1) := by decide +kernel
theorem dX6_bits_5 : decode cX6_bits 5 = .ok (.ifCond .le 13, 3) := by decide +kernel
theorem dX6_bits_8 : decode cX6_bits 8 = .ok (.iinc 1 1, 3) := by decide +kernel
theorem dX6_bits_11 : decode cX6_bits 11 = .ok (.iload_n 2, 1) := by decide +kernel
theorem dX6_bits_12 : decode cX6_bits 12 = .ok (.iconst 2, 1) := by decide +kernel
theorem dX6_bits_13 : decode cX6_bits 13 = .ok (.idiv, 1) := by decide +kernel
theorem dX6_bits_14 : decode cX6_bits 14 = .ok (.istore_n 2, 1) := by decide +kernel
theorem dX6_bits_15 : decode cX6_bits 15 = .ok (.goto (-11), 3) := by decide +kernel
theorem dX6_bits_18 : decode cX6_bits 18 = .ok (.iload_n 1, 1) := by decide +kernel
theorem dX6_bits_19 : decode cX6_bits 19 = .ok (.ireturn, 1) := by decide +kernel
theorem dX6_reckoned_0 : decode cX6_reckoned 0 = .ok (.aload_n 0, 1) := by decide +kernel
theorem dX6_reckoned_1 : decode cX6_reckoned 1 = .ok (.aload_n 0, 1) := by decide +kernel
theorem dX6_reckoned_2 : decode cX6_reckoned 2 = .ok (.getfield 51, 3) := by decide +kernel
theorem dX6_reckoned_5 : decode cX6_reckoned 5 = .ok (.iload_n 1, 1) := by decide +kernel
theorem dX6_reckoned_6 : decode cX6_reckoned 6 = .ok (.aload_n 0, 1) := by decide +kernel
theorem dX6_reckoned_7 : decode cX6_reckoned 7 = .ok (.getfield 60, 3) := by decide +kernel
theorem dX6_reckoned_10 : decode cX6_reckoned 10 = .ok (.isub, 1) := by decide +kernel
theorem dX6_reckoned_11 : decode cX6_reckoned 11 = .ok (.iaload, 1) := by decide +kernel
theorem dX6_reckoned_12 : decode cX6_reckoned 12 = .ok (.putfield 102, 3) := by decide +kernel
theorem dX6_reckoned_15 : decode cX6_reckoned 15 = .ok (.aload_n 0, 1) := by decide +kernel
theorem dX6_reckoned_16 : decode cX6_reckoned 16 = .ok (.aload_n 0, 1) := by decide +kernel
theorem dX6_reckoned_17 : decode cX6_reckoned 17 = .ok (.getfield 54, 3) := by decide +kernel
theorem dX6_reckoned_20 : decode cX6_reckoned 20 = .ok (.iload_n 1, 1) := by decide +kernel
theorem dX6_reckoned_21 : decode cX6_reckoned 21 = .ok (.aload_n 0, 1) := by decide +kernel
theorem dX6_reckoned_22 : decode cX6_reckoned 22 = .ok (.getfield 60, 3) := by decide +kernel
theorem dX6_reckoned_25 : decode cX6_reckoned 25 = .ok (.isub, 1) := by decide +kernel
theorem dX6_reckoned_26 : decode cX6_reckoned 26 = .ok (.iaload, 1) := by decide +kernel
theorem dX6_reckoned_27 : decode cX6_reckoned 27 = .ok (.putfield 105, 3) := by decide +kernel
theorem dX6_reckoned_30 : decode cX6_reckoned 30 = .ok (.aload_n 0, 1) := by decide +kernel
theorem dX6_reckoned_31 : decode cX6_reckoned 31 = .ok (.getfield 102, 3) := by decide +kernel
theorem dX6_reckoned_34 : decode cX6_reckoned 34 = .ok (.ifCond .le 7, 3) := by decide +kernel
theorem dX6_reckoned_37 : decode cX6_reckoned 37 = .ok (.iconst 1, 1) := by decide +kernel
theorem dX6_reckoned_38 : decode cX6_reckoned 38 = .ok (.goto 4, 3) := by decide +kernel
theorem dX6_reckoned_41 : decode cX6_reckoned 41 = .ok (.iconst 0, 1) := by decide +kernel
theorem dX6_reckoned_42 : decode cX6_reckoned 42 = .ok (.ireturn, 1) := by decide +kernel
theorem dX6_match_0 : decode cX6_match 0 = .ok (.aload_n 0, 1) := by decide +kernel
theorem dX6_match_1 : decode cX6_match 1 = .ok (.getfield 35, 3) := by decide +kernel
theorem dX6_match_4 : decode cX6_match 4 = .ok (.aload_n 0, 1) := by decide +kernel
theorem dX6_match_5 : decode cX6_match 5 = .ok (.getfield 63, 3) := by decide +kernel
theorem dX6_match_8 : decode cX6_match 8 = .ok (.aload_n 0, 1) := by decide +kernel
theorem dX6_match_9 : decode cX6_match 9 = .ok (.getfield 66, 3) := by decide +kernel
theorem dX6_match_12 : decode cX6_match 12 = .ok (.iastore, 1) := by decide +kernel
theorem dX6_match_13 : decode cX6_match 13 = .ok (.aload_n 0, 1) := by decide +kernel
theorem dX6_match_14 : decode cX6_match 14 = .ok (.getfield 39, 3) := by decide +kernel
theorem dX6_match_17 : decode cX6_match 17 = .ok (.aload_n 0, 1) := by decide +kernel
theorem dX6_match_18 : decode cX6_match 18 = .ok (.getfield 63, 3) := by decide +kernel
theorem dX6_match_21 : decode cX6_match 21 = .ok (.aload_n 0, 1) := by decide +kernel
theorem dX6_match_22 : decode cX6_match 22 = .ok (.getfield 102, 3) := by decide +kernel
theorem dX6_match_25 : decode cX6_match 25 = .ok (.iastore, 1) := by decide +kernel
theorem dX6_match_26 : decode cX6_match 26 = .ok (.aload_n 0, 1) := by decide +kernel
theorem dX6_match_27 : decode cX6_match 27 = .ok (.getfield 42, 3) := by decide +kernel
theorem dX6_match_30 : decode cX6_match 30 = .ok (.aload_n 0, 1) := by decide +kernel
theorem dX6_match_31 : decode cX6_match 31 = .ok (.getfield 63, 3) := by decide +kernel
theorem dX6_match_34 : decode cX6_match 34 = .ok (.aload_n 0, 1) := by decide +kernel
theorem dX6_match_35 : decode cX6_match 35 = .ok (.getfield 105, 3) := by decide +kernel
theorem dX6_match_38 : decode cX6_match 38 = .ok (.iastore, 1) := by decide +kernel
theorem dX6_match_39 : decode cX6_match 39 = .ok (.aload_n 0, 1) := by decide +kernel
theorem dX6_match_40 : decode cX6_match 40 = .ok (.dup, 1) := by decide +kernel
theorem dX6_match_41 : decode cX6_match 41 = .ok (.getfield 69, 3) := by decide +kernel
theorem dX6_match_44 : decode cX6_match 44 = .ok (.aload_n 0, 1) := by decide +kernel
theorem dX6_match_45 : decode cX6_match 45 = .ok (.getfield 32, 3) := by decide +kernel
theorem dX6_match_48 : decode cX6_match 48 = .ok (.aload_n 0, 1) := by decide +kernel
theorem dX6_match_49 : decode cX6_match 49 = .ok (.getfield 105, 3) := by decide +kernel
theorem dX6_match_52 : decode cX6_match 52 = .ok (.invokestatic 126, 3) := by decide +kernel
theorem dX6_match_55 : decode cX6_match 55 = .ok (.iadd, 1) := by decide +kernel
theorem dX6_match_56 : decode cX6_match 56 = .ok (.iadd, 1) := by decide +kernel
theorem dX6_match_57 : decode cX6_match 57 = .ok (.putfield 69, 3) := by decide +kernel
theorem dX6_match_60 : decode cX6_match 60 = .ok (.aload_n 0, 1) := by decide +kernel
theorem dX6_match_61 : decode cX6_match 61 = .ok (.iconst 0, 1) := by decide +kernel
theorem dX6_match_62 : decode cX6_match 62 = .ok (.putfield 66, 3) := by decide +kernel
theorem dX6_match_65 : decode cX6_match 65 = .ok (.aload_n 0, 1) := by decide +kernel
theorem dX6_match_66 : decode cX6_match 66 = .ok (.dup, 1) := by decide +kernel
theorem dX6_match_67 : decode cX6_match 67 = .ok (.getfield 63, 3) := by decide +kernel
theorem dX6_match_70 : decode cX6_match 70 = .ok (.iconst 1, 1) := by decide +kernel
theorem dX6_match_71 : decode cX6_match 71 = .ok (.iadd, 1) := by decide +kernel
theorem dX6_match_72 : decode cX6_match 72 = .ok (.putfield 63, 3) := by decide +kernel
theorem dX6_match_75 : decode cX6_match 75 = .ok (.return_, 1) := by decide +kernel
theorem dX6_literal_0 : decode cX6_literal 0 = .ok (.aload_n 0, 1) := by decide +kernel
theorem dX6_literal_1 : decode cX6_literal 1 = .ok (.dup, 1) := by decide +kernel
theorem dX6_literal_2 : decode cX6_literal 2 = .ok (.getfield 66, 3) := by decide +kernel
theorem dX6_literal_5 : decode cX6_literal 5 = .ok (.iconst 1, 1) := by decide +kernel
theorem dX6_literal_6 : decode cX6_literal 6 = .ok (.iadd, 1) := by decide +kernel
theorem dX6_literal_7 : decode cX6_literal 7 = .ok (.putfield 66, 3) := by decide +kernel
theorem dX6_literal_10 : decode cX6_literal 10 = .ok (.aload_n 0, 1) := by decide +kernel
theorem dX6_literal_11 : decode cX6_literal 11 = .ok (.dup, 1) := by decide +kernel
theorem dX6_literal_12 : decode cX6_literal 12 = .ok (.getfield 72, 3) := by decide +kernel
theorem dX6_literal_15 : decode cX6_literal 15 = .ok (.iconst 1, 1) := by decide +kernel
theorem dX6_literal_16 : decode cX6_literal 16 = .ok (.iadd, 1) := by decide +kernel
theorem dX6_literal_17 : decode cX6_literal 17 = .ok (.putfield 72, 3) := by decide +kernel
theorem dX6_literal_20 : decode cX6_literal 20 = .ok (.aload_n 0, 1) := by decide +kernel
theorem dX6_literal_21 : decode cX6_literal 21 = .ok (.dup, 1) := by decide +kernel
theorem dX6_literal_22 : decode cX6_literal 22 = .ok (.getfield 69, 3) := by decide +kernel
theorem dX6_literal_25 : decode cX6_literal 25 = .ok (.aload_n 0, 1) := by decide +kernel
theorem dX6_literal_26 : decode cX6_literal 26 = .ok (.getfield 29, 3) := by decide +kernel
theorem dX6_literal_29 : decode cX6_literal 29 = .ok (.iadd, 1) := by decide +kernel
theorem dX6_literal_30 : decode cX6_literal 30 = .ok (.putfield 69, 3) := by decide +kernel
theorem dX6_literal_33 : decode cX6_literal 33 = .ok (.return_, 1) := by decide +kernel
theorem dX6_stretch_0 : decode cX6_stretch 0 = .ok (.iload_n 1, 1) := by decide +kernel
theorem dX6_stretch_1 : decode cX6_stretch 1 = .ok (.iconst 0, 1) := by decide +kernel
theorem dX6_stretch_2 : decode cX6_stretch 2 = .ok (.aload_n 0, 1) := by decide +kernel
theorem dX6_stretch_3 : decode cX6_stretch 3 = .ok (.getfield 63, 3) := by decide +kernel
theorem dX6_stretch_6 : decode cX6_stretch 6 = .ok (.iconst 1, 1) := by decide +kernel
theorem dX6_stretch_7 : decode cX6_stretch 7 = .ok (.isub, 1) := by decide +kernel
theorem dX6_stretch_8 : decode cX6_stretch 8 = .ok (.invokestatic 81, 3) := by decide +kernel
theorem dX6_stretch_11 : decode cX6_stretch 11 = .ok (.ifCond .eq 12, 3) := by decide +kernel
theorem dX6_stretch_14 : decode cX6_stretch 14 = .ok (.iload_n 2, 1) := by decide +kernel
theorem dX6_stretch_15 : decode cX6_stretch 15 = .ok (.iconst 0, 1) := by decide +kernel
theorem dX6_stretch_16 : decode cX6_stretch 16 = .ok (.iconst 2, 1) := by decide +kernel
theorem dX6_stretch_17 : decode cX6_stretch 17 = .ok (.invokestatic 81, 3) := by decide +kernel
theorem dX6_stretch_20 : decode cX6_stretch 20 = .ok (.ifCond .ne 5, 3) := by decide +kernel
theorem dX6_stretch_23 : decode cX6_stretch 23 = .ok (.iconst (-1), 1) := by decide +kernel
theorem dX6_stretch_24 : decode cX6_stretch 24 = .ok (.ireturn, 1) := by decide +kernel
theorem dX6_stretch_25 : decode cX6_stretch 25 = .ok (.iload_n 2, 1) := by decide +kernel
theorem dX6_stretch_26 : decode cX6_stretch 26 = .ok (.ifCond .ne 12, 3) := by decide +kernel
theorem dX6_stretch_29 : decode cX6_stretch 29 = .ok (.aload_n 0, 1) := by decide +kernel
theorem dX6_stretch_30 : decode cX6_stretch 30 = .ok (.getfield 35, 3) := by decide +kernel
theorem dX6_stretch_33 : decode cX6_stretch 33 = .ok (.iload_n 1, 1) := by decide +kernel
theorem dX6_stretch_34 : decode cX6_stretch 34 = .ok (.iaload, 1) := by decide +kernel
theorem dX6_stretch_35 : decode cX6_stretch 35 = .ok (.goto 23, 3) := by decide +kernel
theorem dX6_stretch_38 : decode cX6_stretch 38 = .ok (.iload_n 2, 1) := by decide +kernel
theorem dX6_stretch_39 : decode cX6_stretch 39 = .ok (.iconst 1, 1) := by decide +kernel
theorem dX6_stretch_40 : decode cX6_stretch 40 = .ok (.if_icmp .ne 12, 3) := by decide +kernel
theorem dX6_stretch_43 : decode cX6_stretch 43 = .ok (.aload_n 0, 1) := by decide +kernel
theorem dX6_stretch_44 : decode cX6_stretch 44 = .ok (.getfield 39, 3) := by decide +kernel
theorem dX6_stretch_47 : decode cX6_stretch 47 = .ok (.iload_n 1, 1) := by decide +kernel
theorem dX6_stretch_48 : decode cX6_stretch 48 = .ok (.iaload, 1) := by decide +kernel
theorem dX6_stretch_49 : decode cX6_stretch 49 = .ok (.goto 9, 3) := by decide +kernel
theorem dX6_stretch_52 : decode cX6_stretch 52 = .ok (.aload_n 0, 1) := by decide +kernel
theorem dX6_stretch_53 : decode cX6_stretch 53 = .ok (.getfield 42, 3) := by decide +kernel
theorem dX6_stretch_56 : decode cX6_stretch 56 = .ok (.iload_n 1, 1) := by decide +kernel
theorem dX6_stretch_57 : decode cX6_stretch 57 = .ok (.iaload, 1) := by decide +kernel
theorem dX6_stretch_58 : decode cX6_stretch 58 = .ok (.ireturn, 1) := by decide +kernel
theorem dX6_about_0 : decode cX6_about 0 = .ok (.iconst 0, 1) := by decide +kernel
theorem dX6_about_1 : decode cX6_about 1 = .ok (.istore_n 2, 1) := by decide +kernel
theorem dX6_about_2 : decode cX6_about 2 = .ok (.iconst 0, 1) := by decide +kernel
theorem dX6_about_3 : decode cX6_about 3 = .ok (.istore_n 3, 1) := by decide +kernel
theorem dX6_about_4 : decode cX6_about 4 = .ok (.iconst 0, 1) := by decide +kernel
theorem dX6_about_5 : decode cX6_about 5 = .ok (.istore 4, 2) := by decide +kernel
theorem dX6_about_7 : decode cX6_about 7 = .ok (.iload 4, 2) := by decide +kernel
theorem dX6_about_9 : decode cX6_about 9 = .ok (.aload_n 0, 1) := by decide +kernel
theorem dX6_about_10 : decode cX6_about 10 = .ok (.getfield 63, 3) := by decide +kernel
theorem dX6_about_13 : decode cX6_about 13 = .ok (.if_icmp .ge 55, 3) := by decide +kernel
theorem dX6_about_16 : decode cX6_about 16 = .ok (.aload_n 0, 1) := by decide +kernel
theorem dX6_about_17 : decode cX6_about 17 = .ok (.getfield 39, 3) := by decide +kernel
theorem dX6_about_20 : decode cX6_about 20 = .ok (.iload 4, 2) := by decide +kernel
theorem dX6_about_22 : decode cX6_about 22 = .ok (.iaload, 1) := by decide +kernel
theorem dX6_about_23 : decode cX6_about 23 = .ok (.iload_n 2, 1) := by decide +kernel
theorem dX6_about_24 : decode cX6_about 24 = .ok (.if_icmp .le 13, 3) := by decide +kernel
theorem dX6_about_27 : decode cX6_about 27 = .ok (.aload_n 0, 1) := by decide +kernel
theorem dX6_about_28 : decode cX6_about 28 = .ok (.getfield 39, 3) := by decide +kernel
theorem dX6_about_31 : decode cX6_about 31 = .ok (.iload 4, 2) := by decide +kernel
theorem dX6_about_33 : decode cX6_about 33 = .ok (.iaload, 1) := by decide +kernel
theorem dX6_about_34 : decode cX6_about 34 = .ok (.goto 4, 3) := by decide +kernel
theorem dX6_about_37 : decode cX6_about 37 = .ok (.iload_n 2, 1) := by decide +kernel
theorem dX6_about_38 : decode cX6_about 38 = .ok (.istore_n 2, 1) := by decide +kernel
theorem dX6_about_39 : decode cX6_about 39 = .ok (.aload_n 0, 1) := by decide +kernel
theorem dX6_about_40 : decode cX6_about 40 = .ok (.getfield 42, 3) := by decide +kernel
theorem dX6_about_43 : decode cX6_about 43 = .ok (.iload 4, 2) := by decide +kernel
theorem dX6_about_45 : decode cX6_about 45 = .ok (.iaload, 1) := by decide +kernel
theorem dX6_about_46 : decode cX6_about 46 = .ok (.iload_n 3, 1) := by decide +kernel
theorem dX6_about_47 : decode cX6_about 47 = .ok (.if_icmp .le 13, 3) := by decide +kernel
theorem dX6_about_50 : decode cX6_about 50 = .ok (.aload_n 0, 1) := by decide +kernel
theorem dX6_about_51 : decode cX6_about 51 = .ok (.getfield 42, 3) := by decide +kernel
theorem dX6_about_54 : decode cX6_about 54 = .ok (.iload 4, 2) := by decide +kernel
theorem dX6_about_56 : decode cX6_about 56 = .ok (.iaload, 1) := by decide +kernel
theorem dX6_about_57 : decode cX6_about 57 = .ok (.goto 4, 3) := by decide +kernel
theorem dX6_about_60 : decode cX6_about 60 = .ok (.iload_n 3, 1) := by decide +kernel
theorem dX6_about_61 : decode cX6_about 61 = .ok (.istore_n 3, 1) := by decide +kernel
theorem dX6_about_62 : decode cX6_about 62 = .ok (.iinc 4 1, 3) := by decide +kernel
theorem dX6_about_65 : decode cX6_about 65 = .ok (.goto (-58), 3) := by decide +kernel
theorem dX6_about_68 : decode cX6_about 68 = .ok (.iload_n 1, 1) := by decide +kernel
theorem dX6_about_69 : decode cX6_about 69 = .ok (.ifCond .ne 10, 3) := by decide +kernel
theorem dX6_about_72 : decode cX6_about 72 = .ok (.aload_n 0, 1) := by decide +kernel
theorem dX6_about_73 : decode cX6_about 73 = .ok (.getfield 66, 3) := by decide +kernel
theorem dX6_about_76 : decode cX6_about 76 = .ok (.goto 46, 3) := by decide +kernel
theorem dX6_about_79 : decode cX6_about 79 = .ok (.iload_n 1, 1) := by decide +kernel
theorem dX6_about_80 : decode cX6_about 80 = .ok (.iconst 1, 1) := by decide +kernel
theorem dX6_about_81 : decode cX6_about 81 = .ok (.if_icmp .ne 10, 3) := by decide +kernel
theorem dX6_about_84 : decode cX6_about 84 = .ok (.aload_n 0, 1) := by decide +kernel
theorem dX6_about_85 : decode cX6_about 85 = .ok (.getfield 72, 3) := by decide +kernel
theorem dX6_about_88 : decode cX6_about 88 = .ok (.goto 34, 3) := by decide +kernel
theorem dX6_about_91 : decode cX6_about 91 = .ok (.iload_n 1, 1) := by decide +kernel
theorem dX6_about_92 : decode cX6_about 92 = .ok (.iconst 2, 1) := by decide +kernel
theorem dX6_about_93 : decode cX6_about 93 = .ok (.if_icmp .ne 10, 3) := by decide +kernel
theorem dX6_about_96 : decode cX6_about 96 = .ok (.aload_n 0, 1) := by decide +kernel
theorem dX6_about_97 : decode cX6_about 97 = .ok (.getfield 69, 3) := by decide +kernel
theorem dX6_about_100 : decode cX6_about 100 = .ok (.goto 22, 3) := by decide +kernel
theorem dX6_about_103 : decode cX6_about 103 = .ok (.iload_n 1, 1) := by decide +kernel
theorem dX6_about_104 : decode cX6_about 104 = .ok (.iconst 3, 1) := by decide +kernel
theorem dX6_about_105 : decode cX6_about 105 = .ok (.if_icmp .ne 7, 3) := by decide +kernel
theorem dX6_about_108 : decode cX6_about 108 = .ok (.iload_n 2, 1) := by decide +kernel
theorem dX6_about_109 : decode cX6_about 109 = .ok (.goto 13, 3) := by decide +kernel
theorem dX6_about_112 : decode cX6_about 112 = .ok (.iload_n 1, 1) := by decide +kernel
theorem dX6_about_113 : decode cX6_about 113 = .ok (.iconst 4, 1) := by decide +kernel
theorem dX6_about_114 : decode cX6_about 114 = .ok (.if_icmp .ne 7, 3) := by decide +kernel
theorem dX6_about_117 : decode cX6_about 117 = .ok (.iload_n 3, 1) := by decide +kernel
theorem dX6_about_118 : decode cX6_about 118 = .ok (.goto 4, 3) := by decide +kernel
theorem dX6_about_121 : decode cX6_about 121 = .ok (.iconst (-1), 1) := by decide +kernel
theorem dX6_about_122 : decode cX6_about 122 = .ok (.ireturn, 1) := by decide +kernel
theorem dX6_unlike_0 : decode cX6_unlike 0 = .ok (.iconst 0, 1) := by decide +kernel
theorem dX6_unlike_1 : decode cX6_unlike 1 = .ok (.istore_n 1, 1) := by decide +kernel
theorem dX6_unlike_2 : decode cX6_unlike 2 = .ok (.iload_n 1, 1) := by decide +kernel
theorem dX6_unlike_3 : decode cX6_unlike 3 = .ok (.aload_n 0, 1) := by decide +kernel
theorem dX6_unlike_4 : decode cX6_unlike 4 = .ok (.getfield 78, 3) := by decide +kernel
theorem dX6_unlike_7 : decode cX6_unlike 7 = .ok (.if_icmp .ge 21, 3) := by decide +kernel
theorem dX6_unlike_10 : decode cX6_unlike 10 = .ok (.aload_n 0, 1) := by decide +kernel
theorem dX6_unlike_11 : decode cX6_unlike 11 = .ok (.getfield 45, 3) := by decide +kernel
theorem dX6_unlike_14 : decode cX6_unlike 14 = .ok (.iload_n 1, 1) := by decide +kernel
theorem dX6_unlike_15 : decode cX6_unlike 15 = .ok (.aload_n 0, 1) := by decide +kernel
theorem dX6_unlike_16 : decode cX6_unlike 16 = .ok (.getfield 8, 3) := by decide +kernel
theorem dX6_unlike_19 : decode cX6_unlike 19 = .ok (.iload_n 1, 1) := by decide +kernel
theorem dX6_unlike_20 : decode cX6_unlike 20 = .ok (.baload, 1) := by decide +kernel
theorem dX6_unlike_21 : decode cX6_unlike 21 = .ok (.bastore, 1) := by decide +kernel
theorem dX6_unlike_22 : decode cX6_unlike 22 = .ok (.iinc 1 1, 3) := by decide +kernel
theorem dX6_unlike_25 : decode cX6_unlike 25 = .ok (.goto (-23), 3) := by decide +kernel
theorem dX6_unlike_28 : decode cX6_unlike 28 = .ok (.iconst 0, 1) := by decide +kernel
theorem dX6_unlike_29 : decode cX6_unlike 29 = .ok (.istore_n 2, 1) := by decide +kernel
theorem dX6_unlike_30 : decode cX6_unlike 30 = .ok (.iload_n 2, 1) := by decide +kernel
theorem dX6_unlike_31 : decode cX6_unlike 31 = .ok (.aload_n 0, 1) := by decide +kernel
theorem dX6_unlike_32 : decode cX6_unlike 32 = .ok (.getfield 63, 3) := by decide +kernel
theorem dX6_unlike_35 : decode cX6_unlike 35 = .ok (.if_icmp .gt 111, 3) := by decide +kernel
theorem dX6_unlike_38 : decode cX6_unlike 38 = .ok (.iload_n 2, 1) := by decide +kernel
theorem dX6_unlike_39 : decode cX6_unlike 39 = .ok (.aload_n 0, 1) := by decide +kernel
theorem dX6_unlike_40 : decode cX6_unlike 40 = .ok (.getfield 63, 3) := by decide +kernel
theorem dX6_unlike_43 : decode cX6_unlike 43 = .ok (.if_icmp .ge 12, 3) := by decide +kernel
theorem dX6_unlike_46 : decode cX6_unlike 46 = .ok (.aload_n 0, 1) := by decide +kernel
theorem dX6_unlike_47 : decode cX6_unlike 47 = .ok (.getfield 35, 3) := by decide +kernel
theorem dX6_unlike_50 : decode cX6_unlike 50 = .ok (.iload_n 2, 1) := by decide +kernel
theorem dX6_unlike_51 : decode cX6_unlike 51 = .ok (.iaload, 1) := by decide +kernel
theorem dX6_unlike_52 : decode cX6_unlike 52 = .ok (.goto 7, 3) := by decide +kernel
theorem dX6_unlike_55 : decode cX6_unlike 55 = .ok (.aload_n 0, 1) := by decide +kernel
theorem dX6_unlike_56 : decode cX6_unlike 56 = .ok (.getfield 66, 3) := by decide +kernel
theorem dX6_unlike_59 : decode cX6_unlike 59 = .ok (.istore_n 3, 1) := by decide +kernel
theorem dX6_unlike_60 : decode cX6_unlike 60 = .ok (.iconst 0, 1) := by decide +kernel
theorem dX6_unlike_61 : decode cX6_unlike 61 = .ok (.istore 4, 2) := by decide +kernel
theorem dX6_unlike_63 : decode cX6_unlike 63 = .ok (.iload 4, 2) := by decide +kernel
theorem dX6_unlike_65 : decode cX6_unlike 65 = .ok (.iload_n 3, 1) := by decide +kernel
theorem dX6_unlike_66 : decode cX6_unlike 66 = .ok (.if_icmp .ge 24, 3) := by decide +kernel
theorem dX6_unlike_69 : decode cX6_unlike 69 = .ok (.aload_n 0, 1) := by decide +kernel
theorem dX6_unlike_70 : decode cX6_unlike 70 = .ok (.getfield 45, 3) := by decide +kernel
theorem dX6_unlike_73 : decode cX6_unlike 73 = .ok (.iload_n 1, 1) := by decide +kernel
theorem dX6_unlike_74 : decode cX6_unlike 74 = .ok (.aload_n 0, 1) := by decide +kernel
theorem dX6_unlike_75 : decode cX6_unlike 75 = .ok (.getfield 8, 3) := by decide +kernel
theorem dX6_unlike_78 : decode cX6_unlike 78 = .ok (.iload_n 1, 1) := by decide +kernel
theorem dX6_unlike_79 : decode cX6_unlike 79 = .ok (.baload, 1) := by decide +kernel
theorem dX6_unlike_80 : decode cX6_unlike 80 = .ok (.bastore, 1) := by decide +kernel
theorem dX6_unlike_81 : decode cX6_unlike 81 = .ok (.iinc 1 1, 3) := by decide +kernel
theorem dX6_unlike_84 : decode cX6_unlike 84 = .ok (.iinc 4 1, 3) := by decide +kernel
theorem dX6_unlike_87 : decode cX6_unlike 87 = .ok (.goto (-24), 3) := by decide +kernel
theorem dX6_unlike_90 : decode cX6_unlike 90 = .ok (.iconst 0, 1) := by decide +kernel
theorem dX6_unlike_91 : decode cX6_unlike 91 = .ok (.istore 4, 2) := by decide +kernel
theorem dX6_unlike_93 : decode cX6_unlike 93 = .ok (.iload_n 2, 1) := by decide +kernel
theorem dX6_unlike_94 : decode cX6_unlike 94 = .ok (.aload_n 0, 1) := by decide +kernel
theorem dX6_unlike_95 : decode cX6_unlike 95 = .ok (.getfield 63, 3) := by decide +kernel
theorem dX6_unlike_98 : decode cX6_unlike 98 = .ok (.if_icmp .ge 42, 3) := by decide +kernel
theorem dX6_unlike_101 : decode cX6_unlike 101 = .ok (.iload 4, 2) := by decide +kernel
theorem dX6_unlike_103 : decode cX6_unlike 103 = .ok (.aload_n 0, 1) := by decide +kernel
theorem dX6_unlike_104 : decode cX6_unlike 104 = .ok (.getfield 39, 3) := by decide +kernel
theorem dX6_unlike_107 : decode cX6_unlike 107 = .ok (.iload_n 2, 1) := by decide +kernel
theorem dX6_unlike_108 : decode cX6_unlike 108 = .ok (.iaload, 1) := by decide +kernel
theorem dX6_unlike_109 : decode cX6_unlike 109 = .ok (.if_icmp .ge 31, 3) := by decide +kernel
theorem dX6_unlike_112 : decode cX6_unlike 112 = .ok (.aload_n 0, 1) := by decide +kernel
theorem dX6_unlike_113 : decode cX6_unlike 113 = .ok (.getfield 45, 3) := by decide +kernel
theorem dX6_unlike_116 : decode cX6_unlike 116 = .ok (.iload_n 1, 1) := by decide +kernel
theorem dX6_unlike_117 : decode cX6_unlike 117 = .ok (.aload_n 0, 1) := by decide +kernel
theorem dX6_unlike_118 : decode cX6_unlike 118 = .ok (.getfield 45, 3) := by decide +kernel
theorem dX6_unlike_121 : decode cX6_unlike 121 = .ok (.iload_n 1, 1) := by decide +kernel
theorem dX6_unlike_122 : decode cX6_unlike 122 = .ok (.aload_n 0, 1) := by decide +kernel
theorem dX6_unlike_123 : decode cX6_unlike 123 = .ok (.getfield 42, 3) := by decide +kernel
theorem dX6_unlike_126 : decode cX6_unlike 126 = .ok (.iload_n 2, 1) := by decide +kernel
theorem dX6_unlike_127 : decode cX6_unlike 127 = .ok (.iaload, 1) := by decide +kernel
theorem dX6_unlike_128 : decode cX6_unlike 128 = .ok (.isub, 1) := by decide +kernel
theorem dX6_unlike_129 : decode cX6_unlike 129 = .ok (.baload, 1) := by decide +kernel
theorem dX6_unlike_130 : decode cX6_unlike 130 = .ok (.bastore, 1) := by decide +kernel
theorem dX6_unlike_131 : decode cX6_unlike 131 = .ok (.iinc 1 1, 3) := by decide +kernel
theorem dX6_unlike_134 : decode cX6_unlike 134 = .ok (.iinc 4 1, 3) := by decide +kernel
theorem dX6_unlike_137 : decode cX6_unlike 137 = .ok (.goto (-44), 3) := by decide +kernel
theorem dX6_unlike_140 : decode cX6_unlike 140 = .ok (.iinc 2 1, 3) := by decide +kernel
theorem dX6_unlike_143 : decode cX6_unlike 143 = .ok (.goto (-113), 3) := by decide +kernel
theorem dX6_unlike_146 : decode cX6_unlike 146 = .ok (.iconst 0, 1) := by decide +kernel
theorem dX6_unlike_147 : decode cX6_unlike 147 = .ok (.istore_n 2, 1) := by decide +kernel
theorem dX6_unlike_148 : decode cX6_unlike 148 = .ok (.iconst 0, 1) := by decide +kernel
theorem dX6_unlike_149 : decode cX6_unlike 149 = .ok (.istore_n 3, 1) := by decide +kernel
theorem dX6_unlike_150 : decode cX6_unlike 150 = .ok (.iload_n 3, 1) := by decide +kernel
theorem dX6_unlike_151 : decode cX6_unlike 151 = .ok (.aload_n 0, 1) := by decide +kernel
theorem dX6_unlike_152 : decode cX6_unlike 152 = .ok (.getfield 75, 3) := by decide +kernel
theorem dX6_unlike_155 : decode cX6_unlike 155 = .ok (.if_icmp .ge 40, 3) := by decide +kernel
theorem dX6_unlike_158 : decode cX6_unlike 158 = .ok (.iload_n 2, 1) := by decide +kernel
theorem dX6_unlike_159 : decode cX6_unlike 159 = .ok (.iload_n 3, 1) := by decide +kernel
theorem dX6_unlike_160 : decode cX6_unlike 160 = .ok (.aload_n 0, 1) := by decide +kernel
theorem dX6_unlike_161 : decode cX6_unlike 161 = .ok (.getfield 57, 3) := by decide +kernel
theorem dX6_unlike_164 : decode cX6_unlike 164 = .ok (.if_icmp .ge 18, 3) := by decide +kernel
theorem dX6_unlike_167 : decode cX6_unlike 167 = .ok (.aload_n 0, 1) := by decide +kernel
theorem dX6_unlike_168 : decode cX6_unlike 168 = .ok (.getfield 45, 3) := by decide +kernel
theorem dX6_unlike_171 : decode cX6_unlike 171 = .ok (.iload_n 3, 1) := by decide +kernel
theorem dX6_unlike_172 : decode cX6_unlike 172 = .ok (.baload, 1) := by decide +kernel
theorem dX6_unlike_173 : decode cX6_unlike 173 = .ok (.aload_n 0, 1) := by decide +kernel
theorem dX6_unlike_174 : decode cX6_unlike 174 = .ok (.getfield 8, 3) := by decide +kernel
theorem dX6_unlike_177 : decode cX6_unlike 177 = .ok (.iload_n 3, 1) := by decide +kernel
theorem dX6_unlike_178 : decode cX6_unlike 178 = .ok (.baload, 1) := by decide +kernel
theorem dX6_unlike_179 : decode cX6_unlike 179 = .ok (.if_icmp .eq 7, 3) := by decide +kernel
theorem dX6_unlike_182 : decode cX6_unlike 182 = .ok (.iconst 1, 1) := by decide +kernel
theorem dX6_unlike_183 : decode cX6_unlike 183 = .ok (.goto 4, 3) := by decide +kernel
theorem dX6_unlike_186 : decode cX6_unlike 186 = .ok (.iconst 0, 1) := by decide +kernel
theorem dX6_unlike_187 : decode cX6_unlike 187 = .ok (.iadd, 1) := by decide +kernel
theorem dX6_unlike_188 : decode cX6_unlike 188 = .ok (.istore_n 2, 1) := by decide +kernel
theorem dX6_unlike_189 : decode cX6_unlike 189 = .ok (.iinc 3 1, 3) := by decide +kernel
theorem dX6_unlike_192 : decode cX6_unlike 192 = .ok (.goto (-42), 3) := by decide +kernel
theorem dX6_unlike_195 : decode cX6_unlike 195 = .ok (.iload_n 2, 1) := by decide +kernel
theorem dX6_unlike_196 : decode cX6_unlike 196 = .ok (.ireturn, 1) := by decide +kernel
theorem dX6_size_0 : decode cX6_size 0 = .ok (.aload_n 0, 1) := by decide +kernel
theorem dX6_size_1 : decode cX6_size 1 = .ok (.getfield 57, 3) := by decide +kernel
theorem dX6_size_4 : decode cX6_size 4 = .ok (.ireturn, 1) := by decide +kernel
