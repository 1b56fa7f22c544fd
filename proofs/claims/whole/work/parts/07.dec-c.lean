theorem dX0_init_0 : decode cX0_init 0 = .ok (.aload_n 0, 1) := by decide +kernel
theorem dX0_init_1 : decode cX0_init 1 = .ok (.invokespecial 3, 3) := by decide +kernel
theorem dX0_init_4 : decode cX0_init 4 = .ok (.aload_n 0, 1) := by decide +kernel
theorem dX0_init_5 : decode cX0_init 5 = .ok (.sipush 512, 3) := by decide +kernel
theorem dX0_init_8 : decode cX0_init 8 = .ok (.newarray .int, 2) := by decide +kernel
theorem dX0_init_10 : decode cX0_init 10 = .ok (.putfield 9, 3) := by decide +kernel
theorem dX0_init_13 : decode cX0_init 13 = .ok (.aload_n 0, 1) := by decide +kernel
theorem dX0_init_14 : decode cX0_init 14 = .ok (.sipush 512, 3) := by decide +kernel
theorem dX0_init_17 : decode cX0_init 17 = .ok (.newarray .int, 2) := by decide +kernel
theorem dX0_init_19 : decode cX0_init 19 = .ok (.putfield 15, 3) := by decide +kernel
theorem dX0_init_22 : decode cX0_init 22 = .ok (.aload_n 0, 1) := by decide +kernel
theorem dX0_init_23 : decode cX0_init 23 = .ok (.iconst 0, 1) := by decide +kernel
theorem dX0_init_24 : decode cX0_init 24 = .ok (.putfield 18, 3) := by decide +kernel
theorem dX0_init_27 : decode cX0_init 27 = .ok (.aload_n 0, 1) := by decide +kernel
theorem dX0_init_28 : decode cX0_init 28 = .ok (.iconst 0, 1) := by decide +kernel
theorem dX0_init_29 : decode cX0_init 29 = .ok (.putfield 22, 3) := by decide +kernel
theorem dX0_init_32 : decode cX0_init 32 = .ok (.aload_n 0, 1) := by decide +kernel
theorem dX0_init_33 : decode cX0_init 33 = .ok (.sipush 512, 3) := by decide +kernel
theorem dX0_init_36 : decode cX0_init 36 = .ok (.newarray .int, 2) := by decide +kernel
theorem dX0_init_38 : decode cX0_init 38 = .ok (.putfield 25, 3) := by decide +kernel
theorem dX0_init_41 : decode cX0_init 41 = .ok (.aload_n 0, 1) := by decide +kernel
theorem dX0_init_42 : decode cX0_init 42 = .ok (.sipush 512, 3) := by decide +kernel
theorem dX0_init_45 : decode cX0_init 45 = .ok (.newarray .int, 2) := by decide +kernel
theorem dX0_init_47 : decode cX0_init 47 = .ok (.putfield 28, 3) := by decide +kernel
theorem dX0_init_50 : decode cX0_init 50 = .ok (.aload_n 0, 1) := by decide +kernel
theorem dX0_init_51 : decode cX0_init 51 = .ok (.iconst 0, 1) := by decide +kernel
theorem dX0_init_52 : decode cX0_init 52 = .ok (.putfield 31, 3) := by decide +kernel
theorem dX0_init_55 : decode cX0_init 55 = .ok (.aload_n 0, 1) := by decide +kernel
theorem dX0_init_56 : decode cX0_init 56 = .ok (.iconst (-1), 1) := by decide +kernel
theorem dX0_init_57 : decode cX0_init 57 = .ok (.putfield 34, 3) := by decide +kernel
theorem dX0_init_60 : decode cX0_init 60 = .ok (.aload_n 0, 1) := by decide +kernel
theorem dX0_init_61 : decode cX0_init 61 = .ok (.iconst 0, 1) := by decide +kernel
theorem dX0_init_62 : decode cX0_init 62 = .ok (.putfield 37, 3) := by decide +kernel
theorem dX0_init_65 : decode cX0_init 65 = .ok (.aload_n 0, 1) := by decide +kernel
theorem dX0_init_66 : decode cX0_init 66 = .ok (.iconst 0, 1) := by decide +kernel
theorem dX0_init_67 : decode cX0_init 67 = .ok (.putfield 40, 3) := by decide +kernel
theorem dX0_init_70 : decode cX0_init 70 = .ok (.aload_n 0, 1) := by decide +kernel
theorem dX0_init_71 : decode cX0_init 71 = .ok (.iconst 0, 1) := by decide +kernel
theorem dX0_init_72 : decode cX0_init 72 = .ok (.putfield 43, 3) := by decide +kernel
theorem dX0_init_75 : decode cX0_init 75 = .ok (.aload_n 0, 1) := by decide +kernel
theorem dX0_init_76 : decode cX0_init 76 = .ok (.iconst 0, 1) := by decide +kernel
theorem dX0_init_77 : decode cX0_init 77 = .ok (.putfield 46, 3) := by decide +kernel
theorem dX0_init_80 : decode cX0_init 80 = .ok (.aload_n 0, 1) := by decide +kernel
theorem dX0_init_81 : decode cX0_init 81 = .ok (.iconst 0, 1) := by decide +kernel
theorem dX0_init_82 : decode cX0_init 82 = .ok (.putfield 49, 3) := by decide +kernel
theorem dX0_init_85 : decode cX0_init 85 = .ok (.aload_n 0, 1) := by decide +kernel
theorem dX0_init_86 : decode cX0_init 86 = .ok (.aload_n 1, 1) := by decide +kernel
theorem dX0_init_87 : decode cX0_init 87 = .ok (.putfield 52, 3) := by decide +kernel
theorem dX0_init_90 : decode cX0_init 90 = .ok (.aload_n 0, 1) := by decide +kernel
theorem dX0_init_91 : decode cX0_init 91 = .ok (.aload_n 2, 1) := by decide +kernel
theorem dX0_init_92 : decode cX0_init 92 = .ok (.putfield 56, 3) := by decide +kernel
theorem dX0_init_95 : decode cX0_init 95 = .ok (.return_, 1) := by decide +kernel
theorem dX0_forgetData_0 : decode cX0_forgetData 0 = .ok (.aload_n 0, 1) := by decide +kernel
theorem dX0_forgetData_1 : decode cX0_forgetData 1 = .ok (.invokevirtual 60, 3) := by decide +kernel
theorem dX0_forgetData_4 : decode cX0_forgetData 4 = .ok (.aload_n 0, 1) := by decide +kernel
theorem dX0_forgetData_5 : decode cX0_forgetData 5 = .ok (.getfield 25, 3) := by decide +kernel
theorem dX0_forgetData_8 : decode cX0_forgetData 8 = .ok (.iconst 0, 1) := by decide +kernel
theorem dX0_forgetData_9 : decode cX0_forgetData 9 = .ok (.invokestatic 63, 3) := by decide +kernel
theorem dX0_forgetData_12 : decode cX0_forgetData 12 = .ok (.aload_n 0, 1) := by decide +kernel
theorem dX0_forgetData_13 : decode cX0_forgetData 13 = .ok (.getfield 28, 3) := by decide +kernel
theorem dX0_forgetData_16 : decode cX0_forgetData 16 = .ok (.iconst 0, 1) := by decide +kernel
theorem dX0_forgetData_17 : decode cX0_forgetData 17 = .ok (.invokestatic 63, 3) := by decide +kernel
theorem dX0_forgetData_20 : decode cX0_forgetData 20 = .ok (.return_, 1) := by decide +kernel
theorem dX0_unlink_0 : decode cX0_unlink 0 = .ok (.aload_n 0, 1) := by decide +kernel
theorem dX0_unlink_1 : decode cX0_unlink 1 = .ok (.iconst 0, 1) := by decide +kernel
theorem dX0_unlink_2 : decode cX0_unlink 2 = .ok (.putfield 18, 3) := by decide +kernel
theorem dX0_unlink_5 : decode cX0_unlink 5 = .ok (.aload_n 0, 1) := by decide +kernel
theorem dX0_unlink_6 : decode cX0_unlink 6 = .ok (.aload_n 0, 1) := by decide +kernel
theorem dX0_unlink_7 : decode cX0_unlink 7 = .ok (.getfield 56, 3) := by decide +kernel
theorem dX0_unlink_10 : decode cX0_unlink 10 = .ok (.getfield 69, 3) := by decide +kernel
theorem dX0_unlink_13 : decode cX0_unlink 13 = .ok (.putfield 22, 3) := by decide +kernel
theorem dX0_unlink_16 : decode cX0_unlink 16 = .ok (.aload_n 0, 1) := by decide +kernel
theorem dX0_unlink_17 : decode cX0_unlink 17 = .ok (.getfield 9, 3) := by decide +kernel
theorem dX0_unlink_20 : decode cX0_unlink 20 = .ok (.iconst (-1), 1) := by decide +kernel
theorem dX0_unlink_21 : decode cX0_unlink 21 = .ok (.invokestatic 63, 3) := by decide +kernel
theorem dX0_unlink_24 : decode cX0_unlink 24 = .ok (.return_, 1) := by decide +kernel
theorem dX0_readData_0 : decode cX0_readData 0 = .ok (.aload_n 0, 1) := by decide +kernel
theorem dX0_readData_1 : decode cX0_readData 1 = .ok (.getfield 15, 3) := by decide +kernel
theorem dX0_readData_4 : decode cX0_readData 4 = .ok (.arraylength, 1) := by decide +kernel
theorem dX0_readData_5 : decode cX0_readData 5 = .ok (.aload_n 0, 1) := by decide +kernel
theorem dX0_readData_6 : decode cX0_readData 6 = .ok (.getfield 52, 3) := by decide +kernel
theorem dX0_readData_9 : decode cX0_readData 9 = .ok (.getfield 74, 3) := by decide +kernel
theorem dX0_readData_12 : decode cX0_readData 12 = .ok (.if_icmp .ge 17, 3) := by decide +kernel
theorem dX0_readData_15 : decode cX0_readData 15 = .ok (.aload_n 0, 1) := by decide +kernel
theorem dX0_readData_16 : decode cX0_readData 16 = .ok (.aload_n 0, 1) := by decide +kernel
theorem dX0_readData_17 : decode cX0_readData 17 = .ok (.getfield 52, 3) := by decide +kernel
theorem dX0_readData_20 : decode cX0_readData 20 = .ok (.getfield 74, 3) := by decide +kernel
theorem dX0_readData_23 : decode cX0_readData 23 = .ok (.invokestatic 79, 3) := by decide +kernel
theorem dX0_readData_26 : decode cX0_readData 26 = .ok (.invokevirtual 83, 3) := by decide +kernel
theorem dX0_readData_29 : decode cX0_readData 29 = .ok (.aload_n 0, 1) := by decide +kernel
theorem dX0_readData_30 : decode cX0_readData 30 = .ok (.getfield 22, 3) := by decide +kernel
theorem dX0_readData_33 : decode cX0_readData 33 = .ok (.aload_n 0, 1) := by decide +kernel
theorem dX0_readData_34 : decode cX0_readData 34 = .ok (.getfield 56, 3) := by decide +kernel
theorem dX0_readData_37 : decode cX0_readData 37 = .ok (.getfield 69, 3) := by decide +kernel
theorem dX0_readData_40 : decode cX0_readData 40 = .ok (.if_icmp .eq 7, 3) := by decide +kernel
theorem dX0_readData_43 : decode cX0_readData 43 = .ok (.aload_n 0, 1) := by decide +kernel
theorem dX0_readData_44 : decode cX0_readData 44 = .ok (.invokevirtual 60, 3) := by decide +kernel
theorem dX0_readData_47 : decode cX0_readData 47 = .ok (.aload_n 0, 1) := by decide +kernel
theorem dX0_readData_48 : decode cX0_readData 48 = .ok (.getfield 18, 3) := by decide +kernel
theorem dX0_readData_51 : decode cX0_readData 51 = .ok (.aload_n 0, 1) := by decide +kernel
theorem dX0_readData_52 : decode cX0_readData 52 = .ok (.getfield 22, 3) := by decide +kernel
theorem dX0_readData_55 : decode cX0_readData 55 = .ok (.iadd, 1) := by decide +kernel
theorem dX0_readData_56 : decode cX0_readData 56 = .ok (.aload_n 0, 1) := by decide +kernel
theorem dX0_readData_57 : decode cX0_readData 57 = .ok (.getfield 52, 3) := by decide +kernel
theorem dX0_readData_60 : decode cX0_readData 60 = .ok (.getfield 74, 3) := by decide +kernel
theorem dX0_readData_63 : decode cX0_readData 63 = .ok (.if_icmp .gt 50, 3) := by decide +kernel
theorem dX0_readData_66 : decode cX0_readData 66 = .ok (.aload_n 0, 1) := by decide +kernel
theorem dX0_readData_67 : decode cX0_readData 67 = .ok (.aload_n 0, 1) := by decide +kernel
theorem dX0_readData_68 : decode cX0_readData 68 = .ok (.getfield 18, 3) := by decide +kernel
theorem dX0_readData_71 : decode cX0_readData 71 = .ok (.invokevirtual 87, 3) := by decide +kernel
theorem dX0_readData_74 : decode cX0_readData 74 = .ok (.istore_n 1, 1) := by decide +kernel
theorem dX0_readData_75 : decode cX0_readData 75 = .ok (.aload_n 0, 1) := by decide +kernel
theorem dX0_readData_76 : decode cX0_readData 76 = .ok (.getfield 15, 3) := by decide +kernel
theorem dX0_readData_79 : decode cX0_readData 79 = .ok (.aload_n 0, 1) := by decide +kernel
theorem dX0_readData_80 : decode cX0_readData 80 = .ok (.getfield 18, 3) := by decide +kernel
theorem dX0_readData_83 : decode cX0_readData 83 = .ok (.aload_n 0, 1) := by decide +kernel
theorem dX0_readData_84 : decode cX0_readData 84 = .ok (.getfield 9, 3) := by decide +kernel
theorem dX0_readData_87 : decode cX0_readData 87 = .ok (.iload_n 1, 1) := by decide +kernel
theorem dX0_readData_88 : decode cX0_readData 88 = .ok (.iaload, 1) := by decide +kernel
theorem dX0_readData_89 : decode cX0_readData 89 = .ok (.iastore, 1) := by decide +kernel
theorem dX0_readData_90 : decode cX0_readData 90 = .ok (.aload_n 0, 1) := by decide +kernel
theorem dX0_readData_91 : decode cX0_readData 91 = .ok (.getfield 9, 3) := by decide +kernel
theorem dX0_readData_94 : decode cX0_readData 94 = .ok (.iload_n 1, 1) := by decide +kernel
theorem dX0_readData_95 : decode cX0_readData 95 = .ok (.aload_n 0, 1) := by decide +kernel
theorem dX0_readData_96 : decode cX0_readData 96 = .ok (.getfield 18, 3) := by decide +kernel
theorem dX0_readData_99 : decode cX0_readData 99 = .ok (.iastore, 1) := by decide +kernel
theorem dX0_readData_100 : decode cX0_readData 100 = .ok (.aload_n 0, 1) := by decide +kernel
theorem dX0_readData_101 : decode cX0_readData 101 = .ok (.dup, 1) := by decide +kernel
theorem dX0_readData_102 : decode cX0_readData 102 = .ok (.getfield 18, 3) := by decide +kernel
theorem dX0_readData_105 : decode cX0_readData 105 = .ok (.iconst 1, 1) := by decide +kernel
theorem dX0_readData_106 : decode cX0_readData 106 = .ok (.iadd, 1) := by decide +kernel
theorem dX0_readData_107 : decode cX0_readData 107 = .ok (.putfield 18, 3) := by decide +kernel
theorem dX0_readData_110 : decode cX0_readData 110 = .ok (.goto (-63), 3) := by decide +kernel
theorem dX0_readData_113 : decode cX0_readData 113 = .ok (.return_, 1) := by decide +kernel
theorem dX0_enlarge_0 : decode cX0_enlarge 0 = .ok (.aload_n 0, 1) := by decide +kernel
theorem dX0_enlarge_1 : decode cX0_enlarge 1 = .ok (.iload_n 1, 1) := by decide +kernel
theorem dX0_enlarge_2 : decode cX0_enlarge 2 = .ok (.newarray .int, 2) := by decide +kernel
theorem dX0_enlarge_4 : decode cX0_enlarge 4 = .ok (.putfield 9, 3) := by decide +kernel
theorem dX0_enlarge_7 : decode cX0_enlarge 7 = .ok (.aload_n 0, 1) := by decide +kernel
theorem dX0_enlarge_8 : decode cX0_enlarge 8 = .ok (.iload_n 1, 1) := by decide +kernel
theorem dX0_enlarge_9 : decode cX0_enlarge 9 = .ok (.newarray .int, 2) := by decide +kernel
theorem dX0_enlarge_11 : decode cX0_enlarge 11 = .ok (.putfield 15, 3) := by decide +kernel
theorem dX0_enlarge_14 : decode cX0_enlarge 14 = .ok (.aload_n 0, 1) := by decide +kernel
theorem dX0_enlarge_15 : decode cX0_enlarge 15 = .ok (.iload_n 1, 1) := by decide +kernel
theorem dX0_enlarge_16 : decode cX0_enlarge 16 = .ok (.newarray .int, 2) := by decide +kernel
theorem dX0_enlarge_18 : decode cX0_enlarge 18 = .ok (.putfield 25, 3) := by decide +kernel
theorem dX0_enlarge_21 : decode cX0_enlarge 21 = .ok (.aload_n 0, 1) := by decide +kernel
theorem dX0_enlarge_22 : decode cX0_enlarge 22 = .ok (.iload_n 1, 1) := by decide +kernel
theorem dX0_enlarge_23 : decode cX0_enlarge 23 = .ok (.newarray .int, 2) := by decide +kernel
theorem dX0_enlarge_25 : decode cX0_enlarge 25 = .ok (.putfield 28, 3) := by decide +kernel
theorem dX0_enlarge_28 : decode cX0_enlarge 28 = .ok (.aload_n 0, 1) := by decide +kernel
theorem dX0_enlarge_29 : decode cX0_enlarge 29 = .ok (.invokevirtual 60, 3) := by decide +kernel
theorem dX0_enlarge_32 : decode cX0_enlarge 32 = .ok (.return_, 1) := by decide +kernel
theorem dX0_slotOf_0 : decode cX0_slotOf 0 = .ok (.lconst 0, 1) := by decide +kernel
theorem dX0_slotOf_1 : decode cX0_slotOf 1 = .ok (.lstore_n 2, 1) := by decide +kernel
theorem dX0_slotOf_2 : decode cX0_slotOf 2 = .ok (.iconst 0, 1) := by decide +kernel
theorem dX0_slotOf_3 : decode cX0_slotOf 3 = .ok (.istore 4, 2) := by decide +kernel
theorem dX0_slotOf_5 : decode cX0_slotOf 5 = .ok (.iload 4, 2) := by decide +kernel
theorem dX0_slotOf_7 : decode cX0_slotOf 7 = .ok (.aload_n 0, 1) := by decide +kernel
theorem dX0_slotOf_8 : decode cX0_slotOf 8 = .ok (.getfield 22, 3) := by decide +kernel
theorem dX0_slotOf_11 : decode cX0_slotOf 11 = .ok (.if_icmp .ge 32, 3) := by decide +kernel
theorem dX0_slotOf_14 : decode cX0_slotOf 14 = .ok (.lload_n 2, 1) := by decide +kernel
theorem dX0_slotOf_15 : decode cX0_slotOf 15 = .ok (.bipush 8, 2) := by decide +kernel
theorem dX0_slotOf_17 : decode cX0_slotOf 17 = .ok (.lshl, 1) := by decide +kernel
theorem dX0_slotOf_18 : decode cX0_slotOf 18 = .ok (.aload_n 0, 1) := by decide +kernel
theorem dX0_slotOf_19 : decode cX0_slotOf 19 = .ok (.getfield 52, 3) := by decide +kernel
theorem dX0_slotOf_22 : decode cX0_slotOf 22 = .ok (.getfield 90, 3) := by decide +kernel
theorem dX0_slotOf_25 : decode cX0_slotOf 25 = .ok (.iload_n 1, 1) := by decide +kernel
theorem dX0_slotOf_26 : decode cX0_slotOf 26 = .ok (.iload 4, 2) := by decide +kernel
theorem dX0_slotOf_28 : decode cX0_slotOf 28 = .ok (.iadd, 1) := by decide +kernel
theorem dX0_slotOf_29 : decode cX0_slotOf 29 = .ok (.baload, 1) := by decide +kernel
theorem dX0_slotOf_30 : decode cX0_slotOf 30 = .ok (.sipush 255, 3) := by decide +kernel
theorem dX0_slotOf_33 : decode cX0_slotOf 33 = .ok (.iand, 1) := by decide +kernel
theorem dX0_slotOf_34 : decode cX0_slotOf 34 = .ok (.i2l, 1) := by decide +kernel
theorem dX0_slotOf_35 : decode cX0_slotOf 35 = .ok (.lor, 1) := by decide +kernel
theorem dX0_slotOf_36 : decode cX0_slotOf 36 = .ok (.lstore_n 2, 1) := by decide +kernel
theorem dX0_slotOf_37 : decode cX0_slotOf 37 = .ok (.iinc 4 1, 3) := by decide +kernel
theorem dX0_slotOf_40 : decode cX0_slotOf 40 = .ok (.goto (-35), 3) := by decide +kernel
theorem dX0_slotOf_43 : decode cX0_slotOf 43 = .ok (.lload_n 2, 1) := by decide +kernel
theorem dX0_slotOf_44 : decode cX0_slotOf 44 = .ok (.ldc2_w 94, 3) := by decide +kernel
theorem dX0_slotOf_47 : decode cX0_slotOf 47 = .ok (.lmul, 1) := by decide +kernel
theorem dX0_slotOf_48 : decode cX0_slotOf 48 = .ok (.bipush 49, 2) := by decide +kernel
theorem dX0_slotOf_50 : decode cX0_slotOf 50 = .ok (.lushr, 1) := by decide +kernel
theorem dX0_slotOf_51 : decode cX0_slotOf 51 = .ok (.l2i, 1) := by decide +kernel
theorem dX0_slotOf_52 : decode cX0_slotOf 52 = .ok (.aload_n 0, 1) := by decide +kernel
theorem dX0_slotOf_53 : decode cX0_slotOf 53 = .ok (.getfield 9, 3) := by decide +kernel
theorem dX0_slotOf_56 : decode cX0_slotOf 56 = .ok (.arraylength, 1) := by decide +kernel
theorem dX0_slotOf_57 : decode cX0_slotOf 57 = .ok (.iconst 1, 1) := by decide +kernel
theorem dX0_slotOf_58 : decode cX0_slotOf 58 = .ok (.isub, 1) := by decide +kernel
theorem dX0_slotOf_59 : decode cX0_slotOf 59 = .ok (.iand, 1) := by decide +kernel
theorem dX0_slotOf_60 : decode cX0_slotOf 60 = .ok (.ireturn, 1) := by decide +kernel
theorem dX0_seek_0 : decode cX0_seek 0 = .ok (.iload_n 2, 1) := by decide +kernel
theorem dX0_seek_1 : decode cX0_seek 1 = .ok (.tableswitch 69 0 3 #[31, 39, 69, 61], 31) := by decide +kernel
theorem dX0_seek_32 : decode cX0_seek 32 = .ok (.aload_n 0, 1) := by decide +kernel
theorem dX0_seek_33 : decode cX0_seek 33 = .ok (.iload_n 1, 1) := by decide +kernel
theorem dX0_seek_34 : decode cX0_seek 34 = .ok (.invokevirtual 96, 3) := by decide +kernel
theorem dX0_seek_37 : decode cX0_seek 37 = .ok (.goto 38, 3) := by decide +kernel
theorem dX0_seek_40 : decode cX0_seek 40 = .ok (.aload_n 0, 1) := by decide +kernel
theorem dX0_seek_41 : decode cX0_seek 41 = .ok (.iload_n 1, 1) := by decide +kernel
theorem dX0_seek_42 : decode cX0_seek 42 = .ok (.bipush 8, 2) := by decide +kernel
theorem dX0_seek_44 : decode cX0_seek 44 = .ok (.invokevirtual 99, 3) := by decide +kernel
theorem dX0_seek_47 : decode cX0_seek 47 = .ok (.aload_n 0, 1) := by decide +kernel
theorem dX0_seek_48 : decode cX0_seek 48 = .ok (.invokevirtual 103, 3) := by decide +kernel
theorem dX0_seek_51 : decode cX0_seek 51 = .ok (.ifCond .ne 24, 3) := by decide +kernel
theorem dX0_seek_54 : decode cX0_seek 54 = .ok (.aload_n 0, 1) := by decide +kernel
theorem dX0_seek_55 : decode cX0_seek 55 = .ok (.iload_n 1, 1) := by decide +kernel
theorem dX0_seek_56 : decode cX0_seek 56 = .ok (.invokevirtual 96, 3) := by decide +kernel
theorem dX0_seek_59 : decode cX0_seek 59 = .ok (.goto 16, 3) := by decide +kernel
theorem dX0_seek_62 : decode cX0_seek 62 = .ok (.aload_n 0, 1) := by decide +kernel
theorem dX0_seek_63 : decode cX0_seek 63 = .ok (.iload_n 1, 1) := by decide +kernel
theorem dX0_seek_64 : decode cX0_seek 64 = .ok (.invokevirtual 107, 3) := by decide +kernel
theorem dX0_seek_67 : decode cX0_seek 67 = .ok (.goto 8, 3) := by decide +kernel
theorem dX0_seek_70 : decode cX0_seek 70 = .ok (.aload_n 0, 1) := by decide +kernel
theorem dX0_seek_71 : decode cX0_seek 71 = .ok (.iload_n 1, 1) := by decide +kernel
theorem dX0_seek_72 : decode cX0_seek 72 = .ok (.invokevirtual 110, 3) := by decide +kernel
theorem dX0_seek_75 : decode cX0_seek 75 = .ok (.return_, 1) := by decide +kernel
theorem dX0_seekNearest_0 : decode cX0_seekNearest 0 = .ok (.aload_n 0, 1) := by decide +kernel
theorem dX0_seekNearest_1 : decode cX0_seekNearest 1 = .ok (.iload_n 1, 1) := by decide +kernel
theorem dX0_seekNearest_2 : decode cX0_seekNearest 2 = .ok (.aload_n 0, 1) := by decide +kernel
theorem dX0_seekNearest_3 : decode cX0_seekNearest 3 = .ok (.getfield 56, 3) := by decide +kernel
theorem dX0_seekNearest_6 : decode cX0_seekNearest 6 = .ok (.getfield 69, 3) := by decide +kernel
theorem dX0_seekNearest_9 : decode cX0_seekNearest 9 = .ok (.invokevirtual 99, 3) := by decide +kernel
theorem dX0_seekNearest_12 : decode cX0_seekNearest 12 = .ok (.aload_n 0, 1) := by decide +kernel
theorem dX0_seekNearest_13 : decode cX0_seekNearest 13 = .ok (.invokevirtual 103, 3) := by decide +kernel
theorem dX0_seekNearest_16 : decode cX0_seekNearest 16 = .ok (.pop, 1) := by decide +kernel
theorem dX0_seekNearest_17 : decode cX0_seekNearest 17 = .ok (.return_, 1) := by decide +kernel
theorem dX0_startAt_0 : decode cX0_startAt 0 = .ok (.aload_n 0, 1) := by decide +kernel
theorem dX0_startAt_1 : decode cX0_startAt 1 = .ok (.iload_n 1, 1) := by decide +kernel
theorem dX0_startAt_2 : decode cX0_startAt 2 = .ok (.putfield 31, 3) := by decide +kernel
theorem dX0_startAt_5 : decode cX0_startAt 5 = .ok (.aload_n 0, 1) := by decide +kernel
theorem dX0_startAt_6 : decode cX0_startAt 6 = .ok (.iconst 0, 1) := by decide +kernel
theorem dX0_startAt_7 : decode cX0_startAt 7 = .ok (.putfield 46, 3) := by decide +kernel
theorem dX0_startAt_10 : decode cX0_startAt 10 = .ok (.aload_n 0, 1) := by decide +kernel
theorem dX0_startAt_11 : decode cX0_startAt 11 = .ok (.iconst 0, 1) := by decide +kernel
theorem dX0_startAt_12 : decode cX0_startAt 12 = .ok (.putfield 49, 3) := by decide +kernel
theorem dX0_startAt_15 : decode cX0_startAt 15 = .ok (.aload_n 0, 1) := by decide +kernel
theorem dX0_startAt_16 : decode cX0_startAt 16 = .ok (.iload_n 2, 1) := by decide +kernel
theorem dX0_startAt_17 : decode cX0_startAt 17 = .ok (.iconst 1, 1) := by decide +kernel
theorem dX0_startAt_18 : decode cX0_startAt 18 = .ok (.isub, 1) := by decide +kernel
theorem dX0_startAt_19 : decode cX0_startAt 19 = .ok (.putfield 43, 3) := by decide +kernel
theorem dX0_startAt_22 : decode cX0_startAt 22 = .ok (.aload_n 0, 1) := by decide +kernel
theorem dX0_startAt_23 : decode cX0_startAt 23 = .ok (.iconst 0, 1) := by decide +kernel
theorem dX0_startAt_24 : decode cX0_startAt 24 = .ok (.iload_n 1, 1) := by decide +kernel
theorem dX0_startAt_25 : decode cX0_startAt 25 = .ok (.aload_n 0, 1) := by decide +kernel
theorem dX0_startAt_26 : decode cX0_startAt 26 = .ok (.getfield 56, 3) := by decide +kernel
theorem dX0_startAt_29 : decode cX0_startAt 29 = .ok (.getfield 117, 3) := by decide +kernel
theorem dX0_startAt_32 : decode cX0_startAt 32 = .ok (.isub, 1) := by decide +kernel
theorem dX0_startAt_33 : decode cX0_startAt 33 = .ok (.invokestatic 120, 3) := by decide +kernel
theorem dX0_startAt_36 : decode cX0_startAt 36 = .ok (.putfield 37, 3) := by decide +kernel
theorem dX0_startAt_39 : decode cX0_startAt 39 = .ok (.aload_n 0, 1) := by decide +kernel
theorem dX0_startAt_40 : decode cX0_startAt 40 = .ok (.aload_n 0, 1) := by decide +kernel
theorem dX0_startAt_41 : decode cX0_startAt 41 = .ok (.getfield 56, 3) := by decide +kernel
theorem dX0_startAt_44 : decode cX0_startAt 44 = .ok (.getfield 126, 3) := by decide +kernel
theorem dX0_startAt_47 : decode cX0_startAt 47 = .ok (.aload_n 0, 1) := by decide +kernel
theorem dX0_startAt_48 : decode cX0_startAt 48 = .ok (.getfield 56, 3) := by decide +kernel
theorem dX0_startAt_51 : decode cX0_startAt 51 = .ok (.aload_n 0, 1) := by decide +kernel
theorem dX0_startAt_52 : decode cX0_startAt 52 = .ok (.getfield 52, 3) := by decide +kernel
theorem dX0_startAt_55 : decode cX0_startAt 55 = .ok (.getfield 74, 3) := by decide +kernel
theorem dX0_startAt_58 : decode cX0_startAt 58 = .ok (.invokevirtual 129, 3) := by decide +kernel
theorem dX0_startAt_61 : decode cX0_startAt 61 = .ok (.iload_n 1, 1) := by decide +kernel
theorem dX0_startAt_62 : decode cX0_startAt 62 = .ok (.isub, 1) := by decide +kernel
theorem dX0_startAt_63 : decode cX0_startAt 63 = .ok (.invokestatic 132, 3) := by decide +kernel
theorem dX0_startAt_66 : decode cX0_startAt 66 = .ok (.putfield 40, 3) := by decide +kernel
theorem dX0_startAt_69 : decode cX0_startAt 69 = .ok (.iload_n 1, 1) := by decide +kernel
theorem dX0_startAt_70 : decode cX0_startAt 70 = .ok (.ifCond .lt 41, 3) := by decide +kernel
theorem dX0_startAt_73 : decode cX0_startAt 73 = .ok (.iload_n 1, 1) := by decide +kernel
theorem dX0_startAt_74 : decode cX0_startAt 74 = .ok (.aload_n 0, 1) := by decide +kernel
theorem dX0_startAt_75 : decode cX0_startAt 75 = .ok (.getfield 18, 3) := by decide +kernel
theorem dX0_startAt_78 : decode cX0_startAt 78 = .ok (.if_icmp .ge 33, 3) := by decide +kernel
theorem dX0_startAt_81 : decode cX0_startAt 81 = .ok (.iload_n 1, 1) := by decide +kernel
theorem dX0_startAt_82 : decode cX0_startAt 82 = .ok (.aload_n 0, 1) := by decide +kernel
theorem dX0_startAt_83 : decode cX0_startAt 83 = .ok (.getfield 56, 3) := by decide +kernel
theorem dX0_startAt_86 : decode cX0_startAt 86 = .ok (.aload_n 0, 1) := by decide +kernel
theorem dX0_startAt_87 : decode cX0_startAt 87 = .ok (.getfield 52, 3) := by decide +kernel
theorem dX0_startAt_90 : decode cX0_startAt 90 = .ok (.getfield 74, 3) := by decide +kernel
theorem dX0_startAt_93 : decode cX0_startAt 93 = .ok (.invokevirtual 135, 3) := by decide +kernel
theorem dX0_startAt_96 : decode cX0_startAt 96 = .ok (.if_icmp .gt 15, 3) := by decide +kernel
theorem dX0_startAt_99 : decode cX0_startAt 99 = .ok (.aload_n 0, 1) := by decide +kernel
theorem dX0_startAt_100 : decode cX0_startAt 100 = .ok (.getfield 40, 3) := by decide +kernel
theorem dX0_startAt_103 : decode cX0_startAt 103 = .ok (.iload_n 2, 1) := by decide +kernel
theorem dX0_startAt_104 : decode cX0_startAt 104 = .ok (.if_icmp .lt 7, 3) := by decide +kernel
theorem dX0_startAt_107 : decode cX0_startAt 107 = .ok (.iconst 1, 1) := by decide +kernel
theorem dX0_startAt_108 : decode cX0_startAt 108 = .ok (.goto 4, 3) := by decide +kernel
theorem dX0_startAt_111 : decode cX0_startAt 111 = .ok (.iconst 0, 1) := by decide +kernel
theorem dX0_startAt_112 : decode cX0_startAt 112 = .ok (.istore_n 3, 1) := by decide +kernel
theorem dX0_startAt_113 : decode cX0_startAt 113 = .ok (.aload_n 0, 1) := by decide +kernel
theorem dX0_startAt_114 : decode cX0_startAt 114 = .ok (.iload_n 3, 1) := by decide +kernel
theorem dX0_startAt_115 : decode cX0_startAt 115 = .ok (.ifCond .eq 12, 3) := by decide +kernel
theorem dX0_startAt_118 : decode cX0_startAt 118 = .ok (.aload_n 0, 1) := by decide +kernel
theorem dX0_startAt_119 : decode cX0_startAt 119 = .ok (.getfield 15, 3) := by decide +kernel
theorem dX0_startAt_122 : decode cX0_startAt 122 = .ok (.iload_n 1, 1) := by decide +kernel
theorem dX0_startAt_123 : decode cX0_startAt 123 = .ok (.iaload, 1) := by decide +kernel
theorem dX0_startAt_124 : decode cX0_startAt 124 = .ok (.goto 4, 3) := by decide +kernel
theorem dX0_startAt_127 : decode cX0_startAt 127 = .ok (.iconst (-1), 1) := by decide +kernel
theorem dX0_startAt_128 : decode cX0_startAt 128 = .ok (.putfield 34, 3) := by decide +kernel
theorem dX0_startAt_131 : decode cX0_startAt 131 = .ok (.return_, 1) := by decide +kernel
theorem dX0_findLonger_0 : decode cX0_findLonger 0 = .ok (.aload_n 0, 1) := by decide +kernel
theorem dX0_findLonger_1 : decode cX0_findLonger 1 = .ok (.getfield 52, 3) := by decide +kernel
theorem dX0_findLonger_4 : decode cX0_findLonger 4 = .ok (.getfield 90, 3) := by decide +kernel
theorem dX0_findLonger_7 : decode cX0_findLonger 7 = .ok (.astore_n 1, 1) := by decide +kernel
theorem dX0_findLonger_8 : decode cX0_findLonger 8 = .ok (.aload_n 0, 1) := by decide +kernel
theorem dX0_findLonger_9 : decode cX0_findLonger 9 = .ok (.getfield 31, 3) := by decide +kernel
theorem dX0_findLonger_12 : decode cX0_findLonger 12 = .ok (.istore_n 2, 1) := by decide +kernel
theorem dX0_findLonger_13 : decode cX0_findLonger 13 = .ok (.iload_n 2, 1) := by decide +kernel
theorem dX0_findLonger_14 : decode cX0_findLonger 14 = .ok (.ifCond .le 121, 3) := by decide +kernel
theorem dX0_findLonger_17 : decode cX0_findLonger 17 = .ok (.aload_n 0, 1) := by decide +kernel
theorem dX0_findLonger_18 : decode cX0_findLonger 18 = .ok (.getfield 34, 3) := by decide +kernel
theorem dX0_findLonger_21 : decode cX0_findLonger 21 = .ok (.aload_n 0, 1) := by decide +kernel
theorem dX0_findLonger_22 : decode cX0_findLonger 22 = .ok (.getfield 37, 3) := by decide +kernel
theorem dX0_findLonger_25 : decode cX0_findLonger 25 = .ok (.if_icmp .lt 110, 3) := by decide +kernel
theorem dX0_findLonger_28 : decode cX0_findLonger 28 = .ok (.aload_n 0, 1) := by decide +kernel
theorem dX0_findLonger_29 : decode cX0_findLonger 29 = .ok (.getfield 43, 3) := by decide +kernel
theorem dX0_findLonger_32 : decode cX0_findLonger 32 = .ok (.aload_n 0, 1) := by decide +kernel
theorem dX0_findLonger_33 : decode cX0_findLonger 33 = .ok (.getfield 40, 3) := by decide +kernel
theorem dX0_findLonger_36 : decode cX0_findLonger 36 = .ok (.if_icmp .ge 99, 3) := by decide +kernel
theorem dX0_findLonger_39 : decode cX0_findLonger 39 = .ok (.aload_n 0, 1) := by decide +kernel
theorem dX0_findLonger_40 : decode cX0_findLonger 40 = .ok (.getfield 34, 3) := by decide +kernel
theorem dX0_findLonger_43 : decode cX0_findLonger 43 = .ok (.istore_n 3, 1) := by decide +kernel
theorem dX0_findLonger_44 : decode cX0_findLonger 44 = .ok (.aload_n 0, 1) := by decide +kernel
theorem dX0_findLonger_45 : decode cX0_findLonger 45 = .ok (.aload_n 0, 1) := by decide +kernel
theorem dX0_findLonger_46 : decode cX0_findLonger 46 = .ok (.getfield 15, 3) := by decide +kernel
theorem dX0_findLonger_49 : decode cX0_findLonger 49 = .ok (.iload_n 3, 1) := by decide +kernel
theorem dX0_findLonger_50 : decode cX0_findLonger 50 = .ok (.iaload, 1) := by decide +kernel
theorem dX0_findLonger_51 : decode cX0_findLonger 51 = .ok (.putfield 34, 3) := by decide +kernel
theorem dX0_findLonger_54 : decode cX0_findLonger 54 = .ok (.aload_n 1, 1) := by decide +kernel
theorem dX0_findLonger_55 : decode cX0_findLonger 55 = .ok (.iload_n 3, 1) := by decide +kernel
theorem dX0_findLonger_56 : decode cX0_findLonger 56 = .ok (.aload_n 0, 1) := by decide +kernel
theorem dX0_findLonger_57 : decode cX0_findLonger 57 = .ok (.getfield 43, 3) := by decide +kernel
theorem dX0_findLonger_60 : decode cX0_findLonger 60 = .ok (.iadd, 1) := by decide +kernel
theorem dX0_findLonger_61 : decode cX0_findLonger 61 = .ok (.baload, 1) := by decide +kernel
theorem dX0_findLonger_62 : decode cX0_findLonger 62 = .ok (.aload_n 1, 1) := by decide +kernel
theorem dX0_findLonger_63 : decode cX0_findLonger 63 = .ok (.aload_n 0, 1) := by decide +kernel
theorem dX0_findLonger_64 : decode cX0_findLonger 64 = .ok (.getfield 31, 3) := by decide +kernel
theorem dX0_findLonger_67 : decode cX0_findLonger 67 = .ok (.aload_n 0, 1) := by decide +kernel
theorem dX0_findLonger_68 : decode cX0_findLonger 68 = .ok (.getfield 43, 3) := by decide +kernel
theorem dX0_findLonger_71 : decode cX0_findLonger 71 = .ok (.iadd, 1) := by decide +kernel
theorem dX0_findLonger_72 : decode cX0_findLonger 72 = .ok (.baload, 1) := by decide +kernel
theorem dX0_findLonger_73 : decode cX0_findLonger 73 = .ok (.if_icmp .ne 56, 3) := by decide +kernel
theorem dX0_findLonger_76 : decode cX0_findLonger 76 = .ok (.aload_n 0, 1) := by decide +kernel
theorem dX0_findLonger_77 : decode cX0_findLonger 77 = .ok (.aload_n 0, 1) := by decide +kernel
theorem dX0_findLonger_78 : decode cX0_findLonger 78 = .ok (.getfield 31, 3) := by decide +kernel
theorem dX0_findLonger_81 : decode cX0_findLonger 81 = .ok (.aload_n 0, 1) := by decide +kernel
theorem dX0_findLonger_82 : decode cX0_findLonger 82 = .ok (.getfield 31, 3) := by decide +kernel
theorem dX0_findLonger_85 : decode cX0_findLonger 85 = .ok (.iload_n 3, 1) := by decide +kernel
theorem dX0_findLonger_86 : decode cX0_findLonger 86 = .ok (.isub, 1) := by decide +kernel
theorem dX0_findLonger_87 : decode cX0_findLonger 87 = .ok (.aload_n 0, 1) := by decide +kernel
theorem dX0_findLonger_88 : decode cX0_findLonger 88 = .ok (.getfield 40, 3) := by decide +kernel
theorem dX0_findLonger_91 : decode cX0_findLonger 91 = .ok (.invokevirtual 113, 3) := by decide +kernel
theorem dX0_findLonger_94 : decode cX0_findLonger 94 = .ok (.istore 4, 2) := by decide +kernel
theorem dX0_findLonger_96 : decode cX0_findLonger 96 = .ok (.iload 4, 2) := by decide +kernel
theorem dX0_findLonger_98 : decode cX0_findLonger 98 = .ok (.aload_n 0, 1) := by decide +kernel
theorem dX0_findLonger_99 : decode cX0_findLonger 99 = .ok (.getfield 43, 3) := by decide +kernel
theorem dX0_findLonger_102 : decode cX0_findLonger 102 = .ok (.if_icmp .le 27, 3) := by decide +kernel
theorem dX0_findLonger_105 : decode cX0_findLonger 105 = .ok (.aload_n 0, 1) := by decide +kernel
theorem dX0_findLonger_106 : decode cX0_findLonger 106 = .ok (.iload 4, 2) := by decide +kernel
theorem dX0_findLonger_108 : decode cX0_findLonger 108 = .ok (.putfield 43, 3) := by decide +kernel
theorem dX0_findLonger_111 : decode cX0_findLonger 111 = .ok (.aload_n 0, 1) := by decide +kernel
theorem dX0_findLonger_112 : decode cX0_findLonger 112 = .ok (.iload 4, 2) := by decide +kernel
theorem dX0_findLonger_114 : decode cX0_findLonger 114 = .ok (.putfield 46, 3) := by decide +kernel
theorem dX0_findLonger_117 : decode cX0_findLonger 117 = .ok (.aload_n 0, 1) := by decide +kernel
theorem dX0_findLonger_118 : decode cX0_findLonger 118 = .ok (.aload_n 0, 1) := by decide +kernel
theorem dX0_findLonger_119 : decode cX0_findLonger 119 = .ok (.getfield 31, 3) := by decide +kernel
theorem dX0_findLonger_122 : decode cX0_findLonger 122 = .ok (.iload_n 3, 1) := by decide +kernel
theorem dX0_findLonger_123 : decode cX0_findLonger 123 = .ok (.isub, 1) := by decide +kernel
theorem dX0_findLonger_124 : decode cX0_findLonger 124 = .ok (.putfield 49, 3) := by decide +kernel
theorem dX0_findLonger_127 : decode cX0_findLonger 127 = .ok (.iconst 1, 1) := by decide +kernel
theorem dX0_findLonger_128 : decode cX0_findLonger 128 = .ok (.ireturn, 1) := by decide +kernel
theorem dX0_findLonger_129 : decode cX0_findLonger 129 = .ok (.iinc 2 (-1), 3) := by decide +kernel
theorem dX0_findLonger_132 : decode cX0_findLonger 132 = .ok (.goto (-119), 3) := by decide +kernel
theorem dX0_findLonger_135 : decode cX0_findLonger 135 = .ok (.iconst 0, 1) := by decide +kernel
theorem dX0_findLonger_136 : decode cX0_findLonger 136 = .ok (.ireturn, 1) := by decide +kernel
theorem dX0_sameBytes_0 : decode cX0_sameBytes 0 = .ok (.aload_n 0, 1) := by decide +kernel
theorem dX0_sameBytes_1 : decode cX0_sameBytes 1 = .ok (.getfield 52, 3) := by decide +kernel
theorem dX0_sameBytes_4 : decode cX0_sameBytes 4 = .ok (.getfield 90, 3) := by decide +kernel
theorem dX0_sameBytes_7 : decode cX0_sameBytes 7 = .ok (.astore 4, 2) := by decide +kernel
theorem dX0_sameBytes_9 : decode cX0_sameBytes 9 = .ok (.iload_n 1, 1) := by decide +kernel
theorem dX0_sameBytes_10 : decode cX0_sameBytes 10 = .ok (.iload_n 3, 1) := by decide +kernel
theorem dX0_sameBytes_11 : decode cX0_sameBytes 11 = .ok (.iadd, 1) := by decide +kernel
theorem dX0_sameBytes_12 : decode cX0_sameBytes 12 = .ok (.istore 5, 2) := by decide +kernel
theorem dX0_sameBytes_14 : decode cX0_sameBytes 14 = .ok (.aload_n 0, 1) := by decide +kernel
theorem dX0_sameBytes_15 : decode cX0_sameBytes 15 = .ok (.getfield 25, 3) := by decide +kernel
theorem dX0_sameBytes_18 : decode cX0_sameBytes 18 = .ok (.iload_n 2, 1) := by decide +kernel
theorem dX0_sameBytes_19 : decode cX0_sameBytes 19 = .ok (.iaload, 1) := by decide +kernel
theorem dX0_sameBytes_20 : decode cX0_sameBytes 20 = .ok (.istore 6, 2) := by decide +kernel
theorem dX0_sameBytes_22 : decode cX0_sameBytes 22 = .ok (.aload_n 0, 1) := by decide +kernel
theorem dX0_sameBytes_23 : decode cX0_sameBytes 23 = .ok (.getfield 28, 3) := by decide +kernel
theorem dX0_sameBytes_26 : decode cX0_sameBytes 26 = .ok (.iload_n 2, 1) := by decide +kernel
theorem dX0_sameBytes_27 : decode cX0_sameBytes 27 = .ok (.iaload, 1) := by decide +kernel
theorem dX0_sameBytes_28 : decode cX0_sameBytes 28 = .ok (.istore 7, 2) := by decide +kernel
theorem dX0_sameBytes_30 : decode cX0_sameBytes 30 = .ok (.iload 6, 2) := by decide +kernel
theorem dX0_sameBytes_32 : decode cX0_sameBytes 32 = .ok (.iload_n 1, 1) := by decide +kernel
theorem dX0_sameBytes_33 : decode cX0_sameBytes 33 = .ok (.if_icmp .gt 13, 3) := by decide +kernel
theorem dX0_sameBytes_36 : decode cX0_sameBytes 36 = .ok (.iload_n 1, 1) := by decide +kernel
theorem dX0_sameBytes_37 : decode cX0_sameBytes 37 = .ok (.iload 7, 2) := by decide +kernel
theorem dX0_sameBytes_39 : decode cX0_sameBytes 39 = .ok (.if_icmp .ge 7, 3) := by decide +kernel
theorem dX0_sameBytes_42 : decode cX0_sameBytes 42 = .ok (.iconst 1, 1) := by decide +kernel
theorem dX0_sameBytes_43 : decode cX0_sameBytes 43 = .ok (.goto 4, 3) := by decide +kernel
theorem dX0_sameBytes_46 : decode cX0_sameBytes 46 = .ok (.iconst 0, 1) := by decide +kernel
theorem dX0_sameBytes_47 : decode cX0_sameBytes 47 = .ok (.istore 8, 2) := by decide +kernel
theorem dX0_sameBytes_49 : decode cX0_sameBytes 49 = .ok (.iload 8, 2) := by decide +kernel
theorem dX0_sameBytes_51 : decode cX0_sameBytes 51 = .ok (.ifCond .eq 8, 3) := by decide +kernel
theorem dX0_sameBytes_54 : decode cX0_sameBytes 54 = .ok (.iload 7, 2) := by decide +kernel
theorem dX0_sameBytes_56 : decode cX0_sameBytes 56 = .ok (.goto 4, 3) := by decide +kernel
theorem dX0_sameBytes_59 : decode cX0_sameBytes 59 = .ok (.iload_n 1, 1) := by decide +kernel
theorem dX0_sameBytes_60 : decode cX0_sameBytes 60 = .ok (.istore 9, 2) := by decide +kernel
theorem dX0_sameBytes_62 : decode cX0_sameBytes 62 = .ok (.iload 9, 2) := by decide +kernel
theorem dX0_sameBytes_64 : decode cX0_sameBytes 64 = .ok (.iload 5, 2) := by decide +kernel
theorem dX0_sameBytes_66 : decode cX0_sameBytes 66 = .ok (.if_icmp .ge 35, 3) := by decide +kernel
theorem dX0_sameBytes_69 : decode cX0_sameBytes 69 = .ok (.aload 4, 2) := by decide +kernel
theorem dX0_sameBytes_71 : decode cX0_sameBytes 71 = .ok (.iload 9, 2) := by decide +kernel
theorem dX0_sameBytes_73 : decode cX0_sameBytes 73 = .ok (.baload, 1) := by decide +kernel
theorem dX0_sameBytes_74 : decode cX0_sameBytes 74 = .ok (.aload 4, 2) := by decide +kernel
theorem dX0_sameBytes_76 : decode cX0_sameBytes 76 = .ok (.iload 9, 2) := by decide +kernel
theorem dX0_sameBytes_78 : decode cX0_sameBytes 78 = .ok (.iload_n 2, 1) := by decide +kernel
theorem dX0_sameBytes_79 : decode cX0_sameBytes 79 = .ok (.isub, 1) := by decide +kernel
theorem dX0_sameBytes_80 : decode cX0_sameBytes 80 = .ok (.baload, 1) := by decide +kernel
theorem dX0_sameBytes_81 : decode cX0_sameBytes 81 = .ok (.if_icmp .ne 20, 3) := by decide +kernel
theorem dX0_sameBytes_84 : decode cX0_sameBytes 84 = .ok (.iinc 9 1, 3) := by decide +kernel
theorem dX0_sameBytes_87 : decode cX0_sameBytes 87 = .ok (.iload 9, 2) := by decide +kernel
theorem dX0_sameBytes_89 : decode cX0_sameBytes 89 = .ok (.iload 6, 2) := by decide +kernel
theorem dX0_sameBytes_91 : decode cX0_sameBytes 91 = .ok (.if_icmp .ne (-29), 3) := by decide +kernel
theorem dX0_sameBytes_94 : decode cX0_sameBytes 94 = .ok (.iload 7, 2) := by decide +kernel
theorem dX0_sameBytes_96 : decode cX0_sameBytes 96 = .ok (.istore 9, 2) := by decide +kernel
theorem dX0_sameBytes_98 : decode cX0_sameBytes 98 = .ok (.goto (-36), 3) := by decide +kernel
theorem dX0_sameBytes_101 : decode cX0_sameBytes 101 = .ok (.aload_n 0, 1) := by decide +kernel
theorem dX0_sameBytes_102 : decode cX0_sameBytes 102 = .ok (.getfield 25, 3) := by decide +kernel
theorem dX0_sameBytes_105 : decode cX0_sameBytes 105 = .ok (.iload_n 2, 1) := by decide +kernel
theorem dX0_sameBytes_106 : decode cX0_sameBytes 106 = .ok (.iload 8, 2) := by decide +kernel
theorem dX0_sameBytes_108 : decode cX0_sameBytes 108 = .ok (.ifCond .eq 8, 3) := by decide +kernel
theorem dX0_sameBytes_111 : decode cX0_sameBytes 111 = .ok (.iload 6, 2) := by decide +kernel
theorem dX0_sameBytes_113 : decode cX0_sameBytes 113 = .ok (.goto 4, 3) := by decide +kernel
theorem dX0_sameBytes_116 : decode cX0_sameBytes 116 = .ok (.iload_n 1, 1) := by decide +kernel
theorem dX0_sameBytes_117 : decode cX0_sameBytes 117 = .ok (.iastore, 1) := by decide +kernel
theorem dX0_sameBytes_118 : decode cX0_sameBytes 118 = .ok (.aload_n 0, 1) := by decide +kernel
theorem dX0_sameBytes_119 : decode cX0_sameBytes 119 = .ok (.getfield 28, 3) := by decide +kernel
theorem dX0_sameBytes_122 : decode cX0_sameBytes 122 = .ok (.iload_n 2, 1) := by decide +kernel
theorem dX0_sameBytes_123 : decode cX0_sameBytes 123 = .ok (.iload 9, 2) := by decide +kernel
theorem dX0_sameBytes_125 : decode cX0_sameBytes 125 = .ok (.iastore, 1) := by decide +kernel
theorem dX0_sameBytes_126 : decode cX0_sameBytes 126 = .ok (.iload 9, 2) := by decide +kernel
theorem dX0_sameBytes_128 : decode cX0_sameBytes 128 = .ok (.iload 5, 2) := by decide +kernel
theorem dX0_sameBytes_130 : decode cX0_sameBytes 130 = .ok (.invokestatic 132, 3) := by decide +kernel
theorem dX0_sameBytes_133 : decode cX0_sameBytes 133 = .ok (.iload_n 1, 1) := by decide +kernel
theorem dX0_sameBytes_134 : decode cX0_sameBytes 134 = .ok (.isub, 1) := by decide +kernel
theorem dX0_sameBytes_135 : decode cX0_sameBytes 135 = .ok (.ireturn, 1) := by decide +kernel
theorem dX0_seekLongestIfNotNext_0 : decode cX0_seekLongestIfNotNext 0 = .ok (.aload_n 0, 1) := by decide +kernel
theorem dX0_seekLongestIfNotNext_1 : decode cX0_seekLongestIfNotNext 1 = .ok (.iload_n 1, 1) := by decide +kernel
theorem dX0_seekLongestIfNotNext_2 : decode cX0_seekLongestIfNotNext 2 = .ok (.invokevirtual 110, 3) := by decide +kernel
theorem dX0_seekLongestIfNotNext_5 : decode cX0_seekLongestIfNotNext 5 = .ok (.aload_n 0, 1) := by decide +kernel
theorem dX0_seekLongestIfNotNext_6 : decode cX0_seekLongestIfNotNext 6 = .ok (.getfield 46, 3) := by decide +kernel
theorem dX0_seekLongestIfNotNext_9 : decode cX0_seekLongestIfNotNext 9 = .ok (.istore_n 2, 1) := by decide +kernel
theorem dX0_seekLongestIfNotNext_10 : decode cX0_seekLongestIfNotNext 10 = .ok (.aload_n 0, 1) := by decide +kernel
theorem dX0_seekLongestIfNotNext_11 : decode cX0_seekLongestIfNotNext 11 = .ok (.getfield 49, 3) := by decide +kernel
theorem dX0_seekLongestIfNotNext_14 : decode cX0_seekLongestIfNotNext 14 = .ok (.istore_n 3, 1) := by decide +kernel
theorem dX0_seekLongestIfNotNext_15 : decode cX0_seekLongestIfNotNext 15 = .ok (.iload_n 2, 1) := by decide +kernel
theorem dX0_seekLongestIfNotNext_16 : decode cX0_seekLongestIfNotNext 16 = .ok (.ifCond .ne 4, 3) := by decide +kernel
theorem dX0_seekLongestIfNotNext_19 : decode cX0_seekLongestIfNotNext 19 = .ok (.return_, 1) := by decide +kernel
theorem dX0_seekLongestIfNotNext_20 : decode cX0_seekLongestIfNotNext 20 = .ok (.aload_n 0, 1) := by decide +kernel
theorem dX0_seekLongestIfNotNext_21 : decode cX0_seekLongestIfNotNext 21 = .ok (.iload_n 1, 1) := by decide +kernel
theorem dX0_seekLongestIfNotNext_22 : decode cX0_seekLongestIfNotNext 22 = .ok (.iconst 1, 1) := by decide +kernel
theorem dX0_seekLongestIfNotNext_23 : decode cX0_seekLongestIfNotNext 23 = .ok (.iadd, 1) := by decide +kernel
theorem dX0_seekLongestIfNotNext_24 : decode cX0_seekLongestIfNotNext 24 = .ok (.iload_n 2, 1) := by decide +kernel
theorem dX0_seekLongestIfNotNext_25 : decode cX0_seekLongestIfNotNext 25 = .ok (.iconst 1, 1) := by decide +kernel
theorem dX0_seekLongestIfNotNext_26 : decode cX0_seekLongestIfNotNext 26 = .ok (.iadd, 1) := by decide +kernel
theorem dX0_seekLongestIfNotNext_27 : decode cX0_seekLongestIfNotNext 27 = .ok (.invokevirtual 99, 3) := by decide +kernel
theorem dX0_seekLongestIfNotNext_30 : decode cX0_seekLongestIfNotNext 30 = .ok (.aload_n 0, 1) := by decide +kernel
theorem dX0_seekLongestIfNotNext_31 : decode cX0_seekLongestIfNotNext 31 = .ok (.invokevirtual 103, 3) := by decide +kernel
theorem dX0_seekLongestIfNotNext_34 : decode cX0_seekLongestIfNotNext 34 = .ok (.istore 4, 2) := by decide +kernel
theorem dX0_seekLongestIfNotNext_36 : decode cX0_seekLongestIfNotNext 36 = .ok (.aload_n 0, 1) := by decide +kernel
theorem dX0_seekLongestIfNotNext_37 : decode cX0_seekLongestIfNotNext 37 = .ok (.iload 4, 2) := by decide +kernel
theorem dX0_seekLongestIfNotNext_39 : decode cX0_seekLongestIfNotNext 39 = .ok (.ifCond .eq 7, 3) := by decide +kernel
theorem dX0_seekLongestIfNotNext_42 : decode cX0_seekLongestIfNotNext 42 = .ok (.iconst 0, 1) := by decide +kernel
theorem dX0_seekLongestIfNotNext_43 : decode cX0_seekLongestIfNotNext 43 = .ok (.goto 4, 3) := by decide +kernel
theorem dX0_seekLongestIfNotNext_46 : decode cX0_seekLongestIfNotNext 46 = .ok (.iload_n 2, 1) := by decide +kernel
theorem dX0_seekLongestIfNotNext_47 : decode cX0_seekLongestIfNotNext 47 = .ok (.putfield 46, 3) := by decide +kernel
theorem dX0_seekLongestIfNotNext_50 : decode cX0_seekLongestIfNotNext 50 = .ok (.aload_n 0, 1) := by decide +kernel
theorem dX0_seekLongestIfNotNext_51 : decode cX0_seekLongestIfNotNext 51 = .ok (.iload 4, 2) := by decide +kernel
theorem dX0_seekLongestIfNotNext_53 : decode cX0_seekLongestIfNotNext 53 = .ok (.ifCond .eq 7, 3) := by decide +kernel
theorem dX0_seekLongestIfNotNext_56 : decode cX0_seekLongestIfNotNext 56 = .ok (.iconst 0, 1) := by decide +kernel
theorem dX0_seekLongestIfNotNext_57 : decode cX0_seekLongestIfNotNext 57 = .ok (.goto 4, 3) := by decide +kernel
theorem dX0_seekLongestIfNotNext_60 : decode cX0_seekLongestIfNotNext 60 = .ok (.iload_n 3, 1) := by decide +kernel
theorem dX0_seekLongestIfNotNext_61 : decode cX0_seekLongestIfNotNext 61 = .ok (.putfield 49, 3) := by decide +kernel
theorem dX0_seekLongestIfNotNext_64 : decode cX0_seekLongestIfNotNext 64 = .ok (.return_, 1) := by decide +kernel
theorem dX0_seekLongest_0 : decode cX0_seekLongest 0 = .ok (.aload_n 0, 1) := by decide +kernel
theorem dX0_seekLongest_1 : decode cX0_seekLongest 1 = .ok (.iload_n 1, 1) := by decide +kernel
theorem dX0_seekLongest_2 : decode cX0_seekLongest 2 = .ok (.aload_n 0, 1) := by decide +kernel
theorem dX0_seekLongest_3 : decode cX0_seekLongest 3 = .ok (.getfield 56, 3) := by decide +kernel
theorem dX0_seekLongest_6 : decode cX0_seekLongest 6 = .ok (.getfield 69, 3) := by decide +kernel
theorem dX0_seekLongest_9 : decode cX0_seekLongest 9 = .ok (.invokevirtual 99, 3) := by decide +kernel
theorem dX0_seekLongest_12 : decode cX0_seekLongest 12 = .ok (.iload_n 1, 1) := by decide +kernel
theorem dX0_seekLongest_13 : decode cX0_seekLongest 13 = .ok (.istore_n 2, 1) := by decide +kernel
theorem dX0_seekLongest_14 : decode cX0_seekLongest 14 = .ok (.iload_n 2, 1) := by decide +kernel
theorem dX0_seekLongest_15 : decode cX0_seekLongest 15 = .ok (.ifCond .le 16, 3) := by decide +kernel
theorem dX0_seekLongest_18 : decode cX0_seekLongest 18 = .ok (.aload_n 0, 1) := by decide +kernel
theorem dX0_seekLongest_19 : decode cX0_seekLongest 19 = .ok (.invokevirtual 103, 3) := by decide +kernel
theorem dX0_seekLongest_22 : decode cX0_seekLongest 22 = .ok (.ifCond .eq 9, 3) := by decide +kernel
theorem dX0_seekLongest_25 : decode cX0_seekLongest 25 = .ok (.iinc 2 (-1), 3) := by decide +kernel
theorem dX0_seekLongest_28 : decode cX0_seekLongest 28 = .ok (.goto (-14), 3) := by decide +kernel
theorem dX0_seekLongest_31 : decode cX0_seekLongest 31 = .ok (.return_, 1) := by decide +kernel
theorem dX0_matchesAt_0 : decode cX0_matchesAt 0 = .ok (.aload_n 0, 1) := by decide +kernel
theorem dX0_matchesAt_1 : decode cX0_matchesAt 1 = .ok (.iload_n 1, 1) := by decide +kernel
theorem dX0_matchesAt_2 : decode cX0_matchesAt 2 = .ok (.aload_n 0, 1) := by decide +kernel
theorem dX0_matchesAt_3 : decode cX0_matchesAt 3 = .ok (.getfield 56, 3) := by decide +kernel
theorem dX0_matchesAt_6 : decode cX0_matchesAt 6 = .ok (.getfield 69, 3) := by decide +kernel
theorem dX0_matchesAt_9 : decode cX0_matchesAt 9 = .ok (.invokevirtual 99, 3) := by decide +kernel
theorem dX0_matchesAt_12 : decode cX0_matchesAt 12 = .ok (.iconst 0, 1) := by decide +kernel
theorem dX0_matchesAt_13 : decode cX0_matchesAt 13 = .ok (.istore_n 2, 1) := by decide +kernel
theorem dX0_matchesAt_14 : decode cX0_matchesAt 14 = .ok (.iload_n 1, 1) := by decide +kernel
theorem dX0_matchesAt_15 : decode cX0_matchesAt 15 = .ok (.istore_n 3, 1) := by decide +kernel
theorem dX0_matchesAt_16 : decode cX0_matchesAt 16 = .ok (.iload_n 3, 1) := by decide +kernel
theorem dX0_matchesAt_17 : decode cX0_matchesAt 17 = .ok (.ifCond .le 64, 3) := by decide +kernel
theorem dX0_matchesAt_20 : decode cX0_matchesAt 20 = .ok (.aload_n 0, 1) := by decide +kernel
theorem dX0_matchesAt_21 : decode cX0_matchesAt 21 = .ok (.getfield 34, 3) := by decide +kernel
theorem dX0_matchesAt_24 : decode cX0_matchesAt 24 = .ok (.aload_n 0, 1) := by decide +kernel
theorem dX0_matchesAt_25 : decode cX0_matchesAt 25 = .ok (.getfield 37, 3) := by decide +kernel
theorem dX0_matchesAt_28 : decode cX0_matchesAt 28 = .ok (.if_icmp .lt 53, 3) := by decide +kernel
theorem dX0_matchesAt_31 : decode cX0_matchesAt 31 = .ok (.aload_n 0, 1) := by decide +kernel
theorem dX0_matchesAt_32 : decode cX0_matchesAt 32 = .ok (.iload_n 1, 1) := by decide +kernel
theorem dX0_matchesAt_33 : decode cX0_matchesAt 33 = .ok (.iload_n 1, 1) := by decide +kernel
theorem dX0_matchesAt_34 : decode cX0_matchesAt 34 = .ok (.aload_n 0, 1) := by decide +kernel
theorem dX0_matchesAt_35 : decode cX0_matchesAt 35 = .ok (.getfield 34, 3) := by decide +kernel
theorem dX0_matchesAt_38 : decode cX0_matchesAt 38 = .ok (.isub, 1) := by decide +kernel
theorem dX0_matchesAt_39 : decode cX0_matchesAt 39 = .ok (.aload_n 0, 1) := by decide +kernel
theorem dX0_matchesAt_40 : decode cX0_matchesAt 40 = .ok (.getfield 56, 3) := by decide +kernel
theorem dX0_matchesAt_43 : decode cX0_matchesAt 43 = .ok (.getfield 69, 3) := by decide +kernel
theorem dX0_matchesAt_46 : decode cX0_matchesAt 46 = .ok (.invokevirtual 113, 3) := by decide +kernel
theorem dX0_matchesAt_49 : decode cX0_matchesAt 49 = .ok (.aload_n 0, 1) := by decide +kernel
theorem dX0_matchesAt_50 : decode cX0_matchesAt 50 = .ok (.getfield 56, 3) := by decide +kernel
theorem dX0_matchesAt_53 : decode cX0_matchesAt 53 = .ok (.getfield 69, 3) := by decide +kernel
theorem dX0_matchesAt_56 : decode cX0_matchesAt 56 = .ok (.if_icmp .ne 6, 3) := by decide +kernel
theorem dX0_matchesAt_59 : decode cX0_matchesAt 59 = .ok (.iinc 2 1, 3) := by decide +kernel
theorem dX0_matchesAt_62 : decode cX0_matchesAt 62 = .ok (.aload_n 0, 1) := by decide +kernel
theorem dX0_matchesAt_63 : decode cX0_matchesAt 63 = .ok (.aload_n 0, 1) := by decide +kernel
theorem dX0_matchesAt_64 : decode cX0_matchesAt 64 = .ok (.getfield 15, 3) := by decide +kernel
theorem dX0_matchesAt_67 : decode cX0_matchesAt 67 = .ok (.aload_n 0, 1) := by decide +kernel
theorem dX0_matchesAt_68 : decode cX0_matchesAt 68 = .ok (.getfield 34, 3) := by decide +kernel
theorem dX0_matchesAt_71 : decode cX0_matchesAt 71 = .ok (.iaload, 1) := by decide +kernel
theorem dX0_matchesAt_72 : decode cX0_matchesAt 72 = .ok (.putfield 34, 3) := by decide +kernel
theorem dX0_matchesAt_75 : decode cX0_matchesAt 75 = .ok (.iinc 3 (-1), 3) := by decide +kernel
theorem dX0_matchesAt_78 : decode cX0_matchesAt 78 = .ok (.goto (-62), 3) := by decide +kernel
theorem dX0_matchesAt_81 : decode cX0_matchesAt 81 = .ok (.iload_n 2, 1) := by decide +kernel
theorem dX0_matchesAt_82 : decode cX0_matchesAt 82 = .ok (.ireturn, 1) := by decide +kernel
theorem dX0_expectAtMost_0 : decode cX0_expectAtMost 0 = .ok (.aload_n 0, 1) := by decide +kernel
theorem dX0_expectAtMost_1 : decode cX0_expectAtMost 1 = .ok (.aload_n 0, 1) := by decide +kernel
theorem dX0_expectAtMost_2 : decode cX0_expectAtMost 2 = .ok (.getfield 40, 3) := by decide +kernel
theorem dX0_expectAtMost_5 : decode cX0_expectAtMost 5 = .ok (.iload_n 1, 1) := by decide +kernel
theorem dX0_expectAtMost_6 : decode cX0_expectAtMost 6 = .ok (.invokestatic 132, 3) := by decide +kernel
theorem dX0_expectAtMost_9 : decode cX0_expectAtMost 9 = .ok (.putfield 40, 3) := by decide +kernel
theorem dX0_expectAtMost_12 : decode cX0_expectAtMost 12 = .ok (.return_, 1) := by decide +kernel
