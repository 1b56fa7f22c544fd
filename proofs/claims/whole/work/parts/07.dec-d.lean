theorem dX2_init_0 : decode cX2_init 0 = .ok (.aload_n 0, 1) := by decide +kernel
theorem dX2_init_1 : decode cX2_init 1 = .ok (.invokespecial 3, 3) := by decide +kernel
theorem dX2_init_4 : decode cX2_init 4 = .ok (.aload_n 0, 1) := by decide +kernel
theorem dX2_init_5 : decode cX2_init 5 = .ok (.sipush 512, 3) := by decide +kernel
theorem dX2_init_8 : decode cX2_init 8 = .ok (.newarray .int, 2) := by decide +kernel
theorem dX2_init_10 : decode cX2_init 10 = .ok (.putfield 9, 3) := by decide +kernel
theorem dX2_init_13 : decode cX2_init 13 = .ok (.aload_n 0, 1) := by decide +kernel
theorem dX2_init_14 : decode cX2_init 14 = .ok (.sipush 512, 3) := by decide +kernel
theorem dX2_init_17 : decode cX2_init 17 = .ok (.newarray .int, 2) := by decide +kernel
theorem dX2_init_19 : decode cX2_init 19 = .ok (.putfield 15, 3) := by decide +kernel
theorem dX2_init_22 : decode cX2_init 22 = .ok (.aload_n 0, 1) := by decide +kernel
theorem dX2_init_23 : decode cX2_init 23 = .ok (.sipush 512, 3) := by decide +kernel
theorem dX2_init_26 : decode cX2_init 26 = .ok (.newarray .int, 2) := by decide +kernel
theorem dX2_init_28 : decode cX2_init 28 = .ok (.putfield 18, 3) := by decide +kernel
theorem dX2_init_31 : decode cX2_init 31 = .ok (.aload_n 0, 1) := by decide +kernel
theorem dX2_init_32 : decode cX2_init 32 = .ok (.sipush 512, 3) := by decide +kernel
theorem dX2_init_35 : decode cX2_init 35 = .ok (.newarray .int, 2) := by decide +kernel
theorem dX2_init_37 : decode cX2_init 37 = .ok (.putfield 21, 3) := by decide +kernel
theorem dX2_init_40 : decode cX2_init 40 = .ok (.aload_n 0, 1) := by decide +kernel
theorem dX2_init_41 : decode cX2_init 41 = .ok (.iconst 0, 1) := by decide +kernel
theorem dX2_init_42 : decode cX2_init 42 = .ok (.putfield 24, 3) := by decide +kernel
theorem dX2_init_45 : decode cX2_init 45 = .ok (.aload_n 0, 1) := by decide +kernel
theorem dX2_init_46 : decode cX2_init 46 = .ok (.aload_n 1, 1) := by decide +kernel
theorem dX2_init_47 : decode cX2_init 47 = .ok (.putfield 28, 3) := by decide +kernel
theorem dX2_init_50 : decode cX2_init 50 = .ok (.aload_n 0, 1) := by decide +kernel
theorem dX2_init_51 : decode cX2_init 51 = .ok (.aload_n 2, 1) := by decide +kernel
theorem dX2_init_52 : decode cX2_init 52 = .ok (.putfield 32, 3) := by decide +kernel
theorem dX2_init_55 : decode cX2_init 55 = .ok (.aload_n 0, 1) := by decide +kernel
theorem dX2_init_56 : decode cX2_init 56 = .ok (.aload_n 3, 1) := by decide +kernel
theorem dX2_init_57 : decode cX2_init 57 = .ok (.putfield 36, 3) := by decide +kernel
theorem dX2_init_60 : decode cX2_init 60 = .ok (.return_, 1) := by decide +kernel
theorem dX1_init_0 : decode cX1_init 0 = .ok (.aload_n 0, 1) := by decide +kernel
theorem dX1_init_1 : decode cX1_init 1 = .ok (.invokespecial 3, 3) := by decide +kernel
theorem dX1_init_4 : decode cX1_init 4 = .ok (.aload_n 0, 1) := by decide +kernel
theorem dX1_init_5 : decode cX1_init 5 = .ok (.iconst 0, 1) := by decide +kernel
theorem dX1_init_6 : decode cX1_init 6 = .ok (.newarray .int, 2) := by decide +kernel
theorem dX1_init_8 : decode cX1_init 8 = .ok (.putfield 9, 3) := by decide +kernel
theorem dX1_init_11 : decode cX1_init 11 = .ok (.aload_n 0, 1) := by decide +kernel
theorem dX1_init_12 : decode cX1_init 12 = .ok (.iconst 0, 1) := by decide +kernel
theorem dX1_init_13 : decode cX1_init 13 = .ok (.newarray .int, 2) := by decide +kernel
theorem dX1_init_15 : decode cX1_init 15 = .ok (.putfield 15, 3) := by decide +kernel
theorem dX1_init_18 : decode cX1_init 18 = .ok (.aload_n 0, 1) := by decide +kernel
theorem dX1_init_19 : decode cX1_init 19 = .ok (.iconst 0, 1) := by decide +kernel
theorem dX1_init_20 : decode cX1_init 20 = .ok (.newarray .int, 2) := by decide +kernel
theorem dX1_init_22 : decode cX1_init 22 = .ok (.putfield 18, 3) := by decide +kernel
theorem dX1_init_25 : decode cX1_init 25 = .ok (.aload_n 0, 1) := by decide +kernel
theorem dX1_init_26 : decode cX1_init 26 = .ok (.iconst 0, 1) := by decide +kernel
theorem dX1_init_27 : decode cX1_init 27 = .ok (.putfield 21, 3) := by decide +kernel
theorem dX1_init_30 : decode cX1_init 30 = .ok (.aload_n 0, 1) := by decide +kernel
theorem dX1_init_31 : decode cX1_init 31 = .ok (.iconst 0, 1) := by decide +kernel
theorem dX1_init_32 : decode cX1_init 32 = .ok (.putfield 25, 3) := by decide +kernel
theorem dX1_init_35 : decode cX1_init 35 = .ok (.aload_n 0, 1) := by decide +kernel
theorem dX1_init_36 : decode cX1_init 36 = .ok (.iconst 0, 1) := by decide +kernel
theorem dX1_init_37 : decode cX1_init 37 = .ok (.putfield 28, 3) := by decide +kernel
theorem dX1_init_40 : decode cX1_init 40 = .ok (.aload_n 0, 1) := by decide +kernel
theorem dX1_init_41 : decode cX1_init 41 = .ok (.iconst 0, 1) := by decide +kernel
theorem dX1_init_42 : decode cX1_init 42 = .ok (.putfield 31, 3) := by decide +kernel
theorem dX1_init_45 : decode cX1_init 45 = .ok (.aload_n 0, 1) := by decide +kernel
theorem dX1_init_46 : decode cX1_init 46 = .ok (.iconst 0, 1) := by decide +kernel
theorem dX1_init_47 : decode cX1_init 47 = .ok (.putfield 34, 3) := by decide +kernel
theorem dX1_init_50 : decode cX1_init 50 = .ok (.aload_n 0, 1) := by decide +kernel
theorem dX1_init_51 : decode cX1_init 51 = .ok (.iconst 0, 1) := by decide +kernel
theorem dX1_init_52 : decode cX1_init 52 = .ok (.putfield 37, 3) := by decide +kernel
theorem dX1_init_55 : decode cX1_init 55 = .ok (.aload_n 0, 1) := by decide +kernel
theorem dX1_init_56 : decode cX1_init 56 = .ok (.iconst 0, 1) := by decide +kernel
theorem dX1_init_57 : decode cX1_init 57 = .ok (.putfield 40, 3) := by decide +kernel
theorem dX1_init_60 : decode cX1_init 60 = .ok (.aload_n 0, 1) := by decide +kernel
theorem dX1_init_61 : decode cX1_init 61 = .ok (.iconst 0, 1) := by decide +kernel
theorem dX1_init_62 : decode cX1_init 62 = .ok (.putfield 43, 3) := by decide +kernel
theorem dX1_init_65 : decode cX1_init 65 = .ok (.aload_n 0, 1) := by decide +kernel
theorem dX1_init_66 : decode cX1_init 66 = .ok (.iconst 0, 1) := by decide +kernel
theorem dX1_init_67 : decode cX1_init 67 = .ok (.newarray .byte, 2) := by decide +kernel
theorem dX1_init_69 : decode cX1_init 69 = .ok (.putfield 46, 3) := by decide +kernel
theorem dX1_init_72 : decode cX1_init 72 = .ok (.aload_n 0, 1) := by decide +kernel
theorem dX1_init_73 : decode cX1_init 73 = .ok (.aload_n 1, 1) := by decide +kernel
theorem dX1_init_74 : decode cX1_init 74 = .ok (.putfield 50, 3) := by decide +kernel
theorem dX1_init_77 : decode cX1_init 77 = .ok (.aload_n 0, 1) := by decide +kernel
theorem dX1_init_78 : decode cX1_init 78 = .ok (.aload_n 2, 1) := by decide +kernel
theorem dX1_init_79 : decode cX1_init 79 = .ok (.putfield 54, 3) := by decide +kernel
theorem dX1_init_82 : decode cX1_init 82 = .ok (.return_, 1) := by decide +kernel
theorem dX1_forget_0 : decode cX1_forget 0 = .ok (.aload_n 0, 1) := by decide +kernel
theorem dX1_forget_1 : decode cX1_forget 1 = .ok (.iconst 0, 1) := by decide +kernel
theorem dX1_forget_2 : decode cX1_forget 2 = .ok (.putfield 21, 3) := by decide +kernel
theorem dX1_forget_5 : decode cX1_forget 5 = .ok (.aload_n 0, 1) := by decide +kernel
theorem dX1_forget_6 : decode cX1_forget 6 = .ok (.iconst 0, 1) := by decide +kernel
theorem dX1_forget_7 : decode cX1_forget 7 = .ok (.putfield 25, 3) := by decide +kernel
theorem dX1_forget_10 : decode cX1_forget 10 = .ok (.aload_n 0, 1) := by decide +kernel
theorem dX1_forget_11 : decode cX1_forget 11 = .ok (.iconst 0, 1) := by decide +kernel
theorem dX1_forget_12 : decode cX1_forget 12 = .ok (.putfield 28, 3) := by decide +kernel
theorem dX1_forget_15 : decode cX1_forget 15 = .ok (.aload_n 0, 1) := by decide +kernel
theorem dX1_forget_16 : decode cX1_forget 16 = .ok (.iconst 0, 1) := by decide +kernel
theorem dX1_forget_17 : decode cX1_forget 17 = .ok (.putfield 31, 3) := by decide +kernel
theorem dX1_forget_20 : decode cX1_forget 20 = .ok (.aload_n 0, 1) := by decide +kernel
theorem dX1_forget_21 : decode cX1_forget 21 = .ok (.iconst 0, 1) := by decide +kernel
theorem dX1_forget_22 : decode cX1_forget 22 = .ok (.putfield 34, 3) := by decide +kernel
theorem dX1_forget_25 : decode cX1_forget 25 = .ok (.aload_n 0, 1) := by decide +kernel
theorem dX1_forget_26 : decode cX1_forget 26 = .ok (.iconst 0, 1) := by decide +kernel
theorem dX1_forget_27 : decode cX1_forget 27 = .ok (.putfield 37, 3) := by decide +kernel
theorem dX1_forget_30 : decode cX1_forget 30 = .ok (.aload_n 0, 1) := by decide +kernel
theorem dX1_forget_31 : decode cX1_forget 31 = .ok (.iconst 0, 1) := by decide +kernel
theorem dX1_forget_32 : decode cX1_forget 32 = .ok (.putfield 40, 3) := by decide +kernel
theorem dX1_forget_35 : decode cX1_forget 35 = .ok (.aload_n 0, 1) := by decide +kernel
theorem dX1_forget_36 : decode cX1_forget 36 = .ok (.iconst 0, 1) := by decide +kernel
theorem dX1_forget_37 : decode cX1_forget 37 = .ok (.putfield 43, 3) := by decide +kernel
theorem dX1_forget_40 : decode cX1_forget 40 = .ok (.return_, 1) := by decide +kernel
theorem dX1_begin_0 : decode cX1_begin 0 = .ok (.aload_n 0, 1) := by decide +kernel
theorem dX1_begin_1 : decode cX1_begin 1 = .ok (.invokevirtual 58, 3) := by decide +kernel
theorem dX1_begin_4 : decode cX1_begin 4 = .ok (.aload_n 0, 1) := by decide +kernel
theorem dX1_begin_5 : decode cX1_begin 5 = .ok (.aload_n 0, 1) := by decide +kernel
theorem dX1_begin_6 : decode cX1_begin 6 = .ok (.getfield 50, 3) := by decide +kernel
theorem dX1_begin_9 : decode cX1_begin 9 = .ok (.getfield 61, 3) := by decide +kernel
theorem dX1_begin_12 : decode cX1_begin 12 = .ok (.putfield 40, 3) := by decide +kernel
theorem dX1_begin_15 : decode cX1_begin 15 = .ok (.aload_n 0, 1) := by decide +kernel
theorem dX1_begin_16 : decode cX1_begin 16 = .ok (.aload_n 0, 1) := by decide +kernel
theorem dX1_begin_17 : decode cX1_begin 17 = .ok (.getfield 50, 3) := by decide +kernel
theorem dX1_begin_20 : decode cX1_begin 20 = .ok (.getfield 66, 3) := by decide +kernel
theorem dX1_begin_23 : decode cX1_begin 23 = .ok (.putfield 43, 3) := by decide +kernel
theorem dX1_begin_26 : decode cX1_begin 26 = .ok (.aload_n 0, 1) := by decide +kernel
theorem dX1_begin_27 : decode cX1_begin 27 = .ok (.getfield 40, 3) := by decide +kernel
theorem dX1_begin_30 : decode cX1_begin 30 = .ok (.invokestatic 69, 3) := by decide +kernel
theorem dX1_begin_33 : decode cX1_begin 33 = .ok (.iconst 3, 1) := by decide +kernel
theorem dX1_begin_34 : decode cX1_begin 34 = .ok (.idiv, 1) := by decide +kernel
theorem dX1_begin_35 : decode cX1_begin 35 = .ok (.istore_n 1, 1) := by decide +kernel
theorem dX1_begin_36 : decode cX1_begin 36 = .ok (.iload_n 1, 1) := by decide +kernel
theorem dX1_begin_37 : decode cX1_begin 37 = .ok (.aload_n 0, 1) := by decide +kernel
theorem dX1_begin_38 : decode cX1_begin 38 = .ok (.getfield 15, 3) := by decide +kernel
theorem dX1_begin_41 : decode cX1_begin 41 = .ok (.arraylength, 1) := by decide +kernel
theorem dX1_begin_42 : decode cX1_begin 42 = .ok (.if_icmp .le 24, 3) := by decide +kernel
theorem dX1_begin_45 : decode cX1_begin 45 = .ok (.aload_n 0, 1) := by decide +kernel
theorem dX1_begin_46 : decode cX1_begin 46 = .ok (.iload_n 1, 1) := by decide +kernel
theorem dX1_begin_47 : decode cX1_begin 47 = .ok (.newarray .int, 2) := by decide +kernel
theorem dX1_begin_49 : decode cX1_begin 49 = .ok (.putfield 9, 3) := by decide +kernel
theorem dX1_begin_52 : decode cX1_begin 52 = .ok (.aload_n 0, 1) := by decide +kernel
theorem dX1_begin_53 : decode cX1_begin 53 = .ok (.iload_n 1, 1) := by decide +kernel
theorem dX1_begin_54 : decode cX1_begin 54 = .ok (.newarray .int, 2) := by decide +kernel
theorem dX1_begin_56 : decode cX1_begin 56 = .ok (.putfield 15, 3) := by decide +kernel
theorem dX1_begin_59 : decode cX1_begin 59 = .ok (.aload_n 0, 1) := by decide +kernel
theorem dX1_begin_60 : decode cX1_begin 60 = .ok (.iload_n 1, 1) := by decide +kernel
theorem dX1_begin_61 : decode cX1_begin 61 = .ok (.newarray .int, 2) := by decide +kernel
theorem dX1_begin_63 : decode cX1_begin 63 = .ok (.putfield 18, 3) := by decide +kernel
theorem dX1_begin_66 : decode cX1_begin 66 = .ok (.return_, 1) := by decide +kernel
theorem dX2_make_0 : decode cX2_make 0 = .ok (.aload_n 0, 1) := by decide +kernel
theorem dX2_make_1 : decode cX2_make 1 = .ok (.getfield 28, 3) := by decide +kernel
theorem dX2_make_4 : decode cX2_make 4 = .ok (.getfield 40, 3) := by decide +kernel
theorem dX2_make_7 : decode cX2_make 7 = .ok (.aload_n 0, 1) := by decide +kernel
theorem dX2_make_8 : decode cX2_make 8 = .ok (.getfield 28, 3) := by decide +kernel
theorem dX2_make_11 : decode cX2_make 11 = .ok (.getfield 45, 3) := by decide +kernel
theorem dX2_make_14 : decode cX2_make 14 = .ok (.isub, 1) := by decide +kernel
theorem dX2_make_15 : decode cX2_make 15 = .ok (.istore_n 1, 1) := by decide +kernel
theorem dX2_make_16 : decode cX2_make 16 = .ok (.aload_n 0, 1) := by decide +kernel
theorem dX2_make_17 : decode cX2_make 17 = .ok (.iload_n 1, 1) := by decide +kernel
theorem dX2_make_18 : decode cX2_make 18 = .ok (.iconst 1, 1) := by decide +kernel
theorem dX2_make_19 : decode cX2_make 19 = .ok (.iadd, 1) := by decide +kernel
theorem dX2_make_20 : decode cX2_make 20 = .ok (.invokevirtual 48, 3) := by decide +kernel
theorem dX2_make_23 : decode cX2_make 23 = .ok (.aload_n 0, 1) := by decide +kernel
theorem dX2_make_24 : decode cX2_make 24 = .ok (.iconst 0, 1) := by decide +kernel
theorem dX2_make_25 : decode cX2_make 25 = .ok (.putfield 24, 3) := by decide +kernel
theorem dX2_make_28 : decode cX2_make 28 = .ok (.aload_n 0, 1) := by decide +kernel
theorem dX2_make_29 : decode cX2_make 29 = .ok (.getfield 9, 3) := by decide +kernel
theorem dX2_make_32 : decode cX2_make 32 = .ok (.iload_n 1, 1) := by decide +kernel
theorem dX2_make_33 : decode cX2_make 33 = .ok (.iconst 0, 1) := by decide +kernel
theorem dX2_make_34 : decode cX2_make 34 = .ok (.iastore, 1) := by decide +kernel
theorem dX2_make_35 : decode cX2_make 35 = .ok (.aload_n 0, 1) := by decide +kernel
theorem dX2_make_36 : decode cX2_make 36 = .ok (.getfield 32, 3) := by decide +kernel
theorem dX2_make_39 : decode cX2_make 39 = .ok (.aload_n 0, 1) := by decide +kernel
theorem dX2_make_40 : decode cX2_make 40 = .ok (.getfield 28, 3) := by decide +kernel
theorem dX2_make_43 : decode cX2_make 43 = .ok (.getfield 40, 3) := by decide +kernel
theorem dX2_make_46 : decode cX2_make 46 = .ok (.invokevirtual 52, 3) := by decide +kernel
theorem dX2_make_49 : decode cX2_make 49 = .ok (.aload_n 0, 1) := by decide +kernel
theorem dX2_make_50 : decode cX2_make 50 = .ok (.getfield 28, 3) := by decide +kernel
theorem dX2_make_53 : decode cX2_make 53 = .ok (.getfield 45, 3) := by decide +kernel
theorem dX2_make_56 : decode cX2_make 56 = .ok (.isub, 1) := by decide +kernel
theorem dX2_make_57 : decode cX2_make 57 = .ok (.istore_n 2, 1) := by decide +kernel
theorem dX2_make_58 : decode cX2_make 58 = .ok (.ldc 58, 2) := by decide +kernel
theorem dX2_make_60 : decode cX2_make 60 = .ok (.istore_n 3, 1) := by decide +kernel
theorem dX2_make_61 : decode cX2_make 61 = .ok (.iload_n 1, 1) := by decide +kernel
theorem dX2_make_62 : decode cX2_make 62 = .ok (.iconst 1, 1) := by decide +kernel
theorem dX2_make_63 : decode cX2_make 63 = .ok (.isub, 1) := by decide +kernel
theorem dX2_make_64 : decode cX2_make 64 = .ok (.istore 4, 2) := by decide +kernel
theorem dX2_make_66 : decode cX2_make 66 = .ok (.iload 4, 2) := by decide +kernel
theorem dX2_make_68 : decode cX2_make 68 = .ok (.ifCond .lt 69, 3) := by decide +kernel
theorem dX2_make_71 : decode cX2_make 71 = .ok (.iload 4, 2) := by decide +kernel
theorem dX2_make_73 : decode cX2_make 73 = .ok (.aload_n 0, 1) := by decide +kernel
theorem dX2_make_74 : decode cX2_make 74 = .ok (.getfield 32, 3) := by decide +kernel
theorem dX2_make_77 : decode cX2_make 77 = .ok (.getfield 59, 3) := by decide +kernel
theorem dX2_make_80 : decode cX2_make 80 = .ok (.iadd, 1) := by decide +kernel
theorem dX2_make_81 : decode cX2_make 81 = .ok (.iload_n 1, 1) := by decide +kernel
theorem dX2_make_82 : decode cX2_make 82 = .ok (.if_icmp .gt 17, 3) := by decide +kernel
theorem dX2_make_85 : decode cX2_make 85 = .ok (.aload_n 0, 1) := by decide +kernel
theorem dX2_make_86 : decode cX2_make 86 = .ok (.iload 4, 2) := by decide +kernel
theorem dX2_make_88 : decode cX2_make 88 = .ok (.aload_n 0, 1) := by decide +kernel
theorem dX2_make_89 : decode cX2_make 89 = .ok (.getfield 32, 3) := by decide +kernel
theorem dX2_make_92 : decode cX2_make 92 = .ok (.getfield 59, 3) := by decide +kernel
theorem dX2_make_95 : decode cX2_make 95 = .ok (.iadd, 1) := by decide +kernel
theorem dX2_make_96 : decode cX2_make 96 = .ok (.invokevirtual 62, 3) := by decide +kernel
theorem dX2_make_99 : decode cX2_make 99 = .ok (.aload_n 0, 1) := by decide +kernel
theorem dX2_make_100 : decode cX2_make 100 = .ok (.iload 4, 2) := by decide +kernel
theorem dX2_make_102 : decode cX2_make 102 = .ok (.invokevirtual 65, 3) := by decide +kernel
theorem dX2_make_105 : decode cX2_make 105 = .ok (.aload_n 0, 1) := by decide +kernel
theorem dX2_make_106 : decode cX2_make 106 = .ok (.iload 4, 2) := by decide +kernel
theorem dX2_make_108 : decode cX2_make 108 = .ok (.iload_n 3, 1) := by decide +kernel
theorem dX2_make_109 : decode cX2_make 109 = .ok (.invokevirtual 68, 3) := by decide +kernel
theorem dX2_make_112 : decode cX2_make 112 = .ok (.iload 4, 2) := by decide +kernel
theorem dX2_make_114 : decode cX2_make 114 = .ok (.iload_n 2, 1) := by decide +kernel
theorem dX2_make_115 : decode cX2_make 115 = .ok (.if_icmp .gt 13, 3) := by decide +kernel
theorem dX2_make_118 : decode cX2_make 118 = .ok (.aload_n 0, 1) := by decide +kernel
theorem dX2_make_119 : decode cX2_make 119 = .ok (.getfield 36, 3) := by decide +kernel
theorem dX2_make_122 : decode cX2_make 122 = .ok (.getfield 72, 3) := by decide +kernel
theorem dX2_make_125 : decode cX2_make 125 = .ok (.goto 5, 3) := by decide +kernel
theorem dX2_make_128 : decode cX2_make 128 = .ok (.ldc 58, 2) := by decide +kernel
theorem dX2_make_130 : decode cX2_make 130 = .ok (.istore_n 3, 1) := by decide +kernel
theorem dX2_make_131 : decode cX2_make 131 = .ok (.iinc 4 (-1), 3) := by decide +kernel
theorem dX2_make_134 : decode cX2_make 134 = .ok (.goto (-68), 3) := by decide +kernel
theorem dX2_make_137 : decode cX2_make 137 = .ok (.return_, 1) := by decide +kernel
theorem dX2_makeRoom_0 : decode cX2_makeRoom 0 = .ok (.iload_n 1, 1) := by decide +kernel
theorem dX2_makeRoom_1 : decode cX2_makeRoom 1 = .ok (.aload_n 0, 1) := by decide +kernel
theorem dX2_makeRoom_2 : decode cX2_makeRoom 2 = .ok (.getfield 9, 3) := by decide +kernel
theorem dX2_makeRoom_5 : decode cX2_makeRoom 5 = .ok (.arraylength, 1) := by decide +kernel
theorem dX2_makeRoom_6 : decode cX2_makeRoom 6 = .ok (.if_icmp .le 42, 3) := by decide +kernel
theorem dX2_makeRoom_9 : decode cX2_makeRoom 9 = .ok (.iload_n 1, 1) := by decide +kernel
theorem dX2_makeRoom_10 : decode cX2_makeRoom 10 = .ok (.invokestatic 76, 3) := by decide +kernel
theorem dX2_makeRoom_13 : decode cX2_makeRoom 13 = .ok (.sipush 8193, 3) := by decide +kernel
theorem dX2_makeRoom_16 : decode cX2_makeRoom 16 = .ok (.invokestatic 79, 3) := by decide +kernel
theorem dX2_makeRoom_19 : decode cX2_makeRoom 19 = .ok (.istore_n 2, 1) := by decide +kernel
theorem dX2_makeRoom_20 : decode cX2_makeRoom 20 = .ok (.aload_n 0, 1) := by decide +kernel
theorem dX2_makeRoom_21 : decode cX2_makeRoom 21 = .ok (.iload_n 2, 1) := by decide +kernel
theorem dX2_makeRoom_22 : decode cX2_makeRoom 22 = .ok (.newarray .int, 2) := by decide +kernel
theorem dX2_makeRoom_24 : decode cX2_makeRoom 24 = .ok (.putfield 9, 3) := by decide +kernel
theorem dX2_makeRoom_27 : decode cX2_makeRoom 27 = .ok (.aload_n 0, 1) := by decide +kernel
theorem dX2_makeRoom_28 : decode cX2_makeRoom 28 = .ok (.iload_n 2, 1) := by decide +kernel
theorem dX2_makeRoom_29 : decode cX2_makeRoom 29 = .ok (.newarray .int, 2) := by decide +kernel
theorem dX2_makeRoom_31 : decode cX2_makeRoom 31 = .ok (.putfield 15, 3) := by decide +kernel
theorem dX2_makeRoom_34 : decode cX2_makeRoom 34 = .ok (.aload_n 0, 1) := by decide +kernel
theorem dX2_makeRoom_35 : decode cX2_makeRoom 35 = .ok (.iload_n 2, 1) := by decide +kernel
theorem dX2_makeRoom_36 : decode cX2_makeRoom 36 = .ok (.newarray .int, 2) := by decide +kernel
theorem dX2_makeRoom_38 : decode cX2_makeRoom 38 = .ok (.putfield 18, 3) := by decide +kernel
theorem dX2_makeRoom_41 : decode cX2_makeRoom 41 = .ok (.aload_n 0, 1) := by decide +kernel
theorem dX2_makeRoom_42 : decode cX2_makeRoom 42 = .ok (.iload_n 2, 1) := by decide +kernel
theorem dX2_makeRoom_43 : decode cX2_makeRoom 43 = .ok (.newarray .int, 2) := by decide +kernel
theorem dX2_makeRoom_45 : decode cX2_makeRoom 45 = .ok (.putfield 21, 3) := by decide +kernel
theorem dX2_makeRoom_48 : decode cX2_makeRoom 48 = .ok (.return_, 1) := by decide +kernel
theorem dX2_addEnd_0 : decode cX2_addEnd 0 = .ok (.aload_n 0, 1) := by decide +kernel
theorem dX2_addEnd_1 : decode cX2_addEnd 1 = .ok (.getfield 24, 3) := by decide +kernel
theorem dX2_addEnd_4 : decode cX2_addEnd 4 = .ok (.ifCond .le 41, 3) := by decide +kernel
theorem dX2_addEnd_7 : decode cX2_addEnd 7 = .ok (.aload_n 0, 1) := by decide +kernel
theorem dX2_addEnd_8 : decode cX2_addEnd 8 = .ok (.getfield 9, 3) := by decide +kernel
theorem dX2_addEnd_11 : decode cX2_addEnd 11 = .ok (.aload_n 0, 1) := by decide +kernel
theorem dX2_addEnd_12 : decode cX2_addEnd 12 = .ok (.getfield 21, 3) := by decide +kernel
theorem dX2_addEnd_15 : decode cX2_addEnd 15 = .ok (.aload_n 0, 1) := by decide +kernel
theorem dX2_addEnd_16 : decode cX2_addEnd 16 = .ok (.getfield 24, 3) := by decide +kernel
theorem dX2_addEnd_19 : decode cX2_addEnd 19 = .ok (.iconst 1, 1) := by decide +kernel
theorem dX2_addEnd_20 : decode cX2_addEnd 20 = .ok (.isub, 1) := by decide +kernel
theorem dX2_addEnd_21 : decode cX2_addEnd 21 = .ok (.iaload, 1) := by decide +kernel
theorem dX2_addEnd_22 : decode cX2_addEnd 22 = .ok (.iaload, 1) := by decide +kernel
theorem dX2_addEnd_23 : decode cX2_addEnd 23 = .ok (.aload_n 0, 1) := by decide +kernel
theorem dX2_addEnd_24 : decode cX2_addEnd 24 = .ok (.getfield 9, 3) := by decide +kernel
theorem dX2_addEnd_27 : decode cX2_addEnd 27 = .ok (.iload_n 1, 1) := by decide +kernel
theorem dX2_addEnd_28 : decode cX2_addEnd 28 = .ok (.iaload, 1) := by decide +kernel
theorem dX2_addEnd_29 : decode cX2_addEnd 29 = .ok (.if_icmp .le 16, 3) := by decide +kernel
theorem dX2_addEnd_32 : decode cX2_addEnd 32 = .ok (.aload_n 0, 1) := by decide +kernel
theorem dX2_addEnd_33 : decode cX2_addEnd 33 = .ok (.dup, 1) := by decide +kernel
theorem dX2_addEnd_34 : decode cX2_addEnd 34 = .ok (.getfield 24, 3) := by decide +kernel
theorem dX2_addEnd_37 : decode cX2_addEnd 37 = .ok (.iconst 1, 1) := by decide +kernel
theorem dX2_addEnd_38 : decode cX2_addEnd 38 = .ok (.isub, 1) := by decide +kernel
theorem dX2_addEnd_39 : decode cX2_addEnd 39 = .ok (.putfield 24, 3) := by decide +kernel
theorem dX2_addEnd_42 : decode cX2_addEnd 42 = .ok (.goto (-42), 3) := by decide +kernel
theorem dX2_addEnd_45 : decode cX2_addEnd 45 = .ok (.aload_n 0, 1) := by decide +kernel
theorem dX2_addEnd_46 : decode cX2_addEnd 46 = .ok (.getfield 21, 3) := by decide +kernel
theorem dX2_addEnd_49 : decode cX2_addEnd 49 = .ok (.aload_n 0, 1) := by decide +kernel
theorem dX2_addEnd_50 : decode cX2_addEnd 50 = .ok (.getfield 24, 3) := by decide +kernel
theorem dX2_addEnd_53 : decode cX2_addEnd 53 = .ok (.iload_n 1, 1) := by decide +kernel
theorem dX2_addEnd_54 : decode cX2_addEnd 54 = .ok (.iastore, 1) := by decide +kernel
theorem dX2_addEnd_55 : decode cX2_addEnd 55 = .ok (.aload_n 0, 1) := by decide +kernel
theorem dX2_addEnd_56 : decode cX2_addEnd 56 = .ok (.dup, 1) := by decide +kernel
theorem dX2_addEnd_57 : decode cX2_addEnd 57 = .ok (.getfield 24, 3) := by decide +kernel
theorem dX2_addEnd_60 : decode cX2_addEnd 60 = .ok (.iconst 1, 1) := by decide +kernel
theorem dX2_addEnd_61 : decode cX2_addEnd 61 = .ok (.iadd, 1) := by decide +kernel
theorem dX2_addEnd_62 : decode cX2_addEnd 62 = .ok (.putfield 24, 3) := by decide +kernel
theorem dX2_addEnd_65 : decode cX2_addEnd 65 = .ok (.return_, 1) := by decide +kernel
theorem dX2_takeLiteral_0 : decode cX2_takeLiteral 0 = .ok (.aload_n 0, 1) := by decide +kernel
theorem dX2_takeLiteral_1 : decode cX2_takeLiteral 1 = .ok (.getfield 9, 3) := by decide +kernel
theorem dX2_takeLiteral_4 : decode cX2_takeLiteral 4 = .ok (.iload_n 1, 1) := by decide +kernel
theorem dX2_takeLiteral_5 : decode cX2_takeLiteral 5 = .ok (.aload_n 0, 1) := by decide +kernel
theorem dX2_takeLiteral_6 : decode cX2_takeLiteral 6 = .ok (.getfield 32, 3) := by decide +kernel
theorem dX2_takeLiteral_9 : decode cX2_takeLiteral 9 = .ok (.getfield 85, 3) := by decide +kernel
theorem dX2_takeLiteral_12 : decode cX2_takeLiteral 12 = .ok (.aload_n 0, 1) := by decide +kernel
theorem dX2_takeLiteral_13 : decode cX2_takeLiteral 13 = .ok (.getfield 9, 3) := by decide +kernel
theorem dX2_takeLiteral_16 : decode cX2_takeLiteral 16 = .ok (.iload_n 1, 1) := by decide +kernel
theorem dX2_takeLiteral_17 : decode cX2_takeLiteral 17 = .ok (.iconst 1, 1) := by decide +kernel
theorem dX2_takeLiteral_18 : decode cX2_takeLiteral 18 = .ok (.iadd, 1) := by decide +kernel
theorem dX2_takeLiteral_19 : decode cX2_takeLiteral 19 = .ok (.iaload, 1) := by decide +kernel
theorem dX2_takeLiteral_20 : decode cX2_takeLiteral 20 = .ok (.iadd, 1) := by decide +kernel
theorem dX2_takeLiteral_21 : decode cX2_takeLiteral 21 = .ok (.iastore, 1) := by decide +kernel
theorem dX2_takeLiteral_22 : decode cX2_takeLiteral 22 = .ok (.aload_n 0, 1) := by decide +kernel
theorem dX2_takeLiteral_23 : decode cX2_takeLiteral 23 = .ok (.getfield 15, 3) := by decide +kernel
theorem dX2_takeLiteral_26 : decode cX2_takeLiteral 26 = .ok (.iload_n 1, 1) := by decide +kernel
theorem dX2_takeLiteral_27 : decode cX2_takeLiteral 27 = .ok (.iconst 0, 1) := by decide +kernel
theorem dX2_takeLiteral_28 : decode cX2_takeLiteral 28 = .ok (.iastore, 1) := by decide +kernel
theorem dX2_takeLiteral_29 : decode cX2_takeLiteral 29 = .ok (.aload_n 0, 1) := by decide +kernel
theorem dX2_takeLiteral_30 : decode cX2_takeLiteral 30 = .ok (.getfield 18, 3) := by decide +kernel
theorem dX2_takeLiteral_33 : decode cX2_takeLiteral 33 = .ok (.iload_n 1, 1) := by decide +kernel
theorem dX2_takeLiteral_34 : decode cX2_takeLiteral 34 = .ok (.iconst 0, 1) := by decide +kernel
theorem dX2_takeLiteral_35 : decode cX2_takeLiteral 35 = .ok (.iastore, 1) := by decide +kernel
theorem dX2_takeLiteral_36 : decode cX2_takeLiteral 36 = .ok (.return_, 1) := by decide +kernel
theorem dX2_takeBestMatch_0 : decode cX2_takeBestMatch 0 = .ok (.aload_n 0, 1) := by decide +kernel
theorem dX2_takeBestMatch_1 : decode cX2_takeBestMatch 1 = .ok (.getfield 28, 3) := by decide +kernel
theorem dX2_takeBestMatch_4 : decode cX2_takeBestMatch 4 = .ok (.getfield 45, 3) := by decide +kernel
theorem dX2_takeBestMatch_7 : decode cX2_takeBestMatch 7 = .ok (.iload_n 1, 1) := by decide +kernel
theorem dX2_takeBestMatch_8 : decode cX2_takeBestMatch 8 = .ok (.iadd, 1) := by decide +kernel
theorem dX2_takeBestMatch_9 : decode cX2_takeBestMatch 9 = .ok (.istore_n 3, 1) := by decide +kernel
theorem dX2_takeBestMatch_10 : decode cX2_takeBestMatch 10 = .ok (.aload_n 0, 1) := by decide +kernel
theorem dX2_takeBestMatch_11 : decode cX2_takeBestMatch 11 = .ok (.getfield 36, 3) := by decide +kernel
theorem dX2_takeBestMatch_14 : decode cX2_takeBestMatch 14 = .ok (.iload_n 3, 1) := by decide +kernel
theorem dX2_takeBestMatch_15 : decode cX2_takeBestMatch 15 = .ok (.aload_n 0, 1) := by decide +kernel
theorem dX2_takeBestMatch_16 : decode cX2_takeBestMatch 16 = .ok (.getfield 32, 3) := by decide +kernel
theorem dX2_takeBestMatch_19 : decode cX2_takeBestMatch 19 = .ok (.getfield 59, 3) := by decide +kernel
theorem dX2_takeBestMatch_22 : decode cX2_takeBestMatch 22 = .ok (.invokevirtual 88, 3) := by decide +kernel
theorem dX2_takeBestMatch_25 : decode cX2_takeBestMatch 25 = .ok (.aload_n 0, 1) := by decide +kernel
theorem dX2_takeBestMatch_26 : decode cX2_takeBestMatch 26 = .ok (.getfield 36, 3) := by decide +kernel
theorem dX2_takeBestMatch_29 : decode cX2_takeBestMatch 29 = .ok (.aload_n 0, 1) := by decide +kernel
theorem dX2_takeBestMatch_30 : decode cX2_takeBestMatch 30 = .ok (.getfield 32, 3) := by decide +kernel
theorem dX2_takeBestMatch_33 : decode cX2_takeBestMatch 33 = .ok (.getfield 59, 3) := by decide +kernel
theorem dX2_takeBestMatch_36 : decode cX2_takeBestMatch 36 = .ok (.iload_n 2, 1) := by decide +kernel
theorem dX2_takeBestMatch_37 : decode cX2_takeBestMatch 37 = .ok (.iconst 1, 1) := by decide +kernel
theorem dX2_takeBestMatch_38 : decode cX2_takeBestMatch 38 = .ok (.iadd, 1) := by decide +kernel
theorem dX2_takeBestMatch_39 : decode cX2_takeBestMatch 39 = .ok (.invokestatic 91, 3) := by decide +kernel
theorem dX2_takeBestMatch_42 : decode cX2_takeBestMatch 42 = .ok (.invokevirtual 94, 3) := by decide +kernel
theorem dX2_takeBestMatch_45 : decode cX2_takeBestMatch 45 = .ok (.iload_n 3, 1) := by decide +kernel
theorem dX2_takeBestMatch_46 : decode cX2_takeBestMatch 46 = .ok (.istore 4, 2) := by decide +kernel
theorem dX2_takeBestMatch_48 : decode cX2_takeBestMatch 48 = .ok (.iload 4, 2) := by decide +kernel
theorem dX2_takeBestMatch_50 : decode cX2_takeBestMatch 50 = .ok (.ifCond .le 38, 3) := by decide +kernel
theorem dX2_takeBestMatch_53 : decode cX2_takeBestMatch 53 = .ok (.aload_n 0, 1) := by decide +kernel
theorem dX2_takeBestMatch_54 : decode cX2_takeBestMatch 54 = .ok (.getfield 36, 3) := by decide +kernel
theorem dX2_takeBestMatch_57 : decode cX2_takeBestMatch 57 = .ok (.invokevirtual 97, 3) := by decide +kernel
theorem dX2_takeBestMatch_60 : decode cX2_takeBestMatch 60 = .ok (.ifCond .eq 28, 3) := by decide +kernel
theorem dX2_takeBestMatch_63 : decode cX2_takeBestMatch 63 = .ok (.aload_n 0, 1) := by decide +kernel
theorem dX2_takeBestMatch_64 : decode cX2_takeBestMatch 64 = .ok (.iload_n 1, 1) := by decide +kernel
theorem dX2_takeBestMatch_65 : decode cX2_takeBestMatch 65 = .ok (.aload_n 0, 1) := by decide +kernel
theorem dX2_takeBestMatch_66 : decode cX2_takeBestMatch 66 = .ok (.getfield 36, 3) := by decide +kernel
theorem dX2_takeBestMatch_69 : decode cX2_takeBestMatch 69 = .ok (.getfield 72, 3) := by decide +kernel
theorem dX2_takeBestMatch_72 : decode cX2_takeBestMatch 72 = .ok (.aload_n 0, 1) := by decide +kernel
theorem dX2_takeBestMatch_73 : decode cX2_takeBestMatch 73 = .ok (.getfield 36, 3) := by decide +kernel
theorem dX2_takeBestMatch_76 : decode cX2_takeBestMatch 76 = .ok (.getfield 101, 3) := by decide +kernel
theorem dX2_takeBestMatch_79 : decode cX2_takeBestMatch 79 = .ok (.invokevirtual 103, 3) := by decide +kernel
theorem dX2_takeBestMatch_82 : decode cX2_takeBestMatch 82 = .ok (.iinc 4 (-1), 3) := by decide +kernel
theorem dX2_takeBestMatch_85 : decode cX2_takeBestMatch 85 = .ok (.goto (-37), 3) := by decide +kernel
theorem dX2_takeBestMatch_88 : decode cX2_takeBestMatch 88 = .ok (.return_, 1) := by decide +kernel
theorem dX2_consider_0 : decode cX2_consider 0 = .ok (.aload_n 0, 1) := by decide +kernel
theorem dX2_consider_1 : decode cX2_consider 1 = .ok (.iload_n 1, 1) := by decide +kernel
theorem dX2_consider_2 : decode cX2_consider 2 = .ok (.iload_n 2, 1) := by decide +kernel
theorem dX2_consider_3 : decode cX2_consider 3 = .ok (.iadd, 1) := by decide +kernel
theorem dX2_consider_4 : decode cX2_consider 4 = .ok (.invokevirtual 107, 3) := by decide +kernel
theorem dX2_consider_7 : decode cX2_consider 7 = .ok (.istore 4, 2) := by decide +kernel
theorem dX2_consider_9 : decode cX2_consider 9 = .ok (.aload_n 0, 1) := by decide +kernel
theorem dX2_consider_10 : decode cX2_consider 10 = .ok (.getfield 32, 3) := by decide +kernel
theorem dX2_consider_13 : decode cX2_consider 13 = .ok (.getfield 110, 3) := by decide +kernel
theorem dX2_consider_16 : decode cX2_consider 16 = .ok (.iload_n 3, 1) := by decide +kernel
theorem dX2_consider_17 : decode cX2_consider 17 = .ok (.invokestatic 113, 3) := by decide +kernel
theorem dX2_consider_20 : decode cX2_consider 20 = .ok (.iadd, 1) := by decide +kernel
theorem dX2_consider_21 : decode cX2_consider 21 = .ok (.aload_n 0, 1) := by decide +kernel
theorem dX2_consider_22 : decode cX2_consider 22 = .ok (.getfield 9, 3) := by decide +kernel
theorem dX2_consider_25 : decode cX2_consider 25 = .ok (.iload 4, 2) := by decide +kernel
theorem dX2_consider_27 : decode cX2_consider 27 = .ok (.iaload, 1) := by decide +kernel
theorem dX2_consider_28 : decode cX2_consider 28 = .ok (.iadd, 1) := by decide +kernel
theorem dX2_consider_29 : decode cX2_consider 29 = .ok (.istore 5, 2) := by decide +kernel
theorem dX2_consider_31 : decode cX2_consider 31 = .ok (.iload 5, 2) := by decide +kernel
theorem dX2_consider_33 : decode cX2_consider 33 = .ok (.aload_n 0, 1) := by decide +kernel
theorem dX2_consider_34 : decode cX2_consider 34 = .ok (.getfield 9, 3) := by decide +kernel
theorem dX2_consider_37 : decode cX2_consider 37 = .ok (.iload_n 1, 1) := by decide +kernel
theorem dX2_consider_38 : decode cX2_consider 38 = .ok (.iaload, 1) := by decide +kernel
theorem dX2_consider_39 : decode cX2_consider 39 = .ok (.if_icmp .lt 27, 3) := by decide +kernel
theorem dX2_consider_42 : decode cX2_consider 42 = .ok (.iload 5, 2) := by decide +kernel
theorem dX2_consider_44 : decode cX2_consider 44 = .ok (.aload_n 0, 1) := by decide +kernel
theorem dX2_consider_45 : decode cX2_consider 45 = .ok (.getfield 9, 3) := by decide +kernel
theorem dX2_consider_48 : decode cX2_consider 48 = .ok (.iload_n 1, 1) := by decide +kernel
theorem dX2_consider_49 : decode cX2_consider 49 = .ok (.iaload, 1) := by decide +kernel
theorem dX2_consider_50 : decode cX2_consider 50 = .ok (.if_icmp .ne 41, 3) := by decide +kernel
theorem dX2_consider_53 : decode cX2_consider 53 = .ok (.iload 4, 2) := by decide +kernel
theorem dX2_consider_55 : decode cX2_consider 55 = .ok (.iload_n 1, 1) := by decide +kernel
theorem dX2_consider_56 : decode cX2_consider 56 = .ok (.isub, 1) := by decide +kernel
theorem dX2_consider_57 : decode cX2_consider 57 = .ok (.aload_n 0, 1) := by decide +kernel
theorem dX2_consider_58 : decode cX2_consider 58 = .ok (.getfield 15, 3) := by decide +kernel
theorem dX2_consider_61 : decode cX2_consider 61 = .ok (.iload_n 1, 1) := by decide +kernel
theorem dX2_consider_62 : decode cX2_consider 62 = .ok (.iaload, 1) := by decide +kernel
theorem dX2_consider_63 : decode cX2_consider 63 = .ok (.if_icmp .le 28, 3) := by decide +kernel
theorem dX2_consider_66 : decode cX2_consider 66 = .ok (.aload_n 0, 1) := by decide +kernel
theorem dX2_consider_67 : decode cX2_consider 67 = .ok (.getfield 9, 3) := by decide +kernel
theorem dX2_consider_70 : decode cX2_consider 70 = .ok (.iload_n 1, 1) := by decide +kernel
theorem dX2_consider_71 : decode cX2_consider 71 = .ok (.iload 5, 2) := by decide +kernel
theorem dX2_consider_73 : decode cX2_consider 73 = .ok (.iastore, 1) := by decide +kernel
theorem dX2_consider_74 : decode cX2_consider 74 = .ok (.aload_n 0, 1) := by decide +kernel
theorem dX2_consider_75 : decode cX2_consider 75 = .ok (.getfield 15, 3) := by decide +kernel
theorem dX2_consider_78 : decode cX2_consider 78 = .ok (.iload_n 1, 1) := by decide +kernel
theorem dX2_consider_79 : decode cX2_consider 79 = .ok (.iload 4, 2) := by decide +kernel
theorem dX2_consider_81 : decode cX2_consider 81 = .ok (.iload_n 1, 1) := by decide +kernel
theorem dX2_consider_82 : decode cX2_consider 82 = .ok (.isub, 1) := by decide +kernel
theorem dX2_consider_83 : decode cX2_consider 83 = .ok (.iastore, 1) := by decide +kernel
theorem dX2_consider_84 : decode cX2_consider 84 = .ok (.aload_n 0, 1) := by decide +kernel
theorem dX2_consider_85 : decode cX2_consider 85 = .ok (.getfield 18, 3) := by decide +kernel
theorem dX2_consider_88 : decode cX2_consider 88 = .ok (.iload_n 1, 1) := by decide +kernel
theorem dX2_consider_89 : decode cX2_consider 89 = .ok (.iload_n 3, 1) := by decide +kernel
theorem dX2_consider_90 : decode cX2_consider 90 = .ok (.iastore, 1) := by decide +kernel
theorem dX2_consider_91 : decode cX2_consider 91 = .ok (.return_, 1) := by decide +kernel
theorem dX2_cheapestEnd_0 : decode cX2_cheapestEnd 0 = .ok (.iconst 0, 1) := by decide +kernel
theorem dX2_cheapestEnd_1 : decode cX2_cheapestEnd 1 = .ok (.istore_n 2, 1) := by decide +kernel
theorem dX2_cheapestEnd_2 : decode cX2_cheapestEnd 2 = .ok (.aload_n 0, 1) := by decide +kernel
theorem dX2_cheapestEnd_3 : decode cX2_cheapestEnd 3 = .ok (.getfield 24, 3) := by decide +kernel
theorem dX2_cheapestEnd_6 : decode cX2_cheapestEnd 6 = .ok (.iconst 1, 1) := by decide +kernel
theorem dX2_cheapestEnd_7 : decode cX2_cheapestEnd 7 = .ok (.isub, 1) := by decide +kernel
theorem dX2_cheapestEnd_8 : decode cX2_cheapestEnd 8 = .ok (.istore_n 3, 1) := by decide +kernel
theorem dX2_cheapestEnd_9 : decode cX2_cheapestEnd 9 = .ok (.iload_n 2, 1) := by decide +kernel
theorem dX2_cheapestEnd_10 : decode cX2_cheapestEnd 10 = .ok (.iload_n 3, 1) := by decide +kernel
theorem dX2_cheapestEnd_11 : decode cX2_cheapestEnd 11 = .ok (.if_icmp .ge 35, 3) := by decide +kernel
theorem dX2_cheapestEnd_14 : decode cX2_cheapestEnd 14 = .ok (.iload_n 2, 1) := by decide +kernel
theorem dX2_cheapestEnd_15 : decode cX2_cheapestEnd 15 = .ok (.iload_n 3, 1) := by decide +kernel
theorem dX2_cheapestEnd_16 : decode cX2_cheapestEnd 16 = .ok (.iadd, 1) := by decide +kernel
theorem dX2_cheapestEnd_17 : decode cX2_cheapestEnd 17 = .ok (.iconst 2, 1) := by decide +kernel
theorem dX2_cheapestEnd_18 : decode cX2_cheapestEnd 18 = .ok (.idiv, 1) := by decide +kernel
theorem dX2_cheapestEnd_19 : decode cX2_cheapestEnd 19 = .ok (.istore 4, 2) := by decide +kernel
theorem dX2_cheapestEnd_21 : decode cX2_cheapestEnd 21 = .ok (.aload_n 0, 1) := by decide +kernel
theorem dX2_cheapestEnd_22 : decode cX2_cheapestEnd 22 = .ok (.getfield 21, 3) := by decide +kernel
theorem dX2_cheapestEnd_25 : decode cX2_cheapestEnd 25 = .ok (.iload 4, 2) := by decide +kernel
theorem dX2_cheapestEnd_27 : decode cX2_cheapestEnd 27 = .ok (.iaload, 1) := by decide +kernel
theorem dX2_cheapestEnd_28 : decode cX2_cheapestEnd 28 = .ok (.iload_n 1, 1) := by decide +kernel
theorem dX2_cheapestEnd_29 : decode cX2_cheapestEnd 29 = .ok (.if_icmp .gt 9, 3) := by decide +kernel
theorem dX2_cheapestEnd_32 : decode cX2_cheapestEnd 32 = .ok (.iload 4, 2) := by decide +kernel
theorem dX2_cheapestEnd_34 : decode cX2_cheapestEnd 34 = .ok (.istore_n 3, 1) := by decide +kernel
theorem dX2_cheapestEnd_35 : decode cX2_cheapestEnd 35 = .ok (.goto 8, 3) := by decide +kernel
theorem dX2_cheapestEnd_38 : decode cX2_cheapestEnd 38 = .ok (.iload 4, 2) := by decide +kernel
theorem dX2_cheapestEnd_40 : decode cX2_cheapestEnd 40 = .ok (.iconst 1, 1) := by decide +kernel
theorem dX2_cheapestEnd_41 : decode cX2_cheapestEnd 41 = .ok (.iadd, 1) := by decide +kernel
theorem dX2_cheapestEnd_42 : decode cX2_cheapestEnd 42 = .ok (.istore_n 2, 1) := by decide +kernel
theorem dX2_cheapestEnd_43 : decode cX2_cheapestEnd 43 = .ok (.goto (-34), 3) := by decide +kernel
theorem dX2_cheapestEnd_46 : decode cX2_cheapestEnd 46 = .ok (.aload_n 0, 1) := by decide +kernel
theorem dX2_cheapestEnd_47 : decode cX2_cheapestEnd 47 = .ok (.getfield 21, 3) := by decide +kernel
theorem dX2_cheapestEnd_50 : decode cX2_cheapestEnd 50 = .ok (.iload_n 2, 1) := by decide +kernel
theorem dX2_cheapestEnd_51 : decode cX2_cheapestEnd 51 = .ok (.iaload, 1) := by decide +kernel
theorem dX2_cheapestEnd_52 : decode cX2_cheapestEnd 52 = .ok (.ireturn, 1) := by decide +kernel
theorem dX1_add_0 : decode cX1_add 0 = .ok (.iload_n 1, 1) := by decide +kernel
theorem dX1_add_1 : decode cX1_add 1 = .ok (.ifCond .ne 40, 3) := by decide +kernel
theorem dX1_add_4 : decode cX1_add 4 = .ok (.aload_n 0, 1) := by decide +kernel
theorem dX1_add_5 : decode cX1_add 5 = .ok (.dup, 1) := by decide +kernel
theorem dX1_add_6 : decode cX1_add 6 = .ok (.getfield 25, 3) := by decide +kernel
theorem dX1_add_9 : decode cX1_add 9 = .ok (.iconst 1, 1) := by decide +kernel
theorem dX1_add_10 : decode cX1_add 10 = .ok (.iadd, 1) := by decide +kernel
theorem dX1_add_11 : decode cX1_add 11 = .ok (.putfield 25, 3) := by decide +kernel
theorem dX1_add_14 : decode cX1_add 14 = .ok (.aload_n 0, 1) := by decide +kernel
theorem dX1_add_15 : decode cX1_add 15 = .ok (.dup, 1) := by decide +kernel
theorem dX1_add_16 : decode cX1_add 16 = .ok (.getfield 28, 3) := by decide +kernel
theorem dX1_add_19 : decode cX1_add 19 = .ok (.iconst 1, 1) := by decide +kernel
theorem dX1_add_20 : decode cX1_add 20 = .ok (.iadd, 1) := by decide +kernel
theorem dX1_add_21 : decode cX1_add 21 = .ok (.putfield 28, 3) := by decide +kernel
theorem dX1_add_24 : decode cX1_add 24 = .ok (.aload_n 0, 1) := by decide +kernel
theorem dX1_add_25 : decode cX1_add 25 = .ok (.dup, 1) := by decide +kernel
theorem dX1_add_26 : decode cX1_add 26 = .ok (.getfield 31, 3) := by decide +kernel
theorem dX1_add_29 : decode cX1_add 29 = .ok (.aload_n 0, 1) := by decide +kernel
theorem dX1_add_30 : decode cX1_add 30 = .ok (.getfield 54, 3) := by decide +kernel
theorem dX1_add_33 : decode cX1_add 33 = .ok (.getfield 73, 3) := by decide +kernel
theorem dX1_add_36 : decode cX1_add 36 = .ok (.iadd, 1) := by decide +kernel
theorem dX1_add_37 : decode cX1_add 37 = .ok (.putfield 31, 3) := by decide +kernel
theorem dX1_add_40 : decode cX1_add 40 = .ok (.return_, 1) := by decide +kernel
theorem dX1_add_41 : decode cX1_add 41 = .ok (.aload_n 0, 1) := by decide +kernel
theorem dX1_add_42 : decode cX1_add 42 = .ok (.getfield 9, 3) := by decide +kernel
theorem dX1_add_45 : decode cX1_add 45 = .ok (.aload_n 0, 1) := by decide +kernel
theorem dX1_add_46 : decode cX1_add 46 = .ok (.getfield 21, 3) := by decide +kernel
theorem dX1_add_49 : decode cX1_add 49 = .ok (.aload_n 0, 1) := by decide +kernel
theorem dX1_add_50 : decode cX1_add 50 = .ok (.getfield 25, 3) := by decide +kernel
theorem dX1_add_53 : decode cX1_add 53 = .ok (.iastore, 1) := by decide +kernel
theorem dX1_add_54 : decode cX1_add 54 = .ok (.aload_n 0, 1) := by decide +kernel
theorem dX1_add_55 : decode cX1_add 55 = .ok (.getfield 15, 3) := by decide +kernel
theorem dX1_add_58 : decode cX1_add 58 = .ok (.aload_n 0, 1) := by decide +kernel
theorem dX1_add_59 : decode cX1_add 59 = .ok (.getfield 21, 3) := by decide +kernel
theorem dX1_add_62 : decode cX1_add 62 = .ok (.iload_n 1, 1) := by decide +kernel
theorem dX1_add_63 : decode cX1_add 63 = .ok (.iastore, 1) := by decide +kernel
theorem dX1_add_64 : decode cX1_add 64 = .ok (.aload_n 0, 1) := by decide +kernel
theorem dX1_add_65 : decode cX1_add 65 = .ok (.getfield 18, 3) := by decide +kernel
theorem dX1_add_68 : decode cX1_add 68 = .ok (.aload_n 0, 1) := by decide +kernel
theorem dX1_add_69 : decode cX1_add 69 = .ok (.getfield 21, 3) := by decide +kernel
theorem dX1_add_72 : decode cX1_add 72 = .ok (.iload_n 2, 1) := by decide +kernel
theorem dX1_add_73 : decode cX1_add 73 = .ok (.iastore, 1) := by decide +kernel
theorem dX1_add_74 : decode cX1_add 74 = .ok (.aload_n 0, 1) := by decide +kernel
theorem dX1_add_75 : decode cX1_add 75 = .ok (.dup, 1) := by decide +kernel
theorem dX1_add_76 : decode cX1_add 76 = .ok (.getfield 21, 3) := by decide +kernel
theorem dX1_add_79 : decode cX1_add 79 = .ok (.iconst 1, 1) := by decide +kernel
theorem dX1_add_80 : decode cX1_add 80 = .ok (.iadd, 1) := by decide +kernel
theorem dX1_add_81 : decode cX1_add 81 = .ok (.putfield 21, 3) := by decide +kernel
theorem dX1_add_84 : decode cX1_add 84 = .ok (.aload_n 0, 1) := by decide +kernel
theorem dX1_add_85 : decode cX1_add 85 = .ok (.iconst 0, 1) := by decide +kernel
theorem dX1_add_86 : decode cX1_add 86 = .ok (.putfield 25, 3) := by decide +kernel
theorem dX1_add_89 : decode cX1_add 89 = .ok (.aload_n 0, 1) := by decide +kernel
theorem dX1_add_90 : decode cX1_add 90 = .ok (.dup, 1) := by decide +kernel
theorem dX1_add_91 : decode cX1_add 91 = .ok (.getfield 31, 3) := by decide +kernel
theorem dX1_add_94 : decode cX1_add 94 = .ok (.aload_n 0, 1) := by decide +kernel
theorem dX1_add_95 : decode cX1_add 95 = .ok (.getfield 54, 3) := by decide +kernel
theorem dX1_add_98 : decode cX1_add 98 = .ok (.getfield 78, 3) := by decide +kernel
theorem dX1_add_101 : decode cX1_add 101 = .ok (.iload_n 2, 1) := by decide +kernel
theorem dX1_add_102 : decode cX1_add 102 = .ok (.invokestatic 81, 3) := by decide +kernel
theorem dX1_add_105 : decode cX1_add 105 = .ok (.iadd, 1) := by decide +kernel
theorem dX1_add_106 : decode cX1_add 106 = .ok (.iadd, 1) := by decide +kernel
theorem dX1_add_107 : decode cX1_add 107 = .ok (.putfield 31, 3) := by decide +kernel
theorem dX1_add_110 : decode cX1_add 110 = .ok (.aload_n 0, 1) := by decide +kernel
theorem dX1_add_111 : decode cX1_add 111 = .ok (.aload_n 0, 1) := by decide +kernel
theorem dX1_add_112 : decode cX1_add 112 = .ok (.getfield 34, 3) := by decide +kernel
theorem dX1_add_115 : decode cX1_add 115 = .ok (.iload_n 1, 1) := by decide +kernel
theorem dX1_add_116 : decode cX1_add 116 = .ok (.invokestatic 84, 3) := by decide +kernel
theorem dX1_add_119 : decode cX1_add 119 = .ok (.putfield 34, 3) := by decide +kernel
theorem dX1_add_122 : decode cX1_add 122 = .ok (.aload_n 0, 1) := by decide +kernel
theorem dX1_add_123 : decode cX1_add 123 = .ok (.aload_n 0, 1) := by decide +kernel
theorem dX1_add_124 : decode cX1_add 124 = .ok (.getfield 37, 3) := by decide +kernel
theorem dX1_add_127 : decode cX1_add 127 = .ok (.iload_n 2, 1) := by decide +kernel
theorem dX1_add_128 : decode cX1_add 128 = .ok (.invokestatic 84, 3) := by decide +kernel
theorem dX1_add_131 : decode cX1_add 131 = .ok (.putfield 37, 3) := by decide +kernel
theorem dX1_add_134 : decode cX1_add 134 = .ok (.return_, 1) := by decide +kernel
theorem dX1_differences_0 : decode cX1_differences 0 = .ok (.aload_n 0, 1) := by decide +kernel
theorem dX1_differences_1 : decode cX1_differences 1 = .ok (.invokevirtual 90, 3) := by decide +kernel
theorem dX1_differences_4 : decode cX1_differences 4 = .ok (.iconst 0, 1) := by decide +kernel
theorem dX1_differences_5 : decode cX1_differences 5 = .ok (.istore_n 1, 1) := by decide +kernel
theorem dX1_differences_6 : decode cX1_differences 6 = .ok (.iconst 0, 1) := by decide +kernel
theorem dX1_differences_7 : decode cX1_differences 7 = .ok (.istore_n 2, 1) := by decide +kernel
theorem dX1_differences_8 : decode cX1_differences 8 = .ok (.iload_n 2, 1) := by decide +kernel
theorem dX1_differences_9 : decode cX1_differences 9 = .ok (.aload_n 0, 1) := by decide +kernel
theorem dX1_differences_10 : decode cX1_differences 10 = .ok (.getfield 40, 3) := by decide +kernel
theorem dX1_differences_13 : decode cX1_differences 13 = .ok (.if_icmp .ge 41, 3) := by decide +kernel
theorem dX1_differences_16 : decode cX1_differences 16 = .ok (.aload_n 0, 1) := by decide +kernel
theorem dX1_differences_17 : decode cX1_differences 17 = .ok (.getfield 50, 3) := by decide +kernel
theorem dX1_differences_20 : decode cX1_differences 20 = .ok (.iload_n 2, 1) := by decide +kernel
theorem dX1_differences_21 : decode cX1_differences 21 = .ok (.invokevirtual 93, 3) := by decide +kernel
theorem dX1_differences_24 : decode cX1_differences 24 = .ok (.ifCond .eq 21, 3) := by decide +kernel
theorem dX1_differences_27 : decode cX1_differences 27 = .ok (.aload_n 0, 1) := by decide +kernel
theorem dX1_differences_28 : decode cX1_differences 28 = .ok (.getfield 46, 3) := by decide +kernel
theorem dX1_differences_31 : decode cX1_differences 31 = .ok (.iload_n 2, 1) := by decide +kernel
theorem dX1_differences_32 : decode cX1_differences 32 = .ok (.baload, 1) := by decide +kernel
theorem dX1_differences_33 : decode cX1_differences 33 = .ok (.aload_n 0, 1) := by decide +kernel
theorem dX1_differences_34 : decode cX1_differences 34 = .ok (.getfield 50, 3) := by decide +kernel
theorem dX1_differences_37 : decode cX1_differences 37 = .ok (.getfield 97, 3) := by decide +kernel
theorem dX1_differences_40 : decode cX1_differences 40 = .ok (.iload_n 2, 1) := by decide +kernel
theorem dX1_differences_41 : decode cX1_differences 41 = .ok (.baload, 1) := by decide +kernel
theorem dX1_differences_42 : decode cX1_differences 42 = .ok (.if_icmp .eq 6, 3) := by decide +kernel
theorem dX1_differences_45 : decode cX1_differences 45 = .ok (.iinc 1 1, 3) := by decide +kernel
theorem dX1_differences_48 : decode cX1_differences 48 = .ok (.iinc 2 1, 3) := by decide +kernel
theorem dX1_differences_51 : decode cX1_differences 51 = .ok (.goto (-43), 3) := by decide +kernel
theorem dX1_differences_54 : decode cX1_differences 54 = .ok (.iload_n 1, 1) := by decide +kernel
theorem dX1_differences_55 : decode cX1_differences 55 = .ok (.ireturn, 1) := by decide +kernel
theorem dX1_rebuild_0 : decode cX1_rebuild 0 = .ok (.aload_n 0, 1) := by decide +kernel
theorem dX1_rebuild_1 : decode cX1_rebuild 1 = .ok (.getfield 46, 3) := by decide +kernel
theorem dX1_rebuild_4 : decode cX1_rebuild 4 = .ok (.arraylength, 1) := by decide +kernel
theorem dX1_rebuild_5 : decode cX1_rebuild 5 = .ok (.aload_n 0, 1) := by decide +kernel
theorem dX1_rebuild_6 : decode cX1_rebuild 6 = .ok (.getfield 40, 3) := by decide +kernel
theorem dX1_rebuild_9 : decode cX1_rebuild 9 = .ok (.if_icmp .ge 16, 3) := by decide +kernel
theorem dX1_rebuild_12 : decode cX1_rebuild 12 = .ok (.aload_n 0, 1) := by decide +kernel
theorem dX1_rebuild_13 : decode cX1_rebuild 13 = .ok (.aload_n 0, 1) := by decide +kernel
theorem dX1_rebuild_14 : decode cX1_rebuild 14 = .ok (.getfield 40, 3) := by decide +kernel
theorem dX1_rebuild_17 : decode cX1_rebuild 17 = .ok (.invokestatic 69, 3) := by decide +kernel
theorem dX1_rebuild_20 : decode cX1_rebuild 20 = .ok (.newarray .byte, 2) := by decide +kernel
theorem dX1_rebuild_22 : decode cX1_rebuild 22 = .ok (.putfield 46, 3) := by decide +kernel
theorem dX1_rebuild_25 : decode cX1_rebuild 25 = .ok (.aload_n 0, 1) := by decide +kernel
theorem dX1_rebuild_26 : decode cX1_rebuild 26 = .ok (.iconst 0, 1) := by decide +kernel
theorem dX1_rebuild_27 : decode cX1_rebuild 27 = .ok (.aload_n 0, 1) := by decide +kernel
theorem dX1_rebuild_28 : decode cX1_rebuild 28 = .ok (.getfield 43, 3) := by decide +kernel
theorem dX1_rebuild_31 : decode cX1_rebuild 31 = .ok (.invokevirtual 100, 3) := by decide +kernel
theorem dX1_rebuild_34 : decode cX1_rebuild 34 = .ok (.istore_n 1, 1) := by decide +kernel
theorem dX1_rebuild_35 : decode cX1_rebuild 35 = .ok (.iconst 0, 1) := by decide +kernel
theorem dX1_rebuild_36 : decode cX1_rebuild 36 = .ok (.istore_n 2, 1) := by decide +kernel
theorem dX1_rebuild_37 : decode cX1_rebuild 37 = .ok (.iload_n 2, 1) := by decide +kernel
theorem dX1_rebuild_38 : decode cX1_rebuild 38 = .ok (.aload_n 0, 1) := by decide +kernel
theorem dX1_rebuild_39 : decode cX1_rebuild 39 = .ok (.getfield 21, 3) := by decide +kernel
theorem dX1_rebuild_42 : decode cX1_rebuild 42 = .ok (.if_icmp .ge 39, 3) := by decide +kernel
theorem dX1_rebuild_45 : decode cX1_rebuild 45 = .ok (.aload_n 0, 1) := by decide +kernel
theorem dX1_rebuild_46 : decode cX1_rebuild 46 = .ok (.iload_n 1, 1) := by decide +kernel
theorem dX1_rebuild_47 : decode cX1_rebuild 47 = .ok (.aload_n 0, 1) := by decide +kernel
theorem dX1_rebuild_48 : decode cX1_rebuild 48 = .ok (.getfield 9, 3) := by decide +kernel
theorem dX1_rebuild_51 : decode cX1_rebuild 51 = .ok (.iload_n 2, 1) := by decide +kernel
theorem dX1_rebuild_52 : decode cX1_rebuild 52 = .ok (.iaload, 1) := by decide +kernel
theorem dX1_rebuild_53 : decode cX1_rebuild 53 = .ok (.invokevirtual 100, 3) := by decide +kernel
theorem dX1_rebuild_56 : decode cX1_rebuild 56 = .ok (.istore_n 1, 1) := by decide +kernel
theorem dX1_rebuild_57 : decode cX1_rebuild 57 = .ok (.aload_n 0, 1) := by decide +kernel
theorem dX1_rebuild_58 : decode cX1_rebuild 58 = .ok (.iload_n 1, 1) := by decide +kernel
theorem dX1_rebuild_59 : decode cX1_rebuild 59 = .ok (.aload_n 0, 1) := by decide +kernel
theorem dX1_rebuild_60 : decode cX1_rebuild 60 = .ok (.getfield 15, 3) := by decide +kernel
theorem dX1_rebuild_63 : decode cX1_rebuild 63 = .ok (.iload_n 2, 1) := by decide +kernel
theorem dX1_rebuild_64 : decode cX1_rebuild 64 = .ok (.iaload, 1) := by decide +kernel
theorem dX1_rebuild_65 : decode cX1_rebuild 65 = .ok (.aload_n 0, 1) := by decide +kernel
theorem dX1_rebuild_66 : decode cX1_rebuild 66 = .ok (.getfield 18, 3) := by decide +kernel
theorem dX1_rebuild_69 : decode cX1_rebuild 69 = .ok (.iload_n 2, 1) := by decide +kernel
theorem dX1_rebuild_70 : decode cX1_rebuild 70 = .ok (.iaload, 1) := by decide +kernel
theorem dX1_rebuild_71 : decode cX1_rebuild 71 = .ok (.invokevirtual 103, 3) := by decide +kernel
theorem dX1_rebuild_74 : decode cX1_rebuild 74 = .ok (.istore_n 1, 1) := by decide +kernel
theorem dX1_rebuild_75 : decode cX1_rebuild 75 = .ok (.iinc 2 1, 3) := by decide +kernel
theorem dX1_rebuild_78 : decode cX1_rebuild 78 = .ok (.goto (-41), 3) := by decide +kernel
theorem dX1_rebuild_81 : decode cX1_rebuild 81 = .ok (.aload_n 0, 1) := by decide +kernel
theorem dX1_rebuild_82 : decode cX1_rebuild 82 = .ok (.iload_n 1, 1) := by decide +kernel
theorem dX1_rebuild_83 : decode cX1_rebuild 83 = .ok (.aload_n 0, 1) := by decide +kernel
theorem dX1_rebuild_84 : decode cX1_rebuild 84 = .ok (.getfield 25, 3) := by decide +kernel
theorem dX1_rebuild_87 : decode cX1_rebuild 87 = .ok (.invokevirtual 100, 3) := by decide +kernel
theorem dX1_rebuild_90 : decode cX1_rebuild 90 = .ok (.pop, 1) := by decide +kernel
theorem dX1_rebuild_91 : decode cX1_rebuild 91 = .ok (.return_, 1) := by decide +kernel
theorem dX1_copyFromData_0 : decode cX1_copyFromData 0 = .ok (.iload_n 1, 1) := by decide +kernel
theorem dX1_copyFromData_1 : decode cX1_copyFromData 1 = .ok (.iload_n 2, 1) := by decide +kernel
theorem dX1_copyFromData_2 : decode cX1_copyFromData 2 = .ok (.iadd, 1) := by decide +kernel
theorem dX1_copyFromData_3 : decode cX1_copyFromData 3 = .ok (.istore_n 3, 1) := by decide +kernel
theorem dX1_copyFromData_4 : decode cX1_copyFromData 4 = .ok (.iload_n 1, 1) := by decide +kernel
theorem dX1_copyFromData_5 : decode cX1_copyFromData 5 = .ok (.istore 4, 2) := by decide +kernel
theorem dX1_copyFromData_7 : decode cX1_copyFromData 7 = .ok (.iload 4, 2) := by decide +kernel
theorem dX1_copyFromData_9 : decode cX1_copyFromData 9 = .ok (.iload_n 3, 1) := by decide +kernel
theorem dX1_copyFromData_10 : decode cX1_copyFromData 10 = .ok (.if_icmp .ge 42, 3) := by decide +kernel
theorem dX1_copyFromData_13 : decode cX1_copyFromData 13 = .ok (.aload_n 0, 1) := by decide +kernel
theorem dX1_copyFromData_14 : decode cX1_copyFromData 14 = .ok (.getfield 46, 3) := by decide +kernel
theorem dX1_copyFromData_17 : decode cX1_copyFromData 17 = .ok (.iload 4, 2) := by decide +kernel
theorem dX1_copyFromData_19 : decode cX1_copyFromData 19 = .ok (.aload_n 0, 1) := by decide +kernel
theorem dX1_copyFromData_20 : decode cX1_copyFromData 20 = .ok (.getfield 50, 3) := by decide +kernel
theorem dX1_copyFromData_23 : decode cX1_copyFromData 23 = .ok (.iload 4, 2) := by decide +kernel
theorem dX1_copyFromData_25 : decode cX1_copyFromData 25 = .ok (.invokevirtual 93, 3) := by decide +kernel
theorem dX1_copyFromData_28 : decode cX1_copyFromData 28 = .ok (.ifCond .eq 16, 3) := by decide +kernel
theorem dX1_copyFromData_31 : decode cX1_copyFromData 31 = .ok (.aload_n 0, 1) := by decide +kernel
theorem dX1_copyFromData_32 : decode cX1_copyFromData 32 = .ok (.getfield 50, 3) := by decide +kernel
theorem dX1_copyFromData_35 : decode cX1_copyFromData 35 = .ok (.getfield 97, 3) := by decide +kernel
theorem dX1_copyFromData_38 : decode cX1_copyFromData 38 = .ok (.iload 4, 2) := by decide +kernel
theorem dX1_copyFromData_40 : decode cX1_copyFromData 40 = .ok (.baload, 1) := by decide +kernel
theorem dX1_copyFromData_41 : decode cX1_copyFromData 41 = .ok (.goto 4, 3) := by decide +kernel
theorem dX1_copyFromData_44 : decode cX1_copyFromData 44 = .ok (.iconst 0, 1) := by decide +kernel
theorem dX1_copyFromData_45 : decode cX1_copyFromData 45 = .ok (.bastore, 1) := by decide +kernel
theorem dX1_copyFromData_46 : decode cX1_copyFromData 46 = .ok (.iinc 4 1, 3) := by decide +kernel
theorem dX1_copyFromData_49 : decode cX1_copyFromData 49 = .ok (.goto (-42), 3) := by decide +kernel
theorem dX1_copyFromData_52 : decode cX1_copyFromData 52 = .ok (.iload_n 3, 1) := by decide +kernel
theorem dX1_copyFromData_53 : decode cX1_copyFromData 53 = .ok (.ireturn, 1) := by decide +kernel
theorem dX1_copyFromRebuilt_0 : decode cX1_copyFromRebuilt 0 = .ok (.iload_n 1, 1) := by decide +kernel
theorem dX1_copyFromRebuilt_1 : decode cX1_copyFromRebuilt 1 = .ok (.iload_n 2, 1) := by decide +kernel
theorem dX1_copyFromRebuilt_2 : decode cX1_copyFromRebuilt 2 = .ok (.iadd, 1) := by decide +kernel
theorem dX1_copyFromRebuilt_3 : decode cX1_copyFromRebuilt 3 = .ok (.istore 4, 2) := by decide +kernel
theorem dX1_copyFromRebuilt_5 : decode cX1_copyFromRebuilt 5 = .ok (.iload_n 1, 1) := by decide +kernel
theorem dX1_copyFromRebuilt_6 : decode cX1_copyFromRebuilt 6 = .ok (.istore 5, 2) := by decide +kernel
theorem dX1_copyFromRebuilt_8 : decode cX1_copyFromRebuilt 8 = .ok (.iload 5, 2) := by decide +kernel
theorem dX1_copyFromRebuilt_10 : decode cX1_copyFromRebuilt 10 = .ok (.iload 4, 2) := by decide +kernel
theorem dX1_copyFromRebuilt_12 : decode cX1_copyFromRebuilt 12 = .ok (.if_icmp .ge 25, 3) := by decide +kernel
theorem dX1_copyFromRebuilt_15 : decode cX1_copyFromRebuilt 15 = .ok (.aload_n 0, 1) := by decide +kernel
theorem dX1_copyFromRebuilt_16 : decode cX1_copyFromRebuilt 16 = .ok (.getfield 46, 3) := by decide +kernel
theorem dX1_copyFromRebuilt_19 : decode cX1_copyFromRebuilt 19 = .ok (.iload 5, 2) := by decide +kernel
theorem dX1_copyFromRebuilt_21 : decode cX1_copyFromRebuilt 21 = .ok (.aload_n 0, 1) := by decide +kernel
theorem dX1_copyFromRebuilt_22 : decode cX1_copyFromRebuilt 22 = .ok (.getfield 46, 3) := by decide +kernel
theorem dX1_copyFromRebuilt_25 : decode cX1_copyFromRebuilt 25 = .ok (.iload 5, 2) := by decide +kernel
theorem dX1_copyFromRebuilt_27 : decode cX1_copyFromRebuilt 27 = .ok (.iload_n 3, 1) := by decide +kernel
theorem dX1_copyFromRebuilt_28 : decode cX1_copyFromRebuilt 28 = .ok (.isub, 1) := by decide +kernel
theorem dX1_copyFromRebuilt_29 : decode cX1_copyFromRebuilt 29 = .ok (.baload, 1) := by decide +kernel
theorem dX1_copyFromRebuilt_30 : decode cX1_copyFromRebuilt 30 = .ok (.bastore, 1) := by decide +kernel
theorem dX1_copyFromRebuilt_31 : decode cX1_copyFromRebuilt 31 = .ok (.iinc 5 1, 3) := by decide +kernel
theorem dX1_copyFromRebuilt_34 : decode cX1_copyFromRebuilt 34 = .ok (.goto (-26), 3) := by decide +kernel
theorem dX1_copyFromRebuilt_37 : decode cX1_copyFromRebuilt 37 = .ok (.iload 4, 2) := by decide +kernel
theorem dX1_copyFromRebuilt_39 : decode cX1_copyFromRebuilt 39 = .ok (.ireturn, 1) := by decide +kernel
