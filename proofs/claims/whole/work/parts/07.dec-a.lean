theorem dX3_init_0 : decode cX3_init 0 = .ok (.aload_n 0, 1) := by decide +kernel
theorem dX3_init_1 : decode cX3_init 1 = .ok (.invokespecial 3, 3) := by decide +kernel
theorem dX3_init_4 : decode cX3_init 4 = .ok (.aload_n 0, 1) := by decide +kernel
theorem dX3_init_5 : decode cX3_init 5 = .ok (.sipush 512, 3) := by decide +kernel
theorem dX3_init_8 : decode cX3_init 8 = .ok (.newarray .byte, 2) := by decide +kernel
theorem dX3_init_10 : decode cX3_init 10 = .ok (.putfield 9, 3) := by decide +kernel
theorem dX3_init_13 : decode cX3_init 13 = .ok (.aload_n 0, 1) := by decide +kernel
theorem dX3_init_14 : decode cX3_init 14 = .ok (.iconst 0, 1) := by decide +kernel
theorem dX3_init_15 : decode cX3_init 15 = .ok (.putfield 15, 3) := by decide +kernel
theorem dX3_init_18 : decode cX3_init 18 = .ok (.aload_n 0, 1) := by decide +kernel
theorem dX3_init_19 : decode cX3_init 19 = .ok (.iconst 0, 1) := by decide +kernel
theorem dX3_init_20 : decode cX3_init 20 = .ok (.putfield 19, 3) := by decide +kernel
theorem dX3_init_23 : decode cX3_init 23 = .ok (.return_, 1) := by decide +kernel
theorem dX4_init_0 : decode cX4_init 0 = .ok (.aload_n 0, 1) := by decide +kernel
theorem dX4_init_1 : decode cX4_init 1 = .ok (.invokespecial 3, 3) := by decide +kernel
theorem dX4_init_4 : decode cX4_init 4 = .ok (.aload_n 0, 1) := by decide +kernel
theorem dX4_init_5 : decode cX4_init 5 = .ok (.iconst 2, 1) := by decide +kernel
theorem dX4_init_6 : decode cX4_init 6 = .ok (.putfield 9, 3) := by decide +kernel
theorem dX4_init_9 : decode cX4_init 9 = .ok (.aload_n 0, 1) := by decide +kernel
theorem dX4_init_10 : decode cX4_init 10 = .ok (.ldc 15, 2) := by decide +kernel
theorem dX4_init_12 : decode cX4_init 12 = .ok (.putfield 16, 3) := by decide +kernel
theorem dX4_init_15 : decode cX4_init 15 = .ok (.aload_n 0, 1) := by decide +kernel
theorem dX4_init_16 : decode cX4_init 16 = .ok (.iconst 4, 1) := by decide +kernel
theorem dX4_init_17 : decode cX4_init 17 = .ok (.putfield 19, 3) := by decide +kernel
theorem dX4_init_20 : decode cX4_init 20 = .ok (.aload_n 0, 1) := by decide +kernel
theorem dX4_init_21 : decode cX4_init 21 = .ok (.ldc 22, 2) := by decide +kernel
theorem dX4_init_23 : decode cX4_init 23 = .ok (.putfield 23, 3) := by decide +kernel
theorem dX4_init_26 : decode cX4_init 26 = .ok (.aload_n 0, 1) := by decide +kernel
theorem dX4_init_27 : decode cX4_init 27 = .ok (.iconst 0, 1) := by decide +kernel
theorem dX4_init_28 : decode cX4_init 28 = .ok (.putfield 26, 3) := by decide +kernel
theorem dX4_init_31 : decode cX4_init 31 = .ok (.aload_n 0, 1) := by decide +kernel
theorem dX4_init_32 : decode cX4_init 32 = .ok (.iconst 0, 1) := by decide +kernel
theorem dX4_init_33 : decode cX4_init 33 = .ok (.putfield 29, 3) := by decide +kernel
theorem dX4_init_36 : decode cX4_init 36 = .ok (.aload_n 0, 1) := by decide +kernel
theorem dX4_init_37 : decode cX4_init 37 = .ok (.bipush 8, 2) := by decide +kernel
theorem dX4_init_39 : decode cX4_init 39 = .ok (.putfield 32, 3) := by decide +kernel
theorem dX4_init_42 : decode cX4_init 42 = .ok (.aload_n 0, 1) := by decide +kernel
theorem dX4_init_43 : decode cX4_init 43 = .ok (.bipush 16, 2) := by decide +kernel
theorem dX4_init_45 : decode cX4_init 45 = .ok (.putfield 35, 3) := by decide +kernel
theorem dX4_init_48 : decode cX4_init 48 = .ok (.return_, 1) := by decide +kernel
theorem dX3_empty_0 : decode cX3_empty 0 = .ok (.aload_n 0, 1) := by decide +kernel
theorem dX3_empty_1 : decode cX3_empty 1 = .ok (.iconst 0, 1) := by decide +kernel
theorem dX3_empty_2 : decode cX3_empty 2 = .ok (.putfield 15, 3) := by decide +kernel
theorem dX3_empty_5 : decode cX3_empty 5 = .ok (.aload_n 0, 1) := by decide +kernel
theorem dX3_empty_6 : decode cX3_empty 6 = .ok (.iconst 0, 1) := by decide +kernel
theorem dX3_empty_7 : decode cX3_empty 7 = .ok (.putfield 19, 3) := by decide +kernel
theorem dX3_empty_10 : decode cX3_empty 10 = .ok (.return_, 1) := by decide +kernel
theorem dJ7_fill_0 : decode cJ7_fill 0 = .ok (.iconst 0, 1) := by decide +kernel
theorem dJ7_fill_1 : decode cJ7_fill 1 = .ok (.istore_n 2, 1) := by decide +kernel
theorem dJ7_fill_2 : decode cJ7_fill 2 = .ok (.aload_n 0, 1) := by decide +kernel
theorem dJ7_fill_3 : decode cJ7_fill 3 = .ok (.arraylength, 1) := by decide +kernel
theorem dJ7_fill_4 : decode cJ7_fill 4 = .ok (.istore_n 3, 1) := by decide +kernel
theorem dJ7_fill_5 : decode cJ7_fill 5 = .ok (.iload_n 2, 1) := by decide +kernel
theorem dJ7_fill_6 : decode cJ7_fill 6 = .ok (.iload_n 3, 1) := by decide +kernel
theorem dJ7_fill_7 : decode cJ7_fill 7 = .ok (.if_icmp .ge 13, 3) := by decide +kernel
theorem dJ7_fill_10 : decode cJ7_fill 10 = .ok (.aload_n 0, 1) := by decide +kernel
theorem dJ7_fill_11 : decode cJ7_fill 11 = .ok (.iload_n 2, 1) := by decide +kernel
theorem dJ7_fill_12 : decode cJ7_fill 12 = .ok (.iload_n 1, 1) := by decide +kernel
theorem dJ7_fill_13 : decode cJ7_fill 13 = .ok (.iastore, 1) := by decide +kernel
theorem dJ7_fill_14 : decode cJ7_fill 14 = .ok (.iinc 2 1, 3) := by decide +kernel
theorem dJ7_fill_17 : decode cJ7_fill 17 = .ok (.goto (-12), 3) := by decide +kernel
theorem dJ7_fill_20 : decode cJ7_fill 20 = .ok (.return_, 1) := by decide +kernel
theorem dX3_takes_0 : decode cX3_takes 0 = .ok (.lload_n 1, 1) := by decide +kernel
theorem dX3_takes_1 : decode cX3_takes 1 = .ok (.ldc 22, 2) := by decide +kernel
theorem dX3_takes_3 : decode cX3_takes 3 = .ok (.aload_n 0, 1) := by decide +kernel
theorem dX3_takes_4 : decode cX3_takes 4 = .ok (.getfield 15, 3) := by decide +kernel
theorem dX3_takes_7 : decode cX3_takes 7 = .ok (.isub, 1) := by decide +kernel
theorem dX3_takes_8 : decode cX3_takes 8 = .ok (.i2l, 1) := by decide +kernel
theorem dX3_takes_9 : decode cX3_takes 9 = .ok (.lcmp, 1) := by decide +kernel
theorem dX3_takes_10 : decode cX3_takes 10 = .ok (.ifCond .gt 7, 3) := by decide +kernel
theorem dX3_takes_13 : decode cX3_takes 13 = .ok (.iconst 1, 1) := by decide +kernel
theorem dX3_takes_14 : decode cX3_takes 14 = .ok (.goto 4, 3) := by decide +kernel
theorem dX3_takes_17 : decode cX3_takes 17 = .ok (.iconst 0, 1) := by decide +kernel
theorem dX3_takes_18 : decode cX3_takes 18 = .ok (.ireturn, 1) := by decide +kernel
theorem dX3_append_0 : decode cX3_append 0 = .ok (.aload_n 0, 1) := by decide +kernel
theorem dX3_append_1 : decode cX3_append 1 = .ok (.aload_n 0, 1) := by decide +kernel
theorem dX3_append_2 : decode cX3_append 2 = .ok (.getfield 15, 3) := by decide +kernel
theorem dX3_append_5 : decode cX3_append 5 = .ok (.iload_n 3, 1) := by decide +kernel
theorem dX3_append_6 : decode cX3_append 6 = .ok (.iadd, 1) := by decide +kernel
theorem dX3_append_7 : decode cX3_append 7 = .ok (.invokevirtual 23, 3) := by decide +kernel
theorem dX3_append_10 : decode cX3_append 10 = .ok (.iconst 0, 1) := by decide +kernel
theorem dX3_append_11 : decode cX3_append 11 = .ok (.istore 4, 2) := by decide +kernel
theorem dX3_append_13 : decode cX3_append 13 = .ok (.iload 4, 2) := by decide +kernel
theorem dX3_append_15 : decode cX3_append 15 = .ok (.iload_n 3, 1) := by decide +kernel
theorem dX3_append_16 : decode cX3_append 16 = .ok (.if_icmp .ge 40, 3) := by decide +kernel
theorem dX3_append_19 : decode cX3_append 19 = .ok (.aload_n 0, 1) := by decide +kernel
theorem dX3_append_20 : decode cX3_append 20 = .ok (.getfield 9, 3) := by decide +kernel
theorem dX3_append_23 : decode cX3_append 23 = .ok (.aload_n 0, 1) := by decide +kernel
theorem dX3_append_24 : decode cX3_append 24 = .ok (.getfield 15, 3) := by decide +kernel
theorem dX3_append_27 : decode cX3_append 27 = .ok (.lload_n 1, 1) := by decide +kernel
theorem dX3_append_28 : decode cX3_append 28 = .ok (.bipush 8, 2) := by decide +kernel
theorem dX3_append_30 : decode cX3_append 30 = .ok (.bipush 7, 2) := by decide +kernel
theorem dX3_append_32 : decode cX3_append 32 = .ok (.iload 4, 2) := by decide +kernel
theorem dX3_append_34 : decode cX3_append 34 = .ok (.isub, 1) := by decide +kernel
theorem dX3_append_35 : decode cX3_append 35 = .ok (.imul, 1) := by decide +kernel
theorem dX3_append_36 : decode cX3_append 36 = .ok (.lushr, 1) := by decide +kernel
theorem dX3_append_37 : decode cX3_append 37 = .ok (.l2i, 1) := by decide +kernel
theorem dX3_append_38 : decode cX3_append 38 = .ok (.i2b, 1) := by decide +kernel
theorem dX3_append_39 : decode cX3_append 39 = .ok (.bastore, 1) := by decide +kernel
theorem dX3_append_40 : decode cX3_append 40 = .ok (.aload_n 0, 1) := by decide +kernel
theorem dX3_append_41 : decode cX3_append 41 = .ok (.dup, 1) := by decide +kernel
theorem dX3_append_42 : decode cX3_append 42 = .ok (.getfield 15, 3) := by decide +kernel
theorem dX3_append_45 : decode cX3_append 45 = .ok (.iconst 1, 1) := by decide +kernel
theorem dX3_append_46 : decode cX3_append 46 = .ok (.iadd, 1) := by decide +kernel
theorem dX3_append_47 : decode cX3_append 47 = .ok (.putfield 15, 3) := by decide +kernel
theorem dX3_append_50 : decode cX3_append 50 = .ok (.iinc 4 1, 3) := by decide +kernel
theorem dX3_append_53 : decode cX3_append 53 = .ok (.goto (-40), 3) := by decide +kernel
theorem dX3_append_56 : decode cX3_append 56 = .ok (.return_, 1) := by decide +kernel
theorem dX3_makeRoom_0 : decode cX3_makeRoom 0 = .ok (.iload_n 1, 1) := by decide +kernel
theorem dX3_makeRoom_1 : decode cX3_makeRoom 1 = .ok (.aload_n 0, 1) := by decide +kernel
theorem dX3_makeRoom_2 : decode cX3_makeRoom 2 = .ok (.getfield 9, 3) := by decide +kernel
theorem dX3_makeRoom_5 : decode cX3_makeRoom 5 = .ok (.arraylength, 1) := by decide +kernel
theorem dX3_makeRoom_6 : decode cX3_makeRoom 6 = .ok (.if_icmp .le 18, 3) := by decide +kernel
theorem dX3_makeRoom_9 : decode cX3_makeRoom 9 = .ok (.aload_n 0, 1) := by decide +kernel
theorem dX3_makeRoom_10 : decode cX3_makeRoom 10 = .ok (.aload_n 0, 1) := by decide +kernel
theorem dX3_makeRoom_11 : decode cX3_makeRoom 11 = .ok (.getfield 9, 3) := by decide +kernel
theorem dX3_makeRoom_14 : decode cX3_makeRoom 14 = .ok (.iload_n 1, 1) := by decide +kernel
theorem dX3_makeRoom_15 : decode cX3_makeRoom 15 = .ok (.invokestatic 27, 3) := by decide +kernel
theorem dX3_makeRoom_18 : decode cX3_makeRoom 18 = .ok (.invokestatic 31, 3) := by decide +kernel
theorem dX3_makeRoom_21 : decode cX3_makeRoom 21 = .ok (.putfield 9, 3) := by decide +kernel
theorem dX3_makeRoom_24 : decode cX3_makeRoom 24 = .ok (.return_, 1) := by decide +kernel
theorem dJ7_copyOf_0 : decode cJ7_copyOf 0 = .ok (.iload_n 1, 1) := by decide +kernel
theorem dJ7_copyOf_1 : decode cJ7_copyOf 1 = .ok (.aload_n 0, 1) := by decide +kernel
theorem dJ7_copyOf_2 : decode cJ7_copyOf 2 = .ok (.arraylength, 1) := by decide +kernel
theorem dJ7_copyOf_3 : decode cJ7_copyOf 3 = .ok (.if_icmp .ne 11, 3) := by decide +kernel
theorem dJ7_copyOf_6 : decode cJ7_copyOf 6 = .ok (.aload_n 0, 1) := by decide +kernel
theorem dJ7_copyOf_7 : decode cJ7_copyOf 7 = .ok (.invokevirtual 310, 3) := by decide +kernel
theorem dJ7_copyOf_10 : decode cJ7_copyOf 10 = .ok (.checkcast 311, 3) := by decide +kernel
theorem dJ7_copyOf_13 : decode cJ7_copyOf 13 = .ok (.areturn, 1) := by decide +kernel
theorem dJ7_copyOf_14 : decode cJ7_copyOf 14 = .ok (.iload_n 1, 1) := by decide +kernel
theorem dJ7_copyOf_15 : decode cJ7_copyOf 15 = .ok (.newarray .byte, 2) := by decide +kernel
theorem dJ7_copyOf_17 : decode cJ7_copyOf 17 = .ok (.astore_n 2, 1) := by decide +kernel
theorem dJ7_copyOf_18 : decode cJ7_copyOf 18 = .ok (.aload_n 0, 1) := by decide +kernel
theorem dJ7_copyOf_19 : decode cJ7_copyOf 19 = .ok (.iconst 0, 1) := by decide +kernel
theorem dJ7_copyOf_20 : decode cJ7_copyOf 20 = .ok (.aload_n 2, 1) := by decide +kernel
theorem dJ7_copyOf_21 : decode cJ7_copyOf 21 = .ok (.iconst 0, 1) := by decide +kernel
theorem dJ7_copyOf_22 : decode cJ7_copyOf 22 = .ok (.aload_n 0, 1) := by decide +kernel
theorem dJ7_copyOf_23 : decode cJ7_copyOf 23 = .ok (.arraylength, 1) := by decide +kernel
theorem dJ7_copyOf_24 : decode cJ7_copyOf 24 = .ok (.iload_n 1, 1) := by decide +kernel
theorem dJ7_copyOf_25 : decode cJ7_copyOf 25 = .ok (.invokestatic 304, 3) := by decide +kernel
theorem dJ7_copyOf_28 : decode cJ7_copyOf 28 = .ok (.invokestatic 150, 3) := by decide +kernel
theorem dJ7_copyOf_31 : decode cJ7_copyOf 31 = .ok (.aload_n 2, 1) := by decide +kernel
theorem dJ7_copyOf_32 : decode cJ7_copyOf 32 = .ok (.areturn, 1) := by decide +kernel
theorem dX3_repeat_0 : decode cX3_repeat 0 = .ok (.aload_n 0, 1) := by decide +kernel
theorem dX3_repeat_1 : decode cX3_repeat 1 = .ok (.aload_n 0, 1) := by decide +kernel
theorem dX3_repeat_2 : decode cX3_repeat 2 = .ok (.getfield 15, 3) := by decide +kernel
theorem dX3_repeat_5 : decode cX3_repeat 5 = .ok (.iload_n 2, 1) := by decide +kernel
theorem dX3_repeat_6 : decode cX3_repeat 6 = .ok (.iadd, 1) := by decide +kernel
theorem dX3_repeat_7 : decode cX3_repeat 7 = .ok (.invokevirtual 23, 3) := by decide +kernel
theorem dX3_repeat_10 : decode cX3_repeat 10 = .ok (.iconst 0, 1) := by decide +kernel
theorem dX3_repeat_11 : decode cX3_repeat 11 = .ok (.istore_n 3, 1) := by decide +kernel
theorem dX3_repeat_12 : decode cX3_repeat 12 = .ok (.iload_n 3, 1) := by decide +kernel
theorem dX3_repeat_13 : decode cX3_repeat 13 = .ok (.iload_n 2, 1) := by decide +kernel
theorem dX3_repeat_14 : decode cX3_repeat 14 = .ok (.if_icmp .ge 39, 3) := by decide +kernel
theorem dX3_repeat_17 : decode cX3_repeat 17 = .ok (.aload_n 0, 1) := by decide +kernel
theorem dX3_repeat_18 : decode cX3_repeat 18 = .ok (.getfield 9, 3) := by decide +kernel
theorem dX3_repeat_21 : decode cX3_repeat 21 = .ok (.aload_n 0, 1) := by decide +kernel
theorem dX3_repeat_22 : decode cX3_repeat 22 = .ok (.getfield 15, 3) := by decide +kernel
theorem dX3_repeat_25 : decode cX3_repeat 25 = .ok (.aload_n 0, 1) := by decide +kernel
theorem dX3_repeat_26 : decode cX3_repeat 26 = .ok (.getfield 9, 3) := by decide +kernel
theorem dX3_repeat_29 : decode cX3_repeat 29 = .ok (.aload_n 0, 1) := by decide +kernel
theorem dX3_repeat_30 : decode cX3_repeat 30 = .ok (.getfield 15, 3) := by decide +kernel
theorem dX3_repeat_33 : decode cX3_repeat 33 = .ok (.iload_n 1, 1) := by decide +kernel
theorem dX3_repeat_34 : decode cX3_repeat 34 = .ok (.isub, 1) := by decide +kernel
theorem dX3_repeat_35 : decode cX3_repeat 35 = .ok (.baload, 1) := by decide +kernel
theorem dX3_repeat_36 : decode cX3_repeat 36 = .ok (.bastore, 1) := by decide +kernel
theorem dX3_repeat_37 : decode cX3_repeat 37 = .ok (.aload_n 0, 1) := by decide +kernel
theorem dX3_repeat_38 : decode cX3_repeat 38 = .ok (.dup, 1) := by decide +kernel
theorem dX3_repeat_39 : decode cX3_repeat 39 = .ok (.getfield 15, 3) := by decide +kernel
theorem dX3_repeat_42 : decode cX3_repeat 42 = .ok (.iconst 1, 1) := by decide +kernel
theorem dX3_repeat_43 : decode cX3_repeat 43 = .ok (.iadd, 1) := by decide +kernel
theorem dX3_repeat_44 : decode cX3_repeat 44 = .ok (.putfield 15, 3) := by decide +kernel
theorem dX3_repeat_47 : decode cX3_repeat 47 = .ok (.iinc 3 1, 3) := by decide +kernel
theorem dX3_repeat_50 : decode cX3_repeat 50 = .ok (.goto (-38), 3) := by decide +kernel
theorem dX3_repeat_53 : decode cX3_repeat 53 = .ok (.return_, 1) := by decide +kernel
theorem dX3_hasPlace_0 : decode cX3_hasPlace 0 = .ok (.iload_n 1, 1) := by decide +kernel
theorem dX3_hasPlace_1 : decode cX3_hasPlace 1 = .ok (.ifCond .lt 15, 3) := by decide +kernel
theorem dX3_hasPlace_4 : decode cX3_hasPlace 4 = .ok (.iload_n 1, 1) := by decide +kernel
theorem dX3_hasPlace_5 : decode cX3_hasPlace 5 = .ok (.aload_n 0, 1) := by decide +kernel
theorem dX3_hasPlace_6 : decode cX3_hasPlace 6 = .ok (.getfield 15, 3) := by decide +kernel
theorem dX3_hasPlace_9 : decode cX3_hasPlace 9 = .ok (.if_icmp .ge 7, 3) := by decide +kernel
theorem dX3_hasPlace_12 : decode cX3_hasPlace 12 = .ok (.iconst 1, 1) := by decide +kernel
theorem dX3_hasPlace_13 : decode cX3_hasPlace 13 = .ok (.goto 4, 3) := by decide +kernel
theorem dX3_hasPlace_16 : decode cX3_hasPlace 16 = .ok (.iconst 0, 1) := by decide +kernel
theorem dX3_hasPlace_17 : decode cX3_hasPlace 17 = .ok (.ireturn, 1) := by decide +kernel
theorem dX4_endOf_0 : decode cX4_endOf 0 = .ok (.iconst 0, 1) := by decide +kernel
theorem dX4_endOf_1 : decode cX4_endOf 1 = .ok (.iload_n 1, 1) := by decide +kernel
theorem dX4_endOf_2 : decode cX4_endOf 2 = .ok (.aload_n 0, 1) := by decide +kernel
theorem dX4_endOf_3 : decode cX4_endOf 3 = .ok (.getfield 29, 3) := by decide +kernel
theorem dX4_endOf_6 : decode cX4_endOf 6 = .ok (.isub, 1) := by decide +kernel
theorem dX4_endOf_7 : decode cX4_endOf 7 = .ok (.invokestatic 38, 3) := by decide +kernel
theorem dX4_endOf_10 : decode cX4_endOf 10 = .ok (.ireturn, 1) := by decide +kernel
theorem dX4_lastOf_0 : decode cX4_lastOf 0 = .ok (.iload_n 1, 1) := by decide +kernel
theorem dX4_lastOf_1 : decode cX4_lastOf 1 = .ok (.iconst 1, 1) := by decide +kernel
theorem dX4_lastOf_2 : decode cX4_lastOf 2 = .ok (.isub, 1) := by decide +kernel
theorem dX4_lastOf_3 : decode cX4_lastOf 3 = .ok (.aload_n 0, 1) := by decide +kernel
theorem dX4_lastOf_4 : decode cX4_lastOf 4 = .ok (.getfield 26, 3) := by decide +kernel
theorem dX4_lastOf_7 : decode cX4_lastOf 7 = .ok (.isub, 1) := by decide +kernel
theorem dX4_lastOf_8 : decode cX4_lastOf 8 = .ok (.ireturn, 1) := by decide +kernel
