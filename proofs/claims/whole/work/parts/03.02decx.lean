theorem dX4_firstDifference_15 : decode cX4_firstDifference 15 = .ok (.aload_n 1, 1) := by decide +kernel
theorem dX4_firstDifference_16 : decode cX4_firstDifference 16 = .ok (.iload_n 2, 1) := by decide +kernel
theorem dX4_firstDifference_17 : decode cX4_firstDifference 17 = .ok (.invokevirtual 65, 3) := by decide +kernel
theorem dX4_firstDifference_20 : decode cX4_firstDifference 20 = .ok (.if_icmp .eq 5, 3) := by decide +kernel
theorem dX4_firstDifference_23 : decode cX4_firstDifference 23 = .ok (.iload_n 2, 1) := by decide +kernel
theorem dX4_firstDifference_24 : decode cX4_firstDifference 24 = .ok (.ireturn, 1) := by decide +kernel
theorem dX4_firstDifference_25 : decode cX4_firstDifference 25 = .ok (.iinc 2 1, 3) := by decide +kernel
theorem dX4_firstDifference_28 : decode cX4_firstDifference 28 = .ok (.goto (-26), 3) := by decide +kernel
theorem dX4_firstDifference_31 : decode cX4_firstDifference 31 = .ok (.iconst (-1), 1) := by decide +kernel
theorem dX4_firstDifference_32 : decode cX4_firstDifference 32 = .ok (.ireturn, 1) := by decide +kernel
theorem dX4_differences_0 : decode cX4_differences 0 = .ok (.iconst 0, 1) := by decide +kernel
theorem dX4_differences_1 : decode cX4_differences 1 = .ok (.istore_n 2, 1) := by decide +kernel
theorem dX4_differences_2 : decode cX4_differences 2 = .ok (.iconst 0, 1) := by decide +kernel
theorem dX4_differences_3 : decode cX4_differences 3 = .ok (.istore_n 3, 1) := by decide +kernel
theorem dX4_differences_4 : decode cX4_differences 4 = .ok (.iload_n 3, 1) := by decide +kernel
theorem dX4_differences_5 : decode cX4_differences 5 = .ok (.aload_n 0, 1) := by decide +kernel
theorem dX4_differences_6 : decode cX4_differences 6 = .ok (.getfield 15, 3) := by decide +kernel
theorem dX4_differences_9 : decode cX4_differences 9 = .ok (.if_icmp .ge 30, 3) := by decide +kernel
theorem dX4_differences_12 : decode cX4_differences 12 = .ok (.iload_n 2, 1) := by decide +kernel
theorem dX4_differences_13 : decode cX4_differences 13 = .ok (.aload_n 0, 1) := by decide +kernel
theorem dX4_differences_14 : decode cX4_differences 14 = .ok (.iload_n 3, 1) := by decide +kernel
theorem dX4_differences_15 : decode cX4_differences 15 = .ok (.invokevirtual 58, 3) := by decide +kernel
theorem dX4_differences_18 : decode cX4_differences 18 = .ok (.aload_n 1, 1) := by decide +kernel
theorem dX4_differences_19 : decode cX4_differences 19 = .ok (.iload_n 3, 1) := by decide +kernel
theorem dX4_differences_20 : decode cX4_differences 20 = .ok (.invokevirtual 65, 3) := by decide +kernel
theorem dX4_differences_23 : decode cX4_differences 23 = .ok (.if_icmp .ne 7, 3) := by decide +kernel
theorem dX4_differences_26 : decode cX4_differences 26 = .ok (.iconst 0, 1) := by decide +kernel
theorem dX4_differences_27 : decode cX4_differences 27 = .ok (.goto 4, 3) := by decide +kernel
theorem dX4_differences_30 : decode cX4_differences 30 = .ok (.iconst 1, 1) := by decide +kernel
theorem dX4_differences_31 : decode cX4_differences 31 = .ok (.iadd, 1) := by decide +kernel
theorem dX4_differences_32 : decode cX4_differences 32 = .ok (.istore_n 2, 1) := by decide +kernel
theorem dX4_differences_33 : decode cX4_differences 33 = .ok (.iinc 3 1, 3) := by decide +kernel
theorem dX4_differences_36 : decode cX4_differences 36 = .ok (.goto (-32), 3) := by decide +kernel
theorem dX4_differences_39 : decode cX4_differences 39 = .ok (.iload_n 2, 1) := by decide +kernel
theorem dX4_differences_40 : decode cX4_differences 40 = .ok (.ireturn, 1) := by decide +kernel
theorem dX5_init_0 : decode cX5_init 0 = .ok (.aload_n 0, 1) := by decide +kernel
theorem dX5_init_1 : decode cX5_init 1 = .ok (.invokespecial 3, 3) := by decide +kernel
theorem dX5_init_4 : decode cX5_init 4 = .ok (.aload_n 0, 1) := by decide +kernel
theorem dX5_init_5 : decode cX5_init 5 = .ok (.sipush 200, 3) := by decide +kernel
theorem dX5_init_8 : decode cX5_init 8 = .ok (.newarray .int, 2) := by decide +kernel
theorem dX5_init_10 : decode cX5_init 10 = .ok (.putfield 9, 3) := by decide +kernel
theorem dX5_init_13 : decode cX5_init 13 = .ok (.aload_n 0, 1) := by decide +kernel
theorem dX5_init_14 : decode cX5_init 14 = .ok (.sipush 200, 3) := by decide +kernel
theorem dX5_init_17 : decode cX5_init 17 = .ok (.newarray .int, 2) := by decide +kernel
theorem dX5_init_19 : decode cX5_init 19 = .ok (.putfield 15, 3) := by decide +kernel
theorem dX5_init_22 : decode cX5_init 22 = .ok (.aload_n 0, 1) := by decide +kernel
theorem dX5_init_23 : decode cX5_init 23 = .ok (.iconst 0, 1) := by decide +kernel
theorem dX5_init_24 : decode cX5_init 24 = .ok (.putfield 18, 3) := by decide +kernel
theorem dX5_init_27 : decode cX5_init 27 = .ok (.return_, 1) := by decide +kernel
theorem dX5_size_0 : decode cX5_size 0 = .ok (.aload_n 0, 1) := by decide +kernel
theorem dX5_size_1 : decode cX5_size 1 = .ok (.getfield 18, 3) := by decide +kernel
theorem dX5_size_4 : decode cX5_size 4 = .ok (.ireturn, 1) := by decide +kernel
theorem dX5_callAt_0 : decode cX5_callAt 0 = .ok (.iload_n 1, 1) := by decide +kernel
theorem dX5_callAt_1 : decode cX5_callAt 1 = .ok (.aload_n 0, 1) := by decide +kernel
theorem dX5_callAt_2 : decode cX5_callAt 2 = .ok (.getfield 18, 3) := by decide +kernel
theorem dX5_callAt_5 : decode cX5_callAt 5 = .ok (.invokestatic 22, 3) := by decide +kernel
theorem dX5_callAt_8 : decode cX5_callAt 8 = .ok (.ifCond .eq 12, 3) := by decide +kernel
theorem dX5_callAt_11 : decode cX5_callAt 11 = .ok (.aload_n 0, 1) := by decide +kernel
theorem dX5_callAt_12 : decode cX5_callAt 12 = .ok (.getfield 9, 3) := by decide +kernel
theorem dX5_callAt_15 : decode cX5_callAt 15 = .ok (.iload_n 1, 1) := by decide +kernel
theorem dX5_callAt_16 : decode cX5_callAt 16 = .ok (.iaload, 1) := by decide +kernel
theorem dX5_callAt_17 : decode cX5_callAt 17 = .ok (.goto 4, 3) := by decide +kernel
theorem dX5_callAt_20 : decode cX5_callAt 20 = .ok (.iconst (-1), 1) := by decide +kernel
theorem dX5_callAt_21 : decode cX5_callAt 21 = .ok (.ireturn, 1) := by decide +kernel
theorem dX5_resultAt_0 : decode cX5_resultAt 0 = .ok (.iload_n 1, 1) := by decide +kernel
theorem dX5_resultAt_1 : decode cX5_resultAt 1 = .ok (.aload_n 0, 1) := by decide +kernel
theorem dX5_resultAt_2 : decode cX5_resultAt 2 = .ok (.getfield 18, 3) := by decide +kernel
theorem dX5_resultAt_5 : decode cX5_resultAt 5 = .ok (.invokestatic 22, 3) := by decide +kernel
theorem dX5_resultAt_8 : decode cX5_resultAt 8 = .ok (.ifCond .eq 12, 3) := by decide +kernel
theorem dX5_resultAt_11 : decode cX5_resultAt 11 = .ok (.aload_n 0, 1) := by decide +kernel
theorem dX5_resultAt_12 : decode cX5_resultAt 12 = .ok (.getfield 15, 3) := by decide +kernel
theorem dX5_resultAt_15 : decode cX5_resultAt 15 = .ok (.iload_n 1, 1) := by decide +kernel
theorem dX5_resultAt_16 : decode cX5_resultAt 16 = .ok (.iaload, 1) := by decide +kernel
theorem dX5_resultAt_17 : decode cX5_resultAt 17 = .ok (.goto 4, 3) := by decide +kernel
theorem dX5_resultAt_20 : decode cX5_resultAt 20 = .ok (.iconst (-1), 1) := by decide +kernel
theorem dX5_resultAt_21 : decode cX5_resultAt 21 = .ok (.ireturn, 1) := by decide +kernel
theorem dX5_add_0 : decode cX5_add 0 = .ok (.aload_n 0, 1) := by decide +kernel
theorem dX5_add_1 : decode cX5_add 1 = .ok (.getfield 18, 3) := by decide +kernel
theorem dX5_add_4 : decode cX5_add 4 = .ok (.sipush 200, 3) := by decide +kernel
theorem dX5_add_7 : decode cX5_add 7 = .ok (.if_icmp .ge 33, 3) := by decide +kernel
theorem dX5_add_10 : decode cX5_add 10 = .ok (.aload_n 0, 1) := by decide +kernel
theorem dX5_add_11 : decode cX5_add 11 = .ok (.getfield 9, 3) := by decide +kernel
theorem dX5_add_14 : decode cX5_add 14 = .ok (.aload_n 0, 1) := by decide +kernel
theorem dX5_add_15 : decode cX5_add 15 = .ok (.getfield 18, 3) := by decide +kernel
theorem dX5_add_18 : decode cX5_add 18 = .ok (.iload_n 1, 1) := by decide +kernel
theorem dX5_add_19 : decode cX5_add 19 = .ok (.iastore, 1) := by decide +kernel
theorem dX5_add_20 : decode cX5_add 20 = .ok (.aload_n 0, 1) := by decide +kernel
theorem dX5_add_21 : decode cX5_add 21 = .ok (.getfield 15, 3) := by decide +kernel
theorem dX5_add_24 : decode cX5_add 24 = .ok (.aload_n 0, 1) := by decide +kernel
theorem dX5_add_25 : decode cX5_add 25 = .ok (.getfield 18, 3) := by decide +kernel
theorem dX5_add_28 : decode cX5_add 28 = .ok (.iload_n 2, 1) := by decide +kernel
theorem dX5_add_29 : decode cX5_add 29 = .ok (.iastore, 1) := by decide +kernel
theorem dX5_add_30 : decode cX5_add 30 = .ok (.aload_n 0, 1) := by decide +kernel
theorem dX5_add_31 : decode cX5_add 31 = .ok (.dup, 1) := by decide +kernel
theorem dX5_add_32 : decode cX5_add 32 = .ok (.getfield 18, 3) := by decide +kernel
theorem dX5_add_35 : decode cX5_add 35 = .ok (.iconst 1, 1) := by decide +kernel
theorem dX5_add_36 : decode cX5_add 36 = .ok (.iadd, 1) := by decide +kernel
theorem dX5_add_37 : decode cX5_add 37 = .ok (.putfield 18, 3) := by decide +kernel
theorem dX5_add_40 : decode cX5_add 40 = .ok (.return_, 1) := by decide +kernel
theorem dX5_move_0 : decode cX5_move 0 = .ok (.iload_n 1, 1) := by decide +kernel
theorem dX5_move_1 : decode cX5_move 1 = .ok (.aload_n 0, 1) := by decide +kernel
theorem dX5_move_2 : decode cX5_move 2 = .ok (.getfield 18, 3) := by decide +kernel
theorem dX5_move_5 : decode cX5_move 5 = .ok (.invokestatic 22, 3) := by decide +kernel
theorem dX5_move_8 : decode cX5_move 8 = .ok (.ifCond .eq 26, 3) := by decide +kernel
theorem dX5_move_11 : decode cX5_move 11 = .ok (.iload_n 2, 1) := by decide +kernel
theorem dX5_move_12 : decode cX5_move 12 = .ok (.aload_n 0, 1) := by decide +kernel
theorem dX5_move_13 : decode cX5_move 13 = .ok (.getfield 18, 3) := by decide +kernel
theorem dX5_move_16 : decode cX5_move 16 = .ok (.invokestatic 22, 3) := by decide +kernel
theorem dX5_move_19 : decode cX5_move 19 = .ok (.ifCond .eq 15, 3) := by decide +kernel
theorem dX5_move_22 : decode cX5_move 22 = .ok (.aload_n 0, 1) := by decide +kernel
theorem dX5_move_23 : decode cX5_move 23 = .ok (.getfield 9, 3) := by decide +kernel
theorem dX5_move_26 : decode cX5_move 26 = .ok (.iload_n 2, 1) := by decide +kernel
theorem dX5_move_27 : decode cX5_move 27 = .ok (.aload_n 0, 1) := by decide +kernel
theorem dX5_move_28 : decode cX5_move 28 = .ok (.getfield 9, 3) := by decide +kernel
theorem dX5_move_31 : decode cX5_move 31 = .ok (.iload_n 1, 1) := by decide +kernel
theorem dX5_move_32 : decode cX5_move 32 = .ok (.iaload, 1) := by decide +kernel
theorem dX5_move_33 : decode cX5_move 33 = .ok (.iastore, 1) := by decide +kernel
theorem dX5_move_34 : decode cX5_move 34 = .ok (.return_, 1) := by decide +kernel
theorem dX5_cutTo_0 : decode cX5_cutTo 0 = .ok (.iload_n 1, 1) := by decide +kernel
theorem dX5_cutTo_1 : decode cX5_cutTo 1 = .ok (.aload_n 0, 1) := by decide +kernel
theorem dX5_cutTo_2 : decode cX5_cutTo 2 = .ok (.getfield 18, 3) := by decide +kernel
theorem dX5_cutTo_5 : decode cX5_cutTo 5 = .ok (.invokestatic 22, 3) := by decide +kernel
theorem dX5_cutTo_8 : decode cX5_cutTo 8 = .ok (.ifCond .eq 8, 3) := by decide +kernel
theorem dX5_cutTo_11 : decode cX5_cutTo 11 = .ok (.aload_n 0, 1) := by decide +kernel
theorem dX5_cutTo_12 : decode cX5_cutTo 12 = .ok (.iload_n 1, 1) := by decide +kernel
theorem dX5_cutTo_13 : decode cX5_cutTo 13 = .ok (.putfield 18, 3) := by decide +kernel
theorem dX5_cutTo_16 : decode cX5_cutTo 16 = .ok (.return_, 1) := by decide +kernel
theorem dX5_copyStart_0 : decode cX5_copyStart 0 = .ok (.aload_n 0, 1) := by decide +kernel
theorem dX5_copyStart_1 : decode cX5_copyStart 1 = .ok (.iconst 0, 1) := by decide +kernel
theorem dX5_copyStart_2 : decode cX5_copyStart 2 = .ok (.putfield 18, 3) := by decide +kernel
theorem dX5_copyStart_5 : decode cX5_copyStart 5 = .ok (.iconst 0, 1) := by decide +kernel
theorem dX5_copyStart_6 : decode cX5_copyStart 6 = .ok (.istore_n 3, 1) := by decide +kernel
theorem dX5_copyStart_7 : decode cX5_copyStart 7 = .ok (.iload_n 3, 1) := by decide +kernel
theorem dX5_copyStart_8 : decode cX5_copyStart 8 = .ok (.iload_n 2, 1) := by decide +kernel
theorem dX5_copyStart_9 : decode cX5_copyStart 9 = .ok (.if_icmp .ge 33, 3) := by decide +kernel
theorem dX5_copyStart_12 : decode cX5_copyStart 12 = .ok (.iload_n 3, 1) := by decide +kernel
theorem dX5_copyStart_13 : decode cX5_copyStart 13 = .ok (.aload_n 1, 1) := by decide +kernel
theorem dX5_copyStart_14 : decode cX5_copyStart 14 = .ok (.getfield 18, 3) := by decide +kernel
theorem dX5_copyStart_17 : decode cX5_copyStart 17 = .ok (.if_icmp .ge 25, 3) := by decide +kernel
theorem dX5_copyStart_20 : decode cX5_copyStart 20 = .ok (.aload_n 0, 1) := by decide +kernel
theorem dX5_copyStart_21 : decode cX5_copyStart 21 = .ok (.aload_n 1, 1) := by decide +kernel
theorem dX5_copyStart_22 : decode cX5_copyStart 22 = .ok (.getfield 9, 3) := by decide +kernel
theorem dX5_copyStart_25 : decode cX5_copyStart 25 = .ok (.iload_n 3, 1) := by decide +kernel
theorem dX5_copyStart_26 : decode cX5_copyStart 26 = .ok (.iaload, 1) := by decide +kernel
theorem dX5_copyStart_27 : decode cX5_copyStart 27 = .ok (.aload_n 1, 1) := by decide +kernel
theorem dX5_copyStart_28 : decode cX5_copyStart 28 = .ok (.getfield 15, 3) := by decide +kernel
theorem dX5_copyStart_31 : decode cX5_copyStart 31 = .ok (.iload_n 3, 1) := by decide +kernel
theorem dX5_copyStart_32 : decode cX5_copyStart 32 = .ok (.iaload, 1) := by decide +kernel
theorem dX5_copyStart_33 : decode cX5_copyStart 33 = .ok (.invokevirtual 26, 3) := by decide +kernel
theorem dX5_copyStart_36 : decode cX5_copyStart 36 = .ok (.iinc 3 1, 3) := by decide +kernel
theorem dX5_copyStart_39 : decode cX5_copyStart 39 = .ok (.goto (-32), 3) := by decide +kernel
theorem dX5_copyStart_42 : decode cX5_copyStart 42 = .ok (.return_, 1) := by decide +kernel
theorem dX5_takeResults_0 : decode cX5_takeResults 0 = .ok (.iconst 0, 1) := by decide +kernel
theorem dX5_takeResults_1 : decode cX5_takeResults 1 = .ok (.istore_n 2, 1) := by decide +kernel
theorem dX5_takeResults_2 : decode cX5_takeResults 2 = .ok (.iload_n 2, 1) := by decide +kernel
theorem dX5_takeResults_3 : decode cX5_takeResults 3 = .ok (.aload_n 0, 1) := by decide +kernel
theorem dX5_takeResults_4 : decode cX5_takeResults 4 = .ok (.getfield 18, 3) := by decide +kernel
theorem dX5_takeResults_7 : decode cX5_takeResults 7 = .ok (.if_icmp .ge 20, 3) := by decide +kernel
theorem dX5_takeResults_10 : decode cX5_takeResults 10 = .ok (.aload_n 0, 1) := by decide +kernel
theorem dX5_takeResults_11 : decode cX5_takeResults 11 = .ok (.getfield 15, 3) := by decide +kernel
theorem dX5_takeResults_14 : decode cX5_takeResults 14 = .ok (.iload_n 2, 1) := by decide +kernel
theorem dX5_takeResults_15 : decode cX5_takeResults 15 = .ok (.aload_n 1, 1) := by decide +kernel
theorem dX5_takeResults_16 : decode cX5_takeResults 16 = .ok (.iload_n 2, 1) := by decide +kernel
theorem dX5_takeResults_17 : decode cX5_takeResults 17 = .ok (.invokevirtual 30, 3) := by decide +kernel
theorem dX5_takeResults_20 : decode cX5_takeResults 20 = .ok (.iastore, 1) := by decide +kernel
theorem dX5_takeResults_21 : decode cX5_takeResults 21 = .ok (.iinc 2 1, 3) := by decide +kernel
theorem dX5_takeResults_24 : decode cX5_takeResults 24 = .ok (.goto (-22), 3) := by decide +kernel
theorem dX5_takeResults_27 : decode cX5_takeResults 27 = .ok (.return_, 1) := by decide +kernel
theorem dX5_hasCallOf_0 : decode cX5_hasCallOf 0 = .ok (.iconst 0, 1) := by decide +kernel
theorem dX5_hasCallOf_1 : decode cX5_hasCallOf 1 = .ok (.istore_n 2, 1) := by decide +kernel
theorem dX5_hasCallOf_2 : decode cX5_hasCallOf 2 = .ok (.iload_n 2, 1) := by decide +kernel
theorem dX5_hasCallOf_3 : decode cX5_hasCallOf 3 = .ok (.aload_n 0, 1) := by decide +kernel
theorem dX5_hasCallOf_4 : decode cX5_hasCallOf 4 = .ok (.getfield 18, 3) := by decide +kernel
theorem dX5_hasCallOf_7 : decode cX5_hasCallOf 7 = .ok (.if_icmp .ge 24, 3) := by decide +kernel
theorem dX5_hasCallOf_10 : decode cX5_hasCallOf 10 = .ok (.aload_n 0, 1) := by decide +kernel
theorem dX5_hasCallOf_11 : decode cX5_hasCallOf 11 = .ok (.getfield 9, 3) := by decide +kernel
theorem dX5_hasCallOf_14 : decode cX5_hasCallOf 14 = .ok (.iload_n 2, 1) := by decide +kernel
theorem dX5_hasCallOf_15 : decode cX5_hasCallOf 15 = .ok (.iaload, 1) := by decide +kernel
theorem dX5_hasCallOf_16 : decode cX5_hasCallOf 16 = .ok (.invokestatic 36, 3) := by decide +kernel
theorem dX5_hasCallOf_19 : decode cX5_hasCallOf 19 = .ok (.iload_n 1, 1) := by decide +kernel
theorem dX5_hasCallOf_20 : decode cX5_hasCallOf 20 = .ok (.if_icmp .ne 5, 3) := by decide +kernel
theorem dX5_hasCallOf_23 : decode cX5_hasCallOf 23 = .ok (.iconst 1, 1) := by decide +kernel
theorem dX5_hasCallOf_24 : decode cX5_hasCallOf 24 = .ok (.ireturn, 1) := by decide +kernel
theorem dX5_hasCallOf_25 : decode cX5_hasCallOf 25 = .ok (.iinc 2 1, 3) := by decide +kernel
theorem dX5_hasCallOf_28 : decode cX5_hasCallOf 28 = .ok (.goto (-26), 3) := by decide +kernel
theorem dX5_hasCallOf_31 : decode cX5_hasCallOf 31 = .ok (.iconst 0, 1) := by decide +kernel
theorem dX5_hasCallOf_32 : decode cX5_hasCallOf 32 = .ok (.ireturn, 1) := by decide +kernel
theorem dX5_hasSameCalls_0 : decode cX5_hasSameCalls 0 = .ok (.aload_n 0, 1) := by decide +kernel
theorem dX5_hasSameCalls_1 : decode cX5_hasSameCalls 1 = .ok (.getfield 18, 3) := by decide +kernel
theorem dX5_hasSameCalls_4 : decode cX5_hasSameCalls 4 = .ok (.aload_n 1, 1) := by decide +kernel
theorem dX5_hasSameCalls_5 : decode cX5_hasSameCalls 5 = .ok (.getfield 18, 3) := by decide +kernel
theorem dX5_hasSameCalls_8 : decode cX5_hasSameCalls 8 = .ok (.if_icmp .eq 5, 3) := by decide +kernel
theorem dX5_hasSameCalls_11 : decode cX5_hasSameCalls 11 = .ok (.iconst 0, 1) := by decide +kernel
theorem dX5_hasSameCalls_12 : decode cX5_hasSameCalls 12 = .ok (.ireturn, 1) := by decide +kernel
theorem dX5_hasSameCalls_13 : decode cX5_hasSameCalls 13 = .ok (.iconst 0, 1) := by decide +kernel
theorem dX5_hasSameCalls_14 : decode cX5_hasSameCalls 14 = .ok (.istore_n 2, 1) := by decide +kernel
theorem dX5_hasSameCalls_15 : decode cX5_hasSameCalls 15 = .ok (.iload_n 2, 1) := by decide +kernel
theorem dX5_hasSameCalls_16 : decode cX5_hasSameCalls 16 = .ok (.aload_n 0, 1) := by decide +kernel
theorem dX5_hasSameCalls_17 : decode cX5_hasSameCalls 17 = .ok (.getfield 18, 3) := by decide +kernel
theorem dX5_hasSameCalls_20 : decode cX5_hasSameCalls 20 = .ok (.if_icmp .ge 26, 3) := by decide +kernel
theorem dX5_hasSameCalls_23 : decode cX5_hasSameCalls 23 = .ok (.aload_n 0, 1) := by decide +kernel
theorem dX5_hasSameCalls_24 : decode cX5_hasSameCalls 24 = .ok (.getfield 9, 3) := by decide +kernel
theorem dX5_hasSameCalls_27 : decode cX5_hasSameCalls 27 = .ok (.iload_n 2, 1) := by decide +kernel
theorem dX5_hasSameCalls_28 : decode cX5_hasSameCalls 28 = .ok (.iaload, 1) := by decide +kernel
theorem dX5_hasSameCalls_29 : decode cX5_hasSameCalls 29 = .ok (.aload_n 1, 1) := by decide +kernel
theorem dX5_hasSameCalls_30 : decode cX5_hasSameCalls 30 = .ok (.getfield 9, 3) := by decide +kernel
theorem dX5_hasSameCalls_33 : decode cX5_hasSameCalls 33 = .ok (.iload_n 2, 1) := by decide +kernel
theorem dX5_hasSameCalls_34 : decode cX5_hasSameCalls 34 = .ok (.iaload, 1) := by decide +kernel
theorem dX5_hasSameCalls_35 : decode cX5_hasSameCalls 35 = .ok (.if_icmp .eq 5, 3) := by decide +kernel
theorem dX5_hasSameCalls_38 : decode cX5_hasSameCalls 38 = .ok (.iconst 0, 1) := by decide +kernel
theorem dX5_hasSameCalls_39 : decode cX5_hasSameCalls 39 = .ok (.ireturn, 1) := by decide +kernel
theorem dX5_hasSameCalls_40 : decode cX5_hasSameCalls 40 = .ok (.iinc 2 1, 3) := by decide +kernel
theorem dX5_hasSameCalls_43 : decode cX5_hasSameCalls 43 = .ok (.goto (-28), 3) := by decide +kernel
theorem dX5_hasSameCalls_46 : decode cX5_hasSameCalls 46 = .ok (.iconst 1, 1) := by decide +kernel
theorem dX5_hasSameCalls_47 : decode cX5_hasSameCalls 47 = .ok (.ireturn, 1) := by decide +kernel
theorem dX6_init_0 : decode cX6_init 0 = .ok (.aload_n 0, 1) := by decide +kernel
theorem dX6_init_1 : decode cX6_init 1 = .ok (.invokespecial 3, 3) := by decide +kernel
theorem dX6_init_4 : decode cX6_init 4 = .ok (.aload_n 0, 1) := by decide +kernel
theorem dX6_init_5 : decode cX6_init 5 = .ok (.iconst (-1), 1) := by decide +kernel
theorem dX6_init_6 : decode cX6_init 6 = .ok (.putfield 9, 3) := by decide +kernel
theorem dX6_init_9 : decode cX6_init 9 = .ok (.aload_n 0, 1) := by decide +kernel
theorem dX6_init_10 : decode cX6_init 10 = .ok (.iconst (-1), 1) := by decide +kernel
theorem dX6_init_11 : decode cX6_init 11 = .ok (.putfield 15, 3) := by decide +kernel
theorem dX6_init_14 : decode cX6_init 14 = .ok (.aload_n 0, 1) := by decide +kernel
theorem dX6_init_15 : decode cX6_init 15 = .ok (.aload_n 1, 1) := by decide +kernel
theorem dX6_init_16 : decode cX6_init 16 = .ok (.putfield 18, 3) := by decide +kernel
theorem dX6_init_19 : decode cX6_init 19 = .ok (.return_, 1) := by decide +kernel
theorem dX6_shorten_0 : decode cX6_shorten 0 = .ok (.aload_n 0, 1) := by decide +kernel
theorem dX6_shorten_1 : decode cX6_shorten 1 = .ok (.iload_n 2, 1) := by decide +kernel
theorem dX6_shorten_2 : decode cX6_shorten 2 = .ok (.putfield 9, 3) := by decide +kernel
theorem dX6_shorten_5 : decode cX6_shorten 5 = .ok (.aload_n 0, 1) := by decide +kernel
theorem dX6_shorten_6 : decode cX6_shorten 6 = .ok (.iload_n 3, 1) := by decide +kernel
theorem dX6_shorten_7 : decode cX6_shorten 7 = .ok (.putfield 15, 3) := by decide +kernel
theorem dX6_shorten_10 : decode cX6_shorten 10 = .ok (.iconst 1, 1) := by decide +kernel
theorem dX6_shorten_11 : decode cX6_shorten 11 = .ok (.istore 4, 2) := by decide +kernel
theorem dX6_shorten_13 : decode cX6_shorten 13 = .ok (.iconst 0, 1) := by decide +kernel
theorem dX6_shorten_14 : decode cX6_shorten 14 = .ok (.istore 5, 2) := by decide +kernel
theorem dX6_shorten_16 : decode cX6_shorten 16 = .ok (.iload 4, 2) := by decide +kernel
theorem dX6_shorten_18 : decode cX6_shorten 18 = .ok (.ifCond .eq 24, 3) := by decide +kernel
theorem dX6_shorten_21 : decode cX6_shorten 21 = .ok (.iload 5, 2) := by decide +kernel
theorem dX6_shorten_23 : decode cX6_shorten 23 = .ok (.sipush 200, 3) := by decide +kernel
theorem dX6_shorten_26 : decode cX6_shorten 26 = .ok (.if_icmp .gt 16, 3) := by decide +kernel
theorem dX6_shorten_29 : decode cX6_shorten 29 = .ok (.aload_n 0, 1) := by decide +kernel
theorem dX6_shorten_30 : decode cX6_shorten 30 = .ok (.aload_n 1, 1) := by decide +kernel
theorem dX6_shorten_31 : decode cX6_shorten 31 = .ok (.invokevirtual 22, 3) := by decide +kernel
theorem dX6_shorten_34 : decode cX6_shorten 34 = .ok (.istore 4, 2) := by decide +kernel
theorem dX6_shorten_36 : decode cX6_shorten 36 = .ok (.iinc 5 1, 3) := by decide +kernel
theorem dX6_shorten_39 : decode cX6_shorten 39 = .ok (.goto (-23), 3) := by decide +kernel
theorem dX6_shorten_42 : decode cX6_shorten 42 = .ok (.return_, 1) := by decide +kernel
theorem dX6_leaveOut_0 : decode cX6_leaveOut 0 = .ok (.aload_n 1, 1) := by decide +kernel
theorem dX6_leaveOut_1 : decode cX6_leaveOut 1 = .ok (.invokevirtual 26, 3) := by decide +kernel
theorem dX6_leaveOut_4 : decode cX6_leaveOut 4 = .ok (.iconst 1, 1) := by decide +kernel
theorem dX6_leaveOut_5 : decode cX6_leaveOut 5 = .ok (.isub, 1) := by decide +kernel
theorem dX6_leaveOut_6 : decode cX6_leaveOut 6 = .ok (.istore_n 2, 1) := by decide +kernel
theorem dX6_leaveOut_7 : decode cX6_leaveOut 7 = .ok (.iconst 0, 1) := by decide +kernel
theorem dX6_leaveOut_8 : decode cX6_leaveOut 8 = .ok (.istore_n 3, 1) := by decide +kernel
theorem dX6_leaveOut_9 : decode cX6_leaveOut 9 = .ok (.iconst 0, 1) := by decide +kernel
theorem dX6_leaveOut_10 : decode cX6_leaveOut 10 = .ok (.istore 4, 2) := by decide +kernel
theorem dX6_leaveOut_12 : decode cX6_leaveOut 12 = .ok (.iconst 0, 1) := by decide +kernel
theorem dX6_leaveOut_13 : decode cX6_leaveOut 13 = .ok (.istore 5, 2) := by decide +kernel
theorem dX6_leaveOut_15 : decode cX6_leaveOut 15 = .ok (.iload 5, 2) := by decide +kernel
theorem dX6_leaveOut_17 : decode cX6_leaveOut 17 = .ok (.iload_n 2, 1) := by decide +kernel
theorem dX6_leaveOut_18 : decode cX6_leaveOut 18 = .ok (.if_icmp .ge 68, 3) := by decide +kernel
theorem dX6_leaveOut_21 : decode cX6_leaveOut 21 = .ok (.aload_n 0, 1) := by decide +kernel
theorem dX6_leaveOut_22 : decode cX6_leaveOut 22 = .ok (.aload_n 1, 1) := by decide +kernel
theorem dX6_leaveOut_23 : decode cX6_leaveOut 23 = .ok (.iload 5, 2) := by decide +kernel
theorem dX6_leaveOut_25 : decode cX6_leaveOut 25 = .ok (.iconst 1, 1) := by decide +kernel
theorem dX6_leaveOut_26 : decode cX6_leaveOut 26 = .ok (.iadd, 1) := by decide +kernel
theorem dX6_leaveOut_27 : decode cX6_leaveOut 27 = .ok (.iload 4, 2) := by decide +kernel
theorem dX6_leaveOut_29 : decode cX6_leaveOut 29 = .ok (.invokevirtual 32, 3) := by decide +kernel
theorem dX6_leaveOut_32 : decode cX6_leaveOut 32 = .ok (.ifCond .ne 48, 3) := by decide +kernel
theorem dX6_leaveOut_35 : decode cX6_leaveOut 35 = .ok (.aload_n 1, 1) := by decide +kernel
theorem dX6_leaveOut_36 : decode cX6_leaveOut 36 = .ok (.iload 5, 2) := by decide +kernel
theorem dX6_leaveOut_38 : decode cX6_leaveOut 38 = .ok (.invokevirtual 36, 3) := by decide +kernel
theorem dX6_leaveOut_41 : decode cX6_leaveOut 41 = .ok (.istore 6, 2) := by decide +kernel
theorem dX6_leaveOut_43 : decode cX6_leaveOut 43 = .ok (.aload_n 0, 1) := by decide +kernel
theorem dX6_leaveOut_44 : decode cX6_leaveOut 44 = .ok (.getfield 18, 3) := by decide +kernel
theorem dX6_leaveOut_47 : decode cX6_leaveOut 47 = .ok (.aload_n 0, 1) := by decide +kernel
theorem dX6_leaveOut_48 : decode cX6_leaveOut 48 = .ok (.getfield 18, 3) := by decide +kernel
theorem dX6_leaveOut_51 : decode cX6_leaveOut 51 = .ok (.iload 6, 2) := by decide +kernel
theorem dX6_leaveOut_53 : decode cX6_leaveOut 53 = .ok (.iload 4, 2) := by decide +kernel
theorem dX6_leaveOut_55 : decode cX6_leaveOut 55 = .ok (.invokevirtual 40, 3) := by decide +kernel
theorem dX6_leaveOut_58 : decode cX6_leaveOut 58 = .ok (.iload 4, 2) := by decide +kernel
theorem dX6_leaveOut_60 : decode cX6_leaveOut 60 = .ok (.iload 6, 2) := by decide +kernel
theorem dX6_leaveOut_62 : decode cX6_leaveOut 62 = .ok (.invokestatic 46, 3) := by decide +kernel
theorem dX6_leaveOut_65 : decode cX6_leaveOut 65 = .ok (.invokevirtual 49, 3) := by decide +kernel
theorem dX6_leaveOut_68 : decode cX6_leaveOut 68 = .ok (.istore 4, 2) := by decide +kernel
theorem dX6_leaveOut_70 : decode cX6_leaveOut 70 = .ok (.aload_n 1, 1) := by decide +kernel
theorem dX6_leaveOut_71 : decode cX6_leaveOut 71 = .ok (.iload 5, 2) := by decide +kernel
theorem dX6_leaveOut_73 : decode cX6_leaveOut 73 = .ok (.iload_n 3, 1) := by decide +kernel
theorem dX6_leaveOut_74 : decode cX6_leaveOut 74 = .ok (.invokevirtual 53, 3) := by decide +kernel
theorem dX6_leaveOut_77 : decode cX6_leaveOut 77 = .ok (.iinc 3 1, 3) := by decide +kernel
theorem dX6_leaveOut_80 : decode cX6_leaveOut 80 = .ok (.iinc 5 1, 3) := by decide +kernel
theorem dX6_leaveOut_83 : decode cX6_leaveOut 83 = .ok (.goto (-68), 3) := by decide +kernel
theorem dX6_leaveOut_86 : decode cX6_leaveOut 86 = .ok (.aload_n 1, 1) := by decide +kernel
theorem dX6_leaveOut_87 : decode cX6_leaveOut 87 = .ok (.iload_n 2, 1) := by decide +kernel
theorem dX6_leaveOut_88 : decode cX6_leaveOut 88 = .ok (.iload_n 3, 1) := by decide +kernel
theorem dX6_leaveOut_89 : decode cX6_leaveOut 89 = .ok (.invokevirtual 53, 3) := by decide +kernel
theorem dX6_leaveOut_92 : decode cX6_leaveOut 92 = .ok (.aload_n 1, 1) := by decide +kernel
theorem dX6_leaveOut_93 : decode cX6_leaveOut 93 = .ok (.iload_n 3, 1) := by decide +kernel
theorem dX6_leaveOut_94 : decode cX6_leaveOut 94 = .ok (.iconst 1, 1) := by decide +kernel
theorem dX6_leaveOut_95 : decode cX6_leaveOut 95 = .ok (.iadd, 1) := by decide +kernel
theorem dX6_leaveOut_96 : decode cX6_leaveOut 96 = .ok (.invokevirtual 57, 3) := by decide +kernel
theorem dX6_leaveOut_99 : decode cX6_leaveOut 99 = .ok (.iload_n 3, 1) := by decide +kernel
theorem dX6_leaveOut_100 : decode cX6_leaveOut 100 = .ok (.iload_n 2, 1) := by decide +kernel
theorem dX6_leaveOut_101 : decode cX6_leaveOut 101 = .ok (.if_icmp .ge 7, 3) := by decide +kernel
theorem dX6_leaveOut_104 : decode cX6_leaveOut 104 = .ok (.iconst 1, 1) := by decide +kernel
theorem dX6_leaveOut_105 : decode cX6_leaveOut 105 = .ok (.goto 4, 3) := by decide +kernel
theorem dX6_leaveOut_108 : decode cX6_leaveOut 108 = .ok (.iconst 0, 1) := by decide +kernel
theorem dX6_leaveOut_109 : decode cX6_leaveOut 109 = .ok (.ireturn, 1) := by decide +kernel
theorem dX6_endsAlike_0 : decode cX6_endsAlike 0 = .ok (.iload_n 3, 1) := by decide +kernel
theorem dX6_endsAlike_1 : decode cX6_endsAlike 1 = .ok (.istore 4, 2) := by decide +kernel
theorem dX6_endsAlike_3 : decode cX6_endsAlike 3 = .ok (.iconst (-1), 1) := by decide +kernel
theorem dX6_endsAlike_4 : decode cX6_endsAlike 4 = .ok (.istore 5, 2) := by decide +kernel
theorem dX6_endsAlike_6 : decode cX6_endsAlike 6 = .ok (.iload_n 2, 1) := by decide +kernel
theorem dX6_endsAlike_7 : decode cX6_endsAlike 7 = .ok (.istore 6, 2) := by decide +kernel
theorem dX6_endsAlike_9 : decode cX6_endsAlike 9 = .ok (.iload 6, 2) := by decide +kernel
theorem dX6_endsAlike_11 : decode cX6_endsAlike 11 = .ok (.aload_n 1, 1) := by decide +kernel
theorem dX6_endsAlike_12 : decode cX6_endsAlike 12 = .ok (.invokevirtual 26, 3) := by decide +kernel
theorem dX6_endsAlike_15 : decode cX6_endsAlike 15 = .ok (.if_icmp .ge 48, 3) := by decide +kernel
theorem dX6_endsAlike_18 : decode cX6_endsAlike 18 = .ok (.aload_n 1, 1) := by decide +kernel
theorem dX6_endsAlike_19 : decode cX6_endsAlike 19 = .ok (.iload 6, 2) := by decide +kernel
theorem dX6_endsAlike_21 : decode cX6_endsAlike 21 = .ok (.invokevirtual 36, 3) := by decide +kernel
theorem dX6_endsAlike_24 : decode cX6_endsAlike 24 = .ok (.istore 7, 2) := by decide +kernel
theorem dX6_endsAlike_26 : decode cX6_endsAlike 26 = .ok (.aload_n 0, 1) := by decide +kernel
theorem dX6_endsAlike_27 : decode cX6_endsAlike 27 = .ok (.getfield 18, 3) := by decide +kernel
theorem dX6_endsAlike_30 : decode cX6_endsAlike 30 = .ok (.iload 7, 2) := by decide +kernel
theorem dX6_endsAlike_32 : decode cX6_endsAlike 32 = .ok (.iload 4, 2) := by decide +kernel
theorem dX6_endsAlike_34 : decode cX6_endsAlike 34 = .ok (.invokevirtual 40, 3) := by decide +kernel
theorem dX6_endsAlike_37 : decode cX6_endsAlike 37 = .ok (.istore 5, 2) := by decide +kernel
theorem dX6_endsAlike_39 : decode cX6_endsAlike 39 = .ok (.aload_n 0, 1) := by decide +kernel
theorem dX6_endsAlike_40 : decode cX6_endsAlike 40 = .ok (.getfield 18, 3) := by decide +kernel
theorem dX6_endsAlike_43 : decode cX6_endsAlike 43 = .ok (.iload 5, 2) := by decide +kernel
theorem dX6_endsAlike_45 : decode cX6_endsAlike 45 = .ok (.iload 4, 2) := by decide +kernel
theorem dX6_endsAlike_47 : decode cX6_endsAlike 47 = .ok (.iload 7, 2) := by decide +kernel
theorem dX6_endsAlike_49 : decode cX6_endsAlike 49 = .ok (.invokestatic 46, 3) := by decide +kernel
theorem dX6_endsAlike_52 : decode cX6_endsAlike 52 = .ok (.invokevirtual 49, 3) := by decide +kernel
theorem dX6_endsAlike_55 : decode cX6_endsAlike 55 = .ok (.istore 4, 2) := by decide +kernel
theorem dX6_endsAlike_57 : decode cX6_endsAlike 57 = .ok (.iinc 6 1, 3) := by decide +kernel
theorem dX6_endsAlike_60 : decode cX6_endsAlike 60 = .ok (.goto (-51), 3) := by decide +kernel
theorem dX6_endsAlike_63 : decode cX6_endsAlike 63 = .ok (.iload 5, 2) := by decide +kernel
theorem dX6_endsAlike_65 : decode cX6_endsAlike 65 = .ok (.aload_n 0, 1) := by decide +kernel
theorem dX6_endsAlike_66 : decode cX6_endsAlike 66 = .ok (.getfield 9, 3) := by decide +kernel
theorem dX6_endsAlike_69 : decode cX6_endsAlike 69 = .ok (.if_icmp .ne 25, 3) := by decide +kernel
theorem dX6_endsAlike_72 : decode cX6_endsAlike 72 = .ok (.aload_n 0, 1) := by decide +kernel
theorem dX6_endsAlike_73 : decode cX6_endsAlike 73 = .ok (.getfield 18, 3) := by decide +kernel
theorem dX6_endsAlike_76 : decode cX6_endsAlike 76 = .ok (.iload 5, 2) := by decide +kernel
theorem dX6_endsAlike_78 : decode cX6_endsAlike 78 = .ok (.iload 4, 2) := by decide +kernel
theorem dX6_endsAlike_80 : decode cX6_endsAlike 80 = .ok (.invokevirtual 61, 3) := by decide +kernel
theorem dX6_endsAlike_83 : decode cX6_endsAlike 83 = .ok (.aload_n 0, 1) := by decide +kernel
theorem dX6_endsAlike_84 : decode cX6_endsAlike 84 = .ok (.getfield 15, 3) := by decide +kernel
theorem dX6_endsAlike_87 : decode cX6_endsAlike 87 = .ok (.if_icmp .ne 7, 3) := by decide +kernel
theorem dX6_endsAlike_90 : decode cX6_endsAlike 90 = .ok (.iconst 1, 1) := by decide +kernel
theorem dX6_endsAlike_91 : decode cX6_endsAlike 91 = .ok (.goto 4, 3) := by decide +kernel
theorem dX6_endsAlike_94 : decode cX6_endsAlike 94 = .ok (.iconst 0, 1) := by decide +kernel
theorem dX6_endsAlike_95 : decode cX6_endsAlike 95 = .ok (.ireturn, 1) := by decide +kernel
theorem dX7_init_0 : decode cX7_init 0 = .ok (.aload_n 0, 1) := by decide +kernel
theorem dX7_init_1 : decode cX7_init 1 = .ok (.invokespecial 3, 3) := by decide +kernel
theorem dX7_init_4 : decode cX7_init 4 = .ok (.aload_n 0, 1) := by decide +kernel
theorem dX7_init_5 : decode cX7_init 5 = .ok (.bipush 12, 2) := by decide +kernel
theorem dX7_init_7 : decode cX7_init 7 = .ok (.anewarray 9, 3) := by decide +kernel
theorem dX7_init_10 : decode cX7_init 10 = .ok (.putfield 11, 3) := by decide +kernel
theorem dX7_init_13 : decode cX7_init 13 = .ok (.aload_n 0, 1) := by decide +kernel
theorem dX7_init_14 : decode cX7_init 14 = .ok (.bipush 12, 2) := by decide +kernel
theorem dX7_init_16 : decode cX7_init 16 = .ok (.newarray .int, 2) := by decide +kernel
theorem dX7_init_18 : decode cX7_init 18 = .ok (.putfield 17, 3) := by decide +kernel
theorem dX7_init_21 : decode cX7_init 21 = .ok (.aload_n 0, 1) := by decide +kernel
theorem dX7_init_22 : decode cX7_init 22 = .ok (.iconst 0, 1) := by decide +kernel
theorem dX7_init_23 : decode cX7_init 23 = .ok (.putfield 21, 3) := by decide +kernel
theorem dX7_init_26 : decode cX7_init 26 = .ok (.iconst 0, 1) := by decide +kernel
theorem dX7_init_27 : decode cX7_init 27 = .ok (.istore_n 1, 1) := by decide +kernel
theorem dX7_init_28 : decode cX7_init 28 = .ok (.iload_n 1, 1) := by decide +kernel
theorem dX7_init_29 : decode cX7_init 29 = .ok (.bipush 12, 2) := by decide +kernel
theorem dX7_init_31 : decode cX7_init 31 = .ok (.if_icmp .ge 22, 3) := by decide +kernel
theorem dX7_init_34 : decode cX7_init 34 = .ok (.aload_n 0, 1) := by decide +kernel
theorem dX7_init_35 : decode cX7_init 35 = .ok (.getfield 11, 3) := by decide +kernel
theorem dX7_init_38 : decode cX7_init 38 = .ok (.iload_n 1, 1) := by decide +kernel
theorem dX7_init_39 : decode cX7_init 39 = .ok (.new 9, 3) := by decide +kernel
theorem dX7_init_42 : decode cX7_init 42 = .ok (.dup, 1) := by decide +kernel
theorem dX7_init_43 : decode cX7_init 43 = .ok (.invokespecial 25, 3) := by decide +kernel
theorem dX7_init_46 : decode cX7_init 46 = .ok (.aastore, 1) := by decide +kernel
theorem dX7_init_47 : decode cX7_init 47 = .ok (.iinc 1 1, 3) := by decide +kernel
theorem dX7_init_50 : decode cX7_init 50 = .ok (.goto (-22), 3) := by decide +kernel
theorem dX7_init_53 : decode cX7_init 53 = .ok (.return_, 1) := by decide +kernel
theorem dX7_size_0 : decode cX7_size 0 = .ok (.aload_n 0, 1) := by decide +kernel
theorem dX7_size_1 : decode cX7_size 1 = .ok (.getfield 21, 3) := by decide +kernel
theorem dX7_size_4 : decode cX7_size 4 = .ok (.ireturn, 1) := by decide +kernel
theorem dX7_at_0 : decode cX7_at 0 = .ok (.iload_n 1, 1) := by decide +kernel
theorem dX7_at_1 : decode cX7_at 1 = .ok (.aload_n 0, 1) := by decide +kernel
theorem dX7_at_2 : decode cX7_at 2 = .ok (.getfield 21, 3) := by decide +kernel
theorem dX7_at_5 : decode cX7_at 5 = .ok (.invokestatic 26, 3) := by decide +kernel
theorem dX7_at_8 : decode cX7_at 8 = .ok (.ifCond .eq 12, 3) := by decide +kernel
theorem dX7_at_11 : decode cX7_at 11 = .ok (.aload_n 0, 1) := by decide +kernel
theorem dX7_at_12 : decode cX7_at 12 = .ok (.getfield 11, 3) := by decide +kernel
theorem dX7_at_15 : decode cX7_at 15 = .ok (.iload_n 1, 1) := by decide +kernel
theorem dX7_at_16 : decode cX7_at 16 = .ok (.aaload, 1) := by decide +kernel
theorem dX7_at_17 : decode cX7_at 17 = .ok (.goto 4, 3) := by decide +kernel
theorem dX7_at_20 : decode cX7_at 20 = .ok (.aconst_null, 1) := by decide +kernel
theorem dX7_at_21 : decode cX7_at 21 = .ok (.areturn, 1) := by decide +kernel
theorem dX7_spare_0 : decode cX7_spare 0 = .ok (.aload_n 0, 1) := by decide +kernel
theorem dX7_spare_1 : decode cX7_spare 1 = .ok (.getfield 21, 3) := by decide +kernel
theorem dX7_spare_4 : decode cX7_spare 4 = .ok (.bipush 12, 2) := by decide +kernel
theorem dX7_spare_6 : decode cX7_spare 6 = .ok (.if_icmp .ge 15, 3) := by decide +kernel
theorem dX7_spare_9 : decode cX7_spare 9 = .ok (.aload_n 0, 1) := by decide +kernel
theorem dX7_spare_10 : decode cX7_spare 10 = .ok (.getfield 11, 3) := by decide +kernel
theorem dX7_spare_13 : decode cX7_spare 13 = .ok (.aload_n 0, 1) := by decide +kernel
theorem dX7_spare_14 : decode cX7_spare 14 = .ok (.getfield 21, 3) := by decide +kernel
theorem dX7_spare_17 : decode cX7_spare 17 = .ok (.aaload, 1) := by decide +kernel
theorem dX7_spare_18 : decode cX7_spare 18 = .ok (.goto 4, 3) := by decide +kernel
theorem dX7_spare_21 : decode cX7_spare 21 = .ok (.aconst_null, 1) := by decide +kernel
theorem dX7_spare_22 : decode cX7_spare 22 = .ok (.areturn, 1) := by decide +kernel
theorem dX7_keepSpare_0 : decode cX7_keepSpare 0 = .ok (.aload_n 0, 1) := by decide +kernel
theorem dX7_keepSpare_1 : decode cX7_keepSpare 1 = .ok (.getfield 21, 3) := by decide +kernel
theorem dX7_keepSpare_4 : decode cX7_keepSpare 4 = .ok (.bipush 12, 2) := by decide +kernel
theorem dX7_keepSpare_6 : decode cX7_keepSpare 6 = .ok (.if_icmp .lt 5, 3) := by decide +kernel
theorem dX7_keepSpare_9 : decode cX7_keepSpare 9 = .ok (.iconst (-1), 1) := by decide +kernel
theorem dX7_keepSpare_10 : decode cX7_keepSpare 10 = .ok (.ireturn, 1) := by decide +kernel
theorem dX7_keepSpare_11 : decode cX7_keepSpare 11 = .ok (.aload_n 0, 1) := by decide +kernel
theorem dX7_keepSpare_12 : decode cX7_keepSpare 12 = .ok (.dup, 1) := by decide +kernel
theorem dX7_keepSpare_13 : decode cX7_keepSpare 13 = .ok (.getfield 21, 3) := by decide +kernel
theorem dX7_keepSpare_16 : decode cX7_keepSpare 16 = .ok (.iconst 1, 1) := by decide +kernel
theorem dX7_keepSpare_17 : decode cX7_keepSpare 17 = .ok (.iadd, 1) := by decide +kernel
theorem dX7_keepSpare_18 : decode cX7_keepSpare 18 = .ok (.putfield 21, 3) := by decide +kernel
theorem dX7_keepSpare_21 : decode cX7_keepSpare 21 = .ok (.aload_n 0, 1) := by decide +kernel
theorem dX7_keepSpare_22 : decode cX7_keepSpare 22 = .ok (.getfield 21, 3) := by decide +kernel
theorem dX7_keepSpare_25 : decode cX7_keepSpare 25 = .ok (.iconst 1, 1) := by decide +kernel
theorem dX7_keepSpare_26 : decode cX7_keepSpare 26 = .ok (.isub, 1) := by decide +kernel
theorem dX7_keepSpare_27 : decode cX7_keepSpare 27 = .ok (.ireturn, 1) := by decide +kernel
theorem dX7_remove_0 : decode cX7_remove 0 = .ok (.iload_n 1, 1) := by decide +kernel
theorem dX7_remove_1 : decode cX7_remove 1 = .ok (.aload_n 0, 1) := by decide +kernel
theorem dX7_remove_2 : decode cX7_remove 2 = .ok (.getfield 21, 3) := by decide +kernel
theorem dX7_remove_5 : decode cX7_remove 5 = .ok (.invokestatic 26, 3) := by decide +kernel
theorem dX7_remove_8 : decode cX7_remove 8 = .ok (.ifCond .ne 5, 3) := by decide +kernel
theorem dX7_remove_11 : decode cX7_remove 11 = .ok (.iconst 0, 1) := by decide +kernel
theorem dX7_remove_12 : decode cX7_remove 12 = .ok (.ireturn, 1) := by decide +kernel
theorem dX7_remove_13 : decode cX7_remove 13 = .ok (.aload_n 0, 1) := by decide +kernel
theorem dX7_remove_14 : decode cX7_remove 14 = .ok (.getfield 11, 3) := by decide +kernel
theorem dX7_remove_17 : decode cX7_remove 17 = .ok (.iload_n 1, 1) := by decide +kernel
theorem dX7_remove_18 : decode cX7_remove 18 = .ok (.aaload, 1) := by decide +kernel
theorem dX7_remove_19 : decode cX7_remove 19 = .ok (.astore_n 2, 1) := by decide +kernel
theorem dX7_remove_20 : decode cX7_remove 20 = .ok (.iload_n 1, 1) := by decide +kernel
theorem dX7_remove_21 : decode cX7_remove 21 = .ok (.istore_n 3, 1) := by decide +kernel
theorem dX7_remove_22 : decode cX7_remove 22 = .ok (.iload_n 3, 1) := by decide +kernel
theorem dX7_remove_23 : decode cX7_remove 23 = .ok (.iconst 1, 1) := by decide +kernel
theorem dX7_remove_24 : decode cX7_remove 24 = .ok (.iadd, 1) := by decide +kernel
theorem dX7_remove_25 : decode cX7_remove 25 = .ok (.aload_n 0, 1) := by decide +kernel
theorem dX7_remove_26 : decode cX7_remove 26 = .ok (.getfield 21, 3) := by decide +kernel
theorem dX7_remove_29 : decode cX7_remove 29 = .ok (.if_icmp .ge 23, 3) := by decide +kernel
theorem dX7_remove_32 : decode cX7_remove 32 = .ok (.aload_n 0, 1) := by decide +kernel
theorem dX7_remove_33 : decode cX7_remove 33 = .ok (.getfield 11, 3) := by decide +kernel
theorem dX7_remove_36 : decode cX7_remove 36 = .ok (.iload_n 3, 1) := by decide +kernel
theorem dX7_remove_37 : decode cX7_remove 37 = .ok (.aload_n 0, 1) := by decide +kernel
theorem dX7_remove_38 : decode cX7_remove 38 = .ok (.getfield 11, 3) := by decide +kernel
theorem dX7_remove_41 : decode cX7_remove 41 = .ok (.iload_n 3, 1) := by decide +kernel
theorem dX7_remove_42 : decode cX7_remove 42 = .ok (.iconst 1, 1) := by decide +kernel
theorem dX7_remove_43 : decode cX7_remove 43 = .ok (.iadd, 1) := by decide +kernel
theorem dX7_remove_44 : decode cX7_remove 44 = .ok (.aaload, 1) := by decide +kernel
theorem dX7_remove_45 : decode cX7_remove 45 = .ok (.aastore, 1) := by decide +kernel
theorem dX7_remove_46 : decode cX7_remove 46 = .ok (.iinc 3 1, 3) := by decide +kernel
theorem dX7_remove_49 : decode cX7_remove 49 = .ok (.goto (-27), 3) := by decide +kernel
theorem dX7_remove_52 : decode cX7_remove 52 = .ok (.aload_n 0, 1) := by decide +kernel
theorem dX7_remove_53 : decode cX7_remove 53 = .ok (.dup, 1) := by decide +kernel
theorem dX7_remove_54 : decode cX7_remove 54 = .ok (.getfield 21, 3) := by decide +kernel
theorem dX7_remove_57 : decode cX7_remove 57 = .ok (.iconst 1, 1) := by decide +kernel
theorem dX7_remove_58 : decode cX7_remove 58 = .ok (.isub, 1) := by decide +kernel
theorem dX7_remove_59 : decode cX7_remove 59 = .ok (.putfield 21, 3) := by decide +kernel
theorem dX7_remove_62 : decode cX7_remove 62 = .ok (.aload_n 0, 1) := by decide +kernel
theorem dX7_remove_63 : decode cX7_remove 63 = .ok (.getfield 11, 3) := by decide +kernel
theorem dX7_remove_66 : decode cX7_remove 66 = .ok (.aload_n 0, 1) := by decide +kernel
theorem dX7_remove_67 : decode cX7_remove 67 = .ok (.getfield 21, 3) := by decide +kernel
theorem dX7_remove_70 : decode cX7_remove 70 = .ok (.aload_n 2, 1) := by decide +kernel
theorem dX7_remove_71 : decode cX7_remove 71 = .ok (.aastore, 1) := by decide +kernel
theorem dX7_remove_72 : decode cX7_remove 72 = .ok (.iconst 1, 1) := by decide +kernel
theorem dX7_remove_73 : decode cX7_remove 73 = .ok (.ireturn, 1) := by decide +kernel
theorem dX7_hasLike_0 : decode cX7_hasLike 0 = .ok (.iconst 0, 1) := by decide +kernel
theorem dX7_hasLike_1 : decode cX7_hasLike 1 = .ok (.istore_n 2, 1) := by decide +kernel
theorem dX7_hasLike_2 : decode cX7_hasLike 2 = .ok (.iload_n 2, 1) := by decide +kernel
theorem dX7_hasLike_3 : decode cX7_hasLike 3 = .ok (.aload_n 0, 1) := by decide +kernel
theorem dX7_hasLike_4 : decode cX7_hasLike 4 = .ok (.getfield 21, 3) := by decide +kernel
theorem dX7_hasLike_7 : decode cX7_hasLike 7 = .ok (.if_icmp .ge 30, 3) := by decide +kernel
theorem dX7_hasLike_10 : decode cX7_hasLike 10 = .ok (.aload_n 0, 1) := by decide +kernel
theorem dX7_hasLike_11 : decode cX7_hasLike 11 = .ok (.getfield 11, 3) := by decide +kernel
theorem dX7_hasLike_14 : decode cX7_hasLike 14 = .ok (.iload_n 2, 1) := by decide +kernel
theorem dX7_hasLike_15 : decode cX7_hasLike 15 = .ok (.aaload, 1) := by decide +kernel
theorem dX7_hasLike_16 : decode cX7_hasLike 16 = .ok (.getfield 30, 3) := by decide +kernel
theorem dX7_hasLike_19 : decode cX7_hasLike 19 = .ok (.aload_n 1, 1) := by decide +kernel
theorem dX7_hasLike_20 : decode cX7_hasLike 20 = .ok (.getfield 30, 3) := by decide +kernel
theorem dX7_hasLike_23 : decode cX7_hasLike 23 = .ok (.invokevirtual 34, 3) := by decide +kernel
theorem dX7_hasLike_26 : decode cX7_hasLike 26 = .ok (.ifCond .eq 5, 3) := by decide +kernel
theorem dX7_hasLike_29 : decode cX7_hasLike 29 = .ok (.iconst 1, 1) := by decide +kernel
theorem dX7_hasLike_30 : decode cX7_hasLike 30 = .ok (.ireturn, 1) := by decide +kernel
theorem dX7_hasLike_31 : decode cX7_hasLike 31 = .ok (.iinc 2 1, 3) := by decide +kernel
theorem dX7_hasLike_34 : decode cX7_hasLike 34 = .ok (.goto (-32), 3) := by decide +kernel
theorem dX7_hasLike_37 : decode cX7_hasLike 37 = .ok (.iconst 0, 1) := by decide +kernel
theorem dX7_hasLike_38 : decode cX7_hasLike 38 = .ok (.ireturn, 1) := by decide +kernel
theorem dX7_touchThoseThatMet_0 : decode cX7_touchThoseThatMet 0 = .ok (.iconst 0, 1) := by decide +kernel
theorem dX7_touchThoseThatMet_1 : decode cX7_touchThoseThatMet 1 = .ok (.istore_n 2, 1) := by decide +kernel
theorem dX7_touchThoseThatMet_2 : decode cX7_touchThoseThatMet 2 = .ok (.iload_n 2, 1) := by decide +kernel
theorem dX7_touchThoseThatMet_3 : decode cX7_touchThoseThatMet 3 = .ok (.aload_n 0, 1) := by decide +kernel
theorem dX7_touchThoseThatMet_4 : decode cX7_touchThoseThatMet 4 = .ok (.getfield 21, 3) := by decide +kernel
theorem dX7_touchThoseThatMet_7 : decode cX7_touchThoseThatMet 7 = .ok (.if_icmp .ge 45, 3) := by decide +kernel
theorem dX7_touchThoseThatMet_10 : decode cX7_touchThoseThatMet 10 = .ok (.aload_n 0, 1) := by decide +kernel
theorem dX7_touchThoseThatMet_11 : decode cX7_touchThoseThatMet 11 = .ok (.getfield 11, 3) := by decide +kernel
theorem dX7_touchThoseThatMet_14 : decode cX7_touchThoseThatMet 14 = .ok (.iload_n 2, 1) := by decide +kernel
theorem dX7_touchThoseThatMet_15 : decode cX7_touchThoseThatMet 15 = .ok (.aaload, 1) := by decide +kernel
theorem dX7_touchThoseThatMet_16 : decode cX7_touchThoseThatMet 16 = .ok (.dup, 1) := by decide +kernel
theorem dX7_touchThoseThatMet_17 : decode cX7_touchThoseThatMet 17 = .ok (.getfield 40, 3) := by decide +kernel
theorem dX7_touchThoseThatMet_20 : decode cX7_touchThoseThatMet 20 = .ok (.aload_n 0, 1) := by decide +kernel
theorem dX7_touchThoseThatMet_21 : decode cX7_touchThoseThatMet 21 = .ok (.getfield 11, 3) := by decide +kernel
theorem dX7_touchThoseThatMet_24 : decode cX7_touchThoseThatMet 24 = .ok (.iload_n 2, 1) := by decide +kernel
theorem dX7_touchThoseThatMet_25 : decode cX7_touchThoseThatMet 25 = .ok (.aaload, 1) := by decide +kernel
theorem dX7_touchThoseThatMet_26 : decode cX7_touchThoseThatMet 26 = .ok (.getfield 44, 3) := by decide +kernel
theorem dX7_touchThoseThatMet_29 : decode cX7_touchThoseThatMet 29 = .ok (.iload_n 1, 1) := by decide +kernel
theorem dX7_touchThoseThatMet_30 : decode cX7_touchThoseThatMet 30 = .ok (.ishr, 1) := by decide +kernel
theorem dX7_touchThoseThatMet_31 : decode cX7_touchThoseThatMet 31 = .ok (.iconst 1, 1) := by decide +kernel
theorem dX7_touchThoseThatMet_32 : decode cX7_touchThoseThatMet 32 = .ok (.iand, 1) := by decide +kernel
theorem dX7_touchThoseThatMet_33 : decode cX7_touchThoseThatMet 33 = .ok (.iconst 1, 1) := by decide +kernel
theorem dX7_touchThoseThatMet_34 : decode cX7_touchThoseThatMet 34 = .ok (.if_icmp .ne 7, 3) := by decide +kernel
theorem dX7_touchThoseThatMet_37 : decode cX7_touchThoseThatMet 37 = .ok (.iconst 1, 1) := by decide +kernel
theorem dX7_touchThoseThatMet_38 : decode cX7_touchThoseThatMet 38 = .ok (.goto 4, 3) := by decide +kernel
theorem dX7_touchThoseThatMet_41 : decode cX7_touchThoseThatMet 41 = .ok (.iconst 0, 1) := by decide +kernel
theorem dX7_touchThoseThatMet_42 : decode cX7_touchThoseThatMet 42 = .ok (.ior, 1) := by decide +kernel
theorem dX7_touchThoseThatMet_43 : decode cX7_touchThoseThatMet 43 = .ok (.putfield 40, 3) := by decide +kernel
theorem dX7_touchThoseThatMet_46 : decode cX7_touchThoseThatMet 46 = .ok (.iinc 2 1, 3) := by decide +kernel
theorem dX7_touchThoseThatMet_49 : decode cX7_touchThoseThatMet 49 = .ok (.goto (-47), 3) := by decide +kernel
theorem dX7_touchThoseThatMet_52 : decode cX7_touchThoseThatMet 52 = .ok (.return_, 1) := by decide +kernel
theorem dX7_touchCallersOf_0 : decode cX7_touchCallersOf 0 = .ok (.iconst 0, 1) := by decide +kernel
theorem dX7_touchCallersOf_1 : decode cX7_touchCallersOf 1 = .ok (.istore_n 2, 1) := by decide +kernel
theorem dX7_touchCallersOf_2 : decode cX7_touchCallersOf 2 = .ok (.iload_n 2, 1) := by decide +kernel
theorem dX7_touchCallersOf_3 : decode cX7_touchCallersOf 3 = .ok (.aload_n 0, 1) := by decide +kernel
theorem dX7_touchCallersOf_4 : decode cX7_touchCallersOf 4 = .ok (.getfield 21, 3) := by decide +kernel
theorem dX7_touchCallersOf_7 : decode cX7_touchCallersOf 7 = .ok (.if_icmp .ge 36, 3) := by decide +kernel
theorem dX7_touchCallersOf_10 : decode cX7_touchCallersOf 10 = .ok (.aload_n 0, 1) := by decide +kernel
theorem dX7_touchCallersOf_11 : decode cX7_touchCallersOf 11 = .ok (.getfield 11, 3) := by decide +kernel
theorem dX7_touchCallersOf_14 : decode cX7_touchCallersOf 14 = .ok (.iload_n 2, 1) := by decide +kernel
theorem dX7_touchCallersOf_15 : decode cX7_touchCallersOf 15 = .ok (.aaload, 1) := by decide +kernel
theorem dX7_touchCallersOf_16 : decode cX7_touchCallersOf 16 = .ok (.dup, 1) := by decide +kernel
theorem dX7_touchCallersOf_17 : decode cX7_touchCallersOf 17 = .ok (.getfield 40, 3) := by decide +kernel
theorem dX7_touchCallersOf_20 : decode cX7_touchCallersOf 20 = .ok (.aload_n 0, 1) := by decide +kernel
theorem dX7_touchCallersOf_21 : decode cX7_touchCallersOf 21 = .ok (.getfield 11, 3) := by decide +kernel
theorem dX7_touchCallersOf_24 : decode cX7_touchCallersOf 24 = .ok (.iload_n 2, 1) := by decide +kernel
theorem dX7_touchCallersOf_25 : decode cX7_touchCallersOf 25 = .ok (.aaload, 1) := by decide +kernel
theorem dX7_touchCallersOf_26 : decode cX7_touchCallersOf 26 = .ok (.getfield 30, 3) := by decide +kernel
theorem dX7_touchCallersOf_29 : decode cX7_touchCallersOf 29 = .ok (.iload_n 1, 1) := by decide +kernel
theorem dX7_touchCallersOf_30 : decode cX7_touchCallersOf 30 = .ok (.invokevirtual 47, 3) := by decide +kernel
theorem dX7_touchCallersOf_33 : decode cX7_touchCallersOf 33 = .ok (.ior, 1) := by decide +kernel
theorem dX7_touchCallersOf_34 : decode cX7_touchCallersOf 34 = .ok (.putfield 40, 3) := by decide +kernel
theorem dX7_touchCallersOf_37 : decode cX7_touchCallersOf 37 = .ok (.iinc 2 1, 3) := by decide +kernel
theorem dX7_touchCallersOf_40 : decode cX7_touchCallersOf 40 = .ok (.goto (-38), 3) := by decide +kernel
theorem dX7_touchCallersOf_43 : decode cX7_touchCallersOf 43 = .ok (.return_, 1) := by decide +kernel
theorem dX7_touchedOnes_0 : decode cX7_touchedOnes 0 = .ok (.iconst 0, 1) := by decide +kernel
theorem dX7_touchedOnes_1 : decode cX7_touchedOnes 1 = .ok (.istore_n 1, 1) := by decide +kernel
theorem dX7_touchedOnes_2 : decode cX7_touchedOnes 2 = .ok (.iconst 0, 1) := by decide +kernel
theorem dX7_touchedOnes_3 : decode cX7_touchedOnes 3 = .ok (.istore_n 2, 1) := by decide +kernel
theorem dX7_touchedOnes_4 : decode cX7_touchedOnes 4 = .ok (.iload_n 2, 1) := by decide +kernel
theorem dX7_touchedOnes_5 : decode cX7_touchedOnes 5 = .ok (.aload_n 0, 1) := by decide +kernel
theorem dX7_touchedOnes_6 : decode cX7_touchedOnes 6 = .ok (.getfield 21, 3) := by decide +kernel
theorem dX7_touchedOnes_9 : decode cX7_touchedOnes 9 = .ok (.if_icmp .ge 29, 3) := by decide +kernel
theorem dX7_touchedOnes_12 : decode cX7_touchedOnes 12 = .ok (.iload_n 1, 1) := by decide +kernel
theorem dX7_touchedOnes_13 : decode cX7_touchedOnes 13 = .ok (.aload_n 0, 1) := by decide +kernel
theorem dX7_touchedOnes_14 : decode cX7_touchedOnes 14 = .ok (.getfield 11, 3) := by decide +kernel
theorem dX7_touchedOnes_17 : decode cX7_touchedOnes 17 = .ok (.iload_n 2, 1) := by decide +kernel
theorem dX7_touchedOnes_18 : decode cX7_touchedOnes 18 = .ok (.aaload, 1) := by decide +kernel
theorem dX7_touchedOnes_19 : decode cX7_touchedOnes 19 = .ok (.getfield 40, 3) := by decide +kernel
theorem dX7_touchedOnes_22 : decode cX7_touchedOnes 22 = .ok (.ifCond .eq 7, 3) := by decide +kernel
theorem dX7_touchedOnes_25 : decode cX7_touchedOnes 25 = .ok (.iconst 1, 1) := by decide +kernel
theorem dX7_touchedOnes_26 : decode cX7_touchedOnes 26 = .ok (.goto 4, 3) := by decide +kernel
theorem dX7_touchedOnes_29 : decode cX7_touchedOnes 29 = .ok (.iconst 0, 1) := by decide +kernel
theorem dX7_touchedOnes_30 : decode cX7_touchedOnes 30 = .ok (.iadd, 1) := by decide +kernel
theorem dX7_touchedOnes_31 : decode cX7_touchedOnes 31 = .ok (.istore_n 1, 1) := by decide +kernel
theorem dX7_touchedOnes_32 : decode cX7_touchedOnes 32 = .ok (.iinc 2 1, 3) := by decide +kernel
theorem dX7_touchedOnes_35 : decode cX7_touchedOnes 35 = .ok (.goto (-31), 3) := by decide +kernel
theorem dX7_touchedOnes_38 : decode cX7_touchedOnes 38 = .ok (.iload_n 1, 1) := by decide +kernel
theorem dX7_touchedOnes_39 : decode cX7_touchedOnes 39 = .ok (.ireturn, 1) := by decide +kernel
theorem dX7_brokenOnes_0 : decode cX7_brokenOnes 0 = .ok (.iconst 0, 1) := by decide +kernel
theorem dX7_brokenOnes_1 : decode cX7_brokenOnes 1 = .ok (.istore_n 1, 1) := by decide +kernel
theorem dX7_brokenOnes_2 : decode cX7_brokenOnes 2 = .ok (.iconst 0, 1) := by decide +kernel
theorem dX7_brokenOnes_3 : decode cX7_brokenOnes 3 = .ok (.istore_n 2, 1) := by decide +kernel
theorem dX7_brokenOnes_4 : decode cX7_brokenOnes 4 = .ok (.iload_n 2, 1) := by decide +kernel
theorem dX7_brokenOnes_5 : decode cX7_brokenOnes 5 = .ok (.aload_n 0, 1) := by decide +kernel
theorem dX7_brokenOnes_6 : decode cX7_brokenOnes 6 = .ok (.getfield 21, 3) := by decide +kernel
theorem dX7_brokenOnes_9 : decode cX7_brokenOnes 9 = .ok (.if_icmp .ge 29, 3) := by decide +kernel
theorem dX7_brokenOnes_12 : decode cX7_brokenOnes 12 = .ok (.iload_n 1, 1) := by decide +kernel
theorem dX7_brokenOnes_13 : decode cX7_brokenOnes 13 = .ok (.aload_n 0, 1) := by decide +kernel
theorem dX7_brokenOnes_14 : decode cX7_brokenOnes 14 = .ok (.getfield 11, 3) := by decide +kernel
theorem dX7_brokenOnes_17 : decode cX7_brokenOnes 17 = .ok (.iload_n 2, 1) := by decide +kernel
theorem dX7_brokenOnes_18 : decode cX7_brokenOnes 18 = .ok (.aaload, 1) := by decide +kernel
theorem dX7_brokenOnes_19 : decode cX7_brokenOnes 19 = .ok (.getfield 51, 3) := by decide +kernel
theorem dX7_brokenOnes_22 : decode cX7_brokenOnes 22 = .ok (.ifCond .eq 7, 3) := by decide +kernel
theorem dX7_brokenOnes_25 : decode cX7_brokenOnes 25 = .ok (.iconst 1, 1) := by decide +kernel
theorem dX7_brokenOnes_26 : decode cX7_brokenOnes 26 = .ok (.goto 4, 3) := by decide +kernel
theorem dX7_brokenOnes_29 : decode cX7_brokenOnes 29 = .ok (.iconst 0, 1) := by decide +kernel
theorem dX7_brokenOnes_30 : decode cX7_brokenOnes 30 = .ok (.iadd, 1) := by decide +kernel
theorem dX7_brokenOnes_31 : decode cX7_brokenOnes 31 = .ok (.istore_n 1, 1) := by decide +kernel
theorem dX7_brokenOnes_32 : decode cX7_brokenOnes 32 = .ok (.iinc 2 1, 3) := by decide +kernel
theorem dX7_brokenOnes_35 : decode cX7_brokenOnes 35 = .ok (.goto (-31), 3) := by decide +kernel
theorem dX7_brokenOnes_38 : decode cX7_brokenOnes 38 = .ok (.iload_n 1, 1) := by decide +kernel
theorem dX7_brokenOnes_39 : decode cX7_brokenOnes 39 = .ok (.ireturn, 1) := by decide +kernel
theorem dX7_leastHeap_0 : decode cX7_leastHeap 0 = .ok (.iconst 0, 1) := by decide +kernel
theorem dX7_leastHeap_1 : decode cX7_leastHeap 1 = .ok (.istore_n 2, 1) := by decide +kernel
