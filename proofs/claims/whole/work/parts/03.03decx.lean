theorem dX7_leastHeap_2 : decode cX7_leastHeap 2 = .ok (.iload_n 2, 1) := by decide +kernel
theorem dX7_leastHeap_3 : decode cX7_leastHeap 3 = .ok (.aload_n 0, 1) := by decide +kernel
theorem dX7_leastHeap_4 : decode cX7_leastHeap 4 = .ok (.getfield 21, 3) := by decide +kernel
theorem dX7_leastHeap_7 : decode cX7_leastHeap 7 = .ok (.if_icmp .ge 28, 3) := by decide +kernel
theorem dX7_leastHeap_10 : decode cX7_leastHeap 10 = .ok (.aload_n 0, 1) := by decide +kernel
theorem dX7_leastHeap_11 : decode cX7_leastHeap 11 = .ok (.getfield 17, 3) := by decide +kernel
theorem dX7_leastHeap_14 : decode cX7_leastHeap 14 = .ok (.iload_n 2, 1) := by decide +kernel
theorem dX7_leastHeap_15 : decode cX7_leastHeap 15 = .ok (.aload_n 1, 1) := by decide +kernel
theorem dX7_leastHeap_16 : decode cX7_leastHeap 16 = .ok (.aload_n 0, 1) := by decide +kernel
theorem dX7_leastHeap_17 : decode cX7_leastHeap 17 = .ok (.getfield 11, 3) := by decide +kernel
theorem dX7_leastHeap_20 : decode cX7_leastHeap 20 = .ok (.iload_n 2, 1) := by decide +kernel
theorem dX7_leastHeap_21 : decode cX7_leastHeap 21 = .ok (.aaload, 1) := by decide +kernel
theorem dX7_leastHeap_22 : decode cX7_leastHeap 22 = .ok (.getfield 30, 3) := by decide +kernel
theorem dX7_leastHeap_25 : decode cX7_leastHeap 25 = .ok (.invokevirtual 54, 3) := by decide +kernel
theorem dX7_leastHeap_28 : decode cX7_leastHeap 28 = .ok (.iastore, 1) := by decide +kernel
theorem dX7_leastHeap_29 : decode cX7_leastHeap 29 = .ok (.iinc 2 1, 3) := by decide +kernel
theorem dX7_leastHeap_32 : decode cX7_leastHeap 32 = .ok (.goto (-30), 3) := by decide +kernel
theorem dX7_leastHeap_35 : decode cX7_leastHeap 35 = .ok (.iconst 1, 1) := by decide +kernel
theorem dX7_leastHeap_36 : decode cX7_leastHeap 36 = .ok (.aload_n 0, 1) := by decide +kernel
theorem dX7_leastHeap_37 : decode cX7_leastHeap 37 = .ok (.getfield 21, 3) := by decide +kernel
theorem dX7_leastHeap_40 : decode cX7_leastHeap 40 = .ok (.ishl, 1) := by decide +kernel
theorem dX7_leastHeap_41 : decode cX7_leastHeap 41 = .ok (.iconst 1, 1) := by decide +kernel
theorem dX7_leastHeap_42 : decode cX7_leastHeap 42 = .ok (.isub, 1) := by decide +kernel
theorem dX7_leastHeap_43 : decode cX7_leastHeap 43 = .ok (.istore_n 2, 1) := by decide +kernel
theorem dX7_leastHeap_44 : decode cX7_leastHeap 44 = .ok (.aload_n 0, 1) := by decide +kernel
theorem dX7_leastHeap_45 : decode cX7_leastHeap 45 = .ok (.iload_n 2, 1) := by decide +kernel
theorem dX7_leastHeap_46 : decode cX7_leastHeap 46 = .ok (.invokevirtual 59, 3) := by decide +kernel
theorem dX7_leastHeap_49 : decode cX7_leastHeap 49 = .ok (.istore_n 3, 1) := by decide +kernel
theorem dX7_leastHeap_50 : decode cX7_leastHeap 50 = .ok (.iconst 0, 1) := by decide +kernel
theorem dX7_leastHeap_51 : decode cX7_leastHeap 51 = .ok (.istore 4, 2) := by decide +kernel
theorem dX7_leastHeap_53 : decode cX7_leastHeap 53 = .ok (.iload 4, 2) := by decide +kernel
theorem dX7_leastHeap_55 : decode cX7_leastHeap 55 = .ok (.iconst 1, 1) := by decide +kernel
theorem dX7_leastHeap_56 : decode cX7_leastHeap 56 = .ok (.aload_n 0, 1) := by decide +kernel
theorem dX7_leastHeap_57 : decode cX7_leastHeap 57 = .ok (.getfield 21, 3) := by decide +kernel
theorem dX7_leastHeap_60 : decode cX7_leastHeap 60 = .ok (.ishl, 1) := by decide +kernel
theorem dX7_leastHeap_61 : decode cX7_leastHeap 61 = .ok (.if_icmp .ge 34, 3) := by decide +kernel
theorem dX7_leastHeap_64 : decode cX7_leastHeap 64 = .ok (.iload 4, 2) := by decide +kernel
theorem dX7_leastHeap_66 : decode cX7_leastHeap 66 = .ok (.invokestatic 63, 3) := by decide +kernel
theorem dX7_leastHeap_69 : decode cX7_leastHeap 69 = .ok (.iload_n 2, 1) := by decide +kernel
theorem dX7_leastHeap_70 : decode cX7_leastHeap 70 = .ok (.invokestatic 63, 3) := by decide +kernel
theorem dX7_leastHeap_73 : decode cX7_leastHeap 73 = .ok (.if_icmp .ge 16, 3) := by decide +kernel
theorem dX7_leastHeap_76 : decode cX7_leastHeap 76 = .ok (.aload_n 0, 1) := by decide +kernel
theorem dX7_leastHeap_77 : decode cX7_leastHeap 77 = .ok (.iload 4, 2) := by decide +kernel
theorem dX7_leastHeap_79 : decode cX7_leastHeap 79 = .ok (.invokevirtual 59, 3) := by decide +kernel
theorem dX7_leastHeap_82 : decode cX7_leastHeap 82 = .ok (.iload_n 3, 1) := by decide +kernel
theorem dX7_leastHeap_83 : decode cX7_leastHeap 83 = .ok (.if_icmp .ne 6, 3) := by decide +kernel
theorem dX7_leastHeap_86 : decode cX7_leastHeap 86 = .ok (.iload 4, 2) := by decide +kernel
theorem dX7_leastHeap_88 : decode cX7_leastHeap 88 = .ok (.istore_n 2, 1) := by decide +kernel
theorem dX7_leastHeap_89 : decode cX7_leastHeap 89 = .ok (.iinc 4 1, 3) := by decide +kernel
theorem dX7_leastHeap_92 : decode cX7_leastHeap 92 = .ok (.goto (-39), 3) := by decide +kernel
theorem dX7_leastHeap_95 : decode cX7_leastHeap 95 = .ok (.iload_n 2, 1) := by decide +kernel
theorem dX7_leastHeap_96 : decode cX7_leastHeap 96 = .ok (.ireturn, 1) := by decide +kernel
theorem dX7_metByHeap_0 : decode cX7_metByHeap 0 = .ok (.iconst 0, 1) := by decide +kernel
theorem dX7_metByHeap_1 : decode cX7_metByHeap 1 = .ok (.istore_n 2, 1) := by decide +kernel
theorem dX7_metByHeap_2 : decode cX7_metByHeap 2 = .ok (.iconst 0, 1) := by decide +kernel
theorem dX7_metByHeap_3 : decode cX7_metByHeap 3 = .ok (.istore_n 3, 1) := by decide +kernel
theorem dX7_metByHeap_4 : decode cX7_metByHeap 4 = .ok (.iload_n 3, 1) := by decide +kernel
theorem dX7_metByHeap_5 : decode cX7_metByHeap 5 = .ok (.aload_n 0, 1) := by decide +kernel
theorem dX7_metByHeap_6 : decode cX7_metByHeap 6 = .ok (.getfield 21, 3) := by decide +kernel
theorem dX7_metByHeap_9 : decode cX7_metByHeap 9 = .ok (.if_icmp .ge 31, 3) := by decide +kernel
theorem dX7_metByHeap_12 : decode cX7_metByHeap 12 = .ok (.iload_n 2, 1) := by decide +kernel
theorem dX7_metByHeap_13 : decode cX7_metByHeap 13 = .ok (.iload_n 1, 1) := by decide +kernel
theorem dX7_metByHeap_14 : decode cX7_metByHeap 14 = .ok (.iload_n 3, 1) := by decide +kernel
theorem dX7_metByHeap_15 : decode cX7_metByHeap 15 = .ok (.ishr, 1) := by decide +kernel
theorem dX7_metByHeap_16 : decode cX7_metByHeap 16 = .ok (.iconst 1, 1) := by decide +kernel
theorem dX7_metByHeap_17 : decode cX7_metByHeap 17 = .ok (.iand, 1) := by decide +kernel
theorem dX7_metByHeap_18 : decode cX7_metByHeap 18 = .ok (.iconst 1, 1) := by decide +kernel
theorem dX7_metByHeap_19 : decode cX7_metByHeap 19 = .ok (.if_icmp .ne 12, 3) := by decide +kernel
theorem dX7_metByHeap_22 : decode cX7_metByHeap 22 = .ok (.aload_n 0, 1) := by decide +kernel
theorem dX7_metByHeap_23 : decode cX7_metByHeap 23 = .ok (.getfield 17, 3) := by decide +kernel
theorem dX7_metByHeap_26 : decode cX7_metByHeap 26 = .ok (.iload_n 3, 1) := by decide +kernel
theorem dX7_metByHeap_27 : decode cX7_metByHeap 27 = .ok (.iaload, 1) := by decide +kernel
theorem dX7_metByHeap_28 : decode cX7_metByHeap 28 = .ok (.goto 4, 3) := by decide +kernel
theorem dX7_metByHeap_31 : decode cX7_metByHeap 31 = .ok (.iconst 0, 1) := by decide +kernel
theorem dX7_metByHeap_32 : decode cX7_metByHeap 32 = .ok (.ior, 1) := by decide +kernel
theorem dX7_metByHeap_33 : decode cX7_metByHeap 33 = .ok (.istore_n 2, 1) := by decide +kernel
theorem dX7_metByHeap_34 : decode cX7_metByHeap 34 = .ok (.iinc 3 1, 3) := by decide +kernel
theorem dX7_metByHeap_37 : decode cX7_metByHeap 37 = .ok (.goto (-33), 3) := by decide +kernel
theorem dX7_metByHeap_40 : decode cX7_metByHeap 40 = .ok (.iload_n 2, 1) := by decide +kernel
theorem dX7_metByHeap_41 : decode cX7_metByHeap 41 = .ok (.ireturn, 1) := by decide +kernel
theorem dX8_init_0 : decode cX8_init 0 = .ok (.aload_n 0, 1) := by decide +kernel
theorem dX8_init_1 : decode cX8_init 1 = .ok (.invokespecial 3, 3) := by decide +kernel
theorem dX8_init_4 : decode cX8_init 4 = .ok (.aload_n 0, 1) := by decide +kernel
theorem dX8_init_5 : decode cX8_init 5 = .ok (.new 9, 3) := by decide +kernel
theorem dX8_init_8 : decode cX8_init 8 = .ok (.dup, 1) := by decide +kernel
theorem dX8_init_9 : decode cX8_init 9 = .ok (.invokespecial 11, 3) := by decide +kernel
theorem dX8_init_12 : decode cX8_init 12 = .ok (.putfield 12, 3) := by decide +kernel
theorem dX8_init_15 : decode cX8_init 15 = .ok (.aload_n 0, 1) := by decide +kernel
theorem dX8_init_16 : decode cX8_init 16 = .ok (.new 16, 3) := by decide +kernel
theorem dX8_init_19 : decode cX8_init 19 = .ok (.dup, 1) := by decide +kernel
theorem dX8_init_20 : decode cX8_init 20 = .ok (.invokespecial 18, 3) := by decide +kernel
theorem dX8_init_23 : decode cX8_init 23 = .ok (.putfield 19, 3) := by decide +kernel
theorem dX8_init_26 : decode cX8_init 26 = .ok (.aload_n 0, 1) := by decide +kernel
theorem dX8_init_27 : decode cX8_init 27 = .ok (.new 23, 3) := by decide +kernel
theorem dX8_init_30 : decode cX8_init 30 = .ok (.dup, 1) := by decide +kernel
theorem dX8_init_31 : decode cX8_init 31 = .ok (.invokespecial 25, 3) := by decide +kernel
theorem dX8_init_34 : decode cX8_init 34 = .ok (.putfield 26, 3) := by decide +kernel
theorem dX8_init_37 : decode cX8_init 37 = .ok (.aload_n 0, 1) := by decide +kernel
theorem dX8_init_38 : decode cX8_init 38 = .ok (.new 30, 3) := by decide +kernel
theorem dX8_init_41 : decode cX8_init 41 = .ok (.dup, 1) := by decide +kernel
theorem dX8_init_42 : decode cX8_init 42 = .ok (.aload_n 0, 1) := by decide +kernel
theorem dX8_init_43 : decode cX8_init 43 = .ok (.getfield 12, 3) := by decide +kernel
theorem dX8_init_46 : decode cX8_init 46 = .ok (.invokespecial 32, 3) := by decide +kernel
theorem dX8_init_49 : decode cX8_init 49 = .ok (.putfield 35, 3) := by decide +kernel
theorem dX8_init_52 : decode cX8_init 52 = .ok (.aload_n 0, 1) := by decide +kernel
theorem dX8_init_53 : decode cX8_init 53 = .ok (.new 39, 3) := by decide +kernel
theorem dX8_init_56 : decode cX8_init 56 = .ok (.dup, 1) := by decide +kernel
theorem dX8_init_57 : decode cX8_init 57 = .ok (.aload_n 0, 1) := by decide +kernel
theorem dX8_init_58 : decode cX8_init 58 = .ok (.getfield 12, 3) := by decide +kernel
theorem dX8_init_61 : decode cX8_init 61 = .ok (.invokespecial 41, 3) := by decide +kernel
theorem dX8_init_64 : decode cX8_init 64 = .ok (.putfield 42, 3) := by decide +kernel
theorem dX8_init_67 : decode cX8_init 67 = .ok (.return_, 1) := by decide +kernel
theorem dX8_branch_0 : decode cX8_branch 0 = .ok (.aload_n 0, 1) := by decide +kernel
theorem dX8_branch_1 : decode cX8_branch 1 = .ok (.getfield 12, 3) := by decide +kernel
theorem dX8_branch_4 : decode cX8_branch 4 = .ok (.iload_n 1, 1) := by decide +kernel
theorem dX8_branch_5 : decode cX8_branch 5 = .ok (.invokevirtual 46, 3) := by decide +kernel
theorem dX8_branch_8 : decode cX8_branch 8 = .ok (.ifCond .eq 13, 3) := by decide +kernel
theorem dX8_branch_11 : decode cX8_branch 11 = .ok (.iload_n 2, 1) := by decide +kernel
theorem dX8_branch_12 : decode cX8_branch 12 = .ok (.iload_n 3, 1) := by decide +kernel
theorem dX8_branch_13 : decode cX8_branch 13 = .ok (.iload 4, 2) := by decide +kernel
theorem dX8_branch_15 : decode cX8_branch 15 = .ok (.invokestatic 50, 3) := by decide +kernel
theorem dX8_branch_18 : decode cX8_branch 18 = .ok (.ifCond .ne 5, 3) := by decide +kernel
theorem dX8_branch_21 : decode cX8_branch 21 = .ok (.iconst (-1), 1) := by decide +kernel
theorem dX8_branch_22 : decode cX8_branch 22 = .ok (.ireturn, 1) := by decide +kernel
theorem dX8_branch_23 : decode cX8_branch 23 = .ok (.aload_n 0, 1) := by decide +kernel
theorem dX8_branch_24 : decode cX8_branch 24 = .ok (.getfield 26, 3) := by decide +kernel
theorem dX8_branch_27 : decode cX8_branch 27 = .ok (.iload_n 1, 1) := by decide +kernel
theorem dX8_branch_28 : decode cX8_branch 28 = .ok (.invokevirtual 56, 3) := by decide +kernel
theorem dX8_branch_31 : decode cX8_branch 31 = .ok (.aload_n 0, 1) := by decide +kernel
theorem dX8_branch_32 : decode cX8_branch 32 = .ok (.getfield 12, 3) := by decide +kernel
theorem dX8_branch_35 : decode cX8_branch 35 = .ok (.iload_n 1, 1) := by decide +kernel
theorem dX8_branch_36 : decode cX8_branch 36 = .ok (.new 51, 3) := by decide +kernel
theorem dX8_branch_39 : decode cX8_branch 39 = .ok (.dup, 1) := by decide +kernel
theorem dX8_branch_40 : decode cX8_branch 40 = .ok (.iload_n 2, 1) := by decide +kernel
theorem dX8_branch_41 : decode cX8_branch 41 = .ok (.iload_n 3, 1) := by decide +kernel
theorem dX8_branch_42 : decode cX8_branch 42 = .ok (.iload 4, 2) := by decide +kernel
theorem dX8_branch_44 : decode cX8_branch 44 = .ok (.invokespecial 60, 3) := by decide +kernel
theorem dX8_branch_47 : decode cX8_branch 47 = .ok (.invokevirtual 63, 3) := by decide +kernel
theorem dX8_branch_50 : decode cX8_branch 50 = .ok (.ireturn, 1) := by decide +kernel
theorem dX8_change_0 : decode cX8_change 0 = .ok (.aload_n 0, 1) := by decide +kernel
theorem dX8_change_1 : decode cX8_change 1 = .ok (.getfield 12, 3) := by decide +kernel
theorem dX8_change_4 : decode cX8_change 4 = .ok (.iload_n 1, 1) := by decide +kernel
theorem dX8_change_5 : decode cX8_change 5 = .ok (.invokevirtual 67, 3) := by decide +kernel
theorem dX8_change_8 : decode cX8_change 8 = .ok (.ifCond .eq 13, 3) := by decide +kernel
theorem dX8_change_11 : decode cX8_change 11 = .ok (.iload_n 2, 1) := by decide +kernel
theorem dX8_change_12 : decode cX8_change 12 = .ok (.iload_n 3, 1) := by decide +kernel
theorem dX8_change_13 : decode cX8_change 13 = .ok (.iload 4, 2) := by decide +kernel
theorem dX8_change_15 : decode cX8_change 15 = .ok (.invokestatic 50, 3) := by decide +kernel
theorem dX8_change_18 : decode cX8_change 18 = .ok (.ifCond .ne 5, 3) := by decide +kernel
theorem dX8_change_21 : decode cX8_change 21 = .ok (.iconst 0, 1) := by decide +kernel
theorem dX8_change_22 : decode cX8_change 22 = .ok (.ireturn, 1) := by decide +kernel
theorem dX8_change_23 : decode cX8_change 23 = .ok (.aload_n 0, 1) := by decide +kernel
theorem dX8_change_24 : decode cX8_change 24 = .ok (.getfield 26, 3) := by decide +kernel
theorem dX8_change_27 : decode cX8_change 27 = .ok (.iload_n 1, 1) := by decide +kernel
theorem dX8_change_28 : decode cX8_change 28 = .ok (.invokevirtual 70, 3) := by decide +kernel
theorem dX8_change_31 : decode cX8_change 31 = .ok (.aload_n 0, 1) := by decide +kernel
theorem dX8_change_32 : decode cX8_change 32 = .ok (.getfield 12, 3) := by decide +kernel
theorem dX8_change_35 : decode cX8_change 35 = .ok (.iload_n 1, 1) := by decide +kernel
theorem dX8_change_36 : decode cX8_change 36 = .ok (.new 51, 3) := by decide +kernel
theorem dX8_change_39 : decode cX8_change 39 = .ok (.dup, 1) := by decide +kernel
theorem dX8_change_40 : decode cX8_change 40 = .ok (.iload_n 2, 1) := by decide +kernel
theorem dX8_change_41 : decode cX8_change 41 = .ok (.iload_n 3, 1) := by decide +kernel
theorem dX8_change_42 : decode cX8_change 42 = .ok (.iload 4, 2) := by decide +kernel
theorem dX8_change_44 : decode cX8_change 44 = .ok (.invokespecial 60, 3) := by decide +kernel
theorem dX8_change_47 : decode cX8_change 47 = .ok (.invokevirtual 73, 3) := by decide +kernel
theorem dX8_change_50 : decode cX8_change 50 = .ok (.iconst 1, 1) := by decide +kernel
theorem dX8_change_51 : decode cX8_change 51 = .ok (.ireturn, 1) := by decide +kernel
theorem dX8_call_0 : decode cX8_call 0 = .ok (.iload_n 1, 1) := by decide +kernel
theorem dX8_call_1 : decode cX8_call 1 = .ok (.bipush 6, 2) := by decide +kernel
theorem dX8_call_3 : decode cX8_call 3 = .ok (.invokestatic 77, 3) := by decide +kernel
theorem dX8_call_6 : decode cX8_call 6 = .ok (.ifCond .eq 12, 3) := by decide +kernel
theorem dX8_call_9 : decode cX8_call 9 = .ok (.iload_n 2, 1) := by decide +kernel
theorem dX8_call_10 : decode cX8_call 10 = .ok (.bipush 16, 2) := by decide +kernel
theorem dX8_call_12 : decode cX8_call 12 = .ok (.invokestatic 77, 3) := by decide +kernel
theorem dX8_call_15 : decode cX8_call 15 = .ok (.ifCond .ne 5, 3) := by decide +kernel
theorem dX8_call_18 : decode cX8_call 18 = .ok (.iconst (-1), 1) := by decide +kernel
theorem dX8_call_19 : decode cX8_call 19 = .ok (.ireturn, 1) := by decide +kernel
theorem dX8_call_20 : decode cX8_call 20 = .ok (.aload_n 0, 1) := by decide +kernel
theorem dX8_call_21 : decode cX8_call 21 = .ok (.getfield 19, 3) := by decide +kernel
theorem dX8_call_24 : decode cX8_call 24 = .ok (.iload_n 1, 1) := by decide +kernel
theorem dX8_call_25 : decode cX8_call 25 = .ok (.iload_n 2, 1) := by decide +kernel
theorem dX8_call_26 : decode cX8_call 26 = .ok (.invokestatic 81, 3) := by decide +kernel
theorem dX8_call_29 : decode cX8_call 29 = .ok (.aload_n 0, 1) := by decide +kernel
theorem dX8_call_30 : decode cX8_call 30 = .ok (.getfield 12, 3) := by decide +kernel
theorem dX8_call_33 : decode cX8_call 33 = .ok (.invokevirtual 85, 3) := by decide +kernel
theorem dX8_call_36 : decode cX8_call 36 = .ok (.ireturn, 1) := by decide +kernel
theorem dX8_fresh_0 : decode cX8_fresh 0 = .ok (.aload_n 0, 1) := by decide +kernel
theorem dX8_fresh_1 : decode cX8_fresh 1 = .ok (.getfield 19, 3) := by decide +kernel
theorem dX8_fresh_4 : decode cX8_fresh 4 = .ok (.invokevirtual 88, 3) := by decide +kernel
theorem dX8_fresh_7 : decode cX8_fresh 7 = .ok (.ireturn, 1) := by decide +kernel
theorem dX8_logged_0 : decode cX8_logged 0 = .ok (.aload_n 0, 1) := by decide +kernel
theorem dX8_logged_1 : decode cX8_logged 1 = .ok (.getfield 19, 3) := by decide +kernel
theorem dX8_logged_4 : decode cX8_logged 4 = .ok (.iload_n 1, 1) := by decide +kernel
theorem dX8_logged_5 : decode cX8_logged 5 = .ok (.iload_n 2, 1) := by decide +kernel
theorem dX8_logged_6 : decode cX8_logged 6 = .ok (.invokevirtual 92, 3) := by decide +kernel
theorem dX8_logged_9 : decode cX8_logged 9 = .ok (.ireturn, 1) := by decide +kernel
theorem dX8_make_0 : decode cX8_make 0 = .ok (.aload_n 0, 1) := by decide +kernel
theorem dX8_make_1 : decode cX8_make 1 = .ok (.getfield 26, 3) := by decide +kernel
theorem dX8_make_4 : decode cX8_make 4 = .ok (.invokevirtual 95, 3) := by decide +kernel
theorem dX8_make_7 : decode cX8_make 7 = .ok (.astore_n 2, 1) := by decide +kernel
theorem dX8_make_8 : decode cX8_make 8 = .ok (.aload_n 2, 1) := by decide +kernel
theorem dX8_make_9 : decode cX8_make 9 = .ok (.ifnull 17, 3) := by decide +kernel
theorem dX8_make_12 : decode cX8_make 12 = .ok (.iload_n 1, 1) := by decide +kernel
theorem dX8_make_13 : decode cX8_make 13 = .ok (.aload_n 0, 1) := by decide +kernel
theorem dX8_make_14 : decode cX8_make 14 = .ok (.getfield 19, 3) := by decide +kernel
theorem dX8_make_17 : decode cX8_make 17 = .ok (.invokevirtual 99, 3) := by decide +kernel
theorem dX8_make_20 : decode cX8_make 20 = .ok (.invokestatic 77, 3) := by decide +kernel
theorem dX8_make_23 : decode cX8_make 23 = .ok (.ifCond .ne 5, 3) := by decide +kernel
theorem dX8_make_26 : decode cX8_make 26 = .ok (.iconst (-1), 1) := by decide +kernel
theorem dX8_make_27 : decode cX8_make 27 = .ok (.ireturn, 1) := by decide +kernel
theorem dX8_make_28 : decode cX8_make 28 = .ok (.aload_n 2, 1) := by decide +kernel
theorem dX8_make_29 : decode cX8_make 29 = .ok (.getfield 102, 3) := by decide +kernel
theorem dX8_make_32 : decode cX8_make 32 = .ok (.aload_n 0, 1) := by decide +kernel
theorem dX8_make_33 : decode cX8_make 33 = .ok (.getfield 19, 3) := by decide +kernel
theorem dX8_make_36 : decode cX8_make 36 = .ok (.getfield 108, 3) := by decide +kernel
theorem dX8_make_39 : decode cX8_make 39 = .ok (.iload_n 1, 1) := by decide +kernel
theorem dX8_make_40 : decode cX8_make 40 = .ok (.iconst 1, 1) := by decide +kernel
theorem dX8_make_41 : decode cX8_make 41 = .ok (.iadd, 1) := by decide +kernel
theorem dX8_make_42 : decode cX8_make 42 = .ok (.invokevirtual 109, 3) := by decide +kernel
theorem dX8_make_45 : decode cX8_make 45 = .ok (.aload_n 0, 1) := by decide +kernel
theorem dX8_make_46 : decode cX8_make 46 = .ok (.getfield 35, 3) := by decide +kernel
theorem dX8_make_49 : decode cX8_make 49 = .ok (.aload_n 2, 1) := by decide +kernel
theorem dX8_make_50 : decode cX8_make 50 = .ok (.getfield 102, 3) := by decide +kernel
theorem dX8_make_53 : decode cX8_make 53 = .ok (.invokevirtual 115, 3) := by decide +kernel
theorem dX8_make_56 : decode cX8_make 56 = .ok (.aload_n 0, 1) := by decide +kernel
theorem dX8_make_57 : decode cX8_make 57 = .ok (.getfield 42, 3) := by decide +kernel
theorem dX8_make_60 : decode cX8_make 60 = .ok (.aload_n 2, 1) := by decide +kernel
theorem dX8_make_61 : decode cX8_make 61 = .ok (.getfield 102, 3) := by decide +kernel
theorem dX8_make_64 : decode cX8_make 64 = .ok (.aload_n 0, 1) := by decide +kernel
theorem dX8_make_65 : decode cX8_make 65 = .ok (.getfield 35, 3) := by decide +kernel
theorem dX8_make_68 : decode cX8_make 68 = .ok (.invokevirtual 119, 3) := by decide +kernel
theorem dX8_make_71 : decode cX8_make 71 = .ok (.aload_n 0, 1) := by decide +kernel
theorem dX8_make_72 : decode cX8_make 72 = .ok (.getfield 35, 3) := by decide +kernel
theorem dX8_make_75 : decode cX8_make 75 = .ok (.invokevirtual 122, 3) := by decide +kernel
theorem dX8_make_78 : decode cX8_make 78 = .ok (.invokevirtual 125, 3) := by decide +kernel
theorem dX8_make_81 : decode cX8_make 81 = .ok (.aload_n 0, 1) := by decide +kernel
theorem dX8_make_82 : decode cX8_make 82 = .ok (.getfield 26, 3) := by decide +kernel
theorem dX8_make_85 : decode cX8_make 85 = .ok (.aload_n 2, 1) := by decide +kernel
theorem dX8_make_86 : decode cX8_make 86 = .ok (.invokevirtual 129, 3) := by decide +kernel
theorem dX8_make_89 : decode cX8_make 89 = .ok (.ifCond .eq 5, 3) := by decide +kernel
theorem dX8_make_92 : decode cX8_make 92 = .ok (.iconst (-1), 1) := by decide +kernel
theorem dX8_make_93 : decode cX8_make 93 = .ok (.ireturn, 1) := by decide +kernel
theorem dX8_make_94 : decode cX8_make 94 = .ok (.aload_n 0, 1) := by decide +kernel
theorem dX8_make_95 : decode cX8_make 95 = .ok (.getfield 35, 3) := by decide +kernel
theorem dX8_make_98 : decode cX8_make 98 = .ok (.aload_n 2, 1) := by decide +kernel
theorem dX8_make_99 : decode cX8_make 99 = .ok (.getfield 102, 3) := by decide +kernel
theorem dX8_make_102 : decode cX8_make 102 = .ok (.invokevirtual 115, 3) := by decide +kernel
theorem dX8_make_105 : decode cX8_make 105 = .ok (.aload_n 2, 1) := by decide +kernel
theorem dX8_make_106 : decode cX8_make 106 = .ok (.aload_n 0, 1) := by decide +kernel
theorem dX8_make_107 : decode cX8_make 107 = .ok (.getfield 35, 3) := by decide +kernel
theorem dX8_make_110 : decode cX8_make 110 = .ok (.invokevirtual 133, 3) := by decide +kernel
theorem dX8_make_113 : decode cX8_make 113 = .ok (.aload_n 0, 1) := by decide +kernel
theorem dX8_make_114 : decode cX8_make 114 = .ok (.getfield 26, 3) := by decide +kernel
theorem dX8_make_117 : decode cX8_make 117 = .ok (.invokevirtual 137, 3) := by decide +kernel
theorem dX8_make_120 : decode cX8_make 120 = .ok (.ireturn, 1) := by decide +kernel
theorem dX8_drop_0 : decode cX8_drop 0 = .ok (.aload_n 0, 1) := by decide +kernel
theorem dX8_drop_1 : decode cX8_drop 1 = .ok (.getfield 26, 3) := by decide +kernel
theorem dX8_drop_4 : decode cX8_drop 4 = .ok (.iload_n 1, 1) := by decide +kernel
theorem dX8_drop_5 : decode cX8_drop 5 = .ok (.invokevirtual 140, 3) := by decide +kernel
theorem dX8_drop_8 : decode cX8_drop 8 = .ok (.ireturn, 1) := by decide +kernel
theorem dX8_told_0 : decode cX8_told 0 = .ok (.aload_n 0, 1) := by decide +kernel
theorem dX8_told_1 : decode cX8_told 1 = .ok (.getfield 26, 3) := by decide +kernel
theorem dX8_told_4 : decode cX8_told 4 = .ok (.iload_n 1, 1) := by decide +kernel
theorem dX8_told_5 : decode cX8_told 5 = .ok (.invokevirtual 143, 3) := by decide +kernel
theorem dX8_told_8 : decode cX8_told 8 = .ok (.astore_n 3, 1) := by decide +kernel
theorem dX8_told_9 : decode cX8_told 9 = .ok (.aload_n 3, 1) := by decide +kernel
theorem dX8_told_10 : decode cX8_told 10 = .ok (.ifnonnull 5, 3) := by decide +kernel
theorem dX8_told_13 : decode cX8_told 13 = .ok (.iconst (-1), 1) := by decide +kernel
theorem dX8_told_14 : decode cX8_told 14 = .ok (.ireturn, 1) := by decide +kernel
theorem dX8_told_15 : decode cX8_told 15 = .ok (.iload_n 2, 1) := by decide +kernel
theorem dX8_told_16 : decode cX8_told 16 = .ok (.tableswitch 106 0 5 #[40, 48, 61, 74, 89, 94], 40) := by decide +kernel
theorem dX8_told_56 : decode cX8_told 56 = .ok (.aload_n 3, 1) := by decide +kernel
theorem dX8_told_57 : decode cX8_told 57 = .ok (.getfield 102, 3) := by decide +kernel
theorem dX8_told_60 : decode cX8_told 60 = .ok (.invokevirtual 147, 3) := by decide +kernel
theorem dX8_told_63 : decode cX8_told 63 = .ok (.ireturn, 1) := by decide +kernel
theorem dX8_told_64 : decode cX8_told 64 = .ok (.aload_n 3, 1) := by decide +kernel
theorem dX8_told_65 : decode cX8_told 65 = .ok (.getfield 148, 3) := by decide +kernel
theorem dX8_told_68 : decode cX8_told 68 = .ok (.ifCond .eq 7, 3) := by decide +kernel
theorem dX8_told_71 : decode cX8_told 71 = .ok (.iconst 1, 1) := by decide +kernel
theorem dX8_told_72 : decode cX8_told 72 = .ok (.goto 4, 3) := by decide +kernel
theorem dX8_told_75 : decode cX8_told 75 = .ok (.iconst 0, 1) := by decide +kernel
theorem dX8_told_76 : decode cX8_told 76 = .ok (.ireturn, 1) := by decide +kernel
theorem dX8_told_77 : decode cX8_told 77 = .ok (.aload_n 3, 1) := by decide +kernel
theorem dX8_told_78 : decode cX8_told 78 = .ok (.getfield 152, 3) := by decide +kernel
theorem dX8_told_81 : decode cX8_told 81 = .ok (.ifCond .eq 7, 3) := by decide +kernel
theorem dX8_told_84 : decode cX8_told 84 = .ok (.iconst 1, 1) := by decide +kernel
theorem dX8_told_85 : decode cX8_told 85 = .ok (.goto 4, 3) := by decide +kernel
theorem dX8_told_88 : decode cX8_told 88 = .ok (.iconst 0, 1) := by decide +kernel
theorem dX8_told_89 : decode cX8_told 89 = .ok (.ireturn, 1) := by decide +kernel
theorem dX8_told_90 : decode cX8_told 90 = .ok (.aload_n 0, 1) := by decide +kernel
theorem dX8_told_91 : decode cX8_told 91 = .ok (.aload_n 3, 1) := by decide +kernel
theorem dX8_told_92 : decode cX8_told 92 = .ok (.invokevirtual 155, 3) := by decide +kernel
theorem dX8_told_95 : decode cX8_told 95 = .ok (.iconst (-1), 1) := by decide +kernel
theorem dX8_told_96 : decode cX8_told 96 = .ok (.if_icmp .ne 7, 3) := by decide +kernel
theorem dX8_told_99 : decode cX8_told 99 = .ok (.iconst 0, 1) := by decide +kernel
theorem dX8_told_100 : decode cX8_told 100 = .ok (.goto 4, 3) := by decide +kernel
theorem dX8_told_103 : decode cX8_told 103 = .ok (.iconst 1, 1) := by decide +kernel
theorem dX8_told_104 : decode cX8_told 104 = .ok (.ireturn, 1) := by decide +kernel
theorem dX8_told_105 : decode cX8_told 105 = .ok (.aload_n 3, 1) := by decide +kernel
theorem dX8_told_106 : decode cX8_told 106 = .ok (.getfield 159, 3) := by decide +kernel
theorem dX8_told_109 : decode cX8_told 109 = .ok (.ireturn, 1) := by decide +kernel
theorem dX8_told_110 : decode cX8_told 110 = .ok (.aload_n 0, 1) := by decide +kernel
theorem dX8_told_111 : decode cX8_told 111 = .ok (.getfield 35, 3) := by decide +kernel
theorem dX8_told_114 : decode cX8_told 114 = .ok (.aload_n 3, 1) := by decide +kernel
theorem dX8_told_115 : decode cX8_told 115 = .ok (.getfield 102, 3) := by decide +kernel
theorem dX8_told_118 : decode cX8_told 118 = .ok (.invokevirtual 163, 3) := by decide +kernel
theorem dX8_told_121 : decode cX8_told 121 = .ok (.ireturn, 1) := by decide +kernel
theorem dX8_told_122 : decode cX8_told 122 = .ok (.iconst (-1), 1) := by decide +kernel
theorem dX8_told_123 : decode cX8_told 123 = .ok (.ireturn, 1) := by decide +kernel
theorem dX8_row_0 : decode cX8_row 0 = .ok (.aload_n 0, 1) := by decide +kernel
theorem dX8_row_1 : decode cX8_row 1 = .ok (.getfield 26, 3) := by decide +kernel
theorem dX8_row_4 : decode cX8_row 4 = .ok (.iload_n 1, 1) := by decide +kernel
theorem dX8_row_5 : decode cX8_row 5 = .ok (.invokevirtual 143, 3) := by decide +kernel
theorem dX8_row_8 : decode cX8_row 8 = .ok (.astore 4, 2) := by decide +kernel
theorem dX8_row_10 : decode cX8_row 10 = .ok (.aload 4, 2) := by decide +kernel
theorem dX8_row_12 : decode cX8_row 12 = .ok (.ifnull 18, 3) := by decide +kernel
theorem dX8_row_15 : decode cX8_row 15 = .ok (.iload_n 2, 1) := by decide +kernel
theorem dX8_row_16 : decode cX8_row 16 = .ok (.aload 4, 2) := by decide +kernel
theorem dX8_row_18 : decode cX8_row 18 = .ok (.getfield 102, 3) := by decide +kernel
theorem dX8_row_21 : decode cX8_row 21 = .ok (.invokevirtual 147, 3) := by decide +kernel
theorem dX8_row_24 : decode cX8_row 24 = .ok (.invokestatic 77, 3) := by decide +kernel
theorem dX8_row_27 : decode cX8_row 27 = .ok (.ifCond .ne 5, 3) := by decide +kernel
theorem dX8_row_30 : decode cX8_row 30 = .ok (.iconst (-1), 1) := by decide +kernel
theorem dX8_row_31 : decode cX8_row 31 = .ok (.ireturn, 1) := by decide +kernel
theorem dX8_row_32 : decode cX8_row 32 = .ok (.iload_n 3, 1) := by decide +kernel
theorem dX8_row_33 : decode cX8_row 33 = .ok (.tableswitch 75 0 3 #[31, 44, 57, 67], 31) := by decide +kernel
theorem dX8_row_64 : decode cX8_row 64 = .ok (.aload 4, 2) := by decide +kernel
theorem dX8_row_66 : decode cX8_row 66 = .ok (.getfield 102, 3) := by decide +kernel
theorem dX8_row_69 : decode cX8_row 69 = .ok (.iload_n 2, 1) := by decide +kernel
theorem dX8_row_70 : decode cX8_row 70 = .ok (.invokevirtual 167, 3) := by decide +kernel
theorem dX8_row_73 : decode cX8_row 73 = .ok (.invokestatic 171, 3) := by decide +kernel
theorem dX8_row_76 : decode cX8_row 76 = .ok (.ireturn, 1) := by decide +kernel
theorem dX8_row_77 : decode cX8_row 77 = .ok (.aload 4, 2) := by decide +kernel
theorem dX8_row_79 : decode cX8_row 79 = .ok (.getfield 102, 3) := by decide +kernel
theorem dX8_row_82 : decode cX8_row 82 = .ok (.iload_n 2, 1) := by decide +kernel
theorem dX8_row_83 : decode cX8_row 83 = .ok (.invokevirtual 167, 3) := by decide +kernel
theorem dX8_row_86 : decode cX8_row 86 = .ok (.invokestatic 174, 3) := by decide +kernel
theorem dX8_row_89 : decode cX8_row 89 = .ok (.ireturn, 1) := by decide +kernel
theorem dX8_row_90 : decode cX8_row 90 = .ok (.aload 4, 2) := by decide +kernel
theorem dX8_row_92 : decode cX8_row 92 = .ok (.getfield 102, 3) := by decide +kernel
theorem dX8_row_95 : decode cX8_row 95 = .ok (.iload_n 2, 1) := by decide +kernel
theorem dX8_row_96 : decode cX8_row 96 = .ok (.invokevirtual 177, 3) := by decide +kernel
theorem dX8_row_99 : decode cX8_row 99 = .ok (.ireturn, 1) := by decide +kernel
theorem dX8_row_100 : decode cX8_row 100 = .ok (.aload_n 0, 1) := by decide +kernel
theorem dX8_row_101 : decode cX8_row 101 = .ok (.aload 4, 2) := by decide +kernel
theorem dX8_row_103 : decode cX8_row 103 = .ok (.iload_n 2, 1) := by decide +kernel
theorem dX8_row_104 : decode cX8_row 104 = .ok (.invokevirtual 180, 3) := by decide +kernel
theorem dX8_row_107 : decode cX8_row 107 = .ok (.ireturn, 1) := by decide +kernel
theorem dX8_row_108 : decode cX8_row 108 = .ok (.iconst (-1), 1) := by decide +kernel
theorem dX8_row_109 : decode cX8_row 109 = .ok (.ireturn, 1) := by decide +kernel
theorem dX8_differs_0 : decode cX8_differs 0 = .ok (.aload_n 0, 1) := by decide +kernel
theorem dX8_differs_1 : decode cX8_differs 1 = .ok (.getfield 26, 3) := by decide +kernel
theorem dX8_differs_4 : decode cX8_differs 4 = .ok (.iload_n 1, 1) := by decide +kernel
theorem dX8_differs_5 : decode cX8_differs 5 = .ok (.invokevirtual 143, 3) := by decide +kernel
theorem dX8_differs_8 : decode cX8_differs 8 = .ok (.astore_n 2, 1) := by decide +kernel
theorem dX8_differs_9 : decode cX8_differs 9 = .ok (.aload_n 2, 1) := by decide +kernel
theorem dX8_differs_10 : decode cX8_differs 10 = .ok (.ifnonnull 7, 3) := by decide +kernel
theorem dX8_differs_13 : decode cX8_differs 13 = .ok (.iconst (-1), 1) := by decide +kernel
theorem dX8_differs_14 : decode cX8_differs 14 = .ok (.goto 8, 3) := by decide +kernel
theorem dX8_differs_17 : decode cX8_differs 17 = .ok (.aload_n 0, 1) := by decide +kernel
theorem dX8_differs_18 : decode cX8_differs 18 = .ok (.aload_n 2, 1) := by decide +kernel
theorem dX8_differs_19 : decode cX8_differs 19 = .ok (.invokevirtual 155, 3) := by decide +kernel
theorem dX8_differs_22 : decode cX8_differs 22 = .ok (.ireturn, 1) := by decide +kernel
theorem dX8_run_0 : decode cX8_run 0 = .ok (.iconst 0, 1) := by decide +kernel
theorem dX8_run_1 : decode cX8_run 1 = .ok (.istore_n 1, 1) := by decide +kernel
theorem dX8_run_2 : decode cX8_run 2 = .ok (.iconst 0, 1) := by decide +kernel
theorem dX8_run_3 : decode cX8_run 3 = .ok (.istore_n 2, 1) := by decide +kernel
theorem dX8_run_4 : decode cX8_run 4 = .ok (.iload_n 2, 1) := by decide +kernel
theorem dX8_run_5 : decode cX8_run 5 = .ok (.aload_n 0, 1) := by decide +kernel
theorem dX8_run_6 : decode cX8_run 6 = .ok (.getfield 26, 3) := by decide +kernel
theorem dX8_run_9 : decode cX8_run 9 = .ok (.invokevirtual 184, 3) := by decide +kernel
theorem dX8_run_12 : decode cX8_run 12 = .ok (.if_icmp .ge 67, 3) := by decide +kernel
theorem dX8_run_15 : decode cX8_run 15 = .ok (.aload_n 0, 1) := by decide +kernel
theorem dX8_run_16 : decode cX8_run 16 = .ok (.getfield 26, 3) := by decide +kernel
theorem dX8_run_19 : decode cX8_run 19 = .ok (.iload_n 2, 1) := by decide +kernel
theorem dX8_run_20 : decode cX8_run 20 = .ok (.invokevirtual 143, 3) := by decide +kernel
theorem dX8_run_23 : decode cX8_run 23 = .ok (.astore_n 3, 1) := by decide +kernel
theorem dX8_run_24 : decode cX8_run 24 = .ok (.aload_n 3, 1) := by decide +kernel
theorem dX8_run_25 : decode cX8_run 25 = .ok (.ifnull 48, 3) := by decide +kernel
theorem dX8_run_28 : decode cX8_run 28 = .ok (.aload_n 3, 1) := by decide +kernel
theorem dX8_run_29 : decode cX8_run 29 = .ok (.getfield 148, 3) := by decide +kernel
theorem dX8_run_32 : decode cX8_run 32 = .ok (.ifCond .eq 41, 3) := by decide +kernel
theorem dX8_run_35 : decode cX8_run 35 = .ok (.aload_n 3, 1) := by decide +kernel
theorem dX8_run_36 : decode cX8_run 36 = .ok (.iconst 0, 1) := by decide +kernel
theorem dX8_run_37 : decode cX8_run 37 = .ok (.putfield 148, 3) := by decide +kernel
theorem dX8_run_40 : decode cX8_run 40 = .ok (.aload_n 3, 1) := by decide +kernel
theorem dX8_run_41 : decode cX8_run 41 = .ok (.aload_n 0, 1) := by decide +kernel
theorem dX8_run_42 : decode cX8_run 42 = .ok (.aload_n 3, 1) := by decide +kernel
theorem dX8_run_43 : decode cX8_run 43 = .ok (.invokevirtual 155, 3) := by decide +kernel
theorem dX8_run_46 : decode cX8_run 46 = .ok (.iconst (-1), 1) := by decide +kernel
theorem dX8_run_47 : decode cX8_run 47 = .ok (.if_icmp .eq 7, 3) := by decide +kernel
theorem dX8_run_50 : decode cX8_run 50 = .ok (.iconst 1, 1) := by decide +kernel
theorem dX8_run_51 : decode cX8_run 51 = .ok (.goto 4, 3) := by decide +kernel
theorem dX8_run_54 : decode cX8_run 54 = .ok (.iconst 0, 1) := by decide +kernel
theorem dX8_run_55 : decode cX8_run 55 = .ok (.putfield 152, 3) := by decide +kernel
theorem dX8_run_58 : decode cX8_run 58 = .ok (.iload_n 1, 1) := by decide +kernel
theorem dX8_run_59 : decode cX8_run 59 = .ok (.aload_n 3, 1) := by decide +kernel
theorem dX8_run_60 : decode cX8_run 60 = .ok (.getfield 152, 3) := by decide +kernel
theorem dX8_run_63 : decode cX8_run 63 = .ok (.ifCond .eq 7, 3) := by decide +kernel
theorem dX8_run_66 : decode cX8_run 66 = .ok (.iconst 1, 1) := by decide +kernel
theorem dX8_run_67 : decode cX8_run 67 = .ok (.goto 4, 3) := by decide +kernel
theorem dX8_run_70 : decode cX8_run 70 = .ok (.iconst 0, 1) := by decide +kernel
theorem dX8_run_71 : decode cX8_run 71 = .ok (.iadd, 1) := by decide +kernel
theorem dX8_run_72 : decode cX8_run 72 = .ok (.istore_n 1, 1) := by decide +kernel
theorem dX8_run_73 : decode cX8_run 73 = .ok (.iinc 2 1, 3) := by decide +kernel
theorem dX8_run_76 : decode cX8_run 76 = .ok (.goto (-72), 3) := by decide +kernel
theorem dX8_run_79 : decode cX8_run 79 = .ok (.iload_n 1, 1) := by decide +kernel
theorem dX8_run_80 : decode cX8_run 80 = .ok (.ireturn, 1) := by decide +kernel
theorem dX8_accept_0 : decode cX8_accept 0 = .ok (.aload_n 0, 1) := by decide +kernel
theorem dX8_accept_1 : decode cX8_accept 1 = .ok (.getfield 26, 3) := by decide +kernel
theorem dX8_accept_4 : decode cX8_accept 4 = .ok (.iload_n 1, 1) := by decide +kernel
theorem dX8_accept_5 : decode cX8_accept 5 = .ok (.invokevirtual 143, 3) := by decide +kernel
theorem dX8_accept_8 : decode cX8_accept 8 = .ok (.astore_n 2, 1) := by decide +kernel
theorem dX8_accept_9 : decode cX8_accept 9 = .ok (.aload_n 2, 1) := by decide +kernel
theorem dX8_accept_10 : decode cX8_accept 10 = .ok (.ifnonnull 5, 3) := by decide +kernel
theorem dX8_accept_13 : decode cX8_accept 13 = .ok (.iconst 0, 1) := by decide +kernel
theorem dX8_accept_14 : decode cX8_accept 14 = .ok (.ireturn, 1) := by decide +kernel
theorem dX8_accept_15 : decode cX8_accept 15 = .ok (.aload_n 0, 1) := by decide +kernel
theorem dX8_accept_16 : decode cX8_accept 16 = .ok (.getfield 35, 3) := by decide +kernel
theorem dX8_accept_19 : decode cX8_accept 19 = .ok (.aload_n 2, 1) := by decide +kernel
theorem dX8_accept_20 : decode cX8_accept 20 = .ok (.getfield 102, 3) := by decide +kernel
theorem dX8_accept_23 : decode cX8_accept 23 = .ok (.invokevirtual 115, 3) := by decide +kernel
theorem dX8_accept_26 : decode cX8_accept 26 = .ok (.aload_n 2, 1) := by decide +kernel
theorem dX8_accept_27 : decode cX8_accept 27 = .ok (.aload_n 0, 1) := by decide +kernel
theorem dX8_accept_28 : decode cX8_accept 28 = .ok (.getfield 35, 3) := by decide +kernel
theorem dX8_accept_31 : decode cX8_accept 31 = .ok (.invokevirtual 133, 3) := by decide +kernel
theorem dX8_accept_34 : decode cX8_accept 34 = .ok (.iconst 1, 1) := by decide +kernel
theorem dX8_accept_35 : decode cX8_accept 35 = .ok (.ireturn, 1) := by decide +kernel
theorem dX8_reached_0 : decode cX8_reached 0 = .ok (.aload_n 0, 1) := by decide +kernel
theorem dX8_reached_1 : decode cX8_reached 1 = .ok (.getfield 35, 3) := by decide +kernel
theorem dX8_reached_4 : decode cX8_reached 4 = .ok (.aload_n 0, 1) := by decide +kernel
theorem dX8_reached_5 : decode cX8_reached 5 = .ok (.getfield 19, 3) := by decide +kernel
theorem dX8_reached_8 : decode cX8_reached 8 = .ok (.getfield 108, 3) := by decide +kernel
theorem dX8_reached_11 : decode cX8_reached 11 = .ok (.invokevirtual 163, 3) := by decide +kernel
theorem dX8_reached_14 : decode cX8_reached 14 = .ok (.ireturn, 1) := by decide +kernel
theorem dX8_never_0 : decode cX8_never 0 = .ok (.aload_n 0, 1) := by decide +kernel
theorem dX8_never_1 : decode cX8_never 1 = .ok (.getfield 12, 3) := by decide +kernel
theorem dX8_never_4 : decode cX8_never 4 = .ok (.invokevirtual 185, 3) := by decide +kernel
theorem dX8_never_7 : decode cX8_never 7 = .ok (.aload_n 0, 1) := by decide +kernel
theorem dX8_never_8 : decode cX8_never 8 = .ok (.getfield 35, 3) := by decide +kernel
theorem dX8_never_11 : decode cX8_never 11 = .ok (.aload_n 0, 1) := by decide +kernel
theorem dX8_never_12 : decode cX8_never 12 = .ok (.getfield 19, 3) := by decide +kernel
theorem dX8_never_15 : decode cX8_never 15 = .ok (.getfield 108, 3) := by decide +kernel
theorem dX8_never_18 : decode cX8_never 18 = .ok (.invokevirtual 163, 3) := by decide +kernel
theorem dX8_never_21 : decode cX8_never 21 = .ok (.iconst (-1), 1) := by decide +kernel
theorem dX8_never_22 : decode cX8_never 22 = .ok (.ixor, 1) := by decide +kernel
theorem dX8_never_23 : decode cX8_never 23 = .ok (.iand, 1) := by decide +kernel
theorem dX8_never_24 : decode cX8_never 24 = .ok (.ireturn, 1) := by decide +kernel
theorem dX8_fewest_0 : decode cX8_fewest 0 = .ok (.aload_n 0, 1) := by decide +kernel
theorem dX8_fewest_1 : decode cX8_fewest 1 = .ok (.getfield 26, 3) := by decide +kernel
theorem dX8_fewest_4 : decode cX8_fewest 4 = .ok (.aload_n 0, 1) := by decide +kernel
theorem dX8_fewest_5 : decode cX8_fewest 5 = .ok (.getfield 35, 3) := by decide +kernel
theorem dX8_fewest_8 : decode cX8_fewest 8 = .ok (.invokevirtual 188, 3) := by decide +kernel
theorem dX8_fewest_11 : decode cX8_fewest 11 = .ok (.invokestatic 192, 3) := by decide +kernel
theorem dX8_fewest_14 : decode cX8_fewest 14 = .ok (.ireturn, 1) := by decide +kernel
theorem dX8_chosen_0 : decode cX8_chosen 0 = .ok (.aload_n 0, 1) := by decide +kernel
theorem dX8_chosen_1 : decode cX8_chosen 1 = .ok (.getfield 26, 3) := by decide +kernel
theorem dX8_chosen_4 : decode cX8_chosen 4 = .ok (.aload_n 0, 1) := by decide +kernel
theorem dX8_chosen_5 : decode cX8_chosen 5 = .ok (.getfield 35, 3) := by decide +kernel
theorem dX8_chosen_8 : decode cX8_chosen 8 = .ok (.invokevirtual 188, 3) := by decide +kernel
theorem dX8_chosen_11 : decode cX8_chosen 11 = .ok (.ireturn, 1) := by decide +kernel
theorem dX8_register_0 : decode cX8_register 0 = .ok (.iload_n 1, 1) := by decide +kernel
theorem dX8_register_1 : decode cX8_register 1 = .ok (.iconst 4, 1) := by decide +kernel
theorem dX8_register_2 : decode cX8_register 2 = .ok (.invokestatic 77, 3) := by decide +kernel
theorem dX8_register_5 : decode cX8_register 5 = .ok (.ifCond .eq 17, 3) := by decide +kernel
theorem dX8_register_8 : decode cX8_register 8 = .ok (.aload_n 0, 1) := by decide +kernel
theorem dX8_register_9 : decode cX8_register 9 = .ok (.getfield 19, 3) := by decide +kernel
theorem dX8_register_12 : decode cX8_register 12 = .ok (.getfield 197, 3) := by decide +kernel
theorem dX8_register_15 : decode cX8_register 15 = .ok (.iload_n 1, 1) := by decide +kernel
theorem dX8_register_16 : decode cX8_register 16 = .ok (.invokestatic 200, 3) := by decide +kernel
theorem dX8_register_19 : decode cX8_register 19 = .ok (.goto 4, 3) := by decide +kernel
theorem dX8_register_22 : decode cX8_register 22 = .ok (.iconst (-1), 1) := by decide +kernel
theorem dX8_register_23 : decode cX8_register 23 = .ok (.ireturn, 1) := by decide +kernel
theorem dX8_count_0 : decode cX8_count 0 = .ok (.iload_n 1, 1) := by decide +kernel
theorem dX8_count_1 : decode cX8_count 1 = .ok (.tableswitch 87 0 5 #[39, 47, 55, 66, 74, 82], 39) := by decide +kernel
theorem dX8_count_40 : decode cX8_count 40 = .ok (.aload_n 0, 1) := by decide +kernel
theorem dX8_count_41 : decode cX8_count 41 = .ok (.getfield 19, 3) := by decide +kernel
theorem dX8_count_44 : decode cX8_count 44 = .ok (.invokevirtual 99, 3) := by decide +kernel
theorem dX8_count_47 : decode cX8_count 47 = .ok (.ireturn, 1) := by decide +kernel
theorem dX8_count_48 : decode cX8_count 48 = .ok (.aload_n 0, 1) := by decide +kernel
theorem dX8_count_49 : decode cX8_count 49 = .ok (.getfield 26, 3) := by decide +kernel
theorem dX8_count_52 : decode cX8_count 52 = .ok (.invokevirtual 184, 3) := by decide +kernel
theorem dX8_count_55 : decode cX8_count 55 = .ok (.ireturn, 1) := by decide +kernel
theorem dX8_count_56 : decode cX8_count 56 = .ok (.aload_n 0, 1) := by decide +kernel
theorem dX8_count_57 : decode cX8_count 57 = .ok (.getfield 12, 3) := by decide +kernel
theorem dX8_count_60 : decode cX8_count 60 = .ok (.invokevirtual 185, 3) := by decide +kernel
theorem dX8_count_63 : decode cX8_count 63 = .ok (.invokestatic 192, 3) := by decide +kernel
theorem dX8_count_66 : decode cX8_count 66 = .ok (.ireturn, 1) := by decide +kernel
theorem dX8_count_67 : decode cX8_count 67 = .ok (.aload_n 0, 1) := by decide +kernel
theorem dX8_count_68 : decode cX8_count 68 = .ok (.getfield 26, 3) := by decide +kernel
theorem dX8_count_71 : decode cX8_count 71 = .ok (.invokevirtual 203, 3) := by decide +kernel
theorem dX8_count_74 : decode cX8_count 74 = .ok (.ireturn, 1) := by decide +kernel
theorem dX8_count_75 : decode cX8_count 75 = .ok (.aload_n 0, 1) := by decide +kernel
theorem dX8_count_76 : decode cX8_count 76 = .ok (.getfield 26, 3) := by decide +kernel
theorem dX8_count_79 : decode cX8_count 79 = .ok (.invokevirtual 206, 3) := by decide +kernel
theorem dX8_count_82 : decode cX8_count 82 = .ok (.ireturn, 1) := by decide +kernel
theorem dX8_count_83 : decode cX8_count 83 = .ok (.aload_n 0, 1) := by decide +kernel
theorem dX8_count_84 : decode cX8_count 84 = .ok (.invokevirtual 209, 3) := by decide +kernel
theorem dX8_count_87 : decode cX8_count 87 = .ok (.ireturn, 1) := by decide +kernel
theorem dX8_count_88 : decode cX8_count 88 = .ok (.iconst (-1), 1) := by decide +kernel
theorem dX8_count_89 : decode cX8_count 89 = .ok (.ireturn, 1) := by decide +kernel
theorem dX8_firstDifference_0 : decode cX8_firstDifference 0 = .ok (.aload_n 0, 1) := by decide +kernel
theorem dX8_firstDifference_1 : decode cX8_firstDifference 1 = .ok (.getfield 35, 3) := by decide +kernel
theorem dX8_firstDifference_4 : decode cX8_firstDifference 4 = .ok (.aload_n 1, 1) := by decide +kernel
theorem dX8_firstDifference_5 : decode cX8_firstDifference 5 = .ok (.getfield 102, 3) := by decide +kernel
theorem dX8_firstDifference_8 : decode cX8_firstDifference 8 = .ok (.invokevirtual 115, 3) := by decide +kernel
theorem dX8_firstDifference_11 : decode cX8_firstDifference 11 = .ok (.aload_n 0, 1) := by decide +kernel
theorem dX8_firstDifference_12 : decode cX8_firstDifference 12 = .ok (.getfield 35, 3) := by decide +kernel
theorem dX8_firstDifference_15 : decode cX8_firstDifference 15 = .ok (.aload_n 1, 1) := by decide +kernel
theorem dX8_firstDifference_16 : decode cX8_firstDifference 16 = .ok (.getfield 102, 3) := by decide +kernel
theorem dX8_firstDifference_19 : decode cX8_firstDifference 19 = .ok (.invokevirtual 212, 3) := by decide +kernel
theorem dX8_firstDifference_22 : decode cX8_firstDifference 22 = .ok (.ireturn, 1) := by decide +kernel
theorem dX8_resultNow_0 : decode cX8_resultNow 0 = .ok (.aload_n 0, 1) := by decide +kernel
theorem dX8_resultNow_1 : decode cX8_resultNow 1 = .ok (.getfield 35, 3) := by decide +kernel
theorem dX8_resultNow_4 : decode cX8_resultNow 4 = .ok (.aload_n 1, 1) := by decide +kernel
theorem dX8_resultNow_5 : decode cX8_resultNow 5 = .ok (.getfield 102, 3) := by decide +kernel
theorem dX8_resultNow_8 : decode cX8_resultNow 8 = .ok (.invokevirtual 115, 3) := by decide +kernel
theorem dX8_resultNow_11 : decode cX8_resultNow 11 = .ok (.aload_n 0, 1) := by decide +kernel
theorem dX8_resultNow_12 : decode cX8_resultNow 12 = .ok (.getfield 35, 3) := by decide +kernel
theorem dX8_resultNow_15 : decode cX8_resultNow 15 = .ok (.iload_n 2, 1) := by decide +kernel
theorem dX8_resultNow_16 : decode cX8_resultNow 16 = .ok (.invokevirtual 214, 3) := by decide +kernel
theorem dX8_resultNow_19 : decode cX8_resultNow 19 = .ok (.ireturn, 1) := by decide +kernel
theorem dX8_differencesOfLog_0 : decode cX8_differencesOfLog 0 = .ok (.aload_n 0, 1) := by decide +kernel
theorem dX8_differencesOfLog_1 : decode cX8_differencesOfLog 1 = .ok (.getfield 35, 3) := by decide +kernel
theorem dX8_differencesOfLog_4 : decode cX8_differencesOfLog 4 = .ok (.aload_n 0, 1) := by decide +kernel
theorem dX8_differencesOfLog_5 : decode cX8_differencesOfLog 5 = .ok (.getfield 19, 3) := by decide +kernel
theorem dX8_differencesOfLog_8 : decode cX8_differencesOfLog 8 = .ok (.getfield 108, 3) := by decide +kernel
theorem dX8_differencesOfLog_11 : decode cX8_differencesOfLog 11 = .ok (.invokevirtual 115, 3) := by decide +kernel
theorem dX8_differencesOfLog_14 : decode cX8_differencesOfLog 14 = .ok (.aload_n 0, 1) := by decide +kernel
theorem dX8_differencesOfLog_15 : decode cX8_differencesOfLog 15 = .ok (.getfield 35, 3) := by decide +kernel
theorem dX8_differencesOfLog_18 : decode cX8_differencesOfLog 18 = .ok (.aload_n 0, 1) := by decide +kernel
theorem dX8_differencesOfLog_19 : decode cX8_differencesOfLog 19 = .ok (.getfield 19, 3) := by decide +kernel
theorem dX8_differencesOfLog_22 : decode cX8_differencesOfLog 22 = .ok (.getfield 108, 3) := by decide +kernel
theorem dX8_differencesOfLog_25 : decode cX8_differencesOfLog 25 = .ok (.invokevirtual 215, 3) := by decide +kernel
theorem dX8_differencesOfLog_28 : decode cX8_differencesOfLog 28 = .ok (.ireturn, 1) := by decide +kernel
theorem dX8_isBelow_0 : decode cX8_isBelow 0 = .ok (.iload_n 0, 1) := by decide +kernel
theorem dX8_isBelow_1 : decode cX8_isBelow 1 = .ok (.ifCond .lt 12, 3) := by decide +kernel
theorem dX8_isBelow_4 : decode cX8_isBelow 4 = .ok (.iload_n 0, 1) := by decide +kernel
theorem dX8_isBelow_5 : decode cX8_isBelow 5 = .ok (.iload_n 1, 1) := by decide +kernel
theorem dX8_isBelow_6 : decode cX8_isBelow 6 = .ok (.if_icmp .ge 7, 3) := by decide +kernel
theorem dX8_isBelow_9 : decode cX8_isBelow 9 = .ok (.iconst 1, 1) := by decide +kernel
theorem dX8_isBelow_10 : decode cX8_isBelow 10 = .ok (.goto 4, 3) := by decide +kernel
theorem dX8_isBelow_13 : decode cX8_isBelow 13 = .ok (.iconst 0, 1) := by decide +kernel
theorem dX8_isBelow_14 : decode cX8_isBelow 14 = .ok (.ireturn, 1) := by decide +kernel
theorem dX8_callOf_0 : decode cX8_callOf 0 = .ok (.iload_n 0, 1) := by decide +kernel
theorem dX8_callOf_1 : decode cX8_callOf 1 = .ok (.bipush 16, 2) := by decide +kernel
theorem dX8_callOf_3 : decode cX8_callOf 3 = .ok (.imul, 1) := by decide +kernel
theorem dX8_callOf_4 : decode cX8_callOf 4 = .ok (.iload_n 1, 1) := by decide +kernel
theorem dX8_callOf_5 : decode cX8_callOf 5 = .ok (.iadd, 1) := by decide +kernel
theorem dX8_callOf_6 : decode cX8_callOf 6 = .ok (.ireturn, 1) := by decide +kernel
theorem dX8_kindOf_0 : decode cX8_kindOf 0 = .ok (.iload_n 0, 1) := by decide +kernel
theorem dX8_kindOf_1 : decode cX8_kindOf 1 = .ok (.bipush 16, 2) := by decide +kernel
theorem dX8_kindOf_3 : decode cX8_kindOf 3 = .ok (.idiv, 1) := by decide +kernel
theorem dX8_kindOf_4 : decode cX8_kindOf 4 = .ok (.ireturn, 1) := by decide +kernel
theorem dX8_numberOf_0 : decode cX8_numberOf 0 = .ok (.iload_n 0, 1) := by decide +kernel
theorem dX8_numberOf_1 : decode cX8_numberOf 1 = .ok (.bipush 16, 2) := by decide +kernel
theorem dX8_numberOf_3 : decode cX8_numberOf 3 = .ok (.irem, 1) := by decide +kernel
theorem dX8_numberOf_4 : decode cX8_numberOf 4 = .ok (.ireturn, 1) := by decide +kernel
theorem dX8_valueIn_0 : decode cX8_valueIn 0 = .ok (.iload_n 0, 1) := by decide +kernel
theorem dX8_valueIn_1 : decode cX8_valueIn 1 = .ok (.iload_n 1, 1) := by decide +kernel
theorem dX8_valueIn_2 : decode cX8_valueIn 2 = .ok (.iconst 4, 1) := by decide +kernel
theorem dX8_valueIn_3 : decode cX8_valueIn 3 = .ok (.imul, 1) := by decide +kernel
theorem dX8_valueIn_4 : decode cX8_valueIn 4 = .ok (.ishr, 1) := by decide +kernel
theorem dX8_valueIn_5 : decode cX8_valueIn 5 = .ok (.bipush 15, 2) := by decide +kernel
theorem dX8_valueIn_7 : decode cX8_valueIn 7 = .ok (.iand, 1) := by decide +kernel
theorem dX8_valueIn_8 : decode cX8_valueIn 8 = .ok (.ireturn, 1) := by decide +kernel
theorem dX8_withValue_0 : decode cX8_withValue 0 = .ok (.iload_n 1, 1) := by decide +kernel
theorem dX8_withValue_1 : decode cX8_withValue 1 = .ok (.iconst 4, 1) := by decide +kernel
theorem dX8_withValue_2 : decode cX8_withValue 2 = .ok (.imul, 1) := by decide +kernel
theorem dX8_withValue_3 : decode cX8_withValue 3 = .ok (.istore_n 3, 1) := by decide +kernel
theorem dX8_withValue_4 : decode cX8_withValue 4 = .ok (.iload_n 0, 1) := by decide +kernel
theorem dX8_withValue_5 : decode cX8_withValue 5 = .ok (.bipush 15, 2) := by decide +kernel
theorem dX8_withValue_7 : decode cX8_withValue 7 = .ok (.iload_n 3, 1) := by decide +kernel
theorem dX8_withValue_8 : decode cX8_withValue 8 = .ok (.ishl, 1) := by decide +kernel
theorem dX8_withValue_9 : decode cX8_withValue 9 = .ok (.iconst (-1), 1) := by decide +kernel
theorem dX8_withValue_10 : decode cX8_withValue 10 = .ok (.ixor, 1) := by decide +kernel
theorem dX8_withValue_11 : decode cX8_withValue 11 = .ok (.iand, 1) := by decide +kernel
theorem dX8_withValue_12 : decode cX8_withValue 12 = .ok (.istore 4, 2) := by decide +kernel
theorem dX8_withValue_14 : decode cX8_withValue 14 = .ok (.iload 4, 2) := by decide +kernel
theorem dX8_withValue_16 : decode cX8_withValue 16 = .ok (.iload_n 2, 1) := by decide +kernel
theorem dX8_withValue_17 : decode cX8_withValue 17 = .ok (.bipush 15, 2) := by decide +kernel
theorem dX8_withValue_19 : decode cX8_withValue 19 = .ok (.iand, 1) := by decide +kernel
theorem dX8_withValue_20 : decode cX8_withValue 20 = .ok (.iload_n 3, 1) := by decide +kernel
theorem dX8_withValue_21 : decode cX8_withValue 21 = .ok (.ishl, 1) := by decide +kernel
theorem dX8_withValue_22 : decode cX8_withValue 22 = .ok (.ior, 1) := by decide +kernel
theorem dX8_withValue_23 : decode cX8_withValue 23 = .ok (.ireturn, 1) := by decide +kernel
theorem dJ6_bitCount_0f7a4_0 : decode cJ6_bitCount_0f7a4 0 = .ok (.iload_n 0, 1) := by decide +kernel
theorem dJ6_bitCount_0f7a4_1 : decode cJ6_bitCount_0f7a4 1 = .ok (.iload_n 0, 1) := by decide +kernel
theorem dJ6_bitCount_0f7a4_2 : decode cJ6_bitCount_0f7a4 2 = .ok (.iconst 1, 1) := by decide +kernel
theorem dJ6_bitCount_0f7a4_3 : decode cJ6_bitCount_0f7a4 3 = .ok (.iushr, 1) := by decide +kernel
theorem dJ6_bitCount_0f7a4_4 : decode cJ6_bitCount_0f7a4 4 = .ok (.ldc_w 265, 3) := by decide +kernel
theorem dJ6_bitCount_0f7a4_7 : decode cJ6_bitCount_0f7a4 7 = .ok (.iand, 1) := by decide +kernel
theorem dJ6_bitCount_0f7a4_8 : decode cJ6_bitCount_0f7a4 8 = .ok (.isub, 1) := by decide +kernel
theorem dJ6_bitCount_0f7a4_9 : decode cJ6_bitCount_0f7a4 9 = .ok (.istore_n 0, 1) := by decide +kernel
theorem dJ6_bitCount_0f7a4_10 : decode cJ6_bitCount_0f7a4 10 = .ok (.iload_n 0, 1) := by decide +kernel
theorem dJ6_bitCount_0f7a4_11 : decode cJ6_bitCount_0f7a4 11 = .ok (.ldc_w 266, 3) := by decide +kernel
theorem dJ6_bitCount_0f7a4_14 : decode cJ6_bitCount_0f7a4 14 = .ok (.iand, 1) := by decide +kernel
theorem dJ6_bitCount_0f7a4_15 : decode cJ6_bitCount_0f7a4 15 = .ok (.iload_n 0, 1) := by decide +kernel
theorem dJ6_bitCount_0f7a4_16 : decode cJ6_bitCount_0f7a4 16 = .ok (.iconst 2, 1) := by decide +kernel
theorem dJ6_bitCount_0f7a4_17 : decode cJ6_bitCount_0f7a4 17 = .ok (.iushr, 1) := by decide +kernel
