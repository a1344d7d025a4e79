theorem dX9_told_108 : decode cX9_told 108 = .ok (.iload_n 1, 1) := by decide +kernel
theorem dX9_told_109 : decode cX9_told 109 = .ok (.invokevirtual 127, 3) := by decide +kernel
theorem dX9_told_112 : decode cX9_told 112 = .ok (.ireturn, 1) := by decide +kernel
theorem dX9_told_113 : decode cX9_told 113 = .ok (.iconst (-1), 1) := by decide +kernel
theorem dX9_told_114 : decode cX9_told 114 = .ok (.ireturn, 1) := by decide +kernel
theorem dX9_givesNow_0 : decode cX9_givesNow 0 = .ok (.aload_n 0, 1) := by decide +kernel
theorem dX9_givesNow_1 : decode cX9_givesNow 1 = .ok (.invokevirtual 103, 3) := by decide +kernel
theorem dX9_givesNow_4 : decode cX9_givesNow 4 = .ok (.iconst (-1), 1) := by decide +kernel
theorem dX9_givesNow_5 : decode cX9_givesNow 5 = .ok (.istore_n 3, 1) := by decide +kernel
theorem dX9_givesNow_6 : decode cX9_givesNow 6 = .ok (.sipush 200, 3) := by decide +kernel
theorem dX9_givesNow_9 : decode cX9_givesNow 9 = .ok (.iload_n 1, 1) := by decide +kernel
theorem dX9_givesNow_10 : decode cX9_givesNow 10 = .ok (.imul, 1) := by decide +kernel
theorem dX9_givesNow_11 : decode cX9_givesNow 11 = .ok (.istore 4, 2) := by decide +kernel
theorem dX9_givesNow_13 : decode cX9_givesNow 13 = .ok (.iload 4, 2) := by decide +kernel
theorem dX9_givesNow_15 : decode cX9_givesNow 15 = .ok (.sipush 200, 3) := by decide +kernel
theorem dX9_givesNow_18 : decode cX9_givesNow 18 = .ok (.iload_n 1, 1) := by decide +kernel
theorem dX9_givesNow_19 : decode cX9_givesNow 19 = .ok (.imul, 1) := by decide +kernel
theorem dX9_givesNow_20 : decode cX9_givesNow 20 = .ok (.iload_n 2, 1) := by decide +kernel
theorem dX9_givesNow_21 : decode cX9_givesNow 21 = .ok (.iadd, 1) := by decide +kernel
theorem dX9_givesNow_22 : decode cX9_givesNow 22 = .ok (.if_icmp .gt 28, 3) := by decide +kernel
theorem dX9_givesNow_25 : decode cX9_givesNow 25 = .ok (.aload_n 0, 1) := by decide +kernel
theorem dX9_givesNow_26 : decode cX9_givesNow 26 = .ok (.aload_n 0, 1) := by decide +kernel
theorem dX9_givesNow_27 : decode cX9_givesNow 27 = .ok (.getfield 40, 3) := by decide +kernel
theorem dX9_givesNow_30 : decode cX9_givesNow 30 = .ok (.iload 4, 2) := by decide +kernel
theorem dX9_givesNow_32 : decode cX9_givesNow 32 = .ok (.iaload, 1) := by decide +kernel
theorem dX9_givesNow_33 : decode cX9_givesNow 33 = .ok (.aload_n 0, 1) := by decide +kernel
theorem dX9_givesNow_34 : decode cX9_givesNow 34 = .ok (.getfield 43, 3) := by decide +kernel
theorem dX9_givesNow_37 : decode cX9_givesNow 37 = .ok (.iload 4, 2) := by decide +kernel
theorem dX9_givesNow_39 : decode cX9_givesNow 39 = .ok (.iaload, 1) := by decide +kernel
theorem dX9_givesNow_40 : decode cX9_givesNow 40 = .ok (.invokevirtual 99, 3) := by decide +kernel
theorem dX9_givesNow_43 : decode cX9_givesNow 43 = .ok (.istore_n 3, 1) := by decide +kernel
theorem dX9_givesNow_44 : decode cX9_givesNow 44 = .ok (.iinc 4 1, 3) := by decide +kernel
theorem dX9_givesNow_47 : decode cX9_givesNow 47 = .ok (.goto (-34), 3) := by decide +kernel
theorem dX9_givesNow_50 : decode cX9_givesNow 50 = .ok (.iload_n 3, 1) := by decide +kernel
theorem dX9_givesNow_51 : decode cX9_givesNow 51 = .ok (.ireturn, 1) := by decide +kernel
theorem dX9_row_0 : decode cX9_row 0 = .ok (.aload_n 0, 1) := by decide +kernel
theorem dX9_row_1 : decode cX9_row 1 = .ok (.iload_n 1, 1) := by decide +kernel
theorem dX9_row_2 : decode cX9_row 2 = .ok (.invokevirtual 121, 3) := by decide +kernel
theorem dX9_row_5 : decode cX9_row 5 = .ok (.ifCond .eq 19, 3) := by decide +kernel
theorem dX9_row_8 : decode cX9_row 8 = .ok (.iload_n 2, 1) := by decide +kernel
theorem dX9_row_9 : decode cX9_row 9 = .ok (.iconst 0, 1) := by decide +kernel
theorem dX9_row_10 : decode cX9_row 10 = .ok (.aload_n 0, 1) := by decide +kernel
theorem dX9_row_11 : decode cX9_row 11 = .ok (.getfield 37, 3) := by decide +kernel
theorem dX9_row_14 : decode cX9_row 14 = .ok (.iload_n 1, 1) := by decide +kernel
theorem dX9_row_15 : decode cX9_row 15 = .ok (.iaload, 1) := by decide +kernel
theorem dX9_row_16 : decode cX9_row 16 = .ok (.iconst 1, 1) := by decide +kernel
theorem dX9_row_17 : decode cX9_row 17 = .ok (.isub, 1) := by decide +kernel
theorem dX9_row_18 : decode cX9_row 18 = .ok (.invokestatic 68, 3) := by decide +kernel
theorem dX9_row_21 : decode cX9_row 21 = .ok (.ifCond .ne 5, 3) := by decide +kernel
theorem dX9_row_24 : decode cX9_row 24 = .ok (.iconst (-1), 1) := by decide +kernel
theorem dX9_row_25 : decode cX9_row 25 = .ok (.ireturn, 1) := by decide +kernel
theorem dX9_row_26 : decode cX9_row 26 = .ok (.sipush 200, 3) := by decide +kernel
theorem dX9_row_29 : decode cX9_row 29 = .ok (.iload_n 1, 1) := by decide +kernel
theorem dX9_row_30 : decode cX9_row 30 = .ok (.imul, 1) := by decide +kernel
theorem dX9_row_31 : decode cX9_row 31 = .ok (.iload_n 2, 1) := by decide +kernel
theorem dX9_row_32 : decode cX9_row 32 = .ok (.iadd, 1) := by decide +kernel
theorem dX9_row_33 : decode cX9_row 33 = .ok (.istore 4, 2) := by decide +kernel
theorem dX9_row_35 : decode cX9_row 35 = .ok (.iload_n 3, 1) := by decide +kernel
theorem dX9_row_36 : decode cX9_row 36 = .ok (.tableswitch 63 0 3 #[32, 40, 48, 56], 32) := by decide +kernel
theorem dX9_row_68 : decode cX9_row 68 = .ok (.aload_n 0, 1) := by decide +kernel
theorem dX9_row_69 : decode cX9_row 69 = .ok (.getfield 40, 3) := by decide +kernel
theorem dX9_row_72 : decode cX9_row 72 = .ok (.iload 4, 2) := by decide +kernel
theorem dX9_row_74 : decode cX9_row 74 = .ok (.iaload, 1) := by decide +kernel
theorem dX9_row_75 : decode cX9_row 75 = .ok (.ireturn, 1) := by decide +kernel
theorem dX9_row_76 : decode cX9_row 76 = .ok (.aload_n 0, 1) := by decide +kernel
theorem dX9_row_77 : decode cX9_row 77 = .ok (.getfield 43, 3) := by decide +kernel
theorem dX9_row_80 : decode cX9_row 80 = .ok (.iload 4, 2) := by decide +kernel
theorem dX9_row_82 : decode cX9_row 82 = .ok (.iaload, 1) := by decide +kernel
theorem dX9_row_83 : decode cX9_row 83 = .ok (.ireturn, 1) := by decide +kernel
theorem dX9_row_84 : decode cX9_row 84 = .ok (.aload_n 0, 1) := by decide +kernel
theorem dX9_row_85 : decode cX9_row 85 = .ok (.getfield 46, 3) := by decide +kernel
theorem dX9_row_88 : decode cX9_row 88 = .ok (.iload 4, 2) := by decide +kernel
theorem dX9_row_90 : decode cX9_row 90 = .ok (.iaload, 1) := by decide +kernel
theorem dX9_row_91 : decode cX9_row 91 = .ok (.ireturn, 1) := by decide +kernel
theorem dX9_row_92 : decode cX9_row 92 = .ok (.aload_n 0, 1) := by decide +kernel
theorem dX9_row_93 : decode cX9_row 93 = .ok (.iload_n 1, 1) := by decide +kernel
theorem dX9_row_94 : decode cX9_row 94 = .ok (.iload_n 2, 1) := by decide +kernel
theorem dX9_row_95 : decode cX9_row 95 = .ok (.invokevirtual 130, 3) := by decide +kernel
theorem dX9_row_98 : decode cX9_row 98 = .ok (.ireturn, 1) := by decide +kernel
theorem dX9_row_99 : decode cX9_row 99 = .ok (.iconst (-1), 1) := by decide +kernel
theorem dX9_row_100 : decode cX9_row 100 = .ok (.ireturn, 1) := by decide +kernel
theorem dX9_run_0 : decode cX9_run 0 = .ok (.iconst 0, 1) := by decide +kernel
theorem dX9_run_1 : decode cX9_run 1 = .ok (.istore_n 1, 1) := by decide +kernel
theorem dX9_run_2 : decode cX9_run 2 = .ok (.iconst 0, 1) := by decide +kernel
theorem dX9_run_3 : decode cX9_run 3 = .ok (.istore_n 2, 1) := by decide +kernel
theorem dX9_run_4 : decode cX9_run 4 = .ok (.iload_n 2, 1) := by decide +kernel
theorem dX9_run_5 : decode cX9_run 5 = .ok (.aload_n 0, 1) := by decide +kernel
theorem dX9_run_6 : decode cX9_run 6 = .ok (.getfield 83, 3) := by decide +kernel
theorem dX9_run_9 : decode cX9_run 9 = .ok (.if_icmp .ge 65, 3) := by decide +kernel
theorem dX9_run_12 : decode cX9_run 12 = .ok (.aload_n 0, 1) := by decide +kernel
theorem dX9_run_13 : decode cX9_run 13 = .ok (.getfield 52, 3) := by decide +kernel
theorem dX9_run_16 : decode cX9_run 16 = .ok (.iload_n 2, 1) := by decide +kernel
theorem dX9_run_17 : decode cX9_run 17 = .ok (.baload, 1) := by decide +kernel
theorem dX9_run_18 : decode cX9_run 18 = .ok (.ifCond .ne 6, 3) := by decide +kernel
theorem dX9_run_21 : decode cX9_run 21 = .ok (.goto 47, 3) := by decide +kernel
theorem dX9_run_24 : decode cX9_run 24 = .ok (.aload_n 0, 1) := by decide +kernel
theorem dX9_run_25 : decode cX9_run 25 = .ok (.getfield 52, 3) := by decide +kernel
theorem dX9_run_28 : decode cX9_run 28 = .ok (.iload_n 2, 1) := by decide +kernel
theorem dX9_run_29 : decode cX9_run 29 = .ok (.iconst 0, 1) := by decide +kernel
theorem dX9_run_30 : decode cX9_run 30 = .ok (.bastore, 1) := by decide +kernel
theorem dX9_run_31 : decode cX9_run 31 = .ok (.aload_n 0, 1) := by decide +kernel
theorem dX9_run_32 : decode cX9_run 32 = .ok (.getfield 56, 3) := by decide +kernel
theorem dX9_run_35 : decode cX9_run 35 = .ok (.iload_n 2, 1) := by decide +kernel
theorem dX9_run_36 : decode cX9_run 36 = .ok (.aload_n 0, 1) := by decide +kernel
theorem dX9_run_37 : decode cX9_run 37 = .ok (.iload_n 2, 1) := by decide +kernel
theorem dX9_run_38 : decode cX9_run 38 = .ok (.invokevirtual 124, 3) := by decide +kernel
theorem dX9_run_41 : decode cX9_run 41 = .ok (.iconst (-1), 1) := by decide +kernel
theorem dX9_run_42 : decode cX9_run 42 = .ok (.if_icmp .eq 7, 3) := by decide +kernel
theorem dX9_run_45 : decode cX9_run 45 = .ok (.iconst 1, 1) := by decide +kernel
theorem dX9_run_46 : decode cX9_run 46 = .ok (.goto 4, 3) := by decide +kernel
theorem dX9_run_49 : decode cX9_run 49 = .ok (.iconst 0, 1) := by decide +kernel
theorem dX9_run_50 : decode cX9_run 50 = .ok (.bastore, 1) := by decide +kernel
theorem dX9_run_51 : decode cX9_run 51 = .ok (.iload_n 1, 1) := by decide +kernel
theorem dX9_run_52 : decode cX9_run 52 = .ok (.aload_n 0, 1) := by decide +kernel
theorem dX9_run_53 : decode cX9_run 53 = .ok (.getfield 56, 3) := by decide +kernel
theorem dX9_run_56 : decode cX9_run 56 = .ok (.iload_n 2, 1) := by decide +kernel
theorem dX9_run_57 : decode cX9_run 57 = .ok (.baload, 1) := by decide +kernel
theorem dX9_run_58 : decode cX9_run 58 = .ok (.ifCond .eq 7, 3) := by decide +kernel
theorem dX9_run_61 : decode cX9_run 61 = .ok (.iconst 1, 1) := by decide +kernel
theorem dX9_run_62 : decode cX9_run 62 = .ok (.goto 4, 3) := by decide +kernel
theorem dX9_run_65 : decode cX9_run 65 = .ok (.iconst 0, 1) := by decide +kernel
theorem dX9_run_66 : decode cX9_run 66 = .ok (.iadd, 1) := by decide +kernel
theorem dX9_run_67 : decode cX9_run 67 = .ok (.istore_n 1, 1) := by decide +kernel
theorem dX9_run_68 : decode cX9_run 68 = .ok (.iinc 2 1, 3) := by decide +kernel
theorem dX9_run_71 : decode cX9_run 71 = .ok (.goto (-67), 3) := by decide +kernel
theorem dX9_run_74 : decode cX9_run 74 = .ok (.iload_n 1, 1) := by decide +kernel
theorem dX9_run_75 : decode cX9_run 75 = .ok (.ireturn, 1) := by decide +kernel
theorem dX9_reached_0 : decode cX9_reached 0 = .ok (.aload_n 0, 1) := by decide +kernel
theorem dX9_reached_1 : decode cX9_reached 1 = .ok (.invokevirtual 103, 3) := by decide +kernel
theorem dX9_reached_4 : decode cX9_reached 4 = .ok (.iconst 0, 1) := by decide +kernel
theorem dX9_reached_5 : decode cX9_reached 5 = .ok (.istore_n 1, 1) := by decide +kernel
theorem dX9_reached_6 : decode cX9_reached 6 = .ok (.iconst 0, 1) := by decide +kernel
theorem dX9_reached_7 : decode cX9_reached 7 = .ok (.istore_n 2, 1) := by decide +kernel
theorem dX9_reached_8 : decode cX9_reached 8 = .ok (.iload_n 2, 1) := by decide +kernel
theorem dX9_reached_9 : decode cX9_reached 9 = .ok (.aload_n 0, 1) := by decide +kernel
theorem dX9_reached_10 : decode cX9_reached 10 = .ok (.getfield 96, 3) := by decide +kernel
theorem dX9_reached_13 : decode cX9_reached 13 = .ok (.if_icmp .ge 43, 3) := by decide +kernel
theorem dX9_reached_16 : decode cX9_reached 16 = .ok (.aload_n 0, 1) := by decide +kernel
theorem dX9_reached_17 : decode cX9_reached 17 = .ok (.aload_n 0, 1) := by decide +kernel
theorem dX9_reached_18 : decode cX9_reached 18 = .ok (.getfield 22, 3) := by decide +kernel
theorem dX9_reached_21 : decode cX9_reached 21 = .ok (.iload_n 2, 1) := by decide +kernel
theorem dX9_reached_22 : decode cX9_reached 22 = .ok (.iaload, 1) := by decide +kernel
theorem dX9_reached_23 : decode cX9_reached 23 = .ok (.aload_n 0, 1) := by decide +kernel
theorem dX9_reached_24 : decode cX9_reached 24 = .ok (.getfield 25, 3) := by decide +kernel
theorem dX9_reached_27 : decode cX9_reached 27 = .ok (.iload_n 2, 1) := by decide +kernel
theorem dX9_reached_28 : decode cX9_reached 28 = .ok (.iaload, 1) := by decide +kernel
theorem dX9_reached_29 : decode cX9_reached 29 = .ok (.invokevirtual 99, 3) := by decide +kernel
theorem dX9_reached_32 : decode cX9_reached 32 = .ok (.pop, 1) := by decide +kernel
theorem dX9_reached_33 : decode cX9_reached 33 = .ok (.aload_n 0, 1) := by decide +kernel
theorem dX9_reached_34 : decode cX9_reached 34 = .ok (.getfield 90, 3) := by decide +kernel
theorem dX9_reached_37 : decode cX9_reached 37 = .ok (.iconst (-1), 1) := by decide +kernel
theorem dX9_reached_38 : decode cX9_reached 38 = .ok (.if_icmp .eq 12, 3) := by decide +kernel
theorem dX9_reached_41 : decode cX9_reached 41 = .ok (.iload_n 1, 1) := by decide +kernel
theorem dX9_reached_42 : decode cX9_reached 42 = .ok (.iconst 1, 1) := by decide +kernel
theorem dX9_reached_43 : decode cX9_reached 43 = .ok (.aload_n 0, 1) := by decide +kernel
theorem dX9_reached_44 : decode cX9_reached 44 = .ok (.getfield 90, 3) := by decide +kernel
theorem dX9_reached_47 : decode cX9_reached 47 = .ok (.ishl, 1) := by decide +kernel
theorem dX9_reached_48 : decode cX9_reached 48 = .ok (.ior, 1) := by decide +kernel
theorem dX9_reached_49 : decode cX9_reached 49 = .ok (.istore_n 1, 1) := by decide +kernel
theorem dX9_reached_50 : decode cX9_reached 50 = .ok (.iinc 2 1, 3) := by decide +kernel
theorem dX9_reached_53 : decode cX9_reached 53 = .ok (.goto (-45), 3) := by decide +kernel
theorem dX9_reached_56 : decode cX9_reached 56 = .ok (.iload_n 1, 1) := by decide +kernel
theorem dX9_reached_57 : decode cX9_reached 57 = .ok (.ireturn, 1) := by decide +kernel
theorem dX9_never_0 : decode cX9_never 0 = .ok (.iconst 0, 1) := by decide +kernel
theorem dX9_never_1 : decode cX9_never 1 = .ok (.istore_n 1, 1) := by decide +kernel
theorem dX9_never_2 : decode cX9_never 2 = .ok (.iconst 0, 1) := by decide +kernel
theorem dX9_never_3 : decode cX9_never 3 = .ok (.istore_n 2, 1) := by decide +kernel
theorem dX9_never_4 : decode cX9_never 4 = .ok (.iload_n 2, 1) := by decide +kernel
theorem dX9_never_5 : decode cX9_never 5 = .ok (.bipush 24, 2) := by decide +kernel
theorem dX9_never_7 : decode cX9_never 7 = .ok (.if_icmp .ge 27, 3) := by decide +kernel
theorem dX9_never_10 : decode cX9_never 10 = .ok (.iload_n 1, 1) := by decide +kernel
theorem dX9_never_11 : decode cX9_never 11 = .ok (.aload_n 0, 1) := by decide +kernel
theorem dX9_never_12 : decode cX9_never 12 = .ok (.iload_n 2, 1) := by decide +kernel
theorem dX9_never_13 : decode cX9_never 13 = .ok (.invokevirtual 87, 3) := by decide +kernel
theorem dX9_never_16 : decode cX9_never 16 = .ok (.ifCond .eq 9, 3) := by decide +kernel
theorem dX9_never_19 : decode cX9_never 19 = .ok (.iconst 1, 1) := by decide +kernel
theorem dX9_never_20 : decode cX9_never 20 = .ok (.iload_n 2, 1) := by decide +kernel
theorem dX9_never_21 : decode cX9_never 21 = .ok (.ishl, 1) := by decide +kernel
theorem dX9_never_22 : decode cX9_never 22 = .ok (.goto 4, 3) := by decide +kernel
theorem dX9_never_25 : decode cX9_never 25 = .ok (.iconst 0, 1) := by decide +kernel
theorem dX9_never_26 : decode cX9_never 26 = .ok (.ior, 1) := by decide +kernel
theorem dX9_never_27 : decode cX9_never 27 = .ok (.istore_n 1, 1) := by decide +kernel
theorem dX9_never_28 : decode cX9_never 28 = .ok (.iinc 2 1, 3) := by decide +kernel
theorem dX9_never_31 : decode cX9_never 31 = .ok (.goto (-27), 3) := by decide +kernel
theorem dX9_never_34 : decode cX9_never 34 = .ok (.iload_n 1, 1) := by decide +kernel
theorem dX9_never_35 : decode cX9_never 35 = .ok (.aload_n 0, 1) := by decide +kernel
theorem dX9_never_36 : decode cX9_never 36 = .ok (.invokevirtual 133, 3) := by decide +kernel
theorem dX9_never_39 : decode cX9_never 39 = .ok (.iconst (-1), 1) := by decide +kernel
theorem dX9_never_40 : decode cX9_never 40 = .ok (.ixor, 1) := by decide +kernel
theorem dX9_never_41 : decode cX9_never 41 = .ok (.iand, 1) := by decide +kernel
theorem dX9_never_42 : decode cX9_never 42 = .ok (.ireturn, 1) := by decide +kernel
theorem dX9_bits_0 : decode cX9_bits 0 = .ok (.iconst 0, 1) := by decide +kernel
theorem dX9_bits_1 : decode cX9_bits 1 = .ok (.istore_n 1, 1) := by decide +kernel
theorem dX9_bits_2 : decode cX9_bits 2 = .ok (.iconst 0, 1) := by decide +kernel
theorem dX9_bits_3 : decode cX9_bits 3 = .ok (.istore_n 2, 1) := by decide +kernel
theorem dX9_bits_4 : decode cX9_bits 4 = .ok (.iload_n 2, 1) := by decide +kernel
theorem dX9_bits_5 : decode cX9_bits 5 = .ok (.bipush 12, 2) := by decide +kernel
theorem dX9_bits_7 : decode cX9_bits 7 = .ok (.if_icmp .ge 17, 3) := by decide +kernel
theorem dX9_bits_10 : decode cX9_bits 10 = .ok (.iload_n 1, 1) := by decide +kernel
theorem dX9_bits_11 : decode cX9_bits 11 = .ok (.iload_n 0, 1) := by decide +kernel
theorem dX9_bits_12 : decode cX9_bits 12 = .ok (.iload_n 2, 1) := by decide +kernel
theorem dX9_bits_13 : decode cX9_bits 13 = .ok (.ishr, 1) := by decide +kernel
theorem dX9_bits_14 : decode cX9_bits 14 = .ok (.iconst 1, 1) := by decide +kernel
theorem dX9_bits_15 : decode cX9_bits 15 = .ok (.iand, 1) := by decide +kernel
theorem dX9_bits_16 : decode cX9_bits 16 = .ok (.iadd, 1) := by decide +kernel
theorem dX9_bits_17 : decode cX9_bits 17 = .ok (.istore_n 1, 1) := by decide +kernel
theorem dX9_bits_18 : decode cX9_bits 18 = .ok (.iinc 2 1, 3) := by decide +kernel
theorem dX9_bits_21 : decode cX9_bits 21 = .ok (.goto (-17), 3) := by decide +kernel
theorem dX9_bits_24 : decode cX9_bits 24 = .ok (.iload_n 1, 1) := by decide +kernel
theorem dX9_bits_25 : decode cX9_bits 25 = .ok (.ireturn, 1) := by decide +kernel
theorem dX9_chosen_0 : decode cX9_chosen 0 = .ok (.iconst 0, 1) := by decide +kernel
theorem dX9_chosen_1 : decode cX9_chosen 1 = .ok (.istore_n 1, 1) := by decide +kernel
theorem dX9_chosen_2 : decode cX9_chosen 2 = .ok (.iconst 0, 1) := by decide +kernel
theorem dX9_chosen_3 : decode cX9_chosen 3 = .ok (.istore_n 2, 1) := by decide +kernel
theorem dX9_chosen_4 : decode cX9_chosen 4 = .ok (.iload_n 2, 1) := by decide +kernel
theorem dX9_chosen_5 : decode cX9_chosen 5 = .ok (.aload_n 0, 1) := by decide +kernel
theorem dX9_chosen_6 : decode cX9_chosen 6 = .ok (.getfield 83, 3) := by decide +kernel
theorem dX9_chosen_9 : decode cX9_chosen 9 = .ok (.if_icmp .ge 29, 3) := by decide +kernel
theorem dX9_chosen_12 : decode cX9_chosen 12 = .ok (.aload_n 0, 1) := by decide +kernel
theorem dX9_chosen_13 : decode cX9_chosen 13 = .ok (.getfield 65, 3) := by decide +kernel
theorem dX9_chosen_16 : decode cX9_chosen 16 = .ok (.iload_n 2, 1) := by decide +kernel
theorem dX9_chosen_17 : decode cX9_chosen 17 = .ok (.aload_n 0, 1) := by decide +kernel
theorem dX9_chosen_18 : decode cX9_chosen 18 = .ok (.iload_n 2, 1) := by decide +kernel
theorem dX9_chosen_19 : decode cX9_chosen 19 = .ok (.invokevirtual 127, 3) := by decide +kernel
theorem dX9_chosen_22 : decode cX9_chosen 22 = .ok (.iastore, 1) := by decide +kernel
theorem dX9_chosen_23 : decode cX9_chosen 23 = .ok (.iload_n 1, 1) := by decide +kernel
theorem dX9_chosen_24 : decode cX9_chosen 24 = .ok (.aload_n 0, 1) := by decide +kernel
theorem dX9_chosen_25 : decode cX9_chosen 25 = .ok (.getfield 65, 3) := by decide +kernel
theorem dX9_chosen_28 : decode cX9_chosen 28 = .ok (.iload_n 2, 1) := by decide +kernel
theorem dX9_chosen_29 : decode cX9_chosen 29 = .ok (.iaload, 1) := by decide +kernel
theorem dX9_chosen_30 : decode cX9_chosen 30 = .ok (.ior, 1) := by decide +kernel
theorem dX9_chosen_31 : decode cX9_chosen 31 = .ok (.istore_n 1, 1) := by decide +kernel
theorem dX9_chosen_32 : decode cX9_chosen 32 = .ok (.iinc 2 1, 3) := by decide +kernel
theorem dX9_chosen_35 : decode cX9_chosen 35 = .ok (.goto (-31), 3) := by decide +kernel
theorem dX9_chosen_38 : decode cX9_chosen 38 = .ok (.iconst 1, 1) := by decide +kernel
theorem dX9_chosen_39 : decode cX9_chosen 39 = .ok (.aload_n 0, 1) := by decide +kernel
theorem dX9_chosen_40 : decode cX9_chosen 40 = .ok (.getfield 83, 3) := by decide +kernel
theorem dX9_chosen_43 : decode cX9_chosen 43 = .ok (.ishl, 1) := by decide +kernel
theorem dX9_chosen_44 : decode cX9_chosen 44 = .ok (.iconst 1, 1) := by decide +kernel
theorem dX9_chosen_45 : decode cX9_chosen 45 = .ok (.isub, 1) := by decide +kernel
theorem dX9_chosen_46 : decode cX9_chosen 46 = .ok (.istore_n 2, 1) := by decide +kernel
theorem dX9_chosen_47 : decode cX9_chosen 47 = .ok (.iconst 1, 1) := by decide +kernel
theorem dX9_chosen_48 : decode cX9_chosen 48 = .ok (.aload_n 0, 1) := by decide +kernel
theorem dX9_chosen_49 : decode cX9_chosen 49 = .ok (.getfield 83, 3) := by decide +kernel
theorem dX9_chosen_52 : decode cX9_chosen 52 = .ok (.ishl, 1) := by decide +kernel
theorem dX9_chosen_53 : decode cX9_chosen 53 = .ok (.iconst 1, 1) := by decide +kernel
theorem dX9_chosen_54 : decode cX9_chosen 54 = .ok (.isub, 1) := by decide +kernel
theorem dX9_chosen_55 : decode cX9_chosen 55 = .ok (.istore_n 3, 1) := by decide +kernel
theorem dX9_chosen_56 : decode cX9_chosen 56 = .ok (.iload_n 3, 1) := by decide +kernel
theorem dX9_chosen_57 : decode cX9_chosen 57 = .ok (.ifCond .lt 75, 3) := by decide +kernel
theorem dX9_chosen_60 : decode cX9_chosen 60 = .ok (.iconst 0, 1) := by decide +kernel
theorem dX9_chosen_61 : decode cX9_chosen 61 = .ok (.istore 4, 2) := by decide +kernel
theorem dX9_chosen_63 : decode cX9_chosen 63 = .ok (.iconst 0, 1) := by decide +kernel
theorem dX9_chosen_64 : decode cX9_chosen 64 = .ok (.istore 5, 2) := by decide +kernel
theorem dX9_chosen_66 : decode cX9_chosen 66 = .ok (.iload 5, 2) := by decide +kernel
theorem dX9_chosen_68 : decode cX9_chosen 68 = .ok (.aload_n 0, 1) := by decide +kernel
theorem dX9_chosen_69 : decode cX9_chosen 69 = .ok (.getfield 83, 3) := by decide +kernel
theorem dX9_chosen_72 : decode cX9_chosen 72 = .ok (.if_icmp .ge 35, 3) := by decide +kernel
theorem dX9_chosen_75 : decode cX9_chosen 75 = .ok (.iload 4, 2) := by decide +kernel
theorem dX9_chosen_77 : decode cX9_chosen 77 = .ok (.iload_n 3, 1) := by decide +kernel
theorem dX9_chosen_78 : decode cX9_chosen 78 = .ok (.iload 5, 2) := by decide +kernel
theorem dX9_chosen_80 : decode cX9_chosen 80 = .ok (.ishr, 1) := by decide +kernel
theorem dX9_chosen_81 : decode cX9_chosen 81 = .ok (.iconst 1, 1) := by decide +kernel
theorem dX9_chosen_82 : decode cX9_chosen 82 = .ok (.iand, 1) := by decide +kernel
theorem dX9_chosen_83 : decode cX9_chosen 83 = .ok (.iconst 1, 1) := by decide +kernel
theorem dX9_chosen_84 : decode cX9_chosen 84 = .ok (.if_icmp .ne 13, 3) := by decide +kernel
theorem dX9_chosen_87 : decode cX9_chosen 87 = .ok (.aload_n 0, 1) := by decide +kernel
theorem dX9_chosen_88 : decode cX9_chosen 88 = .ok (.getfield 65, 3) := by decide +kernel
theorem dX9_chosen_91 : decode cX9_chosen 91 = .ok (.iload 5, 2) := by decide +kernel
theorem dX9_chosen_93 : decode cX9_chosen 93 = .ok (.iaload, 1) := by decide +kernel
theorem dX9_chosen_94 : decode cX9_chosen 94 = .ok (.goto 4, 3) := by decide +kernel
theorem dX9_chosen_97 : decode cX9_chosen 97 = .ok (.iconst 0, 1) := by decide +kernel
theorem dX9_chosen_98 : decode cX9_chosen 98 = .ok (.ior, 1) := by decide +kernel
theorem dX9_chosen_99 : decode cX9_chosen 99 = .ok (.istore 4, 2) := by decide +kernel
theorem dX9_chosen_101 : decode cX9_chosen 101 = .ok (.iinc 5 1, 3) := by decide +kernel
theorem dX9_chosen_104 : decode cX9_chosen 104 = .ok (.goto (-38), 3) := by decide +kernel
theorem dX9_chosen_107 : decode cX9_chosen 107 = .ok (.iload 4, 2) := by decide +kernel
theorem dX9_chosen_109 : decode cX9_chosen 109 = .ok (.iload_n 1, 1) := by decide +kernel
theorem dX9_chosen_110 : decode cX9_chosen 110 = .ok (.if_icmp .ne 16, 3) := by decide +kernel
theorem dX9_chosen_113 : decode cX9_chosen 113 = .ok (.iload_n 3, 1) := by decide +kernel
theorem dX9_chosen_114 : decode cX9_chosen 114 = .ok (.invokestatic 137, 3) := by decide +kernel
theorem dX9_chosen_117 : decode cX9_chosen 117 = .ok (.iload_n 2, 1) := by decide +kernel
theorem dX9_chosen_118 : decode cX9_chosen 118 = .ok (.invokestatic 137, 3) := by decide +kernel
theorem dX9_chosen_121 : decode cX9_chosen 121 = .ok (.if_icmp .gt 5, 3) := by decide +kernel
theorem dX9_chosen_124 : decode cX9_chosen 124 = .ok (.iload_n 3, 1) := by decide +kernel
theorem dX9_chosen_125 : decode cX9_chosen 125 = .ok (.istore_n 2, 1) := by decide +kernel
theorem dX9_chosen_126 : decode cX9_chosen 126 = .ok (.iinc 3 (-1), 3) := by decide +kernel
theorem dX9_chosen_129 : decode cX9_chosen 129 = .ok (.goto (-73), 3) := by decide +kernel
theorem dX9_chosen_132 : decode cX9_chosen 132 = .ok (.iload_n 2, 1) := by decide +kernel
theorem dX9_chosen_133 : decode cX9_chosen 133 = .ok (.ireturn, 1) := by decide +kernel
theorem dX9_fewest_0 : decode cX9_fewest 0 = .ok (.aload_n 0, 1) := by decide +kernel
theorem dX9_fewest_1 : decode cX9_fewest 1 = .ok (.invokevirtual 140, 3) := by decide +kernel
theorem dX9_fewest_4 : decode cX9_fewest 4 = .ok (.invokestatic 137, 3) := by decide +kernel
theorem dX9_fewest_7 : decode cX9_fewest 7 = .ok (.ireturn, 1) := by decide +kernel
theorem dX9_register_0 : decode cX9_register 0 = .ok (.iload_n 1, 1) := by decide +kernel
theorem dX9_register_1 : decode cX9_register 1 = .ok (.iconst 0, 1) := by decide +kernel
theorem dX9_register_2 : decode cX9_register 2 = .ok (.iconst 3, 1) := by decide +kernel
theorem dX9_register_3 : decode cX9_register 3 = .ok (.invokestatic 68, 3) := by decide +kernel
theorem dX9_register_6 : decode cX9_register 6 = .ok (.ifCond .eq 12, 3) := by decide +kernel
theorem dX9_register_9 : decode cX9_register 9 = .ok (.aload_n 0, 1) := by decide +kernel
theorem dX9_register_10 : decode cX9_register 10 = .ok (.getfield 34, 3) := by decide +kernel
theorem dX9_register_13 : decode cX9_register 13 = .ok (.iload_n 1, 1) := by decide +kernel
theorem dX9_register_14 : decode cX9_register 14 = .ok (.iaload, 1) := by decide +kernel
theorem dX9_register_15 : decode cX9_register 15 = .ok (.goto 4, 3) := by decide +kernel
theorem dX9_register_18 : decode cX9_register 18 = .ok (.iconst (-1), 1) := by decide +kernel
theorem dX9_register_19 : decode cX9_register 19 = .ok (.ireturn, 1) := by decide +kernel
theorem dX9_count_0 : decode cX9_count 0 = .ok (.iconst 0, 1) := by decide +kernel
theorem dX9_count_1 : decode cX9_count 1 = .ok (.istore_n 2, 1) := by decide +kernel
theorem dX9_count_2 : decode cX9_count 2 = .ok (.iload_n 1, 1) := by decide +kernel
theorem dX9_count_3 : decode cX9_count 3 = .ok (.tableswitch 197 0 5 #[37, 42, 47, 72, 107, 142], 37) := by decide +kernel
theorem dX9_count_40 : decode cX9_count 40 = .ok (.aload_n 0, 1) := by decide +kernel
theorem dX9_count_41 : decode cX9_count 41 = .ok (.getfield 96, 3) := by decide +kernel
theorem dX9_count_44 : decode cX9_count 44 = .ok (.ireturn, 1) := by decide +kernel
theorem dX9_count_45 : decode cX9_count 45 = .ok (.aload_n 0, 1) := by decide +kernel
theorem dX9_count_46 : decode cX9_count 46 = .ok (.getfield 83, 3) := by decide +kernel
theorem dX9_count_49 : decode cX9_count 49 = .ok (.ireturn, 1) := by decide +kernel
theorem dX9_count_50 : decode cX9_count 50 = .ok (.iconst 0, 1) := by decide +kernel
theorem dX9_count_51 : decode cX9_count 51 = .ok (.istore_n 3, 1) := by decide +kernel
theorem dX9_count_52 : decode cX9_count 52 = .ok (.iload_n 3, 1) := by decide +kernel
theorem dX9_count_53 : decode cX9_count 53 = .ok (.bipush 6, 2) := by decide +kernel
theorem dX9_count_55 : decode cX9_count 55 = .ok (.if_icmp .ge 18, 3) := by decide +kernel
theorem dX9_count_58 : decode cX9_count 58 = .ok (.iload_n 2, 1) := by decide +kernel
theorem dX9_count_59 : decode cX9_count 59 = .ok (.aload_n 0, 1) := by decide +kernel
theorem dX9_count_60 : decode cX9_count 60 = .ok (.getfield 9, 3) := by decide +kernel
theorem dX9_count_63 : decode cX9_count 63 = .ok (.iload_n 3, 1) := by decide +kernel
theorem dX9_count_64 : decode cX9_count 64 = .ok (.iaload, 1) := by decide +kernel
theorem dX9_count_65 : decode cX9_count 65 = .ok (.iadd, 1) := by decide +kernel
theorem dX9_count_66 : decode cX9_count 66 = .ok (.istore_n 2, 1) := by decide +kernel
theorem dX9_count_67 : decode cX9_count 67 = .ok (.iinc 3 1, 3) := by decide +kernel
theorem dX9_count_70 : decode cX9_count 70 = .ok (.goto (-18), 3) := by decide +kernel
theorem dX9_count_73 : decode cX9_count 73 = .ok (.iload_n 2, 1) := by decide +kernel
theorem dX9_count_74 : decode cX9_count 74 = .ok (.ireturn, 1) := by decide +kernel
theorem dX9_count_75 : decode cX9_count 75 = .ok (.iconst 0, 1) := by decide +kernel
theorem dX9_count_76 : decode cX9_count 76 = .ok (.istore_n 3, 1) := by decide +kernel
theorem dX9_count_77 : decode cX9_count 77 = .ok (.iload_n 3, 1) := by decide +kernel
theorem dX9_count_78 : decode cX9_count 78 = .ok (.aload_n 0, 1) := by decide +kernel
theorem dX9_count_79 : decode cX9_count 79 = .ok (.getfield 83, 3) := by decide +kernel
theorem dX9_count_82 : decode cX9_count 82 = .ok (.if_icmp .ge 26, 3) := by decide +kernel
theorem dX9_count_85 : decode cX9_count 85 = .ok (.iload_n 2, 1) := by decide +kernel
theorem dX9_count_86 : decode cX9_count 86 = .ok (.aload_n 0, 1) := by decide +kernel
theorem dX9_count_87 : decode cX9_count 87 = .ok (.getfield 52, 3) := by decide +kernel
theorem dX9_count_90 : decode cX9_count 90 = .ok (.iload_n 3, 1) := by decide +kernel
theorem dX9_count_91 : decode cX9_count 91 = .ok (.baload, 1) := by decide +kernel
theorem dX9_count_92 : decode cX9_count 92 = .ok (.ifCond .eq 7, 3) := by decide +kernel
theorem dX9_count_95 : decode cX9_count 95 = .ok (.iconst 1, 1) := by decide +kernel
theorem dX9_count_96 : decode cX9_count 96 = .ok (.goto 4, 3) := by decide +kernel
theorem dX9_count_99 : decode cX9_count 99 = .ok (.iconst 0, 1) := by decide +kernel
theorem dX9_count_100 : decode cX9_count 100 = .ok (.iadd, 1) := by decide +kernel
theorem dX9_count_101 : decode cX9_count 101 = .ok (.istore_n 2, 1) := by decide +kernel
theorem dX9_count_102 : decode cX9_count 102 = .ok (.iinc 3 1, 3) := by decide +kernel
theorem dX9_count_105 : decode cX9_count 105 = .ok (.goto (-28), 3) := by decide +kernel
theorem dX9_count_108 : decode cX9_count 108 = .ok (.iload_n 2, 1) := by decide +kernel
theorem dX9_count_109 : decode cX9_count 109 = .ok (.ireturn, 1) := by decide +kernel
theorem dX9_count_110 : decode cX9_count 110 = .ok (.iconst 0, 1) := by decide +kernel
theorem dX9_count_111 : decode cX9_count 111 = .ok (.istore_n 3, 1) := by decide +kernel
theorem dX9_count_112 : decode cX9_count 112 = .ok (.iload_n 3, 1) := by decide +kernel
theorem dX9_count_113 : decode cX9_count 113 = .ok (.aload_n 0, 1) := by decide +kernel
theorem dX9_count_114 : decode cX9_count 114 = .ok (.getfield 83, 3) := by decide +kernel
theorem dX9_count_117 : decode cX9_count 117 = .ok (.if_icmp .ge 26, 3) := by decide +kernel
theorem dX9_count_120 : decode cX9_count 120 = .ok (.iload_n 2, 1) := by decide +kernel
theorem dX9_count_121 : decode cX9_count 121 = .ok (.aload_n 0, 1) := by decide +kernel
theorem dX9_count_122 : decode cX9_count 122 = .ok (.getfield 56, 3) := by decide +kernel
theorem dX9_count_125 : decode cX9_count 125 = .ok (.iload_n 3, 1) := by decide +kernel
theorem dX9_count_126 : decode cX9_count 126 = .ok (.baload, 1) := by decide +kernel
theorem dX9_count_127 : decode cX9_count 127 = .ok (.ifCond .eq 7, 3) := by decide +kernel
theorem dX9_count_130 : decode cX9_count 130 = .ok (.iconst 1, 1) := by decide +kernel
theorem dX9_count_131 : decode cX9_count 131 = .ok (.goto 4, 3) := by decide +kernel
theorem dX9_count_134 : decode cX9_count 134 = .ok (.iconst 0, 1) := by decide +kernel
theorem dX9_count_135 : decode cX9_count 135 = .ok (.iadd, 1) := by decide +kernel
theorem dX9_count_136 : decode cX9_count 136 = .ok (.istore_n 2, 1) := by decide +kernel
theorem dX9_count_137 : decode cX9_count 137 = .ok (.iinc 3 1, 3) := by decide +kernel
theorem dX9_count_140 : decode cX9_count 140 = .ok (.goto (-28), 3) := by decide +kernel
theorem dX9_count_143 : decode cX9_count 143 = .ok (.iload_n 2, 1) := by decide +kernel
theorem dX9_count_144 : decode cX9_count 144 = .ok (.ireturn, 1) := by decide +kernel
theorem dX9_count_145 : decode cX9_count 145 = .ok (.aload_n 0, 1) := by decide +kernel
theorem dX9_count_146 : decode cX9_count 146 = .ok (.invokevirtual 103, 3) := by decide +kernel
theorem dX9_count_149 : decode cX9_count 149 = .ok (.iconst 0, 1) := by decide +kernel
theorem dX9_count_150 : decode cX9_count 150 = .ok (.istore_n 3, 1) := by decide +kernel
theorem dX9_count_151 : decode cX9_count 151 = .ok (.iload_n 3, 1) := by decide +kernel
theorem dX9_count_152 : decode cX9_count 152 = .ok (.aload_n 0, 1) := by decide +kernel
theorem dX9_count_153 : decode cX9_count 153 = .ok (.getfield 96, 3) := by decide +kernel
theorem dX9_count_156 : decode cX9_count 156 = .ok (.if_icmp .ge 42, 3) := by decide +kernel
theorem dX9_count_159 : decode cX9_count 159 = .ok (.iload_n 2, 1) := by decide +kernel
theorem dX9_count_160 : decode cX9_count 160 = .ok (.aload_n 0, 1) := by decide +kernel
theorem dX9_count_161 : decode cX9_count 161 = .ok (.aload_n 0, 1) := by decide +kernel
theorem dX9_count_162 : decode cX9_count 162 = .ok (.getfield 22, 3) := by decide +kernel
theorem dX9_count_165 : decode cX9_count 165 = .ok (.iload_n 3, 1) := by decide +kernel
theorem dX9_count_166 : decode cX9_count 166 = .ok (.iaload, 1) := by decide +kernel
theorem dX9_count_167 : decode cX9_count 167 = .ok (.aload_n 0, 1) := by decide +kernel
theorem dX9_count_168 : decode cX9_count 168 = .ok (.getfield 25, 3) := by decide +kernel
theorem dX9_count_171 : decode cX9_count 171 = .ok (.iload_n 3, 1) := by decide +kernel
theorem dX9_count_172 : decode cX9_count 172 = .ok (.iaload, 1) := by decide +kernel
theorem dX9_count_173 : decode cX9_count 173 = .ok (.invokevirtual 99, 3) := by decide +kernel
theorem dX9_count_176 : decode cX9_count 176 = .ok (.aload_n 0, 1) := by decide +kernel
theorem dX9_count_177 : decode cX9_count 177 = .ok (.getfield 28, 3) := by decide +kernel
theorem dX9_count_180 : decode cX9_count 180 = .ok (.iload_n 3, 1) := by decide +kernel
theorem dX9_count_181 : decode cX9_count 181 = .ok (.iaload, 1) := by decide +kernel
theorem dX9_count_182 : decode cX9_count 182 = .ok (.if_icmp .eq 7, 3) := by decide +kernel
theorem dX9_count_185 : decode cX9_count 185 = .ok (.iconst 1, 1) := by decide +kernel
theorem dX9_count_186 : decode cX9_count 186 = .ok (.goto 4, 3) := by decide +kernel
theorem dX9_count_189 : decode cX9_count 189 = .ok (.iconst 0, 1) := by decide +kernel
theorem dX9_count_190 : decode cX9_count 190 = .ok (.iadd, 1) := by decide +kernel
theorem dX9_count_191 : decode cX9_count 191 = .ok (.istore_n 2, 1) := by decide +kernel
theorem dX9_count_192 : decode cX9_count 192 = .ok (.iinc 3 1, 3) := by decide +kernel
theorem dX9_count_195 : decode cX9_count 195 = .ok (.goto (-44), 3) := by decide +kernel
theorem dX9_count_198 : decode cX9_count 198 = .ok (.iload_n 2, 1) := by decide +kernel
theorem dX9_count_199 : decode cX9_count 199 = .ok (.ireturn, 1) := by decide +kernel
theorem dX9_count_200 : decode cX9_count 200 = .ok (.iconst (-1), 1) := by decide +kernel
theorem dX9_count_201 : decode cX9_count 201 = .ok (.ireturn, 1) := by decide +kernel
