theorem dX9_logged_63 : decode cX9_logged 63 = .ok (.getfield 28, 3) := by decide +kernel
theorem dX9_logged_66 : decode cX9_logged 66 = .ok (.iload_n 1, 1) := by decide +kernel
theorem dX9_logged_67 : decode cX9_logged 67 = .ok (.iaload, 1) := by decide +kernel
theorem dX9_logged_68 : decode cX9_logged 68 = .ok (.ireturn, 1) := by decide +kernel
theorem dX9_logged_69 : decode cX9_logged 69 = .ok (.aload_n 0, 1) := by decide +kernel
theorem dX9_logged_70 : decode cX9_logged 70 = .ok (.getfield 31, 3) := by decide +kernel
theorem dX9_logged_73 : decode cX9_logged 73 = .ok (.iload_n 1, 1) := by decide +kernel
theorem dX9_logged_74 : decode cX9_logged 74 = .ok (.iaload, 1) := by decide +kernel
theorem dX9_logged_75 : decode cX9_logged 75 = .ok (.ireturn, 1) := by decide +kernel
theorem dX9_logged_76 : decode cX9_logged 76 = .ok (.iconst (-1), 1) := by decide +kernel
theorem dX9_logged_77 : decode cX9_logged 77 = .ok (.ireturn, 1) := by decide +kernel
theorem dX9_ends_0 : decode cX9_ends 0 = .ok (.aload_n 0, 1) := by decide +kernel
theorem dX9_ends_1 : decode cX9_ends 1 = .ok (.invokevirtual 103, 3) := by decide +kernel
theorem dX9_ends_4 : decode cX9_ends 4 = .ok (.iconst (-1), 1) := by decide +kernel
theorem dX9_ends_5 : decode cX9_ends 5 = .ok (.istore_n 2, 1) := by decide +kernel
theorem dX9_ends_6 : decode cX9_ends 6 = .ok (.iconst 0, 1) := by decide +kernel
theorem dX9_ends_7 : decode cX9_ends 7 = .ok (.istore_n 3, 1) := by decide +kernel
theorem dX9_ends_8 : decode cX9_ends 8 = .ok (.iload_n 3, 1) := by decide +kernel
theorem dX9_ends_9 : decode cX9_ends 9 = .ok (.iload_n 1, 1) := by decide +kernel
theorem dX9_ends_10 : decode cX9_ends 10 = .ok (.if_icmp .gt 35, 3) := by decide +kernel
theorem dX9_ends_13 : decode cX9_ends 13 = .ok (.aload_n 0, 1) := by decide +kernel
theorem dX9_ends_14 : decode cX9_ends 14 = .ok (.getfield 62, 3) := by decide +kernel
theorem dX9_ends_17 : decode cX9_ends 17 = .ok (.iload_n 3, 1) := by decide +kernel
theorem dX9_ends_18 : decode cX9_ends 18 = .ok (.baload, 1) := by decide +kernel
theorem dX9_ends_19 : decode cX9_ends 19 = .ok (.ifCond .ne 20, 3) := by decide +kernel
theorem dX9_ends_22 : decode cX9_ends 22 = .ok (.aload_n 0, 1) := by decide +kernel
theorem dX9_ends_23 : decode cX9_ends 23 = .ok (.aload_n 0, 1) := by decide +kernel
theorem dX9_ends_24 : decode cX9_ends 24 = .ok (.getfield 22, 3) := by decide +kernel
theorem dX9_ends_27 : decode cX9_ends 27 = .ok (.iload_n 3, 1) := by decide +kernel
theorem dX9_ends_28 : decode cX9_ends 28 = .ok (.iaload, 1) := by decide +kernel
theorem dX9_ends_29 : decode cX9_ends 29 = .ok (.aload_n 0, 1) := by decide +kernel
theorem dX9_ends_30 : decode cX9_ends 30 = .ok (.getfield 25, 3) := by decide +kernel
theorem dX9_ends_33 : decode cX9_ends 33 = .ok (.iload_n 3, 1) := by decide +kernel
theorem dX9_ends_34 : decode cX9_ends 34 = .ok (.iaload, 1) := by decide +kernel
theorem dX9_ends_35 : decode cX9_ends 35 = .ok (.invokevirtual 99, 3) := by decide +kernel
theorem dX9_ends_38 : decode cX9_ends 38 = .ok (.istore_n 2, 1) := by decide +kernel
theorem dX9_ends_39 : decode cX9_ends 39 = .ok (.iinc 3 1, 3) := by decide +kernel
theorem dX9_ends_42 : decode cX9_ends 42 = .ok (.goto (-34), 3) := by decide +kernel
theorem dX9_ends_45 : decode cX9_ends 45 = .ok (.iload_n 2, 1) := by decide +kernel
theorem dX9_ends_46 : decode cX9_ends 46 = .ok (.ireturn, 1) := by decide +kernel
theorem dX9_shrinks_0 : decode cX9_shrinks 0 = .ok (.iconst 0, 1) := by decide +kernel
theorem dX9_shrinks_1 : decode cX9_shrinks 1 = .ok (.istore_n 2, 1) := by decide +kernel
theorem dX9_shrinks_2 : decode cX9_shrinks 2 = .ok (.iload_n 2, 1) := by decide +kernel
theorem dX9_shrinks_3 : decode cX9_shrinks 3 = .ok (.iload_n 1, 1) := by decide +kernel
theorem dX9_shrinks_4 : decode cX9_shrinks 4 = .ok (.if_icmp .gt 16, 3) := by decide +kernel
theorem dX9_shrinks_7 : decode cX9_shrinks 7 = .ok (.aload_n 0, 1) := by decide +kernel
theorem dX9_shrinks_8 : decode cX9_shrinks 8 = .ok (.getfield 62, 3) := by decide +kernel
theorem dX9_shrinks_11 : decode cX9_shrinks 11 = .ok (.iload_n 2, 1) := by decide +kernel
theorem dX9_shrinks_12 : decode cX9_shrinks 12 = .ok (.iconst 0, 1) := by decide +kernel
theorem dX9_shrinks_13 : decode cX9_shrinks 13 = .ok (.bastore, 1) := by decide +kernel
theorem dX9_shrinks_14 : decode cX9_shrinks 14 = .ok (.iinc 2 1, 3) := by decide +kernel
theorem dX9_shrinks_17 : decode cX9_shrinks 17 = .ok (.goto (-15), 3) := by decide +kernel
theorem dX9_shrinks_20 : decode cX9_shrinks 20 = .ok (.aload_n 0, 1) := by decide +kernel
theorem dX9_shrinks_21 : decode cX9_shrinks 21 = .ok (.iload_n 1, 1) := by decide +kernel
theorem dX9_shrinks_22 : decode cX9_shrinks 22 = .ok (.invokevirtual 106, 3) := by decide +kernel
theorem dX9_shrinks_25 : decode cX9_shrinks 25 = .ok (.istore_n 2, 1) := by decide +kernel
theorem dX9_shrinks_26 : decode cX9_shrinks 26 = .ok (.aload_n 0, 1) := by decide +kernel
theorem dX9_shrinks_27 : decode cX9_shrinks 27 = .ok (.getfield 90, 3) := by decide +kernel
theorem dX9_shrinks_30 : decode cX9_shrinks 30 = .ok (.istore_n 3, 1) := by decide +kernel
theorem dX9_shrinks_31 : decode cX9_shrinks 31 = .ok (.iconst 1, 1) := by decide +kernel
theorem dX9_shrinks_32 : decode cX9_shrinks 32 = .ok (.istore 4, 2) := by decide +kernel
theorem dX9_shrinks_34 : decode cX9_shrinks 34 = .ok (.iload 4, 2) := by decide +kernel
theorem dX9_shrinks_36 : decode cX9_shrinks 36 = .ok (.ifCond .eq 96, 3) := by decide +kernel
theorem dX9_shrinks_39 : decode cX9_shrinks 39 = .ok (.iconst 0, 1) := by decide +kernel
theorem dX9_shrinks_40 : decode cX9_shrinks 40 = .ok (.istore 4, 2) := by decide +kernel
theorem dX9_shrinks_42 : decode cX9_shrinks 42 = .ok (.iconst 0, 1) := by decide +kernel
theorem dX9_shrinks_43 : decode cX9_shrinks 43 = .ok (.istore 5, 2) := by decide +kernel
theorem dX9_shrinks_45 : decode cX9_shrinks 45 = .ok (.iload 5, 2) := by decide +kernel
theorem dX9_shrinks_47 : decode cX9_shrinks 47 = .ok (.iload_n 1, 1) := by decide +kernel
theorem dX9_shrinks_48 : decode cX9_shrinks 48 = .ok (.if_icmp .ge 81, 3) := by decide +kernel
theorem dX9_shrinks_51 : decode cX9_shrinks 51 = .ok (.aload_n 0, 1) := by decide +kernel
theorem dX9_shrinks_52 : decode cX9_shrinks 52 = .ok (.getfield 62, 3) := by decide +kernel
theorem dX9_shrinks_55 : decode cX9_shrinks 55 = .ok (.iload 5, 2) := by decide +kernel
theorem dX9_shrinks_57 : decode cX9_shrinks 57 = .ok (.baload, 1) := by decide +kernel
theorem dX9_shrinks_58 : decode cX9_shrinks 58 = .ok (.ifCond .eq 6, 3) := by decide +kernel
theorem dX9_shrinks_61 : decode cX9_shrinks 61 = .ok (.goto 62, 3) := by decide +kernel
theorem dX9_shrinks_64 : decode cX9_shrinks 64 = .ok (.aload_n 0, 1) := by decide +kernel
theorem dX9_shrinks_65 : decode cX9_shrinks 65 = .ok (.getfield 62, 3) := by decide +kernel
theorem dX9_shrinks_68 : decode cX9_shrinks 68 = .ok (.iload 5, 2) := by decide +kernel
theorem dX9_shrinks_70 : decode cX9_shrinks 70 = .ok (.iconst 1, 1) := by decide +kernel
theorem dX9_shrinks_71 : decode cX9_shrinks 71 = .ok (.bastore, 1) := by decide +kernel
theorem dX9_shrinks_72 : decode cX9_shrinks 72 = .ok (.aload_n 0, 1) := by decide +kernel
theorem dX9_shrinks_73 : decode cX9_shrinks 73 = .ok (.getfield 62, 3) := by decide +kernel
theorem dX9_shrinks_76 : decode cX9_shrinks 76 = .ok (.iload 5, 2) := by decide +kernel
theorem dX9_shrinks_78 : decode cX9_shrinks 78 = .ok (.aload_n 0, 1) := by decide +kernel
theorem dX9_shrinks_79 : decode cX9_shrinks 79 = .ok (.iload_n 1, 1) := by decide +kernel
theorem dX9_shrinks_80 : decode cX9_shrinks 80 = .ok (.invokevirtual 106, 3) := by decide +kernel
theorem dX9_shrinks_83 : decode cX9_shrinks 83 = .ok (.iload_n 2, 1) := by decide +kernel
theorem dX9_shrinks_84 : decode cX9_shrinks 84 = .ok (.if_icmp .ne 15, 3) := by decide +kernel
theorem dX9_shrinks_87 : decode cX9_shrinks 87 = .ok (.aload_n 0, 1) := by decide +kernel
theorem dX9_shrinks_88 : decode cX9_shrinks 88 = .ok (.getfield 90, 3) := by decide +kernel
theorem dX9_shrinks_91 : decode cX9_shrinks 91 = .ok (.iload_n 3, 1) := by decide +kernel
theorem dX9_shrinks_92 : decode cX9_shrinks 92 = .ok (.if_icmp .ne 7, 3) := by decide +kernel
theorem dX9_shrinks_95 : decode cX9_shrinks 95 = .ok (.iconst 1, 1) := by decide +kernel
theorem dX9_shrinks_96 : decode cX9_shrinks 96 = .ok (.goto 4, 3) := by decide +kernel
theorem dX9_shrinks_99 : decode cX9_shrinks 99 = .ok (.iconst 0, 1) := by decide +kernel
theorem dX9_shrinks_100 : decode cX9_shrinks 100 = .ok (.bastore, 1) := by decide +kernel
theorem dX9_shrinks_101 : decode cX9_shrinks 101 = .ok (.iload 4, 2) := by decide +kernel
theorem dX9_shrinks_103 : decode cX9_shrinks 103 = .ok (.ifCond .ne 13, 3) := by decide +kernel
theorem dX9_shrinks_106 : decode cX9_shrinks 106 = .ok (.aload_n 0, 1) := by decide +kernel
theorem dX9_shrinks_107 : decode cX9_shrinks 107 = .ok (.getfield 62, 3) := by decide +kernel
theorem dX9_shrinks_110 : decode cX9_shrinks 110 = .ok (.iload 5, 2) := by decide +kernel
theorem dX9_shrinks_112 : decode cX9_shrinks 112 = .ok (.baload, 1) := by decide +kernel
theorem dX9_shrinks_113 : decode cX9_shrinks 113 = .ok (.ifCond .eq 7, 3) := by decide +kernel
theorem dX9_shrinks_116 : decode cX9_shrinks 116 = .ok (.iconst 1, 1) := by decide +kernel
theorem dX9_shrinks_117 : decode cX9_shrinks 117 = .ok (.goto 4, 3) := by decide +kernel
theorem dX9_shrinks_120 : decode cX9_shrinks 120 = .ok (.iconst 0, 1) := by decide +kernel
theorem dX9_shrinks_121 : decode cX9_shrinks 121 = .ok (.istore 4, 2) := by decide +kernel
theorem dX9_shrinks_123 : decode cX9_shrinks 123 = .ok (.iinc 5 1, 3) := by decide +kernel
theorem dX9_shrinks_126 : decode cX9_shrinks 126 = .ok (.goto (-81), 3) := by decide +kernel
theorem dX9_shrinks_129 : decode cX9_shrinks 129 = .ok (.goto (-95), 3) := by decide +kernel
theorem dX9_shrinks_132 : decode cX9_shrinks 132 = .ok (.return_, 1) := by decide +kernel
theorem dX9_isLike_0 : decode cX9_isLike 0 = .ok (.aload_n 0, 1) := by decide +kernel
theorem dX9_isLike_1 : decode cX9_isLike 1 = .ok (.getfield 37, 3) := by decide +kernel
theorem dX9_isLike_4 : decode cX9_isLike 4 = .ok (.iload_n 1, 1) := by decide +kernel
theorem dX9_isLike_5 : decode cX9_isLike 5 = .ok (.iaload, 1) := by decide +kernel
theorem dX9_isLike_6 : decode cX9_isLike 6 = .ok (.iload_n 2, 1) := by decide +kernel
theorem dX9_isLike_7 : decode cX9_isLike 7 = .ok (.if_icmp .eq 5, 3) := by decide +kernel
theorem dX9_isLike_10 : decode cX9_isLike 10 = .ok (.iconst 0, 1) := by decide +kernel
theorem dX9_isLike_11 : decode cX9_isLike 11 = .ok (.ireturn, 1) := by decide +kernel
theorem dX9_isLike_12 : decode cX9_isLike 12 = .ok (.sipush 200, 3) := by decide +kernel
theorem dX9_isLike_15 : decode cX9_isLike 15 = .ok (.iload_n 1, 1) := by decide +kernel
theorem dX9_isLike_16 : decode cX9_isLike 16 = .ok (.imul, 1) := by decide +kernel
theorem dX9_isLike_17 : decode cX9_isLike 17 = .ok (.istore_n 3, 1) := by decide +kernel
theorem dX9_isLike_18 : decode cX9_isLike 18 = .ok (.sipush 200, 3) := by decide +kernel
theorem dX9_isLike_21 : decode cX9_isLike 21 = .ok (.aload_n 0, 1) := by decide +kernel
theorem dX9_isLike_22 : decode cX9_isLike 22 = .ok (.getfield 83, 3) := by decide +kernel
theorem dX9_isLike_25 : decode cX9_isLike 25 = .ok (.imul, 1) := by decide +kernel
theorem dX9_isLike_26 : decode cX9_isLike 26 = .ok (.istore 4, 2) := by decide +kernel
theorem dX9_isLike_28 : decode cX9_isLike 28 = .ok (.iconst 0, 1) := by decide +kernel
theorem dX9_isLike_29 : decode cX9_isLike 29 = .ok (.istore 5, 2) := by decide +kernel
theorem dX9_isLike_31 : decode cX9_isLike 31 = .ok (.iload 5, 2) := by decide +kernel
theorem dX9_isLike_33 : decode cX9_isLike 33 = .ok (.iload_n 2, 1) := by decide +kernel
theorem dX9_isLike_34 : decode cX9_isLike 34 = .ok (.if_icmp .ge 55, 3) := by decide +kernel
theorem dX9_isLike_37 : decode cX9_isLike 37 = .ok (.aload_n 0, 1) := by decide +kernel
theorem dX9_isLike_38 : decode cX9_isLike 38 = .ok (.getfield 40, 3) := by decide +kernel
theorem dX9_isLike_41 : decode cX9_isLike 41 = .ok (.iload_n 3, 1) := by decide +kernel
theorem dX9_isLike_42 : decode cX9_isLike 42 = .ok (.iload 5, 2) := by decide +kernel
theorem dX9_isLike_44 : decode cX9_isLike 44 = .ok (.iadd, 1) := by decide +kernel
theorem dX9_isLike_45 : decode cX9_isLike 45 = .ok (.iaload, 1) := by decide +kernel
theorem dX9_isLike_46 : decode cX9_isLike 46 = .ok (.aload_n 0, 1) := by decide +kernel
theorem dX9_isLike_47 : decode cX9_isLike 47 = .ok (.getfield 40, 3) := by decide +kernel
theorem dX9_isLike_50 : decode cX9_isLike 50 = .ok (.iload 4, 2) := by decide +kernel
theorem dX9_isLike_52 : decode cX9_isLike 52 = .ok (.iload 5, 2) := by decide +kernel
theorem dX9_isLike_54 : decode cX9_isLike 54 = .ok (.iadd, 1) := by decide +kernel
theorem dX9_isLike_55 : decode cX9_isLike 55 = .ok (.iaload, 1) := by decide +kernel
theorem dX9_isLike_56 : decode cX9_isLike 56 = .ok (.if_icmp .ne 25, 3) := by decide +kernel
theorem dX9_isLike_59 : decode cX9_isLike 59 = .ok (.aload_n 0, 1) := by decide +kernel
theorem dX9_isLike_60 : decode cX9_isLike 60 = .ok (.getfield 43, 3) := by decide +kernel
theorem dX9_isLike_63 : decode cX9_isLike 63 = .ok (.iload_n 3, 1) := by decide +kernel
theorem dX9_isLike_64 : decode cX9_isLike 64 = .ok (.iload 5, 2) := by decide +kernel
theorem dX9_isLike_66 : decode cX9_isLike 66 = .ok (.iadd, 1) := by decide +kernel
theorem dX9_isLike_67 : decode cX9_isLike 67 = .ok (.iaload, 1) := by decide +kernel
theorem dX9_isLike_68 : decode cX9_isLike 68 = .ok (.aload_n 0, 1) := by decide +kernel
theorem dX9_isLike_69 : decode cX9_isLike 69 = .ok (.getfield 43, 3) := by decide +kernel
theorem dX9_isLike_72 : decode cX9_isLike 72 = .ok (.iload 4, 2) := by decide +kernel
theorem dX9_isLike_74 : decode cX9_isLike 74 = .ok (.iload 5, 2) := by decide +kernel
theorem dX9_isLike_76 : decode cX9_isLike 76 = .ok (.iadd, 1) := by decide +kernel
theorem dX9_isLike_77 : decode cX9_isLike 77 = .ok (.iaload, 1) := by decide +kernel
theorem dX9_isLike_78 : decode cX9_isLike 78 = .ok (.if_icmp .eq 5, 3) := by decide +kernel
theorem dX9_isLike_81 : decode cX9_isLike 81 = .ok (.iconst 0, 1) := by decide +kernel
theorem dX9_isLike_82 : decode cX9_isLike 82 = .ok (.ireturn, 1) := by decide +kernel
theorem dX9_isLike_83 : decode cX9_isLike 83 = .ok (.iinc 5 1, 3) := by decide +kernel
theorem dX9_isLike_86 : decode cX9_isLike 86 = .ok (.goto (-55), 3) := by decide +kernel
theorem dX9_isLike_89 : decode cX9_isLike 89 = .ok (.iconst 1, 1) := by decide +kernel
theorem dX9_isLike_90 : decode cX9_isLike 90 = .ok (.ireturn, 1) := by decide +kernel
theorem dX9_make_0 : decode cX9_make 0 = .ok (.iload_n 1, 1) := by decide +kernel
theorem dX9_make_1 : decode cX9_make 1 = .ok (.iconst 0, 1) := by decide +kernel
theorem dX9_make_2 : decode cX9_make 2 = .ok (.aload_n 0, 1) := by decide +kernel
theorem dX9_make_3 : decode cX9_make 3 = .ok (.getfield 96, 3) := by decide +kernel
theorem dX9_make_6 : decode cX9_make 6 = .ok (.iconst 1, 1) := by decide +kernel
theorem dX9_make_7 : decode cX9_make 7 = .ok (.isub, 1) := by decide +kernel
theorem dX9_make_8 : decode cX9_make 8 = .ok (.invokestatic 68, 3) := by decide +kernel
theorem dX9_make_11 : decode cX9_make 11 = .ok (.ifCond .eq 12, 3) := by decide +kernel
theorem dX9_make_14 : decode cX9_make 14 = .ok (.aload_n 0, 1) := by decide +kernel
theorem dX9_make_15 : decode cX9_make 15 = .ok (.getfield 83, 3) := by decide +kernel
theorem dX9_make_18 : decode cX9_make 18 = .ok (.bipush 12, 2) := by decide +kernel
theorem dX9_make_20 : decode cX9_make 20 = .ok (.if_icmp .ne 5, 3) := by decide +kernel
theorem dX9_make_23 : decode cX9_make 23 = .ok (.iconst (-1), 1) := by decide +kernel
theorem dX9_make_24 : decode cX9_make 24 = .ok (.ireturn, 1) := by decide +kernel
theorem dX9_make_25 : decode cX9_make 25 = .ok (.aload_n 0, 1) := by decide +kernel
theorem dX9_make_26 : decode cX9_make 26 = .ok (.iload_n 1, 1) := by decide +kernel
theorem dX9_make_27 : decode cX9_make 27 = .ok (.invokevirtual 110, 3) := by decide +kernel
theorem dX9_make_30 : decode cX9_make 30 = .ok (.iconst 0, 1) := by decide +kernel
theorem dX9_make_31 : decode cX9_make 31 = .ok (.istore_n 2, 1) := by decide +kernel
theorem dX9_make_32 : decode cX9_make 32 = .ok (.iconst 0, 1) := by decide +kernel
theorem dX9_make_33 : decode cX9_make 33 = .ok (.istore_n 3, 1) := by decide +kernel
theorem dX9_make_34 : decode cX9_make 34 = .ok (.iload_n 3, 1) := by decide +kernel
theorem dX9_make_35 : decode cX9_make 35 = .ok (.iload_n 1, 1) := by decide +kernel
theorem dX9_make_36 : decode cX9_make 36 = .ok (.if_icmp .gt 66, 3) := by decide +kernel
theorem dX9_make_39 : decode cX9_make 39 = .ok (.aload_n 0, 1) := by decide +kernel
theorem dX9_make_40 : decode cX9_make 40 = .ok (.getfield 62, 3) := by decide +kernel
theorem dX9_make_43 : decode cX9_make 43 = .ok (.iload_n 3, 1) := by decide +kernel
theorem dX9_make_44 : decode cX9_make 44 = .ok (.baload, 1) := by decide +kernel
theorem dX9_make_45 : decode cX9_make 45 = .ok (.ifCond .eq 6, 3) := by decide +kernel
theorem dX9_make_48 : decode cX9_make 48 = .ok (.goto 48, 3) := by decide +kernel
theorem dX9_make_51 : decode cX9_make 51 = .ok (.aload_n 0, 1) := by decide +kernel
theorem dX9_make_52 : decode cX9_make 52 = .ok (.getfield 40, 3) := by decide +kernel
theorem dX9_make_55 : decode cX9_make 55 = .ok (.sipush 200, 3) := by decide +kernel
theorem dX9_make_58 : decode cX9_make 58 = .ok (.aload_n 0, 1) := by decide +kernel
theorem dX9_make_59 : decode cX9_make 59 = .ok (.getfield 83, 3) := by decide +kernel
theorem dX9_make_62 : decode cX9_make 62 = .ok (.imul, 1) := by decide +kernel
theorem dX9_make_63 : decode cX9_make 63 = .ok (.iload_n 2, 1) := by decide +kernel
theorem dX9_make_64 : decode cX9_make 64 = .ok (.iadd, 1) := by decide +kernel
theorem dX9_make_65 : decode cX9_make 65 = .ok (.aload_n 0, 1) := by decide +kernel
theorem dX9_make_66 : decode cX9_make 66 = .ok (.getfield 22, 3) := by decide +kernel
theorem dX9_make_69 : decode cX9_make 69 = .ok (.iload_n 3, 1) := by decide +kernel
theorem dX9_make_70 : decode cX9_make 70 = .ok (.iaload, 1) := by decide +kernel
theorem dX9_make_71 : decode cX9_make 71 = .ok (.iastore, 1) := by decide +kernel
theorem dX9_make_72 : decode cX9_make 72 = .ok (.aload_n 0, 1) := by decide +kernel
theorem dX9_make_73 : decode cX9_make 73 = .ok (.getfield 43, 3) := by decide +kernel
theorem dX9_make_76 : decode cX9_make 76 = .ok (.sipush 200, 3) := by decide +kernel
theorem dX9_make_79 : decode cX9_make 79 = .ok (.aload_n 0, 1) := by decide +kernel
theorem dX9_make_80 : decode cX9_make 80 = .ok (.getfield 83, 3) := by decide +kernel
theorem dX9_make_83 : decode cX9_make 83 = .ok (.imul, 1) := by decide +kernel
theorem dX9_make_84 : decode cX9_make 84 = .ok (.iload_n 2, 1) := by decide +kernel
theorem dX9_make_85 : decode cX9_make 85 = .ok (.iadd, 1) := by decide +kernel
theorem dX9_make_86 : decode cX9_make 86 = .ok (.aload_n 0, 1) := by decide +kernel
theorem dX9_make_87 : decode cX9_make 87 = .ok (.getfield 25, 3) := by decide +kernel
theorem dX9_make_90 : decode cX9_make 90 = .ok (.iload_n 3, 1) := by decide +kernel
theorem dX9_make_91 : decode cX9_make 91 = .ok (.iaload, 1) := by decide +kernel
theorem dX9_make_92 : decode cX9_make 92 = .ok (.iastore, 1) := by decide +kernel
theorem dX9_make_93 : decode cX9_make 93 = .ok (.iinc 2 1, 3) := by decide +kernel
theorem dX9_make_96 : decode cX9_make 96 = .ok (.iinc 3 1, 3) := by decide +kernel
theorem dX9_make_99 : decode cX9_make 99 = .ok (.goto (-65), 3) := by decide +kernel
theorem dX9_make_102 : decode cX9_make 102 = .ok (.iconst 0, 1) := by decide +kernel
theorem dX9_make_103 : decode cX9_make 103 = .ok (.istore_n 3, 1) := by decide +kernel
theorem dX9_make_104 : decode cX9_make 104 = .ok (.iload_n 3, 1) := by decide +kernel
theorem dX9_make_105 : decode cX9_make 105 = .ok (.aload_n 0, 1) := by decide +kernel
theorem dX9_make_106 : decode cX9_make 106 = .ok (.getfield 83, 3) := by decide +kernel
theorem dX9_make_109 : decode cX9_make 109 = .ok (.if_icmp .ge 20, 3) := by decide +kernel
theorem dX9_make_112 : decode cX9_make 112 = .ok (.aload_n 0, 1) := by decide +kernel
theorem dX9_make_113 : decode cX9_make 113 = .ok (.iload_n 3, 1) := by decide +kernel
theorem dX9_make_114 : decode cX9_make 114 = .ok (.iload_n 2, 1) := by decide +kernel
theorem dX9_make_115 : decode cX9_make 115 = .ok (.invokevirtual 114, 3) := by decide +kernel
theorem dX9_make_118 : decode cX9_make 118 = .ok (.ifCond .eq 5, 3) := by decide +kernel
theorem dX9_make_121 : decode cX9_make 121 = .ok (.iconst (-1), 1) := by decide +kernel
theorem dX9_make_122 : decode cX9_make 122 = .ok (.ireturn, 1) := by decide +kernel
theorem dX9_make_123 : decode cX9_make 123 = .ok (.iinc 3 1, 3) := by decide +kernel
theorem dX9_make_126 : decode cX9_make 126 = .ok (.goto (-22), 3) := by decide +kernel
theorem dX9_make_129 : decode cX9_make 129 = .ok (.aload_n 0, 1) := by decide +kernel
theorem dX9_make_130 : decode cX9_make 130 = .ok (.getfield 37, 3) := by decide +kernel
theorem dX9_make_133 : decode cX9_make 133 = .ok (.aload_n 0, 1) := by decide +kernel
theorem dX9_make_134 : decode cX9_make 134 = .ok (.getfield 83, 3) := by decide +kernel
theorem dX9_make_137 : decode cX9_make 137 = .ok (.iload_n 2, 1) := by decide +kernel
theorem dX9_make_138 : decode cX9_make 138 = .ok (.iastore, 1) := by decide +kernel
theorem dX9_make_139 : decode cX9_make 139 = .ok (.aload_n 0, 1) := by decide +kernel
theorem dX9_make_140 : decode cX9_make 140 = .ok (.dup, 1) := by decide +kernel
theorem dX9_make_141 : decode cX9_make 141 = .ok (.getfield 83, 3) := by decide +kernel
theorem dX9_make_144 : decode cX9_make 144 = .ok (.iconst 1, 1) := by decide +kernel
theorem dX9_make_145 : decode cX9_make 145 = .ok (.iadd, 1) := by decide +kernel
theorem dX9_make_146 : decode cX9_make 146 = .ok (.putfield 83, 3) := by decide +kernel
theorem dX9_make_149 : decode cX9_make 149 = .ok (.aload_n 0, 1) := by decide +kernel
theorem dX9_make_150 : decode cX9_make 150 = .ok (.aload_n 0, 1) := by decide +kernel
theorem dX9_make_151 : decode cX9_make 151 = .ok (.getfield 83, 3) := by decide +kernel
theorem dX9_make_154 : decode cX9_make 154 = .ok (.iconst 1, 1) := by decide +kernel
theorem dX9_make_155 : decode cX9_make 155 = .ok (.isub, 1) := by decide +kernel
theorem dX9_make_156 : decode cX9_make 156 = .ok (.invokevirtual 118, 3) := by decide +kernel
theorem dX9_make_159 : decode cX9_make 159 = .ok (.pop, 1) := by decide +kernel
theorem dX9_make_160 : decode cX9_make 160 = .ok (.aload_n 0, 1) := by decide +kernel
theorem dX9_make_161 : decode cX9_make 161 = .ok (.getfield 83, 3) := by decide +kernel
theorem dX9_make_164 : decode cX9_make 164 = .ok (.iconst 1, 1) := by decide +kernel
theorem dX9_make_165 : decode cX9_make 165 = .ok (.isub, 1) := by decide +kernel
theorem dX9_make_166 : decode cX9_make 166 = .ok (.ireturn, 1) := by decide +kernel
theorem dX9_isTest_0 : decode cX9_isTest 0 = .ok (.iload_n 1, 1) := by decide +kernel
theorem dX9_isTest_1 : decode cX9_isTest 1 = .ok (.iconst 0, 1) := by decide +kernel
theorem dX9_isTest_2 : decode cX9_isTest 2 = .ok (.aload_n 0, 1) := by decide +kernel
theorem dX9_isTest_3 : decode cX9_isTest 3 = .ok (.getfield 83, 3) := by decide +kernel
theorem dX9_isTest_6 : decode cX9_isTest 6 = .ok (.iconst 1, 1) := by decide +kernel
theorem dX9_isTest_7 : decode cX9_isTest 7 = .ok (.isub, 1) := by decide +kernel
theorem dX9_isTest_8 : decode cX9_isTest 8 = .ok (.invokestatic 68, 3) := by decide +kernel
theorem dX9_isTest_11 : decode cX9_isTest 11 = .ok (.ireturn, 1) := by decide +kernel
theorem dX9_accept_0 : decode cX9_accept 0 = .ok (.aload_n 0, 1) := by decide +kernel
theorem dX9_accept_1 : decode cX9_accept 1 = .ok (.iload_n 1, 1) := by decide +kernel
theorem dX9_accept_2 : decode cX9_accept 2 = .ok (.invokevirtual 121, 3) := by decide +kernel
theorem dX9_accept_5 : decode cX9_accept 5 = .ok (.ifCond .ne 5, 3) := by decide +kernel
theorem dX9_accept_8 : decode cX9_accept 8 = .ok (.iconst 0, 1) := by decide +kernel
theorem dX9_accept_9 : decode cX9_accept 9 = .ok (.ireturn, 1) := by decide +kernel
theorem dX9_accept_10 : decode cX9_accept 10 = .ok (.aload_n 0, 1) := by decide +kernel
theorem dX9_accept_11 : decode cX9_accept 11 = .ok (.invokevirtual 103, 3) := by decide +kernel
theorem dX9_accept_14 : decode cX9_accept 14 = .ok (.aload_n 0, 1) := by decide +kernel
theorem dX9_accept_15 : decode cX9_accept 15 = .ok (.getfield 49, 3) := by decide +kernel
theorem dX9_accept_18 : decode cX9_accept 18 = .ok (.iload_n 1, 1) := by decide +kernel
theorem dX9_accept_19 : decode cX9_accept 19 = .ok (.iconst 0, 1) := by decide +kernel
theorem dX9_accept_20 : decode cX9_accept 20 = .ok (.iastore, 1) := by decide +kernel
theorem dX9_accept_21 : decode cX9_accept 21 = .ok (.sipush 200, 3) := by decide +kernel
theorem dX9_accept_24 : decode cX9_accept 24 = .ok (.iload_n 1, 1) := by decide +kernel
theorem dX9_accept_25 : decode cX9_accept 25 = .ok (.imul, 1) := by decide +kernel
theorem dX9_accept_26 : decode cX9_accept 26 = .ok (.istore_n 2, 1) := by decide +kernel
theorem dX9_accept_27 : decode cX9_accept 27 = .ok (.iload_n 2, 1) := by decide +kernel
theorem dX9_accept_28 : decode cX9_accept 28 = .ok (.sipush 200, 3) := by decide +kernel
theorem dX9_accept_31 : decode cX9_accept 31 = .ok (.iload_n 1, 1) := by decide +kernel
theorem dX9_accept_32 : decode cX9_accept 32 = .ok (.imul, 1) := by decide +kernel
theorem dX9_accept_33 : decode cX9_accept 33 = .ok (.aload_n 0, 1) := by decide +kernel
theorem dX9_accept_34 : decode cX9_accept 34 = .ok (.getfield 37, 3) := by decide +kernel
theorem dX9_accept_37 : decode cX9_accept 37 = .ok (.iload_n 1, 1) := by decide +kernel
theorem dX9_accept_38 : decode cX9_accept 38 = .ok (.iaload, 1) := by decide +kernel
theorem dX9_accept_39 : decode cX9_accept 39 = .ok (.iadd, 1) := by decide +kernel
theorem dX9_accept_40 : decode cX9_accept 40 = .ok (.if_icmp .ge 54, 3) := by decide +kernel
theorem dX9_accept_43 : decode cX9_accept 43 = .ok (.aload_n 0, 1) := by decide +kernel
theorem dX9_accept_44 : decode cX9_accept 44 = .ok (.getfield 46, 3) := by decide +kernel
theorem dX9_accept_47 : decode cX9_accept 47 = .ok (.iload_n 2, 1) := by decide +kernel
theorem dX9_accept_48 : decode cX9_accept 48 = .ok (.aload_n 0, 1) := by decide +kernel
theorem dX9_accept_49 : decode cX9_accept 49 = .ok (.aload_n 0, 1) := by decide +kernel
theorem dX9_accept_50 : decode cX9_accept 50 = .ok (.getfield 40, 3) := by decide +kernel
theorem dX9_accept_53 : decode cX9_accept 53 = .ok (.iload_n 2, 1) := by decide +kernel
theorem dX9_accept_54 : decode cX9_accept 54 = .ok (.iaload, 1) := by decide +kernel
theorem dX9_accept_55 : decode cX9_accept 55 = .ok (.aload_n 0, 1) := by decide +kernel
theorem dX9_accept_56 : decode cX9_accept 56 = .ok (.getfield 43, 3) := by decide +kernel
theorem dX9_accept_59 : decode cX9_accept 59 = .ok (.iload_n 2, 1) := by decide +kernel
theorem dX9_accept_60 : decode cX9_accept 60 = .ok (.iaload, 1) := by decide +kernel
theorem dX9_accept_61 : decode cX9_accept 61 = .ok (.invokevirtual 99, 3) := by decide +kernel
theorem dX9_accept_64 : decode cX9_accept 64 = .ok (.iastore, 1) := by decide +kernel
theorem dX9_accept_65 : decode cX9_accept 65 = .ok (.aload_n 0, 1) := by decide +kernel
theorem dX9_accept_66 : decode cX9_accept 66 = .ok (.getfield 90, 3) := by decide +kernel
theorem dX9_accept_69 : decode cX9_accept 69 = .ok (.iconst (-1), 1) := by decide +kernel
theorem dX9_accept_70 : decode cX9_accept 70 = .ok (.if_icmp .eq 18, 3) := by decide +kernel
theorem dX9_accept_73 : decode cX9_accept 73 = .ok (.aload_n 0, 1) := by decide +kernel
theorem dX9_accept_74 : decode cX9_accept 74 = .ok (.getfield 49, 3) := by decide +kernel
theorem dX9_accept_77 : decode cX9_accept 77 = .ok (.iload_n 1, 1) := by decide +kernel
theorem dX9_accept_78 : decode cX9_accept 78 = .ok (.dup2, 1) := by decide +kernel
theorem dX9_accept_79 : decode cX9_accept 79 = .ok (.iaload, 1) := by decide +kernel
theorem dX9_accept_80 : decode cX9_accept 80 = .ok (.iconst 1, 1) := by decide +kernel
theorem dX9_accept_81 : decode cX9_accept 81 = .ok (.aload_n 0, 1) := by decide +kernel
theorem dX9_accept_82 : decode cX9_accept 82 = .ok (.getfield 90, 3) := by decide +kernel
theorem dX9_accept_85 : decode cX9_accept 85 = .ok (.ishl, 1) := by decide +kernel
theorem dX9_accept_86 : decode cX9_accept 86 = .ok (.ior, 1) := by decide +kernel
theorem dX9_accept_87 : decode cX9_accept 87 = .ok (.iastore, 1) := by decide +kernel
theorem dX9_accept_88 : decode cX9_accept 88 = .ok (.iinc 2 1, 3) := by decide +kernel
theorem dX9_accept_91 : decode cX9_accept 91 = .ok (.goto (-64), 3) := by decide +kernel
theorem dX9_accept_94 : decode cX9_accept 94 = .ok (.aload_n 0, 1) := by decide +kernel
theorem dX9_accept_95 : decode cX9_accept 95 = .ok (.getfield 52, 3) := by decide +kernel
theorem dX9_accept_98 : decode cX9_accept 98 = .ok (.iload_n 1, 1) := by decide +kernel
theorem dX9_accept_99 : decode cX9_accept 99 = .ok (.iconst 0, 1) := by decide +kernel
theorem dX9_accept_100 : decode cX9_accept 100 = .ok (.bastore, 1) := by decide +kernel
theorem dX9_accept_101 : decode cX9_accept 101 = .ok (.aload_n 0, 1) := by decide +kernel
theorem dX9_accept_102 : decode cX9_accept 102 = .ok (.getfield 56, 3) := by decide +kernel
theorem dX9_accept_105 : decode cX9_accept 105 = .ok (.iload_n 1, 1) := by decide +kernel
theorem dX9_accept_106 : decode cX9_accept 106 = .ok (.iconst 0, 1) := by decide +kernel
theorem dX9_accept_107 : decode cX9_accept 107 = .ok (.bastore, 1) := by decide +kernel
theorem dX9_accept_108 : decode cX9_accept 108 = .ok (.iconst 1, 1) := by decide +kernel
theorem dX9_accept_109 : decode cX9_accept 109 = .ok (.ireturn, 1) := by decide +kernel
theorem dX9_drop_0 : decode cX9_drop 0 = .ok (.aload_n 0, 1) := by decide +kernel
theorem dX9_drop_1 : decode cX9_drop 1 = .ok (.iload_n 1, 1) := by decide +kernel
theorem dX9_drop_2 : decode cX9_drop 2 = .ok (.invokevirtual 121, 3) := by decide +kernel
theorem dX9_drop_5 : decode cX9_drop 5 = .ok (.ifCond .ne 5, 3) := by decide +kernel
theorem dX9_drop_8 : decode cX9_drop 8 = .ok (.iconst 0, 1) := by decide +kernel
theorem dX9_drop_9 : decode cX9_drop 9 = .ok (.ireturn, 1) := by decide +kernel
theorem dX9_drop_10 : decode cX9_drop 10 = .ok (.iload_n 1, 1) := by decide +kernel
theorem dX9_drop_11 : decode cX9_drop 11 = .ok (.istore_n 2, 1) := by decide +kernel
theorem dX9_drop_12 : decode cX9_drop 12 = .ok (.iload_n 2, 1) := by decide +kernel
theorem dX9_drop_13 : decode cX9_drop 13 = .ok (.iconst 1, 1) := by decide +kernel
theorem dX9_drop_14 : decode cX9_drop 14 = .ok (.iadd, 1) := by decide +kernel
theorem dX9_drop_15 : decode cX9_drop 15 = .ok (.aload_n 0, 1) := by decide +kernel
theorem dX9_drop_16 : decode cX9_drop 16 = .ok (.getfield 83, 3) := by decide +kernel
theorem dX9_drop_19 : decode cX9_drop 19 = .ok (.if_icmp .ge 164, 3) := by decide +kernel
theorem dX9_drop_22 : decode cX9_drop 22 = .ok (.aload_n 0, 1) := by decide +kernel
theorem dX9_drop_23 : decode cX9_drop 23 = .ok (.getfield 37, 3) := by decide +kernel
theorem dX9_drop_26 : decode cX9_drop 26 = .ok (.iload_n 2, 1) := by decide +kernel
theorem dX9_drop_27 : decode cX9_drop 27 = .ok (.aload_n 0, 1) := by decide +kernel
theorem dX9_drop_28 : decode cX9_drop 28 = .ok (.getfield 37, 3) := by decide +kernel
theorem dX9_drop_31 : decode cX9_drop 31 = .ok (.iload_n 2, 1) := by decide +kernel
theorem dX9_drop_32 : decode cX9_drop 32 = .ok (.iconst 1, 1) := by decide +kernel
theorem dX9_drop_33 : decode cX9_drop 33 = .ok (.iadd, 1) := by decide +kernel
theorem dX9_drop_34 : decode cX9_drop 34 = .ok (.iaload, 1) := by decide +kernel
theorem dX9_drop_35 : decode cX9_drop 35 = .ok (.iastore, 1) := by decide +kernel
theorem dX9_drop_36 : decode cX9_drop 36 = .ok (.aload_n 0, 1) := by decide +kernel
theorem dX9_drop_37 : decode cX9_drop 37 = .ok (.getfield 49, 3) := by decide +kernel
theorem dX9_drop_40 : decode cX9_drop 40 = .ok (.iload_n 2, 1) := by decide +kernel
theorem dX9_drop_41 : decode cX9_drop 41 = .ok (.aload_n 0, 1) := by decide +kernel
theorem dX9_drop_42 : decode cX9_drop 42 = .ok (.getfield 49, 3) := by decide +kernel
theorem dX9_drop_45 : decode cX9_drop 45 = .ok (.iload_n 2, 1) := by decide +kernel
theorem dX9_drop_46 : decode cX9_drop 46 = .ok (.iconst 1, 1) := by decide +kernel
theorem dX9_drop_47 : decode cX9_drop 47 = .ok (.iadd, 1) := by decide +kernel
theorem dX9_drop_48 : decode cX9_drop 48 = .ok (.iaload, 1) := by decide +kernel
theorem dX9_drop_49 : decode cX9_drop 49 = .ok (.iastore, 1) := by decide +kernel
theorem dX9_drop_50 : decode cX9_drop 50 = .ok (.aload_n 0, 1) := by decide +kernel
theorem dX9_drop_51 : decode cX9_drop 51 = .ok (.getfield 52, 3) := by decide +kernel
theorem dX9_drop_54 : decode cX9_drop 54 = .ok (.iload_n 2, 1) := by decide +kernel
theorem dX9_drop_55 : decode cX9_drop 55 = .ok (.aload_n 0, 1) := by decide +kernel
theorem dX9_drop_56 : decode cX9_drop 56 = .ok (.getfield 52, 3) := by decide +kernel
theorem dX9_drop_59 : decode cX9_drop 59 = .ok (.iload_n 2, 1) := by decide +kernel
theorem dX9_drop_60 : decode cX9_drop 60 = .ok (.iconst 1, 1) := by decide +kernel
theorem dX9_drop_61 : decode cX9_drop 61 = .ok (.iadd, 1) := by decide +kernel
theorem dX9_drop_62 : decode cX9_drop 62 = .ok (.baload, 1) := by decide +kernel
theorem dX9_drop_63 : decode cX9_drop 63 = .ok (.bastore, 1) := by decide +kernel
theorem dX9_drop_64 : decode cX9_drop 64 = .ok (.aload_n 0, 1) := by decide +kernel
theorem dX9_drop_65 : decode cX9_drop 65 = .ok (.getfield 56, 3) := by decide +kernel
theorem dX9_drop_68 : decode cX9_drop 68 = .ok (.iload_n 2, 1) := by decide +kernel
theorem dX9_drop_69 : decode cX9_drop 69 = .ok (.aload_n 0, 1) := by decide +kernel
theorem dX9_drop_70 : decode cX9_drop 70 = .ok (.getfield 56, 3) := by decide +kernel
theorem dX9_drop_73 : decode cX9_drop 73 = .ok (.iload_n 2, 1) := by decide +kernel
theorem dX9_drop_74 : decode cX9_drop 74 = .ok (.iconst 1, 1) := by decide +kernel
theorem dX9_drop_75 : decode cX9_drop 75 = .ok (.iadd, 1) := by decide +kernel
theorem dX9_drop_76 : decode cX9_drop 76 = .ok (.baload, 1) := by decide +kernel
theorem dX9_drop_77 : decode cX9_drop 77 = .ok (.bastore, 1) := by decide +kernel
theorem dX9_drop_78 : decode cX9_drop 78 = .ok (.iconst 0, 1) := by decide +kernel
theorem dX9_drop_79 : decode cX9_drop 79 = .ok (.istore_n 3, 1) := by decide +kernel
theorem dX9_drop_80 : decode cX9_drop 80 = .ok (.iload_n 3, 1) := by decide +kernel
theorem dX9_drop_81 : decode cX9_drop 81 = .ok (.sipush 200, 3) := by decide +kernel
theorem dX9_drop_84 : decode cX9_drop 84 = .ok (.if_icmp .ge 93, 3) := by decide +kernel
theorem dX9_drop_87 : decode cX9_drop 87 = .ok (.aload_n 0, 1) := by decide +kernel
theorem dX9_drop_88 : decode cX9_drop 88 = .ok (.getfield 40, 3) := by decide +kernel
theorem dX9_drop_91 : decode cX9_drop 91 = .ok (.sipush 200, 3) := by decide +kernel
theorem dX9_drop_94 : decode cX9_drop 94 = .ok (.iload_n 2, 1) := by decide +kernel
theorem dX9_drop_95 : decode cX9_drop 95 = .ok (.imul, 1) := by decide +kernel
theorem dX9_drop_96 : decode cX9_drop 96 = .ok (.iload_n 3, 1) := by decide +kernel
theorem dX9_drop_97 : decode cX9_drop 97 = .ok (.iadd, 1) := by decide +kernel
theorem dX9_drop_98 : decode cX9_drop 98 = .ok (.aload_n 0, 1) := by decide +kernel
theorem dX9_drop_99 : decode cX9_drop 99 = .ok (.getfield 40, 3) := by decide +kernel
theorem dX9_drop_102 : decode cX9_drop 102 = .ok (.sipush 200, 3) := by decide +kernel
theorem dX9_drop_105 : decode cX9_drop 105 = .ok (.iload_n 2, 1) := by decide +kernel
theorem dX9_drop_106 : decode cX9_drop 106 = .ok (.imul, 1) := by decide +kernel
theorem dX9_drop_107 : decode cX9_drop 107 = .ok (.sipush 200, 3) := by decide +kernel
theorem dX9_drop_110 : decode cX9_drop 110 = .ok (.iadd, 1) := by decide +kernel
theorem dX9_drop_111 : decode cX9_drop 111 = .ok (.iload_n 3, 1) := by decide +kernel
theorem dX9_drop_112 : decode cX9_drop 112 = .ok (.iadd, 1) := by decide +kernel
theorem dX9_drop_113 : decode cX9_drop 113 = .ok (.iaload, 1) := by decide +kernel
theorem dX9_drop_114 : decode cX9_drop 114 = .ok (.iastore, 1) := by decide +kernel
theorem dX9_drop_115 : decode cX9_drop 115 = .ok (.aload_n 0, 1) := by decide +kernel
theorem dX9_drop_116 : decode cX9_drop 116 = .ok (.getfield 43, 3) := by decide +kernel
theorem dX9_drop_119 : decode cX9_drop 119 = .ok (.sipush 200, 3) := by decide +kernel
theorem dX9_drop_122 : decode cX9_drop 122 = .ok (.iload_n 2, 1) := by decide +kernel
theorem dX9_drop_123 : decode cX9_drop 123 = .ok (.imul, 1) := by decide +kernel
theorem dX9_drop_124 : decode cX9_drop 124 = .ok (.iload_n 3, 1) := by decide +kernel
theorem dX9_drop_125 : decode cX9_drop 125 = .ok (.iadd, 1) := by decide +kernel
theorem dX9_drop_126 : decode cX9_drop 126 = .ok (.aload_n 0, 1) := by decide +kernel
theorem dX9_drop_127 : decode cX9_drop 127 = .ok (.getfield 43, 3) := by decide +kernel
theorem dX9_drop_130 : decode cX9_drop 130 = .ok (.sipush 200, 3) := by decide +kernel
theorem dX9_drop_133 : decode cX9_drop 133 = .ok (.iload_n 2, 1) := by decide +kernel
theorem dX9_drop_134 : decode cX9_drop 134 = .ok (.imul, 1) := by decide +kernel
theorem dX9_drop_135 : decode cX9_drop 135 = .ok (.sipush 200, 3) := by decide +kernel
theorem dX9_drop_138 : decode cX9_drop 138 = .ok (.iadd, 1) := by decide +kernel
theorem dX9_drop_139 : decode cX9_drop 139 = .ok (.iload_n 3, 1) := by decide +kernel
theorem dX9_drop_140 : decode cX9_drop 140 = .ok (.iadd, 1) := by decide +kernel
theorem dX9_drop_141 : decode cX9_drop 141 = .ok (.iaload, 1) := by decide +kernel
theorem dX9_drop_142 : decode cX9_drop 142 = .ok (.iastore, 1) := by decide +kernel
theorem dX9_drop_143 : decode cX9_drop 143 = .ok (.aload_n 0, 1) := by decide +kernel
theorem dX9_drop_144 : decode cX9_drop 144 = .ok (.getfield 46, 3) := by decide +kernel
theorem dX9_drop_147 : decode cX9_drop 147 = .ok (.sipush 200, 3) := by decide +kernel
theorem dX9_drop_150 : decode cX9_drop 150 = .ok (.iload_n 2, 1) := by decide +kernel
theorem dX9_drop_151 : decode cX9_drop 151 = .ok (.imul, 1) := by decide +kernel
theorem dX9_drop_152 : decode cX9_drop 152 = .ok (.iload_n 3, 1) := by decide +kernel
theorem dX9_drop_153 : decode cX9_drop 153 = .ok (.iadd, 1) := by decide +kernel
theorem dX9_drop_154 : decode cX9_drop 154 = .ok (.aload_n 0, 1) := by decide +kernel
theorem dX9_drop_155 : decode cX9_drop 155 = .ok (.getfield 46, 3) := by decide +kernel
theorem dX9_drop_158 : decode cX9_drop 158 = .ok (.sipush 200, 3) := by decide +kernel
theorem dX9_drop_161 : decode cX9_drop 161 = .ok (.iload_n 2, 1) := by decide +kernel
theorem dX9_drop_162 : decode cX9_drop 162 = .ok (.imul, 1) := by decide +kernel
theorem dX9_drop_163 : decode cX9_drop 163 = .ok (.sipush 200, 3) := by decide +kernel
theorem dX9_drop_166 : decode cX9_drop 166 = .ok (.iadd, 1) := by decide +kernel
theorem dX9_drop_167 : decode cX9_drop 167 = .ok (.iload_n 3, 1) := by decide +kernel
theorem dX9_drop_168 : decode cX9_drop 168 = .ok (.iadd, 1) := by decide +kernel
theorem dX9_drop_169 : decode cX9_drop 169 = .ok (.iaload, 1) := by decide +kernel
theorem dX9_drop_170 : decode cX9_drop 170 = .ok (.iastore, 1) := by decide +kernel
theorem dX9_drop_171 : decode cX9_drop 171 = .ok (.iinc 3 1, 3) := by decide +kernel
theorem dX9_drop_174 : decode cX9_drop 174 = .ok (.goto (-94), 3) := by decide +kernel
theorem dX9_drop_177 : decode cX9_drop 177 = .ok (.iinc 2 1, 3) := by decide +kernel
theorem dX9_drop_180 : decode cX9_drop 180 = .ok (.goto (-168), 3) := by decide +kernel
theorem dX9_drop_183 : decode cX9_drop 183 = .ok (.aload_n 0, 1) := by decide +kernel
theorem dX9_drop_184 : decode cX9_drop 184 = .ok (.dup, 1) := by decide +kernel
theorem dX9_drop_185 : decode cX9_drop 185 = .ok (.getfield 83, 3) := by decide +kernel
theorem dX9_drop_188 : decode cX9_drop 188 = .ok (.iconst 1, 1) := by decide +kernel
theorem dX9_drop_189 : decode cX9_drop 189 = .ok (.isub, 1) := by decide +kernel
theorem dX9_drop_190 : decode cX9_drop 190 = .ok (.putfield 83, 3) := by decide +kernel
theorem dX9_drop_193 : decode cX9_drop 193 = .ok (.iconst 1, 1) := by decide +kernel
theorem dX9_drop_194 : decode cX9_drop 194 = .ok (.ireturn, 1) := by decide +kernel
theorem dX9_differs_0 : decode cX9_differs 0 = .ok (.aload_n 0, 1) := by decide +kernel
theorem dX9_differs_1 : decode cX9_differs 1 = .ok (.iload_n 1, 1) := by decide +kernel
theorem dX9_differs_2 : decode cX9_differs 2 = .ok (.invokevirtual 121, 3) := by decide +kernel
theorem dX9_differs_5 : decode cX9_differs 5 = .ok (.ifCond .ne 5, 3) := by decide +kernel
theorem dX9_differs_8 : decode cX9_differs 8 = .ok (.iconst (-1), 1) := by decide +kernel
theorem dX9_differs_9 : decode cX9_differs 9 = .ok (.ireturn, 1) := by decide +kernel
theorem dX9_differs_10 : decode cX9_differs 10 = .ok (.aload_n 0, 1) := by decide +kernel
theorem dX9_differs_11 : decode cX9_differs 11 = .ok (.invokevirtual 103, 3) := by decide +kernel
theorem dX9_differs_14 : decode cX9_differs 14 = .ok (.iconst 0, 1) := by decide +kernel
theorem dX9_differs_15 : decode cX9_differs 15 = .ok (.istore_n 2, 1) := by decide +kernel
theorem dX9_differs_16 : decode cX9_differs 16 = .ok (.iload_n 2, 1) := by decide +kernel
theorem dX9_differs_17 : decode cX9_differs 17 = .ok (.aload_n 0, 1) := by decide +kernel
theorem dX9_differs_18 : decode cX9_differs 18 = .ok (.getfield 37, 3) := by decide +kernel
theorem dX9_differs_21 : decode cX9_differs 21 = .ok (.iload_n 1, 1) := by decide +kernel
theorem dX9_differs_22 : decode cX9_differs 22 = .ok (.iaload, 1) := by decide +kernel
theorem dX9_differs_23 : decode cX9_differs 23 = .ok (.if_icmp .ge 44, 3) := by decide +kernel
theorem dX9_differs_26 : decode cX9_differs 26 = .ok (.sipush 200, 3) := by decide +kernel
theorem dX9_differs_29 : decode cX9_differs 29 = .ok (.iload_n 1, 1) := by decide +kernel
theorem dX9_differs_30 : decode cX9_differs 30 = .ok (.imul, 1) := by decide +kernel
theorem dX9_differs_31 : decode cX9_differs 31 = .ok (.iload_n 2, 1) := by decide +kernel
theorem dX9_differs_32 : decode cX9_differs 32 = .ok (.iadd, 1) := by decide +kernel
theorem dX9_differs_33 : decode cX9_differs 33 = .ok (.istore_n 3, 1) := by decide +kernel
theorem dX9_differs_34 : decode cX9_differs 34 = .ok (.aload_n 0, 1) := by decide +kernel
theorem dX9_differs_35 : decode cX9_differs 35 = .ok (.aload_n 0, 1) := by decide +kernel
theorem dX9_differs_36 : decode cX9_differs 36 = .ok (.getfield 40, 3) := by decide +kernel
theorem dX9_differs_39 : decode cX9_differs 39 = .ok (.iload_n 3, 1) := by decide +kernel
theorem dX9_differs_40 : decode cX9_differs 40 = .ok (.iaload, 1) := by decide +kernel
theorem dX9_differs_41 : decode cX9_differs 41 = .ok (.aload_n 0, 1) := by decide +kernel
theorem dX9_differs_42 : decode cX9_differs 42 = .ok (.getfield 43, 3) := by decide +kernel
theorem dX9_differs_45 : decode cX9_differs 45 = .ok (.iload_n 3, 1) := by decide +kernel
theorem dX9_differs_46 : decode cX9_differs 46 = .ok (.iaload, 1) := by decide +kernel
theorem dX9_differs_47 : decode cX9_differs 47 = .ok (.invokevirtual 99, 3) := by decide +kernel
theorem dX9_differs_50 : decode cX9_differs 50 = .ok (.aload_n 0, 1) := by decide +kernel
theorem dX9_differs_51 : decode cX9_differs 51 = .ok (.getfield 46, 3) := by decide +kernel
theorem dX9_differs_54 : decode cX9_differs 54 = .ok (.iload_n 3, 1) := by decide +kernel
theorem dX9_differs_55 : decode cX9_differs 55 = .ok (.iaload, 1) := by decide +kernel
theorem dX9_differs_56 : decode cX9_differs 56 = .ok (.if_icmp .eq 5, 3) := by decide +kernel
theorem dX9_differs_59 : decode cX9_differs 59 = .ok (.iload_n 2, 1) := by decide +kernel
theorem dX9_differs_60 : decode cX9_differs 60 = .ok (.ireturn, 1) := by decide +kernel
theorem dX9_differs_61 : decode cX9_differs 61 = .ok (.iinc 2 1, 3) := by decide +kernel
theorem dX9_differs_64 : decode cX9_differs 64 = .ok (.goto (-48), 3) := by decide +kernel
theorem dX9_differs_67 : decode cX9_differs 67 = .ok (.iconst (-1), 1) := by decide +kernel
theorem dX9_differs_68 : decode cX9_differs 68 = .ok (.ireturn, 1) := by decide +kernel
theorem dX9_meets_0 : decode cX9_meets 0 = .ok (.aload_n 0, 1) := by decide +kernel
theorem dX9_meets_1 : decode cX9_meets 1 = .ok (.invokevirtual 103, 3) := by decide +kernel
theorem dX9_meets_4 : decode cX9_meets 4 = .ok (.iconst 0, 1) := by decide +kernel
theorem dX9_meets_5 : decode cX9_meets 5 = .ok (.istore_n 2, 1) := by decide +kernel
theorem dX9_meets_6 : decode cX9_meets 6 = .ok (.sipush 200, 3) := by decide +kernel
theorem dX9_meets_9 : decode cX9_meets 9 = .ok (.iload_n 1, 1) := by decide +kernel
theorem dX9_meets_10 : decode cX9_meets 10 = .ok (.imul, 1) := by decide +kernel
theorem dX9_meets_11 : decode cX9_meets 11 = .ok (.istore_n 3, 1) := by decide +kernel
theorem dX9_meets_12 : decode cX9_meets 12 = .ok (.iload_n 3, 1) := by decide +kernel
theorem dX9_meets_13 : decode cX9_meets 13 = .ok (.sipush 200, 3) := by decide +kernel
theorem dX9_meets_16 : decode cX9_meets 16 = .ok (.iload_n 1, 1) := by decide +kernel
theorem dX9_meets_17 : decode cX9_meets 17 = .ok (.imul, 1) := by decide +kernel
theorem dX9_meets_18 : decode cX9_meets 18 = .ok (.aload_n 0, 1) := by decide +kernel
theorem dX9_meets_19 : decode cX9_meets 19 = .ok (.getfield 37, 3) := by decide +kernel
theorem dX9_meets_22 : decode cX9_meets 22 = .ok (.iload_n 1, 1) := by decide +kernel
theorem dX9_meets_23 : decode cX9_meets 23 = .ok (.iaload, 1) := by decide +kernel
theorem dX9_meets_24 : decode cX9_meets 24 = .ok (.iadd, 1) := by decide +kernel
theorem dX9_meets_25 : decode cX9_meets 25 = .ok (.if_icmp .ge 43, 3) := by decide +kernel
theorem dX9_meets_28 : decode cX9_meets 28 = .ok (.aload_n 0, 1) := by decide +kernel
theorem dX9_meets_29 : decode cX9_meets 29 = .ok (.aload_n 0, 1) := by decide +kernel
theorem dX9_meets_30 : decode cX9_meets 30 = .ok (.getfield 40, 3) := by decide +kernel
theorem dX9_meets_33 : decode cX9_meets 33 = .ok (.iload_n 3, 1) := by decide +kernel
theorem dX9_meets_34 : decode cX9_meets 34 = .ok (.iaload, 1) := by decide +kernel
theorem dX9_meets_35 : decode cX9_meets 35 = .ok (.aload_n 0, 1) := by decide +kernel
theorem dX9_meets_36 : decode cX9_meets 36 = .ok (.getfield 43, 3) := by decide +kernel
theorem dX9_meets_39 : decode cX9_meets 39 = .ok (.iload_n 3, 1) := by decide +kernel
theorem dX9_meets_40 : decode cX9_meets 40 = .ok (.iaload, 1) := by decide +kernel
theorem dX9_meets_41 : decode cX9_meets 41 = .ok (.invokevirtual 99, 3) := by decide +kernel
theorem dX9_meets_44 : decode cX9_meets 44 = .ok (.pop, 1) := by decide +kernel
theorem dX9_meets_45 : decode cX9_meets 45 = .ok (.aload_n 0, 1) := by decide +kernel
theorem dX9_meets_46 : decode cX9_meets 46 = .ok (.getfield 90, 3) := by decide +kernel
theorem dX9_meets_49 : decode cX9_meets 49 = .ok (.iconst (-1), 1) := by decide +kernel
theorem dX9_meets_50 : decode cX9_meets 50 = .ok (.if_icmp .eq 12, 3) := by decide +kernel
theorem dX9_meets_53 : decode cX9_meets 53 = .ok (.iload_n 2, 1) := by decide +kernel
theorem dX9_meets_54 : decode cX9_meets 54 = .ok (.iconst 1, 1) := by decide +kernel
theorem dX9_meets_55 : decode cX9_meets 55 = .ok (.aload_n 0, 1) := by decide +kernel
theorem dX9_meets_56 : decode cX9_meets 56 = .ok (.getfield 90, 3) := by decide +kernel
theorem dX9_meets_59 : decode cX9_meets 59 = .ok (.ishl, 1) := by decide +kernel
theorem dX9_meets_60 : decode cX9_meets 60 = .ok (.ior, 1) := by decide +kernel
theorem dX9_meets_61 : decode cX9_meets 61 = .ok (.istore_n 2, 1) := by decide +kernel
theorem dX9_meets_62 : decode cX9_meets 62 = .ok (.iinc 3 1, 3) := by decide +kernel
theorem dX9_meets_65 : decode cX9_meets 65 = .ok (.goto (-53), 3) := by decide +kernel
theorem dX9_meets_68 : decode cX9_meets 68 = .ok (.iload_n 2, 1) := by decide +kernel
theorem dX9_meets_69 : decode cX9_meets 69 = .ok (.ireturn, 1) := by decide +kernel
theorem dX9_told_0 : decode cX9_told 0 = .ok (.aload_n 0, 1) := by decide +kernel
theorem dX9_told_1 : decode cX9_told 1 = .ok (.iload_n 1, 1) := by decide +kernel
theorem dX9_told_2 : decode cX9_told 2 = .ok (.invokevirtual 121, 3) := by decide +kernel
theorem dX9_told_5 : decode cX9_told 5 = .ok (.ifCond .ne 5, 3) := by decide +kernel
theorem dX9_told_8 : decode cX9_told 8 = .ok (.iconst (-1), 1) := by decide +kernel
theorem dX9_told_9 : decode cX9_told 9 = .ok (.ireturn, 1) := by decide +kernel
theorem dX9_told_10 : decode cX9_told 10 = .ok (.iload_n 2, 1) := by decide +kernel
theorem dX9_told_11 : decode cX9_told 11 = .ok (.tableswitch 102 0 5 #[37, 44, 59, 74, 89, 96], 37) := by decide +kernel
theorem dX9_told_48 : decode cX9_told 48 = .ok (.aload_n 0, 1) := by decide +kernel
theorem dX9_told_49 : decode cX9_told 49 = .ok (.getfield 37, 3) := by decide +kernel
theorem dX9_told_52 : decode cX9_told 52 = .ok (.iload_n 1, 1) := by decide +kernel
theorem dX9_told_53 : decode cX9_told 53 = .ok (.iaload, 1) := by decide +kernel
theorem dX9_told_54 : decode cX9_told 54 = .ok (.ireturn, 1) := by decide +kernel
theorem dX9_told_55 : decode cX9_told 55 = .ok (.aload_n 0, 1) := by decide +kernel
theorem dX9_told_56 : decode cX9_told 56 = .ok (.getfield 52, 3) := by decide +kernel
theorem dX9_told_59 : decode cX9_told 59 = .ok (.iload_n 1, 1) := by decide +kernel
theorem dX9_told_60 : decode cX9_told 60 = .ok (.baload, 1) := by decide +kernel
theorem dX9_told_61 : decode cX9_told 61 = .ok (.ifCond .eq 7, 3) := by decide +kernel
theorem dX9_told_64 : decode cX9_told 64 = .ok (.iconst 1, 1) := by decide +kernel
theorem dX9_told_65 : decode cX9_told 65 = .ok (.goto 4, 3) := by decide +kernel
theorem dX9_told_68 : decode cX9_told 68 = .ok (.iconst 0, 1) := by decide +kernel
theorem dX9_told_69 : decode cX9_told 69 = .ok (.ireturn, 1) := by decide +kernel
theorem dX9_told_70 : decode cX9_told 70 = .ok (.aload_n 0, 1) := by decide +kernel
theorem dX9_told_71 : decode cX9_told 71 = .ok (.getfield 56, 3) := by decide +kernel
theorem dX9_told_74 : decode cX9_told 74 = .ok (.iload_n 1, 1) := by decide +kernel
theorem dX9_told_75 : decode cX9_told 75 = .ok (.baload, 1) := by decide +kernel
theorem dX9_told_76 : decode cX9_told 76 = .ok (.ifCond .eq 7, 3) := by decide +kernel
theorem dX9_told_79 : decode cX9_told 79 = .ok (.iconst 1, 1) := by decide +kernel
theorem dX9_told_80 : decode cX9_told 80 = .ok (.goto 4, 3) := by decide +kernel
theorem dX9_told_83 : decode cX9_told 83 = .ok (.iconst 0, 1) := by decide +kernel
theorem dX9_told_84 : decode cX9_told 84 = .ok (.ireturn, 1) := by decide +kernel
theorem dX9_told_85 : decode cX9_told 85 = .ok (.aload_n 0, 1) := by decide +kernel
theorem dX9_told_86 : decode cX9_told 86 = .ok (.iload_n 1, 1) := by decide +kernel
theorem dX9_told_87 : decode cX9_told 87 = .ok (.invokevirtual 124, 3) := by decide +kernel
theorem dX9_told_90 : decode cX9_told 90 = .ok (.iconst (-1), 1) := by decide +kernel
theorem dX9_told_91 : decode cX9_told 91 = .ok (.if_icmp .eq 7, 3) := by decide +kernel
theorem dX9_told_94 : decode cX9_told 94 = .ok (.iconst 1, 1) := by decide +kernel
theorem dX9_told_95 : decode cX9_told 95 = .ok (.goto 4, 3) := by decide +kernel
theorem dX9_told_98 : decode cX9_told 98 = .ok (.iconst 0, 1) := by decide +kernel
theorem dX9_told_99 : decode cX9_told 99 = .ok (.ireturn, 1) := by decide +kernel
theorem dX9_told_100 : decode cX9_told 100 = .ok (.aload_n 0, 1) := by decide +kernel
theorem dX9_told_101 : decode cX9_told 101 = .ok (.getfield 49, 3) := by decide +kernel
theorem dX9_told_104 : decode cX9_told 104 = .ok (.iload_n 1, 1) := by decide +kernel
theorem dX9_told_105 : decode cX9_told 105 = .ok (.iaload, 1) := by decide +kernel
theorem dX9_told_106 : decode cX9_told 106 = .ok (.ireturn, 1) := by decide +kernel
theorem dX9_told_107 : decode cX9_told 107 = .ok (.aload_n 0, 1) := by decide +kernel
