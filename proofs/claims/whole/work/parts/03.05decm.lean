theorem dX9_init_0 : decode cX9_init 0 = .ok (.aload_n 0, 1) := by decide +kernel
theorem dX9_init_1 : decode cX9_init 1 = .ok (.invokespecial 1, 3) := by decide +kernel
theorem dX9_init_4 : decode cX9_init 4 = .ok (.aload_n 0, 1) := by decide +kernel
theorem dX9_init_5 : decode cX9_init 5 = .ok (.bipush 6, 2) := by decide +kernel
theorem dX9_init_7 : decode cX9_init 7 = .ok (.newarray .int, 2) := by decide +kernel
theorem dX9_init_9 : decode cX9_init 9 = .ok (.putfield 9, 3) := by decide +kernel
theorem dX9_init_12 : decode cX9_init 12 = .ok (.aload_n 0, 1) := by decide +kernel
theorem dX9_init_13 : decode cX9_init 13 = .ok (.bipush 24, 2) := by decide +kernel
theorem dX9_init_15 : decode cX9_init 15 = .ok (.newarray .int, 2) := by decide +kernel
theorem dX9_init_17 : decode cX9_init 17 = .ok (.putfield 13, 3) := by decide +kernel
theorem dX9_init_20 : decode cX9_init 20 = .ok (.aload_n 0, 1) := by decide +kernel
theorem dX9_init_21 : decode cX9_init 21 = .ok (.bipush 24, 2) := by decide +kernel
theorem dX9_init_23 : decode cX9_init 23 = .ok (.newarray .int, 2) := by decide +kernel
theorem dX9_init_25 : decode cX9_init 25 = .ok (.putfield 16, 3) := by decide +kernel
theorem dX9_init_28 : decode cX9_init 28 = .ok (.aload_n 0, 1) := by decide +kernel
theorem dX9_init_29 : decode cX9_init 29 = .ok (.bipush 24, 2) := by decide +kernel
theorem dX9_init_31 : decode cX9_init 31 = .ok (.newarray .int, 2) := by decide +kernel
theorem dX9_init_33 : decode cX9_init 33 = .ok (.putfield 19, 3) := by decide +kernel
theorem dX9_init_36 : decode cX9_init 36 = .ok (.aload_n 0, 1) := by decide +kernel
theorem dX9_init_37 : decode cX9_init 37 = .ok (.sipush 200, 3) := by decide +kernel
theorem dX9_init_40 : decode cX9_init 40 = .ok (.newarray .int, 2) := by decide +kernel
theorem dX9_init_42 : decode cX9_init 42 = .ok (.putfield 22, 3) := by decide +kernel
theorem dX9_init_45 : decode cX9_init 45 = .ok (.aload_n 0, 1) := by decide +kernel
theorem dX9_init_46 : decode cX9_init 46 = .ok (.sipush 200, 3) := by decide +kernel
theorem dX9_init_49 : decode cX9_init 49 = .ok (.newarray .int, 2) := by decide +kernel
theorem dX9_init_51 : decode cX9_init 51 = .ok (.putfield 25, 3) := by decide +kernel
theorem dX9_init_54 : decode cX9_init 54 = .ok (.aload_n 0, 1) := by decide +kernel
theorem dX9_init_55 : decode cX9_init 55 = .ok (.sipush 200, 3) := by decide +kernel
theorem dX9_init_58 : decode cX9_init 58 = .ok (.newarray .int, 2) := by decide +kernel
theorem dX9_init_60 : decode cX9_init 60 = .ok (.putfield 28, 3) := by decide +kernel
theorem dX9_init_63 : decode cX9_init 63 = .ok (.aload_n 0, 1) := by decide +kernel
theorem dX9_init_64 : decode cX9_init 64 = .ok (.sipush 200, 3) := by decide +kernel
theorem dX9_init_67 : decode cX9_init 67 = .ok (.newarray .int, 2) := by decide +kernel
theorem dX9_init_69 : decode cX9_init 69 = .ok (.putfield 31, 3) := by decide +kernel
theorem dX9_init_72 : decode cX9_init 72 = .ok (.aload_n 0, 1) := by decide +kernel
theorem dX9_init_73 : decode cX9_init 73 = .ok (.iconst 4, 1) := by decide +kernel
theorem dX9_init_74 : decode cX9_init 74 = .ok (.newarray .int, 2) := by decide +kernel
theorem dX9_init_76 : decode cX9_init 76 = .ok (.putfield 34, 3) := by decide +kernel
theorem dX9_init_79 : decode cX9_init 79 = .ok (.aload_n 0, 1) := by decide +kernel
theorem dX9_init_80 : decode cX9_init 80 = .ok (.bipush 12, 2) := by decide +kernel
theorem dX9_init_82 : decode cX9_init 82 = .ok (.newarray .int, 2) := by decide +kernel
theorem dX9_init_84 : decode cX9_init 84 = .ok (.putfield 37, 3) := by decide +kernel
theorem dX9_init_87 : decode cX9_init 87 = .ok (.aload_n 0, 1) := by decide +kernel
theorem dX9_init_88 : decode cX9_init 88 = .ok (.sipush 2400, 3) := by decide +kernel
theorem dX9_init_91 : decode cX9_init 91 = .ok (.newarray .int, 2) := by decide +kernel
theorem dX9_init_93 : decode cX9_init 93 = .ok (.putfield 40, 3) := by decide +kernel
theorem dX9_init_96 : decode cX9_init 96 = .ok (.aload_n 0, 1) := by decide +kernel
theorem dX9_init_97 : decode cX9_init 97 = .ok (.sipush 2400, 3) := by decide +kernel
theorem dX9_init_100 : decode cX9_init 100 = .ok (.newarray .int, 2) := by decide +kernel
theorem dX9_init_102 : decode cX9_init 102 = .ok (.putfield 43, 3) := by decide +kernel
theorem dX9_init_105 : decode cX9_init 105 = .ok (.aload_n 0, 1) := by decide +kernel
theorem dX9_init_106 : decode cX9_init 106 = .ok (.sipush 2400, 3) := by decide +kernel
theorem dX9_init_109 : decode cX9_init 109 = .ok (.newarray .int, 2) := by decide +kernel
theorem dX9_init_111 : decode cX9_init 111 = .ok (.putfield 46, 3) := by decide +kernel
theorem dX9_init_114 : decode cX9_init 114 = .ok (.aload_n 0, 1) := by decide +kernel
theorem dX9_init_115 : decode cX9_init 115 = .ok (.bipush 12, 2) := by decide +kernel
theorem dX9_init_117 : decode cX9_init 117 = .ok (.newarray .int, 2) := by decide +kernel
theorem dX9_init_119 : decode cX9_init 119 = .ok (.putfield 49, 3) := by decide +kernel
theorem dX9_init_122 : decode cX9_init 122 = .ok (.aload_n 0, 1) := by decide +kernel
theorem dX9_init_123 : decode cX9_init 123 = .ok (.bipush 12, 2) := by decide +kernel
theorem dX9_init_125 : decode cX9_init 125 = .ok (.newarray .boolean, 2) := by decide +kernel
theorem dX9_init_127 : decode cX9_init 127 = .ok (.putfield 52, 3) := by decide +kernel
theorem dX9_init_130 : decode cX9_init 130 = .ok (.aload_n 0, 1) := by decide +kernel
theorem dX9_init_131 : decode cX9_init 131 = .ok (.bipush 12, 2) := by decide +kernel
theorem dX9_init_133 : decode cX9_init 133 = .ok (.newarray .boolean, 2) := by decide +kernel
theorem dX9_init_135 : decode cX9_init 135 = .ok (.putfield 56, 3) := by decide +kernel
theorem dX9_init_138 : decode cX9_init 138 = .ok (.aload_n 0, 1) := by decide +kernel
theorem dX9_init_139 : decode cX9_init 139 = .ok (.iconst 4, 1) := by decide +kernel
theorem dX9_init_140 : decode cX9_init 140 = .ok (.newarray .int, 2) := by decide +kernel
theorem dX9_init_142 : decode cX9_init 142 = .ok (.putfield 59, 3) := by decide +kernel
theorem dX9_init_145 : decode cX9_init 145 = .ok (.aload_n 0, 1) := by decide +kernel
theorem dX9_init_146 : decode cX9_init 146 = .ok (.sipush 200, 3) := by decide +kernel
theorem dX9_init_149 : decode cX9_init 149 = .ok (.newarray .boolean, 2) := by decide +kernel
theorem dX9_init_151 : decode cX9_init 151 = .ok (.putfield 62, 3) := by decide +kernel
theorem dX9_init_154 : decode cX9_init 154 = .ok (.aload_n 0, 1) := by decide +kernel
theorem dX9_init_155 : decode cX9_init 155 = .ok (.bipush 12, 2) := by decide +kernel
theorem dX9_init_157 : decode cX9_init 157 = .ok (.newarray .int, 2) := by decide +kernel
theorem dX9_init_159 : decode cX9_init 159 = .ok (.putfield 65, 3) := by decide +kernel
theorem dX9_init_162 : decode cX9_init 162 = .ok (.return_, 1) := by decide +kernel
theorem dX9_in_0 : decode cX9_in 0 = .ok (.iload_n 0, 1) := by decide +kernel
theorem dX9_in_1 : decode cX9_in 1 = .ok (.iload_n 1, 1) := by decide +kernel
theorem dX9_in_2 : decode cX9_in 2 = .ok (.if_icmp .lt 12, 3) := by decide +kernel
theorem dX9_in_5 : decode cX9_in 5 = .ok (.iload_n 0, 1) := by decide +kernel
theorem dX9_in_6 : decode cX9_in 6 = .ok (.iload_n 2, 1) := by decide +kernel
theorem dX9_in_7 : decode cX9_in 7 = .ok (.if_icmp .gt 7, 3) := by decide +kernel
theorem dX9_in_10 : decode cX9_in 10 = .ok (.iconst 1, 1) := by decide +kernel
theorem dX9_in_11 : decode cX9_in 11 = .ok (.goto 4, 3) := by decide +kernel
theorem dX9_in_14 : decode cX9_in 14 = .ok (.iconst 0, 1) := by decide +kernel
theorem dX9_in_15 : decode cX9_in 15 = .ok (.ireturn, 1) := by decide +kernel
theorem dX9_isKind_0 : decode cX9_isKind 0 = .ok (.iload_n 0, 1) := by decide +kernel
theorem dX9_isKind_1 : decode cX9_isKind 1 = .ok (.iconst 0, 1) := by decide +kernel
theorem dX9_isKind_2 : decode cX9_isKind 2 = .ok (.iconst 5, 1) := by decide +kernel
theorem dX9_isKind_3 : decode cX9_isKind 3 = .ok (.invokestatic 68, 3) := by decide +kernel
theorem dX9_isKind_6 : decode cX9_isKind 6 = .ok (.ireturn, 1) := by decide +kernel
theorem dX9_isBranch_0 : decode cX9_isBranch 0 = .ok (.iload_n 0, 1) := by decide +kernel
theorem dX9_isBranch_1 : decode cX9_isBranch 1 = .ok (.ifCond .lt 32, 3) := by decide +kernel
theorem dX9_isBranch_4 : decode cX9_isBranch 4 = .ok (.iload_n 0, 1) := by decide +kernel
theorem dX9_isBranch_5 : decode cX9_isBranch 5 = .ok (.sipush 1000, 3) := by decide +kernel
theorem dX9_isBranch_8 : decode cX9_isBranch 8 = .ok (.idiv, 1) := by decide +kernel
theorem dX9_isBranch_9 : decode cX9_isBranch 9 = .ok (.iconst 4, 1) := by decide +kernel
theorem dX9_isBranch_10 : decode cX9_isBranch 10 = .ok (.if_icmp .ge 23, 3) := by decide +kernel
theorem dX9_isBranch_13 : decode cX9_isBranch 13 = .ok (.iload_n 0, 1) := by decide +kernel
theorem dX9_isBranch_14 : decode cX9_isBranch 14 = .ok (.bipush 100, 2) := by decide +kernel
theorem dX9_isBranch_16 : decode cX9_isBranch 16 = .ok (.idiv, 1) := by decide +kernel
theorem dX9_isBranch_17 : decode cX9_isBranch 17 = .ok (.bipush 10, 2) := by decide +kernel
theorem dX9_isBranch_19 : decode cX9_isBranch 19 = .ok (.irem, 1) := by decide +kernel
theorem dX9_isBranch_20 : decode cX9_isBranch 20 = .ok (.iconst 2, 1) := by decide +kernel
theorem dX9_isBranch_21 : decode cX9_isBranch 21 = .ok (.if_icmp .gt 12, 3) := by decide +kernel
theorem dX9_isBranch_24 : decode cX9_isBranch 24 = .ok (.iload_n 0, 1) := by decide +kernel
theorem dX9_isBranch_25 : decode cX9_isBranch 25 = .ok (.bipush 100, 2) := by decide +kernel
theorem dX9_isBranch_27 : decode cX9_isBranch 27 = .ok (.irem, 1) := by decide +kernel
theorem dX9_isBranch_28 : decode cX9_isBranch 28 = .ok (.bipush 16, 2) := by decide +kernel
theorem dX9_isBranch_30 : decode cX9_isBranch 30 = .ok (.if_icmp .lt 5, 3) := by decide +kernel
theorem dX9_isBranch_33 : decode cX9_isBranch 33 = .ok (.iconst 0, 1) := by decide +kernel
theorem dX9_isBranch_34 : decode cX9_isBranch 34 = .ok (.ireturn, 1) := by decide +kernel
theorem dX9_isBranch_35 : decode cX9_isBranch 35 = .ok (.iload_n 1, 1) := by decide +kernel
theorem dX9_isBranch_36 : decode cX9_isBranch 36 = .ok (.ifCond .lt 34, 3) := by decide +kernel
theorem dX9_isBranch_39 : decode cX9_isBranch 39 = .ok (.iload_n 1, 1) := by decide +kernel
theorem dX9_isBranch_40 : decode cX9_isBranch 40 = .ok (.sipush 10000, 3) := by decide +kernel
theorem dX9_isBranch_43 : decode cX9_isBranch 43 = .ok (.idiv, 1) := by decide +kernel
theorem dX9_isBranch_44 : decode cX9_isBranch 44 = .ok (.iconst 4, 1) := by decide +kernel
theorem dX9_isBranch_45 : decode cX9_isBranch 45 = .ok (.if_icmp .ge 25, 3) := by decide +kernel
theorem dX9_isBranch_48 : decode cX9_isBranch 48 = .ok (.iload_n 1, 1) := by decide +kernel
theorem dX9_isBranch_49 : decode cX9_isBranch 49 = .ok (.bipush 100, 2) := by decide +kernel
theorem dX9_isBranch_51 : decode cX9_isBranch 51 = .ok (.irem, 1) := by decide +kernel
theorem dX9_isBranch_52 : decode cX9_isBranch 52 = .ok (.bipush 16, 2) := by decide +kernel
theorem dX9_isBranch_54 : decode cX9_isBranch 54 = .ok (.if_icmp .ge 16, 3) := by decide +kernel
theorem dX9_isBranch_57 : decode cX9_isBranch 57 = .ok (.iload_n 2, 1) := by decide +kernel
theorem dX9_isBranch_58 : decode cX9_isBranch 58 = .ok (.iconst 0, 1) := by decide +kernel
theorem dX9_isBranch_59 : decode cX9_isBranch 59 = .ok (.iconst 3, 1) := by decide +kernel
theorem dX9_isBranch_60 : decode cX9_isBranch 60 = .ok (.invokestatic 68, 3) := by decide +kernel
theorem dX9_isBranch_63 : decode cX9_isBranch 63 = .ok (.ifCond .eq 7, 3) := by decide +kernel
theorem dX9_isBranch_66 : decode cX9_isBranch 66 = .ok (.iconst 1, 1) := by decide +kernel
theorem dX9_isBranch_67 : decode cX9_isBranch 67 = .ok (.goto 4, 3) := by decide +kernel
theorem dX9_isBranch_70 : decode cX9_isBranch 70 = .ok (.iconst 0, 1) := by decide +kernel
theorem dX9_isBranch_71 : decode cX9_isBranch 71 = .ok (.ireturn, 1) := by decide +kernel
theorem dX9_tells_0 : decode cX9_tells 0 = .ok (.aload_n 0, 1) := by decide +kernel
theorem dX9_tells_1 : decode cX9_tells 1 = .ok (.getfield 13, 3) := by decide +kernel
theorem dX9_tells_4 : decode cX9_tells 4 = .ok (.iload_n 1, 1) := by decide +kernel
theorem dX9_tells_5 : decode cX9_tells 5 = .ok (.iload_n 2, 1) := by decide +kernel
theorem dX9_tells_6 : decode cX9_tells 6 = .ok (.iastore, 1) := by decide +kernel
theorem dX9_tells_7 : decode cX9_tells 7 = .ok (.aload_n 0, 1) := by decide +kernel
theorem dX9_tells_8 : decode cX9_tells 8 = .ok (.getfield 16, 3) := by decide +kernel
theorem dX9_tells_11 : decode cX9_tells 11 = .ok (.iload_n 1, 1) := by decide +kernel
theorem dX9_tells_12 : decode cX9_tells 12 = .ok (.iload_n 3, 1) := by decide +kernel
theorem dX9_tells_13 : decode cX9_tells 13 = .ok (.iastore, 1) := by decide +kernel
theorem dX9_tells_14 : decode cX9_tells 14 = .ok (.aload_n 0, 1) := by decide +kernel
theorem dX9_tells_15 : decode cX9_tells 15 = .ok (.getfield 19, 3) := by decide +kernel
theorem dX9_tells_18 : decode cX9_tells 18 = .ok (.iload_n 1, 1) := by decide +kernel
theorem dX9_tells_19 : decode cX9_tells 19 = .ok (.iload 4, 2) := by decide +kernel
theorem dX9_tells_21 : decode cX9_tells 21 = .ok (.iastore, 1) := by decide +kernel
theorem dX9_tells_22 : decode cX9_tells 22 = .ok (.return_, 1) := by decide +kernel
theorem dX9_branch_0 : decode cX9_branch 0 = .ok (.iload_n 1, 1) := by decide +kernel
theorem dX9_branch_1 : decode cX9_branch 1 = .ok (.invokestatic 72, 3) := by decide +kernel
theorem dX9_branch_4 : decode cX9_branch 4 = .ok (.ifCond .eq 23, 3) := by decide +kernel
theorem dX9_branch_7 : decode cX9_branch 7 = .ok (.iload_n 2, 1) := by decide +kernel
theorem dX9_branch_8 : decode cX9_branch 8 = .ok (.iload_n 3, 1) := by decide +kernel
theorem dX9_branch_9 : decode cX9_branch 9 = .ok (.iload 4, 2) := by decide +kernel
theorem dX9_branch_11 : decode cX9_branch 11 = .ok (.invokestatic 76, 3) := by decide +kernel
theorem dX9_branch_14 : decode cX9_branch 14 = .ok (.ifCond .eq 13, 3) := by decide +kernel
theorem dX9_branch_17 : decode cX9_branch 17 = .ok (.aload_n 0, 1) := by decide +kernel
theorem dX9_branch_18 : decode cX9_branch 18 = .ok (.getfield 9, 3) := by decide +kernel
theorem dX9_branch_21 : decode cX9_branch 21 = .ok (.iload_n 1, 1) := by decide +kernel
theorem dX9_branch_22 : decode cX9_branch 22 = .ok (.iaload, 1) := by decide +kernel
theorem dX9_branch_23 : decode cX9_branch 23 = .ok (.iconst 4, 1) := by decide +kernel
theorem dX9_branch_24 : decode cX9_branch 24 = .ok (.if_icmp .ne 5, 3) := by decide +kernel
theorem dX9_branch_27 : decode cX9_branch 27 = .ok (.iconst (-1), 1) := by decide +kernel
theorem dX9_branch_28 : decode cX9_branch 28 = .ok (.ireturn, 1) := by decide +kernel
theorem dX9_branch_29 : decode cX9_branch 29 = .ok (.aload_n 0, 1) := by decide +kernel
theorem dX9_branch_30 : decode cX9_branch 30 = .ok (.iconst 4, 1) := by decide +kernel
theorem dX9_branch_31 : decode cX9_branch 31 = .ok (.iload_n 1, 1) := by decide +kernel
theorem dX9_branch_32 : decode cX9_branch 32 = .ok (.imul, 1) := by decide +kernel
theorem dX9_branch_33 : decode cX9_branch 33 = .ok (.aload_n 0, 1) := by decide +kernel
theorem dX9_branch_34 : decode cX9_branch 34 = .ok (.getfield 9, 3) := by decide +kernel
theorem dX9_branch_37 : decode cX9_branch 37 = .ok (.iload_n 1, 1) := by decide +kernel
theorem dX9_branch_38 : decode cX9_branch 38 = .ok (.iaload, 1) := by decide +kernel
theorem dX9_branch_39 : decode cX9_branch 39 = .ok (.iadd, 1) := by decide +kernel
theorem dX9_branch_40 : decode cX9_branch 40 = .ok (.iload_n 2, 1) := by decide +kernel
theorem dX9_branch_41 : decode cX9_branch 41 = .ok (.iload_n 3, 1) := by decide +kernel
theorem dX9_branch_42 : decode cX9_branch 42 = .ok (.iload 4, 2) := by decide +kernel
theorem dX9_branch_44 : decode cX9_branch 44 = .ok (.invokevirtual 79, 3) := by decide +kernel
theorem dX9_branch_47 : decode cX9_branch 47 = .ok (.iconst 0, 1) := by decide +kernel
theorem dX9_branch_48 : decode cX9_branch 48 = .ok (.istore 5, 2) := by decide +kernel
theorem dX9_branch_50 : decode cX9_branch 50 = .ok (.iload 5, 2) := by decide +kernel
theorem dX9_branch_52 : decode cX9_branch 52 = .ok (.aload_n 0, 1) := by decide +kernel
theorem dX9_branch_53 : decode cX9_branch 53 = .ok (.getfield 83, 3) := by decide +kernel
theorem dX9_branch_56 : decode cX9_branch 56 = .ok (.if_icmp .ge 111, 3) := by decide +kernel
theorem dX9_branch_59 : decode cX9_branch 59 = .ok (.aload_n 0, 1) := by decide +kernel
theorem dX9_branch_60 : decode cX9_branch 60 = .ok (.getfield 49, 3) := by decide +kernel
theorem dX9_branch_63 : decode cX9_branch 63 = .ok (.iload 5, 2) := by decide +kernel
theorem dX9_branch_65 : decode cX9_branch 65 = .ok (.iaload, 1) := by decide +kernel
theorem dX9_branch_66 : decode cX9_branch 66 = .ok (.iconst 4, 1) := by decide +kernel
theorem dX9_branch_67 : decode cX9_branch 67 = .ok (.iload_n 1, 1) := by decide +kernel
theorem dX9_branch_68 : decode cX9_branch 68 = .ok (.imul, 1) := by decide +kernel
theorem dX9_branch_69 : decode cX9_branch 69 = .ok (.ishr, 1) := by decide +kernel
theorem dX9_branch_70 : decode cX9_branch 70 = .ok (.bipush 15, 2) := by decide +kernel
theorem dX9_branch_72 : decode cX9_branch 72 = .ok (.iand, 1) := by decide +kernel
theorem dX9_branch_73 : decode cX9_branch 73 = .ok (.ifCond .eq 7, 3) := by decide +kernel
theorem dX9_branch_76 : decode cX9_branch 76 = .ok (.iconst 1, 1) := by decide +kernel
theorem dX9_branch_77 : decode cX9_branch 77 = .ok (.goto 4, 3) := by decide +kernel
theorem dX9_branch_80 : decode cX9_branch 80 = .ok (.iconst 0, 1) := by decide +kernel
theorem dX9_branch_81 : decode cX9_branch 81 = .ok (.istore 6, 2) := by decide +kernel
theorem dX9_branch_83 : decode cX9_branch 83 = .ok (.iconst 0, 1) := by decide +kernel
theorem dX9_branch_84 : decode cX9_branch 84 = .ok (.istore 7, 2) := by decide +kernel
theorem dX9_branch_86 : decode cX9_branch 86 = .ok (.iload 7, 2) := by decide +kernel
theorem dX9_branch_88 : decode cX9_branch 88 = .ok (.aload_n 0, 1) := by decide +kernel
theorem dX9_branch_89 : decode cX9_branch 89 = .ok (.getfield 37, 3) := by decide +kernel
theorem dX9_branch_92 : decode cX9_branch 92 = .ok (.iload 5, 2) := by decide +kernel
theorem dX9_branch_94 : decode cX9_branch 94 = .ok (.iaload, 1) := by decide +kernel
theorem dX9_branch_95 : decode cX9_branch 95 = .ok (.if_icmp .ge 39, 3) := by decide +kernel
theorem dX9_branch_98 : decode cX9_branch 98 = .ok (.iload 6, 2) := by decide +kernel
theorem dX9_branch_100 : decode cX9_branch 100 = .ok (.ifCond .ne 21, 3) := by decide +kernel
theorem dX9_branch_103 : decode cX9_branch 103 = .ok (.aload_n 0, 1) := by decide +kernel
theorem dX9_branch_104 : decode cX9_branch 104 = .ok (.getfield 40, 3) := by decide +kernel
theorem dX9_branch_107 : decode cX9_branch 107 = .ok (.sipush 200, 3) := by decide +kernel
theorem dX9_branch_110 : decode cX9_branch 110 = .ok (.iload 5, 2) := by decide +kernel
theorem dX9_branch_112 : decode cX9_branch 112 = .ok (.imul, 1) := by decide +kernel
theorem dX9_branch_113 : decode cX9_branch 113 = .ok (.iload 7, 2) := by decide +kernel
theorem dX9_branch_115 : decode cX9_branch 115 = .ok (.iadd, 1) := by decide +kernel
theorem dX9_branch_116 : decode cX9_branch 116 = .ok (.iaload, 1) := by decide +kernel
theorem dX9_branch_117 : decode cX9_branch 117 = .ok (.iload_n 1, 1) := by decide +kernel
theorem dX9_branch_118 : decode cX9_branch 118 = .ok (.if_icmp .ne 7, 3) := by decide +kernel
theorem dX9_branch_121 : decode cX9_branch 121 = .ok (.iconst 1, 1) := by decide +kernel
theorem dX9_branch_122 : decode cX9_branch 122 = .ok (.goto 4, 3) := by decide +kernel
theorem dX9_branch_125 : decode cX9_branch 125 = .ok (.iconst 0, 1) := by decide +kernel
theorem dX9_branch_126 : decode cX9_branch 126 = .ok (.istore 6, 2) := by decide +kernel
theorem dX9_branch_128 : decode cX9_branch 128 = .ok (.iinc 7 1, 3) := by decide +kernel
theorem dX9_branch_131 : decode cX9_branch 131 = .ok (.goto (-45), 3) := by decide +kernel
theorem dX9_branch_134 : decode cX9_branch 134 = .ok (.aload_n 0, 1) := by decide +kernel
theorem dX9_branch_135 : decode cX9_branch 135 = .ok (.getfield 52, 3) := by decide +kernel
theorem dX9_branch_138 : decode cX9_branch 138 = .ok (.iload 5, 2) := by decide +kernel
theorem dX9_branch_140 : decode cX9_branch 140 = .ok (.aload_n 0, 1) := by decide +kernel
theorem dX9_branch_141 : decode cX9_branch 141 = .ok (.getfield 52, 3) := by decide +kernel
theorem dX9_branch_144 : decode cX9_branch 144 = .ok (.iload 5, 2) := by decide +kernel
theorem dX9_branch_146 : decode cX9_branch 146 = .ok (.baload, 1) := by decide +kernel
theorem dX9_branch_147 : decode cX9_branch 147 = .ok (.ifCond .ne 8, 3) := by decide +kernel
theorem dX9_branch_150 : decode cX9_branch 150 = .ok (.iload 6, 2) := by decide +kernel
theorem dX9_branch_152 : decode cX9_branch 152 = .ok (.ifCond .eq 7, 3) := by decide +kernel
theorem dX9_branch_155 : decode cX9_branch 155 = .ok (.iconst 1, 1) := by decide +kernel
theorem dX9_branch_156 : decode cX9_branch 156 = .ok (.goto 4, 3) := by decide +kernel
theorem dX9_branch_159 : decode cX9_branch 159 = .ok (.iconst 0, 1) := by decide +kernel
theorem dX9_branch_160 : decode cX9_branch 160 = .ok (.bastore, 1) := by decide +kernel
theorem dX9_branch_161 : decode cX9_branch 161 = .ok (.iinc 5 1, 3) := by decide +kernel
theorem dX9_branch_164 : decode cX9_branch 164 = .ok (.goto (-114), 3) := by decide +kernel
theorem dX9_branch_167 : decode cX9_branch 167 = .ok (.aload_n 0, 1) := by decide +kernel
theorem dX9_branch_168 : decode cX9_branch 168 = .ok (.getfield 9, 3) := by decide +kernel
theorem dX9_branch_171 : decode cX9_branch 171 = .ok (.iload_n 1, 1) := by decide +kernel
theorem dX9_branch_172 : decode cX9_branch 172 = .ok (.dup2, 1) := by decide +kernel
theorem dX9_branch_173 : decode cX9_branch 173 = .ok (.iaload, 1) := by decide +kernel
theorem dX9_branch_174 : decode cX9_branch 174 = .ok (.iconst 1, 1) := by decide +kernel
theorem dX9_branch_175 : decode cX9_branch 175 = .ok (.iadd, 1) := by decide +kernel
theorem dX9_branch_176 : decode cX9_branch 176 = .ok (.iastore, 1) := by decide +kernel
theorem dX9_branch_177 : decode cX9_branch 177 = .ok (.aload_n 0, 1) := by decide +kernel
theorem dX9_branch_178 : decode cX9_branch 178 = .ok (.getfield 9, 3) := by decide +kernel
theorem dX9_branch_181 : decode cX9_branch 181 = .ok (.iload_n 1, 1) := by decide +kernel
theorem dX9_branch_182 : decode cX9_branch 182 = .ok (.iaload, 1) := by decide +kernel
theorem dX9_branch_183 : decode cX9_branch 183 = .ok (.ireturn, 1) := by decide +kernel
theorem dX9_isThere_0 : decode cX9_isThere 0 = .ok (.iload_n 1, 1) := by decide +kernel
theorem dX9_isThere_1 : decode cX9_isThere 1 = .ok (.iconst 0, 1) := by decide +kernel
theorem dX9_isThere_2 : decode cX9_isThere 2 = .ok (.bipush 23, 2) := by decide +kernel
theorem dX9_isThere_4 : decode cX9_isThere 4 = .ok (.invokestatic 68, 3) := by decide +kernel
theorem dX9_isThere_7 : decode cX9_isThere 7 = .ok (.ifCond .eq 21, 3) := by decide +kernel
theorem dX9_isThere_10 : decode cX9_isThere 10 = .ok (.iload_n 1, 1) := by decide +kernel
theorem dX9_isThere_11 : decode cX9_isThere 11 = .ok (.iconst 4, 1) := by decide +kernel
theorem dX9_isThere_12 : decode cX9_isThere 12 = .ok (.irem, 1) := by decide +kernel
theorem dX9_isThere_13 : decode cX9_isThere 13 = .ok (.aload_n 0, 1) := by decide +kernel
theorem dX9_isThere_14 : decode cX9_isThere 14 = .ok (.getfield 9, 3) := by decide +kernel
theorem dX9_isThere_17 : decode cX9_isThere 17 = .ok (.iload_n 1, 1) := by decide +kernel
theorem dX9_isThere_18 : decode cX9_isThere 18 = .ok (.iconst 4, 1) := by decide +kernel
theorem dX9_isThere_19 : decode cX9_isThere 19 = .ok (.idiv, 1) := by decide +kernel
theorem dX9_isThere_20 : decode cX9_isThere 20 = .ok (.iaload, 1) := by decide +kernel
theorem dX9_isThere_21 : decode cX9_isThere 21 = .ok (.if_icmp .ge 7, 3) := by decide +kernel
theorem dX9_isThere_24 : decode cX9_isThere 24 = .ok (.iconst 1, 1) := by decide +kernel
theorem dX9_isThere_25 : decode cX9_isThere 25 = .ok (.goto 4, 3) := by decide +kernel
theorem dX9_isThere_28 : decode cX9_isThere 28 = .ok (.iconst 0, 1) := by decide +kernel
theorem dX9_isThere_29 : decode cX9_isThere 29 = .ok (.ireturn, 1) := by decide +kernel
theorem dX9_change_0 : decode cX9_change 0 = .ok (.aload_n 0, 1) := by decide +kernel
theorem dX9_change_1 : decode cX9_change 1 = .ok (.iload_n 1, 1) := by decide +kernel
theorem dX9_change_2 : decode cX9_change 2 = .ok (.invokevirtual 87, 3) := by decide +kernel
theorem dX9_change_5 : decode cX9_change 5 = .ok (.ifCond .eq 13, 3) := by decide +kernel
theorem dX9_change_8 : decode cX9_change 8 = .ok (.iload_n 2, 1) := by decide +kernel
theorem dX9_change_9 : decode cX9_change 9 = .ok (.iload_n 3, 1) := by decide +kernel
theorem dX9_change_10 : decode cX9_change 10 = .ok (.iload 4, 2) := by decide +kernel
theorem dX9_change_12 : decode cX9_change 12 = .ok (.invokestatic 76, 3) := by decide +kernel
theorem dX9_change_15 : decode cX9_change 15 = .ok (.ifCond .ne 5, 3) := by decide +kernel
theorem dX9_change_18 : decode cX9_change 18 = .ok (.iconst 0, 1) := by decide +kernel
theorem dX9_change_19 : decode cX9_change 19 = .ok (.ireturn, 1) := by decide +kernel
theorem dX9_change_20 : decode cX9_change 20 = .ok (.aload_n 0, 1) := by decide +kernel
theorem dX9_change_21 : decode cX9_change 21 = .ok (.iload_n 1, 1) := by decide +kernel
theorem dX9_change_22 : decode cX9_change 22 = .ok (.iload_n 2, 1) := by decide +kernel
theorem dX9_change_23 : decode cX9_change 23 = .ok (.iload_n 3, 1) := by decide +kernel
theorem dX9_change_24 : decode cX9_change 24 = .ok (.iload 4, 2) := by decide +kernel
theorem dX9_change_26 : decode cX9_change 26 = .ok (.invokevirtual 79, 3) := by decide +kernel
theorem dX9_change_29 : decode cX9_change 29 = .ok (.iconst 0, 1) := by decide +kernel
theorem dX9_change_30 : decode cX9_change 30 = .ok (.istore 5, 2) := by decide +kernel
theorem dX9_change_32 : decode cX9_change 32 = .ok (.iload 5, 2) := by decide +kernel
theorem dX9_change_34 : decode cX9_change 34 = .ok (.aload_n 0, 1) := by decide +kernel
theorem dX9_change_35 : decode cX9_change 35 = .ok (.getfield 83, 3) := by decide +kernel
theorem dX9_change_38 : decode cX9_change 38 = .ok (.if_icmp .ge 46, 3) := by decide +kernel
theorem dX9_change_41 : decode cX9_change 41 = .ok (.aload_n 0, 1) := by decide +kernel
theorem dX9_change_42 : decode cX9_change 42 = .ok (.getfield 52, 3) := by decide +kernel
theorem dX9_change_45 : decode cX9_change 45 = .ok (.iload 5, 2) := by decide +kernel
theorem dX9_change_47 : decode cX9_change 47 = .ok (.aload_n 0, 1) := by decide +kernel
theorem dX9_change_48 : decode cX9_change 48 = .ok (.getfield 52, 3) := by decide +kernel
theorem dX9_change_51 : decode cX9_change 51 = .ok (.iload 5, 2) := by decide +kernel
theorem dX9_change_53 : decode cX9_change 53 = .ok (.baload, 1) := by decide +kernel
theorem dX9_change_54 : decode cX9_change 54 = .ok (.ifCond .ne 18, 3) := by decide +kernel
theorem dX9_change_57 : decode cX9_change 57 = .ok (.aload_n 0, 1) := by decide +kernel
theorem dX9_change_58 : decode cX9_change 58 = .ok (.getfield 49, 3) := by decide +kernel
theorem dX9_change_61 : decode cX9_change 61 = .ok (.iload 5, 2) := by decide +kernel
theorem dX9_change_63 : decode cX9_change 63 = .ok (.iaload, 1) := by decide +kernel
theorem dX9_change_64 : decode cX9_change 64 = .ok (.iload_n 1, 1) := by decide +kernel
theorem dX9_change_65 : decode cX9_change 65 = .ok (.ishr, 1) := by decide +kernel
theorem dX9_change_66 : decode cX9_change 66 = .ok (.iconst 1, 1) := by decide +kernel
theorem dX9_change_67 : decode cX9_change 67 = .ok (.iand, 1) := by decide +kernel
theorem dX9_change_68 : decode cX9_change 68 = .ok (.iconst 1, 1) := by decide +kernel
theorem dX9_change_69 : decode cX9_change 69 = .ok (.if_icmp .ne 7, 3) := by decide +kernel
theorem dX9_change_72 : decode cX9_change 72 = .ok (.iconst 1, 1) := by decide +kernel
theorem dX9_change_73 : decode cX9_change 73 = .ok (.goto 4, 3) := by decide +kernel
theorem dX9_change_76 : decode cX9_change 76 = .ok (.iconst 0, 1) := by decide +kernel
theorem dX9_change_77 : decode cX9_change 77 = .ok (.bastore, 1) := by decide +kernel
theorem dX9_change_78 : decode cX9_change 78 = .ok (.iinc 5 1, 3) := by decide +kernel
theorem dX9_change_81 : decode cX9_change 81 = .ok (.goto (-49), 3) := by decide +kernel
theorem dX9_change_84 : decode cX9_change 84 = .ok (.iconst 1, 1) := by decide +kernel
theorem dX9_change_85 : decode cX9_change 85 = .ok (.ireturn, 1) := by decide +kernel
theorem dX9_begins_0 : decode cX9_begins 0 = .ok (.iconst 0, 1) := by decide +kernel
theorem dX9_begins_1 : decode cX9_begins 1 = .ok (.istore_n 1, 1) := by decide +kernel
theorem dX9_begins_2 : decode cX9_begins 2 = .ok (.iload_n 1, 1) := by decide +kernel
theorem dX9_begins_3 : decode cX9_begins 3 = .ok (.iconst 4, 1) := by decide +kernel
theorem dX9_begins_4 : decode cX9_begins 4 = .ok (.if_icmp .ge 16, 3) := by decide +kernel
theorem dX9_begins_7 : decode cX9_begins 7 = .ok (.aload_n 0, 1) := by decide +kernel
theorem dX9_begins_8 : decode cX9_begins 8 = .ok (.getfield 59, 3) := by decide +kernel
theorem dX9_begins_11 : decode cX9_begins 11 = .ok (.iload_n 1, 1) := by decide +kernel
theorem dX9_begins_12 : decode cX9_begins 12 = .ok (.iconst 0, 1) := by decide +kernel
theorem dX9_begins_13 : decode cX9_begins 13 = .ok (.iastore, 1) := by decide +kernel
theorem dX9_begins_14 : decode cX9_begins 14 = .ok (.iinc 1 1, 3) := by decide +kernel
theorem dX9_begins_17 : decode cX9_begins 17 = .ok (.goto (-15), 3) := by decide +kernel
theorem dX9_begins_20 : decode cX9_begins 20 = .ok (.return_, 1) := by decide +kernel
theorem dX9_holds_0 : decode cX9_holds 0 = .ok (.aload_n 0, 1) := by decide +kernel
theorem dX9_holds_1 : decode cX9_holds 1 = .ok (.getfield 59, 3) := by decide +kernel
theorem dX9_holds_4 : decode cX9_holds 4 = .ok (.aload_n 0, 1) := by decide +kernel
theorem dX9_holds_5 : decode cX9_holds 5 = .ok (.getfield 13, 3) := by decide +kernel
theorem dX9_holds_8 : decode cX9_holds 8 = .ok (.iload_n 1, 1) := by decide +kernel
theorem dX9_holds_9 : decode cX9_holds 9 = .ok (.iaload, 1) := by decide +kernel
theorem dX9_holds_10 : decode cX9_holds 10 = .ok (.sipush 1000, 3) := by decide +kernel
theorem dX9_holds_13 : decode cX9_holds 13 = .ok (.idiv, 1) := by decide +kernel
theorem dX9_holds_14 : decode cX9_holds 14 = .ok (.iaload, 1) := by decide +kernel
theorem dX9_holds_15 : decode cX9_holds 15 = .ok (.istore_n 2, 1) := by decide +kernel
theorem dX9_holds_16 : decode cX9_holds 16 = .ok (.aload_n 0, 1) := by decide +kernel
theorem dX9_holds_17 : decode cX9_holds 17 = .ok (.getfield 13, 3) := by decide +kernel
theorem dX9_holds_20 : decode cX9_holds 20 = .ok (.iload_n 1, 1) := by decide +kernel
theorem dX9_holds_21 : decode cX9_holds 21 = .ok (.iaload, 1) := by decide +kernel
theorem dX9_holds_22 : decode cX9_holds 22 = .ok (.bipush 100, 2) := by decide +kernel
theorem dX9_holds_24 : decode cX9_holds 24 = .ok (.irem, 1) := by decide +kernel
theorem dX9_holds_25 : decode cX9_holds 25 = .ok (.istore_n 3, 1) := by decide +kernel
theorem dX9_holds_26 : decode cX9_holds 26 = .ok (.aload_n 0, 1) := by decide +kernel
theorem dX9_holds_27 : decode cX9_holds 27 = .ok (.getfield 13, 3) := by decide +kernel
theorem dX9_holds_30 : decode cX9_holds 30 = .ok (.iload_n 1, 1) := by decide +kernel
theorem dX9_holds_31 : decode cX9_holds 31 = .ok (.iaload, 1) := by decide +kernel
theorem dX9_holds_32 : decode cX9_holds 32 = .ok (.bipush 100, 2) := by decide +kernel
theorem dX9_holds_34 : decode cX9_holds 34 = .ok (.idiv, 1) := by decide +kernel
theorem dX9_holds_35 : decode cX9_holds 35 = .ok (.bipush 10, 2) := by decide +kernel
theorem dX9_holds_37 : decode cX9_holds 37 = .ok (.irem, 1) := by decide +kernel
theorem dX9_holds_38 : decode cX9_holds 38 = .ok (.istore 4, 2) := by decide +kernel
theorem dX9_holds_40 : decode cX9_holds 40 = .ok (.iload 4, 2) := by decide +kernel
theorem dX9_holds_42 : decode cX9_holds 42 = .ok (.ifCond .ne 16, 3) := by decide +kernel
theorem dX9_holds_45 : decode cX9_holds 45 = .ok (.iload_n 2, 1) := by decide +kernel
theorem dX9_holds_46 : decode cX9_holds 46 = .ok (.iload_n 3, 1) := by decide +kernel
theorem dX9_holds_47 : decode cX9_holds 47 = .ok (.if_icmp .ge 7, 3) := by decide +kernel
theorem dX9_holds_50 : decode cX9_holds 50 = .ok (.iconst 1, 1) := by decide +kernel
theorem dX9_holds_51 : decode cX9_holds 51 = .ok (.goto 36, 3) := by decide +kernel
theorem dX9_holds_54 : decode cX9_holds 54 = .ok (.iconst 0, 1) := by decide +kernel
theorem dX9_holds_55 : decode cX9_holds 55 = .ok (.goto 32, 3) := by decide +kernel
theorem dX9_holds_58 : decode cX9_holds 58 = .ok (.iload 4, 2) := by decide +kernel
theorem dX9_holds_60 : decode cX9_holds 60 = .ok (.iconst 1, 1) := by decide +kernel
theorem dX9_holds_61 : decode cX9_holds 61 = .ok (.if_icmp .ne 16, 3) := by decide +kernel
theorem dX9_holds_64 : decode cX9_holds 64 = .ok (.iload_n 2, 1) := by decide +kernel
theorem dX9_holds_65 : decode cX9_holds 65 = .ok (.iload_n 3, 1) := by decide +kernel
theorem dX9_holds_66 : decode cX9_holds 66 = .ok (.if_icmp .ne 7, 3) := by decide +kernel
theorem dX9_holds_69 : decode cX9_holds 69 = .ok (.iconst 1, 1) := by decide +kernel
theorem dX9_holds_70 : decode cX9_holds 70 = .ok (.goto 17, 3) := by decide +kernel
theorem dX9_holds_73 : decode cX9_holds 73 = .ok (.iconst 0, 1) := by decide +kernel
theorem dX9_holds_74 : decode cX9_holds 74 = .ok (.goto 13, 3) := by decide +kernel
theorem dX9_holds_77 : decode cX9_holds 77 = .ok (.iload_n 2, 1) := by decide +kernel
theorem dX9_holds_78 : decode cX9_holds 78 = .ok (.iload_n 3, 1) := by decide +kernel
theorem dX9_holds_79 : decode cX9_holds 79 = .ok (.if_icmp .le 7, 3) := by decide +kernel
theorem dX9_holds_82 : decode cX9_holds 82 = .ok (.iconst 1, 1) := by decide +kernel
theorem dX9_holds_83 : decode cX9_holds 83 = .ok (.goto 4, 3) := by decide +kernel
theorem dX9_holds_86 : decode cX9_holds 86 = .ok (.iconst 0, 1) := by decide +kernel
theorem dX9_holds_87 : decode cX9_holds 87 = .ok (.ireturn, 1) := by decide +kernel
theorem dX9_goes_0 : decode cX9_goes 0 = .ok (.aload_n 0, 1) := by decide +kernel
theorem dX9_goes_1 : decode cX9_goes 1 = .ok (.iconst (-1), 1) := by decide +kernel
theorem dX9_goes_2 : decode cX9_goes 2 = .ok (.putfield 90, 3) := by decide +kernel
theorem dX9_goes_5 : decode cX9_goes 5 = .ok (.iconst 0, 1) := by decide +kernel
theorem dX9_goes_6 : decode cX9_goes 6 = .ok (.istore_n 3, 1) := by decide +kernel
theorem dX9_goes_7 : decode cX9_goes 7 = .ok (.iload_n 3, 1) := by decide +kernel
theorem dX9_goes_8 : decode cX9_goes 8 = .ok (.aload_n 0, 1) := by decide +kernel
theorem dX9_goes_9 : decode cX9_goes 9 = .ok (.getfield 9, 3) := by decide +kernel
theorem dX9_goes_12 : decode cX9_goes 12 = .ok (.iload_n 1, 1) := by decide +kernel
theorem dX9_goes_13 : decode cX9_goes 13 = .ok (.iaload, 1) := by decide +kernel
theorem dX9_goes_14 : decode cX9_goes 14 = .ok (.if_icmp .ge 38, 3) := by decide +kernel
theorem dX9_goes_17 : decode cX9_goes 17 = .ok (.aload_n 0, 1) := by decide +kernel
theorem dX9_goes_18 : decode cX9_goes 18 = .ok (.getfield 90, 3) := by decide +kernel
theorem dX9_goes_21 : decode cX9_goes 21 = .ok (.iconst (-1), 1) := by decide +kernel
theorem dX9_goes_22 : decode cX9_goes 22 = .ok (.if_icmp .ne 30, 3) := by decide +kernel
theorem dX9_goes_25 : decode cX9_goes 25 = .ok (.aload_n 0, 1) := by decide +kernel
theorem dX9_goes_26 : decode cX9_goes 26 = .ok (.iconst 4, 1) := by decide +kernel
theorem dX9_goes_27 : decode cX9_goes 27 = .ok (.iload_n 1, 1) := by decide +kernel
theorem dX9_goes_28 : decode cX9_goes 28 = .ok (.imul, 1) := by decide +kernel
theorem dX9_goes_29 : decode cX9_goes 29 = .ok (.iload_n 3, 1) := by decide +kernel
theorem dX9_goes_30 : decode cX9_goes 30 = .ok (.iadd, 1) := by decide +kernel
theorem dX9_goes_31 : decode cX9_goes 31 = .ok (.invokevirtual 93, 3) := by decide +kernel
theorem dX9_goes_34 : decode cX9_goes 34 = .ok (.ifCond .eq 12, 3) := by decide +kernel
theorem dX9_goes_37 : decode cX9_goes 37 = .ok (.aload_n 0, 1) := by decide +kernel
theorem dX9_goes_38 : decode cX9_goes 38 = .ok (.iconst 4, 1) := by decide +kernel
theorem dX9_goes_39 : decode cX9_goes 39 = .ok (.iload_n 1, 1) := by decide +kernel
theorem dX9_goes_40 : decode cX9_goes 40 = .ok (.imul, 1) := by decide +kernel
theorem dX9_goes_41 : decode cX9_goes 41 = .ok (.iload_n 3, 1) := by decide +kernel
theorem dX9_goes_42 : decode cX9_goes 42 = .ok (.iadd, 1) := by decide +kernel
theorem dX9_goes_43 : decode cX9_goes 43 = .ok (.putfield 90, 3) := by decide +kernel
theorem dX9_goes_46 : decode cX9_goes 46 = .ok (.iinc 3 1, 3) := by decide +kernel
theorem dX9_goes_49 : decode cX9_goes 49 = .ok (.goto (-42), 3) := by decide +kernel
theorem dX9_goes_52 : decode cX9_goes 52 = .ok (.aload_n 0, 1) := by decide +kernel
theorem dX9_goes_53 : decode cX9_goes 53 = .ok (.getfield 90, 3) := by decide +kernel
theorem dX9_goes_56 : decode cX9_goes 56 = .ok (.iconst (-1), 1) := by decide +kernel
theorem dX9_goes_57 : decode cX9_goes 57 = .ok (.if_icmp .ne 5, 3) := by decide +kernel
theorem dX9_goes_60 : decode cX9_goes 60 = .ok (.iconst (-1), 1) := by decide +kernel
theorem dX9_goes_61 : decode cX9_goes 61 = .ok (.ireturn, 1) := by decide +kernel
theorem dX9_goes_62 : decode cX9_goes 62 = .ok (.aload_n 0, 1) := by decide +kernel
theorem dX9_goes_63 : decode cX9_goes 63 = .ok (.getfield 16, 3) := by decide +kernel
theorem dX9_goes_66 : decode cX9_goes 66 = .ok (.aload_n 0, 1) := by decide +kernel
theorem dX9_goes_67 : decode cX9_goes 67 = .ok (.getfield 90, 3) := by decide +kernel
theorem dX9_goes_70 : decode cX9_goes 70 = .ok (.iaload, 1) := by decide +kernel
theorem dX9_goes_71 : decode cX9_goes 71 = .ok (.istore_n 3, 1) := by decide +kernel
theorem dX9_goes_72 : decode cX9_goes 72 = .ok (.iload_n 3, 1) := by decide +kernel
theorem dX9_goes_73 : decode cX9_goes 73 = .ok (.sipush 10000, 3) := by decide +kernel
theorem dX9_goes_76 : decode cX9_goes 76 = .ok (.idiv, 1) := by decide +kernel
theorem dX9_goes_77 : decode cX9_goes 77 = .ok (.istore 4, 2) := by decide +kernel
theorem dX9_goes_79 : decode cX9_goes 79 = .ok (.aload_n 0, 1) := by decide +kernel
theorem dX9_goes_80 : decode cX9_goes 80 = .ok (.getfield 59, 3) := by decide +kernel
theorem dX9_goes_83 : decode cX9_goes 83 = .ok (.iload 4, 2) := by decide +kernel
theorem dX9_goes_85 : decode cX9_goes 85 = .ok (.iload_n 3, 1) := by decide +kernel
theorem dX9_goes_86 : decode cX9_goes 86 = .ok (.sipush 1000, 3) := by decide +kernel
theorem dX9_goes_89 : decode cX9_goes 89 = .ok (.idiv, 1) := by decide +kernel
theorem dX9_goes_90 : decode cX9_goes 90 = .ok (.bipush 10, 2) := by decide +kernel
theorem dX9_goes_92 : decode cX9_goes 92 = .ok (.irem, 1) := by decide +kernel
theorem dX9_goes_93 : decode cX9_goes 93 = .ok (.aload_n 0, 1) := by decide +kernel
theorem dX9_goes_94 : decode cX9_goes 94 = .ok (.getfield 59, 3) := by decide +kernel
theorem dX9_goes_97 : decode cX9_goes 97 = .ok (.iload 4, 2) := by decide +kernel
theorem dX9_goes_99 : decode cX9_goes 99 = .ok (.iaload, 1) := by decide +kernel
theorem dX9_goes_100 : decode cX9_goes 100 = .ok (.imul, 1) := by decide +kernel
theorem dX9_goes_101 : decode cX9_goes 101 = .ok (.iload_n 3, 1) := by decide +kernel
theorem dX9_goes_102 : decode cX9_goes 102 = .ok (.bipush 100, 2) := by decide +kernel
theorem dX9_goes_104 : decode cX9_goes 104 = .ok (.idiv, 1) := by decide +kernel
theorem dX9_goes_105 : decode cX9_goes 105 = .ok (.bipush 10, 2) := by decide +kernel
theorem dX9_goes_107 : decode cX9_goes 107 = .ok (.irem, 1) := by decide +kernel
theorem dX9_goes_108 : decode cX9_goes 108 = .ok (.iload_n 2, 1) := by decide +kernel
theorem dX9_goes_109 : decode cX9_goes 109 = .ok (.imul, 1) := by decide +kernel
theorem dX9_goes_110 : decode cX9_goes 110 = .ok (.iadd, 1) := by decide +kernel
theorem dX9_goes_111 : decode cX9_goes 111 = .ok (.iload_n 3, 1) := by decide +kernel
theorem dX9_goes_112 : decode cX9_goes 112 = .ok (.bipush 100, 2) := by decide +kernel
theorem dX9_goes_114 : decode cX9_goes 114 = .ok (.irem, 1) := by decide +kernel
theorem dX9_goes_115 : decode cX9_goes 115 = .ok (.iadd, 1) := by decide +kernel
theorem dX9_goes_116 : decode cX9_goes 116 = .ok (.bipush 16, 2) := by decide +kernel
theorem dX9_goes_118 : decode cX9_goes 118 = .ok (.irem, 1) := by decide +kernel
theorem dX9_goes_119 : decode cX9_goes 119 = .ok (.iastore, 1) := by decide +kernel
theorem dX9_goes_120 : decode cX9_goes 120 = .ok (.aload_n 0, 1) := by decide +kernel
theorem dX9_goes_121 : decode cX9_goes 121 = .ok (.getfield 59, 3) := by decide +kernel
theorem dX9_goes_124 : decode cX9_goes 124 = .ok (.aload_n 0, 1) := by decide +kernel
theorem dX9_goes_125 : decode cX9_goes 125 = .ok (.getfield 19, 3) := by decide +kernel
theorem dX9_goes_128 : decode cX9_goes 128 = .ok (.aload_n 0, 1) := by decide +kernel
theorem dX9_goes_129 : decode cX9_goes 129 = .ok (.getfield 90, 3) := by decide +kernel
theorem dX9_goes_132 : decode cX9_goes 132 = .ok (.iaload, 1) := by decide +kernel
theorem dX9_goes_133 : decode cX9_goes 133 = .ok (.iaload, 1) := by decide +kernel
theorem dX9_goes_134 : decode cX9_goes 134 = .ok (.ireturn, 1) := by decide +kernel
theorem dX9_call_0 : decode cX9_call 0 = .ok (.iload_n 1, 1) := by decide +kernel
theorem dX9_call_1 : decode cX9_call 1 = .ok (.invokestatic 72, 3) := by decide +kernel
theorem dX9_call_4 : decode cX9_call 4 = .ok (.ifCond .eq 23, 3) := by decide +kernel
theorem dX9_call_7 : decode cX9_call 7 = .ok (.iload_n 2, 1) := by decide +kernel
theorem dX9_call_8 : decode cX9_call 8 = .ok (.iconst 0, 1) := by decide +kernel
theorem dX9_call_9 : decode cX9_call 9 = .ok (.bipush 15, 2) := by decide +kernel
theorem dX9_call_11 : decode cX9_call 11 = .ok (.invokestatic 68, 3) := by decide +kernel
theorem dX9_call_14 : decode cX9_call 14 = .ok (.ifCond .eq 13, 3) := by decide +kernel
theorem dX9_call_17 : decode cX9_call 17 = .ok (.aload_n 0, 1) := by decide +kernel
theorem dX9_call_18 : decode cX9_call 18 = .ok (.getfield 96, 3) := by decide +kernel
theorem dX9_call_21 : decode cX9_call 21 = .ok (.sipush 200, 3) := by decide +kernel
theorem dX9_call_24 : decode cX9_call 24 = .ok (.if_icmp .ne 5, 3) := by decide +kernel
theorem dX9_call_27 : decode cX9_call 27 = .ok (.iconst (-1), 1) := by decide +kernel
theorem dX9_call_28 : decode cX9_call 28 = .ok (.ireturn, 1) := by decide +kernel
theorem dX9_call_29 : decode cX9_call 29 = .ok (.iconst 0, 1) := by decide +kernel
theorem dX9_call_30 : decode cX9_call 30 = .ok (.istore_n 3, 1) := by decide +kernel
theorem dX9_call_31 : decode cX9_call 31 = .ok (.iload_n 3, 1) := by decide +kernel
theorem dX9_call_32 : decode cX9_call 32 = .ok (.iconst 4, 1) := by decide +kernel
theorem dX9_call_33 : decode cX9_call 33 = .ok (.if_icmp .ge 21, 3) := by decide +kernel
theorem dX9_call_36 : decode cX9_call 36 = .ok (.aload_n 0, 1) := by decide +kernel
theorem dX9_call_37 : decode cX9_call 37 = .ok (.getfield 59, 3) := by decide +kernel
theorem dX9_call_40 : decode cX9_call 40 = .ok (.iload_n 3, 1) := by decide +kernel
theorem dX9_call_41 : decode cX9_call 41 = .ok (.aload_n 0, 1) := by decide +kernel
theorem dX9_call_42 : decode cX9_call 42 = .ok (.getfield 34, 3) := by decide +kernel
theorem dX9_call_45 : decode cX9_call 45 = .ok (.iload_n 3, 1) := by decide +kernel
theorem dX9_call_46 : decode cX9_call 46 = .ok (.iaload, 1) := by decide +kernel
theorem dX9_call_47 : decode cX9_call 47 = .ok (.iastore, 1) := by decide +kernel
theorem dX9_call_48 : decode cX9_call 48 = .ok (.iinc 3 1, 3) := by decide +kernel
theorem dX9_call_51 : decode cX9_call 51 = .ok (.goto (-20), 3) := by decide +kernel
theorem dX9_call_54 : decode cX9_call 54 = .ok (.aload_n 0, 1) := by decide +kernel
theorem dX9_call_55 : decode cX9_call 55 = .ok (.iload_n 1, 1) := by decide +kernel
theorem dX9_call_56 : decode cX9_call 56 = .ok (.iload_n 2, 1) := by decide +kernel
theorem dX9_call_57 : decode cX9_call 57 = .ok (.invokevirtual 99, 3) := by decide +kernel
theorem dX9_call_60 : decode cX9_call 60 = .ok (.istore_n 3, 1) := by decide +kernel
theorem dX9_call_61 : decode cX9_call 61 = .ok (.iconst 0, 1) := by decide +kernel
theorem dX9_call_62 : decode cX9_call 62 = .ok (.istore 4, 2) := by decide +kernel
theorem dX9_call_64 : decode cX9_call 64 = .ok (.iload 4, 2) := by decide +kernel
theorem dX9_call_66 : decode cX9_call 66 = .ok (.iconst 4, 1) := by decide +kernel
theorem dX9_call_67 : decode cX9_call 67 = .ok (.if_icmp .ge 23, 3) := by decide +kernel
theorem dX9_call_70 : decode cX9_call 70 = .ok (.aload_n 0, 1) := by decide +kernel
theorem dX9_call_71 : decode cX9_call 71 = .ok (.getfield 34, 3) := by decide +kernel
theorem dX9_call_74 : decode cX9_call 74 = .ok (.iload 4, 2) := by decide +kernel
theorem dX9_call_76 : decode cX9_call 76 = .ok (.aload_n 0, 1) := by decide +kernel
theorem dX9_call_77 : decode cX9_call 77 = .ok (.getfield 59, 3) := by decide +kernel
theorem dX9_call_80 : decode cX9_call 80 = .ok (.iload 4, 2) := by decide +kernel
theorem dX9_call_82 : decode cX9_call 82 = .ok (.iaload, 1) := by decide +kernel
theorem dX9_call_83 : decode cX9_call 83 = .ok (.iastore, 1) := by decide +kernel
theorem dX9_call_84 : decode cX9_call 84 = .ok (.iinc 4 1, 3) := by decide +kernel
theorem dX9_call_87 : decode cX9_call 87 = .ok (.goto (-23), 3) := by decide +kernel
theorem dX9_call_90 : decode cX9_call 90 = .ok (.aload_n 0, 1) := by decide +kernel
theorem dX9_call_91 : decode cX9_call 91 = .ok (.getfield 22, 3) := by decide +kernel
theorem dX9_call_94 : decode cX9_call 94 = .ok (.aload_n 0, 1) := by decide +kernel
theorem dX9_call_95 : decode cX9_call 95 = .ok (.getfield 96, 3) := by decide +kernel
theorem dX9_call_98 : decode cX9_call 98 = .ok (.iload_n 1, 1) := by decide +kernel
theorem dX9_call_99 : decode cX9_call 99 = .ok (.iastore, 1) := by decide +kernel
theorem dX9_call_100 : decode cX9_call 100 = .ok (.aload_n 0, 1) := by decide +kernel
theorem dX9_call_101 : decode cX9_call 101 = .ok (.getfield 25, 3) := by decide +kernel
theorem dX9_call_104 : decode cX9_call 104 = .ok (.aload_n 0, 1) := by decide +kernel
theorem dX9_call_105 : decode cX9_call 105 = .ok (.getfield 96, 3) := by decide +kernel
theorem dX9_call_108 : decode cX9_call 108 = .ok (.iload_n 2, 1) := by decide +kernel
theorem dX9_call_109 : decode cX9_call 109 = .ok (.iastore, 1) := by decide +kernel
theorem dX9_call_110 : decode cX9_call 110 = .ok (.aload_n 0, 1) := by decide +kernel
theorem dX9_call_111 : decode cX9_call 111 = .ok (.getfield 28, 3) := by decide +kernel
theorem dX9_call_114 : decode cX9_call 114 = .ok (.aload_n 0, 1) := by decide +kernel
theorem dX9_call_115 : decode cX9_call 115 = .ok (.getfield 96, 3) := by decide +kernel
theorem dX9_call_118 : decode cX9_call 118 = .ok (.iload_n 3, 1) := by decide +kernel
theorem dX9_call_119 : decode cX9_call 119 = .ok (.iastore, 1) := by decide +kernel
theorem dX9_call_120 : decode cX9_call 120 = .ok (.aload_n 0, 1) := by decide +kernel
theorem dX9_call_121 : decode cX9_call 121 = .ok (.getfield 31, 3) := by decide +kernel
theorem dX9_call_124 : decode cX9_call 124 = .ok (.aload_n 0, 1) := by decide +kernel
theorem dX9_call_125 : decode cX9_call 125 = .ok (.getfield 96, 3) := by decide +kernel
theorem dX9_call_128 : decode cX9_call 128 = .ok (.aload_n 0, 1) := by decide +kernel
theorem dX9_call_129 : decode cX9_call 129 = .ok (.getfield 90, 3) := by decide +kernel
theorem dX9_call_132 : decode cX9_call 132 = .ok (.iastore, 1) := by decide +kernel
theorem dX9_call_133 : decode cX9_call 133 = .ok (.aload_n 0, 1) := by decide +kernel
theorem dX9_call_134 : decode cX9_call 134 = .ok (.dup, 1) := by decide +kernel
theorem dX9_call_135 : decode cX9_call 135 = .ok (.getfield 96, 3) := by decide +kernel
theorem dX9_call_138 : decode cX9_call 138 = .ok (.iconst 1, 1) := by decide +kernel
theorem dX9_call_139 : decode cX9_call 139 = .ok (.iadd, 1) := by decide +kernel
theorem dX9_call_140 : decode cX9_call 140 = .ok (.putfield 96, 3) := by decide +kernel
theorem dX9_call_143 : decode cX9_call 143 = .ok (.iload_n 3, 1) := by decide +kernel
theorem dX9_call_144 : decode cX9_call 144 = .ok (.ireturn, 1) := by decide +kernel
theorem dX9_fresh_0 : decode cX9_fresh 0 = .ok (.aload_n 0, 1) := by decide +kernel
theorem dX9_fresh_1 : decode cX9_fresh 1 = .ok (.getfield 96, 3) := by decide +kernel
theorem dX9_fresh_4 : decode cX9_fresh 4 = .ok (.istore_n 1, 1) := by decide +kernel
theorem dX9_fresh_5 : decode cX9_fresh 5 = .ok (.aload_n 0, 1) := by decide +kernel
theorem dX9_fresh_6 : decode cX9_fresh 6 = .ok (.iconst 0, 1) := by decide +kernel
theorem dX9_fresh_7 : decode cX9_fresh 7 = .ok (.putfield 96, 3) := by decide +kernel
theorem dX9_fresh_10 : decode cX9_fresh 10 = .ok (.iconst 0, 1) := by decide +kernel
theorem dX9_fresh_11 : decode cX9_fresh 11 = .ok (.istore_n 2, 1) := by decide +kernel
theorem dX9_fresh_12 : decode cX9_fresh 12 = .ok (.iload_n 2, 1) := by decide +kernel
theorem dX9_fresh_13 : decode cX9_fresh 13 = .ok (.iconst 4, 1) := by decide +kernel
theorem dX9_fresh_14 : decode cX9_fresh 14 = .ok (.if_icmp .ge 16, 3) := by decide +kernel
theorem dX9_fresh_17 : decode cX9_fresh 17 = .ok (.aload_n 0, 1) := by decide +kernel
theorem dX9_fresh_18 : decode cX9_fresh 18 = .ok (.getfield 34, 3) := by decide +kernel
theorem dX9_fresh_21 : decode cX9_fresh 21 = .ok (.iload_n 2, 1) := by decide +kernel
theorem dX9_fresh_22 : decode cX9_fresh 22 = .ok (.iconst 0, 1) := by decide +kernel
theorem dX9_fresh_23 : decode cX9_fresh 23 = .ok (.iastore, 1) := by decide +kernel
theorem dX9_fresh_24 : decode cX9_fresh 24 = .ok (.iinc 2 1, 3) := by decide +kernel
theorem dX9_fresh_27 : decode cX9_fresh 27 = .ok (.goto (-15), 3) := by decide +kernel
theorem dX9_fresh_30 : decode cX9_fresh 30 = .ok (.iload_n 1, 1) := by decide +kernel
theorem dX9_fresh_31 : decode cX9_fresh 31 = .ok (.ireturn, 1) := by decide +kernel
theorem dX9_logged_0 : decode cX9_logged 0 = .ok (.iload_n 1, 1) := by decide +kernel
theorem dX9_logged_1 : decode cX9_logged 1 = .ok (.iconst 0, 1) := by decide +kernel
theorem dX9_logged_2 : decode cX9_logged 2 = .ok (.aload_n 0, 1) := by decide +kernel
theorem dX9_logged_3 : decode cX9_logged 3 = .ok (.getfield 96, 3) := by decide +kernel
theorem dX9_logged_6 : decode cX9_logged 6 = .ok (.iconst 1, 1) := by decide +kernel
theorem dX9_logged_7 : decode cX9_logged 7 = .ok (.isub, 1) := by decide +kernel
theorem dX9_logged_8 : decode cX9_logged 8 = .ok (.invokestatic 68, 3) := by decide +kernel
theorem dX9_logged_11 : decode cX9_logged 11 = .ok (.ifCond .ne 5, 3) := by decide +kernel
theorem dX9_logged_14 : decode cX9_logged 14 = .ok (.iconst (-1), 1) := by decide +kernel
theorem dX9_logged_15 : decode cX9_logged 15 = .ok (.ireturn, 1) := by decide +kernel
theorem dX9_logged_16 : decode cX9_logged 16 = .ok (.iload_n 2, 1) := by decide +kernel
theorem dX9_logged_17 : decode cX9_logged 17 = .ok (.tableswitch 59 0 3 #[31, 38, 45, 52], 31) := by decide +kernel
theorem dX9_logged_48 : decode cX9_logged 48 = .ok (.aload_n 0, 1) := by decide +kernel
theorem dX9_logged_49 : decode cX9_logged 49 = .ok (.getfield 22, 3) := by decide +kernel
theorem dX9_logged_52 : decode cX9_logged 52 = .ok (.iload_n 1, 1) := by decide +kernel
theorem dX9_logged_53 : decode cX9_logged 53 = .ok (.iaload, 1) := by decide +kernel
theorem dX9_logged_54 : decode cX9_logged 54 = .ok (.ireturn, 1) := by decide +kernel
theorem dX9_logged_55 : decode cX9_logged 55 = .ok (.aload_n 0, 1) := by decide +kernel
theorem dX9_logged_56 : decode cX9_logged 56 = .ok (.getfield 25, 3) := by decide +kernel
theorem dX9_logged_59 : decode cX9_logged 59 = .ok (.iload_n 1, 1) := by decide +kernel
theorem dX9_logged_60 : decode cX9_logged 60 = .ok (.iaload, 1) := by decide +kernel
theorem dX9_logged_61 : decode cX9_logged 61 = .ok (.ireturn, 1) := by decide +kernel
theorem dX9_logged_62 : decode cX9_logged 62 = .ok (.aload_n 0, 1) := by decide +kernel
