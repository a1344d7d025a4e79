theorem dX0_init_0 : decode cX0_init 0 = .ok (.aload_n 0, 1) := by decide +kernel
theorem dX0_init_1 : decode cX0_init 1 = .ok (.invokespecial 3, 3) := by decide +kernel
theorem dX0_init_4 : decode cX0_init 4 = .ok (.aload_n 0, 1) := by decide +kernel
theorem dX0_init_5 : decode cX0_init 5 = .ok (.iload_n 1, 1) := by decide +kernel
theorem dX0_init_6 : decode cX0_init 6 = .ok (.sipush 1000, 3) := by decide +kernel
theorem dX0_init_9 : decode cX0_init 9 = .ok (.idiv, 1) := by decide +kernel
theorem dX0_init_10 : decode cX0_init 10 = .ok (.putfield 9, 3) := by decide +kernel
theorem dX0_init_13 : decode cX0_init 13 = .ok (.aload_n 0, 1) := by decide +kernel
theorem dX0_init_14 : decode cX0_init 14 = .ok (.iload_n 1, 1) := by decide +kernel
theorem dX0_init_15 : decode cX0_init 15 = .ok (.bipush 100, 2) := by decide +kernel
theorem dX0_init_17 : decode cX0_init 17 = .ok (.idiv, 1) := by decide +kernel
theorem dX0_init_18 : decode cX0_init 18 = .ok (.bipush 10, 2) := by decide +kernel
theorem dX0_init_20 : decode cX0_init 20 = .ok (.irem, 1) := by decide +kernel
theorem dX0_init_21 : decode cX0_init 21 = .ok (.putfield 15, 3) := by decide +kernel
theorem dX0_init_24 : decode cX0_init 24 = .ok (.aload_n 0, 1) := by decide +kernel
theorem dX0_init_25 : decode cX0_init 25 = .ok (.iload_n 1, 1) := by decide +kernel
theorem dX0_init_26 : decode cX0_init 26 = .ok (.bipush 100, 2) := by decide +kernel
theorem dX0_init_28 : decode cX0_init 28 = .ok (.irem, 1) := by decide +kernel
theorem dX0_init_29 : decode cX0_init 29 = .ok (.putfield 18, 3) := by decide +kernel
theorem dX0_init_32 : decode cX0_init 32 = .ok (.aload_n 0, 1) := by decide +kernel
theorem dX0_init_33 : decode cX0_init 33 = .ok (.iload_n 2, 1) := by decide +kernel
theorem dX0_init_34 : decode cX0_init 34 = .ok (.sipush 10000, 3) := by decide +kernel
theorem dX0_init_37 : decode cX0_init 37 = .ok (.idiv, 1) := by decide +kernel
theorem dX0_init_38 : decode cX0_init 38 = .ok (.putfield 21, 3) := by decide +kernel
theorem dX0_init_41 : decode cX0_init 41 = .ok (.aload_n 0, 1) := by decide +kernel
theorem dX0_init_42 : decode cX0_init 42 = .ok (.iload_n 2, 1) := by decide +kernel
theorem dX0_init_43 : decode cX0_init 43 = .ok (.sipush 1000, 3) := by decide +kernel
theorem dX0_init_46 : decode cX0_init 46 = .ok (.idiv, 1) := by decide +kernel
theorem dX0_init_47 : decode cX0_init 47 = .ok (.bipush 10, 2) := by decide +kernel
theorem dX0_init_49 : decode cX0_init 49 = .ok (.irem, 1) := by decide +kernel
theorem dX0_init_50 : decode cX0_init 50 = .ok (.putfield 24, 3) := by decide +kernel
theorem dX0_init_53 : decode cX0_init 53 = .ok (.aload_n 0, 1) := by decide +kernel
theorem dX0_init_54 : decode cX0_init 54 = .ok (.iload_n 2, 1) := by decide +kernel
theorem dX0_init_55 : decode cX0_init 55 = .ok (.bipush 100, 2) := by decide +kernel
theorem dX0_init_57 : decode cX0_init 57 = .ok (.idiv, 1) := by decide +kernel
theorem dX0_init_58 : decode cX0_init 58 = .ok (.bipush 10, 2) := by decide +kernel
theorem dX0_init_60 : decode cX0_init 60 = .ok (.irem, 1) := by decide +kernel
theorem dX0_init_61 : decode cX0_init 61 = .ok (.putfield 27, 3) := by decide +kernel
theorem dX0_init_64 : decode cX0_init 64 = .ok (.aload_n 0, 1) := by decide +kernel
theorem dX0_init_65 : decode cX0_init 65 = .ok (.iload_n 2, 1) := by decide +kernel
theorem dX0_init_66 : decode cX0_init 66 = .ok (.bipush 100, 2) := by decide +kernel
theorem dX0_init_68 : decode cX0_init 68 = .ok (.irem, 1) := by decide +kernel
theorem dX0_init_69 : decode cX0_init 69 = .ok (.putfield 30, 3) := by decide +kernel
theorem dX0_init_72 : decode cX0_init 72 = .ok (.aload_n 0, 1) := by decide +kernel
theorem dX0_init_73 : decode cX0_init 73 = .ok (.iload_n 3, 1) := by decide +kernel
theorem dX0_init_74 : decode cX0_init 74 = .ok (.putfield 33, 3) := by decide +kernel
theorem dX0_init_77 : decode cX0_init 77 = .ok (.return_, 1) := by decide +kernel
theorem dX0_canBe_0 : decode cX0_canBe 0 = .ok (.iload_n 0, 1) := by decide +kernel
theorem dX0_canBe_1 : decode cX0_canBe 1 = .ok (.invokestatic 36, 3) := by decide +kernel
theorem dX0_canBe_4 : decode cX0_canBe 4 = .ok (.ifCond .eq 22, 3) := by decide +kernel
theorem dX0_canBe_7 : decode cX0_canBe 7 = .ok (.iload_n 1, 1) := by decide +kernel
theorem dX0_canBe_8 : decode cX0_canBe 8 = .ok (.invokestatic 40, 3) := by decide +kernel
theorem dX0_canBe_11 : decode cX0_canBe 11 = .ok (.ifCond .eq 15, 3) := by decide +kernel
theorem dX0_canBe_14 : decode cX0_canBe 14 = .ok (.iload_n 2, 1) := by decide +kernel
theorem dX0_canBe_15 : decode cX0_canBe 15 = .ok (.iconst 4, 1) := by decide +kernel
theorem dX0_canBe_16 : decode cX0_canBe 16 = .ok (.invokestatic 43, 3) := by decide +kernel
theorem dX0_canBe_19 : decode cX0_canBe 19 = .ok (.ifCond .eq 7, 3) := by decide +kernel
theorem dX0_canBe_22 : decode cX0_canBe 22 = .ok (.iconst 1, 1) := by decide +kernel
theorem dX0_canBe_23 : decode cX0_canBe 23 = .ok (.goto 4, 3) := by decide +kernel
theorem dX0_canBe_26 : decode cX0_canBe 26 = .ok (.iconst 0, 1) := by decide +kernel
theorem dX0_canBe_27 : decode cX0_canBe 27 = .ok (.ireturn, 1) := by decide +kernel
theorem dX0_isCondition_0 : decode cX0_isCondition 0 = .ok (.iload_n 0, 1) := by decide +kernel
theorem dX0_isCondition_1 : decode cX0_isCondition 1 = .ok (.sipush 4000, 3) := by decide +kernel
theorem dX0_isCondition_4 : decode cX0_isCondition 4 = .ok (.invokestatic 43, 3) := by decide +kernel
theorem dX0_isCondition_7 : decode cX0_isCondition 7 = .ok (.ifCond .eq 27, 3) := by decide +kernel
theorem dX0_isCondition_10 : decode cX0_isCondition 10 = .ok (.iload_n 0, 1) := by decide +kernel
theorem dX0_isCondition_11 : decode cX0_isCondition 11 = .ok (.bipush 100, 2) := by decide +kernel
theorem dX0_isCondition_13 : decode cX0_isCondition 13 = .ok (.idiv, 1) := by decide +kernel
theorem dX0_isCondition_14 : decode cX0_isCondition 14 = .ok (.bipush 10, 2) := by decide +kernel
theorem dX0_isCondition_16 : decode cX0_isCondition 16 = .ok (.irem, 1) := by decide +kernel
theorem dX0_isCondition_17 : decode cX0_isCondition 17 = .ok (.iconst 3, 1) := by decide +kernel
theorem dX0_isCondition_18 : decode cX0_isCondition 18 = .ok (.if_icmp .ge 16, 3) := by decide +kernel
theorem dX0_isCondition_21 : decode cX0_isCondition 21 = .ok (.iload_n 0, 1) := by decide +kernel
theorem dX0_isCondition_22 : decode cX0_isCondition 22 = .ok (.bipush 100, 2) := by decide +kernel
theorem dX0_isCondition_24 : decode cX0_isCondition 24 = .ok (.irem, 1) := by decide +kernel
theorem dX0_isCondition_25 : decode cX0_isCondition 25 = .ok (.bipush 16, 2) := by decide +kernel
theorem dX0_isCondition_27 : decode cX0_isCondition 27 = .ok (.if_icmp .ge 7, 3) := by decide +kernel
theorem dX0_isCondition_30 : decode cX0_isCondition 30 = .ok (.iconst 1, 1) := by decide +kernel
theorem dX0_isCondition_31 : decode cX0_isCondition 31 = .ok (.goto 4, 3) := by decide +kernel
theorem dX0_isCondition_34 : decode cX0_isCondition 34 = .ok (.iconst 0, 1) := by decide +kernel
theorem dX0_isCondition_35 : decode cX0_isCondition 35 = .ok (.ireturn, 1) := by decide +kernel
theorem dX0_isEffect_0 : decode cX0_isEffect 0 = .ok (.iload_n 0, 1) := by decide +kernel
theorem dX0_isEffect_1 : decode cX0_isEffect 1 = .ok (.ldc 47, 2) := by decide +kernel
theorem dX0_isEffect_3 : decode cX0_isEffect 3 = .ok (.invokestatic 43, 3) := by decide +kernel
theorem dX0_isEffect_6 : decode cX0_isEffect 6 = .ok (.ifCond .eq 16, 3) := by decide +kernel
theorem dX0_isEffect_9 : decode cX0_isEffect 9 = .ok (.iload_n 0, 1) := by decide +kernel
theorem dX0_isEffect_10 : decode cX0_isEffect 10 = .ok (.bipush 100, 2) := by decide +kernel
theorem dX0_isEffect_12 : decode cX0_isEffect 12 = .ok (.irem, 1) := by decide +kernel
theorem dX0_isEffect_13 : decode cX0_isEffect 13 = .ok (.bipush 16, 2) := by decide +kernel
theorem dX0_isEffect_15 : decode cX0_isEffect 15 = .ok (.if_icmp .ge 7, 3) := by decide +kernel
theorem dX0_isEffect_18 : decode cX0_isEffect 18 = .ok (.iconst 1, 1) := by decide +kernel
theorem dX0_isEffect_19 : decode cX0_isEffect 19 = .ok (.goto 4, 3) := by decide +kernel
theorem dX0_isEffect_22 : decode cX0_isEffect 22 = .ok (.iconst 0, 1) := by decide +kernel
theorem dX0_isEffect_23 : decode cX0_isEffect 23 = .ok (.ireturn, 1) := by decide +kernel
theorem dX0_holds_0 : decode cX0_holds 0 = .ok (.iload_n 1, 1) := by decide +kernel
theorem dX0_holds_1 : decode cX0_holds 1 = .ok (.aload_n 0, 1) := by decide +kernel
theorem dX0_holds_2 : decode cX0_holds 2 = .ok (.getfield 9, 3) := by decide +kernel
theorem dX0_holds_5 : decode cX0_holds 5 = .ok (.invokestatic 48, 3) := by decide +kernel
theorem dX0_holds_8 : decode cX0_holds 8 = .ok (.istore_n 2, 1) := by decide +kernel
theorem dX0_holds_9 : decode cX0_holds 9 = .ok (.aload_n 0, 1) := by decide +kernel
theorem dX0_holds_10 : decode cX0_holds 10 = .ok (.getfield 15, 3) := by decide +kernel
theorem dX0_holds_13 : decode cX0_holds 13 = .ok (.ifCond .ne 17, 3) := by decide +kernel
theorem dX0_holds_16 : decode cX0_holds 16 = .ok (.iload_n 2, 1) := by decide +kernel
theorem dX0_holds_17 : decode cX0_holds 17 = .ok (.aload_n 0, 1) := by decide +kernel
theorem dX0_holds_18 : decode cX0_holds 18 = .ok (.getfield 18, 3) := by decide +kernel
theorem dX0_holds_21 : decode cX0_holds 21 = .ok (.if_icmp .ge 7, 3) := by decide +kernel
theorem dX0_holds_24 : decode cX0_holds 24 = .ok (.iconst 1, 1) := by decide +kernel
theorem dX0_holds_25 : decode cX0_holds 25 = .ok (.goto 4, 3) := by decide +kernel
theorem dX0_holds_28 : decode cX0_holds 28 = .ok (.iconst 0, 1) := by decide +kernel
theorem dX0_holds_29 : decode cX0_holds 29 = .ok (.ireturn, 1) := by decide +kernel
theorem dX0_holds_30 : decode cX0_holds 30 = .ok (.aload_n 0, 1) := by decide +kernel
theorem dX0_holds_31 : decode cX0_holds 31 = .ok (.getfield 15, 3) := by decide +kernel
theorem dX0_holds_34 : decode cX0_holds 34 = .ok (.iconst 1, 1) := by decide +kernel
theorem dX0_holds_35 : decode cX0_holds 35 = .ok (.if_icmp .ne 19, 3) := by decide +kernel
theorem dX0_holds_38 : decode cX0_holds 38 = .ok (.iload_n 2, 1) := by decide +kernel
theorem dX0_holds_39 : decode cX0_holds 39 = .ok (.aload_n 0, 1) := by decide +kernel
theorem dX0_holds_40 : decode cX0_holds 40 = .ok (.getfield 18, 3) := by decide +kernel
theorem dX0_holds_43 : decode cX0_holds 43 = .ok (.if_icmp .ne 7, 3) := by decide +kernel
theorem dX0_holds_46 : decode cX0_holds 46 = .ok (.iconst 1, 1) := by decide +kernel
theorem dX0_holds_47 : decode cX0_holds 47 = .ok (.goto 20, 3) := by decide +kernel
theorem dX0_holds_50 : decode cX0_holds 50 = .ok (.iconst 0, 1) := by decide +kernel
theorem dX0_holds_51 : decode cX0_holds 51 = .ok (.goto 16, 3) := by decide +kernel
theorem dX0_holds_54 : decode cX0_holds 54 = .ok (.iload_n 2, 1) := by decide +kernel
theorem dX0_holds_55 : decode cX0_holds 55 = .ok (.aload_n 0, 1) := by decide +kernel
theorem dX0_holds_56 : decode cX0_holds 56 = .ok (.getfield 18, 3) := by decide +kernel
theorem dX0_holds_59 : decode cX0_holds 59 = .ok (.if_icmp .le 7, 3) := by decide +kernel
theorem dX0_holds_62 : decode cX0_holds 62 = .ok (.iconst 1, 1) := by decide +kernel
theorem dX0_holds_63 : decode cX0_holds 63 = .ok (.goto 4, 3) := by decide +kernel
theorem dX0_holds_66 : decode cX0_holds 66 = .ok (.iconst 0, 1) := by decide +kernel
theorem dX0_holds_67 : decode cX0_holds 67 = .ok (.ireturn, 1) := by decide +kernel
theorem dX0_stateBehind_0 : decode cX0_stateBehind 0 = .ok (.iload_n 1, 1) := by decide +kernel
theorem dX0_stateBehind_1 : decode cX0_stateBehind 1 = .ok (.aload_n 0, 1) := by decide +kernel
theorem dX0_stateBehind_2 : decode cX0_stateBehind 2 = .ok (.getfield 21, 3) := by decide +kernel
theorem dX0_stateBehind_5 : decode cX0_stateBehind 5 = .ok (.invokestatic 48, 3) := by decide +kernel
theorem dX0_stateBehind_8 : decode cX0_stateBehind 8 = .ok (.istore_n 3, 1) := by decide +kernel
theorem dX0_stateBehind_9 : decode cX0_stateBehind 9 = .ok (.iload_n 1, 1) := by decide +kernel
theorem dX0_stateBehind_10 : decode cX0_stateBehind 10 = .ok (.aload_n 0, 1) := by decide +kernel
theorem dX0_stateBehind_11 : decode cX0_stateBehind 11 = .ok (.getfield 21, 3) := by decide +kernel
theorem dX0_stateBehind_14 : decode cX0_stateBehind 14 = .ok (.aload_n 0, 1) := by decide +kernel
theorem dX0_stateBehind_15 : decode cX0_stateBehind 15 = .ok (.getfield 24, 3) := by decide +kernel
theorem dX0_stateBehind_18 : decode cX0_stateBehind 18 = .ok (.iload_n 3, 1) := by decide +kernel
theorem dX0_stateBehind_19 : decode cX0_stateBehind 19 = .ok (.imul, 1) := by decide +kernel
theorem dX0_stateBehind_20 : decode cX0_stateBehind 20 = .ok (.aload_n 0, 1) := by decide +kernel
theorem dX0_stateBehind_21 : decode cX0_stateBehind 21 = .ok (.getfield 27, 3) := by decide +kernel
theorem dX0_stateBehind_24 : decode cX0_stateBehind 24 = .ok (.iload_n 2, 1) := by decide +kernel
theorem dX0_stateBehind_25 : decode cX0_stateBehind 25 = .ok (.imul, 1) := by decide +kernel
theorem dX0_stateBehind_26 : decode cX0_stateBehind 26 = .ok (.iadd, 1) := by decide +kernel
theorem dX0_stateBehind_27 : decode cX0_stateBehind 27 = .ok (.aload_n 0, 1) := by decide +kernel
theorem dX0_stateBehind_28 : decode cX0_stateBehind 28 = .ok (.getfield 30, 3) := by decide +kernel
theorem dX0_stateBehind_31 : decode cX0_stateBehind 31 = .ok (.iadd, 1) := by decide +kernel
theorem dX0_stateBehind_32 : decode cX0_stateBehind 32 = .ok (.invokestatic 52, 3) := by decide +kernel
theorem dX0_stateBehind_35 : decode cX0_stateBehind 35 = .ok (.ireturn, 1) := by decide +kernel
theorem dX0_resultIn_0 : decode cX0_resultIn 0 = .ok (.iload_n 1, 1) := by decide +kernel
theorem dX0_resultIn_1 : decode cX0_resultIn 1 = .ok (.aload_n 0, 1) := by decide +kernel
theorem dX0_resultIn_2 : decode cX0_resultIn 2 = .ok (.getfield 33, 3) := by decide +kernel
theorem dX0_resultIn_5 : decode cX0_resultIn 5 = .ok (.invokestatic 48, 3) := by decide +kernel
theorem dX0_resultIn_8 : decode cX0_resultIn 8 = .ok (.ireturn, 1) := by decide +kernel
theorem dX1_init_0 : decode cX1_init 0 = .ok (.aload_n 0, 1) := by decide +kernel
theorem dX1_init_1 : decode cX1_init 1 = .ok (.invokespecial 3, 3) := by decide +kernel
theorem dX1_init_4 : decode cX1_init 4 = .ok (.aload_n 0, 1) := by decide +kernel
theorem dX1_init_5 : decode cX1_init 5 = .ok (.new 9, 3) := by decide +kernel
theorem dX1_init_8 : decode cX1_init 8 = .ok (.dup, 1) := by decide +kernel
theorem dX1_init_9 : decode cX1_init 9 = .ok (.invokespecial 11, 3) := by decide +kernel
theorem dX1_init_12 : decode cX1_init 12 = .ok (.putfield 12, 3) := by decide +kernel
theorem dX1_init_15 : decode cX1_init 15 = .ok (.aload_n 0, 1) := by decide +kernel
theorem dX1_init_16 : decode cX1_init 16 = .ok (.sipush 200, 3) := by decide +kernel
theorem dX1_init_19 : decode cX1_init 19 = .ok (.newarray .int, 2) := by decide +kernel
theorem dX1_init_21 : decode cX1_init 21 = .ok (.putfield 18, 3) := by decide +kernel
theorem dX1_init_24 : decode cX1_init 24 = .ok (.aload_n 0, 1) := by decide +kernel
theorem dX1_init_25 : decode cX1_init 25 = .ok (.iconst 0, 1) := by decide +kernel
theorem dX1_init_26 : decode cX1_init 26 = .ok (.putfield 22, 3) := by decide +kernel
theorem dX1_init_29 : decode cX1_init 29 = .ok (.return_, 1) := by decide +kernel
theorem dX1_size_0 : decode cX1_size 0 = .ok (.aload_n 0, 1) := by decide +kernel
theorem dX1_size_1 : decode cX1_size 1 = .ok (.getfield 12, 3) := by decide +kernel
theorem dX1_size_4 : decode cX1_size 4 = .ok (.invokevirtual 26, 3) := by decide +kernel
theorem dX1_size_7 : decode cX1_size 7 = .ok (.ireturn, 1) := by decide +kernel
theorem dX1_add_0 : decode cX1_add 0 = .ok (.aload_n 0, 1) := by decide +kernel
theorem dX1_add_1 : decode cX1_add 1 = .ok (.getfield 12, 3) := by decide +kernel
theorem dX1_add_4 : decode cX1_add 4 = .ok (.invokevirtual 26, 3) := by decide +kernel
theorem dX1_add_7 : decode cX1_add 7 = .ok (.istore_n 3, 1) := by decide +kernel
theorem dX1_add_8 : decode cX1_add 8 = .ok (.iload_n 3, 1) := by decide +kernel
theorem dX1_add_9 : decode cX1_add 9 = .ok (.sipush 200, 3) := by decide +kernel
theorem dX1_add_12 : decode cX1_add 12 = .ok (.if_icmp .lt 5, 3) := by decide +kernel
theorem dX1_add_15 : decode cX1_add 15 = .ok (.iconst (-1), 1) := by decide +kernel
theorem dX1_add_16 : decode cX1_add 16 = .ok (.ireturn, 1) := by decide +kernel
theorem dX1_add_17 : decode cX1_add 17 = .ok (.aload_n 0, 1) := by decide +kernel
theorem dX1_add_18 : decode cX1_add 18 = .ok (.getfield 18, 3) := by decide +kernel
theorem dX1_add_21 : decode cX1_add 21 = .ok (.iload_n 3, 1) := by decide +kernel
theorem dX1_add_22 : decode cX1_add 22 = .ok (.aload_n 2, 1) := by decide +kernel
theorem dX1_add_23 : decode cX1_add 23 = .ok (.iload_n 1, 1) := by decide +kernel
theorem dX1_add_24 : decode cX1_add 24 = .ok (.aload_n 0, 1) := by decide +kernel
theorem dX1_add_25 : decode cX1_add 25 = .ok (.getfield 22, 3) := by decide +kernel
theorem dX1_add_28 : decode cX1_add 28 = .ok (.invokevirtual 30, 3) := by decide +kernel
theorem dX1_add_31 : decode cX1_add 31 = .ok (.iastore, 1) := by decide +kernel
theorem dX1_add_32 : decode cX1_add 32 = .ok (.aload_n 0, 1) := by decide +kernel
theorem dX1_add_33 : decode cX1_add 33 = .ok (.aload_n 2, 1) := by decide +kernel
theorem dX1_add_34 : decode cX1_add 34 = .ok (.aload_n 0, 1) := by decide +kernel
theorem dX1_add_35 : decode cX1_add 35 = .ok (.getfield 18, 3) := by decide +kernel
theorem dX1_add_38 : decode cX1_add 38 = .ok (.iload_n 3, 1) := by decide +kernel
theorem dX1_add_39 : decode cX1_add 39 = .ok (.iaload, 1) := by decide +kernel
theorem dX1_add_40 : decode cX1_add 40 = .ok (.aload_n 0, 1) := by decide +kernel
theorem dX1_add_41 : decode cX1_add 41 = .ok (.getfield 22, 3) := by decide +kernel
theorem dX1_add_44 : decode cX1_add 44 = .ok (.iload_n 1, 1) := by decide +kernel
theorem dX1_add_45 : decode cX1_add 45 = .ok (.invokestatic 36, 3) := by decide +kernel
theorem dX1_add_48 : decode cX1_add 48 = .ok (.invokevirtual 40, 3) := by decide +kernel
theorem dX1_add_51 : decode cX1_add 51 = .ok (.putfield 22, 3) := by decide +kernel
theorem dX1_add_54 : decode cX1_add 54 = .ok (.aload_n 0, 1) := by decide +kernel
theorem dX1_add_55 : decode cX1_add 55 = .ok (.getfield 12, 3) := by decide +kernel
theorem dX1_add_58 : decode cX1_add 58 = .ok (.iload_n 1, 1) := by decide +kernel
theorem dX1_add_59 : decode cX1_add 59 = .ok (.aload_n 2, 1) := by decide +kernel
theorem dX1_add_60 : decode cX1_add 60 = .ok (.aload_n 0, 1) := by decide +kernel
theorem dX1_add_61 : decode cX1_add 61 = .ok (.getfield 18, 3) := by decide +kernel
theorem dX1_add_64 : decode cX1_add 64 = .ok (.iload_n 3, 1) := by decide +kernel
theorem dX1_add_65 : decode cX1_add 65 = .ok (.iaload, 1) := by decide +kernel
theorem dX1_add_66 : decode cX1_add 66 = .ok (.aload_n 0, 1) := by decide +kernel
theorem dX1_add_67 : decode cX1_add 67 = .ok (.getfield 22, 3) := by decide +kernel
theorem dX1_add_70 : decode cX1_add 70 = .ok (.invokevirtual 44, 3) := by decide +kernel
theorem dX1_add_73 : decode cX1_add 73 = .ok (.invokevirtual 47, 3) := by decide +kernel
theorem dX1_add_76 : decode cX1_add 76 = .ok (.aload_n 0, 1) := by decide +kernel
theorem dX1_add_77 : decode cX1_add 77 = .ok (.getfield 12, 3) := by decide +kernel
theorem dX1_add_80 : decode cX1_add 80 = .ok (.iload_n 3, 1) := by decide +kernel
theorem dX1_add_81 : decode cX1_add 81 = .ok (.invokevirtual 51, 3) := by decide +kernel
theorem dX1_add_84 : decode cX1_add 84 = .ok (.ireturn, 1) := by decide +kernel
theorem dX1_clear_0 : decode cX1_clear 0 = .ok (.aload_n 0, 1) := by decide +kernel
theorem dX1_clear_1 : decode cX1_clear 1 = .ok (.getfield 12, 3) := by decide +kernel
theorem dX1_clear_4 : decode cX1_clear 4 = .ok (.invokevirtual 26, 3) := by decide +kernel
theorem dX1_clear_7 : decode cX1_clear 7 = .ok (.istore_n 1, 1) := by decide +kernel
theorem dX1_clear_8 : decode cX1_clear 8 = .ok (.aload_n 0, 1) := by decide +kernel
theorem dX1_clear_9 : decode cX1_clear 9 = .ok (.getfield 12, 3) := by decide +kernel
theorem dX1_clear_12 : decode cX1_clear 12 = .ok (.iconst 0, 1) := by decide +kernel
theorem dX1_clear_13 : decode cX1_clear 13 = .ok (.invokevirtual 54, 3) := by decide +kernel
theorem dX1_clear_16 : decode cX1_clear 16 = .ok (.aload_n 0, 1) := by decide +kernel
theorem dX1_clear_17 : decode cX1_clear 17 = .ok (.iconst 0, 1) := by decide +kernel
theorem dX1_clear_18 : decode cX1_clear 18 = .ok (.putfield 22, 3) := by decide +kernel
theorem dX1_clear_21 : decode cX1_clear 21 = .ok (.iload_n 1, 1) := by decide +kernel
theorem dX1_clear_22 : decode cX1_clear 22 = .ok (.ireturn, 1) := by decide +kernel
theorem dX1_tell_0 : decode cX1_tell 0 = .ok (.iload_n 1, 1) := by decide +kernel
theorem dX1_tell_1 : decode cX1_tell 1 = .ok (.aload_n 0, 1) := by decide +kernel
theorem dX1_tell_2 : decode cX1_tell 2 = .ok (.getfield 12, 3) := by decide +kernel
theorem dX1_tell_5 : decode cX1_tell 5 = .ok (.invokevirtual 26, 3) := by decide +kernel
theorem dX1_tell_8 : decode cX1_tell 8 = .ok (.invokestatic 58, 3) := by decide +kernel
theorem dX1_tell_11 : decode cX1_tell 11 = .ok (.ifCond .ne 5, 3) := by decide +kernel
theorem dX1_tell_14 : decode cX1_tell 14 = .ok (.iconst (-1), 1) := by decide +kernel
theorem dX1_tell_15 : decode cX1_tell 15 = .ok (.ireturn, 1) := by decide +kernel
theorem dX1_tell_16 : decode cX1_tell 16 = .ok (.iload_n 2, 1) := by decide +kernel
theorem dX1_tell_17 : decode cX1_tell 17 = .ok (.tableswitch 71 0 3 #[31, 43, 55, 64], 31) := by decide +kernel
theorem dX1_tell_48 : decode cX1_tell 48 = .ok (.aload_n 0, 1) := by decide +kernel
theorem dX1_tell_49 : decode cX1_tell 49 = .ok (.getfield 12, 3) := by decide +kernel
theorem dX1_tell_52 : decode cX1_tell 52 = .ok (.iload_n 1, 1) := by decide +kernel
theorem dX1_tell_53 : decode cX1_tell 53 = .ok (.invokevirtual 62, 3) := by decide +kernel
theorem dX1_tell_56 : decode cX1_tell 56 = .ok (.invokestatic 65, 3) := by decide +kernel
theorem dX1_tell_59 : decode cX1_tell 59 = .ok (.ireturn, 1) := by decide +kernel
theorem dX1_tell_60 : decode cX1_tell 60 = .ok (.aload_n 0, 1) := by decide +kernel
theorem dX1_tell_61 : decode cX1_tell 61 = .ok (.getfield 12, 3) := by decide +kernel
theorem dX1_tell_64 : decode cX1_tell 64 = .ok (.iload_n 1, 1) := by decide +kernel
theorem dX1_tell_65 : decode cX1_tell 65 = .ok (.invokevirtual 62, 3) := by decide +kernel
theorem dX1_tell_68 : decode cX1_tell 68 = .ok (.invokestatic 36, 3) := by decide +kernel
theorem dX1_tell_71 : decode cX1_tell 71 = .ok (.ireturn, 1) := by decide +kernel
theorem dX1_tell_72 : decode cX1_tell 72 = .ok (.aload_n 0, 1) := by decide +kernel
theorem dX1_tell_73 : decode cX1_tell 73 = .ok (.getfield 12, 3) := by decide +kernel
theorem dX1_tell_76 : decode cX1_tell 76 = .ok (.iload_n 1, 1) := by decide +kernel
theorem dX1_tell_77 : decode cX1_tell 77 = .ok (.invokevirtual 51, 3) := by decide +kernel
theorem dX1_tell_80 : decode cX1_tell 80 = .ok (.ireturn, 1) := by decide +kernel
theorem dX1_tell_81 : decode cX1_tell 81 = .ok (.aload_n 0, 1) := by decide +kernel
theorem dX1_tell_82 : decode cX1_tell 82 = .ok (.getfield 18, 3) := by decide +kernel
theorem dX1_tell_85 : decode cX1_tell 85 = .ok (.iload_n 1, 1) := by decide +kernel
theorem dX1_tell_86 : decode cX1_tell 86 = .ok (.iaload, 1) := by decide +kernel
theorem dX1_tell_87 : decode cX1_tell 87 = .ok (.ireturn, 1) := by decide +kernel
theorem dX1_tell_88 : decode cX1_tell 88 = .ok (.iconst (-1), 1) := by decide +kernel
theorem dX1_tell_89 : decode cX1_tell 89 = .ok (.ireturn, 1) := by decide +kernel
theorem dX2_init_0 : decode cX2_init 0 = .ok (.aload_n 0, 1) := by decide +kernel
theorem dX2_init_1 : decode cX2_init 1 = .ok (.invokespecial 3, 3) := by decide +kernel
theorem dX2_init_4 : decode cX2_init 4 = .ok (.aload_n 0, 1) := by decide +kernel
theorem dX2_init_5 : decode cX2_init 5 = .ok (.bipush 24, 2) := by decide +kernel
theorem dX2_init_7 : decode cX2_init 7 = .ok (.anewarray 9, 3) := by decide +kernel
theorem dX2_init_10 : decode cX2_init 10 = .ok (.putfield 11, 3) := by decide +kernel
theorem dX2_init_13 : decode cX2_init 13 = .ok (.aload_n 0, 1) := by decide +kernel
theorem dX2_init_14 : decode cX2_init 14 = .ok (.bipush 6, 2) := by decide +kernel
theorem dX2_init_16 : decode cX2_init 16 = .ok (.newarray .int, 2) := by decide +kernel
theorem dX2_init_18 : decode cX2_init 18 = .ok (.putfield 17, 3) := by decide +kernel
theorem dX2_init_21 : decode cX2_init 21 = .ok (.return_, 1) := by decide +kernel
theorem dX2_hasRoom_0 : decode cX2_hasRoom 0 = .ok (.iload_n 1, 1) := by decide +kernel
theorem dX2_hasRoom_1 : decode cX2_hasRoom 1 = .ok (.bipush 6, 2) := by decide +kernel
theorem dX2_hasRoom_3 : decode cX2_hasRoom 3 = .ok (.invokestatic 21, 3) := by decide +kernel
theorem dX2_hasRoom_6 : decode cX2_hasRoom 6 = .ok (.ifCond .eq 17, 3) := by decide +kernel
theorem dX2_hasRoom_9 : decode cX2_hasRoom 9 = .ok (.aload_n 0, 1) := by decide +kernel
theorem dX2_hasRoom_10 : decode cX2_hasRoom 10 = .ok (.getfield 17, 3) := by decide +kernel
theorem dX2_hasRoom_13 : decode cX2_hasRoom 13 = .ok (.iload_n 1, 1) := by decide +kernel
theorem dX2_hasRoom_14 : decode cX2_hasRoom 14 = .ok (.iaload, 1) := by decide +kernel
theorem dX2_hasRoom_15 : decode cX2_hasRoom 15 = .ok (.iconst 4, 1) := by decide +kernel
theorem dX2_hasRoom_16 : decode cX2_hasRoom 16 = .ok (.if_icmp .ge 7, 3) := by decide +kernel
theorem dX2_hasRoom_19 : decode cX2_hasRoom 19 = .ok (.iconst 1, 1) := by decide +kernel
theorem dX2_hasRoom_20 : decode cX2_hasRoom 20 = .ok (.goto 4, 3) := by decide +kernel
theorem dX2_hasRoom_23 : decode cX2_hasRoom 23 = .ok (.iconst 0, 1) := by decide +kernel
theorem dX2_hasRoom_24 : decode cX2_hasRoom 24 = .ok (.ireturn, 1) := by decide +kernel
theorem dX2_has_0 : decode cX2_has 0 = .ok (.iload_n 1, 1) := by decide +kernel
theorem dX2_has_1 : decode cX2_has 1 = .ok (.bipush 24, 2) := by decide +kernel
theorem dX2_has_3 : decode cX2_has 3 = .ok (.invokestatic 21, 3) := by decide +kernel
theorem dX2_has_6 : decode cX2_has 6 = .ok (.ifCond .eq 16, 3) := by decide +kernel
theorem dX2_has_9 : decode cX2_has 9 = .ok (.aload_n 0, 1) := by decide +kernel
theorem dX2_has_10 : decode cX2_has 10 = .ok (.getfield 11, 3) := by decide +kernel
theorem dX2_has_13 : decode cX2_has 13 = .ok (.iload_n 1, 1) := by decide +kernel
theorem dX2_has_14 : decode cX2_has 14 = .ok (.aaload, 1) := by decide +kernel
theorem dX2_has_15 : decode cX2_has 15 = .ok (.ifnull 7, 3) := by decide +kernel
theorem dX2_has_18 : decode cX2_has 18 = .ok (.iconst 1, 1) := by decide +kernel
theorem dX2_has_19 : decode cX2_has 19 = .ok (.goto 4, 3) := by decide +kernel
theorem dX2_has_22 : decode cX2_has 22 = .ok (.iconst 0, 1) := by decide +kernel
theorem dX2_has_23 : decode cX2_has 23 = .ok (.ireturn, 1) := by decide +kernel
theorem dX2_add_0 : decode cX2_add 0 = .ok (.aload_n 0, 1) := by decide +kernel
theorem dX2_add_1 : decode cX2_add 1 = .ok (.iload_n 1, 1) := by decide +kernel
theorem dX2_add_2 : decode cX2_add 2 = .ok (.invokevirtual 25, 3) := by decide +kernel
theorem dX2_add_5 : decode cX2_add 5 = .ok (.ifCond .ne 5, 3) := by decide +kernel
theorem dX2_add_8 : decode cX2_add 8 = .ok (.iconst (-1), 1) := by decide +kernel
theorem dX2_add_9 : decode cX2_add 9 = .ok (.ireturn, 1) := by decide +kernel
theorem dX2_add_10 : decode cX2_add 10 = .ok (.aload_n 0, 1) := by decide +kernel
theorem dX2_add_11 : decode cX2_add 11 = .ok (.iload_n 1, 1) := by decide +kernel
theorem dX2_add_12 : decode cX2_add 12 = .ok (.iconst 4, 1) := by decide +kernel
theorem dX2_add_13 : decode cX2_add 13 = .ok (.imul, 1) := by decide +kernel
theorem dX2_add_14 : decode cX2_add 14 = .ok (.aload_n 0, 1) := by decide +kernel
theorem dX2_add_15 : decode cX2_add 15 = .ok (.getfield 17, 3) := by decide +kernel
theorem dX2_add_18 : decode cX2_add 18 = .ok (.iload_n 1, 1) := by decide +kernel
theorem dX2_add_19 : decode cX2_add 19 = .ok (.iaload, 1) := by decide +kernel
theorem dX2_add_20 : decode cX2_add 20 = .ok (.iadd, 1) := by decide +kernel
theorem dX2_add_21 : decode cX2_add 21 = .ok (.aload_n 2, 1) := by decide +kernel
theorem dX2_add_22 : decode cX2_add 22 = .ok (.invokevirtual 29, 3) := by decide +kernel
theorem dX2_add_25 : decode cX2_add 25 = .ok (.aload_n 0, 1) := by decide +kernel
theorem dX2_add_26 : decode cX2_add 26 = .ok (.getfield 17, 3) := by decide +kernel
theorem dX2_add_29 : decode cX2_add 29 = .ok (.iload_n 1, 1) := by decide +kernel
theorem dX2_add_30 : decode cX2_add 30 = .ok (.dup2, 1) := by decide +kernel
theorem dX2_add_31 : decode cX2_add 31 = .ok (.iaload, 1) := by decide +kernel
theorem dX2_add_32 : decode cX2_add 32 = .ok (.iconst 1, 1) := by decide +kernel
theorem dX2_add_33 : decode cX2_add 33 = .ok (.iadd, 1) := by decide +kernel
theorem dX2_add_34 : decode cX2_add 34 = .ok (.iastore, 1) := by decide +kernel
theorem dX2_add_35 : decode cX2_add 35 = .ok (.aload_n 0, 1) := by decide +kernel
theorem dX2_add_36 : decode cX2_add 36 = .ok (.getfield 17, 3) := by decide +kernel
theorem dX2_add_39 : decode cX2_add 39 = .ok (.iload_n 1, 1) := by decide +kernel
theorem dX2_add_40 : decode cX2_add 40 = .ok (.iaload, 1) := by decide +kernel
theorem dX2_add_41 : decode cX2_add 41 = .ok (.ireturn, 1) := by decide +kernel
theorem dX2_put_0 : decode cX2_put 0 = .ok (.iload_n 1, 1) := by decide +kernel
theorem dX2_put_1 : decode cX2_put 1 = .ok (.bipush 24, 2) := by decide +kernel
theorem dX2_put_3 : decode cX2_put 3 = .ok (.invokestatic 21, 3) := by decide +kernel
theorem dX2_put_6 : decode cX2_put 6 = .ok (.ifCond .eq 10, 3) := by decide +kernel
theorem dX2_put_9 : decode cX2_put 9 = .ok (.aload_n 0, 1) := by decide +kernel
theorem dX2_put_10 : decode cX2_put 10 = .ok (.getfield 11, 3) := by decide +kernel
theorem dX2_put_13 : decode cX2_put 13 = .ok (.iload_n 1, 1) := by decide +kernel
theorem dX2_put_14 : decode cX2_put 14 = .ok (.aload_n 2, 1) := by decide +kernel
theorem dX2_put_15 : decode cX2_put 15 = .ok (.aastore, 1) := by decide +kernel
theorem dX2_put_16 : decode cX2_put 16 = .ok (.return_, 1) := by decide +kernel
theorem dX2_allBits_0 : decode cX2_allBits 0 = .ok (.iconst 0, 1) := by decide +kernel
theorem dX2_allBits_1 : decode cX2_allBits 1 = .ok (.istore_n 1, 1) := by decide +kernel
theorem dX2_allBits_2 : decode cX2_allBits 2 = .ok (.iconst 0, 1) := by decide +kernel
theorem dX2_allBits_3 : decode cX2_allBits 3 = .ok (.istore_n 2, 1) := by decide +kernel
theorem dX2_allBits_4 : decode cX2_allBits 4 = .ok (.iload_n 2, 1) := by decide +kernel
theorem dX2_allBits_5 : decode cX2_allBits 5 = .ok (.bipush 24, 2) := by decide +kernel
theorem dX2_allBits_7 : decode cX2_allBits 7 = .ok (.if_icmp .ge 24, 3) := by decide +kernel
theorem dX2_allBits_10 : decode cX2_allBits 10 = .ok (.aload_n 0, 1) := by decide +kernel
theorem dX2_allBits_11 : decode cX2_allBits 11 = .ok (.getfield 11, 3) := by decide +kernel
theorem dX2_allBits_14 : decode cX2_allBits 14 = .ok (.iload_n 2, 1) := by decide +kernel
theorem dX2_allBits_15 : decode cX2_allBits 15 = .ok (.aaload, 1) := by decide +kernel
theorem dX2_allBits_16 : decode cX2_allBits 16 = .ok (.ifnull 9, 3) := by decide +kernel
theorem dX2_allBits_19 : decode cX2_allBits 19 = .ok (.iload_n 1, 1) := by decide +kernel
theorem dX2_allBits_20 : decode cX2_allBits 20 = .ok (.iconst 1, 1) := by decide +kernel
theorem dX2_allBits_21 : decode cX2_allBits 21 = .ok (.iload_n 2, 1) := by decide +kernel
theorem dX2_allBits_22 : decode cX2_allBits 22 = .ok (.ishl, 1) := by decide +kernel
theorem dX2_allBits_23 : decode cX2_allBits 23 = .ok (.ior, 1) := by decide +kernel
theorem dX2_allBits_24 : decode cX2_allBits 24 = .ok (.istore_n 1, 1) := by decide +kernel
theorem dX2_allBits_25 : decode cX2_allBits 25 = .ok (.iinc 2 1, 3) := by decide +kernel
theorem dX2_allBits_28 : decode cX2_allBits 28 = .ok (.goto (-24), 3) := by decide +kernel
theorem dX2_allBits_31 : decode cX2_allBits 31 = .ok (.iload_n 1, 1) := by decide +kernel
theorem dX2_allBits_32 : decode cX2_allBits 32 = .ok (.ireturn, 1) := by decide +kernel
theorem dX2_takenBy_0 : decode cX2_takenBy 0 = .ok (.iload_n 1, 1) := by decide +kernel
theorem dX2_takenBy_1 : decode cX2_takenBy 1 = .ok (.invokestatic 33, 3) := by decide +kernel
theorem dX2_takenBy_4 : decode cX2_takenBy 4 = .ok (.istore_n 3, 1) := by decide +kernel
theorem dX2_takenBy_5 : decode cX2_takenBy 5 = .ok (.iload_n 3, 1) := by decide +kernel
theorem dX2_takenBy_6 : decode cX2_takenBy 6 = .ok (.bipush 6, 2) := by decide +kernel
theorem dX2_takenBy_8 : decode cX2_takenBy 8 = .ok (.invokestatic 21, 3) := by decide +kernel
theorem dX2_takenBy_11 : decode cX2_takenBy 11 = .ok (.ifCond .ne 5, 3) := by decide +kernel
theorem dX2_takenBy_14 : decode cX2_takenBy 14 = .ok (.iconst (-1), 1) := by decide +kernel
theorem dX2_takenBy_15 : decode cX2_takenBy 15 = .ok (.ireturn, 1) := by decide +kernel
theorem dX2_takenBy_16 : decode cX2_takenBy 16 = .ok (.iload_n 3, 1) := by decide +kernel
theorem dX2_takenBy_17 : decode cX2_takenBy 17 = .ok (.iconst 4, 1) := by decide +kernel
theorem dX2_takenBy_18 : decode cX2_takenBy 18 = .ok (.imul, 1) := by decide +kernel
theorem dX2_takenBy_19 : decode cX2_takenBy 19 = .ok (.istore 4, 2) := by decide +kernel
theorem dX2_takenBy_21 : decode cX2_takenBy 21 = .ok (.iload 4, 2) := by decide +kernel
theorem dX2_takenBy_23 : decode cX2_takenBy 23 = .ok (.istore 5, 2) := by decide +kernel
theorem dX2_takenBy_25 : decode cX2_takenBy 25 = .ok (.iload 5, 2) := by decide +kernel
theorem dX2_takenBy_27 : decode cX2_takenBy 27 = .ok (.iload 4, 2) := by decide +kernel
theorem dX2_takenBy_29 : decode cX2_takenBy 29 = .ok (.aload_n 0, 1) := by decide +kernel
theorem dX2_takenBy_30 : decode cX2_takenBy 30 = .ok (.getfield 17, 3) := by decide +kernel
theorem dX2_takenBy_33 : decode cX2_takenBy 33 = .ok (.iload_n 3, 1) := by decide +kernel
theorem dX2_takenBy_34 : decode cX2_takenBy 34 = .ok (.iaload, 1) := by decide +kernel
theorem dX2_takenBy_35 : decode cX2_takenBy 35 = .ok (.iadd, 1) := by decide +kernel
theorem dX2_takenBy_36 : decode cX2_takenBy 36 = .ok (.if_icmp .ge 35, 3) := by decide +kernel
theorem dX2_takenBy_39 : decode cX2_takenBy 39 = .ok (.aload_n 0, 1) := by decide +kernel
theorem dX2_takenBy_40 : decode cX2_takenBy 40 = .ok (.iload 5, 2) := by decide +kernel
theorem dX2_takenBy_42 : decode cX2_takenBy 42 = .ok (.invokevirtual 37, 3) := by decide +kernel
theorem dX2_takenBy_45 : decode cX2_takenBy 45 = .ok (.ifCond .eq 20, 3) := by decide +kernel
theorem dX2_takenBy_48 : decode cX2_takenBy 48 = .ok (.aload_n 0, 1) := by decide +kernel
theorem dX2_takenBy_49 : decode cX2_takenBy 49 = .ok (.getfield 11, 3) := by decide +kernel
theorem dX2_takenBy_52 : decode cX2_takenBy 52 = .ok (.iload 5, 2) := by decide +kernel
theorem dX2_takenBy_54 : decode cX2_takenBy 54 = .ok (.aaload, 1) := by decide +kernel
theorem dX2_takenBy_55 : decode cX2_takenBy 55 = .ok (.iload_n 2, 1) := by decide +kernel
theorem dX2_takenBy_56 : decode cX2_takenBy 56 = .ok (.invokevirtual 40, 3) := by decide +kernel
theorem dX2_takenBy_59 : decode cX2_takenBy 59 = .ok (.ifCond .eq 6, 3) := by decide +kernel
theorem dX2_takenBy_62 : decode cX2_takenBy 62 = .ok (.iload 5, 2) := by decide +kernel
theorem dX2_takenBy_64 : decode cX2_takenBy 64 = .ok (.ireturn, 1) := by decide +kernel
theorem dX2_takenBy_65 : decode cX2_takenBy 65 = .ok (.iinc 5 1, 3) := by decide +kernel
theorem dX2_takenBy_68 : decode cX2_takenBy 68 = .ok (.goto (-43), 3) := by decide +kernel
theorem dX2_takenBy_71 : decode cX2_takenBy 71 = .ok (.iconst (-1), 1) := by decide +kernel
theorem dX2_takenBy_72 : decode cX2_takenBy 72 = .ok (.ireturn, 1) := by decide +kernel
theorem dX2_stateBehind_0 : decode cX2_stateBehind 0 = .ok (.aload_n 0, 1) := by decide +kernel
theorem dX2_stateBehind_1 : decode cX2_stateBehind 1 = .ok (.iload_n 1, 1) := by decide +kernel
theorem dX2_stateBehind_2 : decode cX2_stateBehind 2 = .ok (.invokevirtual 37, 3) := by decide +kernel
theorem dX2_stateBehind_5 : decode cX2_stateBehind 5 = .ok (.ifCond .eq 17, 3) := by decide +kernel
theorem dX2_stateBehind_8 : decode cX2_stateBehind 8 = .ok (.aload_n 0, 1) := by decide +kernel
theorem dX2_stateBehind_9 : decode cX2_stateBehind 9 = .ok (.getfield 11, 3) := by decide +kernel
theorem dX2_stateBehind_12 : decode cX2_stateBehind 12 = .ok (.iload_n 1, 1) := by decide +kernel
theorem dX2_stateBehind_13 : decode cX2_stateBehind 13 = .ok (.aaload, 1) := by decide +kernel
theorem dX2_stateBehind_14 : decode cX2_stateBehind 14 = .ok (.iload_n 2, 1) := by decide +kernel
theorem dX2_stateBehind_15 : decode cX2_stateBehind 15 = .ok (.iload_n 3, 1) := by decide +kernel
theorem dX2_stateBehind_16 : decode cX2_stateBehind 16 = .ok (.invokevirtual 43, 3) := by decide +kernel
theorem dX2_stateBehind_19 : decode cX2_stateBehind 19 = .ok (.goto 4, 3) := by decide +kernel
theorem dX2_stateBehind_22 : decode cX2_stateBehind 22 = .ok (.iload_n 2, 1) := by decide +kernel
theorem dX2_stateBehind_23 : decode cX2_stateBehind 23 = .ok (.ireturn, 1) := by decide +kernel
theorem dX2_resultOf_0 : decode cX2_resultOf 0 = .ok (.aload_n 0, 1) := by decide +kernel
theorem dX2_resultOf_1 : decode cX2_resultOf 1 = .ok (.iload_n 1, 1) := by decide +kernel
theorem dX2_resultOf_2 : decode cX2_resultOf 2 = .ok (.invokevirtual 37, 3) := by decide +kernel
theorem dX2_resultOf_5 : decode cX2_resultOf 5 = .ok (.ifCond .eq 16, 3) := by decide +kernel
theorem dX2_resultOf_8 : decode cX2_resultOf 8 = .ok (.aload_n 0, 1) := by decide +kernel
theorem dX2_resultOf_9 : decode cX2_resultOf 9 = .ok (.getfield 11, 3) := by decide +kernel
theorem dX2_resultOf_12 : decode cX2_resultOf 12 = .ok (.iload_n 1, 1) := by decide +kernel
theorem dX2_resultOf_13 : decode cX2_resultOf 13 = .ok (.aaload, 1) := by decide +kernel
theorem dX2_resultOf_14 : decode cX2_resultOf 14 = .ok (.iload_n 2, 1) := by decide +kernel
theorem dX2_resultOf_15 : decode cX2_resultOf 15 = .ok (.invokevirtual 47, 3) := by decide +kernel
theorem dX2_resultOf_18 : decode cX2_resultOf 18 = .ok (.goto 4, 3) := by decide +kernel
theorem dX2_resultOf_21 : decode cX2_resultOf 21 = .ok (.iconst (-1), 1) := by decide +kernel
theorem dX2_resultOf_22 : decode cX2_resultOf 22 = .ok (.ireturn, 1) := by decide +kernel
theorem dX3_init_0 : decode cX3_init 0 = .ok (.aload_n 0, 1) := by decide +kernel
theorem dX3_init_1 : decode cX3_init 1 = .ok (.invokespecial 1, 3) := by decide +kernel
theorem dX3_init_4 : decode cX3_init 4 = .ok (.aload_n 0, 1) := by decide +kernel
theorem dX3_init_5 : decode cX3_init 5 = .ok (.new 7, 3) := by decide +kernel
theorem dX3_init_8 : decode cX3_init 8 = .ok (.dup, 1) := by decide +kernel
theorem dX3_init_9 : decode cX3_init 9 = .ok (.invokespecial 9, 3) := by decide +kernel
theorem dX3_init_12 : decode cX3_init 12 = .ok (.putfield 10, 3) := by decide +kernel
theorem dX3_init_15 : decode cX3_init 15 = .ok (.aload_n 0, 1) := by decide +kernel
theorem dX3_init_16 : decode cX3_init 16 = .ok (.iconst 0, 1) := by decide +kernel
theorem dX3_init_17 : decode cX3_init 17 = .ok (.putfield 16, 3) := by decide +kernel
theorem dX3_init_20 : decode cX3_init 20 = .ok (.aload_n 0, 1) := by decide +kernel
theorem dX3_init_21 : decode cX3_init 21 = .ok (.iconst 0, 1) := by decide +kernel
theorem dX3_init_22 : decode cX3_init 22 = .ok (.putfield 20, 3) := by decide +kernel
theorem dX3_init_25 : decode cX3_init 25 = .ok (.aload_n 0, 1) := by decide +kernel
theorem dX3_init_26 : decode cX3_init 26 = .ok (.iconst 0, 1) := by decide +kernel
theorem dX3_init_27 : decode cX3_init 27 = .ok (.putfield 24, 3) := by decide +kernel
theorem dX3_init_30 : decode cX3_init 30 = .ok (.return_, 1) := by decide +kernel
theorem dX3_settle_0 : decode cX3_settle 0 = .ok (.aload_n 0, 1) := by decide +kernel
theorem dX3_settle_1 : decode cX3_settle 1 = .ok (.getfield 10, 3) := by decide +kernel
theorem dX3_settle_4 : decode cX3_settle 4 = .ok (.aload_n 1, 1) := by decide +kernel
theorem dX3_settle_5 : decode cX3_settle 5 = .ok (.invokevirtual 27, 3) := by decide +kernel
theorem dX3_settle_8 : decode cX3_settle 8 = .ok (.aload_n 0, 1) := by decide +kernel
theorem dX3_settle_9 : decode cX3_settle 9 = .ok (.aload_n 1, 1) := by decide +kernel
theorem dX3_settle_10 : decode cX3_settle 10 = .ok (.invokevirtual 31, 3) := by decide +kernel
theorem dX3_settle_13 : decode cX3_settle 13 = .ok (.putfield 16, 3) := by decide +kernel
theorem dX3_settle_16 : decode cX3_settle 16 = .ok (.aload_n 0, 1) := by decide +kernel
theorem dX3_settle_17 : decode cX3_settle 17 = .ok (.iconst 0, 1) := by decide +kernel
theorem dX3_settle_18 : decode cX3_settle 18 = .ok (.putfield 20, 3) := by decide +kernel
theorem dX3_settle_21 : decode cX3_settle 21 = .ok (.aload_n 0, 1) := by decide +kernel
theorem dX3_settle_22 : decode cX3_settle 22 = .ok (.iconst 0, 1) := by decide +kernel
theorem dX3_settle_23 : decode cX3_settle 23 = .ok (.putfield 24, 3) := by decide +kernel
theorem dX3_settle_26 : decode cX3_settle 26 = .ok (.return_, 1) := by decide +kernel
theorem dX4_init_0 : decode cX4_init 0 = .ok (.aload_n 0, 1) := by decide +kernel
theorem dX4_init_1 : decode cX4_init 1 = .ok (.invokespecial 3, 3) := by decide +kernel
theorem dX4_init_4 : decode cX4_init 4 = .ok (.aload_n 0, 1) := by decide +kernel
theorem dX4_init_5 : decode cX4_init 5 = .ok (.sipush 200, 3) := by decide +kernel
theorem dX4_init_8 : decode cX4_init 8 = .ok (.newarray .int, 2) := by decide +kernel
theorem dX4_init_10 : decode cX4_init 10 = .ok (.putfield 9, 3) := by decide +kernel
theorem dX4_init_13 : decode cX4_init 13 = .ok (.aload_n 0, 1) := by decide +kernel
theorem dX4_init_14 : decode cX4_init 14 = .ok (.iconst 0, 1) := by decide +kernel
theorem dX4_init_15 : decode cX4_init 15 = .ok (.putfield 15, 3) := by decide +kernel
theorem dX4_init_18 : decode cX4_init 18 = .ok (.aload_n 0, 1) := by decide +kernel
theorem dX4_init_19 : decode cX4_init 19 = .ok (.iconst 0, 1) := by decide +kernel
theorem dX4_init_20 : decode cX4_init 20 = .ok (.putfield 19, 3) := by decide +kernel
theorem dX4_init_23 : decode cX4_init 23 = .ok (.aload_n 0, 1) := by decide +kernel
theorem dX4_init_24 : decode cX4_init 24 = .ok (.iconst (-1), 1) := by decide +kernel
theorem dX4_init_25 : decode cX4_init 25 = .ok (.putfield 22, 3) := by decide +kernel
theorem dX4_init_28 : decode cX4_init 28 = .ok (.aload_n 0, 1) := by decide +kernel
theorem dX4_init_29 : decode cX4_init 29 = .ok (.aload_n 1, 1) := by decide +kernel
theorem dX4_init_30 : decode cX4_init 30 = .ok (.putfield 25, 3) := by decide +kernel
theorem dX4_init_33 : decode cX4_init 33 = .ok (.return_, 1) := by decide +kernel
theorem dX4_play_0 : decode cX4_play 0 = .ok (.iconst 0, 1) := by decide +kernel
theorem dX4_play_1 : decode cX4_play 1 = .ok (.istore_n 2, 1) := by decide +kernel
theorem dX4_play_2 : decode cX4_play 2 = .ok (.aload_n 0, 1) := by decide +kernel
theorem dX4_play_3 : decode cX4_play 3 = .ok (.aload_n 1, 1) := by decide +kernel
theorem dX4_play_4 : decode cX4_play 4 = .ok (.invokevirtual 29, 3) := by decide +kernel
theorem dX4_play_7 : decode cX4_play 7 = .ok (.putfield 15, 3) := by decide +kernel
theorem dX4_play_10 : decode cX4_play 10 = .ok (.aload_n 0, 1) := by decide +kernel
theorem dX4_play_11 : decode cX4_play 11 = .ok (.iconst 0, 1) := by decide +kernel
theorem dX4_play_12 : decode cX4_play 12 = .ok (.putfield 19, 3) := by decide +kernel
theorem dX4_play_15 : decode cX4_play 15 = .ok (.aload_n 0, 1) := by decide +kernel
theorem dX4_play_16 : decode cX4_play 16 = .ok (.iconst (-1), 1) := by decide +kernel
theorem dX4_play_17 : decode cX4_play 17 = .ok (.putfield 22, 3) := by decide +kernel
theorem dX4_play_20 : decode cX4_play 20 = .ok (.iconst 0, 1) := by decide +kernel
theorem dX4_play_21 : decode cX4_play 21 = .ok (.istore_n 3, 1) := by decide +kernel
theorem dX4_play_22 : decode cX4_play 22 = .ok (.iload_n 3, 1) := by decide +kernel
theorem dX4_play_23 : decode cX4_play 23 = .ok (.aload_n 0, 1) := by decide +kernel
theorem dX4_play_24 : decode cX4_play 24 = .ok (.getfield 15, 3) := by decide +kernel
theorem dX4_play_27 : decode cX4_play 27 = .ok (.if_icmp .ge 100, 3) := by decide +kernel
theorem dX4_play_30 : decode cX4_play 30 = .ok (.iload_n 3, 1) := by decide +kernel
theorem dX4_play_31 : decode cX4_play 31 = .ok (.sipush 200, 3) := by decide +kernel
theorem dX4_play_34 : decode cX4_play 34 = .ok (.if_icmp .ge 93, 3) := by decide +kernel
theorem dX4_play_37 : decode cX4_play 37 = .ok (.aload_n 1, 1) := by decide +kernel
theorem dX4_play_38 : decode cX4_play 38 = .ok (.iload_n 3, 1) := by decide +kernel
theorem dX4_play_39 : decode cX4_play 39 = .ok (.invokevirtual 34, 3) := by decide +kernel
theorem dX4_play_42 : decode cX4_play 42 = .ok (.istore 4, 2) := by decide +kernel
theorem dX4_play_44 : decode cX4_play 44 = .ok (.aload_n 0, 1) := by decide +kernel
theorem dX4_play_45 : decode cX4_play 45 = .ok (.aload_n 0, 1) := by decide +kernel
theorem dX4_play_46 : decode cX4_play 46 = .ok (.getfield 25, 3) := by decide +kernel
theorem dX4_play_49 : decode cX4_play 49 = .ok (.iload 4, 2) := by decide +kernel
theorem dX4_play_51 : decode cX4_play 51 = .ok (.iload_n 2, 1) := by decide +kernel
theorem dX4_play_52 : decode cX4_play 52 = .ok (.invokevirtual 38, 3) := by decide +kernel
theorem dX4_play_55 : decode cX4_play 55 = .ok (.putfield 22, 3) := by decide +kernel
theorem dX4_play_58 : decode cX4_play 58 = .ok (.aload_n 0, 1) := by decide +kernel
theorem dX4_play_59 : decode cX4_play 59 = .ok (.getfield 25, 3) := by decide +kernel
theorem dX4_play_62 : decode cX4_play 62 = .ok (.aload_n 0, 1) := by decide +kernel
theorem dX4_play_63 : decode cX4_play 63 = .ok (.getfield 22, 3) := by decide +kernel
theorem dX4_play_66 : decode cX4_play 66 = .ok (.iload_n 2, 1) := by decide +kernel
theorem dX4_play_67 : decode cX4_play 67 = .ok (.iload 4, 2) := by decide +kernel
theorem dX4_play_69 : decode cX4_play 69 = .ok (.invokestatic 44, 3) := by decide +kernel
theorem dX4_play_72 : decode cX4_play 72 = .ok (.invokevirtual 47, 3) := by decide +kernel
theorem dX4_play_75 : decode cX4_play 75 = .ok (.istore_n 2, 1) := by decide +kernel
theorem dX4_play_76 : decode cX4_play 76 = .ok (.aload_n 0, 1) := by decide +kernel
theorem dX4_play_77 : decode cX4_play 77 = .ok (.getfield 9, 3) := by decide +kernel
theorem dX4_play_80 : decode cX4_play 80 = .ok (.iload_n 3, 1) := by decide +kernel
theorem dX4_play_81 : decode cX4_play 81 = .ok (.aload_n 0, 1) := by decide +kernel
theorem dX4_play_82 : decode cX4_play 82 = .ok (.getfield 25, 3) := by decide +kernel
theorem dX4_play_85 : decode cX4_play 85 = .ok (.aload_n 0, 1) := by decide +kernel
theorem dX4_play_86 : decode cX4_play 86 = .ok (.getfield 22, 3) := by decide +kernel
theorem dX4_play_89 : decode cX4_play 89 = .ok (.iload_n 2, 1) := by decide +kernel
theorem dX4_play_90 : decode cX4_play 90 = .ok (.invokevirtual 51, 3) := by decide +kernel
theorem dX4_play_93 : decode cX4_play 93 = .ok (.iastore, 1) := by decide +kernel
theorem dX4_play_94 : decode cX4_play 94 = .ok (.aload_n 0, 1) := by decide +kernel
theorem dX4_play_95 : decode cX4_play 95 = .ok (.dup, 1) := by decide +kernel
theorem dX4_play_96 : decode cX4_play 96 = .ok (.getfield 19, 3) := by decide +kernel
theorem dX4_play_99 : decode cX4_play 99 = .ok (.aload_n 0, 1) := by decide +kernel
theorem dX4_play_100 : decode cX4_play 100 = .ok (.getfield 22, 3) := by decide +kernel
theorem dX4_play_103 : decode cX4_play 103 = .ok (.iconst (-1), 1) := by decide +kernel
theorem dX4_play_104 : decode cX4_play 104 = .ok (.if_icmp .ne 7, 3) := by decide +kernel
theorem dX4_play_107 : decode cX4_play 107 = .ok (.iconst 0, 1) := by decide +kernel
theorem dX4_play_108 : decode cX4_play 108 = .ok (.goto 9, 3) := by decide +kernel
theorem dX4_play_111 : decode cX4_play 111 = .ok (.iconst 1, 1) := by decide +kernel
theorem dX4_play_112 : decode cX4_play 112 = .ok (.aload_n 0, 1) := by decide +kernel
theorem dX4_play_113 : decode cX4_play 113 = .ok (.getfield 22, 3) := by decide +kernel
theorem dX4_play_116 : decode cX4_play 116 = .ok (.ishl, 1) := by decide +kernel
theorem dX4_play_117 : decode cX4_play 117 = .ok (.ior, 1) := by decide +kernel
theorem dX4_play_118 : decode cX4_play 118 = .ok (.putfield 19, 3) := by decide +kernel
theorem dX4_play_121 : decode cX4_play 121 = .ok (.iinc 3 1, 3) := by decide +kernel
theorem dX4_play_124 : decode cX4_play 124 = .ok (.goto (-102), 3) := by decide +kernel
theorem dX4_play_127 : decode cX4_play 127 = .ok (.return_, 1) := by decide +kernel
theorem dX4_meets_0 : decode cX4_meets 0 = .ok (.aload_n 0, 1) := by decide +kernel
theorem dX4_meets_1 : decode cX4_meets 1 = .ok (.aload_n 1, 1) := by decide +kernel
theorem dX4_meets_2 : decode cX4_meets 2 = .ok (.invokevirtual 54, 3) := by decide +kernel
theorem dX4_meets_5 : decode cX4_meets 5 = .ok (.aload_n 0, 1) := by decide +kernel
theorem dX4_meets_6 : decode cX4_meets 6 = .ok (.getfield 19, 3) := by decide +kernel
theorem dX4_meets_9 : decode cX4_meets 9 = .ok (.ireturn, 1) := by decide +kernel
theorem dX4_met_0 : decode cX4_met 0 = .ok (.aload_n 0, 1) := by decide +kernel
theorem dX4_met_1 : decode cX4_met 1 = .ok (.getfield 19, 3) := by decide +kernel
theorem dX4_met_4 : decode cX4_met 4 = .ok (.ireturn, 1) := by decide +kernel
theorem dX4_lastTaken_0 : decode cX4_lastTaken 0 = .ok (.aload_n 0, 1) := by decide +kernel
theorem dX4_lastTaken_1 : decode cX4_lastTaken 1 = .ok (.getfield 22, 3) := by decide +kernel
theorem dX4_lastTaken_4 : decode cX4_lastTaken 4 = .ok (.ireturn, 1) := by decide +kernel
theorem dX4_lastResult_0 : decode cX4_lastResult 0 = .ok (.aload_n 0, 1) := by decide +kernel
theorem dX4_lastResult_1 : decode cX4_lastResult 1 = .ok (.aload_n 0, 1) := by decide +kernel
theorem dX4_lastResult_2 : decode cX4_lastResult 2 = .ok (.getfield 15, 3) := by decide +kernel
theorem dX4_lastResult_5 : decode cX4_lastResult 5 = .ok (.iconst 1, 1) := by decide +kernel
theorem dX4_lastResult_6 : decode cX4_lastResult 6 = .ok (.isub, 1) := by decide +kernel
theorem dX4_lastResult_7 : decode cX4_lastResult 7 = .ok (.invokevirtual 58, 3) := by decide +kernel
theorem dX4_lastResult_10 : decode cX4_lastResult 10 = .ok (.ireturn, 1) := by decide +kernel
theorem dX4_resultAt_0 : decode cX4_resultAt 0 = .ok (.iload_n 1, 1) := by decide +kernel
theorem dX4_resultAt_1 : decode cX4_resultAt 1 = .ok (.aload_n 0, 1) := by decide +kernel
theorem dX4_resultAt_2 : decode cX4_resultAt 2 = .ok (.getfield 15, 3) := by decide +kernel
theorem dX4_resultAt_5 : decode cX4_resultAt 5 = .ok (.invokestatic 61, 3) := by decide +kernel
theorem dX4_resultAt_8 : decode cX4_resultAt 8 = .ok (.ifCond .eq 19, 3) := by decide +kernel
theorem dX4_resultAt_11 : decode cX4_resultAt 11 = .ok (.iload_n 1, 1) := by decide +kernel
theorem dX4_resultAt_12 : decode cX4_resultAt 12 = .ok (.sipush 200, 3) := by decide +kernel
theorem dX4_resultAt_15 : decode cX4_resultAt 15 = .ok (.if_icmp .ge 12, 3) := by decide +kernel
theorem dX4_resultAt_18 : decode cX4_resultAt 18 = .ok (.aload_n 0, 1) := by decide +kernel
theorem dX4_resultAt_19 : decode cX4_resultAt 19 = .ok (.getfield 9, 3) := by decide +kernel
theorem dX4_resultAt_22 : decode cX4_resultAt 22 = .ok (.iload_n 1, 1) := by decide +kernel
theorem dX4_resultAt_23 : decode cX4_resultAt 23 = .ok (.iaload, 1) := by decide +kernel
theorem dX4_resultAt_24 : decode cX4_resultAt 24 = .ok (.goto 4, 3) := by decide +kernel
theorem dX4_resultAt_27 : decode cX4_resultAt 27 = .ok (.iconst (-1), 1) := by decide +kernel
theorem dX4_resultAt_28 : decode cX4_resultAt 28 = .ok (.ireturn, 1) := by decide +kernel
theorem dX4_firstDifference_0 : decode cX4_firstDifference 0 = .ok (.iconst 0, 1) := by decide +kernel
theorem dX4_firstDifference_1 : decode cX4_firstDifference 1 = .ok (.istore_n 2, 1) := by decide +kernel
theorem dX4_firstDifference_2 : decode cX4_firstDifference 2 = .ok (.iload_n 2, 1) := by decide +kernel
theorem dX4_firstDifference_3 : decode cX4_firstDifference 3 = .ok (.aload_n 0, 1) := by decide +kernel
theorem dX4_firstDifference_4 : decode cX4_firstDifference 4 = .ok (.getfield 15, 3) := by decide +kernel
theorem dX4_firstDifference_7 : decode cX4_firstDifference 7 = .ok (.if_icmp .ge 24, 3) := by decide +kernel
theorem dX4_firstDifference_10 : decode cX4_firstDifference 10 = .ok (.aload_n 0, 1) := by decide +kernel
theorem dX4_firstDifference_11 : decode cX4_firstDifference 11 = .ok (.iload_n 2, 1) := by decide +kernel
theorem dX4_firstDifference_12 : decode cX4_firstDifference 12 = .ok (.invokevirtual 58, 3) := by decide +kernel
