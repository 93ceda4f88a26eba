theorem dX4_init_0 : decode cX4_init 0 = .ok (.aload_n 0, 1) := by decide +kernel
theorem dX4_init_1 : decode cX4_init 1 = .ok (.invokespecial 1, 3) := by decide +kernel
theorem dX4_init_4 : decode cX4_init 4 = .ok (.aload_n 0, 1) := by decide +kernel
theorem dX4_init_5 : decode cX4_init 5 = .ok (.iconst 5, 1) := by decide +kernel
theorem dX4_init_6 : decode cX4_init 6 = .ok (.newarray .int, 2) := by decide +kernel
theorem dX4_init_8 : decode cX4_init 8 = .ok (.putfield 7, 3) := by decide +kernel
theorem dX4_init_11 : decode cX4_init 11 = .ok (.aload_n 0, 1) := by decide +kernel
theorem dX4_init_12 : decode cX4_init 12 = .ok (.bipush 15, 2) := by decide +kernel
theorem dX4_init_14 : decode cX4_init 14 = .ok (.newarray .int, 2) := by decide +kernel
theorem dX4_init_16 : decode cX4_init 16 = .ok (.putfield 13, 3) := by decide +kernel
theorem dX4_init_19 : decode cX4_init 19 = .ok (.aload_n 0, 1) := by decide +kernel
theorem dX4_init_20 : decode cX4_init 20 = .ok (.bipush 15, 2) := by decide +kernel
theorem dX4_init_22 : decode cX4_init 22 = .ok (.newarray .int, 2) := by decide +kernel
theorem dX4_init_24 : decode cX4_init 24 = .ok (.putfield 16, 3) := by decide +kernel
theorem dX4_init_27 : decode cX4_init 27 = .ok (.aload_n 0, 1) := by decide +kernel
theorem dX4_init_28 : decode cX4_init 28 = .ok (.bipush 15, 2) := by decide +kernel
theorem dX4_init_30 : decode cX4_init 30 = .ok (.newarray .int, 2) := by decide +kernel
theorem dX4_init_32 : decode cX4_init 32 = .ok (.putfield 19, 3) := by decide +kernel
theorem dX4_init_35 : decode cX4_init 35 = .ok (.aload_n 0, 1) := by decide +kernel
theorem dX4_init_36 : decode cX4_init 36 = .ok (.bipush 15, 2) := by decide +kernel
theorem dX4_init_38 : decode cX4_init 38 = .ok (.newarray .int, 2) := by decide +kernel
theorem dX4_init_40 : decode cX4_init 40 = .ok (.putfield 22, 3) := by decide +kernel
theorem dX4_init_43 : decode cX4_init 43 = .ok (.aload_n 0, 1) := by decide +kernel
theorem dX4_init_44 : decode cX4_init 44 = .ok (.bipush 40, 2) := by decide +kernel
theorem dX4_init_46 : decode cX4_init 46 = .ok (.newarray .int, 2) := by decide +kernel
theorem dX4_init_48 : decode cX4_init 48 = .ok (.putfield 25, 3) := by decide +kernel
theorem dX4_init_51 : decode cX4_init 51 = .ok (.aload_n 0, 1) := by decide +kernel
theorem dX4_init_52 : decode cX4_init 52 = .ok (.bipush 40, 2) := by decide +kernel
theorem dX4_init_54 : decode cX4_init 54 = .ok (.newarray .int, 2) := by decide +kernel
theorem dX4_init_56 : decode cX4_init 56 = .ok (.putfield 28, 3) := by decide +kernel
theorem dX4_init_59 : decode cX4_init 59 = .ok (.aload_n 0, 1) := by decide +kernel
theorem dX4_init_60 : decode cX4_init 60 = .ok (.bipush 40, 2) := by decide +kernel
theorem dX4_init_62 : decode cX4_init 62 = .ok (.newarray .int, 2) := by decide +kernel
theorem dX4_init_64 : decode cX4_init 64 = .ok (.putfield 31, 3) := by decide +kernel
theorem dX4_init_67 : decode cX4_init 67 = .ok (.aload_n 0, 1) := by decide +kernel
theorem dX4_init_68 : decode cX4_init 68 = .ok (.bipush 40, 2) := by decide +kernel
theorem dX4_init_70 : decode cX4_init 70 = .ok (.newarray .int, 2) := by decide +kernel
theorem dX4_init_72 : decode cX4_init 72 = .ok (.putfield 34, 3) := by decide +kernel
theorem dX4_init_75 : decode cX4_init 75 = .ok (.aload_n 0, 1) := by decide +kernel
theorem dX4_init_76 : decode cX4_init 76 = .ok (.bipush 40, 2) := by decide +kernel
theorem dX4_init_78 : decode cX4_init 78 = .ok (.newarray .int, 2) := by decide +kernel
theorem dX4_init_80 : decode cX4_init 80 = .ok (.putfield 37, 3) := by decide +kernel
theorem dX4_init_83 : decode cX4_init 83 = .ok (.aload_n 0, 1) := by decide +kernel
theorem dX4_init_84 : decode cX4_init 84 = .ok (.bipush 40, 2) := by decide +kernel
theorem dX4_init_86 : decode cX4_init 86 = .ok (.newarray .int, 2) := by decide +kernel
theorem dX4_init_88 : decode cX4_init 88 = .ok (.putfield 40, 3) := by decide +kernel
theorem dX4_init_91 : decode cX4_init 91 = .ok (.aload_n 0, 1) := by decide +kernel
theorem dX4_init_92 : decode cX4_init 92 = .ok (.bipush 40, 2) := by decide +kernel
theorem dX4_init_94 : decode cX4_init 94 = .ok (.newarray .int, 2) := by decide +kernel
theorem dX4_init_96 : decode cX4_init 96 = .ok (.putfield 43, 3) := by decide +kernel
theorem dX4_init_99 : decode cX4_init 99 = .ok (.aload_n 0, 1) := by decide +kernel
theorem dX4_init_100 : decode cX4_init 100 = .ok (.bipush 40, 2) := by decide +kernel
theorem dX4_init_102 : decode cX4_init 102 = .ok (.newarray .boolean, 2) := by decide +kernel
theorem dX4_init_104 : decode cX4_init 104 = .ok (.putfield 46, 3) := by decide +kernel
theorem dX4_init_107 : decode cX4_init 107 = .ok (.aload_n 0, 1) := by decide +kernel
theorem dX4_init_108 : decode cX4_init 108 = .ok (.bipush 120, 2) := by decide +kernel
theorem dX4_init_110 : decode cX4_init 110 = .ok (.newarray .int, 2) := by decide +kernel
theorem dX4_init_112 : decode cX4_init 112 = .ok (.putfield 50, 3) := by decide +kernel
theorem dX4_init_115 : decode cX4_init 115 = .ok (.aload_n 0, 1) := by decide +kernel
theorem dX4_init_116 : decode cX4_init 116 = .ok (.bipush 120, 2) := by decide +kernel
theorem dX4_init_118 : decode cX4_init 118 = .ok (.newarray .int, 2) := by decide +kernel
theorem dX4_init_120 : decode cX4_init 120 = .ok (.putfield 53, 3) := by decide +kernel
theorem dX4_init_123 : decode cX4_init 123 = .ok (.aload_n 0, 1) := by decide +kernel
theorem dX4_init_124 : decode cX4_init 124 = .ok (.bipush 120, 2) := by decide +kernel
theorem dX4_init_126 : decode cX4_init 126 = .ok (.newarray .int, 2) := by decide +kernel
theorem dX4_init_128 : decode cX4_init 128 = .ok (.putfield 56, 3) := by decide +kernel
theorem dX4_init_131 : decode cX4_init 131 = .ok (.aload_n 0, 1) := by decide +kernel
theorem dX4_init_132 : decode cX4_init 132 = .ok (.bipush 10, 2) := by decide +kernel
theorem dX4_init_134 : decode cX4_init 134 = .ok (.newarray .boolean, 2) := by decide +kernel
theorem dX4_init_136 : decode cX4_init 136 = .ok (.putfield 59, 3) := by decide +kernel
theorem dX4_init_139 : decode cX4_init 139 = .ok (.aload_n 0, 1) := by decide +kernel
theorem dX4_init_140 : decode cX4_init 140 = .ok (.bipush 6, 2) := by decide +kernel
theorem dX4_init_142 : decode cX4_init 142 = .ok (.newarray .int, 2) := by decide +kernel
theorem dX4_init_144 : decode cX4_init 144 = .ok (.putfield 62, 3) := by decide +kernel
theorem dX4_init_147 : decode cX4_init 147 = .ok (.aload_n 0, 1) := by decide +kernel
theorem dX4_init_148 : decode cX4_init 148 = .ok (.iconst 4, 1) := by decide +kernel
theorem dX4_init_149 : decode cX4_init 149 = .ok (.newarray .int, 2) := by decide +kernel
theorem dX4_init_151 : decode cX4_init 151 = .ok (.putfield 65, 3) := by decide +kernel
theorem dX4_init_154 : decode cX4_init 154 = .ok (.return_, 1) := by decide +kernel
theorem dX4_thrown_0 : decode cX4_thrown 0 = .ok (.aload_n 0, 1) := by decide +kernel
theorem dX4_thrown_1 : decode cX4_thrown 1 = .ok (.getfield 68, 3) := by decide +kernel
theorem dX4_thrown_4 : decode cX4_thrown 4 = .ok (.ireturn, 1) := by decide +kernel
theorem dX4_throwing_0 : decode cX4_throwing 0 = .ok (.aload_n 0, 1) := by decide +kernel
theorem dX4_throwing_1 : decode cX4_throwing 1 = .ok (.iload_n 1, 1) := by decide +kernel
theorem dX4_throwing_2 : decode cX4_throwing 2 = .ok (.ifCond .eq 7, 3) := by decide +kernel
theorem dX4_throwing_5 : decode cX4_throwing 5 = .ok (.iconst 1, 1) := by decide +kernel
theorem dX4_throwing_6 : decode cX4_throwing 6 = .ok (.goto 29, 3) := by decide +kernel
theorem dX4_throwing_9 : decode cX4_throwing 9 = .ok (.iload_n 2, 1) := by decide +kernel
theorem dX4_throwing_10 : decode cX4_throwing 10 = .ok (.ifCond .eq 7, 3) := by decide +kernel
theorem dX4_throwing_13 : decode cX4_throwing 13 = .ok (.iconst 2, 1) := by decide +kernel
theorem dX4_throwing_14 : decode cX4_throwing 14 = .ok (.goto 21, 3) := by decide +kernel
theorem dX4_throwing_17 : decode cX4_throwing 17 = .ok (.iload_n 3, 1) := by decide +kernel
theorem dX4_throwing_18 : decode cX4_throwing 18 = .ok (.ifCond .eq 7, 3) := by decide +kernel
theorem dX4_throwing_21 : decode cX4_throwing 21 = .ok (.iconst 3, 1) := by decide +kernel
theorem dX4_throwing_22 : decode cX4_throwing 22 = .ok (.goto 13, 3) := by decide +kernel
theorem dX4_throwing_25 : decode cX4_throwing 25 = .ok (.iload 4, 2) := by decide +kernel
theorem dX4_throwing_27 : decode cX4_throwing 27 = .ok (.ifCond .eq 7, 3) := by decide +kernel
theorem dX4_throwing_30 : decode cX4_throwing 30 = .ok (.iconst 4, 1) := by decide +kernel
theorem dX4_throwing_31 : decode cX4_throwing 31 = .ok (.goto 4, 3) := by decide +kernel
theorem dX4_throwing_34 : decode cX4_throwing 34 = .ok (.iconst 0, 1) := by decide +kernel
theorem dX4_throwing_35 : decode cX4_throwing 35 = .ok (.putfield 68, 3) := by decide +kernel
theorem dX4_throwing_38 : decode cX4_throwing 38 = .ok (.aload_n 0, 1) := by decide +kernel
theorem dX4_throwing_39 : decode cX4_throwing 39 = .ok (.getfield 68, 3) := by decide +kernel
theorem dX4_throwing_42 : decode cX4_throwing 42 = .ok (.ifCond .le 7, 3) := by decide +kernel
theorem dX4_throwing_45 : decode cX4_throwing 45 = .ok (.iconst 1, 1) := by decide +kernel
theorem dX4_throwing_46 : decode cX4_throwing 46 = .ok (.goto 4, 3) := by decide +kernel
theorem dX4_throwing_49 : decode cX4_throwing 49 = .ok (.iconst 0, 1) := by decide +kernel
theorem dX4_throwing_50 : decode cX4_throwing 50 = .ok (.ireturn, 1) := by decide +kernel
theorem dX4_in_0 : decode cX4_in 0 = .ok (.iload_n 0, 1) := by decide +kernel
theorem dX4_in_1 : decode cX4_in 1 = .ok (.iload_n 1, 1) := by decide +kernel
theorem dX4_in_2 : decode cX4_in 2 = .ok (.if_icmp .lt 12, 3) := by decide +kernel
theorem dX4_in_5 : decode cX4_in 5 = .ok (.iload_n 0, 1) := by decide +kernel
theorem dX4_in_6 : decode cX4_in 6 = .ok (.iload_n 2, 1) := by decide +kernel
theorem dX4_in_7 : decode cX4_in 7 = .ok (.if_icmp .gt 7, 3) := by decide +kernel
theorem dX4_in_10 : decode cX4_in 10 = .ok (.iconst 1, 1) := by decide +kernel
theorem dX4_in_11 : decode cX4_in 11 = .ok (.goto 4, 3) := by decide +kernel
theorem dX4_in_14 : decode cX4_in 14 = .ok (.iconst 0, 1) := by decide +kernel
theorem dX4_in_15 : decode cX4_in 15 = .ok (.ireturn, 1) := by decide +kernel
theorem dX4_isThing_0 : decode cX4_isThing 0 = .ok (.iload_n 1, 1) := by decide +kernel
theorem dX4_isThing_1 : decode cX4_isThing 1 = .ok (.iconst 0, 1) := by decide +kernel
theorem dX4_isThing_2 : decode cX4_isThing 2 = .ok (.aload_n 0, 1) := by decide +kernel
theorem dX4_isThing_3 : decode cX4_isThing 3 = .ok (.getfield 72, 3) := by decide +kernel
theorem dX4_isThing_6 : decode cX4_isThing 6 = .ok (.iconst 1, 1) := by decide +kernel
theorem dX4_isThing_7 : decode cX4_isThing 7 = .ok (.isub, 1) := by decide +kernel
theorem dX4_isThing_8 : decode cX4_isThing 8 = .ok (.invokestatic 75, 3) := by decide +kernel
theorem dX4_isThing_11 : decode cX4_isThing 11 = .ok (.ireturn, 1) := by decide +kernel
theorem dX4_isTest_0 : decode cX4_isTest 0 = .ok (.iload_n 0, 1) := by decide +kernel
theorem dX4_isTest_1 : decode cX4_isTest 1 = .ok (.iconst 0, 1) := by decide +kernel
theorem dX4_isTest_2 : decode cX4_isTest 2 = .ok (.iconst 4, 1) := by decide +kernel
theorem dX4_isTest_3 : decode cX4_isTest 3 = .ok (.invokestatic 75, 3) := by decide +kernel
theorem dX4_isTest_6 : decode cX4_isTest 6 = .ok (.ifCond .eq 16, 3) := by decide +kernel
theorem dX4_isTest_9 : decode cX4_isTest 9 = .ok (.iload_n 1, 1) := by decide +kernel
theorem dX4_isTest_10 : decode cX4_isTest 10 = .ok (.iconst 0, 1) := by decide +kernel
theorem dX4_isTest_11 : decode cX4_isTest 11 = .ok (.iconst 2, 1) := by decide +kernel
theorem dX4_isTest_12 : decode cX4_isTest 12 = .ok (.invokestatic 75, 3) := by decide +kernel
theorem dX4_isTest_15 : decode cX4_isTest 15 = .ok (.ifCond .eq 7, 3) := by decide +kernel
theorem dX4_isTest_18 : decode cX4_isTest 18 = .ok (.iconst 1, 1) := by decide +kernel
theorem dX4_isTest_19 : decode cX4_isTest 19 = .ok (.goto 4, 3) := by decide +kernel
theorem dX4_isTest_22 : decode cX4_isTest 22 = .ok (.iconst 0, 1) := by decide +kernel
theorem dX4_isTest_23 : decode cX4_isTest 23 = .ok (.ireturn, 1) := by decide +kernel
theorem dX4_day_0 : decode cX4_day 0 = .ok (.aload_n 0, 1) := by decide +kernel
theorem dX4_day_1 : decode cX4_day 1 = .ok (.iload_n 1, 1) := by decide +kernel
theorem dX4_day_2 : decode cX4_day 2 = .ok (.aload_n 0, 1) := by decide +kernel
theorem dX4_day_3 : decode cX4_day 3 = .ok (.getfield 79, 3) := by decide +kernel
theorem dX4_day_6 : decode cX4_day 6 = .ok (.if_icmp .lt 9, 3) := by decide +kernel
theorem dX4_day_9 : decode cX4_day 9 = .ok (.iload_n 1, 1) := by decide +kernel
theorem dX4_day_10 : decode cX4_day 10 = .ok (.ldc 82, 2) := by decide +kernel
theorem dX4_day_12 : decode cX4_day 12 = .ok (.if_icmp .le 7, 3) := by decide +kernel
theorem dX4_day_15 : decode cX4_day 15 = .ok (.iconst 1, 1) := by decide +kernel
theorem dX4_day_16 : decode cX4_day 16 = .ok (.goto 4, 3) := by decide +kernel
theorem dX4_day_19 : decode cX4_day 19 = .ok (.iconst 0, 1) := by decide +kernel
theorem dX4_day_20 : decode cX4_day 20 = .ok (.iconst 0, 1) := by decide +kernel
theorem dX4_day_21 : decode cX4_day 21 = .ok (.iconst 0, 1) := by decide +kernel
theorem dX4_day_22 : decode cX4_day 22 = .ok (.iconst 0, 1) := by decide +kernel
theorem dX4_day_23 : decode cX4_day 23 = .ok (.invokevirtual 83, 3) := by decide +kernel
theorem dX4_day_26 : decode cX4_day 26 = .ok (.ifCond .eq 4, 3) := by decide +kernel
theorem dX4_day_29 : decode cX4_day 29 = .ok (.return_, 1) := by decide +kernel
theorem dX4_day_30 : decode cX4_day 30 = .ok (.aload_n 0, 1) := by decide +kernel
theorem dX4_day_31 : decode cX4_day 31 = .ok (.iload_n 1, 1) := by decide +kernel
theorem dX4_day_32 : decode cX4_day 32 = .ok (.putfield 79, 3) := by decide +kernel
theorem dX4_day_35 : decode cX4_day 35 = .ok (.return_, 1) := by decide +kernel
theorem dX4_age_0 : decode cX4_age 0 = .ok (.aload_n 0, 1) := by decide +kernel
theorem dX4_age_1 : decode cX4_age 1 = .ok (.iload_n 1, 1) := by decide +kernel
theorem dX4_age_2 : decode cX4_age 2 = .ok (.iconst 0, 1) := by decide +kernel
theorem dX4_age_3 : decode cX4_age 3 = .ok (.iconst 4, 1) := by decide +kernel
theorem dX4_age_4 : decode cX4_age 4 = .ok (.invokestatic 75, 3) := by decide +kernel
theorem dX4_age_7 : decode cX4_age 7 = .ok (.ifCond .ne 7, 3) := by decide +kernel
theorem dX4_age_10 : decode cX4_age 10 = .ok (.iconst 1, 1) := by decide +kernel
theorem dX4_age_11 : decode cX4_age 11 = .ok (.goto 4, 3) := by decide +kernel
theorem dX4_age_14 : decode cX4_age 14 = .ok (.iconst 0, 1) := by decide +kernel
theorem dX4_age_15 : decode cX4_age 15 = .ok (.iload_n 2, 1) := by decide +kernel
theorem dX4_age_16 : decode cX4_age 16 = .ok (.iconst 0, 1) := by decide +kernel
theorem dX4_age_17 : decode cX4_age 17 = .ok (.sipush 20000, 3) := by decide +kernel
theorem dX4_age_20 : decode cX4_age 20 = .ok (.invokestatic 75, 3) := by decide +kernel
theorem dX4_age_23 : decode cX4_age 23 = .ok (.ifCond .ne 7, 3) := by decide +kernel
theorem dX4_age_26 : decode cX4_age 26 = .ok (.iconst 1, 1) := by decide +kernel
theorem dX4_age_27 : decode cX4_age 27 = .ok (.goto 4, 3) := by decide +kernel
theorem dX4_age_30 : decode cX4_age 30 = .ok (.iconst 0, 1) := by decide +kernel
theorem dX4_age_31 : decode cX4_age 31 = .ok (.iconst 0, 1) := by decide +kernel
theorem dX4_age_32 : decode cX4_age 32 = .ok (.iconst 0, 1) := by decide +kernel
theorem dX4_age_33 : decode cX4_age 33 = .ok (.invokevirtual 83, 3) := by decide +kernel
theorem dX4_age_36 : decode cX4_age 36 = .ok (.ifCond .eq 4, 3) := by decide +kernel
theorem dX4_age_39 : decode cX4_age 39 = .ok (.return_, 1) := by decide +kernel
theorem dX4_age_40 : decode cX4_age 40 = .ok (.aload_n 0, 1) := by decide +kernel
theorem dX4_age_41 : decode cX4_age 41 = .ok (.getfield 7, 3) := by decide +kernel
theorem dX4_age_44 : decode cX4_age 44 = .ok (.iload_n 1, 1) := by decide +kernel
theorem dX4_age_45 : decode cX4_age 45 = .ok (.iload_n 2, 1) := by decide +kernel
theorem dX4_age_46 : decode cX4_age 46 = .ok (.iastore, 1) := by decide +kernel
theorem dX4_age_47 : decode cX4_age 47 = .ok (.return_, 1) := by decide +kernel
theorem dX4_test_0 : decode cX4_test 0 = .ok (.aload_n 0, 1) := by decide +kernel
theorem dX4_test_1 : decode cX4_test 1 = .ok (.iload_n 1, 1) := by decide +kernel
theorem dX4_test_2 : decode cX4_test 2 = .ok (.iload_n 2, 1) := by decide +kernel
theorem dX4_test_3 : decode cX4_test 3 = .ok (.invokestatic 87, 3) := by decide +kernel
theorem dX4_test_6 : decode cX4_test 6 = .ok (.ifCond .ne 7, 3) := by decide +kernel
theorem dX4_test_9 : decode cX4_test 9 = .ok (.iconst 1, 1) := by decide +kernel
theorem dX4_test_10 : decode cX4_test 10 = .ok (.goto 4, 3) := by decide +kernel
theorem dX4_test_13 : decode cX4_test 13 = .ok (.iconst 0, 1) := by decide +kernel
theorem dX4_test_14 : decode cX4_test 14 = .ok (.iload_n 3, 1) := by decide +kernel
theorem dX4_test_15 : decode cX4_test 15 = .ok (.iconst 0, 1) := by decide +kernel
theorem dX4_test_16 : decode cX4_test 16 = .ok (.sipush 5000, 3) := by decide +kernel
theorem dX4_test_19 : decode cX4_test 19 = .ok (.invokestatic 75, 3) := by decide +kernel
theorem dX4_test_22 : decode cX4_test 22 = .ok (.ifCond .eq 15, 3) := by decide +kernel
theorem dX4_test_25 : decode cX4_test 25 = .ok (.iload 4, 2) := by decide +kernel
theorem dX4_test_27 : decode cX4_test 27 = .ok (.iconst 0, 1) := by decide +kernel
theorem dX4_test_28 : decode cX4_test 28 = .ok (.sipush 1000, 3) := by decide +kernel
theorem dX4_test_31 : decode cX4_test 31 = .ok (.invokestatic 75, 3) := by decide +kernel
theorem dX4_test_34 : decode cX4_test 34 = .ok (.ifCond .ne 7, 3) := by decide +kernel
theorem dX4_test_37 : decode cX4_test 37 = .ok (.iconst 1, 1) := by decide +kernel
theorem dX4_test_38 : decode cX4_test 38 = .ok (.goto 4, 3) := by decide +kernel
theorem dX4_test_41 : decode cX4_test 41 = .ok (.iconst 0, 1) := by decide +kernel
theorem dX4_test_42 : decode cX4_test 42 = .ok (.iconst 0, 1) := by decide +kernel
theorem dX4_test_43 : decode cX4_test 43 = .ok (.iconst 0, 1) := by decide +kernel
theorem dX4_test_44 : decode cX4_test 44 = .ok (.invokevirtual 83, 3) := by decide +kernel
theorem dX4_test_47 : decode cX4_test 47 = .ok (.ifCond .eq 4, 3) := by decide +kernel
theorem dX4_test_50 : decode cX4_test 50 = .ok (.return_, 1) := by decide +kernel
theorem dX4_test_51 : decode cX4_test 51 = .ok (.aload_n 0, 1) := by decide +kernel
theorem dX4_test_52 : decode cX4_test 52 = .ok (.getfield 13, 3) := by decide +kernel
theorem dX4_test_55 : decode cX4_test 55 = .ok (.iconst 3, 1) := by decide +kernel
theorem dX4_test_56 : decode cX4_test 56 = .ok (.iload_n 1, 1) := by decide +kernel
theorem dX4_test_57 : decode cX4_test 57 = .ok (.imul, 1) := by decide +kernel
theorem dX4_test_58 : decode cX4_test 58 = .ok (.iload_n 2, 1) := by decide +kernel
theorem dX4_test_59 : decode cX4_test 59 = .ok (.iadd, 1) := by decide +kernel
theorem dX4_test_60 : decode cX4_test 60 = .ok (.iload_n 3, 1) := by decide +kernel
theorem dX4_test_61 : decode cX4_test 61 = .ok (.iastore, 1) := by decide +kernel
theorem dX4_test_62 : decode cX4_test 62 = .ok (.aload_n 0, 1) := by decide +kernel
theorem dX4_test_63 : decode cX4_test 63 = .ok (.getfield 16, 3) := by decide +kernel
theorem dX4_test_66 : decode cX4_test 66 = .ok (.iconst 3, 1) := by decide +kernel
theorem dX4_test_67 : decode cX4_test 67 = .ok (.iload_n 1, 1) := by decide +kernel
theorem dX4_test_68 : decode cX4_test 68 = .ok (.imul, 1) := by decide +kernel
theorem dX4_test_69 : decode cX4_test 69 = .ok (.iload_n 2, 1) := by decide +kernel
theorem dX4_test_70 : decode cX4_test 70 = .ok (.iadd, 1) := by decide +kernel
theorem dX4_test_71 : decode cX4_test 71 = .ok (.iload 4, 2) := by decide +kernel
theorem dX4_test_73 : decode cX4_test 73 = .ok (.iastore, 1) := by decide +kernel
theorem dX4_test_74 : decode cX4_test 74 = .ok (.return_, 1) := by decide +kernel
theorem dX4_bounds_0 : decode cX4_bounds 0 = .ok (.aload_n 0, 1) := by decide +kernel
theorem dX4_bounds_1 : decode cX4_bounds 1 = .ok (.iload_n 1, 1) := by decide +kernel
theorem dX4_bounds_2 : decode cX4_bounds 2 = .ok (.iload_n 2, 1) := by decide +kernel
theorem dX4_bounds_3 : decode cX4_bounds 3 = .ok (.invokestatic 87, 3) := by decide +kernel
theorem dX4_bounds_6 : decode cX4_bounds 6 = .ok (.ifCond .ne 7, 3) := by decide +kernel
theorem dX4_bounds_9 : decode cX4_bounds 9 = .ok (.iconst 1, 1) := by decide +kernel
theorem dX4_bounds_10 : decode cX4_bounds 10 = .ok (.goto 4, 3) := by decide +kernel
theorem dX4_bounds_13 : decode cX4_bounds 13 = .ok (.iconst 0, 1) := by decide +kernel
theorem dX4_bounds_14 : decode cX4_bounds 14 = .ok (.iload_n 3, 1) := by decide +kernel
theorem dX4_bounds_15 : decode cX4_bounds 15 = .ok (.ifCond .lt 17, 3) := by decide +kernel
theorem dX4_bounds_18 : decode cX4_bounds 18 = .ok (.iload_n 3, 1) := by decide +kernel
theorem dX4_bounds_19 : decode cX4_bounds 19 = .ok (.iload 4, 2) := by decide +kernel
theorem dX4_bounds_21 : decode cX4_bounds 21 = .ok (.if_icmp .gt 11, 3) := by decide +kernel
theorem dX4_bounds_24 : decode cX4_bounds 24 = .ok (.iload 4, 2) := by decide +kernel
theorem dX4_bounds_26 : decode cX4_bounds 26 = .ok (.sipush 10000, 3) := by decide +kernel
theorem dX4_bounds_29 : decode cX4_bounds 29 = .ok (.if_icmp .le 7, 3) := by decide +kernel
theorem dX4_bounds_32 : decode cX4_bounds 32 = .ok (.iconst 1, 1) := by decide +kernel
theorem dX4_bounds_33 : decode cX4_bounds 33 = .ok (.goto 4, 3) := by decide +kernel
theorem dX4_bounds_36 : decode cX4_bounds 36 = .ok (.iconst 0, 1) := by decide +kernel
theorem dX4_bounds_37 : decode cX4_bounds 37 = .ok (.iconst 0, 1) := by decide +kernel
theorem dX4_bounds_38 : decode cX4_bounds 38 = .ok (.iconst 0, 1) := by decide +kernel
theorem dX4_bounds_39 : decode cX4_bounds 39 = .ok (.invokevirtual 83, 3) := by decide +kernel
theorem dX4_bounds_42 : decode cX4_bounds 42 = .ok (.ifCond .eq 4, 3) := by decide +kernel
theorem dX4_bounds_45 : decode cX4_bounds 45 = .ok (.return_, 1) := by decide +kernel
theorem dX4_bounds_46 : decode cX4_bounds 46 = .ok (.aload_n 0, 1) := by decide +kernel
theorem dX4_bounds_47 : decode cX4_bounds 47 = .ok (.getfield 19, 3) := by decide +kernel
theorem dX4_bounds_50 : decode cX4_bounds 50 = .ok (.iconst 3, 1) := by decide +kernel
theorem dX4_bounds_51 : decode cX4_bounds 51 = .ok (.iload_n 1, 1) := by decide +kernel
theorem dX4_bounds_52 : decode cX4_bounds 52 = .ok (.imul, 1) := by decide +kernel
theorem dX4_bounds_53 : decode cX4_bounds 53 = .ok (.iload_n 2, 1) := by decide +kernel
theorem dX4_bounds_54 : decode cX4_bounds 54 = .ok (.iadd, 1) := by decide +kernel
theorem dX4_bounds_55 : decode cX4_bounds 55 = .ok (.iload_n 3, 1) := by decide +kernel
theorem dX4_bounds_56 : decode cX4_bounds 56 = .ok (.iastore, 1) := by decide +kernel
theorem dX4_bounds_57 : decode cX4_bounds 57 = .ok (.aload_n 0, 1) := by decide +kernel
theorem dX4_bounds_58 : decode cX4_bounds 58 = .ok (.getfield 22, 3) := by decide +kernel
theorem dX4_bounds_61 : decode cX4_bounds 61 = .ok (.iconst 3, 1) := by decide +kernel
theorem dX4_bounds_62 : decode cX4_bounds 62 = .ok (.iload_n 1, 1) := by decide +kernel
theorem dX4_bounds_63 : decode cX4_bounds 63 = .ok (.imul, 1) := by decide +kernel
theorem dX4_bounds_64 : decode cX4_bounds 64 = .ok (.iload_n 2, 1) := by decide +kernel
theorem dX4_bounds_65 : decode cX4_bounds 65 = .ok (.iadd, 1) := by decide +kernel
theorem dX4_bounds_66 : decode cX4_bounds 66 = .ok (.iload 4, 2) := by decide +kernel
theorem dX4_bounds_68 : decode cX4_bounds 68 = .ok (.iastore, 1) := by decide +kernel
theorem dX4_bounds_69 : decode cX4_bounds 69 = .ok (.return_, 1) := by decide +kernel
theorem dX4_letterOf_0 : decode cX4_letterOf 0 = .ok (.iconst 0, 1) := by decide +kernel
theorem dX4_letterOf_1 : decode cX4_letterOf 1 = .ok (.istore_n 1, 1) := by decide +kernel
theorem dX4_letterOf_2 : decode cX4_letterOf 2 = .ok (.iload_n 0, 1) := by decide +kernel
theorem dX4_letterOf_3 : decode cX4_letterOf 3 = .ok (.istore_n 2, 1) := by decide +kernel
theorem dX4_letterOf_4 : decode cX4_letterOf 4 = .ok (.iconst 0, 1) := by decide +kernel
theorem dX4_letterOf_5 : decode cX4_letterOf 5 = .ok (.istore_n 3, 1) := by decide +kernel
theorem dX4_letterOf_6 : decode cX4_letterOf 6 = .ok (.iload_n 3, 1) := by decide +kernel
theorem dX4_letterOf_7 : decode cX4_letterOf 7 = .ok (.bipush 6, 2) := by decide +kernel
theorem dX4_letterOf_9 : decode cX4_letterOf 9 = .ok (.if_icmp .ge 45, 3) := by decide +kernel
theorem dX4_letterOf_12 : decode cX4_letterOf 12 = .ok (.iload_n 1, 1) := by decide +kernel
theorem dX4_letterOf_13 : decode cX4_letterOf 13 = .ok (.iload_n 2, 1) := by decide +kernel
theorem dX4_letterOf_14 : decode cX4_letterOf 14 = .ok (.bipush 10, 2) := by decide +kernel
theorem dX4_letterOf_16 : decode cX4_letterOf 16 = .ok (.irem, 1) := by decide +kernel
theorem dX4_letterOf_17 : decode cX4_letterOf 17 = .ok (.iload_n 3, 1) := by decide +kernel
theorem dX4_letterOf_18 : decode cX4_letterOf 18 = .ok (.iconst 3, 1) := by decide +kernel
theorem dX4_letterOf_19 : decode cX4_letterOf 19 = .ok (.irem, 1) := by decide +kernel
theorem dX4_letterOf_20 : decode cX4_letterOf 20 = .ok (.ifCond .ne 7, 3) := by decide +kernel
theorem dX4_letterOf_23 : decode cX4_letterOf 23 = .ok (.iconst 1, 1) := by decide +kernel
theorem dX4_letterOf_24 : decode cX4_letterOf 24 = .ok (.goto 16, 3) := by decide +kernel
theorem dX4_letterOf_27 : decode cX4_letterOf 27 = .ok (.iload_n 3, 1) := by decide +kernel
theorem dX4_letterOf_28 : decode cX4_letterOf 28 = .ok (.iconst 3, 1) := by decide +kernel
theorem dX4_letterOf_29 : decode cX4_letterOf 29 = .ok (.irem, 1) := by decide +kernel
theorem dX4_letterOf_30 : decode cX4_letterOf 30 = .ok (.iconst 1, 1) := by decide +kernel
theorem dX4_letterOf_31 : decode cX4_letterOf 31 = .ok (.if_icmp .ne 7, 3) := by decide +kernel
theorem dX4_letterOf_34 : decode cX4_letterOf 34 = .ok (.iconst 3, 1) := by decide +kernel
theorem dX4_letterOf_35 : decode cX4_letterOf 35 = .ok (.goto 5, 3) := by decide +kernel
theorem dX4_letterOf_38 : decode cX4_letterOf 38 = .ok (.bipush 7, 2) := by decide +kernel
theorem dX4_letterOf_40 : decode cX4_letterOf 40 = .ok (.imul, 1) := by decide +kernel
theorem dX4_letterOf_41 : decode cX4_letterOf 41 = .ok (.iadd, 1) := by decide +kernel
theorem dX4_letterOf_42 : decode cX4_letterOf 42 = .ok (.istore_n 1, 1) := by decide +kernel
theorem dX4_letterOf_43 : decode cX4_letterOf 43 = .ok (.iload_n 2, 1) := by decide +kernel
theorem dX4_letterOf_44 : decode cX4_letterOf 44 = .ok (.bipush 10, 2) := by decide +kernel
theorem dX4_letterOf_46 : decode cX4_letterOf 46 = .ok (.idiv, 1) := by decide +kernel
theorem dX4_letterOf_47 : decode cX4_letterOf 47 = .ok (.istore_n 2, 1) := by decide +kernel
theorem dX4_letterOf_48 : decode cX4_letterOf 48 = .ok (.iinc 3 1, 3) := by decide +kernel
theorem dX4_letterOf_51 : decode cX4_letterOf 51 = .ok (.goto (-45), 3) := by decide +kernel
theorem dX4_letterOf_54 : decode cX4_letterOf 54 = .ok (.bipush 65, 2) := by decide +kernel
theorem dX4_letterOf_56 : decode cX4_letterOf 56 = .ok (.iload_n 1, 1) := by decide +kernel
theorem dX4_letterOf_57 : decode cX4_letterOf 57 = .ok (.bipush 23, 2) := by decide +kernel
theorem dX4_letterOf_59 : decode cX4_letterOf 59 = .ok (.irem, 1) := by decide +kernel
theorem dX4_letterOf_60 : decode cX4_letterOf 60 = .ok (.iadd, 1) := by decide +kernel
theorem dX4_letterOf_61 : decode cX4_letterOf 61 = .ok (.ireturn, 1) := by decide +kernel
theorem dX4_isSerial_0 : decode cX4_isSerial 0 = .ok (.iload_n 0, 1) := by decide +kernel
theorem dX4_isSerial_1 : decode cX4_isSerial 1 = .ok (.iconst 0, 1) := by decide +kernel
theorem dX4_isSerial_2 : decode cX4_isSerial 2 = .ok (.ldc 91, 2) := by decide +kernel
theorem dX4_isSerial_4 : decode cX4_isSerial 4 = .ok (.invokestatic 75, 3) := by decide +kernel
theorem dX4_isSerial_7 : decode cX4_isSerial 7 = .ok (.ireturn, 1) := by decide +kernel
theorem dX4_letter_0 : decode cX4_letter 0 = .ok (.aload_n 0, 1) := by decide +kernel
theorem dX4_letter_1 : decode cX4_letter 1 = .ok (.iload_n 1, 1) := by decide +kernel
theorem dX4_letter_2 : decode cX4_letter 2 = .ok (.invokestatic 92, 3) := by decide +kernel
theorem dX4_letter_5 : decode cX4_letter 5 = .ok (.ifCond .ne 7, 3) := by decide +kernel
theorem dX4_letter_8 : decode cX4_letter 8 = .ok (.iconst 1, 1) := by decide +kernel
theorem dX4_letter_9 : decode cX4_letter 9 = .ok (.goto 4, 3) := by decide +kernel
theorem dX4_letter_12 : decode cX4_letter 12 = .ok (.iconst 0, 1) := by decide +kernel
theorem dX4_letter_13 : decode cX4_letter 13 = .ok (.iconst 0, 1) := by decide +kernel
theorem dX4_letter_14 : decode cX4_letter 14 = .ok (.iconst 0, 1) := by decide +kernel
theorem dX4_letter_15 : decode cX4_letter 15 = .ok (.iconst 0, 1) := by decide +kernel
theorem dX4_letter_16 : decode cX4_letter 16 = .ok (.invokevirtual 83, 3) := by decide +kernel
theorem dX4_letter_19 : decode cX4_letter 19 = .ok (.ifCond .eq 5, 3) := by decide +kernel
theorem dX4_letter_22 : decode cX4_letter 22 = .ok (.iconst 0, 1) := by decide +kernel
theorem dX4_letter_23 : decode cX4_letter 23 = .ok (.ireturn, 1) := by decide +kernel
theorem dX4_letter_24 : decode cX4_letter 24 = .ok (.iload_n 1, 1) := by decide +kernel
theorem dX4_letter_25 : decode cX4_letter 25 = .ok (.invokestatic 96, 3) := by decide +kernel
theorem dX4_letter_28 : decode cX4_letter 28 = .ok (.ireturn, 1) := by decide +kernel
theorem dX4_thing_0 : decode cX4_thing 0 = .ok (.iload_n 1, 1) := by decide +kernel
theorem dX4_thing_1 : decode cX4_thing 1 = .ok (.iconst 0, 1) := by decide +kernel
theorem dX4_thing_2 : decode cX4_thing 2 = .ok (.iconst 4, 1) := by decide +kernel
theorem dX4_thing_3 : decode cX4_thing 3 = .ok (.invokestatic 75, 3) := by decide +kernel
theorem dX4_thing_6 : decode cX4_thing 6 = .ok (.ifCond .eq 25, 3) := by decide +kernel
theorem dX4_thing_9 : decode cX4_thing 9 = .ok (.iload 4, 2) := by decide +kernel
theorem dX4_thing_11 : decode cX4_thing 11 = .ok (.iconst 0, 1) := by decide +kernel
theorem dX4_thing_12 : decode cX4_thing 12 = .ok (.bipush 9, 2) := by decide +kernel
theorem dX4_thing_14 : decode cX4_thing 14 = .ok (.invokestatic 75, 3) := by decide +kernel
theorem dX4_thing_17 : decode cX4_thing 17 = .ok (.ifCond .eq 14, 3) := by decide +kernel
theorem dX4_thing_20 : decode cX4_thing 20 = .ok (.iload 5, 2) := by decide +kernel
theorem dX4_thing_22 : decode cX4_thing 22 = .ok (.iconst 0, 1) := by decide +kernel
theorem dX4_thing_23 : decode cX4_thing 23 = .ok (.bipush 19, 2) := by decide +kernel
theorem dX4_thing_25 : decode cX4_thing 25 = .ok (.invokestatic 75, 3) := by decide +kernel
theorem dX4_thing_28 : decode cX4_thing 28 = .ok (.ifCond .ne 7, 3) := by decide +kernel
theorem dX4_thing_31 : decode cX4_thing 31 = .ok (.iconst 1, 1) := by decide +kernel
theorem dX4_thing_32 : decode cX4_thing 32 = .ok (.goto 4, 3) := by decide +kernel
theorem dX4_thing_35 : decode cX4_thing 35 = .ok (.iconst 0, 1) := by decide +kernel
theorem dX4_thing_36 : decode cX4_thing 36 = .ok (.istore 7, 2) := by decide +kernel
theorem dX4_thing_38 : decode cX4_thing 38 = .ok (.iload_n 2, 1) := by decide +kernel
theorem dX4_thing_39 : decode cX4_thing 39 = .ok (.invokestatic 92, 3) := by decide +kernel
theorem dX4_thing_42 : decode cX4_thing 42 = .ok (.ifCond .eq 16, 3) := by decide +kernel
theorem dX4_thing_45 : decode cX4_thing 45 = .ok (.iload 6, 2) := by decide +kernel
theorem dX4_thing_47 : decode cX4_thing 47 = .ok (.iconst 0, 1) := by decide +kernel
theorem dX4_thing_48 : decode cX4_thing 48 = .ok (.aload_n 0, 1) := by decide +kernel
theorem dX4_thing_49 : decode cX4_thing 49 = .ok (.getfield 79, 3) := by decide +kernel
theorem dX4_thing_52 : decode cX4_thing 52 = .ok (.invokestatic 75, 3) := by decide +kernel
theorem dX4_thing_55 : decode cX4_thing 55 = .ok (.ifCond .ne 7, 3) := by decide +kernel
theorem dX4_thing_58 : decode cX4_thing 58 = .ok (.iconst 1, 1) := by decide +kernel
theorem dX4_thing_59 : decode cX4_thing 59 = .ok (.goto 4, 3) := by decide +kernel
theorem dX4_thing_62 : decode cX4_thing 62 = .ok (.iconst 0, 1) := by decide +kernel
theorem dX4_thing_63 : decode cX4_thing 63 = .ok (.istore 8, 2) := by decide +kernel
theorem dX4_thing_65 : decode cX4_thing 65 = .ok (.iload 8, 2) := by decide +kernel
theorem dX4_thing_67 : decode cX4_thing 67 = .ok (.ifCond .ne 15, 3) := by decide +kernel
theorem dX4_thing_70 : decode cX4_thing 70 = .ok (.iload_n 2, 1) := by decide +kernel
theorem dX4_thing_71 : decode cX4_thing 71 = .ok (.invokestatic 96, 3) := by decide +kernel
theorem dX4_thing_74 : decode cX4_thing 74 = .ok (.iload_n 3, 1) := by decide +kernel
theorem dX4_thing_75 : decode cX4_thing 75 = .ok (.if_icmp .eq 7, 3) := by decide +kernel
theorem dX4_thing_78 : decode cX4_thing 78 = .ok (.iconst 1, 1) := by decide +kernel
theorem dX4_thing_79 : decode cX4_thing 79 = .ok (.goto 4, 3) := by decide +kernel
theorem dX4_thing_82 : decode cX4_thing 82 = .ok (.iconst 0, 1) := by decide +kernel
theorem dX4_thing_83 : decode cX4_thing 83 = .ok (.istore 9, 2) := by decide +kernel
theorem dX4_thing_85 : decode cX4_thing 85 = .ok (.iconst 0, 1) := by decide +kernel
theorem dX4_thing_86 : decode cX4_thing 86 = .ok (.istore 10, 2) := by decide +kernel
theorem dX4_thing_88 : decode cX4_thing 88 = .ok (.iload 10, 2) := by decide +kernel
theorem dX4_thing_90 : decode cX4_thing 90 = .ok (.aload_n 0, 1) := by decide +kernel
theorem dX4_thing_91 : decode cX4_thing 91 = .ok (.getfield 72, 3) := by decide +kernel
theorem dX4_thing_94 : decode cX4_thing 94 = .ok (.if_icmp .ge 32, 3) := by decide +kernel
theorem dX4_thing_97 : decode cX4_thing 97 = .ok (.iload 9, 2) := by decide +kernel
theorem dX4_thing_99 : decode cX4_thing 99 = .ok (.ifCond .ne 14, 3) := by decide +kernel
theorem dX4_thing_102 : decode cX4_thing 102 = .ok (.aload_n 0, 1) := by decide +kernel
theorem dX4_thing_103 : decode cX4_thing 103 = .ok (.getfield 28, 3) := by decide +kernel
theorem dX4_thing_106 : decode cX4_thing 106 = .ok (.iload 10, 2) := by decide +kernel
theorem dX4_thing_108 : decode cX4_thing 108 = .ok (.iaload, 1) := by decide +kernel
theorem dX4_thing_109 : decode cX4_thing 109 = .ok (.iload_n 2, 1) := by decide +kernel
theorem dX4_thing_110 : decode cX4_thing 110 = .ok (.if_icmp .ne 7, 3) := by decide +kernel
theorem dX4_thing_113 : decode cX4_thing 113 = .ok (.iconst 1, 1) := by decide +kernel
theorem dX4_thing_114 : decode cX4_thing 114 = .ok (.goto 4, 3) := by decide +kernel
theorem dX4_thing_117 : decode cX4_thing 117 = .ok (.iconst 0, 1) := by decide +kernel
theorem dX4_thing_118 : decode cX4_thing 118 = .ok (.istore 9, 2) := by decide +kernel
theorem dX4_thing_120 : decode cX4_thing 120 = .ok (.iinc 10 1, 3) := by decide +kernel
theorem dX4_thing_123 : decode cX4_thing 123 = .ok (.goto (-35), 3) := by decide +kernel
theorem dX4_thing_126 : decode cX4_thing 126 = .ok (.aload_n 0, 1) := by decide +kernel
theorem dX4_thing_127 : decode cX4_thing 127 = .ok (.iload 7, 2) := by decide +kernel
theorem dX4_thing_129 : decode cX4_thing 129 = .ok (.iload 8, 2) := by decide +kernel
theorem dX4_thing_131 : decode cX4_thing 131 = .ok (.iload 9, 2) := by decide +kernel
theorem dX4_thing_133 : decode cX4_thing 133 = .ok (.aload_n 0, 1) := by decide +kernel
theorem dX4_thing_134 : decode cX4_thing 134 = .ok (.getfield 72, 3) := by decide +kernel
theorem dX4_thing_137 : decode cX4_thing 137 = .ok (.bipush 40, 2) := by decide +kernel
theorem dX4_thing_139 : decode cX4_thing 139 = .ok (.if_icmp .ne 7, 3) := by decide +kernel
theorem dX4_thing_142 : decode cX4_thing 142 = .ok (.iconst 1, 1) := by decide +kernel
theorem dX4_thing_143 : decode cX4_thing 143 = .ok (.goto 4, 3) := by decide +kernel
theorem dX4_thing_146 : decode cX4_thing 146 = .ok (.iconst 0, 1) := by decide +kernel
theorem dX4_thing_147 : decode cX4_thing 147 = .ok (.invokevirtual 83, 3) := by decide +kernel
theorem dX4_thing_150 : decode cX4_thing 150 = .ok (.ifCond .eq 5, 3) := by decide +kernel
theorem dX4_thing_153 : decode cX4_thing 153 = .ok (.iconst 0, 1) := by decide +kernel
theorem dX4_thing_154 : decode cX4_thing 154 = .ok (.ireturn, 1) := by decide +kernel
theorem dX4_thing_155 : decode cX4_thing 155 = .ok (.aload_n 0, 1) := by decide +kernel
theorem dX4_thing_156 : decode cX4_thing 156 = .ok (.getfield 25, 3) := by decide +kernel
theorem dX4_thing_159 : decode cX4_thing 159 = .ok (.aload_n 0, 1) := by decide +kernel
theorem dX4_thing_160 : decode cX4_thing 160 = .ok (.getfield 72, 3) := by decide +kernel
theorem dX4_thing_163 : decode cX4_thing 163 = .ok (.iload_n 1, 1) := by decide +kernel
theorem dX4_thing_164 : decode cX4_thing 164 = .ok (.iastore, 1) := by decide +kernel
theorem dX4_thing_165 : decode cX4_thing 165 = .ok (.aload_n 0, 1) := by decide +kernel
theorem dX4_thing_166 : decode cX4_thing 166 = .ok (.getfield 28, 3) := by decide +kernel
theorem dX4_thing_169 : decode cX4_thing 169 = .ok (.aload_n 0, 1) := by decide +kernel
theorem dX4_thing_170 : decode cX4_thing 170 = .ok (.getfield 72, 3) := by decide +kernel
theorem dX4_thing_173 : decode cX4_thing 173 = .ok (.iload_n 2, 1) := by decide +kernel
theorem dX4_thing_174 : decode cX4_thing 174 = .ok (.iastore, 1) := by decide +kernel
theorem dX4_thing_175 : decode cX4_thing 175 = .ok (.aload_n 0, 1) := by decide +kernel
theorem dX4_thing_176 : decode cX4_thing 176 = .ok (.getfield 31, 3) := by decide +kernel
theorem dX4_thing_179 : decode cX4_thing 179 = .ok (.aload_n 0, 1) := by decide +kernel
theorem dX4_thing_180 : decode cX4_thing 180 = .ok (.getfield 72, 3) := by decide +kernel
theorem dX4_thing_183 : decode cX4_thing 183 = .ok (.iload 4, 2) := by decide +kernel
theorem dX4_thing_185 : decode cX4_thing 185 = .ok (.iastore, 1) := by decide +kernel
theorem dX4_thing_186 : decode cX4_thing 186 = .ok (.aload_n 0, 1) := by decide +kernel
theorem dX4_thing_187 : decode cX4_thing 187 = .ok (.getfield 34, 3) := by decide +kernel
theorem dX4_thing_190 : decode cX4_thing 190 = .ok (.aload_n 0, 1) := by decide +kernel
theorem dX4_thing_191 : decode cX4_thing 191 = .ok (.getfield 72, 3) := by decide +kernel
theorem dX4_thing_194 : decode cX4_thing 194 = .ok (.iload 5, 2) := by decide +kernel
theorem dX4_thing_196 : decode cX4_thing 196 = .ok (.iastore, 1) := by decide +kernel
theorem dX4_thing_197 : decode cX4_thing 197 = .ok (.aload_n 0, 1) := by decide +kernel
theorem dX4_thing_198 : decode cX4_thing 198 = .ok (.getfield 37, 3) := by decide +kernel
theorem dX4_thing_201 : decode cX4_thing 201 = .ok (.aload_n 0, 1) := by decide +kernel
theorem dX4_thing_202 : decode cX4_thing 202 = .ok (.getfield 72, 3) := by decide +kernel
theorem dX4_thing_205 : decode cX4_thing 205 = .ok (.iload 6, 2) := by decide +kernel
theorem dX4_thing_207 : decode cX4_thing 207 = .ok (.iastore, 1) := by decide +kernel
theorem dX4_thing_208 : decode cX4_thing 208 = .ok (.aload_n 0, 1) := by decide +kernel
theorem dX4_thing_209 : decode cX4_thing 209 = .ok (.getfield 40, 3) := by decide +kernel
theorem dX4_thing_212 : decode cX4_thing 212 = .ok (.aload_n 0, 1) := by decide +kernel
theorem dX4_thing_213 : decode cX4_thing 213 = .ok (.getfield 72, 3) := by decide +kernel
theorem dX4_thing_216 : decode cX4_thing 216 = .ok (.iconst (-1), 1) := by decide +kernel
theorem dX4_thing_217 : decode cX4_thing 217 = .ok (.iastore, 1) := by decide +kernel
theorem dX4_thing_218 : decode cX4_thing 218 = .ok (.iconst 0, 1) := by decide +kernel
theorem dX4_thing_219 : decode cX4_thing 219 = .ok (.istore 10, 2) := by decide +kernel
theorem dX4_thing_221 : decode cX4_thing 221 = .ok (.iload 10, 2) := by decide +kernel
theorem dX4_thing_223 : decode cX4_thing 223 = .ok (.iconst 3, 1) := by decide +kernel
theorem dX4_thing_224 : decode cX4_thing 224 = .ok (.if_icmp .ge 25, 3) := by decide +kernel
theorem dX4_thing_227 : decode cX4_thing 227 = .ok (.aload_n 0, 1) := by decide +kernel
theorem dX4_thing_228 : decode cX4_thing 228 = .ok (.getfield 50, 3) := by decide +kernel
theorem dX4_thing_231 : decode cX4_thing 231 = .ok (.iconst 3, 1) := by decide +kernel
theorem dX4_thing_232 : decode cX4_thing 232 = .ok (.aload_n 0, 1) := by decide +kernel
theorem dX4_thing_233 : decode cX4_thing 233 = .ok (.getfield 72, 3) := by decide +kernel
theorem dX4_thing_236 : decode cX4_thing 236 = .ok (.imul, 1) := by decide +kernel
theorem dX4_thing_237 : decode cX4_thing 237 = .ok (.iload 10, 2) := by decide +kernel
theorem dX4_thing_239 : decode cX4_thing 239 = .ok (.iadd, 1) := by decide +kernel
theorem dX4_thing_240 : decode cX4_thing 240 = .ok (.iload 6, 2) := by decide +kernel
theorem dX4_thing_242 : decode cX4_thing 242 = .ok (.iastore, 1) := by decide +kernel
theorem dX4_thing_243 : decode cX4_thing 243 = .ok (.iinc 10 1, 3) := by decide +kernel
theorem dX4_thing_246 : decode cX4_thing 246 = .ok (.goto (-25), 3) := by decide +kernel
theorem dX4_thing_249 : decode cX4_thing 249 = .ok (.aload_n 0, 1) := by decide +kernel
theorem dX4_thing_250 : decode cX4_thing 250 = .ok (.dup, 1) := by decide +kernel
theorem dX4_thing_251 : decode cX4_thing 251 = .ok (.getfield 72, 3) := by decide +kernel
theorem dX4_thing_254 : decode cX4_thing 254 = .ok (.iconst 1, 1) := by decide +kernel
theorem dX4_thing_255 : decode cX4_thing 255 = .ok (.iadd, 1) := by decide +kernel
theorem dX4_thing_256 : decode cX4_thing 256 = .ok (.putfield 72, 3) := by decide +kernel
theorem dX4_thing_259 : decode cX4_thing 259 = .ok (.aload_n 0, 1) := by decide +kernel
theorem dX4_thing_260 : decode cX4_thing 260 = .ok (.getfield 72, 3) := by decide +kernel
theorem dX4_thing_263 : decode cX4_thing 263 = .ok (.iconst 1, 1) := by decide +kernel
theorem dX4_thing_264 : decode cX4_thing 264 = .ok (.isub, 1) := by decide +kernel
theorem dX4_thing_265 : decode cX4_thing 265 = .ok (.ireturn, 1) := by decide +kernel
theorem dX4_isDue_0 : decode cX4_isDue 0 = .ok (.iconst 3, 1) := by decide +kernel
theorem dX4_isDue_1 : decode cX4_isDue 1 = .ok (.aload_n 0, 1) := by decide +kernel
theorem dX4_isDue_2 : decode cX4_isDue 2 = .ok (.getfield 25, 3) := by decide +kernel
theorem dX4_isDue_5 : decode cX4_isDue 5 = .ok (.iload_n 1, 1) := by decide +kernel
theorem dX4_isDue_6 : decode cX4_isDue 6 = .ok (.iaload, 1) := by decide +kernel
theorem dX4_isDue_7 : decode cX4_isDue 7 = .ok (.imul, 1) := by decide +kernel
theorem dX4_isDue_8 : decode cX4_isDue 8 = .ok (.iload_n 2, 1) := by decide +kernel
theorem dX4_isDue_9 : decode cX4_isDue 9 = .ok (.iadd, 1) := by decide +kernel
theorem dX4_isDue_10 : decode cX4_isDue 10 = .ok (.istore_n 3, 1) := by decide +kernel
theorem dX4_isDue_11 : decode cX4_isDue 11 = .ok (.aload_n 0, 1) := by decide +kernel
theorem dX4_isDue_12 : decode cX4_isDue 12 = .ok (.getfield 13, 3) := by decide +kernel
theorem dX4_isDue_15 : decode cX4_isDue 15 = .ok (.iload_n 3, 1) := by decide +kernel
theorem dX4_isDue_16 : decode cX4_isDue 16 = .ok (.iaload, 1) := by decide +kernel
theorem dX4_isDue_17 : decode cX4_isDue 17 = .ok (.ifCond .le 31, 3) := by decide +kernel
theorem dX4_isDue_20 : decode cX4_isDue 20 = .ok (.aload_n 0, 1) := by decide +kernel
theorem dX4_isDue_21 : decode cX4_isDue 21 = .ok (.getfield 79, 3) := by decide +kernel
theorem dX4_isDue_24 : decode cX4_isDue 24 = .ok (.aload_n 0, 1) := by decide +kernel
theorem dX4_isDue_25 : decode cX4_isDue 25 = .ok (.getfield 50, 3) := by decide +kernel
theorem dX4_isDue_28 : decode cX4_isDue 28 = .ok (.iconst 3, 1) := by decide +kernel
theorem dX4_isDue_29 : decode cX4_isDue 29 = .ok (.iload_n 1, 1) := by decide +kernel
theorem dX4_isDue_30 : decode cX4_isDue 30 = .ok (.imul, 1) := by decide +kernel
theorem dX4_isDue_31 : decode cX4_isDue 31 = .ok (.iload_n 2, 1) := by decide +kernel
theorem dX4_isDue_32 : decode cX4_isDue 32 = .ok (.iadd, 1) := by decide +kernel
theorem dX4_isDue_33 : decode cX4_isDue 33 = .ok (.iaload, 1) := by decide +kernel
theorem dX4_isDue_34 : decode cX4_isDue 34 = .ok (.isub, 1) := by decide +kernel
theorem dX4_isDue_35 : decode cX4_isDue 35 = .ok (.aload_n 0, 1) := by decide +kernel
theorem dX4_isDue_36 : decode cX4_isDue 36 = .ok (.getfield 13, 3) := by decide +kernel
theorem dX4_isDue_39 : decode cX4_isDue 39 = .ok (.iload_n 3, 1) := by decide +kernel
theorem dX4_isDue_40 : decode cX4_isDue 40 = .ok (.iaload, 1) := by decide +kernel
theorem dX4_isDue_41 : decode cX4_isDue 41 = .ok (.if_icmp .lt 7, 3) := by decide +kernel
theorem dX4_isDue_44 : decode cX4_isDue 44 = .ok (.iconst 1, 1) := by decide +kernel
theorem dX4_isDue_45 : decode cX4_isDue 45 = .ok (.goto 4, 3) := by decide +kernel
theorem dX4_isDue_48 : decode cX4_isDue 48 = .ok (.iconst 0, 1) := by decide +kernel
theorem dX4_isDue_49 : decode cX4_isDue 49 = .ok (.istore 4, 2) := by decide +kernel
theorem dX4_isDue_51 : decode cX4_isDue 51 = .ok (.iload 4, 2) := by decide +kernel
theorem dX4_isDue_53 : decode cX4_isDue 53 = .ok (.ifCond .ne 31, 3) := by decide +kernel
theorem dX4_isDue_56 : decode cX4_isDue 56 = .ok (.aload_n 0, 1) := by decide +kernel
theorem dX4_isDue_57 : decode cX4_isDue 57 = .ok (.getfield 16, 3) := by decide +kernel
theorem dX4_isDue_60 : decode cX4_isDue 60 = .ok (.iload_n 3, 1) := by decide +kernel
theorem dX4_isDue_61 : decode cX4_isDue 61 = .ok (.iaload, 1) := by decide +kernel
theorem dX4_isDue_62 : decode cX4_isDue 62 = .ok (.ifCond .le 26, 3) := by decide +kernel
theorem dX4_isDue_65 : decode cX4_isDue 65 = .ok (.aload_n 0, 1) := by decide +kernel
theorem dX4_isDue_66 : decode cX4_isDue 66 = .ok (.getfield 53, 3) := by decide +kernel
theorem dX4_isDue_69 : decode cX4_isDue 69 = .ok (.iconst 3, 1) := by decide +kernel
theorem dX4_isDue_70 : decode cX4_isDue 70 = .ok (.iload_n 1, 1) := by decide +kernel
theorem dX4_isDue_71 : decode cX4_isDue 71 = .ok (.imul, 1) := by decide +kernel
theorem dX4_isDue_72 : decode cX4_isDue 72 = .ok (.iload_n 2, 1) := by decide +kernel
theorem dX4_isDue_73 : decode cX4_isDue 73 = .ok (.iadd, 1) := by decide +kernel
theorem dX4_isDue_74 : decode cX4_isDue 74 = .ok (.iaload, 1) := by decide +kernel
theorem dX4_isDue_75 : decode cX4_isDue 75 = .ok (.aload_n 0, 1) := by decide +kernel
theorem dX4_isDue_76 : decode cX4_isDue 76 = .ok (.getfield 16, 3) := by decide +kernel
theorem dX4_isDue_79 : decode cX4_isDue 79 = .ok (.iload_n 3, 1) := by decide +kernel
theorem dX4_isDue_80 : decode cX4_isDue 80 = .ok (.iaload, 1) := by decide +kernel
theorem dX4_isDue_81 : decode cX4_isDue 81 = .ok (.if_icmp .lt 7, 3) := by decide +kernel
theorem dX4_isDue_84 : decode cX4_isDue 84 = .ok (.iconst 1, 1) := by decide +kernel
theorem dX4_isDue_85 : decode cX4_isDue 85 = .ok (.goto 4, 3) := by decide +kernel
theorem dX4_isDue_88 : decode cX4_isDue 88 = .ok (.iconst 0, 1) := by decide +kernel
theorem dX4_isDue_89 : decode cX4_isDue 89 = .ok (.ireturn, 1) := by decide +kernel
theorem dX4_stateOf_0 : decode cX4_stateOf 0 = .ok (.aload_n 0, 1) := by decide +kernel
theorem dX4_stateOf_1 : decode cX4_stateOf 1 = .ok (.getfield 40, 3) := by decide +kernel
theorem dX4_stateOf_4 : decode cX4_stateOf 4 = .ok (.iload_n 1, 1) := by decide +kernel
theorem dX4_stateOf_5 : decode cX4_stateOf 5 = .ok (.iaload, 1) := by decide +kernel
theorem dX4_stateOf_6 : decode cX4_stateOf 6 = .ok (.ifCond .lt 5, 3) := by decide +kernel
theorem dX4_stateOf_9 : decode cX4_stateOf 9 = .ok (.iconst 2, 1) := by decide +kernel
theorem dX4_stateOf_10 : decode cX4_stateOf 10 = .ok (.ireturn, 1) := by decide +kernel
theorem dX4_stateOf_11 : decode cX4_stateOf 11 = .ok (.iconst 0, 1) := by decide +kernel
theorem dX4_stateOf_12 : decode cX4_stateOf 12 = .ok (.istore_n 2, 1) := by decide +kernel
theorem dX4_stateOf_13 : decode cX4_stateOf 13 = .ok (.iconst 0, 1) := by decide +kernel
theorem dX4_stateOf_14 : decode cX4_stateOf 14 = .ok (.istore_n 3, 1) := by decide +kernel
theorem dX4_stateOf_15 : decode cX4_stateOf 15 = .ok (.iload_n 3, 1) := by decide +kernel
theorem dX4_stateOf_16 : decode cX4_stateOf 16 = .ok (.iconst 3, 1) := by decide +kernel
theorem dX4_stateOf_17 : decode cX4_stateOf 17 = .ok (.if_icmp .ge 38, 3) := by decide +kernel
theorem dX4_stateOf_20 : decode cX4_stateOf 20 = .ok (.aload_n 0, 1) := by decide +kernel
theorem dX4_stateOf_21 : decode cX4_stateOf 21 = .ok (.getfield 56, 3) := by decide +kernel
theorem dX4_stateOf_24 : decode cX4_stateOf 24 = .ok (.iconst 3, 1) := by decide +kernel
theorem dX4_stateOf_25 : decode cX4_stateOf 25 = .ok (.iload_n 1, 1) := by decide +kernel
theorem dX4_stateOf_26 : decode cX4_stateOf 26 = .ok (.imul, 1) := by decide +kernel
theorem dX4_stateOf_27 : decode cX4_stateOf 27 = .ok (.iload_n 3, 1) := by decide +kernel
theorem dX4_stateOf_28 : decode cX4_stateOf 28 = .ok (.iadd, 1) := by decide +kernel
theorem dX4_stateOf_29 : decode cX4_stateOf 29 = .ok (.iaload, 1) := by decide +kernel
theorem dX4_stateOf_30 : decode cX4_stateOf 30 = .ok (.iload_n 2, 1) := by decide +kernel
theorem dX4_stateOf_31 : decode cX4_stateOf 31 = .ok (.if_icmp .le 16, 3) := by decide +kernel
theorem dX4_stateOf_34 : decode cX4_stateOf 34 = .ok (.aload_n 0, 1) := by decide +kernel
theorem dX4_stateOf_35 : decode cX4_stateOf 35 = .ok (.getfield 56, 3) := by decide +kernel
theorem dX4_stateOf_38 : decode cX4_stateOf 38 = .ok (.iconst 3, 1) := by decide +kernel
theorem dX4_stateOf_39 : decode cX4_stateOf 39 = .ok (.iload_n 1, 1) := by decide +kernel
theorem dX4_stateOf_40 : decode cX4_stateOf 40 = .ok (.imul, 1) := by decide +kernel
theorem dX4_stateOf_41 : decode cX4_stateOf 41 = .ok (.iload_n 3, 1) := by decide +kernel
theorem dX4_stateOf_42 : decode cX4_stateOf 42 = .ok (.iadd, 1) := by decide +kernel
theorem dX4_stateOf_43 : decode cX4_stateOf 43 = .ok (.iaload, 1) := by decide +kernel
theorem dX4_stateOf_44 : decode cX4_stateOf 44 = .ok (.goto 4, 3) := by decide +kernel
theorem dX4_stateOf_47 : decode cX4_stateOf 47 = .ok (.iload_n 2, 1) := by decide +kernel
theorem dX4_stateOf_48 : decode cX4_stateOf 48 = .ok (.istore_n 2, 1) := by decide +kernel
theorem dX4_stateOf_49 : decode cX4_stateOf 49 = .ok (.iinc 3 1, 3) := by decide +kernel
theorem dX4_stateOf_52 : decode cX4_stateOf 52 = .ok (.goto (-37), 3) := by decide +kernel
theorem dX4_stateOf_55 : decode cX4_stateOf 55 = .ok (.iload_n 2, 1) := by decide +kernel
theorem dX4_stateOf_56 : decode cX4_stateOf 56 = .ok (.ireturn, 1) := by decide +kernel
theorem dX4_reason_0 : decode cX4_reason 0 = .ok (.aload_n 0, 1) := by decide +kernel
theorem dX4_reason_1 : decode cX4_reason 1 = .ok (.getfield 40, 3) := by decide +kernel
theorem dX4_reason_4 : decode cX4_reason 4 = .ok (.iload_n 1, 1) := by decide +kernel
theorem dX4_reason_5 : decode cX4_reason 5 = .ok (.iaload, 1) := by decide +kernel
theorem dX4_reason_6 : decode cX4_reason 6 = .ok (.ifCond .lt 5, 3) := by decide +kernel
theorem dX4_reason_9 : decode cX4_reason 9 = .ok (.iconst 1, 1) := by decide +kernel
theorem dX4_reason_10 : decode cX4_reason 10 = .ok (.ireturn, 1) := by decide +kernel
theorem dX4_reason_11 : decode cX4_reason 11 = .ok (.aload_n 0, 1) := by decide +kernel
theorem dX4_reason_12 : decode cX4_reason 12 = .ok (.getfield 59, 3) := by decide +kernel
theorem dX4_reason_15 : decode cX4_reason 15 = .ok (.aload_n 0, 1) := by decide +kernel
theorem dX4_reason_16 : decode cX4_reason 16 = .ok (.getfield 31, 3) := by decide +kernel
theorem dX4_reason_19 : decode cX4_reason 19 = .ok (.iload_n 1, 1) := by decide +kernel
theorem dX4_reason_20 : decode cX4_reason 20 = .ok (.iaload, 1) := by decide +kernel
theorem dX4_reason_21 : decode cX4_reason 21 = .ok (.baload, 1) := by decide +kernel
theorem dX4_reason_22 : decode cX4_reason 22 = .ok (.ifCond .eq 5, 3) := by decide +kernel
theorem dX4_reason_25 : decode cX4_reason 25 = .ok (.iconst 2, 1) := by decide +kernel
theorem dX4_reason_26 : decode cX4_reason 26 = .ok (.ireturn, 1) := by decide +kernel
theorem dX4_reason_27 : decode cX4_reason 27 = .ok (.aload_n 0, 1) := by decide +kernel
theorem dX4_reason_28 : decode cX4_reason 28 = .ok (.getfield 7, 3) := by decide +kernel
theorem dX4_reason_31 : decode cX4_reason 31 = .ok (.aload_n 0, 1) := by decide +kernel
theorem dX4_reason_32 : decode cX4_reason 32 = .ok (.getfield 25, 3) := by decide +kernel
