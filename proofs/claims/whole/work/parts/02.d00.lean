theorem dX3_init_0 : decode cX3_init 0 = .ok (.aload_n 0, 1) := by decide +kernel
theorem dX3_init_1 : decode cX3_init 1 = .ok (.invokespecial 3, 3) := by decide +kernel
theorem dX3_init_4 : decode cX3_init 4 = .ok (.aload_n 0, 1) := by decide +kernel
theorem dX3_init_5 : decode cX3_init 5 = .ok (.new 9, 3) := by decide +kernel
theorem dX3_init_8 : decode cX3_init 8 = .ok (.dup, 1) := by decide +kernel
theorem dX3_init_9 : decode cX3_init 9 = .ok (.invokespecial 11, 3) := by decide +kernel
theorem dX3_init_12 : decode cX3_init 12 = .ok (.putfield 12, 3) := by decide +kernel
theorem dX3_init_15 : decode cX3_init 15 = .ok (.aload_n 0, 1) := by decide +kernel
theorem dX3_init_16 : decode cX3_init 16 = .ok (.new 16, 3) := by decide +kernel
theorem dX3_init_19 : decode cX3_init 19 = .ok (.dup, 1) := by decide +kernel
theorem dX3_init_20 : decode cX3_init 20 = .ok (.invokespecial 18, 3) := by decide +kernel
theorem dX3_init_23 : decode cX3_init 23 = .ok (.putfield 19, 3) := by decide +kernel
theorem dX3_init_26 : decode cX3_init 26 = .ok (.aload_n 0, 1) := by decide +kernel
theorem dX3_init_27 : decode cX3_init 27 = .ok (.new 23, 3) := by decide +kernel
theorem dX3_init_30 : decode cX3_init 30 = .ok (.dup, 1) := by decide +kernel
theorem dX3_init_31 : decode cX3_init 31 = .ok (.invokespecial 25, 3) := by decide +kernel
theorem dX3_init_34 : decode cX3_init 34 = .ok (.putfield 26, 3) := by decide +kernel
theorem dX3_init_37 : decode cX3_init 37 = .ok (.aload_n 0, 1) := by decide +kernel
theorem dX3_init_38 : decode cX3_init 38 = .ok (.bipush 10, 2) := by decide +kernel
theorem dX3_init_40 : decode cX3_init 40 = .ok (.newarray .boolean, 2) := by decide +kernel
theorem dX3_init_42 : decode cX3_init 42 = .ok (.putfield 30, 3) := by decide +kernel
theorem dX3_init_45 : decode cX3_init 45 = .ok (.aload_n 0, 1) := by decide +kernel
theorem dX3_init_46 : decode cX3_init 46 = .ok (.bipush 40, 2) := by decide +kernel
theorem dX3_init_48 : decode cX3_init 48 = .ok (.newarray .int, 2) := by decide +kernel
theorem dX3_init_50 : decode cX3_init 50 = .ok (.putfield 34, 3) := by decide +kernel
theorem dX3_init_53 : decode cX3_init 53 = .ok (.aload_n 0, 1) := by decide +kernel
theorem dX3_init_54 : decode cX3_init 54 = .ok (.iconst 0, 1) := by decide +kernel
theorem dX3_init_55 : decode cX3_init 55 = .ok (.putfield 38, 3) := by decide +kernel
theorem dX3_init_58 : decode cX3_init 58 = .ok (.return_, 1) := by decide +kernel
theorem dX3_day_0 : decode cX3_day 0 = .ok (.iload_n 1, 1) := by decide +kernel
theorem dX3_day_1 : decode cX3_day 1 = .ok (.aload_n 0, 1) := by decide +kernel
theorem dX3_day_2 : decode cX3_day 2 = .ok (.getfield 38, 3) := by decide +kernel
theorem dX3_day_5 : decode cX3_day 5 = .ok (.ldc 42, 2) := by decide +kernel
theorem dX3_day_7 : decode cX3_day 7 = .ok (.invokestatic 43, 3) := by decide +kernel
theorem dX3_day_10 : decode cX3_day 10 = .ok (.aload_n 0, 1) := by decide +kernel
theorem dX3_day_11 : decode cX3_day 11 = .ok (.iload_n 1, 1) := by decide +kernel
theorem dX3_day_12 : decode cX3_day 12 = .ok (.putfield 38, 3) := by decide +kernel
theorem dX3_day_15 : decode cX3_day 15 = .ok (.return_, 1) := by decide +kernel
theorem dX3_age_0 : decode cX3_age 0 = .ok (.iload_n 1, 1) := by decide +kernel
theorem dX3_age_1 : decode cX3_age 1 = .ok (.iconst 5, 1) := by decide +kernel
theorem dX3_age_2 : decode cX3_age 2 = .ok (.invokestatic 47, 3) := by decide +kernel
theorem dX3_age_5 : decode cX3_age 5 = .ok (.iload_n 2, 1) := by decide +kernel
theorem dX3_age_6 : decode cX3_age 6 = .ok (.iconst 0, 1) := by decide +kernel
theorem dX3_age_7 : decode cX3_age 7 = .ok (.sipush 20000, 3) := by decide +kernel
theorem dX3_age_10 : decode cX3_age 10 = .ok (.invokestatic 43, 3) := by decide +kernel
theorem dX3_age_13 : decode cX3_age 13 = .ok (.aload_n 0, 1) := by decide +kernel
theorem dX3_age_14 : decode cX3_age 14 = .ok (.getfield 12, 3) := by decide +kernel
theorem dX3_age_17 : decode cX3_age 17 = .ok (.getfield 51, 3) := by decide +kernel
theorem dX3_age_20 : decode cX3_age 20 = .ok (.iload_n 1, 1) := by decide +kernel
theorem dX3_age_21 : decode cX3_age 21 = .ok (.iload_n 2, 1) := by decide +kernel
theorem dX3_age_22 : decode cX3_age 22 = .ok (.iastore, 1) := by decide +kernel
theorem dX3_age_23 : decode cX3_age 23 = .ok (.return_, 1) := by decide +kernel
theorem dX3_test_0 : decode cX3_test 0 = .ok (.iload_n 1, 1) := by decide +kernel
theorem dX3_test_1 : decode cX3_test 1 = .ok (.iconst 5, 1) := by decide +kernel
theorem dX3_test_2 : decode cX3_test 2 = .ok (.invokestatic 47, 3) := by decide +kernel
theorem dX3_test_5 : decode cX3_test 5 = .ok (.iload_n 2, 1) := by decide +kernel
theorem dX3_test_6 : decode cX3_test 6 = .ok (.iconst 3, 1) := by decide +kernel
theorem dX3_test_7 : decode cX3_test 7 = .ok (.invokestatic 47, 3) := by decide +kernel
theorem dX3_test_10 : decode cX3_test 10 = .ok (.iload_n 3, 1) := by decide +kernel
theorem dX3_test_11 : decode cX3_test 11 = .ok (.iconst 0, 1) := by decide +kernel
theorem dX3_test_12 : decode cX3_test 12 = .ok (.sipush 5000, 3) := by decide +kernel
theorem dX3_test_15 : decode cX3_test 15 = .ok (.invokestatic 43, 3) := by decide +kernel
theorem dX3_test_18 : decode cX3_test 18 = .ok (.iload 4, 2) := by decide +kernel
theorem dX3_test_20 : decode cX3_test 20 = .ok (.iconst 0, 1) := by decide +kernel
theorem dX3_test_21 : decode cX3_test 21 = .ok (.sipush 1000, 3) := by decide +kernel
theorem dX3_test_24 : decode cX3_test 24 = .ok (.invokestatic 43, 3) := by decide +kernel
theorem dX3_test_27 : decode cX3_test 27 = .ok (.iload_n 1, 1) := by decide +kernel
theorem dX3_test_28 : decode cX3_test 28 = .ok (.iconst 3, 1) := by decide +kernel
theorem dX3_test_29 : decode cX3_test 29 = .ok (.imul, 1) := by decide +kernel
theorem dX3_test_30 : decode cX3_test 30 = .ok (.iload_n 2, 1) := by decide +kernel
theorem dX3_test_31 : decode cX3_test 31 = .ok (.iadd, 1) := by decide +kernel
theorem dX3_test_32 : decode cX3_test 32 = .ok (.istore 5, 2) := by decide +kernel
theorem dX3_test_34 : decode cX3_test 34 = .ok (.aload_n 0, 1) := by decide +kernel
theorem dX3_test_35 : decode cX3_test 35 = .ok (.getfield 12, 3) := by decide +kernel
theorem dX3_test_38 : decode cX3_test 38 = .ok (.getfield 54, 3) := by decide +kernel
theorem dX3_test_41 : decode cX3_test 41 = .ok (.iload 5, 2) := by decide +kernel
theorem dX3_test_43 : decode cX3_test 43 = .ok (.iload_n 3, 1) := by decide +kernel
theorem dX3_test_44 : decode cX3_test 44 = .ok (.iastore, 1) := by decide +kernel
theorem dX3_test_45 : decode cX3_test 45 = .ok (.aload_n 0, 1) := by decide +kernel
theorem dX3_test_46 : decode cX3_test 46 = .ok (.getfield 12, 3) := by decide +kernel
theorem dX3_test_49 : decode cX3_test 49 = .ok (.getfield 57, 3) := by decide +kernel
theorem dX3_test_52 : decode cX3_test 52 = .ok (.iload 5, 2) := by decide +kernel
theorem dX3_test_54 : decode cX3_test 54 = .ok (.iload 4, 2) := by decide +kernel
theorem dX3_test_56 : decode cX3_test 56 = .ok (.iastore, 1) := by decide +kernel
theorem dX3_test_57 : decode cX3_test 57 = .ok (.return_, 1) := by decide +kernel
theorem dX3_bounds_0 : decode cX3_bounds 0 = .ok (.iload_n 1, 1) := by decide +kernel
theorem dX3_bounds_1 : decode cX3_bounds 1 = .ok (.iconst 5, 1) := by decide +kernel
theorem dX3_bounds_2 : decode cX3_bounds 2 = .ok (.invokestatic 47, 3) := by decide +kernel
theorem dX3_bounds_5 : decode cX3_bounds 5 = .ok (.iload_n 2, 1) := by decide +kernel
theorem dX3_bounds_6 : decode cX3_bounds 6 = .ok (.iconst 3, 1) := by decide +kernel
theorem dX3_bounds_7 : decode cX3_bounds 7 = .ok (.invokestatic 47, 3) := by decide +kernel
theorem dX3_bounds_10 : decode cX3_bounds 10 = .ok (.iload 4, 2) := by decide +kernel
theorem dX3_bounds_12 : decode cX3_bounds 12 = .ok (.iconst 0, 1) := by decide +kernel
theorem dX3_bounds_13 : decode cX3_bounds 13 = .ok (.sipush 10000, 3) := by decide +kernel
theorem dX3_bounds_16 : decode cX3_bounds 16 = .ok (.invokestatic 43, 3) := by decide +kernel
theorem dX3_bounds_19 : decode cX3_bounds 19 = .ok (.iload_n 3, 1) := by decide +kernel
theorem dX3_bounds_20 : decode cX3_bounds 20 = .ok (.iconst 0, 1) := by decide +kernel
theorem dX3_bounds_21 : decode cX3_bounds 21 = .ok (.iload 4, 2) := by decide +kernel
theorem dX3_bounds_23 : decode cX3_bounds 23 = .ok (.invokestatic 43, 3) := by decide +kernel
theorem dX3_bounds_26 : decode cX3_bounds 26 = .ok (.iload_n 1, 1) := by decide +kernel
theorem dX3_bounds_27 : decode cX3_bounds 27 = .ok (.iconst 3, 1) := by decide +kernel
theorem dX3_bounds_28 : decode cX3_bounds 28 = .ok (.imul, 1) := by decide +kernel
theorem dX3_bounds_29 : decode cX3_bounds 29 = .ok (.iload_n 2, 1) := by decide +kernel
theorem dX3_bounds_30 : decode cX3_bounds 30 = .ok (.iadd, 1) := by decide +kernel
theorem dX3_bounds_31 : decode cX3_bounds 31 = .ok (.istore 5, 2) := by decide +kernel
theorem dX3_bounds_33 : decode cX3_bounds 33 = .ok (.aload_n 0, 1) := by decide +kernel
theorem dX3_bounds_34 : decode cX3_bounds 34 = .ok (.getfield 12, 3) := by decide +kernel
theorem dX3_bounds_37 : decode cX3_bounds 37 = .ok (.getfield 60, 3) := by decide +kernel
theorem dX3_bounds_40 : decode cX3_bounds 40 = .ok (.iload 5, 2) := by decide +kernel
theorem dX3_bounds_42 : decode cX3_bounds 42 = .ok (.iload_n 3, 1) := by decide +kernel
theorem dX3_bounds_43 : decode cX3_bounds 43 = .ok (.iastore, 1) := by decide +kernel
theorem dX3_bounds_44 : decode cX3_bounds 44 = .ok (.aload_n 0, 1) := by decide +kernel
theorem dX3_bounds_45 : decode cX3_bounds 45 = .ok (.getfield 12, 3) := by decide +kernel
theorem dX3_bounds_48 : decode cX3_bounds 48 = .ok (.getfield 63, 3) := by decide +kernel
theorem dX3_bounds_51 : decode cX3_bounds 51 = .ok (.iload 5, 2) := by decide +kernel
theorem dX3_bounds_53 : decode cX3_bounds 53 = .ok (.iload 4, 2) := by decide +kernel
theorem dX3_bounds_55 : decode cX3_bounds 55 = .ok (.iastore, 1) := by decide +kernel
theorem dX3_bounds_56 : decode cX3_bounds 56 = .ok (.return_, 1) := by decide +kernel
theorem dX3_thing_0 : decode cX3_thing 0 = .ok (.iload_n 1, 1) := by decide +kernel
theorem dX3_thing_1 : decode cX3_thing 1 = .ok (.iconst 5, 1) := by decide +kernel
theorem dX3_thing_2 : decode cX3_thing 2 = .ok (.invokestatic 47, 3) := by decide +kernel
theorem dX3_thing_5 : decode cX3_thing 5 = .ok (.iload 4, 2) := by decide +kernel
theorem dX3_thing_7 : decode cX3_thing 7 = .ok (.bipush 10, 2) := by decide +kernel
theorem dX3_thing_9 : decode cX3_thing 9 = .ok (.invokestatic 47, 3) := by decide +kernel
theorem dX3_thing_12 : decode cX3_thing 12 = .ok (.iload 5, 2) := by decide +kernel
theorem dX3_thing_14 : decode cX3_thing 14 = .ok (.bipush 20, 2) := by decide +kernel
theorem dX3_thing_16 : decode cX3_thing 16 = .ok (.invokestatic 47, 3) := by decide +kernel
theorem dX3_thing_19 : decode cX3_thing 19 = .ok (.iload_n 2, 1) := by decide +kernel
theorem dX3_thing_20 : decode cX3_thing 20 = .ok (.iconst 0, 1) := by decide +kernel
theorem dX3_thing_21 : decode cX3_thing 21 = .ok (.ldc 66, 2) := by decide +kernel
theorem dX3_thing_23 : decode cX3_thing 23 = .ok (.invokestatic 43, 3) := by decide +kernel
theorem dX3_thing_26 : decode cX3_thing 26 = .ok (.iload 6, 2) := by decide +kernel
theorem dX3_thing_28 : decode cX3_thing 28 = .ok (.iconst 0, 1) := by decide +kernel
theorem dX3_thing_29 : decode cX3_thing 29 = .ok (.aload_n 0, 1) := by decide +kernel
theorem dX3_thing_30 : decode cX3_thing 30 = .ok (.getfield 38, 3) := by decide +kernel
theorem dX3_thing_33 : decode cX3_thing 33 = .ok (.invokestatic 43, 3) := by decide +kernel
theorem dX3_thing_36 : decode cX3_thing 36 = .ok (.iload_n 3, 1) := by decide +kernel
theorem dX3_thing_37 : decode cX3_thing 37 = .ok (.iload_n 2, 1) := by decide +kernel
theorem dX3_thing_38 : decode cX3_thing 38 = .ok (.invokestatic 67, 3) := by decide +kernel
theorem dX3_thing_41 : decode cX3_thing 41 = .ok (.if_icmp .ne 7, 3) := by decide +kernel
theorem dX3_thing_44 : decode cX3_thing 44 = .ok (.iconst 1, 1) := by decide +kernel
theorem dX3_thing_45 : decode cX3_thing 45 = .ok (.goto 4, 3) := by decide +kernel
theorem dX3_thing_48 : decode cX3_thing 48 = .ok (.iconst 0, 1) := by decide +kernel
theorem dX3_thing_49 : decode cX3_thing 49 = .ok (.invokestatic 71, 3) := by decide +kernel
theorem dX3_thing_52 : decode cX3_thing 52 = .ok (.aload_n 0, 1) := by decide +kernel
theorem dX3_thing_53 : decode cX3_thing 53 = .ok (.getfield 19, 3) := by decide +kernel
theorem dX3_thing_56 : decode cX3_thing 56 = .ok (.iload_n 2, 1) := by decide +kernel
theorem dX3_thing_57 : decode cX3_thing 57 = .ok (.invokevirtual 75, 3) := by decide +kernel
theorem dX3_thing_60 : decode cX3_thing 60 = .ok (.ifCond .ne 7, 3) := by decide +kernel
theorem dX3_thing_63 : decode cX3_thing 63 = .ok (.iconst 1, 1) := by decide +kernel
theorem dX3_thing_64 : decode cX3_thing 64 = .ok (.goto 4, 3) := by decide +kernel
theorem dX3_thing_67 : decode cX3_thing 67 = .ok (.iconst 0, 1) := by decide +kernel
theorem dX3_thing_68 : decode cX3_thing 68 = .ok (.invokestatic 71, 3) := by decide +kernel
theorem dX3_thing_71 : decode cX3_thing 71 = .ok (.aload_n 0, 1) := by decide +kernel
theorem dX3_thing_72 : decode cX3_thing 72 = .ok (.getfield 19, 3) := by decide +kernel
theorem dX3_thing_75 : decode cX3_thing 75 = .ok (.getfield 79, 3) := by decide +kernel
theorem dX3_thing_78 : decode cX3_thing 78 = .ok (.bipush 40, 2) := by decide +kernel
theorem dX3_thing_80 : decode cX3_thing 80 = .ok (.if_icmp .lt 13, 3) := by decide +kernel
theorem dX3_thing_83 : decode cX3_thing 83 = .ok (.new 82, 3) := by decide +kernel
theorem dX3_thing_86 : decode cX3_thing 86 = .ok (.dup, 1) := by decide +kernel
theorem dX3_thing_87 : decode cX3_thing 87 = .ok (.ldc 84, 2) := by decide +kernel
theorem dX3_thing_89 : decode cX3_thing 89 = .ok (.invokespecial 86, 3) := by decide +kernel
theorem dX3_thing_92 : decode cX3_thing 92 = .ok (.athrow, 1) := by decide +kernel
theorem dX3_thing_93 : decode cX3_thing 93 = .ok (.aload_n 0, 1) := by decide +kernel
theorem dX3_thing_94 : decode cX3_thing 94 = .ok (.getfield 19, 3) := by decide +kernel
theorem dX3_thing_97 : decode cX3_thing 97 = .ok (.iload_n 1, 1) := by decide +kernel
theorem dX3_thing_98 : decode cX3_thing 98 = .ok (.iload_n 2, 1) := by decide +kernel
theorem dX3_thing_99 : decode cX3_thing 99 = .ok (.iload 4, 2) := by decide +kernel
theorem dX3_thing_101 : decode cX3_thing 101 = .ok (.iload 5, 2) := by decide +kernel
theorem dX3_thing_103 : decode cX3_thing 103 = .ok (.iload 6, 2) := by decide +kernel
theorem dX3_thing_105 : decode cX3_thing 105 = .ok (.invokevirtual 89, 3) := by decide +kernel
theorem dX3_thing_108 : decode cX3_thing 108 = .ok (.ireturn, 1) := by decide +kernel
theorem dX3_letter_0 : decode cX3_letter 0 = .ok (.iload_n 1, 1) := by decide +kernel
theorem dX3_letter_1 : decode cX3_letter 1 = .ok (.iconst 0, 1) := by decide +kernel
theorem dX3_letter_2 : decode cX3_letter 2 = .ok (.ldc 66, 2) := by decide +kernel
theorem dX3_letter_4 : decode cX3_letter 4 = .ok (.invokestatic 43, 3) := by decide +kernel
theorem dX3_letter_7 : decode cX3_letter 7 = .ok (.iload_n 1, 1) := by decide +kernel
theorem dX3_letter_8 : decode cX3_letter 8 = .ok (.invokestatic 67, 3) := by decide +kernel
theorem dX3_letter_11 : decode cX3_letter 11 = .ok (.ireturn, 1) := by decide +kernel
theorem dX3_use_0 : decode cX3_use 0 = .ok (.iload_n 1, 1) := by decide +kernel
theorem dX3_use_1 : decode cX3_use 1 = .ok (.aload_n 0, 1) := by decide +kernel
theorem dX3_use_2 : decode cX3_use 2 = .ok (.getfield 19, 3) := by decide +kernel
theorem dX3_use_5 : decode cX3_use 5 = .ok (.getfield 79, 3) := by decide +kernel
theorem dX3_use_8 : decode cX3_use 8 = .ok (.invokestatic 47, 3) := by decide +kernel
theorem dX3_use_11 : decode cX3_use 11 = .ok (.aload_n 0, 1) := by decide +kernel
theorem dX3_use_12 : decode cX3_use 12 = .ok (.iload_n 1, 1) := by decide +kernel
theorem dX3_use_13 : decode cX3_use 13 = .ok (.invokevirtual 93, 3) := by decide +kernel
theorem dX3_use_16 : decode cX3_use 16 = .ok (.ifCond .ne 7, 3) := by decide +kernel
theorem dX3_use_19 : decode cX3_use 19 = .ok (.iconst 1, 1) := by decide +kernel
theorem dX3_use_20 : decode cX3_use 20 = .ok (.goto 4, 3) := by decide +kernel
theorem dX3_use_23 : decode cX3_use 23 = .ok (.iconst 0, 1) := by decide +kernel
theorem dX3_use_24 : decode cX3_use 24 = .ok (.invokestatic 71, 3) := by decide +kernel
theorem dX3_use_27 : decode cX3_use 27 = .ok (.aload_n 0, 1) := by decide +kernel
theorem dX3_use_28 : decode cX3_use 28 = .ok (.getfield 19, 3) := by decide +kernel
theorem dX3_use_31 : decode cX3_use 31 = .ok (.iload_n 1, 1) := by decide +kernel
theorem dX3_use_32 : decode cX3_use 32 = .ok (.aload_n 0, 1) := by decide +kernel
theorem dX3_use_33 : decode cX3_use 33 = .ok (.getfield 38, 3) := by decide +kernel
theorem dX3_use_36 : decode cX3_use 36 = .ok (.invokevirtual 96, 3) := by decide +kernel
theorem dX3_use_39 : decode cX3_use 39 = .ok (.return_, 1) := by decide +kernel
theorem dX3_wash_0 : decode cX3_wash 0 = .ok (.iload_n 1, 1) := by decide +kernel
theorem dX3_wash_1 : decode cX3_wash 1 = .ok (.aload_n 0, 1) := by decide +kernel
theorem dX3_wash_2 : decode cX3_wash 2 = .ok (.getfield 19, 3) := by decide +kernel
theorem dX3_wash_5 : decode cX3_wash 5 = .ok (.getfield 79, 3) := by decide +kernel
theorem dX3_wash_8 : decode cX3_wash 8 = .ok (.invokestatic 47, 3) := by decide +kernel
theorem dX3_wash_11 : decode cX3_wash 11 = .ok (.aload_n 0, 1) := by decide +kernel
theorem dX3_wash_12 : decode cX3_wash 12 = .ok (.getfield 19, 3) := by decide +kernel
theorem dX3_wash_15 : decode cX3_wash 15 = .ok (.iload_n 1, 1) := by decide +kernel
theorem dX3_wash_16 : decode cX3_wash 16 = .ok (.invokevirtual 99, 3) := by decide +kernel
theorem dX3_wash_19 : decode cX3_wash 19 = .ok (.ifCond .ne 7, 3) := by decide +kernel
theorem dX3_wash_22 : decode cX3_wash 22 = .ok (.iconst 1, 1) := by decide +kernel
theorem dX3_wash_23 : decode cX3_wash 23 = .ok (.goto 4, 3) := by decide +kernel
theorem dX3_wash_26 : decode cX3_wash 26 = .ok (.iconst 0, 1) := by decide +kernel
theorem dX3_wash_27 : decode cX3_wash 27 = .ok (.invokestatic 71, 3) := by decide +kernel
theorem dX3_wash_30 : decode cX3_wash 30 = .ok (.aload_n 0, 1) := by decide +kernel
theorem dX3_wash_31 : decode cX3_wash 31 = .ok (.getfield 19, 3) := by decide +kernel
theorem dX3_wash_34 : decode cX3_wash 34 = .ok (.getfield 102, 3) := by decide +kernel
theorem dX3_wash_37 : decode cX3_wash 37 = .ok (.iload_n 1, 1) := by decide +kernel
theorem dX3_wash_38 : decode cX3_wash 38 = .ok (.baload, 1) := by decide +kernel
theorem dX3_wash_39 : decode cX3_wash 39 = .ok (.iload_n 2, 1) := by decide +kernel
theorem dX3_wash_40 : decode cX3_wash 40 = .ok (.if_icmp .ne 7, 3) := by decide +kernel
theorem dX3_wash_43 : decode cX3_wash 43 = .ok (.iconst 1, 1) := by decide +kernel
theorem dX3_wash_44 : decode cX3_wash 44 = .ok (.goto 4, 3) := by decide +kernel
theorem dX3_wash_47 : decode cX3_wash 47 = .ok (.iconst 0, 1) := by decide +kernel
theorem dX3_wash_48 : decode cX3_wash 48 = .ok (.invokestatic 71, 3) := by decide +kernel
theorem dX3_wash_51 : decode cX3_wash 51 = .ok (.aload_n 0, 1) := by decide +kernel
theorem dX3_wash_52 : decode cX3_wash 52 = .ok (.getfield 19, 3) := by decide +kernel
theorem dX3_wash_55 : decode cX3_wash 55 = .ok (.getfield 102, 3) := by decide +kernel
theorem dX3_wash_58 : decode cX3_wash 58 = .ok (.iload_n 1, 1) := by decide +kernel
theorem dX3_wash_59 : decode cX3_wash 59 = .ok (.iload_n 2, 1) := by decide +kernel
theorem dX3_wash_60 : decode cX3_wash 60 = .ok (.ifCond .ne 7, 3) := by decide +kernel
theorem dX3_wash_63 : decode cX3_wash 63 = .ok (.iconst 1, 1) := by decide +kernel
theorem dX3_wash_64 : decode cX3_wash 64 = .ok (.goto 4, 3) := by decide +kernel
theorem dX3_wash_67 : decode cX3_wash 67 = .ok (.iconst 0, 1) := by decide +kernel
theorem dX3_wash_68 : decode cX3_wash 68 = .ok (.bastore, 1) := by decide +kernel
theorem dX3_wash_69 : decode cX3_wash 69 = .ok (.iload_n 2, 1) := by decide +kernel
theorem dX3_wash_70 : decode cX3_wash 70 = .ok (.ifCond .ne 16, 3) := by decide +kernel
theorem dX3_wash_73 : decode cX3_wash 73 = .ok (.aload_n 0, 1) := by decide +kernel
theorem dX3_wash_74 : decode cX3_wash 74 = .ok (.getfield 19, 3) := by decide +kernel
theorem dX3_wash_77 : decode cX3_wash 77 = .ok (.getfield 105, 3) := by decide +kernel
theorem dX3_wash_80 : decode cX3_wash 80 = .ok (.iload_n 1, 1) := by decide +kernel
theorem dX3_wash_81 : decode cX3_wash 81 = .ok (.dup2, 1) := by decide +kernel
theorem dX3_wash_82 : decode cX3_wash 82 = .ok (.iaload, 1) := by decide +kernel
theorem dX3_wash_83 : decode cX3_wash 83 = .ok (.iconst 1, 1) := by decide +kernel
theorem dX3_wash_84 : decode cX3_wash 84 = .ok (.iadd, 1) := by decide +kernel
theorem dX3_wash_85 : decode cX3_wash 85 = .ok (.iastore, 1) := by decide +kernel
theorem dX3_wash_86 : decode cX3_wash 86 = .ok (.aload_n 0, 1) := by decide +kernel
theorem dX3_wash_87 : decode cX3_wash 87 = .ok (.getfield 19, 3) := by decide +kernel
theorem dX3_wash_90 : decode cX3_wash 90 = .ok (.getfield 105, 3) := by decide +kernel
theorem dX3_wash_93 : decode cX3_wash 93 = .ok (.iload_n 1, 1) := by decide +kernel
theorem dX3_wash_94 : decode cX3_wash 94 = .ok (.iaload, 1) := by decide +kernel
theorem dX3_wash_95 : decode cX3_wash 95 = .ok (.ireturn, 1) := by decide +kernel
theorem dX3_result_0 : decode cX3_result 0 = .ok (.iload_n 1, 1) := by decide +kernel
theorem dX3_result_1 : decode cX3_result 1 = .ok (.aload_n 0, 1) := by decide +kernel
theorem dX3_result_2 : decode cX3_result 2 = .ok (.getfield 19, 3) := by decide +kernel
theorem dX3_result_5 : decode cX3_result 5 = .ok (.getfield 79, 3) := by decide +kernel
theorem dX3_result_8 : decode cX3_result 8 = .ok (.invokestatic 47, 3) := by decide +kernel
theorem dX3_result_11 : decode cX3_result 11 = .ok (.iload_n 2, 1) := by decide +kernel
theorem dX3_result_12 : decode cX3_result 12 = .ok (.iconst 3, 1) := by decide +kernel
theorem dX3_result_13 : decode cX3_result 13 = .ok (.invokestatic 47, 3) := by decide +kernel
theorem dX3_result_16 : decode cX3_result 16 = .ok (.iload_n 3, 1) := by decide +kernel
theorem dX3_result_17 : decode cX3_result 17 = .ok (.iconst 0, 1) := by decide +kernel
theorem dX3_result_18 : decode cX3_result 18 = .ok (.sipush 10000, 3) := by decide +kernel
theorem dX3_result_21 : decode cX3_result 21 = .ok (.invokestatic 43, 3) := by decide +kernel
theorem dX3_result_24 : decode cX3_result 24 = .ok (.aload_n 0, 1) := by decide +kernel
theorem dX3_result_25 : decode cX3_result 25 = .ok (.getfield 19, 3) := by decide +kernel
theorem dX3_result_28 : decode cX3_result 28 = .ok (.iload_n 1, 1) := by decide +kernel
theorem dX3_result_29 : decode cX3_result 29 = .ok (.invokevirtual 99, 3) := by decide +kernel
theorem dX3_result_32 : decode cX3_result 32 = .ok (.ifCond .ne 7, 3) := by decide +kernel
theorem dX3_result_35 : decode cX3_result 35 = .ok (.iconst 1, 1) := by decide +kernel
theorem dX3_result_36 : decode cX3_result 36 = .ok (.goto 4, 3) := by decide +kernel
theorem dX3_result_39 : decode cX3_result 39 = .ok (.iconst 0, 1) := by decide +kernel
theorem dX3_result_40 : decode cX3_result 40 = .ok (.invokestatic 71, 3) := by decide +kernel
theorem dX3_result_43 : decode cX3_result 43 = .ok (.aload_n 0, 1) := by decide +kernel
theorem dX3_result_44 : decode cX3_result 44 = .ok (.getfield 12, 3) := by decide +kernel
theorem dX3_result_47 : decode cX3_result 47 = .ok (.aload_n 0, 1) := by decide +kernel
theorem dX3_result_48 : decode cX3_result 48 = .ok (.getfield 19, 3) := by decide +kernel
theorem dX3_result_51 : decode cX3_result 51 = .ok (.getfield 108, 3) := by decide +kernel
theorem dX3_result_54 : decode cX3_result 54 = .ok (.iload_n 1, 1) := by decide +kernel
theorem dX3_result_55 : decode cX3_result 55 = .ok (.iaload, 1) := by decide +kernel
theorem dX3_result_56 : decode cX3_result 56 = .ok (.iload_n 2, 1) := by decide +kernel
theorem dX3_result_57 : decode cX3_result 57 = .ok (.iload_n 3, 1) := by decide +kernel
theorem dX3_result_58 : decode cX3_result 58 = .ok (.invokevirtual 111, 3) := by decide +kernel
theorem dX3_result_61 : decode cX3_result 61 = .ok (.istore 4, 2) := by decide +kernel
theorem dX3_result_63 : decode cX3_result 63 = .ok (.aload_n 0, 1) := by decide +kernel
theorem dX3_result_64 : decode cX3_result 64 = .ok (.getfield 19, 3) := by decide +kernel
theorem dX3_result_67 : decode cX3_result 67 = .ok (.iload_n 1, 1) := by decide +kernel
theorem dX3_result_68 : decode cX3_result 68 = .ok (.iload_n 2, 1) := by decide +kernel
theorem dX3_result_69 : decode cX3_result 69 = .ok (.iload 4, 2) := by decide +kernel
theorem dX3_result_71 : decode cX3_result 71 = .ok (.aload_n 0, 1) := by decide +kernel
theorem dX3_result_72 : decode cX3_result 72 = .ok (.getfield 38, 3) := by decide +kernel
theorem dX3_result_75 : decode cX3_result 75 = .ok (.invokevirtual 115, 3) := by decide +kernel
theorem dX3_result_78 : decode cX3_result 78 = .ok (.ireturn, 1) := by decide +kernel
theorem dX3_load_0 : decode cX3_load 0 = .ok (.iload_n 1, 1) := by decide +kernel
theorem dX3_load_1 : decode cX3_load 1 = .ok (.aload_n 0, 1) := by decide +kernel
theorem dX3_load_2 : decode cX3_load 2 = .ok (.getfield 19, 3) := by decide +kernel
theorem dX3_load_5 : decode cX3_load 5 = .ok (.getfield 79, 3) := by decide +kernel
theorem dX3_load_8 : decode cX3_load 8 = .ok (.invokestatic 47, 3) := by decide +kernel
theorem dX3_load_11 : decode cX3_load 11 = .ok (.iload_n 2, 1) := by decide +kernel
theorem dX3_load_12 : decode cX3_load 12 = .ok (.bipush 20, 2) := by decide +kernel
theorem dX3_load_14 : decode cX3_load 14 = .ok (.invokestatic 47, 3) := by decide +kernel
theorem dX3_load_17 : decode cX3_load 17 = .ok (.aload_n 0, 1) := by decide +kernel
theorem dX3_load_18 : decode cX3_load 18 = .ok (.iload_n 1, 1) := by decide +kernel
theorem dX3_load_19 : decode cX3_load 19 = .ok (.invokevirtual 93, 3) := by decide +kernel
theorem dX3_load_22 : decode cX3_load 22 = .ok (.ifCond .ne 7, 3) := by decide +kernel
theorem dX3_load_25 : decode cX3_load 25 = .ok (.iconst 1, 1) := by decide +kernel
theorem dX3_load_26 : decode cX3_load 26 = .ok (.goto 4, 3) := by decide +kernel
theorem dX3_load_29 : decode cX3_load 29 = .ok (.iconst 0, 1) := by decide +kernel
theorem dX3_load_30 : decode cX3_load 30 = .ok (.invokestatic 71, 3) := by decide +kernel
theorem dX3_load_33 : decode cX3_load 33 = .ok (.aload_n 0, 1) := by decide +kernel
theorem dX3_load_34 : decode cX3_load 34 = .ok (.getfield 19, 3) := by decide +kernel
theorem dX3_load_37 : decode cX3_load 37 = .ok (.getfield 119, 3) := by decide +kernel
theorem dX3_load_40 : decode cX3_load 40 = .ok (.iload_n 1, 1) := by decide +kernel
theorem dX3_load_41 : decode cX3_load 41 = .ok (.iload_n 2, 1) := by decide +kernel
theorem dX3_load_42 : decode cX3_load 42 = .ok (.iastore, 1) := by decide +kernel
theorem dX3_load_43 : decode cX3_load 43 = .ok (.return_, 1) := by decide +kernel
theorem dX3_recall_0 : decode cX3_recall 0 = .ok (.iload_n 1, 1) := by decide +kernel
theorem dX3_recall_1 : decode cX3_recall 1 = .ok (.bipush 10, 2) := by decide +kernel
theorem dX3_recall_3 : decode cX3_recall 3 = .ok (.invokestatic 47, 3) := by decide +kernel
theorem dX3_recall_6 : decode cX3_recall 6 = .ok (.aload_n 0, 1) := by decide +kernel
theorem dX3_recall_7 : decode cX3_recall 7 = .ok (.getfield 30, 3) := by decide +kernel
theorem dX3_recall_10 : decode cX3_recall 10 = .ok (.iload_n 1, 1) := by decide +kernel
theorem dX3_recall_11 : decode cX3_recall 11 = .ok (.baload, 1) := by decide +kernel
theorem dX3_recall_12 : decode cX3_recall 12 = .ok (.iload_n 2, 1) := by decide +kernel
theorem dX3_recall_13 : decode cX3_recall 13 = .ok (.if_icmp .eq 7, 3) := by decide +kernel
theorem dX3_recall_16 : decode cX3_recall 16 = .ok (.iconst 1, 1) := by decide +kernel
theorem dX3_recall_17 : decode cX3_recall 17 = .ok (.goto 4, 3) := by decide +kernel
theorem dX3_recall_20 : decode cX3_recall 20 = .ok (.iconst 0, 1) := by decide +kernel
theorem dX3_recall_21 : decode cX3_recall 21 = .ok (.invokestatic 71, 3) := by decide +kernel
theorem dX3_recall_24 : decode cX3_recall 24 = .ok (.aload_n 0, 1) := by decide +kernel
theorem dX3_recall_25 : decode cX3_recall 25 = .ok (.getfield 30, 3) := by decide +kernel
theorem dX3_recall_28 : decode cX3_recall 28 = .ok (.iload_n 1, 1) := by decide +kernel
theorem dX3_recall_29 : decode cX3_recall 29 = .ok (.iload_n 2, 1) := by decide +kernel
theorem dX3_recall_30 : decode cX3_recall 30 = .ok (.bastore, 1) := by decide +kernel
theorem dX3_recall_31 : decode cX3_recall 31 = .ok (.aload_n 0, 1) := by decide +kernel
theorem dX3_recall_32 : decode cX3_recall 32 = .ok (.getfield 19, 3) := by decide +kernel
theorem dX3_recall_35 : decode cX3_recall 35 = .ok (.iload_n 1, 1) := by decide +kernel
theorem dX3_recall_36 : decode cX3_recall 36 = .ok (.invokevirtual 122, 3) := by decide +kernel
theorem dX3_recall_39 : decode cX3_recall 39 = .ok (.ireturn, 1) := by decide +kernel
theorem dX3_recalled_0 : decode cX3_recalled 0 = .ok (.iload_n 1, 1) := by decide +kernel
theorem dX3_recalled_1 : decode cX3_recalled 1 = .ok (.bipush 10, 2) := by decide +kernel
theorem dX3_recalled_3 : decode cX3_recalled 3 = .ok (.invokestatic 47, 3) := by decide +kernel
theorem dX3_recalled_6 : decode cX3_recalled 6 = .ok (.iload_n 2, 1) := by decide +kernel
theorem dX3_recalled_7 : decode cX3_recalled 7 = .ok (.iconst 0, 1) := by decide +kernel
theorem dX3_recalled_8 : decode cX3_recalled 8 = .ok (.ldc 125, 2) := by decide +kernel
theorem dX3_recalled_10 : decode cX3_recalled 10 = .ok (.invokestatic 43, 3) := by decide +kernel
theorem dX3_recalled_13 : decode cX3_recalled 13 = .ok (.aload_n 0, 1) := by decide +kernel
theorem dX3_recalled_14 : decode cX3_recalled 14 = .ok (.getfield 19, 3) := by decide +kernel
theorem dX3_recalled_17 : decode cX3_recalled 17 = .ok (.iload_n 1, 1) := by decide +kernel
theorem dX3_recalled_18 : decode cX3_recalled 18 = .ok (.iload_n 2, 1) := by decide +kernel
theorem dX3_recalled_19 : decode cX3_recalled 19 = .ok (.invokevirtual 126, 3) := by decide +kernel
theorem dX3_recalled_22 : decode cX3_recalled 22 = .ok (.istore_n 3, 1) := by decide +kernel
theorem dX3_recalled_23 : decode cX3_recalled 23 = .ok (.iload_n 3, 1) := by decide +kernel
theorem dX3_recalled_24 : decode cX3_recalled 24 = .ok (.iconst (-1), 1) := by decide +kernel
theorem dX3_recalled_25 : decode cX3_recalled 25 = .ok (.if_icmp .ne 7, 3) := by decide +kernel
theorem dX3_recalled_28 : decode cX3_recalled 28 = .ok (.iconst (-1), 1) := by decide +kernel
theorem dX3_recalled_29 : decode cX3_recalled 29 = .ok (.goto 17, 3) := by decide +kernel
theorem dX3_recalled_32 : decode cX3_recalled 32 = .ok (.bipush 100, 2) := by decide +kernel
theorem dX3_recalled_34 : decode cX3_recalled 34 = .ok (.iload_n 3, 1) := by decide +kernel
theorem dX3_recalled_35 : decode cX3_recalled 35 = .ok (.imul, 1) := by decide +kernel
theorem dX3_recalled_36 : decode cX3_recalled 36 = .ok (.aload_n 0, 1) := by decide +kernel
theorem dX3_recalled_37 : decode cX3_recalled 37 = .ok (.getfield 19, 3) := by decide +kernel
theorem dX3_recalled_40 : decode cX3_recalled 40 = .ok (.getfield 119, 3) := by decide +kernel
theorem dX3_recalled_43 : decode cX3_recalled 43 = .ok (.iload_n 3, 1) := by decide +kernel
theorem dX3_recalled_44 : decode cX3_recalled 44 = .ok (.iaload, 1) := by decide +kernel
theorem dX3_recalled_45 : decode cX3_recalled 45 = .ok (.iadd, 1) := by decide +kernel
theorem dX3_recalled_46 : decode cX3_recalled 46 = .ok (.ireturn, 1) := by decide +kernel
theorem dX3_barred_0 : decode cX3_barred 0 = .ok (.iload_n 1, 1) := by decide +kernel
theorem dX3_barred_1 : decode cX3_barred 1 = .ok (.aload_n 0, 1) := by decide +kernel
theorem dX3_barred_2 : decode cX3_barred 2 = .ok (.getfield 19, 3) := by decide +kernel
theorem dX3_barred_5 : decode cX3_barred 5 = .ok (.getfield 79, 3) := by decide +kernel
theorem dX3_barred_8 : decode cX3_barred 8 = .ok (.invokestatic 47, 3) := by decide +kernel
theorem dX3_barred_11 : decode cX3_barred 11 = .ok (.aload_n 0, 1) := by decide +kernel
theorem dX3_barred_12 : decode cX3_barred 12 = .ok (.iload_n 1, 1) := by decide +kernel
theorem dX3_barred_13 : decode cX3_barred 13 = .ok (.invokevirtual 93, 3) := by decide +kernel
theorem dX3_barred_16 : decode cX3_barred 16 = .ok (.ireturn, 1) := by decide +kernel
theorem dX3_ends_0 : decode cX3_ends 0 = .ok (.iload_n 1, 1) := by decide +kernel
theorem dX3_ends_1 : decode cX3_ends 1 = .ok (.aload_n 0, 1) := by decide +kernel
theorem dX3_ends_2 : decode cX3_ends 2 = .ok (.getfield 19, 3) := by decide +kernel
theorem dX3_ends_5 : decode cX3_ends 5 = .ok (.getfield 79, 3) := by decide +kernel
theorem dX3_ends_8 : decode cX3_ends 8 = .ok (.invokestatic 47, 3) := by decide +kernel
theorem dX3_ends_11 : decode cX3_ends 11 = .ok (.aload_n 0, 1) := by decide +kernel
theorem dX3_ends_12 : decode cX3_ends 12 = .ok (.iload_n 1, 1) := by decide +kernel
theorem dX3_ends_13 : decode cX3_ends 13 = .ok (.invokevirtual 130, 3) := by decide +kernel
theorem dX3_ends_16 : decode cX3_ends 16 = .ok (.ireturn, 1) := by decide +kernel
theorem dX3_soon_0 : decode cX3_soon 0 = .ok (.iload_n 1, 1) := by decide +kernel
theorem dX3_soon_1 : decode cX3_soon 1 = .ok (.bipush 20, 2) := by decide +kernel
theorem dX3_soon_3 : decode cX3_soon 3 = .ok (.invokestatic 47, 3) := by decide +kernel
theorem dX3_soon_6 : decode cX3_soon 6 = .ok (.iload_n 2, 1) := by decide +kernel
theorem dX3_soon_7 : decode cX3_soon 7 = .ok (.iconst 0, 1) := by decide +kernel
theorem dX3_soon_8 : decode cX3_soon 8 = .ok (.sipush 30000, 3) := by decide +kernel
theorem dX3_soon_11 : decode cX3_soon 11 = .ok (.invokestatic 43, 3) := by decide +kernel
theorem dX3_soon_14 : decode cX3_soon 14 = .ok (.iload_n 3, 1) := by decide +kernel
theorem dX3_soon_15 : decode cX3_soon 15 = .ok (.iconst 0, 1) := by decide +kernel
theorem dX3_soon_16 : decode cX3_soon 16 = .ok (.ldc 125, 2) := by decide +kernel
theorem dX3_soon_18 : decode cX3_soon 18 = .ok (.invokestatic 43, 3) := by decide +kernel
theorem dX3_soon_21 : decode cX3_soon 21 = .ok (.aload_n 0, 1) := by decide +kernel
theorem dX3_soon_22 : decode cX3_soon 22 = .ok (.iload_n 1, 1) := by decide +kernel
theorem dX3_soon_23 : decode cX3_soon 23 = .ok (.aload_n 0, 1) := by decide +kernel
theorem dX3_soon_24 : decode cX3_soon 24 = .ok (.getfield 38, 3) := by decide +kernel
theorem dX3_soon_27 : decode cX3_soon 27 = .ok (.iload_n 2, 1) := by decide +kernel
theorem dX3_soon_28 : decode cX3_soon 28 = .ok (.iadd, 1) := by decide +kernel
theorem dX3_soon_29 : decode cX3_soon 29 = .ok (.invokevirtual 133, 3) := by decide +kernel
theorem dX3_soon_32 : decode cX3_soon 32 = .ok (.iconst 0, 1) := by decide +kernel
theorem dX3_soon_33 : decode cX3_soon 33 = .ok (.istore 4, 2) := by decide +kernel
theorem dX3_soon_35 : decode cX3_soon 35 = .ok (.iload 4, 2) := by decide +kernel
theorem dX3_soon_37 : decode cX3_soon 37 = .ok (.aload_n 0, 1) := by decide +kernel
theorem dX3_soon_38 : decode cX3_soon 38 = .ok (.getfield 19, 3) := by decide +kernel
theorem dX3_soon_41 : decode cX3_soon 41 = .ok (.getfield 79, 3) := by decide +kernel
theorem dX3_soon_44 : decode cX3_soon 44 = .ok (.if_icmp .ge 33, 3) := by decide +kernel
theorem dX3_soon_47 : decode cX3_soon 47 = .ok (.aload_n 0, 1) := by decide +kernel
theorem dX3_soon_48 : decode cX3_soon 48 = .ok (.getfield 34, 3) := by decide +kernel
theorem dX3_soon_51 : decode cX3_soon 51 = .ok (.iload 4, 2) := by decide +kernel
theorem dX3_soon_53 : decode cX3_soon 53 = .ok (.iaload, 1) := by decide +kernel
theorem dX3_soon_54 : decode cX3_soon 54 = .ok (.iconst (-1), 1) := by decide +kernel
theorem dX3_soon_55 : decode cX3_soon 55 = .ok (.if_icmp .eq 16, 3) := by decide +kernel
theorem dX3_soon_58 : decode cX3_soon 58 = .ok (.aload_n 0, 1) := by decide +kernel
theorem dX3_soon_59 : decode cX3_soon 59 = .ok (.iload 4, 2) := by decide +kernel
theorem dX3_soon_61 : decode cX3_soon 61 = .ok (.invokevirtual 136, 3) := by decide +kernel
theorem dX3_soon_64 : decode cX3_soon 64 = .ok (.iload_n 3, 1) := by decide +kernel
theorem dX3_soon_65 : decode cX3_soon 65 = .ok (.if_icmp .ne 6, 3) := by decide +kernel
theorem dX3_soon_68 : decode cX3_soon 68 = .ok (.iload 4, 2) := by decide +kernel
theorem dX3_soon_70 : decode cX3_soon 70 = .ok (.ireturn, 1) := by decide +kernel
theorem dX3_soon_71 : decode cX3_soon 71 = .ok (.iinc 4 1, 3) := by decide +kernel
theorem dX3_soon_74 : decode cX3_soon 74 = .ok (.goto (-39), 3) := by decide +kernel
theorem dX3_soon_77 : decode cX3_soon 77 = .ok (.iconst (-1), 1) := by decide +kernel
theorem dX3_soon_78 : decode cX3_soon 78 = .ok (.ireturn, 1) := by decide +kernel
theorem dX3_thingAt_0 : decode cX3_thingAt 0 = .ok (.iload_n 1, 1) := by decide +kernel
theorem dX3_thingAt_1 : decode cX3_thingAt 1 = .ok (.aload_n 0, 1) := by decide +kernel
theorem dX3_thingAt_2 : decode cX3_thingAt 2 = .ok (.getfield 19, 3) := by decide +kernel
theorem dX3_thingAt_5 : decode cX3_thingAt 5 = .ok (.getfield 79, 3) := by decide +kernel
theorem dX3_thingAt_8 : decode cX3_thingAt 8 = .ok (.invokestatic 47, 3) := by decide +kernel
theorem dX3_thingAt_11 : decode cX3_thingAt 11 = .ok (.iload_n 2, 1) := by decide +kernel
theorem dX3_thingAt_12 : decode cX3_thingAt 12 = .ok (.tableswitch 150 0 10 #[60, 69, 79, 89, 107, 107, 107, 123, 123, 123, 140], 60) := by decide +kernel
theorem dX3_thingAt_72 : decode cX3_thingAt 72 = .ok (.aload_n 0, 1) := by decide +kernel
theorem dX3_thingAt_73 : decode cX3_thingAt 73 = .ok (.getfield 19, 3) := by decide +kernel
theorem dX3_thingAt_76 : decode cX3_thingAt 76 = .ok (.iload_n 1, 1) := by decide +kernel
theorem dX3_thingAt_77 : decode cX3_thingAt 77 = .ok (.invokevirtual 139, 3) := by decide +kernel
theorem dX3_thingAt_80 : decode cX3_thingAt 80 = .ok (.ireturn, 1) := by decide +kernel
theorem dX3_thingAt_81 : decode cX3_thingAt 81 = .ok (.aload_n 0, 1) := by decide +kernel
theorem dX3_thingAt_82 : decode cX3_thingAt 82 = .ok (.getfield 19, 3) := by decide +kernel
theorem dX3_thingAt_85 : decode cX3_thingAt 85 = .ok (.getfield 119, 3) := by decide +kernel
theorem dX3_thingAt_88 : decode cX3_thingAt 88 = .ok (.iload_n 1, 1) := by decide +kernel
theorem dX3_thingAt_89 : decode cX3_thingAt 89 = .ok (.iaload, 1) := by decide +kernel
theorem dX3_thingAt_90 : decode cX3_thingAt 90 = .ok (.ireturn, 1) := by decide +kernel
theorem dX3_thingAt_91 : decode cX3_thingAt 91 = .ok (.aload_n 0, 1) := by decide +kernel
theorem dX3_thingAt_92 : decode cX3_thingAt 92 = .ok (.getfield 19, 3) := by decide +kernel
theorem dX3_thingAt_95 : decode cX3_thingAt 95 = .ok (.getfield 105, 3) := by decide +kernel
theorem dX3_thingAt_98 : decode cX3_thingAt 98 = .ok (.iload_n 1, 1) := by decide +kernel
theorem dX3_thingAt_99 : decode cX3_thingAt 99 = .ok (.iaload, 1) := by decide +kernel
theorem dX3_thingAt_100 : decode cX3_thingAt 100 = .ok (.ireturn, 1) := by decide +kernel
theorem dX3_thingAt_101 : decode cX3_thingAt 101 = .ok (.aload_n 0, 1) := by decide +kernel
theorem dX3_thingAt_102 : decode cX3_thingAt 102 = .ok (.getfield 19, 3) := by decide +kernel
theorem dX3_thingAt_105 : decode cX3_thingAt 105 = .ok (.getfield 102, 3) := by decide +kernel
theorem dX3_thingAt_108 : decode cX3_thingAt 108 = .ok (.iload_n 1, 1) := by decide +kernel
theorem dX3_thingAt_109 : decode cX3_thingAt 109 = .ok (.baload, 1) := by decide +kernel
theorem dX3_thingAt_110 : decode cX3_thingAt 110 = .ok (.ifCond .eq 7, 3) := by decide +kernel
theorem dX3_thingAt_113 : decode cX3_thingAt 113 = .ok (.iconst 1, 1) := by decide +kernel
theorem dX3_thingAt_114 : decode cX3_thingAt 114 = .ok (.goto 4, 3) := by decide +kernel
theorem dX3_thingAt_117 : decode cX3_thingAt 117 = .ok (.iconst 0, 1) := by decide +kernel
theorem dX3_thingAt_118 : decode cX3_thingAt 118 = .ok (.ireturn, 1) := by decide +kernel
theorem dX3_thingAt_119 : decode cX3_thingAt 119 = .ok (.aload_n 0, 1) := by decide +kernel
theorem dX3_thingAt_120 : decode cX3_thingAt 120 = .ok (.getfield 19, 3) := by decide +kernel
theorem dX3_thingAt_123 : decode cX3_thingAt 123 = .ok (.getfield 142, 3) := by decide +kernel
theorem dX3_thingAt_126 : decode cX3_thingAt 126 = .ok (.iload_n 1, 1) := by decide +kernel
theorem dX3_thingAt_127 : decode cX3_thingAt 127 = .ok (.iconst 3, 1) := by decide +kernel
theorem dX3_thingAt_128 : decode cX3_thingAt 128 = .ok (.imul, 1) := by decide +kernel
theorem dX3_thingAt_129 : decode cX3_thingAt 129 = .ok (.iload_n 2, 1) := by decide +kernel
theorem dX3_thingAt_130 : decode cX3_thingAt 130 = .ok (.iadd, 1) := by decide +kernel
theorem dX3_thingAt_131 : decode cX3_thingAt 131 = .ok (.iconst 4, 1) := by decide +kernel
theorem dX3_thingAt_132 : decode cX3_thingAt 132 = .ok (.isub, 1) := by decide +kernel
theorem dX3_thingAt_133 : decode cX3_thingAt 133 = .ok (.iaload, 1) := by decide +kernel
theorem dX3_thingAt_134 : decode cX3_thingAt 134 = .ok (.ireturn, 1) := by decide +kernel
theorem dX3_thingAt_135 : decode cX3_thingAt 135 = .ok (.aload_n 0, 1) := by decide +kernel
theorem dX3_thingAt_136 : decode cX3_thingAt 136 = .ok (.getfield 19, 3) := by decide +kernel
theorem dX3_thingAt_139 : decode cX3_thingAt 139 = .ok (.getfield 145, 3) := by decide +kernel
theorem dX3_thingAt_142 : decode cX3_thingAt 142 = .ok (.iload_n 1, 1) := by decide +kernel
theorem dX3_thingAt_143 : decode cX3_thingAt 143 = .ok (.iconst 3, 1) := by decide +kernel
theorem dX3_thingAt_144 : decode cX3_thingAt 144 = .ok (.imul, 1) := by decide +kernel
theorem dX3_thingAt_145 : decode cX3_thingAt 145 = .ok (.iload_n 2, 1) := by decide +kernel
theorem dX3_thingAt_146 : decode cX3_thingAt 146 = .ok (.iadd, 1) := by decide +kernel
theorem dX3_thingAt_147 : decode cX3_thingAt 147 = .ok (.bipush 7, 2) := by decide +kernel
theorem dX3_thingAt_149 : decode cX3_thingAt 149 = .ok (.isub, 1) := by decide +kernel
theorem dX3_thingAt_150 : decode cX3_thingAt 150 = .ok (.iaload, 1) := by decide +kernel
theorem dX3_thingAt_151 : decode cX3_thingAt 151 = .ok (.ireturn, 1) := by decide +kernel
theorem dX3_thingAt_152 : decode cX3_thingAt 152 = .ok (.aload_n 0, 1) := by decide +kernel
theorem dX3_thingAt_153 : decode cX3_thingAt 153 = .ok (.getfield 19, 3) := by decide +kernel
theorem dX3_thingAt_156 : decode cX3_thingAt 156 = .ok (.getfield 148, 3) := by decide +kernel
theorem dX3_thingAt_159 : decode cX3_thingAt 159 = .ok (.iload_n 1, 1) := by decide +kernel
theorem dX3_thingAt_160 : decode cX3_thingAt 160 = .ok (.iaload, 1) := by decide +kernel
theorem dX3_thingAt_161 : decode cX3_thingAt 161 = .ok (.ireturn, 1) := by decide +kernel
theorem dX3_thingAt_162 : decode cX3_thingAt 162 = .ok (.new 151, 3) := by decide +kernel
theorem dX3_thingAt_165 : decode cX3_thingAt 165 = .ok (.dup, 1) := by decide +kernel
theorem dX3_thingAt_166 : decode cX3_thingAt 166 = .ok (.ldc 153, 2) := by decide +kernel
theorem dX3_thingAt_168 : decode cX3_thingAt 168 = .ok (.invokespecial 155, 3) := by decide +kernel
theorem dX3_thingAt_171 : decode cX3_thingAt 171 = .ok (.athrow, 1) := by decide +kernel
theorem dX3_life_0 : decode cX3_life 0 = .ok (.iload_n 1, 1) := by decide +kernel
theorem dX3_life_1 : decode cX3_life 1 = .ok (.iconst 5, 1) := by decide +kernel
theorem dX3_life_2 : decode cX3_life 2 = .ok (.invokestatic 47, 3) := by decide +kernel
theorem dX3_life_5 : decode cX3_life 5 = .ok (.iload_n 2, 1) := by decide +kernel
theorem dX3_life_6 : decode cX3_life 6 = .ok (.iconst 2, 1) := by decide +kernel
