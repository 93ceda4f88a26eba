theorem dL_day_0 : decode cL_day 0 = .ok (.aload_n 0, 1) := by decide +kernel
theorem dL_day_1 : decode cL_day 1 = .ok (.iload_n 1, 1) := by decide +kernel
theorem dL_day_2 : decode cL_day 2 = .ok (.invokevirtual 7, 3) := by decide +kernel
theorem dL_day_5 : decode cL_day 5 = .ok (.goto 6, 3) := by decide +kernel
theorem dL_day_8 : decode cL_day 8 = .ok (.astore_n 2, 1) := by decide +kernel
theorem dL_day_9 : decode cL_day 9 = .ok (.iconst 1, 1) := by decide +kernel
theorem dL_day_10 : decode cL_day 10 = .ok (.ireturn, 1) := by decide +kernel
theorem dL_day_11 : decode cL_day 11 = .ok (.iconst 0, 1) := by decide +kernel
theorem dL_day_12 : decode cL_day 12 = .ok (.ireturn, 1) := by decide +kernel
theorem dL_age_0 : decode cL_age 0 = .ok (.aload_n 0, 1) := by decide +kernel
theorem dL_age_1 : decode cL_age 1 = .ok (.iload_n 1, 1) := by decide +kernel
theorem dL_age_2 : decode cL_age 2 = .ok (.iload_n 2, 1) := by decide +kernel
theorem dL_age_3 : decode cL_age 3 = .ok (.invokevirtual 15, 3) := by decide +kernel
theorem dL_age_6 : decode cL_age 6 = .ok (.goto 9, 3) := by decide +kernel
theorem dL_age_9 : decode cL_age 9 = .ok (.astore_n 3, 1) := by decide +kernel
theorem dL_age_10 : decode cL_age 10 = .ok (.iconst 1, 1) := by decide +kernel
theorem dL_age_11 : decode cL_age 11 = .ok (.ireturn, 1) := by decide +kernel
theorem dL_age_12 : decode cL_age 12 = .ok (.astore_n 3, 1) := by decide +kernel
theorem dL_age_13 : decode cL_age 13 = .ok (.iconst 2, 1) := by decide +kernel
theorem dL_age_14 : decode cL_age 14 = .ok (.ireturn, 1) := by decide +kernel
theorem dL_age_15 : decode cL_age 15 = .ok (.iconst 0, 1) := by decide +kernel
theorem dL_age_16 : decode cL_age 16 = .ok (.ireturn, 1) := by decide +kernel
theorem dL_test_0 : decode cL_test 0 = .ok (.aload_n 0, 1) := by decide +kernel
theorem dL_test_1 : decode cL_test 1 = .ok (.iload_n 1, 1) := by decide +kernel
theorem dL_test_2 : decode cL_test 2 = .ok (.iload_n 2, 1) := by decide +kernel
theorem dL_test_3 : decode cL_test 3 = .ok (.iload_n 3, 1) := by decide +kernel
theorem dL_test_4 : decode cL_test 4 = .ok (.iload 4, 2) := by decide +kernel
theorem dL_test_6 : decode cL_test 6 = .ok (.invokevirtual 21, 3) := by decide +kernel
theorem dL_test_9 : decode cL_test 9 = .ok (.goto 11, 3) := by decide +kernel
theorem dL_test_12 : decode cL_test 12 = .ok (.astore 5, 2) := by decide +kernel
theorem dL_test_14 : decode cL_test 14 = .ok (.iconst 1, 1) := by decide +kernel
theorem dL_test_15 : decode cL_test 15 = .ok (.ireturn, 1) := by decide +kernel
theorem dL_test_16 : decode cL_test 16 = .ok (.astore 5, 2) := by decide +kernel
theorem dL_test_18 : decode cL_test 18 = .ok (.iconst 2, 1) := by decide +kernel
theorem dL_test_19 : decode cL_test 19 = .ok (.ireturn, 1) := by decide +kernel
theorem dL_test_20 : decode cL_test 20 = .ok (.iconst 0, 1) := by decide +kernel
theorem dL_test_21 : decode cL_test 21 = .ok (.ireturn, 1) := by decide +kernel
theorem dL_bounds_0 : decode cL_bounds 0 = .ok (.aload_n 0, 1) := by decide +kernel
theorem dL_bounds_1 : decode cL_bounds 1 = .ok (.iload_n 1, 1) := by decide +kernel
theorem dL_bounds_2 : decode cL_bounds 2 = .ok (.iload_n 2, 1) := by decide +kernel
theorem dL_bounds_3 : decode cL_bounds 3 = .ok (.iload_n 3, 1) := by decide +kernel
theorem dL_bounds_4 : decode cL_bounds 4 = .ok (.iload 4, 2) := by decide +kernel
theorem dL_bounds_6 : decode cL_bounds 6 = .ok (.invokevirtual 25, 3) := by decide +kernel
theorem dL_bounds_9 : decode cL_bounds 9 = .ok (.goto 11, 3) := by decide +kernel
theorem dL_bounds_12 : decode cL_bounds 12 = .ok (.astore 5, 2) := by decide +kernel
theorem dL_bounds_14 : decode cL_bounds 14 = .ok (.iconst 1, 1) := by decide +kernel
theorem dL_bounds_15 : decode cL_bounds 15 = .ok (.ireturn, 1) := by decide +kernel
theorem dL_bounds_16 : decode cL_bounds 16 = .ok (.astore 5, 2) := by decide +kernel
theorem dL_bounds_18 : decode cL_bounds 18 = .ok (.iconst 2, 1) := by decide +kernel
theorem dL_bounds_19 : decode cL_bounds 19 = .ok (.ireturn, 1) := by decide +kernel
theorem dL_bounds_20 : decode cL_bounds 20 = .ok (.iconst 0, 1) := by decide +kernel
theorem dL_bounds_21 : decode cL_bounds 21 = .ok (.ireturn, 1) := by decide +kernel
theorem dL_thing_0 : decode cL_thing 0 = .ok (.aload 7, 2) := by decide +kernel
theorem dL_thing_2 : decode cL_thing 2 = .ok (.iconst 0, 1) := by decide +kernel
theorem dL_thing_3 : decode cL_thing 3 = .ok (.aload_n 0, 1) := by decide +kernel
theorem dL_thing_4 : decode cL_thing 4 = .ok (.iload_n 1, 1) := by decide +kernel
theorem dL_thing_5 : decode cL_thing 5 = .ok (.iload_n 2, 1) := by decide +kernel
theorem dL_thing_6 : decode cL_thing 6 = .ok (.iload_n 3, 1) := by decide +kernel
theorem dL_thing_7 : decode cL_thing 7 = .ok (.iload 4, 2) := by decide +kernel
theorem dL_thing_9 : decode cL_thing 9 = .ok (.iload 5, 2) := by decide +kernel
theorem dL_thing_11 : decode cL_thing 11 = .ok (.iload 6, 2) := by decide +kernel
theorem dL_thing_13 : decode cL_thing 13 = .ok (.invokevirtual 28, 3) := by decide +kernel
theorem dL_thing_16 : decode cL_thing 16 = .ok (.i2l, 1) := by decide +kernel
theorem dL_thing_17 : decode cL_thing 17 = .ok (.lastore, 1) := by decide +kernel
theorem dL_thing_18 : decode cL_thing 18 = .ok (.goto 19, 3) := by decide +kernel
theorem dL_thing_21 : decode cL_thing 21 = .ok (.astore 8, 2) := by decide +kernel
theorem dL_thing_23 : decode cL_thing 23 = .ok (.iconst 1, 1) := by decide +kernel
theorem dL_thing_24 : decode cL_thing 24 = .ok (.ireturn, 1) := by decide +kernel
theorem dL_thing_25 : decode cL_thing 25 = .ok (.astore 8, 2) := by decide +kernel
theorem dL_thing_27 : decode cL_thing 27 = .ok (.iconst 2, 1) := by decide +kernel
theorem dL_thing_28 : decode cL_thing 28 = .ok (.ireturn, 1) := by decide +kernel
theorem dL_thing_29 : decode cL_thing 29 = .ok (.astore 8, 2) := by decide +kernel
theorem dL_thing_31 : decode cL_thing 31 = .ok (.iconst 3, 1) := by decide +kernel
theorem dL_thing_32 : decode cL_thing 32 = .ok (.ireturn, 1) := by decide +kernel
theorem dL_thing_33 : decode cL_thing 33 = .ok (.astore 8, 2) := by decide +kernel
theorem dL_thing_35 : decode cL_thing 35 = .ok (.iconst 4, 1) := by decide +kernel
theorem dL_thing_36 : decode cL_thing 36 = .ok (.ireturn, 1) := by decide +kernel
theorem dL_thing_37 : decode cL_thing 37 = .ok (.iconst 0, 1) := by decide +kernel
theorem dL_thing_38 : decode cL_thing 38 = .ok (.ireturn, 1) := by decide +kernel
theorem dL_letter_0 : decode cL_letter 0 = .ok (.aload_n 2, 1) := by decide +kernel
theorem dL_letter_1 : decode cL_letter 1 = .ok (.iconst 0, 1) := by decide +kernel
theorem dL_letter_2 : decode cL_letter 2 = .ok (.aload_n 0, 1) := by decide +kernel
theorem dL_letter_3 : decode cL_letter 3 = .ok (.iload_n 1, 1) := by decide +kernel
theorem dL_letter_4 : decode cL_letter 4 = .ok (.invokevirtual 36, 3) := by decide +kernel
theorem dL_letter_7 : decode cL_letter 7 = .ok (.i2l, 1) := by decide +kernel
theorem dL_letter_8 : decode cL_letter 8 = .ok (.lastore, 1) := by decide +kernel
theorem dL_letter_9 : decode cL_letter 9 = .ok (.goto 6, 3) := by decide +kernel
theorem dL_letter_12 : decode cL_letter 12 = .ok (.astore_n 3, 1) := by decide +kernel
theorem dL_letter_13 : decode cL_letter 13 = .ok (.iconst 1, 1) := by decide +kernel
theorem dL_letter_14 : decode cL_letter 14 = .ok (.ireturn, 1) := by decide +kernel
theorem dL_letter_15 : decode cL_letter 15 = .ok (.iconst 0, 1) := by decide +kernel
theorem dL_letter_16 : decode cL_letter 16 = .ok (.ireturn, 1) := by decide +kernel
theorem dL_use_0 : decode cL_use 0 = .ok (.aload_n 0, 1) := by decide +kernel
theorem dL_use_1 : decode cL_use 1 = .ok (.iload_n 1, 1) := by decide +kernel
theorem dL_use_2 : decode cL_use 2 = .ok (.invokevirtual 40, 3) := by decide +kernel
theorem dL_use_5 : decode cL_use 5 = .ok (.goto 9, 3) := by decide +kernel
theorem dL_use_8 : decode cL_use 8 = .ok (.astore_n 2, 1) := by decide +kernel
theorem dL_use_9 : decode cL_use 9 = .ok (.iconst 1, 1) := by decide +kernel
theorem dL_use_10 : decode cL_use 10 = .ok (.ireturn, 1) := by decide +kernel
theorem dL_use_11 : decode cL_use 11 = .ok (.astore_n 2, 1) := by decide +kernel
theorem dL_use_12 : decode cL_use 12 = .ok (.iconst 2, 1) := by decide +kernel
theorem dL_use_13 : decode cL_use 13 = .ok (.ireturn, 1) := by decide +kernel
theorem dL_use_14 : decode cL_use 14 = .ok (.iconst 0, 1) := by decide +kernel
theorem dL_use_15 : decode cL_use 15 = .ok (.ireturn, 1) := by decide +kernel
theorem dL_wash_0 : decode cL_wash 0 = .ok (.aload_n 3, 1) := by decide +kernel
theorem dL_wash_1 : decode cL_wash 1 = .ok (.iconst 0, 1) := by decide +kernel
theorem dL_wash_2 : decode cL_wash 2 = .ok (.aload_n 0, 1) := by decide +kernel
theorem dL_wash_3 : decode cL_wash 3 = .ok (.iload_n 1, 1) := by decide +kernel
theorem dL_wash_4 : decode cL_wash 4 = .ok (.iload_n 2, 1) := by decide +kernel
theorem dL_wash_5 : decode cL_wash 5 = .ok (.invokevirtual 43, 3) := by decide +kernel
theorem dL_wash_8 : decode cL_wash 8 = .ok (.i2l, 1) := by decide +kernel
theorem dL_wash_9 : decode cL_wash 9 = .ok (.lastore, 1) := by decide +kernel
theorem dL_wash_10 : decode cL_wash 10 = .ok (.goto 11, 3) := by decide +kernel
theorem dL_wash_13 : decode cL_wash 13 = .ok (.astore 4, 2) := by decide +kernel
theorem dL_wash_15 : decode cL_wash 15 = .ok (.iconst 1, 1) := by decide +kernel
theorem dL_wash_16 : decode cL_wash 16 = .ok (.ireturn, 1) := by decide +kernel
theorem dL_wash_17 : decode cL_wash 17 = .ok (.astore 4, 2) := by decide +kernel
theorem dL_wash_19 : decode cL_wash 19 = .ok (.iconst 2, 1) := by decide +kernel
theorem dL_wash_20 : decode cL_wash 20 = .ok (.ireturn, 1) := by decide +kernel
theorem dL_wash_21 : decode cL_wash 21 = .ok (.iconst 0, 1) := by decide +kernel
theorem dL_wash_22 : decode cL_wash 22 = .ok (.ireturn, 1) := by decide +kernel
theorem dL_result_0 : decode cL_result 0 = .ok (.aload 4, 2) := by decide +kernel
theorem dL_result_2 : decode cL_result 2 = .ok (.iconst 0, 1) := by decide +kernel
theorem dL_result_3 : decode cL_result 3 = .ok (.aload_n 0, 1) := by decide +kernel
theorem dL_result_4 : decode cL_result 4 = .ok (.iload_n 1, 1) := by decide +kernel
theorem dL_result_5 : decode cL_result 5 = .ok (.iload_n 2, 1) := by decide +kernel
theorem dL_result_6 : decode cL_result 6 = .ok (.iload_n 3, 1) := by decide +kernel
theorem dL_result_7 : decode cL_result 7 = .ok (.invokevirtual 47, 3) := by decide +kernel
theorem dL_result_10 : decode cL_result 10 = .ok (.i2l, 1) := by decide +kernel
theorem dL_result_11 : decode cL_result 11 = .ok (.lastore, 1) := by decide +kernel
theorem dL_result_12 : decode cL_result 12 = .ok (.goto 15, 3) := by decide +kernel
theorem dL_result_15 : decode cL_result 15 = .ok (.astore 5, 2) := by decide +kernel
theorem dL_result_17 : decode cL_result 17 = .ok (.iconst 1, 1) := by decide +kernel
theorem dL_result_18 : decode cL_result 18 = .ok (.ireturn, 1) := by decide +kernel
theorem dL_result_19 : decode cL_result 19 = .ok (.astore 5, 2) := by decide +kernel
theorem dL_result_21 : decode cL_result 21 = .ok (.iconst 2, 1) := by decide +kernel
theorem dL_result_22 : decode cL_result 22 = .ok (.ireturn, 1) := by decide +kernel
theorem dL_result_23 : decode cL_result 23 = .ok (.astore 5, 2) := by decide +kernel
theorem dL_result_25 : decode cL_result 25 = .ok (.iconst 3, 1) := by decide +kernel
theorem dL_result_26 : decode cL_result 26 = .ok (.ireturn, 1) := by decide +kernel
theorem dL_result_27 : decode cL_result 27 = .ok (.iconst 0, 1) := by decide +kernel
theorem dL_result_28 : decode cL_result 28 = .ok (.ireturn, 1) := by decide +kernel
theorem dL_load_0 : decode cL_load 0 = .ok (.aload_n 0, 1) := by decide +kernel
theorem dL_load_1 : decode cL_load 1 = .ok (.iload_n 1, 1) := by decide +kernel
theorem dL_load_2 : decode cL_load 2 = .ok (.iload_n 2, 1) := by decide +kernel
theorem dL_load_3 : decode cL_load 3 = .ok (.invokevirtual 51, 3) := by decide +kernel
theorem dL_load_6 : decode cL_load 6 = .ok (.goto 9, 3) := by decide +kernel
theorem dL_load_9 : decode cL_load 9 = .ok (.astore_n 3, 1) := by decide +kernel
theorem dL_load_10 : decode cL_load 10 = .ok (.iconst 1, 1) := by decide +kernel
theorem dL_load_11 : decode cL_load 11 = .ok (.ireturn, 1) := by decide +kernel
theorem dL_load_12 : decode cL_load 12 = .ok (.astore_n 3, 1) := by decide +kernel
theorem dL_load_13 : decode cL_load 13 = .ok (.iconst 2, 1) := by decide +kernel
theorem dL_load_14 : decode cL_load 14 = .ok (.ireturn, 1) := by decide +kernel
theorem dL_load_15 : decode cL_load 15 = .ok (.iconst 0, 1) := by decide +kernel
theorem dL_load_16 : decode cL_load 16 = .ok (.ireturn, 1) := by decide +kernel
theorem dL_recall_0 : decode cL_recall 0 = .ok (.aload_n 3, 1) := by decide +kernel
theorem dL_recall_1 : decode cL_recall 1 = .ok (.iconst 0, 1) := by decide +kernel
theorem dL_recall_2 : decode cL_recall 2 = .ok (.aload_n 0, 1) := by decide +kernel
theorem dL_recall_3 : decode cL_recall 3 = .ok (.iload_n 1, 1) := by decide +kernel
theorem dL_recall_4 : decode cL_recall 4 = .ok (.iload_n 2, 1) := by decide +kernel
theorem dL_recall_5 : decode cL_recall 5 = .ok (.invokevirtual 54, 3) := by decide +kernel
theorem dL_recall_8 : decode cL_recall 8 = .ok (.i2l, 1) := by decide +kernel
theorem dL_recall_9 : decode cL_recall 9 = .ok (.lastore, 1) := by decide +kernel
theorem dL_recall_10 : decode cL_recall 10 = .ok (.goto 11, 3) := by decide +kernel
theorem dL_recall_13 : decode cL_recall 13 = .ok (.astore 4, 2) := by decide +kernel
theorem dL_recall_15 : decode cL_recall 15 = .ok (.iconst 1, 1) := by decide +kernel
theorem dL_recall_16 : decode cL_recall 16 = .ok (.ireturn, 1) := by decide +kernel
theorem dL_recall_17 : decode cL_recall 17 = .ok (.astore 4, 2) := by decide +kernel
theorem dL_recall_19 : decode cL_recall 19 = .ok (.iconst 2, 1) := by decide +kernel
theorem dL_recall_20 : decode cL_recall 20 = .ok (.ireturn, 1) := by decide +kernel
theorem dL_recall_21 : decode cL_recall 21 = .ok (.iconst 0, 1) := by decide +kernel
theorem dL_recall_22 : decode cL_recall 22 = .ok (.ireturn, 1) := by decide +kernel
theorem dL_recalled_0 : decode cL_recalled 0 = .ok (.aload_n 3, 1) := by decide +kernel
theorem dL_recalled_1 : decode cL_recalled 1 = .ok (.iconst 0, 1) := by decide +kernel
theorem dL_recalled_2 : decode cL_recalled 2 = .ok (.aload_n 0, 1) := by decide +kernel
theorem dL_recalled_3 : decode cL_recalled 3 = .ok (.iload_n 1, 1) := by decide +kernel
theorem dL_recalled_4 : decode cL_recalled 4 = .ok (.iload_n 2, 1) := by decide +kernel
theorem dL_recalled_5 : decode cL_recalled 5 = .ok (.invokevirtual 57, 3) := by decide +kernel
theorem dL_recalled_8 : decode cL_recalled 8 = .ok (.i2l, 1) := by decide +kernel
theorem dL_recalled_9 : decode cL_recalled 9 = .ok (.lastore, 1) := by decide +kernel
theorem dL_recalled_10 : decode cL_recalled 10 = .ok (.goto 11, 3) := by decide +kernel
theorem dL_recalled_13 : decode cL_recalled 13 = .ok (.astore 4, 2) := by decide +kernel
theorem dL_recalled_15 : decode cL_recalled 15 = .ok (.iconst 1, 1) := by decide +kernel
theorem dL_recalled_16 : decode cL_recalled 16 = .ok (.ireturn, 1) := by decide +kernel
theorem dL_recalled_17 : decode cL_recalled 17 = .ok (.astore 4, 2) := by decide +kernel
theorem dL_recalled_19 : decode cL_recalled 19 = .ok (.iconst 2, 1) := by decide +kernel
theorem dL_recalled_20 : decode cL_recalled 20 = .ok (.ireturn, 1) := by decide +kernel
theorem dL_recalled_21 : decode cL_recalled 21 = .ok (.iconst 0, 1) := by decide +kernel
theorem dL_recalled_22 : decode cL_recalled 22 = .ok (.ireturn, 1) := by decide +kernel
theorem dL_barred_0 : decode cL_barred 0 = .ok (.aload_n 2, 1) := by decide +kernel
theorem dL_barred_1 : decode cL_barred 1 = .ok (.iconst 0, 1) := by decide +kernel
theorem dL_barred_2 : decode cL_barred 2 = .ok (.aload_n 0, 1) := by decide +kernel
theorem dL_barred_3 : decode cL_barred 3 = .ok (.iload_n 1, 1) := by decide +kernel
theorem dL_barred_4 : decode cL_barred 4 = .ok (.invokevirtual 61, 3) := by decide +kernel
theorem dL_barred_7 : decode cL_barred 7 = .ok (.i2l, 1) := by decide +kernel
theorem dL_barred_8 : decode cL_barred 8 = .ok (.lastore, 1) := by decide +kernel
theorem dL_barred_9 : decode cL_barred 9 = .ok (.goto 6, 3) := by decide +kernel
theorem dL_barred_12 : decode cL_barred 12 = .ok (.astore_n 3, 1) := by decide +kernel
theorem dL_barred_13 : decode cL_barred 13 = .ok (.iconst 1, 1) := by decide +kernel
theorem dL_barred_14 : decode cL_barred 14 = .ok (.ireturn, 1) := by decide +kernel
theorem dL_barred_15 : decode cL_barred 15 = .ok (.iconst 0, 1) := by decide +kernel
theorem dL_barred_16 : decode cL_barred 16 = .ok (.ireturn, 1) := by decide +kernel
theorem dL_ends_0 : decode cL_ends 0 = .ok (.aload_n 2, 1) := by decide +kernel
theorem dL_ends_1 : decode cL_ends 1 = .ok (.iconst 0, 1) := by decide +kernel
theorem dL_ends_2 : decode cL_ends 2 = .ok (.aload_n 0, 1) := by decide +kernel
theorem dL_ends_3 : decode cL_ends 3 = .ok (.iload_n 1, 1) := by decide +kernel
theorem dL_ends_4 : decode cL_ends 4 = .ok (.invokevirtual 64, 3) := by decide +kernel
theorem dL_ends_7 : decode cL_ends 7 = .ok (.i2l, 1) := by decide +kernel
theorem dL_ends_8 : decode cL_ends 8 = .ok (.lastore, 1) := by decide +kernel
theorem dL_ends_9 : decode cL_ends 9 = .ok (.goto 6, 3) := by decide +kernel
theorem dL_ends_12 : decode cL_ends 12 = .ok (.astore_n 3, 1) := by decide +kernel
theorem dL_ends_13 : decode cL_ends 13 = .ok (.iconst 1, 1) := by decide +kernel
theorem dL_ends_14 : decode cL_ends 14 = .ok (.ireturn, 1) := by decide +kernel
theorem dL_ends_15 : decode cL_ends 15 = .ok (.iconst 0, 1) := by decide +kernel
theorem dL_ends_16 : decode cL_ends 16 = .ok (.ireturn, 1) := by decide +kernel
theorem dL_soon_0 : decode cL_soon 0 = .ok (.aload 4, 2) := by decide +kernel
theorem dL_soon_2 : decode cL_soon 2 = .ok (.iconst 0, 1) := by decide +kernel
theorem dL_soon_3 : decode cL_soon 3 = .ok (.aload_n 0, 1) := by decide +kernel
theorem dL_soon_4 : decode cL_soon 4 = .ok (.iload_n 1, 1) := by decide +kernel
theorem dL_soon_5 : decode cL_soon 5 = .ok (.iload_n 2, 1) := by decide +kernel
theorem dL_soon_6 : decode cL_soon 6 = .ok (.iload_n 3, 1) := by decide +kernel
theorem dL_soon_7 : decode cL_soon 7 = .ok (.invokevirtual 67, 3) := by decide +kernel
theorem dL_soon_10 : decode cL_soon 10 = .ok (.i2l, 1) := by decide +kernel
theorem dL_soon_11 : decode cL_soon 11 = .ok (.lastore, 1) := by decide +kernel
theorem dL_soon_12 : decode cL_soon 12 = .ok (.goto 11, 3) := by decide +kernel
theorem dL_soon_15 : decode cL_soon 15 = .ok (.astore 5, 2) := by decide +kernel
theorem dL_soon_17 : decode cL_soon 17 = .ok (.iconst 1, 1) := by decide +kernel
theorem dL_soon_18 : decode cL_soon 18 = .ok (.ireturn, 1) := by decide +kernel
theorem dL_soon_19 : decode cL_soon 19 = .ok (.astore 5, 2) := by decide +kernel
theorem dL_soon_21 : decode cL_soon 21 = .ok (.iconst 2, 1) := by decide +kernel
theorem dL_soon_22 : decode cL_soon 22 = .ok (.ireturn, 1) := by decide +kernel
theorem dL_soon_23 : decode cL_soon 23 = .ok (.iconst 0, 1) := by decide +kernel
theorem dL_soon_24 : decode cL_soon 24 = .ok (.ireturn, 1) := by decide +kernel
theorem dL_thingAt_0 : decode cL_thingAt 0 = .ok (.aload_n 3, 1) := by decide +kernel
theorem dL_thingAt_1 : decode cL_thingAt 1 = .ok (.iconst 0, 1) := by decide +kernel
theorem dL_thingAt_2 : decode cL_thingAt 2 = .ok (.aload_n 0, 1) := by decide +kernel
theorem dL_thingAt_3 : decode cL_thingAt 3 = .ok (.iload_n 1, 1) := by decide +kernel
theorem dL_thingAt_4 : decode cL_thingAt 4 = .ok (.iload_n 2, 1) := by decide +kernel
theorem dL_thingAt_5 : decode cL_thingAt 5 = .ok (.invokevirtual 70, 3) := by decide +kernel
theorem dL_thingAt_8 : decode cL_thingAt 8 = .ok (.i2l, 1) := by decide +kernel
theorem dL_thingAt_9 : decode cL_thingAt 9 = .ok (.lastore, 1) := by decide +kernel
theorem dL_thingAt_10 : decode cL_thingAt 10 = .ok (.goto 7, 3) := by decide +kernel
theorem dL_thingAt_13 : decode cL_thingAt 13 = .ok (.astore 4, 2) := by decide +kernel
theorem dL_thingAt_15 : decode cL_thingAt 15 = .ok (.iconst 1, 1) := by decide +kernel
theorem dL_thingAt_16 : decode cL_thingAt 16 = .ok (.ireturn, 1) := by decide +kernel
theorem dL_thingAt_17 : decode cL_thingAt 17 = .ok (.iconst 0, 1) := by decide +kernel
theorem dL_thingAt_18 : decode cL_thingAt 18 = .ok (.ireturn, 1) := by decide +kernel
theorem dL_life_0 : decode cL_life 0 = .ok (.aload_n 3, 1) := by decide +kernel
theorem dL_life_1 : decode cL_life 1 = .ok (.iconst 0, 1) := by decide +kernel
theorem dL_life_2 : decode cL_life 2 = .ok (.aload_n 0, 1) := by decide +kernel
theorem dL_life_3 : decode cL_life 3 = .ok (.iload_n 1, 1) := by decide +kernel
theorem dL_life_4 : decode cL_life 4 = .ok (.iload_n 2, 1) := by decide +kernel
theorem dL_life_5 : decode cL_life 5 = .ok (.invokevirtual 73, 3) := by decide +kernel
theorem dL_life_8 : decode cL_life 8 = .ok (.i2l, 1) := by decide +kernel
theorem dL_life_9 : decode cL_life 9 = .ok (.lastore, 1) := by decide +kernel
theorem dL_life_10 : decode cL_life 10 = .ok (.goto 11, 3) := by decide +kernel
theorem dL_life_13 : decode cL_life 13 = .ok (.astore 4, 2) := by decide +kernel
theorem dL_life_15 : decode cL_life 15 = .ok (.iconst 1, 1) := by decide +kernel
theorem dL_life_16 : decode cL_life 16 = .ok (.ireturn, 1) := by decide +kernel
theorem dL_life_17 : decode cL_life 17 = .ok (.astore 4, 2) := by decide +kernel
theorem dL_life_19 : decode cL_life 19 = .ok (.iconst 2, 1) := by decide +kernel
theorem dL_life_20 : decode cL_life 20 = .ok (.ireturn, 1) := by decide +kernel
theorem dL_life_21 : decode cL_life 21 = .ok (.iconst 0, 1) := by decide +kernel
theorem dL_life_22 : decode cL_life 22 = .ok (.ireturn, 1) := by decide +kernel
theorem dL_plan_0 : decode cL_plan 0 = .ok (.aload 6, 2) := by decide +kernel
theorem dL_plan_2 : decode cL_plan 2 = .ok (.iconst 0, 1) := by decide +kernel
theorem dL_plan_3 : decode cL_plan 3 = .ok (.aload_n 0, 1) := by decide +kernel
theorem dL_plan_4 : decode cL_plan 4 = .ok (.lload_n 1, 1) := by decide +kernel
theorem dL_plan_5 : decode cL_plan 5 = .ok (.iload_n 3, 1) := by decide +kernel
theorem dL_plan_6 : decode cL_plan 6 = .ok (.iload 4, 2) := by decide +kernel
theorem dL_plan_8 : decode cL_plan 8 = .ok (.iload 5, 2) := by decide +kernel
theorem dL_plan_10 : decode cL_plan 10 = .ok (.invokevirtual 78, 3) := by decide +kernel
theorem dL_plan_13 : decode cL_plan 13 = .ok (.i2l, 1) := by decide +kernel
theorem dL_plan_14 : decode cL_plan 14 = .ok (.lastore, 1) := by decide +kernel
theorem dL_plan_15 : decode cL_plan 15 = .ok (.goto 7, 3) := by decide +kernel
theorem dL_plan_18 : decode cL_plan 18 = .ok (.astore 7, 2) := by decide +kernel
theorem dL_plan_20 : decode cL_plan 20 = .ok (.iconst 1, 1) := by decide +kernel
theorem dL_plan_21 : decode cL_plan 21 = .ok (.ireturn, 1) := by decide +kernel
theorem dL_plan_22 : decode cL_plan 22 = .ok (.iconst 0, 1) := by decide +kernel
theorem dL_plan_23 : decode cL_plan 23 = .ok (.ireturn, 1) := by decide +kernel
theorem dL_week_0 : decode cL_week 0 = .ok (.aload_n 2, 1) := by decide +kernel
theorem dL_week_1 : decode cL_week 1 = .ok (.iconst 0, 1) := by decide +kernel
theorem dL_week_2 : decode cL_week 2 = .ok (.aload_n 0, 1) := by decide +kernel
theorem dL_week_3 : decode cL_week 3 = .ok (.iload_n 1, 1) := by decide +kernel
theorem dL_week_4 : decode cL_week 4 = .ok (.invokevirtual 82, 3) := by decide +kernel
theorem dL_week_7 : decode cL_week 7 = .ok (.i2l, 1) := by decide +kernel
theorem dL_week_8 : decode cL_week 8 = .ok (.lastore, 1) := by decide +kernel
theorem dL_week_9 : decode cL_week 9 = .ok (.goto 6, 3) := by decide +kernel
theorem dL_week_12 : decode cL_week 12 = .ok (.astore_n 3, 1) := by decide +kernel
theorem dL_week_13 : decode cL_week 13 = .ok (.iconst 1, 1) := by decide +kernel
theorem dL_week_14 : decode cL_week 14 = .ok (.ireturn, 1) := by decide +kernel
theorem dL_week_15 : decode cL_week 15 = .ok (.iconst 0, 1) := by decide +kernel
theorem dL_week_16 : decode cL_week 16 = .ok (.ireturn, 1) := by decide +kernel
