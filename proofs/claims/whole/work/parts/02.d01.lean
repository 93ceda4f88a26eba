theorem dX3_life_7 : decode cX3_life 7 = .ok (.invokestatic 47, 3) := by decide +kernel
theorem dX3_life_10 : decode cX3_life 10 = .ok (.aload_n 0, 1) := by decide +kernel
theorem dX3_life_11 : decode cX3_life 11 = .ok (.getfield 19, 3) := by decide +kernel
theorem dX3_life_14 : decode cX3_life 14 = .ok (.iload_n 1, 1) := by decide +kernel
theorem dX3_life_15 : decode cX3_life 15 = .ok (.invokevirtual 156, 3) := by decide +kernel
theorem dX3_life_18 : decode cX3_life 18 = .ok (.istore_n 3, 1) := by decide +kernel
theorem dX3_life_19 : decode cX3_life 19 = .ok (.iload_n 3, 1) := by decide +kernel
theorem dX3_life_20 : decode cX3_life 20 = .ok (.ifCond .ne 13, 3) := by decide +kernel
theorem dX3_life_23 : decode cX3_life 23 = .ok (.new 159, 3) := by decide +kernel
theorem dX3_life_26 : decode cX3_life 26 = .ok (.dup, 1) := by decide +kernel
theorem dX3_life_27 : decode cX3_life 27 = .ok (.ldc 161, 2) := by decide +kernel
theorem dX3_life_29 : decode cX3_life 29 = .ok (.invokespecial 163, 3) := by decide +kernel
theorem dX3_life_32 : decode cX3_life 32 = .ok (.athrow, 1) := by decide +kernel
theorem dX3_life_33 : decode cX3_life 33 = .ok (.aload_n 0, 1) := by decide +kernel
theorem dX3_life_34 : decode cX3_life 34 = .ok (.getfield 19, 3) := by decide +kernel
theorem dX3_life_37 : decode cX3_life 37 = .ok (.iload_n 1, 1) := by decide +kernel
theorem dX3_life_38 : decode cX3_life 38 = .ok (.invokevirtual 164, 3) := by decide +kernel
theorem dX3_life_41 : decode cX3_life 41 = .ok (.istore 4, 2) := by decide +kernel
theorem dX3_life_43 : decode cX3_life 43 = .ok (.iload 4, 2) := by decide +kernel
theorem dX3_life_45 : decode cX3_life 45 = .ok (.iload_n 3, 1) := by decide +kernel
theorem dX3_life_46 : decode cX3_life 46 = .ok (.invokestatic 167, 3) := by decide +kernel
theorem dX3_life_49 : decode cX3_life 49 = .ok (.istore 5, 2) := by decide +kernel
theorem dX3_life_51 : decode cX3_life 51 = .ok (.iload_n 2, 1) := by decide +kernel
theorem dX3_life_52 : decode cX3_life 52 = .ok (.ifCond .ne 8, 3) := by decide +kernel
theorem dX3_life_55 : decode cX3_life 55 = .ok (.iload 4, 2) := by decide +kernel
theorem dX3_life_57 : decode cX3_life 57 = .ok (.goto 4, 3) := by decide +kernel
theorem dX3_life_60 : decode cX3_life 60 = .ok (.iload_n 3, 1) := by decide +kernel
theorem dX3_life_61 : decode cX3_life 61 = .ok (.iload 5, 2) := by decide +kernel
theorem dX3_life_63 : decode cX3_life 63 = .ok (.idiv, 1) := by decide +kernel
theorem dX3_life_64 : decode cX3_life 64 = .ok (.ireturn, 1) := by decide +kernel
theorem dX3_plan_0 : decode cX3_plan 0 = .ok (.iload 4, 2) := by decide +kernel
theorem dX3_plan_2 : decode cX3_plan 2 = .ok (.iconst 0, 1) := by decide +kernel
theorem dX3_plan_3 : decode cX3_plan 3 = .ok (.bipush 6, 2) := by decide +kernel
theorem dX3_plan_5 : decode cX3_plan 5 = .ok (.invokestatic 43, 3) := by decide +kernel
theorem dX3_plan_8 : decode cX3_plan 8 = .ok (.iload 5, 2) := by decide +kernel
theorem dX3_plan_10 : decode cX3_plan 10 = .ok (.iconst 1, 1) := by decide +kernel
theorem dX3_plan_11 : decode cX3_plan 11 = .ok (.iconst 4, 1) := by decide +kernel
theorem dX3_plan_12 : decode cX3_plan 12 = .ok (.invokestatic 43, 3) := by decide +kernel
theorem dX3_plan_15 : decode cX3_plan 15 = .ok (.aload_n 0, 1) := by decide +kernel
theorem dX3_plan_16 : decode cX3_plan 16 = .ok (.getfield 26, 3) := by decide +kernel
theorem dX3_plan_19 : decode cX3_plan 19 = .ok (.lload_n 1, 1) := by decide +kernel
theorem dX3_plan_20 : decode cX3_plan 20 = .ok (.iload_n 3, 1) := by decide +kernel
theorem dX3_plan_21 : decode cX3_plan 21 = .ok (.iload 4, 2) := by decide +kernel
theorem dX3_plan_23 : decode cX3_plan 23 = .ok (.iload 5, 2) := by decide +kernel
theorem dX3_plan_25 : decode cX3_plan 25 = .ok (.invokevirtual 170, 3) := by decide +kernel
theorem dX3_plan_28 : decode cX3_plan 28 = .ok (.ireturn, 1) := by decide +kernel
theorem dX3_week_0 : decode cX3_week 0 = .ok (.iload_n 1, 1) := by decide +kernel
theorem dX3_week_1 : decode cX3_week 1 = .ok (.aload_n 0, 1) := by decide +kernel
theorem dX3_week_2 : decode cX3_week 2 = .ok (.getfield 26, 3) := by decide +kernel
theorem dX3_week_5 : decode cX3_week 5 = .ok (.getfield 174, 3) := by decide +kernel
theorem dX3_week_8 : decode cX3_week 8 = .ok (.invokestatic 47, 3) := by decide +kernel
theorem dX3_week_11 : decode cX3_week 11 = .ok (.aload_n 0, 1) := by decide +kernel
theorem dX3_week_12 : decode cX3_week 12 = .ok (.getfield 26, 3) := by decide +kernel
theorem dX3_week_15 : decode cX3_week 15 = .ok (.getfield 177, 3) := by decide +kernel
theorem dX3_week_18 : decode cX3_week 18 = .ok (.iload_n 1, 1) := by decide +kernel
theorem dX3_week_19 : decode cX3_week 19 = .ok (.iaload, 1) := by decide +kernel
theorem dX3_week_20 : decode cX3_week 20 = .ok (.ireturn, 1) := by decide +kernel
theorem dX3_needKnown_0 : decode cX3_needKnown 0 = .ok (.iload_n 0, 1) := by decide +kernel
theorem dX3_needKnown_1 : decode cX3_needKnown 1 = .ok (.ifCond .lt 8, 3) := by decide +kernel
theorem dX3_needKnown_4 : decode cX3_needKnown 4 = .ok (.iload_n 0, 1) := by decide +kernel
theorem dX3_needKnown_5 : decode cX3_needKnown 5 = .ok (.iload_n 1, 1) := by decide +kernel
theorem dX3_needKnown_6 : decode cX3_needKnown 6 = .ok (.if_icmp .lt 13, 3) := by decide +kernel
theorem dX3_needKnown_9 : decode cX3_needKnown 9 = .ok (.new 151, 3) := by decide +kernel
theorem dX3_needKnown_12 : decode cX3_needKnown 12 = .ok (.dup, 1) := by decide +kernel
theorem dX3_needKnown_13 : decode cX3_needKnown 13 = .ok (.ldc 180, 2) := by decide +kernel
theorem dX3_needKnown_15 : decode cX3_needKnown 15 = .ok (.invokespecial 155, 3) := by decide +kernel
theorem dX3_needKnown_18 : decode cX3_needKnown 18 = .ok (.athrow, 1) := by decide +kernel
theorem dX3_needKnown_19 : decode cX3_needKnown 19 = .ok (.return_, 1) := by decide +kernel
theorem dX3_needRange_0 : decode cX3_needRange 0 = .ok (.iload_n 0, 1) := by decide +kernel
theorem dX3_needRange_1 : decode cX3_needRange 1 = .ok (.iload_n 1, 1) := by decide +kernel
theorem dX3_needRange_2 : decode cX3_needRange 2 = .ok (.if_icmp .lt 8, 3) := by decide +kernel
theorem dX3_needRange_5 : decode cX3_needRange 5 = .ok (.iload_n 0, 1) := by decide +kernel
theorem dX3_needRange_6 : decode cX3_needRange 6 = .ok (.iload_n 2, 1) := by decide +kernel
theorem dX3_needRange_7 : decode cX3_needRange 7 = .ok (.if_icmp .le 13, 3) := by decide +kernel
theorem dX3_needRange_10 : decode cX3_needRange 10 = .ok (.new 182, 3) := by decide +kernel
theorem dX3_needRange_13 : decode cX3_needRange 13 = .ok (.dup, 1) := by decide +kernel
theorem dX3_needRange_14 : decode cX3_needRange 14 = .ok (.ldc 184, 2) := by decide +kernel
theorem dX3_needRange_16 : decode cX3_needRange 16 = .ok (.invokespecial 186, 3) := by decide +kernel
theorem dX3_needRange_19 : decode cX3_needRange 19 = .ok (.athrow, 1) := by decide +kernel
theorem dX3_needRange_20 : decode cX3_needRange 20 = .ok (.return_, 1) := by decide +kernel
theorem dX3_needState_0 : decode cX3_needState 0 = .ok (.iload_n 0, 1) := by decide +kernel
theorem dX3_needState_1 : decode cX3_needState 1 = .ok (.ifCond .ne 13, 3) := by decide +kernel
theorem dX3_needState_4 : decode cX3_needState 4 = .ok (.new 187, 3) := by decide +kernel
theorem dX3_needState_7 : decode cX3_needState 7 = .ok (.dup, 1) := by decide +kernel
theorem dX3_needState_8 : decode cX3_needState 8 = .ok (.ldc 189, 2) := by decide +kernel
theorem dX3_needState_10 : decode cX3_needState 10 = .ok (.invokespecial 191, 3) := by decide +kernel
theorem dX3_needState_13 : decode cX3_needState 13 = .ok (.athrow, 1) := by decide +kernel
theorem dX3_needState_14 : decode cX3_needState 14 = .ok (.return_, 1) := by decide +kernel
theorem dX3_checkLetter_0 : decode cX3_checkLetter 0 = .ok (.iload_n 0, 1) := by decide +kernel
theorem dX3_checkLetter_1 : decode cX3_checkLetter 1 = .ok (.istore_n 1, 1) := by decide +kernel
theorem dX3_checkLetter_2 : decode cX3_checkLetter 2 = .ok (.iconst 0, 1) := by decide +kernel
theorem dX3_checkLetter_3 : decode cX3_checkLetter 3 = .ok (.istore_n 2, 1) := by decide +kernel
theorem dX3_checkLetter_4 : decode cX3_checkLetter 4 = .ok (.iconst 0, 1) := by decide +kernel
theorem dX3_checkLetter_5 : decode cX3_checkLetter 5 = .ok (.istore_n 3, 1) := by decide +kernel
theorem dX3_checkLetter_6 : decode cX3_checkLetter 6 = .ok (.iload_n 3, 1) := by decide +kernel
theorem dX3_checkLetter_7 : decode cX3_checkLetter 7 = .ok (.getstatic 192, 3) := by decide +kernel
theorem dX3_checkLetter_10 : decode cX3_checkLetter 10 = .ok (.arraylength, 1) := by decide +kernel
theorem dX3_checkLetter_11 : decode cX3_checkLetter 11 = .ok (.if_icmp .ge 27, 3) := by decide +kernel
theorem dX3_checkLetter_14 : decode cX3_checkLetter 14 = .ok (.iload_n 2, 1) := by decide +kernel
theorem dX3_checkLetter_15 : decode cX3_checkLetter 15 = .ok (.iload_n 1, 1) := by decide +kernel
theorem dX3_checkLetter_16 : decode cX3_checkLetter 16 = .ok (.bipush 10, 2) := by decide +kernel
theorem dX3_checkLetter_18 : decode cX3_checkLetter 18 = .ok (.irem, 1) := by decide +kernel
theorem dX3_checkLetter_19 : decode cX3_checkLetter 19 = .ok (.getstatic 192, 3) := by decide +kernel
theorem dX3_checkLetter_22 : decode cX3_checkLetter 22 = .ok (.iload_n 3, 1) := by decide +kernel
theorem dX3_checkLetter_23 : decode cX3_checkLetter 23 = .ok (.iaload, 1) := by decide +kernel
theorem dX3_checkLetter_24 : decode cX3_checkLetter 24 = .ok (.imul, 1) := by decide +kernel
theorem dX3_checkLetter_25 : decode cX3_checkLetter 25 = .ok (.iadd, 1) := by decide +kernel
theorem dX3_checkLetter_26 : decode cX3_checkLetter 26 = .ok (.istore_n 2, 1) := by decide +kernel
theorem dX3_checkLetter_27 : decode cX3_checkLetter 27 = .ok (.iload_n 1, 1) := by decide +kernel
theorem dX3_checkLetter_28 : decode cX3_checkLetter 28 = .ok (.bipush 10, 2) := by decide +kernel
theorem dX3_checkLetter_30 : decode cX3_checkLetter 30 = .ok (.idiv, 1) := by decide +kernel
theorem dX3_checkLetter_31 : decode cX3_checkLetter 31 = .ok (.istore_n 1, 1) := by decide +kernel
theorem dX3_checkLetter_32 : decode cX3_checkLetter 32 = .ok (.iinc 3 1, 3) := by decide +kernel
theorem dX3_checkLetter_35 : decode cX3_checkLetter 35 = .ok (.goto (-29), 3) := by decide +kernel
theorem dX3_checkLetter_38 : decode cX3_checkLetter 38 = .ok (.bipush 65, 2) := by decide +kernel
theorem dX3_checkLetter_40 : decode cX3_checkLetter 40 = .ok (.iload_n 2, 1) := by decide +kernel
theorem dX3_checkLetter_41 : decode cX3_checkLetter 41 = .ok (.bipush 23, 2) := by decide +kernel
theorem dX3_checkLetter_43 : decode cX3_checkLetter 43 = .ok (.irem, 1) := by decide +kernel
theorem dX3_checkLetter_44 : decode cX3_checkLetter 44 = .ok (.iadd, 1) := by decide +kernel
theorem dX3_checkLetter_45 : decode cX3_checkLetter 45 = .ok (.ireturn, 1) := by decide +kernel
theorem dX3_commonDivisor_0 : decode cX3_commonDivisor 0 = .ok (.iload_n 1, 1) := by decide +kernel
theorem dX3_commonDivisor_1 : decode cX3_commonDivisor 1 = .ok (.istore_n 2, 1) := by decide +kernel
theorem dX3_commonDivisor_2 : decode cX3_commonDivisor 2 = .ok (.iload_n 2, 1) := by decide +kernel
theorem dX3_commonDivisor_3 : decode cX3_commonDivisor 3 = .ok (.iconst 1, 1) := by decide +kernel
theorem dX3_commonDivisor_4 : decode cX3_commonDivisor 4 = .ok (.if_icmp .le 23, 3) := by decide +kernel
theorem dX3_commonDivisor_7 : decode cX3_commonDivisor 7 = .ok (.iload_n 1, 1) := by decide +kernel
theorem dX3_commonDivisor_8 : decode cX3_commonDivisor 8 = .ok (.iload_n 2, 1) := by decide +kernel
theorem dX3_commonDivisor_9 : decode cX3_commonDivisor 9 = .ok (.irem, 1) := by decide +kernel
theorem dX3_commonDivisor_10 : decode cX3_commonDivisor 10 = .ok (.ifCond .ne 11, 3) := by decide +kernel
theorem dX3_commonDivisor_13 : decode cX3_commonDivisor 13 = .ok (.iload_n 0, 1) := by decide +kernel
theorem dX3_commonDivisor_14 : decode cX3_commonDivisor 14 = .ok (.iload_n 2, 1) := by decide +kernel
theorem dX3_commonDivisor_15 : decode cX3_commonDivisor 15 = .ok (.irem, 1) := by decide +kernel
theorem dX3_commonDivisor_16 : decode cX3_commonDivisor 16 = .ok (.ifCond .ne 5, 3) := by decide +kernel
theorem dX3_commonDivisor_19 : decode cX3_commonDivisor 19 = .ok (.iload_n 2, 1) := by decide +kernel
theorem dX3_commonDivisor_20 : decode cX3_commonDivisor 20 = .ok (.ireturn, 1) := by decide +kernel
theorem dX3_commonDivisor_21 : decode cX3_commonDivisor 21 = .ok (.iinc 2 (-1), 3) := by decide +kernel
theorem dX3_commonDivisor_24 : decode cX3_commonDivisor 24 = .ok (.goto (-22), 3) := by decide +kernel
theorem dX3_commonDivisor_27 : decode cX3_commonDivisor 27 = .ok (.iconst 1, 1) := by decide +kernel
theorem dX3_commonDivisor_28 : decode cX3_commonDivisor 28 = .ok (.ireturn, 1) := by decide +kernel
theorem dX3_reasonBarred_0 : decode cX3_reasonBarred 0 = .ok (.aload_n 0, 1) := by decide +kernel
theorem dX3_reasonBarred_1 : decode cX3_reasonBarred 1 = .ok (.getfield 19, 3) := by decide +kernel
theorem dX3_reasonBarred_4 : decode cX3_reasonBarred 4 = .ok (.iload_n 1, 1) := by decide +kernel
theorem dX3_reasonBarred_5 : decode cX3_reasonBarred 5 = .ok (.invokevirtual 99, 3) := by decide +kernel
theorem dX3_reasonBarred_8 : decode cX3_reasonBarred 8 = .ok (.ifCond .eq 5, 3) := by decide +kernel
theorem dX3_reasonBarred_11 : decode cX3_reasonBarred 11 = .ok (.iconst 1, 1) := by decide +kernel
theorem dX3_reasonBarred_12 : decode cX3_reasonBarred 12 = .ok (.ireturn, 1) := by decide +kernel
theorem dX3_reasonBarred_13 : decode cX3_reasonBarred 13 = .ok (.aload_n 0, 1) := by decide +kernel
theorem dX3_reasonBarred_14 : decode cX3_reasonBarred 14 = .ok (.getfield 30, 3) := by decide +kernel
theorem dX3_reasonBarred_17 : decode cX3_reasonBarred 17 = .ok (.aload_n 0, 1) := by decide +kernel
theorem dX3_reasonBarred_18 : decode cX3_reasonBarred 18 = .ok (.getfield 19, 3) := by decide +kernel
theorem dX3_reasonBarred_21 : decode cX3_reasonBarred 21 = .ok (.getfield 195, 3) := by decide +kernel
theorem dX3_reasonBarred_24 : decode cX3_reasonBarred 24 = .ok (.iload_n 1, 1) := by decide +kernel
theorem dX3_reasonBarred_25 : decode cX3_reasonBarred 25 = .ok (.iaload, 1) := by decide +kernel
theorem dX3_reasonBarred_26 : decode cX3_reasonBarred 26 = .ok (.baload, 1) := by decide +kernel
theorem dX3_reasonBarred_27 : decode cX3_reasonBarred 27 = .ok (.ifCond .eq 5, 3) := by decide +kernel
theorem dX3_reasonBarred_30 : decode cX3_reasonBarred 30 = .ok (.iconst 2, 1) := by decide +kernel
theorem dX3_reasonBarred_31 : decode cX3_reasonBarred 31 = .ok (.ireturn, 1) := by decide +kernel
theorem dX3_reasonBarred_32 : decode cX3_reasonBarred 32 = .ok (.aload_n 0, 1) := by decide +kernel
theorem dX3_reasonBarred_33 : decode cX3_reasonBarred 33 = .ok (.iload_n 1, 1) := by decide +kernel
theorem dX3_reasonBarred_34 : decode cX3_reasonBarred 34 = .ok (.invokevirtual 198, 3) := by decide +kernel
theorem dX3_reasonBarred_37 : decode cX3_reasonBarred 37 = .ok (.aload_n 0, 1) := by decide +kernel
theorem dX3_reasonBarred_38 : decode cX3_reasonBarred 38 = .ok (.getfield 38, 3) := by decide +kernel
theorem dX3_reasonBarred_41 : decode cX3_reasonBarred 41 = .ok (.if_icmp .gt 5, 3) := by decide +kernel
theorem dX3_reasonBarred_44 : decode cX3_reasonBarred 44 = .ok (.iconst 3, 1) := by decide +kernel
theorem dX3_reasonBarred_45 : decode cX3_reasonBarred 45 = .ok (.ireturn, 1) := by decide +kernel
theorem dX3_reasonBarred_46 : decode cX3_reasonBarred 46 = .ok (.aload_n 0, 1) := by decide +kernel
theorem dX3_reasonBarred_47 : decode cX3_reasonBarred 47 = .ok (.iload_n 1, 1) := by decide +kernel
theorem dX3_reasonBarred_48 : decode cX3_reasonBarred 48 = .ok (.invokevirtual 201, 3) := by decide +kernel
theorem dX3_reasonBarred_51 : decode cX3_reasonBarred 51 = .ok (.aload_n 0, 1) := by decide +kernel
theorem dX3_reasonBarred_52 : decode cX3_reasonBarred 52 = .ok (.getfield 38, 3) := by decide +kernel
theorem dX3_reasonBarred_55 : decode cX3_reasonBarred 55 = .ok (.if_icmp .gt 5, 3) := by decide +kernel
theorem dX3_reasonBarred_58 : decode cX3_reasonBarred 58 = .ok (.iconst 4, 1) := by decide +kernel
theorem dX3_reasonBarred_59 : decode cX3_reasonBarred 59 = .ok (.ireturn, 1) := by decide +kernel
theorem dX3_reasonBarred_60 : decode cX3_reasonBarred 60 = .ok (.aload_n 0, 1) := by decide +kernel
theorem dX3_reasonBarred_61 : decode cX3_reasonBarred 61 = .ok (.getfield 19, 3) := by decide +kernel
theorem dX3_reasonBarred_64 : decode cX3_reasonBarred 64 = .ok (.iload_n 1, 1) := by decide +kernel
theorem dX3_reasonBarred_65 : decode cX3_reasonBarred 65 = .ok (.invokevirtual 139, 3) := by decide +kernel
theorem dX3_reasonBarred_68 : decode cX3_reasonBarred 68 = .ok (.iconst 1, 1) := by decide +kernel
theorem dX3_reasonBarred_69 : decode cX3_reasonBarred 69 = .ok (.if_icmp .ne 5, 3) := by decide +kernel
theorem dX3_reasonBarred_72 : decode cX3_reasonBarred 72 = .ok (.iconst 5, 1) := by decide +kernel
theorem dX3_reasonBarred_73 : decode cX3_reasonBarred 73 = .ok (.ireturn, 1) := by decide +kernel
theorem dX3_reasonBarred_74 : decode cX3_reasonBarred 74 = .ok (.aload_n 0, 1) := by decide +kernel
theorem dX3_reasonBarred_75 : decode cX3_reasonBarred 75 = .ok (.getfield 19, 3) := by decide +kernel
theorem dX3_reasonBarred_78 : decode cX3_reasonBarred 78 = .ok (.getfield 102, 3) := by decide +kernel
theorem dX3_reasonBarred_81 : decode cX3_reasonBarred 81 = .ok (.iload_n 1, 1) := by decide +kernel
theorem dX3_reasonBarred_82 : decode cX3_reasonBarred 82 = .ok (.baload, 1) := by decide +kernel
theorem dX3_reasonBarred_83 : decode cX3_reasonBarred 83 = .ok (.ifCond .eq 8, 3) := by decide +kernel
theorem dX3_reasonBarred_86 : decode cX3_reasonBarred 86 = .ok (.bipush 6, 2) := by decide +kernel
theorem dX3_reasonBarred_88 : decode cX3_reasonBarred 88 = .ok (.goto 4, 3) := by decide +kernel
theorem dX3_reasonBarred_91 : decode cX3_reasonBarred 91 = .ok (.iconst 0, 1) := by decide +kernel
theorem dX3_reasonBarred_92 : decode cX3_reasonBarred 92 = .ok (.ireturn, 1) := by decide +kernel
theorem dX3_oldFrom_0 : decode cX3_oldFrom 0 = .ok (.aload_n 0, 1) := by decide +kernel
theorem dX3_oldFrom_1 : decode cX3_oldFrom 1 = .ok (.getfield 12, 3) := by decide +kernel
theorem dX3_oldFrom_4 : decode cX3_oldFrom 4 = .ok (.getfield 51, 3) := by decide +kernel
theorem dX3_oldFrom_7 : decode cX3_oldFrom 7 = .ok (.aload_n 0, 1) := by decide +kernel
theorem dX3_oldFrom_8 : decode cX3_oldFrom 8 = .ok (.getfield 19, 3) := by decide +kernel
theorem dX3_oldFrom_11 : decode cX3_oldFrom 11 = .ok (.getfield 108, 3) := by decide +kernel
theorem dX3_oldFrom_14 : decode cX3_oldFrom 14 = .ok (.iload_n 1, 1) := by decide +kernel
theorem dX3_oldFrom_15 : decode cX3_oldFrom 15 = .ok (.iaload, 1) := by decide +kernel
theorem dX3_oldFrom_16 : decode cX3_oldFrom 16 = .ok (.iaload, 1) := by decide +kernel
theorem dX3_oldFrom_17 : decode cX3_oldFrom 17 = .ok (.istore_n 2, 1) := by decide +kernel
theorem dX3_oldFrom_18 : decode cX3_oldFrom 18 = .ok (.iload_n 2, 1) := by decide +kernel
theorem dX3_oldFrom_19 : decode cX3_oldFrom 19 = .ok (.ifCond .ne 8, 3) := by decide +kernel
theorem dX3_oldFrom_22 : decode cX3_oldFrom 22 = .ok (.ldc 125, 2) := by decide +kernel
theorem dX3_oldFrom_24 : decode cX3_oldFrom 24 = .ok (.goto 14, 3) := by decide +kernel
theorem dX3_oldFrom_27 : decode cX3_oldFrom 27 = .ok (.aload_n 0, 1) := by decide +kernel
theorem dX3_oldFrom_28 : decode cX3_oldFrom 28 = .ok (.getfield 19, 3) := by decide +kernel
theorem dX3_oldFrom_31 : decode cX3_oldFrom 31 = .ok (.getfield 204, 3) := by decide +kernel
theorem dX3_oldFrom_34 : decode cX3_oldFrom 34 = .ok (.iload_n 1, 1) := by decide +kernel
theorem dX3_oldFrom_35 : decode cX3_oldFrom 35 = .ok (.iaload, 1) := by decide +kernel
theorem dX3_oldFrom_36 : decode cX3_oldFrom 36 = .ok (.iload_n 2, 1) := by decide +kernel
theorem dX3_oldFrom_37 : decode cX3_oldFrom 37 = .ok (.iadd, 1) := by decide +kernel
theorem dX3_oldFrom_38 : decode cX3_oldFrom 38 = .ok (.ireturn, 1) := by decide +kernel
theorem dX3_someTestDueFrom_0 : decode cX3_someTestDueFrom 0 = .ok (.ldc 125, 2) := by decide +kernel
theorem dX3_someTestDueFrom_2 : decode cX3_someTestDueFrom 2 = .ok (.istore_n 2, 1) := by decide +kernel
theorem dX3_someTestDueFrom_3 : decode cX3_someTestDueFrom 3 = .ok (.iconst 0, 1) := by decide +kernel
theorem dX3_someTestDueFrom_4 : decode cX3_someTestDueFrom 4 = .ok (.istore_n 3, 1) := by decide +kernel
theorem dX3_someTestDueFrom_5 : decode cX3_someTestDueFrom 5 = .ok (.iload_n 3, 1) := by decide +kernel
theorem dX3_someTestDueFrom_6 : decode cX3_someTestDueFrom 6 = .ok (.iconst 3, 1) := by decide +kernel
theorem dX3_someTestDueFrom_7 : decode cX3_someTestDueFrom 7 = .ok (.if_icmp .ge 20, 3) := by decide +kernel
theorem dX3_someTestDueFrom_10 : decode cX3_someTestDueFrom 10 = .ok (.iload_n 2, 1) := by decide +kernel
theorem dX3_someTestDueFrom_11 : decode cX3_someTestDueFrom 11 = .ok (.aload_n 0, 1) := by decide +kernel
theorem dX3_someTestDueFrom_12 : decode cX3_someTestDueFrom 12 = .ok (.iload_n 1, 1) := by decide +kernel
theorem dX3_someTestDueFrom_13 : decode cX3_someTestDueFrom 13 = .ok (.iload_n 3, 1) := by decide +kernel
theorem dX3_someTestDueFrom_14 : decode cX3_someTestDueFrom 14 = .ok (.invokevirtual 207, 3) := by decide +kernel
theorem dX3_someTestDueFrom_17 : decode cX3_someTestDueFrom 17 = .ok (.invokestatic 210, 3) := by decide +kernel
theorem dX3_someTestDueFrom_20 : decode cX3_someTestDueFrom 20 = .ok (.istore_n 2, 1) := by decide +kernel
theorem dX3_someTestDueFrom_21 : decode cX3_someTestDueFrom 21 = .ok (.iinc 3 1, 3) := by decide +kernel
theorem dX3_someTestDueFrom_24 : decode cX3_someTestDueFrom 24 = .ok (.goto (-19), 3) := by decide +kernel
theorem dX3_someTestDueFrom_27 : decode cX3_someTestDueFrom 27 = .ok (.iload_n 2, 1) := by decide +kernel
theorem dX3_someTestDueFrom_28 : decode cX3_someTestDueFrom 28 = .ok (.ireturn, 1) := by decide +kernel
theorem dX3_dueFrom_0 : decode cX3_dueFrom 0 = .ok (.aload_n 0, 1) := by decide +kernel
theorem dX3_dueFrom_1 : decode cX3_dueFrom 1 = .ok (.getfield 19, 3) := by decide +kernel
theorem dX3_dueFrom_4 : decode cX3_dueFrom 4 = .ok (.getfield 108, 3) := by decide +kernel
theorem dX3_dueFrom_7 : decode cX3_dueFrom 7 = .ok (.iload_n 1, 1) := by decide +kernel
theorem dX3_dueFrom_8 : decode cX3_dueFrom 8 = .ok (.iaload, 1) := by decide +kernel
theorem dX3_dueFrom_9 : decode cX3_dueFrom 9 = .ok (.iconst 3, 1) := by decide +kernel
theorem dX3_dueFrom_10 : decode cX3_dueFrom 10 = .ok (.imul, 1) := by decide +kernel
theorem dX3_dueFrom_11 : decode cX3_dueFrom 11 = .ok (.iload_n 2, 1) := by decide +kernel
theorem dX3_dueFrom_12 : decode cX3_dueFrom 12 = .ok (.iadd, 1) := by decide +kernel
theorem dX3_dueFrom_13 : decode cX3_dueFrom 13 = .ok (.istore_n 3, 1) := by decide +kernel
theorem dX3_dueFrom_14 : decode cX3_dueFrom 14 = .ok (.iload_n 1, 1) := by decide +kernel
theorem dX3_dueFrom_15 : decode cX3_dueFrom 15 = .ok (.iconst 3, 1) := by decide +kernel
theorem dX3_dueFrom_16 : decode cX3_dueFrom 16 = .ok (.imul, 1) := by decide +kernel
theorem dX3_dueFrom_17 : decode cX3_dueFrom 17 = .ok (.iload_n 2, 1) := by decide +kernel
theorem dX3_dueFrom_18 : decode cX3_dueFrom 18 = .ok (.iadd, 1) := by decide +kernel
theorem dX3_dueFrom_19 : decode cX3_dueFrom 19 = .ok (.istore 4, 2) := by decide +kernel
theorem dX3_dueFrom_21 : decode cX3_dueFrom 21 = .ok (.aload_n 0, 1) := by decide +kernel
theorem dX3_dueFrom_22 : decode cX3_dueFrom 22 = .ok (.getfield 12, 3) := by decide +kernel
theorem dX3_dueFrom_25 : decode cX3_dueFrom 25 = .ok (.getfield 57, 3) := by decide +kernel
theorem dX3_dueFrom_28 : decode cX3_dueFrom 28 = .ok (.iload_n 3, 1) := by decide +kernel
theorem dX3_dueFrom_29 : decode cX3_dueFrom 29 = .ok (.iaload, 1) := by decide +kernel
theorem dX3_dueFrom_30 : decode cX3_dueFrom 30 = .ok (.istore 5, 2) := by decide +kernel
theorem dX3_dueFrom_32 : decode cX3_dueFrom 32 = .ok (.iload 5, 2) := by decide +kernel
theorem dX3_dueFrom_34 : decode cX3_dueFrom 34 = .ok (.ifCond .le 23, 3) := by decide +kernel
theorem dX3_dueFrom_37 : decode cX3_dueFrom 37 = .ok (.aload_n 0, 1) := by decide +kernel
theorem dX3_dueFrom_38 : decode cX3_dueFrom 38 = .ok (.getfield 19, 3) := by decide +kernel
theorem dX3_dueFrom_41 : decode cX3_dueFrom 41 = .ok (.getfield 142, 3) := by decide +kernel
theorem dX3_dueFrom_44 : decode cX3_dueFrom 44 = .ok (.iload 4, 2) := by decide +kernel
theorem dX3_dueFrom_46 : decode cX3_dueFrom 46 = .ok (.iaload, 1) := by decide +kernel
theorem dX3_dueFrom_47 : decode cX3_dueFrom 47 = .ok (.iload 5, 2) := by decide +kernel
theorem dX3_dueFrom_49 : decode cX3_dueFrom 49 = .ok (.if_icmp .lt 8, 3) := by decide +kernel
theorem dX3_dueFrom_52 : decode cX3_dueFrom 52 = .ok (.aload_n 0, 1) := by decide +kernel
theorem dX3_dueFrom_53 : decode cX3_dueFrom 53 = .ok (.getfield 38, 3) := by decide +kernel
theorem dX3_dueFrom_56 : decode cX3_dueFrom 56 = .ok (.ireturn, 1) := by decide +kernel
theorem dX3_dueFrom_57 : decode cX3_dueFrom 57 = .ok (.aload_n 0, 1) := by decide +kernel
theorem dX3_dueFrom_58 : decode cX3_dueFrom 58 = .ok (.getfield 12, 3) := by decide +kernel
theorem dX3_dueFrom_61 : decode cX3_dueFrom 61 = .ok (.getfield 54, 3) := by decide +kernel
theorem dX3_dueFrom_64 : decode cX3_dueFrom 64 = .ok (.iload_n 3, 1) := by decide +kernel
theorem dX3_dueFrom_65 : decode cX3_dueFrom 65 = .ok (.iaload, 1) := by decide +kernel
theorem dX3_dueFrom_66 : decode cX3_dueFrom 66 = .ok (.istore 6, 2) := by decide +kernel
theorem dX3_dueFrom_68 : decode cX3_dueFrom 68 = .ok (.iload 6, 2) := by decide +kernel
theorem dX3_dueFrom_70 : decode cX3_dueFrom 70 = .ok (.ifCond .ne 8, 3) := by decide +kernel
theorem dX3_dueFrom_73 : decode cX3_dueFrom 73 = .ok (.ldc 125, 2) := by decide +kernel
theorem dX3_dueFrom_75 : decode cX3_dueFrom 75 = .ok (.goto 16, 3) := by decide +kernel
theorem dX3_dueFrom_78 : decode cX3_dueFrom 78 = .ok (.aload_n 0, 1) := by decide +kernel
theorem dX3_dueFrom_79 : decode cX3_dueFrom 79 = .ok (.getfield 19, 3) := by decide +kernel
theorem dX3_dueFrom_82 : decode cX3_dueFrom 82 = .ok (.getfield 145, 3) := by decide +kernel
theorem dX3_dueFrom_85 : decode cX3_dueFrom 85 = .ok (.iload 4, 2) := by decide +kernel
theorem dX3_dueFrom_87 : decode cX3_dueFrom 87 = .ok (.iaload, 1) := by decide +kernel
theorem dX3_dueFrom_88 : decode cX3_dueFrom 88 = .ok (.iload 6, 2) := by decide +kernel
theorem dX3_dueFrom_90 : decode cX3_dueFrom 90 = .ok (.iadd, 1) := by decide +kernel
theorem dX3_dueFrom_91 : decode cX3_dueFrom 91 = .ok (.ireturn, 1) := by decide +kernel
theorem dX3_endOf_0 : decode cX3_endOf 0 = .ok (.aload_n 0, 1) := by decide +kernel
theorem dX3_endOf_1 : decode cX3_endOf 1 = .ok (.getfield 19, 3) := by decide +kernel
theorem dX3_endOf_4 : decode cX3_endOf 4 = .ok (.iload_n 1, 1) := by decide +kernel
theorem dX3_endOf_5 : decode cX3_endOf 5 = .ok (.invokevirtual 99, 3) := by decide +kernel
theorem dX3_endOf_8 : decode cX3_endOf 8 = .ok (.ifCond .eq 5, 3) := by decide +kernel
theorem dX3_endOf_11 : decode cX3_endOf 11 = .ok (.iconst (-1), 1) := by decide +kernel
theorem dX3_endOf_12 : decode cX3_endOf 12 = .ok (.ireturn, 1) := by decide +kernel
theorem dX3_endOf_13 : decode cX3_endOf 13 = .ok (.aload_n 0, 1) := by decide +kernel
theorem dX3_endOf_14 : decode cX3_endOf 14 = .ok (.iload_n 1, 1) := by decide +kernel
theorem dX3_endOf_15 : decode cX3_endOf 15 = .ok (.invokevirtual 198, 3) := by decide +kernel
theorem dX3_endOf_18 : decode cX3_endOf 18 = .ok (.aload_n 0, 1) := by decide +kernel
theorem dX3_endOf_19 : decode cX3_endOf 19 = .ok (.iload_n 1, 1) := by decide +kernel
theorem dX3_endOf_20 : decode cX3_endOf 20 = .ok (.invokevirtual 201, 3) := by decide +kernel
theorem dX3_endOf_23 : decode cX3_endOf 23 = .ok (.invokestatic 210, 3) := by decide +kernel
theorem dX3_endOf_26 : decode cX3_endOf 26 = .ok (.istore_n 2, 1) := by decide +kernel
theorem dX3_endOf_27 : decode cX3_endOf 27 = .ok (.iload_n 2, 1) := by decide +kernel
theorem dX3_endOf_28 : decode cX3_endOf 28 = .ok (.ldc 125, 2) := by decide +kernel
theorem dX3_endOf_30 : decode cX3_endOf 30 = .ok (.if_icmp .ne 7, 3) := by decide +kernel
theorem dX3_endOf_33 : decode cX3_endOf 33 = .ok (.iconst (-1), 1) := by decide +kernel
theorem dX3_endOf_34 : decode cX3_endOf 34 = .ok (.goto 11, 3) := by decide +kernel
theorem dX3_endOf_37 : decode cX3_endOf 37 = .ok (.iload_n 2, 1) := by decide +kernel
theorem dX3_endOf_38 : decode cX3_endOf 38 = .ok (.aload_n 0, 1) := by decide +kernel
theorem dX3_endOf_39 : decode cX3_endOf 39 = .ok (.getfield 38, 3) := by decide +kernel
theorem dX3_endOf_42 : decode cX3_endOf 42 = .ok (.invokestatic 215, 3) := by decide +kernel
theorem dX3_endOf_45 : decode cX3_endOf 45 = .ok (.ireturn, 1) := by decide +kernel
theorem dX3_fillEndRow_0 : decode cX3_fillEndRow 0 = .ok (.iconst 0, 1) := by decide +kernel
theorem dX3_fillEndRow_1 : decode cX3_fillEndRow 1 = .ok (.istore_n 3, 1) := by decide +kernel
theorem dX3_fillEndRow_2 : decode cX3_fillEndRow 2 = .ok (.iload_n 3, 1) := by decide +kernel
theorem dX3_fillEndRow_3 : decode cX3_fillEndRow 3 = .ok (.aload_n 0, 1) := by decide +kernel
theorem dX3_fillEndRow_4 : decode cX3_fillEndRow 4 = .ok (.getfield 19, 3) := by decide +kernel
theorem dX3_fillEndRow_7 : decode cX3_fillEndRow 7 = .ok (.getfield 79, 3) := by decide +kernel
theorem dX3_fillEndRow_10 : decode cX3_fillEndRow 10 = .ok (.if_icmp .ge 51, 3) := by decide +kernel
theorem dX3_fillEndRow_13 : decode cX3_fillEndRow 13 = .ok (.aload_n 0, 1) := by decide +kernel
theorem dX3_fillEndRow_14 : decode cX3_fillEndRow 14 = .ok (.getfield 19, 3) := by decide +kernel
theorem dX3_fillEndRow_17 : decode cX3_fillEndRow 17 = .ok (.getfield 119, 3) := by decide +kernel
theorem dX3_fillEndRow_20 : decode cX3_fillEndRow 20 = .ok (.iload_n 3, 1) := by decide +kernel
theorem dX3_fillEndRow_21 : decode cX3_fillEndRow 21 = .ok (.iaload, 1) := by decide +kernel
theorem dX3_fillEndRow_22 : decode cX3_fillEndRow 22 = .ok (.iload_n 1, 1) := by decide +kernel
theorem dX3_fillEndRow_23 : decode cX3_fillEndRow 23 = .ok (.if_icmp .ne 11, 3) := by decide +kernel
theorem dX3_fillEndRow_26 : decode cX3_fillEndRow 26 = .ok (.aload_n 0, 1) := by decide +kernel
theorem dX3_fillEndRow_27 : decode cX3_fillEndRow 27 = .ok (.iload_n 3, 1) := by decide +kernel
theorem dX3_fillEndRow_28 : decode cX3_fillEndRow 28 = .ok (.invokevirtual 130, 3) := by decide +kernel
theorem dX3_fillEndRow_31 : decode cX3_fillEndRow 31 = .ok (.goto 4, 3) := by decide +kernel
theorem dX3_fillEndRow_34 : decode cX3_fillEndRow 34 = .ok (.iconst (-1), 1) := by decide +kernel
theorem dX3_fillEndRow_35 : decode cX3_fillEndRow 35 = .ok (.istore 4, 2) := by decide +kernel
theorem dX3_fillEndRow_37 : decode cX3_fillEndRow 37 = .ok (.aload_n 0, 1) := by decide +kernel
theorem dX3_fillEndRow_38 : decode cX3_fillEndRow 38 = .ok (.getfield 34, 3) := by decide +kernel
theorem dX3_fillEndRow_41 : decode cX3_fillEndRow 41 = .ok (.iload_n 3, 1) := by decide +kernel
theorem dX3_fillEndRow_42 : decode cX3_fillEndRow 42 = .ok (.iload 4, 2) := by decide +kernel
theorem dX3_fillEndRow_44 : decode cX3_fillEndRow 44 = .ok (.iload_n 2, 1) := by decide +kernel
theorem dX3_fillEndRow_45 : decode cX3_fillEndRow 45 = .ok (.if_icmp .gt 8, 3) := by decide +kernel
theorem dX3_fillEndRow_48 : decode cX3_fillEndRow 48 = .ok (.iload 4, 2) := by decide +kernel
theorem dX3_fillEndRow_50 : decode cX3_fillEndRow 50 = .ok (.goto 4, 3) := by decide +kernel
theorem dX3_fillEndRow_53 : decode cX3_fillEndRow 53 = .ok (.iconst (-1), 1) := by decide +kernel
theorem dX3_fillEndRow_54 : decode cX3_fillEndRow 54 = .ok (.iastore, 1) := by decide +kernel
theorem dX3_fillEndRow_55 : decode cX3_fillEndRow 55 = .ok (.iinc 3 1, 3) := by decide +kernel
theorem dX3_fillEndRow_58 : decode cX3_fillEndRow 58 = .ok (.goto (-56), 3) := by decide +kernel
theorem dX3_fillEndRow_61 : decode cX3_fillEndRow 61 = .ok (.return_, 1) := by decide +kernel
theorem dX3_countEndingBefore_0 : decode cX3_countEndingBefore 0 = .ok (.iconst 0, 1) := by decide +kernel
theorem dX3_countEndingBefore_1 : decode cX3_countEndingBefore 1 = .ok (.istore_n 2, 1) := by decide +kernel
theorem dX3_countEndingBefore_2 : decode cX3_countEndingBefore 2 = .ok (.iconst 0, 1) := by decide +kernel
theorem dX3_countEndingBefore_3 : decode cX3_countEndingBefore 3 = .ok (.istore_n 3, 1) := by decide +kernel
theorem dX3_countEndingBefore_4 : decode cX3_countEndingBefore 4 = .ok (.iload_n 3, 1) := by decide +kernel
theorem dX3_countEndingBefore_5 : decode cX3_countEndingBefore 5 = .ok (.aload_n 0, 1) := by decide +kernel
theorem dX3_countEndingBefore_6 : decode cX3_countEndingBefore 6 = .ok (.getfield 19, 3) := by decide +kernel
theorem dX3_countEndingBefore_9 : decode cX3_countEndingBefore 9 = .ok (.getfield 79, 3) := by decide +kernel
theorem dX3_countEndingBefore_12 : decode cX3_countEndingBefore 12 = .ok (.if_icmp .ge 81, 3) := by decide +kernel
theorem dX3_countEndingBefore_15 : decode cX3_countEndingBefore 15 = .ok (.aload_n 0, 1) := by decide +kernel
theorem dX3_countEndingBefore_16 : decode cX3_countEndingBefore 16 = .ok (.getfield 34, 3) := by decide +kernel
theorem dX3_countEndingBefore_19 : decode cX3_countEndingBefore 19 = .ok (.iload_n 3, 1) := by decide +kernel
theorem dX3_countEndingBefore_20 : decode cX3_countEndingBefore 20 = .ok (.iaload, 1) := by decide +kernel
theorem dX3_countEndingBefore_21 : decode cX3_countEndingBefore 21 = .ok (.aload_n 0, 1) := by decide +kernel
theorem dX3_countEndingBefore_22 : decode cX3_countEndingBefore 22 = .ok (.getfield 34, 3) := by decide +kernel
theorem dX3_countEndingBefore_25 : decode cX3_countEndingBefore 25 = .ok (.iload_n 1, 1) := by decide +kernel
theorem dX3_countEndingBefore_26 : decode cX3_countEndingBefore 26 = .ok (.iaload, 1) := by decide +kernel
theorem dX3_countEndingBefore_27 : decode cX3_countEndingBefore 27 = .ok (.if_icmp .ge 7, 3) := by decide +kernel
theorem dX3_countEndingBefore_30 : decode cX3_countEndingBefore 30 = .ok (.iconst 1, 1) := by decide +kernel
theorem dX3_countEndingBefore_31 : decode cX3_countEndingBefore 31 = .ok (.goto 4, 3) := by decide +kernel
theorem dX3_countEndingBefore_34 : decode cX3_countEndingBefore 34 = .ok (.iconst 0, 1) := by decide +kernel
theorem dX3_countEndingBefore_35 : decode cX3_countEndingBefore 35 = .ok (.istore 4, 2) := by decide +kernel
theorem dX3_countEndingBefore_37 : decode cX3_countEndingBefore 37 = .ok (.aload_n 0, 1) := by decide +kernel
theorem dX3_countEndingBefore_38 : decode cX3_countEndingBefore 38 = .ok (.getfield 34, 3) := by decide +kernel
theorem dX3_countEndingBefore_41 : decode cX3_countEndingBefore 41 = .ok (.iload_n 3, 1) := by decide +kernel
theorem dX3_countEndingBefore_42 : decode cX3_countEndingBefore 42 = .ok (.iaload, 1) := by decide +kernel
theorem dX3_countEndingBefore_43 : decode cX3_countEndingBefore 43 = .ok (.aload_n 0, 1) := by decide +kernel
theorem dX3_countEndingBefore_44 : decode cX3_countEndingBefore 44 = .ok (.getfield 34, 3) := by decide +kernel
theorem dX3_countEndingBefore_47 : decode cX3_countEndingBefore 47 = .ok (.iload_n 1, 1) := by decide +kernel
theorem dX3_countEndingBefore_48 : decode cX3_countEndingBefore 48 = .ok (.iaload, 1) := by decide +kernel
theorem dX3_countEndingBefore_49 : decode cX3_countEndingBefore 49 = .ok (.if_icmp .ne 12, 3) := by decide +kernel
theorem dX3_countEndingBefore_52 : decode cX3_countEndingBefore 52 = .ok (.iload_n 3, 1) := by decide +kernel
theorem dX3_countEndingBefore_53 : decode cX3_countEndingBefore 53 = .ok (.iload_n 1, 1) := by decide +kernel
theorem dX3_countEndingBefore_54 : decode cX3_countEndingBefore 54 = .ok (.if_icmp .ge 7, 3) := by decide +kernel
theorem dX3_countEndingBefore_57 : decode cX3_countEndingBefore 57 = .ok (.iconst 1, 1) := by decide +kernel
theorem dX3_countEndingBefore_58 : decode cX3_countEndingBefore 58 = .ok (.goto 4, 3) := by decide +kernel
theorem dX3_countEndingBefore_61 : decode cX3_countEndingBefore 61 = .ok (.iconst 0, 1) := by decide +kernel
theorem dX3_countEndingBefore_62 : decode cX3_countEndingBefore 62 = .ok (.istore 5, 2) := by decide +kernel
theorem dX3_countEndingBefore_64 : decode cX3_countEndingBefore 64 = .ok (.aload_n 0, 1) := by decide +kernel
theorem dX3_countEndingBefore_65 : decode cX3_countEndingBefore 65 = .ok (.getfield 34, 3) := by decide +kernel
theorem dX3_countEndingBefore_68 : decode cX3_countEndingBefore 68 = .ok (.iload_n 3, 1) := by decide +kernel
theorem dX3_countEndingBefore_69 : decode cX3_countEndingBefore 69 = .ok (.iaload, 1) := by decide +kernel
theorem dX3_countEndingBefore_70 : decode cX3_countEndingBefore 70 = .ok (.iconst (-1), 1) := by decide +kernel
theorem dX3_countEndingBefore_71 : decode cX3_countEndingBefore 71 = .ok (.if_icmp .eq 16, 3) := by decide +kernel
theorem dX3_countEndingBefore_74 : decode cX3_countEndingBefore 74 = .ok (.iload 4, 2) := by decide +kernel
theorem dX3_countEndingBefore_76 : decode cX3_countEndingBefore 76 = .ok (.ifCond .ne 8, 3) := by decide +kernel
theorem dX3_countEndingBefore_79 : decode cX3_countEndingBefore 79 = .ok (.iload 5, 2) := by decide +kernel
theorem dX3_countEndingBefore_81 : decode cX3_countEndingBefore 81 = .ok (.ifCond .eq 6, 3) := by decide +kernel
theorem dX3_countEndingBefore_84 : decode cX3_countEndingBefore 84 = .ok (.iinc 2 1, 3) := by decide +kernel
theorem dX3_countEndingBefore_87 : decode cX3_countEndingBefore 87 = .ok (.iinc 3 1, 3) := by decide +kernel
theorem dX3_countEndingBefore_90 : decode cX3_countEndingBefore 90 = .ok (.goto (-86), 3) := by decide +kernel
theorem dX3_countEndingBefore_93 : decode cX3_countEndingBefore 93 = .ok (.iload_n 2, 1) := by decide +kernel
theorem dX3_countEndingBefore_94 : decode cX3_countEndingBefore 94 = .ok (.ireturn, 1) := by decide +kernel
theorem dX0_init_0 : decode cX0_init 0 = .ok (.aload_n 0, 1) := by decide +kernel
theorem dX0_init_1 : decode cX0_init 1 = .ok (.invokespecial 3, 3) := by decide +kernel
theorem dX0_init_4 : decode cX0_init 4 = .ok (.aload_n 0, 1) := by decide +kernel
theorem dX0_init_5 : decode cX0_init 5 = .ok (.iconst 5, 1) := by decide +kernel
theorem dX0_init_6 : decode cX0_init 6 = .ok (.newarray .int, 2) := by decide +kernel
theorem dX0_init_8 : decode cX0_init 8 = .ok (.putfield 9, 3) := by decide +kernel
theorem dX0_init_11 : decode cX0_init 11 = .ok (.aload_n 0, 1) := by decide +kernel
theorem dX0_init_12 : decode cX0_init 12 = .ok (.bipush 15, 2) := by decide +kernel
theorem dX0_init_14 : decode cX0_init 14 = .ok (.newarray .int, 2) := by decide +kernel
theorem dX0_init_16 : decode cX0_init 16 = .ok (.putfield 15, 3) := by decide +kernel
theorem dX0_init_19 : decode cX0_init 19 = .ok (.aload_n 0, 1) := by decide +kernel
theorem dX0_init_20 : decode cX0_init 20 = .ok (.bipush 15, 2) := by decide +kernel
theorem dX0_init_22 : decode cX0_init 22 = .ok (.newarray .int, 2) := by decide +kernel
theorem dX0_init_24 : decode cX0_init 24 = .ok (.putfield 18, 3) := by decide +kernel
theorem dX0_init_27 : decode cX0_init 27 = .ok (.aload_n 0, 1) := by decide +kernel
theorem dX0_init_28 : decode cX0_init 28 = .ok (.bipush 15, 2) := by decide +kernel
theorem dX0_init_30 : decode cX0_init 30 = .ok (.newarray .int, 2) := by decide +kernel
theorem dX0_init_32 : decode cX0_init 32 = .ok (.putfield 21, 3) := by decide +kernel
theorem dX0_init_35 : decode cX0_init 35 = .ok (.aload_n 0, 1) := by decide +kernel
theorem dX0_init_36 : decode cX0_init 36 = .ok (.bipush 15, 2) := by decide +kernel
theorem dX0_init_38 : decode cX0_init 38 = .ok (.newarray .int, 2) := by decide +kernel
theorem dX0_init_40 : decode cX0_init 40 = .ok (.putfield 24, 3) := by decide +kernel
theorem dX0_init_43 : decode cX0_init 43 = .ok (.return_, 1) := by decide +kernel
theorem dX0_gradeOf_0 : decode cX0_gradeOf 0 = .ok (.iload_n 1, 1) := by decide +kernel
theorem dX0_gradeOf_1 : decode cX0_gradeOf 1 = .ok (.iconst 3, 1) := by decide +kernel
theorem dX0_gradeOf_2 : decode cX0_gradeOf 2 = .ok (.imul, 1) := by decide +kernel
theorem dX0_gradeOf_3 : decode cX0_gradeOf 3 = .ok (.iload_n 2, 1) := by decide +kernel
theorem dX0_gradeOf_4 : decode cX0_gradeOf 4 = .ok (.iadd, 1) := by decide +kernel
theorem dX0_gradeOf_5 : decode cX0_gradeOf 5 = .ok (.istore 4, 2) := by decide +kernel
theorem dX0_gradeOf_7 : decode cX0_gradeOf 7 = .ok (.iload_n 3, 1) := by decide +kernel
theorem dX0_gradeOf_8 : decode cX0_gradeOf 8 = .ok (.aload_n 0, 1) := by decide +kernel
theorem dX0_gradeOf_9 : decode cX0_gradeOf 9 = .ok (.getfield 24, 3) := by decide +kernel
theorem dX0_gradeOf_12 : decode cX0_gradeOf 12 = .ok (.iload 4, 2) := by decide +kernel
theorem dX0_gradeOf_14 : decode cX0_gradeOf 14 = .ok (.iaload, 1) := by decide +kernel
theorem dX0_gradeOf_15 : decode cX0_gradeOf 15 = .ok (.if_icmp .lt 5, 3) := by decide +kernel
theorem dX0_gradeOf_18 : decode cX0_gradeOf 18 = .ok (.iconst 0, 1) := by decide +kernel
theorem dX0_gradeOf_19 : decode cX0_gradeOf 19 = .ok (.ireturn, 1) := by decide +kernel
theorem dX0_gradeOf_20 : decode cX0_gradeOf 20 = .ok (.iload_n 3, 1) := by decide +kernel
theorem dX0_gradeOf_21 : decode cX0_gradeOf 21 = .ok (.aload_n 0, 1) := by decide +kernel
theorem dX0_gradeOf_22 : decode cX0_gradeOf 22 = .ok (.getfield 21, 3) := by decide +kernel
theorem dX0_gradeOf_25 : decode cX0_gradeOf 25 = .ok (.iload 4, 2) := by decide +kernel
theorem dX0_gradeOf_27 : decode cX0_gradeOf 27 = .ok (.iaload, 1) := by decide +kernel
theorem dX0_gradeOf_28 : decode cX0_gradeOf 28 = .ok (.if_icmp .lt 7, 3) := by decide +kernel
theorem dX0_gradeOf_31 : decode cX0_gradeOf 31 = .ok (.iconst 1, 1) := by decide +kernel
theorem dX0_gradeOf_32 : decode cX0_gradeOf 32 = .ok (.goto 4, 3) := by decide +kernel
theorem dX0_gradeOf_35 : decode cX0_gradeOf 35 = .ok (.iconst 2, 1) := by decide +kernel
theorem dX0_gradeOf_36 : decode cX0_gradeOf 36 = .ok (.ireturn, 1) := by decide +kernel
theorem dX1_init_0 : decode cX1_init 0 = .ok (.aload_n 0, 1) := by decide +kernel
theorem dX1_init_1 : decode cX1_init 1 = .ok (.invokespecial 3, 3) := by decide +kernel
theorem dX1_init_4 : decode cX1_init 4 = .ok (.aload_n 0, 1) := by decide +kernel
theorem dX1_init_5 : decode cX1_init 5 = .ok (.bipush 6, 2) := by decide +kernel
theorem dX1_init_7 : decode cX1_init 7 = .ok (.newarray .int, 2) := by decide +kernel
theorem dX1_init_9 : decode cX1_init 9 = .ok (.putfield 9, 3) := by decide +kernel
theorem dX1_init_12 : decode cX1_init 12 = .ok (.aload_n 0, 1) := by decide +kernel
theorem dX1_init_13 : decode cX1_init 13 = .ok (.bipush 6, 2) := by decide +kernel
theorem dX1_init_15 : decode cX1_init 15 = .ok (.newarray .int, 2) := by decide +kernel
theorem dX1_init_17 : decode cX1_init 17 = .ok (.putfield 15, 3) := by decide +kernel
theorem dX1_init_20 : decode cX1_init 20 = .ok (.aload_n 0, 1) := by decide +kernel
theorem dX1_init_21 : decode cX1_init 21 = .ok (.bipush 6, 2) := by decide +kernel
theorem dX1_init_23 : decode cX1_init 23 = .ok (.newarray .int, 2) := by decide +kernel
theorem dX1_init_25 : decode cX1_init 25 = .ok (.putfield 18, 3) := by decide +kernel
theorem dX1_init_28 : decode cX1_init 28 = .ok (.aload_n 0, 1) := by decide +kernel
theorem dX1_init_29 : decode cX1_init 29 = .ok (.bipush 6, 2) := by decide +kernel
theorem dX1_init_31 : decode cX1_init 31 = .ok (.newarray .int, 2) := by decide +kernel
theorem dX1_init_33 : decode cX1_init 33 = .ok (.putfield 21, 3) := by decide +kernel
theorem dX1_init_36 : decode cX1_init 36 = .ok (.aload_n 0, 1) := by decide +kernel
theorem dX1_init_37 : decode cX1_init 37 = .ok (.iconst 4, 1) := by decide +kernel
theorem dX1_init_38 : decode cX1_init 38 = .ok (.newarray .int, 2) := by decide +kernel
theorem dX1_init_40 : decode cX1_init 40 = .ok (.putfield 24, 3) := by decide +kernel
theorem dX1_init_43 : decode cX1_init 43 = .ok (.aload_n 0, 1) := by decide +kernel
theorem dX1_init_44 : decode cX1_init 44 = .ok (.iconst 0, 1) := by decide +kernel
theorem dX1_init_45 : decode cX1_init 45 = .ok (.putfield 27, 3) := by decide +kernel
theorem dX1_init_48 : decode cX1_init 48 = .ok (.aload_n 0, 1) := by decide +kernel
theorem dX1_init_49 : decode cX1_init 49 = .ok (.iconst 0, 1) := by decide +kernel
theorem dX1_init_50 : decode cX1_init 50 = .ok (.putfield 31, 3) := by decide +kernel
theorem dX1_init_53 : decode cX1_init 53 = .ok (.return_, 1) := by decide +kernel
theorem dX1_make_0 : decode cX1_make 0 = .ok (.iconst 0, 1) := by decide +kernel
theorem dX1_make_1 : decode cX1_make 1 = .ok (.istore 6, 2) := by decide +kernel
theorem dX1_make_3 : decode cX1_make 3 = .ok (.iload 6, 2) := by decide +kernel
theorem dX1_make_5 : decode cX1_make 5 = .ok (.iload 4, 2) := by decide +kernel
theorem dX1_make_7 : decode cX1_make 7 = .ok (.if_icmp .ge 50, 3) := by decide +kernel
theorem dX1_make_10 : decode cX1_make 10 = .ok (.aload_n 0, 1) := by decide +kernel
theorem dX1_make_11 : decode cX1_make 11 = .ok (.getfield 9, 3) := by decide +kernel
theorem dX1_make_14 : decode cX1_make 14 = .ok (.iload 6, 2) := by decide +kernel
theorem dX1_make_16 : decode cX1_make 16 = .ok (.lload_n 1, 1) := by decide +kernel
theorem dX1_make_17 : decode cX1_make 17 = .ok (.bipush 8, 2) := by decide +kernel
theorem dX1_make_19 : decode cX1_make 19 = .ok (.iload 6, 2) := by decide +kernel
theorem dX1_make_21 : decode cX1_make 21 = .ok (.imul, 1) := by decide +kernel
theorem dX1_make_22 : decode cX1_make 22 = .ok (.lushr, 1) := by decide +kernel
theorem dX1_make_23 : decode cX1_make 23 = .ok (.l2i, 1) := by decide +kernel
theorem dX1_make_24 : decode cX1_make 24 = .ok (.sipush 255, 3) := by decide +kernel
theorem dX1_make_27 : decode cX1_make 27 = .ok (.iand, 1) := by decide +kernel
theorem dX1_make_28 : decode cX1_make 28 = .ok (.iastore, 1) := by decide +kernel
theorem dX1_make_29 : decode cX1_make 29 = .ok (.aload_n 0, 1) := by decide +kernel
theorem dX1_make_30 : decode cX1_make 30 = .ok (.getfield 15, 3) := by decide +kernel
theorem dX1_make_33 : decode cX1_make 33 = .ok (.iload 6, 2) := by decide +kernel
theorem dX1_make_35 : decode cX1_make 35 = .ok (.iload_n 3, 1) := by decide +kernel
theorem dX1_make_36 : decode cX1_make 36 = .ok (.iconst 2, 1) := by decide +kernel
theorem dX1_make_37 : decode cX1_make 37 = .ok (.iload 6, 2) := by decide +kernel
theorem dX1_make_39 : decode cX1_make 39 = .ok (.imul, 1) := by decide +kernel
theorem dX1_make_40 : decode cX1_make 40 = .ok (.iushr, 1) := by decide +kernel
theorem dX1_make_41 : decode cX1_make 41 = .ok (.iconst 3, 1) := by decide +kernel
theorem dX1_make_42 : decode cX1_make 42 = .ok (.iand, 1) := by decide +kernel
theorem dX1_make_43 : decode cX1_make 43 = .ok (.iload 5, 2) := by decide +kernel
theorem dX1_make_45 : decode cX1_make 45 = .ok (.iconst 1, 1) := by decide +kernel
theorem dX1_make_46 : decode cX1_make 46 = .ok (.isub, 1) := by decide +kernel
