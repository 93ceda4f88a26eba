theorem dX4_reason_35 : decode cX4_reason 35 = .ok (.iload_n 1, 1) := by decide +kernel
theorem dX4_reason_36 : decode cX4_reason 36 = .ok (.iaload, 1) := by decide +kernel
theorem dX4_reason_37 : decode cX4_reason 37 = .ok (.iaload, 1) := by decide +kernel
theorem dX4_reason_38 : decode cX4_reason 38 = .ok (.ifCond .le 30, 3) := by decide +kernel
theorem dX4_reason_41 : decode cX4_reason 41 = .ok (.aload_n 0, 1) := by decide +kernel
theorem dX4_reason_42 : decode cX4_reason 42 = .ok (.getfield 79, 3) := by decide +kernel
theorem dX4_reason_45 : decode cX4_reason 45 = .ok (.aload_n 0, 1) := by decide +kernel
theorem dX4_reason_46 : decode cX4_reason 46 = .ok (.getfield 37, 3) := by decide +kernel
theorem dX4_reason_49 : decode cX4_reason 49 = .ok (.iload_n 1, 1) := by decide +kernel
theorem dX4_reason_50 : decode cX4_reason 50 = .ok (.iaload, 1) := by decide +kernel
theorem dX4_reason_51 : decode cX4_reason 51 = .ok (.isub, 1) := by decide +kernel
theorem dX4_reason_52 : decode cX4_reason 52 = .ok (.aload_n 0, 1) := by decide +kernel
theorem dX4_reason_53 : decode cX4_reason 53 = .ok (.getfield 7, 3) := by decide +kernel
theorem dX4_reason_56 : decode cX4_reason 56 = .ok (.aload_n 0, 1) := by decide +kernel
theorem dX4_reason_57 : decode cX4_reason 57 = .ok (.getfield 25, 3) := by decide +kernel
theorem dX4_reason_60 : decode cX4_reason 60 = .ok (.iload_n 1, 1) := by decide +kernel
theorem dX4_reason_61 : decode cX4_reason 61 = .ok (.iaload, 1) := by decide +kernel
theorem dX4_reason_62 : decode cX4_reason 62 = .ok (.iaload, 1) := by decide +kernel
theorem dX4_reason_63 : decode cX4_reason 63 = .ok (.if_icmp .lt 5, 3) := by decide +kernel
theorem dX4_reason_66 : decode cX4_reason 66 = .ok (.iconst 3, 1) := by decide +kernel
theorem dX4_reason_67 : decode cX4_reason 67 = .ok (.ireturn, 1) := by decide +kernel
theorem dX4_reason_68 : decode cX4_reason 68 = .ok (.aload_n 0, 1) := by decide +kernel
theorem dX4_reason_69 : decode cX4_reason 69 = .ok (.iload_n 1, 1) := by decide +kernel
theorem dX4_reason_70 : decode cX4_reason 70 = .ok (.iconst 0, 1) := by decide +kernel
theorem dX4_reason_71 : decode cX4_reason 71 = .ok (.invokevirtual 100, 3) := by decide +kernel
theorem dX4_reason_74 : decode cX4_reason 74 = .ok (.ifCond .ne 21, 3) := by decide +kernel
theorem dX4_reason_77 : decode cX4_reason 77 = .ok (.aload_n 0, 1) := by decide +kernel
theorem dX4_reason_78 : decode cX4_reason 78 = .ok (.iload_n 1, 1) := by decide +kernel
theorem dX4_reason_79 : decode cX4_reason 79 = .ok (.iconst 1, 1) := by decide +kernel
theorem dX4_reason_80 : decode cX4_reason 80 = .ok (.invokevirtual 100, 3) := by decide +kernel
theorem dX4_reason_83 : decode cX4_reason 83 = .ok (.ifCond .ne 12, 3) := by decide +kernel
theorem dX4_reason_86 : decode cX4_reason 86 = .ok (.aload_n 0, 1) := by decide +kernel
theorem dX4_reason_87 : decode cX4_reason 87 = .ok (.iload_n 1, 1) := by decide +kernel
theorem dX4_reason_88 : decode cX4_reason 88 = .ok (.iconst 2, 1) := by decide +kernel
theorem dX4_reason_89 : decode cX4_reason 89 = .ok (.invokevirtual 100, 3) := by decide +kernel
theorem dX4_reason_92 : decode cX4_reason 92 = .ok (.ifCond .eq 5, 3) := by decide +kernel
theorem dX4_reason_95 : decode cX4_reason 95 = .ok (.iconst 4, 1) := by decide +kernel
theorem dX4_reason_96 : decode cX4_reason 96 = .ok (.ireturn, 1) := by decide +kernel
theorem dX4_reason_97 : decode cX4_reason 97 = .ok (.aload_n 0, 1) := by decide +kernel
theorem dX4_reason_98 : decode cX4_reason 98 = .ok (.iload_n 1, 1) := by decide +kernel
theorem dX4_reason_99 : decode cX4_reason 99 = .ok (.invokevirtual 103, 3) := by decide +kernel
theorem dX4_reason_102 : decode cX4_reason 102 = .ok (.ifCond .le 5, 3) := by decide +kernel
theorem dX4_reason_105 : decode cX4_reason 105 = .ok (.iconst 5, 1) := by decide +kernel
theorem dX4_reason_106 : decode cX4_reason 106 = .ok (.ireturn, 1) := by decide +kernel
theorem dX4_reason_107 : decode cX4_reason 107 = .ok (.aload_n 0, 1) := by decide +kernel
theorem dX4_reason_108 : decode cX4_reason 108 = .ok (.getfield 46, 3) := by decide +kernel
theorem dX4_reason_111 : decode cX4_reason 111 = .ok (.iload_n 1, 1) := by decide +kernel
theorem dX4_reason_112 : decode cX4_reason 112 = .ok (.baload, 1) := by decide +kernel
theorem dX4_reason_113 : decode cX4_reason 113 = .ok (.ifCond .eq 8, 3) := by decide +kernel
theorem dX4_reason_116 : decode cX4_reason 116 = .ok (.bipush 6, 2) := by decide +kernel
theorem dX4_reason_118 : decode cX4_reason 118 = .ok (.goto 4, 3) := by decide +kernel
theorem dX4_reason_121 : decode cX4_reason 121 = .ok (.iconst 0, 1) := by decide +kernel
theorem dX4_reason_122 : decode cX4_reason 122 = .ok (.ireturn, 1) := by decide +kernel
theorem dX4_use_0 : decode cX4_use 0 = .ok (.aload_n 0, 1) := by decide +kernel
theorem dX4_use_1 : decode cX4_use 1 = .ok (.iload_n 1, 1) := by decide +kernel
theorem dX4_use_2 : decode cX4_use 2 = .ok (.invokevirtual 106, 3) := by decide +kernel
theorem dX4_use_5 : decode cX4_use 5 = .ok (.ifCond .ne 7, 3) := by decide +kernel
theorem dX4_use_8 : decode cX4_use 8 = .ok (.iconst 1, 1) := by decide +kernel
theorem dX4_use_9 : decode cX4_use 9 = .ok (.goto 4, 3) := by decide +kernel
theorem dX4_use_12 : decode cX4_use 12 = .ok (.iconst 0, 1) := by decide +kernel
theorem dX4_use_13 : decode cX4_use 13 = .ok (.istore_n 2, 1) := by decide +kernel
theorem dX4_use_14 : decode cX4_use 14 = .ok (.aload_n 0, 1) := by decide +kernel
theorem dX4_use_15 : decode cX4_use 15 = .ok (.iload_n 2, 1) := by decide +kernel
theorem dX4_use_16 : decode cX4_use 16 = .ok (.iload_n 2, 1) := by decide +kernel
theorem dX4_use_17 : decode cX4_use 17 = .ok (.ifCond .ne 15, 3) := by decide +kernel
theorem dX4_use_20 : decode cX4_use 20 = .ok (.aload_n 0, 1) := by decide +kernel
theorem dX4_use_21 : decode cX4_use 21 = .ok (.iload_n 1, 1) := by decide +kernel
theorem dX4_use_22 : decode cX4_use 22 = .ok (.invokevirtual 109, 3) := by decide +kernel
theorem dX4_use_25 : decode cX4_use 25 = .ok (.ifCond .le 7, 3) := by decide +kernel
theorem dX4_use_28 : decode cX4_use 28 = .ok (.iconst 1, 1) := by decide +kernel
theorem dX4_use_29 : decode cX4_use 29 = .ok (.goto 4, 3) := by decide +kernel
theorem dX4_use_32 : decode cX4_use 32 = .ok (.iconst 0, 1) := by decide +kernel
theorem dX4_use_33 : decode cX4_use 33 = .ok (.iconst 0, 1) := by decide +kernel
theorem dX4_use_34 : decode cX4_use 34 = .ok (.iconst 0, 1) := by decide +kernel
theorem dX4_use_35 : decode cX4_use 35 = .ok (.invokevirtual 83, 3) := by decide +kernel
theorem dX4_use_38 : decode cX4_use 38 = .ok (.ifCond .eq 4, 3) := by decide +kernel
theorem dX4_use_41 : decode cX4_use 41 = .ok (.return_, 1) := by decide +kernel
theorem dX4_use_42 : decode cX4_use 42 = .ok (.iconst 0, 1) := by decide +kernel
theorem dX4_use_43 : decode cX4_use 43 = .ok (.istore_n 3, 1) := by decide +kernel
theorem dX4_use_44 : decode cX4_use 44 = .ok (.iload_n 3, 1) := by decide +kernel
theorem dX4_use_45 : decode cX4_use 45 = .ok (.iconst 3, 1) := by decide +kernel
theorem dX4_use_46 : decode cX4_use 46 = .ok (.if_icmp .ge 44, 3) := by decide +kernel
theorem dX4_use_49 : decode cX4_use 49 = .ok (.aload_n 0, 1) := by decide +kernel
theorem dX4_use_50 : decode cX4_use 50 = .ok (.getfield 53, 3) := by decide +kernel
theorem dX4_use_53 : decode cX4_use 53 = .ok (.iconst 3, 1) := by decide +kernel
theorem dX4_use_54 : decode cX4_use 54 = .ok (.iload_n 1, 1) := by decide +kernel
theorem dX4_use_55 : decode cX4_use 55 = .ok (.imul, 1) := by decide +kernel
theorem dX4_use_56 : decode cX4_use 56 = .ok (.iload_n 3, 1) := by decide +kernel
theorem dX4_use_57 : decode cX4_use 57 = .ok (.iadd, 1) := by decide +kernel
theorem dX4_use_58 : decode cX4_use 58 = .ok (.dup2, 1) := by decide +kernel
theorem dX4_use_59 : decode cX4_use 59 = .ok (.iaload, 1) := by decide +kernel
theorem dX4_use_60 : decode cX4_use 60 = .ok (.aload_n 0, 1) := by decide +kernel
theorem dX4_use_61 : decode cX4_use 61 = .ok (.getfield 50, 3) := by decide +kernel
theorem dX4_use_64 : decode cX4_use 64 = .ok (.iconst 3, 1) := by decide +kernel
theorem dX4_use_65 : decode cX4_use 65 = .ok (.iload_n 1, 1) := by decide +kernel
theorem dX4_use_66 : decode cX4_use 66 = .ok (.imul, 1) := by decide +kernel
theorem dX4_use_67 : decode cX4_use 67 = .ok (.iload_n 3, 1) := by decide +kernel
theorem dX4_use_68 : decode cX4_use 68 = .ok (.iadd, 1) := by decide +kernel
theorem dX4_use_69 : decode cX4_use 69 = .ok (.iaload, 1) := by decide +kernel
theorem dX4_use_70 : decode cX4_use 70 = .ok (.aload_n 0, 1) := by decide +kernel
theorem dX4_use_71 : decode cX4_use 71 = .ok (.getfield 79, 3) := by decide +kernel
theorem dX4_use_74 : decode cX4_use 74 = .ok (.if_icmp .ge 7, 3) := by decide +kernel
theorem dX4_use_77 : decode cX4_use 77 = .ok (.iconst 1, 1) := by decide +kernel
theorem dX4_use_78 : decode cX4_use 78 = .ok (.goto 4, 3) := by decide +kernel
theorem dX4_use_81 : decode cX4_use 81 = .ok (.iconst 0, 1) := by decide +kernel
theorem dX4_use_82 : decode cX4_use 82 = .ok (.iadd, 1) := by decide +kernel
theorem dX4_use_83 : decode cX4_use 83 = .ok (.iastore, 1) := by decide +kernel
theorem dX4_use_84 : decode cX4_use 84 = .ok (.iinc 3 1, 3) := by decide +kernel
theorem dX4_use_87 : decode cX4_use 87 = .ok (.goto (-43), 3) := by decide +kernel
theorem dX4_use_90 : decode cX4_use 90 = .ok (.return_, 1) := by decide +kernel
theorem dX4_wash_0 : decode cX4_wash 0 = .ok (.aload_n 0, 1) := by decide +kernel
theorem dX4_wash_1 : decode cX4_wash 1 = .ok (.iload_n 1, 1) := by decide +kernel
theorem dX4_wash_2 : decode cX4_wash 2 = .ok (.invokevirtual 106, 3) := by decide +kernel
theorem dX4_wash_5 : decode cX4_wash 5 = .ok (.ifCond .ne 7, 3) := by decide +kernel
theorem dX4_wash_8 : decode cX4_wash 8 = .ok (.iconst 1, 1) := by decide +kernel
theorem dX4_wash_9 : decode cX4_wash 9 = .ok (.goto 4, 3) := by decide +kernel
theorem dX4_wash_12 : decode cX4_wash 12 = .ok (.iconst 0, 1) := by decide +kernel
theorem dX4_wash_13 : decode cX4_wash 13 = .ok (.istore_n 3, 1) := by decide +kernel
theorem dX4_wash_14 : decode cX4_wash 14 = .ok (.aload_n 0, 1) := by decide +kernel
theorem dX4_wash_15 : decode cX4_wash 15 = .ok (.iload_n 3, 1) := by decide +kernel
theorem dX4_wash_16 : decode cX4_wash 16 = .ok (.iload_n 3, 1) := by decide +kernel
theorem dX4_wash_17 : decode cX4_wash 17 = .ok (.ifCond .ne 26, 3) := by decide +kernel
theorem dX4_wash_20 : decode cX4_wash 20 = .ok (.aload_n 0, 1) := by decide +kernel
theorem dX4_wash_21 : decode cX4_wash 21 = .ok (.getfield 40, 3) := by decide +kernel
theorem dX4_wash_24 : decode cX4_wash 24 = .ok (.iload_n 1, 1) := by decide +kernel
theorem dX4_wash_25 : decode cX4_wash 25 = .ok (.iaload, 1) := by decide +kernel
theorem dX4_wash_26 : decode cX4_wash 26 = .ok (.ifCond .ge 13, 3) := by decide +kernel
theorem dX4_wash_29 : decode cX4_wash 29 = .ok (.aload_n 0, 1) := by decide +kernel
theorem dX4_wash_30 : decode cX4_wash 30 = .ok (.getfield 46, 3) := by decide +kernel
theorem dX4_wash_33 : decode cX4_wash 33 = .ok (.iload_n 1, 1) := by decide +kernel
theorem dX4_wash_34 : decode cX4_wash 34 = .ok (.baload, 1) := by decide +kernel
theorem dX4_wash_35 : decode cX4_wash 35 = .ok (.iload_n 2, 1) := by decide +kernel
theorem dX4_wash_36 : decode cX4_wash 36 = .ok (.if_icmp .eq 7, 3) := by decide +kernel
theorem dX4_wash_39 : decode cX4_wash 39 = .ok (.iconst 1, 1) := by decide +kernel
theorem dX4_wash_40 : decode cX4_wash 40 = .ok (.goto 4, 3) := by decide +kernel
theorem dX4_wash_43 : decode cX4_wash 43 = .ok (.iconst 0, 1) := by decide +kernel
theorem dX4_wash_44 : decode cX4_wash 44 = .ok (.iconst 0, 1) := by decide +kernel
theorem dX4_wash_45 : decode cX4_wash 45 = .ok (.iconst 0, 1) := by decide +kernel
theorem dX4_wash_46 : decode cX4_wash 46 = .ok (.invokevirtual 83, 3) := by decide +kernel
theorem dX4_wash_49 : decode cX4_wash 49 = .ok (.ifCond .eq 5, 3) := by decide +kernel
theorem dX4_wash_52 : decode cX4_wash 52 = .ok (.iconst 0, 1) := by decide +kernel
theorem dX4_wash_53 : decode cX4_wash 53 = .ok (.ireturn, 1) := by decide +kernel
theorem dX4_wash_54 : decode cX4_wash 54 = .ok (.aload_n 0, 1) := by decide +kernel
theorem dX4_wash_55 : decode cX4_wash 55 = .ok (.getfield 46, 3) := by decide +kernel
theorem dX4_wash_58 : decode cX4_wash 58 = .ok (.iload_n 1, 1) := by decide +kernel
theorem dX4_wash_59 : decode cX4_wash 59 = .ok (.iload_n 2, 1) := by decide +kernel
theorem dX4_wash_60 : decode cX4_wash 60 = .ok (.ifCond .ne 7, 3) := by decide +kernel
theorem dX4_wash_63 : decode cX4_wash 63 = .ok (.iconst 1, 1) := by decide +kernel
theorem dX4_wash_64 : decode cX4_wash 64 = .ok (.goto 4, 3) := by decide +kernel
theorem dX4_wash_67 : decode cX4_wash 67 = .ok (.iconst 0, 1) := by decide +kernel
theorem dX4_wash_68 : decode cX4_wash 68 = .ok (.bastore, 1) := by decide +kernel
theorem dX4_wash_69 : decode cX4_wash 69 = .ok (.aload_n 0, 1) := by decide +kernel
theorem dX4_wash_70 : decode cX4_wash 70 = .ok (.getfield 43, 3) := by decide +kernel
theorem dX4_wash_73 : decode cX4_wash 73 = .ok (.iload_n 1, 1) := by decide +kernel
theorem dX4_wash_74 : decode cX4_wash 74 = .ok (.dup2, 1) := by decide +kernel
theorem dX4_wash_75 : decode cX4_wash 75 = .ok (.iaload, 1) := by decide +kernel
theorem dX4_wash_76 : decode cX4_wash 76 = .ok (.iload_n 2, 1) := by decide +kernel
theorem dX4_wash_77 : decode cX4_wash 77 = .ok (.ifCond .eq 7, 3) := by decide +kernel
theorem dX4_wash_80 : decode cX4_wash 80 = .ok (.iconst 0, 1) := by decide +kernel
theorem dX4_wash_81 : decode cX4_wash 81 = .ok (.goto 4, 3) := by decide +kernel
theorem dX4_wash_84 : decode cX4_wash 84 = .ok (.iconst 1, 1) := by decide +kernel
theorem dX4_wash_85 : decode cX4_wash 85 = .ok (.iadd, 1) := by decide +kernel
theorem dX4_wash_86 : decode cX4_wash 86 = .ok (.iastore, 1) := by decide +kernel
theorem dX4_wash_87 : decode cX4_wash 87 = .ok (.aload_n 0, 1) := by decide +kernel
theorem dX4_wash_88 : decode cX4_wash 88 = .ok (.getfield 43, 3) := by decide +kernel
theorem dX4_wash_91 : decode cX4_wash 91 = .ok (.iload_n 1, 1) := by decide +kernel
theorem dX4_wash_92 : decode cX4_wash 92 = .ok (.iaload, 1) := by decide +kernel
theorem dX4_wash_93 : decode cX4_wash 93 = .ok (.ireturn, 1) := by decide +kernel
theorem dX4_result_0 : decode cX4_result 0 = .ok (.aload_n 0, 1) := by decide +kernel
theorem dX4_result_1 : decode cX4_result 1 = .ok (.iload_n 1, 1) := by decide +kernel
theorem dX4_result_2 : decode cX4_result 2 = .ok (.invokevirtual 106, 3) := by decide +kernel
theorem dX4_result_5 : decode cX4_result 5 = .ok (.ifCond .eq 12, 3) := by decide +kernel
theorem dX4_result_8 : decode cX4_result 8 = .ok (.iload_n 2, 1) := by decide +kernel
theorem dX4_result_9 : decode cX4_result 9 = .ok (.iconst 0, 1) := by decide +kernel
theorem dX4_result_10 : decode cX4_result 10 = .ok (.iconst 2, 1) := by decide +kernel
theorem dX4_result_11 : decode cX4_result 11 = .ok (.invokestatic 75, 3) := by decide +kernel
theorem dX4_result_14 : decode cX4_result 14 = .ok (.ifCond .ne 7, 3) := by decide +kernel
theorem dX4_result_17 : decode cX4_result 17 = .ok (.iconst 1, 1) := by decide +kernel
theorem dX4_result_18 : decode cX4_result 18 = .ok (.goto 4, 3) := by decide +kernel
theorem dX4_result_21 : decode cX4_result 21 = .ok (.iconst 0, 1) := by decide +kernel
theorem dX4_result_22 : decode cX4_result 22 = .ok (.istore 4, 2) := by decide +kernel
theorem dX4_result_24 : decode cX4_result 24 = .ok (.aload_n 0, 1) := by decide +kernel
theorem dX4_result_25 : decode cX4_result 25 = .ok (.iload 4, 2) := by decide +kernel
theorem dX4_result_27 : decode cX4_result 27 = .ok (.iload_n 3, 1) := by decide +kernel
theorem dX4_result_28 : decode cX4_result 28 = .ok (.iconst 0, 1) := by decide +kernel
theorem dX4_result_29 : decode cX4_result 29 = .ok (.sipush 10000, 3) := by decide +kernel
theorem dX4_result_32 : decode cX4_result 32 = .ok (.invokestatic 75, 3) := by decide +kernel
theorem dX4_result_35 : decode cX4_result 35 = .ok (.ifCond .ne 7, 3) := by decide +kernel
theorem dX4_result_38 : decode cX4_result 38 = .ok (.iconst 1, 1) := by decide +kernel
theorem dX4_result_39 : decode cX4_result 39 = .ok (.goto 4, 3) := by decide +kernel
theorem dX4_result_42 : decode cX4_result 42 = .ok (.iconst 0, 1) := by decide +kernel
theorem dX4_result_43 : decode cX4_result 43 = .ok (.iload 4, 2) := by decide +kernel
theorem dX4_result_45 : decode cX4_result 45 = .ok (.ifCond .ne 16, 3) := by decide +kernel
theorem dX4_result_48 : decode cX4_result 48 = .ok (.aload_n 0, 1) := by decide +kernel
theorem dX4_result_49 : decode cX4_result 49 = .ok (.getfield 40, 3) := by decide +kernel
theorem dX4_result_52 : decode cX4_result 52 = .ok (.iload_n 1, 1) := by decide +kernel
theorem dX4_result_53 : decode cX4_result 53 = .ok (.iaload, 1) := by decide +kernel
theorem dX4_result_54 : decode cX4_result 54 = .ok (.ifCond .lt 7, 3) := by decide +kernel
theorem dX4_result_57 : decode cX4_result 57 = .ok (.iconst 1, 1) := by decide +kernel
theorem dX4_result_58 : decode cX4_result 58 = .ok (.goto 4, 3) := by decide +kernel
theorem dX4_result_61 : decode cX4_result 61 = .ok (.iconst 0, 1) := by decide +kernel
theorem dX4_result_62 : decode cX4_result 62 = .ok (.iconst 0, 1) := by decide +kernel
theorem dX4_result_63 : decode cX4_result 63 = .ok (.invokevirtual 83, 3) := by decide +kernel
theorem dX4_result_66 : decode cX4_result 66 = .ok (.ifCond .eq 5, 3) := by decide +kernel
theorem dX4_result_69 : decode cX4_result 69 = .ok (.iconst 0, 1) := by decide +kernel
theorem dX4_result_70 : decode cX4_result 70 = .ok (.ireturn, 1) := by decide +kernel
theorem dX4_result_71 : decode cX4_result 71 = .ok (.iconst 3, 1) := by decide +kernel
theorem dX4_result_72 : decode cX4_result 72 = .ok (.iload_n 1, 1) := by decide +kernel
theorem dX4_result_73 : decode cX4_result 73 = .ok (.imul, 1) := by decide +kernel
theorem dX4_result_74 : decode cX4_result 74 = .ok (.iload_n 2, 1) := by decide +kernel
theorem dX4_result_75 : decode cX4_result 75 = .ok (.iadd, 1) := by decide +kernel
theorem dX4_result_76 : decode cX4_result 76 = .ok (.istore 5, 2) := by decide +kernel
theorem dX4_result_78 : decode cX4_result 78 = .ok (.iconst 3, 1) := by decide +kernel
theorem dX4_result_79 : decode cX4_result 79 = .ok (.aload_n 0, 1) := by decide +kernel
theorem dX4_result_80 : decode cX4_result 80 = .ok (.getfield 25, 3) := by decide +kernel
theorem dX4_result_83 : decode cX4_result 83 = .ok (.iload_n 1, 1) := by decide +kernel
theorem dX4_result_84 : decode cX4_result 84 = .ok (.iaload, 1) := by decide +kernel
theorem dX4_result_85 : decode cX4_result 85 = .ok (.imul, 1) := by decide +kernel
theorem dX4_result_86 : decode cX4_result 86 = .ok (.iload_n 2, 1) := by decide +kernel
theorem dX4_result_87 : decode cX4_result 87 = .ok (.iadd, 1) := by decide +kernel
theorem dX4_result_88 : decode cX4_result 88 = .ok (.istore 6, 2) := by decide +kernel
theorem dX4_result_90 : decode cX4_result 90 = .ok (.iload_n 3, 1) := by decide +kernel
theorem dX4_result_91 : decode cX4_result 91 = .ok (.aload_n 0, 1) := by decide +kernel
theorem dX4_result_92 : decode cX4_result 92 = .ok (.getfield 22, 3) := by decide +kernel
theorem dX4_result_95 : decode cX4_result 95 = .ok (.iload 6, 2) := by decide +kernel
theorem dX4_result_97 : decode cX4_result 97 = .ok (.iaload, 1) := by decide +kernel
theorem dX4_result_98 : decode cX4_result 98 = .ok (.if_icmp .lt 7, 3) := by decide +kernel
theorem dX4_result_101 : decode cX4_result 101 = .ok (.iconst 0, 1) := by decide +kernel
theorem dX4_result_102 : decode cX4_result 102 = .ok (.goto 19, 3) := by decide +kernel
theorem dX4_result_105 : decode cX4_result 105 = .ok (.iload_n 3, 1) := by decide +kernel
theorem dX4_result_106 : decode cX4_result 106 = .ok (.aload_n 0, 1) := by decide +kernel
theorem dX4_result_107 : decode cX4_result 107 = .ok (.getfield 19, 3) := by decide +kernel
theorem dX4_result_110 : decode cX4_result 110 = .ok (.iload 6, 2) := by decide +kernel
theorem dX4_result_112 : decode cX4_result 112 = .ok (.iaload, 1) := by decide +kernel
theorem dX4_result_113 : decode cX4_result 113 = .ok (.if_icmp .lt 7, 3) := by decide +kernel
theorem dX4_result_116 : decode cX4_result 116 = .ok (.iconst 1, 1) := by decide +kernel
theorem dX4_result_117 : decode cX4_result 117 = .ok (.goto 4, 3) := by decide +kernel
theorem dX4_result_120 : decode cX4_result 120 = .ok (.iconst 2, 1) := by decide +kernel
theorem dX4_result_121 : decode cX4_result 121 = .ok (.istore 7, 2) := by decide +kernel
theorem dX4_result_123 : decode cX4_result 123 = .ok (.aload_n 0, 1) := by decide +kernel
theorem dX4_result_124 : decode cX4_result 124 = .ok (.getfield 56, 3) := by decide +kernel
theorem dX4_result_127 : decode cX4_result 127 = .ok (.iload 5, 2) := by decide +kernel
theorem dX4_result_129 : decode cX4_result 129 = .ok (.aload_n 0, 1) := by decide +kernel
theorem dX4_result_130 : decode cX4_result 130 = .ok (.getfield 50, 3) := by decide +kernel
theorem dX4_result_133 : decode cX4_result 133 = .ok (.iload 5, 2) := by decide +kernel
theorem dX4_result_135 : decode cX4_result 135 = .ok (.iaload, 1) := by decide +kernel
theorem dX4_result_136 : decode cX4_result 136 = .ok (.aload_n 0, 1) := by decide +kernel
theorem dX4_result_137 : decode cX4_result 137 = .ok (.getfield 79, 3) := by decide +kernel
theorem dX4_result_140 : decode cX4_result 140 = .ok (.if_icmp .ne 25, 3) := by decide +kernel
theorem dX4_result_143 : decode cX4_result 143 = .ok (.aload_n 0, 1) := by decide +kernel
theorem dX4_result_144 : decode cX4_result 144 = .ok (.getfield 56, 3) := by decide +kernel
theorem dX4_result_147 : decode cX4_result 147 = .ok (.iload 5, 2) := by decide +kernel
theorem dX4_result_149 : decode cX4_result 149 = .ok (.iaload, 1) := by decide +kernel
theorem dX4_result_150 : decode cX4_result 150 = .ok (.iload 7, 2) := by decide +kernel
theorem dX4_result_152 : decode cX4_result 152 = .ok (.if_icmp .le 13, 3) := by decide +kernel
theorem dX4_result_155 : decode cX4_result 155 = .ok (.aload_n 0, 1) := by decide +kernel
theorem dX4_result_156 : decode cX4_result 156 = .ok (.getfield 56, 3) := by decide +kernel
theorem dX4_result_159 : decode cX4_result 159 = .ok (.iload 5, 2) := by decide +kernel
theorem dX4_result_161 : decode cX4_result 161 = .ok (.iaload, 1) := by decide +kernel
theorem dX4_result_162 : decode cX4_result 162 = .ok (.goto 5, 3) := by decide +kernel
theorem dX4_result_165 : decode cX4_result 165 = .ok (.iload 7, 2) := by decide +kernel
theorem dX4_result_167 : decode cX4_result 167 = .ok (.iastore, 1) := by decide +kernel
theorem dX4_result_168 : decode cX4_result 168 = .ok (.aload_n 0, 1) := by decide +kernel
theorem dX4_result_169 : decode cX4_result 169 = .ok (.getfield 50, 3) := by decide +kernel
theorem dX4_result_172 : decode cX4_result 172 = .ok (.iload 5, 2) := by decide +kernel
theorem dX4_result_174 : decode cX4_result 174 = .ok (.aload_n 0, 1) := by decide +kernel
theorem dX4_result_175 : decode cX4_result 175 = .ok (.getfield 79, 3) := by decide +kernel
theorem dX4_result_178 : decode cX4_result 178 = .ok (.iastore, 1) := by decide +kernel
theorem dX4_result_179 : decode cX4_result 179 = .ok (.aload_n 0, 1) := by decide +kernel
theorem dX4_result_180 : decode cX4_result 180 = .ok (.getfield 53, 3) := by decide +kernel
theorem dX4_result_183 : decode cX4_result 183 = .ok (.iload 5, 2) := by decide +kernel
theorem dX4_result_185 : decode cX4_result 185 = .ok (.iconst 0, 1) := by decide +kernel
theorem dX4_result_186 : decode cX4_result 186 = .ok (.iastore, 1) := by decide +kernel
theorem dX4_result_187 : decode cX4_result 187 = .ok (.iload 7, 2) := by decide +kernel
theorem dX4_result_189 : decode cX4_result 189 = .ok (.iconst 2, 1) := by decide +kernel
theorem dX4_result_190 : decode cX4_result 190 = .ok (.if_icmp .ne 13, 3) := by decide +kernel
theorem dX4_result_193 : decode cX4_result 193 = .ok (.aload_n 0, 1) := by decide +kernel
theorem dX4_result_194 : decode cX4_result 194 = .ok (.getfield 40, 3) := by decide +kernel
theorem dX4_result_197 : decode cX4_result 197 = .ok (.iload_n 1, 1) := by decide +kernel
theorem dX4_result_198 : decode cX4_result 198 = .ok (.aload_n 0, 1) := by decide +kernel
theorem dX4_result_199 : decode cX4_result 199 = .ok (.getfield 79, 3) := by decide +kernel
theorem dX4_result_202 : decode cX4_result 202 = .ok (.iastore, 1) := by decide +kernel
theorem dX4_result_203 : decode cX4_result 203 = .ok (.aload_n 0, 1) := by decide +kernel
theorem dX4_result_204 : decode cX4_result 204 = .ok (.getfield 56, 3) := by decide +kernel
theorem dX4_result_207 : decode cX4_result 207 = .ok (.iload 5, 2) := by decide +kernel
theorem dX4_result_209 : decode cX4_result 209 = .ok (.iaload, 1) := by decide +kernel
theorem dX4_result_210 : decode cX4_result 210 = .ok (.ireturn, 1) := by decide +kernel
theorem dX4_load_0 : decode cX4_load 0 = .ok (.aload_n 0, 1) := by decide +kernel
theorem dX4_load_1 : decode cX4_load 1 = .ok (.iload_n 1, 1) := by decide +kernel
theorem dX4_load_2 : decode cX4_load 2 = .ok (.invokevirtual 106, 3) := by decide +kernel
theorem dX4_load_5 : decode cX4_load 5 = .ok (.ifCond .eq 13, 3) := by decide +kernel
theorem dX4_load_8 : decode cX4_load 8 = .ok (.iload_n 2, 1) := by decide +kernel
theorem dX4_load_9 : decode cX4_load 9 = .ok (.iconst 0, 1) := by decide +kernel
theorem dX4_load_10 : decode cX4_load 10 = .ok (.bipush 19, 2) := by decide +kernel
theorem dX4_load_12 : decode cX4_load 12 = .ok (.invokestatic 75, 3) := by decide +kernel
theorem dX4_load_15 : decode cX4_load 15 = .ok (.ifCond .ne 7, 3) := by decide +kernel
theorem dX4_load_18 : decode cX4_load 18 = .ok (.iconst 1, 1) := by decide +kernel
theorem dX4_load_19 : decode cX4_load 19 = .ok (.goto 4, 3) := by decide +kernel
theorem dX4_load_22 : decode cX4_load 22 = .ok (.iconst 0, 1) := by decide +kernel
theorem dX4_load_23 : decode cX4_load 23 = .ok (.istore_n 3, 1) := by decide +kernel
theorem dX4_load_24 : decode cX4_load 24 = .ok (.aload_n 0, 1) := by decide +kernel
theorem dX4_load_25 : decode cX4_load 25 = .ok (.iload_n 3, 1) := by decide +kernel
theorem dX4_load_26 : decode cX4_load 26 = .ok (.iload_n 3, 1) := by decide +kernel
theorem dX4_load_27 : decode cX4_load 27 = .ok (.ifCond .ne 15, 3) := by decide +kernel
theorem dX4_load_30 : decode cX4_load 30 = .ok (.aload_n 0, 1) := by decide +kernel
theorem dX4_load_31 : decode cX4_load 31 = .ok (.iload_n 1, 1) := by decide +kernel
theorem dX4_load_32 : decode cX4_load 32 = .ok (.invokevirtual 109, 3) := by decide +kernel
theorem dX4_load_35 : decode cX4_load 35 = .ok (.ifCond .le 7, 3) := by decide +kernel
theorem dX4_load_38 : decode cX4_load 38 = .ok (.iconst 1, 1) := by decide +kernel
theorem dX4_load_39 : decode cX4_load 39 = .ok (.goto 4, 3) := by decide +kernel
theorem dX4_load_42 : decode cX4_load 42 = .ok (.iconst 0, 1) := by decide +kernel
theorem dX4_load_43 : decode cX4_load 43 = .ok (.iconst 0, 1) := by decide +kernel
theorem dX4_load_44 : decode cX4_load 44 = .ok (.iconst 0, 1) := by decide +kernel
theorem dX4_load_45 : decode cX4_load 45 = .ok (.invokevirtual 83, 3) := by decide +kernel
theorem dX4_load_48 : decode cX4_load 48 = .ok (.ifCond .eq 4, 3) := by decide +kernel
theorem dX4_load_51 : decode cX4_load 51 = .ok (.return_, 1) := by decide +kernel
theorem dX4_load_52 : decode cX4_load 52 = .ok (.aload_n 0, 1) := by decide +kernel
theorem dX4_load_53 : decode cX4_load 53 = .ok (.getfield 34, 3) := by decide +kernel
theorem dX4_load_56 : decode cX4_load 56 = .ok (.iload_n 1, 1) := by decide +kernel
theorem dX4_load_57 : decode cX4_load 57 = .ok (.iload_n 2, 1) := by decide +kernel
theorem dX4_load_58 : decode cX4_load 58 = .ok (.iastore, 1) := by decide +kernel
theorem dX4_load_59 : decode cX4_load 59 = .ok (.return_, 1) := by decide +kernel
theorem dX4_leftOf_0 : decode cX4_leftOf 0 = .ok (.iconst 0, 1) := by decide +kernel
theorem dX4_leftOf_1 : decode cX4_leftOf 1 = .ok (.istore_n 2, 1) := by decide +kernel
theorem dX4_leftOf_2 : decode cX4_leftOf 2 = .ok (.iconst 0, 1) := by decide +kernel
theorem dX4_leftOf_3 : decode cX4_leftOf 3 = .ok (.istore_n 3, 1) := by decide +kernel
theorem dX4_leftOf_4 : decode cX4_leftOf 4 = .ok (.iload_n 3, 1) := by decide +kernel
theorem dX4_leftOf_5 : decode cX4_leftOf 5 = .ok (.aload_n 0, 1) := by decide +kernel
theorem dX4_leftOf_6 : decode cX4_leftOf 6 = .ok (.getfield 72, 3) := by decide +kernel
theorem dX4_leftOf_9 : decode cX4_leftOf 9 = .ok (.if_icmp .ge 36, 3) := by decide +kernel
theorem dX4_leftOf_12 : decode cX4_leftOf 12 = .ok (.iload_n 2, 1) := by decide +kernel
theorem dX4_leftOf_13 : decode cX4_leftOf 13 = .ok (.aload_n 0, 1) := by decide +kernel
theorem dX4_leftOf_14 : decode cX4_leftOf 14 = .ok (.getfield 31, 3) := by decide +kernel
theorem dX4_leftOf_17 : decode cX4_leftOf 17 = .ok (.iload_n 3, 1) := by decide +kernel
theorem dX4_leftOf_18 : decode cX4_leftOf 18 = .ok (.iaload, 1) := by decide +kernel
theorem dX4_leftOf_19 : decode cX4_leftOf 19 = .ok (.iload_n 1, 1) := by decide +kernel
theorem dX4_leftOf_20 : decode cX4_leftOf 20 = .ok (.if_icmp .ne 16, 3) := by decide +kernel
theorem dX4_leftOf_23 : decode cX4_leftOf 23 = .ok (.aload_n 0, 1) := by decide +kernel
theorem dX4_leftOf_24 : decode cX4_leftOf 24 = .ok (.getfield 40, 3) := by decide +kernel
theorem dX4_leftOf_27 : decode cX4_leftOf 27 = .ok (.iload_n 3, 1) := by decide +kernel
theorem dX4_leftOf_28 : decode cX4_leftOf 28 = .ok (.iaload, 1) := by decide +kernel
theorem dX4_leftOf_29 : decode cX4_leftOf 29 = .ok (.ifCond .ge 7, 3) := by decide +kernel
theorem dX4_leftOf_32 : decode cX4_leftOf 32 = .ok (.iconst 1, 1) := by decide +kernel
theorem dX4_leftOf_33 : decode cX4_leftOf 33 = .ok (.goto 4, 3) := by decide +kernel
theorem dX4_leftOf_36 : decode cX4_leftOf 36 = .ok (.iconst 0, 1) := by decide +kernel
theorem dX4_leftOf_37 : decode cX4_leftOf 37 = .ok (.iadd, 1) := by decide +kernel
theorem dX4_leftOf_38 : decode cX4_leftOf 38 = .ok (.istore_n 2, 1) := by decide +kernel
theorem dX4_leftOf_39 : decode cX4_leftOf 39 = .ok (.iinc 3 1, 3) := by decide +kernel
theorem dX4_leftOf_42 : decode cX4_leftOf 42 = .ok (.goto (-38), 3) := by decide +kernel
theorem dX4_leftOf_45 : decode cX4_leftOf 45 = .ok (.iload_n 2, 1) := by decide +kernel
theorem dX4_leftOf_46 : decode cX4_leftOf 46 = .ok (.ireturn, 1) := by decide +kernel
theorem dX4_recall_0 : decode cX4_recall 0 = .ok (.iload_n 1, 1) := by decide +kernel
theorem dX4_recall_1 : decode cX4_recall 1 = .ok (.iconst 0, 1) := by decide +kernel
theorem dX4_recall_2 : decode cX4_recall 2 = .ok (.bipush 9, 2) := by decide +kernel
theorem dX4_recall_4 : decode cX4_recall 4 = .ok (.invokestatic 75, 3) := by decide +kernel
theorem dX4_recall_7 : decode cX4_recall 7 = .ok (.ifCond .ne 7, 3) := by decide +kernel
theorem dX4_recall_10 : decode cX4_recall 10 = .ok (.iconst 1, 1) := by decide +kernel
theorem dX4_recall_11 : decode cX4_recall 11 = .ok (.goto 4, 3) := by decide +kernel
theorem dX4_recall_14 : decode cX4_recall 14 = .ok (.iconst 0, 1) := by decide +kernel
theorem dX4_recall_15 : decode cX4_recall 15 = .ok (.istore_n 3, 1) := by decide +kernel
theorem dX4_recall_16 : decode cX4_recall 16 = .ok (.aload_n 0, 1) := by decide +kernel
theorem dX4_recall_17 : decode cX4_recall 17 = .ok (.iload_n 3, 1) := by decide +kernel
theorem dX4_recall_18 : decode cX4_recall 18 = .ok (.iload_n 3, 1) := by decide +kernel
theorem dX4_recall_19 : decode cX4_recall 19 = .ok (.ifCond .ne 25, 3) := by decide +kernel
theorem dX4_recall_22 : decode cX4_recall 22 = .ok (.aload_n 0, 1) := by decide +kernel
theorem dX4_recall_23 : decode cX4_recall 23 = .ok (.getfield 59, 3) := by decide +kernel
theorem dX4_recall_26 : decode cX4_recall 26 = .ok (.iload_n 3, 1) := by decide +kernel
theorem dX4_recall_27 : decode cX4_recall 27 = .ok (.ifCond .eq 7, 3) := by decide +kernel
theorem dX4_recall_30 : decode cX4_recall 30 = .ok (.iconst 0, 1) := by decide +kernel
theorem dX4_recall_31 : decode cX4_recall 31 = .ok (.goto 4, 3) := by decide +kernel
theorem dX4_recall_34 : decode cX4_recall 34 = .ok (.iload_n 1, 1) := by decide +kernel
theorem dX4_recall_35 : decode cX4_recall 35 = .ok (.baload, 1) := by decide +kernel
theorem dX4_recall_36 : decode cX4_recall 36 = .ok (.iload_n 2, 1) := by decide +kernel
theorem dX4_recall_37 : decode cX4_recall 37 = .ok (.if_icmp .ne 7, 3) := by decide +kernel
theorem dX4_recall_40 : decode cX4_recall 40 = .ok (.iconst 1, 1) := by decide +kernel
theorem dX4_recall_41 : decode cX4_recall 41 = .ok (.goto 4, 3) := by decide +kernel
theorem dX4_recall_44 : decode cX4_recall 44 = .ok (.iconst 0, 1) := by decide +kernel
theorem dX4_recall_45 : decode cX4_recall 45 = .ok (.iconst 0, 1) := by decide +kernel
theorem dX4_recall_46 : decode cX4_recall 46 = .ok (.iconst 0, 1) := by decide +kernel
theorem dX4_recall_47 : decode cX4_recall 47 = .ok (.invokevirtual 83, 3) := by decide +kernel
theorem dX4_recall_50 : decode cX4_recall 50 = .ok (.ifCond .eq 5, 3) := by decide +kernel
theorem dX4_recall_53 : decode cX4_recall 53 = .ok (.iconst 0, 1) := by decide +kernel
theorem dX4_recall_54 : decode cX4_recall 54 = .ok (.ireturn, 1) := by decide +kernel
theorem dX4_recall_55 : decode cX4_recall 55 = .ok (.aload_n 0, 1) := by decide +kernel
theorem dX4_recall_56 : decode cX4_recall 56 = .ok (.getfield 59, 3) := by decide +kernel
theorem dX4_recall_59 : decode cX4_recall 59 = .ok (.iload_n 1, 1) := by decide +kernel
theorem dX4_recall_60 : decode cX4_recall 60 = .ok (.iload_n 2, 1) := by decide +kernel
theorem dX4_recall_61 : decode cX4_recall 61 = .ok (.bastore, 1) := by decide +kernel
theorem dX4_recall_62 : decode cX4_recall 62 = .ok (.aload_n 0, 1) := by decide +kernel
theorem dX4_recall_63 : decode cX4_recall 63 = .ok (.iload_n 1, 1) := by decide +kernel
theorem dX4_recall_64 : decode cX4_recall 64 = .ok (.invokevirtual 112, 3) := by decide +kernel
theorem dX4_recall_67 : decode cX4_recall 67 = .ok (.ireturn, 1) := by decide +kernel
theorem dX4_recalled_0 : decode cX4_recalled 0 = .ok (.aload_n 0, 1) := by decide +kernel
theorem dX4_recalled_1 : decode cX4_recalled 1 = .ok (.iload_n 1, 1) := by decide +kernel
theorem dX4_recalled_2 : decode cX4_recalled 2 = .ok (.iconst 0, 1) := by decide +kernel
theorem dX4_recalled_3 : decode cX4_recalled 3 = .ok (.bipush 9, 2) := by decide +kernel
theorem dX4_recalled_5 : decode cX4_recalled 5 = .ok (.invokestatic 75, 3) := by decide +kernel
theorem dX4_recalled_8 : decode cX4_recalled 8 = .ok (.ifCond .ne 7, 3) := by decide +kernel
theorem dX4_recalled_11 : decode cX4_recalled 11 = .ok (.iconst 1, 1) := by decide +kernel
theorem dX4_recalled_12 : decode cX4_recalled 12 = .ok (.goto 4, 3) := by decide +kernel
theorem dX4_recalled_15 : decode cX4_recalled 15 = .ok (.iconst 0, 1) := by decide +kernel
theorem dX4_recalled_16 : decode cX4_recalled 16 = .ok (.iload_n 2, 1) := by decide +kernel
theorem dX4_recalled_17 : decode cX4_recalled 17 = .ok (.ifCond .ge 7, 3) := by decide +kernel
theorem dX4_recalled_20 : decode cX4_recalled 20 = .ok (.iconst 1, 1) := by decide +kernel
theorem dX4_recalled_21 : decode cX4_recalled 21 = .ok (.goto 4, 3) := by decide +kernel
theorem dX4_recalled_24 : decode cX4_recalled 24 = .ok (.iconst 0, 1) := by decide +kernel
theorem dX4_recalled_25 : decode cX4_recalled 25 = .ok (.iconst 0, 1) := by decide +kernel
theorem dX4_recalled_26 : decode cX4_recalled 26 = .ok (.iconst 0, 1) := by decide +kernel
theorem dX4_recalled_27 : decode cX4_recalled 27 = .ok (.invokevirtual 83, 3) := by decide +kernel
theorem dX4_recalled_30 : decode cX4_recalled 30 = .ok (.ifCond .eq 5, 3) := by decide +kernel
theorem dX4_recalled_33 : decode cX4_recalled 33 = .ok (.iconst 0, 1) := by decide +kernel
theorem dX4_recalled_34 : decode cX4_recalled 34 = .ok (.ireturn, 1) := by decide +kernel
theorem dX4_recalled_35 : decode cX4_recalled 35 = .ok (.iload_n 2, 1) := by decide +kernel
theorem dX4_recalled_36 : decode cX4_recalled 36 = .ok (.istore_n 3, 1) := by decide +kernel
theorem dX4_recalled_37 : decode cX4_recalled 37 = .ok (.iconst 0, 1) := by decide +kernel
theorem dX4_recalled_38 : decode cX4_recalled 38 = .ok (.istore 4, 2) := by decide +kernel
theorem dX4_recalled_40 : decode cX4_recalled 40 = .ok (.iload 4, 2) := by decide +kernel
theorem dX4_recalled_42 : decode cX4_recalled 42 = .ok (.aload_n 0, 1) := by decide +kernel
theorem dX4_recalled_43 : decode cX4_recalled 43 = .ok (.getfield 72, 3) := by decide +kernel
theorem dX4_recalled_46 : decode cX4_recalled 46 = .ok (.if_icmp .ge 51, 3) := by decide +kernel
theorem dX4_recalled_49 : decode cX4_recalled 49 = .ok (.aload_n 0, 1) := by decide +kernel
theorem dX4_recalled_50 : decode cX4_recalled 50 = .ok (.getfield 31, 3) := by decide +kernel
theorem dX4_recalled_53 : decode cX4_recalled 53 = .ok (.iload 4, 2) := by decide +kernel
theorem dX4_recalled_55 : decode cX4_recalled 55 = .ok (.iaload, 1) := by decide +kernel
theorem dX4_recalled_56 : decode cX4_recalled 56 = .ok (.iload_n 1, 1) := by decide +kernel
theorem dX4_recalled_57 : decode cX4_recalled 57 = .ok (.if_icmp .ne 34, 3) := by decide +kernel
theorem dX4_recalled_60 : decode cX4_recalled 60 = .ok (.aload_n 0, 1) := by decide +kernel
theorem dX4_recalled_61 : decode cX4_recalled 61 = .ok (.getfield 40, 3) := by decide +kernel
theorem dX4_recalled_64 : decode cX4_recalled 64 = .ok (.iload 4, 2) := by decide +kernel
theorem dX4_recalled_66 : decode cX4_recalled 66 = .ok (.iaload, 1) := by decide +kernel
theorem dX4_recalled_67 : decode cX4_recalled 67 = .ok (.ifCond .ge 24, 3) := by decide +kernel
theorem dX4_recalled_70 : decode cX4_recalled 70 = .ok (.iload_n 3, 1) := by decide +kernel
theorem dX4_recalled_71 : decode cX4_recalled 71 = .ok (.ifCond .ne 17, 3) := by decide +kernel
theorem dX4_recalled_74 : decode cX4_recalled 74 = .ok (.bipush 100, 2) := by decide +kernel
theorem dX4_recalled_76 : decode cX4_recalled 76 = .ok (.iload 4, 2) := by decide +kernel
theorem dX4_recalled_78 : decode cX4_recalled 78 = .ok (.imul, 1) := by decide +kernel
theorem dX4_recalled_79 : decode cX4_recalled 79 = .ok (.aload_n 0, 1) := by decide +kernel
theorem dX4_recalled_80 : decode cX4_recalled 80 = .ok (.getfield 34, 3) := by decide +kernel
theorem dX4_recalled_83 : decode cX4_recalled 83 = .ok (.iload 4, 2) := by decide +kernel
theorem dX4_recalled_85 : decode cX4_recalled 85 = .ok (.iaload, 1) := by decide +kernel
theorem dX4_recalled_86 : decode cX4_recalled 86 = .ok (.iadd, 1) := by decide +kernel
theorem dX4_recalled_87 : decode cX4_recalled 87 = .ok (.ireturn, 1) := by decide +kernel
theorem dX4_recalled_88 : decode cX4_recalled 88 = .ok (.iinc 3 (-1), 3) := by decide +kernel
theorem dX4_recalled_91 : decode cX4_recalled 91 = .ok (.iinc 4 1, 3) := by decide +kernel
theorem dX4_recalled_94 : decode cX4_recalled 94 = .ok (.goto (-54), 3) := by decide +kernel
theorem dX4_recalled_97 : decode cX4_recalled 97 = .ok (.iconst (-1), 1) := by decide +kernel
theorem dX4_recalled_98 : decode cX4_recalled 98 = .ok (.ireturn, 1) := by decide +kernel
theorem dX4_barred_0 : decode cX4_barred 0 = .ok (.aload_n 0, 1) := by decide +kernel
theorem dX4_barred_1 : decode cX4_barred 1 = .ok (.aload_n 0, 1) := by decide +kernel
theorem dX4_barred_2 : decode cX4_barred 2 = .ok (.iload_n 1, 1) := by decide +kernel
theorem dX4_barred_3 : decode cX4_barred 3 = .ok (.invokevirtual 106, 3) := by decide +kernel
theorem dX4_barred_6 : decode cX4_barred 6 = .ok (.ifCond .ne 7, 3) := by decide +kernel
theorem dX4_barred_9 : decode cX4_barred 9 = .ok (.iconst 1, 1) := by decide +kernel
theorem dX4_barred_10 : decode cX4_barred 10 = .ok (.goto 4, 3) := by decide +kernel
theorem dX4_barred_13 : decode cX4_barred 13 = .ok (.iconst 0, 1) := by decide +kernel
theorem dX4_barred_14 : decode cX4_barred 14 = .ok (.iconst 0, 1) := by decide +kernel
theorem dX4_barred_15 : decode cX4_barred 15 = .ok (.iconst 0, 1) := by decide +kernel
theorem dX4_barred_16 : decode cX4_barred 16 = .ok (.iconst 0, 1) := by decide +kernel
theorem dX4_barred_17 : decode cX4_barred 17 = .ok (.invokevirtual 83, 3) := by decide +kernel
theorem dX4_barred_20 : decode cX4_barred 20 = .ok (.ifCond .eq 5, 3) := by decide +kernel
theorem dX4_barred_23 : decode cX4_barred 23 = .ok (.iconst 0, 1) := by decide +kernel
theorem dX4_barred_24 : decode cX4_barred 24 = .ok (.ireturn, 1) := by decide +kernel
theorem dX4_barred_25 : decode cX4_barred 25 = .ok (.aload_n 0, 1) := by decide +kernel
theorem dX4_barred_26 : decode cX4_barred 26 = .ok (.iload_n 1, 1) := by decide +kernel
theorem dX4_barred_27 : decode cX4_barred 27 = .ok (.invokevirtual 109, 3) := by decide +kernel
theorem dX4_barred_30 : decode cX4_barred 30 = .ok (.ireturn, 1) := by decide +kernel
theorem dX4_endOf_0 : decode cX4_endOf 0 = .ok (.aload_n 0, 1) := by decide +kernel
theorem dX4_endOf_1 : decode cX4_endOf 1 = .ok (.getfield 40, 3) := by decide +kernel
theorem dX4_endOf_4 : decode cX4_endOf 4 = .ok (.iload_n 1, 1) := by decide +kernel
theorem dX4_endOf_5 : decode cX4_endOf 5 = .ok (.iaload, 1) := by decide +kernel
theorem dX4_endOf_6 : decode cX4_endOf 6 = .ok (.ifCond .lt 6, 3) := by decide +kernel
theorem dX4_endOf_9 : decode cX4_endOf 9 = .ok (.ldc 115, 2) := by decide +kernel
theorem dX4_endOf_11 : decode cX4_endOf 11 = .ok (.ireturn, 1) := by decide +kernel
theorem dX4_endOf_12 : decode cX4_endOf 12 = .ok (.aload_n 0, 1) := by decide +kernel
theorem dX4_endOf_13 : decode cX4_endOf 13 = .ok (.getfield 7, 3) := by decide +kernel
theorem dX4_endOf_16 : decode cX4_endOf 16 = .ok (.aload_n 0, 1) := by decide +kernel
theorem dX4_endOf_17 : decode cX4_endOf 17 = .ok (.getfield 25, 3) := by decide +kernel
theorem dX4_endOf_20 : decode cX4_endOf 20 = .ok (.iload_n 1, 1) := by decide +kernel
theorem dX4_endOf_21 : decode cX4_endOf 21 = .ok (.iaload, 1) := by decide +kernel
theorem dX4_endOf_22 : decode cX4_endOf 22 = .ok (.iaload, 1) := by decide +kernel
theorem dX4_endOf_23 : decode cX4_endOf 23 = .ok (.ifCond .le 24, 3) := by decide +kernel
theorem dX4_endOf_26 : decode cX4_endOf 26 = .ok (.aload_n 0, 1) := by decide +kernel
theorem dX4_endOf_27 : decode cX4_endOf 27 = .ok (.getfield 37, 3) := by decide +kernel
theorem dX4_endOf_30 : decode cX4_endOf 30 = .ok (.iload_n 1, 1) := by decide +kernel
theorem dX4_endOf_31 : decode cX4_endOf 31 = .ok (.iaload, 1) := by decide +kernel
theorem dX4_endOf_32 : decode cX4_endOf 32 = .ok (.aload_n 0, 1) := by decide +kernel
theorem dX4_endOf_33 : decode cX4_endOf 33 = .ok (.getfield 7, 3) := by decide +kernel
theorem dX4_endOf_36 : decode cX4_endOf 36 = .ok (.aload_n 0, 1) := by decide +kernel
theorem dX4_endOf_37 : decode cX4_endOf 37 = .ok (.getfield 25, 3) := by decide +kernel
theorem dX4_endOf_40 : decode cX4_endOf 40 = .ok (.iload_n 1, 1) := by decide +kernel
theorem dX4_endOf_41 : decode cX4_endOf 41 = .ok (.iaload, 1) := by decide +kernel
theorem dX4_endOf_42 : decode cX4_endOf 42 = .ok (.iaload, 1) := by decide +kernel
theorem dX4_endOf_43 : decode cX4_endOf 43 = .ok (.iadd, 1) := by decide +kernel
theorem dX4_endOf_44 : decode cX4_endOf 44 = .ok (.goto 5, 3) := by decide +kernel
theorem dX4_endOf_47 : decode cX4_endOf 47 = .ok (.ldc 115, 2) := by decide +kernel
theorem dX4_endOf_49 : decode cX4_endOf 49 = .ok (.istore_n 2, 1) := by decide +kernel
theorem dX4_endOf_50 : decode cX4_endOf 50 = .ok (.iconst 0, 1) := by decide +kernel
theorem dX4_endOf_51 : decode cX4_endOf 51 = .ok (.istore_n 3, 1) := by decide +kernel
theorem dX4_endOf_52 : decode cX4_endOf 52 = .ok (.iload_n 3, 1) := by decide +kernel
theorem dX4_endOf_53 : decode cX4_endOf 53 = .ok (.iconst 3, 1) := by decide +kernel
theorem dX4_endOf_54 : decode cX4_endOf 54 = .ok (.if_icmp .ge 110, 3) := by decide +kernel
theorem dX4_endOf_57 : decode cX4_endOf 57 = .ok (.iconst 3, 1) := by decide +kernel
theorem dX4_endOf_58 : decode cX4_endOf 58 = .ok (.aload_n 0, 1) := by decide +kernel
theorem dX4_endOf_59 : decode cX4_endOf 59 = .ok (.getfield 25, 3) := by decide +kernel
theorem dX4_endOf_62 : decode cX4_endOf 62 = .ok (.iload_n 1, 1) := by decide +kernel
theorem dX4_endOf_63 : decode cX4_endOf 63 = .ok (.iaload, 1) := by decide +kernel
theorem dX4_endOf_64 : decode cX4_endOf 64 = .ok (.imul, 1) := by decide +kernel
theorem dX4_endOf_65 : decode cX4_endOf 65 = .ok (.iload_n 3, 1) := by decide +kernel
theorem dX4_endOf_66 : decode cX4_endOf 66 = .ok (.iadd, 1) := by decide +kernel
theorem dX4_endOf_67 : decode cX4_endOf 67 = .ok (.istore 4, 2) := by decide +kernel
theorem dX4_endOf_69 : decode cX4_endOf 69 = .ok (.aload_n 0, 1) := by decide +kernel
theorem dX4_endOf_70 : decode cX4_endOf 70 = .ok (.getfield 13, 3) := by decide +kernel
theorem dX4_endOf_73 : decode cX4_endOf 73 = .ok (.iload 4, 2) := by decide +kernel
theorem dX4_endOf_75 : decode cX4_endOf 75 = .ok (.iaload, 1) := by decide +kernel
theorem dX4_endOf_76 : decode cX4_endOf 76 = .ok (.ifCond .le 24, 3) := by decide +kernel
theorem dX4_endOf_79 : decode cX4_endOf 79 = .ok (.aload_n 0, 1) := by decide +kernel
theorem dX4_endOf_80 : decode cX4_endOf 80 = .ok (.getfield 50, 3) := by decide +kernel
theorem dX4_endOf_83 : decode cX4_endOf 83 = .ok (.iconst 3, 1) := by decide +kernel
theorem dX4_endOf_84 : decode cX4_endOf 84 = .ok (.iload_n 1, 1) := by decide +kernel
theorem dX4_endOf_85 : decode cX4_endOf 85 = .ok (.imul, 1) := by decide +kernel
theorem dX4_endOf_86 : decode cX4_endOf 86 = .ok (.iload_n 3, 1) := by decide +kernel
theorem dX4_endOf_87 : decode cX4_endOf 87 = .ok (.iadd, 1) := by decide +kernel
theorem dX4_endOf_88 : decode cX4_endOf 88 = .ok (.iaload, 1) := by decide +kernel
theorem dX4_endOf_89 : decode cX4_endOf 89 = .ok (.aload_n 0, 1) := by decide +kernel
theorem dX4_endOf_90 : decode cX4_endOf 90 = .ok (.getfield 13, 3) := by decide +kernel
theorem dX4_endOf_93 : decode cX4_endOf 93 = .ok (.iload 4, 2) := by decide +kernel
theorem dX4_endOf_95 : decode cX4_endOf 95 = .ok (.iaload, 1) := by decide +kernel
theorem dX4_endOf_96 : decode cX4_endOf 96 = .ok (.iadd, 1) := by decide +kernel
theorem dX4_endOf_97 : decode cX4_endOf 97 = .ok (.goto 5, 3) := by decide +kernel
theorem dX4_endOf_100 : decode cX4_endOf 100 = .ok (.ldc 115, 2) := by decide +kernel
theorem dX4_endOf_102 : decode cX4_endOf 102 = .ok (.istore 5, 2) := by decide +kernel
theorem dX4_endOf_104 : decode cX4_endOf 104 = .ok (.aload_n 0, 1) := by decide +kernel
theorem dX4_endOf_105 : decode cX4_endOf 105 = .ok (.getfield 16, 3) := by decide +kernel
theorem dX4_endOf_108 : decode cX4_endOf 108 = .ok (.iload 4, 2) := by decide +kernel
theorem dX4_endOf_110 : decode cX4_endOf 110 = .ok (.iaload, 1) := by decide +kernel
theorem dX4_endOf_111 : decode cX4_endOf 111 = .ok (.ifCond .le 30, 3) := by decide +kernel
theorem dX4_endOf_114 : decode cX4_endOf 114 = .ok (.aload_n 0, 1) := by decide +kernel
theorem dX4_endOf_115 : decode cX4_endOf 115 = .ok (.getfield 53, 3) := by decide +kernel
theorem dX4_endOf_118 : decode cX4_endOf 118 = .ok (.iconst 3, 1) := by decide +kernel
theorem dX4_endOf_119 : decode cX4_endOf 119 = .ok (.iload_n 1, 1) := by decide +kernel
theorem dX4_endOf_120 : decode cX4_endOf 120 = .ok (.imul, 1) := by decide +kernel
theorem dX4_endOf_121 : decode cX4_endOf 121 = .ok (.iload_n 3, 1) := by decide +kernel
theorem dX4_endOf_122 : decode cX4_endOf 122 = .ok (.iadd, 1) := by decide +kernel
theorem dX4_endOf_123 : decode cX4_endOf 123 = .ok (.iaload, 1) := by decide +kernel
theorem dX4_endOf_124 : decode cX4_endOf 124 = .ok (.aload_n 0, 1) := by decide +kernel
theorem dX4_endOf_125 : decode cX4_endOf 125 = .ok (.getfield 16, 3) := by decide +kernel
theorem dX4_endOf_128 : decode cX4_endOf 128 = .ok (.iload 4, 2) := by decide +kernel
theorem dX4_endOf_130 : decode cX4_endOf 130 = .ok (.iaload, 1) := by decide +kernel
theorem dX4_endOf_131 : decode cX4_endOf 131 = .ok (.if_icmp .lt 10, 3) := by decide +kernel
theorem dX4_endOf_134 : decode cX4_endOf 134 = .ok (.aload_n 0, 1) := by decide +kernel
theorem dX4_endOf_135 : decode cX4_endOf 135 = .ok (.getfield 79, 3) := by decide +kernel
theorem dX4_endOf_138 : decode cX4_endOf 138 = .ok (.goto 5, 3) := by decide +kernel
theorem dX4_endOf_141 : decode cX4_endOf 141 = .ok (.iload 5, 2) := by decide +kernel
theorem dX4_endOf_143 : decode cX4_endOf 143 = .ok (.istore 5, 2) := by decide +kernel
theorem dX4_endOf_145 : decode cX4_endOf 145 = .ok (.iload 5, 2) := by decide +kernel
theorem dX4_endOf_147 : decode cX4_endOf 147 = .ok (.iload_n 2, 1) := by decide +kernel
theorem dX4_endOf_148 : decode cX4_endOf 148 = .ok (.if_icmp .ge 8, 3) := by decide +kernel
theorem dX4_endOf_151 : decode cX4_endOf 151 = .ok (.iload 5, 2) := by decide +kernel
theorem dX4_endOf_153 : decode cX4_endOf 153 = .ok (.goto 4, 3) := by decide +kernel
theorem dX4_endOf_156 : decode cX4_endOf 156 = .ok (.iload_n 2, 1) := by decide +kernel
theorem dX4_endOf_157 : decode cX4_endOf 157 = .ok (.istore_n 2, 1) := by decide +kernel
theorem dX4_endOf_158 : decode cX4_endOf 158 = .ok (.iinc 3 1, 3) := by decide +kernel
theorem dX4_endOf_161 : decode cX4_endOf 161 = .ok (.goto (-109), 3) := by decide +kernel
theorem dX4_endOf_164 : decode cX4_endOf 164 = .ok (.iload_n 2, 1) := by decide +kernel
theorem dX4_endOf_165 : decode cX4_endOf 165 = .ok (.aload_n 0, 1) := by decide +kernel
theorem dX4_endOf_166 : decode cX4_endOf 166 = .ok (.getfield 79, 3) := by decide +kernel
theorem dX4_endOf_169 : decode cX4_endOf 169 = .ok (.if_icmp .ge 10, 3) := by decide +kernel
theorem dX4_endOf_172 : decode cX4_endOf 172 = .ok (.aload_n 0, 1) := by decide +kernel
theorem dX4_endOf_173 : decode cX4_endOf 173 = .ok (.getfield 79, 3) := by decide +kernel
theorem dX4_endOf_176 : decode cX4_endOf 176 = .ok (.goto 4, 3) := by decide +kernel
theorem dX4_endOf_179 : decode cX4_endOf 179 = .ok (.iload_n 2, 1) := by decide +kernel
theorem dX4_endOf_180 : decode cX4_endOf 180 = .ok (.ireturn, 1) := by decide +kernel
theorem dX4_ends_0 : decode cX4_ends 0 = .ok (.aload_n 0, 1) := by decide +kernel
theorem dX4_ends_1 : decode cX4_ends 1 = .ok (.aload_n 0, 1) := by decide +kernel
theorem dX4_ends_2 : decode cX4_ends 2 = .ok (.iload_n 1, 1) := by decide +kernel
theorem dX4_ends_3 : decode cX4_ends 3 = .ok (.invokevirtual 106, 3) := by decide +kernel
theorem dX4_ends_6 : decode cX4_ends 6 = .ok (.ifCond .ne 7, 3) := by decide +kernel
theorem dX4_ends_9 : decode cX4_ends 9 = .ok (.iconst 1, 1) := by decide +kernel
theorem dX4_ends_10 : decode cX4_ends 10 = .ok (.goto 4, 3) := by decide +kernel
theorem dX4_ends_13 : decode cX4_ends 13 = .ok (.iconst 0, 1) := by decide +kernel
theorem dX4_ends_14 : decode cX4_ends 14 = .ok (.iconst 0, 1) := by decide +kernel
theorem dX4_ends_15 : decode cX4_ends 15 = .ok (.iconst 0, 1) := by decide +kernel
theorem dX4_ends_16 : decode cX4_ends 16 = .ok (.iconst 0, 1) := by decide +kernel
theorem dX4_ends_17 : decode cX4_ends 17 = .ok (.invokevirtual 83, 3) := by decide +kernel
theorem dX4_ends_20 : decode cX4_ends 20 = .ok (.ifCond .eq 5, 3) := by decide +kernel
theorem dX4_ends_23 : decode cX4_ends 23 = .ok (.iconst 0, 1) := by decide +kernel
theorem dX4_ends_24 : decode cX4_ends 24 = .ok (.ireturn, 1) := by decide +kernel
theorem dX4_ends_25 : decode cX4_ends 25 = .ok (.aload_n 0, 1) := by decide +kernel
theorem dX4_ends_26 : decode cX4_ends 26 = .ok (.iload_n 1, 1) := by decide +kernel
theorem dX4_ends_27 : decode cX4_ends 27 = .ok (.invokevirtual 116, 3) := by decide +kernel
theorem dX4_ends_30 : decode cX4_ends 30 = .ok (.istore_n 2, 1) := by decide +kernel
theorem dX4_ends_31 : decode cX4_ends 31 = .ok (.iload_n 2, 1) := by decide +kernel
theorem dX4_ends_32 : decode cX4_ends 32 = .ok (.ldc 115, 2) := by decide +kernel
theorem dX4_ends_34 : decode cX4_ends 34 = .ok (.if_icmp .ne 7, 3) := by decide +kernel
theorem dX4_ends_37 : decode cX4_ends 37 = .ok (.iconst (-1), 1) := by decide +kernel
theorem dX4_ends_38 : decode cX4_ends 38 = .ok (.goto 4, 3) := by decide +kernel
theorem dX4_ends_41 : decode cX4_ends 41 = .ok (.iload_n 2, 1) := by decide +kernel
theorem dX4_ends_42 : decode cX4_ends 42 = .ok (.ireturn, 1) := by decide +kernel
theorem dX4_soon_0 : decode cX4_soon 0 = .ok (.aload_n 0, 1) := by decide +kernel
theorem dX4_soon_1 : decode cX4_soon 1 = .ok (.iload_n 1, 1) := by decide +kernel
