theorem dX4_soon_2 : decode cX4_soon 2 = .ok (.iconst 0, 1) := by decide +kernel
theorem dX4_soon_3 : decode cX4_soon 3 = .ok (.bipush 19, 2) := by decide +kernel
theorem dX4_soon_5 : decode cX4_soon 5 = .ok (.invokestatic 75, 3) := by decide +kernel
theorem dX4_soon_8 : decode cX4_soon 8 = .ok (.ifCond .ne 7, 3) := by decide +kernel
theorem dX4_soon_11 : decode cX4_soon 11 = .ok (.iconst 1, 1) := by decide +kernel
theorem dX4_soon_12 : decode cX4_soon 12 = .ok (.goto 4, 3) := by decide +kernel
theorem dX4_soon_15 : decode cX4_soon 15 = .ok (.iconst 0, 1) := by decide +kernel
theorem dX4_soon_16 : decode cX4_soon 16 = .ok (.iload_n 2, 1) := by decide +kernel
theorem dX4_soon_17 : decode cX4_soon 17 = .ok (.iconst 0, 1) := by decide +kernel
theorem dX4_soon_18 : decode cX4_soon 18 = .ok (.sipush 30000, 3) := by decide +kernel
theorem dX4_soon_21 : decode cX4_soon 21 = .ok (.invokestatic 75, 3) := by decide +kernel
theorem dX4_soon_24 : decode cX4_soon 24 = .ok (.ifCond .eq 7, 3) := by decide +kernel
theorem dX4_soon_27 : decode cX4_soon 27 = .ok (.iload_n 3, 1) := by decide +kernel
theorem dX4_soon_28 : decode cX4_soon 28 = .ok (.ifCond .ge 7, 3) := by decide +kernel
theorem dX4_soon_31 : decode cX4_soon 31 = .ok (.iconst 1, 1) := by decide +kernel
theorem dX4_soon_32 : decode cX4_soon 32 = .ok (.goto 4, 3) := by decide +kernel
theorem dX4_soon_35 : decode cX4_soon 35 = .ok (.iconst 0, 1) := by decide +kernel
theorem dX4_soon_36 : decode cX4_soon 36 = .ok (.iconst 0, 1) := by decide +kernel
theorem dX4_soon_37 : decode cX4_soon 37 = .ok (.iconst 0, 1) := by decide +kernel
theorem dX4_soon_38 : decode cX4_soon 38 = .ok (.invokevirtual 83, 3) := by decide +kernel
theorem dX4_soon_41 : decode cX4_soon 41 = .ok (.ifCond .eq 5, 3) := by decide +kernel
theorem dX4_soon_44 : decode cX4_soon 44 = .ok (.iconst 0, 1) := by decide +kernel
theorem dX4_soon_45 : decode cX4_soon 45 = .ok (.ireturn, 1) := by decide +kernel
theorem dX4_soon_46 : decode cX4_soon 46 = .ok (.iconst 0, 1) := by decide +kernel
theorem dX4_soon_47 : decode cX4_soon 47 = .ok (.istore 4, 2) := by decide +kernel
theorem dX4_soon_49 : decode cX4_soon 49 = .ok (.iload 4, 2) := by decide +kernel
theorem dX4_soon_51 : decode cX4_soon 51 = .ok (.aload_n 0, 1) := by decide +kernel
theorem dX4_soon_52 : decode cX4_soon 52 = .ok (.getfield 72, 3) := by decide +kernel
theorem dX4_soon_55 : decode cX4_soon 55 = .ok (.if_icmp .ge 123, 3) := by decide +kernel
theorem dX4_soon_58 : decode cX4_soon 58 = .ok (.iconst 0, 1) := by decide +kernel
theorem dX4_soon_59 : decode cX4_soon 59 = .ok (.istore 5, 2) := by decide +kernel
theorem dX4_soon_61 : decode cX4_soon 61 = .ok (.iconst 0, 1) := by decide +kernel
theorem dX4_soon_62 : decode cX4_soon 62 = .ok (.istore 6, 2) := by decide +kernel
theorem dX4_soon_64 : decode cX4_soon 64 = .ok (.iload 6, 2) := by decide +kernel
theorem dX4_soon_66 : decode cX4_soon 66 = .ok (.aload_n 0, 1) := by decide +kernel
theorem dX4_soon_67 : decode cX4_soon 67 = .ok (.getfield 72, 3) := by decide +kernel
theorem dX4_soon_70 : decode cX4_soon 70 = .ok (.if_icmp .ge 67, 3) := by decide +kernel
theorem dX4_soon_73 : decode cX4_soon 73 = .ok (.iload 5, 2) := by decide +kernel
theorem dX4_soon_75 : decode cX4_soon 75 = .ok (.aload_n 0, 1) := by decide +kernel
theorem dX4_soon_76 : decode cX4_soon 76 = .ok (.getfield 34, 3) := by decide +kernel
theorem dX4_soon_79 : decode cX4_soon 79 = .ok (.iload 6, 2) := by decide +kernel
theorem dX4_soon_81 : decode cX4_soon 81 = .ok (.iaload, 1) := by decide +kernel
theorem dX4_soon_82 : decode cX4_soon 82 = .ok (.iload_n 1, 1) := by decide +kernel
theorem dX4_soon_83 : decode cX4_soon 83 = .ok (.if_icmp .ne 44, 3) := by decide +kernel
theorem dX4_soon_86 : decode cX4_soon 86 = .ok (.aload_n 0, 1) := by decide +kernel
theorem dX4_soon_87 : decode cX4_soon 87 = .ok (.iload 6, 2) := by decide +kernel
theorem dX4_soon_89 : decode cX4_soon 89 = .ok (.invokevirtual 116, 3) := by decide +kernel
theorem dX4_soon_92 : decode cX4_soon 92 = .ok (.aload_n 0, 1) := by decide +kernel
theorem dX4_soon_93 : decode cX4_soon 93 = .ok (.iload 4, 2) := by decide +kernel
theorem dX4_soon_95 : decode cX4_soon 95 = .ok (.invokevirtual 116, 3) := by decide +kernel
theorem dX4_soon_98 : decode cX4_soon 98 = .ok (.if_icmp .lt 25, 3) := by decide +kernel
theorem dX4_soon_101 : decode cX4_soon 101 = .ok (.aload_n 0, 1) := by decide +kernel
theorem dX4_soon_102 : decode cX4_soon 102 = .ok (.iload 6, 2) := by decide +kernel
theorem dX4_soon_104 : decode cX4_soon 104 = .ok (.invokevirtual 116, 3) := by decide +kernel
theorem dX4_soon_107 : decode cX4_soon 107 = .ok (.aload_n 0, 1) := by decide +kernel
theorem dX4_soon_108 : decode cX4_soon 108 = .ok (.iload 4, 2) := by decide +kernel
theorem dX4_soon_110 : decode cX4_soon 110 = .ok (.invokevirtual 116, 3) := by decide +kernel
theorem dX4_soon_113 : decode cX4_soon 113 = .ok (.if_icmp .ne 14, 3) := by decide +kernel
theorem dX4_soon_116 : decode cX4_soon 116 = .ok (.iload 6, 2) := by decide +kernel
theorem dX4_soon_118 : decode cX4_soon 118 = .ok (.iload 4, 2) := by decide +kernel
theorem dX4_soon_120 : decode cX4_soon 120 = .ok (.if_icmp .ge 7, 3) := by decide +kernel
theorem dX4_soon_123 : decode cX4_soon 123 = .ok (.iconst 1, 1) := by decide +kernel
theorem dX4_soon_124 : decode cX4_soon 124 = .ok (.goto 4, 3) := by decide +kernel
theorem dX4_soon_127 : decode cX4_soon 127 = .ok (.iconst 0, 1) := by decide +kernel
theorem dX4_soon_128 : decode cX4_soon 128 = .ok (.iadd, 1) := by decide +kernel
theorem dX4_soon_129 : decode cX4_soon 129 = .ok (.istore 5, 2) := by decide +kernel
theorem dX4_soon_131 : decode cX4_soon 131 = .ok (.iinc 6 1, 3) := by decide +kernel
theorem dX4_soon_134 : decode cX4_soon 134 = .ok (.goto (-70), 3) := by decide +kernel
theorem dX4_soon_137 : decode cX4_soon 137 = .ok (.aload_n 0, 1) := by decide +kernel
theorem dX4_soon_138 : decode cX4_soon 138 = .ok (.getfield 34, 3) := by decide +kernel
theorem dX4_soon_141 : decode cX4_soon 141 = .ok (.iload 4, 2) := by decide +kernel
theorem dX4_soon_143 : decode cX4_soon 143 = .ok (.iaload, 1) := by decide +kernel
theorem dX4_soon_144 : decode cX4_soon 144 = .ok (.iload_n 1, 1) := by decide +kernel
theorem dX4_soon_145 : decode cX4_soon 145 = .ok (.if_icmp .ne 27, 3) := by decide +kernel
theorem dX4_soon_148 : decode cX4_soon 148 = .ok (.aload_n 0, 1) := by decide +kernel
theorem dX4_soon_149 : decode cX4_soon 149 = .ok (.iload 4, 2) := by decide +kernel
theorem dX4_soon_151 : decode cX4_soon 151 = .ok (.invokevirtual 116, 3) := by decide +kernel
theorem dX4_soon_154 : decode cX4_soon 154 = .ok (.aload_n 0, 1) := by decide +kernel
theorem dX4_soon_155 : decode cX4_soon 155 = .ok (.getfield 79, 3) := by decide +kernel
theorem dX4_soon_158 : decode cX4_soon 158 = .ok (.isub, 1) := by decide +kernel
theorem dX4_soon_159 : decode cX4_soon 159 = .ok (.iload_n 2, 1) := by decide +kernel
theorem dX4_soon_160 : decode cX4_soon 160 = .ok (.if_icmp .gt 12, 3) := by decide +kernel
theorem dX4_soon_163 : decode cX4_soon 163 = .ok (.iload 5, 2) := by decide +kernel
theorem dX4_soon_165 : decode cX4_soon 165 = .ok (.iload_n 3, 1) := by decide +kernel
theorem dX4_soon_166 : decode cX4_soon 166 = .ok (.if_icmp .ne 6, 3) := by decide +kernel
theorem dX4_soon_169 : decode cX4_soon 169 = .ok (.iload 4, 2) := by decide +kernel
theorem dX4_soon_171 : decode cX4_soon 171 = .ok (.ireturn, 1) := by decide +kernel
theorem dX4_soon_172 : decode cX4_soon 172 = .ok (.iinc 4 1, 3) := by decide +kernel
theorem dX4_soon_175 : decode cX4_soon 175 = .ok (.goto (-126), 3) := by decide +kernel
theorem dX4_soon_178 : decode cX4_soon 178 = .ok (.iconst (-1), 1) := by decide +kernel
theorem dX4_soon_179 : decode cX4_soon 179 = .ok (.ireturn, 1) := by decide +kernel
theorem dX4_thingAt_0 : decode cX4_thingAt 0 = .ok (.aload_n 0, 1) := by decide +kernel
theorem dX4_thingAt_1 : decode cX4_thingAt 1 = .ok (.aload_n 0, 1) := by decide +kernel
theorem dX4_thingAt_2 : decode cX4_thingAt 2 = .ok (.iload_n 1, 1) := by decide +kernel
theorem dX4_thingAt_3 : decode cX4_thingAt 3 = .ok (.invokevirtual 106, 3) := by decide +kernel
theorem dX4_thingAt_6 : decode cX4_thingAt 6 = .ok (.ifCond .eq 13, 3) := by decide +kernel
theorem dX4_thingAt_9 : decode cX4_thingAt 9 = .ok (.iload_n 2, 1) := by decide +kernel
theorem dX4_thingAt_10 : decode cX4_thingAt 10 = .ok (.iconst 0, 1) := by decide +kernel
theorem dX4_thingAt_11 : decode cX4_thingAt 11 = .ok (.bipush 10, 2) := by decide +kernel
theorem dX4_thingAt_13 : decode cX4_thingAt 13 = .ok (.invokestatic 75, 3) := by decide +kernel
theorem dX4_thingAt_16 : decode cX4_thingAt 16 = .ok (.ifCond .ne 7, 3) := by decide +kernel
theorem dX4_thingAt_19 : decode cX4_thingAt 19 = .ok (.iconst 1, 1) := by decide +kernel
theorem dX4_thingAt_20 : decode cX4_thingAt 20 = .ok (.goto 4, 3) := by decide +kernel
theorem dX4_thingAt_23 : decode cX4_thingAt 23 = .ok (.iconst 0, 1) := by decide +kernel
theorem dX4_thingAt_24 : decode cX4_thingAt 24 = .ok (.iconst 0, 1) := by decide +kernel
theorem dX4_thingAt_25 : decode cX4_thingAt 25 = .ok (.iconst 0, 1) := by decide +kernel
theorem dX4_thingAt_26 : decode cX4_thingAt 26 = .ok (.iconst 0, 1) := by decide +kernel
theorem dX4_thingAt_27 : decode cX4_thingAt 27 = .ok (.invokevirtual 83, 3) := by decide +kernel
theorem dX4_thingAt_30 : decode cX4_thingAt 30 = .ok (.ifCond .eq 5, 3) := by decide +kernel
theorem dX4_thingAt_33 : decode cX4_thingAt 33 = .ok (.iconst 0, 1) := by decide +kernel
theorem dX4_thingAt_34 : decode cX4_thingAt 34 = .ok (.ireturn, 1) := by decide +kernel
theorem dX4_thingAt_35 : decode cX4_thingAt 35 = .ok (.iload_n 2, 1) := by decide +kernel
theorem dX4_thingAt_36 : decode cX4_thingAt 36 = .ok (.iconst 4, 1) := by decide +kernel
theorem dX4_thingAt_37 : decode cX4_thingAt 37 = .ok (.bipush 6, 2) := by decide +kernel
theorem dX4_thingAt_39 : decode cX4_thingAt 39 = .ok (.invokestatic 75, 3) := by decide +kernel
theorem dX4_thingAt_42 : decode cX4_thingAt 42 = .ok (.ifCond .eq 16, 3) := by decide +kernel
theorem dX4_thingAt_45 : decode cX4_thingAt 45 = .ok (.aload_n 0, 1) := by decide +kernel
theorem dX4_thingAt_46 : decode cX4_thingAt 46 = .ok (.getfield 53, 3) := by decide +kernel
theorem dX4_thingAt_49 : decode cX4_thingAt 49 = .ok (.iconst 3, 1) := by decide +kernel
theorem dX4_thingAt_50 : decode cX4_thingAt 50 = .ok (.iload_n 1, 1) := by decide +kernel
theorem dX4_thingAt_51 : decode cX4_thingAt 51 = .ok (.imul, 1) := by decide +kernel
theorem dX4_thingAt_52 : decode cX4_thingAt 52 = .ok (.iload_n 2, 1) := by decide +kernel
theorem dX4_thingAt_53 : decode cX4_thingAt 53 = .ok (.iadd, 1) := by decide +kernel
theorem dX4_thingAt_54 : decode cX4_thingAt 54 = .ok (.iconst 4, 1) := by decide +kernel
theorem dX4_thingAt_55 : decode cX4_thingAt 55 = .ok (.isub, 1) := by decide +kernel
theorem dX4_thingAt_56 : decode cX4_thingAt 56 = .ok (.iaload, 1) := by decide +kernel
theorem dX4_thingAt_57 : decode cX4_thingAt 57 = .ok (.ireturn, 1) := by decide +kernel
theorem dX4_thingAt_58 : decode cX4_thingAt 58 = .ok (.iload_n 2, 1) := by decide +kernel
theorem dX4_thingAt_59 : decode cX4_thingAt 59 = .ok (.bipush 7, 2) := by decide +kernel
theorem dX4_thingAt_61 : decode cX4_thingAt 61 = .ok (.bipush 9, 2) := by decide +kernel
theorem dX4_thingAt_63 : decode cX4_thingAt 63 = .ok (.invokestatic 75, 3) := by decide +kernel
theorem dX4_thingAt_66 : decode cX4_thingAt 66 = .ok (.ifCond .eq 17, 3) := by decide +kernel
theorem dX4_thingAt_69 : decode cX4_thingAt 69 = .ok (.aload_n 0, 1) := by decide +kernel
theorem dX4_thingAt_70 : decode cX4_thingAt 70 = .ok (.getfield 50, 3) := by decide +kernel
theorem dX4_thingAt_73 : decode cX4_thingAt 73 = .ok (.iconst 3, 1) := by decide +kernel
theorem dX4_thingAt_74 : decode cX4_thingAt 74 = .ok (.iload_n 1, 1) := by decide +kernel
theorem dX4_thingAt_75 : decode cX4_thingAt 75 = .ok (.imul, 1) := by decide +kernel
theorem dX4_thingAt_76 : decode cX4_thingAt 76 = .ok (.iload_n 2, 1) := by decide +kernel
theorem dX4_thingAt_77 : decode cX4_thingAt 77 = .ok (.iadd, 1) := by decide +kernel
theorem dX4_thingAt_78 : decode cX4_thingAt 78 = .ok (.bipush 7, 2) := by decide +kernel
theorem dX4_thingAt_80 : decode cX4_thingAt 80 = .ok (.isub, 1) := by decide +kernel
theorem dX4_thingAt_81 : decode cX4_thingAt 81 = .ok (.iaload, 1) := by decide +kernel
theorem dX4_thingAt_82 : decode cX4_thingAt 82 = .ok (.ireturn, 1) := by decide +kernel
theorem dX4_thingAt_83 : decode cX4_thingAt 83 = .ok (.iload_n 2, 1) := by decide +kernel
theorem dX4_thingAt_84 : decode cX4_thingAt 84 = .ok (.ifCond .ne 11, 3) := by decide +kernel
theorem dX4_thingAt_87 : decode cX4_thingAt 87 = .ok (.aload_n 0, 1) := by decide +kernel
theorem dX4_thingAt_88 : decode cX4_thingAt 88 = .ok (.iload_n 1, 1) := by decide +kernel
theorem dX4_thingAt_89 : decode cX4_thingAt 89 = .ok (.invokevirtual 103, 3) := by decide +kernel
theorem dX4_thingAt_92 : decode cX4_thingAt 92 = .ok (.goto 59, 3) := by decide +kernel
theorem dX4_thingAt_95 : decode cX4_thingAt 95 = .ok (.iload_n 2, 1) := by decide +kernel
theorem dX4_thingAt_96 : decode cX4_thingAt 96 = .ok (.iconst 1, 1) := by decide +kernel
theorem dX4_thingAt_97 : decode cX4_thingAt 97 = .ok (.if_icmp .ne 12, 3) := by decide +kernel
theorem dX4_thingAt_100 : decode cX4_thingAt 100 = .ok (.aload_n 0, 1) := by decide +kernel
theorem dX4_thingAt_101 : decode cX4_thingAt 101 = .ok (.getfield 34, 3) := by decide +kernel
theorem dX4_thingAt_104 : decode cX4_thingAt 104 = .ok (.iload_n 1, 1) := by decide +kernel
theorem dX4_thingAt_105 : decode cX4_thingAt 105 = .ok (.iaload, 1) := by decide +kernel
theorem dX4_thingAt_106 : decode cX4_thingAt 106 = .ok (.goto 45, 3) := by decide +kernel
theorem dX4_thingAt_109 : decode cX4_thingAt 109 = .ok (.iload_n 2, 1) := by decide +kernel
theorem dX4_thingAt_110 : decode cX4_thingAt 110 = .ok (.iconst 2, 1) := by decide +kernel
theorem dX4_thingAt_111 : decode cX4_thingAt 111 = .ok (.if_icmp .ne 12, 3) := by decide +kernel
theorem dX4_thingAt_114 : decode cX4_thingAt 114 = .ok (.aload_n 0, 1) := by decide +kernel
theorem dX4_thingAt_115 : decode cX4_thingAt 115 = .ok (.getfield 43, 3) := by decide +kernel
theorem dX4_thingAt_118 : decode cX4_thingAt 118 = .ok (.iload_n 1, 1) := by decide +kernel
theorem dX4_thingAt_119 : decode cX4_thingAt 119 = .ok (.iaload, 1) := by decide +kernel
theorem dX4_thingAt_120 : decode cX4_thingAt 120 = .ok (.goto 31, 3) := by decide +kernel
theorem dX4_thingAt_123 : decode cX4_thingAt 123 = .ok (.iload_n 2, 1) := by decide +kernel
theorem dX4_thingAt_124 : decode cX4_thingAt 124 = .ok (.iconst 3, 1) := by decide +kernel
theorem dX4_thingAt_125 : decode cX4_thingAt 125 = .ok (.if_icmp .ne 20, 3) := by decide +kernel
theorem dX4_thingAt_128 : decode cX4_thingAt 128 = .ok (.aload_n 0, 1) := by decide +kernel
theorem dX4_thingAt_129 : decode cX4_thingAt 129 = .ok (.getfield 46, 3) := by decide +kernel
theorem dX4_thingAt_132 : decode cX4_thingAt 132 = .ok (.iload_n 1, 1) := by decide +kernel
theorem dX4_thingAt_133 : decode cX4_thingAt 133 = .ok (.baload, 1) := by decide +kernel
theorem dX4_thingAt_134 : decode cX4_thingAt 134 = .ok (.ifCond .eq 7, 3) := by decide +kernel
theorem dX4_thingAt_137 : decode cX4_thingAt 137 = .ok (.iconst 1, 1) := by decide +kernel
theorem dX4_thingAt_138 : decode cX4_thingAt 138 = .ok (.goto 13, 3) := by decide +kernel
theorem dX4_thingAt_141 : decode cX4_thingAt 141 = .ok (.iconst 0, 1) := by decide +kernel
theorem dX4_thingAt_142 : decode cX4_thingAt 142 = .ok (.goto 9, 3) := by decide +kernel
theorem dX4_thingAt_145 : decode cX4_thingAt 145 = .ok (.aload_n 0, 1) := by decide +kernel
theorem dX4_thingAt_146 : decode cX4_thingAt 146 = .ok (.getfield 40, 3) := by decide +kernel
theorem dX4_thingAt_149 : decode cX4_thingAt 149 = .ok (.iload_n 1, 1) := by decide +kernel
theorem dX4_thingAt_150 : decode cX4_thingAt 150 = .ok (.iaload, 1) := by decide +kernel
theorem dX4_thingAt_151 : decode cX4_thingAt 151 = .ok (.ireturn, 1) := by decide +kernel
theorem dX4_life_0 : decode cX4_life 0 = .ok (.iload_n 1, 1) := by decide +kernel
theorem dX4_life_1 : decode cX4_life 1 = .ok (.iconst 0, 1) := by decide +kernel
theorem dX4_life_2 : decode cX4_life 2 = .ok (.iconst 4, 1) := by decide +kernel
theorem dX4_life_3 : decode cX4_life 3 = .ok (.invokestatic 75, 3) := by decide +kernel
theorem dX4_life_6 : decode cX4_life 6 = .ok (.ifCond .eq 12, 3) := by decide +kernel
theorem dX4_life_9 : decode cX4_life 9 = .ok (.iload_n 2, 1) := by decide +kernel
theorem dX4_life_10 : decode cX4_life 10 = .ok (.iconst 0, 1) := by decide +kernel
theorem dX4_life_11 : decode cX4_life 11 = .ok (.iconst 1, 1) := by decide +kernel
theorem dX4_life_12 : decode cX4_life 12 = .ok (.invokestatic 75, 3) := by decide +kernel
theorem dX4_life_15 : decode cX4_life 15 = .ok (.ifCond .ne 7, 3) := by decide +kernel
theorem dX4_life_18 : decode cX4_life 18 = .ok (.iconst 1, 1) := by decide +kernel
theorem dX4_life_19 : decode cX4_life 19 = .ok (.goto 4, 3) := by decide +kernel
theorem dX4_life_22 : decode cX4_life 22 = .ok (.iconst 0, 1) := by decide +kernel
theorem dX4_life_23 : decode cX4_life 23 = .ok (.istore_n 3, 1) := by decide +kernel
theorem dX4_life_24 : decode cX4_life 24 = .ok (.iconst 0, 1) := by decide +kernel
theorem dX4_life_25 : decode cX4_life 25 = .ok (.istore 4, 2) := by decide +kernel
theorem dX4_life_27 : decode cX4_life 27 = .ok (.iconst 0, 1) := by decide +kernel
theorem dX4_life_28 : decode cX4_life 28 = .ok (.istore 5, 2) := by decide +kernel
theorem dX4_life_30 : decode cX4_life 30 = .ok (.iconst 0, 1) := by decide +kernel
theorem dX4_life_31 : decode cX4_life 31 = .ok (.istore 6, 2) := by decide +kernel
theorem dX4_life_33 : decode cX4_life 33 = .ok (.iload 6, 2) := by decide +kernel
theorem dX4_life_35 : decode cX4_life 35 = .ok (.aload_n 0, 1) := by decide +kernel
theorem dX4_life_36 : decode cX4_life 36 = .ok (.getfield 72, 3) := by decide +kernel
theorem dX4_life_39 : decode cX4_life 39 = .ok (.if_icmp .ge 53, 3) := by decide +kernel
theorem dX4_life_42 : decode cX4_life 42 = .ok (.aload_n 0, 1) := by decide +kernel
theorem dX4_life_43 : decode cX4_life 43 = .ok (.getfield 25, 3) := by decide +kernel
theorem dX4_life_46 : decode cX4_life 46 = .ok (.iload 6, 2) := by decide +kernel
theorem dX4_life_48 : decode cX4_life 48 = .ok (.iaload, 1) := by decide +kernel
theorem dX4_life_49 : decode cX4_life 49 = .ok (.iload_n 1, 1) := by decide +kernel
theorem dX4_life_50 : decode cX4_life 50 = .ok (.if_icmp .ne 36, 3) := by decide +kernel
theorem dX4_life_53 : decode cX4_life 53 = .ok (.aload_n 0, 1) := by decide +kernel
theorem dX4_life_54 : decode cX4_life 54 = .ok (.getfield 40, 3) := by decide +kernel
theorem dX4_life_57 : decode cX4_life 57 = .ok (.iload 6, 2) := by decide +kernel
theorem dX4_life_59 : decode cX4_life 59 = .ok (.iaload, 1) := by decide +kernel
theorem dX4_life_60 : decode cX4_life 60 = .ok (.ifCond .lt 26, 3) := by decide +kernel
theorem dX4_life_63 : decode cX4_life 63 = .ok (.iload 4, 2) := by decide +kernel
theorem dX4_life_65 : decode cX4_life 65 = .ok (.aload_n 0, 1) := by decide +kernel
theorem dX4_life_66 : decode cX4_life 66 = .ok (.getfield 40, 3) := by decide +kernel
theorem dX4_life_69 : decode cX4_life 69 = .ok (.iload 6, 2) := by decide +kernel
theorem dX4_life_71 : decode cX4_life 71 = .ok (.iaload, 1) := by decide +kernel
theorem dX4_life_72 : decode cX4_life 72 = .ok (.aload_n 0, 1) := by decide +kernel
theorem dX4_life_73 : decode cX4_life 73 = .ok (.getfield 37, 3) := by decide +kernel
theorem dX4_life_76 : decode cX4_life 76 = .ok (.iload 6, 2) := by decide +kernel
theorem dX4_life_78 : decode cX4_life 78 = .ok (.iaload, 1) := by decide +kernel
theorem dX4_life_79 : decode cX4_life 79 = .ok (.isub, 1) := by decide +kernel
theorem dX4_life_80 : decode cX4_life 80 = .ok (.iadd, 1) := by decide +kernel
theorem dX4_life_81 : decode cX4_life 81 = .ok (.istore 4, 2) := by decide +kernel
theorem dX4_life_83 : decode cX4_life 83 = .ok (.iinc 5 1, 3) := by decide +kernel
theorem dX4_life_86 : decode cX4_life 86 = .ok (.iinc 6 1, 3) := by decide +kernel
theorem dX4_life_89 : decode cX4_life 89 = .ok (.goto (-56), 3) := by decide +kernel
theorem dX4_life_92 : decode cX4_life 92 = .ok (.aload_n 0, 1) := by decide +kernel
theorem dX4_life_93 : decode cX4_life 93 = .ok (.iload_n 3, 1) := by decide +kernel
theorem dX4_life_94 : decode cX4_life 94 = .ok (.iload 5, 2) := by decide +kernel
theorem dX4_life_96 : decode cX4_life 96 = .ok (.ifCond .ne 7, 3) := by decide +kernel
theorem dX4_life_99 : decode cX4_life 99 = .ok (.iconst 1, 1) := by decide +kernel
theorem dX4_life_100 : decode cX4_life 100 = .ok (.goto 4, 3) := by decide +kernel
theorem dX4_life_103 : decode cX4_life 103 = .ok (.iconst 0, 1) := by decide +kernel
theorem dX4_life_104 : decode cX4_life 104 = .ok (.iconst 0, 1) := by decide +kernel
theorem dX4_life_105 : decode cX4_life 105 = .ok (.iconst 0, 1) := by decide +kernel
theorem dX4_life_106 : decode cX4_life 106 = .ok (.invokevirtual 83, 3) := by decide +kernel
theorem dX4_life_109 : decode cX4_life 109 = .ok (.ifCond .eq 5, 3) := by decide +kernel
theorem dX4_life_112 : decode cX4_life 112 = .ok (.iconst 0, 1) := by decide +kernel
theorem dX4_life_113 : decode cX4_life 113 = .ok (.ireturn, 1) := by decide +kernel
theorem dX4_life_114 : decode cX4_life 114 = .ok (.iload 4, 2) := by decide +kernel
theorem dX4_life_116 : decode cX4_life 116 = .ok (.istore 6, 2) := by decide +kernel
theorem dX4_life_118 : decode cX4_life 118 = .ok (.iload 5, 2) := by decide +kernel
theorem dX4_life_120 : decode cX4_life 120 = .ok (.istore 7, 2) := by decide +kernel
theorem dX4_life_122 : decode cX4_life 122 = .ok (.iload 7, 2) := by decide +kernel
theorem dX4_life_124 : decode cX4_life 124 = .ok (.ifCond .le 21, 3) := by decide +kernel
theorem dX4_life_127 : decode cX4_life 127 = .ok (.iload 6, 2) := by decide +kernel
theorem dX4_life_129 : decode cX4_life 129 = .ok (.iload 7, 2) := by decide +kernel
theorem dX4_life_131 : decode cX4_life 131 = .ok (.irem, 1) := by decide +kernel
theorem dX4_life_132 : decode cX4_life 132 = .ok (.istore 8, 2) := by decide +kernel
theorem dX4_life_134 : decode cX4_life 134 = .ok (.iload 7, 2) := by decide +kernel
theorem dX4_life_136 : decode cX4_life 136 = .ok (.istore 6, 2) := by decide +kernel
theorem dX4_life_138 : decode cX4_life 138 = .ok (.iload 8, 2) := by decide +kernel
theorem dX4_life_140 : decode cX4_life 140 = .ok (.istore 7, 2) := by decide +kernel
theorem dX4_life_142 : decode cX4_life 142 = .ok (.goto (-20), 3) := by decide +kernel
theorem dX4_life_145 : decode cX4_life 145 = .ok (.iload_n 2, 1) := by decide +kernel
theorem dX4_life_146 : decode cX4_life 146 = .ok (.ifCond .ne 11, 3) := by decide +kernel
theorem dX4_life_149 : decode cX4_life 149 = .ok (.iload 4, 2) := by decide +kernel
theorem dX4_life_151 : decode cX4_life 151 = .ok (.iload 6, 2) := by decide +kernel
theorem dX4_life_153 : decode cX4_life 153 = .ok (.idiv, 1) := by decide +kernel
theorem dX4_life_154 : decode cX4_life 154 = .ok (.goto 8, 3) := by decide +kernel
theorem dX4_life_157 : decode cX4_life 157 = .ok (.iload 5, 2) := by decide +kernel
theorem dX4_life_159 : decode cX4_life 159 = .ok (.iload 6, 2) := by decide +kernel
theorem dX4_life_161 : decode cX4_life 161 = .ok (.idiv, 1) := by decide +kernel
theorem dX4_life_162 : decode cX4_life 162 = .ok (.ireturn, 1) := by decide +kernel
theorem dX4_weekIn_0 : decode cX4_weekIn 0 = .ok (.iload_n 0, 1) := by decide +kernel
theorem dX4_weekIn_1 : decode cX4_weekIn 1 = .ok (.istore 4, 2) := by decide +kernel
theorem dX4_weekIn_3 : decode cX4_weekIn 3 = .ok (.iload_n 2, 1) := by decide +kernel
theorem dX4_weekIn_4 : decode cX4_weekIn 4 = .ok (.iconst 1, 1) := by decide +kernel
theorem dX4_weekIn_5 : decode cX4_weekIn 5 = .ok (.isub, 1) := by decide +kernel
theorem dX4_weekIn_6 : decode cX4_weekIn 6 = .ok (.istore 5, 2) := by decide +kernel
theorem dX4_weekIn_8 : decode cX4_weekIn 8 = .ok (.iload 5, 2) := by decide +kernel
theorem dX4_weekIn_10 : decode cX4_weekIn 10 = .ok (.iload_n 1, 1) := by decide +kernel
theorem dX4_weekIn_11 : decode cX4_weekIn 11 = .ok (.if_icmp .le 15, 3) := by decide +kernel
theorem dX4_weekIn_14 : decode cX4_weekIn 14 = .ok (.iload 4, 2) := by decide +kernel
theorem dX4_weekIn_16 : decode cX4_weekIn 16 = .ok (.iload_n 3, 1) := by decide +kernel
theorem dX4_weekIn_17 : decode cX4_weekIn 17 = .ok (.idiv, 1) := by decide +kernel
theorem dX4_weekIn_18 : decode cX4_weekIn 18 = .ok (.istore 4, 2) := by decide +kernel
theorem dX4_weekIn_20 : decode cX4_weekIn 20 = .ok (.iinc 5 (-1), 3) := by decide +kernel
theorem dX4_weekIn_23 : decode cX4_weekIn 23 = .ok (.goto (-15), 3) := by decide +kernel
theorem dX4_weekIn_26 : decode cX4_weekIn 26 = .ok (.iload 4, 2) := by decide +kernel
theorem dX4_weekIn_28 : decode cX4_weekIn 28 = .ok (.iload_n 3, 1) := by decide +kernel
theorem dX4_weekIn_29 : decode cX4_weekIn 29 = .ok (.irem, 1) := by decide +kernel
theorem dX4_weekIn_30 : decode cX4_weekIn 30 = .ok (.ireturn, 1) := by decide +kernel
theorem dX4_greatest_0 : decode cX4_greatest 0 = .ok (.iconst 0, 1) := by decide +kernel
theorem dX4_greatest_1 : decode cX4_greatest 1 = .ok (.istore 7, 2) := by decide +kernel
theorem dX4_greatest_3 : decode cX4_greatest 3 = .ok (.iload 7, 2) := by decide +kernel
theorem dX4_greatest_5 : decode cX4_greatest 5 = .ok (.iconst 4, 1) := by decide +kernel
theorem dX4_greatest_6 : decode cX4_greatest 6 = .ok (.if_icmp .ge 17, 3) := by decide +kernel
theorem dX4_greatest_9 : decode cX4_greatest 9 = .ok (.aload_n 0, 1) := by decide +kernel
theorem dX4_greatest_10 : decode cX4_greatest 10 = .ok (.getfield 65, 3) := by decide +kernel
theorem dX4_greatest_13 : decode cX4_greatest 13 = .ok (.iload 7, 2) := by decide +kernel
theorem dX4_greatest_15 : decode cX4_greatest 15 = .ok (.iconst 0, 1) := by decide +kernel
theorem dX4_greatest_16 : decode cX4_greatest 16 = .ok (.iastore, 1) := by decide +kernel
theorem dX4_greatest_17 : decode cX4_greatest 17 = .ok (.iinc 7 1, 3) := by decide +kernel
theorem dX4_greatest_20 : decode cX4_greatest 20 = .ok (.goto (-17), 3) := by decide +kernel
theorem dX4_greatest_23 : decode cX4_greatest 23 = .ok (.iconst 0, 1) := by decide +kernel
theorem dX4_greatest_24 : decode cX4_greatest 24 = .ok (.istore 7, 2) := by decide +kernel
theorem dX4_greatest_26 : decode cX4_greatest 26 = .ok (.iload 7, 2) := by decide +kernel
theorem dX4_greatest_28 : decode cX4_greatest 28 = .ok (.iload 5, 2) := by decide +kernel
theorem dX4_greatest_30 : decode cX4_greatest 30 = .ok (.if_icmp .ge 59, 3) := by decide +kernel
theorem dX4_greatest_33 : decode cX4_greatest 33 = .ok (.iload_n 1, 1) := by decide +kernel
theorem dX4_greatest_34 : decode cX4_greatest 34 = .ok (.iload 7, 2) := by decide +kernel
theorem dX4_greatest_36 : decode cX4_greatest 36 = .ok (.iload 5, 2) := by decide +kernel
theorem dX4_greatest_38 : decode cX4_greatest 38 = .ok (.iload 6, 2) := by decide +kernel
theorem dX4_greatest_40 : decode cX4_greatest 40 = .ok (.invokestatic 119, 3) := by decide +kernel
theorem dX4_greatest_43 : decode cX4_greatest 43 = .ok (.istore 8, 2) := by decide +kernel
theorem dX4_greatest_45 : decode cX4_greatest 45 = .ok (.iload 8, 2) := by decide +kernel
theorem dX4_greatest_47 : decode cX4_greatest 47 = .ok (.iload 4, 2) := by decide +kernel
theorem dX4_greatest_49 : decode cX4_greatest 49 = .ok (.iconst 2, 1) := by decide +kernel
theorem dX4_greatest_50 : decode cX4_greatest 50 = .ok (.iload 7, 2) := by decide +kernel
theorem dX4_greatest_52 : decode cX4_greatest 52 = .ok (.imul, 1) := by decide +kernel
theorem dX4_greatest_53 : decode cX4_greatest 53 = .ok (.ishr, 1) := by decide +kernel
theorem dX4_greatest_54 : decode cX4_greatest 54 = .ok (.iconst 3, 1) := by decide +kernel
theorem dX4_greatest_55 : decode cX4_greatest 55 = .ok (.iand, 1) := by decide +kernel
theorem dX4_greatest_56 : decode cX4_greatest 56 = .ok (.if_icmp .le 5, 3) := by decide +kernel
theorem dX4_greatest_59 : decode cX4_greatest 59 = .ok (.iconst (-1), 1) := by decide +kernel
theorem dX4_greatest_60 : decode cX4_greatest 60 = .ok (.ireturn, 1) := by decide +kernel
theorem dX4_greatest_61 : decode cX4_greatest 61 = .ok (.aload_n 0, 1) := by decide +kernel
theorem dX4_greatest_62 : decode cX4_greatest 62 = .ok (.getfield 65, 3) := by decide +kernel
theorem dX4_greatest_65 : decode cX4_greatest 65 = .ok (.iload 8, 2) := by decide +kernel
theorem dX4_greatest_67 : decode cX4_greatest 67 = .ok (.dup2, 1) := by decide +kernel
theorem dX4_greatest_68 : decode cX4_greatest 68 = .ok (.iaload, 1) := by decide +kernel
theorem dX4_greatest_69 : decode cX4_greatest 69 = .ok (.lload_n 2, 1) := by decide +kernel
theorem dX4_greatest_70 : decode cX4_greatest 70 = .ok (.bipush 8, 2) := by decide +kernel
theorem dX4_greatest_72 : decode cX4_greatest 72 = .ok (.iload 7, 2) := by decide +kernel
theorem dX4_greatest_74 : decode cX4_greatest 74 = .ok (.imul, 1) := by decide +kernel
theorem dX4_greatest_75 : decode cX4_greatest 75 = .ok (.lshr, 1) := by decide +kernel
theorem dX4_greatest_76 : decode cX4_greatest 76 = .ok (.l2i, 1) := by decide +kernel
theorem dX4_greatest_77 : decode cX4_greatest 77 = .ok (.sipush 255, 3) := by decide +kernel
theorem dX4_greatest_80 : decode cX4_greatest 80 = .ok (.iand, 1) := by decide +kernel
theorem dX4_greatest_81 : decode cX4_greatest 81 = .ok (.iadd, 1) := by decide +kernel
theorem dX4_greatest_82 : decode cX4_greatest 82 = .ok (.iastore, 1) := by decide +kernel
theorem dX4_greatest_83 : decode cX4_greatest 83 = .ok (.iinc 7 1, 3) := by decide +kernel
theorem dX4_greatest_86 : decode cX4_greatest 86 = .ok (.goto (-60), 3) := by decide +kernel
theorem dX4_greatest_89 : decode cX4_greatest 89 = .ok (.iconst 0, 1) := by decide +kernel
theorem dX4_greatest_90 : decode cX4_greatest 90 = .ok (.istore 7, 2) := by decide +kernel
theorem dX4_greatest_92 : decode cX4_greatest 92 = .ok (.iconst 0, 1) := by decide +kernel
theorem dX4_greatest_93 : decode cX4_greatest 93 = .ok (.istore 8, 2) := by decide +kernel
theorem dX4_greatest_95 : decode cX4_greatest 95 = .ok (.iload 8, 2) := by decide +kernel
theorem dX4_greatest_97 : decode cX4_greatest 97 = .ok (.iload 6, 2) := by decide +kernel
theorem dX4_greatest_99 : decode cX4_greatest 99 = .ok (.if_icmp .ge 35, 3) := by decide +kernel
theorem dX4_greatest_102 : decode cX4_greatest 102 = .ok (.aload_n 0, 1) := by decide +kernel
theorem dX4_greatest_103 : decode cX4_greatest 103 = .ok (.getfield 65, 3) := by decide +kernel
theorem dX4_greatest_106 : decode cX4_greatest 106 = .ok (.iload 8, 2) := by decide +kernel
theorem dX4_greatest_108 : decode cX4_greatest 108 = .ok (.iaload, 1) := by decide +kernel
theorem dX4_greatest_109 : decode cX4_greatest 109 = .ok (.iload 7, 2) := by decide +kernel
theorem dX4_greatest_111 : decode cX4_greatest 111 = .ok (.if_icmp .le 13, 3) := by decide +kernel
theorem dX4_greatest_114 : decode cX4_greatest 114 = .ok (.aload_n 0, 1) := by decide +kernel
theorem dX4_greatest_115 : decode cX4_greatest 115 = .ok (.getfield 65, 3) := by decide +kernel
theorem dX4_greatest_118 : decode cX4_greatest 118 = .ok (.iload 8, 2) := by decide +kernel
theorem dX4_greatest_120 : decode cX4_greatest 120 = .ok (.iaload, 1) := by decide +kernel
theorem dX4_greatest_121 : decode cX4_greatest 121 = .ok (.goto 5, 3) := by decide +kernel
theorem dX4_greatest_124 : decode cX4_greatest 124 = .ok (.iload 7, 2) := by decide +kernel
theorem dX4_greatest_126 : decode cX4_greatest 126 = .ok (.istore 7, 2) := by decide +kernel
theorem dX4_greatest_128 : decode cX4_greatest 128 = .ok (.iinc 8 1, 3) := by decide +kernel
theorem dX4_greatest_131 : decode cX4_greatest 131 = .ok (.goto (-36), 3) := by decide +kernel
theorem dX4_greatest_134 : decode cX4_greatest 134 = .ok (.iload 7, 2) := by decide +kernel
theorem dX4_greatest_136 : decode cX4_greatest 136 = .ok (.ireturn, 1) := by decide +kernel
theorem dX4_plan_0 : decode cX4_plan 0 = .ok (.aload_n 0, 1) := by decide +kernel
theorem dX4_plan_1 : decode cX4_plan 1 = .ok (.iload 4, 2) := by decide +kernel
theorem dX4_plan_3 : decode cX4_plan 3 = .ok (.iconst 0, 1) := by decide +kernel
theorem dX4_plan_4 : decode cX4_plan 4 = .ok (.bipush 6, 2) := by decide +kernel
theorem dX4_plan_6 : decode cX4_plan 6 = .ok (.invokestatic 75, 3) := by decide +kernel
theorem dX4_plan_9 : decode cX4_plan 9 = .ok (.ifCond .eq 13, 3) := by decide +kernel
theorem dX4_plan_12 : decode cX4_plan 12 = .ok (.iload 5, 2) := by decide +kernel
theorem dX4_plan_14 : decode cX4_plan 14 = .ok (.iconst 1, 1) := by decide +kernel
theorem dX4_plan_15 : decode cX4_plan 15 = .ok (.iconst 4, 1) := by decide +kernel
theorem dX4_plan_16 : decode cX4_plan 16 = .ok (.invokestatic 75, 3) := by decide +kernel
theorem dX4_plan_19 : decode cX4_plan 19 = .ok (.ifCond .ne 7, 3) := by decide +kernel
theorem dX4_plan_22 : decode cX4_plan 22 = .ok (.iconst 1, 1) := by decide +kernel
theorem dX4_plan_23 : decode cX4_plan 23 = .ok (.goto 4, 3) := by decide +kernel
theorem dX4_plan_26 : decode cX4_plan 26 = .ok (.iconst 0, 1) := by decide +kernel
theorem dX4_plan_27 : decode cX4_plan 27 = .ok (.iconst 0, 1) := by decide +kernel
theorem dX4_plan_28 : decode cX4_plan 28 = .ok (.iconst 0, 1) := by decide +kernel
theorem dX4_plan_29 : decode cX4_plan 29 = .ok (.iconst 0, 1) := by decide +kernel
theorem dX4_plan_30 : decode cX4_plan 30 = .ok (.invokevirtual 83, 3) := by decide +kernel
theorem dX4_plan_33 : decode cX4_plan 33 = .ok (.ifCond .eq 5, 3) := by decide +kernel
theorem dX4_plan_36 : decode cX4_plan 36 = .ok (.iconst 0, 1) := by decide +kernel
theorem dX4_plan_37 : decode cX4_plan 37 = .ok (.ireturn, 1) := by decide +kernel
theorem dX4_plan_38 : decode cX4_plan 38 = .ok (.iconst 1, 1) := by decide +kernel
theorem dX4_plan_39 : decode cX4_plan 39 = .ok (.istore 6, 2) := by decide +kernel
theorem dX4_plan_41 : decode cX4_plan 41 = .ok (.iconst 0, 1) := by decide +kernel
theorem dX4_plan_42 : decode cX4_plan 42 = .ok (.istore 7, 2) := by decide +kernel
theorem dX4_plan_44 : decode cX4_plan 44 = .ok (.iload 7, 2) := by decide +kernel
theorem dX4_plan_46 : decode cX4_plan 46 = .ok (.iload 4, 2) := by decide +kernel
theorem dX4_plan_48 : decode cX4_plan 48 = .ok (.if_icmp .ge 16, 3) := by decide +kernel
theorem dX4_plan_51 : decode cX4_plan 51 = .ok (.iload 6, 2) := by decide +kernel
theorem dX4_plan_53 : decode cX4_plan 53 = .ok (.iload 5, 2) := by decide +kernel
theorem dX4_plan_55 : decode cX4_plan 55 = .ok (.imul, 1) := by decide +kernel
theorem dX4_plan_56 : decode cX4_plan 56 = .ok (.istore 6, 2) := by decide +kernel
theorem dX4_plan_58 : decode cX4_plan 58 = .ok (.iinc 7 1, 3) := by decide +kernel
theorem dX4_plan_61 : decode cX4_plan 61 = .ok (.goto (-17), 3) := by decide +kernel
theorem dX4_plan_64 : decode cX4_plan 64 = .ok (.iconst (-1), 1) := by decide +kernel
theorem dX4_plan_65 : decode cX4_plan 65 = .ok (.istore 7, 2) := by decide +kernel
theorem dX4_plan_67 : decode cX4_plan 67 = .ok (.ldc 115, 2) := by decide +kernel
theorem dX4_plan_69 : decode cX4_plan 69 = .ok (.istore 8, 2) := by decide +kernel
theorem dX4_plan_71 : decode cX4_plan 71 = .ok (.iconst 0, 1) := by decide +kernel
theorem dX4_plan_72 : decode cX4_plan 72 = .ok (.istore 9, 2) := by decide +kernel
theorem dX4_plan_74 : decode cX4_plan 74 = .ok (.iload 9, 2) := by decide +kernel
theorem dX4_plan_76 : decode cX4_plan 76 = .ok (.iload 6, 2) := by decide +kernel
theorem dX4_plan_78 : decode cX4_plan 78 = .ok (.if_icmp .ge 43, 3) := by decide +kernel
theorem dX4_plan_81 : decode cX4_plan 81 = .ok (.aload_n 0, 1) := by decide +kernel
theorem dX4_plan_82 : decode cX4_plan 82 = .ok (.iload 9, 2) := by decide +kernel
theorem dX4_plan_84 : decode cX4_plan 84 = .ok (.lload_n 1, 1) := by decide +kernel
theorem dX4_plan_85 : decode cX4_plan 85 = .ok (.iload_n 3, 1) := by decide +kernel
theorem dX4_plan_86 : decode cX4_plan 86 = .ok (.iload 4, 2) := by decide +kernel
theorem dX4_plan_88 : decode cX4_plan 88 = .ok (.iload 5, 2) := by decide +kernel
theorem dX4_plan_90 : decode cX4_plan 90 = .ok (.invokevirtual 123, 3) := by decide +kernel
theorem dX4_plan_93 : decode cX4_plan 93 = .ok (.istore 10, 2) := by decide +kernel
theorem dX4_plan_95 : decode cX4_plan 95 = .ok (.iload 10, 2) := by decide +kernel
theorem dX4_plan_97 : decode cX4_plan 97 = .ok (.ifCond .lt 18, 3) := by decide +kernel
theorem dX4_plan_100 : decode cX4_plan 100 = .ok (.iload 10, 2) := by decide +kernel
theorem dX4_plan_102 : decode cX4_plan 102 = .ok (.iload 8, 2) := by decide +kernel
theorem dX4_plan_104 : decode cX4_plan 104 = .ok (.if_icmp .ge 11, 3) := by decide +kernel
theorem dX4_plan_107 : decode cX4_plan 107 = .ok (.iload 9, 2) := by decide +kernel
theorem dX4_plan_109 : decode cX4_plan 109 = .ok (.istore 7, 2) := by decide +kernel
theorem dX4_plan_111 : decode cX4_plan 111 = .ok (.iload 10, 2) := by decide +kernel
theorem dX4_plan_113 : decode cX4_plan 113 = .ok (.istore 8, 2) := by decide +kernel
theorem dX4_plan_115 : decode cX4_plan 115 = .ok (.iinc 9 1, 3) := by decide +kernel
theorem dX4_plan_118 : decode cX4_plan 118 = .ok (.goto (-44), 3) := by decide +kernel
theorem dX4_plan_121 : decode cX4_plan 121 = .ok (.aload_n 0, 1) := by decide +kernel
theorem dX4_plan_122 : decode cX4_plan 122 = .ok (.iload 4, 2) := by decide +kernel
theorem dX4_plan_124 : decode cX4_plan 124 = .ok (.putfield 127, 3) := by decide +kernel
theorem dX4_plan_127 : decode cX4_plan 127 = .ok (.iconst 0, 1) := by decide +kernel
theorem dX4_plan_128 : decode cX4_plan 128 = .ok (.istore 9, 2) := by decide +kernel
theorem dX4_plan_130 : decode cX4_plan 130 = .ok (.iload 9, 2) := by decide +kernel
theorem dX4_plan_132 : decode cX4_plan 132 = .ok (.iload 4, 2) := by decide +kernel
theorem dX4_plan_134 : decode cX4_plan 134 = .ok (.if_icmp .ge 27, 3) := by decide +kernel
theorem dX4_plan_137 : decode cX4_plan 137 = .ok (.aload_n 0, 1) := by decide +kernel
theorem dX4_plan_138 : decode cX4_plan 138 = .ok (.getfield 62, 3) := by decide +kernel
theorem dX4_plan_141 : decode cX4_plan 141 = .ok (.iload 9, 2) := by decide +kernel
theorem dX4_plan_143 : decode cX4_plan 143 = .ok (.iload 7, 2) := by decide +kernel
theorem dX4_plan_145 : decode cX4_plan 145 = .ok (.iload 9, 2) := by decide +kernel
theorem dX4_plan_147 : decode cX4_plan 147 = .ok (.iload 4, 2) := by decide +kernel
theorem dX4_plan_149 : decode cX4_plan 149 = .ok (.iload 5, 2) := by decide +kernel
theorem dX4_plan_151 : decode cX4_plan 151 = .ok (.invokestatic 119, 3) := by decide +kernel
theorem dX4_plan_154 : decode cX4_plan 154 = .ok (.iastore, 1) := by decide +kernel
theorem dX4_plan_155 : decode cX4_plan 155 = .ok (.iinc 9 1, 3) := by decide +kernel
theorem dX4_plan_158 : decode cX4_plan 158 = .ok (.goto (-28), 3) := by decide +kernel
theorem dX4_plan_161 : decode cX4_plan 161 = .ok (.iload 8, 2) := by decide +kernel
theorem dX4_plan_163 : decode cX4_plan 163 = .ok (.ireturn, 1) := by decide +kernel
theorem dX4_week_0 : decode cX4_week 0 = .ok (.aload_n 0, 1) := by decide +kernel
theorem dX4_week_1 : decode cX4_week 1 = .ok (.iload_n 1, 1) := by decide +kernel
theorem dX4_week_2 : decode cX4_week 2 = .ok (.iconst 0, 1) := by decide +kernel
theorem dX4_week_3 : decode cX4_week 3 = .ok (.aload_n 0, 1) := by decide +kernel
theorem dX4_week_4 : decode cX4_week 4 = .ok (.getfield 127, 3) := by decide +kernel
theorem dX4_week_7 : decode cX4_week 7 = .ok (.iconst 1, 1) := by decide +kernel
theorem dX4_week_8 : decode cX4_week 8 = .ok (.isub, 1) := by decide +kernel
theorem dX4_week_9 : decode cX4_week 9 = .ok (.invokestatic 75, 3) := by decide +kernel
theorem dX4_week_12 : decode cX4_week 12 = .ok (.ifCond .ne 7, 3) := by decide +kernel
theorem dX4_week_15 : decode cX4_week 15 = .ok (.iconst 1, 1) := by decide +kernel
theorem dX4_week_16 : decode cX4_week 16 = .ok (.goto 4, 3) := by decide +kernel
theorem dX4_week_19 : decode cX4_week 19 = .ok (.iconst 0, 1) := by decide +kernel
theorem dX4_week_20 : decode cX4_week 20 = .ok (.iconst 0, 1) := by decide +kernel
theorem dX4_week_21 : decode cX4_week 21 = .ok (.iconst 0, 1) := by decide +kernel
theorem dX4_week_22 : decode cX4_week 22 = .ok (.iconst 0, 1) := by decide +kernel
theorem dX4_week_23 : decode cX4_week 23 = .ok (.invokevirtual 83, 3) := by decide +kernel
theorem dX4_week_26 : decode cX4_week 26 = .ok (.ifCond .eq 5, 3) := by decide +kernel
theorem dX4_week_29 : decode cX4_week 29 = .ok (.iconst 0, 1) := by decide +kernel
theorem dX4_week_30 : decode cX4_week 30 = .ok (.ireturn, 1) := by decide +kernel
theorem dX4_week_31 : decode cX4_week 31 = .ok (.aload_n 0, 1) := by decide +kernel
theorem dX4_week_32 : decode cX4_week 32 = .ok (.getfield 62, 3) := by decide +kernel
theorem dX4_week_35 : decode cX4_week 35 = .ok (.iload_n 1, 1) := by decide +kernel
theorem dX4_week_36 : decode cX4_week 36 = .ok (.iaload, 1) := by decide +kernel
theorem dX4_week_37 : decode cX4_week 37 = .ok (.ireturn, 1) := by decide +kernel
