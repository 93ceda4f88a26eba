theorem dX1_make_47 : decode cX1_make 47 = .ok (.invokestatic 34, 3) := by decide +kernel
theorem dX1_make_50 : decode cX1_make 50 = .ok (.iastore, 1) := by decide +kernel
theorem dX1_make_51 : decode cX1_make 51 = .ok (.iinc 6 1, 3) := by decide +kernel
theorem dX1_make_54 : decode cX1_make 54 = .ok (.goto (-51), 3) := by decide +kernel
theorem dX1_make_57 : decode cX1_make 57 = .ok (.aload_n 0, 1) := by decide +kernel
theorem dX1_make_58 : decode cX1_make 58 = .ok (.iload 4, 2) := by decide +kernel
theorem dX1_make_60 : decode cX1_make 60 = .ok (.putfield 27, 3) := by decide +kernel
theorem dX1_make_63 : decode cX1_make 63 = .ok (.aload_n 0, 1) := by decide +kernel
theorem dX1_make_64 : decode cX1_make 64 = .ok (.ldc 40, 2) := by decide +kernel
theorem dX1_make_66 : decode cX1_make 66 = .ok (.putfield 31, 3) := by decide +kernel
theorem dX1_make_69 : decode cX1_make 69 = .ok (.aload_n 0, 1) := by decide +kernel
theorem dX1_make_70 : decode cX1_make 70 = .ok (.iconst 0, 1) := by decide +kernel
theorem dX1_make_71 : decode cX1_make 71 = .ok (.iconst 0, 1) := by decide +kernel
theorem dX1_make_72 : decode cX1_make 72 = .ok (.invokevirtual 41, 3) := by decide +kernel
theorem dX1_make_75 : decode cX1_make 75 = .ok (.aload_n 0, 1) := by decide +kernel
theorem dX1_make_76 : decode cX1_make 76 = .ok (.getfield 31, 3) := by decide +kernel
theorem dX1_make_79 : decode cX1_make 79 = .ok (.ireturn, 1) := by decide +kernel
theorem dX1_putFrom_0 : decode cX1_putFrom 0 = .ok (.iload_n 2, 1) := by decide +kernel
theorem dX1_putFrom_1 : decode cX1_putFrom 1 = .ok (.aload_n 0, 1) := by decide +kernel
theorem dX1_putFrom_2 : decode cX1_putFrom 2 = .ok (.getfield 31, 3) := by decide +kernel
theorem dX1_putFrom_5 : decode cX1_putFrom 5 = .ok (.if_icmp .lt 4, 3) := by decide +kernel
theorem dX1_putFrom_8 : decode cX1_putFrom 8 = .ok (.return_, 1) := by decide +kernel
theorem dX1_putFrom_9 : decode cX1_putFrom 9 = .ok (.iload_n 1, 1) := by decide +kernel
theorem dX1_putFrom_10 : decode cX1_putFrom 10 = .ok (.aload_n 0, 1) := by decide +kernel
theorem dX1_putFrom_11 : decode cX1_putFrom 11 = .ok (.getfield 27, 3) := by decide +kernel
theorem dX1_putFrom_14 : decode cX1_putFrom 14 = .ok (.if_icmp .lt 9, 3) := by decide +kernel
theorem dX1_putFrom_17 : decode cX1_putFrom 17 = .ok (.aload_n 0, 1) := by decide +kernel
theorem dX1_putFrom_18 : decode cX1_putFrom 18 = .ok (.iload_n 2, 1) := by decide +kernel
theorem dX1_putFrom_19 : decode cX1_putFrom 19 = .ok (.invokevirtual 45, 3) := by decide +kernel
theorem dX1_putFrom_22 : decode cX1_putFrom 22 = .ok (.return_, 1) := by decide +kernel
theorem dX1_putFrom_23 : decode cX1_putFrom 23 = .ok (.iconst 0, 1) := by decide +kernel
theorem dX1_putFrom_24 : decode cX1_putFrom 24 = .ok (.istore_n 3, 1) := by decide +kernel
theorem dX1_putFrom_25 : decode cX1_putFrom 25 = .ok (.iload_n 3, 1) := by decide +kernel
theorem dX1_putFrom_26 : decode cX1_putFrom 26 = .ok (.aload_n 0, 1) := by decide +kernel
theorem dX1_putFrom_27 : decode cX1_putFrom 27 = .ok (.getfield 15, 3) := by decide +kernel
theorem dX1_putFrom_30 : decode cX1_putFrom 30 = .ok (.iload_n 1, 1) := by decide +kernel
theorem dX1_putFrom_31 : decode cX1_putFrom 31 = .ok (.iaload, 1) := by decide +kernel
theorem dX1_putFrom_32 : decode cX1_putFrom 32 = .ok (.if_icmp .gt 63, 3) := by decide +kernel
theorem dX1_putFrom_35 : decode cX1_putFrom 35 = .ok (.aload_n 0, 1) := by decide +kernel
theorem dX1_putFrom_36 : decode cX1_putFrom 36 = .ok (.getfield 18, 3) := by decide +kernel
theorem dX1_putFrom_39 : decode cX1_putFrom 39 = .ok (.iload_n 1, 1) := by decide +kernel
theorem dX1_putFrom_40 : decode cX1_putFrom 40 = .ok (.iload_n 3, 1) := by decide +kernel
theorem dX1_putFrom_41 : decode cX1_putFrom 41 = .ok (.iastore, 1) := by decide +kernel
theorem dX1_putFrom_42 : decode cX1_putFrom 42 = .ok (.aload_n 0, 1) := by decide +kernel
theorem dX1_putFrom_43 : decode cX1_putFrom 43 = .ok (.getfield 24, 3) := by decide +kernel
theorem dX1_putFrom_46 : decode cX1_putFrom 46 = .ok (.iload_n 3, 1) := by decide +kernel
theorem dX1_putFrom_47 : decode cX1_putFrom 47 = .ok (.dup2, 1) := by decide +kernel
theorem dX1_putFrom_48 : decode cX1_putFrom 48 = .ok (.iaload, 1) := by decide +kernel
theorem dX1_putFrom_49 : decode cX1_putFrom 49 = .ok (.aload_n 0, 1) := by decide +kernel
theorem dX1_putFrom_50 : decode cX1_putFrom 50 = .ok (.getfield 9, 3) := by decide +kernel
theorem dX1_putFrom_53 : decode cX1_putFrom 53 = .ok (.iload_n 1, 1) := by decide +kernel
theorem dX1_putFrom_54 : decode cX1_putFrom 54 = .ok (.iaload, 1) := by decide +kernel
theorem dX1_putFrom_55 : decode cX1_putFrom 55 = .ok (.iadd, 1) := by decide +kernel
theorem dX1_putFrom_56 : decode cX1_putFrom 56 = .ok (.iastore, 1) := by decide +kernel
theorem dX1_putFrom_57 : decode cX1_putFrom 57 = .ok (.aload_n 0, 1) := by decide +kernel
theorem dX1_putFrom_58 : decode cX1_putFrom 58 = .ok (.iload_n 1, 1) := by decide +kernel
theorem dX1_putFrom_59 : decode cX1_putFrom 59 = .ok (.iconst 1, 1) := by decide +kernel
theorem dX1_putFrom_60 : decode cX1_putFrom 60 = .ok (.iadd, 1) := by decide +kernel
theorem dX1_putFrom_61 : decode cX1_putFrom 61 = .ok (.iload_n 2, 1) := by decide +kernel
theorem dX1_putFrom_62 : decode cX1_putFrom 62 = .ok (.aload_n 0, 1) := by decide +kernel
theorem dX1_putFrom_63 : decode cX1_putFrom 63 = .ok (.getfield 24, 3) := by decide +kernel
theorem dX1_putFrom_66 : decode cX1_putFrom 66 = .ok (.iload_n 3, 1) := by decide +kernel
theorem dX1_putFrom_67 : decode cX1_putFrom 67 = .ok (.iaload, 1) := by decide +kernel
theorem dX1_putFrom_68 : decode cX1_putFrom 68 = .ok (.invokestatic 49, 3) := by decide +kernel
theorem dX1_putFrom_71 : decode cX1_putFrom 71 = .ok (.invokevirtual 41, 3) := by decide +kernel
theorem dX1_putFrom_74 : decode cX1_putFrom 74 = .ok (.aload_n 0, 1) := by decide +kernel
theorem dX1_putFrom_75 : decode cX1_putFrom 75 = .ok (.getfield 24, 3) := by decide +kernel
theorem dX1_putFrom_78 : decode cX1_putFrom 78 = .ok (.iload_n 3, 1) := by decide +kernel
theorem dX1_putFrom_79 : decode cX1_putFrom 79 = .ok (.dup2, 1) := by decide +kernel
theorem dX1_putFrom_80 : decode cX1_putFrom 80 = .ok (.iaload, 1) := by decide +kernel
theorem dX1_putFrom_81 : decode cX1_putFrom 81 = .ok (.aload_n 0, 1) := by decide +kernel
theorem dX1_putFrom_82 : decode cX1_putFrom 82 = .ok (.getfield 9, 3) := by decide +kernel
theorem dX1_putFrom_85 : decode cX1_putFrom 85 = .ok (.iload_n 1, 1) := by decide +kernel
theorem dX1_putFrom_86 : decode cX1_putFrom 86 = .ok (.iaload, 1) := by decide +kernel
theorem dX1_putFrom_87 : decode cX1_putFrom 87 = .ok (.isub, 1) := by decide +kernel
theorem dX1_putFrom_88 : decode cX1_putFrom 88 = .ok (.iastore, 1) := by decide +kernel
theorem dX1_putFrom_89 : decode cX1_putFrom 89 = .ok (.iinc 3 1, 3) := by decide +kernel
theorem dX1_putFrom_92 : decode cX1_putFrom 92 = .ok (.goto (-67), 3) := by decide +kernel
theorem dX1_putFrom_95 : decode cX1_putFrom 95 = .ok (.return_, 1) := by decide +kernel
theorem dX1_keepTried_0 : decode cX1_keepTried 0 = .ok (.aload_n 0, 1) := by decide +kernel
theorem dX1_keepTried_1 : decode cX1_keepTried 1 = .ok (.iload_n 1, 1) := by decide +kernel
theorem dX1_keepTried_2 : decode cX1_keepTried 2 = .ok (.putfield 31, 3) := by decide +kernel
theorem dX1_keepTried_5 : decode cX1_keepTried 5 = .ok (.iconst 0, 1) := by decide +kernel
theorem dX1_keepTried_6 : decode cX1_keepTried 6 = .ok (.istore_n 2, 1) := by decide +kernel
theorem dX1_keepTried_7 : decode cX1_keepTried 7 = .ok (.iload_n 2, 1) := by decide +kernel
theorem dX1_keepTried_8 : decode cX1_keepTried 8 = .ok (.aload_n 0, 1) := by decide +kernel
theorem dX1_keepTried_9 : decode cX1_keepTried 9 = .ok (.getfield 27, 3) := by decide +kernel
theorem dX1_keepTried_12 : decode cX1_keepTried 12 = .ok (.if_icmp .ge 21, 3) := by decide +kernel
theorem dX1_keepTried_15 : decode cX1_keepTried 15 = .ok (.aload_n 0, 1) := by decide +kernel
theorem dX1_keepTried_16 : decode cX1_keepTried 16 = .ok (.getfield 21, 3) := by decide +kernel
theorem dX1_keepTried_19 : decode cX1_keepTried 19 = .ok (.iload_n 2, 1) := by decide +kernel
theorem dX1_keepTried_20 : decode cX1_keepTried 20 = .ok (.aload_n 0, 1) := by decide +kernel
theorem dX1_keepTried_21 : decode cX1_keepTried 21 = .ok (.getfield 18, 3) := by decide +kernel
theorem dX1_keepTried_24 : decode cX1_keepTried 24 = .ok (.iload_n 2, 1) := by decide +kernel
theorem dX1_keepTried_25 : decode cX1_keepTried 25 = .ok (.iaload, 1) := by decide +kernel
theorem dX1_keepTried_26 : decode cX1_keepTried 26 = .ok (.iastore, 1) := by decide +kernel
theorem dX1_keepTried_27 : decode cX1_keepTried 27 = .ok (.iinc 2 1, 3) := by decide +kernel
theorem dX1_keepTried_30 : decode cX1_keepTried 30 = .ok (.goto (-23), 3) := by decide +kernel
theorem dX1_keepTried_33 : decode cX1_keepTried 33 = .ok (.return_, 1) := by decide +kernel
theorem dX2_init_0 : decode cX2_init 0 = .ok (.aload_n 0, 1) := by decide +kernel
theorem dX2_init_1 : decode cX2_init 1 = .ok (.invokespecial 3, 3) := by decide +kernel
theorem dX2_init_4 : decode cX2_init 4 = .ok (.aload_n 0, 1) := by decide +kernel
theorem dX2_init_5 : decode cX2_init 5 = .ok (.bipush 40, 2) := by decide +kernel
theorem dX2_init_7 : decode cX2_init 7 = .ok (.newarray .int, 2) := by decide +kernel
theorem dX2_init_9 : decode cX2_init 9 = .ok (.putfield 9, 3) := by decide +kernel
theorem dX2_init_12 : decode cX2_init 12 = .ok (.aload_n 0, 1) := by decide +kernel
theorem dX2_init_13 : decode cX2_init 13 = .ok (.bipush 40, 2) := by decide +kernel
theorem dX2_init_15 : decode cX2_init 15 = .ok (.newarray .int, 2) := by decide +kernel
theorem dX2_init_17 : decode cX2_init 17 = .ok (.putfield 15, 3) := by decide +kernel
theorem dX2_init_20 : decode cX2_init 20 = .ok (.aload_n 0, 1) := by decide +kernel
theorem dX2_init_21 : decode cX2_init 21 = .ok (.bipush 40, 2) := by decide +kernel
theorem dX2_init_23 : decode cX2_init 23 = .ok (.newarray .int, 2) := by decide +kernel
theorem dX2_init_25 : decode cX2_init 25 = .ok (.putfield 18, 3) := by decide +kernel
theorem dX2_init_28 : decode cX2_init 28 = .ok (.aload_n 0, 1) := by decide +kernel
theorem dX2_init_29 : decode cX2_init 29 = .ok (.bipush 40, 2) := by decide +kernel
theorem dX2_init_31 : decode cX2_init 31 = .ok (.newarray .int, 2) := by decide +kernel
theorem dX2_init_33 : decode cX2_init 33 = .ok (.putfield 21, 3) := by decide +kernel
theorem dX2_init_36 : decode cX2_init 36 = .ok (.aload_n 0, 1) := by decide +kernel
theorem dX2_init_37 : decode cX2_init 37 = .ok (.bipush 40, 2) := by decide +kernel
theorem dX2_init_39 : decode cX2_init 39 = .ok (.newarray .int, 2) := by decide +kernel
theorem dX2_init_41 : decode cX2_init 41 = .ok (.putfield 24, 3) := by decide +kernel
theorem dX2_init_44 : decode cX2_init 44 = .ok (.aload_n 0, 1) := by decide +kernel
theorem dX2_init_45 : decode cX2_init 45 = .ok (.bipush 40, 2) := by decide +kernel
theorem dX2_init_47 : decode cX2_init 47 = .ok (.newarray .int, 2) := by decide +kernel
theorem dX2_init_49 : decode cX2_init 49 = .ok (.putfield 27, 3) := by decide +kernel
theorem dX2_init_52 : decode cX2_init 52 = .ok (.aload_n 0, 1) := by decide +kernel
theorem dX2_init_53 : decode cX2_init 53 = .ok (.bipush 40, 2) := by decide +kernel
theorem dX2_init_55 : decode cX2_init 55 = .ok (.newarray .int, 2) := by decide +kernel
theorem dX2_init_57 : decode cX2_init 57 = .ok (.putfield 30, 3) := by decide +kernel
theorem dX2_init_60 : decode cX2_init 60 = .ok (.aload_n 0, 1) := by decide +kernel
theorem dX2_init_61 : decode cX2_init 61 = .ok (.bipush 40, 2) := by decide +kernel
theorem dX2_init_63 : decode cX2_init 63 = .ok (.newarray .boolean, 2) := by decide +kernel
theorem dX2_init_65 : decode cX2_init 65 = .ok (.putfield 33, 3) := by decide +kernel
theorem dX2_init_68 : decode cX2_init 68 = .ok (.aload_n 0, 1) := by decide +kernel
theorem dX2_init_69 : decode cX2_init 69 = .ok (.bipush 120, 2) := by decide +kernel
theorem dX2_init_71 : decode cX2_init 71 = .ok (.newarray .int, 2) := by decide +kernel
theorem dX2_init_73 : decode cX2_init 73 = .ok (.putfield 37, 3) := by decide +kernel
theorem dX2_init_76 : decode cX2_init 76 = .ok (.aload_n 0, 1) := by decide +kernel
theorem dX2_init_77 : decode cX2_init 77 = .ok (.bipush 120, 2) := by decide +kernel
theorem dX2_init_79 : decode cX2_init 79 = .ok (.newarray .int, 2) := by decide +kernel
theorem dX2_init_81 : decode cX2_init 81 = .ok (.putfield 40, 3) := by decide +kernel
theorem dX2_init_84 : decode cX2_init 84 = .ok (.aload_n 0, 1) := by decide +kernel
theorem dX2_init_85 : decode cX2_init 85 = .ok (.bipush 120, 2) := by decide +kernel
theorem dX2_init_87 : decode cX2_init 87 = .ok (.newarray .int, 2) := by decide +kernel
theorem dX2_init_89 : decode cX2_init 89 = .ok (.putfield 43, 3) := by decide +kernel
theorem dX2_init_92 : decode cX2_init 92 = .ok (.aload_n 0, 1) := by decide +kernel
theorem dX2_init_93 : decode cX2_init 93 = .ok (.iconst 0, 1) := by decide +kernel
theorem dX2_init_94 : decode cX2_init 94 = .ok (.putfield 46, 3) := by decide +kernel
theorem dX2_init_97 : decode cX2_init 97 = .ok (.return_, 1) := by decide +kernel
theorem dX2_hasSerial_0 : decode cX2_hasSerial 0 = .ok (.iconst 0, 1) := by decide +kernel
theorem dX2_hasSerial_1 : decode cX2_hasSerial 1 = .ok (.istore_n 2, 1) := by decide +kernel
theorem dX2_hasSerial_2 : decode cX2_hasSerial 2 = .ok (.iload_n 2, 1) := by decide +kernel
theorem dX2_hasSerial_3 : decode cX2_hasSerial 3 = .ok (.aload_n 0, 1) := by decide +kernel
theorem dX2_hasSerial_4 : decode cX2_hasSerial 4 = .ok (.getfield 46, 3) := by decide +kernel
theorem dX2_hasSerial_7 : decode cX2_hasSerial 7 = .ok (.if_icmp .ge 21, 3) := by decide +kernel
theorem dX2_hasSerial_10 : decode cX2_hasSerial 10 = .ok (.aload_n 0, 1) := by decide +kernel
theorem dX2_hasSerial_11 : decode cX2_hasSerial 11 = .ok (.getfield 15, 3) := by decide +kernel
theorem dX2_hasSerial_14 : decode cX2_hasSerial 14 = .ok (.iload_n 2, 1) := by decide +kernel
theorem dX2_hasSerial_15 : decode cX2_hasSerial 15 = .ok (.iaload, 1) := by decide +kernel
theorem dX2_hasSerial_16 : decode cX2_hasSerial 16 = .ok (.iload_n 1, 1) := by decide +kernel
theorem dX2_hasSerial_17 : decode cX2_hasSerial 17 = .ok (.if_icmp .ne 5, 3) := by decide +kernel
theorem dX2_hasSerial_20 : decode cX2_hasSerial 20 = .ok (.iconst 1, 1) := by decide +kernel
theorem dX2_hasSerial_21 : decode cX2_hasSerial 21 = .ok (.ireturn, 1) := by decide +kernel
theorem dX2_hasSerial_22 : decode cX2_hasSerial 22 = .ok (.iinc 2 1, 3) := by decide +kernel
theorem dX2_hasSerial_25 : decode cX2_hasSerial 25 = .ok (.goto (-23), 3) := by decide +kernel
theorem dX2_hasSerial_28 : decode cX2_hasSerial 28 = .ok (.iconst 0, 1) := by decide +kernel
theorem dX2_hasSerial_29 : decode cX2_hasSerial 29 = .ok (.ireturn, 1) := by decide +kernel
theorem dX2_add_0 : decode cX2_add 0 = .ok (.aload_n 0, 1) := by decide +kernel
theorem dX2_add_1 : decode cX2_add 1 = .ok (.getfield 46, 3) := by decide +kernel
theorem dX2_add_4 : decode cX2_add 4 = .ok (.istore 6, 2) := by decide +kernel
theorem dX2_add_6 : decode cX2_add 6 = .ok (.aload_n 0, 1) := by decide +kernel
theorem dX2_add_7 : decode cX2_add 7 = .ok (.getfield 9, 3) := by decide +kernel
theorem dX2_add_10 : decode cX2_add 10 = .ok (.iload 6, 2) := by decide +kernel
theorem dX2_add_12 : decode cX2_add 12 = .ok (.iload_n 1, 1) := by decide +kernel
theorem dX2_add_13 : decode cX2_add 13 = .ok (.iastore, 1) := by decide +kernel
theorem dX2_add_14 : decode cX2_add 14 = .ok (.aload_n 0, 1) := by decide +kernel
theorem dX2_add_15 : decode cX2_add 15 = .ok (.getfield 15, 3) := by decide +kernel
theorem dX2_add_18 : decode cX2_add 18 = .ok (.iload 6, 2) := by decide +kernel
theorem dX2_add_20 : decode cX2_add 20 = .ok (.iload_n 2, 1) := by decide +kernel
theorem dX2_add_21 : decode cX2_add 21 = .ok (.iastore, 1) := by decide +kernel
theorem dX2_add_22 : decode cX2_add 22 = .ok (.aload_n 0, 1) := by decide +kernel
theorem dX2_add_23 : decode cX2_add 23 = .ok (.getfield 18, 3) := by decide +kernel
theorem dX2_add_26 : decode cX2_add 26 = .ok (.iload 6, 2) := by decide +kernel
theorem dX2_add_28 : decode cX2_add 28 = .ok (.iload_n 3, 1) := by decide +kernel
theorem dX2_add_29 : decode cX2_add 29 = .ok (.iastore, 1) := by decide +kernel
theorem dX2_add_30 : decode cX2_add 30 = .ok (.aload_n 0, 1) := by decide +kernel
theorem dX2_add_31 : decode cX2_add 31 = .ok (.getfield 21, 3) := by decide +kernel
theorem dX2_add_34 : decode cX2_add 34 = .ok (.iload 6, 2) := by decide +kernel
theorem dX2_add_36 : decode cX2_add 36 = .ok (.iload 4, 2) := by decide +kernel
theorem dX2_add_38 : decode cX2_add 38 = .ok (.iastore, 1) := by decide +kernel
theorem dX2_add_39 : decode cX2_add 39 = .ok (.aload_n 0, 1) := by decide +kernel
theorem dX2_add_40 : decode cX2_add 40 = .ok (.getfield 24, 3) := by decide +kernel
theorem dX2_add_43 : decode cX2_add 43 = .ok (.iload 6, 2) := by decide +kernel
theorem dX2_add_45 : decode cX2_add 45 = .ok (.iload 5, 2) := by decide +kernel
theorem dX2_add_47 : decode cX2_add 47 = .ok (.iastore, 1) := by decide +kernel
theorem dX2_add_48 : decode cX2_add 48 = .ok (.aload_n 0, 1) := by decide +kernel
theorem dX2_add_49 : decode cX2_add 49 = .ok (.getfield 27, 3) := by decide +kernel
theorem dX2_add_52 : decode cX2_add 52 = .ok (.iload 6, 2) := by decide +kernel
theorem dX2_add_54 : decode cX2_add 54 = .ok (.iconst (-1), 1) := by decide +kernel
theorem dX2_add_55 : decode cX2_add 55 = .ok (.iastore, 1) := by decide +kernel
theorem dX2_add_56 : decode cX2_add 56 = .ok (.iconst 0, 1) := by decide +kernel
theorem dX2_add_57 : decode cX2_add 57 = .ok (.istore 7, 2) := by decide +kernel
theorem dX2_add_59 : decode cX2_add 59 = .ok (.iload 7, 2) := by decide +kernel
theorem dX2_add_61 : decode cX2_add 61 = .ok (.iconst 3, 1) := by decide +kernel
theorem dX2_add_62 : decode cX2_add 62 = .ok (.if_icmp .ge 23, 3) := by decide +kernel
theorem dX2_add_65 : decode cX2_add 65 = .ok (.aload_n 0, 1) := by decide +kernel
theorem dX2_add_66 : decode cX2_add 66 = .ok (.getfield 37, 3) := by decide +kernel
theorem dX2_add_69 : decode cX2_add 69 = .ok (.iload 6, 2) := by decide +kernel
theorem dX2_add_71 : decode cX2_add 71 = .ok (.iconst 3, 1) := by decide +kernel
theorem dX2_add_72 : decode cX2_add 72 = .ok (.imul, 1) := by decide +kernel
theorem dX2_add_73 : decode cX2_add 73 = .ok (.iload 7, 2) := by decide +kernel
theorem dX2_add_75 : decode cX2_add 75 = .ok (.iadd, 1) := by decide +kernel
theorem dX2_add_76 : decode cX2_add 76 = .ok (.iload 5, 2) := by decide +kernel
theorem dX2_add_78 : decode cX2_add 78 = .ok (.iastore, 1) := by decide +kernel
theorem dX2_add_79 : decode cX2_add 79 = .ok (.iinc 7 1, 3) := by decide +kernel
theorem dX2_add_82 : decode cX2_add 82 = .ok (.goto (-23), 3) := by decide +kernel
theorem dX2_add_85 : decode cX2_add 85 = .ok (.aload_n 0, 1) := by decide +kernel
theorem dX2_add_86 : decode cX2_add 86 = .ok (.dup, 1) := by decide +kernel
theorem dX2_add_87 : decode cX2_add 87 = .ok (.getfield 46, 3) := by decide +kernel
theorem dX2_add_90 : decode cX2_add 90 = .ok (.iconst 1, 1) := by decide +kernel
theorem dX2_add_91 : decode cX2_add 91 = .ok (.iadd, 1) := by decide +kernel
theorem dX2_add_92 : decode cX2_add 92 = .ok (.putfield 46, 3) := by decide +kernel
theorem dX2_add_95 : decode cX2_add 95 = .ok (.iload 6, 2) := by decide +kernel
theorem dX2_add_97 : decode cX2_add 97 = .ok (.ireturn, 1) := by decide +kernel
theorem dX2_isScrapped_0 : decode cX2_isScrapped 0 = .ok (.aload_n 0, 1) := by decide +kernel
theorem dX2_isScrapped_1 : decode cX2_isScrapped 1 = .ok (.getfield 27, 3) := by decide +kernel
theorem dX2_isScrapped_4 : decode cX2_isScrapped 4 = .ok (.iload_n 1, 1) := by decide +kernel
theorem dX2_isScrapped_5 : decode cX2_isScrapped 5 = .ok (.iaload, 1) := by decide +kernel
theorem dX2_isScrapped_6 : decode cX2_isScrapped 6 = .ok (.iconst (-1), 1) := by decide +kernel
theorem dX2_isScrapped_7 : decode cX2_isScrapped 7 = .ok (.if_icmp .eq 7, 3) := by decide +kernel
theorem dX2_isScrapped_10 : decode cX2_isScrapped 10 = .ok (.iconst 1, 1) := by decide +kernel
theorem dX2_isScrapped_11 : decode cX2_isScrapped 11 = .ok (.goto 4, 3) := by decide +kernel
theorem dX2_isScrapped_14 : decode cX2_isScrapped 14 = .ok (.iconst 0, 1) := by decide +kernel
theorem dX2_isScrapped_15 : decode cX2_isScrapped 15 = .ok (.ireturn, 1) := by decide +kernel
theorem dX2_conditionOf_0 : decode cX2_conditionOf 0 = .ok (.iconst 0, 1) := by decide +kernel
theorem dX2_conditionOf_1 : decode cX2_conditionOf 1 = .ok (.istore_n 2, 1) := by decide +kernel
theorem dX2_conditionOf_2 : decode cX2_conditionOf 2 = .ok (.iconst 0, 1) := by decide +kernel
theorem dX2_conditionOf_3 : decode cX2_conditionOf 3 = .ok (.istore_n 3, 1) := by decide +kernel
theorem dX2_conditionOf_4 : decode cX2_conditionOf 4 = .ok (.iload_n 3, 1) := by decide +kernel
theorem dX2_conditionOf_5 : decode cX2_conditionOf 5 = .ok (.iconst 3, 1) := by decide +kernel
theorem dX2_conditionOf_6 : decode cX2_conditionOf 6 = .ok (.if_icmp .ge 24, 3) := by decide +kernel
theorem dX2_conditionOf_9 : decode cX2_conditionOf 9 = .ok (.iload_n 2, 1) := by decide +kernel
theorem dX2_conditionOf_10 : decode cX2_conditionOf 10 = .ok (.aload_n 0, 1) := by decide +kernel
theorem dX2_conditionOf_11 : decode cX2_conditionOf 11 = .ok (.getfield 43, 3) := by decide +kernel
theorem dX2_conditionOf_14 : decode cX2_conditionOf 14 = .ok (.iload_n 1, 1) := by decide +kernel
theorem dX2_conditionOf_15 : decode cX2_conditionOf 15 = .ok (.iconst 3, 1) := by decide +kernel
theorem dX2_conditionOf_16 : decode cX2_conditionOf 16 = .ok (.imul, 1) := by decide +kernel
theorem dX2_conditionOf_17 : decode cX2_conditionOf 17 = .ok (.iload_n 3, 1) := by decide +kernel
theorem dX2_conditionOf_18 : decode cX2_conditionOf 18 = .ok (.iadd, 1) := by decide +kernel
theorem dX2_conditionOf_19 : decode cX2_conditionOf 19 = .ok (.iaload, 1) := by decide +kernel
theorem dX2_conditionOf_20 : decode cX2_conditionOf 20 = .ok (.invokestatic 50, 3) := by decide +kernel
theorem dX2_conditionOf_23 : decode cX2_conditionOf 23 = .ok (.istore_n 2, 1) := by decide +kernel
theorem dX2_conditionOf_24 : decode cX2_conditionOf 24 = .ok (.iinc 3 1, 3) := by decide +kernel
theorem dX2_conditionOf_27 : decode cX2_conditionOf 27 = .ok (.goto (-23), 3) := by decide +kernel
theorem dX2_conditionOf_30 : decode cX2_conditionOf 30 = .ok (.iload_n 2, 1) := by decide +kernel
theorem dX2_conditionOf_31 : decode cX2_conditionOf 31 = .ok (.ireturn, 1) := by decide +kernel
theorem dX2_countUse_0 : decode cX2_countUse 0 = .ok (.iconst 0, 1) := by decide +kernel
theorem dX2_countUse_1 : decode cX2_countUse 1 = .ok (.istore_n 3, 1) := by decide +kernel
theorem dX2_countUse_2 : decode cX2_countUse 2 = .ok (.iload_n 3, 1) := by decide +kernel
theorem dX2_countUse_3 : decode cX2_countUse 3 = .ok (.iconst 3, 1) := by decide +kernel
theorem dX2_countUse_4 : decode cX2_countUse 4 = .ok (.if_icmp .ge 38, 3) := by decide +kernel
theorem dX2_countUse_7 : decode cX2_countUse 7 = .ok (.iload_n 1, 1) := by decide +kernel
theorem dX2_countUse_8 : decode cX2_countUse 8 = .ok (.iconst 3, 1) := by decide +kernel
theorem dX2_countUse_9 : decode cX2_countUse 9 = .ok (.imul, 1) := by decide +kernel
theorem dX2_countUse_10 : decode cX2_countUse 10 = .ok (.iload_n 3, 1) := by decide +kernel
theorem dX2_countUse_11 : decode cX2_countUse 11 = .ok (.iadd, 1) := by decide +kernel
theorem dX2_countUse_12 : decode cX2_countUse 12 = .ok (.istore 4, 2) := by decide +kernel
theorem dX2_countUse_14 : decode cX2_countUse 14 = .ok (.aload_n 0, 1) := by decide +kernel
theorem dX2_countUse_15 : decode cX2_countUse 15 = .ok (.getfield 37, 3) := by decide +kernel
theorem dX2_countUse_18 : decode cX2_countUse 18 = .ok (.iload 4, 2) := by decide +kernel
theorem dX2_countUse_20 : decode cX2_countUse 20 = .ok (.iaload, 1) := by decide +kernel
theorem dX2_countUse_21 : decode cX2_countUse 21 = .ok (.iload_n 2, 1) := by decide +kernel
theorem dX2_countUse_22 : decode cX2_countUse 22 = .ok (.if_icmp .eq 14, 3) := by decide +kernel
theorem dX2_countUse_25 : decode cX2_countUse 25 = .ok (.aload_n 0, 1) := by decide +kernel
theorem dX2_countUse_26 : decode cX2_countUse 26 = .ok (.getfield 40, 3) := by decide +kernel
theorem dX2_countUse_29 : decode cX2_countUse 29 = .ok (.iload 4, 2) := by decide +kernel
theorem dX2_countUse_31 : decode cX2_countUse 31 = .ok (.dup2, 1) := by decide +kernel
theorem dX2_countUse_32 : decode cX2_countUse 32 = .ok (.iaload, 1) := by decide +kernel
theorem dX2_countUse_33 : decode cX2_countUse 33 = .ok (.iconst 1, 1) := by decide +kernel
theorem dX2_countUse_34 : decode cX2_countUse 34 = .ok (.iadd, 1) := by decide +kernel
theorem dX2_countUse_35 : decode cX2_countUse 35 = .ok (.iastore, 1) := by decide +kernel
theorem dX2_countUse_36 : decode cX2_countUse 36 = .ok (.iinc 3 1, 3) := by decide +kernel
theorem dX2_countUse_39 : decode cX2_countUse 39 = .ok (.goto (-37), 3) := by decide +kernel
theorem dX2_countUse_42 : decode cX2_countUse 42 = .ok (.return_, 1) := by decide +kernel
theorem dX2_enterGrade_0 : decode cX2_enterGrade 0 = .ok (.iload_n 1, 1) := by decide +kernel
theorem dX2_enterGrade_1 : decode cX2_enterGrade 1 = .ok (.iconst 3, 1) := by decide +kernel
theorem dX2_enterGrade_2 : decode cX2_enterGrade 2 = .ok (.imul, 1) := by decide +kernel
theorem dX2_enterGrade_3 : decode cX2_enterGrade 3 = .ok (.iload_n 2, 1) := by decide +kernel
theorem dX2_enterGrade_4 : decode cX2_enterGrade 4 = .ok (.iadd, 1) := by decide +kernel
theorem dX2_enterGrade_5 : decode cX2_enterGrade 5 = .ok (.istore 5, 2) := by decide +kernel
theorem dX2_enterGrade_7 : decode cX2_enterGrade 7 = .ok (.aload_n 0, 1) := by decide +kernel
theorem dX2_enterGrade_8 : decode cX2_enterGrade 8 = .ok (.getfield 43, 3) := by decide +kernel
theorem dX2_enterGrade_11 : decode cX2_enterGrade 11 = .ok (.iload 5, 2) := by decide +kernel
theorem dX2_enterGrade_13 : decode cX2_enterGrade 13 = .ok (.aload_n 0, 1) := by decide +kernel
theorem dX2_enterGrade_14 : decode cX2_enterGrade 14 = .ok (.getfield 37, 3) := by decide +kernel
theorem dX2_enterGrade_17 : decode cX2_enterGrade 17 = .ok (.iload 5, 2) := by decide +kernel
theorem dX2_enterGrade_19 : decode cX2_enterGrade 19 = .ok (.iaload, 1) := by decide +kernel
theorem dX2_enterGrade_20 : decode cX2_enterGrade 20 = .ok (.iload 4, 2) := by decide +kernel
theorem dX2_enterGrade_22 : decode cX2_enterGrade 22 = .ok (.if_icmp .ne 17, 3) := by decide +kernel
theorem dX2_enterGrade_25 : decode cX2_enterGrade 25 = .ok (.aload_n 0, 1) := by decide +kernel
theorem dX2_enterGrade_26 : decode cX2_enterGrade 26 = .ok (.getfield 43, 3) := by decide +kernel
theorem dX2_enterGrade_29 : decode cX2_enterGrade 29 = .ok (.iload 5, 2) := by decide +kernel
theorem dX2_enterGrade_31 : decode cX2_enterGrade 31 = .ok (.iaload, 1) := by decide +kernel
theorem dX2_enterGrade_32 : decode cX2_enterGrade 32 = .ok (.iload_n 3, 1) := by decide +kernel
theorem dX2_enterGrade_33 : decode cX2_enterGrade 33 = .ok (.invokestatic 50, 3) := by decide +kernel
theorem dX2_enterGrade_36 : decode cX2_enterGrade 36 = .ok (.goto 4, 3) := by decide +kernel
theorem dX2_enterGrade_39 : decode cX2_enterGrade 39 = .ok (.iload_n 3, 1) := by decide +kernel
theorem dX2_enterGrade_40 : decode cX2_enterGrade 40 = .ok (.iastore, 1) := by decide +kernel
theorem dX2_enterGrade_41 : decode cX2_enterGrade 41 = .ok (.aload_n 0, 1) := by decide +kernel
theorem dX2_enterGrade_42 : decode cX2_enterGrade 42 = .ok (.getfield 37, 3) := by decide +kernel
theorem dX2_enterGrade_45 : decode cX2_enterGrade 45 = .ok (.iload 5, 2) := by decide +kernel
theorem dX2_enterGrade_47 : decode cX2_enterGrade 47 = .ok (.iload 4, 2) := by decide +kernel
theorem dX2_enterGrade_49 : decode cX2_enterGrade 49 = .ok (.iastore, 1) := by decide +kernel
theorem dX2_enterGrade_50 : decode cX2_enterGrade 50 = .ok (.aload_n 0, 1) := by decide +kernel
theorem dX2_enterGrade_51 : decode cX2_enterGrade 51 = .ok (.getfield 40, 3) := by decide +kernel
theorem dX2_enterGrade_54 : decode cX2_enterGrade 54 = .ok (.iload 5, 2) := by decide +kernel
theorem dX2_enterGrade_56 : decode cX2_enterGrade 56 = .ok (.iconst 0, 1) := by decide +kernel
theorem dX2_enterGrade_57 : decode cX2_enterGrade 57 = .ok (.iastore, 1) := by decide +kernel
theorem dX2_enterGrade_58 : decode cX2_enterGrade 58 = .ok (.iload_n 3, 1) := by decide +kernel
theorem dX2_enterGrade_59 : decode cX2_enterGrade 59 = .ok (.iconst 2, 1) := by decide +kernel
theorem dX2_enterGrade_60 : decode cX2_enterGrade 60 = .ok (.if_icmp .ne 11, 3) := by decide +kernel
theorem dX2_enterGrade_63 : decode cX2_enterGrade 63 = .ok (.aload_n 0, 1) := by decide +kernel
theorem dX2_enterGrade_64 : decode cX2_enterGrade 64 = .ok (.getfield 27, 3) := by decide +kernel
theorem dX2_enterGrade_67 : decode cX2_enterGrade 67 = .ok (.iload_n 1, 1) := by decide +kernel
theorem dX2_enterGrade_68 : decode cX2_enterGrade 68 = .ok (.iload 4, 2) := by decide +kernel
theorem dX2_enterGrade_70 : decode cX2_enterGrade 70 = .ok (.iastore, 1) := by decide +kernel
theorem dX2_enterGrade_71 : decode cX2_enterGrade 71 = .ok (.aload_n 0, 1) := by decide +kernel
theorem dX2_enterGrade_72 : decode cX2_enterGrade 72 = .ok (.getfield 43, 3) := by decide +kernel
theorem dX2_enterGrade_75 : decode cX2_enterGrade 75 = .ok (.iload 5, 2) := by decide +kernel
theorem dX2_enterGrade_77 : decode cX2_enterGrade 77 = .ok (.iaload, 1) := by decide +kernel
theorem dX2_enterGrade_78 : decode cX2_enterGrade 78 = .ok (.ireturn, 1) := by decide +kernel
theorem dX2_countLeftOf_0 : decode cX2_countLeftOf 0 = .ok (.iconst 0, 1) := by decide +kernel
theorem dX2_countLeftOf_1 : decode cX2_countLeftOf 1 = .ok (.istore_n 2, 1) := by decide +kernel
theorem dX2_countLeftOf_2 : decode cX2_countLeftOf 2 = .ok (.iconst 0, 1) := by decide +kernel
theorem dX2_countLeftOf_3 : decode cX2_countLeftOf 3 = .ok (.istore_n 3, 1) := by decide +kernel
theorem dX2_countLeftOf_4 : decode cX2_countLeftOf 4 = .ok (.iload_n 3, 1) := by decide +kernel
theorem dX2_countLeftOf_5 : decode cX2_countLeftOf 5 = .ok (.aload_n 0, 1) := by decide +kernel
theorem dX2_countLeftOf_6 : decode cX2_countLeftOf 6 = .ok (.getfield 46, 3) := by decide +kernel
theorem dX2_countLeftOf_9 : decode cX2_countLeftOf 9 = .ok (.if_icmp .ge 21, 3) := by decide +kernel
theorem dX2_countLeftOf_12 : decode cX2_countLeftOf 12 = .ok (.aload_n 0, 1) := by decide +kernel
theorem dX2_countLeftOf_13 : decode cX2_countLeftOf 13 = .ok (.iload_n 1, 1) := by decide +kernel
theorem dX2_countLeftOf_14 : decode cX2_countLeftOf 14 = .ok (.iload_n 3, 1) := by decide +kernel
theorem dX2_countLeftOf_15 : decode cX2_countLeftOf 15 = .ok (.invokevirtual 56, 3) := by decide +kernel
theorem dX2_countLeftOf_18 : decode cX2_countLeftOf 18 = .ok (.ifCond .eq 6, 3) := by decide +kernel
theorem dX2_countLeftOf_21 : decode cX2_countLeftOf 21 = .ok (.iinc 2 1, 3) := by decide +kernel
theorem dX2_countLeftOf_24 : decode cX2_countLeftOf 24 = .ok (.iinc 3 1, 3) := by decide +kernel
theorem dX2_countLeftOf_27 : decode cX2_countLeftOf 27 = .ok (.goto (-23), 3) := by decide +kernel
theorem dX2_countLeftOf_30 : decode cX2_countLeftOf 30 = .ok (.iload_n 2, 1) := by decide +kernel
theorem dX2_countLeftOf_31 : decode cX2_countLeftOf 31 = .ok (.ireturn, 1) := by decide +kernel
theorem dX2_findLeftOf_0 : decode cX2_findLeftOf 0 = .ok (.iconst 0, 1) := by decide +kernel
theorem dX2_findLeftOf_1 : decode cX2_findLeftOf 1 = .ok (.istore_n 3, 1) := by decide +kernel
theorem dX2_findLeftOf_2 : decode cX2_findLeftOf 2 = .ok (.iconst 0, 1) := by decide +kernel
theorem dX2_findLeftOf_3 : decode cX2_findLeftOf 3 = .ok (.istore 4, 2) := by decide +kernel
theorem dX2_findLeftOf_5 : decode cX2_findLeftOf 5 = .ok (.iload 4, 2) := by decide +kernel
theorem dX2_findLeftOf_7 : decode cX2_findLeftOf 7 = .ok (.aload_n 0, 1) := by decide +kernel
theorem dX2_findLeftOf_8 : decode cX2_findLeftOf 8 = .ok (.getfield 46, 3) := by decide +kernel
theorem dX2_findLeftOf_11 : decode cX2_findLeftOf 11 = .ok (.if_icmp .ge 30, 3) := by decide +kernel
theorem dX2_findLeftOf_14 : decode cX2_findLeftOf 14 = .ok (.aload_n 0, 1) := by decide +kernel
theorem dX2_findLeftOf_15 : decode cX2_findLeftOf 15 = .ok (.iload_n 1, 1) := by decide +kernel
theorem dX2_findLeftOf_16 : decode cX2_findLeftOf 16 = .ok (.iload 4, 2) := by decide +kernel
theorem dX2_findLeftOf_18 : decode cX2_findLeftOf 18 = .ok (.invokevirtual 56, 3) := by decide +kernel
theorem dX2_findLeftOf_21 : decode cX2_findLeftOf 21 = .ok (.ifCond .eq 14, 3) := by decide +kernel
theorem dX2_findLeftOf_24 : decode cX2_findLeftOf 24 = .ok (.iload_n 3, 1) := by decide +kernel
theorem dX2_findLeftOf_25 : decode cX2_findLeftOf 25 = .ok (.iload_n 2, 1) := by decide +kernel
theorem dX2_findLeftOf_26 : decode cX2_findLeftOf 26 = .ok (.if_icmp .ne 6, 3) := by decide +kernel
theorem dX2_findLeftOf_29 : decode cX2_findLeftOf 29 = .ok (.iload 4, 2) := by decide +kernel
theorem dX2_findLeftOf_31 : decode cX2_findLeftOf 31 = .ok (.ireturn, 1) := by decide +kernel
theorem dX2_findLeftOf_32 : decode cX2_findLeftOf 32 = .ok (.iinc 3 1, 3) := by decide +kernel
theorem dX2_findLeftOf_35 : decode cX2_findLeftOf 35 = .ok (.iinc 4 1, 3) := by decide +kernel
theorem dX2_findLeftOf_38 : decode cX2_findLeftOf 38 = .ok (.goto (-33), 3) := by decide +kernel
theorem dX2_findLeftOf_41 : decode cX2_findLeftOf 41 = .ok (.iconst (-1), 1) := by decide +kernel
theorem dX2_findLeftOf_42 : decode cX2_findLeftOf 42 = .ok (.ireturn, 1) := by decide +kernel
theorem dX2_isLeftOf_0 : decode cX2_isLeftOf 0 = .ok (.aload_n 0, 1) := by decide +kernel
theorem dX2_isLeftOf_1 : decode cX2_isLeftOf 1 = .ok (.getfield 18, 3) := by decide +kernel
theorem dX2_isLeftOf_4 : decode cX2_isLeftOf 4 = .ok (.iload_n 2, 1) := by decide +kernel
theorem dX2_isLeftOf_5 : decode cX2_isLeftOf 5 = .ok (.iaload, 1) := by decide +kernel
theorem dX2_isLeftOf_6 : decode cX2_isLeftOf 6 = .ok (.iload_n 1, 1) := by decide +kernel
theorem dX2_isLeftOf_7 : decode cX2_isLeftOf 7 = .ok (.if_icmp .ne 15, 3) := by decide +kernel
theorem dX2_isLeftOf_10 : decode cX2_isLeftOf 10 = .ok (.aload_n 0, 1) := by decide +kernel
theorem dX2_isLeftOf_11 : decode cX2_isLeftOf 11 = .ok (.iload_n 2, 1) := by decide +kernel
theorem dX2_isLeftOf_12 : decode cX2_isLeftOf 12 = .ok (.invokevirtual 60, 3) := by decide +kernel
theorem dX2_isLeftOf_15 : decode cX2_isLeftOf 15 = .ok (.ifCond .ne 7, 3) := by decide +kernel
theorem dX2_isLeftOf_18 : decode cX2_isLeftOf 18 = .ok (.iconst 1, 1) := by decide +kernel
theorem dX2_isLeftOf_19 : decode cX2_isLeftOf 19 = .ok (.goto 4, 3) := by decide +kernel
theorem dX2_isLeftOf_22 : decode cX2_isLeftOf 22 = .ok (.iconst 0, 1) := by decide +kernel
theorem dX2_isLeftOf_23 : decode cX2_isLeftOf 23 = .ok (.ireturn, 1) := by decide +kernel
theorem dX2_countScrapped_0 : decode cX2_countScrapped 0 = .ok (.iconst 0, 1) := by decide +kernel
theorem dX2_countScrapped_1 : decode cX2_countScrapped 1 = .ok (.istore_n 2, 1) := by decide +kernel
theorem dX2_countScrapped_2 : decode cX2_countScrapped 2 = .ok (.iconst 0, 1) := by decide +kernel
theorem dX2_countScrapped_3 : decode cX2_countScrapped 3 = .ok (.istore_n 3, 1) := by decide +kernel
theorem dX2_countScrapped_4 : decode cX2_countScrapped 4 = .ok (.iload_n 3, 1) := by decide +kernel
theorem dX2_countScrapped_5 : decode cX2_countScrapped 5 = .ok (.aload_n 0, 1) := by decide +kernel
theorem dX2_countScrapped_6 : decode cX2_countScrapped 6 = .ok (.getfield 46, 3) := by decide +kernel
theorem dX2_countScrapped_9 : decode cX2_countScrapped 9 = .ok (.if_icmp .ge 30, 3) := by decide +kernel
theorem dX2_countScrapped_12 : decode cX2_countScrapped 12 = .ok (.aload_n 0, 1) := by decide +kernel
theorem dX2_countScrapped_13 : decode cX2_countScrapped 13 = .ok (.getfield 9, 3) := by decide +kernel
theorem dX2_countScrapped_16 : decode cX2_countScrapped 16 = .ok (.iload_n 3, 1) := by decide +kernel
theorem dX2_countScrapped_17 : decode cX2_countScrapped 17 = .ok (.iaload, 1) := by decide +kernel
theorem dX2_countScrapped_18 : decode cX2_countScrapped 18 = .ok (.iload_n 1, 1) := by decide +kernel
theorem dX2_countScrapped_19 : decode cX2_countScrapped 19 = .ok (.if_icmp .ne 14, 3) := by decide +kernel
theorem dX2_countScrapped_22 : decode cX2_countScrapped 22 = .ok (.aload_n 0, 1) := by decide +kernel
theorem dX2_countScrapped_23 : decode cX2_countScrapped 23 = .ok (.iload_n 3, 1) := by decide +kernel
theorem dX2_countScrapped_24 : decode cX2_countScrapped 24 = .ok (.invokevirtual 60, 3) := by decide +kernel
theorem dX2_countScrapped_27 : decode cX2_countScrapped 27 = .ok (.ifCond .eq 6, 3) := by decide +kernel
theorem dX2_countScrapped_30 : decode cX2_countScrapped 30 = .ok (.iinc 2 1, 3) := by decide +kernel
theorem dX2_countScrapped_33 : decode cX2_countScrapped 33 = .ok (.iinc 3 1, 3) := by decide +kernel
theorem dX2_countScrapped_36 : decode cX2_countScrapped 36 = .ok (.goto (-32), 3) := by decide +kernel
theorem dX2_countScrapped_39 : decode cX2_countScrapped 39 = .ok (.iload_n 2, 1) := by decide +kernel
theorem dX2_countScrapped_40 : decode cX2_countScrapped 40 = .ok (.ireturn, 1) := by decide +kernel
theorem dX2_sumOfLives_0 : decode cX2_sumOfLives 0 = .ok (.iconst 0, 1) := by decide +kernel
theorem dX2_sumOfLives_1 : decode cX2_sumOfLives 1 = .ok (.istore_n 2, 1) := by decide +kernel
theorem dX2_sumOfLives_2 : decode cX2_sumOfLives 2 = .ok (.iconst 0, 1) := by decide +kernel
theorem dX2_sumOfLives_3 : decode cX2_sumOfLives 3 = .ok (.istore_n 3, 1) := by decide +kernel
theorem dX2_sumOfLives_4 : decode cX2_sumOfLives 4 = .ok (.iload_n 3, 1) := by decide +kernel
theorem dX2_sumOfLives_5 : decode cX2_sumOfLives 5 = .ok (.aload_n 0, 1) := by decide +kernel
theorem dX2_sumOfLives_6 : decode cX2_sumOfLives 6 = .ok (.getfield 46, 3) := by decide +kernel
theorem dX2_sumOfLives_9 : decode cX2_sumOfLives 9 = .ok (.if_icmp .ge 43, 3) := by decide +kernel
theorem dX2_sumOfLives_12 : decode cX2_sumOfLives 12 = .ok (.aload_n 0, 1) := by decide +kernel
theorem dX2_sumOfLives_13 : decode cX2_sumOfLives 13 = .ok (.getfield 9, 3) := by decide +kernel
theorem dX2_sumOfLives_16 : decode cX2_sumOfLives 16 = .ok (.iload_n 3, 1) := by decide +kernel
theorem dX2_sumOfLives_17 : decode cX2_sumOfLives 17 = .ok (.iaload, 1) := by decide +kernel
theorem dX2_sumOfLives_18 : decode cX2_sumOfLives 18 = .ok (.iload_n 1, 1) := by decide +kernel
theorem dX2_sumOfLives_19 : decode cX2_sumOfLives 19 = .ok (.if_icmp .ne 27, 3) := by decide +kernel
theorem dX2_sumOfLives_22 : decode cX2_sumOfLives 22 = .ok (.aload_n 0, 1) := by decide +kernel
theorem dX2_sumOfLives_23 : decode cX2_sumOfLives 23 = .ok (.iload_n 3, 1) := by decide +kernel
theorem dX2_sumOfLives_24 : decode cX2_sumOfLives 24 = .ok (.invokevirtual 60, 3) := by decide +kernel
theorem dX2_sumOfLives_27 : decode cX2_sumOfLives 27 = .ok (.ifCond .eq 19, 3) := by decide +kernel
theorem dX2_sumOfLives_30 : decode cX2_sumOfLives 30 = .ok (.iload_n 2, 1) := by decide +kernel
theorem dX2_sumOfLives_31 : decode cX2_sumOfLives 31 = .ok (.aload_n 0, 1) := by decide +kernel
theorem dX2_sumOfLives_32 : decode cX2_sumOfLives 32 = .ok (.getfield 27, 3) := by decide +kernel
theorem dX2_sumOfLives_35 : decode cX2_sumOfLives 35 = .ok (.iload_n 3, 1) := by decide +kernel
theorem dX2_sumOfLives_36 : decode cX2_sumOfLives 36 = .ok (.iaload, 1) := by decide +kernel
theorem dX2_sumOfLives_37 : decode cX2_sumOfLives 37 = .ok (.aload_n 0, 1) := by decide +kernel
theorem dX2_sumOfLives_38 : decode cX2_sumOfLives 38 = .ok (.getfield 24, 3) := by decide +kernel
theorem dX2_sumOfLives_41 : decode cX2_sumOfLives 41 = .ok (.iload_n 3, 1) := by decide +kernel
theorem dX2_sumOfLives_42 : decode cX2_sumOfLives 42 = .ok (.iaload, 1) := by decide +kernel
theorem dX2_sumOfLives_43 : decode cX2_sumOfLives 43 = .ok (.isub, 1) := by decide +kernel
theorem dX2_sumOfLives_44 : decode cX2_sumOfLives 44 = .ok (.iadd, 1) := by decide +kernel
theorem dX2_sumOfLives_45 : decode cX2_sumOfLives 45 = .ok (.istore_n 2, 1) := by decide +kernel
theorem dX2_sumOfLives_46 : decode cX2_sumOfLives 46 = .ok (.iinc 3 1, 3) := by decide +kernel
theorem dX2_sumOfLives_49 : decode cX2_sumOfLives 49 = .ok (.goto (-45), 3) := by decide +kernel
theorem dX2_sumOfLives_52 : decode cX2_sumOfLives 52 = .ok (.iload_n 2, 1) := by decide +kernel
theorem dX2_sumOfLives_53 : decode cX2_sumOfLives 53 = .ok (.ireturn, 1) := by decide +kernel
