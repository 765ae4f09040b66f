theorem dX6_wordOf_61 : decode cX6_wordOf 61 = .ok (.ldc 82, 2) := by decide +kernel
theorem dX6_wordOf_63 : decode cX6_wordOf 63 = .ok (.areturn, 1) := by decide +kernel
theorem dX6_wordOf_64 : decode cX6_wordOf 64 = .ok (.ldc 84, 2) := by decide +kernel
theorem dX6_wordOf_66 : decode cX6_wordOf 66 = .ok (.areturn, 1) := by decide +kernel
theorem dX6_wordOf_67 : decode cX6_wordOf 67 = .ok (.ldc 86, 2) := by decide +kernel
theorem dX6_wordOf_69 : decode cX6_wordOf 69 = .ok (.areturn, 1) := by decide +kernel
theorem dX6_wordOf_70 : decode cX6_wordOf 70 = .ok (.ldc 88, 2) := by decide +kernel
theorem dX6_wordOf_72 : decode cX6_wordOf 72 = .ok (.areturn, 1) := by decide +kernel
theorem dX6_wordOf_73 : decode cX6_wordOf 73 = .ok (.ldc 90, 2) := by decide +kernel
theorem dX6_wordOf_75 : decode cX6_wordOf 75 = .ok (.areturn, 1) := by decide +kernel
theorem dX6_wordOf_76 : decode cX6_wordOf 76 = .ok (.ldc 92, 2) := by decide +kernel
theorem dX6_wordOf_78 : decode cX6_wordOf 78 = .ok (.areturn, 1) := by decide +kernel
theorem dX6_wordOf_79 : decode cX6_wordOf 79 = .ok (.ldc 94, 2) := by decide +kernel
theorem dX6_wordOf_81 : decode cX6_wordOf 81 = .ok (.areturn, 1) := by decide +kernel
theorem dX6_readNumbers_0 : decode cX6_readNumbers 0 = .ok (.aload_n 0, 1) := by decide +kernel
theorem dX6_readNumbers_1 : decode cX6_readNumbers 1 = .ok (.getfield 56, 3) := by decide +kernel
theorem dX6_readNumbers_4 : decode cX6_readNumbers 4 = .ok (.ifCond .lt 14, 3) := by decide +kernel
theorem dX6_readNumbers_7 : decode cX6_readNumbers 7 = .ok (.aload_n 0, 1) := by decide +kernel
theorem dX6_readNumbers_8 : decode cX6_readNumbers 8 = .ok (.getfield 56, 3) := by decide +kernel
theorem dX6_readNumbers_11 : decode cX6_readNumbers 11 = .ok (.getstatic 96, 3) := by decide +kernel
theorem dX6_readNumbers_14 : decode cX6_readNumbers 14 = .ok (.arraylength, 1) := by decide +kernel
theorem dX6_readNumbers_15 : decode cX6_readNumbers 15 = .ok (.if_icmp .lt 7, 3) := by decide +kernel
theorem dX6_readNumbers_18 : decode cX6_readNumbers 18 = .ok (.iconst 0, 1) := by decide +kernel
theorem dX6_readNumbers_19 : decode cX6_readNumbers 19 = .ok (.goto 11, 3) := by decide +kernel
theorem dX6_readNumbers_22 : decode cX6_readNumbers 22 = .ok (.getstatic 96, 3) := by decide +kernel
theorem dX6_readNumbers_25 : decode cX6_readNumbers 25 = .ok (.aload_n 0, 1) := by decide +kernel
theorem dX6_readNumbers_26 : decode cX6_readNumbers 26 = .ok (.getfield 56, 3) := by decide +kernel
theorem dX6_readNumbers_29 : decode cX6_readNumbers 29 = .ok (.iaload, 1) := by decide +kernel
theorem dX6_readNumbers_30 : decode cX6_readNumbers 30 = .ok (.istore_n 1, 1) := by decide +kernel
theorem dX6_readNumbers_31 : decode cX6_readNumbers 31 = .ok (.iconst 0, 1) := by decide +kernel
theorem dX6_readNumbers_32 : decode cX6_readNumbers 32 = .ok (.istore_n 2, 1) := by decide +kernel
theorem dX6_readNumbers_33 : decode cX6_readNumbers 33 = .ok (.iload_n 2, 1) := by decide +kernel
theorem dX6_readNumbers_34 : decode cX6_readNumbers 34 = .ok (.iload_n 1, 1) := by decide +kernel
theorem dX6_readNumbers_35 : decode cX6_readNumbers 35 = .ok (.if_icmp .ge 54, 3) := by decide +kernel
theorem dX6_readNumbers_38 : decode cX6_readNumbers 38 = .ok (.iload_n 2, 1) := by decide +kernel
theorem dX6_readNumbers_39 : decode cX6_readNumbers 39 = .ok (.iconst 4, 1) := by decide +kernel
theorem dX6_readNumbers_40 : decode cX6_readNumbers 40 = .ok (.if_icmp .ge 49, 3) := by decide +kernel
theorem dX6_readNumbers_43 : decode cX6_readNumbers 43 = .ok (.aload_n 0, 1) := by decide +kernel
theorem dX6_readNumbers_44 : decode cX6_readNumbers 44 = .ok (.invokevirtual 32, 3) := by decide +kernel
theorem dX6_readNumbers_47 : decode cX6_readNumbers 47 = .ok (.aload_n 0, 1) := by decide +kernel
theorem dX6_readNumbers_48 : decode cX6_readNumbers 48 = .ok (.getfield 56, 3) := by decide +kernel
theorem dX6_readNumbers_51 : decode cX6_readNumbers 51 = .ok (.bipush 6, 2) := by decide +kernel
theorem dX6_readNumbers_53 : decode cX6_readNumbers 53 = .ok (.if_icmp .ne 20, 3) := by decide +kernel
theorem dX6_readNumbers_56 : decode cX6_readNumbers 56 = .ok (.aload_n 0, 1) := by decide +kernel
theorem dX6_readNumbers_57 : decode cX6_readNumbers 57 = .ok (.invokevirtual 99, 3) := by decide +kernel
theorem dX6_readNumbers_60 : decode cX6_readNumbers 60 = .ok (.ifCond .ne 13, 3) := by decide +kernel
theorem dX6_readNumbers_63 : decode cX6_readNumbers 63 = .ok (.aload_n 0, 1) := by decide +kernel
theorem dX6_readNumbers_64 : decode cX6_readNumbers 64 = .ok (.getfield 15, 3) := by decide +kernel
theorem dX6_readNumbers_67 : decode cX6_readNumbers 67 = .ok (.iload_n 2, 1) := by decide +kernel
theorem dX6_readNumbers_68 : decode cX6_readNumbers 68 = .ok (.iconst (-1), 1) := by decide +kernel
theorem dX6_readNumbers_69 : decode cX6_readNumbers 69 = .ok (.iastore, 1) := by decide +kernel
theorem dX6_readNumbers_70 : decode cX6_readNumbers 70 = .ok (.goto 13, 3) := by decide +kernel
theorem dX6_readNumbers_73 : decode cX6_readNumbers 73 = .ok (.aload_n 0, 1) := by decide +kernel
theorem dX6_readNumbers_74 : decode cX6_readNumbers 74 = .ok (.iload_n 2, 1) := by decide +kernel
theorem dX6_readNumbers_75 : decode cX6_readNumbers 75 = .ok (.invokevirtual 102, 3) := by decide +kernel
theorem dX6_readNumbers_78 : decode cX6_readNumbers 78 = .ok (.ifCond .ne 5, 3) := by decide +kernel
theorem dX6_readNumbers_81 : decode cX6_readNumbers 81 = .ok (.iconst 0, 1) := by decide +kernel
theorem dX6_readNumbers_82 : decode cX6_readNumbers 82 = .ok (.ireturn, 1) := by decide +kernel
theorem dX6_readNumbers_83 : decode cX6_readNumbers 83 = .ok (.iinc 2 1, 3) := by decide +kernel
theorem dX6_readNumbers_86 : decode cX6_readNumbers 86 = .ok (.goto (-53), 3) := by decide +kernel
theorem dX6_readNumbers_89 : decode cX6_readNumbers 89 = .ok (.iconst 1, 1) := by decide +kernel
theorem dX6_readNumbers_90 : decode cX6_readNumbers 90 = .ok (.ireturn, 1) := by decide +kernel
theorem dX6_readNumber_0 : decode cX6_readNumber 0 = .ok (.aload_n 0, 1) := by decide +kernel
theorem dX6_readNumber_1 : decode cX6_readNumber 1 = .ok (.getfield 26, 3) := by decide +kernel
theorem dX6_readNumber_4 : decode cX6_readNumber 4 = .ok (.istore_n 2, 1) := by decide +kernel
theorem dX6_readNumber_5 : decode cX6_readNumber 5 = .ok (.iconst 0, 1) := by decide +kernel
theorem dX6_readNumber_6 : decode cX6_readNumber 6 = .ok (.istore_n 3, 1) := by decide +kernel
theorem dX6_readNumber_7 : decode cX6_readNumber 7 = .ok (.aload_n 0, 1) := by decide +kernel
theorem dX6_readNumber_8 : decode cX6_readNumber 8 = .ok (.getfield 26, 3) := by decide +kernel
theorem dX6_readNumber_11 : decode cX6_readNumber 11 = .ok (.aload_n 0, 1) := by decide +kernel
theorem dX6_readNumber_12 : decode cX6_readNumber 12 = .ok (.getfield 18, 3) := by decide +kernel
theorem dX6_readNumber_15 : decode cX6_readNumber 15 = .ok (.if_icmp .ge 50, 3) := by decide +kernel
theorem dX6_readNumber_18 : decode cX6_readNumber 18 = .ok (.aload_n 0, 1) := by decide +kernel
theorem dX6_readNumber_19 : decode cX6_readNumber 19 = .ok (.invokevirtual 99, 3) := by decide +kernel
theorem dX6_readNumber_22 : decode cX6_readNumber 22 = .ok (.ifCond .eq 43, 3) := by decide +kernel
theorem dX6_readNumber_25 : decode cX6_readNumber 25 = .ok (.aload_n 0, 1) := by decide +kernel
theorem dX6_readNumber_26 : decode cX6_readNumber 26 = .ok (.getfield 26, 3) := by decide +kernel
theorem dX6_readNumber_29 : decode cX6_readNumber 29 = .ok (.iload_n 2, 1) := by decide +kernel
theorem dX6_readNumber_30 : decode cX6_readNumber 30 = .ok (.isub, 1) := by decide +kernel
theorem dX6_readNumber_31 : decode cX6_readNumber 31 = .ok (.iconst 3, 1) := by decide +kernel
theorem dX6_readNumber_32 : decode cX6_readNumber 32 = .ok (.if_icmp .ge 18, 3) := by decide +kernel
theorem dX6_readNumber_35 : decode cX6_readNumber 35 = .ok (.bipush 10, 2) := by decide +kernel
theorem dX6_readNumber_37 : decode cX6_readNumber 37 = .ok (.iload_n 3, 1) := by decide +kernel
theorem dX6_readNumber_38 : decode cX6_readNumber 38 = .ok (.imul, 1) := by decide +kernel
theorem dX6_readNumber_39 : decode cX6_readNumber 39 = .ok (.aload_n 0, 1) := by decide +kernel
theorem dX6_readNumber_40 : decode cX6_readNumber 40 = .ok (.invokevirtual 35, 3) := by decide +kernel
theorem dX6_readNumber_43 : decode cX6_readNumber 43 = .ok (.iadd, 1) := by decide +kernel
theorem dX6_readNumber_44 : decode cX6_readNumber 44 = .ok (.bipush 48, 2) := by decide +kernel
theorem dX6_readNumber_46 : decode cX6_readNumber 46 = .ok (.isub, 1) := by decide +kernel
theorem dX6_readNumber_47 : decode cX6_readNumber 47 = .ok (.goto 4, 3) := by decide +kernel
theorem dX6_readNumber_50 : decode cX6_readNumber 50 = .ok (.iconst (-1), 1) := by decide +kernel
theorem dX6_readNumber_51 : decode cX6_readNumber 51 = .ok (.istore_n 3, 1) := by decide +kernel
theorem dX6_readNumber_52 : decode cX6_readNumber 52 = .ok (.aload_n 0, 1) := by decide +kernel
theorem dX6_readNumber_53 : decode cX6_readNumber 53 = .ok (.dup, 1) := by decide +kernel
theorem dX6_readNumber_54 : decode cX6_readNumber 54 = .ok (.getfield 26, 3) := by decide +kernel
theorem dX6_readNumber_57 : decode cX6_readNumber 57 = .ok (.iconst 1, 1) := by decide +kernel
theorem dX6_readNumber_58 : decode cX6_readNumber 58 = .ok (.iadd, 1) := by decide +kernel
theorem dX6_readNumber_59 : decode cX6_readNumber 59 = .ok (.putfield 26, 3) := by decide +kernel
theorem dX6_readNumber_62 : decode cX6_readNumber 62 = .ok (.goto (-55), 3) := by decide +kernel
theorem dX6_readNumber_65 : decode cX6_readNumber 65 = .ok (.aload_n 0, 1) := by decide +kernel
theorem dX6_readNumber_66 : decode cX6_readNumber 66 = .ok (.getfield 26, 3) := by decide +kernel
theorem dX6_readNumber_69 : decode cX6_readNumber 69 = .ok (.iload_n 2, 1) := by decide +kernel
theorem dX6_readNumber_70 : decode cX6_readNumber 70 = .ok (.if_icmp .eq 24, 3) := by decide +kernel
theorem dX6_readNumber_73 : decode cX6_readNumber 73 = .ok (.aload_n 0, 1) := by decide +kernel
theorem dX6_readNumber_74 : decode cX6_readNumber 74 = .ok (.getfield 56, 3) := by decide +kernel
theorem dX6_readNumber_77 : decode cX6_readNumber 77 = .ok (.iload_n 1, 1) := by decide +kernel
theorem dX6_readNumber_78 : decode cX6_readNumber 78 = .ok (.iload_n 3, 1) := by decide +kernel
theorem dX6_readNumber_79 : decode cX6_readNumber 79 = .ok (.invokestatic 105, 3) := by decide +kernel
theorem dX6_readNumber_82 : decode cX6_readNumber 82 = .ok (.ifCond .eq 12, 3) := by decide +kernel
theorem dX6_readNumber_85 : decode cX6_readNumber 85 = .ok (.iload_n 1, 1) := by decide +kernel
theorem dX6_readNumber_86 : decode cX6_readNumber 86 = .ok (.ifCond .lt 8, 3) := by decide +kernel
theorem dX6_readNumber_89 : decode cX6_readNumber 89 = .ok (.iload_n 1, 1) := by decide +kernel
theorem dX6_readNumber_90 : decode cX6_readNumber 90 = .ok (.iconst 4, 1) := by decide +kernel
theorem dX6_readNumber_91 : decode cX6_readNumber 91 = .ok (.if_icmp .lt 9, 3) := by decide +kernel
theorem dX6_readNumber_94 : decode cX6_readNumber 94 = .ok (.aload_n 0, 1) := by decide +kernel
theorem dX6_readNumber_95 : decode cX6_readNumber 95 = .ok (.iload_n 2, 1) := by decide +kernel
theorem dX6_readNumber_96 : decode cX6_readNumber 96 = .ok (.invokevirtual 39, 3) := by decide +kernel
theorem dX6_readNumber_99 : decode cX6_readNumber 99 = .ok (.ireturn, 1) := by decide +kernel
theorem dX6_readNumber_100 : decode cX6_readNumber 100 = .ok (.aload_n 0, 1) := by decide +kernel
theorem dX6_readNumber_101 : decode cX6_readNumber 101 = .ok (.getfield 15, 3) := by decide +kernel
theorem dX6_readNumber_104 : decode cX6_readNumber 104 = .ok (.iload_n 1, 1) := by decide +kernel
theorem dX6_readNumber_105 : decode cX6_readNumber 105 = .ok (.iload_n 3, 1) := by decide +kernel
theorem dX6_readNumber_106 : decode cX6_readNumber 106 = .ok (.iastore, 1) := by decide +kernel
theorem dX6_readNumber_107 : decode cX6_readNumber 107 = .ok (.iconst 1, 1) := by decide +kernel
theorem dX6_readNumber_108 : decode cX6_readNumber 108 = .ok (.ireturn, 1) := by decide +kernel
theorem dX6_skipBlanks_0 : decode cX6_skipBlanks 0 = .ok (.aload_n 0, 1) := by decide +kernel
theorem dX6_skipBlanks_1 : decode cX6_skipBlanks 1 = .ok (.getfield 26, 3) := by decide +kernel
theorem dX6_skipBlanks_4 : decode cX6_skipBlanks 4 = .ok (.aload_n 0, 1) := by decide +kernel
theorem dX6_skipBlanks_5 : decode cX6_skipBlanks 5 = .ok (.getfield 18, 3) := by decide +kernel
theorem dX6_skipBlanks_8 : decode cX6_skipBlanks 8 = .ok (.if_icmp .ge 25, 3) := by decide +kernel
theorem dX6_skipBlanks_11 : decode cX6_skipBlanks 11 = .ok (.aload_n 0, 1) := by decide +kernel
theorem dX6_skipBlanks_12 : decode cX6_skipBlanks 12 = .ok (.invokevirtual 35, 3) := by decide +kernel
theorem dX6_skipBlanks_15 : decode cX6_skipBlanks 15 = .ok (.bipush 32, 2) := by decide +kernel
theorem dX6_skipBlanks_17 : decode cX6_skipBlanks 17 = .ok (.if_icmp .ne 16, 3) := by decide +kernel
theorem dX6_skipBlanks_20 : decode cX6_skipBlanks 20 = .ok (.aload_n 0, 1) := by decide +kernel
theorem dX6_skipBlanks_21 : decode cX6_skipBlanks 21 = .ok (.dup, 1) := by decide +kernel
theorem dX6_skipBlanks_22 : decode cX6_skipBlanks 22 = .ok (.getfield 26, 3) := by decide +kernel
theorem dX6_skipBlanks_25 : decode cX6_skipBlanks 25 = .ok (.iconst 1, 1) := by decide +kernel
theorem dX6_skipBlanks_26 : decode cX6_skipBlanks 26 = .ok (.iadd, 1) := by decide +kernel
theorem dX6_skipBlanks_27 : decode cX6_skipBlanks 27 = .ok (.putfield 26, 3) := by decide +kernel
theorem dX6_skipBlanks_30 : decode cX6_skipBlanks 30 = .ok (.goto (-30), 3) := by decide +kernel
theorem dX6_skipBlanks_33 : decode cX6_skipBlanks 33 = .ok (.return_, 1) := by decide +kernel
theorem dX6_isDigit_0 : decode cX6_isDigit 0 = .ok (.aload_n 0, 1) := by decide +kernel
theorem dX6_isDigit_1 : decode cX6_isDigit 1 = .ok (.invokevirtual 35, 3) := by decide +kernel
theorem dX6_isDigit_4 : decode cX6_isDigit 4 = .ok (.bipush 48, 2) := by decide +kernel
theorem dX6_isDigit_6 : decode cX6_isDigit 6 = .ok (.if_icmp .lt 16, 3) := by decide +kernel
theorem dX6_isDigit_9 : decode cX6_isDigit 9 = .ok (.aload_n 0, 1) := by decide +kernel
theorem dX6_isDigit_10 : decode cX6_isDigit 10 = .ok (.invokevirtual 35, 3) := by decide +kernel
theorem dX6_isDigit_13 : decode cX6_isDigit 13 = .ok (.bipush 57, 2) := by decide +kernel
theorem dX6_isDigit_15 : decode cX6_isDigit 15 = .ok (.if_icmp .gt 7, 3) := by decide +kernel
theorem dX6_isDigit_18 : decode cX6_isDigit 18 = .ok (.iconst 1, 1) := by decide +kernel
theorem dX6_isDigit_19 : decode cX6_isDigit 19 = .ok (.goto 4, 3) := by decide +kernel
theorem dX6_isDigit_22 : decode cX6_isDigit 22 = .ok (.iconst 0, 1) := by decide +kernel
theorem dX6_isDigit_23 : decode cX6_isDigit 23 = .ok (.ireturn, 1) := by decide +kernel
theorem dX6_here_0 : decode cX6_here 0 = .ok (.aload_n 0, 1) := by decide +kernel
theorem dX6_here_1 : decode cX6_here 1 = .ok (.getfield 26, 3) := by decide +kernel
theorem dX6_here_4 : decode cX6_here 4 = .ok (.ifCond .lt 24, 3) := by decide +kernel
theorem dX6_here_7 : decode cX6_here 7 = .ok (.aload_n 0, 1) := by decide +kernel
theorem dX6_here_8 : decode cX6_here 8 = .ok (.getfield 26, 3) := by decide +kernel
theorem dX6_here_11 : decode cX6_here 11 = .ok (.aload_n 0, 1) := by decide +kernel
theorem dX6_here_12 : decode cX6_here 12 = .ok (.getfield 18, 3) := by decide +kernel
theorem dX6_here_15 : decode cX6_here 15 = .ok (.if_icmp .ge 13, 3) := by decide +kernel
theorem dX6_here_18 : decode cX6_here 18 = .ok (.aload_n 0, 1) := by decide +kernel
theorem dX6_here_19 : decode cX6_here 19 = .ok (.getfield 26, 3) := by decide +kernel
theorem dX6_here_22 : decode cX6_here 22 = .ok (.sipush 400, 3) := by decide +kernel
theorem dX6_here_25 : decode cX6_here 25 = .ok (.if_icmp .lt 7, 3) := by decide +kernel
theorem dX6_here_28 : decode cX6_here 28 = .ok (.iconst (-1), 1) := by decide +kernel
theorem dX6_here_29 : decode cX6_here 29 = .ok (.goto 12, 3) := by decide +kernel
theorem dX6_here_32 : decode cX6_here 32 = .ok (.aload_n 0, 1) := by decide +kernel
theorem dX6_here_33 : decode cX6_here 33 = .ok (.getfield 9, 3) := by decide +kernel
theorem dX6_here_36 : decode cX6_here 36 = .ok (.aload_n 0, 1) := by decide +kernel
theorem dX6_here_37 : decode cX6_here 37 = .ok (.getfield 26, 3) := by decide +kernel
theorem dX6_here_40 : decode cX6_here 40 = .ok (.iaload, 1) := by decide +kernel
theorem dX6_here_41 : decode cX6_here 41 = .ok (.ireturn, 1) := by decide +kernel
theorem dX6_isWrong_0 : decode cX6_isWrong 0 = .ok (.aload_n 0, 1) := by decide +kernel
theorem dX6_isWrong_1 : decode cX6_isWrong 1 = .ok (.iload_n 1, 1) := by decide +kernel
theorem dX6_isWrong_2 : decode cX6_isWrong 2 = .ok (.putfield 29, 3) := by decide +kernel
theorem dX6_isWrong_5 : decode cX6_isWrong 5 = .ok (.iconst 0, 1) := by decide +kernel
theorem dX6_isWrong_6 : decode cX6_isWrong 6 = .ok (.ireturn, 1) := by decide +kernel
theorem dX7_init_0 : decode cX7_init 0 = .ok (.aload_n 0, 1) := by decide +kernel
theorem dX7_init_1 : decode cX7_init 1 = .ok (.invokespecial 1, 3) := by decide +kernel
theorem dX7_init_4 : decode cX7_init 4 = .ok (.return_, 1) := by decide +kernel
theorem dX7_copyFrom_0 : decode cX7_copyFrom 0 = .ok (.aload_n 0, 1) := by decide +kernel
theorem dX7_copyFrom_1 : decode cX7_copyFrom 1 = .ok (.aload_n 1, 1) := by decide +kernel
theorem dX7_copyFrom_2 : decode cX7_copyFrom 2 = .ok (.getfield 7, 3) := by decide +kernel
theorem dX7_copyFrom_5 : decode cX7_copyFrom 5 = .ok (.putfield 7, 3) := by decide +kernel
theorem dX7_copyFrom_8 : decode cX7_copyFrom 8 = .ok (.aload_n 0, 1) := by decide +kernel
theorem dX7_copyFrom_9 : decode cX7_copyFrom 9 = .ok (.aload_n 1, 1) := by decide +kernel
theorem dX7_copyFrom_10 : decode cX7_copyFrom 10 = .ok (.getfield 13, 3) := by decide +kernel
theorem dX7_copyFrom_13 : decode cX7_copyFrom 13 = .ok (.putfield 13, 3) := by decide +kernel
theorem dX7_copyFrom_16 : decode cX7_copyFrom 16 = .ok (.aload_n 0, 1) := by decide +kernel
theorem dX7_copyFrom_17 : decode cX7_copyFrom 17 = .ok (.aload_n 1, 1) := by decide +kernel
theorem dX7_copyFrom_18 : decode cX7_copyFrom 18 = .ok (.getfield 16, 3) := by decide +kernel
theorem dX7_copyFrom_21 : decode cX7_copyFrom 21 = .ok (.putfield 16, 3) := by decide +kernel
theorem dX7_copyFrom_24 : decode cX7_copyFrom 24 = .ok (.aload_n 0, 1) := by decide +kernel
theorem dX7_copyFrom_25 : decode cX7_copyFrom 25 = .ok (.aload_n 1, 1) := by decide +kernel
theorem dX7_copyFrom_26 : decode cX7_copyFrom 26 = .ok (.getfield 19, 3) := by decide +kernel
theorem dX7_copyFrom_29 : decode cX7_copyFrom 29 = .ok (.putfield 19, 3) := by decide +kernel
theorem dX7_copyFrom_32 : decode cX7_copyFrom 32 = .ok (.return_, 1) := by decide +kernel
theorem dX8_init_0 : decode cX8_init 0 = .ok (.aload_n 0, 1) := by decide +kernel
theorem dX8_init_1 : decode cX8_init 1 = .ok (.invokespecial 1, 3) := by decide +kernel
theorem dX8_init_4 : decode cX8_init 4 = .ok (.return_, 1) := by decide +kernel
theorem dX8_copyFrom_0 : decode cX8_copyFrom 0 = .ok (.aload_n 0, 1) := by decide +kernel
theorem dX8_copyFrom_1 : decode cX8_copyFrom 1 = .ok (.aload_n 1, 1) := by decide +kernel
theorem dX8_copyFrom_2 : decode cX8_copyFrom 2 = .ok (.getfield 7, 3) := by decide +kernel
theorem dX8_copyFrom_5 : decode cX8_copyFrom 5 = .ok (.putfield 7, 3) := by decide +kernel
theorem dX8_copyFrom_8 : decode cX8_copyFrom 8 = .ok (.aload_n 0, 1) := by decide +kernel
theorem dX8_copyFrom_9 : decode cX8_copyFrom 9 = .ok (.aload_n 1, 1) := by decide +kernel
theorem dX8_copyFrom_10 : decode cX8_copyFrom 10 = .ok (.getfield 13, 3) := by decide +kernel
theorem dX8_copyFrom_13 : decode cX8_copyFrom 13 = .ok (.putfield 13, 3) := by decide +kernel
theorem dX8_copyFrom_16 : decode cX8_copyFrom 16 = .ok (.aload_n 0, 1) := by decide +kernel
theorem dX8_copyFrom_17 : decode cX8_copyFrom 17 = .ok (.aload_n 1, 1) := by decide +kernel
theorem dX8_copyFrom_18 : decode cX8_copyFrom 18 = .ok (.getfield 16, 3) := by decide +kernel
theorem dX8_copyFrom_21 : decode cX8_copyFrom 21 = .ok (.putfield 16, 3) := by decide +kernel
theorem dX8_copyFrom_24 : decode cX8_copyFrom 24 = .ok (.aload_n 0, 1) := by decide +kernel
theorem dX8_copyFrom_25 : decode cX8_copyFrom 25 = .ok (.aload_n 1, 1) := by decide +kernel
theorem dX8_copyFrom_26 : decode cX8_copyFrom 26 = .ok (.getfield 19, 3) := by decide +kernel
theorem dX8_copyFrom_29 : decode cX8_copyFrom 29 = .ok (.putfield 19, 3) := by decide +kernel
theorem dX8_copyFrom_32 : decode cX8_copyFrom 32 = .ok (.aload_n 0, 1) := by decide +kernel
theorem dX8_copyFrom_33 : decode cX8_copyFrom 33 = .ok (.aload_n 1, 1) := by decide +kernel
theorem dX8_copyFrom_34 : decode cX8_copyFrom 34 = .ok (.getfield 22, 3) := by decide +kernel
theorem dX8_copyFrom_37 : decode cX8_copyFrom 37 = .ok (.putfield 22, 3) := by decide +kernel
theorem dX8_copyFrom_40 : decode cX8_copyFrom 40 = .ok (.return_, 1) := by decide +kernel
theorem dX8_clear_0 : decode cX8_clear 0 = .ok (.aload_n 0, 1) := by decide +kernel
theorem dX8_clear_1 : decode cX8_clear 1 = .ok (.iconst 0, 1) := by decide +kernel
theorem dX8_clear_2 : decode cX8_clear 2 = .ok (.putfield 7, 3) := by decide +kernel
theorem dX8_clear_5 : decode cX8_clear 5 = .ok (.aload_n 0, 1) := by decide +kernel
theorem dX8_clear_6 : decode cX8_clear 6 = .ok (.iconst 0, 1) := by decide +kernel
theorem dX8_clear_7 : decode cX8_clear 7 = .ok (.putfield 13, 3) := by decide +kernel
theorem dX8_clear_10 : decode cX8_clear 10 = .ok (.aload_n 0, 1) := by decide +kernel
theorem dX8_clear_11 : decode cX8_clear 11 = .ok (.iconst 0, 1) := by decide +kernel
theorem dX8_clear_12 : decode cX8_clear 12 = .ok (.putfield 16, 3) := by decide +kernel
theorem dX8_clear_15 : decode cX8_clear 15 = .ok (.aload_n 0, 1) := by decide +kernel
theorem dX8_clear_16 : decode cX8_clear 16 = .ok (.iconst 0, 1) := by decide +kernel
theorem dX8_clear_17 : decode cX8_clear 17 = .ok (.putfield 19, 3) := by decide +kernel
theorem dX8_clear_20 : decode cX8_clear 20 = .ok (.aload_n 0, 1) := by decide +kernel
theorem dX8_clear_21 : decode cX8_clear 21 = .ok (.iconst 0, 1) := by decide +kernel
theorem dX8_clear_22 : decode cX8_clear 22 = .ok (.putfield 22, 3) := by decide +kernel
theorem dX8_clear_25 : decode cX8_clear 25 = .ok (.return_, 1) := by decide +kernel
theorem dX8_ample_0 : decode cX8_ample 0 = .ok (.aload_n 0, 1) := by decide +kernel
theorem dX8_ample_1 : decode cX8_ample 1 = .ok (.getfield 13, 3) := by decide +kernel
theorem dX8_ample_4 : decode cX8_ample 4 = .ok (.ifCond .ne 8, 3) := by decide +kernel
theorem dX8_ample_7 : decode cX8_ample 7 = .ok (.bipush 100, 2) := by decide +kernel
theorem dX8_ample_9 : decode cX8_ample 9 = .ok (.goto 19, 3) := by decide +kernel
theorem dX8_ample_12 : decode cX8_ample 12 = .ok (.ldc2_w 25, 3) := by decide +kernel
theorem dX8_ample_15 : decode cX8_ample 15 = .ok (.aload_n 0, 1) := by decide +kernel
theorem dX8_ample_16 : decode cX8_ample 16 = .ok (.getfield 7, 3) := by decide +kernel
theorem dX8_ample_19 : decode cX8_ample 19 = .ok (.i2l, 1) := by decide +kernel
theorem dX8_ample_20 : decode cX8_ample 20 = .ok (.lmul, 1) := by decide +kernel
theorem dX8_ample_21 : decode cX8_ample 21 = .ok (.aload_n 0, 1) := by decide +kernel
theorem dX8_ample_22 : decode cX8_ample 22 = .ok (.getfield 13, 3) := by decide +kernel
theorem dX8_ample_25 : decode cX8_ample 25 = .ok (.i2l, 1) := by decide +kernel
theorem dX8_ample_26 : decode cX8_ample 26 = .ok (.ldiv, 1) := by decide +kernel
theorem dX8_ample_27 : decode cX8_ample 27 = .ok (.l2i, 1) := by decide +kernel
theorem dX8_ample_28 : decode cX8_ample 28 = .ok (.ireturn, 1) := by decide +kernel
theorem dX9_init_0 : decode cX9_init 0 = .ok (.aload_n 0, 1) := by decide +kernel
theorem dX9_init_1 : decode cX9_init 1 = .ok (.invokespecial 3, 3) := by decide +kernel
theorem dX9_init_4 : decode cX9_init 4 = .ok (.aload_n 0, 1) := by decide +kernel
theorem dX9_init_5 : decode cX9_init 5 = .ok (.sipush 384, 3) := by decide +kernel
theorem dX9_init_8 : decode cX9_init 8 = .ok (.newarray .long, 2) := by decide +kernel
theorem dX9_init_10 : decode cX9_init 10 = .ok (.putfield 9, 3) := by decide +kernel
theorem dX9_init_13 : decode cX9_init 13 = .ok (.aload_n 0, 1) := by decide +kernel
theorem dX9_init_14 : decode cX9_init 14 = .ok (.bipush 6, 2) := by decide +kernel
theorem dX9_init_16 : decode cX9_init 16 = .ok (.newarray .int, 2) := by decide +kernel
theorem dX9_init_18 : decode cX9_init 18 = .ok (.putfield 15, 3) := by decide +kernel
theorem dX9_init_21 : decode cX9_init 21 = .ok (.return_, 1) := by decide +kernel
theorem dX9_copyFrom_0 : decode cX9_copyFrom 0 = .ok (.aload_n 1, 1) := by decide +kernel
theorem dX9_copyFrom_1 : decode cX9_copyFrom 1 = .ok (.getfield 9, 3) := by decide +kernel
theorem dX9_copyFrom_4 : decode cX9_copyFrom 4 = .ok (.iconst 0, 1) := by decide +kernel
theorem dX9_copyFrom_5 : decode cX9_copyFrom 5 = .ok (.aload_n 0, 1) := by decide +kernel
theorem dX9_copyFrom_6 : decode cX9_copyFrom 6 = .ok (.getfield 9, 3) := by decide +kernel
theorem dX9_copyFrom_9 : decode cX9_copyFrom 9 = .ok (.iconst 0, 1) := by decide +kernel
theorem dX9_copyFrom_10 : decode cX9_copyFrom 10 = .ok (.aload_n 0, 1) := by decide +kernel
theorem dX9_copyFrom_11 : decode cX9_copyFrom 11 = .ok (.getfield 9, 3) := by decide +kernel
theorem dX9_copyFrom_14 : decode cX9_copyFrom 14 = .ok (.arraylength, 1) := by decide +kernel
theorem dX9_copyFrom_15 : decode cX9_copyFrom 15 = .ok (.invokestatic 19, 3) := by decide +kernel
theorem dX9_copyFrom_18 : decode cX9_copyFrom 18 = .ok (.aload_n 1, 1) := by decide +kernel
theorem dX9_copyFrom_19 : decode cX9_copyFrom 19 = .ok (.getfield 15, 3) := by decide +kernel
theorem dX9_copyFrom_22 : decode cX9_copyFrom 22 = .ok (.iconst 0, 1) := by decide +kernel
theorem dX9_copyFrom_23 : decode cX9_copyFrom 23 = .ok (.aload_n 0, 1) := by decide +kernel
theorem dX9_copyFrom_24 : decode cX9_copyFrom 24 = .ok (.getfield 15, 3) := by decide +kernel
theorem dX9_copyFrom_27 : decode cX9_copyFrom 27 = .ok (.iconst 0, 1) := by decide +kernel
theorem dX9_copyFrom_28 : decode cX9_copyFrom 28 = .ok (.bipush 6, 2) := by decide +kernel
theorem dX9_copyFrom_30 : decode cX9_copyFrom 30 = .ok (.invokestatic 19, 3) := by decide +kernel
theorem dX9_copyFrom_33 : decode cX9_copyFrom 33 = .ok (.aload_n 0, 1) := by decide +kernel
theorem dX9_copyFrom_34 : decode cX9_copyFrom 34 = .ok (.aload_n 1, 1) := by decide +kernel
theorem dX9_copyFrom_35 : decode cX9_copyFrom 35 = .ok (.getfield 25, 3) := by decide +kernel
theorem dX9_copyFrom_38 : decode cX9_copyFrom 38 = .ok (.putfield 25, 3) := by decide +kernel
theorem dX9_copyFrom_41 : decode cX9_copyFrom 41 = .ok (.return_, 1) := by decide +kernel
theorem dX9_clear_0 : decode cX9_clear 0 = .ok (.iconst 0, 1) := by decide +kernel
theorem dX9_clear_1 : decode cX9_clear 1 = .ok (.istore_n 1, 1) := by decide +kernel
theorem dX9_clear_2 : decode cX9_clear 2 = .ok (.iload_n 1, 1) := by decide +kernel
theorem dX9_clear_3 : decode cX9_clear 3 = .ok (.bipush 6, 2) := by decide +kernel
theorem dX9_clear_5 : decode cX9_clear 5 = .ok (.if_icmp .ge 14, 3) := by decide +kernel
theorem dX9_clear_8 : decode cX9_clear 8 = .ok (.aload_n 0, 1) := by decide +kernel
theorem dX9_clear_9 : decode cX9_clear 9 = .ok (.iload_n 1, 1) := by decide +kernel
theorem dX9_clear_10 : decode cX9_clear 10 = .ok (.invokevirtual 29, 3) := by decide +kernel
theorem dX9_clear_13 : decode cX9_clear 13 = .ok (.iinc 1 1, 3) := by decide +kernel
theorem dX9_clear_16 : decode cX9_clear 16 = .ok (.goto (-14), 3) := by decide +kernel
theorem dX9_clear_19 : decode cX9_clear 19 = .ok (.aload_n 0, 1) := by decide +kernel
theorem dX9_clear_20 : decode cX9_clear 20 = .ok (.iconst 0, 1) := by decide +kernel
theorem dX9_clear_21 : decode cX9_clear 21 = .ok (.putfield 25, 3) := by decide +kernel
theorem dX9_clear_24 : decode cX9_clear 24 = .ok (.return_, 1) := by decide +kernel
theorem dX9_clearLevel_0 : decode cX9_clearLevel 0 = .ok (.iload_n 1, 1) := by decide +kernel
theorem dX9_clearLevel_1 : decode cX9_clearLevel 1 = .ok (.ifCond .lt 9, 3) := by decide +kernel
theorem dX9_clearLevel_4 : decode cX9_clearLevel 4 = .ok (.iload_n 1, 1) := by decide +kernel
theorem dX9_clearLevel_5 : decode cX9_clearLevel 5 = .ok (.bipush 6, 2) := by decide +kernel
theorem dX9_clearLevel_7 : decode cX9_clearLevel 7 = .ok (.if_icmp .lt 4, 3) := by decide +kernel
theorem dX9_clearLevel_10 : decode cX9_clearLevel 10 = .ok (.return_, 1) := by decide +kernel
theorem dX9_clearLevel_11 : decode cX9_clearLevel 11 = .ok (.iconst 0, 1) := by decide +kernel
theorem dX9_clearLevel_12 : decode cX9_clearLevel 12 = .ok (.istore_n 2, 1) := by decide +kernel
theorem dX9_clearLevel_13 : decode cX9_clearLevel 13 = .ok (.iload_n 2, 1) := by decide +kernel
theorem dX9_clearLevel_14 : decode cX9_clearLevel 14 = .ok (.bipush 64, 2) := by decide +kernel
theorem dX9_clearLevel_16 : decode cX9_clearLevel 16 = .ok (.if_icmp .ge 21, 3) := by decide +kernel
theorem dX9_clearLevel_19 : decode cX9_clearLevel 19 = .ok (.aload_n 0, 1) := by decide +kernel
theorem dX9_clearLevel_20 : decode cX9_clearLevel 20 = .ok (.getfield 9, 3) := by decide +kernel
theorem dX9_clearLevel_23 : decode cX9_clearLevel 23 = .ok (.iload_n 1, 1) := by decide +kernel
theorem dX9_clearLevel_24 : decode cX9_clearLevel 24 = .ok (.bipush 64, 2) := by decide +kernel
theorem dX9_clearLevel_26 : decode cX9_clearLevel 26 = .ok (.imul, 1) := by decide +kernel
theorem dX9_clearLevel_27 : decode cX9_clearLevel 27 = .ok (.iload_n 2, 1) := by decide +kernel
theorem dX9_clearLevel_28 : decode cX9_clearLevel 28 = .ok (.iadd, 1) := by decide +kernel
theorem dX9_clearLevel_29 : decode cX9_clearLevel 29 = .ok (.lconst 0, 1) := by decide +kernel
theorem dX9_clearLevel_30 : decode cX9_clearLevel 30 = .ok (.lastore, 1) := by decide +kernel
theorem dX9_clearLevel_31 : decode cX9_clearLevel 31 = .ok (.iinc 2 1, 3) := by decide +kernel
theorem dX9_clearLevel_34 : decode cX9_clearLevel 34 = .ok (.goto (-21), 3) := by decide +kernel
theorem dX9_clearLevel_37 : decode cX9_clearLevel 37 = .ok (.aload_n 0, 1) := by decide +kernel
theorem dX9_clearLevel_38 : decode cX9_clearLevel 38 = .ok (.getfield 15, 3) := by decide +kernel
theorem dX9_clearLevel_41 : decode cX9_clearLevel 41 = .ok (.iload_n 1, 1) := by decide +kernel
theorem dX9_clearLevel_42 : decode cX9_clearLevel 42 = .ok (.iconst 0, 1) := by decide +kernel
theorem dX9_clearLevel_43 : decode cX9_clearLevel 43 = .ok (.iastore, 1) := by decide +kernel
theorem dX9_clearLevel_44 : decode cX9_clearLevel 44 = .ok (.return_, 1) := by decide +kernel
theorem dX9_sizeOf_0 : decode cX9_sizeOf 0 = .ok (.iload_n 1, 1) := by decide +kernel
theorem dX9_sizeOf_1 : decode cX9_sizeOf 1 = .ok (.ifCond .lt 9, 3) := by decide +kernel
theorem dX9_sizeOf_4 : decode cX9_sizeOf 4 = .ok (.iload_n 1, 1) := by decide +kernel
theorem dX9_sizeOf_5 : decode cX9_sizeOf 5 = .ok (.bipush 6, 2) := by decide +kernel
theorem dX9_sizeOf_7 : decode cX9_sizeOf 7 = .ok (.if_icmp .lt 7, 3) := by decide +kernel
theorem dX9_sizeOf_10 : decode cX9_sizeOf 10 = .ok (.iconst 0, 1) := by decide +kernel
theorem dX9_sizeOf_11 : decode cX9_sizeOf 11 = .ok (.goto 9, 3) := by decide +kernel
theorem dX9_sizeOf_14 : decode cX9_sizeOf 14 = .ok (.aload_n 0, 1) := by decide +kernel
theorem dX9_sizeOf_15 : decode cX9_sizeOf 15 = .ok (.getfield 15, 3) := by decide +kernel
theorem dX9_sizeOf_18 : decode cX9_sizeOf 18 = .ok (.iload_n 1, 1) := by decide +kernel
theorem dX9_sizeOf_19 : decode cX9_sizeOf 19 = .ok (.iaload, 1) := by decide +kernel
theorem dX9_sizeOf_20 : decode cX9_sizeOf 20 = .ok (.ireturn, 1) := by decide +kernel
theorem dX9_at_0 : decode cX9_at 0 = .ok (.iload_n 1, 1) := by decide +kernel
theorem dX9_at_1 : decode cX9_at 1 = .ok (.ifCond .lt 19, 3) := by decide +kernel
theorem dX9_at_4 : decode cX9_at 4 = .ok (.iload_n 1, 1) := by decide +kernel
theorem dX9_at_5 : decode cX9_at 5 = .ok (.bipush 6, 2) := by decide +kernel
theorem dX9_at_7 : decode cX9_at 7 = .ok (.if_icmp .ge 13, 3) := by decide +kernel
theorem dX9_at_10 : decode cX9_at 10 = .ok (.iload_n 2, 1) := by decide +kernel
theorem dX9_at_11 : decode cX9_at 11 = .ok (.ifCond .lt 9, 3) := by decide +kernel
theorem dX9_at_14 : decode cX9_at 14 = .ok (.iload_n 2, 1) := by decide +kernel
theorem dX9_at_15 : decode cX9_at 15 = .ok (.bipush 64, 2) := by decide +kernel
theorem dX9_at_17 : decode cX9_at 17 = .ok (.if_icmp .lt 5, 3) := by decide +kernel
theorem dX9_at_20 : decode cX9_at 20 = .ok (.lconst 0, 1) := by decide +kernel
theorem dX9_at_21 : decode cX9_at 21 = .ok (.lreturn, 1) := by decide +kernel
theorem dX9_at_22 : decode cX9_at 22 = .ok (.aload_n 0, 1) := by decide +kernel
theorem dX9_at_23 : decode cX9_at 23 = .ok (.getfield 9, 3) := by decide +kernel
theorem dX9_at_26 : decode cX9_at 26 = .ok (.iload_n 1, 1) := by decide +kernel
theorem dX9_at_27 : decode cX9_at 27 = .ok (.bipush 64, 2) := by decide +kernel
theorem dX9_at_29 : decode cX9_at 29 = .ok (.imul, 1) := by decide +kernel
theorem dX9_at_30 : decode cX9_at 30 = .ok (.iload_n 2, 1) := by decide +kernel
theorem dX9_at_31 : decode cX9_at 31 = .ok (.iadd, 1) := by decide +kernel
theorem dX9_at_32 : decode cX9_at 32 = .ok (.laload, 1) := by decide +kernel
theorem dX9_at_33 : decode cX9_at 33 = .ok (.lreturn, 1) := by decide +kernel
theorem dX9_levelOf_0 : decode cX9_levelOf 0 = .ok (.iconst 0, 1) := by decide +kernel
theorem dX9_levelOf_1 : decode cX9_levelOf 1 = .ok (.istore_n 2, 1) := by decide +kernel
theorem dX9_levelOf_2 : decode cX9_levelOf 2 = .ok (.iload_n 2, 1) := by decide +kernel
theorem dX9_levelOf_3 : decode cX9_levelOf 3 = .ok (.aload_n 0, 1) := by decide +kernel
theorem dX9_levelOf_4 : decode cX9_levelOf 4 = .ok (.getfield 25, 3) := by decide +kernel
theorem dX9_levelOf_7 : decode cX9_levelOf 7 = .ok (.if_icmp .gt 22, 3) := by decide +kernel
theorem dX9_levelOf_10 : decode cX9_levelOf 10 = .ok (.aload_n 0, 1) := by decide +kernel
theorem dX9_levelOf_11 : decode cX9_levelOf 11 = .ok (.iload_n 2, 1) := by decide +kernel
theorem dX9_levelOf_12 : decode cX9_levelOf 12 = .ok (.iload_n 1, 1) := by decide +kernel
theorem dX9_levelOf_13 : decode cX9_levelOf 13 = .ok (.invokevirtual 35, 3) := by decide +kernel
theorem dX9_levelOf_16 : decode cX9_levelOf 16 = .ok (.lconst 0, 1) := by decide +kernel
theorem dX9_levelOf_17 : decode cX9_levelOf 17 = .ok (.lcmp, 1) := by decide +kernel
theorem dX9_levelOf_18 : decode cX9_levelOf 18 = .ok (.ifCond .eq 5, 3) := by decide +kernel
theorem dX9_levelOf_21 : decode cX9_levelOf 21 = .ok (.iload_n 2, 1) := by decide +kernel
theorem dX9_levelOf_22 : decode cX9_levelOf 22 = .ok (.ireturn, 1) := by decide +kernel
theorem dX9_levelOf_23 : decode cX9_levelOf 23 = .ok (.iinc 2 1, 3) := by decide +kernel
theorem dX9_levelOf_26 : decode cX9_levelOf 26 = .ok (.goto (-24), 3) := by decide +kernel
theorem dX9_levelOf_29 : decode cX9_levelOf 29 = .ok (.iconst (-1), 1) := by decide +kernel
theorem dX9_levelOf_30 : decode cX9_levelOf 30 = .ok (.ireturn, 1) := by decide +kernel
theorem dX9_currentOf_0 : decode cX9_currentOf 0 = .ok (.iload_n 1, 1) := by decide +kernel
theorem dX9_currentOf_1 : decode cX9_currentOf 1 = .ok (.ifCond .lt 9, 3) := by decide +kernel
theorem dX9_currentOf_4 : decode cX9_currentOf 4 = .ok (.iload_n 1, 1) := by decide +kernel
theorem dX9_currentOf_5 : decode cX9_currentOf 5 = .ok (.bipush 64, 2) := by decide +kernel
theorem dX9_currentOf_7 : decode cX9_currentOf 7 = .ok (.if_icmp .lt 5, 3) := by decide +kernel
theorem dX9_currentOf_10 : decode cX9_currentOf 10 = .ok (.lconst 0, 1) := by decide +kernel
theorem dX9_currentOf_11 : decode cX9_currentOf 11 = .ok (.lreturn, 1) := by decide +kernel
theorem dX9_currentOf_12 : decode cX9_currentOf 12 = .ok (.aload_n 0, 1) := by decide +kernel
theorem dX9_currentOf_13 : decode cX9_currentOf 13 = .ok (.getfield 25, 3) := by decide +kernel
theorem dX9_currentOf_16 : decode cX9_currentOf 16 = .ok (.iconst 1, 1) := by decide +kernel
theorem dX9_currentOf_17 : decode cX9_currentOf 17 = .ok (.iadd, 1) := by decide +kernel
theorem dX9_currentOf_18 : decode cX9_currentOf 18 = .ok (.bipush 64, 2) := by decide +kernel
theorem dX9_currentOf_20 : decode cX9_currentOf 20 = .ok (.imul, 1) := by decide +kernel
theorem dX9_currentOf_21 : decode cX9_currentOf 21 = .ok (.aload_n 0, 1) := by decide +kernel
theorem dX9_currentOf_22 : decode cX9_currentOf 22 = .ok (.getfield 9, 3) := by decide +kernel
theorem dX9_currentOf_25 : decode cX9_currentOf 25 = .ok (.arraylength, 1) := by decide +kernel
theorem dX9_currentOf_26 : decode cX9_currentOf 26 = .ok (.invokestatic 39, 3) := by decide +kernel
theorem dX9_currentOf_29 : decode cX9_currentOf 29 = .ok (.istore_n 2, 1) := by decide +kernel
theorem dX9_currentOf_30 : decode cX9_currentOf 30 = .ok (.iload_n 1, 1) := by decide +kernel
theorem dX9_currentOf_31 : decode cX9_currentOf 31 = .ok (.istore_n 3, 1) := by decide +kernel
theorem dX9_currentOf_32 : decode cX9_currentOf 32 = .ok (.iload_n 3, 1) := by decide +kernel
theorem dX9_currentOf_33 : decode cX9_currentOf 33 = .ok (.iload_n 2, 1) := by decide +kernel
theorem dX9_currentOf_34 : decode cX9_currentOf 34 = .ok (.if_icmp .ge 27, 3) := by decide +kernel
theorem dX9_currentOf_37 : decode cX9_currentOf 37 = .ok (.aload_n 0, 1) := by decide +kernel
theorem dX9_currentOf_38 : decode cX9_currentOf 38 = .ok (.getfield 9, 3) := by decide +kernel
theorem dX9_currentOf_41 : decode cX9_currentOf 41 = .ok (.iload_n 3, 1) := by decide +kernel
theorem dX9_currentOf_42 : decode cX9_currentOf 42 = .ok (.laload, 1) := by decide +kernel
theorem dX9_currentOf_43 : decode cX9_currentOf 43 = .ok (.lconst 0, 1) := by decide +kernel
theorem dX9_currentOf_44 : decode cX9_currentOf 44 = .ok (.lcmp, 1) := by decide +kernel
theorem dX9_currentOf_45 : decode cX9_currentOf 45 = .ok (.ifCond .eq 10, 3) := by decide +kernel
theorem dX9_currentOf_48 : decode cX9_currentOf 48 = .ok (.aload_n 0, 1) := by decide +kernel
theorem dX9_currentOf_49 : decode cX9_currentOf 49 = .ok (.getfield 9, 3) := by decide +kernel
theorem dX9_currentOf_52 : decode cX9_currentOf 52 = .ok (.iload_n 3, 1) := by decide +kernel
theorem dX9_currentOf_53 : decode cX9_currentOf 53 = .ok (.laload, 1) := by decide +kernel
theorem dX9_currentOf_54 : decode cX9_currentOf 54 = .ok (.lreturn, 1) := by decide +kernel
theorem dX9_currentOf_55 : decode cX9_currentOf 55 = .ok (.iinc 3 64, 3) := by decide +kernel
theorem dX9_currentOf_58 : decode cX9_currentOf 58 = .ok (.goto (-26), 3) := by decide +kernel
theorem dX9_currentOf_61 : decode cX9_currentOf 61 = .ok (.lconst 0, 1) := by decide +kernel
theorem dX9_currentOf_62 : decode cX9_currentOf 62 = .ok (.lreturn, 1) := by decide +kernel
theorem dX9_entriesOf_0 : decode cX9_entriesOf 0 = .ok (.iconst 0, 1) := by decide +kernel
theorem dX9_entriesOf_1 : decode cX9_entriesOf 1 = .ok (.istore_n 2, 1) := by decide +kernel
theorem dX9_entriesOf_2 : decode cX9_entriesOf 2 = .ok (.iconst 0, 1) := by decide +kernel
theorem dX9_entriesOf_3 : decode cX9_entriesOf 3 = .ok (.istore_n 3, 1) := by decide +kernel
theorem dX9_entriesOf_4 : decode cX9_entriesOf 4 = .ok (.iload_n 3, 1) := by decide +kernel
theorem dX9_entriesOf_5 : decode cX9_entriesOf 5 = .ok (.aload_n 0, 1) := by decide +kernel
theorem dX9_entriesOf_6 : decode cX9_entriesOf 6 = .ok (.getfield 25, 3) := by decide +kernel
theorem dX9_entriesOf_9 : decode cX9_entriesOf 9 = .ok (.if_icmp .gt 28, 3) := by decide +kernel
theorem dX9_entriesOf_12 : decode cX9_entriesOf 12 = .ok (.iload_n 2, 1) := by decide +kernel
theorem dX9_entriesOf_13 : decode cX9_entriesOf 13 = .ok (.aload_n 0, 1) := by decide +kernel
theorem dX9_entriesOf_14 : decode cX9_entriesOf 14 = .ok (.iload_n 3, 1) := by decide +kernel
theorem dX9_entriesOf_15 : decode cX9_entriesOf 15 = .ok (.iload_n 1, 1) := by decide +kernel
theorem dX9_entriesOf_16 : decode cX9_entriesOf 16 = .ok (.invokevirtual 35, 3) := by decide +kernel
theorem dX9_entriesOf_19 : decode cX9_entriesOf 19 = .ok (.lconst 0, 1) := by decide +kernel
theorem dX9_entriesOf_20 : decode cX9_entriesOf 20 = .ok (.lcmp, 1) := by decide +kernel
theorem dX9_entriesOf_21 : decode cX9_entriesOf 21 = .ok (.ifCond .ne 7, 3) := by decide +kernel
theorem dX9_entriesOf_24 : decode cX9_entriesOf 24 = .ok (.iconst 0, 1) := by decide +kernel
theorem dX9_entriesOf_25 : decode cX9_entriesOf 25 = .ok (.goto 4, 3) := by decide +kernel
theorem dX9_entriesOf_28 : decode cX9_entriesOf 28 = .ok (.iconst 1, 1) := by decide +kernel
theorem dX9_entriesOf_29 : decode cX9_entriesOf 29 = .ok (.iadd, 1) := by decide +kernel
theorem dX9_entriesOf_30 : decode cX9_entriesOf 30 = .ok (.istore_n 2, 1) := by decide +kernel
theorem dX9_entriesOf_31 : decode cX9_entriesOf 31 = .ok (.iinc 3 1, 3) := by decide +kernel
theorem dX9_entriesOf_34 : decode cX9_entriesOf 34 = .ok (.goto (-30), 3) := by decide +kernel
theorem dX9_entriesOf_37 : decode cX9_entriesOf 37 = .ok (.iload_n 2, 1) := by decide +kernel
theorem dX9_entriesOf_38 : decode cX9_entriesOf 38 = .ok (.ireturn, 1) := by decide +kernel
theorem dX9_runEntries_0 : decode cX9_runEntries 0 = .ok (.iconst 0, 1) := by decide +kernel
theorem dX9_runEntries_1 : decode cX9_runEntries 1 = .ok (.istore_n 1, 1) := by decide +kernel
theorem dX9_runEntries_2 : decode cX9_runEntries 2 = .ok (.iconst 1, 1) := by decide +kernel
theorem dX9_runEntries_3 : decode cX9_runEntries 3 = .ok (.istore_n 2, 1) := by decide +kernel
theorem dX9_runEntries_4 : decode cX9_runEntries 4 = .ok (.iload_n 2, 1) := by decide +kernel
theorem dX9_runEntries_5 : decode cX9_runEntries 5 = .ok (.aload_n 0, 1) := by decide +kernel
theorem dX9_runEntries_6 : decode cX9_runEntries 6 = .ok (.getfield 25, 3) := by decide +kernel
theorem dX9_runEntries_9 : decode cX9_runEntries 9 = .ok (.if_icmp .gt 24, 3) := by decide +kernel
theorem dX9_runEntries_12 : decode cX9_runEntries 12 = .ok (.iload_n 2, 1) := by decide +kernel
theorem dX9_runEntries_13 : decode cX9_runEntries 13 = .ok (.bipush 6, 2) := by decide +kernel
theorem dX9_runEntries_15 : decode cX9_runEntries 15 = .ok (.if_icmp .ge 18, 3) := by decide +kernel
theorem dX9_runEntries_18 : decode cX9_runEntries 18 = .ok (.iload_n 1, 1) := by decide +kernel
theorem dX9_runEntries_19 : decode cX9_runEntries 19 = .ok (.aload_n 0, 1) := by decide +kernel
theorem dX9_runEntries_20 : decode cX9_runEntries 20 = .ok (.getfield 15, 3) := by decide +kernel
theorem dX9_runEntries_23 : decode cX9_runEntries 23 = .ok (.iload_n 2, 1) := by decide +kernel
theorem dX9_runEntries_24 : decode cX9_runEntries 24 = .ok (.iaload, 1) := by decide +kernel
theorem dX9_runEntries_25 : decode cX9_runEntries 25 = .ok (.iadd, 1) := by decide +kernel
theorem dX9_runEntries_26 : decode cX9_runEntries 26 = .ok (.istore_n 1, 1) := by decide +kernel
theorem dX9_runEntries_27 : decode cX9_runEntries 27 = .ok (.iinc 2 1, 3) := by decide +kernel
theorem dX9_runEntries_30 : decode cX9_runEntries 30 = .ok (.goto (-26), 3) := by decide +kernel
theorem dX9_runEntries_33 : decode cX9_runEntries 33 = .ok (.iload_n 1, 1) := by decide +kernel
theorem dX9_runEntries_34 : decode cX9_runEntries 34 = .ok (.ireturn, 1) := by decide +kernel
theorem dX9_keyAt_0 : decode cX9_keyAt 0 = .ok (.iconst 0, 1) := by decide +kernel
theorem dX9_keyAt_1 : decode cX9_keyAt 1 = .ok (.istore_n 3, 1) := by decide +kernel
theorem dX9_keyAt_2 : decode cX9_keyAt 2 = .ok (.iconst 0, 1) := by decide +kernel
theorem dX9_keyAt_3 : decode cX9_keyAt 3 = .ok (.istore 4, 2) := by decide +kernel
theorem dX9_keyAt_5 : decode cX9_keyAt 5 = .ok (.iload 4, 2) := by decide +kernel
theorem dX9_keyAt_7 : decode cX9_keyAt 7 = .ok (.bipush 64, 2) := by decide +kernel
theorem dX9_keyAt_9 : decode cX9_keyAt 9 = .ok (.if_icmp .ge 32, 3) := by decide +kernel
theorem dX9_keyAt_12 : decode cX9_keyAt 12 = .ok (.aload_n 0, 1) := by decide +kernel
theorem dX9_keyAt_13 : decode cX9_keyAt 13 = .ok (.iload_n 1, 1) := by decide +kernel
theorem dX9_keyAt_14 : decode cX9_keyAt 14 = .ok (.iload 4, 2) := by decide +kernel
theorem dX9_keyAt_16 : decode cX9_keyAt 16 = .ok (.invokevirtual 35, 3) := by decide +kernel
theorem dX9_keyAt_19 : decode cX9_keyAt 19 = .ok (.lconst 0, 1) := by decide +kernel
theorem dX9_keyAt_20 : decode cX9_keyAt 20 = .ok (.lcmp, 1) := by decide +kernel
theorem dX9_keyAt_21 : decode cX9_keyAt 21 = .ok (.ifCond .eq 14, 3) := by decide +kernel
theorem dX9_keyAt_24 : decode cX9_keyAt 24 = .ok (.iload_n 3, 1) := by decide +kernel
theorem dX9_keyAt_25 : decode cX9_keyAt 25 = .ok (.iload_n 2, 1) := by decide +kernel
theorem dX9_keyAt_26 : decode cX9_keyAt 26 = .ok (.if_icmp .ne 6, 3) := by decide +kernel
theorem dX9_keyAt_29 : decode cX9_keyAt 29 = .ok (.iload 4, 2) := by decide +kernel
theorem dX9_keyAt_31 : decode cX9_keyAt 31 = .ok (.ireturn, 1) := by decide +kernel
theorem dX9_keyAt_32 : decode cX9_keyAt 32 = .ok (.iinc 3 1, 3) := by decide +kernel
theorem dX9_keyAt_35 : decode cX9_keyAt 35 = .ok (.iinc 4 1, 3) := by decide +kernel
theorem dX9_keyAt_38 : decode cX9_keyAt 38 = .ok (.goto (-33), 3) := by decide +kernel
theorem dX9_keyAt_41 : decode cX9_keyAt 41 = .ok (.iconst (-1), 1) := by decide +kernel
theorem dX9_keyAt_42 : decode cX9_keyAt 42 = .ok (.ireturn, 1) := by decide +kernel
theorem dX9_dropsOf_0 : decode cX9_dropsOf 0 = .ok (.iconst 0, 1) := by decide +kernel
theorem dX9_dropsOf_1 : decode cX9_dropsOf 1 = .ok (.istore_n 2, 1) := by decide +kernel
theorem dX9_dropsOf_2 : decode cX9_dropsOf 2 = .ok (.iconst 0, 1) := by decide +kernel
theorem dX9_dropsOf_3 : decode cX9_dropsOf 3 = .ok (.istore_n 3, 1) := by decide +kernel
theorem dX9_dropsOf_4 : decode cX9_dropsOf 4 = .ok (.iload_n 3, 1) := by decide +kernel
theorem dX9_dropsOf_5 : decode cX9_dropsOf 5 = .ok (.bipush 64, 2) := by decide +kernel
theorem dX9_dropsOf_7 : decode cX9_dropsOf 7 = .ok (.if_icmp .ge 40, 3) := by decide +kernel
theorem dX9_dropsOf_10 : decode cX9_dropsOf 10 = .ok (.aload_n 0, 1) := by decide +kernel
theorem dX9_dropsOf_11 : decode cX9_dropsOf 11 = .ok (.iload_n 1, 1) := by decide +kernel
theorem dX9_dropsOf_12 : decode cX9_dropsOf 12 = .ok (.iload_n 3, 1) := by decide +kernel
theorem dX9_dropsOf_13 : decode cX9_dropsOf 13 = .ok (.invokevirtual 35, 3) := by decide +kernel
theorem dX9_dropsOf_16 : decode cX9_dropsOf 16 = .ok (.lstore 4, 2) := by decide +kernel
theorem dX9_dropsOf_18 : decode cX9_dropsOf 18 = .ok (.iload_n 2, 1) := by decide +kernel
theorem dX9_dropsOf_19 : decode cX9_dropsOf 19 = .ok (.lload 4, 2) := by decide +kernel
theorem dX9_dropsOf_21 : decode cX9_dropsOf 21 = .ok (.lconst 0, 1) := by decide +kernel
theorem dX9_dropsOf_22 : decode cX9_dropsOf 22 = .ok (.lcmp, 1) := by decide +kernel
theorem dX9_dropsOf_23 : decode cX9_dropsOf 23 = .ok (.ifCond .eq 15, 3) := by decide +kernel
theorem dX9_dropsOf_26 : decode cX9_dropsOf 26 = .ok (.lload 4, 2) := by decide +kernel
theorem dX9_dropsOf_28 : decode cX9_dropsOf 28 = .ok (.invokestatic 45, 3) := by decide +kernel
theorem dX9_dropsOf_31 : decode cX9_dropsOf 31 = .ok (.ifCond .eq 7, 3) := by decide +kernel
theorem dX9_dropsOf_34 : decode cX9_dropsOf 34 = .ok (.iconst 1, 1) := by decide +kernel
theorem dX9_dropsOf_35 : decode cX9_dropsOf 35 = .ok (.goto 4, 3) := by decide +kernel
theorem dX9_dropsOf_38 : decode cX9_dropsOf 38 = .ok (.iconst 0, 1) := by decide +kernel
theorem dX9_dropsOf_39 : decode cX9_dropsOf 39 = .ok (.iadd, 1) := by decide +kernel
theorem dX9_dropsOf_40 : decode cX9_dropsOf 40 = .ok (.istore_n 2, 1) := by decide +kernel
theorem dX9_dropsOf_41 : decode cX9_dropsOf 41 = .ok (.iinc 3 1, 3) := by decide +kernel
theorem dX9_dropsOf_44 : decode cX9_dropsOf 44 = .ok (.goto (-40), 3) := by decide +kernel
theorem dX9_dropsOf_47 : decode cX9_dropsOf 47 = .ok (.iload_n 2, 1) := by decide +kernel
theorem dX9_dropsOf_48 : decode cX9_dropsOf 48 = .ok (.ireturn, 1) := by decide +kernel
theorem dX9_currentsOf_0 : decode cX9_currentsOf 0 = .ok (.iconst 0, 1) := by decide +kernel
theorem dX9_currentsOf_1 : decode cX9_currentsOf 1 = .ok (.istore_n 2, 1) := by decide +kernel
theorem dX9_currentsOf_2 : decode cX9_currentsOf 2 = .ok (.iconst 0, 1) := by decide +kernel
theorem dX9_currentsOf_3 : decode cX9_currentsOf 3 = .ok (.istore_n 3, 1) := by decide +kernel
theorem dX9_currentsOf_4 : decode cX9_currentsOf 4 = .ok (.iload_n 3, 1) := by decide +kernel
theorem dX9_currentsOf_5 : decode cX9_currentsOf 5 = .ok (.bipush 64, 2) := by decide +kernel
theorem dX9_currentsOf_7 : decode cX9_currentsOf 7 = .ok (.if_icmp .ge 26, 3) := by decide +kernel
theorem dX9_currentsOf_10 : decode cX9_currentsOf 10 = .ok (.iload_n 2, 1) := by decide +kernel
theorem dX9_currentsOf_11 : decode cX9_currentsOf 11 = .ok (.aload_n 0, 1) := by decide +kernel
theorem dX9_currentsOf_12 : decode cX9_currentsOf 12 = .ok (.iload_n 3, 1) := by decide +kernel
theorem dX9_currentsOf_13 : decode cX9_currentsOf 13 = .ok (.invokevirtual 49, 3) := by decide +kernel
theorem dX9_currentsOf_16 : decode cX9_currentsOf 16 = .ok (.iload_n 1, 1) := by decide +kernel
theorem dX9_currentsOf_17 : decode cX9_currentsOf 17 = .ok (.if_icmp .ne 7, 3) := by decide +kernel
theorem dX9_currentsOf_20 : decode cX9_currentsOf 20 = .ok (.iconst 1, 1) := by decide +kernel
theorem dX9_currentsOf_21 : decode cX9_currentsOf 21 = .ok (.goto 4, 3) := by decide +kernel
theorem dX9_currentsOf_24 : decode cX9_currentsOf 24 = .ok (.iconst 0, 1) := by decide +kernel
theorem dX9_currentsOf_25 : decode cX9_currentsOf 25 = .ok (.iadd, 1) := by decide +kernel
theorem dX9_currentsOf_26 : decode cX9_currentsOf 26 = .ok (.istore_n 2, 1) := by decide +kernel
theorem dX9_currentsOf_27 : decode cX9_currentsOf 27 = .ok (.iinc 3 1, 3) := by decide +kernel
theorem dX9_currentsOf_30 : decode cX9_currentsOf 30 = .ok (.goto (-26), 3) := by decide +kernel
theorem dX9_currentsOf_33 : decode cX9_currentsOf 33 = .ok (.iload_n 2, 1) := by decide +kernel
theorem dX9_currentsOf_34 : decode cX9_currentsOf 34 = .ok (.ireturn, 1) := by decide +kernel
theorem dX9_overlapOf_0 : decode cX9_overlapOf 0 = .ok (.iconst 0, 1) := by decide +kernel
theorem dX9_overlapOf_1 : decode cX9_overlapOf 1 = .ok (.istore_n 3, 1) := by decide +kernel
theorem dX9_overlapOf_2 : decode cX9_overlapOf 2 = .ok (.iconst 0, 1) := by decide +kernel
theorem dX9_overlapOf_3 : decode cX9_overlapOf 3 = .ok (.istore 4, 2) := by decide +kernel
theorem dX9_overlapOf_5 : decode cX9_overlapOf 5 = .ok (.iload 4, 2) := by decide +kernel
theorem dX9_overlapOf_7 : decode cX9_overlapOf 7 = .ok (.bipush 64, 2) := by decide +kernel
theorem dX9_overlapOf_9 : decode cX9_overlapOf 9 = .ok (.if_icmp .ge 41, 3) := by decide +kernel
theorem dX9_overlapOf_12 : decode cX9_overlapOf 12 = .ok (.iload_n 3, 1) := by decide +kernel
theorem dX9_overlapOf_13 : decode cX9_overlapOf 13 = .ok (.aload_n 0, 1) := by decide +kernel
theorem dX9_overlapOf_14 : decode cX9_overlapOf 14 = .ok (.iload_n 1, 1) := by decide +kernel
theorem dX9_overlapOf_15 : decode cX9_overlapOf 15 = .ok (.iload 4, 2) := by decide +kernel
theorem dX9_overlapOf_17 : decode cX9_overlapOf 17 = .ok (.invokevirtual 35, 3) := by decide +kernel
theorem dX9_overlapOf_20 : decode cX9_overlapOf 20 = .ok (.lconst 0, 1) := by decide +kernel
theorem dX9_overlapOf_21 : decode cX9_overlapOf 21 = .ok (.lcmp, 1) := by decide +kernel
theorem dX9_overlapOf_22 : decode cX9_overlapOf 22 = .ok (.ifCond .eq 19, 3) := by decide +kernel
theorem dX9_overlapOf_25 : decode cX9_overlapOf 25 = .ok (.aload_n 0, 1) := by decide +kernel
theorem dX9_overlapOf_26 : decode cX9_overlapOf 26 = .ok (.iload_n 2, 1) := by decide +kernel
theorem dX9_overlapOf_27 : decode cX9_overlapOf 27 = .ok (.iload 4, 2) := by decide +kernel
theorem dX9_overlapOf_29 : decode cX9_overlapOf 29 = .ok (.invokevirtual 35, 3) := by decide +kernel
theorem dX9_overlapOf_32 : decode cX9_overlapOf 32 = .ok (.lconst 0, 1) := by decide +kernel
theorem dX9_overlapOf_33 : decode cX9_overlapOf 33 = .ok (.lcmp, 1) := by decide +kernel
theorem dX9_overlapOf_34 : decode cX9_overlapOf 34 = .ok (.ifCond .eq 7, 3) := by decide +kernel
theorem dX9_overlapOf_37 : decode cX9_overlapOf 37 = .ok (.iconst 1, 1) := by decide +kernel
theorem dX9_overlapOf_38 : decode cX9_overlapOf 38 = .ok (.goto 4, 3) := by decide +kernel
theorem dX9_overlapOf_41 : decode cX9_overlapOf 41 = .ok (.iconst 0, 1) := by decide +kernel
theorem dX9_overlapOf_42 : decode cX9_overlapOf 42 = .ok (.iadd, 1) := by decide +kernel
theorem dX9_overlapOf_43 : decode cX9_overlapOf 43 = .ok (.istore_n 3, 1) := by decide +kernel
theorem dX9_overlapOf_44 : decode cX9_overlapOf 44 = .ok (.iinc 4 1, 3) := by decide +kernel
theorem dX9_overlapOf_47 : decode cX9_overlapOf 47 = .ok (.goto (-42), 3) := by decide +kernel
theorem dX9_overlapOf_50 : decode cX9_overlapOf 50 = .ok (.iload_n 3, 1) := by decide +kernel
theorem dX9_overlapOf_51 : decode cX9_overlapOf 51 = .ok (.ireturn, 1) := by decide +kernel
theorem dX9_isFullFor_0 : decode cX9_isFullFor 0 = .ok (.aload_n 0, 1) := by decide +kernel
theorem dX9_isFullFor_1 : decode cX9_isFullFor 1 = .ok (.getfield 15, 3) := by decide +kernel
theorem dX9_isFullFor_4 : decode cX9_isFullFor 4 = .ok (.iconst 0, 1) := by decide +kernel
theorem dX9_isFullFor_5 : decode cX9_isFullFor 5 = .ok (.iaload, 1) := by decide +kernel
theorem dX9_isFullFor_6 : decode cX9_isFullFor 6 = .ok (.iload_n 2, 1) := by decide +kernel
theorem dX9_isFullFor_7 : decode cX9_isFullFor 7 = .ok (.if_icmp .lt 18, 3) := by decide +kernel
theorem dX9_isFullFor_10 : decode cX9_isFullFor 10 = .ok (.aload_n 0, 1) := by decide +kernel
theorem dX9_isFullFor_11 : decode cX9_isFullFor 11 = .ok (.iconst 0, 1) := by decide +kernel
theorem dX9_isFullFor_12 : decode cX9_isFullFor 12 = .ok (.iload_n 1, 1) := by decide +kernel
theorem dX9_isFullFor_13 : decode cX9_isFullFor 13 = .ok (.invokevirtual 35, 3) := by decide +kernel
theorem dX9_isFullFor_16 : decode cX9_isFullFor 16 = .ok (.lconst 0, 1) := by decide +kernel
theorem dX9_isFullFor_17 : decode cX9_isFullFor 17 = .ok (.lcmp, 1) := by decide +kernel
theorem dX9_isFullFor_18 : decode cX9_isFullFor 18 = .ok (.ifCond .ne 7, 3) := by decide +kernel
theorem dX9_isFullFor_21 : decode cX9_isFullFor 21 = .ok (.iconst 1, 1) := by decide +kernel
theorem dX9_isFullFor_22 : decode cX9_isFullFor 22 = .ok (.goto 4, 3) := by decide +kernel
theorem dX9_isFullFor_25 : decode cX9_isFullFor 25 = .ok (.iconst 0, 1) := by decide +kernel
theorem dX9_isFullFor_26 : decode cX9_isFullFor 26 = .ok (.ireturn, 1) := by decide +kernel
theorem dX9_intoTable_0 : decode cX9_intoTable 0 = .ok (.lload_n 1, 1) := by decide +kernel
theorem dX9_intoTable_1 : decode cX9_intoTable 1 = .ok (.invokestatic 53, 3) := by decide +kernel
theorem dX9_intoTable_4 : decode cX9_intoTable 4 = .ok (.istore_n 3, 1) := by decide +kernel
theorem dX9_intoTable_5 : decode cX9_intoTable 5 = .ok (.aload_n 0, 1) := by decide +kernel
theorem dX9_intoTable_6 : decode cX9_intoTable 6 = .ok (.getfield 15, 3) := by decide +kernel
theorem dX9_intoTable_9 : decode cX9_intoTable 9 = .ok (.iconst 0, 1) := by decide +kernel
theorem dX9_intoTable_10 : decode cX9_intoTable 10 = .ok (.dup2, 1) := by decide +kernel
theorem dX9_intoTable_11 : decode cX9_intoTable 11 = .ok (.iaload, 1) := by decide +kernel
theorem dX9_intoTable_12 : decode cX9_intoTable 12 = .ok (.aload_n 0, 1) := by decide +kernel
theorem dX9_intoTable_13 : decode cX9_intoTable 13 = .ok (.iconst 0, 1) := by decide +kernel
theorem dX9_intoTable_14 : decode cX9_intoTable 14 = .ok (.iload_n 3, 1) := by decide +kernel
theorem dX9_intoTable_15 : decode cX9_intoTable 15 = .ok (.invokevirtual 35, 3) := by decide +kernel
theorem dX9_intoTable_18 : decode cX9_intoTable 18 = .ok (.lconst 0, 1) := by decide +kernel
theorem dX9_intoTable_19 : decode cX9_intoTable 19 = .ok (.lcmp, 1) := by decide +kernel
theorem dX9_intoTable_20 : decode cX9_intoTable 20 = .ok (.ifCond .ne 7, 3) := by decide +kernel
theorem dX9_intoTable_23 : decode cX9_intoTable 23 = .ok (.iconst 1, 1) := by decide +kernel
theorem dX9_intoTable_24 : decode cX9_intoTable 24 = .ok (.goto 4, 3) := by decide +kernel
theorem dX9_intoTable_27 : decode cX9_intoTable 27 = .ok (.iconst 0, 1) := by decide +kernel
theorem dX9_intoTable_28 : decode cX9_intoTable 28 = .ok (.iadd, 1) := by decide +kernel
theorem dX9_intoTable_29 : decode cX9_intoTable 29 = .ok (.iastore, 1) := by decide +kernel
theorem dX9_intoTable_30 : decode cX9_intoTable 30 = .ok (.aload_n 0, 1) := by decide +kernel
theorem dX9_intoTable_31 : decode cX9_intoTable 31 = .ok (.getfield 9, 3) := by decide +kernel
theorem dX9_intoTable_34 : decode cX9_intoTable 34 = .ok (.iload_n 3, 1) := by decide +kernel
theorem dX9_intoTable_35 : decode cX9_intoTable 35 = .ok (.lload_n 1, 1) := by decide +kernel
theorem dX9_intoTable_36 : decode cX9_intoTable 36 = .ok (.lastore, 1) := by decide +kernel
theorem dX9_intoTable_37 : decode cX9_intoTable 37 = .ok (.return_, 1) := by decide +kernel
theorem dX9_tableToRun_0 : decode cX9_tableToRun 0 = .ok (.aload_n 0, 1) := by decide +kernel
theorem dX9_tableToRun_1 : decode cX9_tableToRun 1 = .ok (.getfield 25, 3) := by decide +kernel
theorem dX9_tableToRun_4 : decode cX9_tableToRun 4 = .ok (.ifCond .lt 14, 3) := by decide +kernel
theorem dX9_tableToRun_7 : decode cX9_tableToRun 7 = .ok (.aload_n 0, 1) := by decide +kernel
theorem dX9_tableToRun_8 : decode cX9_tableToRun 8 = .ok (.getfield 25, 3) := by decide +kernel
theorem dX9_tableToRun_11 : decode cX9_tableToRun 11 = .ok (.iconst 1, 1) := by decide +kernel
theorem dX9_tableToRun_12 : decode cX9_tableToRun 12 = .ok (.iadd, 1) := by decide +kernel
theorem dX9_tableToRun_13 : decode cX9_tableToRun 13 = .ok (.bipush 6, 2) := by decide +kernel
theorem dX9_tableToRun_15 : decode cX9_tableToRun 15 = .ok (.if_icmp .lt 4, 3) := by decide +kernel
theorem dX9_tableToRun_18 : decode cX9_tableToRun 18 = .ok (.return_, 1) := by decide +kernel
theorem dX9_tableToRun_19 : decode cX9_tableToRun 19 = .ok (.aload_n 0, 1) := by decide +kernel
theorem dX9_tableToRun_20 : decode cX9_tableToRun 20 = .ok (.getfield 9, 3) := by decide +kernel
theorem dX9_tableToRun_23 : decode cX9_tableToRun 23 = .ok (.iconst 0, 1) := by decide +kernel
theorem dX9_tableToRun_24 : decode cX9_tableToRun 24 = .ok (.aload_n 0, 1) := by decide +kernel
theorem dX9_tableToRun_25 : decode cX9_tableToRun 25 = .ok (.getfield 9, 3) := by decide +kernel
theorem dX9_tableToRun_28 : decode cX9_tableToRun 28 = .ok (.bipush 64, 2) := by decide +kernel
theorem dX9_tableToRun_30 : decode cX9_tableToRun 30 = .ok (.aload_n 0, 1) := by decide +kernel
theorem dX9_tableToRun_31 : decode cX9_tableToRun 31 = .ok (.getfield 25, 3) := by decide +kernel
theorem dX9_tableToRun_34 : decode cX9_tableToRun 34 = .ok (.iconst 1, 1) := by decide +kernel
theorem dX9_tableToRun_35 : decode cX9_tableToRun 35 = .ok (.iadd, 1) := by decide +kernel
theorem dX9_tableToRun_36 : decode cX9_tableToRun 36 = .ok (.bipush 64, 2) := by decide +kernel
theorem dX9_tableToRun_38 : decode cX9_tableToRun 38 = .ok (.imul, 1) := by decide +kernel
theorem dX9_tableToRun_39 : decode cX9_tableToRun 39 = .ok (.invokestatic 19, 3) := by decide +kernel
theorem dX9_tableToRun_42 : decode cX9_tableToRun 42 = .ok (.aload_n 0, 1) := by decide +kernel
theorem dX9_tableToRun_43 : decode cX9_tableToRun 43 = .ok (.getfield 15, 3) := by decide +kernel
theorem dX9_tableToRun_46 : decode cX9_tableToRun 46 = .ok (.iconst 0, 1) := by decide +kernel
theorem dX9_tableToRun_47 : decode cX9_tableToRun 47 = .ok (.aload_n 0, 1) := by decide +kernel
theorem dX9_tableToRun_48 : decode cX9_tableToRun 48 = .ok (.getfield 15, 3) := by decide +kernel
theorem dX9_tableToRun_51 : decode cX9_tableToRun 51 = .ok (.iconst 1, 1) := by decide +kernel
theorem dX9_tableToRun_52 : decode cX9_tableToRun 52 = .ok (.aload_n 0, 1) := by decide +kernel
theorem dX9_tableToRun_53 : decode cX9_tableToRun 53 = .ok (.getfield 25, 3) := by decide +kernel
theorem dX9_tableToRun_56 : decode cX9_tableToRun 56 = .ok (.iconst 1, 1) := by decide +kernel
theorem dX9_tableToRun_57 : decode cX9_tableToRun 57 = .ok (.iadd, 1) := by decide +kernel
theorem dX9_tableToRun_58 : decode cX9_tableToRun 58 = .ok (.invokestatic 19, 3) := by decide +kernel
theorem dX9_tableToRun_61 : decode cX9_tableToRun 61 = .ok (.aload_n 0, 1) := by decide +kernel
theorem dX9_tableToRun_62 : decode cX9_tableToRun 62 = .ok (.iconst 0, 1) := by decide +kernel
theorem dX9_tableToRun_63 : decode cX9_tableToRun 63 = .ok (.invokevirtual 29, 3) := by decide +kernel
theorem dX9_tableToRun_66 : decode cX9_tableToRun 66 = .ok (.aload_n 0, 1) := by decide +kernel
theorem dX9_tableToRun_67 : decode cX9_tableToRun 67 = .ok (.dup, 1) := by decide +kernel
theorem dX9_tableToRun_68 : decode cX9_tableToRun 68 = .ok (.getfield 25, 3) := by decide +kernel
theorem dX9_tableToRun_71 : decode cX9_tableToRun 71 = .ok (.iconst 1, 1) := by decide +kernel
theorem dX9_tableToRun_72 : decode cX9_tableToRun 72 = .ok (.iadd, 1) := by decide +kernel
theorem dX9_tableToRun_73 : decode cX9_tableToRun 73 = .ok (.putfield 25, 3) := by decide +kernel
theorem dX9_tableToRun_76 : decode cX9_tableToRun 76 = .ok (.return_, 1) := by decide +kernel
theorem dX9_foldRuns_0 : decode cX9_foldRuns 0 = .ok (.iconst 0, 1) := by decide +kernel
theorem dX9_foldRuns_1 : decode cX9_foldRuns 1 = .ok (.istore_n 1, 1) := by decide +kernel
theorem dX9_foldRuns_2 : decode cX9_foldRuns 2 = .ok (.iconst 2, 1) := by decide +kernel
theorem dX9_foldRuns_3 : decode cX9_foldRuns 3 = .ok (.istore_n 2, 1) := by decide +kernel
theorem dX9_foldRuns_4 : decode cX9_foldRuns 4 = .ok (.iload_n 2, 1) := by decide +kernel
theorem dX9_foldRuns_5 : decode cX9_foldRuns 5 = .ok (.aload_n 0, 1) := by decide +kernel
theorem dX9_foldRuns_6 : decode cX9_foldRuns 6 = .ok (.getfield 25, 3) := by decide +kernel
theorem dX9_foldRuns_9 : decode cX9_foldRuns 9 = .ok (.if_icmp .gt 82, 3) := by decide +kernel
theorem dX9_foldRuns_12 : decode cX9_foldRuns 12 = .ok (.iload_n 2, 1) := by decide +kernel
theorem dX9_foldRuns_13 : decode cX9_foldRuns 13 = .ok (.bipush 6, 2) := by decide +kernel
theorem dX9_foldRuns_15 : decode cX9_foldRuns 15 = .ok (.if_icmp .ge 76, 3) := by decide +kernel
theorem dX9_foldRuns_18 : decode cX9_foldRuns 18 = .ok (.iconst 0, 1) := by decide +kernel
theorem dX9_foldRuns_19 : decode cX9_foldRuns 19 = .ok (.istore_n 3, 1) := by decide +kernel
theorem dX9_foldRuns_20 : decode cX9_foldRuns 20 = .ok (.iload_n 3, 1) := by decide +kernel
theorem dX9_foldRuns_21 : decode cX9_foldRuns 21 = .ok (.bipush 64, 2) := by decide +kernel
theorem dX9_foldRuns_23 : decode cX9_foldRuns 23 = .ok (.if_icmp .ge 55, 3) := by decide +kernel
theorem dX9_foldRuns_26 : decode cX9_foldRuns 26 = .ok (.aload_n 0, 1) := by decide +kernel
theorem dX9_foldRuns_27 : decode cX9_foldRuns 27 = .ok (.getfield 9, 3) := by decide +kernel
theorem dX9_foldRuns_30 : decode cX9_foldRuns 30 = .ok (.bipush 64, 2) := by decide +kernel
theorem dX9_foldRuns_32 : decode cX9_foldRuns 32 = .ok (.iload_n 3, 1) := by decide +kernel
theorem dX9_foldRuns_33 : decode cX9_foldRuns 33 = .ok (.iadd, 1) := by decide +kernel
theorem dX9_foldRuns_34 : decode cX9_foldRuns 34 = .ok (.laload, 1) := by decide +kernel
theorem dX9_foldRuns_35 : decode cX9_foldRuns 35 = .ok (.lconst 0, 1) := by decide +kernel
theorem dX9_foldRuns_36 : decode cX9_foldRuns 36 = .ok (.lcmp, 1) := by decide +kernel
theorem dX9_foldRuns_37 : decode cX9_foldRuns 37 = .ok (.ifCond .ne 23, 3) := by decide +kernel
theorem dX9_foldRuns_40 : decode cX9_foldRuns 40 = .ok (.aload_n 0, 1) := by decide +kernel
theorem dX9_foldRuns_41 : decode cX9_foldRuns 41 = .ok (.getfield 9, 3) := by decide +kernel
theorem dX9_foldRuns_44 : decode cX9_foldRuns 44 = .ok (.bipush 64, 2) := by decide +kernel
theorem dX9_foldRuns_46 : decode cX9_foldRuns 46 = .ok (.iload_n 3, 1) := by decide +kernel
theorem dX9_foldRuns_47 : decode cX9_foldRuns 47 = .ok (.iadd, 1) := by decide +kernel
theorem dX9_foldRuns_48 : decode cX9_foldRuns 48 = .ok (.aload_n 0, 1) := by decide +kernel
theorem dX9_foldRuns_49 : decode cX9_foldRuns 49 = .ok (.getfield 9, 3) := by decide +kernel
theorem dX9_foldRuns_52 : decode cX9_foldRuns 52 = .ok (.iload_n 2, 1) := by decide +kernel
theorem dX9_foldRuns_53 : decode cX9_foldRuns 53 = .ok (.bipush 64, 2) := by decide +kernel
theorem dX9_foldRuns_55 : decode cX9_foldRuns 55 = .ok (.imul, 1) := by decide +kernel
theorem dX9_foldRuns_56 : decode cX9_foldRuns 56 = .ok (.iload_n 3, 1) := by decide +kernel
theorem dX9_foldRuns_57 : decode cX9_foldRuns 57 = .ok (.iadd, 1) := by decide +kernel
theorem dX9_foldRuns_58 : decode cX9_foldRuns 58 = .ok (.laload, 1) := by decide +kernel
theorem dX9_foldRuns_59 : decode cX9_foldRuns 59 = .ok (.lastore, 1) := by decide +kernel
theorem dX9_foldRuns_60 : decode cX9_foldRuns 60 = .ok (.aload_n 0, 1) := by decide +kernel
theorem dX9_foldRuns_61 : decode cX9_foldRuns 61 = .ok (.getfield 9, 3) := by decide +kernel
theorem dX9_foldRuns_64 : decode cX9_foldRuns 64 = .ok (.iload_n 2, 1) := by decide +kernel
theorem dX9_foldRuns_65 : decode cX9_foldRuns 65 = .ok (.bipush 64, 2) := by decide +kernel
theorem dX9_foldRuns_67 : decode cX9_foldRuns 67 = .ok (.imul, 1) := by decide +kernel
theorem dX9_foldRuns_68 : decode cX9_foldRuns 68 = .ok (.iload_n 3, 1) := by decide +kernel
theorem dX9_foldRuns_69 : decode cX9_foldRuns 69 = .ok (.iadd, 1) := by decide +kernel
theorem dX9_foldRuns_70 : decode cX9_foldRuns 70 = .ok (.lconst 0, 1) := by decide +kernel
theorem dX9_foldRuns_71 : decode cX9_foldRuns 71 = .ok (.lastore, 1) := by decide +kernel
theorem dX9_foldRuns_72 : decode cX9_foldRuns 72 = .ok (.iinc 3 1, 3) := by decide +kernel
theorem dX9_foldRuns_75 : decode cX9_foldRuns 75 = .ok (.goto (-55), 3) := by decide +kernel
theorem dX9_foldRuns_78 : decode cX9_foldRuns 78 = .ok (.aload_n 0, 1) := by decide +kernel
theorem dX9_foldRuns_79 : decode cX9_foldRuns 79 = .ok (.getfield 15, 3) := by decide +kernel
theorem dX9_foldRuns_82 : decode cX9_foldRuns 82 = .ok (.iload_n 2, 1) := by decide +kernel
theorem dX9_foldRuns_83 : decode cX9_foldRuns 83 = .ok (.iconst 0, 1) := by decide +kernel
theorem dX9_foldRuns_84 : decode cX9_foldRuns 84 = .ok (.iastore, 1) := by decide +kernel
theorem dX9_foldRuns_85 : decode cX9_foldRuns 85 = .ok (.iinc 2 1, 3) := by decide +kernel
theorem dX9_foldRuns_88 : decode cX9_foldRuns 88 = .ok (.goto (-84), 3) := by decide +kernel
theorem dX9_foldRuns_91 : decode cX9_foldRuns 91 = .ok (.bipush 64, 2) := by decide +kernel
theorem dX9_foldRuns_93 : decode cX9_foldRuns 93 = .ok (.istore_n 2, 1) := by decide +kernel
theorem dX9_foldRuns_94 : decode cX9_foldRuns 94 = .ok (.iload_n 2, 1) := by decide +kernel
theorem dX9_foldRuns_95 : decode cX9_foldRuns 95 = .ok (.sipush 128, 3) := by decide +kernel
theorem dX9_foldRuns_98 : decode cX9_foldRuns 98 = .ok (.if_icmp .ge 44, 3) := by decide +kernel
theorem dX9_foldRuns_101 : decode cX9_foldRuns 101 = .ok (.aload_n 0, 1) := by decide +kernel
theorem dX9_foldRuns_102 : decode cX9_foldRuns 102 = .ok (.getfield 25, 3) := by decide +kernel
theorem dX9_foldRuns_105 : decode cX9_foldRuns 105 = .ok (.ifCond .le 37, 3) := by decide +kernel
theorem dX9_foldRuns_108 : decode cX9_foldRuns 108 = .ok (.aload_n 0, 1) := by decide +kernel
theorem dX9_foldRuns_109 : decode cX9_foldRuns 109 = .ok (.getfield 9, 3) := by decide +kernel
theorem dX9_foldRuns_112 : decode cX9_foldRuns 112 = .ok (.iload_n 2, 1) := by decide +kernel
theorem dX9_foldRuns_113 : decode cX9_foldRuns 113 = .ok (.laload, 1) := by decide +kernel
theorem dX9_foldRuns_114 : decode cX9_foldRuns 114 = .ok (.ldc2_w 57, 3) := by decide +kernel
theorem dX9_foldRuns_117 : decode cX9_foldRuns 117 = .ok (.land, 1) := by decide +kernel
theorem dX9_foldRuns_118 : decode cX9_foldRuns 118 = .ok (.lconst 0, 1) := by decide +kernel
theorem dX9_foldRuns_119 : decode cX9_foldRuns 119 = .ok (.lcmp, 1) := by decide +kernel
theorem dX9_foldRuns_120 : decode cX9_foldRuns 120 = .ok (.ifCond .ne 13, 3) := by decide +kernel
theorem dX9_foldRuns_123 : decode cX9_foldRuns 123 = .ok (.aload_n 0, 1) := by decide +kernel
theorem dX9_foldRuns_124 : decode cX9_foldRuns 124 = .ok (.getfield 9, 3) := by decide +kernel
theorem dX9_foldRuns_127 : decode cX9_foldRuns 127 = .ok (.iload_n 2, 1) := by decide +kernel
theorem dX9_foldRuns_128 : decode cX9_foldRuns 128 = .ok (.lconst 0, 1) := by decide +kernel
theorem dX9_foldRuns_129 : decode cX9_foldRuns 129 = .ok (.lastore, 1) := by decide +kernel
theorem dX9_foldRuns_130 : decode cX9_foldRuns 130 = .ok (.goto 6, 3) := by decide +kernel
theorem dX9_foldRuns_133 : decode cX9_foldRuns 133 = .ok (.iinc 1 1, 3) := by decide +kernel
theorem dX9_foldRuns_136 : decode cX9_foldRuns 136 = .ok (.iinc 2 1, 3) := by decide +kernel
theorem dX9_foldRuns_139 : decode cX9_foldRuns 139 = .ok (.goto (-45), 3) := by decide +kernel
theorem dX9_foldRuns_142 : decode cX9_foldRuns 142 = .ok (.aload_n 0, 1) := by decide +kernel
theorem dX9_foldRuns_143 : decode cX9_foldRuns 143 = .ok (.getfield 15, 3) := by decide +kernel
theorem dX9_foldRuns_146 : decode cX9_foldRuns 146 = .ok (.iconst 1, 1) := by decide +kernel
theorem dX9_foldRuns_147 : decode cX9_foldRuns 147 = .ok (.iload_n 1, 1) := by decide +kernel
theorem dX9_foldRuns_148 : decode cX9_foldRuns 148 = .ok (.iastore, 1) := by decide +kernel
theorem dX9_foldRuns_149 : decode cX9_foldRuns 149 = .ok (.aload_n 0, 1) := by decide +kernel
theorem dX9_foldRuns_150 : decode cX9_foldRuns 150 = .ok (.iload_n 1, 1) := by decide +kernel
theorem dX9_foldRuns_151 : decode cX9_foldRuns 151 = .ok (.ifCond .ne 7, 3) := by decide +kernel
theorem dX9_foldRuns_154 : decode cX9_foldRuns 154 = .ok (.iconst 0, 1) := by decide +kernel
theorem dX9_foldRuns_155 : decode cX9_foldRuns 155 = .ok (.goto 4, 3) := by decide +kernel
theorem dX9_foldRuns_158 : decode cX9_foldRuns 158 = .ok (.iconst 1, 1) := by decide +kernel
theorem dX9_foldRuns_159 : decode cX9_foldRuns 159 = .ok (.putfield 25, 3) := by decide +kernel
theorem dX9_foldRuns_162 : decode cX9_foldRuns 162 = .ok (.iload_n 1, 1) := by decide +kernel
theorem dX9_foldRuns_163 : decode cX9_foldRuns 163 = .ok (.ireturn, 1) := by decide +kernel
theorem dX10_init_0 : decode cX10_init 0 = .ok (.aload_n 0, 1) := by decide +kernel
theorem dX10_init_1 : decode cX10_init 1 = .ok (.invokespecial 1, 3) := by decide +kernel
theorem dX10_init_4 : decode cX10_init 4 = .ok (.aload_n 0, 1) := by decide +kernel
theorem dX10_init_5 : decode cX10_init 5 = .ok (.new 7, 3) := by decide +kernel
theorem dX10_init_8 : decode cX10_init 8 = .ok (.dup, 1) := by decide +kernel
theorem dX10_init_9 : decode cX10_init 9 = .ok (.invokespecial 9, 3) := by decide +kernel
theorem dX10_init_12 : decode cX10_init 12 = .ok (.putfield 10, 3) := by decide +kernel
theorem dX10_init_15 : decode cX10_init 15 = .ok (.aload_n 0, 1) := by decide +kernel
theorem dX10_init_16 : decode cX10_init 16 = .ok (.new 7, 3) := by decide +kernel
theorem dX10_init_19 : decode cX10_init 19 = .ok (.dup, 1) := by decide +kernel
theorem dX10_init_20 : decode cX10_init 20 = .ok (.invokespecial 9, 3) := by decide +kernel
theorem dX10_init_23 : decode cX10_init 23 = .ok (.putfield 16, 3) := by decide +kernel
theorem dX10_init_26 : decode cX10_init 26 = .ok (.aload_n 0, 1) := by decide +kernel
theorem dX10_init_27 : decode cX10_init 27 = .ok (.new 7, 3) := by decide +kernel
theorem dX10_init_30 : decode cX10_init 30 = .ok (.dup, 1) := by decide +kernel
theorem dX10_init_31 : decode cX10_init 31 = .ok (.invokespecial 9, 3) := by decide +kernel
theorem dX10_init_34 : decode cX10_init 34 = .ok (.putfield 19, 3) := by decide +kernel
theorem dX10_init_37 : decode cX10_init 37 = .ok (.aload_n 0, 1) := by decide +kernel
theorem dX10_init_38 : decode cX10_init 38 = .ok (.new 22, 3) := by decide +kernel
theorem dX10_init_41 : decode cX10_init 41 = .ok (.dup, 1) := by decide +kernel
theorem dX10_init_42 : decode cX10_init 42 = .ok (.invokespecial 24, 3) := by decide +kernel
theorem dX10_init_45 : decode cX10_init 45 = .ok (.putfield 25, 3) := by decide +kernel
theorem dX10_init_48 : decode cX10_init 48 = .ok (.aload_n 0, 1) := by decide +kernel
theorem dX10_init_49 : decode cX10_init 49 = .ok (.new 29, 3) := by decide +kernel
theorem dX10_init_52 : decode cX10_init 52 = .ok (.dup, 1) := by decide +kernel
theorem dX10_init_53 : decode cX10_init 53 = .ok (.invokespecial 31, 3) := by decide +kernel
theorem dX10_init_56 : decode cX10_init 56 = .ok (.putfield 32, 3) := by decide +kernel
theorem dX10_init_59 : decode cX10_init 59 = .ok (.aload_n 0, 1) := by decide +kernel
theorem dX10_init_60 : decode cX10_init 60 = .ok (.bipush 64, 2) := by decide +kernel
theorem dX10_init_62 : decode cX10_init 62 = .ok (.newarray .int, 2) := by decide +kernel
theorem dX10_init_64 : decode cX10_init 64 = .ok (.putfield 36, 3) := by decide +kernel
theorem dX10_init_67 : decode cX10_init 67 = .ok (.aload_n 0, 1) := by decide +kernel
theorem dX10_init_68 : decode cX10_init 68 = .ok (.iconst (-1), 1) := by decide +kernel
theorem dX10_init_69 : decode cX10_init 69 = .ok (.putfield 40, 3) := by decide +kernel
theorem dX10_init_72 : decode cX10_init 72 = .ok (.return_, 1) := by decide +kernel
theorem dX10_feed_0 : decode cX10_feed 0 = .ok (.aload_n 0, 1) := by decide +kernel
theorem dX10_feed_1 : decode cX10_feed 1 = .ok (.getfield 32, 3) := by decide +kernel
theorem dX10_feed_4 : decode cX10_feed 4 = .ok (.bipush 20, 2) := by decide +kernel
theorem dX10_feed_6 : decode cX10_feed 6 = .ok (.invokevirtual 44, 3) := by decide +kernel
theorem dX10_feed_9 : decode cX10_feed 9 = .ok (.ifCond .ne 5, 3) := by decide +kernel
theorem dX10_feed_12 : decode cX10_feed 12 = .ok (.iconst (-1), 1) := by decide +kernel
theorem dX10_feed_13 : decode cX10_feed 13 = .ok (.ireturn, 1) := by decide +kernel
theorem dX10_feed_14 : decode cX10_feed 14 = .ok (.aload_n 0, 1) := by decide +kernel
theorem dX10_feed_15 : decode cX10_feed 15 = .ok (.getfield 32, 3) := by decide +kernel
theorem dX10_feed_18 : decode cX10_feed 18 = .ok (.iload_n 1, 1) := by decide +kernel
theorem dX10_feed_19 : decode cX10_feed 19 = .ok (.invokevirtual 48, 3) := by decide +kernel
theorem dX10_feed_22 : decode cX10_feed 22 = .ok (.aload_n 0, 1) := by decide +kernel
theorem dX10_feed_23 : decode cX10_feed 23 = .ok (.getfield 32, 3) := by decide +kernel
theorem dX10_feed_26 : decode cX10_feed 26 = .ok (.iload_n 2, 1) := by decide +kernel
theorem dX10_feed_27 : decode cX10_feed 27 = .ok (.invokevirtual 48, 3) := by decide +kernel
theorem dX10_feed_30 : decode cX10_feed 30 = .ok (.aload_n 0, 1) := by decide +kernel
theorem dX10_feed_31 : decode cX10_feed 31 = .ok (.getfield 32, 3) := by decide +kernel
theorem dX10_feed_34 : decode cX10_feed 34 = .ok (.iload_n 3, 1) := by decide +kernel
theorem dX10_feed_35 : decode cX10_feed 35 = .ok (.invokevirtual 48, 3) := by decide +kernel
theorem dX10_feed_38 : decode cX10_feed 38 = .ok (.aload_n 0, 1) := by decide +kernel
theorem dX10_feed_39 : decode cX10_feed 39 = .ok (.getfield 32, 3) := by decide +kernel
theorem dX10_feed_42 : decode cX10_feed 42 = .ok (.iload 4, 2) := by decide +kernel
theorem dX10_feed_44 : decode cX10_feed 44 = .ok (.invokevirtual 48, 3) := by decide +kernel
theorem dX10_feed_47 : decode cX10_feed 47 = .ok (.aload_n 0, 1) := by decide +kernel
theorem dX10_feed_48 : decode cX10_feed 48 = .ok (.getfield 32, 3) := by decide +kernel
theorem dX10_feed_51 : decode cX10_feed 51 = .ok (.iload 5, 2) := by decide +kernel
theorem dX10_feed_53 : decode cX10_feed 53 = .ok (.invokevirtual 48, 3) := by decide +kernel
theorem dX10_feed_56 : decode cX10_feed 56 = .ok (.aload_n 0, 1) := by decide +kernel
theorem dX10_feed_57 : decode cX10_feed 57 = .ok (.getfield 32, 3) := by decide +kernel
theorem dX10_feed_60 : decode cX10_feed 60 = .ok (.getfield 52, 3) := by decide +kernel
theorem dX10_feed_63 : decode cX10_feed 63 = .ok (.ireturn, 1) := by decide +kernel
theorem dX10_end_0 : decode cX10_end 0 = .ok (.iload_n 1, 1) := by decide +kernel
theorem dX10_end_1 : decode cX10_end 1 = .ok (.ifCond .lt 14, 3) := by decide +kernel
theorem dX10_end_4 : decode cX10_end 4 = .ok (.iload_n 1, 1) := by decide +kernel
theorem dX10_end_5 : decode cX10_end 5 = .ok (.aload_n 0, 1) := by decide +kernel
theorem dX10_end_6 : decode cX10_end 6 = .ok (.getfield 32, 3) := by decide +kernel
theorem dX10_end_9 : decode cX10_end 9 = .ok (.getfield 52, 3) := by decide +kernel
theorem dX10_end_12 : decode cX10_end 12 = .ok (.if_icmp .le 5, 3) := by decide +kernel
theorem dX10_end_15 : decode cX10_end 15 = .ok (.iconst 0, 1) := by decide +kernel
theorem dX10_end_16 : decode cX10_end 16 = .ok (.ireturn, 1) := by decide +kernel
theorem dX10_end_17 : decode cX10_end 17 = .ok (.aload_n 0, 1) := by decide +kernel
theorem dX10_end_18 : decode cX10_end 18 = .ok (.getfield 32, 3) := by decide +kernel
theorem dX10_end_21 : decode cX10_end 21 = .ok (.iload_n 1, 1) := by decide +kernel
theorem dX10_end_22 : decode cX10_end 22 = .ok (.putfield 52, 3) := by decide +kernel
theorem dX10_end_25 : decode cX10_end 25 = .ok (.iconst 1, 1) := by decide +kernel
theorem dX10_end_26 : decode cX10_end 26 = .ok (.ireturn, 1) := by decide +kernel
theorem dX10_acts_0 : decode cX10_acts 0 = .ok (.iconst 0, 1) := by decide +kernel
theorem dX10_acts_1 : decode cX10_acts 1 = .ok (.istore_n 1, 1) := by decide +kernel
theorem dX10_acts_2 : decode cX10_acts 2 = .ok (.iconst 0, 1) := by decide +kernel
theorem dX10_acts_3 : decode cX10_acts 3 = .ok (.istore_n 2, 1) := by decide +kernel
theorem dX10_acts_4 : decode cX10_acts 4 = .ok (.aload_n 0, 1) := by decide +kernel
theorem dX10_acts_5 : decode cX10_acts 5 = .ok (.getfield 16, 3) := by decide +kernel
theorem dX10_acts_8 : decode cX10_acts 8 = .ok (.aload_n 0, 1) := by decide +kernel
theorem dX10_acts_9 : decode cX10_acts 9 = .ok (.getfield 10, 3) := by decide +kernel
theorem dX10_acts_12 : decode cX10_acts 12 = .ok (.invokevirtual 55, 3) := by decide +kernel
theorem dX10_acts_15 : decode cX10_acts 15 = .ok (.aload_n 0, 1) := by decide +kernel
theorem dX10_acts_16 : decode cX10_acts 16 = .ok (.getfield 32, 3) := by decide +kernel
theorem dX10_acts_19 : decode cX10_acts 19 = .ok (.invokevirtual 59, 3) := by decide +kernel
theorem dX10_acts_22 : decode cX10_acts 22 = .ok (.iload_n 1, 1) := by decide +kernel
theorem dX10_acts_23 : decode cX10_acts 23 = .ok (.bipush 14, 2) := by decide +kernel
theorem dX10_acts_25 : decode cX10_acts 25 = .ok (.if_icmp .gt 106, 3) := by decide +kernel
theorem dX10_acts_28 : decode cX10_acts 28 = .ok (.iload_n 2, 1) := by decide +kernel
theorem dX10_acts_29 : decode cX10_acts 29 = .ok (.ifCond .ne 102, 3) := by decide +kernel
theorem dX10_acts_32 : decode cX10_acts 32 = .ok (.aload_n 0, 1) := by decide +kernel
theorem dX10_acts_33 : decode cX10_acts 33 = .ok (.getfield 32, 3) := by decide +kernel
theorem dX10_acts_36 : decode cX10_acts 36 = .ok (.iload_n 1, 1) := by decide +kernel
theorem dX10_acts_37 : decode cX10_acts 37 = .ok (.invokevirtual 62, 3) := by decide +kernel
theorem dX10_acts_40 : decode cX10_acts 40 = .ok (.ifCond .eq 91, 3) := by decide +kernel
theorem dX10_acts_43 : decode cX10_acts 43 = .ok (.aload_n 0, 1) := by decide +kernel
theorem dX10_acts_44 : decode cX10_acts 44 = .ok (.getfield 10, 3) := by decide +kernel
theorem dX10_acts_47 : decode cX10_acts 47 = .ok (.aload_n 0, 1) := by decide +kernel
theorem dX10_acts_48 : decode cX10_acts 48 = .ok (.getfield 32, 3) := by decide +kernel
theorem dX10_acts_51 : decode cX10_acts 51 = .ok (.getfield 65, 3) := by decide +kernel
theorem dX10_acts_54 : decode cX10_acts 54 = .ok (.aload_n 0, 1) := by decide +kernel
theorem dX10_acts_55 : decode cX10_acts 55 = .ok (.getfield 32, 3) := by decide +kernel
theorem dX10_acts_58 : decode cX10_acts 58 = .ok (.iconst 0, 1) := by decide +kernel
theorem dX10_acts_59 : decode cX10_acts 59 = .ok (.invokevirtual 68, 3) := by decide +kernel
theorem dX10_acts_62 : decode cX10_acts 62 = .ok (.aload_n 0, 1) := by decide +kernel
theorem dX10_acts_63 : decode cX10_acts 63 = .ok (.getfield 32, 3) := by decide +kernel
theorem dX10_acts_66 : decode cX10_acts 66 = .ok (.iconst 1, 1) := by decide +kernel
theorem dX10_acts_67 : decode cX10_acts 67 = .ok (.invokevirtual 68, 3) := by decide +kernel
theorem dX10_acts_70 : decode cX10_acts 70 = .ok (.invokevirtual 72, 3) := by decide +kernel
theorem dX10_acts_73 : decode cX10_acts 73 = .ok (.istore_n 2, 1) := by decide +kernel
theorem dX10_acts_74 : decode cX10_acts 74 = .ok (.iload_n 2, 1) := by decide +kernel
theorem dX10_acts_75 : decode cX10_acts 75 = .ok (.ifCond .ne (-53), 3) := by decide +kernel
theorem dX10_acts_78 : decode cX10_acts 78 = .ok (.aload_n 0, 1) := by decide +kernel
theorem dX10_acts_79 : decode cX10_acts 79 = .ok (.getfield 10, 3) := by decide +kernel
theorem dX10_acts_82 : decode cX10_acts 82 = .ok (.aload_n 0, 1) := by decide +kernel
theorem dX10_acts_83 : decode cX10_acts 83 = .ok (.getfield 32, 3) := by decide +kernel
theorem dX10_acts_86 : decode cX10_acts 86 = .ok (.getfield 65, 3) := by decide +kernel
theorem dX10_acts_89 : decode cX10_acts 89 = .ok (.aload_n 0, 1) := by decide +kernel
theorem dX10_acts_90 : decode cX10_acts 90 = .ok (.getfield 32, 3) := by decide +kernel
theorem dX10_acts_93 : decode cX10_acts 93 = .ok (.iconst 0, 1) := by decide +kernel
theorem dX10_acts_94 : decode cX10_acts 94 = .ok (.invokevirtual 68, 3) := by decide +kernel
theorem dX10_acts_97 : decode cX10_acts 97 = .ok (.aload_n 0, 1) := by decide +kernel
theorem dX10_acts_98 : decode cX10_acts 98 = .ok (.getfield 32, 3) := by decide +kernel
theorem dX10_acts_101 : decode cX10_acts 101 = .ok (.iconst 1, 1) := by decide +kernel
theorem dX10_acts_102 : decode cX10_acts 102 = .ok (.invokevirtual 68, 3) := by decide +kernel
theorem dX10_acts_105 : decode cX10_acts 105 = .ok (.aload_n 0, 1) := by decide +kernel
theorem dX10_acts_106 : decode cX10_acts 106 = .ok (.getfield 32, 3) := by decide +kernel
theorem dX10_acts_109 : decode cX10_acts 109 = .ok (.iconst 2, 1) := by decide +kernel
theorem dX10_acts_110 : decode cX10_acts 110 = .ok (.invokevirtual 68, 3) := by decide +kernel
theorem dX10_acts_113 : decode cX10_acts 113 = .ok (.aload_n 0, 1) := by decide +kernel
theorem dX10_acts_114 : decode cX10_acts 114 = .ok (.getfield 32, 3) := by decide +kernel
theorem dX10_acts_117 : decode cX10_acts 117 = .ok (.iconst 3, 1) := by decide +kernel
theorem dX10_acts_118 : decode cX10_acts 118 = .ok (.invokevirtual 68, 3) := by decide +kernel
theorem dX10_acts_121 : decode cX10_acts 121 = .ok (.invokevirtual 76, 3) := by decide +kernel
theorem dX10_acts_124 : decode cX10_acts 124 = .ok (.pop, 1) := by decide +kernel
theorem dX10_acts_125 : decode cX10_acts 125 = .ok (.iinc 1 1, 3) := by decide +kernel
theorem dX10_acts_128 : decode cX10_acts 128 = .ok (.goto (-106), 3) := by decide +kernel
theorem dX10_acts_131 : decode cX10_acts 131 = .ok (.aload_n 0, 1) := by decide +kernel
theorem dX10_acts_132 : decode cX10_acts 132 = .ok (.getfield 32, 3) := by decide +kernel
theorem dX10_acts_135 : decode cX10_acts 135 = .ok (.iconst 0, 1) := by decide +kernel
theorem dX10_acts_136 : decode cX10_acts 136 = .ok (.putfield 52, 3) := by decide +kernel
theorem dX10_acts_139 : decode cX10_acts 139 = .ok (.aload_n 0, 1) := by decide +kernel
theorem dX10_acts_140 : decode cX10_acts 140 = .ok (.iload_n 2, 1) := by decide +kernel
theorem dX10_acts_141 : decode cX10_acts 141 = .ok (.ifCond .ne 13, 3) := by decide +kernel
theorem dX10_acts_144 : decode cX10_acts 144 = .ok (.aload_n 0, 1) := by decide +kernel
theorem dX10_acts_145 : decode cX10_acts 145 = .ok (.getfield 32, 3) := by decide +kernel
theorem dX10_acts_148 : decode cX10_acts 148 = .ok (.getfield 80, 3) := by decide +kernel
theorem dX10_acts_151 : decode cX10_acts 151 = .ok (.goto 10, 3) := by decide +kernel
theorem dX10_acts_154 : decode cX10_acts 154 = .ok (.aload_n 0, 1) := by decide +kernel
theorem dX10_acts_155 : decode cX10_acts 155 = .ok (.getfield 32, 3) := by decide +kernel
theorem dX10_acts_158 : decode cX10_acts 158 = .ok (.getfield 83, 3) := by decide +kernel
theorem dX10_acts_161 : decode cX10_acts 161 = .ok (.putfield 40, 3) := by decide +kernel
theorem dX10_acts_164 : decode cX10_acts 164 = .ok (.aload_n 0, 1) := by decide +kernel
theorem dX10_acts_165 : decode cX10_acts 165 = .ok (.getfield 40, 3) := by decide +kernel
theorem dX10_acts_168 : decode cX10_acts 168 = .ok (.iconst (-1), 1) := by decide +kernel
theorem dX10_acts_169 : decode cX10_acts 169 = .ok (.if_icmp .eq 40, 3) := by decide +kernel
theorem dX10_acts_172 : decode cX10_acts 172 = .ok (.aload_n 0, 1) := by decide +kernel
theorem dX10_acts_173 : decode cX10_acts 173 = .ok (.getfield 10, 3) := by decide +kernel
theorem dX10_acts_176 : decode cX10_acts 176 = .ok (.aload_n 0, 1) := by decide +kernel
theorem dX10_acts_177 : decode cX10_acts 177 = .ok (.getfield 16, 3) := by decide +kernel
theorem dX10_acts_180 : decode cX10_acts 180 = .ok (.invokevirtual 55, 3) := by decide +kernel
theorem dX10_acts_183 : decode cX10_acts 183 = .ok (.aload_n 0, 1) := by decide +kernel
theorem dX10_acts_184 : decode cX10_acts 184 = .ok (.iload_n 2, 1) := by decide +kernel
theorem dX10_acts_185 : decode cX10_acts 185 = .ok (.ifCond .ne 10, 3) := by decide +kernel
theorem dX10_acts_188 : decode cX10_acts 188 = .ok (.aload_n 0, 1) := by decide +kernel
theorem dX10_acts_189 : decode cX10_acts 189 = .ok (.getfield 86, 3) := by decide +kernel
theorem dX10_acts_192 : decode cX10_acts 192 = .ok (.goto 4, 3) := by decide +kernel
theorem dX10_acts_195 : decode cX10_acts 195 = .ok (.iload_n 2, 1) := by decide +kernel
theorem dX10_acts_196 : decode cX10_acts 196 = .ok (.putfield 86, 3) := by decide +kernel
theorem dX10_acts_199 : decode cX10_acts 199 = .ok (.new 89, 3) := by decide +kernel
theorem dX10_acts_202 : decode cX10_acts 202 = .ok (.dup, 1) := by decide +kernel
theorem dX10_acts_203 : decode cX10_acts 203 = .ok (.ldc 91, 2) := by decide +kernel
theorem dX10_acts_205 : decode cX10_acts 205 = .ok (.invokespecial 93, 3) := by decide +kernel
theorem dX10_acts_208 : decode cX10_acts 208 = .ok (.athrow, 1) := by decide +kernel
theorem dX10_acts_209 : decode cX10_acts 209 = .ok (.aload_n 0, 1) := by decide +kernel
theorem dX10_acts_210 : decode cX10_acts 210 = .ok (.getfield 25, 3) := by decide +kernel
theorem dX10_acts_213 : decode cX10_acts 213 = .ok (.invokevirtual 96, 3) := by decide +kernel
theorem dX10_acts_216 : decode cX10_acts 216 = .ok (.aload_n 0, 1) := by decide +kernel
theorem dX10_acts_217 : decode cX10_acts 217 = .ok (.iload_n 1, 1) := by decide +kernel
theorem dX10_acts_218 : decode cX10_acts 218 = .ok (.ifCond .ne 10, 3) := by decide +kernel
theorem dX10_acts_221 : decode cX10_acts 221 = .ok (.aload_n 0, 1) := by decide +kernel
theorem dX10_acts_222 : decode cX10_acts 222 = .ok (.getfield 86, 3) := by decide +kernel
theorem dX10_acts_225 : decode cX10_acts 225 = .ok (.goto 4, 3) := by decide +kernel
theorem dX10_acts_228 : decode cX10_acts 228 = .ok (.iconst 0, 1) := by decide +kernel
theorem dX10_acts_229 : decode cX10_acts 229 = .ok (.putfield 86, 3) := by decide +kernel
theorem dX10_acts_232 : decode cX10_acts 232 = .ok (.iload_n 1, 1) := by decide +kernel
theorem dX10_acts_233 : decode cX10_acts 233 = .ok (.ireturn, 1) := by decide +kernel
theorem dX10_fault_0 : decode cX10_fault 0 = .ok (.aload_n 0, 1) := by decide +kernel
theorem dX10_fault_1 : decode cX10_fault 1 = .ok (.getfield 40, 3) := by decide +kernel
theorem dX10_fault_4 : decode cX10_fault 4 = .ok (.ireturn, 1) := by decide +kernel
theorem dX10_why_0 : decode cX10_why 0 = .ok (.aload_n 0, 1) := by decide +kernel
theorem dX10_why_1 : decode cX10_why 1 = .ok (.getfield 86, 3) := by decide +kernel
theorem dX10_why_4 : decode cX10_why 4 = .ok (.ireturn, 1) := by decide +kernel
theorem dX10_store_0 : decode cX10_store 0 = .ok (.iconst 0, 1) := by decide +kernel
theorem dX10_store_1 : decode cX10_store 1 = .ok (.iconst 0, 1) := by decide +kernel
theorem dX10_store_2 : decode cX10_store 2 = .ok (.iload_n 1, 1) := by decide +kernel
theorem dX10_store_3 : decode cX10_store 3 = .ok (.invokestatic 99, 3) := by decide +kernel
theorem dX10_store_6 : decode cX10_store 6 = .ok (.ifCond .eq 31, 3) := by decide +kernel
theorem dX10_store_9 : decode cX10_store 9 = .ok (.iconst 0, 1) := by decide +kernel
theorem dX10_store_10 : decode cX10_store 10 = .ok (.iconst 1, 1) := by decide +kernel
theorem dX10_store_11 : decode cX10_store 11 = .ok (.iload_n 2, 1) := by decide +kernel
theorem dX10_store_12 : decode cX10_store 12 = .ok (.invokestatic 99, 3) := by decide +kernel
theorem dX10_store_15 : decode cX10_store 15 = .ok (.ifCond .eq 22, 3) := by decide +kernel
theorem dX10_store_18 : decode cX10_store 18 = .ok (.iconst 0, 1) := by decide +kernel
theorem dX10_store_19 : decode cX10_store 19 = .ok (.iconst 2, 1) := by decide +kernel
theorem dX10_store_20 : decode cX10_store 20 = .ok (.iload_n 3, 1) := by decide +kernel
theorem dX10_store_21 : decode cX10_store 21 = .ok (.invokestatic 99, 3) := by decide +kernel
theorem dX10_store_24 : decode cX10_store 24 = .ok (.ifCond .eq 13, 3) := by decide +kernel
theorem dX10_store_27 : decode cX10_store 27 = .ok (.iconst 0, 1) := by decide +kernel
theorem dX10_store_28 : decode cX10_store 28 = .ok (.iconst 3, 1) := by decide +kernel
theorem dX10_store_29 : decode cX10_store 29 = .ok (.iload 4, 2) := by decide +kernel
theorem dX10_store_31 : decode cX10_store 31 = .ok (.invokestatic 99, 3) := by decide +kernel
theorem dX10_store_34 : decode cX10_store 34 = .ok (.ifCond .ne 13, 3) := by decide +kernel
theorem dX10_store_37 : decode cX10_store 37 = .ok (.new 89, 3) := by decide +kernel
theorem dX10_store_40 : decode cX10_store 40 = .ok (.dup, 1) := by decide +kernel
theorem dX10_store_41 : decode cX10_store 41 = .ok (.ldc 103, 2) := by decide +kernel
theorem dX10_store_43 : decode cX10_store 43 = .ok (.invokespecial 93, 3) := by decide +kernel
theorem dX10_store_46 : decode cX10_store 46 = .ok (.athrow, 1) := by decide +kernel
theorem dX10_store_47 : decode cX10_store 47 = .ok (.aload_n 0, 1) := by decide +kernel
theorem dX10_store_48 : decode cX10_store 48 = .ok (.iconst 0, 1) := by decide +kernel
theorem dX10_store_49 : decode cX10_store 49 = .ok (.putfield 86, 3) := by decide +kernel
theorem dX10_store_52 : decode cX10_store 52 = .ok (.aload_n 0, 1) := by decide +kernel
theorem dX10_store_53 : decode cX10_store 53 = .ok (.getfield 25, 3) := by decide +kernel
theorem dX10_store_56 : decode cX10_store 56 = .ok (.invokevirtual 96, 3) := by decide +kernel
theorem dX10_store_59 : decode cX10_store 59 = .ok (.aload_n 0, 1) := by decide +kernel
theorem dX10_store_60 : decode cX10_store 60 = .ok (.getfield 10, 3) := by decide +kernel
theorem dX10_store_63 : decode cX10_store 63 = .ok (.iconst 0, 1) := by decide +kernel
theorem dX10_store_64 : decode cX10_store 64 = .ok (.iload_n 1, 1) := by decide +kernel
theorem dX10_store_65 : decode cX10_store 65 = .ok (.iload_n 2, 1) := by decide +kernel
theorem dX10_store_66 : decode cX10_store 66 = .ok (.iload_n 3, 1) := by decide +kernel
theorem dX10_store_67 : decode cX10_store 67 = .ok (.iload 4, 2) := by decide +kernel
theorem dX10_store_69 : decode cX10_store 69 = .ok (.invokevirtual 76, 3) := by decide +kernel
theorem dX10_store_72 : decode cX10_store 72 = .ok (.ireturn, 1) := by decide +kernel
theorem dX10_put_0 : decode cX10_put 0 = .ok (.iload_n 1, 1) := by decide +kernel
theorem dX10_put_1 : decode cX10_put 1 = .ok (.invokestatic 105, 3) := by decide +kernel
theorem dX10_put_4 : decode cX10_put 4 = .ok (.iconst 1, 1) := by decide +kernel
theorem dX10_put_5 : decode cX10_put 5 = .ok (.iconst 1, 1) := by decide +kernel
theorem dX10_put_6 : decode cX10_put 6 = .ok (.iload_n 2, 1) := by decide +kernel
theorem dX10_put_7 : decode cX10_put 7 = .ok (.invokestatic 99, 3) := by decide +kernel
theorem dX10_put_10 : decode cX10_put 10 = .ok (.ifCond .eq 12, 3) := by decide +kernel
theorem dX10_put_13 : decode cX10_put 13 = .ok (.iconst 1, 1) := by decide +kernel
theorem dX10_put_14 : decode cX10_put 14 = .ok (.iconst 2, 1) := by decide +kernel
theorem dX10_put_15 : decode cX10_put 15 = .ok (.iload_n 3, 1) := by decide +kernel
theorem dX10_put_16 : decode cX10_put 16 = .ok (.invokestatic 99, 3) := by decide +kernel
theorem dX10_put_19 : decode cX10_put 19 = .ok (.ifCond .ne 13, 3) := by decide +kernel
theorem dX10_put_22 : decode cX10_put 22 = .ok (.new 89, 3) := by decide +kernel
theorem dX10_put_25 : decode cX10_put 25 = .ok (.dup, 1) := by decide +kernel
theorem dX10_put_26 : decode cX10_put 26 = .ok (.ldc 108, 2) := by decide +kernel
theorem dX10_put_28 : decode cX10_put 28 = .ok (.invokespecial 93, 3) := by decide +kernel
theorem dX10_put_31 : decode cX10_put 31 = .ok (.athrow, 1) := by decide +kernel
theorem dX10_put_32 : decode cX10_put 32 = .ok (.aload_n 0, 1) := by decide +kernel
theorem dX10_put_33 : decode cX10_put 33 = .ok (.aload_n 0, 1) := by decide +kernel
theorem dX10_put_34 : decode cX10_put 34 = .ok (.getfield 10, 3) := by decide +kernel
theorem dX10_put_37 : decode cX10_put 37 = .ok (.iconst 1, 1) := by decide +kernel
theorem dX10_put_38 : decode cX10_put 38 = .ok (.iload_n 1, 1) := by decide +kernel
theorem dX10_put_39 : decode cX10_put 39 = .ok (.iload_n 2, 1) := by decide +kernel
theorem dX10_put_40 : decode cX10_put 40 = .ok (.invokevirtual 72, 3) := by decide +kernel
theorem dX10_put_43 : decode cX10_put 43 = .ok (.invokevirtual 110, 3) := by decide +kernel
theorem dX10_put_46 : decode cX10_put 46 = .ok (.aload_n 0, 1) := by decide +kernel
theorem dX10_put_47 : decode cX10_put 47 = .ok (.getfield 10, 3) := by decide +kernel
theorem dX10_put_50 : decode cX10_put 50 = .ok (.iconst 1, 1) := by decide +kernel
theorem dX10_put_51 : decode cX10_put 51 = .ok (.iload_n 1, 1) := by decide +kernel
theorem dX10_put_52 : decode cX10_put 52 = .ok (.iload_n 2, 1) := by decide +kernel
theorem dX10_put_53 : decode cX10_put 53 = .ok (.iload_n 3, 1) := by decide +kernel
theorem dX10_put_54 : decode cX10_put 54 = .ok (.iconst 0, 1) := by decide +kernel
theorem dX10_put_55 : decode cX10_put 55 = .ok (.invokevirtual 76, 3) := by decide +kernel
theorem dX10_put_58 : decode cX10_put 58 = .ok (.ireturn, 1) := by decide +kernel
theorem dX10_drop_0 : decode cX10_drop 0 = .ok (.iload_n 1, 1) := by decide +kernel
theorem dX10_drop_1 : decode cX10_drop 1 = .ok (.invokestatic 105, 3) := by decide +kernel
theorem dX10_drop_4 : decode cX10_drop 4 = .ok (.aload_n 0, 1) := by decide +kernel
theorem dX10_drop_5 : decode cX10_drop 5 = .ok (.aload_n 0, 1) := by decide +kernel
theorem dX10_drop_6 : decode cX10_drop 6 = .ok (.getfield 10, 3) := by decide +kernel
theorem dX10_drop_9 : decode cX10_drop 9 = .ok (.iconst 2, 1) := by decide +kernel
theorem dX10_drop_10 : decode cX10_drop 10 = .ok (.iload_n 1, 1) := by decide +kernel
theorem dX10_drop_11 : decode cX10_drop 11 = .ok (.iconst 0, 1) := by decide +kernel
theorem dX10_drop_12 : decode cX10_drop 12 = .ok (.invokevirtual 72, 3) := by decide +kernel
theorem dX10_drop_15 : decode cX10_drop 15 = .ok (.invokevirtual 110, 3) := by decide +kernel
theorem dX10_drop_18 : decode cX10_drop 18 = .ok (.aload_n 0, 1) := by decide +kernel
theorem dX10_drop_19 : decode cX10_drop 19 = .ok (.getfield 10, 3) := by decide +kernel
theorem dX10_drop_22 : decode cX10_drop 22 = .ok (.iconst 2, 1) := by decide +kernel
theorem dX10_drop_23 : decode cX10_drop 23 = .ok (.iload_n 1, 1) := by decide +kernel
theorem dX10_drop_24 : decode cX10_drop 24 = .ok (.iconst 0, 1) := by decide +kernel
theorem dX10_drop_25 : decode cX10_drop 25 = .ok (.iconst 0, 1) := by decide +kernel
theorem dX10_drop_26 : decode cX10_drop 26 = .ok (.iconst 0, 1) := by decide +kernel
theorem dX10_drop_27 : decode cX10_drop 27 = .ok (.invokevirtual 76, 3) := by decide +kernel
theorem dX10_drop_30 : decode cX10_drop 30 = .ok (.ireturn, 1) := by decide +kernel
theorem dX10_sync_0 : decode cX10_sync 0 = .ok (.aload_n 0, 1) := by decide +kernel
theorem dX10_sync_1 : decode cX10_sync 1 = .ok (.invokevirtual 113, 3) := by decide +kernel
theorem dX10_sync_4 : decode cX10_sync 4 = .ok (.aload_n 0, 1) := by decide +kernel
theorem dX10_sync_5 : decode cX10_sync 5 = .ok (.getfield 10, 3) := by decide +kernel
theorem dX10_sync_8 : decode cX10_sync 8 = .ok (.iconst 3, 1) := by decide +kernel
theorem dX10_sync_9 : decode cX10_sync 9 = .ok (.iconst 0, 1) := by decide +kernel
theorem dX10_sync_10 : decode cX10_sync 10 = .ok (.iconst 0, 1) := by decide +kernel
theorem dX10_sync_11 : decode cX10_sync 11 = .ok (.iconst 0, 1) := by decide +kernel
theorem dX10_sync_12 : decode cX10_sync 12 = .ok (.iconst 0, 1) := by decide +kernel
theorem dX10_sync_13 : decode cX10_sync 13 = .ok (.invokevirtual 76, 3) := by decide +kernel
theorem dX10_sync_16 : decode cX10_sync 16 = .ok (.ireturn, 1) := by decide +kernel
theorem dX10_flush_0 : decode cX10_flush 0 = .ok (.aload_n 0, 1) := by decide +kernel
theorem dX10_flush_1 : decode cX10_flush 1 = .ok (.invokevirtual 113, 3) := by decide +kernel
theorem dX10_flush_4 : decode cX10_flush 4 = .ok (.aload_n 0, 1) := by decide +kernel
theorem dX10_flush_5 : decode cX10_flush 5 = .ok (.getfield 10, 3) := by decide +kernel
theorem dX10_flush_8 : decode cX10_flush 8 = .ok (.iconst 4, 1) := by decide +kernel
theorem dX10_flush_9 : decode cX10_flush 9 = .ok (.iconst 0, 1) := by decide +kernel
theorem dX10_flush_10 : decode cX10_flush 10 = .ok (.iconst 0, 1) := by decide +kernel
theorem dX10_flush_11 : decode cX10_flush 11 = .ok (.iconst 0, 1) := by decide +kernel
theorem dX10_flush_12 : decode cX10_flush 12 = .ok (.iconst 0, 1) := by decide +kernel
theorem dX10_flush_13 : decode cX10_flush 13 = .ok (.invokevirtual 76, 3) := by decide +kernel
theorem dX10_flush_16 : decode cX10_flush 16 = .ok (.ireturn, 1) := by decide +kernel
theorem dX10_merge_0 : decode cX10_merge 0 = .ok (.aload_n 0, 1) := by decide +kernel
theorem dX10_merge_1 : decode cX10_merge 1 = .ok (.invokevirtual 113, 3) := by decide +kernel
theorem dX10_merge_4 : decode cX10_merge 4 = .ok (.aload_n 0, 1) := by decide +kernel
theorem dX10_merge_5 : decode cX10_merge 5 = .ok (.getfield 10, 3) := by decide +kernel
theorem dX10_merge_8 : decode cX10_merge 8 = .ok (.bipush 9, 2) := by decide +kernel
theorem dX10_merge_10 : decode cX10_merge 10 = .ok (.iconst 0, 1) := by decide +kernel
theorem dX10_merge_11 : decode cX10_merge 11 = .ok (.iconst 0, 1) := by decide +kernel
theorem dX10_merge_12 : decode cX10_merge 12 = .ok (.iconst 0, 1) := by decide +kernel
theorem dX10_merge_13 : decode cX10_merge 13 = .ok (.iconst 0, 1) := by decide +kernel
theorem dX10_merge_14 : decode cX10_merge 14 = .ok (.invokevirtual 76, 3) := by decide +kernel
theorem dX10_merge_17 : decode cX10_merge 17 = .ok (.ireturn, 1) := by decide +kernel
theorem dX10_crash_0 : decode cX10_crash 0 = .ok (.aload_n 0, 1) := by decide +kernel
theorem dX10_crash_1 : decode cX10_crash 1 = .ok (.invokevirtual 113, 3) := by decide +kernel
theorem dX10_crash_4 : decode cX10_crash 4 = .ok (.aload_n 0, 1) := by decide +kernel
theorem dX10_crash_5 : decode cX10_crash 5 = .ok (.getfield 10, 3) := by decide +kernel
theorem dX10_crash_8 : decode cX10_crash 8 = .ok (.iconst 5, 1) := by decide +kernel
theorem dX10_crash_9 : decode cX10_crash 9 = .ok (.iconst 0, 1) := by decide +kernel
theorem dX10_crash_10 : decode cX10_crash 10 = .ok (.iconst 0, 1) := by decide +kernel
theorem dX10_crash_11 : decode cX10_crash 11 = .ok (.iconst 0, 1) := by decide +kernel
theorem dX10_crash_12 : decode cX10_crash 12 = .ok (.iconst 0, 1) := by decide +kernel
theorem dX10_crash_13 : decode cX10_crash 13 = .ok (.invokevirtual 76, 3) := by decide +kernel
theorem dX10_crash_16 : decode cX10_crash 16 = .ok (.ireturn, 1) := by decide +kernel
theorem dX10_pick_0 : decode cX10_pick 0 = .ok (.iload_n 1, 1) := by decide +kernel
theorem dX10_pick_1 : decode cX10_pick 1 = .ok (.iconst (-1), 1) := by decide +kernel
theorem dX10_pick_2 : decode cX10_pick 2 = .ok (.if_icmp .eq 7, 3) := by decide +kernel
theorem dX10_pick_5 : decode cX10_pick 5 = .ok (.iload_n 1, 1) := by decide +kernel
theorem dX10_pick_6 : decode cX10_pick 6 = .ok (.invokestatic 116, 3) := by decide +kernel
theorem dX10_pick_9 : decode cX10_pick 9 = .ok (.aload_n 0, 1) := by decide +kernel
theorem dX10_pick_10 : decode cX10_pick 10 = .ok (.aload_n 0, 1) := by decide +kernel
theorem dX10_pick_11 : decode cX10_pick 11 = .ok (.getfield 10, 3) := by decide +kernel
theorem dX10_pick_14 : decode cX10_pick 14 = .ok (.bipush 6, 2) := by decide +kernel
theorem dX10_pick_16 : decode cX10_pick 16 = .ok (.iload_n 1, 1) := by decide +kernel
theorem dX10_pick_17 : decode cX10_pick 17 = .ok (.iconst 0, 1) := by decide +kernel
theorem dX10_pick_18 : decode cX10_pick 18 = .ok (.invokevirtual 72, 3) := by decide +kernel
theorem dX10_pick_21 : decode cX10_pick 21 = .ok (.invokevirtual 110, 3) := by decide +kernel
theorem dX10_pick_24 : decode cX10_pick 24 = .ok (.aload_n 0, 1) := by decide +kernel
theorem dX10_pick_25 : decode cX10_pick 25 = .ok (.getfield 10, 3) := by decide +kernel
theorem dX10_pick_28 : decode cX10_pick 28 = .ok (.bipush 6, 2) := by decide +kernel
theorem dX10_pick_30 : decode cX10_pick 30 = .ok (.iload_n 1, 1) := by decide +kernel
theorem dX10_pick_31 : decode cX10_pick 31 = .ok (.iconst 0, 1) := by decide +kernel
theorem dX10_pick_32 : decode cX10_pick 32 = .ok (.iconst 0, 1) := by decide +kernel
theorem dX10_pick_33 : decode cX10_pick 33 = .ok (.iconst 0, 1) := by decide +kernel
theorem dX10_pick_34 : decode cX10_pick 34 = .ok (.invokevirtual 76, 3) := by decide +kernel
theorem dX10_pick_37 : decode cX10_pick 37 = .ok (.ireturn, 1) := by decide +kernel
theorem dX10_step_0 : decode cX10_step 0 = .ok (.bipush 7, 2) := by decide +kernel
theorem dX10_step_2 : decode cX10_step 2 = .ok (.iconst 0, 1) := by decide +kernel
theorem dX10_step_3 : decode cX10_step 3 = .ok (.iload_n 1, 1) := by decide +kernel
theorem dX10_step_4 : decode cX10_step 4 = .ok (.invokestatic 99, 3) := by decide +kernel
theorem dX10_step_7 : decode cX10_step 7 = .ok (.ifCond .ne 13, 3) := by decide +kernel
theorem dX10_step_10 : decode cX10_step 10 = .ok (.new 89, 3) := by decide +kernel
theorem dX10_step_13 : decode cX10_step 13 = .ok (.dup, 1) := by decide +kernel
theorem dX10_step_14 : decode cX10_step 14 = .ok (.ldc 119, 2) := by decide +kernel
theorem dX10_step_16 : decode cX10_step 16 = .ok (.invokespecial 93, 3) := by decide +kernel
theorem dX10_step_19 : decode cX10_step 19 = .ok (.athrow, 1) := by decide +kernel
theorem dX10_step_20 : decode cX10_step 20 = .ok (.aload_n 0, 1) := by decide +kernel
theorem dX10_step_21 : decode cX10_step 21 = .ok (.aload_n 0, 1) := by decide +kernel
theorem dX10_step_22 : decode cX10_step 22 = .ok (.getfield 10, 3) := by decide +kernel
theorem dX10_step_25 : decode cX10_step 25 = .ok (.bipush 7, 2) := by decide +kernel
theorem dX10_step_27 : decode cX10_step 27 = .ok (.iload_n 1, 1) := by decide +kernel
theorem dX10_step_28 : decode cX10_step 28 = .ok (.iconst 0, 1) := by decide +kernel
theorem dX10_step_29 : decode cX10_step 29 = .ok (.invokevirtual 72, 3) := by decide +kernel
theorem dX10_step_32 : decode cX10_step 32 = .ok (.invokevirtual 110, 3) := by decide +kernel
theorem dX10_step_35 : decode cX10_step 35 = .ok (.aload_n 0, 1) := by decide +kernel
theorem dX10_step_36 : decode cX10_step 36 = .ok (.getfield 10, 3) := by decide +kernel
theorem dX10_step_39 : decode cX10_step 39 = .ok (.bipush 7, 2) := by decide +kernel
theorem dX10_step_41 : decode cX10_step 41 = .ok (.iload_n 1, 1) := by decide +kernel
theorem dX10_step_42 : decode cX10_step 42 = .ok (.iconst 0, 1) := by decide +kernel
theorem dX10_step_43 : decode cX10_step 43 = .ok (.iconst 0, 1) := by decide +kernel
theorem dX10_step_44 : decode cX10_step 44 = .ok (.iconst 0, 1) := by decide +kernel
theorem dX10_step_45 : decode cX10_step 45 = .ok (.invokevirtual 76, 3) := by decide +kernel
theorem dX10_step_48 : decode cX10_step 48 = .ok (.ireturn, 1) := by decide +kernel
theorem dX10_quit_0 : decode cX10_quit 0 = .ok (.aload_n 0, 1) := by decide +kernel
theorem dX10_quit_1 : decode cX10_quit 1 = .ok (.aload_n 0, 1) := by decide +kernel
theorem dX10_quit_2 : decode cX10_quit 2 = .ok (.getfield 10, 3) := by decide +kernel
theorem dX10_quit_5 : decode cX10_quit 5 = .ok (.bipush 8, 2) := by decide +kernel
theorem dX10_quit_7 : decode cX10_quit 7 = .ok (.iconst 0, 1) := by decide +kernel
theorem dX10_quit_8 : decode cX10_quit 8 = .ok (.iconst 0, 1) := by decide +kernel
theorem dX10_quit_9 : decode cX10_quit 9 = .ok (.invokevirtual 72, 3) := by decide +kernel
theorem dX10_quit_12 : decode cX10_quit 12 = .ok (.invokevirtual 110, 3) := by decide +kernel
theorem dX10_quit_15 : decode cX10_quit 15 = .ok (.aload_n 0, 1) := by decide +kernel
theorem dX10_quit_16 : decode cX10_quit 16 = .ok (.getfield 10, 3) := by decide +kernel
theorem dX10_quit_19 : decode cX10_quit 19 = .ok (.bipush 8, 2) := by decide +kernel
theorem dX10_quit_21 : decode cX10_quit 21 = .ok (.iconst 0, 1) := by decide +kernel
theorem dX10_quit_22 : decode cX10_quit 22 = .ok (.iconst 0, 1) := by decide +kernel
theorem dX10_quit_23 : decode cX10_quit 23 = .ok (.iconst 0, 1) := by decide +kernel
theorem dX10_quit_24 : decode cX10_quit 24 = .ok (.iconst 0, 1) := by decide +kernel
theorem dX10_quit_25 : decode cX10_quit 25 = .ok (.invokevirtual 76, 3) := by decide +kernel
theorem dX10_quit_28 : decode cX10_quit 28 = .ok (.ireturn, 1) := by decide +kernel
theorem dX10_undo_0 : decode cX10_undo 0 = .ok (.aload_n 0, 1) := by decide +kernel
theorem dX10_undo_1 : decode cX10_undo 1 = .ok (.getfield 25, 3) := by decide +kernel
theorem dX10_undo_4 : decode cX10_undo 4 = .ok (.aload_n 0, 1) := by decide +kernel
theorem dX10_undo_5 : decode cX10_undo 5 = .ok (.getfield 10, 3) := by decide +kernel
theorem dX10_undo_8 : decode cX10_undo 8 = .ok (.invokevirtual 121, 3) := by decide +kernel
theorem dX10_undo_11 : decode cX10_undo 11 = .ok (.ifCond .ne 13, 3) := by decide +kernel
theorem dX10_undo_14 : decode cX10_undo 14 = .ok (.new 125, 3) := by decide +kernel
theorem dX10_undo_17 : decode cX10_undo 17 = .ok (.dup, 1) := by decide +kernel
theorem dX10_undo_18 : decode cX10_undo 18 = .ok (.ldc 127, 2) := by decide +kernel
theorem dX10_undo_20 : decode cX10_undo 20 = .ok (.invokespecial 129, 3) := by decide +kernel
theorem dX10_undo_23 : decode cX10_undo 23 = .ok (.athrow, 1) := by decide +kernel
theorem dX10_undo_24 : decode cX10_undo 24 = .ok (.aload_n 0, 1) := by decide +kernel
theorem dX10_undo_25 : decode cX10_undo 25 = .ok (.getfield 25, 3) := by decide +kernel
theorem dX10_undo_28 : decode cX10_undo 28 = .ok (.getfield 130, 3) := by decide +kernel
theorem dX10_undo_31 : decode cX10_undo 31 = .ok (.ireturn, 1) := by decide +kernel
theorem dX10_lookAtRefusal_0 : decode cX10_lookAtRefusal 0 = .ok (.iload_n 1, 1) := by decide +kernel
theorem dX10_lookAtRefusal_1 : decode cX10_lookAtRefusal 1 = .ok (.ifCond .eq 18, 3) := by decide +kernel
theorem dX10_lookAtRefusal_4 : decode cX10_lookAtRefusal 4 = .ok (.aload_n 0, 1) := by decide +kernel
theorem dX10_lookAtRefusal_5 : decode cX10_lookAtRefusal 5 = .ok (.iload_n 1, 1) := by decide +kernel
theorem dX10_lookAtRefusal_6 : decode cX10_lookAtRefusal 6 = .ok (.putfield 86, 3) := by decide +kernel
theorem dX10_lookAtRefusal_9 : decode cX10_lookAtRefusal 9 = .ok (.new 125, 3) := by decide +kernel
theorem dX10_lookAtRefusal_12 : decode cX10_lookAtRefusal 12 = .ok (.dup, 1) := by decide +kernel
theorem dX10_lookAtRefusal_13 : decode cX10_lookAtRefusal 13 = .ok (.ldc 131, 2) := by decide +kernel
theorem dX10_lookAtRefusal_15 : decode cX10_lookAtRefusal 15 = .ok (.invokespecial 129, 3) := by decide +kernel
theorem dX10_lookAtRefusal_18 : decode cX10_lookAtRefusal 18 = .ok (.athrow, 1) := by decide +kernel
theorem dX10_lookAtRefusal_19 : decode cX10_lookAtRefusal 19 = .ok (.aload_n 0, 1) := by decide +kernel
theorem dX10_lookAtRefusal_20 : decode cX10_lookAtRefusal 20 = .ok (.invokevirtual 113, 3) := by decide +kernel
theorem dX10_lookAtRefusal_23 : decode cX10_lookAtRefusal 23 = .ok (.return_, 1) := by decide +kernel
theorem dX10_getReady_0 : decode cX10_getReady 0 = .ok (.aload_n 0, 1) := by decide +kernel
theorem dX10_getReady_1 : decode cX10_getReady 1 = .ok (.iconst 0, 1) := by decide +kernel
theorem dX10_getReady_2 : decode cX10_getReady 2 = .ok (.putfield 86, 3) := by decide +kernel
theorem dX10_getReady_5 : decode cX10_getReady 5 = .ok (.aload_n 0, 1) := by decide +kernel
theorem dX10_getReady_6 : decode cX10_getReady 6 = .ok (.getfield 25, 3) := by decide +kernel
theorem dX10_getReady_9 : decode cX10_getReady 9 = .ok (.aload_n 0, 1) := by decide +kernel
theorem dX10_getReady_10 : decode cX10_getReady 10 = .ok (.getfield 10, 3) := by decide +kernel
theorem dX10_getReady_13 : decode cX10_getReady 13 = .ok (.invokevirtual 133, 3) := by decide +kernel
theorem dX10_getReady_16 : decode cX10_getReady 16 = .ok (.return_, 1) := by decide +kernel
theorem dX10_key_0 : decode cX10_key 0 = .ok (.iload_n 1, 1) := by decide +kernel
theorem dX10_key_1 : decode cX10_key 1 = .ok (.invokestatic 105, 3) := by decide +kernel
theorem dX10_key_4 : decode cX10_key 4 = .ok (.iload_n 2, 1) := by decide +kernel
theorem dX10_key_5 : decode cX10_key 5 = .ok (.bipush 9, 2) := by decide +kernel
theorem dX10_key_7 : decode cX10_key 7 = .ok (.invokestatic 136, 3) := by decide +kernel
theorem dX10_key_10 : decode cX10_key 10 = .ok (.iload_n 2, 1) := by decide +kernel
theorem dX10_key_11 : decode cX10_key 11 = .ok (.bipush 9, 2) := by decide +kernel
theorem dX10_key_13 : decode cX10_key 13 = .ok (.if_icmp .ne 31, 3) := by decide +kernel
theorem dX10_key_16 : decode cX10_key 16 = .ok (.aload_n 0, 1) := by decide +kernel
theorem dX10_key_17 : decode cX10_key 17 = .ok (.getfield 16, 3) := by decide +kernel
theorem dX10_key_20 : decode cX10_key 20 = .ok (.aload_n 0, 1) := by decide +kernel
theorem dX10_key_21 : decode cX10_key 21 = .ok (.getfield 10, 3) := by decide +kernel
theorem dX10_key_24 : decode cX10_key 24 = .ok (.invokevirtual 55, 3) := by decide +kernel
theorem dX10_key_27 : decode cX10_key 27 = .ok (.aload_n 0, 1) := by decide +kernel
theorem dX10_key_28 : decode cX10_key 28 = .ok (.getfield 16, 3) := by decide +kernel
theorem dX10_key_31 : decode cX10_key 31 = .ok (.invokevirtual 140, 3) := by decide +kernel
theorem dX10_key_34 : decode cX10_key 34 = .ok (.pop, 1) := by decide +kernel
theorem dX10_key_35 : decode cX10_key 35 = .ok (.aload_n 0, 1) := by decide +kernel
theorem dX10_key_36 : decode cX10_key 36 = .ok (.getfield 16, 3) := by decide +kernel
theorem dX10_key_39 : decode cX10_key 39 = .ok (.iload_n 1, 1) := by decide +kernel
theorem dX10_key_40 : decode cX10_key 40 = .ok (.invokestatic 144, 3) := by decide +kernel
theorem dX10_key_43 : decode cX10_key 43 = .ok (.ireturn, 1) := by decide +kernel
theorem dX10_key_44 : decode cX10_key 44 = .ok (.aload_n 0, 1) := by decide +kernel
theorem dX10_key_45 : decode cX10_key 45 = .ok (.iload_n 1, 1) := by decide +kernel
theorem dX10_key_46 : decode cX10_key 46 = .ok (.iload_n 2, 1) := by decide +kernel
theorem dX10_key_47 : decode cX10_key 47 = .ok (.aload_n 0, 1) := by decide +kernel
theorem dX10_key_48 : decode cX10_key 48 = .ok (.getfield 10, 3) := by decide +kernel
theorem dX10_key_51 : decode cX10_key 51 = .ok (.getfield 148, 3) := by decide +kernel
theorem dX10_key_54 : decode cX10_key 54 = .ok (.iload_n 1, 1) := by decide +kernel
theorem dX10_key_55 : decode cX10_key 55 = .ok (.invokevirtual 152, 3) := by decide +kernel
theorem dX10_key_58 : decode cX10_key 58 = .ok (.invokevirtual 158, 3) := by decide +kernel
theorem dX10_key_61 : decode cX10_key 61 = .ok (.ireturn, 1) := by decide +kernel
theorem dX10_ofKey_0 : decode cX10_ofKey 0 = .ok (.aload_n 0, 1) := by decide +kernel
theorem dX10_ofKey_1 : decode cX10_ofKey 1 = .ok (.getfield 10, 3) := by decide +kernel
theorem dX10_ofKey_4 : decode cX10_ofKey 4 = .ok (.lload_n 3, 1) := by decide +kernel
theorem dX10_ofKey_5 : decode cX10_ofKey 5 = .ok (.invokevirtual 162, 3) := by decide +kernel
theorem dX10_ofKey_8 : decode cX10_ofKey 8 = .ok (.istore 5, 2) := by decide +kernel
theorem dX10_ofKey_10 : decode cX10_ofKey 10 = .ok (.iload_n 2, 1) := by decide +kernel
theorem dX10_ofKey_11 : decode cX10_ofKey 11 = .ok (.tableswitch 142 0 7 #[45, 54, 74, 77, 91, 106, 121, 130], 45) := by decide +kernel
theorem dX10_ofKey_56 : decode cX10_ofKey 56 = .ok (.aload_n 0, 1) := by decide +kernel
theorem dX10_ofKey_57 : decode cX10_ofKey 57 = .ok (.getfield 10, 3) := by decide +kernel
theorem dX10_ofKey_60 : decode cX10_ofKey 60 = .ok (.iload_n 1, 1) := by decide +kernel
theorem dX10_ofKey_61 : decode cX10_ofKey 61 = .ok (.invokestatic 144, 3) := by decide +kernel
theorem dX10_ofKey_64 : decode cX10_ofKey 64 = .ok (.ireturn, 1) := by decide +kernel
theorem dX10_ofKey_65 : decode cX10_ofKey 65 = .ok (.aload_n 0, 1) := by decide +kernel
theorem dX10_ofKey_66 : decode cX10_ofKey 66 = .ok (.getfield 10, 3) := by decide +kernel
theorem dX10_ofKey_69 : decode cX10_ofKey 69 = .ok (.iload_n 1, 1) := by decide +kernel
theorem dX10_ofKey_70 : decode cX10_ofKey 70 = .ok (.invokevirtual 166, 3) := by decide +kernel
theorem dX10_ofKey_73 : decode cX10_ofKey 73 = .ok (.ifCond .eq 10, 3) := by decide +kernel
theorem dX10_ofKey_76 : decode cX10_ofKey 76 = .ok (.lload_n 3, 1) := by decide +kernel
theorem dX10_ofKey_77 : decode cX10_ofKey 77 = .ok (.invokestatic 169, 3) := by decide +kernel
theorem dX10_ofKey_80 : decode cX10_ofKey 80 = .ok (.goto 4, 3) := by decide +kernel
theorem dX10_ofKey_83 : decode cX10_ofKey 83 = .ok (.iconst (-1), 1) := by decide +kernel
theorem dX10_ofKey_84 : decode cX10_ofKey 84 = .ok (.ireturn, 1) := by decide +kernel
theorem dX10_ofKey_85 : decode cX10_ofKey 85 = .ok (.iload 5, 2) := by decide +kernel
theorem dX10_ofKey_87 : decode cX10_ofKey 87 = .ok (.ireturn, 1) := by decide +kernel
theorem dX10_ofKey_88 : decode cX10_ofKey 88 = .ok (.iload 5, 2) := by decide +kernel
theorem dX10_ofKey_90 : decode cX10_ofKey 90 = .ok (.ifCond .ne 7, 3) := by decide +kernel
theorem dX10_ofKey_93 : decode cX10_ofKey 93 = .ok (.iconst (-1), 1) := by decide +kernel
theorem dX10_ofKey_94 : decode cX10_ofKey 94 = .ok (.goto 7, 3) := by decide +kernel
theorem dX10_ofKey_97 : decode cX10_ofKey 97 = .ok (.lload_n 3, 1) := by decide +kernel
theorem dX10_ofKey_98 : decode cX10_ofKey 98 = .ok (.invokestatic 174, 3) := by decide +kernel
theorem dX10_ofKey_101 : decode cX10_ofKey 101 = .ok (.ireturn, 1) := by decide +kernel
theorem dX10_ofKey_102 : decode cX10_ofKey 102 = .ok (.iload 5, 2) := by decide +kernel
theorem dX10_ofKey_104 : decode cX10_ofKey 104 = .ok (.iconst 3, 1) := by decide +kernel
theorem dX10_ofKey_105 : decode cX10_ofKey 105 = .ok (.if_icmp .ne 10, 3) := by decide +kernel
theorem dX10_ofKey_108 : decode cX10_ofKey 108 = .ok (.lload_n 3, 1) := by decide +kernel
theorem dX10_ofKey_109 : decode cX10_ofKey 109 = .ok (.invokestatic 177, 3) := by decide +kernel
theorem dX10_ofKey_112 : decode cX10_ofKey 112 = .ok (.goto 4, 3) := by decide +kernel
theorem dX10_ofKey_115 : decode cX10_ofKey 115 = .ok (.iconst (-1), 1) := by decide +kernel
theorem dX10_ofKey_116 : decode cX10_ofKey 116 = .ok (.ireturn, 1) := by decide +kernel
theorem dX10_ofKey_117 : decode cX10_ofKey 117 = .ok (.iload 5, 2) := by decide +kernel
theorem dX10_ofKey_119 : decode cX10_ofKey 119 = .ok (.iconst 3, 1) := by decide +kernel
theorem dX10_ofKey_120 : decode cX10_ofKey 120 = .ok (.if_icmp .ne 10, 3) := by decide +kernel
theorem dX10_ofKey_123 : decode cX10_ofKey 123 = .ok (.lload_n 3, 1) := by decide +kernel
theorem dX10_ofKey_124 : decode cX10_ofKey 124 = .ok (.invokestatic 180, 3) := by decide +kernel
theorem dX10_ofKey_127 : decode cX10_ofKey 127 = .ok (.goto 4, 3) := by decide +kernel
theorem dX10_ofKey_130 : decode cX10_ofKey 130 = .ok (.iconst (-1), 1) := by decide +kernel
theorem dX10_ofKey_131 : decode cX10_ofKey 131 = .ok (.ireturn, 1) := by decide +kernel
theorem dX10_ofKey_132 : decode cX10_ofKey 132 = .ok (.aload_n 0, 1) := by decide +kernel
theorem dX10_ofKey_133 : decode cX10_ofKey 133 = .ok (.getfield 10, 3) := by decide +kernel
theorem dX10_ofKey_136 : decode cX10_ofKey 136 = .ok (.iload_n 1, 1) := by decide +kernel
theorem dX10_ofKey_137 : decode cX10_ofKey 137 = .ok (.invokevirtual 183, 3) := by decide +kernel
theorem dX10_ofKey_140 : decode cX10_ofKey 140 = .ok (.ireturn, 1) := by decide +kernel
theorem dX10_ofKey_141 : decode cX10_ofKey 141 = .ok (.aload_n 0, 1) := by decide +kernel
theorem dX10_ofKey_142 : decode cX10_ofKey 142 = .ok (.getfield 10, 3) := by decide +kernel
theorem dX10_ofKey_145 : decode cX10_ofKey 145 = .ok (.getfield 148, 3) := by decide +kernel
theorem dX10_ofKey_148 : decode cX10_ofKey 148 = .ok (.iload_n 1, 1) := by decide +kernel
theorem dX10_ofKey_149 : decode cX10_ofKey 149 = .ok (.invokevirtual 186, 3) := by decide +kernel
theorem dX10_ofKey_152 : decode cX10_ofKey 152 = .ok (.ireturn, 1) := by decide +kernel
theorem dX10_ofKey_153 : decode cX10_ofKey 153 = .ok (.aload_n 0, 1) := by decide +kernel
theorem dX10_ofKey_154 : decode cX10_ofKey 154 = .ok (.getfield 10, 3) := by decide +kernel
theorem dX10_ofKey_157 : decode cX10_ofKey 157 = .ok (.getfield 148, 3) := by decide +kernel
theorem dX10_ofKey_160 : decode cX10_ofKey 160 = .ok (.iload_n 1, 1) := by decide +kernel
theorem dX10_ofKey_161 : decode cX10_ofKey 161 = .ok (.invokevirtual 189, 3) := by decide +kernel
theorem dX10_ofKey_164 : decode cX10_ofKey 164 = .ok (.ireturn, 1) := by decide +kernel
theorem dX10_lengthOn_0 : decode cX10_lengthOn 0 = .ok (.aload_n 0, 1) := by decide +kernel
theorem dX10_lengthOn_1 : decode cX10_lengthOn 1 = .ok (.iload_n 1, 1) := by decide +kernel
theorem dX10_lengthOn_2 : decode cX10_lengthOn 2 = .ok (.invokevirtual 166, 3) := by decide +kernel
theorem dX10_lengthOn_5 : decode cX10_lengthOn 5 = .ok (.ifCond .eq 17, 3) := by decide +kernel
theorem dX10_lengthOn_8 : decode cX10_lengthOn 8 = .ok (.aload_n 0, 1) := by decide +kernel
theorem dX10_lengthOn_9 : decode cX10_lengthOn 9 = .ok (.getfield 148, 3) := by decide +kernel
theorem dX10_lengthOn_12 : decode cX10_lengthOn 12 = .ok (.iload_n 1, 1) := by decide +kernel
theorem dX10_lengthOn_13 : decode cX10_lengthOn 13 = .ok (.invokevirtual 152, 3) := by decide +kernel
theorem dX10_lengthOn_16 : decode cX10_lengthOn 16 = .ok (.invokestatic 192, 3) := by decide +kernel
theorem dX10_lengthOn_19 : decode cX10_lengthOn 19 = .ok (.goto 4, 3) := by decide +kernel
theorem dX10_lengthOn_22 : decode cX10_lengthOn 22 = .ok (.iconst (-1), 1) := by decide +kernel
theorem dX10_lengthOn_23 : decode cX10_lengthOn 23 = .ok (.ireturn, 1) := by decide +kernel
theorem dX10_octet_0 : decode cX10_octet 0 = .ok (.iload_n 1, 1) := by decide +kernel
theorem dX10_octet_1 : decode cX10_octet 1 = .ok (.invokestatic 105, 3) := by decide +kernel
theorem dX10_octet_4 : decode cX10_octet 4 = .ok (.iload_n 2, 1) := by decide +kernel
theorem dX10_octet_5 : decode cX10_octet 5 = .ok (.ifCond .lt 15, 3) := by decide +kernel
theorem dX10_octet_8 : decode cX10_octet 8 = .ok (.iload_n 2, 1) := by decide +kernel
theorem dX10_octet_9 : decode cX10_octet 9 = .ok (.aload_n 0, 1) := by decide +kernel
theorem dX10_octet_10 : decode cX10_octet 10 = .ok (.getfield 10, 3) := by decide +kernel
theorem dX10_octet_13 : decode cX10_octet 13 = .ok (.iload_n 1, 1) := by decide +kernel
theorem dX10_octet_14 : decode cX10_octet 14 = .ok (.invokestatic 144, 3) := by decide +kernel
theorem dX10_octet_17 : decode cX10_octet 17 = .ok (.if_icmp .lt 5, 3) := by decide +kernel
theorem dX10_octet_20 : decode cX10_octet 20 = .ok (.iconst (-1), 1) := by decide +kernel
theorem dX10_octet_21 : decode cX10_octet 21 = .ok (.ireturn, 1) := by decide +kernel
theorem dX10_octet_22 : decode cX10_octet 22 = .ok (.aload_n 0, 1) := by decide +kernel
theorem dX10_octet_23 : decode cX10_octet 23 = .ok (.getfield 10, 3) := by decide +kernel
theorem dX10_octet_26 : decode cX10_octet 26 = .ok (.getfield 148, 3) := by decide +kernel
theorem dX10_octet_29 : decode cX10_octet 29 = .ok (.iload_n 1, 1) := by decide +kernel
theorem dX10_octet_30 : decode cX10_octet 30 = .ok (.invokevirtual 152, 3) := by decide +kernel
theorem dX10_octet_33 : decode cX10_octet 33 = .ok (.invokestatic 169, 3) := by decide +kernel
theorem dX10_octet_36 : decode cX10_octet 36 = .ok (.bipush 7, 2) := by decide +kernel
theorem dX10_octet_38 : decode cX10_octet 38 = .ok (.iload_n 2, 1) := by decide +kernel
theorem dX10_octet_39 : decode cX10_octet 39 = .ok (.imul, 1) := by decide +kernel
theorem dX10_octet_40 : decode cX10_octet 40 = .ok (.iadd, 1) := by decide +kernel
theorem dX10_octet_41 : decode cX10_octet 41 = .ok (.sipush 255, 3) := by decide +kernel
theorem dX10_octet_44 : decode cX10_octet 44 = .ok (.iand, 1) := by decide +kernel
theorem dX10_octet_45 : decode cX10_octet 45 = .ok (.ireturn, 1) := by decide +kernel
theorem dX10_from_0 : decode cX10_from 0 = .ok (.iload_n 1, 1) := by decide +kernel
theorem dX10_from_1 : decode cX10_from 1 = .ok (.invokestatic 105, 3) := by decide +kernel
theorem dX10_from_4 : decode cX10_from 4 = .ok (.iconst 0, 1) := by decide +kernel
theorem dX10_from_5 : decode cX10_from 5 = .ok (.istore_n 3, 1) := by decide +kernel
theorem dX10_from_6 : decode cX10_from 6 = .ok (.iload_n 1, 1) := by decide +kernel
theorem dX10_from_7 : decode cX10_from 7 = .ok (.istore 4, 2) := by decide +kernel
theorem dX10_from_9 : decode cX10_from 9 = .ok (.iload 4, 2) := by decide +kernel
theorem dX10_from_11 : decode cX10_from 11 = .ok (.bipush 64, 2) := by decide +kernel
theorem dX10_from_13 : decode cX10_from 13 = .ok (.if_icmp .ge 32, 3) := by decide +kernel
theorem dX10_from_16 : decode cX10_from 16 = .ok (.aload_n 0, 1) := by decide +kernel
theorem dX10_from_17 : decode cX10_from 17 = .ok (.getfield 10, 3) := by decide +kernel
theorem dX10_from_20 : decode cX10_from 20 = .ok (.iload 4, 2) := by decide +kernel
theorem dX10_from_22 : decode cX10_from 22 = .ok (.invokevirtual 166, 3) := by decide +kernel
theorem dX10_from_25 : decode cX10_from 25 = .ok (.ifCond .eq 14, 3) := by decide +kernel
theorem dX10_from_28 : decode cX10_from 28 = .ok (.iload_n 3, 1) := by decide +kernel
theorem dX10_from_29 : decode cX10_from 29 = .ok (.iload_n 2, 1) := by decide +kernel
theorem dX10_from_30 : decode cX10_from 30 = .ok (.if_icmp .ne 6, 3) := by decide +kernel
theorem dX10_from_33 : decode cX10_from 33 = .ok (.iload 4, 2) := by decide +kernel
theorem dX10_from_35 : decode cX10_from 35 = .ok (.ireturn, 1) := by decide +kernel
theorem dX10_from_36 : decode cX10_from 36 = .ok (.iinc 3 1, 3) := by decide +kernel
theorem dX10_from_39 : decode cX10_from 39 = .ok (.iinc 4 1, 3) := by decide +kernel
theorem dX10_from_42 : decode cX10_from 42 = .ok (.goto (-33), 3) := by decide +kernel
theorem dX10_from_45 : decode cX10_from 45 = .ok (.iconst (-1), 1) := by decide +kernel
theorem dX10_from_46 : decode cX10_from 46 = .ok (.ireturn, 1) := by decide +kernel
theorem dX10_below_0 : decode cX10_below 0 = .ok (.iload_n 1, 1) := by decide +kernel
theorem dX10_below_1 : decode cX10_below 1 = .ok (.invokestatic 105, 3) := by decide +kernel
theorem dX10_below_4 : decode cX10_below 4 = .ok (.aload_n 0, 1) := by decide +kernel
theorem dX10_below_5 : decode cX10_below 5 = .ok (.getfield 10, 3) := by decide +kernel
theorem dX10_below_8 : decode cX10_below 8 = .ok (.iload_n 1, 1) := by decide +kernel
theorem dX10_below_9 : decode cX10_below 9 = .ok (.invokevirtual 195, 3) := by decide +kernel
theorem dX10_below_12 : decode cX10_below 12 = .ok (.ireturn, 1) := by decide +kernel
theorem dX10_segment_0 : decode cX10_segment 0 = .ok (.iload_n 1, 1) := by decide +kernel
theorem dX10_segment_1 : decode cX10_segment 1 = .ok (.invokestatic 116, 3) := by decide +kernel
theorem dX10_segment_4 : decode cX10_segment 4 = .ok (.iload_n 2, 1) := by decide +kernel
theorem dX10_segment_5 : decode cX10_segment 5 = .ok (.bipush 6, 2) := by decide +kernel
theorem dX10_segment_7 : decode cX10_segment 7 = .ok (.invokestatic 136, 3) := by decide +kernel
theorem dX10_segment_10 : decode cX10_segment 10 = .ok (.aload_n 0, 1) := by decide +kernel
theorem dX10_segment_11 : decode cX10_segment 11 = .ok (.getfield 10, 3) := by decide +kernel
theorem dX10_segment_14 : decode cX10_segment 14 = .ok (.getfield 198, 3) := by decide +kernel
theorem dX10_segment_17 : decode cX10_segment 17 = .ok (.astore_n 3, 1) := by decide +kernel
theorem dX10_segment_18 : decode cX10_segment 18 = .ok (.iload_n 2, 1) := by decide +kernel
theorem dX10_segment_19 : decode cX10_segment 19 = .ok (.tableswitch 91 0 5 #[37, 43, 49, 55, 64, 73], 37) := by decide +kernel
theorem dX10_segment_56 : decode cX10_segment 56 = .ok (.aload_n 3, 1) := by decide +kernel
theorem dX10_segment_57 : decode cX10_segment 57 = .ok (.iload_n 1, 1) := by decide +kernel
theorem dX10_segment_58 : decode cX10_segment 58 = .ok (.invokevirtual 202, 3) := by decide +kernel
theorem dX10_segment_61 : decode cX10_segment 61 = .ok (.ireturn, 1) := by decide +kernel
theorem dX10_segment_62 : decode cX10_segment 62 = .ok (.aload_n 3, 1) := by decide +kernel
theorem dX10_segment_63 : decode cX10_segment 63 = .ok (.iload_n 1, 1) := by decide +kernel
theorem dX10_segment_64 : decode cX10_segment 64 = .ok (.invokevirtual 206, 3) := by decide +kernel
theorem dX10_segment_67 : decode cX10_segment 67 = .ok (.ireturn, 1) := by decide +kernel
theorem dX10_segment_68 : decode cX10_segment 68 = .ok (.aload_n 3, 1) := by decide +kernel
theorem dX10_segment_69 : decode cX10_segment 69 = .ok (.iload_n 1, 1) := by decide +kernel
theorem dX10_segment_70 : decode cX10_segment 70 = .ok (.invokevirtual 209, 3) := by decide +kernel
theorem dX10_segment_73 : decode cX10_segment 73 = .ok (.ireturn, 1) := by decide +kernel
theorem dX10_segment_74 : decode cX10_segment 74 = .ok (.aload_n 0, 1) := by decide +kernel
theorem dX10_segment_75 : decode cX10_segment 75 = .ok (.getfield 10, 3) := by decide +kernel
theorem dX10_segment_78 : decode cX10_segment 78 = .ok (.iload_n 1, 1) := by decide +kernel
theorem dX10_segment_79 : decode cX10_segment 79 = .ok (.invokevirtual 212, 3) := by decide +kernel
theorem dX10_segment_82 : decode cX10_segment 82 = .ok (.ireturn, 1) := by decide +kernel
theorem dX10_segment_83 : decode cX10_segment 83 = .ok (.aload_n 0, 1) := by decide +kernel
theorem dX10_segment_84 : decode cX10_segment 84 = .ok (.getfield 10, 3) := by decide +kernel
theorem dX10_segment_87 : decode cX10_segment 87 = .ok (.iload_n 1, 1) := by decide +kernel
theorem dX10_segment_88 : decode cX10_segment 88 = .ok (.invokevirtual 215, 3) := by decide +kernel
theorem dX10_segment_91 : decode cX10_segment 91 = .ok (.ireturn, 1) := by decide +kernel
theorem dX10_segment_92 : decode cX10_segment 92 = .ok (.aload_n 3, 1) := by decide +kernel
theorem dX10_segment_93 : decode cX10_segment 93 = .ok (.iload_n 1, 1) := by decide +kernel
theorem dX10_segment_94 : decode cX10_segment 94 = .ok (.invokevirtual 206, 3) := by decide +kernel
theorem dX10_segment_97 : decode cX10_segment 97 = .ok (.ifCond .ne 7, 3) := by decide +kernel
theorem dX10_segment_100 : decode cX10_segment 100 = .ok (.iconst (-1), 1) := by decide +kernel
theorem dX10_segment_101 : decode cX10_segment 101 = .ok (.goto 8, 3) := by decide +kernel
theorem dX10_segment_104 : decode cX10_segment 104 = .ok (.aload_n 3, 1) := by decide +kernel
theorem dX10_segment_105 : decode cX10_segment 105 = .ok (.iload_n 1, 1) := by decide +kernel
theorem dX10_segment_106 : decode cX10_segment 106 = .ok (.invokevirtual 218, 3) := by decide +kernel
theorem dX10_segment_109 : decode cX10_segment 109 = .ok (.ireturn, 1) := by decide +kernel
theorem dX10_segment_110 : decode cX10_segment 110 = .ok (.aload_n 3, 1) := by decide +kernel
theorem dX10_segment_111 : decode cX10_segment 111 = .ok (.iload_n 1, 1) := by decide +kernel
theorem dX10_segment_112 : decode cX10_segment 112 = .ok (.invokevirtual 202, 3) := by decide +kernel
theorem dX10_segment_115 : decode cX10_segment 115 = .ok (.iconst 2, 1) := by decide +kernel
theorem dX10_segment_116 : decode cX10_segment 116 = .ok (.if_icmp .ne 23, 3) := by decide +kernel
theorem dX10_segment_119 : decode cX10_segment 119 = .ok (.aload_n 0, 1) := by decide +kernel
theorem dX10_segment_120 : decode cX10_segment 120 = .ok (.getfield 10, 3) := by decide +kernel
theorem dX10_segment_123 : decode cX10_segment 123 = .ok (.iload_n 1, 1) := by decide +kernel
theorem dX10_segment_124 : decode cX10_segment 124 = .ok (.invokevirtual 215, 3) := by decide +kernel
theorem dX10_segment_127 : decode cX10_segment 127 = .ok (.aload_n 0, 1) := by decide +kernel
theorem dX10_segment_128 : decode cX10_segment 128 = .ok (.getfield 10, 3) := by decide +kernel
theorem dX10_segment_131 : decode cX10_segment 131 = .ok (.iload_n 1, 1) := by decide +kernel
theorem dX10_segment_132 : decode cX10_segment 132 = .ok (.invokevirtual 212, 3) := by decide +kernel
theorem dX10_segment_135 : decode cX10_segment 135 = .ok (.isub, 1) := by decide +kernel
theorem dX10_segment_136 : decode cX10_segment 136 = .ok (.goto 4, 3) := by decide +kernel
theorem dX10_segment_139 : decode cX10_segment 139 = .ok (.iconst 0, 1) := by decide +kernel
theorem dX10_segment_140 : decode cX10_segment 140 = .ok (.ireturn, 1) := by decide +kernel
theorem dX10_record_0 : decode cX10_record 0 = .ok (.iload_n 1, 1) := by decide +kernel
theorem dX10_record_1 : decode cX10_record 1 = .ok (.invokestatic 116, 3) := by decide +kernel
theorem dX10_record_4 : decode cX10_record 4 = .ok (.iload_n 3, 1) := by decide +kernel
theorem dX10_record_5 : decode cX10_record 5 = .ok (.iconst 4, 1) := by decide +kernel
theorem dX10_record_6 : decode cX10_record 6 = .ok (.invokestatic 136, 3) := by decide +kernel
theorem dX10_record_9 : decode cX10_record 9 = .ok (.aload_n 0, 1) := by decide +kernel
theorem dX10_record_10 : decode cX10_record 10 = .ok (.getfield 10, 3) := by decide +kernel
theorem dX10_record_13 : decode cX10_record 13 = .ok (.getfield 198, 3) := by decide +kernel
theorem dX10_record_16 : decode cX10_record 16 = .ok (.iload_n 1, 1) := by decide +kernel
theorem dX10_record_17 : decode cX10_record 17 = .ok (.iload_n 2, 1) := by decide +kernel
theorem dX10_record_18 : decode cX10_record 18 = .ok (.invokevirtual 221, 3) := by decide +kernel
theorem dX10_record_21 : decode cX10_record 21 = .ok (.lstore 4, 2) := by decide +kernel
theorem dX10_record_23 : decode cX10_record 23 = .ok (.lload 4, 2) := by decide +kernel
theorem dX10_record_25 : decode cX10_record 25 = .ok (.lconst 0, 1) := by decide +kernel
theorem dX10_record_26 : decode cX10_record 26 = .ok (.lcmp, 1) := by decide +kernel
theorem dX10_record_27 : decode cX10_record 27 = .ok (.ifCond .ne 5, 3) := by decide +kernel
theorem dX10_record_30 : decode cX10_record 30 = .ok (.iconst (-1), 1) := by decide +kernel
theorem dX10_record_31 : decode cX10_record 31 = .ok (.ireturn, 1) := by decide +kernel
theorem dX10_record_32 : decode cX10_record 32 = .ok (.iload_n 3, 1) := by decide +kernel
theorem dX10_record_33 : decode cX10_record 33 = .ok (.tableswitch 67 0 3 #[31, 37, 55, 61], 31) := by decide +kernel
theorem dX10_record_64 : decode cX10_record 64 = .ok (.lload 4, 2) := by decide +kernel
theorem dX10_record_66 : decode cX10_record 66 = .ok (.invokestatic 225, 3) := by decide +kernel
theorem dX10_record_69 : decode cX10_record 69 = .ok (.ireturn, 1) := by decide +kernel
theorem dX10_record_70 : decode cX10_record 70 = .ok (.lload 4, 2) := by decide +kernel
theorem dX10_record_72 : decode cX10_record 72 = .ok (.invokestatic 228, 3) := by decide +kernel
theorem dX10_record_75 : decode cX10_record 75 = .ok (.ifCond .eq 7, 3) := by decide +kernel
theorem dX10_record_78 : decode cX10_record 78 = .ok (.iconst (-1), 1) := by decide +kernel
theorem dX10_record_79 : decode cX10_record 79 = .ok (.goto 8, 3) := by decide +kernel
theorem dX10_record_82 : decode cX10_record 82 = .ok (.lload 4, 2) := by decide +kernel
theorem dX10_record_84 : decode cX10_record 84 = .ok (.invokestatic 192, 3) := by decide +kernel
theorem dX10_record_87 : decode cX10_record 87 = .ok (.ireturn, 1) := by decide +kernel
theorem dX10_record_88 : decode cX10_record 88 = .ok (.lload 4, 2) := by decide +kernel
theorem dX10_record_90 : decode cX10_record 90 = .ok (.invokestatic 174, 3) := by decide +kernel
theorem dX10_record_93 : decode cX10_record 93 = .ok (.ireturn, 1) := by decide +kernel
theorem dX10_record_94 : decode cX10_record 94 = .ok (.lload 4, 2) := by decide +kernel
theorem dX10_record_96 : decode cX10_record 96 = .ok (.invokestatic 180, 3) := by decide +kernel
theorem dX10_record_99 : decode cX10_record 99 = .ok (.ireturn, 1) := by decide +kernel
theorem dX10_record_100 : decode cX10_record 100 = .ok (.aload_n 0, 1) := by decide +kernel
theorem dX10_record_101 : decode cX10_record 101 = .ok (.getfield 10, 3) := by decide +kernel
theorem dX10_record_104 : decode cX10_record 104 = .ok (.lload 4, 2) := by decide +kernel
theorem dX10_record_106 : decode cX10_record 106 = .ok (.invokevirtual 232, 3) := by decide +kernel
theorem dX10_record_109 : decode cX10_record 109 = .ok (.ifCond .eq 7, 3) := by decide +kernel
theorem dX10_record_112 : decode cX10_record 112 = .ok (.iconst 1, 1) := by decide +kernel
theorem dX10_record_113 : decode cX10_record 113 = .ok (.goto 4, 3) := by decide +kernel
theorem dX10_record_116 : decode cX10_record 116 = .ok (.iconst 0, 1) := by decide +kernel
theorem dX10_record_117 : decode cX10_record 117 = .ok (.ireturn, 1) := by decide +kernel
theorem dX10_run_0 : decode cX10_run 0 = .ok (.aload_n 0, 1) := by decide +kernel
theorem dX10_run_1 : decode cX10_run 1 = .ok (.iload_n 1, 1) := by decide +kernel
theorem dX10_run_2 : decode cX10_run 2 = .ok (.invokevirtual 235, 3) := by decide +kernel
theorem dX10_run_5 : decode cX10_run 5 = .ok (.iload_n 2, 1) := by decide +kernel
theorem dX10_run_6 : decode cX10_run 6 = .ok (.iconst 4, 1) := by decide +kernel
theorem dX10_run_7 : decode cX10_run 7 = .ok (.invokestatic 136, 3) := by decide +kernel
theorem dX10_run_10 : decode cX10_run 10 = .ok (.aload_n 0, 1) := by decide +kernel
theorem dX10_run_11 : decode cX10_run 11 = .ok (.getfield 10, 3) := by decide +kernel
theorem dX10_run_14 : decode cX10_run 14 = .ok (.getfield 148, 3) := by decide +kernel
theorem dX10_run_17 : decode cX10_run 17 = .ok (.astore_n 3, 1) := by decide +kernel
theorem dX10_run_18 : decode cX10_run 18 = .ok (.iload_n 1, 1) := by decide +kernel
theorem dX10_run_19 : decode cX10_run 19 = .ok (.iconst 1, 1) := by decide +kernel
theorem dX10_run_20 : decode cX10_run 20 = .ok (.iadd, 1) := by decide +kernel
theorem dX10_run_21 : decode cX10_run 21 = .ok (.istore 4, 2) := by decide +kernel
theorem dX10_run_23 : decode cX10_run 23 = .ok (.iload_n 2, 1) := by decide +kernel
theorem dX10_run_24 : decode cX10_run 24 = .ok (.tableswitch 69 0 3 #[32, 39, 47, 62], 32) := by decide +kernel
theorem dX10_run_56 : decode cX10_run 56 = .ok (.aload_n 3, 1) := by decide +kernel
theorem dX10_run_57 : decode cX10_run 57 = .ok (.iload 4, 2) := by decide +kernel
theorem dX10_run_59 : decode cX10_run 59 = .ok (.invokevirtual 238, 3) := by decide +kernel
theorem dX10_run_62 : decode cX10_run 62 = .ok (.ireturn, 1) := by decide +kernel
theorem dX10_run_63 : decode cX10_run 63 = .ok (.aload_n 3, 1) := by decide +kernel
theorem dX10_run_64 : decode cX10_run 64 = .ok (.iload 4, 2) := by decide +kernel
theorem dX10_run_66 : decode cX10_run 66 = .ok (.iconst 0, 1) := by decide +kernel
theorem dX10_run_67 : decode cX10_run 67 = .ok (.invokevirtual 241, 3) := by decide +kernel
theorem dX10_run_70 : decode cX10_run 70 = .ok (.ireturn, 1) := by decide +kernel
theorem dX10_run_71 : decode cX10_run 71 = .ok (.aload_n 3, 1) := by decide +kernel
theorem dX10_run_72 : decode cX10_run 72 = .ok (.iload 4, 2) := by decide +kernel
theorem dX10_run_74 : decode cX10_run 74 = .ok (.aload_n 3, 1) := by decide +kernel
theorem dX10_run_75 : decode cX10_run 75 = .ok (.iload 4, 2) := by decide +kernel
theorem dX10_run_77 : decode cX10_run 77 = .ok (.invokevirtual 238, 3) := by decide +kernel
theorem dX10_run_80 : decode cX10_run 80 = .ok (.iconst 1, 1) := by decide +kernel
theorem dX10_run_81 : decode cX10_run 81 = .ok (.isub, 1) := by decide +kernel
theorem dX10_run_82 : decode cX10_run 82 = .ok (.invokevirtual 241, 3) := by decide +kernel
theorem dX10_run_85 : decode cX10_run 85 = .ok (.ireturn, 1) := by decide +kernel
theorem dX10_run_86 : decode cX10_run 86 = .ok (.aload_n 3, 1) := by decide +kernel
theorem dX10_run_87 : decode cX10_run 87 = .ok (.iload 4, 2) := by decide +kernel
theorem dX10_run_89 : decode cX10_run 89 = .ok (.invokevirtual 245, 3) := by decide +kernel
theorem dX10_run_92 : decode cX10_run 92 = .ok (.ireturn, 1) := by decide +kernel
theorem dX10_run_93 : decode cX10_run 93 = .ok (.aload_n 3, 1) := by decide +kernel
theorem dX10_run_94 : decode cX10_run 94 = .ok (.iload 4, 2) := by decide +kernel
theorem dX10_run_96 : decode cX10_run 96 = .ok (.invokevirtual 248, 3) := by decide +kernel
theorem dX10_run_99 : decode cX10_run 99 = .ok (.ireturn, 1) := by decide +kernel
theorem dX10_entry_0 : decode cX10_entry 0 = .ok (.iload_n 1, 1) := by decide +kernel
theorem dX10_entry_1 : decode cX10_entry 1 = .ok (.iconst (-1), 1) := by decide +kernel
theorem dX10_entry_2 : decode cX10_entry 2 = .ok (.if_icmp .eq 8, 3) := by decide +kernel
theorem dX10_entry_5 : decode cX10_entry 5 = .ok (.aload_n 0, 1) := by decide +kernel
theorem dX10_entry_6 : decode cX10_entry 6 = .ok (.iload_n 1, 1) := by decide +kernel
theorem dX10_entry_7 : decode cX10_entry 7 = .ok (.invokevirtual 235, 3) := by decide +kernel
theorem dX10_entry_10 : decode cX10_entry 10 = .ok (.aload_n 0, 1) := by decide +kernel
theorem dX10_entry_11 : decode cX10_entry 11 = .ok (.getfield 10, 3) := by decide +kernel
theorem dX10_entry_14 : decode cX10_entry 14 = .ok (.getfield 148, 3) := by decide +kernel
theorem dX10_entry_17 : decode cX10_entry 17 = .ok (.iload_n 1, 1) := by decide +kernel
theorem dX10_entry_18 : decode cX10_entry 18 = .ok (.iconst 1, 1) := by decide +kernel
theorem dX10_entry_19 : decode cX10_entry 19 = .ok (.iadd, 1) := by decide +kernel
theorem dX10_entry_20 : decode cX10_entry 20 = .ok (.iload_n 2, 1) := by decide +kernel
theorem dX10_entry_21 : decode cX10_entry 21 = .ok (.invokevirtual 241, 3) := by decide +kernel
theorem dX10_entry_24 : decode cX10_entry 24 = .ok (.ireturn, 1) := by decide +kernel
theorem dX10_overlap_0 : decode cX10_overlap 0 = .ok (.aload_n 0, 1) := by decide +kernel
theorem dX10_overlap_1 : decode cX10_overlap 1 = .ok (.iload_n 1, 1) := by decide +kernel
theorem dX10_overlap_2 : decode cX10_overlap 2 = .ok (.invokevirtual 235, 3) := by decide +kernel
theorem dX10_overlap_5 : decode cX10_overlap 5 = .ok (.aload_n 0, 1) := by decide +kernel
theorem dX10_overlap_6 : decode cX10_overlap 6 = .ok (.iload_n 2, 1) := by decide +kernel
theorem dX10_overlap_7 : decode cX10_overlap 7 = .ok (.invokevirtual 235, 3) := by decide +kernel
theorem dX10_overlap_10 : decode cX10_overlap 10 = .ok (.iload_n 1, 1) := by decide +kernel
theorem dX10_overlap_11 : decode cX10_overlap 11 = .ok (.iload_n 2, 1) := by decide +kernel
theorem dX10_overlap_12 : decode cX10_overlap 12 = .ok (.if_icmp .ne 13, 3) := by decide +kernel
theorem dX10_overlap_15 : decode cX10_overlap 15 = .ok (.new 89, 3) := by decide +kernel
theorem dX10_overlap_18 : decode cX10_overlap 18 = .ok (.dup, 1) := by decide +kernel
theorem dX10_overlap_19 : decode cX10_overlap 19 = .ok (.ldc 251, 2) := by decide +kernel
theorem dX10_overlap_21 : decode cX10_overlap 21 = .ok (.invokespecial 93, 3) := by decide +kernel
theorem dX10_overlap_24 : decode cX10_overlap 24 = .ok (.athrow, 1) := by decide +kernel
theorem dX10_overlap_25 : decode cX10_overlap 25 = .ok (.aload_n 0, 1) := by decide +kernel
theorem dX10_overlap_26 : decode cX10_overlap 26 = .ok (.getfield 10, 3) := by decide +kernel
theorem dX10_overlap_29 : decode cX10_overlap 29 = .ok (.getfield 148, 3) := by decide +kernel
theorem dX10_overlap_32 : decode cX10_overlap 32 = .ok (.iload_n 1, 1) := by decide +kernel
theorem dX10_overlap_33 : decode cX10_overlap 33 = .ok (.iconst 1, 1) := by decide +kernel
theorem dX10_overlap_34 : decode cX10_overlap 34 = .ok (.iadd, 1) := by decide +kernel
theorem dX10_overlap_35 : decode cX10_overlap 35 = .ok (.iload_n 2, 1) := by decide +kernel
theorem dX10_overlap_36 : decode cX10_overlap 36 = .ok (.iconst 1, 1) := by decide +kernel
theorem dX10_overlap_37 : decode cX10_overlap 37 = .ok (.iadd, 1) := by decide +kernel
theorem dX10_overlap_38 : decode cX10_overlap 38 = .ok (.invokevirtual 253, 3) := by decide +kernel
theorem dX10_overlap_41 : decode cX10_overlap 41 = .ok (.ireturn, 1) := by decide +kernel
theorem dX10_rank_0 : decode cX10_rank 0 = .ok (.iload_n 1, 1) := by decide +kernel
theorem dX10_rank_1 : decode cX10_rank 1 = .ok (.invokestatic 105, 3) := by decide +kernel
theorem dX10_rank_4 : decode cX10_rank 4 = .ok (.aload_n 0, 1) := by decide +kernel
theorem dX10_rank_5 : decode cX10_rank 5 = .ok (.getfield 10, 3) := by decide +kernel
theorem dX10_rank_8 : decode cX10_rank 8 = .ok (.iload_n 1, 1) := by decide +kernel
theorem dX10_rank_9 : decode cX10_rank 9 = .ok (.invokevirtual 166, 3) := by decide +kernel
theorem dX10_rank_12 : decode cX10_rank 12 = .ok (.ifCond .ne 5, 3) := by decide +kernel
theorem dX10_rank_15 : decode cX10_rank 15 = .ok (.iconst (-1), 1) := by decide +kernel
theorem dX10_rank_16 : decode cX10_rank 16 = .ok (.ireturn, 1) := by decide +kernel
theorem dX10_rank_17 : decode cX10_rank 17 = .ok (.iload_n 2, 1) := by decide +kernel
theorem dX10_rank_18 : decode cX10_rank 18 = .ok (.ifCond .eq 14, 3) := by decide +kernel
theorem dX10_rank_21 : decode cX10_rank 21 = .ok (.aload_n 0, 1) := by decide +kernel
theorem dX10_rank_22 : decode cX10_rank 22 = .ok (.getfield 10, 3) := by decide +kernel
theorem dX10_rank_25 : decode cX10_rank 25 = .ok (.iload_n 1, 1) := by decide +kernel
theorem dX10_rank_26 : decode cX10_rank 26 = .ok (.invokevirtual 256, 3) := by decide +kernel
theorem dX10_rank_29 : decode cX10_rank 29 = .ok (.goto 11, 3) := by decide +kernel
theorem dX10_rank_32 : decode cX10_rank 32 = .ok (.aload_n 0, 1) := by decide +kernel
theorem dX10_rank_33 : decode cX10_rank 33 = .ok (.getfield 10, 3) := by decide +kernel
theorem dX10_rank_36 : decode cX10_rank 36 = .ok (.iload_n 1, 1) := by decide +kernel
theorem dX10_rank_37 : decode cX10_rank 37 = .ok (.invokevirtual 259, 3) := by decide +kernel
theorem dX10_rank_40 : decode cX10_rank 40 = .ok (.ireturn, 1) := by decide +kernel
theorem dX10_old_0 : decode cX10_old 0 = .ok (.iconst 0, 1) := by decide +kernel
theorem dX10_old_1 : decode cX10_old 1 = .ok (.istore_n 2, 1) := by decide +kernel
theorem dX10_old_2 : decode cX10_old 2 = .ok (.iload_n 2, 1) := by decide +kernel
theorem dX10_old_3 : decode cX10_old 3 = .ok (.bipush 64, 2) := by decide +kernel
theorem dX10_old_5 : decode cX10_old 5 = .ok (.if_icmp .ge 44, 3) := by decide +kernel
theorem dX10_old_8 : decode cX10_old 8 = .ok (.aload_n 0, 1) := by decide +kernel
theorem dX10_old_9 : decode cX10_old 9 = .ok (.getfield 36, 3) := by decide +kernel
theorem dX10_old_12 : decode cX10_old 12 = .ok (.iload_n 2, 1) := by decide +kernel
theorem dX10_old_13 : decode cX10_old 13 = .ok (.aload_n 0, 1) := by decide +kernel
theorem dX10_old_14 : decode cX10_old 14 = .ok (.getfield 10, 3) := by decide +kernel
theorem dX10_old_17 : decode cX10_old 17 = .ok (.iload_n 2, 1) := by decide +kernel
theorem dX10_old_18 : decode cX10_old 18 = .ok (.invokevirtual 166, 3) := by decide +kernel
theorem dX10_old_21 : decode cX10_old 21 = .ok (.ifCond .eq 20, 3) := by decide +kernel
theorem dX10_old_24 : decode cX10_old 24 = .ok (.aload_n 0, 1) := by decide +kernel
theorem dX10_old_25 : decode cX10_old 25 = .ok (.getfield 10, 3) := by decide +kernel
theorem dX10_old_28 : decode cX10_old 28 = .ok (.getfield 148, 3) := by decide +kernel
theorem dX10_old_31 : decode cX10_old 31 = .ok (.iload_n 2, 1) := by decide +kernel
theorem dX10_old_32 : decode cX10_old 32 = .ok (.invokevirtual 152, 3) := by decide +kernel
theorem dX10_old_35 : decode cX10_old 35 = .ok (.invokestatic 174, 3) := by decide +kernel
theorem dX10_old_38 : decode cX10_old 38 = .ok (.goto 4, 3) := by decide +kernel
theorem dX10_old_41 : decode cX10_old 41 = .ok (.iconst (-1), 1) := by decide +kernel
theorem dX10_old_42 : decode cX10_old 42 = .ok (.iastore, 1) := by decide +kernel
theorem dX10_old_43 : decode cX10_old 43 = .ok (.iinc 2 1, 3) := by decide +kernel
theorem dX10_old_46 : decode cX10_old 46 = .ok (.goto (-44), 3) := by decide +kernel
theorem dX10_old_49 : decode cX10_old 49 = .ok (.iconst 0, 1) := by decide +kernel
theorem dX10_old_50 : decode cX10_old 50 = .ok (.istore_n 2, 1) := by decide +kernel
theorem dX10_old_51 : decode cX10_old 51 = .ok (.iload_n 2, 1) := by decide +kernel
theorem dX10_old_52 : decode cX10_old 52 = .ok (.bipush 64, 2) := by decide +kernel
theorem dX10_old_54 : decode cX10_old 54 = .ok (.if_icmp .ge 35, 3) := by decide +kernel
theorem dX10_old_57 : decode cX10_old 57 = .ok (.aload_n 0, 1) := by decide +kernel
theorem dX10_old_58 : decode cX10_old 58 = .ok (.getfield 36, 3) := by decide +kernel
theorem dX10_old_61 : decode cX10_old 61 = .ok (.iload_n 2, 1) := by decide +kernel
theorem dX10_old_62 : decode cX10_old 62 = .ok (.iaload, 1) := by decide +kernel
theorem dX10_old_63 : decode cX10_old 63 = .ok (.iconst (-1), 1) := by decide +kernel
theorem dX10_old_64 : decode cX10_old 64 = .ok (.if_icmp .eq 19, 3) := by decide +kernel
theorem dX10_old_67 : decode cX10_old 67 = .ok (.aload_n 0, 1) := by decide +kernel
theorem dX10_old_68 : decode cX10_old 68 = .ok (.aload_n 0, 1) := by decide +kernel
theorem dX10_old_69 : decode cX10_old 69 = .ok (.getfield 36, 3) := by decide +kernel
theorem dX10_old_72 : decode cX10_old 72 = .ok (.iload_n 2, 1) := by decide +kernel
theorem dX10_old_73 : decode cX10_old 73 = .ok (.iaload, 1) := by decide +kernel
theorem dX10_old_74 : decode cX10_old 74 = .ok (.invokevirtual 262, 3) := by decide +kernel
theorem dX10_old_77 : decode cX10_old 77 = .ok (.iload_n 1, 1) := by decide +kernel
theorem dX10_old_78 : decode cX10_old 78 = .ok (.if_icmp .ne 5, 3) := by decide +kernel
theorem dX10_old_81 : decode cX10_old 81 = .ok (.iload_n 2, 1) := by decide +kernel
theorem dX10_old_82 : decode cX10_old 82 = .ok (.ireturn, 1) := by decide +kernel
theorem dX10_old_83 : decode cX10_old 83 = .ok (.iinc 2 1, 3) := by decide +kernel
theorem dX10_old_86 : decode cX10_old 86 = .ok (.goto (-35), 3) := by decide +kernel
theorem dX10_old_89 : decode cX10_old 89 = .ok (.iconst (-1), 1) := by decide +kernel
theorem dX10_old_90 : decode cX10_old 90 = .ok (.ireturn, 1) := by decide +kernel
theorem dX10_elderThan_0 : decode cX10_elderThan 0 = .ok (.iconst 0, 1) := by decide +kernel
theorem dX10_elderThan_1 : decode cX10_elderThan 1 = .ok (.istore_n 2, 1) := by decide +kernel
theorem dX10_elderThan_2 : decode cX10_elderThan 2 = .ok (.aload_n 0, 1) := by decide +kernel
theorem dX10_elderThan_3 : decode cX10_elderThan 3 = .ok (.getfield 36, 3) := by decide +kernel
theorem dX10_elderThan_6 : decode cX10_elderThan 6 = .ok (.astore_n 3, 1) := by decide +kernel
theorem dX10_elderThan_7 : decode cX10_elderThan 7 = .ok (.aload_n 3, 1) := by decide +kernel
theorem dX10_elderThan_8 : decode cX10_elderThan 8 = .ok (.arraylength, 1) := by decide +kernel
theorem dX10_elderThan_9 : decode cX10_elderThan 9 = .ok (.istore 4, 2) := by decide +kernel
theorem dX10_elderThan_11 : decode cX10_elderThan 11 = .ok (.iconst 0, 1) := by decide +kernel
theorem dX10_elderThan_12 : decode cX10_elderThan 12 = .ok (.istore 5, 2) := by decide +kernel
theorem dX10_elderThan_14 : decode cX10_elderThan 14 = .ok (.iload 5, 2) := by decide +kernel
theorem dX10_elderThan_16 : decode cX10_elderThan 16 = .ok (.iload 4, 2) := by decide +kernel
theorem dX10_elderThan_18 : decode cX10_elderThan 18 = .ok (.if_icmp .ge 35, 3) := by decide +kernel
theorem dX10_elderThan_21 : decode cX10_elderThan 21 = .ok (.aload_n 3, 1) := by decide +kernel
theorem dX10_elderThan_22 : decode cX10_elderThan 22 = .ok (.iload 5, 2) := by decide +kernel
theorem dX10_elderThan_24 : decode cX10_elderThan 24 = .ok (.iaload, 1) := by decide +kernel
theorem dX10_elderThan_25 : decode cX10_elderThan 25 = .ok (.istore 6, 2) := by decide +kernel
theorem dX10_elderThan_27 : decode cX10_elderThan 27 = .ok (.iload_n 2, 1) := by decide +kernel
theorem dX10_elderThan_28 : decode cX10_elderThan 28 = .ok (.iload 6, 2) := by decide +kernel
theorem dX10_elderThan_30 : decode cX10_elderThan 30 = .ok (.iconst (-1), 1) := by decide +kernel
theorem dX10_elderThan_31 : decode cX10_elderThan 31 = .ok (.if_icmp .eq 13, 3) := by decide +kernel
theorem dX10_elderThan_34 : decode cX10_elderThan 34 = .ok (.iload 6, 2) := by decide +kernel
theorem dX10_elderThan_36 : decode cX10_elderThan 36 = .ok (.iload_n 1, 1) := by decide +kernel
theorem dX10_elderThan_37 : decode cX10_elderThan 37 = .ok (.if_icmp .ge 7, 3) := by decide +kernel
theorem dX10_elderThan_40 : decode cX10_elderThan 40 = .ok (.iconst 1, 1) := by decide +kernel
theorem dX10_elderThan_41 : decode cX10_elderThan 41 = .ok (.goto 4, 3) := by decide +kernel
theorem dX10_elderThan_44 : decode cX10_elderThan 44 = .ok (.iconst 0, 1) := by decide +kernel
theorem dX10_elderThan_45 : decode cX10_elderThan 45 = .ok (.iadd, 1) := by decide +kernel
theorem dX10_elderThan_46 : decode cX10_elderThan 46 = .ok (.istore_n 2, 1) := by decide +kernel
theorem dX10_elderThan_47 : decode cX10_elderThan 47 = .ok (.iinc 5 1, 3) := by decide +kernel
theorem dX10_elderThan_50 : decode cX10_elderThan 50 = .ok (.goto (-36), 3) := by decide +kernel
theorem dX10_elderThan_53 : decode cX10_elderThan 53 = .ok (.iload_n 2, 1) := by decide +kernel
theorem dX10_elderThan_54 : decode cX10_elderThan 54 = .ok (.ireturn, 1) := by decide +kernel
theorem dX10_holds_0 : decode cX10_holds 0 = .ok (.iconst 1, 1) := by decide +kernel
theorem dX10_holds_1 : decode cX10_holds 1 = .ok (.iconst 1, 1) := by decide +kernel
theorem dX10_holds_2 : decode cX10_holds 2 = .ok (.iload_n 1, 1) := by decide +kernel
theorem dX10_holds_3 : decode cX10_holds 3 = .ok (.invokestatic 99, 3) := by decide +kernel
theorem dX10_holds_6 : decode cX10_holds 6 = .ok (.ifCond .ne 14, 3) := by decide +kernel
theorem dX10_holds_9 : decode cX10_holds 9 = .ok (.new 89, 3) := by decide +kernel
theorem dX10_holds_12 : decode cX10_holds 12 = .ok (.dup, 1) := by decide +kernel
theorem dX10_holds_13 : decode cX10_holds 13 = .ok (.ldc_w 265, 3) := by decide +kernel
theorem dX10_holds_16 : decode cX10_holds 16 = .ok (.invokespecial 93, 3) := by decide +kernel
theorem dX10_holds_19 : decode cX10_holds 19 = .ok (.athrow, 1) := by decide +kernel
theorem dX10_holds_20 : decode cX10_holds 20 = .ok (.bipush 99, 2) := by decide +kernel
theorem dX10_holds_22 : decode cX10_holds 22 = .ok (.aload_n 0, 1) := by decide +kernel
theorem dX10_holds_23 : decode cX10_holds 23 = .ok (.getfield 10, 3) := by decide +kernel
theorem dX10_holds_26 : decode cX10_holds 26 = .ok (.iconst 4, 1) := by decide +kernel
theorem dX10_holds_27 : decode cX10_holds 27 = .ok (.iload_n 1, 1) := by decide +kernel
theorem dX10_holds_28 : decode cX10_holds 28 = .ok (.iadd, 1) := by decide +kernel
theorem dX10_holds_29 : decode cX10_holds 29 = .ok (.invokevirtual 267, 3) := by decide +kernel
theorem dX10_holds_32 : decode cX10_holds 32 = .ok (.invokestatic 270, 3) := by decide +kernel
theorem dX10_holds_35 : decode cX10_holds 35 = .ok (.ireturn, 1) := by decide +kernel
theorem dX10_would_0 : decode cX10_would 0 = .ok (.iload_n 1, 1) := by decide +kernel
theorem dX10_would_1 : decode cX10_would 1 = .ok (.invokestatic 116, 3) := by decide +kernel
theorem dX10_would_4 : decode cX10_would 4 = .ok (.iload_n 2, 1) := by decide +kernel
theorem dX10_would_5 : decode cX10_would 5 = .ok (.iconst 2, 1) := by decide +kernel
theorem dX10_would_6 : decode cX10_would 6 = .ok (.invokestatic 136, 3) := by decide +kernel
theorem dX10_would_9 : decode cX10_would 9 = .ok (.aload_n 0, 1) := by decide +kernel
theorem dX10_would_10 : decode cX10_would 10 = .ok (.getfield 10, 3) := by decide +kernel
theorem dX10_would_13 : decode cX10_would 13 = .ok (.bipush 6, 2) := by decide +kernel
theorem dX10_would_15 : decode cX10_would 15 = .ok (.iload_n 1, 1) := by decide +kernel
theorem dX10_would_16 : decode cX10_would 16 = .ok (.iconst 0, 1) := by decide +kernel
theorem dX10_would_17 : decode cX10_would 17 = .ok (.invokevirtual 72, 3) := by decide +kernel
theorem dX10_would_20 : decode cX10_would 20 = .ok (.ifCond .eq 7, 3) := by decide +kernel
theorem dX10_would_23 : decode cX10_would 23 = .ok (.sipush (-1000), 3) := by decide +kernel
theorem dX10_would_26 : decode cX10_would 26 = .ok (.ireturn, 1) := by decide +kernel
theorem dX10_would_27 : decode cX10_would 27 = .ok (.aload_n 0, 1) := by decide +kernel
theorem dX10_would_28 : decode cX10_would 28 = .ok (.getfield 16, 3) := by decide +kernel
theorem dX10_would_31 : decode cX10_would 31 = .ok (.aload_n 0, 1) := by decide +kernel
theorem dX10_would_32 : decode cX10_would 32 = .ok (.getfield 10, 3) := by decide +kernel
theorem dX10_would_35 : decode cX10_would 35 = .ok (.invokevirtual 55, 3) := by decide +kernel
theorem dX10_would_38 : decode cX10_would 38 = .ok (.aload_n 0, 1) := by decide +kernel
theorem dX10_would_39 : decode cX10_would 39 = .ok (.getfield 16, 3) := by decide +kernel
theorem dX10_would_42 : decode cX10_would 42 = .ok (.iload_n 1, 1) := by decide +kernel
theorem dX10_would_43 : decode cX10_would 43 = .ok (.invokevirtual 275, 3) := by decide +kernel
theorem dX10_would_46 : decode cX10_would 46 = .ok (.pop, 1) := by decide +kernel
theorem dX10_would_47 : decode cX10_would 47 = .ok (.aload_n 0, 1) := by decide +kernel
theorem dX10_would_48 : decode cX10_would 48 = .ok (.getfield 16, 3) := by decide +kernel
theorem dX10_would_51 : decode cX10_would 51 = .ok (.invokevirtual 278, 3) := by decide +kernel
theorem dX10_would_54 : decode cX10_would 54 = .ok (.ifCond .ne 7, 3) := by decide +kernel
theorem dX10_would_57 : decode cX10_would 57 = .ok (.sipush (-1000), 3) := by decide +kernel
theorem dX10_would_60 : decode cX10_would 60 = .ok (.ireturn, 1) := by decide +kernel
theorem dX10_would_61 : decode cX10_would 61 = .ok (.iload_n 2, 1) := by decide +kernel
theorem dX10_would_62 : decode cX10_would 62 = .ok (.lookupswitch 64 #[(0, 26), (1, 48)], 26) := by decide +kernel
theorem dX10_would_88 : decode cX10_would 88 = .ok (.aload_n 0, 1) := by decide +kernel
theorem dX10_would_89 : decode cX10_would 89 = .ok (.getfield 16, 3) := by decide +kernel
theorem dX10_would_92 : decode cX10_would 92 = .ok (.getfield 282, 3) := by decide +kernel
theorem dX10_would_95 : decode cX10_would 95 = .ok (.getfield 286, 3) := by decide +kernel
theorem dX10_would_98 : decode cX10_would 98 = .ok (.aload_n 0, 1) := by decide +kernel
theorem dX10_would_99 : decode cX10_would 99 = .ok (.getfield 10, 3) := by decide +kernel
theorem dX10_would_102 : decode cX10_would 102 = .ok (.getfield 282, 3) := by decide +kernel
theorem dX10_would_105 : decode cX10_would 105 = .ok (.getfield 286, 3) := by decide +kernel
theorem dX10_would_108 : decode cX10_would 108 = .ok (.isub, 1) := by decide +kernel
theorem dX10_would_109 : decode cX10_would 109 = .ok (.ireturn, 1) := by decide +kernel
theorem dX10_would_110 : decode cX10_would 110 = .ok (.aload_n 0, 1) := by decide +kernel
theorem dX10_would_111 : decode cX10_would 111 = .ok (.getfield 16, 3) := by decide +kernel
theorem dX10_would_114 : decode cX10_would 114 = .ok (.invokevirtual 291, 3) := by decide +kernel
theorem dX10_would_117 : decode cX10_would 117 = .ok (.aload_n 0, 1) := by decide +kernel
theorem dX10_would_118 : decode cX10_would 118 = .ok (.getfield 10, 3) := by decide +kernel
theorem dX10_would_121 : decode cX10_would 121 = .ok (.invokevirtual 291, 3) := by decide +kernel
theorem dX10_would_124 : decode cX10_would 124 = .ok (.isub, 1) := by decide +kernel
theorem dX10_would_125 : decode cX10_would 125 = .ok (.ireturn, 1) := by decide +kernel
theorem dX10_would_126 : decode cX10_would 126 = .ok (.aload_n 0, 1) := by decide +kernel
theorem dX10_would_127 : decode cX10_would 127 = .ok (.getfield 16, 3) := by decide +kernel
theorem dX10_would_130 : decode cX10_would 130 = .ok (.getfield 282, 3) := by decide +kernel
theorem dX10_would_133 : decode cX10_would 133 = .ok (.getfield 294, 3) := by decide +kernel
theorem dX10_would_136 : decode cX10_would 136 = .ok (.aload_n 0, 1) := by decide +kernel
theorem dX10_would_137 : decode cX10_would 137 = .ok (.getfield 10, 3) := by decide +kernel
theorem dX10_would_140 : decode cX10_would 140 = .ok (.getfield 282, 3) := by decide +kernel
theorem dX10_would_143 : decode cX10_would 143 = .ok (.getfield 294, 3) := by decide +kernel
theorem dX10_would_146 : decode cX10_would 146 = .ok (.isub, 1) := by decide +kernel
theorem dX10_would_147 : decode cX10_would 147 = .ok (.ireturn, 1) := by decide +kernel
theorem dX10_sweep_0 : decode cX10_sweep 0 = .ok (.iload_n 1, 1) := by decide +kernel
theorem dX10_sweep_1 : decode cX10_sweep 1 = .ok (.iconst 1, 1) := by decide +kernel
theorem dX10_sweep_2 : decode cX10_sweep 2 = .ok (.if_icmp .lt 9, 3) := by decide +kernel
theorem dX10_sweep_5 : decode cX10_sweep 5 = .ok (.iload_n 1, 1) := by decide +kernel
theorem dX10_sweep_6 : decode cX10_sweep 6 = .ok (.bipush 6, 2) := by decide +kernel
theorem dX10_sweep_8 : decode cX10_sweep 8 = .ok (.if_icmp .le 14, 3) := by decide +kernel
theorem dX10_sweep_11 : decode cX10_sweep 11 = .ok (.new 89, 3) := by decide +kernel
theorem dX10_sweep_14 : decode cX10_sweep 14 = .ok (.dup, 1) := by decide +kernel
theorem dX10_sweep_15 : decode cX10_sweep 15 = .ok (.ldc_w 297, 3) := by decide +kernel
theorem dX10_sweep_18 : decode cX10_sweep 18 = .ok (.invokespecial 93, 3) := by decide +kernel
theorem dX10_sweep_21 : decode cX10_sweep 21 = .ok (.athrow, 1) := by decide +kernel
theorem dX10_sweep_22 : decode cX10_sweep 22 = .ok (.iload_n 2, 1) := by decide +kernel
theorem dX10_sweep_23 : decode cX10_sweep 23 = .ok (.iconst 2, 1) := by decide +kernel
theorem dX10_sweep_24 : decode cX10_sweep 24 = .ok (.invokestatic 136, 3) := by decide +kernel
theorem dX10_sweep_27 : decode cX10_sweep 27 = .ok (.iconst 0, 1) := by decide +kernel
theorem dX10_sweep_28 : decode cX10_sweep 28 = .ok (.istore_n 3, 1) := by decide +kernel
theorem dX10_sweep_29 : decode cX10_sweep 29 = .ok (.iconst 1, 1) := by decide +kernel
theorem dX10_sweep_30 : decode cX10_sweep 30 = .ok (.istore 4, 2) := by decide +kernel
theorem dX10_sweep_32 : decode cX10_sweep 32 = .ok (.aload_n 0, 1) := by decide +kernel
theorem dX10_sweep_33 : decode cX10_sweep 33 = .ok (.getfield 16, 3) := by decide +kernel
theorem dX10_sweep_36 : decode cX10_sweep 36 = .ok (.aload_n 0, 1) := by decide +kernel
theorem dX10_sweep_37 : decode cX10_sweep 37 = .ok (.getfield 10, 3) := by decide +kernel
theorem dX10_sweep_40 : decode cX10_sweep 40 = .ok (.invokevirtual 55, 3) := by decide +kernel
theorem dX10_sweep_43 : decode cX10_sweep 43 = .ok (.iconst 0, 1) := by decide +kernel
theorem dX10_sweep_44 : decode cX10_sweep 44 = .ok (.istore 5, 2) := by decide +kernel
theorem dX10_sweep_46 : decode cX10_sweep 46 = .ok (.iload 5, 2) := by decide +kernel
theorem dX10_sweep_48 : decode cX10_sweep 48 = .ok (.iload_n 1, 1) := by decide +kernel
theorem dX10_sweep_49 : decode cX10_sweep 49 = .ok (.if_icmp .ge 83, 3) := by decide +kernel
theorem dX10_sweep_52 : decode cX10_sweep 52 = .ok (.iload 4, 2) := by decide +kernel
theorem dX10_sweep_54 : decode cX10_sweep 54 = .ok (.ifCond .eq 78, 3) := by decide +kernel
theorem dX10_sweep_57 : decode cX10_sweep 57 = .ok (.aload_n 0, 1) := by decide +kernel
theorem dX10_sweep_58 : decode cX10_sweep 58 = .ok (.getfield 16, 3) := by decide +kernel
theorem dX10_sweep_61 : decode cX10_sweep 61 = .ok (.getfield 299, 3) := by decide +kernel
theorem dX10_sweep_64 : decode cX10_sweep 64 = .ok (.invokevirtual 303, 3) := by decide +kernel
theorem dX10_sweep_67 : decode cX10_sweep 67 = .ok (.aload_n 0, 1) := by decide +kernel
theorem dX10_sweep_68 : decode cX10_sweep 68 = .ok (.getfield 16, 3) := by decide +kernel
theorem dX10_sweep_71 : decode cX10_sweep 71 = .ok (.invokevirtual 308, 3) := by decide +kernel
theorem dX10_sweep_74 : decode cX10_sweep 74 = .ok (.istore 6, 2) := by decide +kernel
theorem dX10_sweep_76 : decode cX10_sweep 76 = .ok (.iload 6, 2) := by decide +kernel
theorem dX10_sweep_78 : decode cX10_sweep 78 = .ok (.iconst (-1), 1) := by decide +kernel
theorem dX10_sweep_79 : decode cX10_sweep 79 = .ok (.if_icmp .eq 7, 3) := by decide +kernel
theorem dX10_sweep_82 : decode cX10_sweep 82 = .ok (.iconst 1, 1) := by decide +kernel
theorem dX10_sweep_83 : decode cX10_sweep 83 = .ok (.goto 4, 3) := by decide +kernel
theorem dX10_sweep_86 : decode cX10_sweep 86 = .ok (.iconst 0, 1) := by decide +kernel
theorem dX10_sweep_87 : decode cX10_sweep 87 = .ok (.istore 4, 2) := by decide +kernel
theorem dX10_sweep_89 : decode cX10_sweep 89 = .ok (.iload 4, 2) := by decide +kernel
theorem dX10_sweep_91 : decode cX10_sweep 91 = .ok (.ifCond .eq 35, 3) := by decide +kernel
theorem dX10_sweep_94 : decode cX10_sweep 94 = .ok (.aload_n 0, 1) := by decide +kernel
theorem dX10_sweep_95 : decode cX10_sweep 95 = .ok (.getfield 16, 3) := by decide +kernel
theorem dX10_sweep_98 : decode cX10_sweep 98 = .ok (.iload 6, 2) := by decide +kernel
theorem dX10_sweep_100 : decode cX10_sweep 100 = .ok (.invokevirtual 275, 3) := by decide +kernel
theorem dX10_sweep_103 : decode cX10_sweep 103 = .ok (.pop, 1) := by decide +kernel
theorem dX10_sweep_104 : decode cX10_sweep 104 = .ok (.aload_n 0, 1) := by decide +kernel
theorem dX10_sweep_105 : decode cX10_sweep 105 = .ok (.getfield 16, 3) := by decide +kernel
theorem dX10_sweep_108 : decode cX10_sweep 108 = .ok (.invokevirtual 278, 3) := by decide +kernel
theorem dX10_sweep_111 : decode cX10_sweep 111 = .ok (.istore 4, 2) := by decide +kernel
theorem dX10_sweep_113 : decode cX10_sweep 113 = .ok (.iload_n 3, 1) := by decide +kernel
theorem dX10_sweep_114 : decode cX10_sweep 114 = .ok (.iload 4, 2) := by decide +kernel
theorem dX10_sweep_116 : decode cX10_sweep 116 = .ok (.ifCond .eq 7, 3) := by decide +kernel
theorem dX10_sweep_119 : decode cX10_sweep 119 = .ok (.iconst 1, 1) := by decide +kernel
theorem dX10_sweep_120 : decode cX10_sweep 120 = .ok (.goto 4, 3) := by decide +kernel
theorem dX10_sweep_123 : decode cX10_sweep 123 = .ok (.iconst 0, 1) := by decide +kernel
theorem dX10_sweep_124 : decode cX10_sweep 124 = .ok (.iadd, 1) := by decide +kernel
theorem dX10_sweep_125 : decode cX10_sweep 125 = .ok (.istore_n 3, 1) := by decide +kernel
theorem dX10_sweep_126 : decode cX10_sweep 126 = .ok (.iinc 5 1, 3) := by decide +kernel
theorem dX10_sweep_129 : decode cX10_sweep 129 = .ok (.goto (-83), 3) := by decide +kernel
theorem dX10_sweep_132 : decode cX10_sweep 132 = .ok (.iload_n 2, 1) := by decide +kernel
theorem dX10_sweep_133 : decode cX10_sweep 133 = .ok (.lookupswitch 37 #[(0, 27), (1, 29)], 27) := by decide +kernel
theorem dX10_sweep_160 : decode cX10_sweep 160 = .ok (.iload_n 3, 1) := by decide +kernel
theorem dX10_sweep_161 : decode cX10_sweep 161 = .ok (.ireturn, 1) := by decide +kernel
theorem dX10_sweep_162 : decode cX10_sweep 162 = .ok (.aload_n 0, 1) := by decide +kernel
theorem dX10_sweep_163 : decode cX10_sweep 163 = .ok (.getfield 16, 3) := by decide +kernel
theorem dX10_sweep_166 : decode cX10_sweep 166 = .ok (.invokevirtual 291, 3) := by decide +kernel
theorem dX10_sweep_169 : decode cX10_sweep 169 = .ok (.ireturn, 1) := by decide +kernel
theorem dX10_sweep_170 : decode cX10_sweep 170 = .ok (.aload_n 0, 1) := by decide +kernel
theorem dX10_sweep_171 : decode cX10_sweep 171 = .ok (.getfield 16, 3) := by decide +kernel
theorem dX10_sweep_174 : decode cX10_sweep 174 = .ok (.invokevirtual 311, 3) := by decide +kernel
theorem dX10_sweep_177 : decode cX10_sweep 177 = .ok (.ireturn, 1) := by decide +kernel
theorem dX10_traces_0 : decode cX10_traces 0 = .ok (.iload_n 1, 1) := by decide +kernel
theorem dX10_traces_1 : decode cX10_traces 1 = .ok (.invokestatic 105, 3) := by decide +kernel
theorem dX10_traces_4 : decode cX10_traces 4 = .ok (.iload_n 2, 1) := by decide +kernel
theorem dX10_traces_5 : decode cX10_traces 5 = .ok (.iconst 2, 1) := by decide +kernel
theorem dX10_traces_6 : decode cX10_traces 6 = .ok (.invokestatic 136, 3) := by decide +kernel
theorem dX10_traces_9 : decode cX10_traces 9 = .ok (.aload_n 0, 1) := by decide +kernel
theorem dX10_traces_10 : decode cX10_traces 10 = .ok (.getfield 10, 3) := by decide +kernel
theorem dX10_traces_13 : decode cX10_traces 13 = .ok (.getfield 198, 3) := by decide +kernel
theorem dX10_traces_16 : decode cX10_traces 16 = .ok (.astore_n 3, 1) := by decide +kernel
theorem dX10_traces_17 : decode cX10_traces 17 = .ok (.iconst 0, 1) := by decide +kernel
theorem dX10_traces_18 : decode cX10_traces 18 = .ok (.istore 4, 2) := by decide +kernel
theorem dX10_traces_20 : decode cX10_traces 20 = .ok (.iconst 0, 1) := by decide +kernel
theorem dX10_traces_21 : decode cX10_traces 21 = .ok (.istore 5, 2) := by decide +kernel
theorem dX10_traces_23 : decode cX10_traces 23 = .ok (.iconst 0, 1) := by decide +kernel
theorem dX10_traces_24 : decode cX10_traces 24 = .ok (.istore 6, 2) := by decide +kernel
theorem dX10_traces_26 : decode cX10_traces 26 = .ok (.iconst 0, 1) := by decide +kernel
theorem dX10_traces_27 : decode cX10_traces 27 = .ok (.istore 7, 2) := by decide +kernel
theorem dX10_traces_29 : decode cX10_traces 29 = .ok (.iload 7, 2) := by decide +kernel
theorem dX10_traces_31 : decode cX10_traces 31 = .ok (.bipush 12, 2) := by decide +kernel
theorem dX10_traces_33 : decode cX10_traces 33 = .ok (.if_icmp .ge 70, 3) := by decide +kernel
theorem dX10_traces_36 : decode cX10_traces 36 = .ok (.iconst 0, 1) := by decide +kernel
theorem dX10_traces_37 : decode cX10_traces 37 = .ok (.istore 8, 2) := by decide +kernel
theorem dX10_traces_39 : decode cX10_traces 39 = .ok (.iload 8, 2) := by decide +kernel
theorem dX10_traces_41 : decode cX10_traces 41 = .ok (.aload_n 3, 1) := by decide +kernel
theorem dX10_traces_42 : decode cX10_traces 42 = .ok (.iload 7, 2) := by decide +kernel
theorem dX10_traces_44 : decode cX10_traces 44 = .ok (.invokevirtual 206, 3) := by decide +kernel
theorem dX10_traces_47 : decode cX10_traces 47 = .ok (.if_icmp .ge 50, 3) := by decide +kernel
theorem dX10_traces_50 : decode cX10_traces 50 = .ok (.aload_n 3, 1) := by decide +kernel
theorem dX10_traces_51 : decode cX10_traces 51 = .ok (.iload 7, 2) := by decide +kernel
theorem dX10_traces_53 : decode cX10_traces 53 = .ok (.iload 8, 2) := by decide +kernel
theorem dX10_traces_55 : decode cX10_traces 55 = .ok (.invokevirtual 221, 3) := by decide +kernel
theorem dX10_traces_58 : decode cX10_traces 58 = .ok (.lstore 9, 2) := by decide +kernel
theorem dX10_traces_60 : decode cX10_traces 60 = .ok (.lload 9, 2) := by decide +kernel
theorem dX10_traces_62 : decode cX10_traces 62 = .ok (.invokestatic 225, 3) := by decide +kernel
theorem dX10_traces_65 : decode cX10_traces 65 = .ok (.iload_n 1, 1) := by decide +kernel
theorem dX10_traces_66 : decode cX10_traces 66 = .ok (.if_icmp .ne 25, 3) := by decide +kernel
theorem dX10_traces_69 : decode cX10_traces 69 = .ok (.iinc 4 1, 3) := by decide +kernel
theorem dX10_traces_72 : decode cX10_traces 72 = .ok (.iload 5, 2) := by decide +kernel
theorem dX10_traces_74 : decode cX10_traces 74 = .ok (.lload 9, 2) := by decide +kernel
theorem dX10_traces_76 : decode cX10_traces 76 = .ok (.invokestatic 314, 3) := by decide +kernel
theorem dX10_traces_79 : decode cX10_traces 79 = .ok (.iadd, 1) := by decide +kernel
theorem dX10_traces_80 : decode cX10_traces 80 = .ok (.istore 5, 2) := by decide +kernel
theorem dX10_traces_82 : decode cX10_traces 82 = .ok (.iload 6, 2) := by decide +kernel
theorem dX10_traces_84 : decode cX10_traces 84 = .ok (.iconst 1, 1) := by decide +kernel
theorem dX10_traces_85 : decode cX10_traces 85 = .ok (.iload 7, 2) := by decide +kernel
theorem dX10_traces_87 : decode cX10_traces 87 = .ok (.ishl, 1) := by decide +kernel
theorem dX10_traces_88 : decode cX10_traces 88 = .ok (.ior, 1) := by decide +kernel
theorem dX10_traces_89 : decode cX10_traces 89 = .ok (.istore 6, 2) := by decide +kernel
theorem dX10_traces_91 : decode cX10_traces 91 = .ok (.iinc 8 1, 3) := by decide +kernel
theorem dX10_traces_94 : decode cX10_traces 94 = .ok (.goto (-55), 3) := by decide +kernel
theorem dX10_traces_97 : decode cX10_traces 97 = .ok (.iinc 7 1, 3) := by decide +kernel
theorem dX10_traces_100 : decode cX10_traces 100 = .ok (.goto (-71), 3) := by decide +kernel
theorem dX10_traces_103 : decode cX10_traces 103 = .ok (.iload_n 2, 1) := by decide +kernel
theorem dX10_traces_104 : decode cX10_traces 104 = .ok (.ifCond .ne 8, 3) := by decide +kernel
theorem dX10_traces_107 : decode cX10_traces 107 = .ok (.iload 4, 2) := by decide +kernel
theorem dX10_traces_109 : decode cX10_traces 109 = .ok (.goto 15, 3) := by decide +kernel
theorem dX10_traces_112 : decode cX10_traces 112 = .ok (.iload_n 2, 1) := by decide +kernel
theorem dX10_traces_113 : decode cX10_traces 113 = .ok (.iconst 1, 1) := by decide +kernel
theorem dX10_traces_114 : decode cX10_traces 114 = .ok (.if_icmp .ne 8, 3) := by decide +kernel
theorem dX10_traces_117 : decode cX10_traces 117 = .ok (.iload 5, 2) := by decide +kernel
theorem dX10_traces_119 : decode cX10_traces 119 = .ok (.goto 5, 3) := by decide +kernel
theorem dX10_traces_122 : decode cX10_traces 122 = .ok (.iload 6, 2) := by decide +kernel
theorem dX10_traces_124 : decode cX10_traces 124 = .ok (.ireturn, 1) := by decide +kernel
theorem dX10_log_0 : decode cX10_log 0 = .ok (.iload_n 2, 1) := by decide +kernel
theorem dX10_log_1 : decode cX10_log 1 = .ok (.iconst 2, 1) := by decide +kernel
theorem dX10_log_2 : decode cX10_log 2 = .ok (.invokestatic 136, 3) := by decide +kernel
theorem dX10_log_5 : decode cX10_log 5 = .ok (.aload_n 0, 1) := by decide +kernel
theorem dX10_log_6 : decode cX10_log 6 = .ok (.getfield 10, 3) := by decide +kernel
theorem dX10_log_9 : decode cX10_log 9 = .ok (.getfield 316, 3) := by decide +kernel
theorem dX10_log_12 : decode cX10_log 12 = .ok (.iload_n 1, 1) := by decide +kernel
theorem dX10_log_13 : decode cX10_log 13 = .ok (.iload_n 2, 1) := by decide +kernel
theorem dX10_log_14 : decode cX10_log 14 = .ok (.invokevirtual 320, 3) := by decide +kernel
theorem dX10_log_17 : decode cX10_log 17 = .ok (.ireturn, 1) := by decide +kernel
theorem dX10_image_0 : decode cX10_image 0 = .ok (.aload_n 0, 1) := by decide +kernel
theorem dX10_image_1 : decode cX10_image 1 = .ok (.getfield 19, 3) := by decide +kernel
theorem dX10_image_4 : decode cX10_image 4 = .ok (.aload_n 0, 1) := by decide +kernel
theorem dX10_image_5 : decode cX10_image 5 = .ok (.getfield 10, 3) := by decide +kernel
theorem dX10_image_8 : decode cX10_image 8 = .ok (.invokevirtual 55, 3) := by decide +kernel
theorem dX10_image_11 : decode cX10_image 11 = .ok (.aload_n 0, 1) := by decide +kernel
theorem dX10_image_12 : decode cX10_image 12 = .ok (.iconst 1, 1) := by decide +kernel
theorem dX10_image_13 : decode cX10_image 13 = .ok (.putfield 325, 3) := by decide +kernel
theorem dX10_image_16 : decode cX10_image 16 = .ok (.return_, 1) := by decide +kernel
theorem dX10_back_0 : decode cX10_back 0 = .ok (.aload_n 0, 1) := by decide +kernel
theorem dX10_back_1 : decode cX10_back 1 = .ok (.getfield 325, 3) := by decide +kernel
theorem dX10_back_4 : decode cX10_back 4 = .ok (.ifCond .ne 5, 3) := by decide +kernel
theorem dX10_back_7 : decode cX10_back 7 = .ok (.iconst 0, 1) := by decide +kernel
theorem dX10_back_8 : decode cX10_back 8 = .ok (.ireturn, 1) := by decide +kernel
theorem dX10_back_9 : decode cX10_back 9 = .ok (.aload_n 0, 1) := by decide +kernel
theorem dX10_back_10 : decode cX10_back 10 = .ok (.getfield 10, 3) := by decide +kernel
theorem dX10_back_13 : decode cX10_back 13 = .ok (.aload_n 0, 1) := by decide +kernel
theorem dX10_back_14 : decode cX10_back 14 = .ok (.getfield 19, 3) := by decide +kernel
theorem dX10_back_17 : decode cX10_back 17 = .ok (.invokevirtual 55, 3) := by decide +kernel
theorem dX10_back_20 : decode cX10_back 20 = .ok (.aload_n 0, 1) := by decide +kernel
theorem dX10_back_21 : decode cX10_back 21 = .ok (.getfield 25, 3) := by decide +kernel
theorem dX10_back_24 : decode cX10_back 24 = .ok (.invokevirtual 96, 3) := by decide +kernel
theorem dX10_back_27 : decode cX10_back 27 = .ok (.iconst 1, 1) := by decide +kernel
theorem dX10_back_28 : decode cX10_back 28 = .ok (.ireturn, 1) := by decide +kernel
theorem dX10_count_0 : decode cX10_count 0 = .ok (.iload_n 1, 1) := by decide +kernel
theorem dX10_count_1 : decode cX10_count 1 = .ok (.ifCond .lt 9, 3) := by decide +kernel
theorem dX10_count_4 : decode cX10_count 4 = .ok (.iload_n 1, 1) := by decide +kernel
theorem dX10_count_5 : decode cX10_count 5 = .ok (.bipush 27, 2) := by decide +kernel
theorem dX10_count_7 : decode cX10_count 7 = .ok (.if_icmp .le 5, 3) := by decide +kernel
theorem dX10_count_10 : decode cX10_count 10 = .ok (.iconst (-1), 1) := by decide +kernel
theorem dX10_count_11 : decode cX10_count 11 = .ok (.ireturn, 1) := by decide +kernel
theorem dX10_count_12 : decode cX10_count 12 = .ok (.iload_n 1, 1) := by decide +kernel
theorem dX10_count_13 : decode cX10_count 13 = .ok (.bipush 10, 2) := by decide +kernel
theorem dX10_count_15 : decode cX10_count 15 = .ok (.if_icmp .ge 11, 3) := by decide +kernel
theorem dX10_count_18 : decode cX10_count 18 = .ok (.aload_n 0, 1) := by decide +kernel
theorem dX10_count_19 : decode cX10_count 19 = .ok (.iload_n 1, 1) := by decide +kernel
theorem dX10_count_20 : decode cX10_count 20 = .ok (.invokevirtual 329, 3) := by decide +kernel
theorem dX10_count_23 : decode cX10_count 23 = .ok (.goto 22, 3) := by decide +kernel
theorem dX10_count_26 : decode cX10_count 26 = .ok (.iload_n 1, 1) := by decide +kernel
theorem dX10_count_27 : decode cX10_count 27 = .ok (.bipush 20, 2) := by decide +kernel
theorem dX10_count_29 : decode cX10_count 29 = .ok (.if_icmp .ge 11, 3) := by decide +kernel
theorem dX10_count_32 : decode cX10_count 32 = .ok (.aload_n 0, 1) := by decide +kernel
theorem dX10_count_33 : decode cX10_count 33 = .ok (.iload_n 1, 1) := by decide +kernel
theorem dX10_count_34 : decode cX10_count 34 = .ok (.invokevirtual 332, 3) := by decide +kernel
theorem dX10_count_37 : decode cX10_count 37 = .ok (.goto 8, 3) := by decide +kernel
theorem dX10_count_40 : decode cX10_count 40 = .ok (.aload_n 0, 1) := by decide +kernel
theorem dX10_count_41 : decode cX10_count 41 = .ok (.iload_n 1, 1) := by decide +kernel
theorem dX10_count_42 : decode cX10_count 42 = .ok (.invokevirtual 335, 3) := by decide +kernel
theorem dX10_count_45 : decode cX10_count 45 = .ok (.ireturn, 1) := by decide +kernel
theorem dX10_countOfKeys_0 : decode cX10_countOfKeys 0 = .ok (.iload_n 1, 1) := by decide +kernel
theorem dX10_countOfKeys_1 : decode cX10_countOfKeys 1 = .ok (.tableswitch 144 0 8 #[51, 62, 73, 84, 95, 106, 118, 128, 136], 51) := by decide +kernel
theorem dX10_countOfKeys_52 : decode cX10_countOfKeys 52 = .ok (.aload_n 0, 1) := by decide +kernel
theorem dX10_countOfKeys_53 : decode cX10_countOfKeys 53 = .ok (.getfield 10, 3) := by decide +kernel
theorem dX10_countOfKeys_56 : decode cX10_countOfKeys 56 = .ok (.getfield 338, 3) := by decide +kernel
theorem dX10_countOfKeys_59 : decode cX10_countOfKeys 59 = .ok (.getfield 342, 3) := by decide +kernel
theorem dX10_countOfKeys_62 : decode cX10_countOfKeys 62 = .ok (.ireturn, 1) := by decide +kernel
theorem dX10_countOfKeys_63 : decode cX10_countOfKeys 63 = .ok (.aload_n 0, 1) := by decide +kernel
theorem dX10_countOfKeys_64 : decode cX10_countOfKeys 64 = .ok (.getfield 10, 3) := by decide +kernel
theorem dX10_countOfKeys_67 : decode cX10_countOfKeys 67 = .ok (.getfield 338, 3) := by decide +kernel
theorem dX10_countOfKeys_70 : decode cX10_countOfKeys 70 = .ok (.getfield 347, 3) := by decide +kernel
theorem dX10_countOfKeys_73 : decode cX10_countOfKeys 73 = .ok (.ireturn, 1) := by decide +kernel
theorem dX10_countOfKeys_74 : decode cX10_countOfKeys 74 = .ok (.aload_n 0, 1) := by decide +kernel
theorem dX10_countOfKeys_75 : decode cX10_countOfKeys 75 = .ok (.getfield 10, 3) := by decide +kernel
theorem dX10_countOfKeys_78 : decode cX10_countOfKeys 78 = .ok (.getfield 338, 3) := by decide +kernel
theorem dX10_countOfKeys_81 : decode cX10_countOfKeys 81 = .ok (.getfield 350, 3) := by decide +kernel
theorem dX10_countOfKeys_84 : decode cX10_countOfKeys 84 = .ok (.ireturn, 1) := by decide +kernel
theorem dX10_countOfKeys_85 : decode cX10_countOfKeys 85 = .ok (.aload_n 0, 1) := by decide +kernel
theorem dX10_countOfKeys_86 : decode cX10_countOfKeys 86 = .ok (.getfield 10, 3) := by decide +kernel
theorem dX10_countOfKeys_89 : decode cX10_countOfKeys 89 = .ok (.getfield 338, 3) := by decide +kernel
theorem dX10_countOfKeys_92 : decode cX10_countOfKeys 92 = .ok (.getfield 353, 3) := by decide +kernel
theorem dX10_countOfKeys_95 : decode cX10_countOfKeys 95 = .ok (.ireturn, 1) := by decide +kernel
theorem dX10_countOfKeys_96 : decode cX10_countOfKeys 96 = .ok (.aload_n 0, 1) := by decide +kernel
theorem dX10_countOfKeys_97 : decode cX10_countOfKeys 97 = .ok (.getfield 10, 3) := by decide +kernel
theorem dX10_countOfKeys_100 : decode cX10_countOfKeys 100 = .ok (.getfield 148, 3) := by decide +kernel
theorem dX10_countOfKeys_103 : decode cX10_countOfKeys 103 = .ok (.getfield 356, 3) := by decide +kernel
theorem dX10_countOfKeys_106 : decode cX10_countOfKeys 106 = .ok (.ireturn, 1) := by decide +kernel
theorem dX10_countOfKeys_107 : decode cX10_countOfKeys 107 = .ok (.aload_n 0, 1) := by decide +kernel
theorem dX10_countOfKeys_108 : decode cX10_countOfKeys 108 = .ok (.getfield 10, 3) := by decide +kernel
theorem dX10_countOfKeys_111 : decode cX10_countOfKeys 111 = .ok (.getfield 148, 3) := by decide +kernel
theorem dX10_countOfKeys_114 : decode cX10_countOfKeys 114 = .ok (.iconst 0, 1) := by decide +kernel
theorem dX10_countOfKeys_115 : decode cX10_countOfKeys 115 = .ok (.invokevirtual 238, 3) := by decide +kernel
theorem dX10_countOfKeys_118 : decode cX10_countOfKeys 118 = .ok (.ireturn, 1) := by decide +kernel
theorem dX10_countOfKeys_119 : decode cX10_countOfKeys 119 = .ok (.aload_n 0, 1) := by decide +kernel
theorem dX10_countOfKeys_120 : decode cX10_countOfKeys 120 = .ok (.getfield 10, 3) := by decide +kernel
theorem dX10_countOfKeys_123 : decode cX10_countOfKeys 123 = .ok (.bipush 64, 2) := by decide +kernel
theorem dX10_countOfKeys_125 : decode cX10_countOfKeys 125 = .ok (.invokevirtual 195, 3) := by decide +kernel
theorem dX10_countOfKeys_128 : decode cX10_countOfKeys 128 = .ok (.ireturn, 1) := by decide +kernel
theorem dX10_countOfKeys_129 : decode cX10_countOfKeys 129 = .ok (.aload_n 0, 1) := by decide +kernel
theorem dX10_countOfKeys_130 : decode cX10_countOfKeys 130 = .ok (.getfield 10, 3) := by decide +kernel
theorem dX10_countOfKeys_133 : decode cX10_countOfKeys 133 = .ok (.getfield 359, 3) := by decide +kernel
theorem dX10_countOfKeys_136 : decode cX10_countOfKeys 136 = .ok (.ireturn, 1) := by decide +kernel
theorem dX10_countOfKeys_137 : decode cX10_countOfKeys 137 = .ok (.aload_n 0, 1) := by decide +kernel
theorem dX10_countOfKeys_138 : decode cX10_countOfKeys 138 = .ok (.getfield 10, 3) := by decide +kernel
theorem dX10_countOfKeys_141 : decode cX10_countOfKeys 141 = .ok (.getfield 362, 3) := by decide +kernel
theorem dX10_countOfKeys_144 : decode cX10_countOfKeys 144 = .ok (.ireturn, 1) := by decide +kernel
theorem dX10_countOfKeys_145 : decode cX10_countOfKeys 145 = .ok (.aload_n 0, 1) := by decide +kernel
theorem dX10_countOfKeys_146 : decode cX10_countOfKeys 146 = .ok (.getfield 10, 3) := by decide +kernel
theorem dX10_countOfKeys_149 : decode cX10_countOfKeys 149 = .ok (.getfield 365, 3) := by decide +kernel
theorem dX10_countOfKeys_152 : decode cX10_countOfKeys 152 = .ok (.ireturn, 1) := by decide +kernel
theorem dX10_countOfBytes_0 : decode cX10_countOfBytes 0 = .ok (.iload_n 1, 1) := by decide +kernel
theorem dX10_countOfBytes_1 : decode cX10_countOfBytes 1 = .ok (.tableswitch 155 10 18 #[51, 62, 73, 81, 100, 111, 122, 133, 144], 51) := by decide +kernel
theorem dX10_countOfBytes_52 : decode cX10_countOfBytes 52 = .ok (.aload_n 0, 1) := by decide +kernel
theorem dX10_countOfBytes_53 : decode cX10_countOfBytes 53 = .ok (.getfield 10, 3) := by decide +kernel
theorem dX10_countOfBytes_56 : decode cX10_countOfBytes 56 = .ok (.getfield 198, 3) := by decide +kernel
theorem dX10_countOfBytes_59 : decode cX10_countOfBytes 59 = .ok (.invokevirtual 368, 3) := by decide +kernel
theorem dX10_countOfBytes_62 : decode cX10_countOfBytes 62 = .ok (.ireturn, 1) := by decide +kernel
theorem dX10_countOfBytes_63 : decode cX10_countOfBytes 63 = .ok (.aload_n 0, 1) := by decide +kernel
theorem dX10_countOfBytes_64 : decode cX10_countOfBytes 64 = .ok (.getfield 10, 3) := by decide +kernel
theorem dX10_countOfBytes_67 : decode cX10_countOfBytes 67 = .ok (.getfield 198, 3) := by decide +kernel
theorem dX10_countOfBytes_70 : decode cX10_countOfBytes 70 = .ok (.getfield 371, 3) := by decide +kernel
theorem dX10_countOfBytes_73 : decode cX10_countOfBytes 73 = .ok (.ireturn, 1) := by decide +kernel
theorem dX10_countOfBytes_74 : decode cX10_countOfBytes 74 = .ok (.aload_n 0, 1) := by decide +kernel
theorem dX10_countOfBytes_75 : decode cX10_countOfBytes 75 = .ok (.getfield 10, 3) := by decide +kernel
theorem dX10_countOfBytes_78 : decode cX10_countOfBytes 78 = .ok (.invokevirtual 374, 3) := by decide +kernel
theorem dX10_countOfBytes_81 : decode cX10_countOfBytes 81 = .ok (.ireturn, 1) := by decide +kernel
theorem dX10_countOfBytes_82 : decode cX10_countOfBytes 82 = .ok (.aload_n 0, 1) := by decide +kernel
theorem dX10_countOfBytes_83 : decode cX10_countOfBytes 83 = .ok (.getfield 10, 3) := by decide +kernel
theorem dX10_countOfBytes_86 : decode cX10_countOfBytes 86 = .ok (.getfield 198, 3) := by decide +kernel
theorem dX10_countOfBytes_89 : decode cX10_countOfBytes 89 = .ok (.invokevirtual 377, 3) := by decide +kernel
theorem dX10_countOfBytes_92 : decode cX10_countOfBytes 92 = .ok (.aload_n 0, 1) := by decide +kernel
theorem dX10_countOfBytes_93 : decode cX10_countOfBytes 93 = .ok (.getfield 10, 3) := by decide +kernel
theorem dX10_countOfBytes_96 : decode cX10_countOfBytes 96 = .ok (.invokevirtual 374, 3) := by decide +kernel
theorem dX10_countOfBytes_99 : decode cX10_countOfBytes 99 = .ok (.isub, 1) := by decide +kernel
theorem dX10_countOfBytes_100 : decode cX10_countOfBytes 100 = .ok (.ireturn, 1) := by decide +kernel
theorem dX10_countOfBytes_101 : decode cX10_countOfBytes 101 = .ok (.aload_n 0, 1) := by decide +kernel
theorem dX10_countOfBytes_102 : decode cX10_countOfBytes 102 = .ok (.getfield 10, 3) := by decide +kernel
theorem dX10_countOfBytes_105 : decode cX10_countOfBytes 105 = .ok (.getfield 299, 3) := by decide +kernel
theorem dX10_countOfBytes_108 : decode cX10_countOfBytes 108 = .ok (.getfield 380, 3) := by decide +kernel
theorem dX10_countOfBytes_111 : decode cX10_countOfBytes 111 = .ok (.ireturn, 1) := by decide +kernel
theorem dX10_countOfBytes_112 : decode cX10_countOfBytes 112 = .ok (.aload_n 0, 1) := by decide +kernel
theorem dX10_countOfBytes_113 : decode cX10_countOfBytes 113 = .ok (.getfield 10, 3) := by decide +kernel
theorem dX10_countOfBytes_116 : decode cX10_countOfBytes 116 = .ok (.getfield 299, 3) := by decide +kernel
theorem dX10_countOfBytes_119 : decode cX10_countOfBytes 119 = .ok (.invokevirtual 383, 3) := by decide +kernel
theorem dX10_countOfBytes_122 : decode cX10_countOfBytes 122 = .ok (.ireturn, 1) := by decide +kernel
theorem dX10_countOfBytes_123 : decode cX10_countOfBytes 123 = .ok (.aload_n 0, 1) := by decide +kernel
theorem dX10_countOfBytes_124 : decode cX10_countOfBytes 124 = .ok (.getfield 10, 3) := by decide +kernel
theorem dX10_countOfBytes_127 : decode cX10_countOfBytes 127 = .ok (.getfield 282, 3) := by decide +kernel
theorem dX10_countOfBytes_130 : decode cX10_countOfBytes 130 = .ok (.getfield 286, 3) := by decide +kernel
theorem dX10_countOfBytes_133 : decode cX10_countOfBytes 133 = .ok (.ireturn, 1) := by decide +kernel
theorem dX10_countOfBytes_134 : decode cX10_countOfBytes 134 = .ok (.aload_n 0, 1) := by decide +kernel
theorem dX10_countOfBytes_135 : decode cX10_countOfBytes 135 = .ok (.getfield 10, 3) := by decide +kernel
theorem dX10_countOfBytes_138 : decode cX10_countOfBytes 138 = .ok (.getfield 282, 3) := by decide +kernel
theorem dX10_countOfBytes_141 : decode cX10_countOfBytes 141 = .ok (.getfield 386, 3) := by decide +kernel
theorem dX10_countOfBytes_144 : decode cX10_countOfBytes 144 = .ok (.ireturn, 1) := by decide +kernel
theorem dX10_countOfBytes_145 : decode cX10_countOfBytes 145 = .ok (.aload_n 0, 1) := by decide +kernel
theorem dX10_countOfBytes_146 : decode cX10_countOfBytes 146 = .ok (.getfield 10, 3) := by decide +kernel
theorem dX10_countOfBytes_149 : decode cX10_countOfBytes 149 = .ok (.getfield 282, 3) := by decide +kernel
theorem dX10_countOfBytes_152 : decode cX10_countOfBytes 152 = .ok (.getfield 389, 3) := by decide +kernel
theorem dX10_countOfBytes_155 : decode cX10_countOfBytes 155 = .ok (.ireturn, 1) := by decide +kernel
theorem dX10_countOfBytes_156 : decode cX10_countOfBytes 156 = .ok (.aload_n 0, 1) := by decide +kernel
theorem dX10_countOfBytes_157 : decode cX10_countOfBytes 157 = .ok (.getfield 10, 3) := by decide +kernel
theorem dX10_countOfBytes_160 : decode cX10_countOfBytes 160 = .ok (.getfield 282, 3) := by decide +kernel
theorem dX10_countOfBytes_163 : decode cX10_countOfBytes 163 = .ok (.getfield 294, 3) := by decide +kernel
theorem dX10_countOfBytes_166 : decode cX10_countOfBytes 166 = .ok (.ireturn, 1) := by decide +kernel
theorem dX10_countOfRest_0 : decode cX10_countOfRest 0 = .ok (.iload_n 1, 1) := by decide +kernel
theorem dX10_countOfRest_1 : decode cX10_countOfRest 1 = .ok (.tableswitch 102 20 26 #[43, 54, 59, 67, 75, 83, 91], 43) := by decide +kernel
theorem dX10_countOfRest_44 : decode cX10_countOfRest 44 = .ok (.aload_n 0, 1) := by decide +kernel
theorem dX10_countOfRest_45 : decode cX10_countOfRest 45 = .ok (.getfield 10, 3) := by decide +kernel
theorem dX10_countOfRest_48 : decode cX10_countOfRest 48 = .ok (.getfield 282, 3) := by decide +kernel
theorem dX10_countOfRest_51 : decode cX10_countOfRest 51 = .ok (.invokevirtual 392, 3) := by decide +kernel
theorem dX10_countOfRest_54 : decode cX10_countOfRest 54 = .ok (.ireturn, 1) := by decide +kernel
theorem dX10_countOfRest_55 : decode cX10_countOfRest 55 = .ok (.aload_n 0, 1) := by decide +kernel
theorem dX10_countOfRest_56 : decode cX10_countOfRest 56 = .ok (.invokevirtual 395, 3) := by decide +kernel
theorem dX10_countOfRest_59 : decode cX10_countOfRest 59 = .ok (.ireturn, 1) := by decide +kernel
theorem dX10_countOfRest_60 : decode cX10_countOfRest 60 = .ok (.aload_n 0, 1) := by decide +kernel
theorem dX10_countOfRest_61 : decode cX10_countOfRest 61 = .ok (.getfield 10, 3) := by decide +kernel
theorem dX10_countOfRest_64 : decode cX10_countOfRest 64 = .ok (.invokevirtual 291, 3) := by decide +kernel
theorem dX10_countOfRest_67 : decode cX10_countOfRest 67 = .ok (.ireturn, 1) := by decide +kernel
theorem dX10_countOfRest_68 : decode cX10_countOfRest 68 = .ok (.aload_n 0, 1) := by decide +kernel
theorem dX10_countOfRest_69 : decode cX10_countOfRest 69 = .ok (.getfield 10, 3) := by decide +kernel
theorem dX10_countOfRest_72 : decode cX10_countOfRest 72 = .ok (.invokevirtual 308, 3) := by decide +kernel
theorem dX10_countOfRest_75 : decode cX10_countOfRest 75 = .ok (.ireturn, 1) := by decide +kernel
theorem dX10_countOfRest_76 : decode cX10_countOfRest 76 = .ok (.aload_n 0, 1) := by decide +kernel
theorem dX10_countOfRest_77 : decode cX10_countOfRest 77 = .ok (.getfield 10, 3) := by decide +kernel
theorem dX10_countOfRest_80 : decode cX10_countOfRest 80 = .ok (.invokevirtual 398, 3) := by decide +kernel
theorem dX10_countOfRest_83 : decode cX10_countOfRest 83 = .ok (.ireturn, 1) := by decide +kernel
theorem dX10_countOfRest_84 : decode cX10_countOfRest 84 = .ok (.aload_n 0, 1) := by decide +kernel
theorem dX10_countOfRest_85 : decode cX10_countOfRest 85 = .ok (.getfield 25, 3) := by decide +kernel
theorem dX10_countOfRest_88 : decode cX10_countOfRest 88 = .ok (.getfield 130, 3) := by decide +kernel
theorem dX10_countOfRest_91 : decode cX10_countOfRest 91 = .ok (.ireturn, 1) := by decide +kernel
theorem dX10_countOfRest_92 : decode cX10_countOfRest 92 = .ok (.aload_n 0, 1) := by decide +kernel
theorem dX10_countOfRest_93 : decode cX10_countOfRest 93 = .ok (.getfield 10, 3) := by decide +kernel
theorem dX10_countOfRest_96 : decode cX10_countOfRest 96 = .ok (.getfield 316, 3) := by decide +kernel
theorem dX10_countOfRest_99 : decode cX10_countOfRest 99 = .ok (.getfield 401, 3) := by decide +kernel
theorem dX10_countOfRest_102 : decode cX10_countOfRest 102 = .ok (.ireturn, 1) := by decide +kernel
theorem dX10_countOfRest_103 : decode cX10_countOfRest 103 = .ok (.aload_n 0, 1) := by decide +kernel
theorem dX10_countOfRest_104 : decode cX10_countOfRest 104 = .ok (.getfield 10, 3) := by decide +kernel
theorem dX10_countOfRest_107 : decode cX10_countOfRest 107 = .ok (.invokevirtual 402, 3) := by decide +kernel
theorem dX10_countOfRest_110 : decode cX10_countOfRest 110 = .ok (.ireturn, 1) := by decide +kernel
theorem dX10_doomed_0 : decode cX10_doomed 0 = .ok (.iconst 0, 1) := by decide +kernel
theorem dX10_doomed_1 : decode cX10_doomed 1 = .ok (.istore_n 1, 1) := by decide +kernel
theorem dX10_doomed_2 : decode cX10_doomed 2 = .ok (.aload_n 0, 1) := by decide +kernel
theorem dX10_doomed_3 : decode cX10_doomed 3 = .ok (.getfield 16, 3) := by decide +kernel
theorem dX10_doomed_6 : decode cX10_doomed 6 = .ok (.aload_n 0, 1) := by decide +kernel
theorem dX10_doomed_7 : decode cX10_doomed 7 = .ok (.getfield 10, 3) := by decide +kernel
theorem dX10_doomed_10 : decode cX10_doomed 10 = .ok (.invokevirtual 55, 3) := by decide +kernel
theorem dX10_doomed_13 : decode cX10_doomed 13 = .ok (.aload_n 0, 1) := by decide +kernel
theorem dX10_doomed_14 : decode cX10_doomed 14 = .ok (.getfield 16, 3) := by decide +kernel
theorem dX10_doomed_17 : decode cX10_doomed 17 = .ok (.invokevirtual 140, 3) := by decide +kernel
theorem dX10_doomed_20 : decode cX10_doomed 20 = .ok (.pop, 1) := by decide +kernel
theorem dX10_doomed_21 : decode cX10_doomed 21 = .ok (.iconst 0, 1) := by decide +kernel
theorem dX10_doomed_22 : decode cX10_doomed 22 = .ok (.istore_n 2, 1) := by decide +kernel
theorem dX10_doomed_23 : decode cX10_doomed 23 = .ok (.iload_n 2, 1) := by decide +kernel
theorem dX10_doomed_24 : decode cX10_doomed 24 = .ok (.bipush 64, 2) := by decide +kernel
theorem dX10_doomed_26 : decode cX10_doomed 26 = .ok (.if_icmp .ge 31, 3) := by decide +kernel
theorem dX10_doomed_29 : decode cX10_doomed 29 = .ok (.aload_n 0, 1) := by decide +kernel
theorem dX10_doomed_30 : decode cX10_doomed 30 = .ok (.getfield 10, 3) := by decide +kernel
theorem dX10_doomed_33 : decode cX10_doomed 33 = .ok (.iload_n 2, 1) := by decide +kernel
theorem dX10_doomed_34 : decode cX10_doomed 34 = .ok (.invokevirtual 405, 3) := by decide +kernel
theorem dX10_doomed_37 : decode cX10_doomed 37 = .ok (.aload_n 0, 1) := by decide +kernel
theorem dX10_doomed_38 : decode cX10_doomed 38 = .ok (.getfield 16, 3) := by decide +kernel
theorem dX10_doomed_41 : decode cX10_doomed 41 = .ok (.iload_n 2, 1) := by decide +kernel
theorem dX10_doomed_42 : decode cX10_doomed 42 = .ok (.invokevirtual 405, 3) := by decide +kernel
theorem dX10_doomed_45 : decode cX10_doomed 45 = .ok (.if_icmp .eq 6, 3) := by decide +kernel
theorem dX10_doomed_48 : decode cX10_doomed 48 = .ok (.iinc 1 1, 3) := by decide +kernel
