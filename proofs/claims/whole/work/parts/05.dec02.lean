theorem dX10_doomed_51 : decode cX10_doomed 51 = .ok (.iinc 2 1, 3) := by decide +kernel
theorem dX10_doomed_54 : decode cX10_doomed 54 = .ok (.goto (-31), 3) := by decide +kernel
theorem dX10_doomed_57 : decode cX10_doomed 57 = .ok (.iload_n 1, 1) := by decide +kernel
theorem dX10_doomed_58 : decode cX10_doomed 58 = .ok (.ireturn, 1) := by decide +kernel
theorem dX10_mayBe_0 : decode cX10_mayBe 0 = .ok (.iload_n 0, 1) := by decide +kernel
theorem dX10_mayBe_1 : decode cX10_mayBe 1 = .ok (.iconst 4, 1) := by decide +kernel
theorem dX10_mayBe_2 : decode cX10_mayBe 2 = .ok (.imul, 1) := by decide +kernel
theorem dX10_mayBe_3 : decode cX10_mayBe 3 = .ok (.iload_n 1, 1) := by decide +kernel
theorem dX10_mayBe_4 : decode cX10_mayBe 4 = .ok (.iadd, 1) := by decide +kernel
theorem dX10_mayBe_5 : decode cX10_mayBe 5 = .ok (.istore_n 3, 1) := by decide +kernel
theorem dX10_mayBe_6 : decode cX10_mayBe 6 = .ok (.iload_n 3, 1) := by decide +kernel
theorem dX10_mayBe_7 : decode cX10_mayBe 7 = .ok (.ifCond .lt 19, 3) := by decide +kernel
theorem dX10_mayBe_10 : decode cX10_mayBe 10 = .ok (.iload_n 3, 1) := by decide +kernel
theorem dX10_mayBe_11 : decode cX10_mayBe 11 = .ok (.getstatic 408, 3) := by decide +kernel
theorem dX10_mayBe_14 : decode cX10_mayBe 14 = .ok (.arraylength, 1) := by decide +kernel
theorem dX10_mayBe_15 : decode cX10_mayBe 15 = .ok (.if_icmp .ge 11, 3) := by decide +kernel
theorem dX10_mayBe_18 : decode cX10_mayBe 18 = .ok (.iload_n 3, 1) := by decide +kernel
theorem dX10_mayBe_19 : decode cX10_mayBe 19 = .ok (.getstatic 411, 3) := by decide +kernel
theorem dX10_mayBe_22 : decode cX10_mayBe 22 = .ok (.arraylength, 1) := by decide +kernel
theorem dX10_mayBe_23 : decode cX10_mayBe 23 = .ok (.if_icmp .lt 5, 3) := by decide +kernel
theorem dX10_mayBe_26 : decode cX10_mayBe 26 = .ok (.iconst 0, 1) := by decide +kernel
theorem dX10_mayBe_27 : decode cX10_mayBe 27 = .ok (.ireturn, 1) := by decide +kernel
theorem dX10_mayBe_28 : decode cX10_mayBe 28 = .ok (.iload_n 2, 1) := by decide +kernel
theorem dX10_mayBe_29 : decode cX10_mayBe 29 = .ok (.getstatic 408, 3) := by decide +kernel
theorem dX10_mayBe_32 : decode cX10_mayBe 32 = .ok (.iload_n 3, 1) := by decide +kernel
theorem dX10_mayBe_33 : decode cX10_mayBe 33 = .ok (.iaload, 1) := by decide +kernel
theorem dX10_mayBe_34 : decode cX10_mayBe 34 = .ok (.if_icmp .lt 16, 3) := by decide +kernel
theorem dX10_mayBe_37 : decode cX10_mayBe 37 = .ok (.iload_n 2, 1) := by decide +kernel
theorem dX10_mayBe_38 : decode cX10_mayBe 38 = .ok (.getstatic 411, 3) := by decide +kernel
theorem dX10_mayBe_41 : decode cX10_mayBe 41 = .ok (.iload_n 3, 1) := by decide +kernel
theorem dX10_mayBe_42 : decode cX10_mayBe 42 = .ok (.iaload, 1) := by decide +kernel
theorem dX10_mayBe_43 : decode cX10_mayBe 43 = .ok (.if_icmp .gt 7, 3) := by decide +kernel
theorem dX10_mayBe_46 : decode cX10_mayBe 46 = .ok (.iconst 1, 1) := by decide +kernel
theorem dX10_mayBe_47 : decode cX10_mayBe 47 = .ok (.goto 4, 3) := by decide +kernel
theorem dX10_mayBe_50 : decode cX10_mayBe 50 = .ok (.iconst 0, 1) := by decide +kernel
theorem dX10_mayBe_51 : decode cX10_mayBe 51 = .ok (.ireturn, 1) := by decide +kernel
theorem dX10_lookAtKey_0 : decode cX10_lookAtKey 0 = .ok (.iload_n 0, 1) := by decide +kernel
theorem dX10_lookAtKey_1 : decode cX10_lookAtKey 1 = .ok (.ifCond .lt 9, 3) := by decide +kernel
theorem dX10_lookAtKey_4 : decode cX10_lookAtKey 4 = .ok (.iload_n 0, 1) := by decide +kernel
theorem dX10_lookAtKey_5 : decode cX10_lookAtKey 5 = .ok (.bipush 64, 2) := by decide +kernel
theorem dX10_lookAtKey_7 : decode cX10_lookAtKey 7 = .ok (.if_icmp .lt 14, 3) := by decide +kernel
theorem dX10_lookAtKey_10 : decode cX10_lookAtKey 10 = .ok (.new 414, 3) := by decide +kernel
theorem dX10_lookAtKey_13 : decode cX10_lookAtKey 13 = .ok (.dup, 1) := by decide +kernel
theorem dX10_lookAtKey_14 : decode cX10_lookAtKey 14 = .ok (.ldc_w 416, 3) := by decide +kernel
theorem dX10_lookAtKey_17 : decode cX10_lookAtKey 17 = .ok (.invokespecial 418, 3) := by decide +kernel
theorem dX10_lookAtKey_20 : decode cX10_lookAtKey 20 = .ok (.athrow, 1) := by decide +kernel
theorem dX10_lookAtKey_21 : decode cX10_lookAtKey 21 = .ok (.return_, 1) := by decide +kernel
theorem dX10_lookAtSegment_0 : decode cX10_lookAtSegment 0 = .ok (.iload_n 0, 1) := by decide +kernel
theorem dX10_lookAtSegment_1 : decode cX10_lookAtSegment 1 = .ok (.ifCond .lt 9, 3) := by decide +kernel
theorem dX10_lookAtSegment_4 : decode cX10_lookAtSegment 4 = .ok (.iload_n 0, 1) := by decide +kernel
theorem dX10_lookAtSegment_5 : decode cX10_lookAtSegment 5 = .ok (.bipush 12, 2) := by decide +kernel
theorem dX10_lookAtSegment_7 : decode cX10_lookAtSegment 7 = .ok (.if_icmp .lt 14, 3) := by decide +kernel
theorem dX10_lookAtSegment_10 : decode cX10_lookAtSegment 10 = .ok (.new 414, 3) := by decide +kernel
theorem dX10_lookAtSegment_13 : decode cX10_lookAtSegment 13 = .ok (.dup, 1) := by decide +kernel
theorem dX10_lookAtSegment_14 : decode cX10_lookAtSegment 14 = .ok (.ldc_w 419, 3) := by decide +kernel
theorem dX10_lookAtSegment_17 : decode cX10_lookAtSegment 17 = .ok (.invokespecial 418, 3) := by decide +kernel
theorem dX10_lookAtSegment_20 : decode cX10_lookAtSegment 20 = .ok (.athrow, 1) := by decide +kernel
theorem dX10_lookAtSegment_21 : decode cX10_lookAtSegment 21 = .ok (.return_, 1) := by decide +kernel
theorem dX10_lookAtRun_0 : decode cX10_lookAtRun 0 = .ok (.iload_n 1, 1) := by decide +kernel
theorem dX10_lookAtRun_1 : decode cX10_lookAtRun 1 = .ok (.ifCond .lt 17, 3) := by decide +kernel
theorem dX10_lookAtRun_4 : decode cX10_lookAtRun 4 = .ok (.iload_n 1, 1) := by decide +kernel
theorem dX10_lookAtRun_5 : decode cX10_lookAtRun 5 = .ok (.aload_n 0, 1) := by decide +kernel
theorem dX10_lookAtRun_6 : decode cX10_lookAtRun 6 = .ok (.getfield 10, 3) := by decide +kernel
theorem dX10_lookAtRun_9 : decode cX10_lookAtRun 9 = .ok (.getfield 148, 3) := by decide +kernel
theorem dX10_lookAtRun_12 : decode cX10_lookAtRun 12 = .ok (.getfield 356, 3) := by decide +kernel
theorem dX10_lookAtRun_15 : decode cX10_lookAtRun 15 = .ok (.if_icmp .lt 14, 3) := by decide +kernel
theorem dX10_lookAtRun_18 : decode cX10_lookAtRun 18 = .ok (.new 414, 3) := by decide +kernel
theorem dX10_lookAtRun_21 : decode cX10_lookAtRun 21 = .ok (.dup, 1) := by decide +kernel
theorem dX10_lookAtRun_22 : decode cX10_lookAtRun 22 = .ok (.ldc_w 421, 3) := by decide +kernel
theorem dX10_lookAtRun_25 : decode cX10_lookAtRun 25 = .ok (.invokespecial 418, 3) := by decide +kernel
theorem dX10_lookAtRun_28 : decode cX10_lookAtRun 28 = .ok (.athrow, 1) := by decide +kernel
theorem dX10_lookAtRun_29 : decode cX10_lookAtRun 29 = .ok (.return_, 1) := by decide +kernel
theorem dX10_lookAtWhat_0 : decode cX10_lookAtWhat 0 = .ok (.iload_n 0, 1) := by decide +kernel
theorem dX10_lookAtWhat_1 : decode cX10_lookAtWhat 1 = .ok (.ifCond .lt 8, 3) := by decide +kernel
theorem dX10_lookAtWhat_4 : decode cX10_lookAtWhat 4 = .ok (.iload_n 0, 1) := by decide +kernel
theorem dX10_lookAtWhat_5 : decode cX10_lookAtWhat 5 = .ok (.iload_n 1, 1) := by decide +kernel
theorem dX10_lookAtWhat_6 : decode cX10_lookAtWhat 6 = .ok (.if_icmp .le 14, 3) := by decide +kernel
theorem dX10_lookAtWhat_9 : decode cX10_lookAtWhat 9 = .ok (.new 423, 3) := by decide +kernel
theorem dX10_lookAtWhat_12 : decode cX10_lookAtWhat 12 = .ok (.dup, 1) := by decide +kernel
theorem dX10_lookAtWhat_13 : decode cX10_lookAtWhat 13 = .ok (.ldc_w 425, 3) := by decide +kernel
theorem dX10_lookAtWhat_16 : decode cX10_lookAtWhat 16 = .ok (.invokespecial 427, 3) := by decide +kernel
theorem dX10_lookAtWhat_19 : decode cX10_lookAtWhat 19 = .ok (.athrow, 1) := by decide +kernel
theorem dX10_lookAtWhat_20 : decode cX10_lookAtWhat 20 = .ok (.return_, 1) := by decide +kernel
theorem dX11_init_0 : decode cX11_init 0 = .ok (.aload_n 0, 1) := by decide +kernel
theorem dX11_init_1 : decode cX11_init 1 = .ok (.invokespecial 1, 3) := by decide +kernel
theorem dX11_init_4 : decode cX11_init 4 = .ok (.aload_n 0, 1) := by decide +kernel
theorem dX11_init_5 : decode cX11_init 5 = .ok (.sipush 5497, 3) := by decide +kernel
theorem dX11_init_8 : decode cX11_init 8 = .ok (.newarray .int, 2) := by decide +kernel
theorem dX11_init_10 : decode cX11_init 10 = .ok (.putfield 7, 3) := by decide +kernel
theorem dX11_init_13 : decode cX11_init 13 = .ok (.aload_n 0, 1) := by decide +kernel
theorem dX11_init_14 : decode cX11_init 14 = .ok (.sipush 5497, 3) := by decide +kernel
theorem dX11_init_17 : decode cX11_init 17 = .ok (.newarray .int, 2) := by decide +kernel
theorem dX11_init_19 : decode cX11_init 19 = .ok (.putfield 13, 3) := by decide +kernel
theorem dX11_init_22 : decode cX11_init 22 = .ok (.aload_n 0, 1) := by decide +kernel
theorem dX11_init_23 : decode cX11_init 23 = .ok (.sipush 5497, 3) := by decide +kernel
theorem dX11_init_26 : decode cX11_init 26 = .ok (.newarray .int, 2) := by decide +kernel
theorem dX11_init_28 : decode cX11_init 28 = .ok (.putfield 16, 3) := by decide +kernel
theorem dX11_init_31 : decode cX11_init 31 = .ok (.aload_n 0, 1) := by decide +kernel
theorem dX11_init_32 : decode cX11_init 32 = .ok (.sipush 5497, 3) := by decide +kernel
theorem dX11_init_35 : decode cX11_init 35 = .ok (.newarray .int, 2) := by decide +kernel
theorem dX11_init_37 : decode cX11_init 37 = .ok (.putfield 19, 3) := by decide +kernel
theorem dX11_init_40 : decode cX11_init 40 = .ok (.aload_n 0, 1) := by decide +kernel
theorem dX11_init_41 : decode cX11_init 41 = .ok (.ldc 22, 2) := by decide +kernel
theorem dX11_init_43 : decode cX11_init 43 = .ok (.newarray .int, 2) := by decide +kernel
theorem dX11_init_45 : decode cX11_init 45 = .ok (.putfield 23, 3) := by decide +kernel
theorem dX11_init_48 : decode cX11_init 48 = .ok (.aload_n 0, 1) := by decide +kernel
theorem dX11_init_49 : decode cX11_init 49 = .ok (.sipush 400, 3) := by decide +kernel
theorem dX11_init_52 : decode cX11_init 52 = .ok (.newarray .int, 2) := by decide +kernel
theorem dX11_init_54 : decode cX11_init 54 = .ok (.putfield 26, 3) := by decide +kernel
theorem dX11_init_57 : decode cX11_init 57 = .ok (.aload_n 0, 1) := by decide +kernel
theorem dX11_init_58 : decode cX11_init 58 = .ok (.iconst (-1), 1) := by decide +kernel
theorem dX11_init_59 : decode cX11_init 59 = .ok (.putfield 29, 3) := by decide +kernel
theorem dX11_init_62 : decode cX11_init 62 = .ok (.aload_n 0, 1) := by decide +kernel
theorem dX11_init_63 : decode cX11_init 63 = .ok (.bipush 64, 2) := by decide +kernel
theorem dX11_init_65 : decode cX11_init 65 = .ok (.newarray .int, 2) := by decide +kernel
theorem dX11_init_67 : decode cX11_init 67 = .ok (.putfield 33, 3) := by decide +kernel
theorem dX11_init_70 : decode cX11_init 70 = .ok (.aload_n 0, 1) := by decide +kernel
theorem dX11_init_71 : decode cX11_init 71 = .ok (.bipush 64, 2) := by decide +kernel
theorem dX11_init_73 : decode cX11_init 73 = .ok (.newarray .int, 2) := by decide +kernel
theorem dX11_init_75 : decode cX11_init 75 = .ok (.putfield 36, 3) := by decide +kernel
theorem dX11_init_78 : decode cX11_init 78 = .ok (.aload_n 0, 1) := by decide +kernel
theorem dX11_init_79 : decode cX11_init 79 = .ok (.bipush 100, 2) := by decide +kernel
theorem dX11_init_81 : decode cX11_init 81 = .ok (.bipush 8, 2) := by decide +kernel
theorem dX11_init_83 : decode cX11_init 83 = .ok (.bipush 6, 2) := by decide +kernel
theorem dX11_init_85 : decode cX11_init 85 = .ok (.iconst 3, 1) := by decide +kernel
theorem dX11_init_86 : decode cX11_init 86 = .ok (.invokevirtual 39, 3) := by decide +kernel
theorem dX11_init_89 : decode cX11_init 89 = .ok (.return_, 1) := by decide +kernel
theorem dX11_thrown_0 : decode cX11_thrown 0 = .ok (.aload_n 0, 1) := by decide +kernel
theorem dX11_thrown_1 : decode cX11_thrown 1 = .ok (.getfield 43, 3) := by decide +kernel
theorem dX11_thrown_4 : decode cX11_thrown 4 = .ok (.ireturn, 1) := by decide +kernel
theorem dX11_isIn_0 : decode cX11_isIn 0 = .ok (.iload_n 0, 1) := by decide +kernel
theorem dX11_isIn_1 : decode cX11_isIn 1 = .ok (.iload_n 1, 1) := by decide +kernel
theorem dX11_isIn_2 : decode cX11_isIn 2 = .ok (.if_icmp .lt 12, 3) := by decide +kernel
theorem dX11_isIn_5 : decode cX11_isIn 5 = .ok (.iload_n 0, 1) := by decide +kernel
theorem dX11_isIn_6 : decode cX11_isIn 6 = .ok (.iload_n 2, 1) := by decide +kernel
theorem dX11_isIn_7 : decode cX11_isIn 7 = .ok (.if_icmp .gt 7, 3) := by decide +kernel
theorem dX11_isIn_10 : decode cX11_isIn 10 = .ok (.iconst 1, 1) := by decide +kernel
theorem dX11_isIn_11 : decode cX11_isIn 11 = .ok (.goto 4, 3) := by decide +kernel
theorem dX11_isIn_14 : decode cX11_isIn 14 = .ok (.iconst 0, 1) := by decide +kernel
theorem dX11_isIn_15 : decode cX11_isIn 15 = .ok (.ireturn, 1) := by decide +kernel
theorem dX11_greater_0 : decode cX11_greater 0 = .ok (.iload_n 0, 1) := by decide +kernel
theorem dX11_greater_1 : decode cX11_greater 1 = .ok (.iload_n 1, 1) := by decide +kernel
theorem dX11_greater_2 : decode cX11_greater 2 = .ok (.if_icmp .le 7, 3) := by decide +kernel
theorem dX11_greater_5 : decode cX11_greater 5 = .ok (.iload_n 0, 1) := by decide +kernel
theorem dX11_greater_6 : decode cX11_greater 6 = .ok (.goto 4, 3) := by decide +kernel
theorem dX11_greater_9 : decode cX11_greater 9 = .ok (.iload_n 1, 1) := by decide +kernel
theorem dX11_greater_10 : decode cX11_greater 10 = .ok (.ireturn, 1) := by decide +kernel
theorem dX11_stores_0 : decode cX11_stores 0 = .ok (.iconst 0, 1) := by decide +kernel
theorem dX11_stores_1 : decode cX11_stores 1 = .ok (.istore 5, 2) := by decide +kernel
theorem dX11_stores_3 : decode cX11_stores 3 = .ok (.iload 5, 2) := by decide +kernel
theorem dX11_stores_5 : decode cX11_stores 5 = .ok (.sipush 5497, 3) := by decide +kernel
theorem dX11_stores_8 : decode cX11_stores 8 = .ok (.if_icmp .ge 17, 3) := by decide +kernel
theorem dX11_stores_11 : decode cX11_stores 11 = .ok (.aload_n 0, 1) := by decide +kernel
theorem dX11_stores_12 : decode cX11_stores 12 = .ok (.getfield 7, 3) := by decide +kernel
theorem dX11_stores_15 : decode cX11_stores 15 = .ok (.iload 5, 2) := by decide +kernel
theorem dX11_stores_17 : decode cX11_stores 17 = .ok (.iconst 0, 1) := by decide +kernel
theorem dX11_stores_18 : decode cX11_stores 18 = .ok (.iastore, 1) := by decide +kernel
theorem dX11_stores_19 : decode cX11_stores 19 = .ok (.iinc 5 1, 3) := by decide +kernel
theorem dX11_stores_22 : decode cX11_stores 22 = .ok (.goto (-19), 3) := by decide +kernel
theorem dX11_stores_25 : decode cX11_stores 25 = .ok (.aload_n 0, 1) := by decide +kernel
theorem dX11_stores_26 : decode cX11_stores 26 = .ok (.getfield 7, 3) := by decide +kernel
theorem dX11_stores_29 : decode cX11_stores 29 = .ok (.iconst 0, 1) := by decide +kernel
theorem dX11_stores_30 : decode cX11_stores 30 = .ok (.iload_n 1, 1) := by decide +kernel
theorem dX11_stores_31 : decode cX11_stores 31 = .ok (.iastore, 1) := by decide +kernel
theorem dX11_stores_32 : decode cX11_stores 32 = .ok (.aload_n 0, 1) := by decide +kernel
theorem dX11_stores_33 : decode cX11_stores 33 = .ok (.getfield 7, 3) := by decide +kernel
theorem dX11_stores_36 : decode cX11_stores 36 = .ok (.iconst 1, 1) := by decide +kernel
theorem dX11_stores_37 : decode cX11_stores 37 = .ok (.iload_n 2, 1) := by decide +kernel
theorem dX11_stores_38 : decode cX11_stores 38 = .ok (.iastore, 1) := by decide +kernel
theorem dX11_stores_39 : decode cX11_stores 39 = .ok (.aload_n 0, 1) := by decide +kernel
theorem dX11_stores_40 : decode cX11_stores 40 = .ok (.getfield 7, 3) := by decide +kernel
theorem dX11_stores_43 : decode cX11_stores 43 = .ok (.iconst 2, 1) := by decide +kernel
theorem dX11_stores_44 : decode cX11_stores 44 = .ok (.iload_n 3, 1) := by decide +kernel
theorem dX11_stores_45 : decode cX11_stores 45 = .ok (.iastore, 1) := by decide +kernel
theorem dX11_stores_46 : decode cX11_stores 46 = .ok (.aload_n 0, 1) := by decide +kernel
theorem dX11_stores_47 : decode cX11_stores 47 = .ok (.getfield 7, 3) := by decide +kernel
theorem dX11_stores_50 : decode cX11_stores 50 = .ok (.iconst 3, 1) := by decide +kernel
theorem dX11_stores_51 : decode cX11_stores 51 = .ok (.iload 4, 2) := by decide +kernel
theorem dX11_stores_53 : decode cX11_stores 53 = .ok (.iastore, 1) := by decide +kernel
theorem dX11_stores_54 : decode cX11_stores 54 = .ok (.aload_n 0, 1) := by decide +kernel
theorem dX11_stores_55 : decode cX11_stores 55 = .ok (.getfield 7, 3) := by decide +kernel
theorem dX11_stores_58 : decode cX11_stores 58 = .ok (.bipush 8, 2) := by decide +kernel
theorem dX11_stores_60 : decode cX11_stores 60 = .ok (.iconst (-1), 1) := by decide +kernel
theorem dX11_stores_61 : decode cX11_stores 61 = .ok (.iastore, 1) := by decide +kernel
theorem dX11_stores_62 : decode cX11_stores 62 = .ok (.aload_n 0, 1) := by decide +kernel
theorem dX11_stores_63 : decode cX11_stores 63 = .ok (.getfield 7, 3) := by decide +kernel
theorem dX11_stores_66 : decode cX11_stores 66 = .ok (.bipush 66, 2) := by decide +kernel
theorem dX11_stores_68 : decode cX11_stores 68 = .ok (.iconst 1, 1) := by decide +kernel
theorem dX11_stores_69 : decode cX11_stores 69 = .ok (.iastore, 1) := by decide +kernel
theorem dX11_stores_70 : decode cX11_stores 70 = .ok (.return_, 1) := by decide +kernel
theorem dX11_segmentAt_0 : decode cX11_segmentAt 0 = .ok (.aload_n 0, 1) := by decide +kernel
theorem dX11_segmentAt_1 : decode cX11_segmentAt 1 = .ok (.getfield 7, 3) := by decide +kernel
theorem dX11_segmentAt_4 : decode cX11_segmentAt 4 = .ok (.bipush 66, 2) := by decide +kernel
theorem dX11_segmentAt_6 : decode cX11_segmentAt 6 = .ok (.iconst 3, 1) := by decide +kernel
theorem dX11_segmentAt_7 : decode cX11_segmentAt 7 = .ok (.iload_n 1, 1) := by decide +kernel
theorem dX11_segmentAt_8 : decode cX11_segmentAt 8 = .ok (.imul, 1) := by decide +kernel
theorem dX11_segmentAt_9 : decode cX11_segmentAt 9 = .ok (.iadd, 1) := by decide +kernel
theorem dX11_segmentAt_10 : decode cX11_segmentAt 10 = .ok (.iload_n 2, 1) := by decide +kernel
theorem dX11_segmentAt_11 : decode cX11_segmentAt 11 = .ok (.iadd, 1) := by decide +kernel
theorem dX11_segmentAt_12 : decode cX11_segmentAt 12 = .ok (.iaload, 1) := by decide +kernel
theorem dX11_segmentAt_13 : decode cX11_segmentAt 13 = .ok (.ireturn, 1) := by decide +kernel
theorem dX11_recordAt_0 : decode cX11_recordAt 0 = .ok (.bipush 102, 2) := by decide +kernel
theorem dX11_recordAt_2 : decode cX11_recordAt 2 = .ok (.iconst 5, 1) := by decide +kernel
theorem dX11_recordAt_3 : decode cX11_recordAt 3 = .ok (.bipush 50, 2) := by decide +kernel
theorem dX11_recordAt_5 : decode cX11_recordAt 5 = .ok (.iload_n 0, 1) := by decide +kernel
theorem dX11_recordAt_6 : decode cX11_recordAt 6 = .ok (.imul, 1) := by decide +kernel
theorem dX11_recordAt_7 : decode cX11_recordAt 7 = .ok (.iload_n 1, 1) := by decide +kernel
theorem dX11_recordAt_8 : decode cX11_recordAt 8 = .ok (.iadd, 1) := by decide +kernel
theorem dX11_recordAt_9 : decode cX11_recordAt 9 = .ok (.imul, 1) := by decide +kernel
theorem dX11_recordAt_10 : decode cX11_recordAt 10 = .ok (.iadd, 1) := by decide +kernel
theorem dX11_recordAt_11 : decode cX11_recordAt 11 = .ok (.ireturn, 1) := by decide +kernel
theorem dX11_noted_0 : decode cX11_noted 0 = .ok (.aload_n 0, 1) := by decide +kernel
theorem dX11_noted_1 : decode cX11_noted 1 = .ok (.getfield 7, 3) := by decide +kernel
theorem dX11_noted_4 : decode cX11_noted 4 = .ok (.iload_n 1, 1) := by decide +kernel
theorem dX11_noted_5 : decode cX11_noted 5 = .ok (.iload_n 2, 1) := by decide +kernel
theorem dX11_noted_6 : decode cX11_noted 6 = .ok (.invokestatic 46, 3) := by decide +kernel
theorem dX11_noted_9 : decode cX11_noted 9 = .ok (.iload_n 3, 1) := by decide +kernel
theorem dX11_noted_10 : decode cX11_noted 10 = .ok (.iadd, 1) := by decide +kernel
theorem dX11_noted_11 : decode cX11_noted 11 = .ok (.iaload, 1) := by decide +kernel
theorem dX11_noted_12 : decode cX11_noted 12 = .ok (.ireturn, 1) := by decide +kernel
theorem dX11_sizeOf_0 : decode cX11_sizeOf 0 = .ok (.iconst 4, 1) := by decide +kernel
theorem dX11_sizeOf_1 : decode cX11_sizeOf 1 = .ok (.iconst 0, 1) := by decide +kernel
theorem dX11_sizeOf_2 : decode cX11_sizeOf 2 = .ok (.iload_n 0, 1) := by decide +kernel
theorem dX11_sizeOf_3 : decode cX11_sizeOf 3 = .ok (.invokestatic 50, 3) := by decide +kernel
theorem dX11_sizeOf_6 : decode cX11_sizeOf 6 = .ok (.iadd, 1) := by decide +kernel
theorem dX11_sizeOf_7 : decode cX11_sizeOf 7 = .ok (.ireturn, 1) := by decide +kernel
theorem dX11_openOne_0 : decode cX11_openOne 0 = .ok (.iconst 0, 1) := by decide +kernel
theorem dX11_openOne_1 : decode cX11_openOne 1 = .ok (.istore_n 1, 1) := by decide +kernel
theorem dX11_openOne_2 : decode cX11_openOne 2 = .ok (.iload_n 1, 1) := by decide +kernel
theorem dX11_openOne_3 : decode cX11_openOne 3 = .ok (.bipush 12, 2) := by decide +kernel
theorem dX11_openOne_5 : decode cX11_openOne 5 = .ok (.if_icmp .ge 21, 3) := by decide +kernel
theorem dX11_openOne_8 : decode cX11_openOne 8 = .ok (.aload_n 0, 1) := by decide +kernel
theorem dX11_openOne_9 : decode cX11_openOne 9 = .ok (.iload_n 1, 1) := by decide +kernel
theorem dX11_openOne_10 : decode cX11_openOne 10 = .ok (.iconst 0, 1) := by decide +kernel
theorem dX11_openOne_11 : decode cX11_openOne 11 = .ok (.invokevirtual 53, 3) := by decide +kernel
theorem dX11_openOne_14 : decode cX11_openOne 14 = .ok (.iconst 1, 1) := by decide +kernel
theorem dX11_openOne_15 : decode cX11_openOne 15 = .ok (.if_icmp .ne 5, 3) := by decide +kernel
theorem dX11_openOne_18 : decode cX11_openOne 18 = .ok (.iload_n 1, 1) := by decide +kernel
theorem dX11_openOne_19 : decode cX11_openOne 19 = .ok (.ireturn, 1) := by decide +kernel
theorem dX11_openOne_20 : decode cX11_openOne 20 = .ok (.iinc 1 1, 3) := by decide +kernel
theorem dX11_openOne_23 : decode cX11_openOne 23 = .ok (.goto (-21), 3) := by decide +kernel
theorem dX11_openOne_26 : decode cX11_openOne 26 = .ok (.iconst (-1), 1) := by decide +kernel
theorem dX11_openOne_27 : decode cX11_openOne 27 = .ok (.ireturn, 1) := by decide +kernel
theorem dX11_freeOnes_0 : decode cX11_freeOnes 0 = .ok (.iconst 0, 1) := by decide +kernel
theorem dX11_freeOnes_1 : decode cX11_freeOnes 1 = .ok (.istore_n 1, 1) := by decide +kernel
theorem dX11_freeOnes_2 : decode cX11_freeOnes 2 = .ok (.iconst 0, 1) := by decide +kernel
theorem dX11_freeOnes_3 : decode cX11_freeOnes 3 = .ok (.istore_n 2, 1) := by decide +kernel
theorem dX11_freeOnes_4 : decode cX11_freeOnes 4 = .ok (.iload_n 2, 1) := by decide +kernel
theorem dX11_freeOnes_5 : decode cX11_freeOnes 5 = .ok (.bipush 12, 2) := by decide +kernel
theorem dX11_freeOnes_7 : decode cX11_freeOnes 7 = .ok (.if_icmp .ge 26, 3) := by decide +kernel
theorem dX11_freeOnes_10 : decode cX11_freeOnes 10 = .ok (.iload_n 1, 1) := by decide +kernel
theorem dX11_freeOnes_11 : decode cX11_freeOnes 11 = .ok (.aload_n 0, 1) := by decide +kernel
theorem dX11_freeOnes_12 : decode cX11_freeOnes 12 = .ok (.iload_n 2, 1) := by decide +kernel
theorem dX11_freeOnes_13 : decode cX11_freeOnes 13 = .ok (.iconst 0, 1) := by decide +kernel
theorem dX11_freeOnes_14 : decode cX11_freeOnes 14 = .ok (.invokevirtual 53, 3) := by decide +kernel
theorem dX11_freeOnes_17 : decode cX11_freeOnes 17 = .ok (.ifCond .ne 7, 3) := by decide +kernel
theorem dX11_freeOnes_20 : decode cX11_freeOnes 20 = .ok (.iconst 1, 1) := by decide +kernel
theorem dX11_freeOnes_21 : decode cX11_freeOnes 21 = .ok (.goto 4, 3) := by decide +kernel
theorem dX11_freeOnes_24 : decode cX11_freeOnes 24 = .ok (.iconst 0, 1) := by decide +kernel
theorem dX11_freeOnes_25 : decode cX11_freeOnes 25 = .ok (.iadd, 1) := by decide +kernel
theorem dX11_freeOnes_26 : decode cX11_freeOnes 26 = .ok (.istore_n 1, 1) := by decide +kernel
theorem dX11_freeOnes_27 : decode cX11_freeOnes 27 = .ok (.iinc 2 1, 3) := by decide +kernel
theorem dX11_freeOnes_30 : decode cX11_freeOnes 30 = .ok (.goto (-26), 3) := by decide +kernel
theorem dX11_freeOnes_33 : decode cX11_freeOnes 33 = .ok (.iload_n 1, 1) := by decide +kernel
theorem dX11_freeOnes_34 : decode cX11_freeOnes 34 = .ok (.ireturn, 1) := by decide +kernel
theorem dX11_hasRoom_0 : decode cX11_hasRoom 0 = .ok (.aload_n 0, 1) := by decide +kernel
theorem dX11_hasRoom_1 : decode cX11_hasRoom 1 = .ok (.aload_n 0, 1) := by decide +kernel
theorem dX11_hasRoom_2 : decode cX11_hasRoom 2 = .ok (.invokevirtual 56, 3) := by decide +kernel
theorem dX11_hasRoom_5 : decode cX11_hasRoom 5 = .ok (.iconst 2, 1) := by decide +kernel
theorem dX11_hasRoom_6 : decode cX11_hasRoom 6 = .ok (.invokevirtual 53, 3) := by decide +kernel
theorem dX11_hasRoom_9 : decode cX11_hasRoom 9 = .ok (.iload_n 1, 1) := by decide +kernel
theorem dX11_hasRoom_10 : decode cX11_hasRoom 10 = .ok (.iadd, 1) := by decide +kernel
theorem dX11_hasRoom_11 : decode cX11_hasRoom 11 = .ok (.aload_n 0, 1) := by decide +kernel
theorem dX11_hasRoom_12 : decode cX11_hasRoom 12 = .ok (.getfield 7, 3) := by decide +kernel
theorem dX11_hasRoom_15 : decode cX11_hasRoom 15 = .ok (.iconst 0, 1) := by decide +kernel
theorem dX11_hasRoom_16 : decode cX11_hasRoom 16 = .ok (.iaload, 1) := by decide +kernel
theorem dX11_hasRoom_17 : decode cX11_hasRoom 17 = .ok (.if_icmp .le 10, 3) := by decide +kernel
theorem dX11_hasRoom_20 : decode cX11_hasRoom 20 = .ok (.aload_n 0, 1) := by decide +kernel
theorem dX11_hasRoom_21 : decode cX11_hasRoom 21 = .ok (.invokevirtual 60, 3) := by decide +kernel
theorem dX11_hasRoom_24 : decode cX11_hasRoom 24 = .ok (.ifCond .le 7, 3) := by decide +kernel
theorem dX11_hasRoom_27 : decode cX11_hasRoom 27 = .ok (.iconst 1, 1) := by decide +kernel
theorem dX11_hasRoom_28 : decode cX11_hasRoom 28 = .ok (.goto 4, 3) := by decide +kernel
theorem dX11_hasRoom_31 : decode cX11_hasRoom 31 = .ok (.iconst 0, 1) := by decide +kernel
theorem dX11_hasRoom_32 : decode cX11_hasRoom 32 = .ok (.ireturn, 1) := by decide +kernel
theorem dX11_leastFree_0 : decode cX11_leastFree 0 = .ok (.iconst 0, 1) := by decide +kernel
theorem dX11_leastFree_1 : decode cX11_leastFree 1 = .ok (.istore_n 1, 1) := by decide +kernel
theorem dX11_leastFree_2 : decode cX11_leastFree 2 = .ok (.aload_n 0, 1) := by decide +kernel
theorem dX11_leastFree_3 : decode cX11_leastFree 3 = .ok (.iload_n 1, 1) := by decide +kernel
theorem dX11_leastFree_4 : decode cX11_leastFree 4 = .ok (.iconst 0, 1) := by decide +kernel
theorem dX11_leastFree_5 : decode cX11_leastFree 5 = .ok (.invokevirtual 53, 3) := by decide +kernel
theorem dX11_leastFree_8 : decode cX11_leastFree 8 = .ok (.ifCond .eq 9, 3) := by decide +kernel
theorem dX11_leastFree_11 : decode cX11_leastFree 11 = .ok (.iinc 1 1, 3) := by decide +kernel
theorem dX11_leastFree_14 : decode cX11_leastFree 14 = .ok (.goto (-12), 3) := by decide +kernel
theorem dX11_leastFree_17 : decode cX11_leastFree 17 = .ok (.iload_n 1, 1) := by decide +kernel
theorem dX11_leastFree_18 : decode cX11_leastFree 18 = .ok (.ireturn, 1) := by decide +kernel
theorem dX11_entryAt_0 : decode cX11_entryAt 0 = .ok (.sipush 3102, 3) := by decide +kernel
theorem dX11_entryAt_3 : decode cX11_entryAt 3 = .ok (.bipush 6, 2) := by decide +kernel
theorem dX11_entryAt_5 : decode cX11_entryAt 5 = .ok (.bipush 64, 2) := by decide +kernel
theorem dX11_entryAt_7 : decode cX11_entryAt 7 = .ok (.iload_n 0, 1) := by decide +kernel
theorem dX11_entryAt_8 : decode cX11_entryAt 8 = .ok (.imul, 1) := by decide +kernel
theorem dX11_entryAt_9 : decode cX11_entryAt 9 = .ok (.iload_n 1, 1) := by decide +kernel
theorem dX11_entryAt_10 : decode cX11_entryAt 10 = .ok (.iadd, 1) := by decide +kernel
theorem dX11_entryAt_11 : decode cX11_entryAt 11 = .ok (.imul, 1) := by decide +kernel
theorem dX11_entryAt_12 : decode cX11_entryAt 12 = .ok (.iadd, 1) := by decide +kernel
theorem dX11_entryAt_13 : decode cX11_entryAt 13 = .ok (.ireturn, 1) := by decide +kernel
theorem dX11_hasEntry_0 : decode cX11_hasEntry 0 = .ok (.aload_n 0, 1) := by decide +kernel
theorem dX11_hasEntry_1 : decode cX11_hasEntry 1 = .ok (.getfield 7, 3) := by decide +kernel
theorem dX11_hasEntry_4 : decode cX11_hasEntry 4 = .ok (.iload_n 1, 1) := by decide +kernel
theorem dX11_hasEntry_5 : decode cX11_hasEntry 5 = .ok (.iload_n 2, 1) := by decide +kernel
theorem dX11_hasEntry_6 : decode cX11_hasEntry 6 = .ok (.invokestatic 63, 3) := by decide +kernel
theorem dX11_hasEntry_9 : decode cX11_hasEntry 9 = .ok (.iconst 1, 1) := by decide +kernel
theorem dX11_hasEntry_10 : decode cX11_hasEntry 10 = .ok (.iadd, 1) := by decide +kernel
theorem dX11_hasEntry_11 : decode cX11_hasEntry 11 = .ok (.iaload, 1) := by decide +kernel
theorem dX11_hasEntry_12 : decode cX11_hasEntry 12 = .ok (.ifCond .le 7, 3) := by decide +kernel
theorem dX11_hasEntry_15 : decode cX11_hasEntry 15 = .ok (.iconst 1, 1) := by decide +kernel
theorem dX11_hasEntry_16 : decode cX11_hasEntry 16 = .ok (.goto 4, 3) := by decide +kernel
theorem dX11_hasEntry_19 : decode cX11_hasEntry 19 = .ok (.iconst 0, 1) := by decide +kernel
theorem dX11_hasEntry_20 : decode cX11_hasEntry 20 = .ok (.ireturn, 1) := by decide +kernel
theorem dX11_entries_0 : decode cX11_entries 0 = .ok (.iconst 0, 1) := by decide +kernel
theorem dX11_entries_1 : decode cX11_entries 1 = .ok (.istore_n 2, 1) := by decide +kernel
theorem dX11_entries_2 : decode cX11_entries 2 = .ok (.iconst 0, 1) := by decide +kernel
theorem dX11_entries_3 : decode cX11_entries 3 = .ok (.istore_n 3, 1) := by decide +kernel
theorem dX11_entries_4 : decode cX11_entries 4 = .ok (.iload_n 3, 1) := by decide +kernel
theorem dX11_entries_5 : decode cX11_entries 5 = .ok (.bipush 64, 2) := by decide +kernel
theorem dX11_entries_7 : decode cX11_entries 7 = .ok (.if_icmp .ge 26, 3) := by decide +kernel
theorem dX11_entries_10 : decode cX11_entries 10 = .ok (.iload_n 2, 1) := by decide +kernel
theorem dX11_entries_11 : decode cX11_entries 11 = .ok (.aload_n 0, 1) := by decide +kernel
theorem dX11_entries_12 : decode cX11_entries 12 = .ok (.iload_n 1, 1) := by decide +kernel
theorem dX11_entries_13 : decode cX11_entries 13 = .ok (.iload_n 3, 1) := by decide +kernel
theorem dX11_entries_14 : decode cX11_entries 14 = .ok (.invokevirtual 66, 3) := by decide +kernel
theorem dX11_entries_17 : decode cX11_entries 17 = .ok (.ifCond .eq 7, 3) := by decide +kernel
theorem dX11_entries_20 : decode cX11_entries 20 = .ok (.iconst 1, 1) := by decide +kernel
theorem dX11_entries_21 : decode cX11_entries 21 = .ok (.goto 4, 3) := by decide +kernel
theorem dX11_entries_24 : decode cX11_entries 24 = .ok (.iconst 0, 1) := by decide +kernel
theorem dX11_entries_25 : decode cX11_entries 25 = .ok (.iadd, 1) := by decide +kernel
theorem dX11_entries_26 : decode cX11_entries 26 = .ok (.istore_n 2, 1) := by decide +kernel
theorem dX11_entries_27 : decode cX11_entries 27 = .ok (.iinc 3 1, 3) := by decide +kernel
theorem dX11_entries_30 : decode cX11_entries 30 = .ok (.goto (-26), 3) := by decide +kernel
theorem dX11_entries_33 : decode cX11_entries 33 = .ok (.iload_n 2, 1) := by decide +kernel
theorem dX11_entries_34 : decode cX11_entries 34 = .ok (.ireturn, 1) := by decide +kernel
theorem dX11_tableOf_0 : decode cX11_tableOf 0 = .ok (.iconst 0, 1) := by decide +kernel
theorem dX11_tableOf_1 : decode cX11_tableOf 1 = .ok (.istore_n 2, 1) := by decide +kernel
theorem dX11_tableOf_2 : decode cX11_tableOf 2 = .ok (.iload_n 2, 1) := by decide +kernel
theorem dX11_tableOf_3 : decode cX11_tableOf 3 = .ok (.aload_n 0, 1) := by decide +kernel
theorem dX11_tableOf_4 : decode cX11_tableOf 4 = .ok (.getfield 7, 3) := by decide +kernel
theorem dX11_tableOf_7 : decode cX11_tableOf 7 = .ok (.iconst 4, 1) := by decide +kernel
theorem dX11_tableOf_8 : decode cX11_tableOf 8 = .ok (.iaload, 1) := by decide +kernel
theorem dX11_tableOf_9 : decode cX11_tableOf 9 = .ok (.if_icmp .gt 20, 3) := by decide +kernel
theorem dX11_tableOf_12 : decode cX11_tableOf 12 = .ok (.aload_n 0, 1) := by decide +kernel
theorem dX11_tableOf_13 : decode cX11_tableOf 13 = .ok (.iload_n 2, 1) := by decide +kernel
theorem dX11_tableOf_14 : decode cX11_tableOf 14 = .ok (.iload_n 1, 1) := by decide +kernel
theorem dX11_tableOf_15 : decode cX11_tableOf 15 = .ok (.invokevirtual 66, 3) := by decide +kernel
theorem dX11_tableOf_18 : decode cX11_tableOf 18 = .ok (.ifCond .eq 5, 3) := by decide +kernel
theorem dX11_tableOf_21 : decode cX11_tableOf 21 = .ok (.iload_n 2, 1) := by decide +kernel
theorem dX11_tableOf_22 : decode cX11_tableOf 22 = .ok (.ireturn, 1) := by decide +kernel
theorem dX11_tableOf_23 : decode cX11_tableOf 23 = .ok (.iinc 2 1, 3) := by decide +kernel
theorem dX11_tableOf_26 : decode cX11_tableOf 26 = .ok (.goto (-24), 3) := by decide +kernel
theorem dX11_tableOf_29 : decode cX11_tableOf 29 = .ok (.iconst (-1), 1) := by decide +kernel
theorem dX11_tableOf_30 : decode cX11_tableOf 30 = .ok (.ireturn, 1) := by decide +kernel
theorem dX11_current_0 : decode cX11_current 0 = .ok (.aload_n 0, 1) := by decide +kernel
theorem dX11_current_1 : decode cX11_current 1 = .ok (.iload_n 1, 1) := by decide +kernel
theorem dX11_current_2 : decode cX11_current 2 = .ok (.invokevirtual 70, 3) := by decide +kernel
theorem dX11_current_5 : decode cX11_current 5 = .ok (.istore_n 3, 1) := by decide +kernel
theorem dX11_current_6 : decode cX11_current 6 = .ok (.iload_n 3, 1) := by decide +kernel
theorem dX11_current_7 : decode cX11_current 7 = .ok (.iconst (-1), 1) := by decide +kernel
theorem dX11_current_8 : decode cX11_current 8 = .ok (.if_icmp .ne 7, 3) := by decide +kernel
theorem dX11_current_11 : decode cX11_current 11 = .ok (.iconst 0, 1) := by decide +kernel
theorem dX11_current_12 : decode cX11_current 12 = .ok (.goto 15, 3) := by decide +kernel
theorem dX11_current_15 : decode cX11_current 15 = .ok (.aload_n 0, 1) := by decide +kernel
theorem dX11_current_16 : decode cX11_current 16 = .ok (.getfield 7, 3) := by decide +kernel
theorem dX11_current_19 : decode cX11_current 19 = .ok (.iload_n 3, 1) := by decide +kernel
theorem dX11_current_20 : decode cX11_current 20 = .ok (.iload_n 1, 1) := by decide +kernel
theorem dX11_current_21 : decode cX11_current 21 = .ok (.invokestatic 63, 3) := by decide +kernel
theorem dX11_current_24 : decode cX11_current 24 = .ok (.iload_n 2, 1) := by decide +kernel
theorem dX11_current_25 : decode cX11_current 25 = .ok (.iadd, 1) := by decide +kernel
theorem dX11_current_26 : decode cX11_current 26 = .ok (.iaload, 1) := by decide +kernel
theorem dX11_current_27 : decode cX11_current 27 = .ok (.ireturn, 1) := by decide +kernel
theorem dX11_hasValue_0 : decode cX11_hasValue 0 = .ok (.aload_n 0, 1) := by decide +kernel
theorem dX11_hasValue_1 : decode cX11_hasValue 1 = .ok (.iload_n 1, 1) := by decide +kernel
theorem dX11_hasValue_2 : decode cX11_hasValue 2 = .ok (.iconst 1, 1) := by decide +kernel
theorem dX11_hasValue_3 : decode cX11_hasValue 3 = .ok (.invokevirtual 74, 3) := by decide +kernel
theorem dX11_hasValue_6 : decode cX11_hasValue 6 = .ok (.iconst 1, 1) := by decide +kernel
theorem dX11_hasValue_7 : decode cX11_hasValue 7 = .ok (.if_icmp .le 7, 3) := by decide +kernel
theorem dX11_hasValue_10 : decode cX11_hasValue 10 = .ok (.iconst 1, 1) := by decide +kernel
theorem dX11_hasValue_11 : decode cX11_hasValue 11 = .ok (.goto 4, 3) := by decide +kernel
theorem dX11_hasValue_14 : decode cX11_hasValue 14 = .ok (.iconst 0, 1) := by decide +kernel
theorem dX11_hasValue_15 : decode cX11_hasValue 15 = .ok (.ireturn, 1) := by decide +kernel
theorem dX11_placeOf_0 : decode cX11_placeOf 0 = .ok (.iconst 0, 1) := by decide +kernel
theorem dX11_placeOf_1 : decode cX11_placeOf 1 = .ok (.istore_n 3, 1) := by decide +kernel
theorem dX11_placeOf_2 : decode cX11_placeOf 2 = .ok (.aload_n 0, 1) := by decide +kernel
theorem dX11_placeOf_3 : decode cX11_placeOf 3 = .ok (.iload_n 1, 1) := by decide +kernel
theorem dX11_placeOf_4 : decode cX11_placeOf 4 = .ok (.iload_n 3, 1) := by decide +kernel
theorem dX11_placeOf_5 : decode cX11_placeOf 5 = .ok (.iconst 4, 1) := by decide +kernel
theorem dX11_placeOf_6 : decode cX11_placeOf 6 = .ok (.invokevirtual 77, 3) := by decide +kernel
theorem dX11_placeOf_9 : decode cX11_placeOf 9 = .ok (.iload_n 2, 1) := by decide +kernel
theorem dX11_placeOf_10 : decode cX11_placeOf 10 = .ok (.if_icmp .eq 9, 3) := by decide +kernel
theorem dX11_placeOf_13 : decode cX11_placeOf 13 = .ok (.iinc 3 1, 3) := by decide +kernel
theorem dX11_placeOf_16 : decode cX11_placeOf 16 = .ok (.goto (-14), 3) := by decide +kernel
theorem dX11_placeOf_19 : decode cX11_placeOf 19 = .ok (.iload_n 3, 1) := by decide +kernel
theorem dX11_placeOf_20 : decode cX11_placeOf 20 = .ok (.ireturn, 1) := by decide +kernel
theorem dX11_lengthOf_0 : decode cX11_lengthOf 0 = .ok (.aload_n 0, 1) := by decide +kernel
theorem dX11_lengthOf_1 : decode cX11_lengthOf 1 = .ok (.iload_n 1, 1) := by decide +kernel
theorem dX11_lengthOf_2 : decode cX11_lengthOf 2 = .ok (.invokevirtual 81, 3) := by decide +kernel
theorem dX11_lengthOf_5 : decode cX11_lengthOf 5 = .ok (.ifCond .eq 12, 3) := by decide +kernel
theorem dX11_lengthOf_8 : decode cX11_lengthOf 8 = .ok (.aload_n 0, 1) := by decide +kernel
theorem dX11_lengthOf_9 : decode cX11_lengthOf 9 = .ok (.iload_n 1, 1) := by decide +kernel
theorem dX11_lengthOf_10 : decode cX11_lengthOf 10 = .ok (.iconst 2, 1) := by decide +kernel
theorem dX11_lengthOf_11 : decode cX11_lengthOf 11 = .ok (.invokevirtual 74, 3) := by decide +kernel
theorem dX11_lengthOf_14 : decode cX11_lengthOf 14 = .ok (.goto 4, 3) := by decide +kernel
theorem dX11_lengthOf_17 : decode cX11_lengthOf 17 = .ok (.iconst (-1), 1) := by decide +kernel
theorem dX11_lengthOf_18 : decode cX11_lengthOf 18 = .ok (.ireturn, 1) := by decide +kernel
theorem dX11_seedOf_0 : decode cX11_seedOf 0 = .ok (.aload_n 0, 1) := by decide +kernel
theorem dX11_seedOf_1 : decode cX11_seedOf 1 = .ok (.iload_n 1, 1) := by decide +kernel
theorem dX11_seedOf_2 : decode cX11_seedOf 2 = .ok (.invokevirtual 81, 3) := by decide +kernel
theorem dX11_seedOf_5 : decode cX11_seedOf 5 = .ok (.ifCond .ne 5, 3) := by decide +kernel
theorem dX11_seedOf_8 : decode cX11_seedOf 8 = .ok (.iconst (-1), 1) := by decide +kernel
theorem dX11_seedOf_9 : decode cX11_seedOf 9 = .ok (.ireturn, 1) := by decide +kernel
theorem dX11_seedOf_10 : decode cX11_seedOf 10 = .ok (.aload_n 0, 1) := by decide +kernel
theorem dX11_seedOf_11 : decode cX11_seedOf 11 = .ok (.iload_n 1, 1) := by decide +kernel
theorem dX11_seedOf_12 : decode cX11_seedOf 12 = .ok (.iconst 1, 1) := by decide +kernel
theorem dX11_seedOf_13 : decode cX11_seedOf 13 = .ok (.invokevirtual 74, 3) := by decide +kernel
theorem dX11_seedOf_16 : decode cX11_seedOf 16 = .ok (.iconst 2, 1) := by decide +kernel
theorem dX11_seedOf_17 : decode cX11_seedOf 17 = .ok (.if_icmp .ne 10, 3) := by decide +kernel
theorem dX11_seedOf_20 : decode cX11_seedOf 20 = .ok (.aload_n 0, 1) := by decide +kernel
theorem dX11_seedOf_21 : decode cX11_seedOf 21 = .ok (.iload_n 1, 1) := by decide +kernel
theorem dX11_seedOf_22 : decode cX11_seedOf 22 = .ok (.iconst 3, 1) := by decide +kernel
theorem dX11_seedOf_23 : decode cX11_seedOf 23 = .ok (.invokevirtual 74, 3) := by decide +kernel
theorem dX11_seedOf_26 : decode cX11_seedOf 26 = .ok (.ireturn, 1) := by decide +kernel
theorem dX11_seedOf_27 : decode cX11_seedOf 27 = .ok (.aload_n 0, 1) := by decide +kernel
theorem dX11_seedOf_28 : decode cX11_seedOf 28 = .ok (.iload_n 1, 1) := by decide +kernel
theorem dX11_seedOf_29 : decode cX11_seedOf 29 = .ok (.iconst 4, 1) := by decide +kernel
theorem dX11_seedOf_30 : decode cX11_seedOf 30 = .ok (.invokevirtual 74, 3) := by decide +kernel
theorem dX11_seedOf_33 : decode cX11_seedOf 33 = .ok (.istore_n 2, 1) := by decide +kernel
theorem dX11_seedOf_34 : decode cX11_seedOf 34 = .ok (.aload_n 0, 1) := by decide +kernel
theorem dX11_seedOf_35 : decode cX11_seedOf 35 = .ok (.iload_n 2, 1) := by decide +kernel
theorem dX11_seedOf_36 : decode cX11_seedOf 36 = .ok (.aload_n 0, 1) := by decide +kernel
theorem dX11_seedOf_37 : decode cX11_seedOf 37 = .ok (.iload_n 2, 1) := by decide +kernel
theorem dX11_seedOf_38 : decode cX11_seedOf 38 = .ok (.aload_n 0, 1) := by decide +kernel
theorem dX11_seedOf_39 : decode cX11_seedOf 39 = .ok (.iload_n 1, 1) := by decide +kernel
theorem dX11_seedOf_40 : decode cX11_seedOf 40 = .ok (.iconst 5, 1) := by decide +kernel
theorem dX11_seedOf_41 : decode cX11_seedOf 41 = .ok (.invokevirtual 74, 3) := by decide +kernel
theorem dX11_seedOf_44 : decode cX11_seedOf 44 = .ok (.invokevirtual 85, 3) := by decide +kernel
theorem dX11_seedOf_47 : decode cX11_seedOf 47 = .ok (.iconst 2, 1) := by decide +kernel
theorem dX11_seedOf_48 : decode cX11_seedOf 48 = .ok (.invokevirtual 77, 3) := by decide +kernel
theorem dX11_seedOf_51 : decode cX11_seedOf 51 = .ok (.ireturn, 1) := by decide +kernel
theorem dX11_isLive_0 : decode cX11_isLive 0 = .ok (.aload_n 0, 1) := by decide +kernel
theorem dX11_isLive_1 : decode cX11_isLive 1 = .ok (.iload_n 1, 1) := by decide +kernel
theorem dX11_isLive_2 : decode cX11_isLive 2 = .ok (.iload_n 2, 1) := by decide +kernel
theorem dX11_isLive_3 : decode cX11_isLive 3 = .ok (.iconst 0, 1) := by decide +kernel
theorem dX11_isLive_4 : decode cX11_isLive 4 = .ok (.invokevirtual 77, 3) := by decide +kernel
theorem dX11_isLive_7 : decode cX11_isLive 7 = .ok (.istore_n 3, 1) := by decide +kernel
theorem dX11_isLive_8 : decode cX11_isLive 8 = .ok (.aload_n 0, 1) := by decide +kernel
theorem dX11_isLive_9 : decode cX11_isLive 9 = .ok (.iload_n 3, 1) := by decide +kernel
theorem dX11_isLive_10 : decode cX11_isLive 10 = .ok (.iconst 1, 1) := by decide +kernel
theorem dX11_isLive_11 : decode cX11_isLive 11 = .ok (.invokevirtual 74, 3) := by decide +kernel
theorem dX11_isLive_14 : decode cX11_isLive 14 = .ok (.iconst 3, 1) := by decide +kernel
theorem dX11_isLive_15 : decode cX11_isLive 15 = .ok (.if_icmp .ne 33, 3) := by decide +kernel
theorem dX11_isLive_18 : decode cX11_isLive 18 = .ok (.aload_n 0, 1) := by decide +kernel
theorem dX11_isLive_19 : decode cX11_isLive 19 = .ok (.iload_n 3, 1) := by decide +kernel
theorem dX11_isLive_20 : decode cX11_isLive 20 = .ok (.iconst 4, 1) := by decide +kernel
theorem dX11_isLive_21 : decode cX11_isLive 21 = .ok (.invokevirtual 74, 3) := by decide +kernel
theorem dX11_isLive_24 : decode cX11_isLive 24 = .ok (.iload_n 1, 1) := by decide +kernel
theorem dX11_isLive_25 : decode cX11_isLive 25 = .ok (.if_icmp .ne 23, 3) := by decide +kernel
theorem dX11_isLive_28 : decode cX11_isLive 28 = .ok (.aload_n 0, 1) := by decide +kernel
theorem dX11_isLive_29 : decode cX11_isLive 29 = .ok (.iload_n 3, 1) := by decide +kernel
theorem dX11_isLive_30 : decode cX11_isLive 30 = .ok (.iconst 5, 1) := by decide +kernel
theorem dX11_isLive_31 : decode cX11_isLive 31 = .ok (.invokevirtual 74, 3) := by decide +kernel
theorem dX11_isLive_34 : decode cX11_isLive 34 = .ok (.aload_n 0, 1) := by decide +kernel
theorem dX11_isLive_35 : decode cX11_isLive 35 = .ok (.iload_n 1, 1) := by decide +kernel
theorem dX11_isLive_36 : decode cX11_isLive 36 = .ok (.iload_n 2, 1) := by decide +kernel
theorem dX11_isLive_37 : decode cX11_isLive 37 = .ok (.iconst 4, 1) := by decide +kernel
theorem dX11_isLive_38 : decode cX11_isLive 38 = .ok (.invokevirtual 77, 3) := by decide +kernel
theorem dX11_isLive_41 : decode cX11_isLive 41 = .ok (.if_icmp .ne 7, 3) := by decide +kernel
theorem dX11_isLive_44 : decode cX11_isLive 44 = .ok (.iconst 1, 1) := by decide +kernel
theorem dX11_isLive_45 : decode cX11_isLive 45 = .ok (.goto 4, 3) := by decide +kernel
theorem dX11_isLive_48 : decode cX11_isLive 48 = .ok (.iconst 0, 1) := by decide +kernel
theorem dX11_isLive_49 : decode cX11_isLive 49 = .ok (.ireturn, 1) := by decide +kernel
theorem dX11_liveOf_0 : decode cX11_liveOf 0 = .ok (.iconst 0, 1) := by decide +kernel
theorem dX11_liveOf_1 : decode cX11_liveOf 1 = .ok (.istore_n 3, 1) := by decide +kernel
theorem dX11_liveOf_2 : decode cX11_liveOf 2 = .ok (.iconst 0, 1) := by decide +kernel
theorem dX11_liveOf_3 : decode cX11_liveOf 3 = .ok (.istore 4, 2) := by decide +kernel
theorem dX11_liveOf_5 : decode cX11_liveOf 5 = .ok (.iload 4, 2) := by decide +kernel
theorem dX11_liveOf_7 : decode cX11_liveOf 7 = .ok (.aload_n 0, 1) := by decide +kernel
theorem dX11_liveOf_8 : decode cX11_liveOf 8 = .ok (.iload_n 1, 1) := by decide +kernel
theorem dX11_liveOf_9 : decode cX11_liveOf 9 = .ok (.iconst 1, 1) := by decide +kernel
theorem dX11_liveOf_10 : decode cX11_liveOf 10 = .ok (.invokevirtual 53, 3) := by decide +kernel
theorem dX11_liveOf_13 : decode cX11_liveOf 13 = .ok (.if_icmp .ge 38, 3) := by decide +kernel
theorem dX11_liveOf_16 : decode cX11_liveOf 16 = .ok (.iload_n 3, 1) := by decide +kernel
theorem dX11_liveOf_17 : decode cX11_liveOf 17 = .ok (.aload_n 0, 1) := by decide +kernel
theorem dX11_liveOf_18 : decode cX11_liveOf 18 = .ok (.iload_n 1, 1) := by decide +kernel
theorem dX11_liveOf_19 : decode cX11_liveOf 19 = .ok (.iload 4, 2) := by decide +kernel
theorem dX11_liveOf_21 : decode cX11_liveOf 21 = .ok (.invokevirtual 88, 3) := by decide +kernel
theorem dX11_liveOf_24 : decode cX11_liveOf 24 = .ok (.iload_n 2, 1) := by decide +kernel
theorem dX11_liveOf_25 : decode cX11_liveOf 25 = .ok (.if_icmp .ne 17, 3) := by decide +kernel
theorem dX11_liveOf_28 : decode cX11_liveOf 28 = .ok (.aload_n 0, 1) := by decide +kernel
theorem dX11_liveOf_29 : decode cX11_liveOf 29 = .ok (.iload_n 1, 1) := by decide +kernel
theorem dX11_liveOf_30 : decode cX11_liveOf 30 = .ok (.iload 4, 2) := by decide +kernel
theorem dX11_liveOf_32 : decode cX11_liveOf 32 = .ok (.iconst 1, 1) := by decide +kernel
theorem dX11_liveOf_33 : decode cX11_liveOf 33 = .ok (.invokevirtual 77, 3) := by decide +kernel
theorem dX11_liveOf_36 : decode cX11_liveOf 36 = .ok (.invokestatic 91, 3) := by decide +kernel
theorem dX11_liveOf_39 : decode cX11_liveOf 39 = .ok (.goto 4, 3) := by decide +kernel
theorem dX11_liveOf_42 : decode cX11_liveOf 42 = .ok (.iconst 0, 1) := by decide +kernel
theorem dX11_liveOf_43 : decode cX11_liveOf 43 = .ok (.iadd, 1) := by decide +kernel
theorem dX11_liveOf_44 : decode cX11_liveOf 44 = .ok (.istore_n 3, 1) := by decide +kernel
theorem dX11_liveOf_45 : decode cX11_liveOf 45 = .ok (.iinc 4 1, 3) := by decide +kernel
theorem dX11_liveOf_48 : decode cX11_liveOf 48 = .ok (.goto (-43), 3) := by decide +kernel
theorem dX11_liveOf_51 : decode cX11_liveOf 51 = .ok (.iload_n 3, 1) := by decide +kernel
theorem dX11_liveOf_52 : decode cX11_liveOf 52 = .ok (.ireturn, 1) := by decide +kernel
theorem dX11_empties_0 : decode cX11_empties 0 = .ok (.iconst 0, 1) := by decide +kernel
theorem dX11_empties_1 : decode cX11_empties 1 = .ok (.istore_n 2, 1) := by decide +kernel
theorem dX11_empties_2 : decode cX11_empties 2 = .ok (.iload_n 2, 1) := by decide +kernel
theorem dX11_empties_3 : decode cX11_empties 3 = .ok (.sipush 384, 3) := by decide +kernel
theorem dX11_empties_6 : decode cX11_empties 6 = .ok (.if_icmp .ge 22, 3) := by decide +kernel
theorem dX11_empties_9 : decode cX11_empties 9 = .ok (.aload_n 0, 1) := by decide +kernel
theorem dX11_empties_10 : decode cX11_empties 10 = .ok (.getfield 7, 3) := by decide +kernel
theorem dX11_empties_13 : decode cX11_empties 13 = .ok (.iload_n 1, 1) := by decide +kernel
theorem dX11_empties_14 : decode cX11_empties 14 = .ok (.iconst 0, 1) := by decide +kernel
theorem dX11_empties_15 : decode cX11_empties 15 = .ok (.invokestatic 63, 3) := by decide +kernel
theorem dX11_empties_18 : decode cX11_empties 18 = .ok (.iload_n 2, 1) := by decide +kernel
theorem dX11_empties_19 : decode cX11_empties 19 = .ok (.iadd, 1) := by decide +kernel
theorem dX11_empties_20 : decode cX11_empties 20 = .ok (.iconst 0, 1) := by decide +kernel
theorem dX11_empties_21 : decode cX11_empties 21 = .ok (.iastore, 1) := by decide +kernel
theorem dX11_empties_22 : decode cX11_empties 22 = .ok (.iinc 2 1, 3) := by decide +kernel
theorem dX11_empties_25 : decode cX11_empties 25 = .ok (.goto (-23), 3) := by decide +kernel
theorem dX11_empties_28 : decode cX11_empties 28 = .ok (.return_, 1) := by decide +kernel
theorem dX11_copies_0 : decode cX11_copies 0 = .ok (.iconst 0, 1) := by decide +kernel
theorem dX11_copies_1 : decode cX11_copies 1 = .ok (.istore 4, 2) := by decide +kernel
theorem dX11_copies_3 : decode cX11_copies 3 = .ok (.iload 4, 2) := by decide +kernel
theorem dX11_copies_5 : decode cX11_copies 5 = .ok (.bipush 6, 2) := by decide +kernel
theorem dX11_copies_7 : decode cX11_copies 7 = .ok (.if_icmp .ge 35, 3) := by decide +kernel
theorem dX11_copies_10 : decode cX11_copies 10 = .ok (.aload_n 0, 1) := by decide +kernel
theorem dX11_copies_11 : decode cX11_copies 11 = .ok (.getfield 7, 3) := by decide +kernel
theorem dX11_copies_14 : decode cX11_copies 14 = .ok (.iload_n 2, 1) := by decide +kernel
theorem dX11_copies_15 : decode cX11_copies 15 = .ok (.iload_n 3, 1) := by decide +kernel
theorem dX11_copies_16 : decode cX11_copies 16 = .ok (.invokestatic 63, 3) := by decide +kernel
theorem dX11_copies_19 : decode cX11_copies 19 = .ok (.iload 4, 2) := by decide +kernel
theorem dX11_copies_21 : decode cX11_copies 21 = .ok (.iadd, 1) := by decide +kernel
theorem dX11_copies_22 : decode cX11_copies 22 = .ok (.aload_n 0, 1) := by decide +kernel
theorem dX11_copies_23 : decode cX11_copies 23 = .ok (.getfield 7, 3) := by decide +kernel
theorem dX11_copies_26 : decode cX11_copies 26 = .ok (.iload_n 1, 1) := by decide +kernel
theorem dX11_copies_27 : decode cX11_copies 27 = .ok (.iload_n 3, 1) := by decide +kernel
theorem dX11_copies_28 : decode cX11_copies 28 = .ok (.invokestatic 63, 3) := by decide +kernel
theorem dX11_copies_31 : decode cX11_copies 31 = .ok (.iload 4, 2) := by decide +kernel
theorem dX11_copies_33 : decode cX11_copies 33 = .ok (.iadd, 1) := by decide +kernel
theorem dX11_copies_34 : decode cX11_copies 34 = .ok (.iaload, 1) := by decide +kernel
theorem dX11_copies_35 : decode cX11_copies 35 = .ok (.iastore, 1) := by decide +kernel
theorem dX11_copies_36 : decode cX11_copies 36 = .ok (.iinc 4 1, 3) := by decide +kernel
theorem dX11_copies_39 : decode cX11_copies 39 = .ok (.goto (-36), 3) := by decide +kernel
theorem dX11_copies_42 : decode cX11_copies 42 = .ok (.return_, 1) := by decide +kernel
theorem dX11_enters_0 : decode cX11_enters 0 = .ok (.iload_n 1, 1) := by decide +kernel
theorem dX11_enters_1 : decode cX11_enters 1 = .ok (.iload_n 2, 1) := by decide +kernel
theorem dX11_enters_2 : decode cX11_enters 2 = .ok (.invokestatic 46, 3) := by decide +kernel
theorem dX11_enters_5 : decode cX11_enters 5 = .ok (.istore_n 3, 1) := by decide +kernel
theorem dX11_enters_6 : decode cX11_enters 6 = .ok (.iconst 0, 1) := by decide +kernel
theorem dX11_enters_7 : decode cX11_enters 7 = .ok (.aload_n 0, 1) := by decide +kernel
theorem dX11_enters_8 : decode cX11_enters 8 = .ok (.getfield 7, 3) := by decide +kernel
theorem dX11_enters_11 : decode cX11_enters 11 = .ok (.iload_n 3, 1) := by decide +kernel
theorem dX11_enters_12 : decode cX11_enters 12 = .ok (.iconst 0, 1) := by decide +kernel
theorem dX11_enters_13 : decode cX11_enters 13 = .ok (.iadd, 1) := by decide +kernel
theorem dX11_enters_14 : decode cX11_enters 14 = .ok (.iaload, 1) := by decide +kernel
theorem dX11_enters_15 : decode cX11_enters 15 = .ok (.invokestatic 63, 3) := by decide +kernel
theorem dX11_enters_18 : decode cX11_enters 18 = .ok (.istore 4, 2) := by decide +kernel
theorem dX11_enters_20 : decode cX11_enters 20 = .ok (.aload_n 0, 1) := by decide +kernel
theorem dX11_enters_21 : decode cX11_enters 21 = .ok (.getfield 7, 3) := by decide +kernel
theorem dX11_enters_24 : decode cX11_enters 24 = .ok (.iload_n 3, 1) := by decide +kernel
theorem dX11_enters_25 : decode cX11_enters 25 = .ok (.iconst 1, 1) := by decide +kernel
theorem dX11_enters_26 : decode cX11_enters 26 = .ok (.iadd, 1) := by decide +kernel
theorem dX11_enters_27 : decode cX11_enters 27 = .ok (.iaload, 1) := by decide +kernel
theorem dX11_enters_28 : decode cX11_enters 28 = .ok (.istore 5, 2) := by decide +kernel
theorem dX11_enters_30 : decode cX11_enters 30 = .ok (.aload_n 0, 1) := by decide +kernel
theorem dX11_enters_31 : decode cX11_enters 31 = .ok (.getfield 7, 3) := by decide +kernel
theorem dX11_enters_34 : decode cX11_enters 34 = .ok (.iload 4, 2) := by decide +kernel
theorem dX11_enters_36 : decode cX11_enters 36 = .ok (.iconst 0, 1) := by decide +kernel
theorem dX11_enters_37 : decode cX11_enters 37 = .ok (.iadd, 1) := by decide +kernel
theorem dX11_enters_38 : decode cX11_enters 38 = .ok (.aload_n 0, 1) := by decide +kernel
theorem dX11_enters_39 : decode cX11_enters 39 = .ok (.getfield 7, 3) := by decide +kernel
theorem dX11_enters_42 : decode cX11_enters 42 = .ok (.iload_n 3, 1) := by decide +kernel
theorem dX11_enters_43 : decode cX11_enters 43 = .ok (.iconst 3, 1) := by decide +kernel
theorem dX11_enters_44 : decode cX11_enters 44 = .ok (.iadd, 1) := by decide +kernel
theorem dX11_enters_45 : decode cX11_enters 45 = .ok (.iaload, 1) := by decide +kernel
theorem dX11_enters_46 : decode cX11_enters 46 = .ok (.iastore, 1) := by decide +kernel
theorem dX11_enters_47 : decode cX11_enters 47 = .ok (.aload_n 0, 1) := by decide +kernel
theorem dX11_enters_48 : decode cX11_enters 48 = .ok (.getfield 7, 3) := by decide +kernel
theorem dX11_enters_51 : decode cX11_enters 51 = .ok (.iload 4, 2) := by decide +kernel
theorem dX11_enters_53 : decode cX11_enters 53 = .ok (.iconst 1, 1) := by decide +kernel
theorem dX11_enters_54 : decode cX11_enters 54 = .ok (.iadd, 1) := by decide +kernel
theorem dX11_enters_55 : decode cX11_enters 55 = .ok (.iload 5, 2) := by decide +kernel
theorem dX11_enters_57 : decode cX11_enters 57 = .ok (.iconst (-1), 1) := by decide +kernel
theorem dX11_enters_58 : decode cX11_enters 58 = .ok (.if_icmp .ne 7, 3) := by decide +kernel
theorem dX11_enters_61 : decode cX11_enters 61 = .ok (.iconst 1, 1) := by decide +kernel
theorem dX11_enters_62 : decode cX11_enters 62 = .ok (.goto 19, 3) := by decide +kernel
theorem dX11_enters_65 : decode cX11_enters 65 = .ok (.iload 5, 2) := by decide +kernel
theorem dX11_enters_67 : decode cX11_enters 67 = .ok (.aload_n 0, 1) := by decide +kernel
theorem dX11_enters_68 : decode cX11_enters 68 = .ok (.getfield 7, 3) := by decide +kernel
theorem dX11_enters_71 : decode cX11_enters 71 = .ok (.iconst 1, 1) := by decide +kernel
theorem dX11_enters_72 : decode cX11_enters 72 = .ok (.iaload, 1) := by decide +kernel
theorem dX11_enters_73 : decode cX11_enters 73 = .ok (.if_icmp .gt 7, 3) := by decide +kernel
theorem dX11_enters_76 : decode cX11_enters 76 = .ok (.iconst 2, 1) := by decide +kernel
theorem dX11_enters_77 : decode cX11_enters 77 = .ok (.goto 4, 3) := by decide +kernel
theorem dX11_enters_80 : decode cX11_enters 80 = .ok (.iconst 3, 1) := by decide +kernel
theorem dX11_enters_81 : decode cX11_enters 81 = .ok (.iastore, 1) := by decide +kernel
theorem dX11_enters_82 : decode cX11_enters 82 = .ok (.aload_n 0, 1) := by decide +kernel
theorem dX11_enters_83 : decode cX11_enters 83 = .ok (.getfield 7, 3) := by decide +kernel
theorem dX11_enters_86 : decode cX11_enters 86 = .ok (.iload 4, 2) := by decide +kernel
theorem dX11_enters_88 : decode cX11_enters 88 = .ok (.iconst 2, 1) := by decide +kernel
theorem dX11_enters_89 : decode cX11_enters 89 = .ok (.iadd, 1) := by decide +kernel
theorem dX11_enters_90 : decode cX11_enters 90 = .ok (.iload 5, 2) := by decide +kernel
theorem dX11_enters_92 : decode cX11_enters 92 = .ok (.iastore, 1) := by decide +kernel
theorem dX11_enters_93 : decode cX11_enters 93 = .ok (.aload_n 0, 1) := by decide +kernel
theorem dX11_enters_94 : decode cX11_enters 94 = .ok (.getfield 7, 3) := by decide +kernel
theorem dX11_enters_97 : decode cX11_enters 97 = .ok (.iload 4, 2) := by decide +kernel
theorem dX11_enters_99 : decode cX11_enters 99 = .ok (.iconst 3, 1) := by decide +kernel
theorem dX11_enters_100 : decode cX11_enters 100 = .ok (.iadd, 1) := by decide +kernel
theorem dX11_enters_101 : decode cX11_enters 101 = .ok (.aload_n 0, 1) := by decide +kernel
theorem dX11_enters_102 : decode cX11_enters 102 = .ok (.getfield 7, 3) := by decide +kernel
theorem dX11_enters_105 : decode cX11_enters 105 = .ok (.iload_n 3, 1) := by decide +kernel
theorem dX11_enters_106 : decode cX11_enters 106 = .ok (.iconst 2, 1) := by decide +kernel
theorem dX11_enters_107 : decode cX11_enters 107 = .ok (.iadd, 1) := by decide +kernel
theorem dX11_enters_108 : decode cX11_enters 108 = .ok (.iaload, 1) := by decide +kernel
theorem dX11_enters_109 : decode cX11_enters 109 = .ok (.iastore, 1) := by decide +kernel
theorem dX11_enters_110 : decode cX11_enters 110 = .ok (.aload_n 0, 1) := by decide +kernel
theorem dX11_enters_111 : decode cX11_enters 111 = .ok (.getfield 7, 3) := by decide +kernel
theorem dX11_enters_114 : decode cX11_enters 114 = .ok (.iload 4, 2) := by decide +kernel
theorem dX11_enters_116 : decode cX11_enters 116 = .ok (.iconst 4, 1) := by decide +kernel
theorem dX11_enters_117 : decode cX11_enters 117 = .ok (.iadd, 1) := by decide +kernel
theorem dX11_enters_118 : decode cX11_enters 118 = .ok (.iload_n 1, 1) := by decide +kernel
theorem dX11_enters_119 : decode cX11_enters 119 = .ok (.iastore, 1) := by decide +kernel
theorem dX11_enters_120 : decode cX11_enters 120 = .ok (.aload_n 0, 1) := by decide +kernel
theorem dX11_enters_121 : decode cX11_enters 121 = .ok (.getfield 7, 3) := by decide +kernel
theorem dX11_enters_124 : decode cX11_enters 124 = .ok (.iload 4, 2) := by decide +kernel
theorem dX11_enters_126 : decode cX11_enters 126 = .ok (.iconst 5, 1) := by decide +kernel
theorem dX11_enters_127 : decode cX11_enters 127 = .ok (.iadd, 1) := by decide +kernel
theorem dX11_enters_128 : decode cX11_enters 128 = .ok (.aload_n 0, 1) := by decide +kernel
theorem dX11_enters_129 : decode cX11_enters 129 = .ok (.getfield 7, 3) := by decide +kernel
theorem dX11_enters_132 : decode cX11_enters 132 = .ok (.iload_n 3, 1) := by decide +kernel
theorem dX11_enters_133 : decode cX11_enters 133 = .ok (.iconst 4, 1) := by decide +kernel
theorem dX11_enters_134 : decode cX11_enters 134 = .ok (.iadd, 1) := by decide +kernel
theorem dX11_enters_135 : decode cX11_enters 135 = .ok (.iaload, 1) := by decide +kernel
theorem dX11_enters_136 : decode cX11_enters 136 = .ok (.iastore, 1) := by decide +kernel
theorem dX11_enters_137 : decode cX11_enters 137 = .ok (.return_, 1) := by decide +kernel
theorem dX11_logs_0 : decode cX11_logs 0 = .ok (.aload_n 0, 1) := by decide +kernel
theorem dX11_logs_1 : decode cX11_logs 1 = .ok (.getfield 7, 3) := by decide +kernel
theorem dX11_logs_4 : decode cX11_logs 4 = .ok (.sipush 5406, 3) := by decide +kernel
theorem dX11_logs_7 : decode cX11_logs 7 = .ok (.iaload, 1) := by decide +kernel
theorem dX11_logs_8 : decode cX11_logs 8 = .ok (.bipush 30, 2) := by decide +kernel
theorem dX11_logs_10 : decode cX11_logs 10 = .ok (.if_icmp .ne 46, 3) := by decide +kernel
theorem dX11_logs_13 : decode cX11_logs 13 = .ok (.sipush 5407, 3) := by decide +kernel
theorem dX11_logs_16 : decode cX11_logs 16 = .ok (.istore_n 3, 1) := by decide +kernel
theorem dX11_logs_17 : decode cX11_logs 17 = .ok (.iload_n 3, 1) := by decide +kernel
theorem dX11_logs_18 : decode cX11_logs 18 = .ok (.sipush 5494, 3) := by decide +kernel
theorem dX11_logs_21 : decode cX11_logs 21 = .ok (.if_icmp .ge 23, 3) := by decide +kernel
theorem dX11_logs_24 : decode cX11_logs 24 = .ok (.aload_n 0, 1) := by decide +kernel
theorem dX11_logs_25 : decode cX11_logs 25 = .ok (.getfield 7, 3) := by decide +kernel
theorem dX11_logs_28 : decode cX11_logs 28 = .ok (.iload_n 3, 1) := by decide +kernel
theorem dX11_logs_29 : decode cX11_logs 29 = .ok (.aload_n 0, 1) := by decide +kernel
theorem dX11_logs_30 : decode cX11_logs 30 = .ok (.getfield 7, 3) := by decide +kernel
theorem dX11_logs_33 : decode cX11_logs 33 = .ok (.iload_n 3, 1) := by decide +kernel
theorem dX11_logs_34 : decode cX11_logs 34 = .ok (.iconst 3, 1) := by decide +kernel
theorem dX11_logs_35 : decode cX11_logs 35 = .ok (.iadd, 1) := by decide +kernel
theorem dX11_logs_36 : decode cX11_logs 36 = .ok (.iaload, 1) := by decide +kernel
theorem dX11_logs_37 : decode cX11_logs 37 = .ok (.iastore, 1) := by decide +kernel
theorem dX11_logs_38 : decode cX11_logs 38 = .ok (.iinc 3 1, 3) := by decide +kernel
theorem dX11_logs_41 : decode cX11_logs 41 = .ok (.goto (-24), 3) := by decide +kernel
theorem dX11_logs_44 : decode cX11_logs 44 = .ok (.aload_n 0, 1) := by decide +kernel
theorem dX11_logs_45 : decode cX11_logs 45 = .ok (.getfield 7, 3) := by decide +kernel
theorem dX11_logs_48 : decode cX11_logs 48 = .ok (.sipush 5406, 3) := by decide +kernel
theorem dX11_logs_51 : decode cX11_logs 51 = .ok (.dup2, 1) := by decide +kernel
theorem dX11_logs_52 : decode cX11_logs 52 = .ok (.iaload, 1) := by decide +kernel
theorem dX11_logs_53 : decode cX11_logs 53 = .ok (.iconst 1, 1) := by decide +kernel
theorem dX11_logs_54 : decode cX11_logs 54 = .ok (.isub, 1) := by decide +kernel
theorem dX11_logs_55 : decode cX11_logs 55 = .ok (.iastore, 1) := by decide +kernel
theorem dX11_logs_56 : decode cX11_logs 56 = .ok (.sipush 5407, 3) := by decide +kernel
theorem dX11_logs_59 : decode cX11_logs 59 = .ok (.iconst 3, 1) := by decide +kernel
theorem dX11_logs_60 : decode cX11_logs 60 = .ok (.aload_n 0, 1) := by decide +kernel
theorem dX11_logs_61 : decode cX11_logs 61 = .ok (.getfield 7, 3) := by decide +kernel
theorem dX11_logs_64 : decode cX11_logs 64 = .ok (.sipush 5406, 3) := by decide +kernel
theorem dX11_logs_67 : decode cX11_logs 67 = .ok (.iaload, 1) := by decide +kernel
theorem dX11_logs_68 : decode cX11_logs 68 = .ok (.imul, 1) := by decide +kernel
theorem dX11_logs_69 : decode cX11_logs 69 = .ok (.iadd, 1) := by decide +kernel
theorem dX11_logs_70 : decode cX11_logs 70 = .ok (.istore_n 3, 1) := by decide +kernel
theorem dX11_logs_71 : decode cX11_logs 71 = .ok (.aload_n 0, 1) := by decide +kernel
theorem dX11_logs_72 : decode cX11_logs 72 = .ok (.getfield 7, 3) := by decide +kernel
theorem dX11_logs_75 : decode cX11_logs 75 = .ok (.iload_n 3, 1) := by decide +kernel
theorem dX11_logs_76 : decode cX11_logs 76 = .ok (.iload_n 1, 1) := by decide +kernel
theorem dX11_logs_77 : decode cX11_logs 77 = .ok (.iastore, 1) := by decide +kernel
theorem dX11_logs_78 : decode cX11_logs 78 = .ok (.aload_n 0, 1) := by decide +kernel
theorem dX11_logs_79 : decode cX11_logs 79 = .ok (.getfield 7, 3) := by decide +kernel
theorem dX11_logs_82 : decode cX11_logs 82 = .ok (.iload_n 3, 1) := by decide +kernel
theorem dX11_logs_83 : decode cX11_logs 83 = .ok (.iconst 1, 1) := by decide +kernel
theorem dX11_logs_84 : decode cX11_logs 84 = .ok (.iadd, 1) := by decide +kernel
theorem dX11_logs_85 : decode cX11_logs 85 = .ok (.iload_n 2, 1) := by decide +kernel
theorem dX11_logs_86 : decode cX11_logs 86 = .ok (.iastore, 1) := by decide +kernel
theorem dX11_logs_87 : decode cX11_logs 87 = .ok (.aload_n 0, 1) := by decide +kernel
theorem dX11_logs_88 : decode cX11_logs 88 = .ok (.getfield 7, 3) := by decide +kernel
theorem dX11_logs_91 : decode cX11_logs 91 = .ok (.iload_n 3, 1) := by decide +kernel
theorem dX11_logs_92 : decode cX11_logs 92 = .ok (.iconst 2, 1) := by decide +kernel
theorem dX11_logs_93 : decode cX11_logs 93 = .ok (.iadd, 1) := by decide +kernel
theorem dX11_logs_94 : decode cX11_logs 94 = .ok (.aload_n 0, 1) := by decide +kernel
theorem dX11_logs_95 : decode cX11_logs 95 = .ok (.getfield 7, 3) := by decide +kernel
theorem dX11_logs_98 : decode cX11_logs 98 = .ok (.iconst 5, 1) := by decide +kernel
theorem dX11_logs_99 : decode cX11_logs 99 = .ok (.iaload, 1) := by decide +kernel
theorem dX11_logs_100 : decode cX11_logs 100 = .ok (.iastore, 1) := by decide +kernel
theorem dX11_logs_101 : decode cX11_logs 101 = .ok (.aload_n 0, 1) := by decide +kernel
theorem dX11_logs_102 : decode cX11_logs 102 = .ok (.getfield 7, 3) := by decide +kernel
theorem dX11_logs_105 : decode cX11_logs 105 = .ok (.sipush 5406, 3) := by decide +kernel
theorem dX11_logs_108 : decode cX11_logs 108 = .ok (.dup2, 1) := by decide +kernel
theorem dX11_logs_109 : decode cX11_logs 109 = .ok (.iaload, 1) := by decide +kernel
theorem dX11_logs_110 : decode cX11_logs 110 = .ok (.iconst 1, 1) := by decide +kernel
theorem dX11_logs_111 : decode cX11_logs 111 = .ok (.iadd, 1) := by decide +kernel
theorem dX11_logs_112 : decode cX11_logs 112 = .ok (.iastore, 1) := by decide +kernel
theorem dX11_logs_113 : decode cX11_logs 113 = .ok (.return_, 1) := by decide +kernel
theorem dX11_appends_0 : decode cX11_appends 0 = .ok (.aload_n 0, 1) := by decide +kernel
theorem dX11_appends_1 : decode cX11_appends 1 = .ok (.invokevirtual 56, 3) := by decide +kernel
theorem dX11_appends_4 : decode cX11_appends 4 = .ok (.istore 4, 2) := by decide +kernel
theorem dX11_appends_6 : decode cX11_appends 6 = .ok (.iload_n 2, 1) := by decide +kernel
theorem dX11_appends_7 : decode cX11_appends 7 = .ok (.invokestatic 91, 3) := by decide +kernel
theorem dX11_appends_10 : decode cX11_appends 10 = .ok (.istore 5, 2) := by decide +kernel
theorem dX11_appends_12 : decode cX11_appends 12 = .ok (.aload_n 0, 1) := by decide +kernel
theorem dX11_appends_13 : decode cX11_appends 13 = .ok (.iload 4, 2) := by decide +kernel
theorem dX11_appends_15 : decode cX11_appends 15 = .ok (.iconst 2, 1) := by decide +kernel
theorem dX11_appends_16 : decode cX11_appends 16 = .ok (.invokevirtual 53, 3) := by decide +kernel
theorem dX11_appends_19 : decode cX11_appends 19 = .ok (.iload 5, 2) := by decide +kernel
theorem dX11_appends_21 : decode cX11_appends 21 = .ok (.iadd, 1) := by decide +kernel
theorem dX11_appends_22 : decode cX11_appends 22 = .ok (.aload_n 0, 1) := by decide +kernel
theorem dX11_appends_23 : decode cX11_appends 23 = .ok (.getfield 7, 3) := by decide +kernel
theorem dX11_appends_26 : decode cX11_appends 26 = .ok (.iconst 0, 1) := by decide +kernel
theorem dX11_appends_27 : decode cX11_appends 27 = .ok (.iaload, 1) := by decide +kernel
theorem dX11_appends_28 : decode cX11_appends 28 = .ok (.if_icmp .le 46, 3) := by decide +kernel
theorem dX11_appends_31 : decode cX11_appends 31 = .ok (.aload_n 0, 1) := by decide +kernel
theorem dX11_appends_32 : decode cX11_appends 32 = .ok (.getfield 7, 3) := by decide +kernel
theorem dX11_appends_35 : decode cX11_appends 35 = .ok (.bipush 66, 2) := by decide +kernel
theorem dX11_appends_37 : decode cX11_appends 37 = .ok (.iconst 3, 1) := by decide +kernel
theorem dX11_appends_38 : decode cX11_appends 38 = .ok (.iload 4, 2) := by decide +kernel
theorem dX11_appends_40 : decode cX11_appends 40 = .ok (.imul, 1) := by decide +kernel
theorem dX11_appends_41 : decode cX11_appends 41 = .ok (.iadd, 1) := by decide +kernel
theorem dX11_appends_42 : decode cX11_appends 42 = .ok (.iconst 0, 1) := by decide +kernel
theorem dX11_appends_43 : decode cX11_appends 43 = .ok (.iadd, 1) := by decide +kernel
theorem dX11_appends_44 : decode cX11_appends 44 = .ok (.iconst 2, 1) := by decide +kernel
theorem dX11_appends_45 : decode cX11_appends 45 = .ok (.iastore, 1) := by decide +kernel
theorem dX11_appends_46 : decode cX11_appends 46 = .ok (.aload_n 0, 1) := by decide +kernel
theorem dX11_appends_47 : decode cX11_appends 47 = .ok (.iconst 4, 1) := by decide +kernel
theorem dX11_appends_48 : decode cX11_appends 48 = .ok (.iload 4, 2) := by decide +kernel
theorem dX11_appends_50 : decode cX11_appends 50 = .ok (.invokevirtual 94, 3) := by decide +kernel
theorem dX11_appends_53 : decode cX11_appends 53 = .ok (.aload_n 0, 1) := by decide +kernel
theorem dX11_appends_54 : decode cX11_appends 54 = .ok (.invokevirtual 98, 3) := by decide +kernel
theorem dX11_appends_57 : decode cX11_appends 57 = .ok (.istore 4, 2) := by decide +kernel
theorem dX11_appends_59 : decode cX11_appends 59 = .ok (.aload_n 0, 1) := by decide +kernel
theorem dX11_appends_60 : decode cX11_appends 60 = .ok (.getfield 7, 3) := by decide +kernel
theorem dX11_appends_63 : decode cX11_appends 63 = .ok (.bipush 66, 2) := by decide +kernel
theorem dX11_appends_65 : decode cX11_appends 65 = .ok (.iconst 3, 1) := by decide +kernel
theorem dX11_appends_66 : decode cX11_appends 66 = .ok (.iload 4, 2) := by decide +kernel
theorem dX11_appends_68 : decode cX11_appends 68 = .ok (.imul, 1) := by decide +kernel
theorem dX11_appends_69 : decode cX11_appends 69 = .ok (.iadd, 1) := by decide +kernel
theorem dX11_appends_70 : decode cX11_appends 70 = .ok (.iconst 0, 1) := by decide +kernel
theorem dX11_appends_71 : decode cX11_appends 71 = .ok (.iadd, 1) := by decide +kernel
theorem dX11_appends_72 : decode cX11_appends 72 = .ok (.iconst 1, 1) := by decide +kernel
theorem dX11_appends_73 : decode cX11_appends 73 = .ok (.iastore, 1) := by decide +kernel
theorem dX11_appends_74 : decode cX11_appends 74 = .ok (.aload_n 0, 1) := by decide +kernel
theorem dX11_appends_75 : decode cX11_appends 75 = .ok (.iload 4, 2) := by decide +kernel
theorem dX11_appends_77 : decode cX11_appends 77 = .ok (.iconst 1, 1) := by decide +kernel
theorem dX11_appends_78 : decode cX11_appends 78 = .ok (.invokevirtual 53, 3) := by decide +kernel
theorem dX11_appends_81 : decode cX11_appends 81 = .ok (.istore 6, 2) := by decide +kernel
theorem dX11_appends_83 : decode cX11_appends 83 = .ok (.iload 4, 2) := by decide +kernel
theorem dX11_appends_85 : decode cX11_appends 85 = .ok (.iload 6, 2) := by decide +kernel
theorem dX11_appends_87 : decode cX11_appends 87 = .ok (.invokestatic 46, 3) := by decide +kernel
theorem dX11_appends_90 : decode cX11_appends 90 = .ok (.istore 7, 2) := by decide +kernel
theorem dX11_appends_92 : decode cX11_appends 92 = .ok (.aload_n 0, 1) := by decide +kernel
theorem dX11_appends_93 : decode cX11_appends 93 = .ok (.getfield 7, 3) := by decide +kernel
theorem dX11_appends_96 : decode cX11_appends 96 = .ok (.iconst 5, 1) := by decide +kernel
theorem dX11_appends_97 : decode cX11_appends 97 = .ok (.dup2, 1) := by decide +kernel
theorem dX11_appends_98 : decode cX11_appends 98 = .ok (.iaload, 1) := by decide +kernel
theorem dX11_appends_99 : decode cX11_appends 99 = .ok (.iconst 1, 1) := by decide +kernel
theorem dX11_appends_100 : decode cX11_appends 100 = .ok (.iadd, 1) := by decide +kernel
theorem dX11_appends_101 : decode cX11_appends 101 = .ok (.iastore, 1) := by decide +kernel
theorem dX11_appends_102 : decode cX11_appends 102 = .ok (.aload_n 0, 1) := by decide +kernel
theorem dX11_appends_103 : decode cX11_appends 103 = .ok (.getfield 7, 3) := by decide +kernel
theorem dX11_appends_106 : decode cX11_appends 106 = .ok (.iload 7, 2) := by decide +kernel
theorem dX11_appends_108 : decode cX11_appends 108 = .ok (.iconst 0, 1) := by decide +kernel
theorem dX11_appends_109 : decode cX11_appends 109 = .ok (.iadd, 1) := by decide +kernel
theorem dX11_appends_110 : decode cX11_appends 110 = .ok (.iload_n 1, 1) := by decide +kernel
theorem dX11_appends_111 : decode cX11_appends 111 = .ok (.iastore, 1) := by decide +kernel
theorem dX11_appends_112 : decode cX11_appends 112 = .ok (.aload_n 0, 1) := by decide +kernel
theorem dX11_appends_113 : decode cX11_appends 113 = .ok (.getfield 7, 3) := by decide +kernel
theorem dX11_appends_116 : decode cX11_appends 116 = .ok (.iload 7, 2) := by decide +kernel
theorem dX11_appends_118 : decode cX11_appends 118 = .ok (.iconst 1, 1) := by decide +kernel
theorem dX11_appends_119 : decode cX11_appends 119 = .ok (.iadd, 1) := by decide +kernel
theorem dX11_appends_120 : decode cX11_appends 120 = .ok (.iload_n 2, 1) := by decide +kernel
theorem dX11_appends_121 : decode cX11_appends 121 = .ok (.iastore, 1) := by decide +kernel
theorem dX11_appends_122 : decode cX11_appends 122 = .ok (.aload_n 0, 1) := by decide +kernel
theorem dX11_appends_123 : decode cX11_appends 123 = .ok (.getfield 7, 3) := by decide +kernel
theorem dX11_appends_126 : decode cX11_appends 126 = .ok (.iload 7, 2) := by decide +kernel
theorem dX11_appends_128 : decode cX11_appends 128 = .ok (.iconst 2, 1) := by decide +kernel
theorem dX11_appends_129 : decode cX11_appends 129 = .ok (.iadd, 1) := by decide +kernel
theorem dX11_appends_130 : decode cX11_appends 130 = .ok (.iload_n 3, 1) := by decide +kernel
theorem dX11_appends_131 : decode cX11_appends 131 = .ok (.iastore, 1) := by decide +kernel
theorem dX11_appends_132 : decode cX11_appends 132 = .ok (.aload_n 0, 1) := by decide +kernel
theorem dX11_appends_133 : decode cX11_appends 133 = .ok (.getfield 7, 3) := by decide +kernel
theorem dX11_appends_136 : decode cX11_appends 136 = .ok (.iload 7, 2) := by decide +kernel
theorem dX11_appends_138 : decode cX11_appends 138 = .ok (.iconst 3, 1) := by decide +kernel
theorem dX11_appends_139 : decode cX11_appends 139 = .ok (.iadd, 1) := by decide +kernel
theorem dX11_appends_140 : decode cX11_appends 140 = .ok (.aload_n 0, 1) := by decide +kernel
theorem dX11_appends_141 : decode cX11_appends 141 = .ok (.getfield 7, 3) := by decide +kernel
theorem dX11_appends_144 : decode cX11_appends 144 = .ok (.iconst 5, 1) := by decide +kernel
theorem dX11_appends_145 : decode cX11_appends 145 = .ok (.iaload, 1) := by decide +kernel
theorem dX11_appends_146 : decode cX11_appends 146 = .ok (.iastore, 1) := by decide +kernel
theorem dX11_appends_147 : decode cX11_appends 147 = .ok (.aload_n 0, 1) := by decide +kernel
theorem dX11_appends_148 : decode cX11_appends 148 = .ok (.getfield 7, 3) := by decide +kernel
theorem dX11_appends_151 : decode cX11_appends 151 = .ok (.iload 7, 2) := by decide +kernel
theorem dX11_appends_153 : decode cX11_appends 153 = .ok (.iconst 4, 1) := by decide +kernel
theorem dX11_appends_154 : decode cX11_appends 154 = .ok (.iadd, 1) := by decide +kernel
theorem dX11_appends_155 : decode cX11_appends 155 = .ok (.aload_n 0, 1) := by decide +kernel
theorem dX11_appends_156 : decode cX11_appends 156 = .ok (.iload 4, 2) := by decide +kernel
theorem dX11_appends_158 : decode cX11_appends 158 = .ok (.iconst 2, 1) := by decide +kernel
theorem dX11_appends_159 : decode cX11_appends 159 = .ok (.invokevirtual 53, 3) := by decide +kernel
theorem dX11_appends_162 : decode cX11_appends 162 = .ok (.iastore, 1) := by decide +kernel
theorem dX11_appends_163 : decode cX11_appends 163 = .ok (.aload_n 0, 1) := by decide +kernel
theorem dX11_appends_164 : decode cX11_appends 164 = .ok (.getfield 7, 3) := by decide +kernel
theorem dX11_appends_167 : decode cX11_appends 167 = .ok (.bipush 66, 2) := by decide +kernel
theorem dX11_appends_169 : decode cX11_appends 169 = .ok (.iconst 3, 1) := by decide +kernel
theorem dX11_appends_170 : decode cX11_appends 170 = .ok (.iload 4, 2) := by decide +kernel
theorem dX11_appends_172 : decode cX11_appends 172 = .ok (.imul, 1) := by decide +kernel
theorem dX11_appends_173 : decode cX11_appends 173 = .ok (.iadd, 1) := by decide +kernel
theorem dX11_appends_174 : decode cX11_appends 174 = .ok (.iconst 1, 1) := by decide +kernel
theorem dX11_appends_175 : decode cX11_appends 175 = .ok (.iadd, 1) := by decide +kernel
theorem dX11_appends_176 : decode cX11_appends 176 = .ok (.dup2, 1) := by decide +kernel
theorem dX11_appends_177 : decode cX11_appends 177 = .ok (.iaload, 1) := by decide +kernel
theorem dX11_appends_178 : decode cX11_appends 178 = .ok (.iconst 1, 1) := by decide +kernel
theorem dX11_appends_179 : decode cX11_appends 179 = .ok (.iadd, 1) := by decide +kernel
theorem dX11_appends_180 : decode cX11_appends 180 = .ok (.iastore, 1) := by decide +kernel
theorem dX11_appends_181 : decode cX11_appends 181 = .ok (.aload_n 0, 1) := by decide +kernel
theorem dX11_appends_182 : decode cX11_appends 182 = .ok (.getfield 7, 3) := by decide +kernel
theorem dX11_appends_185 : decode cX11_appends 185 = .ok (.bipush 66, 2) := by decide +kernel
theorem dX11_appends_187 : decode cX11_appends 187 = .ok (.iconst 3, 1) := by decide +kernel
theorem dX11_appends_188 : decode cX11_appends 188 = .ok (.iload 4, 2) := by decide +kernel
theorem dX11_appends_190 : decode cX11_appends 190 = .ok (.imul, 1) := by decide +kernel
theorem dX11_appends_191 : decode cX11_appends 191 = .ok (.iadd, 1) := by decide +kernel
theorem dX11_appends_192 : decode cX11_appends 192 = .ok (.iconst 2, 1) := by decide +kernel
theorem dX11_appends_193 : decode cX11_appends 193 = .ok (.iadd, 1) := by decide +kernel
theorem dX11_appends_194 : decode cX11_appends 194 = .ok (.dup2, 1) := by decide +kernel
theorem dX11_appends_195 : decode cX11_appends 195 = .ok (.iaload, 1) := by decide +kernel
theorem dX11_appends_196 : decode cX11_appends 196 = .ok (.iload 5, 2) := by decide +kernel
theorem dX11_appends_198 : decode cX11_appends 198 = .ok (.iadd, 1) := by decide +kernel
theorem dX11_appends_199 : decode cX11_appends 199 = .ok (.iastore, 1) := by decide +kernel
theorem dX11_appends_200 : decode cX11_appends 200 = .ok (.aload_n 0, 1) := by decide +kernel
theorem dX11_appends_201 : decode cX11_appends 201 = .ok (.getfield 7, 3) := by decide +kernel
theorem dX11_appends_204 : decode cX11_appends 204 = .ok (.bipush 13, 2) := by decide +kernel
theorem dX11_appends_206 : decode cX11_appends 206 = .ok (.dup2, 1) := by decide +kernel
theorem dX11_appends_207 : decode cX11_appends 207 = .ok (.iaload, 1) := by decide +kernel
theorem dX11_appends_208 : decode cX11_appends 208 = .ok (.iload 5, 2) := by decide +kernel
theorem dX11_appends_210 : decode cX11_appends 210 = .ok (.iadd, 1) := by decide +kernel
theorem dX11_appends_211 : decode cX11_appends 211 = .ok (.iastore, 1) := by decide +kernel
theorem dX11_appends_212 : decode cX11_appends 212 = .ok (.aload_n 0, 1) := by decide +kernel
theorem dX11_appends_213 : decode cX11_appends 213 = .ok (.iload 4, 2) := by decide +kernel
theorem dX11_appends_215 : decode cX11_appends 215 = .ok (.iload 6, 2) := by decide +kernel
theorem dX11_appends_217 : decode cX11_appends 217 = .ok (.invokevirtual 101, 3) := by decide +kernel
theorem dX11_appends_220 : decode cX11_appends 220 = .ok (.return_, 1) := by decide +kernel
theorem dX11_merges_0 : decode cX11_merges 0 = .ok (.iconst 0, 1) := by decide +kernel
theorem dX11_merges_1 : decode cX11_merges 1 = .ok (.istore_n 1, 1) := by decide +kernel
theorem dX11_merges_2 : decode cX11_merges 2 = .ok (.iload_n 1, 1) := by decide +kernel
theorem dX11_merges_3 : decode cX11_merges 3 = .ok (.bipush 64, 2) := by decide +kernel
theorem dX11_merges_5 : decode cX11_merges 5 = .ok (.if_icmp .ge 85, 3) := by decide +kernel
theorem dX11_merges_8 : decode cX11_merges 8 = .ok (.iconst 1, 1) := by decide +kernel
theorem dX11_merges_9 : decode cX11_merges 9 = .ok (.istore_n 2, 1) := by decide +kernel
theorem dX11_merges_10 : decode cX11_merges 10 = .ok (.iload_n 2, 1) := by decide +kernel
theorem dX11_merges_11 : decode cX11_merges 11 = .ok (.aload_n 0, 1) := by decide +kernel
theorem dX11_merges_12 : decode cX11_merges 12 = .ok (.getfield 7, 3) := by decide +kernel
theorem dX11_merges_15 : decode cX11_merges 15 = .ok (.iconst 4, 1) := by decide +kernel
theorem dX11_merges_16 : decode cX11_merges 16 = .ok (.iaload, 1) := by decide +kernel
theorem dX11_merges_17 : decode cX11_merges 17 = .ok (.if_icmp .gt 18, 3) := by decide +kernel
theorem dX11_merges_20 : decode cX11_merges 20 = .ok (.aload_n 0, 1) := by decide +kernel
theorem dX11_merges_21 : decode cX11_merges 21 = .ok (.iload_n 2, 1) := by decide +kernel
theorem dX11_merges_22 : decode cX11_merges 22 = .ok (.iload_n 1, 1) := by decide +kernel
theorem dX11_merges_23 : decode cX11_merges 23 = .ok (.invokevirtual 66, 3) := by decide +kernel
theorem dX11_merges_26 : decode cX11_merges 26 = .ok (.ifCond .ne 9, 3) := by decide +kernel
theorem dX11_merges_29 : decode cX11_merges 29 = .ok (.iinc 2 1, 3) := by decide +kernel
theorem dX11_merges_32 : decode cX11_merges 32 = .ok (.goto (-22), 3) := by decide +kernel
theorem dX11_merges_35 : decode cX11_merges 35 = .ok (.iload_n 2, 1) := by decide +kernel
theorem dX11_merges_36 : decode cX11_merges 36 = .ok (.aload_n 0, 1) := by decide +kernel
theorem dX11_merges_37 : decode cX11_merges 37 = .ok (.getfield 7, 3) := by decide +kernel
theorem dX11_merges_40 : decode cX11_merges 40 = .ok (.iconst 4, 1) := by decide +kernel
theorem dX11_merges_41 : decode cX11_merges 41 = .ok (.iaload, 1) := by decide +kernel
theorem dX11_merges_42 : decode cX11_merges 42 = .ok (.if_icmp .le 6, 3) := by decide +kernel
theorem dX11_merges_45 : decode cX11_merges 45 = .ok (.goto 39, 3) := by decide +kernel
theorem dX11_merges_48 : decode cX11_merges 48 = .ok (.aload_n 0, 1) := by decide +kernel
theorem dX11_merges_49 : decode cX11_merges 49 = .ok (.iload_n 2, 1) := by decide +kernel
theorem dX11_merges_50 : decode cX11_merges 50 = .ok (.iconst 1, 1) := by decide +kernel
theorem dX11_merges_51 : decode cX11_merges 51 = .ok (.iload_n 1, 1) := by decide +kernel
theorem dX11_merges_52 : decode cX11_merges 52 = .ok (.invokevirtual 104, 3) := by decide +kernel
theorem dX11_merges_55 : decode cX11_merges 55 = .ok (.aload_n 0, 1) := by decide +kernel
theorem dX11_merges_56 : decode cX11_merges 56 = .ok (.getfield 7, 3) := by decide +kernel
theorem dX11_merges_59 : decode cX11_merges 59 = .ok (.iconst 1, 1) := by decide +kernel
theorem dX11_merges_60 : decode cX11_merges 60 = .ok (.iload_n 1, 1) := by decide +kernel
theorem dX11_merges_61 : decode cX11_merges 61 = .ok (.invokestatic 63, 3) := by decide +kernel
theorem dX11_merges_64 : decode cX11_merges 64 = .ok (.iconst 1, 1) := by decide +kernel
theorem dX11_merges_65 : decode cX11_merges 65 = .ok (.iadd, 1) := by decide +kernel
theorem dX11_merges_66 : decode cX11_merges 66 = .ok (.iaload, 1) := by decide +kernel
theorem dX11_merges_67 : decode cX11_merges 67 = .ok (.iconst 1, 1) := by decide +kernel
theorem dX11_merges_68 : decode cX11_merges 68 = .ok (.if_icmp .ne 16, 3) := by decide +kernel
theorem dX11_merges_71 : decode cX11_merges 71 = .ok (.aload_n 0, 1) := by decide +kernel
theorem dX11_merges_72 : decode cX11_merges 72 = .ok (.getfield 7, 3) := by decide +kernel
theorem dX11_merges_75 : decode cX11_merges 75 = .ok (.iconst 1, 1) := by decide +kernel
theorem dX11_merges_76 : decode cX11_merges 76 = .ok (.iload_n 1, 1) := by decide +kernel
theorem dX11_merges_77 : decode cX11_merges 77 = .ok (.invokestatic 63, 3) := by decide +kernel
theorem dX11_merges_80 : decode cX11_merges 80 = .ok (.iconst 1, 1) := by decide +kernel
theorem dX11_merges_81 : decode cX11_merges 81 = .ok (.iadd, 1) := by decide +kernel
theorem dX11_merges_82 : decode cX11_merges 82 = .ok (.iconst 0, 1) := by decide +kernel
theorem dX11_merges_83 : decode cX11_merges 83 = .ok (.iastore, 1) := by decide +kernel
theorem dX11_merges_84 : decode cX11_merges 84 = .ok (.iinc 1 1, 3) := by decide +kernel
theorem dX11_merges_87 : decode cX11_merges 87 = .ok (.goto (-85), 3) := by decide +kernel
theorem dX11_merges_90 : decode cX11_merges 90 = .ok (.aload_n 0, 1) := by decide +kernel
theorem dX11_merges_91 : decode cX11_merges 91 = .ok (.getfield 7, 3) := by decide +kernel
theorem dX11_merges_94 : decode cX11_merges 94 = .ok (.iconst 4, 1) := by decide +kernel
theorem dX11_merges_95 : decode cX11_merges 95 = .ok (.iaload, 1) := by decide +kernel
theorem dX11_merges_96 : decode cX11_merges 96 = .ok (.iconst 1, 1) := by decide +kernel
theorem dX11_merges_97 : decode cX11_merges 97 = .ok (.if_icmp .le 28, 3) := by decide +kernel
theorem dX11_merges_100 : decode cX11_merges 100 = .ok (.aload_n 0, 1) := by decide +kernel
theorem dX11_merges_101 : decode cX11_merges 101 = .ok (.getfield 7, 3) := by decide +kernel
theorem dX11_merges_104 : decode cX11_merges 104 = .ok (.bipush 14, 2) := by decide +kernel
theorem dX11_merges_106 : decode cX11_merges 106 = .ok (.dup2, 1) := by decide +kernel
theorem dX11_merges_107 : decode cX11_merges 107 = .ok (.iaload, 1) := by decide +kernel
theorem dX11_merges_108 : decode cX11_merges 108 = .ok (.aload_n 0, 1) := by decide +kernel
theorem dX11_merges_109 : decode cX11_merges 109 = .ok (.iconst 1, 1) := by decide +kernel
theorem dX11_merges_110 : decode cX11_merges 110 = .ok (.invokevirtual 108, 3) := by decide +kernel
theorem dX11_merges_113 : decode cX11_merges 113 = .ok (.iadd, 1) := by decide +kernel
theorem dX11_merges_114 : decode cX11_merges 114 = .ok (.iastore, 1) := by decide +kernel
theorem dX11_merges_115 : decode cX11_merges 115 = .ok (.aload_n 0, 1) := by decide +kernel
theorem dX11_merges_116 : decode cX11_merges 116 = .ok (.iconst 1, 1) := by decide +kernel
theorem dX11_merges_117 : decode cX11_merges 117 = .ok (.aload_n 0, 1) := by decide +kernel
theorem dX11_merges_118 : decode cX11_merges 118 = .ok (.iconst 1, 1) := by decide +kernel
theorem dX11_merges_119 : decode cX11_merges 119 = .ok (.invokevirtual 108, 3) := by decide +kernel
theorem dX11_merges_122 : decode cX11_merges 122 = .ok (.invokevirtual 94, 3) := by decide +kernel
theorem dX11_merges_125 : decode cX11_merges 125 = .ok (.iconst 2, 1) := by decide +kernel
theorem dX11_merges_126 : decode cX11_merges 126 = .ok (.istore_n 1, 1) := by decide +kernel
theorem dX11_merges_127 : decode cX11_merges 127 = .ok (.iload_n 1, 1) := by decide +kernel
theorem dX11_merges_128 : decode cX11_merges 128 = .ok (.aload_n 0, 1) := by decide +kernel
theorem dX11_merges_129 : decode cX11_merges 129 = .ok (.getfield 7, 3) := by decide +kernel
theorem dX11_merges_132 : decode cX11_merges 132 = .ok (.iconst 4, 1) := by decide +kernel
theorem dX11_merges_133 : decode cX11_merges 133 = .ok (.iaload, 1) := by decide +kernel
theorem dX11_merges_134 : decode cX11_merges 134 = .ok (.if_icmp .gt 14, 3) := by decide +kernel
theorem dX11_merges_137 : decode cX11_merges 137 = .ok (.aload_n 0, 1) := by decide +kernel
theorem dX11_merges_138 : decode cX11_merges 138 = .ok (.iload_n 1, 1) := by decide +kernel
theorem dX11_merges_139 : decode cX11_merges 139 = .ok (.invokevirtual 111, 3) := by decide +kernel
theorem dX11_merges_142 : decode cX11_merges 142 = .ok (.iinc 1 1, 3) := by decide +kernel
theorem dX11_merges_145 : decode cX11_merges 145 = .ok (.goto (-18), 3) := by decide +kernel
theorem dX11_merges_148 : decode cX11_merges 148 = .ok (.aload_n 0, 1) := by decide +kernel
theorem dX11_merges_149 : decode cX11_merges 149 = .ok (.getfield 7, 3) := by decide +kernel
theorem dX11_merges_152 : decode cX11_merges 152 = .ok (.iconst 4, 1) := by decide +kernel
theorem dX11_merges_153 : decode cX11_merges 153 = .ok (.aload_n 0, 1) := by decide +kernel
theorem dX11_merges_154 : decode cX11_merges 154 = .ok (.getfield 7, 3) := by decide +kernel
theorem dX11_merges_157 : decode cX11_merges 157 = .ok (.iconst 4, 1) := by decide +kernel
theorem dX11_merges_158 : decode cX11_merges 158 = .ok (.iaload, 1) := by decide +kernel
theorem dX11_merges_159 : decode cX11_merges 159 = .ok (.ifCond .le 15, 3) := by decide +kernel
theorem dX11_merges_162 : decode cX11_merges 162 = .ok (.aload_n 0, 1) := by decide +kernel
theorem dX11_merges_163 : decode cX11_merges 163 = .ok (.iconst 1, 1) := by decide +kernel
theorem dX11_merges_164 : decode cX11_merges 164 = .ok (.invokevirtual 108, 3) := by decide +kernel
theorem dX11_merges_167 : decode cX11_merges 167 = .ok (.ifCond .le 7, 3) := by decide +kernel
theorem dX11_merges_170 : decode cX11_merges 170 = .ok (.iconst 1, 1) := by decide +kernel
theorem dX11_merges_171 : decode cX11_merges 171 = .ok (.goto 4, 3) := by decide +kernel
theorem dX11_merges_174 : decode cX11_merges 174 = .ok (.iconst 0, 1) := by decide +kernel
theorem dX11_merges_175 : decode cX11_merges 175 = .ok (.iastore, 1) := by decide +kernel
theorem dX11_merges_176 : decode cX11_merges 176 = .ok (.return_, 1) := by decide +kernel
theorem dX11_flushes_0 : decode cX11_flushes 0 = .ok (.aload_n 0, 1) := by decide +kernel
theorem dX11_flushes_1 : decode cX11_flushes 1 = .ok (.getfield 7, 3) := by decide +kernel
theorem dX11_flushes_4 : decode cX11_flushes 4 = .ok (.bipush 6, 2) := by decide +kernel
theorem dX11_flushes_6 : decode cX11_flushes 6 = .ok (.aload_n 0, 1) := by decide +kernel
theorem dX11_flushes_7 : decode cX11_flushes 7 = .ok (.getfield 7, 3) := by decide +kernel
theorem dX11_flushes_10 : decode cX11_flushes 10 = .ok (.iconst 5, 1) := by decide +kernel
theorem dX11_flushes_11 : decode cX11_flushes 11 = .ok (.iaload, 1) := by decide +kernel
theorem dX11_flushes_12 : decode cX11_flushes 12 = .ok (.iastore, 1) := by decide +kernel
theorem dX11_flushes_13 : decode cX11_flushes 13 = .ok (.aload_n 0, 1) := by decide +kernel
theorem dX11_flushes_14 : decode cX11_flushes 14 = .ok (.getfield 7, 3) := by decide +kernel
theorem dX11_flushes_17 : decode cX11_flushes 17 = .ok (.bipush 7, 2) := by decide +kernel
theorem dX11_flushes_19 : decode cX11_flushes 19 = .ok (.aload_n 0, 1) := by decide +kernel
theorem dX11_flushes_20 : decode cX11_flushes 20 = .ok (.getfield 7, 3) := by decide +kernel
theorem dX11_flushes_23 : decode cX11_flushes 23 = .ok (.iconst 5, 1) := by decide +kernel
theorem dX11_flushes_24 : decode cX11_flushes 24 = .ok (.iaload, 1) := by decide +kernel
theorem dX11_flushes_25 : decode cX11_flushes 25 = .ok (.iastore, 1) := by decide +kernel
theorem dX11_flushes_26 : decode cX11_flushes 26 = .ok (.aload_n 0, 1) := by decide +kernel
theorem dX11_flushes_27 : decode cX11_flushes 27 = .ok (.iconst 0, 1) := by decide +kernel
theorem dX11_flushes_28 : decode cX11_flushes 28 = .ok (.invokevirtual 108, 3) := by decide +kernel
theorem dX11_flushes_31 : decode cX11_flushes 31 = .ok (.ifCond .ne 4, 3) := by decide +kernel
theorem dX11_flushes_34 : decode cX11_flushes 34 = .ok (.return_, 1) := by decide +kernel
theorem dX11_flushes_35 : decode cX11_flushes 35 = .ok (.aload_n 0, 1) := by decide +kernel
theorem dX11_flushes_36 : decode cX11_flushes 36 = .ok (.getfield 7, 3) := by decide +kernel
theorem dX11_flushes_39 : decode cX11_flushes 39 = .ok (.bipush 14, 2) := by decide +kernel
theorem dX11_flushes_41 : decode cX11_flushes 41 = .ok (.dup2, 1) := by decide +kernel
theorem dX11_flushes_42 : decode cX11_flushes 42 = .ok (.iaload, 1) := by decide +kernel
theorem dX11_flushes_43 : decode cX11_flushes 43 = .ok (.aload_n 0, 1) := by decide +kernel
theorem dX11_flushes_44 : decode cX11_flushes 44 = .ok (.iconst 0, 1) := by decide +kernel
theorem dX11_flushes_45 : decode cX11_flushes 45 = .ok (.invokevirtual 108, 3) := by decide +kernel
theorem dX11_flushes_48 : decode cX11_flushes 48 = .ok (.iadd, 1) := by decide +kernel
theorem dX11_flushes_49 : decode cX11_flushes 49 = .ok (.iastore, 1) := by decide +kernel
theorem dX11_flushes_50 : decode cX11_flushes 50 = .ok (.aload_n 0, 1) := by decide +kernel
theorem dX11_flushes_51 : decode cX11_flushes 51 = .ok (.iconst 0, 1) := by decide +kernel
theorem dX11_flushes_52 : decode cX11_flushes 52 = .ok (.aload_n 0, 1) := by decide +kernel
theorem dX11_flushes_53 : decode cX11_flushes 53 = .ok (.iconst 0, 1) := by decide +kernel
theorem dX11_flushes_54 : decode cX11_flushes 54 = .ok (.invokevirtual 108, 3) := by decide +kernel
theorem dX11_flushes_57 : decode cX11_flushes 57 = .ok (.invokevirtual 94, 3) := by decide +kernel
theorem dX11_flushes_60 : decode cX11_flushes 60 = .ok (.aload_n 0, 1) := by decide +kernel
theorem dX11_flushes_61 : decode cX11_flushes 61 = .ok (.getfield 7, 3) := by decide +kernel
theorem dX11_flushes_64 : decode cX11_flushes 64 = .ok (.iconst 4, 1) := by decide +kernel
theorem dX11_flushes_65 : decode cX11_flushes 65 = .ok (.iaload, 1) := by decide +kernel
theorem dX11_flushes_66 : decode cX11_flushes 66 = .ok (.istore_n 1, 1) := by decide +kernel
theorem dX11_flushes_67 : decode cX11_flushes 67 = .ok (.iload_n 1, 1) := by decide +kernel
theorem dX11_flushes_68 : decode cX11_flushes 68 = .ok (.ifCond .lt 39, 3) := by decide +kernel
theorem dX11_flushes_71 : decode cX11_flushes 71 = .ok (.aload_n 0, 1) := by decide +kernel
theorem dX11_flushes_72 : decode cX11_flushes 72 = .ok (.iload_n 1, 1) := by decide +kernel
theorem dX11_flushes_73 : decode cX11_flushes 73 = .ok (.iconst 1, 1) := by decide +kernel
theorem dX11_flushes_74 : decode cX11_flushes 74 = .ok (.iadd, 1) := by decide +kernel
theorem dX11_flushes_75 : decode cX11_flushes 75 = .ok (.invokevirtual 111, 3) := by decide +kernel
theorem dX11_flushes_78 : decode cX11_flushes 78 = .ok (.iconst 0, 1) := by decide +kernel
theorem dX11_flushes_79 : decode cX11_flushes 79 = .ok (.istore_n 2, 1) := by decide +kernel
theorem dX11_flushes_80 : decode cX11_flushes 80 = .ok (.iload_n 2, 1) := by decide +kernel
theorem dX11_flushes_81 : decode cX11_flushes 81 = .ok (.bipush 64, 2) := by decide +kernel
theorem dX11_flushes_83 : decode cX11_flushes 83 = .ok (.if_icmp .ge 18, 3) := by decide +kernel
theorem dX11_flushes_86 : decode cX11_flushes 86 = .ok (.aload_n 0, 1) := by decide +kernel
theorem dX11_flushes_87 : decode cX11_flushes 87 = .ok (.iload_n 1, 1) := by decide +kernel
theorem dX11_flushes_88 : decode cX11_flushes 88 = .ok (.iload_n 1, 1) := by decide +kernel
theorem dX11_flushes_89 : decode cX11_flushes 89 = .ok (.iconst 1, 1) := by decide +kernel
theorem dX11_flushes_90 : decode cX11_flushes 90 = .ok (.iadd, 1) := by decide +kernel
theorem dX11_flushes_91 : decode cX11_flushes 91 = .ok (.iload_n 2, 1) := by decide +kernel
theorem dX11_flushes_92 : decode cX11_flushes 92 = .ok (.invokevirtual 104, 3) := by decide +kernel
theorem dX11_flushes_95 : decode cX11_flushes 95 = .ok (.iinc 2 1, 3) := by decide +kernel
theorem dX11_flushes_98 : decode cX11_flushes 98 = .ok (.goto (-18), 3) := by decide +kernel
theorem dX11_flushes_101 : decode cX11_flushes 101 = .ok (.iinc 1 (-1), 3) := by decide +kernel
theorem dX11_flushes_104 : decode cX11_flushes 104 = .ok (.goto (-37), 3) := by decide +kernel
theorem dX11_flushes_107 : decode cX11_flushes 107 = .ok (.aload_n 0, 1) := by decide +kernel
theorem dX11_flushes_108 : decode cX11_flushes 108 = .ok (.iconst 0, 1) := by decide +kernel
theorem dX11_flushes_109 : decode cX11_flushes 109 = .ok (.invokevirtual 111, 3) := by decide +kernel
theorem dX11_flushes_112 : decode cX11_flushes 112 = .ok (.aload_n 0, 1) := by decide +kernel
theorem dX11_flushes_113 : decode cX11_flushes 113 = .ok (.getfield 7, 3) := by decide +kernel
theorem dX11_flushes_116 : decode cX11_flushes 116 = .ok (.iconst 4, 1) := by decide +kernel
theorem dX11_flushes_117 : decode cX11_flushes 117 = .ok (.dup2, 1) := by decide +kernel
theorem dX11_flushes_118 : decode cX11_flushes 118 = .ok (.iaload, 1) := by decide +kernel
theorem dX11_flushes_119 : decode cX11_flushes 119 = .ok (.iconst 1, 1) := by decide +kernel
theorem dX11_flushes_120 : decode cX11_flushes 120 = .ok (.iadd, 1) := by decide +kernel
theorem dX11_flushes_121 : decode cX11_flushes 121 = .ok (.iastore, 1) := by decide +kernel
theorem dX11_flushes_122 : decode cX11_flushes 122 = .ok (.aload_n 0, 1) := by decide +kernel
theorem dX11_flushes_123 : decode cX11_flushes 123 = .ok (.getfield 7, 3) := by decide +kernel
theorem dX11_flushes_126 : decode cX11_flushes 126 = .ok (.iconst 4, 1) := by decide +kernel
theorem dX11_flushes_127 : decode cX11_flushes 127 = .ok (.iaload, 1) := by decide +kernel
theorem dX11_flushes_128 : decode cX11_flushes 128 = .ok (.aload_n 0, 1) := by decide +kernel
theorem dX11_flushes_129 : decode cX11_flushes 129 = .ok (.getfield 7, 3) := by decide +kernel
theorem dX11_flushes_132 : decode cX11_flushes 132 = .ok (.iconst 3, 1) := by decide +kernel
theorem dX11_flushes_133 : decode cX11_flushes 133 = .ok (.iaload, 1) := by decide +kernel
theorem dX11_flushes_134 : decode cX11_flushes 134 = .ok (.if_icmp .le 7, 3) := by decide +kernel
theorem dX11_flushes_137 : decode cX11_flushes 137 = .ok (.aload_n 0, 1) := by decide +kernel
theorem dX11_flushes_138 : decode cX11_flushes 138 = .ok (.invokevirtual 115, 3) := by decide +kernel
theorem dX11_flushes_141 : decode cX11_flushes 141 = .ok (.return_, 1) := by decide +kernel
theorem dX11_puts_0 : decode cX11_puts 0 = .ok (.aload_n 0, 1) := by decide +kernel
theorem dX11_puts_1 : decode cX11_puts 1 = .ok (.iconst 0, 1) := by decide +kernel
theorem dX11_puts_2 : decode cX11_puts 2 = .ok (.iload_n 1, 1) := by decide +kernel
theorem dX11_puts_3 : decode cX11_puts 3 = .ok (.invokevirtual 66, 3) := by decide +kernel
theorem dX11_puts_6 : decode cX11_puts 6 = .ok (.ifCond .ne 21, 3) := by decide +kernel
theorem dX11_puts_9 : decode cX11_puts 9 = .ok (.aload_n 0, 1) := by decide +kernel
theorem dX11_puts_10 : decode cX11_puts 10 = .ok (.iconst 0, 1) := by decide +kernel
theorem dX11_puts_11 : decode cX11_puts 11 = .ok (.invokevirtual 108, 3) := by decide +kernel
theorem dX11_puts_14 : decode cX11_puts 14 = .ok (.aload_n 0, 1) := by decide +kernel
theorem dX11_puts_15 : decode cX11_puts 15 = .ok (.getfield 7, 3) := by decide +kernel
theorem dX11_puts_18 : decode cX11_puts 18 = .ok (.iconst 2, 1) := by decide +kernel
theorem dX11_puts_19 : decode cX11_puts 19 = .ok (.iaload, 1) := by decide +kernel
theorem dX11_puts_20 : decode cX11_puts 20 = .ok (.if_icmp .lt 7, 3) := by decide +kernel
theorem dX11_puts_23 : decode cX11_puts 23 = .ok (.aload_n 0, 1) := by decide +kernel
theorem dX11_puts_24 : decode cX11_puts 24 = .ok (.invokevirtual 118, 3) := by decide +kernel
theorem dX11_puts_27 : decode cX11_puts 27 = .ok (.aload_n 0, 1) := by decide +kernel
theorem dX11_puts_28 : decode cX11_puts 28 = .ok (.iload_n 1, 1) := by decide +kernel
theorem dX11_puts_29 : decode cX11_puts 29 = .ok (.iload_n 2, 1) := by decide +kernel
theorem dX11_puts_30 : decode cX11_puts 30 = .ok (.iload_n 3, 1) := by decide +kernel
theorem dX11_puts_31 : decode cX11_puts 31 = .ok (.invokevirtual 121, 3) := by decide +kernel
theorem dX11_puts_34 : decode cX11_puts 34 = .ok (.return_, 1) := by decide +kernel
theorem dX11_put0_0 : decode cX11_put0 0 = .ok (.aload_n 0, 1) := by decide +kernel
theorem dX11_put0_1 : decode cX11_put0 1 = .ok (.iload_n 2, 1) := by decide +kernel
theorem dX11_put0_2 : decode cX11_put0 2 = .ok (.invokestatic 91, 3) := by decide +kernel
theorem dX11_put0_5 : decode cX11_put0 5 = .ok (.invokevirtual 124, 3) := by decide +kernel
theorem dX11_put0_8 : decode cX11_put0 8 = .ok (.ifCond .ne 5, 3) := by decide +kernel
theorem dX11_put0_11 : decode cX11_put0 11 = .ok (.iconst 1, 1) := by decide +kernel
theorem dX11_put0_12 : decode cX11_put0 12 = .ok (.ireturn, 1) := by decide +kernel
theorem dX11_put0_13 : decode cX11_put0 13 = .ok (.aload_n 0, 1) := by decide +kernel
theorem dX11_put0_14 : decode cX11_put0 14 = .ok (.getfield 7, 3) := by decide +kernel
theorem dX11_put0_17 : decode cX11_put0 17 = .ok (.bipush 15, 2) := by decide +kernel
theorem dX11_put0_19 : decode cX11_put0 19 = .ok (.dup2, 1) := by decide +kernel
theorem dX11_put0_20 : decode cX11_put0 20 = .ok (.iaload, 1) := by decide +kernel
theorem dX11_put0_21 : decode cX11_put0 21 = .ok (.iload_n 2, 1) := by decide +kernel
theorem dX11_put0_22 : decode cX11_put0 22 = .ok (.invokestatic 91, 3) := by decide +kernel
theorem dX11_put0_25 : decode cX11_put0 25 = .ok (.iadd, 1) := by decide +kernel
theorem dX11_put0_26 : decode cX11_put0 26 = .ok (.iastore, 1) := by decide +kernel
theorem dX11_put0_27 : decode cX11_put0 27 = .ok (.aload_n 0, 1) := by decide +kernel
theorem dX11_put0_28 : decode cX11_put0 28 = .ok (.iload_n 1, 1) := by decide +kernel
theorem dX11_put0_29 : decode cX11_put0 29 = .ok (.iload_n 2, 1) := by decide +kernel
theorem dX11_put0_30 : decode cX11_put0 30 = .ok (.iload_n 3, 1) := by decide +kernel
theorem dX11_put0_31 : decode cX11_put0 31 = .ok (.invokevirtual 127, 3) := by decide +kernel
theorem dX11_put0_34 : decode cX11_put0 34 = .ok (.iconst 0, 1) := by decide +kernel
theorem dX11_put0_35 : decode cX11_put0 35 = .ok (.ireturn, 1) := by decide +kernel
theorem dX11_drop0_0 : decode cX11_drop0 0 = .ok (.aload_n 0, 1) := by decide +kernel
theorem dX11_drop0_1 : decode cX11_drop0 1 = .ok (.iconst 4, 1) := by decide +kernel
theorem dX11_drop0_2 : decode cX11_drop0 2 = .ok (.invokevirtual 124, 3) := by decide +kernel
theorem dX11_drop0_5 : decode cX11_drop0 5 = .ok (.ifCond .ne 5, 3) := by decide +kernel
theorem dX11_drop0_8 : decode cX11_drop0 8 = .ok (.iconst 1, 1) := by decide +kernel
theorem dX11_drop0_9 : decode cX11_drop0 9 = .ok (.ireturn, 1) := by decide +kernel
theorem dX11_drop0_10 : decode cX11_drop0 10 = .ok (.aload_n 0, 1) := by decide +kernel
theorem dX11_drop0_11 : decode cX11_drop0 11 = .ok (.iload_n 1, 1) := by decide +kernel
theorem dX11_drop0_12 : decode cX11_drop0 12 = .ok (.invokevirtual 81, 3) := by decide +kernel
theorem dX11_drop0_15 : decode cX11_drop0 15 = .ok (.ifCond .ne 5, 3) := by decide +kernel
theorem dX11_drop0_18 : decode cX11_drop0 18 = .ok (.iconst 2, 1) := by decide +kernel
theorem dX11_drop0_19 : decode cX11_drop0 19 = .ok (.ireturn, 1) := by decide +kernel
theorem dX11_drop0_20 : decode cX11_drop0 20 = .ok (.aload_n 0, 1) := by decide +kernel
theorem dX11_drop0_21 : decode cX11_drop0 21 = .ok (.getfield 7, 3) := by decide +kernel
theorem dX11_drop0_24 : decode cX11_drop0 24 = .ok (.bipush 15, 2) := by decide +kernel
theorem dX11_drop0_26 : decode cX11_drop0 26 = .ok (.dup2, 1) := by decide +kernel
theorem dX11_drop0_27 : decode cX11_drop0 27 = .ok (.iaload, 1) := by decide +kernel
theorem dX11_drop0_28 : decode cX11_drop0 28 = .ok (.iconst 4, 1) := by decide +kernel
theorem dX11_drop0_29 : decode cX11_drop0 29 = .ok (.iadd, 1) := by decide +kernel
theorem dX11_drop0_30 : decode cX11_drop0 30 = .ok (.iastore, 1) := by decide +kernel
theorem dX11_drop0_31 : decode cX11_drop0 31 = .ok (.aload_n 0, 1) := by decide +kernel
theorem dX11_drop0_32 : decode cX11_drop0 32 = .ok (.iload_n 1, 1) := by decide +kernel
theorem dX11_drop0_33 : decode cX11_drop0 33 = .ok (.iconst (-1), 1) := by decide +kernel
theorem dX11_drop0_34 : decode cX11_drop0 34 = .ok (.iconst 0, 1) := by decide +kernel
theorem dX11_drop0_35 : decode cX11_drop0 35 = .ok (.invokevirtual 127, 3) := by decide +kernel
theorem dX11_drop0_38 : decode cX11_drop0 38 = .ok (.iconst 0, 1) := by decide +kernel
theorem dX11_drop0_39 : decode cX11_drop0 39 = .ok (.ireturn, 1) := by decide +kernel
theorem dX11_crash0_0 : decode cX11_crash0 0 = .ok (.iconst 0, 1) := by decide +kernel
theorem dX11_crash0_1 : decode cX11_crash0 1 = .ok (.istore_n 1, 1) := by decide +kernel
theorem dX11_crash0_2 : decode cX11_crash0 2 = .ok (.iconst 0, 1) := by decide +kernel
theorem dX11_crash0_3 : decode cX11_crash0 3 = .ok (.istore_n 2, 1) := by decide +kernel
theorem dX11_crash0_4 : decode cX11_crash0 4 = .ok (.iconst 0, 1) := by decide +kernel
theorem dX11_crash0_5 : decode cX11_crash0 5 = .ok (.istore_n 3, 1) := by decide +kernel
theorem dX11_crash0_6 : decode cX11_crash0 6 = .ok (.iconst 0, 1) := by decide +kernel
theorem dX11_crash0_7 : decode cX11_crash0 7 = .ok (.istore 4, 2) := by decide +kernel
theorem dX11_crash0_9 : decode cX11_crash0 9 = .ok (.iload 4, 2) := by decide +kernel
theorem dX11_crash0_11 : decode cX11_crash0 11 = .ok (.bipush 12, 2) := by decide +kernel
theorem dX11_crash0_13 : decode cX11_crash0 13 = .ok (.if_icmp .ge 180, 3) := by decide +kernel
theorem dX11_crash0_16 : decode cX11_crash0 16 = .ok (.aload_n 0, 1) := by decide +kernel
theorem dX11_crash0_17 : decode cX11_crash0 17 = .ok (.iload 4, 2) := by decide +kernel
theorem dX11_crash0_19 : decode cX11_crash0 19 = .ok (.iconst 1, 1) := by decide +kernel
theorem dX11_crash0_20 : decode cX11_crash0 20 = .ok (.invokevirtual 53, 3) := by decide +kernel
theorem dX11_crash0_23 : decode cX11_crash0 23 = .ok (.istore 5, 2) := by decide +kernel
theorem dX11_crash0_25 : decode cX11_crash0 25 = .ok (.iload 5, 2) := by decide +kernel
theorem dX11_crash0_27 : decode cX11_crash0 27 = .ok (.ifCond .le 33, 3) := by decide +kernel
theorem dX11_crash0_30 : decode cX11_crash0 30 = .ok (.aload_n 0, 1) := by decide +kernel
theorem dX11_crash0_31 : decode cX11_crash0 31 = .ok (.iload 4, 2) := by decide +kernel
theorem dX11_crash0_33 : decode cX11_crash0 33 = .ok (.iload 5, 2) := by decide +kernel
theorem dX11_crash0_35 : decode cX11_crash0 35 = .ok (.iconst 1, 1) := by decide +kernel
theorem dX11_crash0_36 : decode cX11_crash0 36 = .ok (.isub, 1) := by decide +kernel
theorem dX11_crash0_37 : decode cX11_crash0 37 = .ok (.iconst 3, 1) := by decide +kernel
theorem dX11_crash0_38 : decode cX11_crash0 38 = .ok (.invokevirtual 77, 3) := by decide +kernel
theorem dX11_crash0_41 : decode cX11_crash0 41 = .ok (.aload_n 0, 1) := by decide +kernel
theorem dX11_crash0_42 : decode cX11_crash0 42 = .ok (.getfield 7, 3) := by decide +kernel
theorem dX11_crash0_45 : decode cX11_crash0 45 = .ok (.bipush 6, 2) := by decide +kernel
theorem dX11_crash0_47 : decode cX11_crash0 47 = .ok (.iaload, 1) := by decide +kernel
theorem dX11_crash0_48 : decode cX11_crash0 48 = .ok (.if_icmp .le 12, 3) := by decide +kernel
theorem dX11_crash0_51 : decode cX11_crash0 51 = .ok (.iinc 5 (-1), 3) := by decide +kernel
theorem dX11_crash0_54 : decode cX11_crash0 54 = .ok (.iinc 1 1, 3) := by decide +kernel
theorem dX11_crash0_57 : decode cX11_crash0 57 = .ok (.goto (-32), 3) := by decide +kernel
theorem dX11_crash0_60 : decode cX11_crash0 60 = .ok (.aload_n 0, 1) := by decide +kernel
theorem dX11_crash0_61 : decode cX11_crash0 61 = .ok (.getfield 7, 3) := by decide +kernel
theorem dX11_crash0_64 : decode cX11_crash0 64 = .ok (.bipush 66, 2) := by decide +kernel
theorem dX11_crash0_66 : decode cX11_crash0 66 = .ok (.iconst 3, 1) := by decide +kernel
theorem dX11_crash0_67 : decode cX11_crash0 67 = .ok (.iload 4, 2) := by decide +kernel
theorem dX11_crash0_69 : decode cX11_crash0 69 = .ok (.imul, 1) := by decide +kernel
theorem dX11_crash0_70 : decode cX11_crash0 70 = .ok (.iadd, 1) := by decide +kernel
theorem dX11_crash0_71 : decode cX11_crash0 71 = .ok (.iconst 1, 1) := by decide +kernel
theorem dX11_crash0_72 : decode cX11_crash0 72 = .ok (.iadd, 1) := by decide +kernel
theorem dX11_crash0_73 : decode cX11_crash0 73 = .ok (.iload 5, 2) := by decide +kernel
theorem dX11_crash0_75 : decode cX11_crash0 75 = .ok (.iastore, 1) := by decide +kernel
theorem dX11_crash0_76 : decode cX11_crash0 76 = .ok (.aload_n 0, 1) := by decide +kernel
theorem dX11_crash0_77 : decode cX11_crash0 77 = .ok (.getfield 7, 3) := by decide +kernel
theorem dX11_crash0_80 : decode cX11_crash0 80 = .ok (.bipush 66, 2) := by decide +kernel
theorem dX11_crash0_82 : decode cX11_crash0 82 = .ok (.iconst 3, 1) := by decide +kernel
theorem dX11_crash0_83 : decode cX11_crash0 83 = .ok (.iload 4, 2) := by decide +kernel
theorem dX11_crash0_85 : decode cX11_crash0 85 = .ok (.imul, 1) := by decide +kernel
theorem dX11_crash0_86 : decode cX11_crash0 86 = .ok (.iadd, 1) := by decide +kernel
theorem dX11_crash0_87 : decode cX11_crash0 87 = .ok (.iconst 2, 1) := by decide +kernel
theorem dX11_crash0_88 : decode cX11_crash0 88 = .ok (.iadd, 1) := by decide +kernel
theorem dX11_crash0_89 : decode cX11_crash0 89 = .ok (.iload 5, 2) := by decide +kernel
theorem dX11_crash0_91 : decode cX11_crash0 91 = .ok (.ifCond .ne 7, 3) := by decide +kernel
theorem dX11_crash0_94 : decode cX11_crash0 94 = .ok (.iconst 0, 1) := by decide +kernel
theorem dX11_crash0_95 : decode cX11_crash0 95 = .ok (.goto 29, 3) := by decide +kernel
theorem dX11_crash0_98 : decode cX11_crash0 98 = .ok (.aload_n 0, 1) := by decide +kernel
theorem dX11_crash0_99 : decode cX11_crash0 99 = .ok (.iload 4, 2) := by decide +kernel
theorem dX11_crash0_101 : decode cX11_crash0 101 = .ok (.iload 5, 2) := by decide +kernel
theorem dX11_crash0_103 : decode cX11_crash0 103 = .ok (.iconst 1, 1) := by decide +kernel
theorem dX11_crash0_104 : decode cX11_crash0 104 = .ok (.isub, 1) := by decide +kernel
theorem dX11_crash0_105 : decode cX11_crash0 105 = .ok (.iconst 4, 1) := by decide +kernel
theorem dX11_crash0_106 : decode cX11_crash0 106 = .ok (.invokevirtual 77, 3) := by decide +kernel
theorem dX11_crash0_109 : decode cX11_crash0 109 = .ok (.aload_n 0, 1) := by decide +kernel
theorem dX11_crash0_110 : decode cX11_crash0 110 = .ok (.iload 4, 2) := by decide +kernel
theorem dX11_crash0_112 : decode cX11_crash0 112 = .ok (.iload 5, 2) := by decide +kernel
theorem dX11_crash0_114 : decode cX11_crash0 114 = .ok (.iconst 1, 1) := by decide +kernel
theorem dX11_crash0_115 : decode cX11_crash0 115 = .ok (.isub, 1) := by decide +kernel
theorem dX11_crash0_116 : decode cX11_crash0 116 = .ok (.iconst 1, 1) := by decide +kernel
theorem dX11_crash0_117 : decode cX11_crash0 117 = .ok (.invokevirtual 77, 3) := by decide +kernel
theorem dX11_crash0_120 : decode cX11_crash0 120 = .ok (.invokestatic 91, 3) := by decide +kernel
theorem dX11_crash0_123 : decode cX11_crash0 123 = .ok (.iadd, 1) := by decide +kernel
theorem dX11_crash0_124 : decode cX11_crash0 124 = .ok (.iastore, 1) := by decide +kernel
theorem dX11_crash0_125 : decode cX11_crash0 125 = .ok (.aload_n 0, 1) := by decide +kernel
theorem dX11_crash0_126 : decode cX11_crash0 126 = .ok (.getfield 7, 3) := by decide +kernel
theorem dX11_crash0_129 : decode cX11_crash0 129 = .ok (.bipush 66, 2) := by decide +kernel
theorem dX11_crash0_131 : decode cX11_crash0 131 = .ok (.iconst 3, 1) := by decide +kernel
theorem dX11_crash0_132 : decode cX11_crash0 132 = .ok (.iload 4, 2) := by decide +kernel
theorem dX11_crash0_134 : decode cX11_crash0 134 = .ok (.imul, 1) := by decide +kernel
theorem dX11_crash0_135 : decode cX11_crash0 135 = .ok (.iadd, 1) := by decide +kernel
theorem dX11_crash0_136 : decode cX11_crash0 136 = .ok (.iconst 0, 1) := by decide +kernel
theorem dX11_crash0_137 : decode cX11_crash0 137 = .ok (.iadd, 1) := by decide +kernel
theorem dX11_crash0_138 : decode cX11_crash0 138 = .ok (.iload 5, 2) := by decide +kernel
theorem dX11_crash0_140 : decode cX11_crash0 140 = .ok (.ifCond .ne 7, 3) := by decide +kernel
theorem dX11_crash0_143 : decode cX11_crash0 143 = .ok (.iconst 0, 1) := by decide +kernel
theorem dX11_crash0_144 : decode cX11_crash0 144 = .ok (.goto 4, 3) := by decide +kernel
theorem dX11_crash0_147 : decode cX11_crash0 147 = .ok (.iconst 2, 1) := by decide +kernel
theorem dX11_crash0_148 : decode cX11_crash0 148 = .ok (.iastore, 1) := by decide +kernel
theorem dX11_crash0_149 : decode cX11_crash0 149 = .ok (.iload 5, 2) := by decide +kernel
theorem dX11_crash0_151 : decode cX11_crash0 151 = .ok (.ifCond .eq 36, 3) := by decide +kernel
theorem dX11_crash0_154 : decode cX11_crash0 154 = .ok (.aload_n 0, 1) := by decide +kernel
theorem dX11_crash0_155 : decode cX11_crash0 155 = .ok (.iload 4, 2) := by decide +kernel
theorem dX11_crash0_157 : decode cX11_crash0 157 = .ok (.iload 5, 2) := by decide +kernel
theorem dX11_crash0_159 : decode cX11_crash0 159 = .ok (.iconst 1, 1) := by decide +kernel
theorem dX11_crash0_160 : decode cX11_crash0 160 = .ok (.isub, 1) := by decide +kernel
theorem dX11_crash0_161 : decode cX11_crash0 161 = .ok (.iconst 3, 1) := by decide +kernel
theorem dX11_crash0_162 : decode cX11_crash0 162 = .ok (.invokevirtual 77, 3) := by decide +kernel
theorem dX11_crash0_165 : decode cX11_crash0 165 = .ok (.iload_n 2, 1) := by decide +kernel
theorem dX11_crash0_166 : decode cX11_crash0 166 = .ok (.if_icmp .gt 6, 3) := by decide +kernel
theorem dX11_crash0_169 : decode cX11_crash0 169 = .ok (.goto 18, 3) := by decide +kernel
theorem dX11_crash0_172 : decode cX11_crash0 172 = .ok (.aload_n 0, 1) := by decide +kernel
theorem dX11_crash0_173 : decode cX11_crash0 173 = .ok (.iload 4, 2) := by decide +kernel
theorem dX11_crash0_175 : decode cX11_crash0 175 = .ok (.iload 5, 2) := by decide +kernel
theorem dX11_crash0_177 : decode cX11_crash0 177 = .ok (.iconst 1, 1) := by decide +kernel
theorem dX11_crash0_178 : decode cX11_crash0 178 = .ok (.isub, 1) := by decide +kernel
theorem dX11_crash0_179 : decode cX11_crash0 179 = .ok (.iconst 3, 1) := by decide +kernel
theorem dX11_crash0_180 : decode cX11_crash0 180 = .ok (.invokevirtual 77, 3) := by decide +kernel
theorem dX11_crash0_183 : decode cX11_crash0 183 = .ok (.istore_n 2, 1) := by decide +kernel
theorem dX11_crash0_184 : decode cX11_crash0 184 = .ok (.iload 4, 2) := by decide +kernel
theorem dX11_crash0_186 : decode cX11_crash0 186 = .ok (.istore_n 3, 1) := by decide +kernel
theorem dX11_crash0_187 : decode cX11_crash0 187 = .ok (.iinc 4 1, 3) := by decide +kernel
theorem dX11_crash0_190 : decode cX11_crash0 190 = .ok (.goto (-181), 3) := by decide +kernel
theorem dX11_crash0_193 : decode cX11_crash0 193 = .ok (.aload_n 0, 1) := by decide +kernel
theorem dX11_crash0_194 : decode cX11_crash0 194 = .ok (.getfield 7, 3) := by decide +kernel
theorem dX11_crash0_197 : decode cX11_crash0 197 = .ok (.bipush 66, 2) := by decide +kernel
theorem dX11_crash0_199 : decode cX11_crash0 199 = .ok (.iconst 3, 1) := by decide +kernel
theorem dX11_crash0_200 : decode cX11_crash0 200 = .ok (.iload_n 3, 1) := by decide +kernel
theorem dX11_crash0_201 : decode cX11_crash0 201 = .ok (.imul, 1) := by decide +kernel
theorem dX11_crash0_202 : decode cX11_crash0 202 = .ok (.iadd, 1) := by decide +kernel
theorem dX11_crash0_203 : decode cX11_crash0 203 = .ok (.iconst 0, 1) := by decide +kernel
theorem dX11_crash0_204 : decode cX11_crash0 204 = .ok (.iadd, 1) := by decide +kernel
theorem dX11_crash0_205 : decode cX11_crash0 205 = .ok (.iconst 1, 1) := by decide +kernel
theorem dX11_crash0_206 : decode cX11_crash0 206 = .ok (.iastore, 1) := by decide +kernel
theorem dX11_crash0_207 : decode cX11_crash0 207 = .ok (.aload_n 0, 1) := by decide +kernel
theorem dX11_crash0_208 : decode cX11_crash0 208 = .ok (.iconst 0, 1) := by decide +kernel
theorem dX11_crash0_209 : decode cX11_crash0 209 = .ok (.invokevirtual 111, 3) := by decide +kernel
theorem dX11_crash0_212 : decode cX11_crash0 212 = .ok (.iconst 0, 1) := by decide +kernel
theorem dX11_crash0_213 : decode cX11_crash0 213 = .ok (.istore 4, 2) := by decide +kernel
theorem dX11_crash0_215 : decode cX11_crash0 215 = .ok (.iload 4, 2) := by decide +kernel
theorem dX11_crash0_217 : decode cX11_crash0 217 = .ok (.bipush 12, 2) := by decide +kernel
theorem dX11_crash0_219 : decode cX11_crash0 219 = .ok (.if_icmp .ge 100, 3) := by decide +kernel
theorem dX11_crash0_222 : decode cX11_crash0 222 = .ok (.iconst 0, 1) := by decide +kernel
theorem dX11_crash0_223 : decode cX11_crash0 223 = .ok (.istore 5, 2) := by decide +kernel
theorem dX11_crash0_225 : decode cX11_crash0 225 = .ok (.iload 5, 2) := by decide +kernel
theorem dX11_crash0_227 : decode cX11_crash0 227 = .ok (.aload_n 0, 1) := by decide +kernel
theorem dX11_crash0_228 : decode cX11_crash0 228 = .ok (.iload 4, 2) := by decide +kernel
theorem dX11_crash0_230 : decode cX11_crash0 230 = .ok (.iconst 1, 1) := by decide +kernel
theorem dX11_crash0_231 : decode cX11_crash0 231 = .ok (.invokevirtual 53, 3) := by decide +kernel
theorem dX11_crash0_234 : decode cX11_crash0 234 = .ok (.if_icmp .ge 79, 3) := by decide +kernel
theorem dX11_crash0_237 : decode cX11_crash0 237 = .ok (.aload_n 0, 1) := by decide +kernel
theorem dX11_crash0_238 : decode cX11_crash0 238 = .ok (.iload 4, 2) := by decide +kernel
theorem dX11_crash0_240 : decode cX11_crash0 240 = .ok (.iload 5, 2) := by decide +kernel
theorem dX11_crash0_242 : decode cX11_crash0 242 = .ok (.iconst 3, 1) := by decide +kernel
theorem dX11_crash0_243 : decode cX11_crash0 243 = .ok (.invokevirtual 77, 3) := by decide +kernel
theorem dX11_crash0_246 : decode cX11_crash0 246 = .ok (.istore 6, 2) := by decide +kernel
theorem dX11_crash0_248 : decode cX11_crash0 248 = .ok (.aload_n 0, 1) := by decide +kernel
theorem dX11_crash0_249 : decode cX11_crash0 249 = .ok (.iload 4, 2) := by decide +kernel
theorem dX11_crash0_251 : decode cX11_crash0 251 = .ok (.iload 5, 2) := by decide +kernel
theorem dX11_crash0_253 : decode cX11_crash0 253 = .ok (.iconst 0, 1) := by decide +kernel
theorem dX11_crash0_254 : decode cX11_crash0 254 = .ok (.invokevirtual 77, 3) := by decide +kernel
theorem dX11_crash0_257 : decode cX11_crash0 257 = .ok (.istore 7, 2) := by decide +kernel
theorem dX11_crash0_259 : decode cX11_crash0 259 = .ok (.iload 6, 2) := by decide +kernel
theorem dX11_crash0_261 : decode cX11_crash0 261 = .ok (.aload_n 0, 1) := by decide +kernel
theorem dX11_crash0_262 : decode cX11_crash0 262 = .ok (.getfield 7, 3) := by decide +kernel
theorem dX11_crash0_265 : decode cX11_crash0 265 = .ok (.bipush 7, 2) := by decide +kernel
theorem dX11_crash0_267 : decode cX11_crash0 267 = .ok (.iaload, 1) := by decide +kernel
theorem dX11_crash0_268 : decode cX11_crash0 268 = .ok (.if_icmp .le 39, 3) := by decide +kernel
theorem dX11_crash0_271 : decode cX11_crash0 271 = .ok (.aload_n 0, 1) := by decide +kernel
theorem dX11_crash0_272 : decode cX11_crash0 272 = .ok (.iconst 0, 1) := by decide +kernel
theorem dX11_crash0_273 : decode cX11_crash0 273 = .ok (.iload 7, 2) := by decide +kernel
theorem dX11_crash0_275 : decode cX11_crash0 275 = .ok (.invokevirtual 66, 3) := by decide +kernel
theorem dX11_crash0_278 : decode cX11_crash0 278 = .ok (.ifCond .eq 21, 3) := by decide +kernel
theorem dX11_crash0_281 : decode cX11_crash0 281 = .ok (.aload_n 0, 1) := by decide +kernel
theorem dX11_crash0_282 : decode cX11_crash0 282 = .ok (.getfield 7, 3) := by decide +kernel
theorem dX11_crash0_285 : decode cX11_crash0 285 = .ok (.iconst 0, 1) := by decide +kernel
theorem dX11_crash0_286 : decode cX11_crash0 286 = .ok (.iload 7, 2) := by decide +kernel
theorem dX11_crash0_288 : decode cX11_crash0 288 = .ok (.invokestatic 63, 3) := by decide +kernel
theorem dX11_crash0_291 : decode cX11_crash0 291 = .ok (.iconst 0, 1) := by decide +kernel
theorem dX11_crash0_292 : decode cX11_crash0 292 = .ok (.iadd, 1) := by decide +kernel
theorem dX11_crash0_293 : decode cX11_crash0 293 = .ok (.iaload, 1) := by decide +kernel
theorem dX11_crash0_294 : decode cX11_crash0 294 = .ok (.iload 6, 2) := by decide +kernel
theorem dX11_crash0_296 : decode cX11_crash0 296 = .ok (.if_icmp .ge 11, 3) := by decide +kernel
theorem dX11_crash0_299 : decode cX11_crash0 299 = .ok (.aload_n 0, 1) := by decide +kernel
theorem dX11_crash0_300 : decode cX11_crash0 300 = .ok (.iload 4, 2) := by decide +kernel
theorem dX11_crash0_302 : decode cX11_crash0 302 = .ok (.iload 5, 2) := by decide +kernel
theorem dX11_crash0_304 : decode cX11_crash0 304 = .ok (.invokevirtual 101, 3) := by decide +kernel
theorem dX11_crash0_307 : decode cX11_crash0 307 = .ok (.iinc 5 1, 3) := by decide +kernel
theorem dX11_crash0_310 : decode cX11_crash0 310 = .ok (.goto (-85), 3) := by decide +kernel
theorem dX11_crash0_313 : decode cX11_crash0 313 = .ok (.iinc 4 1, 3) := by decide +kernel
theorem dX11_crash0_316 : decode cX11_crash0 316 = .ok (.goto (-101), 3) := by decide +kernel
theorem dX11_crash0_319 : decode cX11_crash0 319 = .ok (.aload_n 0, 1) := by decide +kernel
theorem dX11_crash0_320 : decode cX11_crash0 320 = .ok (.getfield 7, 3) := by decide +kernel
theorem dX11_crash0_323 : decode cX11_crash0 323 = .ok (.bipush 8, 2) := by decide +kernel
theorem dX11_crash0_325 : decode cX11_crash0 325 = .ok (.iconst (-1), 1) := by decide +kernel
theorem dX11_crash0_326 : decode cX11_crash0 326 = .ok (.iastore, 1) := by decide +kernel
theorem dX11_crash0_327 : decode cX11_crash0 327 = .ok (.aload_n 0, 1) := by decide +kernel
theorem dX11_crash0_328 : decode cX11_crash0 328 = .ok (.getfield 7, 3) := by decide +kernel
theorem dX11_crash0_331 : decode cX11_crash0 331 = .ok (.bipush 9, 2) := by decide +kernel
theorem dX11_crash0_333 : decode cX11_crash0 333 = .ok (.iconst 0, 1) := by decide +kernel
theorem dX11_crash0_334 : decode cX11_crash0 334 = .ok (.iastore, 1) := by decide +kernel
theorem dX11_crash0_335 : decode cX11_crash0 335 = .ok (.aload_n 0, 1) := by decide +kernel
theorem dX11_crash0_336 : decode cX11_crash0 336 = .ok (.getfield 7, 3) := by decide +kernel
theorem dX11_crash0_339 : decode cX11_crash0 339 = .ok (.bipush 10, 2) := by decide +kernel
theorem dX11_crash0_341 : decode cX11_crash0 341 = .ok (.iconst 0, 1) := by decide +kernel
theorem dX11_crash0_342 : decode cX11_crash0 342 = .ok (.iastore, 1) := by decide +kernel
theorem dX11_crash0_343 : decode cX11_crash0 343 = .ok (.aload_n 0, 1) := by decide +kernel
theorem dX11_crash0_344 : decode cX11_crash0 344 = .ok (.iconst 3, 1) := by decide +kernel
theorem dX11_crash0_345 : decode cX11_crash0 345 = .ok (.iload_n 1, 1) := by decide +kernel
theorem dX11_crash0_346 : decode cX11_crash0 346 = .ok (.invokevirtual 94, 3) := by decide +kernel
theorem dX11_crash0_349 : decode cX11_crash0 349 = .ok (.aload_n 0, 1) := by decide +kernel
theorem dX11_crash0_350 : decode cX11_crash0 350 = .ok (.getfield 7, 3) := by decide +kernel
theorem dX11_crash0_353 : decode cX11_crash0 353 = .ok (.iconst 5, 1) := by decide +kernel
theorem dX11_crash0_354 : decode cX11_crash0 354 = .ok (.aload_n 0, 1) := by decide +kernel
theorem dX11_crash0_355 : decode cX11_crash0 355 = .ok (.getfield 7, 3) := by decide +kernel
theorem dX11_crash0_358 : decode cX11_crash0 358 = .ok (.bipush 6, 2) := by decide +kernel
theorem dX11_crash0_360 : decode cX11_crash0 360 = .ok (.iaload, 1) := by decide +kernel
theorem dX11_crash0_361 : decode cX11_crash0 361 = .ok (.aload_n 0, 1) := by decide +kernel
theorem dX11_crash0_362 : decode cX11_crash0 362 = .ok (.getfield 7, 3) := by decide +kernel
theorem dX11_crash0_365 : decode cX11_crash0 365 = .ok (.bipush 7, 2) := by decide +kernel
theorem dX11_crash0_367 : decode cX11_crash0 367 = .ok (.iaload, 1) := by decide +kernel
theorem dX11_crash0_368 : decode cX11_crash0 368 = .ok (.invokestatic 50, 3) := by decide +kernel
theorem dX11_crash0_371 : decode cX11_crash0 371 = .ok (.iastore, 1) := by decide +kernel
theorem dX11_crash0_372 : decode cX11_crash0 372 = .ok (.iload_n 1, 1) := by decide +kernel
theorem dX11_crash0_373 : decode cX11_crash0 373 = .ok (.ireturn, 1) := by decide +kernel
theorem dX11_poorest_0 : decode cX11_poorest 0 = .ok (.iconst (-1), 1) := by decide +kernel
theorem dX11_poorest_1 : decode cX11_poorest 1 = .ok (.istore_n 1, 1) := by decide +kernel
theorem dX11_poorest_2 : decode cX11_poorest 2 = .ok (.iconst 0, 1) := by decide +kernel
theorem dX11_poorest_3 : decode cX11_poorest 3 = .ok (.istore_n 2, 1) := by decide +kernel
theorem dX11_poorest_4 : decode cX11_poorest 4 = .ok (.iload_n 2, 1) := by decide +kernel
theorem dX11_poorest_5 : decode cX11_poorest 5 = .ok (.bipush 12, 2) := by decide +kernel
theorem dX11_poorest_7 : decode cX11_poorest 7 = .ok (.if_icmp .ge 41, 3) := by decide +kernel
theorem dX11_poorest_10 : decode cX11_poorest 10 = .ok (.aload_n 0, 1) := by decide +kernel
theorem dX11_poorest_11 : decode cX11_poorest 11 = .ok (.iload_n 2, 1) := by decide +kernel
theorem dX11_poorest_12 : decode cX11_poorest 12 = .ok (.iconst 0, 1) := by decide +kernel
theorem dX11_poorest_13 : decode cX11_poorest 13 = .ok (.invokevirtual 53, 3) := by decide +kernel
theorem dX11_poorest_16 : decode cX11_poorest 16 = .ok (.iconst 2, 1) := by decide +kernel
theorem dX11_poorest_17 : decode cX11_poorest 17 = .ok (.if_icmp .ne 25, 3) := by decide +kernel
theorem dX11_poorest_20 : decode cX11_poorest 20 = .ok (.iload_n 1, 1) := by decide +kernel
theorem dX11_poorest_21 : decode cX11_poorest 21 = .ok (.iconst (-1), 1) := by decide +kernel
theorem dX11_poorest_22 : decode cX11_poorest 22 = .ok (.if_icmp .eq 18, 3) := by decide +kernel
theorem dX11_poorest_25 : decode cX11_poorest 25 = .ok (.aload_n 0, 1) := by decide +kernel
theorem dX11_poorest_26 : decode cX11_poorest 26 = .ok (.iload_n 2, 1) := by decide +kernel
theorem dX11_poorest_27 : decode cX11_poorest 27 = .ok (.iconst 1, 1) := by decide +kernel
theorem dX11_poorest_28 : decode cX11_poorest 28 = .ok (.invokevirtual 130, 3) := by decide +kernel
theorem dX11_poorest_31 : decode cX11_poorest 31 = .ok (.aload_n 0, 1) := by decide +kernel
theorem dX11_poorest_32 : decode cX11_poorest 32 = .ok (.iload_n 1, 1) := by decide +kernel
theorem dX11_poorest_33 : decode cX11_poorest 33 = .ok (.iconst 1, 1) := by decide +kernel
theorem dX11_poorest_34 : decode cX11_poorest 34 = .ok (.invokevirtual 130, 3) := by decide +kernel
theorem dX11_poorest_37 : decode cX11_poorest 37 = .ok (.if_icmp .ge 5, 3) := by decide +kernel
theorem dX11_poorest_40 : decode cX11_poorest 40 = .ok (.iload_n 2, 1) := by decide +kernel
theorem dX11_poorest_41 : decode cX11_poorest 41 = .ok (.istore_n 1, 1) := by decide +kernel
theorem dX11_poorest_42 : decode cX11_poorest 42 = .ok (.iinc 2 1, 3) := by decide +kernel
theorem dX11_poorest_45 : decode cX11_poorest 45 = .ok (.goto (-41), 3) := by decide +kernel
theorem dX11_poorest_48 : decode cX11_poorest 48 = .ok (.iload_n 1, 1) := by decide +kernel
theorem dX11_poorest_49 : decode cX11_poorest 49 = .ok (.ireturn, 1) := by decide +kernel
theorem dX11_pick0_0 : decode cX11_pick0 0 = .ok (.aload_n 0, 1) := by decide +kernel
theorem dX11_pick0_1 : decode cX11_pick0 1 = .ok (.getfield 7, 3) := by decide +kernel
theorem dX11_pick0_4 : decode cX11_pick0 4 = .ok (.bipush 8, 2) := by decide +kernel
theorem dX11_pick0_6 : decode cX11_pick0 6 = .ok (.iaload, 1) := by decide +kernel
theorem dX11_pick0_7 : decode cX11_pick0 7 = .ok (.iconst (-1), 1) := by decide +kernel
theorem dX11_pick0_8 : decode cX11_pick0 8 = .ok (.if_icmp .eq 5, 3) := by decide +kernel
theorem dX11_pick0_11 : decode cX11_pick0 11 = .ok (.iconst 3, 1) := by decide +kernel
theorem dX11_pick0_12 : decode cX11_pick0 12 = .ok (.ireturn, 1) := by decide +kernel
theorem dX11_pick0_13 : decode cX11_pick0 13 = .ok (.iload_n 1, 1) := by decide +kernel
theorem dX11_pick0_14 : decode cX11_pick0 14 = .ok (.iconst (-1), 1) := by decide +kernel
theorem dX11_pick0_15 : decode cX11_pick0 15 = .ok (.if_icmp .ne 10, 3) := by decide +kernel
theorem dX11_pick0_18 : decode cX11_pick0 18 = .ok (.aload_n 0, 1) := by decide +kernel
theorem dX11_pick0_19 : decode cX11_pick0 19 = .ok (.invokevirtual 134, 3) := by decide +kernel
theorem dX11_pick0_22 : decode cX11_pick0 22 = .ok (.goto 4, 3) := by decide +kernel
theorem dX11_pick0_25 : decode cX11_pick0 25 = .ok (.iload_n 1, 1) := by decide +kernel
theorem dX11_pick0_26 : decode cX11_pick0 26 = .ok (.istore_n 2, 1) := by decide +kernel
theorem dX11_pick0_27 : decode cX11_pick0 27 = .ok (.iload_n 2, 1) := by decide +kernel
theorem dX11_pick0_28 : decode cX11_pick0 28 = .ok (.iconst (-1), 1) := by decide +kernel
theorem dX11_pick0_29 : decode cX11_pick0 29 = .ok (.if_icmp .eq 13, 3) := by decide +kernel
theorem dX11_pick0_32 : decode cX11_pick0 32 = .ok (.aload_n 0, 1) := by decide +kernel
theorem dX11_pick0_33 : decode cX11_pick0 33 = .ok (.iload_n 2, 1) := by decide +kernel
theorem dX11_pick0_34 : decode cX11_pick0 34 = .ok (.iconst 0, 1) := by decide +kernel
theorem dX11_pick0_35 : decode cX11_pick0 35 = .ok (.invokevirtual 53, 3) := by decide +kernel
theorem dX11_pick0_38 : decode cX11_pick0 38 = .ok (.iconst 2, 1) := by decide +kernel
theorem dX11_pick0_39 : decode cX11_pick0 39 = .ok (.if_icmp .eq 5, 3) := by decide +kernel
theorem dX11_pick0_42 : decode cX11_pick0 42 = .ok (.iconst 4, 1) := by decide +kernel
theorem dX11_pick0_43 : decode cX11_pick0 43 = .ok (.ireturn, 1) := by decide +kernel
theorem dX11_pick0_44 : decode cX11_pick0 44 = .ok (.aload_n 0, 1) := by decide +kernel
theorem dX11_pick0_45 : decode cX11_pick0 45 = .ok (.getfield 7, 3) := by decide +kernel
theorem dX11_pick0_48 : decode cX11_pick0 48 = .ok (.bipush 8, 2) := by decide +kernel
theorem dX11_pick0_50 : decode cX11_pick0 50 = .ok (.iload_n 2, 1) := by decide +kernel
theorem dX11_pick0_51 : decode cX11_pick0 51 = .ok (.iastore, 1) := by decide +kernel
theorem dX11_pick0_52 : decode cX11_pick0 52 = .ok (.aload_n 0, 1) := by decide +kernel
theorem dX11_pick0_53 : decode cX11_pick0 53 = .ok (.getfield 7, 3) := by decide +kernel
theorem dX11_pick0_56 : decode cX11_pick0 56 = .ok (.bipush 10, 2) := by decide +kernel
theorem dX11_pick0_58 : decode cX11_pick0 58 = .ok (.iconst 0, 1) := by decide +kernel
theorem dX11_pick0_59 : decode cX11_pick0 59 = .ok (.iastore, 1) := by decide +kernel
theorem dX11_pick0_60 : decode cX11_pick0 60 = .ok (.aload_n 0, 1) := by decide +kernel
theorem dX11_pick0_61 : decode cX11_pick0 61 = .ok (.getfield 7, 3) := by decide +kernel
theorem dX11_pick0_64 : decode cX11_pick0 64 = .ok (.bipush 9, 2) := by decide +kernel
theorem dX11_pick0_66 : decode cX11_pick0 66 = .ok (.iconst 0, 1) := by decide +kernel
theorem dX11_pick0_67 : decode cX11_pick0 67 = .ok (.iastore, 1) := by decide +kernel
theorem dX11_pick0_68 : decode cX11_pick0 68 = .ok (.iconst 0, 1) := by decide +kernel
theorem dX11_pick0_69 : decode cX11_pick0 69 = .ok (.istore_n 3, 1) := by decide +kernel
theorem dX11_pick0_70 : decode cX11_pick0 70 = .ok (.iload_n 3, 1) := by decide +kernel
theorem dX11_pick0_71 : decode cX11_pick0 71 = .ok (.aload_n 0, 1) := by decide +kernel
theorem dX11_pick0_72 : decode cX11_pick0 72 = .ok (.iload_n 2, 1) := by decide +kernel
theorem dX11_pick0_73 : decode cX11_pick0 73 = .ok (.iconst 1, 1) := by decide +kernel
theorem dX11_pick0_74 : decode cX11_pick0 74 = .ok (.invokevirtual 53, 3) := by decide +kernel
theorem dX11_pick0_77 : decode cX11_pick0 77 = .ok (.if_icmp .ge 48, 3) := by decide +kernel
theorem dX11_pick0_80 : decode cX11_pick0 80 = .ok (.aload_n 0, 1) := by decide +kernel
theorem dX11_pick0_81 : decode cX11_pick0 81 = .ok (.iload_n 2, 1) := by decide +kernel
theorem dX11_pick0_82 : decode cX11_pick0 82 = .ok (.iload_n 3, 1) := by decide +kernel
theorem dX11_pick0_83 : decode cX11_pick0 83 = .ok (.invokevirtual 88, 3) := by decide +kernel
theorem dX11_pick0_86 : decode cX11_pick0 86 = .ok (.ifCond .ne 6, 3) := by decide +kernel
theorem dX11_pick0_89 : decode cX11_pick0 89 = .ok (.goto 30, 3) := by decide +kernel
theorem dX11_pick0_92 : decode cX11_pick0 92 = .ok (.aload_n 0, 1) := by decide +kernel
theorem dX11_pick0_93 : decode cX11_pick0 93 = .ok (.getfield 7, 3) := by decide +kernel
theorem dX11_pick0_96 : decode cX11_pick0 96 = .ok (.bipush 16, 2) := by decide +kernel
theorem dX11_pick0_98 : decode cX11_pick0 98 = .ok (.aload_n 0, 1) := by decide +kernel
theorem dX11_pick0_99 : decode cX11_pick0 99 = .ok (.getfield 7, 3) := by decide +kernel
theorem dX11_pick0_102 : decode cX11_pick0 102 = .ok (.bipush 9, 2) := by decide +kernel
theorem dX11_pick0_104 : decode cX11_pick0 104 = .ok (.iaload, 1) := by decide +kernel
theorem dX11_pick0_105 : decode cX11_pick0 105 = .ok (.iadd, 1) := by decide +kernel
theorem dX11_pick0_106 : decode cX11_pick0 106 = .ok (.iload_n 3, 1) := by decide +kernel
theorem dX11_pick0_107 : decode cX11_pick0 107 = .ok (.iastore, 1) := by decide +kernel
theorem dX11_pick0_108 : decode cX11_pick0 108 = .ok (.aload_n 0, 1) := by decide +kernel
theorem dX11_pick0_109 : decode cX11_pick0 109 = .ok (.getfield 7, 3) := by decide +kernel
theorem dX11_pick0_112 : decode cX11_pick0 112 = .ok (.bipush 9, 2) := by decide +kernel
theorem dX11_pick0_114 : decode cX11_pick0 114 = .ok (.dup2, 1) := by decide +kernel
theorem dX11_pick0_115 : decode cX11_pick0 115 = .ok (.iaload, 1) := by decide +kernel
theorem dX11_pick0_116 : decode cX11_pick0 116 = .ok (.iconst 1, 1) := by decide +kernel
theorem dX11_pick0_117 : decode cX11_pick0 117 = .ok (.iadd, 1) := by decide +kernel
theorem dX11_pick0_118 : decode cX11_pick0 118 = .ok (.iastore, 1) := by decide +kernel
theorem dX11_pick0_119 : decode cX11_pick0 119 = .ok (.iinc 3 1, 3) := by decide +kernel
theorem dX11_pick0_122 : decode cX11_pick0 122 = .ok (.goto (-52), 3) := by decide +kernel
theorem dX11_pick0_125 : decode cX11_pick0 125 = .ok (.iconst 0, 1) := by decide +kernel
theorem dX11_pick0_126 : decode cX11_pick0 126 = .ok (.ireturn, 1) := by decide +kernel
theorem dX11_left_0 : decode cX11_left 0 = .ok (.aload_n 0, 1) := by decide +kernel
theorem dX11_left_1 : decode cX11_left 1 = .ok (.getfield 7, 3) := by decide +kernel
theorem dX11_left_4 : decode cX11_left 4 = .ok (.bipush 9, 2) := by decide +kernel
theorem dX11_left_6 : decode cX11_left 6 = .ok (.iaload, 1) := by decide +kernel
theorem dX11_left_7 : decode cX11_left 7 = .ok (.aload_n 0, 1) := by decide +kernel
theorem dX11_left_8 : decode cX11_left 8 = .ok (.getfield 7, 3) := by decide +kernel
theorem dX11_left_11 : decode cX11_left 11 = .ok (.bipush 10, 2) := by decide +kernel
theorem dX11_left_13 : decode cX11_left 13 = .ok (.iaload, 1) := by decide +kernel
theorem dX11_left_14 : decode cX11_left 14 = .ok (.isub, 1) := by decide +kernel
theorem dX11_left_15 : decode cX11_left 15 = .ok (.ireturn, 1) := by decide +kernel
theorem dX11_oneNoted_0 : decode cX11_oneNoted 0 = .ok (.aload_n 0, 1) := by decide +kernel
theorem dX11_oneNoted_1 : decode cX11_oneNoted 1 = .ok (.getfield 7, 3) := by decide +kernel
theorem dX11_oneNoted_4 : decode cX11_oneNoted 4 = .ok (.bipush 8, 2) := by decide +kernel
theorem dX11_oneNoted_6 : decode cX11_oneNoted 6 = .ok (.iaload, 1) := by decide +kernel
theorem dX11_oneNoted_7 : decode cX11_oneNoted 7 = .ok (.istore_n 1, 1) := by decide +kernel
theorem dX11_oneNoted_8 : decode cX11_oneNoted 8 = .ok (.aload_n 0, 1) := by decide +kernel
theorem dX11_oneNoted_9 : decode cX11_oneNoted 9 = .ok (.getfield 7, 3) := by decide +kernel
theorem dX11_oneNoted_12 : decode cX11_oneNoted 12 = .ok (.bipush 16, 2) := by decide +kernel
theorem dX11_oneNoted_14 : decode cX11_oneNoted 14 = .ok (.aload_n 0, 1) := by decide +kernel
theorem dX11_oneNoted_15 : decode cX11_oneNoted 15 = .ok (.getfield 7, 3) := by decide +kernel
theorem dX11_oneNoted_18 : decode cX11_oneNoted 18 = .ok (.bipush 10, 2) := by decide +kernel
theorem dX11_oneNoted_20 : decode cX11_oneNoted 20 = .ok (.iaload, 1) := by decide +kernel
theorem dX11_oneNoted_21 : decode cX11_oneNoted 21 = .ok (.iadd, 1) := by decide +kernel
theorem dX11_oneNoted_22 : decode cX11_oneNoted 22 = .ok (.iaload, 1) := by decide +kernel
theorem dX11_oneNoted_23 : decode cX11_oneNoted 23 = .ok (.istore_n 2, 1) := by decide +kernel
theorem dX11_oneNoted_24 : decode cX11_oneNoted 24 = .ok (.aload_n 0, 1) := by decide +kernel
theorem dX11_oneNoted_25 : decode cX11_oneNoted 25 = .ok (.iload_n 1, 1) := by decide +kernel
theorem dX11_oneNoted_26 : decode cX11_oneNoted 26 = .ok (.iload_n 2, 1) := by decide +kernel
theorem dX11_oneNoted_27 : decode cX11_oneNoted 27 = .ok (.invokevirtual 88, 3) := by decide +kernel
theorem dX11_oneNoted_30 : decode cX11_oneNoted 30 = .ok (.ifCond .ne 27, 3) := by decide +kernel
theorem dX11_oneNoted_33 : decode cX11_oneNoted 33 = .ok (.aload_n 0, 1) := by decide +kernel
theorem dX11_oneNoted_34 : decode cX11_oneNoted 34 = .ok (.getfield 7, 3) := by decide +kernel
theorem dX11_oneNoted_37 : decode cX11_oneNoted 37 = .ok (.bipush 12, 2) := by decide +kernel
theorem dX11_oneNoted_39 : decode cX11_oneNoted 39 = .ok (.dup2, 1) := by decide +kernel
theorem dX11_oneNoted_40 : decode cX11_oneNoted 40 = .ok (.iaload, 1) := by decide +kernel
theorem dX11_oneNoted_41 : decode cX11_oneNoted 41 = .ok (.iconst 1, 1) := by decide +kernel
theorem dX11_oneNoted_42 : decode cX11_oneNoted 42 = .ok (.iadd, 1) := by decide +kernel
theorem dX11_oneNoted_43 : decode cX11_oneNoted 43 = .ok (.iastore, 1) := by decide +kernel
theorem dX11_oneNoted_44 : decode cX11_oneNoted 44 = .ok (.aload_n 0, 1) := by decide +kernel
theorem dX11_oneNoted_45 : decode cX11_oneNoted 45 = .ok (.getfield 7, 3) := by decide +kernel
theorem dX11_oneNoted_48 : decode cX11_oneNoted 48 = .ok (.bipush 10, 2) := by decide +kernel
theorem dX11_oneNoted_50 : decode cX11_oneNoted 50 = .ok (.dup2, 1) := by decide +kernel
theorem dX11_oneNoted_51 : decode cX11_oneNoted 51 = .ok (.iaload, 1) := by decide +kernel
theorem dX11_oneNoted_52 : decode cX11_oneNoted 52 = .ok (.iconst 1, 1) := by decide +kernel
theorem dX11_oneNoted_53 : decode cX11_oneNoted 53 = .ok (.iadd, 1) := by decide +kernel
theorem dX11_oneNoted_54 : decode cX11_oneNoted 54 = .ok (.iastore, 1) := by decide +kernel
theorem dX11_oneNoted_55 : decode cX11_oneNoted 55 = .ok (.iconst 0, 1) := by decide +kernel
theorem dX11_oneNoted_56 : decode cX11_oneNoted 56 = .ok (.ireturn, 1) := by decide +kernel
theorem dX11_oneNoted_57 : decode cX11_oneNoted 57 = .ok (.aload_n 0, 1) := by decide +kernel
theorem dX11_oneNoted_58 : decode cX11_oneNoted 58 = .ok (.iload_n 1, 1) := by decide +kernel
theorem dX11_oneNoted_59 : decode cX11_oneNoted 59 = .ok (.iload_n 2, 1) := by decide +kernel
theorem dX11_oneNoted_60 : decode cX11_oneNoted 60 = .ok (.iconst 1, 1) := by decide +kernel
theorem dX11_oneNoted_61 : decode cX11_oneNoted 61 = .ok (.invokevirtual 77, 3) := by decide +kernel
theorem dX11_oneNoted_64 : decode cX11_oneNoted 64 = .ok (.istore_n 3, 1) := by decide +kernel
theorem dX11_oneNoted_65 : decode cX11_oneNoted 65 = .ok (.aload_n 0, 1) := by decide +kernel
theorem dX11_oneNoted_66 : decode cX11_oneNoted 66 = .ok (.iload_n 3, 1) := by decide +kernel
theorem dX11_oneNoted_67 : decode cX11_oneNoted 67 = .ok (.invokestatic 91, 3) := by decide +kernel
theorem dX11_oneNoted_70 : decode cX11_oneNoted 70 = .ok (.invokevirtual 124, 3) := by decide +kernel
theorem dX11_oneNoted_73 : decode cX11_oneNoted 73 = .ok (.ifCond .ne 5, 3) := by decide +kernel
theorem dX11_oneNoted_76 : decode cX11_oneNoted 76 = .ok (.iconst (-1), 1) := by decide +kernel
theorem dX11_oneNoted_77 : decode cX11_oneNoted 77 = .ok (.ireturn, 1) := by decide +kernel
theorem dX11_oneNoted_78 : decode cX11_oneNoted 78 = .ok (.aload_n 0, 1) := by decide +kernel
theorem dX11_oneNoted_79 : decode cX11_oneNoted 79 = .ok (.aload_n 0, 1) := by decide +kernel
theorem dX11_oneNoted_80 : decode cX11_oneNoted 80 = .ok (.iload_n 1, 1) := by decide +kernel
theorem dX11_oneNoted_81 : decode cX11_oneNoted 81 = .ok (.iload_n 2, 1) := by decide +kernel
theorem dX11_oneNoted_82 : decode cX11_oneNoted 82 = .ok (.iconst 0, 1) := by decide +kernel
theorem dX11_oneNoted_83 : decode cX11_oneNoted 83 = .ok (.invokevirtual 77, 3) := by decide +kernel
theorem dX11_oneNoted_86 : decode cX11_oneNoted 86 = .ok (.iload_n 3, 1) := by decide +kernel
theorem dX11_oneNoted_87 : decode cX11_oneNoted 87 = .ok (.aload_n 0, 1) := by decide +kernel
theorem dX11_oneNoted_88 : decode cX11_oneNoted 88 = .ok (.iload_n 1, 1) := by decide +kernel
theorem dX11_oneNoted_89 : decode cX11_oneNoted 89 = .ok (.iload_n 2, 1) := by decide +kernel
theorem dX11_oneNoted_90 : decode cX11_oneNoted 90 = .ok (.iconst 2, 1) := by decide +kernel
theorem dX11_oneNoted_91 : decode cX11_oneNoted 91 = .ok (.invokevirtual 77, 3) := by decide +kernel
theorem dX11_oneNoted_94 : decode cX11_oneNoted 94 = .ok (.invokevirtual 127, 3) := by decide +kernel
theorem dX11_oneNoted_97 : decode cX11_oneNoted 97 = .ok (.aload_n 0, 1) := by decide +kernel
theorem dX11_oneNoted_98 : decode cX11_oneNoted 98 = .ok (.getfield 7, 3) := by decide +kernel
theorem dX11_oneNoted_101 : decode cX11_oneNoted 101 = .ok (.bipush 11, 2) := by decide +kernel
theorem dX11_oneNoted_103 : decode cX11_oneNoted 103 = .ok (.dup2, 1) := by decide +kernel
theorem dX11_oneNoted_104 : decode cX11_oneNoted 104 = .ok (.iaload, 1) := by decide +kernel
theorem dX11_oneNoted_105 : decode cX11_oneNoted 105 = .ok (.iconst 1, 1) := by decide +kernel
theorem dX11_oneNoted_106 : decode cX11_oneNoted 106 = .ok (.iadd, 1) := by decide +kernel
theorem dX11_oneNoted_107 : decode cX11_oneNoted 107 = .ok (.iastore, 1) := by decide +kernel
theorem dX11_oneNoted_108 : decode cX11_oneNoted 108 = .ok (.aload_n 0, 1) := by decide +kernel
theorem dX11_oneNoted_109 : decode cX11_oneNoted 109 = .ok (.getfield 7, 3) := by decide +kernel
theorem dX11_oneNoted_112 : decode cX11_oneNoted 112 = .ok (.bipush 10, 2) := by decide +kernel
theorem dX11_oneNoted_114 : decode cX11_oneNoted 114 = .ok (.dup2, 1) := by decide +kernel
theorem dX11_oneNoted_115 : decode cX11_oneNoted 115 = .ok (.iaload, 1) := by decide +kernel
theorem dX11_oneNoted_116 : decode cX11_oneNoted 116 = .ok (.iconst 1, 1) := by decide +kernel
theorem dX11_oneNoted_117 : decode cX11_oneNoted 117 = .ok (.iadd, 1) := by decide +kernel
theorem dX11_oneNoted_118 : decode cX11_oneNoted 118 = .ok (.iastore, 1) := by decide +kernel
theorem dX11_oneNoted_119 : decode cX11_oneNoted 119 = .ok (.iconst 1, 1) := by decide +kernel
theorem dX11_oneNoted_120 : decode cX11_oneNoted 120 = .ok (.ireturn, 1) := by decide +kernel
theorem dX11_ends_0 : decode cX11_ends 0 = .ok (.aload_n 0, 1) := by decide +kernel
theorem dX11_ends_1 : decode cX11_ends 1 = .ok (.getfield 7, 3) := by decide +kernel
theorem dX11_ends_4 : decode cX11_ends 4 = .ok (.bipush 8, 2) := by decide +kernel
theorem dX11_ends_6 : decode cX11_ends 6 = .ok (.iaload, 1) := by decide +kernel
theorem dX11_ends_7 : decode cX11_ends 7 = .ok (.istore_n 1, 1) := by decide +kernel
theorem dX11_ends_8 : decode cX11_ends 8 = .ok (.aload_n 0, 1) := by decide +kernel
theorem dX11_ends_9 : decode cX11_ends 9 = .ok (.invokevirtual 118, 3) := by decide +kernel
theorem dX11_ends_12 : decode cX11_ends 12 = .ok (.aload_n 0, 1) := by decide +kernel
theorem dX11_ends_13 : decode cX11_ends 13 = .ok (.getfield 7, 3) := by decide +kernel
theorem dX11_ends_16 : decode cX11_ends 16 = .ok (.bipush 66, 2) := by decide +kernel
theorem dX11_ends_18 : decode cX11_ends 18 = .ok (.iconst 3, 1) := by decide +kernel
theorem dX11_ends_19 : decode cX11_ends 19 = .ok (.iload_n 1, 1) := by decide +kernel
theorem dX11_ends_20 : decode cX11_ends 20 = .ok (.imul, 1) := by decide +kernel
theorem dX11_ends_21 : decode cX11_ends 21 = .ok (.iadd, 1) := by decide +kernel
theorem dX11_ends_22 : decode cX11_ends 22 = .ok (.iconst 0, 1) := by decide +kernel
theorem dX11_ends_23 : decode cX11_ends 23 = .ok (.iadd, 1) := by decide +kernel
theorem dX11_ends_24 : decode cX11_ends 24 = .ok (.iconst 0, 1) := by decide +kernel
theorem dX11_ends_25 : decode cX11_ends 25 = .ok (.iastore, 1) := by decide +kernel
theorem dX11_ends_26 : decode cX11_ends 26 = .ok (.aload_n 0, 1) := by decide +kernel
theorem dX11_ends_27 : decode cX11_ends 27 = .ok (.getfield 7, 3) := by decide +kernel
theorem dX11_ends_30 : decode cX11_ends 30 = .ok (.bipush 66, 2) := by decide +kernel
theorem dX11_ends_32 : decode cX11_ends 32 = .ok (.iconst 3, 1) := by decide +kernel
theorem dX11_ends_33 : decode cX11_ends 33 = .ok (.iload_n 1, 1) := by decide +kernel
theorem dX11_ends_34 : decode cX11_ends 34 = .ok (.imul, 1) := by decide +kernel
theorem dX11_ends_35 : decode cX11_ends 35 = .ok (.iadd, 1) := by decide +kernel
theorem dX11_ends_36 : decode cX11_ends 36 = .ok (.iconst 1, 1) := by decide +kernel
theorem dX11_ends_37 : decode cX11_ends 37 = .ok (.iadd, 1) := by decide +kernel
theorem dX11_ends_38 : decode cX11_ends 38 = .ok (.iconst 0, 1) := by decide +kernel
theorem dX11_ends_39 : decode cX11_ends 39 = .ok (.iastore, 1) := by decide +kernel
theorem dX11_ends_40 : decode cX11_ends 40 = .ok (.aload_n 0, 1) := by decide +kernel
theorem dX11_ends_41 : decode cX11_ends 41 = .ok (.getfield 7, 3) := by decide +kernel
theorem dX11_ends_44 : decode cX11_ends 44 = .ok (.bipush 66, 2) := by decide +kernel
theorem dX11_ends_46 : decode cX11_ends 46 = .ok (.iconst 3, 1) := by decide +kernel
theorem dX11_ends_47 : decode cX11_ends 47 = .ok (.iload_n 1, 1) := by decide +kernel
theorem dX11_ends_48 : decode cX11_ends 48 = .ok (.imul, 1) := by decide +kernel
theorem dX11_ends_49 : decode cX11_ends 49 = .ok (.iadd, 1) := by decide +kernel
theorem dX11_ends_50 : decode cX11_ends 50 = .ok (.iconst 2, 1) := by decide +kernel
theorem dX11_ends_51 : decode cX11_ends 51 = .ok (.iadd, 1) := by decide +kernel
theorem dX11_ends_52 : decode cX11_ends 52 = .ok (.iconst 0, 1) := by decide +kernel
theorem dX11_ends_53 : decode cX11_ends 53 = .ok (.iastore, 1) := by decide +kernel
theorem dX11_ends_54 : decode cX11_ends 54 = .ok (.aload_n 0, 1) := by decide +kernel
theorem dX11_ends_55 : decode cX11_ends 55 = .ok (.iconst 2, 1) := by decide +kernel
theorem dX11_ends_56 : decode cX11_ends 56 = .ok (.iload_n 1, 1) := by decide +kernel
theorem dX11_ends_57 : decode cX11_ends 57 = .ok (.invokevirtual 94, 3) := by decide +kernel
theorem dX11_ends_60 : decode cX11_ends 60 = .ok (.aload_n 0, 1) := by decide +kernel
theorem dX11_ends_61 : decode cX11_ends 61 = .ok (.getfield 7, 3) := by decide +kernel
theorem dX11_ends_64 : decode cX11_ends 64 = .ok (.bipush 8, 2) := by decide +kernel
theorem dX11_ends_66 : decode cX11_ends 66 = .ok (.iconst (-1), 1) := by decide +kernel
theorem dX11_ends_67 : decode cX11_ends 67 = .ok (.iastore, 1) := by decide +kernel
theorem dX11_ends_68 : decode cX11_ends 68 = .ok (.aload_n 0, 1) := by decide +kernel
theorem dX11_ends_69 : decode cX11_ends 69 = .ok (.getfield 7, 3) := by decide +kernel
theorem dX11_ends_72 : decode cX11_ends 72 = .ok (.bipush 9, 2) := by decide +kernel
theorem dX11_ends_74 : decode cX11_ends 74 = .ok (.iconst 0, 1) := by decide +kernel
theorem dX11_ends_75 : decode cX11_ends 75 = .ok (.iastore, 1) := by decide +kernel
theorem dX11_ends_76 : decode cX11_ends 76 = .ok (.aload_n 0, 1) := by decide +kernel
theorem dX11_ends_77 : decode cX11_ends 77 = .ok (.getfield 7, 3) := by decide +kernel
theorem dX11_ends_80 : decode cX11_ends 80 = .ok (.bipush 10, 2) := by decide +kernel
theorem dX11_ends_82 : decode cX11_ends 82 = .ok (.iconst 0, 1) := by decide +kernel
theorem dX11_ends_83 : decode cX11_ends 83 = .ok (.iastore, 1) := by decide +kernel
theorem dX11_ends_84 : decode cX11_ends 84 = .ok (.return_, 1) := by decide +kernel
theorem dX11_step0_0 : decode cX11_step0 0 = .ok (.aload_n 0, 1) := by decide +kernel
theorem dX11_step0_1 : decode cX11_step0 1 = .ok (.iconst 0, 1) := by decide +kernel
theorem dX11_step0_2 : decode cX11_step0 2 = .ok (.putfield 137, 3) := by decide +kernel
theorem dX11_step0_5 : decode cX11_step0 5 = .ok (.aload_n 0, 1) := by decide +kernel
theorem dX11_step0_6 : decode cX11_step0 6 = .ok (.getfield 7, 3) := by decide +kernel
theorem dX11_step0_9 : decode cX11_step0 9 = .ok (.bipush 8, 2) := by decide +kernel
theorem dX11_step0_11 : decode cX11_step0 11 = .ok (.iaload, 1) := by decide +kernel
theorem dX11_step0_12 : decode cX11_step0 12 = .ok (.iconst (-1), 1) := by decide +kernel
theorem dX11_step0_13 : decode cX11_step0 13 = .ok (.if_icmp .ne 5, 3) := by decide +kernel
theorem dX11_step0_16 : decode cX11_step0 16 = .ok (.iconst 5, 1) := by decide +kernel
theorem dX11_step0_17 : decode cX11_step0 17 = .ok (.ireturn, 1) := by decide +kernel
theorem dX11_step0_18 : decode cX11_step0 18 = .ok (.iconst 0, 1) := by decide +kernel
theorem dX11_step0_19 : decode cX11_step0 19 = .ok (.istore_n 2, 1) := by decide +kernel
theorem dX11_step0_20 : decode cX11_step0 20 = .ok (.iload_n 2, 1) := by decide +kernel
theorem dX11_step0_21 : decode cX11_step0 21 = .ok (.iload_n 1, 1) := by decide +kernel
theorem dX11_step0_22 : decode cX11_step0 22 = .ok (.if_icmp .ge 75, 3) := by decide +kernel
theorem dX11_step0_25 : decode cX11_step0 25 = .ok (.aload_n 0, 1) := by decide +kernel
theorem dX11_step0_26 : decode cX11_step0 26 = .ok (.getfield 7, 3) := by decide +kernel
theorem dX11_step0_29 : decode cX11_step0 29 = .ok (.bipush 8, 2) := by decide +kernel
theorem dX11_step0_31 : decode cX11_step0 31 = .ok (.iaload, 1) := by decide +kernel
theorem dX11_step0_32 : decode cX11_step0 32 = .ok (.iconst (-1), 1) := by decide +kernel
theorem dX11_step0_33 : decode cX11_step0 33 = .ok (.if_icmp .eq 64, 3) := by decide +kernel
theorem dX11_step0_36 : decode cX11_step0 36 = .ok (.aload_n 0, 1) := by decide +kernel
theorem dX11_step0_37 : decode cX11_step0 37 = .ok (.invokevirtual 140, 3) := by decide +kernel
theorem dX11_step0_40 : decode cX11_step0 40 = .ok (.ifCond .le 10, 3) := by decide +kernel
theorem dX11_step0_43 : decode cX11_step0 43 = .ok (.aload_n 0, 1) := by decide +kernel
theorem dX11_step0_44 : decode cX11_step0 44 = .ok (.invokevirtual 143, 3) := by decide +kernel
theorem dX11_step0_47 : decode cX11_step0 47 = .ok (.goto 4, 3) := by decide +kernel
theorem dX11_step0_50 : decode cX11_step0 50 = .ok (.iconst 0, 1) := by decide +kernel
theorem dX11_step0_51 : decode cX11_step0 51 = .ok (.istore_n 3, 1) := by decide +kernel
theorem dX11_step0_52 : decode cX11_step0 52 = .ok (.iload_n 3, 1) := by decide +kernel
theorem dX11_step0_53 : decode cX11_step0 53 = .ok (.iconst (-1), 1) := by decide +kernel
theorem dX11_step0_54 : decode cX11_step0 54 = .ok (.if_icmp .ne 16, 3) := by decide +kernel
theorem dX11_step0_57 : decode cX11_step0 57 = .ok (.aload_n 0, 1) := by decide +kernel
theorem dX11_step0_58 : decode cX11_step0 58 = .ok (.getfield 137, 3) := by decide +kernel
theorem dX11_step0_61 : decode cX11_step0 61 = .ok (.ifCond .ne 7, 3) := by decide +kernel
theorem dX11_step0_64 : decode cX11_step0 64 = .ok (.iconst 1, 1) := by decide +kernel
theorem dX11_step0_65 : decode cX11_step0 65 = .ok (.goto 4, 3) := by decide +kernel
theorem dX11_step0_68 : decode cX11_step0 68 = .ok (.iconst 0, 1) := by decide +kernel
theorem dX11_step0_69 : decode cX11_step0 69 = .ok (.ireturn, 1) := by decide +kernel
theorem dX11_step0_70 : decode cX11_step0 70 = .ok (.aload_n 0, 1) := by decide +kernel
theorem dX11_step0_71 : decode cX11_step0 71 = .ok (.dup, 1) := by decide +kernel
theorem dX11_step0_72 : decode cX11_step0 72 = .ok (.getfield 137, 3) := by decide +kernel
theorem dX11_step0_75 : decode cX11_step0 75 = .ok (.iload_n 3, 1) := by decide +kernel
theorem dX11_step0_76 : decode cX11_step0 76 = .ok (.iadd, 1) := by decide +kernel
theorem dX11_step0_77 : decode cX11_step0 77 = .ok (.putfield 137, 3) := by decide +kernel
theorem dX11_step0_80 : decode cX11_step0 80 = .ok (.aload_n 0, 1) := by decide +kernel
theorem dX11_step0_81 : decode cX11_step0 81 = .ok (.invokevirtual 140, 3) := by decide +kernel
theorem dX11_step0_84 : decode cX11_step0 84 = .ok (.ifCond .ne 7, 3) := by decide +kernel
theorem dX11_step0_87 : decode cX11_step0 87 = .ok (.aload_n 0, 1) := by decide +kernel
theorem dX11_step0_88 : decode cX11_step0 88 = .ok (.invokevirtual 146, 3) := by decide +kernel
theorem dX11_step0_91 : decode cX11_step0 91 = .ok (.iinc 2 1, 3) := by decide +kernel
theorem dX11_step0_94 : decode cX11_step0 94 = .ok (.goto (-74), 3) := by decide +kernel
theorem dX11_step0_97 : decode cX11_step0 97 = .ok (.iconst 0, 1) := by decide +kernel
theorem dX11_step0_98 : decode cX11_step0 98 = .ok (.ireturn, 1) := by decide +kernel
theorem dX11_quit0_0 : decode cX11_quit0 0 = .ok (.aload_n 0, 1) := by decide +kernel
theorem dX11_quit0_1 : decode cX11_quit0 1 = .ok (.getfield 7, 3) := by decide +kernel
theorem dX11_quit0_4 : decode cX11_quit0 4 = .ok (.bipush 8, 2) := by decide +kernel
theorem dX11_quit0_6 : decode cX11_quit0 6 = .ok (.iaload, 1) := by decide +kernel
theorem dX11_quit0_7 : decode cX11_quit0 7 = .ok (.iconst (-1), 1) := by decide +kernel
theorem dX11_quit0_8 : decode cX11_quit0 8 = .ok (.if_icmp .ne 5, 3) := by decide +kernel
theorem dX11_quit0_11 : decode cX11_quit0 11 = .ok (.iconst 5, 1) := by decide +kernel
theorem dX11_quit0_12 : decode cX11_quit0 12 = .ok (.ireturn, 1) := by decide +kernel
theorem dX11_quit0_13 : decode cX11_quit0 13 = .ok (.aload_n 0, 1) := by decide +kernel
theorem dX11_quit0_14 : decode cX11_quit0 14 = .ok (.getfield 7, 3) := by decide +kernel
theorem dX11_quit0_17 : decode cX11_quit0 17 = .ok (.bipush 8, 2) := by decide +kernel
theorem dX11_quit0_19 : decode cX11_quit0 19 = .ok (.iconst (-1), 1) := by decide +kernel
theorem dX11_quit0_20 : decode cX11_quit0 20 = .ok (.iastore, 1) := by decide +kernel
theorem dX11_quit0_21 : decode cX11_quit0 21 = .ok (.aload_n 0, 1) := by decide +kernel
theorem dX11_quit0_22 : decode cX11_quit0 22 = .ok (.getfield 7, 3) := by decide +kernel
theorem dX11_quit0_25 : decode cX11_quit0 25 = .ok (.bipush 9, 2) := by decide +kernel
theorem dX11_quit0_27 : decode cX11_quit0 27 = .ok (.iconst 0, 1) := by decide +kernel
theorem dX11_quit0_28 : decode cX11_quit0 28 = .ok (.iastore, 1) := by decide +kernel
theorem dX11_quit0_29 : decode cX11_quit0 29 = .ok (.aload_n 0, 1) := by decide +kernel
theorem dX11_quit0_30 : decode cX11_quit0 30 = .ok (.getfield 7, 3) := by decide +kernel
theorem dX11_quit0_33 : decode cX11_quit0 33 = .ok (.bipush 10, 2) := by decide +kernel
theorem dX11_quit0_35 : decode cX11_quit0 35 = .ok (.iconst 0, 1) := by decide +kernel
theorem dX11_quit0_36 : decode cX11_quit0 36 = .ok (.iastore, 1) := by decide +kernel
theorem dX11_quit0_37 : decode cX11_quit0 37 = .ok (.iconst 0, 1) := by decide +kernel
theorem dX11_quit0_38 : decode cX11_quit0 38 = .ok (.ireturn, 1) := by decide +kernel
theorem dX11_putsAside_0 : decode cX11_putsAside 0 = .ok (.iconst 0, 1) := by decide +kernel
theorem dX11_putsAside_1 : decode cX11_putsAside 1 = .ok (.istore_n 1, 1) := by decide +kernel
theorem dX11_putsAside_2 : decode cX11_putsAside 2 = .ok (.iload_n 1, 1) := by decide +kernel
theorem dX11_putsAside_3 : decode cX11_putsAside 3 = .ok (.sipush 5497, 3) := by decide +kernel
theorem dX11_putsAside_6 : decode cX11_putsAside 6 = .ok (.if_icmp .ge 21, 3) := by decide +kernel
theorem dX11_putsAside_9 : decode cX11_putsAside 9 = .ok (.aload_n 0, 1) := by decide +kernel
theorem dX11_putsAside_10 : decode cX11_putsAside 10 = .ok (.getfield 13, 3) := by decide +kernel
theorem dX11_putsAside_13 : decode cX11_putsAside 13 = .ok (.iload_n 1, 1) := by decide +kernel
theorem dX11_putsAside_14 : decode cX11_putsAside 14 = .ok (.aload_n 0, 1) := by decide +kernel
theorem dX11_putsAside_15 : decode cX11_putsAside 15 = .ok (.getfield 7, 3) := by decide +kernel
theorem dX11_putsAside_18 : decode cX11_putsAside 18 = .ok (.iload_n 1, 1) := by decide +kernel
theorem dX11_putsAside_19 : decode cX11_putsAside 19 = .ok (.iaload, 1) := by decide +kernel
theorem dX11_putsAside_20 : decode cX11_putsAside 20 = .ok (.iastore, 1) := by decide +kernel
theorem dX11_putsAside_21 : decode cX11_putsAside 21 = .ok (.iinc 1 1, 3) := by decide +kernel
theorem dX11_putsAside_24 : decode cX11_putsAside 24 = .ok (.goto (-22), 3) := by decide +kernel
theorem dX11_putsAside_27 : decode cX11_putsAside 27 = .ok (.return_, 1) := by decide +kernel
theorem dX11_putsBack_0 : decode cX11_putsBack 0 = .ok (.iconst 0, 1) := by decide +kernel
theorem dX11_putsBack_1 : decode cX11_putsBack 1 = .ok (.istore_n 1, 1) := by decide +kernel
theorem dX11_putsBack_2 : decode cX11_putsBack 2 = .ok (.iload_n 1, 1) := by decide +kernel
theorem dX11_putsBack_3 : decode cX11_putsBack 3 = .ok (.sipush 5497, 3) := by decide +kernel
theorem dX11_putsBack_6 : decode cX11_putsBack 6 = .ok (.if_icmp .ge 21, 3) := by decide +kernel
theorem dX11_putsBack_9 : decode cX11_putsBack 9 = .ok (.aload_n 0, 1) := by decide +kernel
theorem dX11_putsBack_10 : decode cX11_putsBack 10 = .ok (.getfield 7, 3) := by decide +kernel
theorem dX11_putsBack_13 : decode cX11_putsBack 13 = .ok (.iload_n 1, 1) := by decide +kernel
theorem dX11_putsBack_14 : decode cX11_putsBack 14 = .ok (.aload_n 0, 1) := by decide +kernel
theorem dX11_putsBack_15 : decode cX11_putsBack 15 = .ok (.getfield 13, 3) := by decide +kernel
theorem dX11_putsBack_18 : decode cX11_putsBack 18 = .ok (.iload_n 1, 1) := by decide +kernel
theorem dX11_putsBack_19 : decode cX11_putsBack 19 = .ok (.iaload, 1) := by decide +kernel
theorem dX11_putsBack_20 : decode cX11_putsBack 20 = .ok (.iastore, 1) := by decide +kernel
theorem dX11_putsBack_21 : decode cX11_putsBack 21 = .ok (.iinc 1 1, 3) := by decide +kernel
theorem dX11_putsBack_24 : decode cX11_putsBack 24 = .ok (.goto (-22), 3) := by decide +kernel
theorem dX11_putsBack_27 : decode cX11_putsBack 27 = .ok (.return_, 1) := by decide +kernel
theorem dX11_remembers_0 : decode cX11_remembers 0 = .ok (.aload_n 0, 1) := by decide +kernel
theorem dX11_remembers_1 : decode cX11_remembers 1 = .ok (.getfield 149, 3) := by decide +kernel
theorem dX11_remembers_4 : decode cX11_remembers 4 = .ok (.bipush 8, 2) := by decide +kernel
theorem dX11_remembers_6 : decode cX11_remembers 6 = .ok (.if_icmp .ne 43, 3) := by decide +kernel
theorem dX11_remembers_9 : decode cX11_remembers 9 = .ok (.iconst 0, 1) := by decide +kernel
theorem dX11_remembers_10 : decode cX11_remembers 10 = .ok (.istore_n 1, 1) := by decide +kernel
theorem dX11_remembers_11 : decode cX11_remembers 11 = .ok (.iload_n 1, 1) := by decide +kernel
theorem dX11_remembers_12 : decode cX11_remembers 12 = .ok (.ldc 152, 2) := by decide +kernel
theorem dX11_remembers_14 : decode cX11_remembers 14 = .ok (.if_icmp .ge 25, 3) := by decide +kernel
theorem dX11_remembers_17 : decode cX11_remembers 17 = .ok (.aload_n 0, 1) := by decide +kernel
theorem dX11_remembers_18 : decode cX11_remembers 18 = .ok (.getfield 23, 3) := by decide +kernel
theorem dX11_remembers_21 : decode cX11_remembers 21 = .ok (.iload_n 1, 1) := by decide +kernel
theorem dX11_remembers_22 : decode cX11_remembers 22 = .ok (.aload_n 0, 1) := by decide +kernel
theorem dX11_remembers_23 : decode cX11_remembers 23 = .ok (.getfield 23, 3) := by decide +kernel
theorem dX11_remembers_26 : decode cX11_remembers 26 = .ok (.iload_n 1, 1) := by decide +kernel
theorem dX11_remembers_27 : decode cX11_remembers 27 = .ok (.sipush 5497, 3) := by decide +kernel
theorem dX11_remembers_30 : decode cX11_remembers 30 = .ok (.iadd, 1) := by decide +kernel
theorem dX11_remembers_31 : decode cX11_remembers 31 = .ok (.iaload, 1) := by decide +kernel
theorem dX11_remembers_32 : decode cX11_remembers 32 = .ok (.iastore, 1) := by decide +kernel
theorem dX11_remembers_33 : decode cX11_remembers 33 = .ok (.iinc 1 1, 3) := by decide +kernel
theorem dX11_remembers_36 : decode cX11_remembers 36 = .ok (.goto (-25), 3) := by decide +kernel
theorem dX11_remembers_39 : decode cX11_remembers 39 = .ok (.aload_n 0, 1) := by decide +kernel
theorem dX11_remembers_40 : decode cX11_remembers 40 = .ok (.dup, 1) := by decide +kernel
theorem dX11_remembers_41 : decode cX11_remembers 41 = .ok (.getfield 149, 3) := by decide +kernel
theorem dX11_remembers_44 : decode cX11_remembers 44 = .ok (.iconst 1, 1) := by decide +kernel
theorem dX11_remembers_45 : decode cX11_remembers 45 = .ok (.isub, 1) := by decide +kernel
theorem dX11_remembers_46 : decode cX11_remembers 46 = .ok (.putfield 149, 3) := by decide +kernel
theorem dX11_remembers_49 : decode cX11_remembers 49 = .ok (.iconst 0, 1) := by decide +kernel
theorem dX11_remembers_50 : decode cX11_remembers 50 = .ok (.istore_n 1, 1) := by decide +kernel
theorem dX11_remembers_51 : decode cX11_remembers 51 = .ok (.iload_n 1, 1) := by decide +kernel
theorem dX11_remembers_52 : decode cX11_remembers 52 = .ok (.sipush 5497, 3) := by decide +kernel
theorem dX11_remembers_55 : decode cX11_remembers 55 = .ok (.if_icmp .ge 30, 3) := by decide +kernel
theorem dX11_remembers_58 : decode cX11_remembers 58 = .ok (.aload_n 0, 1) := by decide +kernel
theorem dX11_remembers_59 : decode cX11_remembers 59 = .ok (.getfield 23, 3) := by decide +kernel
theorem dX11_remembers_62 : decode cX11_remembers 62 = .ok (.sipush 5497, 3) := by decide +kernel
theorem dX11_remembers_65 : decode cX11_remembers 65 = .ok (.aload_n 0, 1) := by decide +kernel
theorem dX11_remembers_66 : decode cX11_remembers 66 = .ok (.getfield 149, 3) := by decide +kernel
theorem dX11_remembers_69 : decode cX11_remembers 69 = .ok (.imul, 1) := by decide +kernel
theorem dX11_remembers_70 : decode cX11_remembers 70 = .ok (.iload_n 1, 1) := by decide +kernel
theorem dX11_remembers_71 : decode cX11_remembers 71 = .ok (.iadd, 1) := by decide +kernel
theorem dX11_remembers_72 : decode cX11_remembers 72 = .ok (.aload_n 0, 1) := by decide +kernel
theorem dX11_remembers_73 : decode cX11_remembers 73 = .ok (.getfield 13, 3) := by decide +kernel
theorem dX11_remembers_76 : decode cX11_remembers 76 = .ok (.iload_n 1, 1) := by decide +kernel
theorem dX11_remembers_77 : decode cX11_remembers 77 = .ok (.iaload, 1) := by decide +kernel
theorem dX11_remembers_78 : decode cX11_remembers 78 = .ok (.iastore, 1) := by decide +kernel
theorem dX11_remembers_79 : decode cX11_remembers 79 = .ok (.iinc 1 1, 3) := by decide +kernel
theorem dX11_remembers_82 : decode cX11_remembers 82 = .ok (.goto (-31), 3) := by decide +kernel
theorem dX11_remembers_85 : decode cX11_remembers 85 = .ok (.aload_n 0, 1) := by decide +kernel
theorem dX11_remembers_86 : decode cX11_remembers 86 = .ok (.dup, 1) := by decide +kernel
theorem dX11_remembers_87 : decode cX11_remembers 87 = .ok (.getfield 149, 3) := by decide +kernel
theorem dX11_remembers_90 : decode cX11_remembers 90 = .ok (.iconst 1, 1) := by decide +kernel
theorem dX11_remembers_91 : decode cX11_remembers 91 = .ok (.iadd, 1) := by decide +kernel
theorem dX11_remembers_92 : decode cX11_remembers 92 = .ok (.putfield 149, 3) := by decide +kernel
theorem dX11_remembers_95 : decode cX11_remembers 95 = .ok (.return_, 1) := by decide +kernel
theorem dX11_isDone_0 : decode cX11_isDone 0 = .ok (.aload_n 0, 1) := by decide +kernel
theorem dX11_isDone_1 : decode cX11_isDone 1 = .ok (.iload_n 1, 1) := by decide +kernel
theorem dX11_isDone_2 : decode cX11_isDone 2 = .ok (.putfield 153, 3) := by decide +kernel
theorem dX11_isDone_5 : decode cX11_isDone 5 = .ok (.aload_n 0, 1) := by decide +kernel
theorem dX11_isDone_6 : decode cX11_isDone 6 = .ok (.iload_n 1, 1) := by decide +kernel
theorem dX11_isDone_7 : decode cX11_isDone 7 = .ok (.ifCond .le 7, 3) := by decide +kernel
theorem dX11_isDone_10 : decode cX11_isDone 10 = .ok (.iload_n 2, 1) := by decide +kernel
theorem dX11_isDone_11 : decode cX11_isDone 11 = .ok (.goto 4, 3) := by decide +kernel
theorem dX11_isDone_14 : decode cX11_isDone 14 = .ok (.iconst 0, 1) := by decide +kernel
theorem dX11_isDone_15 : decode cX11_isDone 15 = .ok (.putfield 43, 3) := by decide +kernel
theorem dX11_isDone_18 : decode cX11_isDone 18 = .ok (.iload_n 1, 1) := by decide +kernel
theorem dX11_isDone_19 : decode cX11_isDone 19 = .ok (.ifCond .ne 10, 3) := by decide +kernel
theorem dX11_isDone_22 : decode cX11_isDone 22 = .ok (.aload_n 0, 1) := by decide +kernel
theorem dX11_isDone_23 : decode cX11_isDone 23 = .ok (.invokevirtual 156, 3) := by decide +kernel
theorem dX11_isDone_26 : decode cX11_isDone 26 = .ok (.goto 7, 3) := by decide +kernel
theorem dX11_isDone_29 : decode cX11_isDone 29 = .ok (.aload_n 0, 1) := by decide +kernel
theorem dX11_isDone_30 : decode cX11_isDone 30 = .ok (.invokevirtual 159, 3) := by decide +kernel
theorem dX11_isDone_33 : decode cX11_isDone 33 = .ok (.iload_n 1, 1) := by decide +kernel
theorem dX11_isDone_34 : decode cX11_isDone 34 = .ok (.ifCond .ne 7, 3) := by decide +kernel
theorem dX11_isDone_37 : decode cX11_isDone 37 = .ok (.iconst 1, 1) := by decide +kernel
theorem dX11_isDone_38 : decode cX11_isDone 38 = .ok (.goto 4, 3) := by decide +kernel
theorem dX11_isDone_41 : decode cX11_isDone 41 = .ok (.iconst 0, 1) := by decide +kernel
theorem dX11_isDone_42 : decode cX11_isDone 42 = .ok (.ireturn, 1) := by decide +kernel
theorem dX11_feed_0 : decode cX11_feed 0 = .ok (.aload_n 0, 1) := by decide +kernel
theorem dX11_feed_1 : decode cX11_feed 1 = .ok (.iconst 0, 1) := by decide +kernel
theorem dX11_feed_2 : decode cX11_feed 2 = .ok (.putfield 43, 3) := by decide +kernel
theorem dX11_feed_5 : decode cX11_feed 5 = .ok (.aload_n 0, 1) := by decide +kernel
theorem dX11_feed_6 : decode cX11_feed 6 = .ok (.getfield 162, 3) := by decide +kernel
theorem dX11_feed_9 : decode cX11_feed 9 = .ok (.bipush 20, 2) := by decide +kernel
theorem dX11_feed_11 : decode cX11_feed 11 = .ok (.iadd, 1) := by decide +kernel
theorem dX11_feed_12 : decode cX11_feed 12 = .ok (.sipush 400, 3) := by decide +kernel
theorem dX11_feed_15 : decode cX11_feed 15 = .ok (.if_icmp .le 5, 3) := by decide +kernel
theorem dX11_feed_18 : decode cX11_feed 18 = .ok (.iconst (-1), 1) := by decide +kernel
theorem dX11_feed_19 : decode cX11_feed 19 = .ok (.ireturn, 1) := by decide +kernel
theorem dX11_feed_20 : decode cX11_feed 20 = .ok (.iconst 0, 1) := by decide +kernel
theorem dX11_feed_21 : decode cX11_feed 21 = .ok (.istore 6, 2) := by decide +kernel
theorem dX11_feed_23 : decode cX11_feed 23 = .ok (.iload 6, 2) := by decide +kernel
theorem dX11_feed_25 : decode cX11_feed 25 = .ok (.bipush 20, 2) := by decide +kernel
theorem dX11_feed_27 : decode cX11_feed 27 = .ok (.if_icmp .ge 93, 3) := by decide +kernel
theorem dX11_feed_30 : decode cX11_feed 30 = .ok (.iload 6, 2) := by decide +kernel
theorem dX11_feed_32 : decode cX11_feed 32 = .ok (.iconst 4, 1) := by decide +kernel
theorem dX11_feed_33 : decode cX11_feed 33 = .ok (.if_icmp .ge 7, 3) := by decide +kernel
theorem dX11_feed_36 : decode cX11_feed 36 = .ok (.iload_n 1, 1) := by decide +kernel
theorem dX11_feed_37 : decode cX11_feed 37 = .ok (.goto 39, 3) := by decide +kernel
theorem dX11_feed_40 : decode cX11_feed 40 = .ok (.iload 6, 2) := by decide +kernel
theorem dX11_feed_42 : decode cX11_feed 42 = .ok (.bipush 8, 2) := by decide +kernel
theorem dX11_feed_44 : decode cX11_feed 44 = .ok (.if_icmp .ge 7, 3) := by decide +kernel
theorem dX11_feed_47 : decode cX11_feed 47 = .ok (.iload_n 2, 1) := by decide +kernel
theorem dX11_feed_48 : decode cX11_feed 48 = .ok (.goto 28, 3) := by decide +kernel
theorem dX11_feed_51 : decode cX11_feed 51 = .ok (.iload 6, 2) := by decide +kernel
theorem dX11_feed_53 : decode cX11_feed 53 = .ok (.bipush 12, 2) := by decide +kernel
theorem dX11_feed_55 : decode cX11_feed 55 = .ok (.if_icmp .ge 7, 3) := by decide +kernel
theorem dX11_feed_58 : decode cX11_feed 58 = .ok (.iload_n 3, 1) := by decide +kernel
theorem dX11_feed_59 : decode cX11_feed 59 = .ok (.goto 17, 3) := by decide +kernel
theorem dX11_feed_62 : decode cX11_feed 62 = .ok (.iload 6, 2) := by decide +kernel
theorem dX11_feed_64 : decode cX11_feed 64 = .ok (.bipush 16, 2) := by decide +kernel
theorem dX11_feed_66 : decode cX11_feed 66 = .ok (.if_icmp .ge 8, 3) := by decide +kernel
theorem dX11_feed_69 : decode cX11_feed 69 = .ok (.iload 4, 2) := by decide +kernel
theorem dX11_feed_71 : decode cX11_feed 71 = .ok (.goto 5, 3) := by decide +kernel
theorem dX11_feed_74 : decode cX11_feed 74 = .ok (.iload 5, 2) := by decide +kernel
theorem dX11_feed_76 : decode cX11_feed 76 = .ok (.istore 7, 2) := by decide +kernel
theorem dX11_feed_78 : decode cX11_feed 78 = .ok (.aload_n 0, 1) := by decide +kernel
theorem dX11_feed_79 : decode cX11_feed 79 = .ok (.getfield 26, 3) := by decide +kernel
theorem dX11_feed_82 : decode cX11_feed 82 = .ok (.aload_n 0, 1) := by decide +kernel
theorem dX11_feed_83 : decode cX11_feed 83 = .ok (.getfield 162, 3) := by decide +kernel
theorem dX11_feed_86 : decode cX11_feed 86 = .ok (.iload 7, 2) := by decide +kernel
theorem dX11_feed_88 : decode cX11_feed 88 = .ok (.bipush 24, 2) := by decide +kernel
theorem dX11_feed_90 : decode cX11_feed 90 = .ok (.bipush 8, 2) := by decide +kernel
theorem dX11_feed_92 : decode cX11_feed 92 = .ok (.iload 6, 2) := by decide +kernel
theorem dX11_feed_94 : decode cX11_feed 94 = .ok (.iconst 4, 1) := by decide +kernel
theorem dX11_feed_95 : decode cX11_feed 95 = .ok (.irem, 1) := by decide +kernel
theorem dX11_feed_96 : decode cX11_feed 96 = .ok (.imul, 1) := by decide +kernel
theorem dX11_feed_97 : decode cX11_feed 97 = .ok (.isub, 1) := by decide +kernel
theorem dX11_feed_98 : decode cX11_feed 98 = .ok (.iushr, 1) := by decide +kernel
theorem dX11_feed_99 : decode cX11_feed 99 = .ok (.sipush 255, 3) := by decide +kernel
theorem dX11_feed_102 : decode cX11_feed 102 = .ok (.iand, 1) := by decide +kernel
theorem dX11_feed_103 : decode cX11_feed 103 = .ok (.iastore, 1) := by decide +kernel
theorem dX11_feed_104 : decode cX11_feed 104 = .ok (.aload_n 0, 1) := by decide +kernel
theorem dX11_feed_105 : decode cX11_feed 105 = .ok (.dup, 1) := by decide +kernel
theorem dX11_feed_106 : decode cX11_feed 106 = .ok (.getfield 162, 3) := by decide +kernel
theorem dX11_feed_109 : decode cX11_feed 109 = .ok (.iconst 1, 1) := by decide +kernel
theorem dX11_feed_110 : decode cX11_feed 110 = .ok (.iadd, 1) := by decide +kernel
theorem dX11_feed_111 : decode cX11_feed 111 = .ok (.putfield 162, 3) := by decide +kernel
theorem dX11_feed_114 : decode cX11_feed 114 = .ok (.iinc 6 1, 3) := by decide +kernel
theorem dX11_feed_117 : decode cX11_feed 117 = .ok (.goto (-94), 3) := by decide +kernel
theorem dX11_feed_120 : decode cX11_feed 120 = .ok (.aload_n 0, 1) := by decide +kernel
theorem dX11_feed_121 : decode cX11_feed 121 = .ok (.getfield 162, 3) := by decide +kernel
theorem dX11_feed_124 : decode cX11_feed 124 = .ok (.ireturn, 1) := by decide +kernel
theorem dX11_end_0 : decode cX11_end 0 = .ok (.aload_n 0, 1) := by decide +kernel
theorem dX11_end_1 : decode cX11_end 1 = .ok (.iconst 0, 1) := by decide +kernel
theorem dX11_end_2 : decode cX11_end 2 = .ok (.putfield 43, 3) := by decide +kernel
theorem dX11_end_5 : decode cX11_end 5 = .ok (.iload_n 1, 1) := by decide +kernel
theorem dX11_end_6 : decode cX11_end 6 = .ok (.iconst 0, 1) := by decide +kernel
theorem dX11_end_7 : decode cX11_end 7 = .ok (.aload_n 0, 1) := by decide +kernel
theorem dX11_end_8 : decode cX11_end 8 = .ok (.getfield 162, 3) := by decide +kernel
theorem dX11_end_11 : decode cX11_end 11 = .ok (.invokestatic 165, 3) := by decide +kernel
theorem dX11_end_14 : decode cX11_end 14 = .ok (.ifCond .ne 5, 3) := by decide +kernel
theorem dX11_end_17 : decode cX11_end 17 = .ok (.iconst 0, 1) := by decide +kernel
theorem dX11_end_18 : decode cX11_end 18 = .ok (.ireturn, 1) := by decide +kernel
theorem dX11_end_19 : decode cX11_end 19 = .ok (.aload_n 0, 1) := by decide +kernel
theorem dX11_end_20 : decode cX11_end 20 = .ok (.iload_n 1, 1) := by decide +kernel
theorem dX11_end_21 : decode cX11_end 21 = .ok (.putfield 162, 3) := by decide +kernel
theorem dX11_end_24 : decode cX11_end 24 = .ok (.iconst 1, 1) := by decide +kernel
theorem dX11_end_25 : decode cX11_end 25 = .ok (.ireturn, 1) := by decide +kernel
theorem dX11_here_0 : decode cX11_here 0 = .ok (.aload_n 0, 1) := by decide +kernel
theorem dX11_here_1 : decode cX11_here 1 = .ok (.getfield 169, 3) := by decide +kernel
theorem dX11_here_4 : decode cX11_here 4 = .ok (.aload_n 0, 1) := by decide +kernel
theorem dX11_here_5 : decode cX11_here 5 = .ok (.getfield 172, 3) := by decide +kernel
theorem dX11_here_8 : decode cX11_here 8 = .ok (.if_icmp .ge 30, 3) := by decide +kernel
theorem dX11_here_11 : decode cX11_here 11 = .ok (.aload_n 0, 1) := by decide +kernel
theorem dX11_here_12 : decode cX11_here 12 = .ok (.getfield 26, 3) := by decide +kernel
theorem dX11_here_15 : decode cX11_here 15 = .ok (.aload_n 0, 1) := by decide +kernel
theorem dX11_here_16 : decode cX11_here 16 = .ok (.getfield 169, 3) := by decide +kernel
theorem dX11_here_19 : decode cX11_here 19 = .ok (.iaload, 1) := by decide +kernel
theorem dX11_here_20 : decode cX11_here 20 = .ok (.bipush 32, 2) := by decide +kernel
theorem dX11_here_22 : decode cX11_here 22 = .ok (.if_icmp .ne 16, 3) := by decide +kernel
theorem dX11_here_25 : decode cX11_here 25 = .ok (.aload_n 0, 1) := by decide +kernel
theorem dX11_here_26 : decode cX11_here 26 = .ok (.dup, 1) := by decide +kernel
theorem dX11_here_27 : decode cX11_here 27 = .ok (.getfield 169, 3) := by decide +kernel
theorem dX11_here_30 : decode cX11_here 30 = .ok (.iconst 1, 1) := by decide +kernel
theorem dX11_here_31 : decode cX11_here 31 = .ok (.iadd, 1) := by decide +kernel
theorem dX11_here_32 : decode cX11_here 32 = .ok (.putfield 169, 3) := by decide +kernel
theorem dX11_here_35 : decode cX11_here 35 = .ok (.goto (-35), 3) := by decide +kernel
theorem dX11_here_38 : decode cX11_here 38 = .ok (.aload_n 0, 1) := by decide +kernel
theorem dX11_here_39 : decode cX11_here 39 = .ok (.getfield 169, 3) := by decide +kernel
theorem dX11_here_42 : decode cX11_here 42 = .ok (.ireturn, 1) := by decide +kernel
theorem dX11_wrong_0 : decode cX11_wrong 0 = .ok (.aload_n 0, 1) := by decide +kernel
theorem dX11_wrong_1 : decode cX11_wrong 1 = .ok (.getfield 29, 3) := by decide +kernel
theorem dX11_wrong_4 : decode cX11_wrong 4 = .ok (.iconst (-1), 1) := by decide +kernel
theorem dX11_wrong_5 : decode cX11_wrong 5 = .ok (.if_icmp .ne 8, 3) := by decide +kernel
theorem dX11_wrong_8 : decode cX11_wrong 8 = .ok (.aload_n 0, 1) := by decide +kernel
theorem dX11_wrong_9 : decode cX11_wrong 9 = .ok (.iload_n 1, 1) := by decide +kernel
theorem dX11_wrong_10 : decode cX11_wrong 10 = .ok (.putfield 29, 3) := by decide +kernel
theorem dX11_wrong_13 : decode cX11_wrong 13 = .ok (.return_, 1) := by decide +kernel
theorem dX11_has_0 : decode cX11_has 0 = .ok (.aload_n 0, 1) := by decide +kernel
theorem dX11_has_1 : decode cX11_has 1 = .ok (.invokevirtual 175, 3) := by decide +kernel
theorem dX11_has_4 : decode cX11_has 4 = .ok (.istore_n 2, 1) := by decide +kernel
theorem dX11_has_5 : decode cX11_has 5 = .ok (.iload_n 2, 1) := by decide +kernel
theorem dX11_has_6 : decode cX11_has 6 = .ok (.aload_n 0, 1) := by decide +kernel
theorem dX11_has_7 : decode cX11_has 7 = .ok (.getfield 172, 3) := by decide +kernel
theorem dX11_has_10 : decode cX11_has 10 = .ok (.if_icmp .ge 25, 3) := by decide +kernel
theorem dX11_has_13 : decode cX11_has 13 = .ok (.aload_n 0, 1) := by decide +kernel
theorem dX11_has_14 : decode cX11_has 14 = .ok (.getfield 26, 3) := by decide +kernel
theorem dX11_has_17 : decode cX11_has 17 = .ok (.iload_n 2, 1) := by decide +kernel
theorem dX11_has_18 : decode cX11_has 18 = .ok (.iaload, 1) := by decide +kernel
theorem dX11_has_19 : decode cX11_has 19 = .ok (.bipush 97, 2) := by decide +kernel
theorem dX11_has_21 : decode cX11_has 21 = .ok (.bipush 122, 2) := by decide +kernel
theorem dX11_has_23 : decode cX11_has 23 = .ok (.invokestatic 165, 3) := by decide +kernel
theorem dX11_has_26 : decode cX11_has 26 = .ok (.ifCond .eq 9, 3) := by decide +kernel
theorem dX11_has_29 : decode cX11_has 29 = .ok (.iinc 2 1, 3) := by decide +kernel
theorem dX11_has_32 : decode cX11_has 32 = .ok (.goto (-27), 3) := by decide +kernel
theorem dX11_has_35 : decode cX11_has 35 = .ok (.aload_n 0, 1) := by decide +kernel
theorem dX11_has_36 : decode cX11_has 36 = .ok (.getfield 29, 3) := by decide +kernel
theorem dX11_has_39 : decode cX11_has 39 = .ok (.iconst (-1), 1) := by decide +kernel
theorem dX11_has_40 : decode cX11_has 40 = .ok (.if_icmp .ne 16, 3) := by decide +kernel
theorem dX11_has_43 : decode cX11_has 43 = .ok (.iload_n 2, 1) := by decide +kernel
theorem dX11_has_44 : decode cX11_has 44 = .ok (.aload_n 0, 1) := by decide +kernel
theorem dX11_has_45 : decode cX11_has 45 = .ok (.getfield 169, 3) := by decide +kernel
theorem dX11_has_48 : decode cX11_has 48 = .ok (.isub, 1) := by decide +kernel
theorem dX11_has_49 : decode cX11_has 49 = .ok (.aload_n 1, 1) := by decide +kernel
theorem dX11_has_50 : decode cX11_has 50 = .ok (.invokevirtual 178, 3) := by decide +kernel
theorem dX11_has_53 : decode cX11_has 53 = .ok (.if_icmp .eq 5, 3) := by decide +kernel
theorem dX11_has_56 : decode cX11_has 56 = .ok (.iconst 0, 1) := by decide +kernel
theorem dX11_has_57 : decode cX11_has 57 = .ok (.ireturn, 1) := by decide +kernel
theorem dX11_has_58 : decode cX11_has 58 = .ok (.iconst 0, 1) := by decide +kernel
theorem dX11_has_59 : decode cX11_has 59 = .ok (.istore_n 3, 1) := by decide +kernel
theorem dX11_has_60 : decode cX11_has 60 = .ok (.iload_n 3, 1) := by decide +kernel
theorem dX11_has_61 : decode cX11_has 61 = .ok (.aload_n 1, 1) := by decide +kernel
theorem dX11_has_62 : decode cX11_has 62 = .ok (.invokevirtual 178, 3) := by decide +kernel
theorem dX11_has_65 : decode cX11_has 65 = .ok (.if_icmp .ge 30, 3) := by decide +kernel
theorem dX11_has_68 : decode cX11_has 68 = .ok (.aload_n 0, 1) := by decide +kernel
theorem dX11_has_69 : decode cX11_has 69 = .ok (.getfield 26, 3) := by decide +kernel
theorem dX11_has_72 : decode cX11_has 72 = .ok (.aload_n 0, 1) := by decide +kernel
theorem dX11_has_73 : decode cX11_has 73 = .ok (.getfield 169, 3) := by decide +kernel
theorem dX11_has_76 : decode cX11_has 76 = .ok (.iload_n 3, 1) := by decide +kernel
theorem dX11_has_77 : decode cX11_has 77 = .ok (.iadd, 1) := by decide +kernel
theorem dX11_has_78 : decode cX11_has 78 = .ok (.iaload, 1) := by decide +kernel
theorem dX11_has_79 : decode cX11_has 79 = .ok (.aload_n 1, 1) := by decide +kernel
theorem dX11_has_80 : decode cX11_has 80 = .ok (.iload_n 3, 1) := by decide +kernel
theorem dX11_has_81 : decode cX11_has 81 = .ok (.invokevirtual 183, 3) := by decide +kernel
theorem dX11_has_84 : decode cX11_has 84 = .ok (.if_icmp .eq 5, 3) := by decide +kernel
theorem dX11_has_87 : decode cX11_has 87 = .ok (.iconst 0, 1) := by decide +kernel
theorem dX11_has_88 : decode cX11_has 88 = .ok (.ireturn, 1) := by decide +kernel
theorem dX11_has_89 : decode cX11_has 89 = .ok (.iinc 3 1, 3) := by decide +kernel
theorem dX11_has_92 : decode cX11_has 92 = .ok (.goto (-32), 3) := by decide +kernel
theorem dX11_has_95 : decode cX11_has 95 = .ok (.aload_n 0, 1) := by decide +kernel
theorem dX11_has_96 : decode cX11_has 96 = .ok (.iload_n 2, 1) := by decide +kernel
theorem dX11_has_97 : decode cX11_has 97 = .ok (.putfield 169, 3) := by decide +kernel
theorem dX11_has_100 : decode cX11_has 100 = .ok (.iconst 1, 1) := by decide +kernel
theorem dX11_has_101 : decode cX11_has 101 = .ok (.ireturn, 1) := by decide +kernel
theorem dX11_isFigure_0 : decode cX11_isFigure 0 = .ok (.aload_n 0, 1) := by decide +kernel
theorem dX11_isFigure_1 : decode cX11_isFigure 1 = .ok (.invokevirtual 175, 3) := by decide +kernel
theorem dX11_isFigure_4 : decode cX11_isFigure 4 = .ok (.aload_n 0, 1) := by decide +kernel
theorem dX11_isFigure_5 : decode cX11_isFigure 5 = .ok (.getfield 172, 3) := by decide +kernel
theorem dX11_isFigure_8 : decode cX11_isFigure 8 = .ok (.if_icmp .ge 26, 3) := by decide +kernel
theorem dX11_isFigure_11 : decode cX11_isFigure 11 = .ok (.aload_n 0, 1) := by decide +kernel
theorem dX11_isFigure_12 : decode cX11_isFigure 12 = .ok (.getfield 26, 3) := by decide +kernel
theorem dX11_isFigure_15 : decode cX11_isFigure 15 = .ok (.aload_n 0, 1) := by decide +kernel
theorem dX11_isFigure_16 : decode cX11_isFigure 16 = .ok (.getfield 169, 3) := by decide +kernel
theorem dX11_isFigure_19 : decode cX11_isFigure 19 = .ok (.iaload, 1) := by decide +kernel
theorem dX11_isFigure_20 : decode cX11_isFigure 20 = .ok (.bipush 48, 2) := by decide +kernel
theorem dX11_isFigure_22 : decode cX11_isFigure 22 = .ok (.bipush 57, 2) := by decide +kernel
theorem dX11_isFigure_24 : decode cX11_isFigure 24 = .ok (.invokestatic 165, 3) := by decide +kernel
theorem dX11_isFigure_27 : decode cX11_isFigure 27 = .ok (.ifCond .eq 7, 3) := by decide +kernel
theorem dX11_isFigure_30 : decode cX11_isFigure 30 = .ok (.iconst 1, 1) := by decide +kernel
theorem dX11_isFigure_31 : decode cX11_isFigure 31 = .ok (.goto 4, 3) := by decide +kernel
theorem dX11_isFigure_34 : decode cX11_isFigure 34 = .ok (.iconst 0, 1) := by decide +kernel
theorem dX11_isFigure_35 : decode cX11_isFigure 35 = .ok (.ireturn, 1) := by decide +kernel
theorem dX11_number_0 : decode cX11_number 0 = .ok (.aload_n 0, 1) := by decide +kernel
theorem dX11_number_1 : decode cX11_number 1 = .ok (.getfield 29, 3) := by decide +kernel
theorem dX11_number_4 : decode cX11_number 4 = .ok (.iconst (-1), 1) := by decide +kernel
theorem dX11_number_5 : decode cX11_number 5 = .ok (.if_icmp .eq 5, 3) := by decide +kernel
theorem dX11_number_8 : decode cX11_number 8 = .ok (.iconst 0, 1) := by decide +kernel
theorem dX11_number_9 : decode cX11_number 9 = .ok (.ireturn, 1) := by decide +kernel
theorem dX11_number_10 : decode cX11_number 10 = .ok (.aload_n 0, 1) := by decide +kernel
theorem dX11_number_11 : decode cX11_number 11 = .ok (.invokevirtual 175, 3) := by decide +kernel
theorem dX11_number_14 : decode cX11_number 14 = .ok (.istore_n 3, 1) := by decide +kernel
theorem dX11_number_15 : decode cX11_number 15 = .ok (.iconst 0, 1) := by decide +kernel
theorem dX11_number_16 : decode cX11_number 16 = .ok (.istore 4, 2) := by decide +kernel
theorem dX11_number_18 : decode cX11_number 18 = .ok (.aload_n 0, 1) := by decide +kernel
theorem dX11_number_19 : decode cX11_number 19 = .ok (.getfield 169, 3) := by decide +kernel
theorem dX11_number_22 : decode cX11_number 22 = .ok (.aload_n 0, 1) := by decide +kernel
theorem dX11_number_23 : decode cX11_number 23 = .ok (.getfield 172, 3) := by decide +kernel
theorem dX11_number_26 : decode cX11_number 26 = .ok (.if_icmp .ge 65, 3) := by decide +kernel
theorem dX11_number_29 : decode cX11_number 29 = .ok (.aload_n 0, 1) := by decide +kernel
theorem dX11_number_30 : decode cX11_number 30 = .ok (.getfield 26, 3) := by decide +kernel
theorem dX11_number_33 : decode cX11_number 33 = .ok (.aload_n 0, 1) := by decide +kernel
theorem dX11_number_34 : decode cX11_number 34 = .ok (.getfield 169, 3) := by decide +kernel
theorem dX11_number_37 : decode cX11_number 37 = .ok (.iaload, 1) := by decide +kernel
theorem dX11_number_38 : decode cX11_number 38 = .ok (.bipush 48, 2) := by decide +kernel
theorem dX11_number_40 : decode cX11_number 40 = .ok (.bipush 57, 2) := by decide +kernel
theorem dX11_number_42 : decode cX11_number 42 = .ok (.invokestatic 165, 3) := by decide +kernel
theorem dX11_number_45 : decode cX11_number 45 = .ok (.ifCond .eq 46, 3) := by decide +kernel
theorem dX11_number_48 : decode cX11_number 48 = .ok (.aload_n 0, 1) := by decide +kernel
theorem dX11_number_49 : decode cX11_number 49 = .ok (.getfield 169, 3) := by decide +kernel
theorem dX11_number_52 : decode cX11_number 52 = .ok (.iload_n 3, 1) := by decide +kernel
theorem dX11_number_53 : decode cX11_number 53 = .ok (.isub, 1) := by decide +kernel
theorem dX11_number_54 : decode cX11_number 54 = .ok (.iconst 3, 1) := by decide +kernel
theorem dX11_number_55 : decode cX11_number 55 = .ok (.if_icmp .gt 36, 3) := by decide +kernel
theorem dX11_number_58 : decode cX11_number 58 = .ok (.bipush 10, 2) := by decide +kernel
theorem dX11_number_60 : decode cX11_number 60 = .ok (.iload 4, 2) := by decide +kernel
theorem dX11_number_62 : decode cX11_number 62 = .ok (.imul, 1) := by decide +kernel
theorem dX11_number_63 : decode cX11_number 63 = .ok (.aload_n 0, 1) := by decide +kernel
theorem dX11_number_64 : decode cX11_number 64 = .ok (.getfield 26, 3) := by decide +kernel
theorem dX11_number_67 : decode cX11_number 67 = .ok (.aload_n 0, 1) := by decide +kernel
theorem dX11_number_68 : decode cX11_number 68 = .ok (.getfield 169, 3) := by decide +kernel
theorem dX11_number_71 : decode cX11_number 71 = .ok (.iaload, 1) := by decide +kernel
theorem dX11_number_72 : decode cX11_number 72 = .ok (.iadd, 1) := by decide +kernel
theorem dX11_number_73 : decode cX11_number 73 = .ok (.bipush 48, 2) := by decide +kernel
theorem dX11_number_75 : decode cX11_number 75 = .ok (.isub, 1) := by decide +kernel
theorem dX11_number_76 : decode cX11_number 76 = .ok (.istore 4, 2) := by decide +kernel
theorem dX11_number_78 : decode cX11_number 78 = .ok (.aload_n 0, 1) := by decide +kernel
theorem dX11_number_79 : decode cX11_number 79 = .ok (.dup, 1) := by decide +kernel
theorem dX11_number_80 : decode cX11_number 80 = .ok (.getfield 169, 3) := by decide +kernel
theorem dX11_number_83 : decode cX11_number 83 = .ok (.iconst 1, 1) := by decide +kernel
theorem dX11_number_84 : decode cX11_number 84 = .ok (.iadd, 1) := by decide +kernel
theorem dX11_number_85 : decode cX11_number 85 = .ok (.putfield 169, 3) := by decide +kernel
theorem dX11_number_88 : decode cX11_number 88 = .ok (.goto (-70), 3) := by decide +kernel
theorem dX11_number_91 : decode cX11_number 91 = .ok (.aload_n 0, 1) := by decide +kernel
theorem dX11_number_92 : decode cX11_number 92 = .ok (.getfield 169, 3) := by decide +kernel
theorem dX11_number_95 : decode cX11_number 95 = .ok (.iload_n 3, 1) := by decide +kernel
theorem dX11_number_96 : decode cX11_number 96 = .ok (.if_icmp .eq 25, 3) := by decide +kernel
theorem dX11_number_99 : decode cX11_number 99 = .ok (.aload_n 0, 1) := by decide +kernel
theorem dX11_number_100 : decode cX11_number 100 = .ok (.getfield 169, 3) := by decide +kernel
theorem dX11_number_103 : decode cX11_number 103 = .ok (.iload_n 3, 1) := by decide +kernel
theorem dX11_number_104 : decode cX11_number 104 = .ok (.isub, 1) := by decide +kernel
theorem dX11_number_105 : decode cX11_number 105 = .ok (.iconst 3, 1) := by decide +kernel
theorem dX11_number_106 : decode cX11_number 106 = .ok (.if_icmp .gt 15, 3) := by decide +kernel
theorem dX11_number_109 : decode cX11_number 109 = .ok (.iload 4, 2) := by decide +kernel
theorem dX11_number_111 : decode cX11_number 111 = .ok (.iload_n 1, 1) := by decide +kernel
theorem dX11_number_112 : decode cX11_number 112 = .ok (.if_icmp .lt 9, 3) := by decide +kernel
theorem dX11_number_115 : decode cX11_number 115 = .ok (.iload 4, 2) := by decide +kernel
theorem dX11_number_117 : decode cX11_number 117 = .ok (.iload_n 2, 1) := by decide +kernel
theorem dX11_number_118 : decode cX11_number 118 = .ok (.if_icmp .le 8, 3) := by decide +kernel
theorem dX11_number_121 : decode cX11_number 121 = .ok (.aload_n 0, 1) := by decide +kernel
theorem dX11_number_122 : decode cX11_number 122 = .ok (.iload_n 3, 1) := by decide +kernel
theorem dX11_number_123 : decode cX11_number 123 = .ok (.invokevirtual 187, 3) := by decide +kernel
theorem dX11_number_126 : decode cX11_number 126 = .ok (.iload 4, 2) := by decide +kernel
theorem dX11_number_128 : decode cX11_number 128 = .ok (.ireturn, 1) := by decide +kernel
theorem dX11_storeText_0 : decode cX11_storeText 0 = .ok (.aload_n 0, 1) := by decide +kernel
theorem dX11_storeText_1 : decode cX11_storeText 1 = .ok (.bipush 50, 2) := by decide +kernel
theorem dX11_storeText_3 : decode cX11_storeText 3 = .ok (.sipush 200, 3) := by decide +kernel
theorem dX11_storeText_6 : decode cX11_storeText 6 = .ok (.invokevirtual 190, 3) := by decide +kernel
theorem dX11_storeText_9 : decode cX11_storeText 9 = .ok (.istore_n 1, 1) := by decide +kernel
theorem dX11_storeText_10 : decode cX11_storeText 10 = .ok (.aload_n 0, 1) := by decide +kernel
theorem dX11_storeText_11 : decode cX11_storeText 11 = .ok (.iconst 0, 1) := by decide +kernel
theorem dX11_storeText_12 : decode cX11_storeText 12 = .ok (.bipush 40, 2) := by decide +kernel
theorem dX11_storeText_14 : decode cX11_storeText 14 = .ok (.invokevirtual 190, 3) := by decide +kernel
theorem dX11_storeText_17 : decode cX11_storeText 17 = .ok (.istore_n 2, 1) := by decide +kernel
theorem dX11_storeText_18 : decode cX11_storeText 18 = .ok (.aload_n 0, 1) := by decide +kernel
theorem dX11_storeText_19 : decode cX11_storeText 19 = .ok (.iconst 2, 1) := by decide +kernel
theorem dX11_storeText_20 : decode cX11_storeText 20 = .ok (.bipush 16, 2) := by decide +kernel
theorem dX11_storeText_22 : decode cX11_storeText 22 = .ok (.invokevirtual 190, 3) := by decide +kernel
theorem dX11_storeText_25 : decode cX11_storeText 25 = .ok (.istore_n 3, 1) := by decide +kernel
theorem dX11_storeText_26 : decode cX11_storeText 26 = .ok (.aload_n 0, 1) := by decide +kernel
theorem dX11_storeText_27 : decode cX11_storeText 27 = .ok (.iconst 1, 1) := by decide +kernel
theorem dX11_storeText_28 : decode cX11_storeText 28 = .ok (.iconst 4, 1) := by decide +kernel
theorem dX11_storeText_29 : decode cX11_storeText 29 = .ok (.invokevirtual 190, 3) := by decide +kernel
theorem dX11_storeText_32 : decode cX11_storeText 32 = .ok (.istore 4, 2) := by decide +kernel
theorem dX11_storeText_34 : decode cX11_storeText 34 = .ok (.aload_n 0, 1) := by decide +kernel
theorem dX11_storeText_35 : decode cX11_storeText 35 = .ok (.getfield 29, 3) := by decide +kernel
theorem dX11_storeText_38 : decode cX11_storeText 38 = .ok (.iconst (-1), 1) := by decide +kernel
theorem dX11_storeText_39 : decode cX11_storeText 39 = .ok (.if_icmp .ne 12, 3) := by decide +kernel
theorem dX11_storeText_42 : decode cX11_storeText 42 = .ok (.aload_n 0, 1) := by decide +kernel
theorem dX11_storeText_43 : decode cX11_storeText 43 = .ok (.iload_n 1, 1) := by decide +kernel
theorem dX11_storeText_44 : decode cX11_storeText 44 = .ok (.iload_n 2, 1) := by decide +kernel
theorem dX11_storeText_45 : decode cX11_storeText 45 = .ok (.iload_n 3, 1) := by decide +kernel
theorem dX11_storeText_46 : decode cX11_storeText 46 = .ok (.iload 4, 2) := by decide +kernel
theorem dX11_storeText_48 : decode cX11_storeText 48 = .ok (.invokevirtual 39, 3) := by decide +kernel
theorem dX11_storeText_51 : decode cX11_storeText 51 = .ok (.return_, 1) := by decide +kernel
theorem dX11_putText_0 : decode cX11_putText 0 = .ok (.aload_n 0, 1) := by decide +kernel
theorem dX11_putText_1 : decode cX11_putText 1 = .ok (.iconst 0, 1) := by decide +kernel
theorem dX11_putText_2 : decode cX11_putText 2 = .ok (.bipush 63, 2) := by decide +kernel
theorem dX11_putText_4 : decode cX11_putText 4 = .ok (.invokevirtual 190, 3) := by decide +kernel
theorem dX11_putText_7 : decode cX11_putText 7 = .ok (.istore_n 1, 1) := by decide +kernel
theorem dX11_putText_8 : decode cX11_putText 8 = .ok (.aload_n 0, 1) := by decide +kernel
theorem dX11_putText_9 : decode cX11_putText 9 = .ok (.iconst 1, 1) := by decide +kernel
theorem dX11_putText_10 : decode cX11_putText 10 = .ok (.bipush 40, 2) := by decide +kernel
theorem dX11_putText_12 : decode cX11_putText 12 = .ok (.invokevirtual 190, 3) := by decide +kernel
theorem dX11_putText_15 : decode cX11_putText 15 = .ok (.istore_n 2, 1) := by decide +kernel
theorem dX11_putText_16 : decode cX11_putText 16 = .ok (.aload_n 0, 1) := by decide +kernel
theorem dX11_putText_17 : decode cX11_putText 17 = .ok (.iconst 0, 1) := by decide +kernel
theorem dX11_putText_18 : decode cX11_putText 18 = .ok (.sipush 255, 3) := by decide +kernel
theorem dX11_putText_21 : decode cX11_putText 21 = .ok (.invokevirtual 190, 3) := by decide +kernel
theorem dX11_putText_24 : decode cX11_putText 24 = .ok (.istore_n 3, 1) := by decide +kernel
theorem dX11_putText_25 : decode cX11_putText 25 = .ok (.aload_n 0, 1) := by decide +kernel
theorem dX11_putText_26 : decode cX11_putText 26 = .ok (.getfield 29, 3) := by decide +kernel
theorem dX11_putText_29 : decode cX11_putText 29 = .ok (.iconst (-1), 1) := by decide +kernel
theorem dX11_putText_30 : decode cX11_putText 30 = .ok (.if_icmp .ne 13, 3) := by decide +kernel
theorem dX11_putText_33 : decode cX11_putText 33 = .ok (.aload_n 0, 1) := by decide +kernel
theorem dX11_putText_34 : decode cX11_putText 34 = .ok (.iload_n 1, 1) := by decide +kernel
theorem dX11_putText_35 : decode cX11_putText 35 = .ok (.iload_n 2, 1) := by decide +kernel
theorem dX11_putText_36 : decode cX11_putText 36 = .ok (.iload_n 3, 1) := by decide +kernel
theorem dX11_putText_37 : decode cX11_putText 37 = .ok (.invokevirtual 193, 3) := by decide +kernel
theorem dX11_putText_40 : decode cX11_putText 40 = .ok (.goto 4, 3) := by decide +kernel
theorem dX11_putText_43 : decode cX11_putText 43 = .ok (.iconst 0, 1) := by decide +kernel
theorem dX11_putText_44 : decode cX11_putText 44 = .ok (.ireturn, 1) := by decide +kernel
theorem dX11_pickText_0 : decode cX11_pickText 0 = .ok (.aload_n 0, 1) := by decide +kernel
