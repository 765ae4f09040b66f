theorem dX0_made_0 : decode cX0_made 0 = .ok (.iload_n 0, 1) := by decide +kernel
theorem dX0_made_1 : decode cX0_made 1 = .ok (.i2l, 1) := by decide +kernel
theorem dX0_made_2 : decode cX0_made 2 = .ok (.bipush 12, 2) := by decide +kernel
theorem dX0_made_4 : decode cX0_made 4 = .ok (.lshl, 1) := by decide +kernel
theorem dX0_made_5 : decode cX0_made 5 = .ok (.iload_n 1, 1) := by decide +kernel
theorem dX0_made_6 : decode cX0_made 6 = .ok (.bipush 8, 2) := by decide +kernel
theorem dX0_made_8 : decode cX0_made 8 = .ok (.ishl, 1) := by decide +kernel
theorem dX0_made_9 : decode cX0_made 9 = .ok (.i2l, 1) := by decide +kernel
theorem dX0_made_10 : decode cX0_made 10 = .ok (.lor, 1) := by decide +kernel
theorem dX0_made_11 : decode cX0_made 11 = .ok (.iload_n 2, 1) := by decide +kernel
theorem dX0_made_12 : decode cX0_made 12 = .ok (.i2l, 1) := by decide +kernel
theorem dX0_made_13 : decode cX0_made 13 = .ok (.lor, 1) := by decide +kernel
theorem dX0_made_14 : decode cX0_made 14 = .ok (.lstore 6, 2) := by decide +kernel
theorem dX0_made_16 : decode cX0_made 16 = .ok (.lload 6, 2) := by decide +kernel
theorem dX0_made_18 : decode cX0_made 18 = .ok (.bipush 20, 2) := by decide +kernel
theorem dX0_made_20 : decode cX0_made 20 = .ok (.lshl, 1) := by decide +kernel
theorem dX0_made_21 : decode cX0_made 21 = .ok (.iload_n 3, 1) := by decide +kernel
theorem dX0_made_22 : decode cX0_made 22 = .ok (.bipush 14, 2) := by decide +kernel
theorem dX0_made_24 : decode cX0_made 24 = .ok (.ishl, 1) := by decide +kernel
theorem dX0_made_25 : decode cX0_made 25 = .ok (.iload 4, 2) := by decide +kernel
theorem dX0_made_27 : decode cX0_made 27 = .ok (.bipush 8, 2) := by decide +kernel
theorem dX0_made_29 : decode cX0_made 29 = .ok (.ishl, 1) := by decide +kernel
theorem dX0_made_30 : decode cX0_made 30 = .ok (.ior, 1) := by decide +kernel
theorem dX0_made_31 : decode cX0_made 31 = .ok (.iload 5, 2) := by decide +kernel
theorem dX0_made_33 : decode cX0_made 33 = .ok (.ior, 1) := by decide +kernel
theorem dX0_made_34 : decode cX0_made 34 = .ok (.i2l, 1) := by decide +kernel
theorem dX0_made_35 : decode cX0_made 35 = .ok (.lor, 1) := by decide +kernel
theorem dX0_made_36 : decode cX0_made 36 = .ok (.lreturn, 1) := by decide +kernel
theorem dX0_numberOf_0 : decode cX0_numberOf 0 = .ok (.lload_n 0, 1) := by decide +kernel
theorem dX0_numberOf_1 : decode cX0_numberOf 1 = .ok (.bipush 32, 2) := by decide +kernel
theorem dX0_numberOf_3 : decode cX0_numberOf 3 = .ok (.lushr, 1) := by decide +kernel
theorem dX0_numberOf_4 : decode cX0_numberOf 4 = .ok (.l2i, 1) := by decide +kernel
theorem dX0_numberOf_5 : decode cX0_numberOf 5 = .ok (.ireturn, 1) := by decide +kernel
theorem dX0_segmentOf_0 : decode cX0_segmentOf 0 = .ok (.lload_n 0, 1) := by decide +kernel
theorem dX0_segmentOf_1 : decode cX0_segmentOf 1 = .ok (.bipush 28, 2) := by decide +kernel
theorem dX0_segmentOf_3 : decode cX0_segmentOf 3 = .ok (.lushr, 1) := by decide +kernel
theorem dX0_segmentOf_4 : decode cX0_segmentOf 4 = .ok (.l2i, 1) := by decide +kernel
theorem dX0_segmentOf_5 : decode cX0_segmentOf 5 = .ok (.bipush 15, 2) := by decide +kernel
theorem dX0_segmentOf_7 : decode cX0_segmentOf 7 = .ok (.iand, 1) := by decide +kernel
theorem dX0_segmentOf_8 : decode cX0_segmentOf 8 = .ok (.ireturn, 1) := by decide +kernel
theorem dX0_beginOf_0 : decode cX0_beginOf 0 = .ok (.lload_n 0, 1) := by decide +kernel
theorem dX0_beginOf_1 : decode cX0_beginOf 1 = .ok (.bipush 20, 2) := by decide +kernel
theorem dX0_beginOf_3 : decode cX0_beginOf 3 = .ok (.lushr, 1) := by decide +kernel
theorem dX0_beginOf_4 : decode cX0_beginOf 4 = .ok (.l2i, 1) := by decide +kernel
theorem dX0_beginOf_5 : decode cX0_beginOf 5 = .ok (.sipush 255, 3) := by decide +kernel
theorem dX0_beginOf_8 : decode cX0_beginOf 8 = .ok (.iand, 1) := by decide +kernel
theorem dX0_beginOf_9 : decode cX0_beginOf 9 = .ok (.ireturn, 1) := by decide +kernel
theorem dX0_keyOf_0 : decode cX0_keyOf 0 = .ok (.lload_n 0, 1) := by decide +kernel
theorem dX0_keyOf_1 : decode cX0_keyOf 1 = .ok (.bipush 14, 2) := by decide +kernel
theorem dX0_keyOf_3 : decode cX0_keyOf 3 = .ok (.lushr, 1) := by decide +kernel
theorem dX0_keyOf_4 : decode cX0_keyOf 4 = .ok (.l2i, 1) := by decide +kernel
theorem dX0_keyOf_5 : decode cX0_keyOf 5 = .ok (.bipush 63, 2) := by decide +kernel
theorem dX0_keyOf_7 : decode cX0_keyOf 7 = .ok (.iand, 1) := by decide +kernel
theorem dX0_keyOf_8 : decode cX0_keyOf 8 = .ok (.ireturn, 1) := by decide +kernel
theorem dX0_lengthOf_0 : decode cX0_lengthOf 0 = .ok (.lload_n 0, 1) := by decide +kernel
theorem dX0_lengthOf_1 : decode cX0_lengthOf 1 = .ok (.bipush 8, 2) := by decide +kernel
theorem dX0_lengthOf_3 : decode cX0_lengthOf 3 = .ok (.lushr, 1) := by decide +kernel
theorem dX0_lengthOf_4 : decode cX0_lengthOf 4 = .ok (.l2i, 1) := by decide +kernel
theorem dX0_lengthOf_5 : decode cX0_lengthOf 5 = .ok (.bipush 63, 2) := by decide +kernel
theorem dX0_lengthOf_7 : decode cX0_lengthOf 7 = .ok (.iand, 1) := by decide +kernel
theorem dX0_lengthOf_8 : decode cX0_lengthOf 8 = .ok (.ireturn, 1) := by decide +kernel
theorem dX0_seedOf_0 : decode cX0_seedOf 0 = .ok (.lload_n 0, 1) := by decide +kernel
theorem dX0_seedOf_1 : decode cX0_seedOf 1 = .ok (.l2i, 1) := by decide +kernel
theorem dX0_seedOf_2 : decode cX0_seedOf 2 = .ok (.sipush 255, 3) := by decide +kernel
theorem dX0_seedOf_5 : decode cX0_seedOf 5 = .ok (.iand, 1) := by decide +kernel
theorem dX0_seedOf_6 : decode cX0_seedOf 6 = .ok (.ireturn, 1) := by decide +kernel
theorem dX0_sizeOf_0 : decode cX0_sizeOf 0 = .ok (.iconst 4, 1) := by decide +kernel
theorem dX0_sizeOf_1 : decode cX0_sizeOf 1 = .ok (.lload_n 0, 1) := by decide +kernel
theorem dX0_sizeOf_2 : decode cX0_sizeOf 2 = .ok (.invokestatic 9, 3) := by decide +kernel
theorem dX0_sizeOf_5 : decode cX0_sizeOf 5 = .ok (.iadd, 1) := by decide +kernel
theorem dX0_sizeOf_6 : decode cX0_sizeOf 6 = .ok (.ireturn, 1) := by decide +kernel
theorem dX0_isDrop_0 : decode cX0_isDrop 0 = .ok (.lload_n 0, 1) := by decide +kernel
theorem dX0_isDrop_1 : decode cX0_isDrop 1 = .ok (.ldc2_w 15, 3) := by decide +kernel
theorem dX0_isDrop_4 : decode cX0_isDrop 4 = .ok (.land, 1) := by decide +kernel
theorem dX0_isDrop_5 : decode cX0_isDrop 5 = .ok (.lconst 0, 1) := by decide +kernel
theorem dX0_isDrop_6 : decode cX0_isDrop 6 = .ok (.lcmp, 1) := by decide +kernel
theorem dX0_isDrop_7 : decode cX0_isDrop 7 = .ok (.ifCond .ne 7, 3) := by decide +kernel
theorem dX0_isDrop_10 : decode cX0_isDrop 10 = .ok (.iconst 1, 1) := by decide +kernel
theorem dX0_isDrop_11 : decode cX0_isDrop 11 = .ok (.goto 4, 3) := by decide +kernel
theorem dX0_isDrop_14 : decode cX0_isDrop 14 = .ok (.iconst 0, 1) := by decide +kernel
theorem dX0_isDrop_15 : decode cX0_isDrop 15 = .ok (.ireturn, 1) := by decide +kernel
theorem dX1_init_0 : decode cX1_init 0 = .ok (.aload_n 0, 1) := by decide +kernel
theorem dX1_init_1 : decode cX1_init 1 = .ok (.invokespecial 3, 3) := by decide +kernel
theorem dX1_init_4 : decode cX1_init 4 = .ok (.aload_n 0, 1) := by decide +kernel
theorem dX1_init_5 : decode cX1_init 5 = .ok (.bipush 50, 2) := by decide +kernel
theorem dX1_init_7 : decode cX1_init 7 = .ok (.newarray .long, 2) := by decide +kernel
theorem dX1_init_9 : decode cX1_init 9 = .ok (.putfield 9, 3) := by decide +kernel
theorem dX1_init_12 : decode cX1_init 12 = .ok (.aload_n 0, 1) := by decide +kernel
theorem dX1_init_13 : decode cX1_init 13 = .ok (.iconst (-1), 1) := by decide +kernel
theorem dX1_init_14 : decode cX1_init 14 = .ok (.putfield 15, 3) := by decide +kernel
theorem dX1_init_17 : decode cX1_init 17 = .ok (.return_, 1) := by decide +kernel
theorem dX1_copyFrom_0 : decode cX1_copyFrom 0 = .ok (.aload_n 1, 1) := by decide +kernel
theorem dX1_copyFrom_1 : decode cX1_copyFrom 1 = .ok (.getfield 9, 3) := by decide +kernel
theorem dX1_copyFrom_4 : decode cX1_copyFrom 4 = .ok (.iconst 0, 1) := by decide +kernel
theorem dX1_copyFrom_5 : decode cX1_copyFrom 5 = .ok (.aload_n 0, 1) := by decide +kernel
theorem dX1_copyFrom_6 : decode cX1_copyFrom 6 = .ok (.getfield 9, 3) := by decide +kernel
theorem dX1_copyFrom_9 : decode cX1_copyFrom 9 = .ok (.iconst 0, 1) := by decide +kernel
theorem dX1_copyFrom_10 : decode cX1_copyFrom 10 = .ok (.aload_n 0, 1) := by decide +kernel
theorem dX1_copyFrom_11 : decode cX1_copyFrom 11 = .ok (.getfield 9, 3) := by decide +kernel
theorem dX1_copyFrom_14 : decode cX1_copyFrom 14 = .ok (.arraylength, 1) := by decide +kernel
theorem dX1_copyFrom_15 : decode cX1_copyFrom 15 = .ok (.invokestatic 19, 3) := by decide +kernel
theorem dX1_copyFrom_18 : decode cX1_copyFrom 18 = .ok (.aload_n 0, 1) := by decide +kernel
theorem dX1_copyFrom_19 : decode cX1_copyFrom 19 = .ok (.aload_n 1, 1) := by decide +kernel
theorem dX1_copyFrom_20 : decode cX1_copyFrom 20 = .ok (.getfield 15, 3) := by decide +kernel
theorem dX1_copyFrom_23 : decode cX1_copyFrom 23 = .ok (.putfield 15, 3) := by decide +kernel
theorem dX1_copyFrom_26 : decode cX1_copyFrom 26 = .ok (.aload_n 0, 1) := by decide +kernel
theorem dX1_copyFrom_27 : decode cX1_copyFrom 27 = .ok (.aload_n 1, 1) := by decide +kernel
theorem dX1_copyFrom_28 : decode cX1_copyFrom 28 = .ok (.getfield 25, 3) := by decide +kernel
theorem dX1_copyFrom_31 : decode cX1_copyFrom 31 = .ok (.putfield 25, 3) := by decide +kernel
theorem dX1_copyFrom_34 : decode cX1_copyFrom 34 = .ok (.aload_n 0, 1) := by decide +kernel
theorem dX1_copyFrom_35 : decode cX1_copyFrom 35 = .ok (.aload_n 1, 1) := by decide +kernel
theorem dX1_copyFrom_36 : decode cX1_copyFrom 36 = .ok (.getfield 28, 3) := by decide +kernel
theorem dX1_copyFrom_39 : decode cX1_copyFrom 39 = .ok (.putfield 28, 3) := by decide +kernel
theorem dX1_copyFrom_42 : decode cX1_copyFrom 42 = .ok (.return_, 1) := by decide +kernel
theorem dX1_start_0 : decode cX1_start 0 = .ok (.aload_n 0, 1) := by decide +kernel
theorem dX1_start_1 : decode cX1_start 1 = .ok (.iload_n 1, 1) := by decide +kernel
theorem dX1_start_2 : decode cX1_start 2 = .ok (.putfield 15, 3) := by decide +kernel
theorem dX1_start_5 : decode cX1_start 5 = .ok (.aload_n 0, 1) := by decide +kernel
theorem dX1_start_6 : decode cX1_start 6 = .ok (.iconst 0, 1) := by decide +kernel
theorem dX1_start_7 : decode cX1_start 7 = .ok (.putfield 25, 3) := by decide +kernel
theorem dX1_start_10 : decode cX1_start 10 = .ok (.aload_n 0, 1) := by decide +kernel
theorem dX1_start_11 : decode cX1_start 11 = .ok (.iconst 0, 1) := by decide +kernel
theorem dX1_start_12 : decode cX1_start 12 = .ok (.putfield 28, 3) := by decide +kernel
theorem dX1_start_15 : decode cX1_start 15 = .ok (.return_, 1) := by decide +kernel
theorem dX1_stop_0 : decode cX1_stop 0 = .ok (.aload_n 0, 1) := by decide +kernel
theorem dX1_stop_1 : decode cX1_stop 1 = .ok (.iconst (-1), 1) := by decide +kernel
theorem dX1_stop_2 : decode cX1_stop 2 = .ok (.invokevirtual 31, 3) := by decide +kernel
theorem dX1_stop_5 : decode cX1_stop 5 = .ok (.return_, 1) := by decide +kernel
theorem dX1_isOn_0 : decode cX1_isOn 0 = .ok (.aload_n 0, 1) := by decide +kernel
theorem dX1_isOn_1 : decode cX1_isOn 1 = .ok (.getfield 15, 3) := by decide +kernel
theorem dX1_isOn_4 : decode cX1_isOn 4 = .ok (.iconst (-1), 1) := by decide +kernel
theorem dX1_isOn_5 : decode cX1_isOn 5 = .ok (.if_icmp .eq 7, 3) := by decide +kernel
theorem dX1_isOn_8 : decode cX1_isOn 8 = .ok (.iconst 1, 1) := by decide +kernel
theorem dX1_isOn_9 : decode cX1_isOn 9 = .ok (.goto 4, 3) := by decide +kernel
theorem dX1_isOn_12 : decode cX1_isOn 12 = .ok (.iconst 0, 1) := by decide +kernel
theorem dX1_isOn_13 : decode cX1_isOn 13 = .ok (.ireturn, 1) := by decide +kernel
theorem dX1_note_0 : decode cX1_note 0 = .ok (.aload_n 0, 1) := by decide +kernel
theorem dX1_note_1 : decode cX1_note 1 = .ok (.getfield 25, 3) := by decide +kernel
theorem dX1_note_4 : decode cX1_note 4 = .ok (.ifCond .lt 35, 3) := by decide +kernel
theorem dX1_note_7 : decode cX1_note 7 = .ok (.aload_n 0, 1) := by decide +kernel
theorem dX1_note_8 : decode cX1_note 8 = .ok (.getfield 25, 3) := by decide +kernel
theorem dX1_note_11 : decode cX1_note 11 = .ok (.aload_n 0, 1) := by decide +kernel
theorem dX1_note_12 : decode cX1_note 12 = .ok (.getfield 9, 3) := by decide +kernel
theorem dX1_note_15 : decode cX1_note 15 = .ok (.arraylength, 1) := by decide +kernel
theorem dX1_note_16 : decode cX1_note 16 = .ok (.if_icmp .ge 23, 3) := by decide +kernel
theorem dX1_note_19 : decode cX1_note 19 = .ok (.aload_n 0, 1) := by decide +kernel
theorem dX1_note_20 : decode cX1_note 20 = .ok (.getfield 9, 3) := by decide +kernel
theorem dX1_note_23 : decode cX1_note 23 = .ok (.aload_n 0, 1) := by decide +kernel
theorem dX1_note_24 : decode cX1_note 24 = .ok (.getfield 25, 3) := by decide +kernel
theorem dX1_note_27 : decode cX1_note 27 = .ok (.lload_n 1, 1) := by decide +kernel
theorem dX1_note_28 : decode cX1_note 28 = .ok (.lastore, 1) := by decide +kernel
theorem dX1_note_29 : decode cX1_note 29 = .ok (.aload_n 0, 1) := by decide +kernel
theorem dX1_note_30 : decode cX1_note 30 = .ok (.dup, 1) := by decide +kernel
theorem dX1_note_31 : decode cX1_note 31 = .ok (.getfield 25, 3) := by decide +kernel
theorem dX1_note_34 : decode cX1_note 34 = .ok (.iconst 1, 1) := by decide +kernel
theorem dX1_note_35 : decode cX1_note 35 = .ok (.iadd, 1) := by decide +kernel
theorem dX1_note_36 : decode cX1_note 36 = .ok (.putfield 25, 3) := by decide +kernel
theorem dX1_note_39 : decode cX1_note 39 = .ok (.return_, 1) := by decide +kernel
theorem dX1_left_0 : decode cX1_left 0 = .ok (.aload_n 0, 1) := by decide +kernel
theorem dX1_left_1 : decode cX1_left 1 = .ok (.getfield 25, 3) := by decide +kernel
theorem dX1_left_4 : decode cX1_left 4 = .ok (.aload_n 0, 1) := by decide +kernel
theorem dX1_left_5 : decode cX1_left 5 = .ok (.getfield 28, 3) := by decide +kernel
theorem dX1_left_8 : decode cX1_left 8 = .ok (.isub, 1) := by decide +kernel
theorem dX1_left_9 : decode cX1_left 9 = .ok (.ireturn, 1) := by decide +kernel
theorem dX1_ahead_0 : decode cX1_ahead 0 = .ok (.aload_n 0, 1) := by decide +kernel
theorem dX1_ahead_1 : decode cX1_ahead 1 = .ok (.getfield 28, 3) := by decide +kernel
theorem dX1_ahead_4 : decode cX1_ahead 4 = .ok (.iload_n 1, 1) := by decide +kernel
theorem dX1_ahead_5 : decode cX1_ahead 5 = .ok (.iadd, 1) := by decide +kernel
theorem dX1_ahead_6 : decode cX1_ahead 6 = .ok (.istore_n 2, 1) := by decide +kernel
theorem dX1_ahead_7 : decode cX1_ahead 7 = .ok (.iload_n 2, 1) := by decide +kernel
theorem dX1_ahead_8 : decode cX1_ahead 8 = .ok (.ifCond .lt 20, 3) := by decide +kernel
theorem dX1_ahead_11 : decode cX1_ahead 11 = .ok (.iload_n 2, 1) := by decide +kernel
theorem dX1_ahead_12 : decode cX1_ahead 12 = .ok (.aload_n 0, 1) := by decide +kernel
theorem dX1_ahead_13 : decode cX1_ahead 13 = .ok (.getfield 25, 3) := by decide +kernel
theorem dX1_ahead_16 : decode cX1_ahead 16 = .ok (.if_icmp .ge 12, 3) := by decide +kernel
theorem dX1_ahead_19 : decode cX1_ahead 19 = .ok (.iload_n 2, 1) := by decide +kernel
theorem dX1_ahead_20 : decode cX1_ahead 20 = .ok (.aload_n 0, 1) := by decide +kernel
theorem dX1_ahead_21 : decode cX1_ahead 21 = .ok (.getfield 9, 3) := by decide +kernel
theorem dX1_ahead_24 : decode cX1_ahead 24 = .ok (.arraylength, 1) := by decide +kernel
theorem dX1_ahead_25 : decode cX1_ahead 25 = .ok (.if_icmp .lt 7, 3) := by decide +kernel
theorem dX1_ahead_28 : decode cX1_ahead 28 = .ok (.lconst 0, 1) := by decide +kernel
theorem dX1_ahead_29 : decode cX1_ahead 29 = .ok (.goto 9, 3) := by decide +kernel
theorem dX1_ahead_32 : decode cX1_ahead 32 = .ok (.aload_n 0, 1) := by decide +kernel
theorem dX1_ahead_33 : decode cX1_ahead 33 = .ok (.getfield 9, 3) := by decide +kernel
theorem dX1_ahead_36 : decode cX1_ahead 36 = .ok (.iload_n 2, 1) := by decide +kernel
theorem dX1_ahead_37 : decode cX1_ahead 37 = .ok (.laload, 1) := by decide +kernel
theorem dX1_ahead_38 : decode cX1_ahead 38 = .ok (.lreturn, 1) := by decide +kernel
theorem dX2_init_0 : decode cX2_init 0 = .ok (.aload_n 0, 1) := by decide +kernel
theorem dX2_init_1 : decode cX2_init 1 = .ok (.invokespecial 3, 3) := by decide +kernel
theorem dX2_init_4 : decode cX2_init 4 = .ok (.aload_n 0, 1) := by decide +kernel
theorem dX2_init_5 : decode cX2_init 5 = .ok (.bipush 90, 2) := by decide +kernel
theorem dX2_init_7 : decode cX2_init 7 = .ok (.newarray .int, 2) := by decide +kernel
theorem dX2_init_9 : decode cX2_init 9 = .ok (.putfield 11, 3) := by decide +kernel
theorem dX2_init_12 : decode cX2_init 12 = .ok (.return_, 1) := by decide +kernel
theorem dX2_copyFrom_0 : decode cX2_copyFrom 0 = .ok (.aload_n 1, 1) := by decide +kernel
theorem dX2_copyFrom_1 : decode cX2_copyFrom 1 = .ok (.getfield 11, 3) := by decide +kernel
theorem dX2_copyFrom_4 : decode cX2_copyFrom 4 = .ok (.iconst 0, 1) := by decide +kernel
theorem dX2_copyFrom_5 : decode cX2_copyFrom 5 = .ok (.aload_n 0, 1) := by decide +kernel
theorem dX2_copyFrom_6 : decode cX2_copyFrom 6 = .ok (.getfield 11, 3) := by decide +kernel
theorem dX2_copyFrom_9 : decode cX2_copyFrom 9 = .ok (.iconst 0, 1) := by decide +kernel
theorem dX2_copyFrom_10 : decode cX2_copyFrom 10 = .ok (.aload_n 0, 1) := by decide +kernel
theorem dX2_copyFrom_11 : decode cX2_copyFrom 11 = .ok (.getfield 11, 3) := by decide +kernel
theorem dX2_copyFrom_14 : decode cX2_copyFrom 14 = .ok (.arraylength, 1) := by decide +kernel
theorem dX2_copyFrom_15 : decode cX2_copyFrom 15 = .ok (.invokestatic 15, 3) := by decide +kernel
theorem dX2_copyFrom_18 : decode cX2_copyFrom 18 = .ok (.aload_n 0, 1) := by decide +kernel
theorem dX2_copyFrom_19 : decode cX2_copyFrom 19 = .ok (.aload_n 1, 1) := by decide +kernel
theorem dX2_copyFrom_20 : decode cX2_copyFrom 20 = .ok (.getfield 21, 3) := by decide +kernel
theorem dX2_copyFrom_23 : decode cX2_copyFrom 23 = .ok (.putfield 21, 3) := by decide +kernel
theorem dX2_copyFrom_26 : decode cX2_copyFrom 26 = .ok (.return_, 1) := by decide +kernel
theorem dX2_tellOf_0 : decode cX2_tellOf 0 = .ok (.aload_n 0, 1) := by decide +kernel
theorem dX2_tellOf_1 : decode cX2_tellOf 1 = .ok (.getfield 21, 3) := by decide +kernel
theorem dX2_tellOf_4 : decode cX2_tellOf 4 = .ok (.bipush 30, 2) := by decide +kernel
theorem dX2_tellOf_6 : decode cX2_tellOf 6 = .ok (.if_icmp .lt 29, 3) := by decide +kernel
theorem dX2_tellOf_9 : decode cX2_tellOf 9 = .ok (.aload_n 0, 1) := by decide +kernel
theorem dX2_tellOf_10 : decode cX2_tellOf 10 = .ok (.getfield 11, 3) := by decide +kernel
theorem dX2_tellOf_13 : decode cX2_tellOf 13 = .ok (.iconst 3, 1) := by decide +kernel
theorem dX2_tellOf_14 : decode cX2_tellOf 14 = .ok (.aload_n 0, 1) := by decide +kernel
theorem dX2_tellOf_15 : decode cX2_tellOf 15 = .ok (.getfield 11, 3) := by decide +kernel
theorem dX2_tellOf_18 : decode cX2_tellOf 18 = .ok (.iconst 0, 1) := by decide +kernel
theorem dX2_tellOf_19 : decode cX2_tellOf 19 = .ok (.aload_n 0, 1) := by decide +kernel
theorem dX2_tellOf_20 : decode cX2_tellOf 20 = .ok (.getfield 11, 3) := by decide +kernel
theorem dX2_tellOf_23 : decode cX2_tellOf 23 = .ok (.arraylength, 1) := by decide +kernel
theorem dX2_tellOf_24 : decode cX2_tellOf 24 = .ok (.iconst 3, 1) := by decide +kernel
theorem dX2_tellOf_25 : decode cX2_tellOf 25 = .ok (.isub, 1) := by decide +kernel
theorem dX2_tellOf_26 : decode cX2_tellOf 26 = .ok (.invokestatic 15, 3) := by decide +kernel
theorem dX2_tellOf_29 : decode cX2_tellOf 29 = .ok (.aload_n 0, 1) := by decide +kernel
theorem dX2_tellOf_30 : decode cX2_tellOf 30 = .ok (.bipush 29, 2) := by decide +kernel
theorem dX2_tellOf_32 : decode cX2_tellOf 32 = .ok (.putfield 21, 3) := by decide +kernel
theorem dX2_tellOf_35 : decode cX2_tellOf 35 = .ok (.aload_n 0, 1) := by decide +kernel
theorem dX2_tellOf_36 : decode cX2_tellOf 36 = .ok (.getfield 21, 3) := by decide +kernel
theorem dX2_tellOf_39 : decode cX2_tellOf 39 = .ok (.iconst 3, 1) := by decide +kernel
theorem dX2_tellOf_40 : decode cX2_tellOf 40 = .ok (.imul, 1) := by decide +kernel
theorem dX2_tellOf_41 : decode cX2_tellOf 41 = .ok (.istore 4, 2) := by decide +kernel
theorem dX2_tellOf_43 : decode cX2_tellOf 43 = .ok (.iload 4, 2) := by decide +kernel
theorem dX2_tellOf_45 : decode cX2_tellOf 45 = .ok (.ifCond .lt 53, 3) := by decide +kernel
theorem dX2_tellOf_48 : decode cX2_tellOf 48 = .ok (.iload 4, 2) := by decide +kernel
theorem dX2_tellOf_50 : decode cX2_tellOf 50 = .ok (.iconst 2, 1) := by decide +kernel
theorem dX2_tellOf_51 : decode cX2_tellOf 51 = .ok (.iadd, 1) := by decide +kernel
theorem dX2_tellOf_52 : decode cX2_tellOf 52 = .ok (.aload_n 0, 1) := by decide +kernel
theorem dX2_tellOf_53 : decode cX2_tellOf 53 = .ok (.getfield 11, 3) := by decide +kernel
theorem dX2_tellOf_56 : decode cX2_tellOf 56 = .ok (.arraylength, 1) := by decide +kernel
theorem dX2_tellOf_57 : decode cX2_tellOf 57 = .ok (.if_icmp .ge 41, 3) := by decide +kernel
theorem dX2_tellOf_60 : decode cX2_tellOf 60 = .ok (.aload_n 0, 1) := by decide +kernel
theorem dX2_tellOf_61 : decode cX2_tellOf 61 = .ok (.getfield 11, 3) := by decide +kernel
theorem dX2_tellOf_64 : decode cX2_tellOf 64 = .ok (.iload 4, 2) := by decide +kernel
theorem dX2_tellOf_66 : decode cX2_tellOf 66 = .ok (.iload_n 1, 1) := by decide +kernel
theorem dX2_tellOf_67 : decode cX2_tellOf 67 = .ok (.iastore, 1) := by decide +kernel
theorem dX2_tellOf_68 : decode cX2_tellOf 68 = .ok (.aload_n 0, 1) := by decide +kernel
theorem dX2_tellOf_69 : decode cX2_tellOf 69 = .ok (.getfield 11, 3) := by decide +kernel
theorem dX2_tellOf_72 : decode cX2_tellOf 72 = .ok (.iload 4, 2) := by decide +kernel
theorem dX2_tellOf_74 : decode cX2_tellOf 74 = .ok (.iconst 1, 1) := by decide +kernel
theorem dX2_tellOf_75 : decode cX2_tellOf 75 = .ok (.iadd, 1) := by decide +kernel
theorem dX2_tellOf_76 : decode cX2_tellOf 76 = .ok (.iload_n 2, 1) := by decide +kernel
theorem dX2_tellOf_77 : decode cX2_tellOf 77 = .ok (.iastore, 1) := by decide +kernel
theorem dX2_tellOf_78 : decode cX2_tellOf 78 = .ok (.aload_n 0, 1) := by decide +kernel
theorem dX2_tellOf_79 : decode cX2_tellOf 79 = .ok (.getfield 11, 3) := by decide +kernel
theorem dX2_tellOf_82 : decode cX2_tellOf 82 = .ok (.iload 4, 2) := by decide +kernel
theorem dX2_tellOf_84 : decode cX2_tellOf 84 = .ok (.iconst 2, 1) := by decide +kernel
theorem dX2_tellOf_85 : decode cX2_tellOf 85 = .ok (.iadd, 1) := by decide +kernel
theorem dX2_tellOf_86 : decode cX2_tellOf 86 = .ok (.iload_n 3, 1) := by decide +kernel
theorem dX2_tellOf_87 : decode cX2_tellOf 87 = .ok (.iastore, 1) := by decide +kernel
theorem dX2_tellOf_88 : decode cX2_tellOf 88 = .ok (.aload_n 0, 1) := by decide +kernel
theorem dX2_tellOf_89 : decode cX2_tellOf 89 = .ok (.dup, 1) := by decide +kernel
theorem dX2_tellOf_90 : decode cX2_tellOf 90 = .ok (.getfield 21, 3) := by decide +kernel
theorem dX2_tellOf_93 : decode cX2_tellOf 93 = .ok (.iconst 1, 1) := by decide +kernel
theorem dX2_tellOf_94 : decode cX2_tellOf 94 = .ok (.iadd, 1) := by decide +kernel
theorem dX2_tellOf_95 : decode cX2_tellOf 95 = .ok (.putfield 21, 3) := by decide +kernel
theorem dX2_tellOf_98 : decode cX2_tellOf 98 = .ok (.return_, 1) := by decide +kernel
theorem dX2_told_0 : decode cX2_told 0 = .ok (.iload_n 1, 1) := by decide +kernel
theorem dX2_told_1 : decode cX2_told 1 = .ok (.ifCond .lt 26, 3) := by decide +kernel
theorem dX2_told_4 : decode cX2_told 4 = .ok (.iload_n 1, 1) := by decide +kernel
theorem dX2_told_5 : decode cX2_told 5 = .ok (.aload_n 0, 1) := by decide +kernel
theorem dX2_told_6 : decode cX2_told 6 = .ok (.getfield 21, 3) := by decide +kernel
theorem dX2_told_9 : decode cX2_told 9 = .ok (.if_icmp .ge 18, 3) := by decide +kernel
theorem dX2_told_12 : decode cX2_told 12 = .ok (.iload_n 1, 1) := by decide +kernel
theorem dX2_told_13 : decode cX2_told 13 = .ok (.bipush 30, 2) := by decide +kernel
theorem dX2_told_15 : decode cX2_told 15 = .ok (.if_icmp .ge 12, 3) := by decide +kernel
theorem dX2_told_18 : decode cX2_told 18 = .ok (.iload_n 2, 1) := by decide +kernel
theorem dX2_told_19 : decode cX2_told 19 = .ok (.ifCond .lt 8, 3) := by decide +kernel
theorem dX2_told_22 : decode cX2_told 22 = .ok (.iload_n 2, 1) := by decide +kernel
theorem dX2_told_23 : decode cX2_told 23 = .ok (.iconst 3, 1) := by decide +kernel
theorem dX2_told_24 : decode cX2_told 24 = .ok (.if_icmp .lt 5, 3) := by decide +kernel
theorem dX2_told_27 : decode cX2_told 27 = .ok (.iconst (-1), 1) := by decide +kernel
theorem dX2_told_28 : decode cX2_told 28 = .ok (.ireturn, 1) := by decide +kernel
theorem dX2_told_29 : decode cX2_told 29 = .ok (.aload_n 0, 1) := by decide +kernel
theorem dX2_told_30 : decode cX2_told 30 = .ok (.getfield 11, 3) := by decide +kernel
theorem dX2_told_33 : decode cX2_told 33 = .ok (.iload_n 1, 1) := by decide +kernel
theorem dX2_told_34 : decode cX2_told 34 = .ok (.iconst 3, 1) := by decide +kernel
theorem dX2_told_35 : decode cX2_told 35 = .ok (.imul, 1) := by decide +kernel
theorem dX2_told_36 : decode cX2_told 36 = .ok (.iload_n 2, 1) := by decide +kernel
theorem dX2_told_37 : decode cX2_told 37 = .ok (.iadd, 1) := by decide +kernel
theorem dX2_told_38 : decode cX2_told 38 = .ok (.iaload, 1) := by decide +kernel
theorem dX2_told_39 : decode cX2_told 39 = .ok (.ireturn, 1) := by decide +kernel
theorem dX3_init_0 : decode cX3_init 0 = .ok (.aload_n 0, 1) := by decide +kernel
theorem dX3_init_1 : decode cX3_init 1 = .ok (.invokespecial 3, 3) := by decide +kernel
theorem dX3_init_4 : decode cX3_init 4 = .ok (.aload_n 0, 1) := by decide +kernel
theorem dX3_init_5 : decode cX3_init 5 = .ok (.bipush 8, 2) := by decide +kernel
theorem dX3_init_7 : decode cX3_init 7 = .ok (.anewarray 9, 3) := by decide +kernel
theorem dX3_init_10 : decode cX3_init 10 = .ok (.putfield 11, 3) := by decide +kernel
theorem dX3_init_13 : decode cX3_init 13 = .ok (.iconst 0, 1) := by decide +kernel
theorem dX3_init_14 : decode cX3_init 14 = .ok (.istore_n 1, 1) := by decide +kernel
theorem dX3_init_15 : decode cX3_init 15 = .ok (.iload_n 1, 1) := by decide +kernel
theorem dX3_init_16 : decode cX3_init 16 = .ok (.bipush 8, 2) := by decide +kernel
theorem dX3_init_18 : decode cX3_init 18 = .ok (.if_icmp .ge 22, 3) := by decide +kernel
theorem dX3_init_21 : decode cX3_init 21 = .ok (.aload_n 0, 1) := by decide +kernel
theorem dX3_init_22 : decode cX3_init 22 = .ok (.getfield 11, 3) := by decide +kernel
theorem dX3_init_25 : decode cX3_init 25 = .ok (.iload_n 1, 1) := by decide +kernel
theorem dX3_init_26 : decode cX3_init 26 = .ok (.new 9, 3) := by decide +kernel
theorem dX3_init_29 : decode cX3_init 29 = .ok (.dup, 1) := by decide +kernel
theorem dX3_init_30 : decode cX3_init 30 = .ok (.invokespecial 17, 3) := by decide +kernel
theorem dX3_init_33 : decode cX3_init 33 = .ok (.aastore, 1) := by decide +kernel
theorem dX3_init_34 : decode cX3_init 34 = .ok (.iinc 1 1, 3) := by decide +kernel
theorem dX3_init_37 : decode cX3_init 37 = .ok (.goto (-22), 3) := by decide +kernel
theorem dX3_init_40 : decode cX3_init 40 = .ok (.return_, 1) := by decide +kernel
theorem dX3_forget_0 : decode cX3_forget 0 = .ok (.aload_n 0, 1) := by decide +kernel
theorem dX3_forget_1 : decode cX3_forget 1 = .ok (.iconst 0, 1) := by decide +kernel
theorem dX3_forget_2 : decode cX3_forget 2 = .ok (.putfield 18, 3) := by decide +kernel
theorem dX3_forget_5 : decode cX3_forget 5 = .ok (.return_, 1) := by decide +kernel
theorem dX3_remember_0 : decode cX3_remember 0 = .ok (.aload_n 0, 1) := by decide +kernel
theorem dX3_remember_1 : decode cX3_remember 1 = .ok (.getfield 18, 3) := by decide +kernel
theorem dX3_remember_4 : decode cX3_remember 4 = .ok (.bipush 8, 2) := by decide +kernel
theorem dX3_remember_6 : decode cX3_remember 6 = .ok (.if_icmp .ne 19, 3) := by decide +kernel
theorem dX3_remember_9 : decode cX3_remember 9 = .ok (.aload_n 0, 1) := by decide +kernel
theorem dX3_remember_10 : decode cX3_remember 10 = .ok (.aload_n 0, 1) := by decide +kernel
theorem dX3_remember_11 : decode cX3_remember 11 = .ok (.getfield 22, 3) := by decide +kernel
theorem dX3_remember_14 : decode cX3_remember 14 = .ok (.iconst 1, 1) := by decide +kernel
theorem dX3_remember_15 : decode cX3_remember 15 = .ok (.iadd, 1) := by decide +kernel
theorem dX3_remember_16 : decode cX3_remember 16 = .ok (.bipush 8, 2) := by decide +kernel
theorem dX3_remember_18 : decode cX3_remember 18 = .ok (.irem, 1) := by decide +kernel
theorem dX3_remember_19 : decode cX3_remember 19 = .ok (.putfield 22, 3) := by decide +kernel
theorem dX3_remember_22 : decode cX3_remember 22 = .ok (.goto 13, 3) := by decide +kernel
theorem dX3_remember_25 : decode cX3_remember 25 = .ok (.aload_n 0, 1) := by decide +kernel
theorem dX3_remember_26 : decode cX3_remember 26 = .ok (.dup, 1) := by decide +kernel
theorem dX3_remember_27 : decode cX3_remember 27 = .ok (.getfield 18, 3) := by decide +kernel
theorem dX3_remember_30 : decode cX3_remember 30 = .ok (.iconst 1, 1) := by decide +kernel
theorem dX3_remember_31 : decode cX3_remember 31 = .ok (.iadd, 1) := by decide +kernel
theorem dX3_remember_32 : decode cX3_remember 32 = .ok (.putfield 18, 3) := by decide +kernel
theorem dX3_remember_35 : decode cX3_remember 35 = .ok (.aload_n 0, 1) := by decide +kernel
theorem dX3_remember_36 : decode cX3_remember 36 = .ok (.invokevirtual 25, 3) := by decide +kernel
theorem dX3_remember_39 : decode cX3_remember 39 = .ok (.astore_n 2, 1) := by decide +kernel
theorem dX3_remember_40 : decode cX3_remember 40 = .ok (.aload_n 2, 1) := by decide +kernel
theorem dX3_remember_41 : decode cX3_remember 41 = .ok (.ifnull 8, 3) := by decide +kernel
theorem dX3_remember_44 : decode cX3_remember 44 = .ok (.aload_n 2, 1) := by decide +kernel
theorem dX3_remember_45 : decode cX3_remember 45 = .ok (.aload_n 1, 1) := by decide +kernel
theorem dX3_remember_46 : decode cX3_remember 46 = .ok (.invokevirtual 29, 3) := by decide +kernel
theorem dX3_remember_49 : decode cX3_remember 49 = .ok (.return_, 1) := by decide +kernel
theorem dX3_takeBack_0 : decode cX3_takeBack 0 = .ok (.aload_n 0, 1) := by decide +kernel
theorem dX3_takeBack_1 : decode cX3_takeBack 1 = .ok (.invokevirtual 25, 3) := by decide +kernel
theorem dX3_takeBack_4 : decode cX3_takeBack 4 = .ok (.astore_n 2, 1) := by decide +kernel
theorem dX3_takeBack_5 : decode cX3_takeBack 5 = .ok (.aload_n 0, 1) := by decide +kernel
theorem dX3_takeBack_6 : decode cX3_takeBack 6 = .ok (.getfield 18, 3) := by decide +kernel
theorem dX3_takeBack_9 : decode cX3_takeBack 9 = .ok (.ifCond .eq 7, 3) := by decide +kernel
theorem dX3_takeBack_12 : decode cX3_takeBack 12 = .ok (.aload_n 2, 1) := by decide +kernel
theorem dX3_takeBack_13 : decode cX3_takeBack 13 = .ok (.ifnonnull 5, 3) := by decide +kernel
theorem dX3_takeBack_16 : decode cX3_takeBack 16 = .ok (.iconst 0, 1) := by decide +kernel
theorem dX3_takeBack_17 : decode cX3_takeBack 17 = .ok (.ireturn, 1) := by decide +kernel
theorem dX3_takeBack_18 : decode cX3_takeBack 18 = .ok (.aload_n 1, 1) := by decide +kernel
theorem dX3_takeBack_19 : decode cX3_takeBack 19 = .ok (.aload_n 2, 1) := by decide +kernel
theorem dX3_takeBack_20 : decode cX3_takeBack 20 = .ok (.invokevirtual 29, 3) := by decide +kernel
theorem dX3_takeBack_23 : decode cX3_takeBack 23 = .ok (.aload_n 0, 1) := by decide +kernel
theorem dX3_takeBack_24 : decode cX3_takeBack 24 = .ok (.dup, 1) := by decide +kernel
theorem dX3_takeBack_25 : decode cX3_takeBack 25 = .ok (.getfield 18, 3) := by decide +kernel
theorem dX3_takeBack_28 : decode cX3_takeBack 28 = .ok (.iconst 1, 1) := by decide +kernel
theorem dX3_takeBack_29 : decode cX3_takeBack 29 = .ok (.isub, 1) := by decide +kernel
theorem dX3_takeBack_30 : decode cX3_takeBack 30 = .ok (.putfield 18, 3) := by decide +kernel
theorem dX3_takeBack_33 : decode cX3_takeBack 33 = .ok (.iconst 1, 1) := by decide +kernel
theorem dX3_takeBack_34 : decode cX3_takeBack 34 = .ok (.ireturn, 1) := by decide +kernel
theorem dX3_latest_0 : decode cX3_latest 0 = .ok (.aload_n 0, 1) := by decide +kernel
theorem dX3_latest_1 : decode cX3_latest 1 = .ok (.getfield 11, 3) := by decide +kernel
theorem dX3_latest_4 : decode cX3_latest 4 = .ok (.aload_n 0, 1) := by decide +kernel
theorem dX3_latest_5 : decode cX3_latest 5 = .ok (.getfield 22, 3) := by decide +kernel
theorem dX3_latest_8 : decode cX3_latest 8 = .ok (.aload_n 0, 1) := by decide +kernel
theorem dX3_latest_9 : decode cX3_latest 9 = .ok (.getfield 18, 3) := by decide +kernel
theorem dX3_latest_12 : decode cX3_latest 12 = .ok (.iadd, 1) := by decide +kernel
theorem dX3_latest_13 : decode cX3_latest 13 = .ok (.bipush 8, 2) := by decide +kernel
theorem dX3_latest_15 : decode cX3_latest 15 = .ok (.iadd, 1) := by decide +kernel
theorem dX3_latest_16 : decode cX3_latest 16 = .ok (.iconst 1, 1) := by decide +kernel
theorem dX3_latest_17 : decode cX3_latest 17 = .ok (.isub, 1) := by decide +kernel
theorem dX3_latest_18 : decode cX3_latest 18 = .ok (.bipush 8, 2) := by decide +kernel
theorem dX3_latest_20 : decode cX3_latest 20 = .ok (.irem, 1) := by decide +kernel
theorem dX3_latest_21 : decode cX3_latest 21 = .ok (.aaload, 1) := by decide +kernel
theorem dX3_latest_22 : decode cX3_latest 22 = .ok (.areturn, 1) := by decide +kernel
theorem dX4_init_0 : decode cX4_init 0 = .ok (.aload_n 0, 1) := by decide +kernel
theorem dX4_init_1 : decode cX4_init 1 = .ok (.invokespecial 3, 3) := by decide +kernel
theorem dX4_init_4 : decode cX4_init 4 = .ok (.aload_n 0, 1) := by decide +kernel
theorem dX4_init_5 : decode cX4_init 5 = .ok (.sipush 600, 3) := by decide +kernel
theorem dX4_init_8 : decode cX4_init 8 = .ok (.newarray .long, 2) := by decide +kernel
theorem dX4_init_10 : decode cX4_init 10 = .ok (.putfield 9, 3) := by decide +kernel
theorem dX4_init_13 : decode cX4_init 13 = .ok (.aload_n 0, 1) := by decide +kernel
theorem dX4_init_14 : decode cX4_init 14 = .ok (.bipush 12, 2) := by decide +kernel
theorem dX4_init_16 : decode cX4_init 16 = .ok (.newarray .int, 2) := by decide +kernel
theorem dX4_init_18 : decode cX4_init 18 = .ok (.putfield 15, 3) := by decide +kernel
theorem dX4_init_21 : decode cX4_init 21 = .ok (.aload_n 0, 1) := by decide +kernel
theorem dX4_init_22 : decode cX4_init 22 = .ok (.bipush 12, 2) := by decide +kernel
theorem dX4_init_24 : decode cX4_init 24 = .ok (.newarray .int, 2) := by decide +kernel
theorem dX4_init_26 : decode cX4_init 26 = .ok (.putfield 19, 3) := by decide +kernel
theorem dX4_init_29 : decode cX4_init 29 = .ok (.aload_n 0, 1) := by decide +kernel
theorem dX4_init_30 : decode cX4_init 30 = .ok (.bipush 12, 2) := by decide +kernel
theorem dX4_init_32 : decode cX4_init 32 = .ok (.newarray .int, 2) := by decide +kernel
theorem dX4_init_34 : decode cX4_init 34 = .ok (.putfield 22, 3) := by decide +kernel
theorem dX4_init_37 : decode cX4_init 37 = .ok (.return_, 1) := by decide +kernel
theorem dX4_copyFrom_0 : decode cX4_copyFrom 0 = .ok (.aload_n 1, 1) := by decide +kernel
theorem dX4_copyFrom_1 : decode cX4_copyFrom 1 = .ok (.getfield 9, 3) := by decide +kernel
theorem dX4_copyFrom_4 : decode cX4_copyFrom 4 = .ok (.iconst 0, 1) := by decide +kernel
theorem dX4_copyFrom_5 : decode cX4_copyFrom 5 = .ok (.aload_n 0, 1) := by decide +kernel
theorem dX4_copyFrom_6 : decode cX4_copyFrom 6 = .ok (.getfield 9, 3) := by decide +kernel
theorem dX4_copyFrom_9 : decode cX4_copyFrom 9 = .ok (.iconst 0, 1) := by decide +kernel
theorem dX4_copyFrom_10 : decode cX4_copyFrom 10 = .ok (.aload_n 0, 1) := by decide +kernel
theorem dX4_copyFrom_11 : decode cX4_copyFrom 11 = .ok (.getfield 9, 3) := by decide +kernel
theorem dX4_copyFrom_14 : decode cX4_copyFrom 14 = .ok (.arraylength, 1) := by decide +kernel
theorem dX4_copyFrom_15 : decode cX4_copyFrom 15 = .ok (.invokestatic 25, 3) := by decide +kernel
theorem dX4_copyFrom_18 : decode cX4_copyFrom 18 = .ok (.aload_n 1, 1) := by decide +kernel
theorem dX4_copyFrom_19 : decode cX4_copyFrom 19 = .ok (.getfield 15, 3) := by decide +kernel
theorem dX4_copyFrom_22 : decode cX4_copyFrom 22 = .ok (.iconst 0, 1) := by decide +kernel
theorem dX4_copyFrom_23 : decode cX4_copyFrom 23 = .ok (.aload_n 0, 1) := by decide +kernel
theorem dX4_copyFrom_24 : decode cX4_copyFrom 24 = .ok (.getfield 15, 3) := by decide +kernel
theorem dX4_copyFrom_27 : decode cX4_copyFrom 27 = .ok (.iconst 0, 1) := by decide +kernel
theorem dX4_copyFrom_28 : decode cX4_copyFrom 28 = .ok (.bipush 12, 2) := by decide +kernel
theorem dX4_copyFrom_30 : decode cX4_copyFrom 30 = .ok (.invokestatic 25, 3) := by decide +kernel
theorem dX4_copyFrom_33 : decode cX4_copyFrom 33 = .ok (.aload_n 1, 1) := by decide +kernel
theorem dX4_copyFrom_34 : decode cX4_copyFrom 34 = .ok (.getfield 19, 3) := by decide +kernel
theorem dX4_copyFrom_37 : decode cX4_copyFrom 37 = .ok (.iconst 0, 1) := by decide +kernel
theorem dX4_copyFrom_38 : decode cX4_copyFrom 38 = .ok (.aload_n 0, 1) := by decide +kernel
theorem dX4_copyFrom_39 : decode cX4_copyFrom 39 = .ok (.getfield 19, 3) := by decide +kernel
theorem dX4_copyFrom_42 : decode cX4_copyFrom 42 = .ok (.iconst 0, 1) := by decide +kernel
theorem dX4_copyFrom_43 : decode cX4_copyFrom 43 = .ok (.bipush 12, 2) := by decide +kernel
theorem dX4_copyFrom_45 : decode cX4_copyFrom 45 = .ok (.invokestatic 25, 3) := by decide +kernel
theorem dX4_copyFrom_48 : decode cX4_copyFrom 48 = .ok (.aload_n 1, 1) := by decide +kernel
theorem dX4_copyFrom_49 : decode cX4_copyFrom 49 = .ok (.getfield 22, 3) := by decide +kernel
theorem dX4_copyFrom_52 : decode cX4_copyFrom 52 = .ok (.iconst 0, 1) := by decide +kernel
theorem dX4_copyFrom_53 : decode cX4_copyFrom 53 = .ok (.aload_n 0, 1) := by decide +kernel
theorem dX4_copyFrom_54 : decode cX4_copyFrom 54 = .ok (.getfield 22, 3) := by decide +kernel
theorem dX4_copyFrom_57 : decode cX4_copyFrom 57 = .ok (.iconst 0, 1) := by decide +kernel
theorem dX4_copyFrom_58 : decode cX4_copyFrom 58 = .ok (.bipush 12, 2) := by decide +kernel
theorem dX4_copyFrom_60 : decode cX4_copyFrom 60 = .ok (.invokestatic 25, 3) := by decide +kernel
theorem dX4_copyFrom_63 : decode cX4_copyFrom 63 = .ok (.aload_n 0, 1) := by decide +kernel
theorem dX4_copyFrom_64 : decode cX4_copyFrom 64 = .ok (.aload_n 1, 1) := by decide +kernel
theorem dX4_copyFrom_65 : decode cX4_copyFrom 65 = .ok (.getfield 31, 3) := by decide +kernel
theorem dX4_copyFrom_68 : decode cX4_copyFrom 68 = .ok (.putfield 31, 3) := by decide +kernel
theorem dX4_copyFrom_71 : decode cX4_copyFrom 71 = .ok (.return_, 1) := by decide +kernel
theorem dX4_clear_0 : decode cX4_clear 0 = .ok (.iconst 0, 1) := by decide +kernel
theorem dX4_clear_1 : decode cX4_clear 1 = .ok (.istore_n 1, 1) := by decide +kernel
theorem dX4_clear_2 : decode cX4_clear 2 = .ok (.iload_n 1, 1) := by decide +kernel
theorem dX4_clear_3 : decode cX4_clear 3 = .ok (.bipush 12, 2) := by decide +kernel
theorem dX4_clear_5 : decode cX4_clear 5 = .ok (.if_icmp .ge 14, 3) := by decide +kernel
theorem dX4_clear_8 : decode cX4_clear 8 = .ok (.aload_n 0, 1) := by decide +kernel
theorem dX4_clear_9 : decode cX4_clear 9 = .ok (.iload_n 1, 1) := by decide +kernel
theorem dX4_clear_10 : decode cX4_clear 10 = .ok (.invokevirtual 35, 3) := by decide +kernel
theorem dX4_clear_13 : decode cX4_clear 13 = .ok (.iinc 1 1, 3) := by decide +kernel
theorem dX4_clear_16 : decode cX4_clear 16 = .ok (.goto (-14), 3) := by decide +kernel
theorem dX4_clear_19 : decode cX4_clear 19 = .ok (.aload_n 0, 1) := by decide +kernel
theorem dX4_clear_20 : decode cX4_clear 20 = .ok (.iconst 0, 1) := by decide +kernel
theorem dX4_clear_21 : decode cX4_clear 21 = .ok (.invokevirtual 39, 3) := by decide +kernel
theorem dX4_clear_24 : decode cX4_clear 24 = .ok (.return_, 1) := by decide +kernel
theorem dX4_isOne_0 : decode cX4_isOne 0 = .ok (.iload_n 0, 1) := by decide +kernel
theorem dX4_isOne_1 : decode cX4_isOne 1 = .ok (.ifCond .lt 13, 3) := by decide +kernel
theorem dX4_isOne_4 : decode cX4_isOne 4 = .ok (.iload_n 0, 1) := by decide +kernel
theorem dX4_isOne_5 : decode cX4_isOne 5 = .ok (.bipush 12, 2) := by decide +kernel
theorem dX4_isOne_7 : decode cX4_isOne 7 = .ok (.if_icmp .ge 7, 3) := by decide +kernel
theorem dX4_isOne_10 : decode cX4_isOne 10 = .ok (.iconst 1, 1) := by decide +kernel
theorem dX4_isOne_11 : decode cX4_isOne 11 = .ok (.goto 4, 3) := by decide +kernel
theorem dX4_isOne_14 : decode cX4_isOne 14 = .ok (.iconst 0, 1) := by decide +kernel
theorem dX4_isOne_15 : decode cX4_isOne 15 = .ok (.ireturn, 1) := by decide +kernel
theorem dX4_kindOf_0 : decode cX4_kindOf 0 = .ok (.iload_n 1, 1) := by decide +kernel
theorem dX4_kindOf_1 : decode cX4_kindOf 1 = .ok (.ifCond .lt 9, 3) := by decide +kernel
theorem dX4_kindOf_4 : decode cX4_kindOf 4 = .ok (.iload_n 1, 1) := by decide +kernel
theorem dX4_kindOf_5 : decode cX4_kindOf 5 = .ok (.bipush 12, 2) := by decide +kernel
theorem dX4_kindOf_7 : decode cX4_kindOf 7 = .ok (.if_icmp .lt 7, 3) := by decide +kernel
theorem dX4_kindOf_10 : decode cX4_kindOf 10 = .ok (.iconst 0, 1) := by decide +kernel
theorem dX4_kindOf_11 : decode cX4_kindOf 11 = .ok (.goto 9, 3) := by decide +kernel
theorem dX4_kindOf_14 : decode cX4_kindOf 14 = .ok (.aload_n 0, 1) := by decide +kernel
theorem dX4_kindOf_15 : decode cX4_kindOf 15 = .ok (.getfield 22, 3) := by decide +kernel
theorem dX4_kindOf_18 : decode cX4_kindOf 18 = .ok (.iload_n 1, 1) := by decide +kernel
theorem dX4_kindOf_19 : decode cX4_kindOf 19 = .ok (.iaload, 1) := by decide +kernel
theorem dX4_kindOf_20 : decode cX4_kindOf 20 = .ok (.ireturn, 1) := by decide +kernel
theorem dX4_countOf_0 : decode cX4_countOf 0 = .ok (.iload_n 1, 1) := by decide +kernel
theorem dX4_countOf_1 : decode cX4_countOf 1 = .ok (.ifCond .lt 9, 3) := by decide +kernel
theorem dX4_countOf_4 : decode cX4_countOf 4 = .ok (.iload_n 1, 1) := by decide +kernel
theorem dX4_countOf_5 : decode cX4_countOf 5 = .ok (.bipush 12, 2) := by decide +kernel
theorem dX4_countOf_7 : decode cX4_countOf 7 = .ok (.if_icmp .lt 7, 3) := by decide +kernel
theorem dX4_countOf_10 : decode cX4_countOf 10 = .ok (.iconst 0, 1) := by decide +kernel
theorem dX4_countOf_11 : decode cX4_countOf 11 = .ok (.goto 9, 3) := by decide +kernel
theorem dX4_countOf_14 : decode cX4_countOf 14 = .ok (.aload_n 0, 1) := by decide +kernel
theorem dX4_countOf_15 : decode cX4_countOf 15 = .ok (.getfield 15, 3) := by decide +kernel
theorem dX4_countOf_18 : decode cX4_countOf 18 = .ok (.iload_n 1, 1) := by decide +kernel
theorem dX4_countOf_19 : decode cX4_countOf 19 = .ok (.iaload, 1) := by decide +kernel
theorem dX4_countOf_20 : decode cX4_countOf 20 = .ok (.ireturn, 1) := by decide +kernel
theorem dX4_takenOf_0 : decode cX4_takenOf 0 = .ok (.iload_n 1, 1) := by decide +kernel
theorem dX4_takenOf_1 : decode cX4_takenOf 1 = .ok (.ifCond .lt 9, 3) := by decide +kernel
theorem dX4_takenOf_4 : decode cX4_takenOf 4 = .ok (.iload_n 1, 1) := by decide +kernel
theorem dX4_takenOf_5 : decode cX4_takenOf 5 = .ok (.bipush 12, 2) := by decide +kernel
theorem dX4_takenOf_7 : decode cX4_takenOf 7 = .ok (.if_icmp .lt 7, 3) := by decide +kernel
theorem dX4_takenOf_10 : decode cX4_takenOf 10 = .ok (.iconst 0, 1) := by decide +kernel
theorem dX4_takenOf_11 : decode cX4_takenOf 11 = .ok (.goto 9, 3) := by decide +kernel
theorem dX4_takenOf_14 : decode cX4_takenOf 14 = .ok (.aload_n 0, 1) := by decide +kernel
theorem dX4_takenOf_15 : decode cX4_takenOf 15 = .ok (.getfield 19, 3) := by decide +kernel
theorem dX4_takenOf_18 : decode cX4_takenOf 18 = .ok (.iload_n 1, 1) := by decide +kernel
theorem dX4_takenOf_19 : decode cX4_takenOf 19 = .ok (.iaload, 1) := by decide +kernel
theorem dX4_takenOf_20 : decode cX4_takenOf 20 = .ok (.ireturn, 1) := by decide +kernel
theorem dX4_takenOfAll_0 : decode cX4_takenOfAll 0 = .ok (.iconst 0, 1) := by decide +kernel
theorem dX4_takenOfAll_1 : decode cX4_takenOfAll 1 = .ok (.istore_n 1, 1) := by decide +kernel
theorem dX4_takenOfAll_2 : decode cX4_takenOfAll 2 = .ok (.aload_n 0, 1) := by decide +kernel
theorem dX4_takenOfAll_3 : decode cX4_takenOfAll 3 = .ok (.getfield 19, 3) := by decide +kernel
theorem dX4_takenOfAll_6 : decode cX4_takenOfAll 6 = .ok (.astore_n 2, 1) := by decide +kernel
theorem dX4_takenOfAll_7 : decode cX4_takenOfAll 7 = .ok (.aload_n 2, 1) := by decide +kernel
theorem dX4_takenOfAll_8 : decode cX4_takenOfAll 8 = .ok (.arraylength, 1) := by decide +kernel
theorem dX4_takenOfAll_9 : decode cX4_takenOfAll 9 = .ok (.istore_n 3, 1) := by decide +kernel
theorem dX4_takenOfAll_10 : decode cX4_takenOfAll 10 = .ok (.iconst 0, 1) := by decide +kernel
theorem dX4_takenOfAll_11 : decode cX4_takenOfAll 11 = .ok (.istore 4, 2) := by decide +kernel
theorem dX4_takenOfAll_13 : decode cX4_takenOfAll 13 = .ok (.iload 4, 2) := by decide +kernel
theorem dX4_takenOfAll_15 : decode cX4_takenOfAll 15 = .ok (.iload_n 3, 1) := by decide +kernel
theorem dX4_takenOfAll_16 : decode cX4_takenOfAll 16 = .ok (.if_icmp .ge 20, 3) := by decide +kernel
theorem dX4_takenOfAll_19 : decode cX4_takenOfAll 19 = .ok (.aload_n 2, 1) := by decide +kernel
theorem dX4_takenOfAll_20 : decode cX4_takenOfAll 20 = .ok (.iload 4, 2) := by decide +kernel
theorem dX4_takenOfAll_22 : decode cX4_takenOfAll 22 = .ok (.iaload, 1) := by decide +kernel
theorem dX4_takenOfAll_23 : decode cX4_takenOfAll 23 = .ok (.istore 5, 2) := by decide +kernel
theorem dX4_takenOfAll_25 : decode cX4_takenOfAll 25 = .ok (.iload_n 1, 1) := by decide +kernel
theorem dX4_takenOfAll_26 : decode cX4_takenOfAll 26 = .ok (.iload 5, 2) := by decide +kernel
theorem dX4_takenOfAll_28 : decode cX4_takenOfAll 28 = .ok (.iadd, 1) := by decide +kernel
theorem dX4_takenOfAll_29 : decode cX4_takenOfAll 29 = .ok (.istore_n 1, 1) := by decide +kernel
theorem dX4_takenOfAll_30 : decode cX4_takenOfAll 30 = .ok (.iinc 4 1, 3) := by decide +kernel
theorem dX4_takenOfAll_33 : decode cX4_takenOfAll 33 = .ok (.goto (-20), 3) := by decide +kernel
theorem dX4_takenOfAll_36 : decode cX4_takenOfAll 36 = .ok (.iload_n 1, 1) := by decide +kernel
theorem dX4_takenOfAll_37 : decode cX4_takenOfAll 37 = .ok (.ireturn, 1) := by decide +kernel
theorem dX4_cardAt_0 : decode cX4_cardAt 0 = .ok (.iload_n 1, 1) := by decide +kernel
theorem dX4_cardAt_1 : decode cX4_cardAt 1 = .ok (.ifCond .lt 29, 3) := by decide +kernel
theorem dX4_cardAt_4 : decode cX4_cardAt 4 = .ok (.iload_n 1, 1) := by decide +kernel
theorem dX4_cardAt_5 : decode cX4_cardAt 5 = .ok (.bipush 12, 2) := by decide +kernel
theorem dX4_cardAt_7 : decode cX4_cardAt 7 = .ok (.if_icmp .ge 23, 3) := by decide +kernel
theorem dX4_cardAt_10 : decode cX4_cardAt 10 = .ok (.iload_n 2, 1) := by decide +kernel
theorem dX4_cardAt_11 : decode cX4_cardAt 11 = .ok (.ifCond .lt 19, 3) := by decide +kernel
theorem dX4_cardAt_14 : decode cX4_cardAt 14 = .ok (.iload_n 2, 1) := by decide +kernel
theorem dX4_cardAt_15 : decode cX4_cardAt 15 = .ok (.aload_n 0, 1) := by decide +kernel
theorem dX4_cardAt_16 : decode cX4_cardAt 16 = .ok (.getfield 15, 3) := by decide +kernel
theorem dX4_cardAt_19 : decode cX4_cardAt 19 = .ok (.iload_n 1, 1) := by decide +kernel
theorem dX4_cardAt_20 : decode cX4_cardAt 20 = .ok (.iaload, 1) := by decide +kernel
theorem dX4_cardAt_21 : decode cX4_cardAt 21 = .ok (.if_icmp .ge 9, 3) := by decide +kernel
theorem dX4_cardAt_24 : decode cX4_cardAt 24 = .ok (.iload_n 2, 1) := by decide +kernel
theorem dX4_cardAt_25 : decode cX4_cardAt 25 = .ok (.bipush 50, 2) := by decide +kernel
theorem dX4_cardAt_27 : decode cX4_cardAt 27 = .ok (.if_icmp .lt 5, 3) := by decide +kernel
theorem dX4_cardAt_30 : decode cX4_cardAt 30 = .ok (.lconst 0, 1) := by decide +kernel
theorem dX4_cardAt_31 : decode cX4_cardAt 31 = .ok (.lreturn, 1) := by decide +kernel
theorem dX4_cardAt_32 : decode cX4_cardAt 32 = .ok (.aload_n 0, 1) := by decide +kernel
theorem dX4_cardAt_33 : decode cX4_cardAt 33 = .ok (.getfield 9, 3) := by decide +kernel
theorem dX4_cardAt_36 : decode cX4_cardAt 36 = .ok (.iload_n 1, 1) := by decide +kernel
theorem dX4_cardAt_37 : decode cX4_cardAt 37 = .ok (.bipush 50, 2) := by decide +kernel
theorem dX4_cardAt_39 : decode cX4_cardAt 39 = .ok (.imul, 1) := by decide +kernel
theorem dX4_cardAt_40 : decode cX4_cardAt 40 = .ok (.iload_n 2, 1) := by decide +kernel
theorem dX4_cardAt_41 : decode cX4_cardAt 41 = .ok (.iadd, 1) := by decide +kernel
theorem dX4_cardAt_42 : decode cX4_cardAt 42 = .ok (.laload, 1) := by decide +kernel
theorem dX4_cardAt_43 : decode cX4_cardAt 43 = .ok (.lreturn, 1) := by decide +kernel
theorem dX4_greatestOf_0 : decode cX4_greatestOf 0 = .ok (.aload_n 0, 1) := by decide +kernel
theorem dX4_greatestOf_1 : decode cX4_greatestOf 1 = .ok (.iload_n 1, 1) := by decide +kernel
theorem dX4_greatestOf_2 : decode cX4_greatestOf 2 = .ok (.aload_n 0, 1) := by decide +kernel
theorem dX4_greatestOf_3 : decode cX4_greatestOf 3 = .ok (.iload_n 1, 1) := by decide +kernel
theorem dX4_greatestOf_4 : decode cX4_greatestOf 4 = .ok (.invokevirtual 44, 3) := by decide +kernel
theorem dX4_greatestOf_7 : decode cX4_greatestOf 7 = .ok (.iconst 1, 1) := by decide +kernel
theorem dX4_greatestOf_8 : decode cX4_greatestOf 8 = .ok (.isub, 1) := by decide +kernel
theorem dX4_greatestOf_9 : decode cX4_greatestOf 9 = .ok (.invokevirtual 48, 3) := by decide +kernel
theorem dX4_greatestOf_12 : decode cX4_greatestOf 12 = .ok (.invokestatic 52, 3) := by decide +kernel
theorem dX4_greatestOf_15 : decode cX4_greatestOf 15 = .ok (.ireturn, 1) := by decide +kernel
theorem dX4_freeOnes_0 : decode cX4_freeOnes 0 = .ok (.iconst 0, 1) := by decide +kernel
theorem dX4_freeOnes_1 : decode cX4_freeOnes 1 = .ok (.istore_n 1, 1) := by decide +kernel
theorem dX4_freeOnes_2 : decode cX4_freeOnes 2 = .ok (.aload_n 0, 1) := by decide +kernel
theorem dX4_freeOnes_3 : decode cX4_freeOnes 3 = .ok (.getfield 22, 3) := by decide +kernel
theorem dX4_freeOnes_6 : decode cX4_freeOnes 6 = .ok (.astore_n 2, 1) := by decide +kernel
theorem dX4_freeOnes_7 : decode cX4_freeOnes 7 = .ok (.aload_n 2, 1) := by decide +kernel
theorem dX4_freeOnes_8 : decode cX4_freeOnes 8 = .ok (.arraylength, 1) := by decide +kernel
theorem dX4_freeOnes_9 : decode cX4_freeOnes 9 = .ok (.istore_n 3, 1) := by decide +kernel
theorem dX4_freeOnes_10 : decode cX4_freeOnes 10 = .ok (.iconst 0, 1) := by decide +kernel
theorem dX4_freeOnes_11 : decode cX4_freeOnes 11 = .ok (.istore 4, 2) := by decide +kernel
theorem dX4_freeOnes_13 : decode cX4_freeOnes 13 = .ok (.iload 4, 2) := by decide +kernel
theorem dX4_freeOnes_15 : decode cX4_freeOnes 15 = .ok (.iload_n 3, 1) := by decide +kernel
theorem dX4_freeOnes_16 : decode cX4_freeOnes 16 = .ok (.if_icmp .ge 28, 3) := by decide +kernel
theorem dX4_freeOnes_19 : decode cX4_freeOnes 19 = .ok (.aload_n 2, 1) := by decide +kernel
theorem dX4_freeOnes_20 : decode cX4_freeOnes 20 = .ok (.iload 4, 2) := by decide +kernel
theorem dX4_freeOnes_22 : decode cX4_freeOnes 22 = .ok (.iaload, 1) := by decide +kernel
theorem dX4_freeOnes_23 : decode cX4_freeOnes 23 = .ok (.istore 5, 2) := by decide +kernel
theorem dX4_freeOnes_25 : decode cX4_freeOnes 25 = .ok (.iload_n 1, 1) := by decide +kernel
theorem dX4_freeOnes_26 : decode cX4_freeOnes 26 = .ok (.iload 5, 2) := by decide +kernel
theorem dX4_freeOnes_28 : decode cX4_freeOnes 28 = .ok (.ifCond .ne 7, 3) := by decide +kernel
theorem dX4_freeOnes_31 : decode cX4_freeOnes 31 = .ok (.iconst 1, 1) := by decide +kernel
theorem dX4_freeOnes_32 : decode cX4_freeOnes 32 = .ok (.goto 4, 3) := by decide +kernel
theorem dX4_freeOnes_35 : decode cX4_freeOnes 35 = .ok (.iconst 0, 1) := by decide +kernel
theorem dX4_freeOnes_36 : decode cX4_freeOnes 36 = .ok (.iadd, 1) := by decide +kernel
theorem dX4_freeOnes_37 : decode cX4_freeOnes 37 = .ok (.istore_n 1, 1) := by decide +kernel
theorem dX4_freeOnes_38 : decode cX4_freeOnes 38 = .ok (.iinc 4 1, 3) := by decide +kernel
theorem dX4_freeOnes_41 : decode cX4_freeOnes 41 = .ok (.goto (-28), 3) := by decide +kernel
theorem dX4_freeOnes_44 : decode cX4_freeOnes 44 = .ok (.iload_n 1, 1) := by decide +kernel
theorem dX4_freeOnes_45 : decode cX4_freeOnes 45 = .ok (.ireturn, 1) := by decide +kernel
theorem dX4_leastFree_0 : decode cX4_leastFree 0 = .ok (.iconst 0, 1) := by decide +kernel
theorem dX4_leastFree_1 : decode cX4_leastFree 1 = .ok (.istore_n 1, 1) := by decide +kernel
theorem dX4_leastFree_2 : decode cX4_leastFree 2 = .ok (.iload_n 1, 1) := by decide +kernel
theorem dX4_leastFree_3 : decode cX4_leastFree 3 = .ok (.bipush 12, 2) := by decide +kernel
theorem dX4_leastFree_5 : decode cX4_leastFree 5 = .ok (.if_icmp .ge 20, 3) := by decide +kernel
theorem dX4_leastFree_8 : decode cX4_leastFree 8 = .ok (.aload_n 0, 1) := by decide +kernel
theorem dX4_leastFree_9 : decode cX4_leastFree 9 = .ok (.getfield 22, 3) := by decide +kernel
theorem dX4_leastFree_12 : decode cX4_leastFree 12 = .ok (.iload_n 1, 1) := by decide +kernel
theorem dX4_leastFree_13 : decode cX4_leastFree 13 = .ok (.iaload, 1) := by decide +kernel
theorem dX4_leastFree_14 : decode cX4_leastFree 14 = .ok (.ifCond .ne 5, 3) := by decide +kernel
theorem dX4_leastFree_17 : decode cX4_leastFree 17 = .ok (.iload_n 1, 1) := by decide +kernel
theorem dX4_leastFree_18 : decode cX4_leastFree 18 = .ok (.ireturn, 1) := by decide +kernel
theorem dX4_leastFree_19 : decode cX4_leastFree 19 = .ok (.iinc 1 1, 3) := by decide +kernel
theorem dX4_leastFree_22 : decode cX4_leastFree 22 = .ok (.goto (-20), 3) := by decide +kernel
theorem dX4_leastFree_25 : decode cX4_leastFree 25 = .ok (.iconst (-1), 1) := by decide +kernel
theorem dX4_leastFree_26 : decode cX4_leastFree 26 = .ok (.ireturn, 1) := by decide +kernel
theorem dX4_openAt_0 : decode cX4_openAt 0 = .ok (.iload_n 1, 1) := by decide +kernel
theorem dX4_openAt_1 : decode cX4_openAt 1 = .ok (.invokestatic 56, 3) := by decide +kernel
theorem dX4_openAt_4 : decode cX4_openAt 4 = .ok (.ifCond .eq 15, 3) := by decide +kernel
theorem dX4_openAt_7 : decode cX4_openAt 7 = .ok (.aload_n 0, 1) := by decide +kernel
theorem dX4_openAt_8 : decode cX4_openAt 8 = .ok (.iload_n 1, 1) := by decide +kernel
theorem dX4_openAt_9 : decode cX4_openAt 9 = .ok (.putfield 31, 3) := by decide +kernel
theorem dX4_openAt_12 : decode cX4_openAt 12 = .ok (.aload_n 0, 1) := by decide +kernel
theorem dX4_openAt_13 : decode cX4_openAt 13 = .ok (.getfield 22, 3) := by decide +kernel
theorem dX4_openAt_16 : decode cX4_openAt 16 = .ok (.iload_n 1, 1) := by decide +kernel
theorem dX4_openAt_17 : decode cX4_openAt 17 = .ok (.iconst 1, 1) := by decide +kernel
theorem dX4_openAt_18 : decode cX4_openAt 18 = .ok (.iastore, 1) := by decide +kernel
theorem dX4_openAt_19 : decode cX4_openAt 19 = .ok (.return_, 1) := by decide +kernel
theorem dX4_openNext_0 : decode cX4_openNext 0 = .ok (.aload_n 0, 1) := by decide +kernel
theorem dX4_openNext_1 : decode cX4_openNext 1 = .ok (.invokevirtual 60, 3) := by decide +kernel
theorem dX4_openNext_4 : decode cX4_openNext 4 = .ok (.istore_n 1, 1) := by decide +kernel
theorem dX4_openNext_5 : decode cX4_openNext 5 = .ok (.aload_n 0, 1) := by decide +kernel
theorem dX4_openNext_6 : decode cX4_openNext 6 = .ok (.getfield 31, 3) := by decide +kernel
theorem dX4_openNext_9 : decode cX4_openNext 9 = .ok (.invokestatic 56, 3) := by decide +kernel
theorem dX4_openNext_12 : decode cX4_openNext 12 = .ok (.ifCond .eq 23, 3) := by decide +kernel
theorem dX4_openNext_15 : decode cX4_openNext 15 = .ok (.iload_n 1, 1) := by decide +kernel
theorem dX4_openNext_16 : decode cX4_openNext 16 = .ok (.iconst (-1), 1) := by decide +kernel
theorem dX4_openNext_17 : decode cX4_openNext 17 = .ok (.if_icmp .eq 18, 3) := by decide +kernel
theorem dX4_openNext_20 : decode cX4_openNext 20 = .ok (.aload_n 0, 1) := by decide +kernel
theorem dX4_openNext_21 : decode cX4_openNext 21 = .ok (.getfield 22, 3) := by decide +kernel
theorem dX4_openNext_24 : decode cX4_openNext 24 = .ok (.aload_n 0, 1) := by decide +kernel
theorem dX4_openNext_25 : decode cX4_openNext 25 = .ok (.getfield 31, 3) := by decide +kernel
theorem dX4_openNext_28 : decode cX4_openNext 28 = .ok (.iconst 2, 1) := by decide +kernel
theorem dX4_openNext_29 : decode cX4_openNext 29 = .ok (.iastore, 1) := by decide +kernel
theorem dX4_openNext_30 : decode cX4_openNext 30 = .ok (.aload_n 0, 1) := by decide +kernel
theorem dX4_openNext_31 : decode cX4_openNext 31 = .ok (.iload_n 1, 1) := by decide +kernel
theorem dX4_openNext_32 : decode cX4_openNext 32 = .ok (.invokevirtual 39, 3) := by decide +kernel
theorem dX4_openNext_35 : decode cX4_openNext 35 = .ok (.return_, 1) := by decide +kernel
theorem dX4_release_0 : decode cX4_release 0 = .ok (.iload_n 1, 1) := by decide +kernel
theorem dX4_release_1 : decode cX4_release 1 = .ok (.invokestatic 56, 3) := by decide +kernel
theorem dX4_release_4 : decode cX4_release 4 = .ok (.ifCond .eq 24, 3) := by decide +kernel
theorem dX4_release_7 : decode cX4_release 7 = .ok (.aload_n 0, 1) := by decide +kernel
theorem dX4_release_8 : decode cX4_release 8 = .ok (.getfield 22, 3) := by decide +kernel
theorem dX4_release_11 : decode cX4_release 11 = .ok (.iload_n 1, 1) := by decide +kernel
theorem dX4_release_12 : decode cX4_release 12 = .ok (.iconst 0, 1) := by decide +kernel
theorem dX4_release_13 : decode cX4_release 13 = .ok (.iastore, 1) := by decide +kernel
theorem dX4_release_14 : decode cX4_release 14 = .ok (.aload_n 0, 1) := by decide +kernel
theorem dX4_release_15 : decode cX4_release 15 = .ok (.getfield 15, 3) := by decide +kernel
theorem dX4_release_18 : decode cX4_release 18 = .ok (.iload_n 1, 1) := by decide +kernel
theorem dX4_release_19 : decode cX4_release 19 = .ok (.iconst 0, 1) := by decide +kernel
theorem dX4_release_20 : decode cX4_release 20 = .ok (.iastore, 1) := by decide +kernel
theorem dX4_release_21 : decode cX4_release 21 = .ok (.aload_n 0, 1) := by decide +kernel
theorem dX4_release_22 : decode cX4_release 22 = .ok (.getfield 19, 3) := by decide +kernel
theorem dX4_release_25 : decode cX4_release 25 = .ok (.iload_n 1, 1) := by decide +kernel
theorem dX4_release_26 : decode cX4_release 26 = .ok (.iconst 0, 1) := by decide +kernel
theorem dX4_release_27 : decode cX4_release 27 = .ok (.iastore, 1) := by decide +kernel
theorem dX4_release_28 : decode cX4_release 28 = .ok (.return_, 1) := by decide +kernel
theorem dX4_append_0 : decode cX4_append 0 = .ok (.aload_n 0, 1) := by decide +kernel
theorem dX4_append_1 : decode cX4_append 1 = .ok (.aload_n 0, 1) := by decide +kernel
theorem dX4_append_2 : decode cX4_append 2 = .ok (.getfield 31, 3) := by decide +kernel
theorem dX4_append_5 : decode cX4_append 5 = .ok (.invokevirtual 44, 3) := by decide +kernel
theorem dX4_append_8 : decode cX4_append 8 = .ok (.istore 5, 2) := by decide +kernel
theorem dX4_append_10 : decode cX4_append 10 = .ok (.iload_n 1, 1) := by decide +kernel
theorem dX4_append_11 : decode cX4_append 11 = .ok (.aload_n 0, 1) := by decide +kernel
theorem dX4_append_12 : decode cX4_append 12 = .ok (.getfield 31, 3) := by decide +kernel
theorem dX4_append_15 : decode cX4_append 15 = .ok (.aload_n 0, 1) := by decide +kernel
theorem dX4_append_16 : decode cX4_append 16 = .ok (.aload_n 0, 1) := by decide +kernel
theorem dX4_append_17 : decode cX4_append 17 = .ok (.getfield 31, 3) := by decide +kernel
theorem dX4_append_20 : decode cX4_append 20 = .ok (.invokevirtual 64, 3) := by decide +kernel
theorem dX4_append_23 : decode cX4_append 23 = .ok (.iload_n 2, 1) := by decide +kernel
theorem dX4_append_24 : decode cX4_append 24 = .ok (.iload_n 3, 1) := by decide +kernel
theorem dX4_append_25 : decode cX4_append 25 = .ok (.iload 4, 2) := by decide +kernel
theorem dX4_append_27 : decode cX4_append 27 = .ok (.invokestatic 67, 3) := by decide +kernel
theorem dX4_append_30 : decode cX4_append 30 = .ok (.lstore 6, 2) := by decide +kernel
theorem dX4_append_32 : decode cX4_append 32 = .ok (.aload_n 0, 1) := by decide +kernel
theorem dX4_append_33 : decode cX4_append 33 = .ok (.getfield 31, 3) := by decide +kernel
theorem dX4_append_36 : decode cX4_append 36 = .ok (.invokestatic 56, 3) := by decide +kernel
theorem dX4_append_39 : decode cX4_append 39 = .ok (.ifCond .eq 55, 3) := by decide +kernel
theorem dX4_append_42 : decode cX4_append 42 = .ok (.iload 5, 2) := by decide +kernel
theorem dX4_append_44 : decode cX4_append 44 = .ok (.bipush 50, 2) := by decide +kernel
theorem dX4_append_46 : decode cX4_append 46 = .ok (.if_icmp .ge 48, 3) := by decide +kernel
theorem dX4_append_49 : decode cX4_append 49 = .ok (.aload_n 0, 1) := by decide +kernel
theorem dX4_append_50 : decode cX4_append 50 = .ok (.getfield 9, 3) := by decide +kernel
theorem dX4_append_53 : decode cX4_append 53 = .ok (.aload_n 0, 1) := by decide +kernel
theorem dX4_append_54 : decode cX4_append 54 = .ok (.getfield 31, 3) := by decide +kernel
theorem dX4_append_57 : decode cX4_append 57 = .ok (.bipush 50, 2) := by decide +kernel
theorem dX4_append_59 : decode cX4_append 59 = .ok (.imul, 1) := by decide +kernel
theorem dX4_append_60 : decode cX4_append 60 = .ok (.iload 5, 2) := by decide +kernel
theorem dX4_append_62 : decode cX4_append 62 = .ok (.iadd, 1) := by decide +kernel
theorem dX4_append_63 : decode cX4_append 63 = .ok (.lload 6, 2) := by decide +kernel
theorem dX4_append_65 : decode cX4_append 65 = .ok (.lastore, 1) := by decide +kernel
theorem dX4_append_66 : decode cX4_append 66 = .ok (.aload_n 0, 1) := by decide +kernel
theorem dX4_append_67 : decode cX4_append 67 = .ok (.getfield 15, 3) := by decide +kernel
theorem dX4_append_70 : decode cX4_append 70 = .ok (.aload_n 0, 1) := by decide +kernel
theorem dX4_append_71 : decode cX4_append 71 = .ok (.getfield 31, 3) := by decide +kernel
theorem dX4_append_74 : decode cX4_append 74 = .ok (.iload 5, 2) := by decide +kernel
theorem dX4_append_76 : decode cX4_append 76 = .ok (.iconst 1, 1) := by decide +kernel
theorem dX4_append_77 : decode cX4_append 77 = .ok (.iadd, 1) := by decide +kernel
theorem dX4_append_78 : decode cX4_append 78 = .ok (.iastore, 1) := by decide +kernel
theorem dX4_append_79 : decode cX4_append 79 = .ok (.aload_n 0, 1) := by decide +kernel
theorem dX4_append_80 : decode cX4_append 80 = .ok (.getfield 19, 3) := by decide +kernel
theorem dX4_append_83 : decode cX4_append 83 = .ok (.aload_n 0, 1) := by decide +kernel
theorem dX4_append_84 : decode cX4_append 84 = .ok (.getfield 31, 3) := by decide +kernel
theorem dX4_append_87 : decode cX4_append 87 = .ok (.dup2, 1) := by decide +kernel
theorem dX4_append_88 : decode cX4_append 88 = .ok (.iaload, 1) := by decide +kernel
theorem dX4_append_89 : decode cX4_append 89 = .ok (.iconst 4, 1) := by decide +kernel
theorem dX4_append_90 : decode cX4_append 90 = .ok (.iload_n 3, 1) := by decide +kernel
theorem dX4_append_91 : decode cX4_append 91 = .ok (.iadd, 1) := by decide +kernel
theorem dX4_append_92 : decode cX4_append 92 = .ok (.iadd, 1) := by decide +kernel
theorem dX4_append_93 : decode cX4_append 93 = .ok (.iastore, 1) := by decide +kernel
theorem dX4_append_94 : decode cX4_append 94 = .ok (.lload 6, 2) := by decide +kernel
theorem dX4_append_96 : decode cX4_append 96 = .ok (.lreturn, 1) := by decide +kernel
theorem dX4_cutAbove_0 : decode cX4_cutAbove 0 = .ok (.iconst 0, 1) := by decide +kernel
theorem dX4_cutAbove_1 : decode cX4_cutAbove 1 = .ok (.istore_n 2, 1) := by decide +kernel
theorem dX4_cutAbove_2 : decode cX4_cutAbove 2 = .ok (.iconst 0, 1) := by decide +kernel
theorem dX4_cutAbove_3 : decode cX4_cutAbove 3 = .ok (.istore_n 3, 1) := by decide +kernel
theorem dX4_cutAbove_4 : decode cX4_cutAbove 4 = .ok (.iload_n 3, 1) := by decide +kernel
theorem dX4_cutAbove_5 : decode cX4_cutAbove 5 = .ok (.bipush 12, 2) := by decide +kernel
theorem dX4_cutAbove_7 : decode cX4_cutAbove 7 = .ok (.if_icmp .ge 74, 3) := by decide +kernel
theorem dX4_cutAbove_10 : decode cX4_cutAbove 10 = .ok (.aload_n 0, 1) := by decide +kernel
theorem dX4_cutAbove_11 : decode cX4_cutAbove 11 = .ok (.getfield 15, 3) := by decide +kernel
theorem dX4_cutAbove_14 : decode cX4_cutAbove 14 = .ok (.iload_n 3, 1) := by decide +kernel
theorem dX4_cutAbove_15 : decode cX4_cutAbove 15 = .ok (.iaload, 1) := by decide +kernel
theorem dX4_cutAbove_16 : decode cX4_cutAbove 16 = .ok (.iconst 1, 1) := by decide +kernel
theorem dX4_cutAbove_17 : decode cX4_cutAbove 17 = .ok (.isub, 1) := by decide +kernel
theorem dX4_cutAbove_18 : decode cX4_cutAbove 18 = .ok (.istore 4, 2) := by decide +kernel
theorem dX4_cutAbove_20 : decode cX4_cutAbove 20 = .ok (.iload 4, 2) := by decide +kernel
theorem dX4_cutAbove_22 : decode cX4_cutAbove 22 = .ok (.ifCond .lt 53, 3) := by decide +kernel
theorem dX4_cutAbove_25 : decode cX4_cutAbove 25 = .ok (.aload_n 0, 1) := by decide +kernel
theorem dX4_cutAbove_26 : decode cX4_cutAbove 26 = .ok (.iload_n 3, 1) := by decide +kernel
theorem dX4_cutAbove_27 : decode cX4_cutAbove 27 = .ok (.iload 4, 2) := by decide +kernel
theorem dX4_cutAbove_29 : decode cX4_cutAbove 29 = .ok (.invokevirtual 48, 3) := by decide +kernel
theorem dX4_cutAbove_32 : decode cX4_cutAbove 32 = .ok (.invokestatic 52, 3) := by decide +kernel
theorem dX4_cutAbove_35 : decode cX4_cutAbove 35 = .ok (.iload_n 1, 1) := by decide +kernel
theorem dX4_cutAbove_36 : decode cX4_cutAbove 36 = .ok (.if_icmp .le 39, 3) := by decide +kernel
theorem dX4_cutAbove_39 : decode cX4_cutAbove 39 = .ok (.aload_n 0, 1) := by decide +kernel
theorem dX4_cutAbove_40 : decode cX4_cutAbove 40 = .ok (.getfield 19, 3) := by decide +kernel
theorem dX4_cutAbove_43 : decode cX4_cutAbove 43 = .ok (.iload_n 3, 1) := by decide +kernel
theorem dX4_cutAbove_44 : decode cX4_cutAbove 44 = .ok (.dup2, 1) := by decide +kernel
theorem dX4_cutAbove_45 : decode cX4_cutAbove 45 = .ok (.iaload, 1) := by decide +kernel
theorem dX4_cutAbove_46 : decode cX4_cutAbove 46 = .ok (.aload_n 0, 1) := by decide +kernel
theorem dX4_cutAbove_47 : decode cX4_cutAbove 47 = .ok (.iload_n 3, 1) := by decide +kernel
theorem dX4_cutAbove_48 : decode cX4_cutAbove 48 = .ok (.iload 4, 2) := by decide +kernel
theorem dX4_cutAbove_50 : decode cX4_cutAbove 50 = .ok (.invokevirtual 48, 3) := by decide +kernel
theorem dX4_cutAbove_53 : decode cX4_cutAbove 53 = .ok (.invokestatic 71, 3) := by decide +kernel
theorem dX4_cutAbove_56 : decode cX4_cutAbove 56 = .ok (.isub, 1) := by decide +kernel
theorem dX4_cutAbove_57 : decode cX4_cutAbove 57 = .ok (.iastore, 1) := by decide +kernel
theorem dX4_cutAbove_58 : decode cX4_cutAbove 58 = .ok (.aload_n 0, 1) := by decide +kernel
theorem dX4_cutAbove_59 : decode cX4_cutAbove 59 = .ok (.getfield 15, 3) := by decide +kernel
theorem dX4_cutAbove_62 : decode cX4_cutAbove 62 = .ok (.iload_n 3, 1) := by decide +kernel
theorem dX4_cutAbove_63 : decode cX4_cutAbove 63 = .ok (.iload 4, 2) := by decide +kernel
theorem dX4_cutAbove_65 : decode cX4_cutAbove 65 = .ok (.iastore, 1) := by decide +kernel
theorem dX4_cutAbove_66 : decode cX4_cutAbove 66 = .ok (.iinc 2 1, 3) := by decide +kernel
theorem dX4_cutAbove_69 : decode cX4_cutAbove 69 = .ok (.iinc 4 (-1), 3) := by decide +kernel
theorem dX4_cutAbove_72 : decode cX4_cutAbove 72 = .ok (.goto (-52), 3) := by decide +kernel
theorem dX4_cutAbove_75 : decode cX4_cutAbove 75 = .ok (.iinc 3 1, 3) := by decide +kernel
theorem dX4_cutAbove_78 : decode cX4_cutAbove 78 = .ok (.goto (-74), 3) := by decide +kernel
theorem dX4_cutAbove_81 : decode cX4_cutAbove 81 = .ok (.iload_n 2, 1) := by decide +kernel
theorem dX4_cutAbove_82 : decode cX4_cutAbove 82 = .ok (.ireturn, 1) := by decide +kernel
theorem dX4_openLatest_0 : decode cX4_openLatest 0 = .ok (.iconst 0, 1) := by decide +kernel
theorem dX4_openLatest_1 : decode cX4_openLatest 1 = .ok (.istore_n 1, 1) := by decide +kernel
theorem dX4_openLatest_2 : decode cX4_openLatest 2 = .ok (.iconst 0, 1) := by decide +kernel
theorem dX4_openLatest_3 : decode cX4_openLatest 3 = .ok (.istore_n 2, 1) := by decide +kernel
theorem dX4_openLatest_4 : decode cX4_openLatest 4 = .ok (.iload_n 2, 1) := by decide +kernel
theorem dX4_openLatest_5 : decode cX4_openLatest 5 = .ok (.bipush 12, 2) := by decide +kernel
theorem dX4_openLatest_7 : decode cX4_openLatest 7 = .ok (.if_icmp .ge 44, 3) := by decide +kernel
theorem dX4_openLatest_10 : decode cX4_openLatest 10 = .ok (.aload_n 0, 1) := by decide +kernel
theorem dX4_openLatest_11 : decode cX4_openLatest 11 = .ok (.getfield 22, 3) := by decide +kernel
theorem dX4_openLatest_14 : decode cX4_openLatest 14 = .ok (.iload_n 2, 1) := by decide +kernel
theorem dX4_openLatest_15 : decode cX4_openLatest 15 = .ok (.aload_n 0, 1) := by decide +kernel
theorem dX4_openLatest_16 : decode cX4_openLatest 16 = .ok (.getfield 15, 3) := by decide +kernel
theorem dX4_openLatest_19 : decode cX4_openLatest 19 = .ok (.iload_n 2, 1) := by decide +kernel
theorem dX4_openLatest_20 : decode cX4_openLatest 20 = .ok (.iaload, 1) := by decide +kernel
theorem dX4_openLatest_21 : decode cX4_openLatest 21 = .ok (.ifCond .ne 7, 3) := by decide +kernel
theorem dX4_openLatest_24 : decode cX4_openLatest 24 = .ok (.iconst 0, 1) := by decide +kernel
theorem dX4_openLatest_25 : decode cX4_openLatest 25 = .ok (.goto 4, 3) := by decide +kernel
theorem dX4_openLatest_28 : decode cX4_openLatest 28 = .ok (.iconst 2, 1) := by decide +kernel
theorem dX4_openLatest_29 : decode cX4_openLatest 29 = .ok (.iastore, 1) := by decide +kernel
theorem dX4_openLatest_30 : decode cX4_openLatest 30 = .ok (.aload_n 0, 1) := by decide +kernel
theorem dX4_openLatest_31 : decode cX4_openLatest 31 = .ok (.iload_n 2, 1) := by decide +kernel
theorem dX4_openLatest_32 : decode cX4_openLatest 32 = .ok (.invokevirtual 74, 3) := by decide +kernel
theorem dX4_openLatest_35 : decode cX4_openLatest 35 = .ok (.aload_n 0, 1) := by decide +kernel
theorem dX4_openLatest_36 : decode cX4_openLatest 36 = .ok (.iload_n 1, 1) := by decide +kernel
theorem dX4_openLatest_37 : decode cX4_openLatest 37 = .ok (.invokevirtual 74, 3) := by decide +kernel
theorem dX4_openLatest_40 : decode cX4_openLatest 40 = .ok (.if_icmp .le 5, 3) := by decide +kernel
theorem dX4_openLatest_43 : decode cX4_openLatest 43 = .ok (.iload_n 2, 1) := by decide +kernel
theorem dX4_openLatest_44 : decode cX4_openLatest 44 = .ok (.istore_n 1, 1) := by decide +kernel
theorem dX4_openLatest_45 : decode cX4_openLatest 45 = .ok (.iinc 2 1, 3) := by decide +kernel
theorem dX4_openLatest_48 : decode cX4_openLatest 48 = .ok (.goto (-44), 3) := by decide +kernel
theorem dX4_openLatest_51 : decode cX4_openLatest 51 = .ok (.aload_n 0, 1) := by decide +kernel
theorem dX4_openLatest_52 : decode cX4_openLatest 52 = .ok (.iload_n 1, 1) := by decide +kernel
theorem dX4_openLatest_53 : decode cX4_openLatest 53 = .ok (.invokevirtual 39, 3) := by decide +kernel
theorem dX4_openLatest_56 : decode cX4_openLatest 56 = .ok (.return_, 1) := by decide +kernel
theorem dX5_init_0 : decode cX5_init 0 = .ok (.aload_n 0, 1) := by decide +kernel
theorem dX5_init_1 : decode cX5_init 1 = .ok (.invokespecial 3, 3) := by decide +kernel
theorem dX5_init_4 : decode cX5_init 4 = .ok (.aload_n 0, 1) := by decide +kernel
theorem dX5_init_5 : decode cX5_init 5 = .ok (.new 9, 3) := by decide +kernel
theorem dX5_init_8 : decode cX5_init 8 = .ok (.dup, 1) := by decide +kernel
theorem dX5_init_9 : decode cX5_init 9 = .ok (.invokespecial 11, 3) := by decide +kernel
theorem dX5_init_12 : decode cX5_init 12 = .ok (.putfield 12, 3) := by decide +kernel
theorem dX5_init_15 : decode cX5_init 15 = .ok (.aload_n 0, 1) := by decide +kernel
theorem dX5_init_16 : decode cX5_init 16 = .ok (.new 18, 3) := by decide +kernel
theorem dX5_init_19 : decode cX5_init 19 = .ok (.dup, 1) := by decide +kernel
theorem dX5_init_20 : decode cX5_init 20 = .ok (.invokespecial 20, 3) := by decide +kernel
theorem dX5_init_23 : decode cX5_init 23 = .ok (.putfield 21, 3) := by decide +kernel
theorem dX5_init_26 : decode cX5_init 26 = .ok (.aload_n 0, 1) := by decide +kernel
theorem dX5_init_27 : decode cX5_init 27 = .ok (.new 25, 3) := by decide +kernel
theorem dX5_init_30 : decode cX5_init 30 = .ok (.dup, 1) := by decide +kernel
theorem dX5_init_31 : decode cX5_init 31 = .ok (.invokespecial 27, 3) := by decide +kernel
theorem dX5_init_34 : decode cX5_init 34 = .ok (.putfield 28, 3) := by decide +kernel
theorem dX5_init_37 : decode cX5_init 37 = .ok (.aload_n 0, 1) := by decide +kernel
theorem dX5_init_38 : decode cX5_init 38 = .ok (.new 32, 3) := by decide +kernel
theorem dX5_init_41 : decode cX5_init 41 = .ok (.dup, 1) := by decide +kernel
theorem dX5_init_42 : decode cX5_init 42 = .ok (.invokespecial 34, 3) := by decide +kernel
theorem dX5_init_45 : decode cX5_init 45 = .ok (.putfield 35, 3) := by decide +kernel
theorem dX5_init_48 : decode cX5_init 48 = .ok (.aload_n 0, 1) := by decide +kernel
theorem dX5_init_49 : decode cX5_init 49 = .ok (.new 39, 3) := by decide +kernel
theorem dX5_init_52 : decode cX5_init 52 = .ok (.dup, 1) := by decide +kernel
theorem dX5_init_53 : decode cX5_init 53 = .ok (.invokespecial 41, 3) := by decide +kernel
theorem dX5_init_56 : decode cX5_init 56 = .ok (.putfield 42, 3) := by decide +kernel
theorem dX5_init_59 : decode cX5_init 59 = .ok (.aload_n 0, 1) := by decide +kernel
theorem dX5_init_60 : decode cX5_init 60 = .ok (.new 46, 3) := by decide +kernel
theorem dX5_init_63 : decode cX5_init 63 = .ok (.dup, 1) := by decide +kernel
theorem dX5_init_64 : decode cX5_init 64 = .ok (.invokespecial 48, 3) := by decide +kernel
theorem dX5_init_67 : decode cX5_init 67 = .ok (.putfield 49, 3) := by decide +kernel
theorem dX5_init_70 : decode cX5_init 70 = .ok (.aload_n 0, 1) := by decide +kernel
theorem dX5_init_71 : decode cX5_init 71 = .ok (.bipush 100, 2) := by decide +kernel
theorem dX5_init_73 : decode cX5_init 73 = .ok (.bipush 8, 2) := by decide +kernel
theorem dX5_init_75 : decode cX5_init 75 = .ok (.bipush 6, 2) := by decide +kernel
theorem dX5_init_77 : decode cX5_init 77 = .ok (.iconst 3, 1) := by decide +kernel
theorem dX5_init_78 : decode cX5_init 78 = .ok (.invokevirtual 53, 3) := by decide +kernel
theorem dX5_init_81 : decode cX5_init 81 = .ok (.return_, 1) := by decide +kernel
theorem dX5_begin_0 : decode cX5_begin 0 = .ok (.aload_n 0, 1) := by decide +kernel
theorem dX5_begin_1 : decode cX5_begin 1 = .ok (.getfield 12, 3) := by decide +kernel
theorem dX5_begin_4 : decode cX5_begin 4 = .ok (.iload_n 1, 1) := by decide +kernel
theorem dX5_begin_5 : decode cX5_begin 5 = .ok (.putfield 57, 3) := by decide +kernel
theorem dX5_begin_8 : decode cX5_begin 8 = .ok (.aload_n 0, 1) := by decide +kernel
theorem dX5_begin_9 : decode cX5_begin 9 = .ok (.getfield 12, 3) := by decide +kernel
theorem dX5_begin_12 : decode cX5_begin 12 = .ok (.iload_n 2, 1) := by decide +kernel
theorem dX5_begin_13 : decode cX5_begin 13 = .ok (.putfield 61, 3) := by decide +kernel
theorem dX5_begin_16 : decode cX5_begin 16 = .ok (.aload_n 0, 1) := by decide +kernel
theorem dX5_begin_17 : decode cX5_begin 17 = .ok (.getfield 12, 3) := by decide +kernel
theorem dX5_begin_20 : decode cX5_begin 20 = .ok (.iload_n 3, 1) := by decide +kernel
theorem dX5_begin_21 : decode cX5_begin 21 = .ok (.putfield 64, 3) := by decide +kernel
theorem dX5_begin_24 : decode cX5_begin 24 = .ok (.aload_n 0, 1) := by decide +kernel
theorem dX5_begin_25 : decode cX5_begin 25 = .ok (.getfield 12, 3) := by decide +kernel
theorem dX5_begin_28 : decode cX5_begin 28 = .ok (.iload 4, 2) := by decide +kernel
theorem dX5_begin_30 : decode cX5_begin 30 = .ok (.putfield 67, 3) := by decide +kernel
theorem dX5_begin_33 : decode cX5_begin 33 = .ok (.aload_n 0, 1) := by decide +kernel
theorem dX5_begin_34 : decode cX5_begin 34 = .ok (.getfield 21, 3) := by decide +kernel
theorem dX5_begin_37 : decode cX5_begin 37 = .ok (.invokevirtual 70, 3) := by decide +kernel
theorem dX5_begin_40 : decode cX5_begin 40 = .ok (.aload_n 0, 1) := by decide +kernel
theorem dX5_begin_41 : decode cX5_begin 41 = .ok (.getfield 28, 3) := by decide +kernel
theorem dX5_begin_44 : decode cX5_begin 44 = .ok (.invokevirtual 73, 3) := by decide +kernel
theorem dX5_begin_47 : decode cX5_begin 47 = .ok (.aload_n 0, 1) := by decide +kernel
theorem dX5_begin_48 : decode cX5_begin 48 = .ok (.getfield 35, 3) := by decide +kernel
theorem dX5_begin_51 : decode cX5_begin 51 = .ok (.invokevirtual 74, 3) := by decide +kernel
theorem dX5_begin_54 : decode cX5_begin 54 = .ok (.aload_n 0, 1) := by decide +kernel
theorem dX5_begin_55 : decode cX5_begin 55 = .ok (.getfield 42, 3) := by decide +kernel
theorem dX5_begin_58 : decode cX5_begin 58 = .ok (.invokevirtual 75, 3) := by decide +kernel
theorem dX5_begin_61 : decode cX5_begin 61 = .ok (.aload_n 0, 1) := by decide +kernel
theorem dX5_begin_62 : decode cX5_begin 62 = .ok (.getfield 49, 3) := by decide +kernel
theorem dX5_begin_65 : decode cX5_begin 65 = .ok (.iconst 0, 1) := by decide +kernel
theorem dX5_begin_66 : decode cX5_begin 66 = .ok (.putfield 78, 3) := by decide +kernel
theorem dX5_begin_69 : decode cX5_begin 69 = .ok (.aload_n 0, 1) := by decide +kernel
theorem dX5_begin_70 : decode cX5_begin 70 = .ok (.iconst 0, 1) := by decide +kernel
theorem dX5_begin_71 : decode cX5_begin 71 = .ok (.putfield 81, 3) := by decide +kernel
theorem dX5_begin_74 : decode cX5_begin 74 = .ok (.aload_n 0, 1) := by decide +kernel
theorem dX5_begin_75 : decode cX5_begin 75 = .ok (.iconst 0, 1) := by decide +kernel
theorem dX5_begin_76 : decode cX5_begin 76 = .ok (.putfield 84, 3) := by decide +kernel
theorem dX5_begin_79 : decode cX5_begin 79 = .ok (.aload_n 0, 1) := by decide +kernel
theorem dX5_begin_80 : decode cX5_begin 80 = .ok (.iconst 0, 1) := by decide +kernel
theorem dX5_begin_81 : decode cX5_begin 81 = .ok (.putfield 87, 3) := by decide +kernel
theorem dX5_begin_84 : decode cX5_begin 84 = .ok (.return_, 1) := by decide +kernel
theorem dX5_copyFrom_0 : decode cX5_copyFrom 0 = .ok (.aload_n 0, 1) := by decide +kernel
theorem dX5_copyFrom_1 : decode cX5_copyFrom 1 = .ok (.getfield 12, 3) := by decide +kernel
theorem dX5_copyFrom_4 : decode cX5_copyFrom 4 = .ok (.aload_n 1, 1) := by decide +kernel
theorem dX5_copyFrom_5 : decode cX5_copyFrom 5 = .ok (.getfield 12, 3) := by decide +kernel
theorem dX5_copyFrom_8 : decode cX5_copyFrom 8 = .ok (.invokevirtual 90, 3) := by decide +kernel
theorem dX5_copyFrom_11 : decode cX5_copyFrom 11 = .ok (.aload_n 0, 1) := by decide +kernel
theorem dX5_copyFrom_12 : decode cX5_copyFrom 12 = .ok (.getfield 21, 3) := by decide +kernel
theorem dX5_copyFrom_15 : decode cX5_copyFrom 15 = .ok (.aload_n 1, 1) := by decide +kernel
theorem dX5_copyFrom_16 : decode cX5_copyFrom 16 = .ok (.getfield 21, 3) := by decide +kernel
theorem dX5_copyFrom_19 : decode cX5_copyFrom 19 = .ok (.invokevirtual 94, 3) := by decide +kernel
theorem dX5_copyFrom_22 : decode cX5_copyFrom 22 = .ok (.aload_n 0, 1) := by decide +kernel
theorem dX5_copyFrom_23 : decode cX5_copyFrom 23 = .ok (.getfield 28, 3) := by decide +kernel
theorem dX5_copyFrom_26 : decode cX5_copyFrom 26 = .ok (.aload_n 1, 1) := by decide +kernel
theorem dX5_copyFrom_27 : decode cX5_copyFrom 27 = .ok (.getfield 28, 3) := by decide +kernel
theorem dX5_copyFrom_30 : decode cX5_copyFrom 30 = .ok (.invokevirtual 97, 3) := by decide +kernel
theorem dX5_copyFrom_33 : decode cX5_copyFrom 33 = .ok (.aload_n 0, 1) := by decide +kernel
theorem dX5_copyFrom_34 : decode cX5_copyFrom 34 = .ok (.getfield 35, 3) := by decide +kernel
theorem dX5_copyFrom_37 : decode cX5_copyFrom 37 = .ok (.aload_n 1, 1) := by decide +kernel
theorem dX5_copyFrom_38 : decode cX5_copyFrom 38 = .ok (.getfield 35, 3) := by decide +kernel
theorem dX5_copyFrom_41 : decode cX5_copyFrom 41 = .ok (.invokevirtual 100, 3) := by decide +kernel
theorem dX5_copyFrom_44 : decode cX5_copyFrom 44 = .ok (.aload_n 0, 1) := by decide +kernel
theorem dX5_copyFrom_45 : decode cX5_copyFrom 45 = .ok (.getfield 42, 3) := by decide +kernel
theorem dX5_copyFrom_48 : decode cX5_copyFrom 48 = .ok (.aload_n 1, 1) := by decide +kernel
theorem dX5_copyFrom_49 : decode cX5_copyFrom 49 = .ok (.getfield 42, 3) := by decide +kernel
theorem dX5_copyFrom_52 : decode cX5_copyFrom 52 = .ok (.invokevirtual 103, 3) := by decide +kernel
theorem dX5_copyFrom_55 : decode cX5_copyFrom 55 = .ok (.aload_n 0, 1) := by decide +kernel
theorem dX5_copyFrom_56 : decode cX5_copyFrom 56 = .ok (.getfield 49, 3) := by decide +kernel
theorem dX5_copyFrom_59 : decode cX5_copyFrom 59 = .ok (.aload_n 1, 1) := by decide +kernel
theorem dX5_copyFrom_60 : decode cX5_copyFrom 60 = .ok (.getfield 49, 3) := by decide +kernel
theorem dX5_copyFrom_63 : decode cX5_copyFrom 63 = .ok (.invokevirtual 106, 3) := by decide +kernel
theorem dX5_copyFrom_66 : decode cX5_copyFrom 66 = .ok (.aload_n 0, 1) := by decide +kernel
theorem dX5_copyFrom_67 : decode cX5_copyFrom 67 = .ok (.aload_n 1, 1) := by decide +kernel
theorem dX5_copyFrom_68 : decode cX5_copyFrom 68 = .ok (.getfield 81, 3) := by decide +kernel
theorem dX5_copyFrom_71 : decode cX5_copyFrom 71 = .ok (.putfield 81, 3) := by decide +kernel
theorem dX5_copyFrom_74 : decode cX5_copyFrom 74 = .ok (.aload_n 0, 1) := by decide +kernel
theorem dX5_copyFrom_75 : decode cX5_copyFrom 75 = .ok (.aload_n 1, 1) := by decide +kernel
theorem dX5_copyFrom_76 : decode cX5_copyFrom 76 = .ok (.getfield 84, 3) := by decide +kernel
theorem dX5_copyFrom_79 : decode cX5_copyFrom 79 = .ok (.putfield 84, 3) := by decide +kernel
theorem dX5_copyFrom_82 : decode cX5_copyFrom 82 = .ok (.aload_n 0, 1) := by decide +kernel
theorem dX5_copyFrom_83 : decode cX5_copyFrom 83 = .ok (.aload_n 1, 1) := by decide +kernel
theorem dX5_copyFrom_84 : decode cX5_copyFrom 84 = .ok (.getfield 87, 3) := by decide +kernel
theorem dX5_copyFrom_87 : decode cX5_copyFrom 87 = .ok (.putfield 87, 3) := by decide +kernel
theorem dX5_copyFrom_90 : decode cX5_copyFrom 90 = .ok (.return_, 1) := by decide +kernel
theorem dX5_refusalOf_0 : decode cX5_refusalOf 0 = .ok (.iload_n 1, 1) := by decide +kernel
theorem dX5_refusalOf_1 : decode cX5_refusalOf 1 = .ok (.tableswitch 129 1 8 #[47, 63, 129, 129, 129, 89, 107, 113], 47) := by decide +kernel
theorem dX5_refusalOf_48 : decode cX5_refusalOf 48 = .ok (.aload_n 0, 1) := by decide +kernel
theorem dX5_refusalOf_49 : decode cX5_refusalOf 49 = .ok (.iconst 4, 1) := by decide +kernel
theorem dX5_refusalOf_50 : decode cX5_refusalOf 50 = .ok (.iload_n 3, 1) := by decide +kernel
theorem dX5_refusalOf_51 : decode cX5_refusalOf 51 = .ok (.iadd, 1) := by decide +kernel
theorem dX5_refusalOf_52 : decode cX5_refusalOf 52 = .ok (.invokevirtual 109, 3) := by decide +kernel
theorem dX5_refusalOf_55 : decode cX5_refusalOf 55 = .ok (.ifCond .eq 7, 3) := by decide +kernel
theorem dX5_refusalOf_58 : decode cX5_refusalOf 58 = .ok (.iconst 0, 1) := by decide +kernel
theorem dX5_refusalOf_59 : decode cX5_refusalOf 59 = .ok (.goto 4, 3) := by decide +kernel
theorem dX5_refusalOf_62 : decode cX5_refusalOf 62 = .ok (.iconst 1, 1) := by decide +kernel
theorem dX5_refusalOf_63 : decode cX5_refusalOf 63 = .ok (.ireturn, 1) := by decide +kernel
theorem dX5_refusalOf_64 : decode cX5_refusalOf 64 = .ok (.aload_n 0, 1) := by decide +kernel
theorem dX5_refusalOf_65 : decode cX5_refusalOf 65 = .ok (.iconst 4, 1) := by decide +kernel
theorem dX5_refusalOf_66 : decode cX5_refusalOf 66 = .ok (.invokevirtual 109, 3) := by decide +kernel
theorem dX5_refusalOf_69 : decode cX5_refusalOf 69 = .ok (.ifCond .ne 7, 3) := by decide +kernel
theorem dX5_refusalOf_72 : decode cX5_refusalOf 72 = .ok (.iconst 1, 1) := by decide +kernel
theorem dX5_refusalOf_73 : decode cX5_refusalOf 73 = .ok (.goto 16, 3) := by decide +kernel
theorem dX5_refusalOf_76 : decode cX5_refusalOf 76 = .ok (.aload_n 0, 1) := by decide +kernel
theorem dX5_refusalOf_77 : decode cX5_refusalOf 77 = .ok (.iload_n 2, 1) := by decide +kernel
theorem dX5_refusalOf_78 : decode cX5_refusalOf 78 = .ok (.invokevirtual 113, 3) := by decide +kernel
theorem dX5_refusalOf_81 : decode cX5_refusalOf 81 = .ok (.ifCond .eq 7, 3) := by decide +kernel
theorem dX5_refusalOf_84 : decode cX5_refusalOf 84 = .ok (.iconst 0, 1) := by decide +kernel
theorem dX5_refusalOf_85 : decode cX5_refusalOf 85 = .ok (.goto 4, 3) := by decide +kernel
theorem dX5_refusalOf_88 : decode cX5_refusalOf 88 = .ok (.iconst 2, 1) := by decide +kernel
theorem dX5_refusalOf_89 : decode cX5_refusalOf 89 = .ok (.ireturn, 1) := by decide +kernel
theorem dX5_refusalOf_90 : decode cX5_refusalOf 90 = .ok (.aload_n 0, 1) := by decide +kernel
theorem dX5_refusalOf_91 : decode cX5_refusalOf 91 = .ok (.iload_n 2, 1) := by decide +kernel
theorem dX5_refusalOf_92 : decode cX5_refusalOf 92 = .ok (.iconst (-1), 1) := by decide +kernel
theorem dX5_refusalOf_93 : decode cX5_refusalOf 93 = .ok (.if_icmp .ne 10, 3) := by decide +kernel
theorem dX5_refusalOf_96 : decode cX5_refusalOf 96 = .ok (.aload_n 0, 1) := by decide +kernel
theorem dX5_refusalOf_97 : decode cX5_refusalOf 97 = .ok (.invokevirtual 116, 3) := by decide +kernel
theorem dX5_refusalOf_100 : decode cX5_refusalOf 100 = .ok (.goto 4, 3) := by decide +kernel
theorem dX5_refusalOf_103 : decode cX5_refusalOf 103 = .ok (.iload_n 2, 1) := by decide +kernel
theorem dX5_refusalOf_104 : decode cX5_refusalOf 104 = .ok (.invokevirtual 120, 3) := by decide +kernel
theorem dX5_refusalOf_107 : decode cX5_refusalOf 107 = .ok (.ireturn, 1) := by decide +kernel
theorem dX5_refusalOf_108 : decode cX5_refusalOf 108 = .ok (.aload_n 0, 1) := by decide +kernel
theorem dX5_refusalOf_109 : decode cX5_refusalOf 109 = .ok (.iload_n 2, 1) := by decide +kernel
theorem dX5_refusalOf_110 : decode cX5_refusalOf 110 = .ok (.invokevirtual 124, 3) := by decide +kernel
theorem dX5_refusalOf_113 : decode cX5_refusalOf 113 = .ok (.ireturn, 1) := by decide +kernel
theorem dX5_refusalOf_114 : decode cX5_refusalOf 114 = .ok (.aload_n 0, 1) := by decide +kernel
theorem dX5_refusalOf_115 : decode cX5_refusalOf 115 = .ok (.getfield 42, 3) := by decide +kernel
theorem dX5_refusalOf_118 : decode cX5_refusalOf 118 = .ok (.invokevirtual 127, 3) := by decide +kernel
theorem dX5_refusalOf_121 : decode cX5_refusalOf 121 = .ok (.ifCond .eq 7, 3) := by decide +kernel
theorem dX5_refusalOf_124 : decode cX5_refusalOf 124 = .ok (.iconst 0, 1) := by decide +kernel
theorem dX5_refusalOf_125 : decode cX5_refusalOf 125 = .ok (.goto 4, 3) := by decide +kernel
theorem dX5_refusalOf_128 : decode cX5_refusalOf 128 = .ok (.iconst 5, 1) := by decide +kernel
theorem dX5_refusalOf_129 : decode cX5_refusalOf 129 = .ok (.ireturn, 1) := by decide +kernel
theorem dX5_refusalOf_130 : decode cX5_refusalOf 130 = .ok (.iconst 0, 1) := by decide +kernel
theorem dX5_refusalOf_131 : decode cX5_refusalOf 131 = .ok (.ireturn, 1) := by decide +kernel
theorem dX5_refusalOfPick_0 : decode cX5_refusalOfPick 0 = .ok (.aload_n 0, 1) := by decide +kernel
theorem dX5_refusalOfPick_1 : decode cX5_refusalOfPick 1 = .ok (.getfield 42, 3) := by decide +kernel
theorem dX5_refusalOfPick_4 : decode cX5_refusalOfPick 4 = .ok (.invokevirtual 127, 3) := by decide +kernel
theorem dX5_refusalOfPick_7 : decode cX5_refusalOfPick 7 = .ok (.ifCond .eq 5, 3) := by decide +kernel
theorem dX5_refusalOfPick_10 : decode cX5_refusalOfPick 10 = .ok (.iconst 3, 1) := by decide +kernel
theorem dX5_refusalOfPick_11 : decode cX5_refusalOfPick 11 = .ok (.ireturn, 1) := by decide +kernel
theorem dX5_refusalOfPick_12 : decode cX5_refusalOfPick 12 = .ok (.aload_n 0, 1) := by decide +kernel
theorem dX5_refusalOfPick_13 : decode cX5_refusalOfPick 13 = .ok (.getfield 28, 3) := by decide +kernel
theorem dX5_refusalOfPick_16 : decode cX5_refusalOfPick 16 = .ok (.iload_n 1, 1) := by decide +kernel
theorem dX5_refusalOfPick_17 : decode cX5_refusalOfPick 17 = .ok (.invokevirtual 131, 3) := by decide +kernel
theorem dX5_refusalOfPick_20 : decode cX5_refusalOfPick 20 = .ok (.iconst 2, 1) := by decide +kernel
theorem dX5_refusalOfPick_21 : decode cX5_refusalOfPick 21 = .ok (.if_icmp .ne 7, 3) := by decide +kernel
theorem dX5_refusalOfPick_24 : decode cX5_refusalOfPick 24 = .ok (.iconst 0, 1) := by decide +kernel
theorem dX5_refusalOfPick_25 : decode cX5_refusalOfPick 25 = .ok (.goto 4, 3) := by decide +kernel
theorem dX5_refusalOfPick_28 : decode cX5_refusalOfPick 28 = .ok (.iconst 4, 1) := by decide +kernel
theorem dX5_refusalOfPick_29 : decode cX5_refusalOfPick 29 = .ok (.ireturn, 1) := by decide +kernel
theorem dX5_refusalOfStep_0 : decode cX5_refusalOfStep 0 = .ok (.aload_n 0, 1) := by decide +kernel
theorem dX5_refusalOfStep_1 : decode cX5_refusalOfStep 1 = .ok (.getfield 42, 3) := by decide +kernel
theorem dX5_refusalOfStep_4 : decode cX5_refusalOfStep 4 = .ok (.invokevirtual 127, 3) := by decide +kernel
theorem dX5_refusalOfStep_7 : decode cX5_refusalOfStep 7 = .ok (.ifCond .ne 5, 3) := by decide +kernel
theorem dX5_refusalOfStep_10 : decode cX5_refusalOfStep 10 = .ok (.iconst 5, 1) := by decide +kernel
theorem dX5_refusalOfStep_11 : decode cX5_refusalOfStep 11 = .ok (.ireturn, 1) := by decide +kernel
theorem dX5_refusalOfStep_12 : decode cX5_refusalOfStep 12 = .ok (.iconst 0, 1) := by decide +kernel
theorem dX5_refusalOfStep_13 : decode cX5_refusalOfStep 13 = .ok (.istore_n 2, 1) := by decide +kernel
theorem dX5_refusalOfStep_14 : decode cX5_refusalOfStep 14 = .ok (.iload_n 2, 1) := by decide +kernel
theorem dX5_refusalOfStep_15 : decode cX5_refusalOfStep 15 = .ok (.iload_n 1, 1) := by decide +kernel
theorem dX5_refusalOfStep_16 : decode cX5_refusalOfStep 16 = .ok (.if_icmp .ge 54, 3) := by decide +kernel
theorem dX5_refusalOfStep_19 : decode cX5_refusalOfStep 19 = .ok (.iload_n 2, 1) := by decide +kernel
theorem dX5_refusalOfStep_20 : decode cX5_refusalOfStep 20 = .ok (.aload_n 0, 1) := by decide +kernel
theorem dX5_refusalOfStep_21 : decode cX5_refusalOfStep 21 = .ok (.getfield 42, 3) := by decide +kernel
theorem dX5_refusalOfStep_24 : decode cX5_refusalOfStep 24 = .ok (.invokevirtual 134, 3) := by decide +kernel
theorem dX5_refusalOfStep_27 : decode cX5_refusalOfStep 27 = .ok (.if_icmp .ge 43, 3) := by decide +kernel
theorem dX5_refusalOfStep_30 : decode cX5_refusalOfStep 30 = .ok (.aload_n 0, 1) := by decide +kernel
theorem dX5_refusalOfStep_31 : decode cX5_refusalOfStep 31 = .ok (.getfield 42, 3) := by decide +kernel
theorem dX5_refusalOfStep_34 : decode cX5_refusalOfStep 34 = .ok (.iload_n 2, 1) := by decide +kernel
theorem dX5_refusalOfStep_35 : decode cX5_refusalOfStep 35 = .ok (.invokevirtual 137, 3) := by decide +kernel
theorem dX5_refusalOfStep_38 : decode cX5_refusalOfStep 38 = .ok (.lstore_n 3, 1) := by decide +kernel
theorem dX5_refusalOfStep_39 : decode cX5_refusalOfStep 39 = .ok (.aload_n 0, 1) := by decide +kernel
theorem dX5_refusalOfStep_40 : decode cX5_refusalOfStep 40 = .ok (.lload_n 3, 1) := by decide +kernel
theorem dX5_refusalOfStep_41 : decode cX5_refusalOfStep 41 = .ok (.invokevirtual 141, 3) := by decide +kernel
theorem dX5_refusalOfStep_44 : decode cX5_refusalOfStep 44 = .ok (.ifCond .eq 20, 3) := by decide +kernel
theorem dX5_refusalOfStep_47 : decode cX5_refusalOfStep 47 = .ok (.aload_n 0, 1) := by decide +kernel
theorem dX5_refusalOfStep_48 : decode cX5_refusalOfStep 48 = .ok (.lload_n 3, 1) := by decide +kernel
theorem dX5_refusalOfStep_49 : decode cX5_refusalOfStep 49 = .ok (.invokestatic 145, 3) := by decide +kernel
theorem dX5_refusalOfStep_52 : decode cX5_refusalOfStep 52 = .ok (.invokevirtual 109, 3) := by decide +kernel
theorem dX5_refusalOfStep_55 : decode cX5_refusalOfStep 55 = .ok (.ifCond .eq 7, 3) := by decide +kernel
theorem dX5_refusalOfStep_58 : decode cX5_refusalOfStep 58 = .ok (.iconst 0, 1) := by decide +kernel
theorem dX5_refusalOfStep_59 : decode cX5_refusalOfStep 59 = .ok (.goto 4, 3) := by decide +kernel
theorem dX5_refusalOfStep_62 : decode cX5_refusalOfStep 62 = .ok (.iconst 1, 1) := by decide +kernel
theorem dX5_refusalOfStep_63 : decode cX5_refusalOfStep 63 = .ok (.ireturn, 1) := by decide +kernel
theorem dX5_refusalOfStep_64 : decode cX5_refusalOfStep 64 = .ok (.iinc 2 1, 3) := by decide +kernel
theorem dX5_refusalOfStep_67 : decode cX5_refusalOfStep 67 = .ok (.goto (-53), 3) := by decide +kernel
theorem dX5_refusalOfStep_70 : decode cX5_refusalOfStep 70 = .ok (.iconst 0, 1) := by decide +kernel
theorem dX5_refusalOfStep_71 : decode cX5_refusalOfStep 71 = .ok (.ireturn, 1) := by decide +kernel
theorem dX5_perform_0 : decode cX5_perform 0 = .ok (.iload_n 1, 1) := by decide +kernel
theorem dX5_perform_1 : decode cX5_perform 1 = .ok (.tableswitch 174 0 9 #[55, 73, 97, 118, 123, 135, 140, 158, 164, 169], 55) := by decide +kernel
theorem dX5_perform_56 : decode cX5_perform 56 = .ok (.aload_n 0, 1) := by decide +kernel
theorem dX5_perform_57 : decode cX5_perform 57 = .ok (.iload_n 2, 1) := by decide +kernel
theorem dX5_perform_58 : decode cX5_perform 58 = .ok (.iload_n 3, 1) := by decide +kernel
theorem dX5_perform_59 : decode cX5_perform 59 = .ok (.iload 4, 2) := by decide +kernel
theorem dX5_perform_61 : decode cX5_perform 61 = .ok (.iload 5, 2) := by decide +kernel
theorem dX5_perform_63 : decode cX5_perform 63 = .ok (.invokevirtual 53, 3) := by decide +kernel
theorem dX5_perform_66 : decode cX5_perform 66 = .ok (.aload_n 0, 1) := by decide +kernel
theorem dX5_perform_67 : decode cX5_perform 67 = .ok (.getfield 28, 3) := by decide +kernel
theorem dX5_perform_70 : decode cX5_perform 70 = .ok (.invokevirtual 151, 3) := by decide +kernel
theorem dX5_perform_73 : decode cX5_perform 73 = .ok (.ireturn, 1) := by decide +kernel
theorem dX5_perform_74 : decode cX5_perform 74 = .ok (.aload_n 0, 1) := by decide +kernel
theorem dX5_perform_75 : decode cX5_perform 75 = .ok (.getfield 21, 3) := by decide +kernel
theorem dX5_perform_78 : decode cX5_perform 78 = .ok (.dup, 1) := by decide +kernel
theorem dX5_perform_79 : decode cX5_perform 79 = .ok (.getfield 154, 3) := by decide +kernel
theorem dX5_perform_82 : decode cX5_perform 82 = .ok (.iconst 4, 1) := by decide +kernel
theorem dX5_perform_83 : decode cX5_perform 83 = .ok (.iload_n 3, 1) := by decide +kernel
theorem dX5_perform_84 : decode cX5_perform 84 = .ok (.iadd, 1) := by decide +kernel
theorem dX5_perform_85 : decode cX5_perform 85 = .ok (.iadd, 1) := by decide +kernel
theorem dX5_perform_86 : decode cX5_perform 86 = .ok (.putfield 154, 3) := by decide +kernel
theorem dX5_perform_89 : decode cX5_perform 89 = .ok (.aload_n 0, 1) := by decide +kernel
theorem dX5_perform_90 : decode cX5_perform 90 = .ok (.iload_n 2, 1) := by decide +kernel
theorem dX5_perform_91 : decode cX5_perform 91 = .ok (.iload_n 3, 1) := by decide +kernel
theorem dX5_perform_92 : decode cX5_perform 92 = .ok (.iload 4, 2) := by decide +kernel
theorem dX5_perform_94 : decode cX5_perform 94 = .ok (.invokevirtual 157, 3) := by decide +kernel
theorem dX5_perform_97 : decode cX5_perform 97 = .ok (.ireturn, 1) := by decide +kernel
theorem dX5_perform_98 : decode cX5_perform 98 = .ok (.aload_n 0, 1) := by decide +kernel
theorem dX5_perform_99 : decode cX5_perform 99 = .ok (.getfield 21, 3) := by decide +kernel
theorem dX5_perform_102 : decode cX5_perform 102 = .ok (.dup, 1) := by decide +kernel
theorem dX5_perform_103 : decode cX5_perform 103 = .ok (.getfield 154, 3) := by decide +kernel
theorem dX5_perform_106 : decode cX5_perform 106 = .ok (.iconst 4, 1) := by decide +kernel
theorem dX5_perform_107 : decode cX5_perform 107 = .ok (.iadd, 1) := by decide +kernel
theorem dX5_perform_108 : decode cX5_perform 108 = .ok (.putfield 154, 3) := by decide +kernel
theorem dX5_perform_111 : decode cX5_perform 111 = .ok (.aload_n 0, 1) := by decide +kernel
theorem dX5_perform_112 : decode cX5_perform 112 = .ok (.iload_n 2, 1) := by decide +kernel
theorem dX5_perform_113 : decode cX5_perform 113 = .ok (.iconst 0, 1) := by decide +kernel
theorem dX5_perform_114 : decode cX5_perform 114 = .ok (.iconst 0, 1) := by decide +kernel
theorem dX5_perform_115 : decode cX5_perform 115 = .ok (.invokevirtual 157, 3) := by decide +kernel
theorem dX5_perform_118 : decode cX5_perform 118 = .ok (.ireturn, 1) := by decide +kernel
theorem dX5_perform_119 : decode cX5_perform 119 = .ok (.aload_n 0, 1) := by decide +kernel
theorem dX5_perform_120 : decode cX5_perform 120 = .ok (.invokevirtual 161, 3) := by decide +kernel
theorem dX5_perform_123 : decode cX5_perform 123 = .ok (.ireturn, 1) := by decide +kernel
theorem dX5_perform_124 : decode cX5_perform 124 = .ok (.aload_n 0, 1) := by decide +kernel
theorem dX5_perform_125 : decode cX5_perform 125 = .ok (.invokevirtual 164, 3) := by decide +kernel
theorem dX5_perform_128 : decode cX5_perform 128 = .ok (.aload_n 0, 1) := by decide +kernel
theorem dX5_perform_129 : decode cX5_perform 129 = .ok (.getfield 35, 3) := by decide +kernel
theorem dX5_perform_132 : decode cX5_perform 132 = .ok (.getfield 167, 3) := by decide +kernel
theorem dX5_perform_135 : decode cX5_perform 135 = .ok (.ireturn, 1) := by decide +kernel
theorem dX5_perform_136 : decode cX5_perform 136 = .ok (.aload_n 0, 1) := by decide +kernel
theorem dX5_perform_137 : decode cX5_perform 137 = .ok (.invokevirtual 170, 3) := by decide +kernel
theorem dX5_perform_140 : decode cX5_perform 140 = .ok (.ireturn, 1) := by decide +kernel
theorem dX5_perform_141 : decode cX5_perform 141 = .ok (.aload_n 0, 1) := by decide +kernel
theorem dX5_perform_142 : decode cX5_perform 142 = .ok (.iload_n 2, 1) := by decide +kernel
theorem dX5_perform_143 : decode cX5_perform 143 = .ok (.iconst (-1), 1) := by decide +kernel
theorem dX5_perform_144 : decode cX5_perform 144 = .ok (.if_icmp .ne 10, 3) := by decide +kernel
theorem dX5_perform_147 : decode cX5_perform 147 = .ok (.aload_n 0, 1) := by decide +kernel
theorem dX5_perform_148 : decode cX5_perform 148 = .ok (.invokevirtual 116, 3) := by decide +kernel
theorem dX5_perform_151 : decode cX5_perform 151 = .ok (.goto 4, 3) := by decide +kernel
theorem dX5_perform_154 : decode cX5_perform 154 = .ok (.iload_n 2, 1) := by decide +kernel
theorem dX5_perform_155 : decode cX5_perform 155 = .ok (.invokevirtual 173, 3) := by decide +kernel
theorem dX5_perform_158 : decode cX5_perform 158 = .ok (.ireturn, 1) := by decide +kernel
theorem dX5_perform_159 : decode cX5_perform 159 = .ok (.aload_n 0, 1) := by decide +kernel
theorem dX5_perform_160 : decode cX5_perform 160 = .ok (.iload_n 2, 1) := by decide +kernel
theorem dX5_perform_161 : decode cX5_perform 161 = .ok (.invokevirtual 176, 3) := by decide +kernel
theorem dX5_perform_164 : decode cX5_perform 164 = .ok (.ireturn, 1) := by decide +kernel
theorem dX5_perform_165 : decode cX5_perform 165 = .ok (.aload_n 0, 1) := by decide +kernel
theorem dX5_perform_166 : decode cX5_perform 166 = .ok (.invokevirtual 179, 3) := by decide +kernel
theorem dX5_perform_169 : decode cX5_perform 169 = .ok (.ireturn, 1) := by decide +kernel
theorem dX5_perform_170 : decode cX5_perform 170 = .ok (.aload_n 0, 1) := by decide +kernel
theorem dX5_perform_171 : decode cX5_perform 171 = .ok (.invokevirtual 182, 3) := by decide +kernel
theorem dX5_perform_174 : decode cX5_perform 174 = .ok (.ireturn, 1) := by decide +kernel
theorem dX5_perform_175 : decode cX5_perform 175 = .ok (.iconst (-1), 1) := by decide +kernel
theorem dX5_perform_176 : decode cX5_perform 176 = .ok (.ireturn, 1) := by decide +kernel
theorem dX5_enter_0 : decode cX5_enter 0 = .ok (.iconst 4, 1) := by decide +kernel
theorem dX5_enter_1 : decode cX5_enter 1 = .ok (.iload_n 2, 1) := by decide +kernel
theorem dX5_enter_2 : decode cX5_enter 2 = .ok (.iadd, 1) := by decide +kernel
theorem dX5_enter_3 : decode cX5_enter 3 = .ok (.istore 4, 2) := by decide +kernel
theorem dX5_enter_5 : decode cX5_enter 5 = .ok (.aload_n 0, 1) := by decide +kernel
theorem dX5_enter_6 : decode cX5_enter 6 = .ok (.getfield 35, 3) := by decide +kernel
theorem dX5_enter_9 : decode cX5_enter 9 = .ok (.iload_n 1, 1) := by decide +kernel
theorem dX5_enter_10 : decode cX5_enter 10 = .ok (.aload_n 0, 1) := by decide +kernel
theorem dX5_enter_11 : decode cX5_enter 11 = .ok (.getfield 12, 3) := by decide +kernel
theorem dX5_enter_14 : decode cX5_enter 14 = .ok (.getfield 64, 3) := by decide +kernel
theorem dX5_enter_17 : decode cX5_enter 17 = .ok (.invokevirtual 185, 3) := by decide +kernel
theorem dX5_enter_20 : decode cX5_enter 20 = .ok (.ifCond .eq 7, 3) := by decide +kernel
theorem dX5_enter_23 : decode cX5_enter 23 = .ok (.aload_n 0, 1) := by decide +kernel
theorem dX5_enter_24 : decode cX5_enter 24 = .ok (.invokevirtual 164, 3) := by decide +kernel
theorem dX5_enter_27 : decode cX5_enter 27 = .ok (.aload_n 0, 1) := by decide +kernel
theorem dX5_enter_28 : decode cX5_enter 28 = .ok (.invokevirtual 189, 3) := by decide +kernel
theorem dX5_enter_31 : decode cX5_enter 31 = .ok (.iload 4, 2) := by decide +kernel
theorem dX5_enter_33 : decode cX5_enter 33 = .ok (.if_icmp .ge 29, 3) := by decide +kernel
theorem dX5_enter_36 : decode cX5_enter 36 = .ok (.aload_n 0, 1) := by decide +kernel
theorem dX5_enter_37 : decode cX5_enter 37 = .ok (.getfield 49, 3) := by decide +kernel
theorem dX5_enter_40 : decode cX5_enter 40 = .ok (.iconst 4, 1) := by decide +kernel
theorem dX5_enter_41 : decode cX5_enter 41 = .ok (.aload_n 0, 1) := by decide +kernel
theorem dX5_enter_42 : decode cX5_enter 42 = .ok (.getfield 28, 3) := by decide +kernel
theorem dX5_enter_45 : decode cX5_enter 45 = .ok (.getfield 192, 3) := by decide +kernel
theorem dX5_enter_48 : decode cX5_enter 48 = .ok (.aload_n 0, 1) := by decide +kernel
theorem dX5_enter_49 : decode cX5_enter 49 = .ok (.getfield 81, 3) := by decide +kernel
theorem dX5_enter_52 : decode cX5_enter 52 = .ok (.invokevirtual 195, 3) := by decide +kernel
theorem dX5_enter_55 : decode cX5_enter 55 = .ok (.aload_n 0, 1) := by decide +kernel
theorem dX5_enter_56 : decode cX5_enter 56 = .ok (.getfield 28, 3) := by decide +kernel
theorem dX5_enter_59 : decode cX5_enter 59 = .ok (.invokevirtual 199, 3) := by decide +kernel
theorem dX5_enter_62 : decode cX5_enter 62 = .ok (.aload_n 0, 1) := by decide +kernel
theorem dX5_enter_63 : decode cX5_enter 63 = .ok (.dup, 1) := by decide +kernel
theorem dX5_enter_64 : decode cX5_enter 64 = .ok (.getfield 81, 3) := by decide +kernel
theorem dX5_enter_67 : decode cX5_enter 67 = .ok (.iconst 1, 1) := by decide +kernel
theorem dX5_enter_68 : decode cX5_enter 68 = .ok (.iadd, 1) := by decide +kernel
theorem dX5_enter_69 : decode cX5_enter 69 = .ok (.putfield 81, 3) := by decide +kernel
theorem dX5_enter_72 : decode cX5_enter 72 = .ok (.aload_n 0, 1) := by decide +kernel
theorem dX5_enter_73 : decode cX5_enter 73 = .ok (.getfield 21, 3) := by decide +kernel
theorem dX5_enter_76 : decode cX5_enter 76 = .ok (.dup, 1) := by decide +kernel
theorem dX5_enter_77 : decode cX5_enter 77 = .ok (.getfield 202, 3) := by decide +kernel
theorem dX5_enter_80 : decode cX5_enter 80 = .ok (.iload 4, 2) := by decide +kernel
theorem dX5_enter_82 : decode cX5_enter 82 = .ok (.iadd, 1) := by decide +kernel
theorem dX5_enter_83 : decode cX5_enter 83 = .ok (.putfield 202, 3) := by decide +kernel
theorem dX5_enter_86 : decode cX5_enter 86 = .ok (.aload_n 0, 1) := by decide +kernel
theorem dX5_enter_87 : decode cX5_enter 87 = .ok (.getfield 35, 3) := by decide +kernel
theorem dX5_enter_90 : decode cX5_enter 90 = .ok (.aload_n 0, 1) := by decide +kernel
theorem dX5_enter_91 : decode cX5_enter 91 = .ok (.getfield 28, 3) := by decide +kernel
theorem dX5_enter_94 : decode cX5_enter 94 = .ok (.aload_n 0, 1) := by decide +kernel
theorem dX5_enter_95 : decode cX5_enter 95 = .ok (.getfield 81, 3) := by decide +kernel
theorem dX5_enter_98 : decode cX5_enter 98 = .ok (.iload_n 1, 1) := by decide +kernel
theorem dX5_enter_99 : decode cX5_enter 99 = .ok (.iload_n 2, 1) := by decide +kernel
theorem dX5_enter_100 : decode cX5_enter 100 = .ok (.iload_n 3, 1) := by decide +kernel
theorem dX5_enter_101 : decode cX5_enter 101 = .ok (.invokevirtual 205, 3) := by decide +kernel
theorem dX5_enter_104 : decode cX5_enter 104 = .ok (.invokevirtual 209, 3) := by decide +kernel
theorem dX5_enter_107 : decode cX5_enter 107 = .ok (.aload_n 0, 1) := by decide +kernel
theorem dX5_enter_108 : decode cX5_enter 108 = .ok (.getfield 81, 3) := by decide +kernel
theorem dX5_enter_111 : decode cX5_enter 111 = .ok (.ireturn, 1) := by decide +kernel
theorem dX5_secureAll_0 : decode cX5_secureAll 0 = .ok (.aload_n 0, 1) := by decide +kernel
theorem dX5_secureAll_1 : decode cX5_secureAll 1 = .ok (.getfield 81, 3) := by decide +kernel
theorem dX5_secureAll_4 : decode cX5_secureAll 4 = .ok (.aload_n 0, 1) := by decide +kernel
theorem dX5_secureAll_5 : decode cX5_secureAll 5 = .ok (.getfield 84, 3) := by decide +kernel
theorem dX5_secureAll_8 : decode cX5_secureAll 8 = .ok (.isub, 1) := by decide +kernel
theorem dX5_secureAll_9 : decode cX5_secureAll 9 = .ok (.istore_n 1, 1) := by decide +kernel
theorem dX5_secureAll_10 : decode cX5_secureAll 10 = .ok (.aload_n 0, 1) := by decide +kernel
theorem dX5_secureAll_11 : decode cX5_secureAll 11 = .ok (.aload_n 0, 1) := by decide +kernel
theorem dX5_secureAll_12 : decode cX5_secureAll 12 = .ok (.getfield 81, 3) := by decide +kernel
theorem dX5_secureAll_15 : decode cX5_secureAll 15 = .ok (.putfield 84, 3) := by decide +kernel
theorem dX5_secureAll_18 : decode cX5_secureAll 18 = .ok (.iload_n 1, 1) := by decide +kernel
theorem dX5_secureAll_19 : decode cX5_secureAll 19 = .ok (.ireturn, 1) := by decide +kernel
theorem dX5_flushTable_0 : decode cX5_flushTable 0 = .ok (.aload_n 0, 1) := by decide +kernel
theorem dX5_flushTable_1 : decode cX5_flushTable 1 = .ok (.getfield 35, 3) := by decide +kernel
theorem dX5_flushTable_4 : decode cX5_flushTable 4 = .ok (.iconst 0, 1) := by decide +kernel
theorem dX5_flushTable_5 : decode cX5_flushTable 5 = .ok (.invokevirtual 213, 3) := by decide +kernel
theorem dX5_flushTable_8 : decode cX5_flushTable 8 = .ok (.istore_n 1, 1) := by decide +kernel
theorem dX5_flushTable_9 : decode cX5_flushTable 9 = .ok (.aload_n 0, 1) := by decide +kernel
theorem dX5_flushTable_10 : decode cX5_flushTable 10 = .ok (.invokevirtual 161, 3) := by decide +kernel
theorem dX5_flushTable_13 : decode cX5_flushTable 13 = .ok (.pop, 1) := by decide +kernel
theorem dX5_flushTable_14 : decode cX5_flushTable 14 = .ok (.aload_n 0, 1) := by decide +kernel
theorem dX5_flushTable_15 : decode cX5_flushTable 15 = .ok (.aload_n 0, 1) := by decide +kernel
theorem dX5_flushTable_16 : decode cX5_flushTable 16 = .ok (.getfield 81, 3) := by decide +kernel
theorem dX5_flushTable_19 : decode cX5_flushTable 19 = .ok (.putfield 87, 3) := by decide +kernel
theorem dX5_flushTable_22 : decode cX5_flushTable 22 = .ok (.iload_n 1, 1) := by decide +kernel
theorem dX5_flushTable_23 : decode cX5_flushTable 23 = .ok (.ifCond .le 36, 3) := by decide +kernel
theorem dX5_flushTable_26 : decode cX5_flushTable 26 = .ok (.aload_n 0, 1) := by decide +kernel
theorem dX5_flushTable_27 : decode cX5_flushTable 27 = .ok (.getfield 35, 3) := by decide +kernel
theorem dX5_flushTable_30 : decode cX5_flushTable 30 = .ok (.invokevirtual 215, 3) := by decide +kernel
theorem dX5_flushTable_33 : decode cX5_flushTable 33 = .ok (.aload_n 0, 1) := by decide +kernel
theorem dX5_flushTable_34 : decode cX5_flushTable 34 = .ok (.getfield 21, 3) := by decide +kernel
theorem dX5_flushTable_37 : decode cX5_flushTable 37 = .ok (.dup, 1) := by decide +kernel
theorem dX5_flushTable_38 : decode cX5_flushTable 38 = .ok (.getfield 218, 3) := by decide +kernel
theorem dX5_flushTable_41 : decode cX5_flushTable 41 = .ok (.iload_n 1, 1) := by decide +kernel
theorem dX5_flushTable_42 : decode cX5_flushTable 42 = .ok (.iadd, 1) := by decide +kernel
theorem dX5_flushTable_43 : decode cX5_flushTable 43 = .ok (.putfield 218, 3) := by decide +kernel
theorem dX5_flushTable_46 : decode cX5_flushTable 46 = .ok (.aload_n 0, 1) := by decide +kernel
theorem dX5_flushTable_47 : decode cX5_flushTable 47 = .ok (.getfield 49, 3) := by decide +kernel
theorem dX5_flushTable_50 : decode cX5_flushTable 50 = .ok (.iconst 0, 1) := by decide +kernel
theorem dX5_flushTable_51 : decode cX5_flushTable 51 = .ok (.iload_n 1, 1) := by decide +kernel
theorem dX5_flushTable_52 : decode cX5_flushTable 52 = .ok (.aload_n 0, 1) := by decide +kernel
theorem dX5_flushTable_53 : decode cX5_flushTable 53 = .ok (.getfield 81, 3) := by decide +kernel
theorem dX5_flushTable_56 : decode cX5_flushTable 56 = .ok (.invokevirtual 195, 3) := by decide +kernel
theorem dX5_flushTable_59 : decode cX5_flushTable 59 = .ok (.aload_n 0, 1) := by decide +kernel
theorem dX5_flushTable_60 : decode cX5_flushTable 60 = .ok (.getfield 35, 3) := by decide +kernel
theorem dX5_flushTable_63 : decode cX5_flushTable 63 = .ok (.getfield 167, 3) := by decide +kernel
theorem dX5_flushTable_66 : decode cX5_flushTable 66 = .ok (.aload_n 0, 1) := by decide +kernel
theorem dX5_flushTable_67 : decode cX5_flushTable 67 = .ok (.getfield 12, 3) := by decide +kernel
theorem dX5_flushTable_70 : decode cX5_flushTable 70 = .ok (.getfield 67, 3) := by decide +kernel
theorem dX5_flushTable_73 : decode cX5_flushTable 73 = .ok (.if_icmp .le 8, 3) := by decide +kernel
theorem dX5_flushTable_76 : decode cX5_flushTable 76 = .ok (.aload_n 0, 1) := by decide +kernel
theorem dX5_flushTable_77 : decode cX5_flushTable 77 = .ok (.invokevirtual 182, 3) := by decide +kernel
theorem dX5_flushTable_80 : decode cX5_flushTable 80 = .ok (.pop, 1) := by decide +kernel
theorem dX5_flushTable_81 : decode cX5_flushTable 81 = .ok (.return_, 1) := by decide +kernel
theorem dX5_mergeRuns_0 : decode cX5_mergeRuns 0 = .ok (.aload_n 0, 1) := by decide +kernel
theorem dX5_mergeRuns_1 : decode cX5_mergeRuns 1 = .ok (.getfield 35, 3) := by decide +kernel
theorem dX5_mergeRuns_4 : decode cX5_mergeRuns 4 = .ok (.getfield 167, 3) := by decide +kernel
theorem dX5_mergeRuns_7 : decode cX5_mergeRuns 7 = .ok (.istore_n 1, 1) := by decide +kernel
theorem dX5_mergeRuns_8 : decode cX5_mergeRuns 8 = .ok (.aload_n 0, 1) := by decide +kernel
theorem dX5_mergeRuns_9 : decode cX5_mergeRuns 9 = .ok (.getfield 35, 3) := by decide +kernel
theorem dX5_mergeRuns_12 : decode cX5_mergeRuns 12 = .ok (.invokevirtual 221, 3) := by decide +kernel
theorem dX5_mergeRuns_15 : decode cX5_mergeRuns 15 = .ok (.istore_n 2, 1) := by decide +kernel
theorem dX5_mergeRuns_16 : decode cX5_mergeRuns 16 = .ok (.aload_n 0, 1) := by decide +kernel
theorem dX5_mergeRuns_17 : decode cX5_mergeRuns 17 = .ok (.getfield 35, 3) := by decide +kernel
theorem dX5_mergeRuns_20 : decode cX5_mergeRuns 20 = .ok (.invokevirtual 224, 3) := by decide +kernel
theorem dX5_mergeRuns_23 : decode cX5_mergeRuns 23 = .ok (.istore_n 3, 1) := by decide +kernel
theorem dX5_mergeRuns_24 : decode cX5_mergeRuns 24 = .ok (.iload_n 1, 1) := by decide +kernel
theorem dX5_mergeRuns_25 : decode cX5_mergeRuns 25 = .ok (.iconst 1, 1) := by decide +kernel
theorem dX5_mergeRuns_26 : decode cX5_mergeRuns 26 = .ok (.if_icmp .le 29, 3) := by decide +kernel
theorem dX5_mergeRuns_29 : decode cX5_mergeRuns 29 = .ok (.aload_n 0, 1) := by decide +kernel
theorem dX5_mergeRuns_30 : decode cX5_mergeRuns 30 = .ok (.getfield 21, 3) := by decide +kernel
theorem dX5_mergeRuns_33 : decode cX5_mergeRuns 33 = .ok (.dup, 1) := by decide +kernel
theorem dX5_mergeRuns_34 : decode cX5_mergeRuns 34 = .ok (.getfield 218, 3) := by decide +kernel
theorem dX5_mergeRuns_37 : decode cX5_mergeRuns 37 = .ok (.iload_n 3, 1) := by decide +kernel
theorem dX5_mergeRuns_38 : decode cX5_mergeRuns 38 = .ok (.iadd, 1) := by decide +kernel
theorem dX5_mergeRuns_39 : decode cX5_mergeRuns 39 = .ok (.putfield 218, 3) := by decide +kernel
theorem dX5_mergeRuns_42 : decode cX5_mergeRuns 42 = .ok (.aload_n 0, 1) := by decide +kernel
theorem dX5_mergeRuns_43 : decode cX5_mergeRuns 43 = .ok (.getfield 49, 3) := by decide +kernel
theorem dX5_mergeRuns_46 : decode cX5_mergeRuns 46 = .ok (.iconst 1, 1) := by decide +kernel
theorem dX5_mergeRuns_47 : decode cX5_mergeRuns 47 = .ok (.iload_n 3, 1) := by decide +kernel
theorem dX5_mergeRuns_48 : decode cX5_mergeRuns 48 = .ok (.aload_n 0, 1) := by decide +kernel
theorem dX5_mergeRuns_49 : decode cX5_mergeRuns 49 = .ok (.getfield 81, 3) := by decide +kernel
theorem dX5_mergeRuns_52 : decode cX5_mergeRuns 52 = .ok (.invokevirtual 195, 3) := by decide +kernel
theorem dX5_mergeRuns_55 : decode cX5_mergeRuns 55 = .ok (.iload_n 2, 1) := by decide +kernel
theorem dX5_mergeRuns_56 : decode cX5_mergeRuns 56 = .ok (.iload_n 3, 1) := by decide +kernel
theorem dX5_mergeRuns_57 : decode cX5_mergeRuns 57 = .ok (.isub, 1) := by decide +kernel
theorem dX5_mergeRuns_58 : decode cX5_mergeRuns 58 = .ok (.ireturn, 1) := by decide +kernel
theorem dX5_loseUnsecured_0 : decode cX5_loseUnsecured 0 = .ok (.aload_n 0, 1) := by decide +kernel
theorem dX5_loseUnsecured_1 : decode cX5_loseUnsecured 1 = .ok (.getfield 28, 3) := by decide +kernel
theorem dX5_loseUnsecured_4 : decode cX5_loseUnsecured 4 = .ok (.aload_n 0, 1) := by decide +kernel
theorem dX5_loseUnsecured_5 : decode cX5_loseUnsecured 5 = .ok (.getfield 84, 3) := by decide +kernel
theorem dX5_loseUnsecured_8 : decode cX5_loseUnsecured 8 = .ok (.invokevirtual 227, 3) := by decide +kernel
theorem dX5_loseUnsecured_11 : decode cX5_loseUnsecured 11 = .ok (.istore_n 1, 1) := by decide +kernel
theorem dX5_loseUnsecured_12 : decode cX5_loseUnsecured 12 = .ok (.aload_n 0, 1) := by decide +kernel
theorem dX5_loseUnsecured_13 : decode cX5_loseUnsecured 13 = .ok (.getfield 28, 3) := by decide +kernel
theorem dX5_loseUnsecured_16 : decode cX5_loseUnsecured 16 = .ok (.invokevirtual 230, 3) := by decide +kernel
theorem dX5_loseUnsecured_19 : decode cX5_loseUnsecured 19 = .ok (.aload_n 0, 1) := by decide +kernel
theorem dX5_loseUnsecured_20 : decode cX5_loseUnsecured 20 = .ok (.getfield 42, 3) := by decide +kernel
theorem dX5_loseUnsecured_23 : decode cX5_loseUnsecured 23 = .ok (.invokevirtual 75, 3) := by decide +kernel
theorem dX5_loseUnsecured_26 : decode cX5_loseUnsecured 26 = .ok (.aload_n 0, 1) := by decide +kernel
theorem dX5_loseUnsecured_27 : decode cX5_loseUnsecured 27 = .ok (.getfield 49, 3) := by decide +kernel
theorem dX5_loseUnsecured_30 : decode cX5_loseUnsecured 30 = .ok (.iconst 3, 1) := by decide +kernel
theorem dX5_loseUnsecured_31 : decode cX5_loseUnsecured 31 = .ok (.iload_n 1, 1) := by decide +kernel
theorem dX5_loseUnsecured_32 : decode cX5_loseUnsecured 32 = .ok (.aload_n 0, 1) := by decide +kernel
theorem dX5_loseUnsecured_33 : decode cX5_loseUnsecured 33 = .ok (.getfield 81, 3) := by decide +kernel
theorem dX5_loseUnsecured_36 : decode cX5_loseUnsecured 36 = .ok (.invokevirtual 195, 3) := by decide +kernel
theorem dX5_loseUnsecured_39 : decode cX5_loseUnsecured 39 = .ok (.aload_n 0, 1) := by decide +kernel
theorem dX5_loseUnsecured_40 : decode cX5_loseUnsecured 40 = .ok (.aload_n 0, 1) := by decide +kernel
theorem dX5_loseUnsecured_41 : decode cX5_loseUnsecured 41 = .ok (.getfield 84, 3) := by decide +kernel
theorem dX5_loseUnsecured_44 : decode cX5_loseUnsecured 44 = .ok (.aload_n 0, 1) := by decide +kernel
theorem dX5_loseUnsecured_45 : decode cX5_loseUnsecured 45 = .ok (.getfield 87, 3) := by decide +kernel
theorem dX5_loseUnsecured_48 : decode cX5_loseUnsecured 48 = .ok (.invokestatic 233, 3) := by decide +kernel
theorem dX5_loseUnsecured_51 : decode cX5_loseUnsecured 51 = .ok (.putfield 81, 3) := by decide +kernel
theorem dX5_loseUnsecured_54 : decode cX5_loseUnsecured 54 = .ok (.aload_n 0, 1) := by decide +kernel
theorem dX5_loseUnsecured_55 : decode cX5_loseUnsecured 55 = .ok (.invokevirtual 239, 3) := by decide +kernel
theorem dX5_loseUnsecured_58 : decode cX5_loseUnsecured 58 = .ok (.iload_n 1, 1) := by decide +kernel
theorem dX5_loseUnsecured_59 : decode cX5_loseUnsecured 59 = .ok (.ireturn, 1) := by decide +kernel
theorem dX5_replay_0 : decode cX5_replay 0 = .ok (.aload_n 0, 1) := by decide +kernel
theorem dX5_replay_1 : decode cX5_replay 1 = .ok (.getfield 35, 3) := by decide +kernel
theorem dX5_replay_4 : decode cX5_replay 4 = .ok (.iconst 0, 1) := by decide +kernel
theorem dX5_replay_5 : decode cX5_replay 5 = .ok (.invokevirtual 242, 3) := by decide +kernel
theorem dX5_replay_8 : decode cX5_replay 8 = .ok (.iconst 0, 1) := by decide +kernel
theorem dX5_replay_9 : decode cX5_replay 9 = .ok (.istore_n 1, 1) := by decide +kernel
theorem dX5_replay_10 : decode cX5_replay 10 = .ok (.iload_n 1, 1) := by decide +kernel
theorem dX5_replay_11 : decode cX5_replay 11 = .ok (.bipush 12, 2) := by decide +kernel
theorem dX5_replay_13 : decode cX5_replay 13 = .ok (.if_icmp .ge 84, 3) := by decide +kernel
theorem dX5_replay_16 : decode cX5_replay 16 = .ok (.iconst 0, 1) := by decide +kernel
theorem dX5_replay_17 : decode cX5_replay 17 = .ok (.istore_n 2, 1) := by decide +kernel
theorem dX5_replay_18 : decode cX5_replay 18 = .ok (.iload_n 2, 1) := by decide +kernel
theorem dX5_replay_19 : decode cX5_replay 19 = .ok (.aload_n 0, 1) := by decide +kernel
theorem dX5_replay_20 : decode cX5_replay 20 = .ok (.getfield 28, 3) := by decide +kernel
theorem dX5_replay_23 : decode cX5_replay 23 = .ok (.iload_n 1, 1) := by decide +kernel
theorem dX5_replay_24 : decode cX5_replay 24 = .ok (.invokevirtual 246, 3) := by decide +kernel
theorem dX5_replay_27 : decode cX5_replay 27 = .ok (.if_icmp .ge 64, 3) := by decide +kernel
theorem dX5_replay_30 : decode cX5_replay 30 = .ok (.aload_n 0, 1) := by decide +kernel
theorem dX5_replay_31 : decode cX5_replay 31 = .ok (.getfield 28, 3) := by decide +kernel
theorem dX5_replay_34 : decode cX5_replay 34 = .ok (.iload_n 1, 1) := by decide +kernel
theorem dX5_replay_35 : decode cX5_replay 35 = .ok (.iload_n 2, 1) := by decide +kernel
theorem dX5_replay_36 : decode cX5_replay 36 = .ok (.invokevirtual 249, 3) := by decide +kernel
theorem dX5_replay_39 : decode cX5_replay 39 = .ok (.lstore_n 3, 1) := by decide +kernel
theorem dX5_replay_40 : decode cX5_replay 40 = .ok (.aload_n 0, 1) := by decide +kernel
theorem dX5_replay_41 : decode cX5_replay 41 = .ok (.getfield 35, 3) := by decide +kernel
theorem dX5_replay_44 : decode cX5_replay 44 = .ok (.iconst 0, 1) := by decide +kernel
theorem dX5_replay_45 : decode cX5_replay 45 = .ok (.lload_n 3, 1) := by decide +kernel
theorem dX5_replay_46 : decode cX5_replay 46 = .ok (.invokestatic 253, 3) := by decide +kernel
theorem dX5_replay_49 : decode cX5_replay 49 = .ok (.invokevirtual 256, 3) := by decide +kernel
theorem dX5_replay_52 : decode cX5_replay 52 = .ok (.invokestatic 259, 3) := by decide +kernel
theorem dX5_replay_55 : decode cX5_replay 55 = .ok (.istore 5, 2) := by decide +kernel
theorem dX5_replay_57 : decode cX5_replay 57 = .ok (.lload_n 3, 1) := by decide +kernel
theorem dX5_replay_58 : decode cX5_replay 58 = .ok (.invokestatic 259, 3) := by decide +kernel
theorem dX5_replay_61 : decode cX5_replay 61 = .ok (.aload_n 0, 1) := by decide +kernel
theorem dX5_replay_62 : decode cX5_replay 62 = .ok (.getfield 87, 3) := by decide +kernel
theorem dX5_replay_65 : decode cX5_replay 65 = .ok (.if_icmp .le 20, 3) := by decide +kernel
theorem dX5_replay_68 : decode cX5_replay 68 = .ok (.lload_n 3, 1) := by decide +kernel
theorem dX5_replay_69 : decode cX5_replay 69 = .ok (.invokestatic 259, 3) := by decide +kernel
theorem dX5_replay_72 : decode cX5_replay 72 = .ok (.iload 5, 2) := by decide +kernel
theorem dX5_replay_74 : decode cX5_replay 74 = .ok (.if_icmp .le 11, 3) := by decide +kernel
theorem dX5_replay_77 : decode cX5_replay 77 = .ok (.aload_n 0, 1) := by decide +kernel
theorem dX5_replay_78 : decode cX5_replay 78 = .ok (.getfield 35, 3) := by decide +kernel
theorem dX5_replay_81 : decode cX5_replay 81 = .ok (.lload_n 3, 1) := by decide +kernel
theorem dX5_replay_82 : decode cX5_replay 82 = .ok (.invokevirtual 209, 3) := by decide +kernel
theorem dX5_replay_85 : decode cX5_replay 85 = .ok (.iinc 2 1, 3) := by decide +kernel
theorem dX5_replay_88 : decode cX5_replay 88 = .ok (.goto (-70), 3) := by decide +kernel
theorem dX5_replay_91 : decode cX5_replay 91 = .ok (.iinc 1 1, 3) := by decide +kernel
theorem dX5_replay_94 : decode cX5_replay 94 = .ok (.goto (-84), 3) := by decide +kernel
theorem dX5_replay_97 : decode cX5_replay 97 = .ok (.return_, 1) := by decide +kernel
theorem dX5_noteLive_0 : decode cX5_noteLive 0 = .ok (.aload_n 0, 1) := by decide +kernel
theorem dX5_noteLive_1 : decode cX5_noteLive 1 = .ok (.getfield 42, 3) := by decide +kernel
theorem dX5_noteLive_4 : decode cX5_noteLive 4 = .ok (.iload_n 1, 1) := by decide +kernel
theorem dX5_noteLive_5 : decode cX5_noteLive 5 = .ok (.invokevirtual 262, 3) := by decide +kernel
theorem dX5_noteLive_8 : decode cX5_noteLive 8 = .ok (.iconst 0, 1) := by decide +kernel
theorem dX5_noteLive_9 : decode cX5_noteLive 9 = .ok (.istore_n 2, 1) := by decide +kernel
theorem dX5_noteLive_10 : decode cX5_noteLive 10 = .ok (.iload_n 2, 1) := by decide +kernel
theorem dX5_noteLive_11 : decode cX5_noteLive 11 = .ok (.aload_n 0, 1) := by decide +kernel
theorem dX5_noteLive_12 : decode cX5_noteLive 12 = .ok (.getfield 28, 3) := by decide +kernel
theorem dX5_noteLive_15 : decode cX5_noteLive 15 = .ok (.iload_n 1, 1) := by decide +kernel
theorem dX5_noteLive_16 : decode cX5_noteLive 16 = .ok (.invokevirtual 246, 3) := by decide +kernel
theorem dX5_noteLive_19 : decode cX5_noteLive 19 = .ok (.if_icmp .ge 35, 3) := by decide +kernel
theorem dX5_noteLive_22 : decode cX5_noteLive 22 = .ok (.aload_n 0, 1) := by decide +kernel
theorem dX5_noteLive_23 : decode cX5_noteLive 23 = .ok (.getfield 28, 3) := by decide +kernel
theorem dX5_noteLive_26 : decode cX5_noteLive 26 = .ok (.iload_n 1, 1) := by decide +kernel
theorem dX5_noteLive_27 : decode cX5_noteLive 27 = .ok (.iload_n 2, 1) := by decide +kernel
theorem dX5_noteLive_28 : decode cX5_noteLive 28 = .ok (.invokevirtual 249, 3) := by decide +kernel
theorem dX5_noteLive_31 : decode cX5_noteLive 31 = .ok (.lstore_n 3, 1) := by decide +kernel
theorem dX5_noteLive_32 : decode cX5_noteLive 32 = .ok (.aload_n 0, 1) := by decide +kernel
theorem dX5_noteLive_33 : decode cX5_noteLive 33 = .ok (.lload_n 3, 1) := by decide +kernel
theorem dX5_noteLive_34 : decode cX5_noteLive 34 = .ok (.invokevirtual 141, 3) := by decide +kernel
theorem dX5_noteLive_37 : decode cX5_noteLive 37 = .ok (.ifCond .eq 11, 3) := by decide +kernel
theorem dX5_noteLive_40 : decode cX5_noteLive 40 = .ok (.aload_n 0, 1) := by decide +kernel
theorem dX5_noteLive_41 : decode cX5_noteLive 41 = .ok (.getfield 42, 3) := by decide +kernel
theorem dX5_noteLive_44 : decode cX5_noteLive 44 = .ok (.lload_n 3, 1) := by decide +kernel
theorem dX5_noteLive_45 : decode cX5_noteLive 45 = .ok (.invokevirtual 265, 3) := by decide +kernel
theorem dX5_noteLive_48 : decode cX5_noteLive 48 = .ok (.iinc 2 1, 3) := by decide +kernel
theorem dX5_noteLive_51 : decode cX5_noteLive 51 = .ok (.goto (-41), 3) := by decide +kernel
theorem dX5_noteLive_54 : decode cX5_noteLive 54 = .ok (.aload_n 0, 1) := by decide +kernel
theorem dX5_noteLive_55 : decode cX5_noteLive 55 = .ok (.getfield 42, 3) := by decide +kernel
theorem dX5_noteLive_58 : decode cX5_noteLive 58 = .ok (.getfield 268, 3) := by decide +kernel
theorem dX5_noteLive_61 : decode cX5_noteLive 61 = .ok (.ireturn, 1) := by decide +kernel
theorem dX5_collect_0 : decode cX5_collect 0 = .ok (.iconst 0, 1) := by decide +kernel
theorem dX5_collect_1 : decode cX5_collect 1 = .ok (.istore_n 2, 1) := by decide +kernel
theorem dX5_collect_2 : decode cX5_collect 2 = .ok (.iconst 0, 1) := by decide +kernel
theorem dX5_collect_3 : decode cX5_collect 3 = .ok (.istore_n 3, 1) := by decide +kernel
theorem dX5_collect_4 : decode cX5_collect 4 = .ok (.iload_n 3, 1) := by decide +kernel
theorem dX5_collect_5 : decode cX5_collect 5 = .ok (.iload_n 1, 1) := by decide +kernel
theorem dX5_collect_6 : decode cX5_collect 6 = .ok (.if_icmp .ge 144, 3) := by decide +kernel
theorem dX5_collect_9 : decode cX5_collect 9 = .ok (.aload_n 0, 1) := by decide +kernel
theorem dX5_collect_10 : decode cX5_collect 10 = .ok (.getfield 42, 3) := by decide +kernel
theorem dX5_collect_13 : decode cX5_collect 13 = .ok (.invokevirtual 127, 3) := by decide +kernel
theorem dX5_collect_16 : decode cX5_collect 16 = .ok (.ifCond .eq 134, 3) := by decide +kernel
theorem dX5_collect_19 : decode cX5_collect 19 = .ok (.aload_n 0, 1) := by decide +kernel
theorem dX5_collect_20 : decode cX5_collect 20 = .ok (.getfield 42, 3) := by decide +kernel
theorem dX5_collect_23 : decode cX5_collect 23 = .ok (.invokevirtual 134, 3) := by decide +kernel
theorem dX5_collect_26 : decode cX5_collect 26 = .ok (.ifCond .le 104, 3) := by decide +kernel
theorem dX5_collect_29 : decode cX5_collect 29 = .ok (.aload_n 0, 1) := by decide +kernel
theorem dX5_collect_30 : decode cX5_collect 30 = .ok (.getfield 42, 3) := by decide +kernel
theorem dX5_collect_33 : decode cX5_collect 33 = .ok (.iconst 0, 1) := by decide +kernel
theorem dX5_collect_34 : decode cX5_collect 34 = .ok (.invokevirtual 137, 3) := by decide +kernel
theorem dX5_collect_37 : decode cX5_collect 37 = .ok (.lstore 4, 2) := by decide +kernel
theorem dX5_collect_39 : decode cX5_collect 39 = .ok (.aload_n 0, 1) := by decide +kernel
theorem dX5_collect_40 : decode cX5_collect 40 = .ok (.lload 4, 2) := by decide +kernel
theorem dX5_collect_42 : decode cX5_collect 42 = .ok (.invokevirtual 141, 3) := by decide +kernel
theorem dX5_collect_45 : decode cX5_collect 45 = .ok (.ifCond .ne 19, 3) := by decide +kernel
theorem dX5_collect_48 : decode cX5_collect 48 = .ok (.aload_n 0, 1) := by decide +kernel
theorem dX5_collect_49 : decode cX5_collect 49 = .ok (.getfield 21, 3) := by decide +kernel
theorem dX5_collect_52 : decode cX5_collect 52 = .ok (.dup, 1) := by decide +kernel
theorem dX5_collect_53 : decode cX5_collect 53 = .ok (.getfield 269, 3) := by decide +kernel
theorem dX5_collect_56 : decode cX5_collect 56 = .ok (.iconst 1, 1) := by decide +kernel
theorem dX5_collect_57 : decode cX5_collect 57 = .ok (.iadd, 1) := by decide +kernel
theorem dX5_collect_58 : decode cX5_collect 58 = .ok (.putfield 269, 3) := by decide +kernel
theorem dX5_collect_61 : decode cX5_collect 61 = .ok (.goto 56, 3) := by decide +kernel
theorem dX5_collect_64 : decode cX5_collect 64 = .ok (.aload_n 0, 1) := by decide +kernel
theorem dX5_collect_65 : decode cX5_collect 65 = .ok (.lload 4, 2) := by decide +kernel
theorem dX5_collect_67 : decode cX5_collect 67 = .ok (.invokestatic 145, 3) := by decide +kernel
theorem dX5_collect_70 : decode cX5_collect 70 = .ok (.invokevirtual 109, 3) := by decide +kernel
theorem dX5_collect_73 : decode cX5_collect 73 = .ok (.ifCond .eq 42, 3) := by decide +kernel
theorem dX5_collect_76 : decode cX5_collect 76 = .ok (.aload_n 0, 1) := by decide +kernel
theorem dX5_collect_77 : decode cX5_collect 77 = .ok (.lload 4, 2) := by decide +kernel
theorem dX5_collect_79 : decode cX5_collect 79 = .ok (.invokestatic 253, 3) := by decide +kernel
theorem dX5_collect_82 : decode cX5_collect 82 = .ok (.lload 4, 2) := by decide +kernel
theorem dX5_collect_84 : decode cX5_collect 84 = .ok (.invokestatic 272, 3) := by decide +kernel
theorem dX5_collect_87 : decode cX5_collect 87 = .ok (.lload 4, 2) := by decide +kernel
theorem dX5_collect_89 : decode cX5_collect 89 = .ok (.invokestatic 275, 3) := by decide +kernel
theorem dX5_collect_92 : decode cX5_collect 92 = .ok (.invokevirtual 157, 3) := by decide +kernel
theorem dX5_collect_95 : decode cX5_collect 95 = .ok (.pop, 1) := by decide +kernel
theorem dX5_collect_96 : decode cX5_collect 96 = .ok (.aload_n 0, 1) := by decide +kernel
theorem dX5_collect_97 : decode cX5_collect 97 = .ok (.getfield 21, 3) := by decide +kernel
theorem dX5_collect_100 : decode cX5_collect 100 = .ok (.dup, 1) := by decide +kernel
theorem dX5_collect_101 : decode cX5_collect 101 = .ok (.getfield 278, 3) := by decide +kernel
theorem dX5_collect_104 : decode cX5_collect 104 = .ok (.iconst 1, 1) := by decide +kernel
theorem dX5_collect_105 : decode cX5_collect 105 = .ok (.iadd, 1) := by decide +kernel
theorem dX5_collect_106 : decode cX5_collect 106 = .ok (.putfield 278, 3) := by decide +kernel
theorem dX5_collect_109 : decode cX5_collect 109 = .ok (.iinc 2 1, 3) := by decide +kernel
theorem dX5_collect_112 : decode cX5_collect 112 = .ok (.goto 5, 3) := by decide +kernel
theorem dX5_collect_115 : decode cX5_collect 115 = .ok (.iload_n 2, 1) := by decide +kernel
theorem dX5_collect_116 : decode cX5_collect 116 = .ok (.ireturn, 1) := by decide +kernel
theorem dX5_collect_117 : decode cX5_collect 117 = .ok (.aload_n 0, 1) := by decide +kernel
theorem dX5_collect_118 : decode cX5_collect 118 = .ok (.getfield 42, 3) := by decide +kernel
theorem dX5_collect_121 : decode cX5_collect 121 = .ok (.dup, 1) := by decide +kernel
theorem dX5_collect_122 : decode cX5_collect 122 = .ok (.getfield 281, 3) := by decide +kernel
theorem dX5_collect_125 : decode cX5_collect 125 = .ok (.iconst 1, 1) := by decide +kernel
theorem dX5_collect_126 : decode cX5_collect 126 = .ok (.iadd, 1) := by decide +kernel
theorem dX5_collect_127 : decode cX5_collect 127 = .ok (.putfield 281, 3) := by decide +kernel
theorem dX5_collect_130 : decode cX5_collect 130 = .ok (.aload_n 0, 1) := by decide +kernel
theorem dX5_collect_131 : decode cX5_collect 131 = .ok (.getfield 42, 3) := by decide +kernel
theorem dX5_collect_134 : decode cX5_collect 134 = .ok (.invokevirtual 134, 3) := by decide +kernel
theorem dX5_collect_137 : decode cX5_collect 137 = .ok (.ifCond .ne 7, 3) := by decide +kernel
theorem dX5_collect_140 : decode cX5_collect 140 = .ok (.aload_n 0, 1) := by decide +kernel
theorem dX5_collect_141 : decode cX5_collect 141 = .ok (.invokevirtual 284, 3) := by decide +kernel
theorem dX5_collect_144 : decode cX5_collect 144 = .ok (.iinc 3 1, 3) := by decide +kernel
theorem dX5_collect_147 : decode cX5_collect 147 = .ok (.goto (-143), 3) := by decide +kernel
theorem dX5_collect_150 : decode cX5_collect 150 = .ok (.iload_n 2, 1) := by decide +kernel
theorem dX5_collect_151 : decode cX5_collect 151 = .ok (.ireturn, 1) := by decide +kernel
theorem dX5_endCollection_0 : decode cX5_endCollection 0 = .ok (.aload_n 0, 1) := by decide +kernel
theorem dX5_endCollection_1 : decode cX5_endCollection 1 = .ok (.getfield 42, 3) := by decide +kernel
theorem dX5_endCollection_4 : decode cX5_endCollection 4 = .ok (.getfield 287, 3) := by decide +kernel
theorem dX5_endCollection_7 : decode cX5_endCollection 7 = .ok (.istore_n 1, 1) := by decide +kernel
theorem dX5_endCollection_8 : decode cX5_endCollection 8 = .ok (.aload_n 0, 1) := by decide +kernel
theorem dX5_endCollection_9 : decode cX5_endCollection 9 = .ok (.invokevirtual 164, 3) := by decide +kernel
theorem dX5_endCollection_12 : decode cX5_endCollection 12 = .ok (.aload_n 0, 1) := by decide +kernel
theorem dX5_endCollection_13 : decode cX5_endCollection 13 = .ok (.getfield 28, 3) := by decide +kernel
theorem dX5_endCollection_16 : decode cX5_endCollection 16 = .ok (.iload_n 1, 1) := by decide +kernel
theorem dX5_endCollection_17 : decode cX5_endCollection 17 = .ok (.invokevirtual 290, 3) := by decide +kernel
theorem dX5_endCollection_20 : decode cX5_endCollection 20 = .ok (.aload_n 0, 1) := by decide +kernel
theorem dX5_endCollection_21 : decode cX5_endCollection 21 = .ok (.getfield 42, 3) := by decide +kernel
theorem dX5_endCollection_24 : decode cX5_endCollection 24 = .ok (.invokevirtual 75, 3) := by decide +kernel
theorem dX5_endCollection_27 : decode cX5_endCollection 27 = .ok (.aload_n 0, 1) := by decide +kernel
theorem dX5_endCollection_28 : decode cX5_endCollection 28 = .ok (.getfield 49, 3) := by decide +kernel
theorem dX5_endCollection_31 : decode cX5_endCollection 31 = .ok (.iconst 2, 1) := by decide +kernel
theorem dX5_endCollection_32 : decode cX5_endCollection 32 = .ok (.iload_n 1, 1) := by decide +kernel
theorem dX5_endCollection_33 : decode cX5_endCollection 33 = .ok (.aload_n 0, 1) := by decide +kernel
theorem dX5_endCollection_34 : decode cX5_endCollection 34 = .ok (.getfield 81, 3) := by decide +kernel
theorem dX5_endCollection_37 : decode cX5_endCollection 37 = .ok (.invokevirtual 195, 3) := by decide +kernel
theorem dX5_endCollection_40 : decode cX5_endCollection 40 = .ok (.return_, 1) := by decide +kernel
theorem dX5_leaveCollection_0 : decode cX5_leaveCollection 0 = .ok (.aload_n 0, 1) := by decide +kernel
theorem dX5_leaveCollection_1 : decode cX5_leaveCollection 1 = .ok (.getfield 42, 3) := by decide +kernel
theorem dX5_leaveCollection_4 : decode cX5_leaveCollection 4 = .ok (.invokevirtual 134, 3) := by decide +kernel
theorem dX5_leaveCollection_7 : decode cX5_leaveCollection 7 = .ok (.istore_n 1, 1) := by decide +kernel
theorem dX5_leaveCollection_8 : decode cX5_leaveCollection 8 = .ok (.aload_n 0, 1) := by decide +kernel
theorem dX5_leaveCollection_9 : decode cX5_leaveCollection 9 = .ok (.getfield 42, 3) := by decide +kernel
theorem dX5_leaveCollection_12 : decode cX5_leaveCollection 12 = .ok (.invokevirtual 75, 3) := by decide +kernel
theorem dX5_leaveCollection_15 : decode cX5_leaveCollection 15 = .ok (.iload_n 1, 1) := by decide +kernel
theorem dX5_leaveCollection_16 : decode cX5_leaveCollection 16 = .ok (.ireturn, 1) := by decide +kernel
theorem dX5_collectAll_0 : decode cX5_collectAll 0 = .ok (.iconst 0, 1) := by decide +kernel
theorem dX5_collectAll_1 : decode cX5_collectAll 1 = .ok (.istore_n 1, 1) := by decide +kernel
theorem dX5_collectAll_2 : decode cX5_collectAll 2 = .ok (.iload_n 1, 1) := by decide +kernel
theorem dX5_collectAll_3 : decode cX5_collectAll 3 = .ok (.bipush 50, 2) := by decide +kernel
theorem dX5_collectAll_5 : decode cX5_collectAll 5 = .ok (.if_icmp .gt 25, 3) := by decide +kernel
theorem dX5_collectAll_8 : decode cX5_collectAll 8 = .ok (.aload_n 0, 1) := by decide +kernel
theorem dX5_collectAll_9 : decode cX5_collectAll 9 = .ok (.getfield 42, 3) := by decide +kernel
theorem dX5_collectAll_12 : decode cX5_collectAll 12 = .ok (.invokevirtual 127, 3) := by decide +kernel
theorem dX5_collectAll_15 : decode cX5_collectAll 15 = .ok (.ifCond .eq 15, 3) := by decide +kernel
theorem dX5_collectAll_18 : decode cX5_collectAll 18 = .ok (.aload_n 0, 1) := by decide +kernel
theorem dX5_collectAll_19 : decode cX5_collectAll 19 = .ok (.iconst 1, 1) := by decide +kernel
theorem dX5_collectAll_20 : decode cX5_collectAll 20 = .ok (.invokevirtual 176, 3) := by decide +kernel
theorem dX5_collectAll_23 : decode cX5_collectAll 23 = .ok (.pop, 1) := by decide +kernel
theorem dX5_collectAll_24 : decode cX5_collectAll 24 = .ok (.iinc 1 1, 3) := by decide +kernel
theorem dX5_collectAll_27 : decode cX5_collectAll 27 = .ok (.goto (-25), 3) := by decide +kernel
theorem dX5_collectAll_30 : decode cX5_collectAll 30 = .ok (.aload_n 0, 1) := by decide +kernel
theorem dX5_collectAll_31 : decode cX5_collectAll 31 = .ok (.getfield 42, 3) := by decide +kernel
theorem dX5_collectAll_34 : decode cX5_collectAll 34 = .ok (.invokevirtual 127, 3) := by decide +kernel
theorem dX5_collectAll_37 : decode cX5_collectAll 37 = .ok (.ifCond .ne 7, 3) := by decide +kernel
theorem dX5_collectAll_40 : decode cX5_collectAll 40 = .ok (.iconst 1, 1) := by decide +kernel
theorem dX5_collectAll_41 : decode cX5_collectAll 41 = .ok (.goto 4, 3) := by decide +kernel
theorem dX5_collectAll_44 : decode cX5_collectAll 44 = .ok (.iconst 0, 1) := by decide +kernel
theorem dX5_collectAll_45 : decode cX5_collectAll 45 = .ok (.ireturn, 1) := by decide +kernel
theorem dX5_leftOpen_0 : decode cX5_leftOpen 0 = .ok (.aload_n 0, 1) := by decide +kernel
theorem dX5_leftOpen_1 : decode cX5_leftOpen 1 = .ok (.getfield 12, 3) := by decide +kernel
theorem dX5_leftOpen_4 : decode cX5_leftOpen 4 = .ok (.getfield 57, 3) := by decide +kernel
theorem dX5_leftOpen_7 : decode cX5_leftOpen 7 = .ok (.aload_n 0, 1) := by decide +kernel
theorem dX5_leftOpen_8 : decode cX5_leftOpen 8 = .ok (.getfield 28, 3) := by decide +kernel
theorem dX5_leftOpen_11 : decode cX5_leftOpen 11 = .ok (.aload_n 0, 1) := by decide +kernel
theorem dX5_leftOpen_12 : decode cX5_leftOpen 12 = .ok (.getfield 28, 3) := by decide +kernel
theorem dX5_leftOpen_15 : decode cX5_leftOpen 15 = .ok (.getfield 192, 3) := by decide +kernel
theorem dX5_leftOpen_18 : decode cX5_leftOpen 18 = .ok (.invokevirtual 293, 3) := by decide +kernel
theorem dX5_leftOpen_21 : decode cX5_leftOpen 21 = .ok (.isub, 1) := by decide +kernel
theorem dX5_leftOpen_22 : decode cX5_leftOpen 22 = .ok (.ireturn, 1) := by decide +kernel
theorem dX5_fits_0 : decode cX5_fits 0 = .ok (.aload_n 0, 1) := by decide +kernel
theorem dX5_fits_1 : decode cX5_fits 1 = .ok (.invokevirtual 189, 3) := by decide +kernel
theorem dX5_fits_4 : decode cX5_fits 4 = .ok (.iload_n 1, 1) := by decide +kernel
theorem dX5_fits_5 : decode cX5_fits 5 = .ok (.if_icmp .ge 14, 3) := by decide +kernel
theorem dX5_fits_8 : decode cX5_fits 8 = .ok (.aload_n 0, 1) := by decide +kernel
theorem dX5_fits_9 : decode cX5_fits 9 = .ok (.getfield 28, 3) := by decide +kernel
theorem dX5_fits_12 : decode cX5_fits 12 = .ok (.invokevirtual 296, 3) := by decide +kernel
theorem dX5_fits_15 : decode cX5_fits 15 = .ok (.iconst (-1), 1) := by decide +kernel
theorem dX5_fits_16 : decode cX5_fits 16 = .ok (.if_icmp .eq 7, 3) := by decide +kernel
theorem dX5_fits_19 : decode cX5_fits 19 = .ok (.iconst 1, 1) := by decide +kernel
theorem dX5_fits_20 : decode cX5_fits 20 = .ok (.goto 4, 3) := by decide +kernel
theorem dX5_fits_23 : decode cX5_fits 23 = .ok (.iconst 0, 1) := by decide +kernel
theorem dX5_fits_24 : decode cX5_fits 24 = .ok (.ireturn, 1) := by decide +kernel
theorem dX5_spare_0 : decode cX5_spare 0 = .ok (.aload_n 0, 1) := by decide +kernel
theorem dX5_spare_1 : decode cX5_spare 1 = .ok (.invokevirtual 189, 3) := by decide +kernel
theorem dX5_spare_4 : decode cX5_spare 4 = .ok (.aload_n 0, 1) := by decide +kernel
theorem dX5_spare_5 : decode cX5_spare 5 = .ok (.getfield 28, 3) := by decide +kernel
theorem dX5_spare_8 : decode cX5_spare 8 = .ok (.invokevirtual 151, 3) := by decide +kernel
theorem dX5_spare_11 : decode cX5_spare 11 = .ok (.aload_n 0, 1) := by decide +kernel
theorem dX5_spare_12 : decode cX5_spare 12 = .ok (.getfield 12, 3) := by decide +kernel
theorem dX5_spare_15 : decode cX5_spare 15 = .ok (.getfield 57, 3) := by decide +kernel
theorem dX5_spare_18 : decode cX5_spare 18 = .ok (.imul, 1) := by decide +kernel
theorem dX5_spare_19 : decode cX5_spare 19 = .ok (.iadd, 1) := by decide +kernel
theorem dX5_spare_20 : decode cX5_spare 20 = .ok (.ireturn, 1) := by decide +kernel
theorem dX5_fitting_0 : decode cX5_fitting 0 = .ok (.iload_n 1, 1) := by decide +kernel
theorem dX5_fitting_1 : decode cX5_fitting 1 = .ok (.ifCond .gt 7, 3) := by decide +kernel
theorem dX5_fitting_4 : decode cX5_fitting 4 = .ok (.iconst 0, 1) := by decide +kernel
theorem dX5_fitting_5 : decode cX5_fitting 5 = .ok (.goto 27, 3) := by decide +kernel
theorem dX5_fitting_8 : decode cX5_fitting 8 = .ok (.aload_n 0, 1) := by decide +kernel
theorem dX5_fitting_9 : decode cX5_fitting 9 = .ok (.invokevirtual 189, 3) := by decide +kernel
theorem dX5_fitting_12 : decode cX5_fitting 12 = .ok (.iload_n 1, 1) := by decide +kernel
theorem dX5_fitting_13 : decode cX5_fitting 13 = .ok (.idiv, 1) := by decide +kernel
theorem dX5_fitting_14 : decode cX5_fitting 14 = .ok (.aload_n 0, 1) := by decide +kernel
theorem dX5_fitting_15 : decode cX5_fitting 15 = .ok (.getfield 28, 3) := by decide +kernel
theorem dX5_fitting_18 : decode cX5_fitting 18 = .ok (.invokevirtual 151, 3) := by decide +kernel
theorem dX5_fitting_21 : decode cX5_fitting 21 = .ok (.aload_n 0, 1) := by decide +kernel
theorem dX5_fitting_22 : decode cX5_fitting 22 = .ok (.getfield 12, 3) := by decide +kernel
theorem dX5_fitting_25 : decode cX5_fitting 25 = .ok (.getfield 57, 3) := by decide +kernel
theorem dX5_fitting_28 : decode cX5_fitting 28 = .ok (.iload_n 1, 1) := by decide +kernel
theorem dX5_fitting_29 : decode cX5_fitting 29 = .ok (.idiv, 1) := by decide +kernel
theorem dX5_fitting_30 : decode cX5_fitting 30 = .ok (.imul, 1) := by decide +kernel
theorem dX5_fitting_31 : decode cX5_fitting 31 = .ok (.iadd, 1) := by decide +kernel
theorem dX5_fitting_32 : decode cX5_fitting 32 = .ok (.ireturn, 1) := by decide +kernel
theorem dX5_isLive_0 : decode cX5_isLive 0 = .ok (.lload_n 1, 1) := by decide +kernel
theorem dX5_isLive_1 : decode cX5_isLive 1 = .ok (.invokestatic 272, 3) := by decide +kernel
theorem dX5_isLive_4 : decode cX5_isLive 4 = .ok (.aload_n 0, 1) := by decide +kernel
theorem dX5_isLive_5 : decode cX5_isLive 5 = .ok (.getfield 12, 3) := by decide +kernel
theorem dX5_isLive_8 : decode cX5_isLive 8 = .ok (.getfield 61, 3) := by decide +kernel
theorem dX5_isLive_11 : decode cX5_isLive 11 = .ok (.if_icmp .le 23, 3) := by decide +kernel
theorem dX5_isLive_14 : decode cX5_isLive 14 = .ok (.aload_n 0, 1) := by decide +kernel
theorem dX5_isLive_15 : decode cX5_isLive 15 = .ok (.getfield 35, 3) := by decide +kernel
theorem dX5_isLive_18 : decode cX5_isLive 18 = .ok (.lload_n 1, 1) := by decide +kernel
theorem dX5_isLive_19 : decode cX5_isLive 19 = .ok (.invokestatic 253, 3) := by decide +kernel
theorem dX5_isLive_22 : decode cX5_isLive 22 = .ok (.invokevirtual 299, 3) := by decide +kernel
theorem dX5_isLive_25 : decode cX5_isLive 25 = .ok (.lload_n 1, 1) := by decide +kernel
theorem dX5_isLive_26 : decode cX5_isLive 26 = .ok (.lcmp, 1) := by decide +kernel
theorem dX5_isLive_27 : decode cX5_isLive 27 = .ok (.ifCond .ne 7, 3) := by decide +kernel
theorem dX5_isLive_30 : decode cX5_isLive 30 = .ok (.iconst 1, 1) := by decide +kernel
theorem dX5_isLive_31 : decode cX5_isLive 31 = .ok (.goto 4, 3) := by decide +kernel
theorem dX5_isLive_34 : decode cX5_isLive 34 = .ok (.iconst 0, 1) := by decide +kernel
theorem dX5_isLive_35 : decode cX5_isLive 35 = .ok (.ireturn, 1) := by decide +kernel
theorem dX5_liveOf_0 : decode cX5_liveOf 0 = .ok (.iconst 0, 1) := by decide +kernel
theorem dX5_liveOf_1 : decode cX5_liveOf 1 = .ok (.istore_n 2, 1) := by decide +kernel
theorem dX5_liveOf_2 : decode cX5_liveOf 2 = .ok (.iconst 0, 1) := by decide +kernel
theorem dX5_liveOf_3 : decode cX5_liveOf 3 = .ok (.istore_n 3, 1) := by decide +kernel
theorem dX5_liveOf_4 : decode cX5_liveOf 4 = .ok (.iload_n 3, 1) := by decide +kernel
theorem dX5_liveOf_5 : decode cX5_liveOf 5 = .ok (.aload_n 0, 1) := by decide +kernel
theorem dX5_liveOf_6 : decode cX5_liveOf 6 = .ok (.getfield 28, 3) := by decide +kernel
theorem dX5_liveOf_9 : decode cX5_liveOf 9 = .ok (.iload_n 1, 1) := by decide +kernel
theorem dX5_liveOf_10 : decode cX5_liveOf 10 = .ok (.invokevirtual 246, 3) := by decide +kernel
theorem dX5_liveOf_13 : decode cX5_liveOf 13 = .ok (.if_icmp .ge 41, 3) := by decide +kernel
theorem dX5_liveOf_16 : decode cX5_liveOf 16 = .ok (.aload_n 0, 1) := by decide +kernel
theorem dX5_liveOf_17 : decode cX5_liveOf 17 = .ok (.getfield 28, 3) := by decide +kernel
theorem dX5_liveOf_20 : decode cX5_liveOf 20 = .ok (.iload_n 1, 1) := by decide +kernel
theorem dX5_liveOf_21 : decode cX5_liveOf 21 = .ok (.iload_n 3, 1) := by decide +kernel
theorem dX5_liveOf_22 : decode cX5_liveOf 22 = .ok (.invokevirtual 249, 3) := by decide +kernel
theorem dX5_liveOf_25 : decode cX5_liveOf 25 = .ok (.lstore 4, 2) := by decide +kernel
theorem dX5_liveOf_27 : decode cX5_liveOf 27 = .ok (.iload_n 2, 1) := by decide +kernel
theorem dX5_liveOf_28 : decode cX5_liveOf 28 = .ok (.aload_n 0, 1) := by decide +kernel
theorem dX5_liveOf_29 : decode cX5_liveOf 29 = .ok (.lload 4, 2) := by decide +kernel
theorem dX5_liveOf_31 : decode cX5_liveOf 31 = .ok (.invokevirtual 141, 3) := by decide +kernel
theorem dX5_liveOf_34 : decode cX5_liveOf 34 = .ok (.ifCond .eq 11, 3) := by decide +kernel
theorem dX5_liveOf_37 : decode cX5_liveOf 37 = .ok (.lload 4, 2) := by decide +kernel
theorem dX5_liveOf_39 : decode cX5_liveOf 39 = .ok (.invokestatic 145, 3) := by decide +kernel
theorem dX5_liveOf_42 : decode cX5_liveOf 42 = .ok (.goto 4, 3) := by decide +kernel
theorem dX5_liveOf_45 : decode cX5_liveOf 45 = .ok (.iconst 0, 1) := by decide +kernel
theorem dX5_liveOf_46 : decode cX5_liveOf 46 = .ok (.iadd, 1) := by decide +kernel
theorem dX5_liveOf_47 : decode cX5_liveOf 47 = .ok (.istore_n 2, 1) := by decide +kernel
theorem dX5_liveOf_48 : decode cX5_liveOf 48 = .ok (.iinc 3 1, 3) := by decide +kernel
theorem dX5_liveOf_51 : decode cX5_liveOf 51 = .ok (.goto (-47), 3) := by decide +kernel
theorem dX5_liveOf_54 : decode cX5_liveOf 54 = .ok (.iload_n 2, 1) := by decide +kernel
theorem dX5_liveOf_55 : decode cX5_liveOf 55 = .ok (.ireturn, 1) := by decide +kernel
theorem dX5_deadOf_0 : decode cX5_deadOf 0 = .ok (.aload_n 0, 1) := by decide +kernel
theorem dX5_deadOf_1 : decode cX5_deadOf 1 = .ok (.getfield 28, 3) := by decide +kernel
theorem dX5_deadOf_4 : decode cX5_deadOf 4 = .ok (.iload_n 1, 1) := by decide +kernel
theorem dX5_deadOf_5 : decode cX5_deadOf 5 = .ok (.invokevirtual 293, 3) := by decide +kernel
theorem dX5_deadOf_8 : decode cX5_deadOf 8 = .ok (.aload_n 0, 1) := by decide +kernel
theorem dX5_deadOf_9 : decode cX5_deadOf 9 = .ok (.iload_n 1, 1) := by decide +kernel
theorem dX5_deadOf_10 : decode cX5_deadOf 10 = .ok (.invokevirtual 302, 3) := by decide +kernel
theorem dX5_deadOf_13 : decode cX5_deadOf 13 = .ok (.isub, 1) := by decide +kernel
theorem dX5_deadOf_14 : decode cX5_deadOf 14 = .ok (.ireturn, 1) := by decide +kernel
theorem dX5_liveOfAll_0 : decode cX5_liveOfAll 0 = .ok (.iconst 0, 1) := by decide +kernel
theorem dX5_liveOfAll_1 : decode cX5_liveOfAll 1 = .ok (.istore_n 1, 1) := by decide +kernel
theorem dX5_liveOfAll_2 : decode cX5_liveOfAll 2 = .ok (.iconst 0, 1) := by decide +kernel
theorem dX5_liveOfAll_3 : decode cX5_liveOfAll 3 = .ok (.istore_n 2, 1) := by decide +kernel
theorem dX5_liveOfAll_4 : decode cX5_liveOfAll 4 = .ok (.iload_n 2, 1) := by decide +kernel
theorem dX5_liveOfAll_5 : decode cX5_liveOfAll 5 = .ok (.bipush 12, 2) := by decide +kernel
theorem dX5_liveOfAll_7 : decode cX5_liveOfAll 7 = .ok (.if_icmp .ge 17, 3) := by decide +kernel
theorem dX5_liveOfAll_10 : decode cX5_liveOfAll 10 = .ok (.iload_n 1, 1) := by decide +kernel
theorem dX5_liveOfAll_11 : decode cX5_liveOfAll 11 = .ok (.aload_n 0, 1) := by decide +kernel
theorem dX5_liveOfAll_12 : decode cX5_liveOfAll 12 = .ok (.iload_n 2, 1) := by decide +kernel
theorem dX5_liveOfAll_13 : decode cX5_liveOfAll 13 = .ok (.invokevirtual 302, 3) := by decide +kernel
theorem dX5_liveOfAll_16 : decode cX5_liveOfAll 16 = .ok (.iadd, 1) := by decide +kernel
theorem dX5_liveOfAll_17 : decode cX5_liveOfAll 17 = .ok (.istore_n 1, 1) := by decide +kernel
theorem dX5_liveOfAll_18 : decode cX5_liveOfAll 18 = .ok (.iinc 2 1, 3) := by decide +kernel
theorem dX5_liveOfAll_21 : decode cX5_liveOfAll 21 = .ok (.goto (-17), 3) := by decide +kernel
theorem dX5_liveOfAll_24 : decode cX5_liveOfAll 24 = .ok (.iload_n 1, 1) := by decide +kernel
theorem dX5_liveOfAll_25 : decode cX5_liveOfAll 25 = .ok (.ireturn, 1) := by decide +kernel
theorem dX5_liveInHundredths_0 : decode cX5_liveInHundredths 0 = .ok (.aload_n 0, 1) := by decide +kernel
theorem dX5_liveInHundredths_1 : decode cX5_liveInHundredths 1 = .ok (.invokevirtual 305, 3) := by decide +kernel
theorem dX5_liveInHundredths_4 : decode cX5_liveInHundredths 4 = .ok (.aload_n 0, 1) := by decide +kernel
theorem dX5_liveInHundredths_5 : decode cX5_liveInHundredths 5 = .ok (.getfield 28, 3) := by decide +kernel
theorem dX5_liveInHundredths_8 : decode cX5_liveInHundredths 8 = .ok (.invokevirtual 308, 3) := by decide +kernel
theorem dX5_liveInHundredths_11 : decode cX5_liveInHundredths 11 = .ok (.iadd, 1) := by decide +kernel
theorem dX5_liveInHundredths_12 : decode cX5_liveInHundredths 12 = .ok (.istore_n 1, 1) := by decide +kernel
theorem dX5_liveInHundredths_13 : decode cX5_liveInHundredths 13 = .ok (.iload_n 1, 1) := by decide +kernel
theorem dX5_liveInHundredths_14 : decode cX5_liveInHundredths 14 = .ok (.ifCond .gt 7, 3) := by decide +kernel
theorem dX5_liveInHundredths_17 : decode cX5_liveInHundredths 17 = .ok (.iconst 0, 1) := by decide +kernel
theorem dX5_liveInHundredths_18 : decode cX5_liveInHundredths 18 = .ok (.goto 12, 3) := by decide +kernel
theorem dX5_liveInHundredths_21 : decode cX5_liveInHundredths 21 = .ok (.bipush 100, 2) := by decide +kernel
theorem dX5_liveInHundredths_23 : decode cX5_liveInHundredths 23 = .ok (.aload_n 0, 1) := by decide +kernel
theorem dX5_liveInHundredths_24 : decode cX5_liveInHundredths 24 = .ok (.invokevirtual 311, 3) := by decide +kernel
theorem dX5_liveInHundredths_27 : decode cX5_liveInHundredths 27 = .ok (.imul, 1) := by decide +kernel
theorem dX5_liveInHundredths_28 : decode cX5_liveInHundredths 28 = .ok (.iload_n 1, 1) := by decide +kernel
theorem dX5_liveInHundredths_29 : decode cX5_liveInHundredths 29 = .ok (.idiv, 1) := by decide +kernel
theorem dX5_liveInHundredths_30 : decode cX5_liveInHundredths 30 = .ok (.ireturn, 1) := by decide +kernel
theorem dX5_poorest_0 : decode cX5_poorest 0 = .ok (.iconst (-1), 1) := by decide +kernel
theorem dX5_poorest_1 : decode cX5_poorest 1 = .ok (.istore_n 1, 1) := by decide +kernel
theorem dX5_poorest_2 : decode cX5_poorest 2 = .ok (.iconst 0, 1) := by decide +kernel
theorem dX5_poorest_3 : decode cX5_poorest 3 = .ok (.istore_n 2, 1) := by decide +kernel
theorem dX5_poorest_4 : decode cX5_poorest 4 = .ok (.iconst 0, 1) := by decide +kernel
theorem dX5_poorest_5 : decode cX5_poorest 5 = .ok (.istore_n 3, 1) := by decide +kernel
theorem dX5_poorest_6 : decode cX5_poorest 6 = .ok (.iload_n 3, 1) := by decide +kernel
theorem dX5_poorest_7 : decode cX5_poorest 7 = .ok (.bipush 12, 2) := by decide +kernel
theorem dX5_poorest_9 : decode cX5_poorest 9 = .ok (.if_icmp .ge 44, 3) := by decide +kernel
theorem dX5_poorest_12 : decode cX5_poorest 12 = .ok (.aload_n 0, 1) := by decide +kernel
theorem dX5_poorest_13 : decode cX5_poorest 13 = .ok (.getfield 28, 3) := by decide +kernel
theorem dX5_poorest_16 : decode cX5_poorest 16 = .ok (.iload_n 3, 1) := by decide +kernel
theorem dX5_poorest_17 : decode cX5_poorest 17 = .ok (.invokevirtual 131, 3) := by decide +kernel
theorem dX5_poorest_20 : decode cX5_poorest 20 = .ok (.iconst 2, 1) := by decide +kernel
theorem dX5_poorest_21 : decode cX5_poorest 21 = .ok (.if_icmp .ne 26, 3) := by decide +kernel
theorem dX5_poorest_24 : decode cX5_poorest 24 = .ok (.aload_n 0, 1) := by decide +kernel
theorem dX5_poorest_25 : decode cX5_poorest 25 = .ok (.iload_n 3, 1) := by decide +kernel
theorem dX5_poorest_26 : decode cX5_poorest 26 = .ok (.invokevirtual 302, 3) := by decide +kernel
theorem dX5_poorest_29 : decode cX5_poorest 29 = .ok (.istore 4, 2) := by decide +kernel
theorem dX5_poorest_31 : decode cX5_poorest 31 = .ok (.iload_n 1, 1) := by decide +kernel
theorem dX5_poorest_32 : decode cX5_poorest 32 = .ok (.iconst (-1), 1) := by decide +kernel
theorem dX5_poorest_33 : decode cX5_poorest 33 = .ok (.if_icmp .eq 9, 3) := by decide +kernel
theorem dX5_poorest_36 : decode cX5_poorest 36 = .ok (.iload 4, 2) := by decide +kernel
theorem dX5_poorest_38 : decode cX5_poorest 38 = .ok (.iload_n 2, 1) := by decide +kernel
theorem dX5_poorest_39 : decode cX5_poorest 39 = .ok (.if_icmp .ge 8, 3) := by decide +kernel
theorem dX5_poorest_42 : decode cX5_poorest 42 = .ok (.iload_n 3, 1) := by decide +kernel
theorem dX5_poorest_43 : decode cX5_poorest 43 = .ok (.istore_n 1, 1) := by decide +kernel
theorem dX5_poorest_44 : decode cX5_poorest 44 = .ok (.iload 4, 2) := by decide +kernel
theorem dX5_poorest_46 : decode cX5_poorest 46 = .ok (.istore_n 2, 1) := by decide +kernel
theorem dX5_poorest_47 : decode cX5_poorest 47 = .ok (.iinc 3 1, 3) := by decide +kernel
theorem dX5_poorest_50 : decode cX5_poorest 50 = .ok (.goto (-44), 3) := by decide +kernel
theorem dX5_poorest_53 : decode cX5_poorest 53 = .ok (.iload_n 1, 1) := by decide +kernel
theorem dX5_poorest_54 : decode cX5_poorest 54 = .ok (.ireturn, 1) := by decide +kernel
theorem dX5_replayed_0 : decode cX5_replayed 0 = .ok (.iconst 0, 1) := by decide +kernel
theorem dX5_replayed_1 : decode cX5_replayed 1 = .ok (.istore_n 1, 1) := by decide +kernel
theorem dX5_replayed_2 : decode cX5_replayed 2 = .ok (.iconst 0, 1) := by decide +kernel
theorem dX5_replayed_3 : decode cX5_replayed 3 = .ok (.istore_n 2, 1) := by decide +kernel
theorem dX5_replayed_4 : decode cX5_replayed 4 = .ok (.iload_n 2, 1) := by decide +kernel
theorem dX5_replayed_5 : decode cX5_replayed 5 = .ok (.bipush 12, 2) := by decide +kernel
theorem dX5_replayed_7 : decode cX5_replayed 7 = .ok (.if_icmp .ge 69, 3) := by decide +kernel
theorem dX5_replayed_10 : decode cX5_replayed 10 = .ok (.iconst 0, 1) := by decide +kernel
theorem dX5_replayed_11 : decode cX5_replayed 11 = .ok (.istore_n 3, 1) := by decide +kernel
theorem dX5_replayed_12 : decode cX5_replayed 12 = .ok (.iload_n 3, 1) := by decide +kernel
theorem dX5_replayed_13 : decode cX5_replayed 13 = .ok (.aload_n 0, 1) := by decide +kernel
theorem dX5_replayed_14 : decode cX5_replayed 14 = .ok (.getfield 28, 3) := by decide +kernel
theorem dX5_replayed_17 : decode cX5_replayed 17 = .ok (.iload_n 2, 1) := by decide +kernel
theorem dX5_replayed_18 : decode cX5_replayed 18 = .ok (.invokevirtual 246, 3) := by decide +kernel
theorem dX5_replayed_21 : decode cX5_replayed 21 = .ok (.if_icmp .ge 49, 3) := by decide +kernel
theorem dX5_replayed_24 : decode cX5_replayed 24 = .ok (.aload_n 0, 1) := by decide +kernel
theorem dX5_replayed_25 : decode cX5_replayed 25 = .ok (.getfield 28, 3) := by decide +kernel
theorem dX5_replayed_28 : decode cX5_replayed 28 = .ok (.iload_n 2, 1) := by decide +kernel
theorem dX5_replayed_29 : decode cX5_replayed 29 = .ok (.iload_n 3, 1) := by decide +kernel
theorem dX5_replayed_30 : decode cX5_replayed 30 = .ok (.invokevirtual 249, 3) := by decide +kernel
theorem dX5_replayed_33 : decode cX5_replayed 33 = .ok (.invokestatic 259, 3) := by decide +kernel
theorem dX5_replayed_36 : decode cX5_replayed 36 = .ok (.istore 4, 2) := by decide +kernel
theorem dX5_replayed_38 : decode cX5_replayed 38 = .ok (.iload_n 1, 1) := by decide +kernel
theorem dX5_replayed_39 : decode cX5_replayed 39 = .ok (.iload 4, 2) := by decide +kernel
theorem dX5_replayed_41 : decode cX5_replayed 41 = .ok (.aload_n 0, 1) := by decide +kernel
theorem dX5_replayed_42 : decode cX5_replayed 42 = .ok (.getfield 87, 3) := by decide +kernel
theorem dX5_replayed_45 : decode cX5_replayed 45 = .ok (.if_icmp .le 16, 3) := by decide +kernel
theorem dX5_replayed_48 : decode cX5_replayed 48 = .ok (.iload 4, 2) := by decide +kernel
theorem dX5_replayed_50 : decode cX5_replayed 50 = .ok (.aload_n 0, 1) := by decide +kernel
theorem dX5_replayed_51 : decode cX5_replayed 51 = .ok (.getfield 84, 3) := by decide +kernel
theorem dX5_replayed_54 : decode cX5_replayed 54 = .ok (.if_icmp .gt 7, 3) := by decide +kernel
theorem dX5_replayed_57 : decode cX5_replayed 57 = .ok (.iconst 1, 1) := by decide +kernel
theorem dX5_replayed_58 : decode cX5_replayed 58 = .ok (.goto 4, 3) := by decide +kernel
theorem dX5_replayed_61 : decode cX5_replayed 61 = .ok (.iconst 0, 1) := by decide +kernel
theorem dX5_replayed_62 : decode cX5_replayed 62 = .ok (.iadd, 1) := by decide +kernel
theorem dX5_replayed_63 : decode cX5_replayed 63 = .ok (.istore_n 1, 1) := by decide +kernel
theorem dX5_replayed_64 : decode cX5_replayed 64 = .ok (.iinc 3 1, 3) := by decide +kernel
theorem dX5_replayed_67 : decode cX5_replayed 67 = .ok (.goto (-55), 3) := by decide +kernel
theorem dX5_replayed_70 : decode cX5_replayed 70 = .ok (.iinc 2 1, 3) := by decide +kernel
theorem dX5_replayed_73 : decode cX5_replayed 73 = .ok (.goto (-69), 3) := by decide +kernel
theorem dX5_replayed_76 : decode cX5_replayed 76 = .ok (.iload_n 1, 1) := by decide +kernel
theorem dX5_replayed_77 : decode cX5_replayed 77 = .ok (.ireturn, 1) := by decide +kernel
theorem dX5_kindOf_0 : decode cX5_kindOf 0 = .ok (.lload_n 1, 1) := by decide +kernel
theorem dX5_kindOf_1 : decode cX5_kindOf 1 = .ok (.lconst 0, 1) := by decide +kernel
theorem dX5_kindOf_2 : decode cX5_kindOf 2 = .ok (.lcmp, 1) := by decide +kernel
theorem dX5_kindOf_3 : decode cX5_kindOf 3 = .ok (.ifCond .ne 5, 3) := by decide +kernel
theorem dX5_kindOf_6 : decode cX5_kindOf 6 = .ok (.iconst 0, 1) := by decide +kernel
theorem dX5_kindOf_7 : decode cX5_kindOf 7 = .ok (.ireturn, 1) := by decide +kernel
theorem dX5_kindOf_8 : decode cX5_kindOf 8 = .ok (.lload_n 1, 1) := by decide +kernel
theorem dX5_kindOf_9 : decode cX5_kindOf 9 = .ok (.invokestatic 314, 3) := by decide +kernel
theorem dX5_kindOf_12 : decode cX5_kindOf 12 = .ok (.ifCond .eq 5, 3) := by decide +kernel
theorem dX5_kindOf_15 : decode cX5_kindOf 15 = .ok (.iconst 1, 1) := by decide +kernel
theorem dX5_kindOf_16 : decode cX5_kindOf 16 = .ok (.ireturn, 1) := by decide +kernel
theorem dX5_kindOf_17 : decode cX5_kindOf 17 = .ok (.lload_n 1, 1) := by decide +kernel
theorem dX5_kindOf_18 : decode cX5_kindOf 18 = .ok (.invokestatic 272, 3) := by decide +kernel
theorem dX5_kindOf_21 : decode cX5_kindOf 21 = .ok (.aload_n 0, 1) := by decide +kernel
theorem dX5_kindOf_22 : decode cX5_kindOf 22 = .ok (.getfield 12, 3) := by decide +kernel
theorem dX5_kindOf_25 : decode cX5_kindOf 25 = .ok (.getfield 61, 3) := by decide +kernel
theorem dX5_kindOf_28 : decode cX5_kindOf 28 = .ok (.if_icmp .gt 7, 3) := by decide +kernel
theorem dX5_kindOf_31 : decode cX5_kindOf 31 = .ok (.iconst 2, 1) := by decide +kernel
theorem dX5_kindOf_32 : decode cX5_kindOf 32 = .ok (.goto 4, 3) := by decide +kernel
theorem dX5_kindOf_35 : decode cX5_kindOf 35 = .ok (.iconst 3, 1) := by decide +kernel
theorem dX5_kindOf_36 : decode cX5_kindOf 36 = .ok (.ireturn, 1) := by decide +kernel
theorem dX5_hasValue_0 : decode cX5_hasValue 0 = .ok (.aload_n 0, 1) := by decide +kernel
theorem dX5_hasValue_1 : decode cX5_hasValue 1 = .ok (.getfield 35, 3) := by decide +kernel
theorem dX5_hasValue_4 : decode cX5_hasValue 4 = .ok (.iload_n 1, 1) := by decide +kernel
theorem dX5_hasValue_5 : decode cX5_hasValue 5 = .ok (.invokevirtual 299, 3) := by decide +kernel
theorem dX5_hasValue_8 : decode cX5_hasValue 8 = .ok (.invokestatic 314, 3) := by decide +kernel
theorem dX5_hasValue_11 : decode cX5_hasValue 11 = .ok (.ifCond .ne 7, 3) := by decide +kernel
theorem dX5_hasValue_14 : decode cX5_hasValue 14 = .ok (.iconst 1, 1) := by decide +kernel
theorem dX5_hasValue_15 : decode cX5_hasValue 15 = .ok (.goto 4, 3) := by decide +kernel
theorem dX5_hasValue_18 : decode cX5_hasValue 18 = .ok (.iconst 0, 1) := by decide +kernel
theorem dX5_hasValue_19 : decode cX5_hasValue 19 = .ok (.ireturn, 1) := by decide +kernel
theorem dX5_valueOf_0 : decode cX5_valueOf 0 = .ok (.aload_n 0, 1) := by decide +kernel
theorem dX5_valueOf_1 : decode cX5_valueOf 1 = .ok (.getfield 35, 3) := by decide +kernel
theorem dX5_valueOf_4 : decode cX5_valueOf 4 = .ok (.iload_n 1, 1) := by decide +kernel
theorem dX5_valueOf_5 : decode cX5_valueOf 5 = .ok (.invokevirtual 299, 3) := by decide +kernel
theorem dX5_valueOf_8 : decode cX5_valueOf 8 = .ok (.lstore_n 2, 1) := by decide +kernel
theorem dX5_valueOf_9 : decode cX5_valueOf 9 = .ok (.lload_n 2, 1) := by decide +kernel
theorem dX5_valueOf_10 : decode cX5_valueOf 10 = .ok (.invokestatic 314, 3) := by decide +kernel
theorem dX5_valueOf_13 : decode cX5_valueOf 13 = .ok (.ifCond .eq 7, 3) := by decide +kernel
theorem dX5_valueOf_16 : decode cX5_valueOf 16 = .ok (.iconst (-1), 1) := by decide +kernel
theorem dX5_valueOf_17 : decode cX5_valueOf 17 = .ok (.goto 15, 3) := by decide +kernel
theorem dX5_valueOf_20 : decode cX5_valueOf 20 = .ok (.lload_n 2, 1) := by decide +kernel
theorem dX5_valueOf_21 : decode cX5_valueOf 21 = .ok (.invokestatic 275, 3) := by decide +kernel
theorem dX5_valueOf_24 : decode cX5_valueOf 24 = .ok (.bipush 6, 2) := by decide +kernel
theorem dX5_valueOf_26 : decode cX5_valueOf 26 = .ok (.ishl, 1) := by decide +kernel
theorem dX5_valueOf_27 : decode cX5_valueOf 27 = .ok (.lload_n 2, 1) := by decide +kernel
theorem dX5_valueOf_28 : decode cX5_valueOf 28 = .ok (.invokestatic 272, 3) := by decide +kernel
theorem dX5_valueOf_31 : decode cX5_valueOf 31 = .ok (.ior, 1) := by decide +kernel
theorem dX5_valueOf_32 : decode cX5_valueOf 32 = .ok (.ireturn, 1) := by decide +kernel
theorem dX5_costOf_0 : decode cX5_costOf 0 = .ok (.aload_n 0, 1) := by decide +kernel
theorem dX5_costOf_1 : decode cX5_costOf 1 = .ok (.getfield 35, 3) := by decide +kernel
theorem dX5_costOf_4 : decode cX5_costOf 4 = .ok (.iload_n 1, 1) := by decide +kernel
theorem dX5_costOf_5 : decode cX5_costOf 5 = .ok (.invokevirtual 317, 3) := by decide +kernel
theorem dX5_costOf_8 : decode cX5_costOf 8 = .ok (.istore_n 2, 1) := by decide +kernel
theorem dX5_costOf_9 : decode cX5_costOf 9 = .ok (.iload_n 2, 1) := by decide +kernel
theorem dX5_costOf_10 : decode cX5_costOf 10 = .ok (.iconst (-1), 1) := by decide +kernel
theorem dX5_costOf_11 : decode cX5_costOf 11 = .ok (.if_icmp .ne 13, 3) := by decide +kernel
theorem dX5_costOf_14 : decode cX5_costOf 14 = .ok (.iconst 1, 1) := by decide +kernel
theorem dX5_costOf_15 : decode cX5_costOf 15 = .ok (.aload_n 0, 1) := by decide +kernel
theorem dX5_costOf_16 : decode cX5_costOf 16 = .ok (.getfield 35, 3) := by decide +kernel
theorem dX5_costOf_19 : decode cX5_costOf 19 = .ok (.getfield 167, 3) := by decide +kernel
theorem dX5_costOf_22 : decode cX5_costOf 22 = .ok (.iadd, 1) := by decide +kernel
theorem dX5_costOf_23 : decode cX5_costOf 23 = .ok (.ireturn, 1) := by decide +kernel
theorem dX5_costOf_24 : decode cX5_costOf 24 = .ok (.iconst 1, 1) := by decide +kernel
theorem dX5_costOf_25 : decode cX5_costOf 25 = .ok (.iload_n 2, 1) := by decide +kernel
theorem dX5_costOf_26 : decode cX5_costOf 26 = .ok (.iadd, 1) := by decide +kernel
theorem dX5_costOf_27 : decode cX5_costOf 27 = .ok (.aload_n 0, 1) := by decide +kernel
theorem dX5_costOf_28 : decode cX5_costOf 28 = .ok (.aload_n 0, 1) := by decide +kernel
theorem dX5_costOf_29 : decode cX5_costOf 29 = .ok (.getfield 35, 3) := by decide +kernel
theorem dX5_costOf_32 : decode cX5_costOf 32 = .ok (.iload_n 2, 1) := by decide +kernel
theorem dX5_costOf_33 : decode cX5_costOf 33 = .ok (.iload_n 1, 1) := by decide +kernel
theorem dX5_costOf_34 : decode cX5_costOf 34 = .ok (.invokevirtual 256, 3) := by decide +kernel
theorem dX5_costOf_37 : decode cX5_costOf 37 = .ok (.invokevirtual 320, 3) := by decide +kernel
theorem dX5_costOf_40 : decode cX5_costOf 40 = .ok (.iconst 3, 1) := by decide +kernel
theorem dX5_costOf_41 : decode cX5_costOf 41 = .ok (.if_icmp .ne 7, 3) := by decide +kernel
theorem dX5_costOf_44 : decode cX5_costOf 44 = .ok (.iconst 1, 1) := by decide +kernel
theorem dX5_costOf_45 : decode cX5_costOf 45 = .ok (.goto 4, 3) := by decide +kernel
theorem dX5_costOf_48 : decode cX5_costOf 48 = .ok (.iconst 0, 1) := by decide +kernel
theorem dX5_costOf_49 : decode cX5_costOf 49 = .ok (.iadd, 1) := by decide +kernel
theorem dX5_costOf_50 : decode cX5_costOf 50 = .ok (.ireturn, 1) := by decide +kernel
theorem dX5_valuesBelow_0 : decode cX5_valuesBelow 0 = .ok (.iconst 0, 1) := by decide +kernel
theorem dX5_valuesBelow_1 : decode cX5_valuesBelow 1 = .ok (.istore_n 2, 1) := by decide +kernel
theorem dX5_valuesBelow_2 : decode cX5_valuesBelow 2 = .ok (.iconst 0, 1) := by decide +kernel
theorem dX5_valuesBelow_3 : decode cX5_valuesBelow 3 = .ok (.istore_n 3, 1) := by decide +kernel
theorem dX5_valuesBelow_4 : decode cX5_valuesBelow 4 = .ok (.iload_n 3, 1) := by decide +kernel
theorem dX5_valuesBelow_5 : decode cX5_valuesBelow 5 = .ok (.iload_n 1, 1) := by decide +kernel
theorem dX5_valuesBelow_6 : decode cX5_valuesBelow 6 = .ok (.if_icmp .ge 25, 3) := by decide +kernel
theorem dX5_valuesBelow_9 : decode cX5_valuesBelow 9 = .ok (.iload_n 2, 1) := by decide +kernel
theorem dX5_valuesBelow_10 : decode cX5_valuesBelow 10 = .ok (.aload_n 0, 1) := by decide +kernel
theorem dX5_valuesBelow_11 : decode cX5_valuesBelow 11 = .ok (.iload_n 3, 1) := by decide +kernel
theorem dX5_valuesBelow_12 : decode cX5_valuesBelow 12 = .ok (.invokevirtual 113, 3) := by decide +kernel
theorem dX5_valuesBelow_15 : decode cX5_valuesBelow 15 = .ok (.ifCond .eq 7, 3) := by decide +kernel
theorem dX5_valuesBelow_18 : decode cX5_valuesBelow 18 = .ok (.iconst 1, 1) := by decide +kernel
theorem dX5_valuesBelow_19 : decode cX5_valuesBelow 19 = .ok (.goto 4, 3) := by decide +kernel
theorem dX5_valuesBelow_22 : decode cX5_valuesBelow 22 = .ok (.iconst 0, 1) := by decide +kernel
theorem dX5_valuesBelow_23 : decode cX5_valuesBelow 23 = .ok (.iadd, 1) := by decide +kernel
theorem dX5_valuesBelow_24 : decode cX5_valuesBelow 24 = .ok (.istore_n 2, 1) := by decide +kernel
theorem dX5_valuesBelow_25 : decode cX5_valuesBelow 25 = .ok (.iinc 3 1, 3) := by decide +kernel
theorem dX5_valuesBelow_28 : decode cX5_valuesBelow 28 = .ok (.goto (-24), 3) := by decide +kernel
theorem dX5_valuesBelow_31 : decode cX5_valuesBelow 31 = .ok (.iload_n 2, 1) := by decide +kernel
theorem dX5_valuesBelow_32 : decode cX5_valuesBelow 32 = .ok (.ireturn, 1) := by decide +kernel
theorem dX5_heaviest_0 : decode cX5_heaviest 0 = .ok (.iconst (-1), 1) := by decide +kernel
theorem dX5_heaviest_1 : decode cX5_heaviest 1 = .ok (.istore_n 1, 1) := by decide +kernel
theorem dX5_heaviest_2 : decode cX5_heaviest 2 = .ok (.iconst 0, 1) := by decide +kernel
theorem dX5_heaviest_3 : decode cX5_heaviest 3 = .ok (.istore_n 2, 1) := by decide +kernel
theorem dX5_heaviest_4 : decode cX5_heaviest 4 = .ok (.iconst 0, 1) := by decide +kernel
theorem dX5_heaviest_5 : decode cX5_heaviest 5 = .ok (.istore_n 3, 1) := by decide +kernel
theorem dX5_heaviest_6 : decode cX5_heaviest 6 = .ok (.iload_n 3, 1) := by decide +kernel
theorem dX5_heaviest_7 : decode cX5_heaviest 7 = .ok (.bipush 64, 2) := by decide +kernel
theorem dX5_heaviest_9 : decode cX5_heaviest 9 = .ok (.if_icmp .ge 33, 3) := by decide +kernel
theorem dX5_heaviest_12 : decode cX5_heaviest 12 = .ok (.aload_n 0, 1) := by decide +kernel
theorem dX5_heaviest_13 : decode cX5_heaviest 13 = .ok (.getfield 35, 3) := by decide +kernel
theorem dX5_heaviest_16 : decode cX5_heaviest 16 = .ok (.iload_n 3, 1) := by decide +kernel
theorem dX5_heaviest_17 : decode cX5_heaviest 17 = .ok (.invokevirtual 299, 3) := by decide +kernel
theorem dX5_heaviest_20 : decode cX5_heaviest 20 = .ok (.invokestatic 272, 3) := by decide +kernel
theorem dX5_heaviest_23 : decode cX5_heaviest 23 = .ok (.istore 4, 2) := by decide +kernel
theorem dX5_heaviest_25 : decode cX5_heaviest 25 = .ok (.iload 4, 2) := by decide +kernel
theorem dX5_heaviest_27 : decode cX5_heaviest 27 = .ok (.iload_n 2, 1) := by decide +kernel
theorem dX5_heaviest_28 : decode cX5_heaviest 28 = .ok (.if_icmp .le 8, 3) := by decide +kernel
theorem dX5_heaviest_31 : decode cX5_heaviest 31 = .ok (.iload_n 3, 1) := by decide +kernel
theorem dX5_heaviest_32 : decode cX5_heaviest 32 = .ok (.istore_n 1, 1) := by decide +kernel
theorem dX5_heaviest_33 : decode cX5_heaviest 33 = .ok (.iload 4, 2) := by decide +kernel
theorem dX5_heaviest_35 : decode cX5_heaviest 35 = .ok (.istore_n 2, 1) := by decide +kernel
theorem dX5_heaviest_36 : decode cX5_heaviest 36 = .ok (.iinc 3 1, 3) := by decide +kernel
theorem dX5_heaviest_39 : decode cX5_heaviest 39 = .ok (.goto (-33), 3) := by decide +kernel
theorem dX5_heaviest_42 : decode cX5_heaviest 42 = .ok (.iload_n 1, 1) := by decide +kernel
theorem dX5_heaviest_43 : decode cX5_heaviest 43 = .ok (.ireturn, 1) := by decide +kernel
theorem dX5_rankOf_0 : decode cX5_rankOf 0 = .ok (.aload_n 0, 1) := by decide +kernel
theorem dX5_rankOf_1 : decode cX5_rankOf 1 = .ok (.iload_n 1, 1) := by decide +kernel
theorem dX5_rankOf_2 : decode cX5_rankOf 2 = .ok (.invokevirtual 322, 3) := by decide +kernel
theorem dX5_rankOf_5 : decode cX5_rankOf 5 = .ok (.istore_n 2, 1) := by decide +kernel
theorem dX5_rankOf_6 : decode cX5_rankOf 6 = .ok (.iconst 0, 1) := by decide +kernel
theorem dX5_rankOf_7 : decode cX5_rankOf 7 = .ok (.istore_n 3, 1) := by decide +kernel
theorem dX5_rankOf_8 : decode cX5_rankOf 8 = .ok (.iconst 0, 1) := by decide +kernel
theorem dX5_rankOf_9 : decode cX5_rankOf 9 = .ok (.istore 4, 2) := by decide +kernel
theorem dX5_rankOf_11 : decode cX5_rankOf 11 = .ok (.iload 4, 2) := by decide +kernel
theorem dX5_rankOf_13 : decode cX5_rankOf 13 = .ok (.bipush 64, 2) := by decide +kernel
theorem dX5_rankOf_15 : decode cX5_rankOf 15 = .ok (.if_icmp .ge 36, 3) := by decide +kernel
theorem dX5_rankOf_18 : decode cX5_rankOf 18 = .ok (.iload_n 3, 1) := by decide +kernel
theorem dX5_rankOf_19 : decode cX5_rankOf 19 = .ok (.aload_n 0, 1) := by decide +kernel
theorem dX5_rankOf_20 : decode cX5_rankOf 20 = .ok (.iload 4, 2) := by decide +kernel
theorem dX5_rankOf_22 : decode cX5_rankOf 22 = .ok (.invokevirtual 113, 3) := by decide +kernel
theorem dX5_rankOf_25 : decode cX5_rankOf 25 = .ok (.ifCond .eq 17, 3) := by decide +kernel
theorem dX5_rankOf_28 : decode cX5_rankOf 28 = .ok (.aload_n 0, 1) := by decide +kernel
theorem dX5_rankOf_29 : decode cX5_rankOf 29 = .ok (.iload 4, 2) := by decide +kernel
theorem dX5_rankOf_31 : decode cX5_rankOf 31 = .ok (.invokevirtual 322, 3) := by decide +kernel
theorem dX5_rankOf_34 : decode cX5_rankOf 34 = .ok (.iload_n 2, 1) := by decide +kernel
theorem dX5_rankOf_35 : decode cX5_rankOf 35 = .ok (.if_icmp .ge 7, 3) := by decide +kernel
theorem dX5_rankOf_38 : decode cX5_rankOf 38 = .ok (.iconst 1, 1) := by decide +kernel
theorem dX5_rankOf_39 : decode cX5_rankOf 39 = .ok (.goto 4, 3) := by decide +kernel
theorem dX5_rankOf_42 : decode cX5_rankOf 42 = .ok (.iconst 0, 1) := by decide +kernel
theorem dX5_rankOf_43 : decode cX5_rankOf 43 = .ok (.iadd, 1) := by decide +kernel
theorem dX5_rankOf_44 : decode cX5_rankOf 44 = .ok (.istore_n 3, 1) := by decide +kernel
theorem dX5_rankOf_45 : decode cX5_rankOf 45 = .ok (.iinc 4 1, 3) := by decide +kernel
theorem dX5_rankOf_48 : decode cX5_rankOf 48 = .ok (.goto (-37), 3) := by decide +kernel
theorem dX5_rankOf_51 : decode cX5_rankOf 51 = .ok (.iload_n 3, 1) := by decide +kernel
theorem dX5_rankOf_52 : decode cX5_rankOf 52 = .ok (.ireturn, 1) := by decide +kernel
theorem dX5_twinOf_0 : decode cX5_twinOf 0 = .ok (.aload_n 0, 1) := by decide +kernel
theorem dX5_twinOf_1 : decode cX5_twinOf 1 = .ok (.iload_n 1, 1) := by decide +kernel
theorem dX5_twinOf_2 : decode cX5_twinOf 2 = .ok (.invokevirtual 322, 3) := by decide +kernel
theorem dX5_twinOf_5 : decode cX5_twinOf 5 = .ok (.istore_n 2, 1) := by decide +kernel
theorem dX5_twinOf_6 : decode cX5_twinOf 6 = .ok (.iconst 0, 1) := by decide +kernel
theorem dX5_twinOf_7 : decode cX5_twinOf 7 = .ok (.istore_n 3, 1) := by decide +kernel
theorem dX5_twinOf_8 : decode cX5_twinOf 8 = .ok (.iload_n 3, 1) := by decide +kernel
theorem dX5_twinOf_9 : decode cX5_twinOf 9 = .ok (.bipush 64, 2) := by decide +kernel
theorem dX5_twinOf_11 : decode cX5_twinOf 11 = .ok (.if_icmp .ge 25, 3) := by decide +kernel
theorem dX5_twinOf_14 : decode cX5_twinOf 14 = .ok (.iload_n 3, 1) := by decide +kernel
theorem dX5_twinOf_15 : decode cX5_twinOf 15 = .ok (.iload_n 1, 1) := by decide +kernel
theorem dX5_twinOf_16 : decode cX5_twinOf 16 = .ok (.if_icmp .eq 14, 3) := by decide +kernel
theorem dX5_twinOf_19 : decode cX5_twinOf 19 = .ok (.aload_n 0, 1) := by decide +kernel
theorem dX5_twinOf_20 : decode cX5_twinOf 20 = .ok (.iload_n 3, 1) := by decide +kernel
theorem dX5_twinOf_21 : decode cX5_twinOf 21 = .ok (.invokevirtual 322, 3) := by decide +kernel
theorem dX5_twinOf_24 : decode cX5_twinOf 24 = .ok (.iload_n 2, 1) := by decide +kernel
theorem dX5_twinOf_25 : decode cX5_twinOf 25 = .ok (.if_icmp .ne 5, 3) := by decide +kernel
theorem dX5_twinOf_28 : decode cX5_twinOf 28 = .ok (.iload_n 3, 1) := by decide +kernel
theorem dX5_twinOf_29 : decode cX5_twinOf 29 = .ok (.ireturn, 1) := by decide +kernel
theorem dX5_twinOf_30 : decode cX5_twinOf 30 = .ok (.iinc 3 1, 3) := by decide +kernel
theorem dX5_twinOf_33 : decode cX5_twinOf 33 = .ok (.goto (-25), 3) := by decide +kernel
theorem dX5_twinOf_36 : decode cX5_twinOf 36 = .ok (.iconst (-1), 1) := by decide +kernel
theorem dX5_twinOf_37 : decode cX5_twinOf 37 = .ok (.ireturn, 1) := by decide +kernel
theorem dX6_init_0 : decode cX6_init 0 = .ok (.aload_n 0, 1) := by decide +kernel
theorem dX6_init_1 : decode cX6_init 1 = .ok (.invokespecial 3, 3) := by decide +kernel
theorem dX6_init_4 : decode cX6_init 4 = .ok (.aload_n 0, 1) := by decide +kernel
theorem dX6_init_5 : decode cX6_init 5 = .ok (.sipush 400, 3) := by decide +kernel
theorem dX6_init_8 : decode cX6_init 8 = .ok (.newarray .int, 2) := by decide +kernel
theorem dX6_init_10 : decode cX6_init 10 = .ok (.putfield 9, 3) := by decide +kernel
theorem dX6_init_13 : decode cX6_init 13 = .ok (.aload_n 0, 1) := by decide +kernel
theorem dX6_init_14 : decode cX6_init 14 = .ok (.iconst 4, 1) := by decide +kernel
theorem dX6_init_15 : decode cX6_init 15 = .ok (.newarray .int, 2) := by decide +kernel
theorem dX6_init_17 : decode cX6_init 17 = .ok (.putfield 15, 3) := by decide +kernel
theorem dX6_init_20 : decode cX6_init 20 = .ok (.return_, 1) := by decide +kernel
theorem dX6_hasRoom_0 : decode cX6_hasRoom 0 = .ok (.aload_n 0, 1) := by decide +kernel
theorem dX6_hasRoom_1 : decode cX6_hasRoom 1 = .ok (.getfield 18, 3) := by decide +kernel
theorem dX6_hasRoom_4 : decode cX6_hasRoom 4 = .ok (.iload_n 1, 1) := by decide +kernel
theorem dX6_hasRoom_5 : decode cX6_hasRoom 5 = .ok (.iadd, 1) := by decide +kernel
theorem dX6_hasRoom_6 : decode cX6_hasRoom 6 = .ok (.sipush 400, 3) := by decide +kernel
theorem dX6_hasRoom_9 : decode cX6_hasRoom 9 = .ok (.if_icmp .gt 7, 3) := by decide +kernel
theorem dX6_hasRoom_12 : decode cX6_hasRoom 12 = .ok (.iconst 1, 1) := by decide +kernel
theorem dX6_hasRoom_13 : decode cX6_hasRoom 13 = .ok (.goto 4, 3) := by decide +kernel
theorem dX6_hasRoom_16 : decode cX6_hasRoom 16 = .ok (.iconst 0, 1) := by decide +kernel
theorem dX6_hasRoom_17 : decode cX6_hasRoom 17 = .ok (.ireturn, 1) := by decide +kernel
theorem dX6_take_0 : decode cX6_take 0 = .ok (.bipush 24, 2) := by decide +kernel
theorem dX6_take_2 : decode cX6_take 2 = .ok (.istore_n 2, 1) := by decide +kernel
theorem dX6_take_3 : decode cX6_take 3 = .ok (.iload_n 2, 1) := by decide +kernel
theorem dX6_take_4 : decode cX6_take 4 = .ok (.ifCond .lt 43, 3) := by decide +kernel
theorem dX6_take_7 : decode cX6_take 7 = .ok (.aload_n 0, 1) := by decide +kernel
theorem dX6_take_8 : decode cX6_take 8 = .ok (.iconst 1, 1) := by decide +kernel
theorem dX6_take_9 : decode cX6_take 9 = .ok (.invokevirtual 22, 3) := by decide +kernel
theorem dX6_take_12 : decode cX6_take 12 = .ok (.ifCond .eq 35, 3) := by decide +kernel
theorem dX6_take_15 : decode cX6_take 15 = .ok (.aload_n 0, 1) := by decide +kernel
theorem dX6_take_16 : decode cX6_take 16 = .ok (.getfield 9, 3) := by decide +kernel
theorem dX6_take_19 : decode cX6_take 19 = .ok (.aload_n 0, 1) := by decide +kernel
theorem dX6_take_20 : decode cX6_take 20 = .ok (.getfield 18, 3) := by decide +kernel
theorem dX6_take_23 : decode cX6_take 23 = .ok (.iload_n 1, 1) := by decide +kernel
theorem dX6_take_24 : decode cX6_take 24 = .ok (.iload_n 2, 1) := by decide +kernel
theorem dX6_take_25 : decode cX6_take 25 = .ok (.iushr, 1) := by decide +kernel
theorem dX6_take_26 : decode cX6_take 26 = .ok (.sipush 255, 3) := by decide +kernel
theorem dX6_take_29 : decode cX6_take 29 = .ok (.iand, 1) := by decide +kernel
theorem dX6_take_30 : decode cX6_take 30 = .ok (.iastore, 1) := by decide +kernel
theorem dX6_take_31 : decode cX6_take 31 = .ok (.aload_n 0, 1) := by decide +kernel
theorem dX6_take_32 : decode cX6_take 32 = .ok (.dup, 1) := by decide +kernel
theorem dX6_take_33 : decode cX6_take 33 = .ok (.getfield 18, 3) := by decide +kernel
theorem dX6_take_36 : decode cX6_take 36 = .ok (.iconst 1, 1) := by decide +kernel
theorem dX6_take_37 : decode cX6_take 37 = .ok (.iadd, 1) := by decide +kernel
theorem dX6_take_38 : decode cX6_take 38 = .ok (.putfield 18, 3) := by decide +kernel
theorem dX6_take_41 : decode cX6_take 41 = .ok (.iinc 2 (-8), 3) := by decide +kernel
theorem dX6_take_44 : decode cX6_take 44 = .ok (.goto (-41), 3) := by decide +kernel
theorem dX6_take_47 : decode cX6_take 47 = .ok (.return_, 1) := by decide +kernel
theorem dX6_rewind_0 : decode cX6_rewind 0 = .ok (.aload_n 0, 1) := by decide +kernel
theorem dX6_rewind_1 : decode cX6_rewind 1 = .ok (.iconst 0, 1) := by decide +kernel
theorem dX6_rewind_2 : decode cX6_rewind 2 = .ok (.putfield 26, 3) := by decide +kernel
theorem dX6_rewind_5 : decode cX6_rewind 5 = .ok (.aload_n 0, 1) := by decide +kernel
theorem dX6_rewind_6 : decode cX6_rewind 6 = .ok (.iconst (-1), 1) := by decide +kernel
theorem dX6_rewind_7 : decode cX6_rewind 7 = .ok (.putfield 29, 3) := by decide +kernel
theorem dX6_rewind_10 : decode cX6_rewind 10 = .ok (.return_, 1) := by decide +kernel
theorem dX6_number_0 : decode cX6_number 0 = .ok (.iload_n 1, 1) := by decide +kernel
theorem dX6_number_1 : decode cX6_number 1 = .ok (.ifCond .lt 8, 3) := by decide +kernel
theorem dX6_number_4 : decode cX6_number 4 = .ok (.iload_n 1, 1) := by decide +kernel
theorem dX6_number_5 : decode cX6_number 5 = .ok (.iconst 4, 1) := by decide +kernel
theorem dX6_number_6 : decode cX6_number 6 = .ok (.if_icmp .lt 7, 3) := by decide +kernel
theorem dX6_number_9 : decode cX6_number 9 = .ok (.iconst (-1), 1) := by decide +kernel
theorem dX6_number_10 : decode cX6_number 10 = .ok (.goto 9, 3) := by decide +kernel
theorem dX6_number_13 : decode cX6_number 13 = .ok (.aload_n 0, 1) := by decide +kernel
theorem dX6_number_14 : decode cX6_number 14 = .ok (.getfield 15, 3) := by decide +kernel
theorem dX6_number_17 : decode cX6_number 17 = .ok (.iload_n 1, 1) := by decide +kernel
theorem dX6_number_18 : decode cX6_number 18 = .ok (.iaload, 1) := by decide +kernel
theorem dX6_number_19 : decode cX6_number 19 = .ok (.ireturn, 1) := by decide +kernel
theorem dX6_readAct_0 : decode cX6_readAct 0 = .ok (.aload_n 0, 1) := by decide +kernel
theorem dX6_readAct_1 : decode cX6_readAct 1 = .ok (.invokevirtual 32, 3) := by decide +kernel
theorem dX6_readAct_4 : decode cX6_readAct 4 = .ok (.aload_n 0, 1) := by decide +kernel
theorem dX6_readAct_5 : decode cX6_readAct 5 = .ok (.getfield 26, 3) := by decide +kernel
theorem dX6_readAct_8 : decode cX6_readAct 8 = .ok (.aload_n 0, 1) := by decide +kernel
theorem dX6_readAct_9 : decode cX6_readAct 9 = .ok (.getfield 18, 3) := by decide +kernel
theorem dX6_readAct_12 : decode cX6_readAct 12 = .ok (.if_icmp .lt 5, 3) := by decide +kernel
theorem dX6_readAct_15 : decode cX6_readAct 15 = .ok (.iconst 0, 1) := by decide +kernel
theorem dX6_readAct_16 : decode cX6_readAct 16 = .ok (.ireturn, 1) := by decide +kernel
theorem dX6_readAct_17 : decode cX6_readAct 17 = .ok (.iload_n 1, 1) := by decide +kernel
theorem dX6_readAct_18 : decode cX6_readAct 18 = .ok (.ifCond .le 35, 3) := by decide +kernel
theorem dX6_readAct_21 : decode cX6_readAct 21 = .ok (.aload_n 0, 1) := by decide +kernel
theorem dX6_readAct_22 : decode cX6_readAct 22 = .ok (.invokevirtual 35, 3) := by decide +kernel
theorem dX6_readAct_25 : decode cX6_readAct 25 = .ok (.bipush 59, 2) := by decide +kernel
theorem dX6_readAct_27 : decode cX6_readAct 27 = .ok (.if_icmp .eq 12, 3) := by decide +kernel
theorem dX6_readAct_30 : decode cX6_readAct 30 = .ok (.aload_n 0, 1) := by decide +kernel
theorem dX6_readAct_31 : decode cX6_readAct 31 = .ok (.aload_n 0, 1) := by decide +kernel
theorem dX6_readAct_32 : decode cX6_readAct 32 = .ok (.getfield 26, 3) := by decide +kernel
theorem dX6_readAct_35 : decode cX6_readAct 35 = .ok (.invokevirtual 39, 3) := by decide +kernel
theorem dX6_readAct_38 : decode cX6_readAct 38 = .ok (.ireturn, 1) := by decide +kernel
theorem dX6_readAct_39 : decode cX6_readAct 39 = .ok (.aload_n 0, 1) := by decide +kernel
theorem dX6_readAct_40 : decode cX6_readAct 40 = .ok (.dup, 1) := by decide +kernel
theorem dX6_readAct_41 : decode cX6_readAct 41 = .ok (.getfield 26, 3) := by decide +kernel
theorem dX6_readAct_44 : decode cX6_readAct 44 = .ok (.iconst 1, 1) := by decide +kernel
theorem dX6_readAct_45 : decode cX6_readAct 45 = .ok (.iadd, 1) := by decide +kernel
theorem dX6_readAct_46 : decode cX6_readAct 46 = .ok (.putfield 26, 3) := by decide +kernel
theorem dX6_readAct_49 : decode cX6_readAct 49 = .ok (.aload_n 0, 1) := by decide +kernel
theorem dX6_readAct_50 : decode cX6_readAct 50 = .ok (.invokevirtual 32, 3) := by decide +kernel
theorem dX6_readAct_53 : decode cX6_readAct 53 = .ok (.aload_n 0, 1) := by decide +kernel
theorem dX6_readAct_54 : decode cX6_readAct 54 = .ok (.iload_n 1, 1) := by decide +kernel
theorem dX6_readAct_55 : decode cX6_readAct 55 = .ok (.invokevirtual 42, 3) := by decide +kernel
theorem dX6_readAct_58 : decode cX6_readAct 58 = .ok (.ifCond .eq 14, 3) := by decide +kernel
theorem dX6_readAct_61 : decode cX6_readAct 61 = .ok (.aload_n 0, 1) := by decide +kernel
theorem dX6_readAct_62 : decode cX6_readAct 62 = .ok (.invokevirtual 45, 3) := by decide +kernel
theorem dX6_readAct_65 : decode cX6_readAct 65 = .ok (.ifCond .eq 7, 3) := by decide +kernel
theorem dX6_readAct_68 : decode cX6_readAct 68 = .ok (.iconst 1, 1) := by decide +kernel
theorem dX6_readAct_69 : decode cX6_readAct 69 = .ok (.goto 4, 3) := by decide +kernel
theorem dX6_readAct_72 : decode cX6_readAct 72 = .ok (.iconst 0, 1) := by decide +kernel
theorem dX6_readAct_73 : decode cX6_readAct 73 = .ok (.ireturn, 1) := by decide +kernel
theorem dX6_readWord_0 : decode cX6_readWord 0 = .ok (.aload_n 0, 1) := by decide +kernel
theorem dX6_readWord_1 : decode cX6_readWord 1 = .ok (.getfield 26, 3) := by decide +kernel
theorem dX6_readWord_4 : decode cX6_readWord 4 = .ok (.istore_n 2, 1) := by decide +kernel
theorem dX6_readWord_5 : decode cX6_readWord 5 = .ok (.iload_n 2, 1) := by decide +kernel
theorem dX6_readWord_6 : decode cX6_readWord 6 = .ok (.aload_n 0, 1) := by decide +kernel
theorem dX6_readWord_7 : decode cX6_readWord 7 = .ok (.getfield 18, 3) := by decide +kernel
theorem dX6_readWord_10 : decode cX6_readWord 10 = .ok (.if_icmp .ge 38, 3) := by decide +kernel
theorem dX6_readWord_13 : decode cX6_readWord 13 = .ok (.iload_n 2, 1) := by decide +kernel
theorem dX6_readWord_14 : decode cX6_readWord 14 = .ok (.sipush 400, 3) := by decide +kernel
theorem dX6_readWord_17 : decode cX6_readWord 17 = .ok (.if_icmp .ge 31, 3) := by decide +kernel
theorem dX6_readWord_20 : decode cX6_readWord 20 = .ok (.aload_n 0, 1) := by decide +kernel
theorem dX6_readWord_21 : decode cX6_readWord 21 = .ok (.getfield 9, 3) := by decide +kernel
theorem dX6_readWord_24 : decode cX6_readWord 24 = .ok (.iload_n 2, 1) := by decide +kernel
theorem dX6_readWord_25 : decode cX6_readWord 25 = .ok (.iaload, 1) := by decide +kernel
theorem dX6_readWord_26 : decode cX6_readWord 26 = .ok (.bipush 97, 2) := by decide +kernel
theorem dX6_readWord_28 : decode cX6_readWord 28 = .ok (.if_icmp .lt 20, 3) := by decide +kernel
theorem dX6_readWord_31 : decode cX6_readWord 31 = .ok (.aload_n 0, 1) := by decide +kernel
theorem dX6_readWord_32 : decode cX6_readWord 32 = .ok (.getfield 9, 3) := by decide +kernel
theorem dX6_readWord_35 : decode cX6_readWord 35 = .ok (.iload_n 2, 1) := by decide +kernel
theorem dX6_readWord_36 : decode cX6_readWord 36 = .ok (.iaload, 1) := by decide +kernel
theorem dX6_readWord_37 : decode cX6_readWord 37 = .ok (.bipush 122, 2) := by decide +kernel
theorem dX6_readWord_39 : decode cX6_readWord 39 = .ok (.if_icmp .gt 9, 3) := by decide +kernel
theorem dX6_readWord_42 : decode cX6_readWord 42 = .ok (.iinc 2 1, 3) := by decide +kernel
theorem dX6_readWord_45 : decode cX6_readWord 45 = .ok (.goto (-40), 3) := by decide +kernel
theorem dX6_readWord_48 : decode cX6_readWord 48 = .ok (.aload_n 0, 1) := by decide +kernel
theorem dX6_readWord_49 : decode cX6_readWord 49 = .ok (.aload_n 0, 1) := by decide +kernel
theorem dX6_readWord_50 : decode cX6_readWord 50 = .ok (.getfield 26, 3) := by decide +kernel
theorem dX6_readWord_53 : decode cX6_readWord 53 = .ok (.putfield 49, 3) := by decide +kernel
theorem dX6_readWord_56 : decode cX6_readWord 56 = .ok (.aload_n 0, 1) := by decide +kernel
theorem dX6_readWord_57 : decode cX6_readWord 57 = .ok (.iload_n 1, 1) := by decide +kernel
theorem dX6_readWord_58 : decode cX6_readWord 58 = .ok (.bipush 14, 2) := by decide +kernel
theorem dX6_readWord_60 : decode cX6_readWord 60 = .ok (.if_icmp .ge 15, 3) := by decide +kernel
theorem dX6_readWord_63 : decode cX6_readWord 63 = .ok (.aload_n 0, 1) := by decide +kernel
theorem dX6_readWord_64 : decode cX6_readWord 64 = .ok (.aload_n 0, 1) := by decide +kernel
theorem dX6_readWord_65 : decode cX6_readWord 65 = .ok (.getfield 26, 3) := by decide +kernel
theorem dX6_readWord_68 : decode cX6_readWord 68 = .ok (.iload_n 2, 1) := by decide +kernel
theorem dX6_readWord_69 : decode cX6_readWord 69 = .ok (.invokevirtual 52, 3) := by decide +kernel
theorem dX6_readWord_72 : decode cX6_readWord 72 = .ok (.goto 4, 3) := by decide +kernel
theorem dX6_readWord_75 : decode cX6_readWord 75 = .ok (.iconst (-1), 1) := by decide +kernel
theorem dX6_readWord_76 : decode cX6_readWord 76 = .ok (.putfield 56, 3) := by decide +kernel
theorem dX6_readWord_79 : decode cX6_readWord 79 = .ok (.aload_n 0, 1) := by decide +kernel
theorem dX6_readWord_80 : decode cX6_readWord 80 = .ok (.getfield 56, 3) := by decide +kernel
theorem dX6_readWord_83 : decode cX6_readWord 83 = .ok (.iconst (-1), 1) := by decide +kernel
theorem dX6_readWord_84 : decode cX6_readWord 84 = .ok (.if_icmp .ne 12, 3) := by decide +kernel
theorem dX6_readWord_87 : decode cX6_readWord 87 = .ok (.aload_n 0, 1) := by decide +kernel
theorem dX6_readWord_88 : decode cX6_readWord 88 = .ok (.aload_n 0, 1) := by decide +kernel
theorem dX6_readWord_89 : decode cX6_readWord 89 = .ok (.getfield 26, 3) := by decide +kernel
theorem dX6_readWord_92 : decode cX6_readWord 92 = .ok (.invokevirtual 39, 3) := by decide +kernel
theorem dX6_readWord_95 : decode cX6_readWord 95 = .ok (.ireturn, 1) := by decide +kernel
theorem dX6_readWord_96 : decode cX6_readWord 96 = .ok (.aload_n 0, 1) := by decide +kernel
theorem dX6_readWord_97 : decode cX6_readWord 97 = .ok (.iload_n 2, 1) := by decide +kernel
theorem dX6_readWord_98 : decode cX6_readWord 98 = .ok (.putfield 26, 3) := by decide +kernel
theorem dX6_readWord_101 : decode cX6_readWord 101 = .ok (.iconst 1, 1) := by decide +kernel
theorem dX6_readWord_102 : decode cX6_readWord 102 = .ok (.ireturn, 1) := by decide +kernel
theorem dX6_actCalled_0 : decode cX6_actCalled 0 = .ok (.iconst 0, 1) := by decide +kernel
theorem dX6_actCalled_1 : decode cX6_actCalled 1 = .ok (.istore_n 3, 1) := by decide +kernel
theorem dX6_actCalled_2 : decode cX6_actCalled 2 = .ok (.iload_n 3, 1) := by decide +kernel
theorem dX6_actCalled_3 : decode cX6_actCalled 3 = .ok (.bipush 10, 2) := by decide +kernel
theorem dX6_actCalled_5 : decode cX6_actCalled 5 = .ok (.if_icmp .ge 24, 3) := by decide +kernel
theorem dX6_actCalled_8 : decode cX6_actCalled 8 = .ok (.aload_n 0, 1) := by decide +kernel
theorem dX6_actCalled_9 : decode cX6_actCalled 9 = .ok (.iload_n 3, 1) := by decide +kernel
theorem dX6_actCalled_10 : decode cX6_actCalled 10 = .ok (.invokestatic 59, 3) := by decide +kernel
theorem dX6_actCalled_13 : decode cX6_actCalled 13 = .ok (.iload_n 1, 1) := by decide +kernel
theorem dX6_actCalled_14 : decode cX6_actCalled 14 = .ok (.iload_n 2, 1) := by decide +kernel
theorem dX6_actCalled_15 : decode cX6_actCalled 15 = .ok (.invokevirtual 63, 3) := by decide +kernel
theorem dX6_actCalled_18 : decode cX6_actCalled 18 = .ok (.ifCond .eq 5, 3) := by decide +kernel
theorem dX6_actCalled_21 : decode cX6_actCalled 21 = .ok (.iload_n 3, 1) := by decide +kernel
theorem dX6_actCalled_22 : decode cX6_actCalled 22 = .ok (.ireturn, 1) := by decide +kernel
theorem dX6_actCalled_23 : decode cX6_actCalled 23 = .ok (.iinc 3 1, 3) := by decide +kernel
theorem dX6_actCalled_26 : decode cX6_actCalled 26 = .ok (.goto (-24), 3) := by decide +kernel
theorem dX6_actCalled_29 : decode cX6_actCalled 29 = .ok (.iconst (-1), 1) := by decide +kernel
theorem dX6_actCalled_30 : decode cX6_actCalled 30 = .ok (.ireturn, 1) := by decide +kernel
theorem dX6_isWord_0 : decode cX6_isWord 0 = .ok (.iload_n 2, 1) := by decide +kernel
theorem dX6_isWord_1 : decode cX6_isWord 1 = .ok (.ifCond .lt 20, 3) := by decide +kernel
theorem dX6_isWord_4 : decode cX6_isWord 4 = .ok (.iload_n 3, 1) := by decide +kernel
theorem dX6_isWord_5 : decode cX6_isWord 5 = .ok (.sipush 400, 3) := by decide +kernel
theorem dX6_isWord_8 : decode cX6_isWord 8 = .ok (.if_icmp .gt 13, 3) := by decide +kernel
theorem dX6_isWord_11 : decode cX6_isWord 11 = .ok (.iload_n 3, 1) := by decide +kernel
theorem dX6_isWord_12 : decode cX6_isWord 12 = .ok (.iload_n 2, 1) := by decide +kernel
theorem dX6_isWord_13 : decode cX6_isWord 13 = .ok (.isub, 1) := by decide +kernel
theorem dX6_isWord_14 : decode cX6_isWord 14 = .ok (.aload_n 1, 1) := by decide +kernel
theorem dX6_isWord_15 : decode cX6_isWord 15 = .ok (.invokevirtual 67, 3) := by decide +kernel
theorem dX6_isWord_18 : decode cX6_isWord 18 = .ok (.if_icmp .eq 5, 3) := by decide +kernel
theorem dX6_isWord_21 : decode cX6_isWord 21 = .ok (.iconst 0, 1) := by decide +kernel
theorem dX6_isWord_22 : decode cX6_isWord 22 = .ok (.ireturn, 1) := by decide +kernel
theorem dX6_isWord_23 : decode cX6_isWord 23 = .ok (.iconst 0, 1) := by decide +kernel
theorem dX6_isWord_24 : decode cX6_isWord 24 = .ok (.istore 4, 2) := by decide +kernel
theorem dX6_isWord_26 : decode cX6_isWord 26 = .ok (.iload 4, 2) := by decide +kernel
theorem dX6_isWord_28 : decode cX6_isWord 28 = .ok (.aload_n 1, 1) := by decide +kernel
theorem dX6_isWord_29 : decode cX6_isWord 29 = .ok (.invokevirtual 67, 3) := by decide +kernel
theorem dX6_isWord_32 : decode cX6_isWord 32 = .ok (.if_icmp .ge 29, 3) := by decide +kernel
theorem dX6_isWord_35 : decode cX6_isWord 35 = .ok (.aload_n 0, 1) := by decide +kernel
theorem dX6_isWord_36 : decode cX6_isWord 36 = .ok (.getfield 9, 3) := by decide +kernel
theorem dX6_isWord_39 : decode cX6_isWord 39 = .ok (.iload_n 2, 1) := by decide +kernel
theorem dX6_isWord_40 : decode cX6_isWord 40 = .ok (.iload 4, 2) := by decide +kernel
theorem dX6_isWord_42 : decode cX6_isWord 42 = .ok (.iadd, 1) := by decide +kernel
theorem dX6_isWord_43 : decode cX6_isWord 43 = .ok (.iaload, 1) := by decide +kernel
theorem dX6_isWord_44 : decode cX6_isWord 44 = .ok (.aload_n 1, 1) := by decide +kernel
theorem dX6_isWord_45 : decode cX6_isWord 45 = .ok (.iload 4, 2) := by decide +kernel
theorem dX6_isWord_47 : decode cX6_isWord 47 = .ok (.invokevirtual 72, 3) := by decide +kernel
theorem dX6_isWord_50 : decode cX6_isWord 50 = .ok (.if_icmp .eq 5, 3) := by decide +kernel
theorem dX6_isWord_53 : decode cX6_isWord 53 = .ok (.iconst 0, 1) := by decide +kernel
theorem dX6_isWord_54 : decode cX6_isWord 54 = .ok (.ireturn, 1) := by decide +kernel
theorem dX6_isWord_55 : decode cX6_isWord 55 = .ok (.iinc 4 1, 3) := by decide +kernel
theorem dX6_isWord_58 : decode cX6_isWord 58 = .ok (.goto (-32), 3) := by decide +kernel
theorem dX6_isWord_61 : decode cX6_isWord 61 = .ok (.iconst 1, 1) := by decide +kernel
theorem dX6_isWord_62 : decode cX6_isWord 62 = .ok (.ireturn, 1) := by decide +kernel
theorem dX6_wordOf_0 : decode cX6_wordOf 0 = .ok (.iload_n 0, 1) := by decide +kernel
theorem dX6_wordOf_1 : decode cX6_wordOf 1 = .ok (.tableswitch 78 0 8 #[51, 54, 57, 60, 63, 66, 69, 72, 75], 51) := by decide +kernel
theorem dX6_wordOf_52 : decode cX6_wordOf 52 = .ok (.ldc 76, 2) := by decide +kernel
theorem dX6_wordOf_54 : decode cX6_wordOf 54 = .ok (.areturn, 1) := by decide +kernel
theorem dX6_wordOf_55 : decode cX6_wordOf 55 = .ok (.ldc 78, 2) := by decide +kernel
theorem dX6_wordOf_57 : decode cX6_wordOf 57 = .ok (.areturn, 1) := by decide +kernel
theorem dX6_wordOf_58 : decode cX6_wordOf 58 = .ok (.ldc 80, 2) := by decide +kernel
theorem dX6_wordOf_60 : decode cX6_wordOf 60 = .ok (.areturn, 1) := by decide +kernel
