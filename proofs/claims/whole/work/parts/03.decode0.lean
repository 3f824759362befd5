theorem dX0_init_0 : decode cX0_init 0 = .ok (.aload_n 0, 1) := by decide +kernel
theorem dX0_init_1 : decode cX0_init 1 = .ok (.invokespecial 1, 3) := by decide +kernel
theorem dX0_init_4 : decode cX0_init 4 = .ok (.aload_n 0, 1) := by decide +kernel
theorem dX0_init_5 : decode cX0_init 5 = .ok (.iconst 5, 1) := by decide +kernel
theorem dX0_init_6 : decode cX0_init 6 = .ok (.newarray .int, 2) := by decide +kernel
theorem dX0_init_8 : decode cX0_init 8 = .ok (.putfield 9, 3) := by decide +kernel
theorem dX0_init_11 : decode cX0_init 11 = .ok (.aload_n 0, 1) := by decide +kernel
theorem dX0_init_12 : decode cX0_init 12 = .ok (.new 13, 3) := by decide +kernel
theorem dX0_init_15 : decode cX0_init 15 = .ok (.dup, 1) := by decide +kernel
theorem dX0_init_16 : decode cX0_init 16 = .ok (.invokespecial 15, 3) := by decide +kernel
theorem dX0_init_19 : decode cX0_init 19 = .ok (.putfield 16, 3) := by decide +kernel
theorem dX0_init_22 : decode cX0_init 22 = .ok (.aload_n 0, 1) := by decide +kernel
theorem dX0_init_23 : decode cX0_init 23 = .ok (.invokevirtual 20, 3) := by decide +kernel
theorem dX0_init_26 : decode cX0_init 26 = .ok (.return_, 1) := by decide +kernel
theorem dX0_tellNothing_0 : decode cX0_tellNothing 0 = .ok (.iconst 0, 1) := by decide +kernel
theorem dX0_tellNothing_1 : decode cX0_tellNothing 1 = .ok (.istore_n 1, 1) := by decide +kernel
theorem dX0_tellNothing_2 : decode cX0_tellNothing 2 = .ok (.iload_n 1, 1) := by decide +kernel
theorem dX0_tellNothing_3 : decode cX0_tellNothing 3 = .ok (.iconst 5, 1) := by decide +kernel
theorem dX0_tellNothing_4 : decode cX0_tellNothing 4 = .ok (.if_icmp .ge 20, 3) := by decide +kernel
theorem dX0_tellNothing_7 : decode cX0_tellNothing 7 = .ok (.aload_n 0, 1) := by decide +kernel
theorem dX0_tellNothing_8 : decode cX0_tellNothing 8 = .ok (.getfield 9, 3) := by decide +kernel
theorem dX0_tellNothing_11 : decode cX0_tellNothing 11 = .ok (.iload_n 1, 1) := by decide +kernel
theorem dX0_tellNothing_12 : decode cX0_tellNothing 12 = .ok (.getstatic 23, 3) := by decide +kernel
theorem dX0_tellNothing_15 : decode cX0_tellNothing 15 = .ok (.iload_n 1, 1) := by decide +kernel
theorem dX0_tellNothing_16 : decode cX0_tellNothing 16 = .ok (.iaload, 1) := by decide +kernel
theorem dX0_tellNothing_17 : decode cX0_tellNothing 17 = .ok (.iastore, 1) := by decide +kernel
theorem dX0_tellNothing_18 : decode cX0_tellNothing 18 = .ok (.iinc 1 1, 3) := by decide +kernel
theorem dX0_tellNothing_21 : decode cX0_tellNothing 21 = .ok (.goto (-19), 3) := by decide +kernel
theorem dX0_tellNothing_24 : decode cX0_tellNothing 24 = .ok (.aload_n 0, 1) := by decide +kernel
theorem dX0_tellNothing_25 : decode cX0_tellNothing 25 = .ok (.iconst 0, 1) := by decide +kernel
theorem dX0_tellNothing_26 : decode cX0_tellNothing 26 = .ok (.putfield 26, 3) := by decide +kernel
theorem dX0_tellNothing_29 : decode cX0_tellNothing 29 = .ok (.aload_n 0, 1) := by decide +kernel
theorem dX0_tellNothing_30 : decode cX0_tellNothing 30 = .ok (.getfield 16, 3) := by decide +kernel
theorem dX0_tellNothing_33 : decode cX0_tellNothing 33 = .ok (.invokevirtual 30, 3) := by decide +kernel
theorem dX0_tellNothing_36 : decode cX0_tellNothing 36 = .ok (.return_, 1) := by decide +kernel
theorem dX0_copyFrom_0 : decode cX0_copyFrom 0 = .ok (.iconst 0, 1) := by decide +kernel
theorem dX0_copyFrom_1 : decode cX0_copyFrom 1 = .ok (.istore_n 2, 1) := by decide +kernel
theorem dX0_copyFrom_2 : decode cX0_copyFrom 2 = .ok (.iload_n 2, 1) := by decide +kernel
theorem dX0_copyFrom_3 : decode cX0_copyFrom 3 = .ok (.iconst 5, 1) := by decide +kernel
theorem dX0_copyFrom_4 : decode cX0_copyFrom 4 = .ok (.if_icmp .ge 21, 3) := by decide +kernel
theorem dX0_copyFrom_7 : decode cX0_copyFrom 7 = .ok (.aload_n 0, 1) := by decide +kernel
theorem dX0_copyFrom_8 : decode cX0_copyFrom 8 = .ok (.getfield 9, 3) := by decide +kernel
theorem dX0_copyFrom_11 : decode cX0_copyFrom 11 = .ok (.iload_n 2, 1) := by decide +kernel
theorem dX0_copyFrom_12 : decode cX0_copyFrom 12 = .ok (.aload_n 1, 1) := by decide +kernel
theorem dX0_copyFrom_13 : decode cX0_copyFrom 13 = .ok (.getfield 9, 3) := by decide +kernel
theorem dX0_copyFrom_16 : decode cX0_copyFrom 16 = .ok (.iload_n 2, 1) := by decide +kernel
theorem dX0_copyFrom_17 : decode cX0_copyFrom 17 = .ok (.iaload, 1) := by decide +kernel
theorem dX0_copyFrom_18 : decode cX0_copyFrom 18 = .ok (.iastore, 1) := by decide +kernel
theorem dX0_copyFrom_19 : decode cX0_copyFrom 19 = .ok (.iinc 2 1, 3) := by decide +kernel
theorem dX0_copyFrom_22 : decode cX0_copyFrom 22 = .ok (.goto (-20), 3) := by decide +kernel
theorem dX0_copyFrom_25 : decode cX0_copyFrom 25 = .ok (.aload_n 0, 1) := by decide +kernel
theorem dX0_copyFrom_26 : decode cX0_copyFrom 26 = .ok (.aload_n 1, 1) := by decide +kernel
theorem dX0_copyFrom_27 : decode cX0_copyFrom 27 = .ok (.getfield 26, 3) := by decide +kernel
theorem dX0_copyFrom_30 : decode cX0_copyFrom 30 = .ok (.putfield 26, 3) := by decide +kernel
theorem dX0_copyFrom_33 : decode cX0_copyFrom 33 = .ok (.aload_n 0, 1) := by decide +kernel
theorem dX0_copyFrom_34 : decode cX0_copyFrom 34 = .ok (.getfield 16, 3) := by decide +kernel
theorem dX0_copyFrom_37 : decode cX0_copyFrom 37 = .ok (.aload_n 1, 1) := by decide +kernel
theorem dX0_copyFrom_38 : decode cX0_copyFrom 38 = .ok (.getfield 16, 3) := by decide +kernel
theorem dX0_copyFrom_41 : decode cX0_copyFrom 41 = .ok (.invokevirtual 33, 3) := by decide +kernel
theorem dX0_copyFrom_44 : decode cX0_copyFrom 44 = .ok (.return_, 1) := by decide +kernel
theorem dX0_tellSetting_0 : decode cX0_tellSetting 0 = .ok (.iload_n 1, 1) := by decide +kernel
theorem dX0_tellSetting_1 : decode cX0_tellSetting 1 = .ok (.ifCond .lt 15, 3) := by decide +kernel
theorem dX0_tellSetting_4 : decode cX0_tellSetting 4 = .ok (.iload_n 1, 1) := by decide +kernel
theorem dX0_tellSetting_5 : decode cX0_tellSetting 5 = .ok (.iconst 5, 1) := by decide +kernel
theorem dX0_tellSetting_6 : decode cX0_tellSetting 6 = .ok (.if_icmp .ge 10, 3) := by decide +kernel
theorem dX0_tellSetting_9 : decode cX0_tellSetting 9 = .ok (.aload_n 0, 1) := by decide +kernel
theorem dX0_tellSetting_10 : decode cX0_tellSetting 10 = .ok (.getfield 9, 3) := by decide +kernel
theorem dX0_tellSetting_13 : decode cX0_tellSetting 13 = .ok (.iload_n 1, 1) := by decide +kernel
theorem dX0_tellSetting_14 : decode cX0_tellSetting 14 = .ok (.iload_n 2, 1) := by decide +kernel
theorem dX0_tellSetting_15 : decode cX0_tellSetting 15 = .ok (.iastore, 1) := by decide +kernel
theorem dX0_tellSetting_16 : decode cX0_tellSetting 16 = .ok (.return_, 1) := by decide +kernel
theorem dX0_tellBroom_0 : decode cX0_tellBroom 0 = .ok (.aload_n 0, 1) := by decide +kernel
theorem dX0_tellBroom_1 : decode cX0_tellBroom 1 = .ok (.getfield 16, 3) := by decide +kernel
theorem dX0_tellBroom_4 : decode cX0_tellBroom 4 = .ok (.aload_n 0, 1) := by decide +kernel
theorem dX0_tellBroom_5 : decode cX0_tellBroom 5 = .ok (.getfield 26, 3) := by decide +kernel
theorem dX0_tellBroom_8 : decode cX0_tellBroom 8 = .ok (.iload_n 1, 1) := by decide +kernel
theorem dX0_tellBroom_9 : decode cX0_tellBroom 9 = .ok (.iload_n 2, 1) := by decide +kernel
theorem dX0_tellBroom_10 : decode cX0_tellBroom 10 = .ok (.iload_n 3, 1) := by decide +kernel
theorem dX0_tellBroom_11 : decode cX0_tellBroom 11 = .ok (.invokevirtual 37, 3) := by decide +kernel
theorem dX0_tellBroom_14 : decode cX0_tellBroom 14 = .ok (.aload_n 0, 1) := by decide +kernel
theorem dX0_tellBroom_15 : decode cX0_tellBroom 15 = .ok (.dup, 1) := by decide +kernel
theorem dX0_tellBroom_16 : decode cX0_tellBroom 16 = .ok (.getfield 26, 3) := by decide +kernel
theorem dX0_tellBroom_19 : decode cX0_tellBroom 19 = .ok (.iconst 1, 1) := by decide +kernel
theorem dX0_tellBroom_20 : decode cX0_tellBroom 20 = .ok (.iadd, 1) := by decide +kernel
theorem dX0_tellBroom_21 : decode cX0_tellBroom 21 = .ok (.putfield 26, 3) := by decide +kernel
theorem dX0_tellBroom_24 : decode cX0_tellBroom 24 = .ok (.return_, 1) := by decide +kernel
theorem dX0_begin_0 : decode cX0_begin 0 = .ok (.aload_n 0, 1) := by decide +kernel
theorem dX0_begin_1 : decode cX0_begin 1 = .ok (.getfield 16, 3) := by decide +kernel
theorem dX0_begin_4 : decode cX0_begin 4 = .ok (.aload_n 0, 1) := by decide +kernel
theorem dX0_begin_5 : decode cX0_begin 5 = .ok (.getfield 9, 3) := by decide +kernel
theorem dX0_begin_8 : decode cX0_begin 8 = .ok (.iconst 0, 1) := by decide +kernel
theorem dX0_begin_9 : decode cX0_begin 9 = .ok (.iaload, 1) := by decide +kernel
theorem dX0_begin_10 : decode cX0_begin 10 = .ok (.putfield 41, 3) := by decide +kernel
theorem dX0_begin_13 : decode cX0_begin 13 = .ok (.aload_n 0, 1) := by decide +kernel
theorem dX0_begin_14 : decode cX0_begin 14 = .ok (.getfield 16, 3) := by decide +kernel
theorem dX0_begin_17 : decode cX0_begin 17 = .ok (.aload_n 0, 1) := by decide +kernel
theorem dX0_begin_18 : decode cX0_begin 18 = .ok (.aload_n 0, 1) := by decide +kernel
theorem dX0_begin_19 : decode cX0_begin 19 = .ok (.getfield 16, 3) := by decide +kernel
theorem dX0_begin_22 : decode cX0_begin 22 = .ok (.getfield 41, 3) := by decide +kernel
theorem dX0_begin_25 : decode cX0_begin 25 = .ok (.invokevirtual 44, 3) := by decide +kernel
theorem dX0_begin_28 : decode cX0_begin 28 = .ok (.putfield 48, 3) := by decide +kernel
theorem dX0_begin_31 : decode cX0_begin 31 = .ok (.return_, 1) := by decide +kernel
theorem dX0_heightOf_0 : decode cX0_heightOf 0 = .ok (.aload_n 0, 1) := by decide +kernel
theorem dX0_heightOf_1 : decode cX0_heightOf 1 = .ok (.getfield 9, 3) := by decide +kernel
theorem dX0_heightOf_4 : decode cX0_heightOf 4 = .ok (.iconst 1, 1) := by decide +kernel
theorem dX0_heightOf_5 : decode cX0_heightOf 5 = .ok (.iaload, 1) := by decide +kernel
theorem dX0_heightOf_6 : decode cX0_heightOf 6 = .ok (.istore_n 2, 1) := by decide +kernel
theorem dX0_heightOf_7 : decode cX0_heightOf 7 = .ok (.iload_n 2, 1) := by decide +kernel
theorem dX0_heightOf_8 : decode cX0_heightOf 8 = .ok (.iconst 1, 1) := by decide +kernel
theorem dX0_heightOf_9 : decode cX0_heightOf 9 = .ok (.if_icmp .ge 7, 3) := by decide +kernel
theorem dX0_heightOf_12 : decode cX0_heightOf 12 = .ok (.iconst 0, 1) := by decide +kernel
theorem dX0_heightOf_13 : decode cX0_heightOf 13 = .ok (.goto 6, 3) := by decide +kernel
theorem dX0_heightOf_16 : decode cX0_heightOf 16 = .ok (.iload_n 1, 1) := by decide +kernel
theorem dX0_heightOf_17 : decode cX0_heightOf 17 = .ok (.iload_n 2, 1) := by decide +kernel
theorem dX0_heightOf_18 : decode cX0_heightOf 18 = .ok (.idiv, 1) := by decide +kernel
theorem dX0_heightOf_19 : decode cX0_heightOf 19 = .ok (.ireturn, 1) := by decide +kernel
theorem dX0_isAboveMark_0 : decode cX0_isAboveMark 0 = .ok (.aload_n 0, 1) := by decide +kernel
theorem dX0_isAboveMark_1 : decode cX0_isAboveMark 1 = .ok (.iload_n 1, 1) := by decide +kernel
theorem dX0_isAboveMark_2 : decode cX0_isAboveMark 2 = .ok (.invokevirtual 44, 3) := by decide +kernel
theorem dX0_isAboveMark_5 : decode cX0_isAboveMark 5 = .ok (.aload_n 0, 1) := by decide +kernel
theorem dX0_isAboveMark_6 : decode cX0_isAboveMark 6 = .ok (.getfield 9, 3) := by decide +kernel
theorem dX0_isAboveMark_9 : decode cX0_isAboveMark 9 = .ok (.iconst 3, 1) := by decide +kernel
theorem dX0_isAboveMark_10 : decode cX0_isAboveMark 10 = .ok (.iaload, 1) := by decide +kernel
theorem dX0_isAboveMark_11 : decode cX0_isAboveMark 11 = .ok (.if_icmp .le 7, 3) := by decide +kernel
theorem dX0_isAboveMark_14 : decode cX0_isAboveMark 14 = .ok (.iconst 1, 1) := by decide +kernel
theorem dX0_isAboveMark_15 : decode cX0_isAboveMark 15 = .ok (.goto 4, 3) := by decide +kernel
theorem dX0_isAboveMark_18 : decode cX0_isAboveMark 18 = .ok (.iconst 0, 1) := by decide +kernel
theorem dX0_isAboveMark_19 : decode cX0_isAboveMark 19 = .ok (.ireturn, 1) := by decide +kernel
theorem dX0_stairWidth_0 : decode cX0_stairWidth 0 = .ok (.aload_n 0, 1) := by decide +kernel
theorem dX0_stairWidth_1 : decode cX0_stairWidth 1 = .ok (.getfield 9, 3) := by decide +kernel
theorem dX0_stairWidth_4 : decode cX0_stairWidth 4 = .ok (.iconst 4, 1) := by decide +kernel
theorem dX0_stairWidth_5 : decode cX0_stairWidth 5 = .ok (.iaload, 1) := by decide +kernel
theorem dX0_stairWidth_6 : decode cX0_stairWidth 6 = .ok (.ireturn, 1) := by decide +kernel
theorem dX0_drainCups_0 : decode cX0_drainCups 0 = .ok (.aload_n 0, 1) := by decide +kernel
theorem dX0_drainCups_1 : decode cX0_drainCups 1 = .ok (.getfield 9, 3) := by decide +kernel
theorem dX0_drainCups_4 : decode cX0_drainCups 4 = .ok (.iconst 2, 1) := by decide +kernel
theorem dX0_drainCups_5 : decode cX0_drainCups 5 = .ok (.iaload, 1) := by decide +kernel
theorem dX0_drainCups_6 : decode cX0_drainCups 6 = .ok (.ireturn, 1) := by decide +kernel
theorem dX1_init_0 : decode cX1_init 0 = .ok (.aload_n 0, 1) := by decide +kernel
theorem dX1_init_1 : decode cX1_init 1 = .ok (.invokespecial 1, 3) := by decide +kernel
theorem dX1_init_4 : decode cX1_init 4 = .ok (.aload_n 0, 1) := by decide +kernel
theorem dX1_init_5 : decode cX1_init 5 = .ok (.lconst 1, 1) := by decide +kernel
theorem dX1_init_6 : decode cX1_init 6 = .ok (.putfield 7, 3) := by decide +kernel
theorem dX1_init_9 : decode cX1_init 9 = .ok (.return_, 1) := by decide +kernel
theorem dX1_become_0 : decode cX1_become 0 = .ok (.aload_n 0, 1) := by decide +kernel
theorem dX1_become_1 : decode cX1_become 1 = .ok (.lload_n 1, 1) := by decide +kernel
theorem dX1_become_2 : decode cX1_become 2 = .ok (.putfield 13, 3) := by decide +kernel
theorem dX1_become_5 : decode cX1_become 5 = .ok (.aload_n 0, 1) := by decide +kernel
theorem dX1_become_6 : decode cX1_become 6 = .ok (.lload_n 3, 1) := by decide +kernel
theorem dX1_become_7 : decode cX1_become 7 = .ok (.putfield 7, 3) := by decide +kernel
theorem dX1_become_10 : decode cX1_become 10 = .ok (.lload_n 1, 1) := by decide +kernel
theorem dX1_become_11 : decode cX1_become 11 = .ok (.invokestatic 16, 3) := by decide +kernel
theorem dX1_become_14 : decode cX1_become 14 = .ok (.lload_n 3, 1) := by decide +kernel
theorem dX1_become_15 : decode cX1_become 15 = .ok (.invokestatic 22, 3) := by decide +kernel
theorem dX1_become_18 : decode cX1_become 18 = .ok (.lstore 5, 2) := by decide +kernel
theorem dX1_become_20 : decode cX1_become 20 = .ok (.lload 5, 2) := by decide +kernel
theorem dX1_become_22 : decode cX1_become 22 = .ok (.lconst 1, 1) := by decide +kernel
theorem dX1_become_23 : decode cX1_become 23 = .ok (.lcmp, 1) := by decide +kernel
theorem dX1_become_24 : decode cX1_become 24 = .ok (.ifCond .le 19, 3) := by decide +kernel
theorem dX1_become_27 : decode cX1_become 27 = .ok (.aload_n 0, 1) := by decide +kernel
theorem dX1_become_28 : decode cX1_become 28 = .ok (.lload_n 1, 1) := by decide +kernel
theorem dX1_become_29 : decode cX1_become 29 = .ok (.lload 5, 2) := by decide +kernel
theorem dX1_become_31 : decode cX1_become 31 = .ok (.ldiv, 1) := by decide +kernel
theorem dX1_become_32 : decode cX1_become 32 = .ok (.putfield 13, 3) := by decide +kernel
theorem dX1_become_35 : decode cX1_become 35 = .ok (.aload_n 0, 1) := by decide +kernel
theorem dX1_become_36 : decode cX1_become 36 = .ok (.lload_n 3, 1) := by decide +kernel
theorem dX1_become_37 : decode cX1_become 37 = .ok (.lload 5, 2) := by decide +kernel
theorem dX1_become_39 : decode cX1_become 39 = .ok (.ldiv, 1) := by decide +kernel
theorem dX1_become_40 : decode cX1_become 40 = .ok (.putfield 7, 3) := by decide +kernel
theorem dX1_become_43 : decode cX1_become 43 = .ok (.return_, 1) := by decide +kernel
theorem dX1_plus_0 : decode cX1_plus 0 = .ok (.aload_n 0, 1) := by decide +kernel
theorem dX1_plus_1 : decode cX1_plus 1 = .ok (.aload_n 0, 1) := by decide +kernel
theorem dX1_plus_2 : decode cX1_plus 2 = .ok (.getfield 13, 3) := by decide +kernel
theorem dX1_plus_5 : decode cX1_plus 5 = .ok (.lload_n 3, 1) := by decide +kernel
theorem dX1_plus_6 : decode cX1_plus 6 = .ok (.lmul, 1) := by decide +kernel
theorem dX1_plus_7 : decode cX1_plus 7 = .ok (.lload_n 1, 1) := by decide +kernel
theorem dX1_plus_8 : decode cX1_plus 8 = .ok (.aload_n 0, 1) := by decide +kernel
theorem dX1_plus_9 : decode cX1_plus 9 = .ok (.getfield 7, 3) := by decide +kernel
theorem dX1_plus_12 : decode cX1_plus 12 = .ok (.lmul, 1) := by decide +kernel
theorem dX1_plus_13 : decode cX1_plus 13 = .ok (.ladd, 1) := by decide +kernel
theorem dX1_plus_14 : decode cX1_plus 14 = .ok (.aload_n 0, 1) := by decide +kernel
theorem dX1_plus_15 : decode cX1_plus 15 = .ok (.getfield 7, 3) := by decide +kernel
theorem dX1_plus_18 : decode cX1_plus 18 = .ok (.lload_n 3, 1) := by decide +kernel
theorem dX1_plus_19 : decode cX1_plus 19 = .ok (.lmul, 1) := by decide +kernel
theorem dX1_plus_20 : decode cX1_plus 20 = .ok (.invokevirtual 26, 3) := by decide +kernel
theorem dX1_plus_23 : decode cX1_plus 23 = .ok (.return_, 1) := by decide +kernel
theorem dX1_part_0 : decode cX1_part 0 = .ok (.iload_n 1, 1) := by decide +kernel
theorem dX1_part_1 : decode cX1_part 1 = .ok (.ifCond .ne 10, 3) := by decide +kernel
theorem dX1_part_4 : decode cX1_part 4 = .ok (.aload_n 0, 1) := by decide +kernel
theorem dX1_part_5 : decode cX1_part 5 = .ok (.getfield 13, 3) := by decide +kernel
theorem dX1_part_8 : decode cX1_part 8 = .ok (.goto 7, 3) := by decide +kernel
theorem dX1_part_11 : decode cX1_part 11 = .ok (.aload_n 0, 1) := by decide +kernel
theorem dX1_part_12 : decode cX1_part 12 = .ok (.getfield 7, 3) := by decide +kernel
theorem dX1_part_15 : decode cX1_part 15 = .ok (.lreturn, 1) := by decide +kernel
theorem dX1_commonDivisor_0 : decode cX1_commonDivisor 0 = .ok (.lload_n 0, 1) := by decide +kernel
theorem dX1_commonDivisor_1 : decode cX1_commonDivisor 1 = .ok (.lstore 4, 2) := by decide +kernel
theorem dX1_commonDivisor_3 : decode cX1_commonDivisor 3 = .ok (.lload_n 2, 1) := by decide +kernel
theorem dX1_commonDivisor_4 : decode cX1_commonDivisor 4 = .ok (.lstore 6, 2) := by decide +kernel
theorem dX1_commonDivisor_6 : decode cX1_commonDivisor 6 = .ok (.iconst 0, 1) := by decide +kernel
theorem dX1_commonDivisor_7 : decode cX1_commonDivisor 7 = .ok (.istore 8, 2) := by decide +kernel
theorem dX1_commonDivisor_9 : decode cX1_commonDivisor 9 = .ok (.iload 8, 2) := by decide +kernel
theorem dX1_commonDivisor_11 : decode cX1_commonDivisor 11 = .ok (.sipush 200, 3) := by decide +kernel
theorem dX1_commonDivisor_14 : decode cX1_commonDivisor 14 = .ok (.if_icmp .ge 31, 3) := by decide +kernel
theorem dX1_commonDivisor_17 : decode cX1_commonDivisor 17 = .ok (.lload 6, 2) := by decide +kernel
theorem dX1_commonDivisor_19 : decode cX1_commonDivisor 19 = .ok (.lconst 0, 1) := by decide +kernel
theorem dX1_commonDivisor_20 : decode cX1_commonDivisor 20 = .ok (.lcmp, 1) := by decide +kernel
theorem dX1_commonDivisor_21 : decode cX1_commonDivisor 21 = .ok (.ifCond .eq 24, 3) := by decide +kernel
theorem dX1_commonDivisor_24 : decode cX1_commonDivisor 24 = .ok (.lload 4, 2) := by decide +kernel
theorem dX1_commonDivisor_26 : decode cX1_commonDivisor 26 = .ok (.lload 6, 2) := by decide +kernel
theorem dX1_commonDivisor_28 : decode cX1_commonDivisor 28 = .ok (.lrem, 1) := by decide +kernel
theorem dX1_commonDivisor_29 : decode cX1_commonDivisor 29 = .ok (.lstore 9, 2) := by decide +kernel
theorem dX1_commonDivisor_31 : decode cX1_commonDivisor 31 = .ok (.lload 6, 2) := by decide +kernel
theorem dX1_commonDivisor_33 : decode cX1_commonDivisor 33 = .ok (.lstore 4, 2) := by decide +kernel
theorem dX1_commonDivisor_35 : decode cX1_commonDivisor 35 = .ok (.lload 9, 2) := by decide +kernel
theorem dX1_commonDivisor_37 : decode cX1_commonDivisor 37 = .ok (.lstore 6, 2) := by decide +kernel
theorem dX1_commonDivisor_39 : decode cX1_commonDivisor 39 = .ok (.iinc 8 1, 3) := by decide +kernel
theorem dX1_commonDivisor_42 : decode cX1_commonDivisor 42 = .ok (.goto (-33), 3) := by decide +kernel
theorem dX1_commonDivisor_45 : decode cX1_commonDivisor 45 = .ok (.lload 4, 2) := by decide +kernel
theorem dX1_commonDivisor_47 : decode cX1_commonDivisor 47 = .ok (.lreturn, 1) := by decide +kernel
theorem dX2_init_0 : decode cX2_init 0 = .ok (.aload_n 0, 1) := by decide +kernel
theorem dX2_init_1 : decode cX2_init 1 = .ok (.invokespecial 1, 3) := by decide +kernel
theorem dX2_init_4 : decode cX2_init 4 = .ok (.return_, 1) := by decide +kernel
theorem dX2_asBroom_0 : decode cX2_asBroom 0 = .ok (.aload_n 0, 1) := by decide +kernel
theorem dX2_asBroom_1 : decode cX2_asBroom 1 = .ok (.dup, 1) := by decide +kernel
theorem dX2_asBroom_2 : decode cX2_asBroom 2 = .ok (.getfield 7, 3) := by decide +kernel
theorem dX2_asBroom_5 : decode cX2_asBroom 5 = .ok (.lconst 1, 1) := by decide +kernel
theorem dX2_asBroom_6 : decode cX2_asBroom 6 = .ok (.ladd, 1) := by decide +kernel
theorem dX2_asBroom_7 : decode cX2_asBroom 7 = .ok (.putfield 7, 3) := by decide +kernel
theorem dX2_asBroom_10 : decode cX2_asBroom 10 = .ok (.iload_n 1, 1) := by decide +kernel
theorem dX2_asBroom_11 : decode cX2_asBroom 11 = .ok (.ireturn, 1) := by decide +kernel
theorem dX2_asWet_0 : decode cX2_asWet 0 = .ok (.aload_n 0, 1) := by decide +kernel
theorem dX2_asWet_1 : decode cX2_asWet 1 = .ok (.dup, 1) := by decide +kernel
theorem dX2_asWet_2 : decode cX2_asWet 2 = .ok (.getfield 7, 3) := by decide +kernel
theorem dX2_asWet_5 : decode cX2_asWet 5 = .ok (.ldc2_w 13, 3) := by decide +kernel
theorem dX2_asWet_8 : decode cX2_asWet 8 = .ok (.ladd, 1) := by decide +kernel
theorem dX2_asWet_9 : decode cX2_asWet 9 = .ok (.putfield 7, 3) := by decide +kernel
theorem dX2_asWet_12 : decode cX2_asWet 12 = .ok (.aload_n 0, 1) := by decide +kernel
theorem dX2_asWet_13 : decode cX2_asWet 13 = .ok (.iload_n 1, 1) := by decide +kernel
theorem dX2_asWet_14 : decode cX2_asWet 14 = .ok (.invokevirtual 15, 3) := by decide +kernel
theorem dX2_asWet_17 : decode cX2_asWet 17 = .ok (.iload_n 2, 1) := by decide +kernel
theorem dX2_asWet_18 : decode cX2_asWet 18 = .ok (.iadd, 1) := by decide +kernel
theorem dX2_asWet_19 : decode cX2_asWet 19 = .ok (.ireturn, 1) := by decide +kernel
theorem dX2_asHalf_0 : decode cX2_asHalf 0 = .ok (.aload_n 0, 1) := by decide +kernel
theorem dX2_asHalf_1 : decode cX2_asHalf 1 = .ok (.dup, 1) := by decide +kernel
theorem dX2_asHalf_2 : decode cX2_asHalf 2 = .ok (.getfield 7, 3) := by decide +kernel
theorem dX2_asHalf_5 : decode cX2_asHalf 5 = .ok (.ldc2_w 19, 3) := by decide +kernel
theorem dX2_asHalf_8 : decode cX2_asHalf 8 = .ok (.ladd, 1) := by decide +kernel
theorem dX2_asHalf_9 : decode cX2_asHalf 9 = .ok (.putfield 7, 3) := by decide +kernel
theorem dX2_asHalf_12 : decode cX2_asHalf 12 = .ok (.aload_n 0, 1) := by decide +kernel
theorem dX2_asHalf_13 : decode cX2_asHalf 13 = .ok (.iload_n 1, 1) := by decide +kernel
theorem dX2_asHalf_14 : decode cX2_asHalf 14 = .ok (.invokevirtual 15, 3) := by decide +kernel
theorem dX2_asHalf_17 : decode cX2_asHalf 17 = .ok (.iload_n 2, 1) := by decide +kernel
theorem dX2_asHalf_18 : decode cX2_asHalf 18 = .ok (.isub, 1) := by decide +kernel
theorem dX2_asHalf_19 : decode cX2_asHalf 19 = .ok (.ireturn, 1) := by decide +kernel
theorem dX2_asBored_0 : decode cX2_asBored 0 = .ok (.aload_n 0, 1) := by decide +kernel
theorem dX2_asBored_1 : decode cX2_asBored 1 = .ok (.dup, 1) := by decide +kernel
theorem dX2_asBored_2 : decode cX2_asBored 2 = .ok (.getfield 7, 3) := by decide +kernel
theorem dX2_asBored_5 : decode cX2_asBored 5 = .ok (.ldc2_w 21, 3) := by decide +kernel
theorem dX2_asBored_8 : decode cX2_asBored 8 = .ok (.ladd, 1) := by decide +kernel
theorem dX2_asBored_9 : decode cX2_asBored 9 = .ok (.putfield 7, 3) := by decide +kernel
theorem dX2_asBored_12 : decode cX2_asBored 12 = .ok (.iconst 2, 1) := by decide +kernel
theorem dX2_asBored_13 : decode cX2_asBored 13 = .ok (.aload_n 0, 1) := by decide +kernel
theorem dX2_asBored_14 : decode cX2_asBored 14 = .ok (.iload_n 1, 1) := by decide +kernel
theorem dX2_asBored_15 : decode cX2_asBored 15 = .ok (.iload_n 2, 1) := by decide +kernel
theorem dX2_asBored_16 : decode cX2_asBored 16 = .ok (.invokevirtual 23, 3) := by decide +kernel
theorem dX2_asBored_19 : decode cX2_asBored 19 = .ok (.imul, 1) := by decide +kernel
theorem dX2_asBored_20 : decode cX2_asBored 20 = .ok (.ireturn, 1) := by decide +kernel
theorem dX2_asBurning_0 : decode cX2_asBurning 0 = .ok (.aload_n 0, 1) := by decide +kernel
theorem dX2_asBurning_1 : decode cX2_asBurning 1 = .ok (.dup, 1) := by decide +kernel
theorem dX2_asBurning_2 : decode cX2_asBurning 2 = .ok (.getfield 7, 3) := by decide +kernel
theorem dX2_asBurning_5 : decode cX2_asBurning 5 = .ok (.ldc2_w 27, 3) := by decide +kernel
theorem dX2_asBurning_8 : decode cX2_asBurning 8 = .ok (.ladd, 1) := by decide +kernel
theorem dX2_asBurning_9 : decode cX2_asBurning 9 = .ok (.putfield 7, 3) := by decide +kernel
theorem dX2_asBurning_12 : decode cX2_asBurning 12 = .ok (.aload_n 0, 1) := by decide +kernel
theorem dX2_asBurning_13 : decode cX2_asBurning 13 = .ok (.iload_n 1, 1) := by decide +kernel
theorem dX2_asBurning_14 : decode cX2_asBurning 14 = .ok (.iload_n 2, 1) := by decide +kernel
theorem dX2_asBurning_15 : decode cX2_asBurning 15 = .ok (.invokevirtual 29, 3) := by decide +kernel
theorem dX2_asBurning_18 : decode cX2_asBurning 18 = .ok (.iload_n 3, 1) := by decide +kernel
theorem dX2_asBurning_19 : decode cX2_asBurning 19 = .ok (.iadd, 1) := by decide +kernel
theorem dX2_asBurning_20 : decode cX2_asBurning 20 = .ok (.ireturn, 1) := by decide +kernel
theorem dX2_asTeaching_0 : decode cX2_asTeaching 0 = .ok (.aload_n 0, 1) := by decide +kernel
theorem dX2_asTeaching_1 : decode cX2_asTeaching 1 = .ok (.dup, 1) := by decide +kernel
theorem dX2_asTeaching_2 : decode cX2_asTeaching 2 = .ok (.getfield 7, 3) := by decide +kernel
theorem dX2_asTeaching_5 : decode cX2_asTeaching 5 = .ok (.ldc2_w 32, 3) := by decide +kernel
theorem dX2_asTeaching_8 : decode cX2_asTeaching 8 = .ok (.ladd, 1) := by decide +kernel
theorem dX2_asTeaching_9 : decode cX2_asTeaching 9 = .ok (.putfield 7, 3) := by decide +kernel
theorem dX2_asTeaching_12 : decode cX2_asTeaching 12 = .ok (.aload_n 0, 1) := by decide +kernel
theorem dX2_asTeaching_13 : decode cX2_asTeaching 13 = .ok (.iload_n 1, 1) := by decide +kernel
theorem dX2_asTeaching_14 : decode cX2_asTeaching 14 = .ok (.invokevirtual 15, 3) := by decide +kernel
theorem dX2_asTeaching_17 : decode cX2_asTeaching 17 = .ok (.iload_n 2, 1) := by decide +kernel
theorem dX2_asTeaching_18 : decode cX2_asTeaching 18 = .ok (.iadd, 1) := by decide +kernel
theorem dX2_asTeaching_19 : decode cX2_asTeaching 19 = .ok (.ireturn, 1) := by decide +kernel
theorem dX3_init_0 : decode cX3_init 0 = .ok (.aload_n 0, 1) := by decide +kernel
theorem dX3_init_1 : decode cX3_init 1 = .ok (.invokespecial 1, 3) := by decide +kernel
theorem dX3_init_4 : decode cX3_init 4 = .ok (.aload_n 0, 1) := by decide +kernel
theorem dX3_init_5 : decode cX3_init 5 = .ok (.sipush 200, 3) := by decide +kernel
theorem dX3_init_8 : decode cX3_init 8 = .ok (.newarray .int, 2) := by decide +kernel
theorem dX3_init_10 : decode cX3_init 10 = .ok (.putfield 9, 3) := by decide +kernel
theorem dX3_init_13 : decode cX3_init 13 = .ok (.return_, 1) := by decide +kernel
theorem dX3_add_0 : decode cX3_add 0 = .ok (.aload_n 0, 1) := by decide +kernel
theorem dX3_add_1 : decode cX3_add 1 = .ok (.getfield 13, 3) := by decide +kernel
theorem dX3_add_4 : decode cX3_add 4 = .ok (.ifCond .lt 13, 3) := by decide +kernel
theorem dX3_add_7 : decode cX3_add 7 = .ok (.aload_n 0, 1) := by decide +kernel
theorem dX3_add_8 : decode cX3_add 8 = .ok (.getfield 13, 3) := by decide +kernel
theorem dX3_add_11 : decode cX3_add 11 = .ok (.sipush 200, 3) := by decide +kernel
theorem dX3_add_14 : decode cX3_add 14 = .ok (.if_icmp .lt 5, 3) := by decide +kernel
theorem dX3_add_17 : decode cX3_add 17 = .ok (.iconst 0, 1) := by decide +kernel
theorem dX3_add_18 : decode cX3_add 18 = .ok (.ireturn, 1) := by decide +kernel
theorem dX3_add_19 : decode cX3_add 19 = .ok (.aload_n 0, 1) := by decide +kernel
theorem dX3_add_20 : decode cX3_add 20 = .ok (.getfield 9, 3) := by decide +kernel
theorem dX3_add_23 : decode cX3_add 23 = .ok (.aload_n 0, 1) := by decide +kernel
theorem dX3_add_24 : decode cX3_add 24 = .ok (.getfield 13, 3) := by decide +kernel
theorem dX3_add_27 : decode cX3_add 27 = .ok (.iload_n 1, 1) := by decide +kernel
theorem dX3_add_28 : decode cX3_add 28 = .ok (.iastore, 1) := by decide +kernel
theorem dX3_add_29 : decode cX3_add 29 = .ok (.aload_n 0, 1) := by decide +kernel
theorem dX3_add_30 : decode cX3_add 30 = .ok (.dup, 1) := by decide +kernel
theorem dX3_add_31 : decode cX3_add 31 = .ok (.getfield 13, 3) := by decide +kernel
theorem dX3_add_34 : decode cX3_add 34 = .ok (.iconst 1, 1) := by decide +kernel
theorem dX3_add_35 : decode cX3_add 35 = .ok (.iadd, 1) := by decide +kernel
theorem dX3_add_36 : decode cX3_add 36 = .ok (.putfield 13, 3) := by decide +kernel
theorem dX3_add_39 : decode cX3_add 39 = .ok (.iconst 1, 1) := by decide +kernel
theorem dX3_add_40 : decode cX3_add 40 = .ok (.ireturn, 1) := by decide +kernel
theorem dX3_at_0 : decode cX3_at 0 = .ok (.iload_n 1, 1) := by decide +kernel
theorem dX3_at_1 : decode cX3_at 1 = .ok (.ifCond .lt 27, 3) := by decide +kernel
theorem dX3_at_4 : decode cX3_at 4 = .ok (.iload_n 1, 1) := by decide +kernel
theorem dX3_at_5 : decode cX3_at 5 = .ok (.aload_n 0, 1) := by decide +kernel
theorem dX3_at_6 : decode cX3_at 6 = .ok (.getfield 13, 3) := by decide +kernel
theorem dX3_at_9 : decode cX3_at 9 = .ok (.if_icmp .ge 19, 3) := by decide +kernel
theorem dX3_at_12 : decode cX3_at 12 = .ok (.iload_n 1, 1) := by decide +kernel
theorem dX3_at_13 : decode cX3_at 13 = .ok (.sipush 200, 3) := by decide +kernel
theorem dX3_at_16 : decode cX3_at 16 = .ok (.if_icmp .ge 12, 3) := by decide +kernel
theorem dX3_at_19 : decode cX3_at 19 = .ok (.aload_n 0, 1) := by decide +kernel
theorem dX3_at_20 : decode cX3_at 20 = .ok (.getfield 9, 3) := by decide +kernel
theorem dX3_at_23 : decode cX3_at 23 = .ok (.iload_n 1, 1) := by decide +kernel
theorem dX3_at_24 : decode cX3_at 24 = .ok (.iaload, 1) := by decide +kernel
theorem dX3_at_25 : decode cX3_at 25 = .ok (.goto 4, 3) := by decide +kernel
theorem dX3_at_28 : decode cX3_at 28 = .ok (.iconst (-1), 1) := by decide +kernel
theorem dX3_at_29 : decode cX3_at 29 = .ok (.ireturn, 1) := by decide +kernel
theorem dX4_init_0 : decode cX4_init 0 = .ok (.aload_n 0, 1) := by decide +kernel
theorem dX4_init_1 : decode cX4_init 1 = .ok (.invokespecial 1, 3) := by decide +kernel
theorem dX4_init_4 : decode cX4_init 4 = .ok (.aload_n 0, 1) := by decide +kernel
theorem dX4_init_5 : decode cX4_init 5 = .ok (.iconst 4, 1) := by decide +kernel
theorem dX4_init_6 : decode cX4_init 6 = .ok (.newarray .int, 2) := by decide +kernel
theorem dX4_init_8 : decode cX4_init 8 = .ok (.putfield 9, 3) := by decide +kernel
theorem dX4_init_11 : decode cX4_init 11 = .ok (.aload_n 0, 1) := by decide +kernel
theorem dX4_init_12 : decode cX4_init 12 = .ok (.iconst 4, 1) := by decide +kernel
theorem dX4_init_13 : decode cX4_init 13 = .ok (.newarray .int, 2) := by decide +kernel
theorem dX4_init_15 : decode cX4_init 15 = .ok (.putfield 13, 3) := by decide +kernel
theorem dX4_init_18 : decode cX4_init 18 = .ok (.return_, 1) := by decide +kernel
theorem dX4_add_0 : decode cX4_add 0 = .ok (.aload_n 0, 1) := by decide +kernel
theorem dX4_add_1 : decode cX4_add 1 = .ok (.getfield 16, 3) := by decide +kernel
theorem dX4_add_4 : decode cX4_add 4 = .ok (.ifCond .lt 11, 3) := by decide +kernel
theorem dX4_add_7 : decode cX4_add 7 = .ok (.aload_n 0, 1) := by decide +kernel
theorem dX4_add_8 : decode cX4_add 8 = .ok (.getfield 16, 3) := by decide +kernel
theorem dX4_add_11 : decode cX4_add 11 = .ok (.iconst 4, 1) := by decide +kernel
theorem dX4_add_12 : decode cX4_add 12 = .ok (.if_icmp .lt 5, 3) := by decide +kernel
theorem dX4_add_15 : decode cX4_add 15 = .ok (.iconst 0, 1) := by decide +kernel
theorem dX4_add_16 : decode cX4_add 16 = .ok (.ireturn, 1) := by decide +kernel
theorem dX4_add_17 : decode cX4_add 17 = .ok (.aload_n 0, 1) := by decide +kernel
theorem dX4_add_18 : decode cX4_add 18 = .ok (.getfield 9, 3) := by decide +kernel
theorem dX4_add_21 : decode cX4_add 21 = .ok (.aload_n 0, 1) := by decide +kernel
theorem dX4_add_22 : decode cX4_add 22 = .ok (.getfield 16, 3) := by decide +kernel
theorem dX4_add_25 : decode cX4_add 25 = .ok (.iload_n 1, 1) := by decide +kernel
theorem dX4_add_26 : decode cX4_add 26 = .ok (.iastore, 1) := by decide +kernel
theorem dX4_add_27 : decode cX4_add 27 = .ok (.aload_n 0, 1) := by decide +kernel
theorem dX4_add_28 : decode cX4_add 28 = .ok (.getfield 13, 3) := by decide +kernel
theorem dX4_add_31 : decode cX4_add 31 = .ok (.aload_n 0, 1) := by decide +kernel
theorem dX4_add_32 : decode cX4_add 32 = .ok (.getfield 16, 3) := by decide +kernel
theorem dX4_add_35 : decode cX4_add 35 = .ok (.iload_n 2, 1) := by decide +kernel
theorem dX4_add_36 : decode cX4_add 36 = .ok (.iastore, 1) := by decide +kernel
theorem dX4_add_37 : decode cX4_add 37 = .ok (.aload_n 0, 1) := by decide +kernel
theorem dX4_add_38 : decode cX4_add 38 = .ok (.dup, 1) := by decide +kernel
theorem dX4_add_39 : decode cX4_add 39 = .ok (.getfield 16, 3) := by decide +kernel
theorem dX4_add_42 : decode cX4_add 42 = .ok (.iconst 1, 1) := by decide +kernel
theorem dX4_add_43 : decode cX4_add 43 = .ok (.iadd, 1) := by decide +kernel
theorem dX4_add_44 : decode cX4_add 44 = .ok (.putfield 16, 3) := by decide +kernel
theorem dX4_add_47 : decode cX4_add 47 = .ok (.iconst 1, 1) := by decide +kernel
theorem dX4_add_48 : decode cX4_add 48 = .ok (.ireturn, 1) := by decide +kernel
theorem dX4_allowWater_0 : decode cX4_allowWater 0 = .ok (.iconst 0, 1) := by decide +kernel
theorem dX4_allowWater_1 : decode cX4_allowWater 1 = .ok (.istore_n 3, 1) := by decide +kernel
theorem dX4_allowWater_2 : decode cX4_allowWater 2 = .ok (.iload_n 3, 1) := by decide +kernel
theorem dX4_allowWater_3 : decode cX4_allowWater 3 = .ok (.aload_n 0, 1) := by decide +kernel
theorem dX4_allowWater_4 : decode cX4_allowWater 4 = .ok (.getfield 16, 3) := by decide +kernel
theorem dX4_allowWater_7 : decode cX4_allowWater 7 = .ok (.if_icmp .ge 36, 3) := by decide +kernel
theorem dX4_allowWater_10 : decode cX4_allowWater 10 = .ok (.iload_n 3, 1) := by decide +kernel
theorem dX4_allowWater_11 : decode cX4_allowWater 11 = .ok (.iconst 4, 1) := by decide +kernel
theorem dX4_allowWater_12 : decode cX4_allowWater 12 = .ok (.if_icmp .ge 31, 3) := by decide +kernel
theorem dX4_allowWater_15 : decode cX4_allowWater 15 = .ok (.aload_n 0, 1) := by decide +kernel
theorem dX4_allowWater_16 : decode cX4_allowWater 16 = .ok (.getfield 9, 3) := by decide +kernel
theorem dX4_allowWater_19 : decode cX4_allowWater 19 = .ok (.iload_n 3, 1) := by decide +kernel
theorem dX4_allowWater_20 : decode cX4_allowWater 20 = .ok (.iaload, 1) := by decide +kernel
theorem dX4_allowWater_21 : decode cX4_allowWater 21 = .ok (.iload_n 1, 1) := by decide +kernel
theorem dX4_allowWater_22 : decode cX4_allowWater 22 = .ok (.if_icmp .ne 15, 3) := by decide +kernel
theorem dX4_allowWater_25 : decode cX4_allowWater 25 = .ok (.aload_n 0, 1) := by decide +kernel
theorem dX4_allowWater_26 : decode cX4_allowWater 26 = .ok (.getfield 13, 3) := by decide +kernel
theorem dX4_allowWater_29 : decode cX4_allowWater 29 = .ok (.iload_n 3, 1) := by decide +kernel
theorem dX4_allowWater_30 : decode cX4_allowWater 30 = .ok (.iaload, 1) := by decide +kernel
theorem dX4_allowWater_31 : decode cX4_allowWater 31 = .ok (.iload_n 2, 1) := by decide +kernel
theorem dX4_allowWater_32 : decode cX4_allowWater 32 = .ok (.if_icmp .eq 5, 3) := by decide +kernel
theorem dX4_allowWater_35 : decode cX4_allowWater 35 = .ok (.iconst 0, 1) := by decide +kernel
theorem dX4_allowWater_36 : decode cX4_allowWater 36 = .ok (.ireturn, 1) := by decide +kernel
theorem dX4_allowWater_37 : decode cX4_allowWater 37 = .ok (.iinc 3 1, 3) := by decide +kernel
theorem dX4_allowWater_40 : decode cX4_allowWater 40 = .ok (.goto (-38), 3) := by decide +kernel
theorem dX4_allowWater_43 : decode cX4_allowWater 43 = .ok (.iconst 1, 1) := by decide +kernel
theorem dX4_allowWater_44 : decode cX4_allowWater 44 = .ok (.ireturn, 1) := by decide +kernel
theorem dX5_init_0 : decode cX5_init 0 = .ok (.aload_n 0, 1) := by decide +kernel
theorem dX5_init_1 : decode cX5_init 1 = .ok (.invokespecial 3, 3) := by decide +kernel
theorem dX5_init_4 : decode cX5_init 4 = .ok (.aload_n 0, 1) := by decide +kernel
theorem dX5_init_5 : decode cX5_init 5 = .ok (.bipush 8, 2) := by decide +kernel
theorem dX5_init_7 : decode cX5_init 7 = .ok (.newarray .int, 2) := by decide +kernel
theorem dX5_init_9 : decode cX5_init 9 = .ok (.putfield 9, 3) := by decide +kernel
theorem dX5_init_12 : decode cX5_init 12 = .ok (.aload_n 0, 1) := by decide +kernel
theorem dX5_init_13 : decode cX5_init 13 = .ok (.bipush 8, 2) := by decide +kernel
theorem dX5_init_15 : decode cX5_init 15 = .ok (.newarray .int, 2) := by decide +kernel
theorem dX5_init_17 : decode cX5_init 17 = .ok (.putfield 15, 3) := by decide +kernel
theorem dX5_init_20 : decode cX5_init 20 = .ok (.aload_n 0, 1) := by decide +kernel
theorem dX5_init_21 : decode cX5_init 21 = .ok (.bipush 8, 2) := by decide +kernel
theorem dX5_init_23 : decode cX5_init 23 = .ok (.newarray .int, 2) := by decide +kernel
theorem dX5_init_25 : decode cX5_init 25 = .ok (.putfield 18, 3) := by decide +kernel
theorem dX5_init_28 : decode cX5_init 28 = .ok (.return_, 1) := by decide +kernel
theorem dX5_copyFrom_0 : decode cX5_copyFrom 0 = .ok (.aload_n 0, 1) := by decide +kernel
theorem dX5_copyFrom_1 : decode cX5_copyFrom 1 = .ok (.aload_n 1, 1) := by decide +kernel
theorem dX5_copyFrom_2 : decode cX5_copyFrom 2 = .ok (.getfield 21, 3) := by decide +kernel
theorem dX5_copyFrom_5 : decode cX5_copyFrom 5 = .ok (.putfield 21, 3) := by decide +kernel
theorem dX5_copyFrom_8 : decode cX5_copyFrom 8 = .ok (.aload_n 0, 1) := by decide +kernel
theorem dX5_copyFrom_9 : decode cX5_copyFrom 9 = .ok (.aload_n 1, 1) := by decide +kernel
theorem dX5_copyFrom_10 : decode cX5_copyFrom 10 = .ok (.getfield 25, 3) := by decide +kernel
theorem dX5_copyFrom_13 : decode cX5_copyFrom 13 = .ok (.putfield 25, 3) := by decide +kernel
theorem dX5_copyFrom_16 : decode cX5_copyFrom 16 = .ok (.aload_n 0, 1) := by decide +kernel
theorem dX5_copyFrom_17 : decode cX5_copyFrom 17 = .ok (.aload_n 1, 1) := by decide +kernel
theorem dX5_copyFrom_18 : decode cX5_copyFrom 18 = .ok (.getfield 28, 3) := by decide +kernel
theorem dX5_copyFrom_21 : decode cX5_copyFrom 21 = .ok (.putfield 28, 3) := by decide +kernel
theorem dX5_copyFrom_24 : decode cX5_copyFrom 24 = .ok (.iconst 0, 1) := by decide +kernel
theorem dX5_copyFrom_25 : decode cX5_copyFrom 25 = .ok (.istore_n 2, 1) := by decide +kernel
theorem dX5_copyFrom_26 : decode cX5_copyFrom 26 = .ok (.iload_n 2, 1) := by decide +kernel
theorem dX5_copyFrom_27 : decode cX5_copyFrom 27 = .ok (.bipush 8, 2) := by decide +kernel
theorem dX5_copyFrom_29 : decode cX5_copyFrom 29 = .ok (.if_icmp .ge 45, 3) := by decide +kernel
theorem dX5_copyFrom_32 : decode cX5_copyFrom 32 = .ok (.aload_n 0, 1) := by decide +kernel
theorem dX5_copyFrom_33 : decode cX5_copyFrom 33 = .ok (.getfield 9, 3) := by decide +kernel
theorem dX5_copyFrom_36 : decode cX5_copyFrom 36 = .ok (.iload_n 2, 1) := by decide +kernel
theorem dX5_copyFrom_37 : decode cX5_copyFrom 37 = .ok (.aload_n 1, 1) := by decide +kernel
theorem dX5_copyFrom_38 : decode cX5_copyFrom 38 = .ok (.getfield 9, 3) := by decide +kernel
theorem dX5_copyFrom_41 : decode cX5_copyFrom 41 = .ok (.iload_n 2, 1) := by decide +kernel
theorem dX5_copyFrom_42 : decode cX5_copyFrom 42 = .ok (.iaload, 1) := by decide +kernel
theorem dX5_copyFrom_43 : decode cX5_copyFrom 43 = .ok (.iastore, 1) := by decide +kernel
theorem dX5_copyFrom_44 : decode cX5_copyFrom 44 = .ok (.aload_n 0, 1) := by decide +kernel
theorem dX5_copyFrom_45 : decode cX5_copyFrom 45 = .ok (.getfield 15, 3) := by decide +kernel
theorem dX5_copyFrom_48 : decode cX5_copyFrom 48 = .ok (.iload_n 2, 1) := by decide +kernel
theorem dX5_copyFrom_49 : decode cX5_copyFrom 49 = .ok (.aload_n 1, 1) := by decide +kernel
theorem dX5_copyFrom_50 : decode cX5_copyFrom 50 = .ok (.getfield 15, 3) := by decide +kernel
theorem dX5_copyFrom_53 : decode cX5_copyFrom 53 = .ok (.iload_n 2, 1) := by decide +kernel
theorem dX5_copyFrom_54 : decode cX5_copyFrom 54 = .ok (.iaload, 1) := by decide +kernel
theorem dX5_copyFrom_55 : decode cX5_copyFrom 55 = .ok (.iastore, 1) := by decide +kernel
theorem dX5_copyFrom_56 : decode cX5_copyFrom 56 = .ok (.aload_n 0, 1) := by decide +kernel
theorem dX5_copyFrom_57 : decode cX5_copyFrom 57 = .ok (.getfield 18, 3) := by decide +kernel
theorem dX5_copyFrom_60 : decode cX5_copyFrom 60 = .ok (.iload_n 2, 1) := by decide +kernel
theorem dX5_copyFrom_61 : decode cX5_copyFrom 61 = .ok (.aload_n 1, 1) := by decide +kernel
theorem dX5_copyFrom_62 : decode cX5_copyFrom 62 = .ok (.getfield 18, 3) := by decide +kernel
theorem dX5_copyFrom_65 : decode cX5_copyFrom 65 = .ok (.iload_n 2, 1) := by decide +kernel
theorem dX5_copyFrom_66 : decode cX5_copyFrom 66 = .ok (.iaload, 1) := by decide +kernel
theorem dX5_copyFrom_67 : decode cX5_copyFrom 67 = .ok (.iastore, 1) := by decide +kernel
theorem dX5_copyFrom_68 : decode cX5_copyFrom 68 = .ok (.iinc 2 1, 3) := by decide +kernel
theorem dX5_copyFrom_71 : decode cX5_copyFrom 71 = .ok (.goto (-45), 3) := by decide +kernel
theorem dX5_copyFrom_74 : decode cX5_copyFrom 74 = .ok (.aload_n 0, 1) := by decide +kernel
theorem dX5_copyFrom_75 : decode cX5_copyFrom 75 = .ok (.aload_n 1, 1) := by decide +kernel
theorem dX5_copyFrom_76 : decode cX5_copyFrom 76 = .ok (.getfield 31, 3) := by decide +kernel
theorem dX5_copyFrom_79 : decode cX5_copyFrom 79 = .ok (.putfield 31, 3) := by decide +kernel
theorem dX5_copyFrom_82 : decode cX5_copyFrom 82 = .ok (.aload_n 0, 1) := by decide +kernel
theorem dX5_copyFrom_83 : decode cX5_copyFrom 83 = .ok (.aload_n 1, 1) := by decide +kernel
theorem dX5_copyFrom_84 : decode cX5_copyFrom 84 = .ok (.getfield 34, 3) := by decide +kernel
theorem dX5_copyFrom_87 : decode cX5_copyFrom 87 = .ok (.putfield 34, 3) := by decide +kernel
theorem dX5_copyFrom_90 : decode cX5_copyFrom 90 = .ok (.aload_n 0, 1) := by decide +kernel
theorem dX5_copyFrom_91 : decode cX5_copyFrom 91 = .ok (.aload_n 1, 1) := by decide +kernel
theorem dX5_copyFrom_92 : decode cX5_copyFrom 92 = .ok (.getfield 37, 3) := by decide +kernel
theorem dX5_copyFrom_95 : decode cX5_copyFrom 95 = .ok (.putfield 37, 3) := by decide +kernel
theorem dX5_copyFrom_98 : decode cX5_copyFrom 98 = .ok (.aload_n 0, 1) := by decide +kernel
theorem dX5_copyFrom_99 : decode cX5_copyFrom 99 = .ok (.aload_n 1, 1) := by decide +kernel
theorem dX5_copyFrom_100 : decode cX5_copyFrom 100 = .ok (.getfield 40, 3) := by decide +kernel
theorem dX5_copyFrom_103 : decode cX5_copyFrom 103 = .ok (.putfield 40, 3) := by decide +kernel
theorem dX5_copyFrom_106 : decode cX5_copyFrom 106 = .ok (.return_, 1) := by decide +kernel
theorem dX5_empty_0 : decode cX5_empty 0 = .ok (.aload_n 0, 1) := by decide +kernel
theorem dX5_empty_1 : decode cX5_empty 1 = .ok (.iconst 0, 1) := by decide +kernel
theorem dX5_empty_2 : decode cX5_empty 2 = .ok (.putfield 21, 3) := by decide +kernel
theorem dX5_empty_5 : decode cX5_empty 5 = .ok (.aload_n 0, 1) := by decide +kernel
theorem dX5_empty_6 : decode cX5_empty 6 = .ok (.iconst 0, 1) := by decide +kernel
theorem dX5_empty_7 : decode cX5_empty 7 = .ok (.putfield 25, 3) := by decide +kernel
theorem dX5_empty_10 : decode cX5_empty 10 = .ok (.aload_n 0, 1) := by decide +kernel
theorem dX5_empty_11 : decode cX5_empty 11 = .ok (.iconst 0, 1) := by decide +kernel
theorem dX5_empty_12 : decode cX5_empty 12 = .ok (.putfield 28, 3) := by decide +kernel
theorem dX5_empty_15 : decode cX5_empty 15 = .ok (.iconst 0, 1) := by decide +kernel
theorem dX5_empty_16 : decode cX5_empty 16 = .ok (.istore_n 1, 1) := by decide +kernel
theorem dX5_empty_17 : decode cX5_empty 17 = .ok (.iload_n 1, 1) := by decide +kernel
theorem dX5_empty_18 : decode cX5_empty 18 = .ok (.bipush 8, 2) := by decide +kernel
theorem dX5_empty_20 : decode cX5_empty 20 = .ok (.if_icmp .ge 30, 3) := by decide +kernel
theorem dX5_empty_23 : decode cX5_empty 23 = .ok (.aload_n 0, 1) := by decide +kernel
theorem dX5_empty_24 : decode cX5_empty 24 = .ok (.getfield 9, 3) := by decide +kernel
theorem dX5_empty_27 : decode cX5_empty 27 = .ok (.iload_n 1, 1) := by decide +kernel
theorem dX5_empty_28 : decode cX5_empty 28 = .ok (.iconst 0, 1) := by decide +kernel
theorem dX5_empty_29 : decode cX5_empty 29 = .ok (.iastore, 1) := by decide +kernel
theorem dX5_empty_30 : decode cX5_empty 30 = .ok (.aload_n 0, 1) := by decide +kernel
theorem dX5_empty_31 : decode cX5_empty 31 = .ok (.getfield 15, 3) := by decide +kernel
theorem dX5_empty_34 : decode cX5_empty 34 = .ok (.iload_n 1, 1) := by decide +kernel
theorem dX5_empty_35 : decode cX5_empty 35 = .ok (.iconst 0, 1) := by decide +kernel
theorem dX5_empty_36 : decode cX5_empty 36 = .ok (.iastore, 1) := by decide +kernel
theorem dX5_empty_37 : decode cX5_empty 37 = .ok (.aload_n 0, 1) := by decide +kernel
theorem dX5_empty_38 : decode cX5_empty 38 = .ok (.getfield 18, 3) := by decide +kernel
theorem dX5_empty_41 : decode cX5_empty 41 = .ok (.iload_n 1, 1) := by decide +kernel
theorem dX5_empty_42 : decode cX5_empty 42 = .ok (.iconst 0, 1) := by decide +kernel
theorem dX5_empty_43 : decode cX5_empty 43 = .ok (.iastore, 1) := by decide +kernel
theorem dX5_empty_44 : decode cX5_empty 44 = .ok (.iinc 1 1, 3) := by decide +kernel
theorem dX5_empty_47 : decode cX5_empty 47 = .ok (.goto (-30), 3) := by decide +kernel
theorem dX5_empty_50 : decode cX5_empty 50 = .ok (.aload_n 0, 1) := by decide +kernel
theorem dX5_empty_51 : decode cX5_empty 51 = .ok (.iconst 0, 1) := by decide +kernel
theorem dX5_empty_52 : decode cX5_empty 52 = .ok (.putfield 31, 3) := by decide +kernel
theorem dX5_empty_55 : decode cX5_empty 55 = .ok (.aload_n 0, 1) := by decide +kernel
theorem dX5_empty_56 : decode cX5_empty 56 = .ok (.iconst 0, 1) := by decide +kernel
theorem dX5_empty_57 : decode cX5_empty 57 = .ok (.putfield 34, 3) := by decide +kernel
theorem dX5_empty_60 : decode cX5_empty 60 = .ok (.aload_n 0, 1) := by decide +kernel
theorem dX5_empty_61 : decode cX5_empty 61 = .ok (.iconst 0, 1) := by decide +kernel
theorem dX5_empty_62 : decode cX5_empty 62 = .ok (.putfield 37, 3) := by decide +kernel
theorem dX5_empty_65 : decode cX5_empty 65 = .ok (.aload_n 0, 1) := by decide +kernel
theorem dX5_empty_66 : decode cX5_empty 66 = .ok (.iconst 0, 1) := by decide +kernel
theorem dX5_empty_67 : decode cX5_empty 67 = .ok (.putfield 40, 3) := by decide +kernel
theorem dX5_empty_70 : decode cX5_empty 70 = .ok (.return_, 1) := by decide +kernel
theorem dX5_place_0 : decode cX5_place 0 = .ok (.iload_n 1, 1) := by decide +kernel
theorem dX5_place_1 : decode cX5_place 1 = .ok (.ifCond .lt 9, 3) := by decide +kernel
theorem dX5_place_4 : decode cX5_place 4 = .ok (.iload_n 1, 1) := by decide +kernel
theorem dX5_place_5 : decode cX5_place 5 = .ok (.bipush 8, 2) := by decide +kernel
theorem dX5_place_7 : decode cX5_place 7 = .ok (.if_icmp .lt 4, 3) := by decide +kernel
theorem dX5_place_10 : decode cX5_place 10 = .ok (.return_, 1) := by decide +kernel
theorem dX5_place_11 : decode cX5_place 11 = .ok (.aload_n 0, 1) := by decide +kernel
theorem dX5_place_12 : decode cX5_place 12 = .ok (.getfield 9, 3) := by decide +kernel
theorem dX5_place_15 : decode cX5_place 15 = .ok (.iload_n 1, 1) := by decide +kernel
theorem dX5_place_16 : decode cX5_place 16 = .ok (.iload_n 2, 1) := by decide +kernel
theorem dX5_place_17 : decode cX5_place 17 = .ok (.iastore, 1) := by decide +kernel
theorem dX5_place_18 : decode cX5_place 18 = .ok (.aload_n 0, 1) := by decide +kernel
theorem dX5_place_19 : decode cX5_place 19 = .ok (.getfield 15, 3) := by decide +kernel
theorem dX5_place_22 : decode cX5_place 22 = .ok (.iload_n 1, 1) := by decide +kernel
theorem dX5_place_23 : decode cX5_place 23 = .ok (.iload_n 3, 1) := by decide +kernel
theorem dX5_place_24 : decode cX5_place 24 = .ok (.iastore, 1) := by decide +kernel
theorem dX5_place_25 : decode cX5_place 25 = .ok (.aload_n 0, 1) := by decide +kernel
theorem dX5_place_26 : decode cX5_place 26 = .ok (.getfield 18, 3) := by decide +kernel
theorem dX5_place_29 : decode cX5_place 29 = .ok (.iload_n 1, 1) := by decide +kernel
theorem dX5_place_30 : decode cX5_place 30 = .ok (.iload 4, 2) := by decide +kernel
theorem dX5_place_32 : decode cX5_place 32 = .ok (.iastore, 1) := by decide +kernel
theorem dX5_place_33 : decode cX5_place 33 = .ok (.aload_n 0, 1) := by decide +kernel
theorem dX5_place_34 : decode cX5_place 34 = .ok (.dup, 1) := by decide +kernel
theorem dX5_place_35 : decode cX5_place 35 = .ok (.getfield 40, 3) := by decide +kernel
theorem dX5_place_38 : decode cX5_place 38 = .ok (.iconst 1, 1) := by decide +kernel
theorem dX5_place_39 : decode cX5_place 39 = .ok (.iload_n 1, 1) := by decide +kernel
theorem dX5_place_40 : decode cX5_place 40 = .ok (.ishl, 1) := by decide +kernel
theorem dX5_place_41 : decode cX5_place 41 = .ok (.ior, 1) := by decide +kernel
theorem dX5_place_42 : decode cX5_place 42 = .ok (.putfield 40, 3) := by decide +kernel
theorem dX5_place_45 : decode cX5_place 45 = .ok (.return_, 1) := by decide +kernel
theorem dX5_isThere_0 : decode cX5_isThere 0 = .ok (.iload_n 1, 1) := by decide +kernel
theorem dX5_isThere_1 : decode cX5_isThere 1 = .ok (.ifCond .lt 25, 3) := by decide +kernel
theorem dX5_isThere_4 : decode cX5_isThere 4 = .ok (.iload_n 1, 1) := by decide +kernel
theorem dX5_isThere_5 : decode cX5_isThere 5 = .ok (.bipush 8, 2) := by decide +kernel
theorem dX5_isThere_7 : decode cX5_isThere 7 = .ok (.if_icmp .ge 19, 3) := by decide +kernel
theorem dX5_isThere_10 : decode cX5_isThere 10 = .ok (.aload_n 0, 1) := by decide +kernel
theorem dX5_isThere_11 : decode cX5_isThere 11 = .ok (.getfield 40, 3) := by decide +kernel
theorem dX5_isThere_14 : decode cX5_isThere 14 = .ok (.iload_n 1, 1) := by decide +kernel
theorem dX5_isThere_15 : decode cX5_isThere 15 = .ok (.invokestatic 43, 3) := by decide +kernel
theorem dX5_isThere_18 : decode cX5_isThere 18 = .ok (.iconst 1, 1) := by decide +kernel
theorem dX5_isThere_19 : decode cX5_isThere 19 = .ok (.if_icmp .ne 7, 3) := by decide +kernel
theorem dX5_isThere_22 : decode cX5_isThere 22 = .ok (.iconst 1, 1) := by decide +kernel
theorem dX5_isThere_23 : decode cX5_isThere 23 = .ok (.goto 4, 3) := by decide +kernel
theorem dX5_isThere_26 : decode cX5_isThere 26 = .ok (.iconst 0, 1) := by decide +kernel
theorem dX5_isThere_27 : decode cX5_isThere 27 = .ok (.ireturn, 1) := by decide +kernel
theorem dX5_loadOf_0 : decode cX5_loadOf 0 = .ok (.iload_n 1, 1) := by decide +kernel
theorem dX5_loadOf_1 : decode cX5_loadOf 1 = .ok (.ifCond .lt 9, 3) := by decide +kernel
theorem dX5_loadOf_4 : decode cX5_loadOf 4 = .ok (.iload_n 1, 1) := by decide +kernel
theorem dX5_loadOf_5 : decode cX5_loadOf 5 = .ok (.bipush 8, 2) := by decide +kernel
theorem dX5_loadOf_7 : decode cX5_loadOf 7 = .ok (.if_icmp .lt 5, 3) := by decide +kernel
theorem dX5_loadOf_10 : decode cX5_loadOf 10 = .ok (.iconst 0, 1) := by decide +kernel
theorem dX5_loadOf_11 : decode cX5_loadOf 11 = .ok (.ireturn, 1) := by decide +kernel
theorem dX5_loadOf_12 : decode cX5_loadOf 12 = .ok (.aload_n 0, 1) := by decide +kernel
theorem dX5_loadOf_13 : decode cX5_loadOf 13 = .ok (.getfield 34, 3) := by decide +kernel
theorem dX5_loadOf_16 : decode cX5_loadOf 16 = .ok (.iload_n 1, 1) := by decide +kernel
theorem dX5_loadOf_17 : decode cX5_loadOf 17 = .ok (.invokestatic 43, 3) := by decide +kernel
theorem dX5_loadOf_20 : decode cX5_loadOf 20 = .ok (.iconst 1, 1) := by decide +kernel
theorem dX5_loadOf_21 : decode cX5_loadOf 21 = .ok (.if_icmp .ne 14, 3) := by decide +kernel
theorem dX5_loadOf_24 : decode cX5_loadOf 24 = .ok (.aload_n 0, 1) := by decide +kernel
theorem dX5_loadOf_25 : decode cX5_loadOf 25 = .ok (.getfield 9, 3) := by decide +kernel
theorem dX5_loadOf_28 : decode cX5_loadOf 28 = .ok (.iload_n 1, 1) := by decide +kernel
theorem dX5_loadOf_29 : decode cX5_loadOf 29 = .ok (.iaload, 1) := by decide +kernel
theorem dX5_loadOf_30 : decode cX5_loadOf 30 = .ok (.iconst 2, 1) := by decide +kernel
theorem dX5_loadOf_31 : decode cX5_loadOf 31 = .ok (.idiv, 1) := by decide +kernel
theorem dX5_loadOf_32 : decode cX5_loadOf 32 = .ok (.goto 9, 3) := by decide +kernel
theorem dX5_loadOf_35 : decode cX5_loadOf 35 = .ok (.aload_n 0, 1) := by decide +kernel
theorem dX5_loadOf_36 : decode cX5_loadOf 36 = .ok (.getfield 9, 3) := by decide +kernel
theorem dX5_loadOf_39 : decode cX5_loadOf 39 = .ok (.iload_n 1, 1) := by decide +kernel
theorem dX5_loadOf_40 : decode cX5_loadOf 40 = .ok (.iaload, 1) := by decide +kernel
theorem dX5_loadOf_41 : decode cX5_loadOf 41 = .ok (.ireturn, 1) := by decide +kernel
theorem dX5_pass_0 : decode cX5_pass 0 = .ok (.aload_n 0, 1) := by decide +kernel
theorem dX5_pass_1 : decode cX5_pass 1 = .ok (.dup, 1) := by decide +kernel
theorem dX5_pass_2 : decode cX5_pass 2 = .ok (.getfield 21, 3) := by decide +kernel
theorem dX5_pass_5 : decode cX5_pass 5 = .ok (.iconst 1, 1) := by decide +kernel
theorem dX5_pass_6 : decode cX5_pass 6 = .ok (.iadd, 1) := by decide +kernel
theorem dX5_pass_7 : decode cX5_pass 7 = .ok (.putfield 21, 3) := by decide +kernel
theorem dX5_pass_10 : decode cX5_pass 10 = .ok (.aload_n 0, 1) := by decide +kernel
theorem dX5_pass_11 : decode cX5_pass 11 = .ok (.iconst 0, 1) := by decide +kernel
theorem dX5_pass_12 : decode cX5_pass 12 = .ok (.putfield 47, 3) := by decide +kernel
theorem dX5_pass_15 : decode cX5_pass 15 = .ok (.iload_n 1, 1) := by decide +kernel
theorem dX5_pass_16 : decode cX5_pass 16 = .ok (.istore_n 3, 1) := by decide +kernel
theorem dX5_pass_17 : decode cX5_pass 17 = .ok (.iconst 0, 1) := by decide +kernel
theorem dX5_pass_18 : decode cX5_pass 18 = .ok (.istore 4, 2) := by decide +kernel
theorem dX5_pass_20 : decode cX5_pass 20 = .ok (.iload 4, 2) := by decide +kernel
theorem dX5_pass_22 : decode cX5_pass 22 = .ok (.bipush 8, 2) := by decide +kernel
theorem dX5_pass_24 : decode cX5_pass 24 = .ok (.if_icmp .ge 52, 3) := by decide +kernel
theorem dX5_pass_27 : decode cX5_pass 27 = .ok (.aload_n 0, 1) := by decide +kernel
theorem dX5_pass_28 : decode cX5_pass 28 = .ok (.iload 4, 2) := by decide +kernel
theorem dX5_pass_30 : decode cX5_pass 30 = .ok (.invokevirtual 50, 3) := by decide +kernel
theorem dX5_pass_33 : decode cX5_pass 33 = .ok (.ifCond .eq 37, 3) := by decide +kernel
theorem dX5_pass_36 : decode cX5_pass 36 = .ok (.aload_n 0, 1) := by decide +kernel
theorem dX5_pass_37 : decode cX5_pass 37 = .ok (.getfield 18, 3) := by decide +kernel
theorem dX5_pass_40 : decode cX5_pass 40 = .ok (.iload 4, 2) := by decide +kernel
theorem dX5_pass_42 : decode cX5_pass 42 = .ok (.dup2, 1) := by decide +kernel
theorem dX5_pass_43 : decode cX5_pass 43 = .ok (.iaload, 1) := by decide +kernel
theorem dX5_pass_44 : decode cX5_pass 44 = .ok (.iconst 1, 1) := by decide +kernel
theorem dX5_pass_45 : decode cX5_pass 45 = .ok (.isub, 1) := by decide +kernel
theorem dX5_pass_46 : decode cX5_pass 46 = .ok (.iastore, 1) := by decide +kernel
theorem dX5_pass_47 : decode cX5_pass 47 = .ok (.aload_n 0, 1) := by decide +kernel
theorem dX5_pass_48 : decode cX5_pass 48 = .ok (.getfield 18, 3) := by decide +kernel
theorem dX5_pass_51 : decode cX5_pass 51 = .ok (.iload 4, 2) := by decide +kernel
theorem dX5_pass_53 : decode cX5_pass 53 = .ok (.iaload, 1) := by decide +kernel
theorem dX5_pass_54 : decode cX5_pass 54 = .ok (.ifCond .gt 16, 3) := by decide +kernel
theorem dX5_pass_57 : decode cX5_pass 57 = .ok (.iload_n 3, 1) := by decide +kernel
theorem dX5_pass_58 : decode cX5_pass 58 = .ok (.ifCond .le 12, 3) := by decide +kernel
theorem dX5_pass_61 : decode cX5_pass 61 = .ok (.iinc 3 (-1), 3) := by decide +kernel
theorem dX5_pass_64 : decode cX5_pass 64 = .ok (.aload_n 0, 1) := by decide +kernel
theorem dX5_pass_65 : decode cX5_pass 65 = .ok (.iload 4, 2) := by decide +kernel
theorem dX5_pass_67 : decode cX5_pass 67 = .ok (.invokevirtual 54, 3) := by decide +kernel
theorem dX5_pass_70 : decode cX5_pass 70 = .ok (.iinc 4 1, 3) := by decide +kernel
theorem dX5_pass_73 : decode cX5_pass 73 = .ok (.goto (-53), 3) := by decide +kernel
theorem dX5_pass_76 : decode cX5_pass 76 = .ok (.aload_n 0, 1) := by decide +kernel
theorem dX5_pass_77 : decode cX5_pass 77 = .ok (.iload_n 2, 1) := by decide +kernel
theorem dX5_pass_78 : decode cX5_pass 78 = .ok (.aload_n 0, 1) := by decide +kernel
theorem dX5_pass_79 : decode cX5_pass 79 = .ok (.getfield 25, 3) := by decide +kernel
theorem dX5_pass_82 : decode cX5_pass 82 = .ok (.invokestatic 58, 3) := by decide +kernel
theorem dX5_pass_85 : decode cX5_pass 85 = .ok (.putfield 63, 3) := by decide +kernel
theorem dX5_pass_88 : decode cX5_pass 88 = .ok (.aload_n 0, 1) := by decide +kernel
theorem dX5_pass_89 : decode cX5_pass 89 = .ok (.dup, 1) := by decide +kernel
theorem dX5_pass_90 : decode cX5_pass 90 = .ok (.getfield 25, 3) := by decide +kernel
theorem dX5_pass_93 : decode cX5_pass 93 = .ok (.aload_n 0, 1) := by decide +kernel
theorem dX5_pass_94 : decode cX5_pass 94 = .ok (.getfield 63, 3) := by decide +kernel
theorem dX5_pass_97 : decode cX5_pass 97 = .ok (.isub, 1) := by decide +kernel
theorem dX5_pass_98 : decode cX5_pass 98 = .ok (.putfield 25, 3) := by decide +kernel
theorem dX5_pass_101 : decode cX5_pass 101 = .ok (.return_, 1) := by decide +kernel
theorem dX5_comes_0 : decode cX5_comes 0 = .ok (.iload_n 1, 1) := by decide +kernel
theorem dX5_comes_1 : decode cX5_comes 1 = .ok (.ifCond .lt 9, 3) := by decide +kernel
theorem dX5_comes_4 : decode cX5_comes 4 = .ok (.iload_n 1, 1) := by decide +kernel
theorem dX5_comes_5 : decode cX5_comes 5 = .ok (.bipush 8, 2) := by decide +kernel
theorem dX5_comes_7 : decode cX5_comes 7 = .ok (.if_icmp .lt 4, 3) := by decide +kernel
theorem dX5_comes_10 : decode cX5_comes 10 = .ok (.return_, 1) := by decide +kernel
theorem dX5_comes_11 : decode cX5_comes 11 = .ok (.aload_n 0, 1) := by decide +kernel
theorem dX5_comes_12 : decode cX5_comes 12 = .ok (.getfield 31, 3) := by decide +kernel
theorem dX5_comes_15 : decode cX5_comes 15 = .ok (.iload_n 1, 1) := by decide +kernel
theorem dX5_comes_16 : decode cX5_comes 16 = .ok (.invokestatic 43, 3) := by decide +kernel
theorem dX5_comes_19 : decode cX5_comes 19 = .ok (.iconst 1, 1) := by decide +kernel
theorem dX5_comes_20 : decode cX5_comes 20 = .ok (.if_icmp .ne 24, 3) := by decide +kernel
theorem dX5_comes_23 : decode cX5_comes 23 = .ok (.aload_n 0, 1) := by decide +kernel
theorem dX5_comes_24 : decode cX5_comes 24 = .ok (.iconst 0, 1) := by decide +kernel
theorem dX5_comes_25 : decode cX5_comes 25 = .ok (.aload_n 0, 1) := by decide +kernel
theorem dX5_comes_26 : decode cX5_comes 26 = .ok (.getfield 25, 3) := by decide +kernel
theorem dX5_comes_29 : decode cX5_comes 29 = .ok (.aload_n 0, 1) := by decide +kernel
theorem dX5_comes_30 : decode cX5_comes 30 = .ok (.iload_n 1, 1) := by decide +kernel
theorem dX5_comes_31 : decode cX5_comes 31 = .ok (.invokevirtual 66, 3) := by decide +kernel
theorem dX5_comes_34 : decode cX5_comes 34 = .ok (.isub, 1) := by decide +kernel
theorem dX5_comes_35 : decode cX5_comes 35 = .ok (.invokestatic 70, 3) := by decide +kernel
theorem dX5_comes_38 : decode cX5_comes 38 = .ok (.putfield 25, 3) := by decide +kernel
theorem dX5_comes_41 : decode cX5_comes 41 = .ok (.goto 22, 3) := by decide +kernel
theorem dX5_comes_44 : decode cX5_comes 44 = .ok (.aload_n 0, 1) := by decide +kernel
theorem dX5_comes_45 : decode cX5_comes 45 = .ok (.ldc 73, 2) := by decide +kernel
theorem dX5_comes_47 : decode cX5_comes 47 = .ok (.aload_n 0, 1) := by decide +kernel
theorem dX5_comes_48 : decode cX5_comes 48 = .ok (.getfield 25, 3) := by decide +kernel
theorem dX5_comes_51 : decode cX5_comes 51 = .ok (.aload_n 0, 1) := by decide +kernel
theorem dX5_comes_52 : decode cX5_comes 52 = .ok (.iload_n 1, 1) := by decide +kernel
theorem dX5_comes_53 : decode cX5_comes 53 = .ok (.invokevirtual 66, 3) := by decide +kernel
theorem dX5_comes_56 : decode cX5_comes 56 = .ok (.iadd, 1) := by decide +kernel
theorem dX5_comes_57 : decode cX5_comes 57 = .ok (.invokestatic 58, 3) := by decide +kernel
theorem dX5_comes_60 : decode cX5_comes 60 = .ok (.putfield 25, 3) := by decide +kernel
theorem dX5_comes_63 : decode cX5_comes 63 = .ok (.aload_n 0, 1) := by decide +kernel
theorem dX5_comes_64 : decode cX5_comes 64 = .ok (.getfield 18, 3) := by decide +kernel
theorem dX5_comes_67 : decode cX5_comes 67 = .ok (.iload_n 1, 1) := by decide +kernel
theorem dX5_comes_68 : decode cX5_comes 68 = .ok (.aload_n 0, 1) := by decide +kernel
theorem dX5_comes_69 : decode cX5_comes 69 = .ok (.getfield 15, 3) := by decide +kernel
theorem dX5_comes_72 : decode cX5_comes 72 = .ok (.iload_n 1, 1) := by decide +kernel
theorem dX5_comes_73 : decode cX5_comes 73 = .ok (.iaload, 1) := by decide +kernel
theorem dX5_comes_74 : decode cX5_comes 74 = .ok (.iastore, 1) := by decide +kernel
theorem dX5_comes_75 : decode cX5_comes 75 = .ok (.aload_n 0, 1) := by decide +kernel
theorem dX5_comes_76 : decode cX5_comes 76 = .ok (.dup, 1) := by decide +kernel
theorem dX5_comes_77 : decode cX5_comes 77 = .ok (.getfield 37, 3) := by decide +kernel
theorem dX5_comes_80 : decode cX5_comes 80 = .ok (.iconst 1, 1) := by decide +kernel
theorem dX5_comes_81 : decode cX5_comes 81 = .ok (.iload_n 1, 1) := by decide +kernel
theorem dX5_comes_82 : decode cX5_comes 82 = .ok (.ishl, 1) := by decide +kernel
theorem dX5_comes_83 : decode cX5_comes 83 = .ok (.ior, 1) := by decide +kernel
theorem dX5_comes_84 : decode cX5_comes 84 = .ok (.putfield 37, 3) := by decide +kernel
theorem dX5_comes_87 : decode cX5_comes 87 = .ok (.aload_n 0, 1) := by decide +kernel
theorem dX5_comes_88 : decode cX5_comes 88 = .ok (.dup, 1) := by decide +kernel
theorem dX5_comes_89 : decode cX5_comes 89 = .ok (.getfield 47, 3) := by decide +kernel
theorem dX5_comes_92 : decode cX5_comes 92 = .ok (.iconst 1, 1) := by decide +kernel
theorem dX5_comes_93 : decode cX5_comes 93 = .ok (.iload_n 1, 1) := by decide +kernel
theorem dX5_comes_94 : decode cX5_comes 94 = .ok (.ishl, 1) := by decide +kernel
theorem dX5_comes_95 : decode cX5_comes 95 = .ok (.ior, 1) := by decide +kernel
theorem dX5_comes_96 : decode cX5_comes 96 = .ok (.putfield 47, 3) := by decide +kernel
theorem dX5_comes_99 : decode cX5_comes 99 = .ok (.return_, 1) := by decide +kernel
theorem dX5_firstFree_0 : decode cX5_firstFree 0 = .ok (.iconst 0, 1) := by decide +kernel
theorem dX5_firstFree_1 : decode cX5_firstFree 1 = .ok (.istore_n 1, 1) := by decide +kernel
theorem dX5_firstFree_2 : decode cX5_firstFree 2 = .ok (.iload_n 1, 1) := by decide +kernel
theorem dX5_firstFree_3 : decode cX5_firstFree 3 = .ok (.bipush 8, 2) := by decide +kernel
theorem dX5_firstFree_5 : decode cX5_firstFree 5 = .ok (.if_icmp .ge 19, 3) := by decide +kernel
theorem dX5_firstFree_8 : decode cX5_firstFree 8 = .ok (.aload_n 0, 1) := by decide +kernel
theorem dX5_firstFree_9 : decode cX5_firstFree 9 = .ok (.iload_n 1, 1) := by decide +kernel
theorem dX5_firstFree_10 : decode cX5_firstFree 10 = .ok (.invokevirtual 50, 3) := by decide +kernel
theorem dX5_firstFree_13 : decode cX5_firstFree 13 = .ok (.ifCond .ne 5, 3) := by decide +kernel
theorem dX5_firstFree_16 : decode cX5_firstFree 16 = .ok (.iload_n 1, 1) := by decide +kernel
theorem dX5_firstFree_17 : decode cX5_firstFree 17 = .ok (.ireturn, 1) := by decide +kernel
theorem dX5_firstFree_18 : decode cX5_firstFree 18 = .ok (.iinc 1 1, 3) := by decide +kernel
theorem dX5_firstFree_21 : decode cX5_firstFree 21 = .ok (.goto (-19), 3) := by decide +kernel
theorem dX5_firstFree_24 : decode cX5_firstFree 24 = .ok (.bipush (-9), 2) := by decide +kernel
theorem dX5_firstFree_26 : decode cX5_firstFree 26 = .ok (.ireturn, 1) := by decide +kernel
theorem dX5_canSplit_0 : decode cX5_canSplit 0 = .ok (.aload_n 0, 1) := by decide +kernel
theorem dX5_canSplit_1 : decode cX5_canSplit 1 = .ok (.iload_n 1, 1) := by decide +kernel
theorem dX5_canSplit_2 : decode cX5_canSplit 2 = .ok (.invokevirtual 50, 3) := by decide +kernel
theorem dX5_canSplit_5 : decode cX5_canSplit 5 = .ok (.ifCond .eq 24, 3) := by decide +kernel
theorem dX5_canSplit_8 : decode cX5_canSplit 8 = .ok (.aload_n 0, 1) := by decide +kernel
theorem dX5_canSplit_9 : decode cX5_canSplit 9 = .ok (.getfield 9, 3) := by decide +kernel
theorem dX5_canSplit_12 : decode cX5_canSplit 12 = .ok (.iload_n 1, 1) := by decide +kernel
theorem dX5_canSplit_13 : decode cX5_canSplit 13 = .ok (.iaload, 1) := by decide +kernel
theorem dX5_canSplit_14 : decode cX5_canSplit 14 = .ok (.iconst 1, 1) := by decide +kernel
theorem dX5_canSplit_15 : decode cX5_canSplit 15 = .ok (.if_icmp .le 10, 3) := by decide +kernel
theorem dX5_canSplit_18 : decode cX5_canSplit 18 = .ok (.aload_n 0, 1) := by decide +kernel
theorem dX5_canSplit_19 : decode cX5_canSplit 19 = .ok (.invokevirtual 74, 3) := by decide +kernel
theorem dX5_canSplit_22 : decode cX5_canSplit 22 = .ok (.ifCond .lt 7, 3) := by decide +kernel
theorem dX5_canSplit_25 : decode cX5_canSplit 25 = .ok (.iconst 1, 1) := by decide +kernel
theorem dX5_canSplit_26 : decode cX5_canSplit 26 = .ok (.goto 4, 3) := by decide +kernel
theorem dX5_canSplit_29 : decode cX5_canSplit 29 = .ok (.iconst 0, 1) := by decide +kernel
theorem dX5_canSplit_30 : decode cX5_canSplit 30 = .ok (.ireturn, 1) := by decide +kernel
theorem dX5_split_0 : decode cX5_split 0 = .ok (.aload_n 0, 1) := by decide +kernel
theorem dX5_split_1 : decode cX5_split 1 = .ok (.iload_n 1, 1) := by decide +kernel
theorem dX5_split_2 : decode cX5_split 2 = .ok (.invokevirtual 78, 3) := by decide +kernel
theorem dX5_split_5 : decode cX5_split 5 = .ok (.ifCond .ne 6, 3) := by decide +kernel
theorem dX5_split_8 : decode cX5_split 8 = .ok (.bipush (-3), 2) := by decide +kernel
theorem dX5_split_10 : decode cX5_split 10 = .ok (.ireturn, 1) := by decide +kernel
theorem dX5_split_11 : decode cX5_split 11 = .ok (.aload_n 0, 1) := by decide +kernel
theorem dX5_split_12 : decode cX5_split 12 = .ok (.getfield 9, 3) := by decide +kernel
theorem dX5_split_15 : decode cX5_split 15 = .ok (.iload_n 1, 1) := by decide +kernel
theorem dX5_split_16 : decode cX5_split 16 = .ok (.iaload, 1) := by decide +kernel
theorem dX5_split_17 : decode cX5_split 17 = .ok (.iconst 1, 1) := by decide +kernel
theorem dX5_split_18 : decode cX5_split 18 = .ok (.if_icmp .gt 20, 3) := by decide +kernel
theorem dX5_split_21 : decode cX5_split 21 = .ok (.aload_n 0, 1) := by decide +kernel
theorem dX5_split_22 : decode cX5_split 22 = .ok (.dup, 1) := by decide +kernel
theorem dX5_split_23 : decode cX5_split 23 = .ok (.getfield 40, 3) := by decide +kernel
theorem dX5_split_26 : decode cX5_split 26 = .ok (.iconst 1, 1) := by decide +kernel
theorem dX5_split_27 : decode cX5_split 27 = .ok (.iload_n 1, 1) := by decide +kernel
theorem dX5_split_28 : decode cX5_split 28 = .ok (.ishl, 1) := by decide +kernel
theorem dX5_split_29 : decode cX5_split 29 = .ok (.iconst (-1), 1) := by decide +kernel
theorem dX5_split_30 : decode cX5_split 30 = .ok (.ixor, 1) := by decide +kernel
theorem dX5_split_31 : decode cX5_split 31 = .ok (.iand, 1) := by decide +kernel
theorem dX5_split_32 : decode cX5_split 32 = .ok (.putfield 40, 3) := by decide +kernel
theorem dX5_split_35 : decode cX5_split 35 = .ok (.bipush (-9), 2) := by decide +kernel
theorem dX5_split_37 : decode cX5_split 37 = .ok (.ireturn, 1) := by decide +kernel
theorem dX5_split_38 : decode cX5_split 38 = .ok (.aload_n 0, 1) := by decide +kernel
theorem dX5_split_39 : decode cX5_split 39 = .ok (.invokevirtual 74, 3) := by decide +kernel
theorem dX5_split_42 : decode cX5_split 42 = .ok (.istore_n 2, 1) := by decide +kernel
theorem dX5_split_43 : decode cX5_split 43 = .ok (.aload_n 0, 1) := by decide +kernel
theorem dX5_split_44 : decode cX5_split 44 = .ok (.getfield 9, 3) := by decide +kernel
theorem dX5_split_47 : decode cX5_split 47 = .ok (.iload_n 1, 1) := by decide +kernel
theorem dX5_split_48 : decode cX5_split 48 = .ok (.aload_n 0, 1) := by decide +kernel
theorem dX5_split_49 : decode cX5_split 49 = .ok (.getfield 9, 3) := by decide +kernel
theorem dX5_split_52 : decode cX5_split 52 = .ok (.iload_n 1, 1) := by decide +kernel
theorem dX5_split_53 : decode cX5_split 53 = .ok (.iaload, 1) := by decide +kernel
theorem dX5_split_54 : decode cX5_split 54 = .ok (.iconst 2, 1) := by decide +kernel
theorem dX5_split_55 : decode cX5_split 55 = .ok (.idiv, 1) := by decide +kernel
theorem dX5_split_56 : decode cX5_split 56 = .ok (.iastore, 1) := by decide +kernel
theorem dX5_split_57 : decode cX5_split 57 = .ok (.aload_n 0, 1) := by decide +kernel
theorem dX5_split_58 : decode cX5_split 58 = .ok (.getfield 15, 3) := by decide +kernel
theorem dX5_split_61 : decode cX5_split 61 = .ok (.iload_n 1, 1) := by decide +kernel
theorem dX5_split_62 : decode cX5_split 62 = .ok (.bipush 40, 2) := by decide +kernel
theorem dX5_split_64 : decode cX5_split 64 = .ok (.iconst 2, 1) := by decide +kernel
theorem dX5_split_65 : decode cX5_split 65 = .ok (.aload_n 0, 1) := by decide +kernel
theorem dX5_split_66 : decode cX5_split 66 = .ok (.getfield 15, 3) := by decide +kernel
theorem dX5_split_69 : decode cX5_split 69 = .ok (.iload_n 1, 1) := by decide +kernel
theorem dX5_split_70 : decode cX5_split 70 = .ok (.iaload, 1) := by decide +kernel
theorem dX5_split_71 : decode cX5_split 71 = .ok (.imul, 1) := by decide +kernel
theorem dX5_split_72 : decode cX5_split 72 = .ok (.invokestatic 58, 3) := by decide +kernel
theorem dX5_split_75 : decode cX5_split 75 = .ok (.iastore, 1) := by decide +kernel
theorem dX5_split_76 : decode cX5_split 76 = .ok (.aload_n 0, 1) := by decide +kernel
theorem dX5_split_77 : decode cX5_split 77 = .ok (.iload_n 2, 1) := by decide +kernel
theorem dX5_split_78 : decode cX5_split 78 = .ok (.aload_n 0, 1) := by decide +kernel
theorem dX5_split_79 : decode cX5_split 79 = .ok (.getfield 9, 3) := by decide +kernel
theorem dX5_split_82 : decode cX5_split 82 = .ok (.iload_n 1, 1) := by decide +kernel
theorem dX5_split_83 : decode cX5_split 83 = .ok (.iaload, 1) := by decide +kernel
theorem dX5_split_84 : decode cX5_split 84 = .ok (.aload_n 0, 1) := by decide +kernel
theorem dX5_split_85 : decode cX5_split 85 = .ok (.getfield 15, 3) := by decide +kernel
theorem dX5_split_88 : decode cX5_split 88 = .ok (.iload_n 1, 1) := by decide +kernel
theorem dX5_split_89 : decode cX5_split 89 = .ok (.iaload, 1) := by decide +kernel
theorem dX5_split_90 : decode cX5_split 90 = .ok (.aload_n 0, 1) := by decide +kernel
theorem dX5_split_91 : decode cX5_split 91 = .ok (.getfield 18, 3) := by decide +kernel
theorem dX5_split_94 : decode cX5_split 94 = .ok (.iload_n 1, 1) := by decide +kernel
theorem dX5_split_95 : decode cX5_split 95 = .ok (.iaload, 1) := by decide +kernel
theorem dX5_split_96 : decode cX5_split 96 = .ok (.invokevirtual 81, 3) := by decide +kernel
theorem dX5_split_99 : decode cX5_split 99 = .ok (.aload_n 0, 1) := by decide +kernel
theorem dX5_split_100 : decode cX5_split 100 = .ok (.aload_n 0, 1) := by decide +kernel
theorem dX5_split_101 : decode cX5_split 101 = .ok (.getfield 31, 3) := by decide +kernel
theorem dX5_split_104 : decode cX5_split 104 = .ok (.iload_n 1, 1) := by decide +kernel
theorem dX5_split_105 : decode cX5_split 105 = .ok (.iload_n 2, 1) := by decide +kernel
theorem dX5_split_106 : decode cX5_split 106 = .ok (.invokestatic 85, 3) := by decide +kernel
theorem dX5_split_109 : decode cX5_split 109 = .ok (.putfield 31, 3) := by decide +kernel
theorem dX5_split_112 : decode cX5_split 112 = .ok (.aload_n 0, 1) := by decide +kernel
theorem dX5_split_113 : decode cX5_split 113 = .ok (.aload_n 0, 1) := by decide +kernel
theorem dX5_split_114 : decode cX5_split 114 = .ok (.getfield 34, 3) := by decide +kernel
theorem dX5_split_117 : decode cX5_split 117 = .ok (.iload_n 1, 1) := by decide +kernel
theorem dX5_split_118 : decode cX5_split 118 = .ok (.iload_n 2, 1) := by decide +kernel
theorem dX5_split_119 : decode cX5_split 119 = .ok (.invokestatic 85, 3) := by decide +kernel
theorem dX5_split_122 : decode cX5_split 122 = .ok (.putfield 34, 3) := by decide +kernel
theorem dX5_split_125 : decode cX5_split 125 = .ok (.aload_n 0, 1) := by decide +kernel
theorem dX5_split_126 : decode cX5_split 126 = .ok (.aload_n 0, 1) := by decide +kernel
theorem dX5_split_127 : decode cX5_split 127 = .ok (.getfield 37, 3) := by decide +kernel
theorem dX5_split_130 : decode cX5_split 130 = .ok (.iload_n 1, 1) := by decide +kernel
theorem dX5_split_131 : decode cX5_split 131 = .ok (.iload_n 2, 1) := by decide +kernel
theorem dX5_split_132 : decode cX5_split 132 = .ok (.invokestatic 85, 3) := by decide +kernel
theorem dX5_split_135 : decode cX5_split 135 = .ok (.putfield 37, 3) := by decide +kernel
theorem dX5_split_138 : decode cX5_split 138 = .ok (.iload_n 2, 1) := by decide +kernel
theorem dX5_split_139 : decode cX5_split 139 = .ok (.ireturn, 1) := by decide +kernel
theorem dX5_alike_0 : decode cX5_alike 0 = .ok (.iload_n 0, 1) := by decide +kernel
theorem dX5_alike_1 : decode cX5_alike 1 = .ok (.iconst 1, 1) := by decide +kernel
theorem dX5_alike_2 : decode cX5_alike 2 = .ok (.iload_n 2, 1) := by decide +kernel
theorem dX5_alike_3 : decode cX5_alike 3 = .ok (.ishl, 1) := by decide +kernel
theorem dX5_alike_4 : decode cX5_alike 4 = .ok (.iconst (-1), 1) := by decide +kernel
theorem dX5_alike_5 : decode cX5_alike 5 = .ok (.ixor, 1) := by decide +kernel
theorem dX5_alike_6 : decode cX5_alike 6 = .ok (.iand, 1) := by decide +kernel
theorem dX5_alike_7 : decode cX5_alike 7 = .ok (.iload_n 0, 1) := by decide +kernel
theorem dX5_alike_8 : decode cX5_alike 8 = .ok (.iload_n 1, 1) := by decide +kernel
theorem dX5_alike_9 : decode cX5_alike 9 = .ok (.invokestatic 43, 3) := by decide +kernel
theorem dX5_alike_12 : decode cX5_alike 12 = .ok (.iload_n 2, 1) := by decide +kernel
theorem dX5_alike_13 : decode cX5_alike 13 = .ok (.ishl, 1) := by decide +kernel
theorem dX5_alike_14 : decode cX5_alike 14 = .ok (.ior, 1) := by decide +kernel
theorem dX5_alike_15 : decode cX5_alike 15 = .ok (.ireturn, 1) := by decide +kernel
theorem dX5_comings_0 : decode cX5_comings 0 = .ok (.aload_n 0, 1) := by decide +kernel
theorem dX5_comings_1 : decode cX5_comings 1 = .ok (.iload_n 1, 1) := by decide +kernel
theorem dX5_comings_2 : decode cX5_comings 2 = .ok (.invokevirtual 50, 3) := by decide +kernel
theorem dX5_comings_5 : decode cX5_comings 5 = .ok (.ifCond .eq 13, 3) := by decide +kernel
theorem dX5_comings_8 : decode cX5_comings 8 = .ok (.aload_n 0, 1) := by decide +kernel
theorem dX5_comings_9 : decode cX5_comings 9 = .ok (.getfield 15, 3) := by decide +kernel
theorem dX5_comings_12 : decode cX5_comings 12 = .ok (.iload_n 1, 1) := by decide +kernel
theorem dX5_comings_13 : decode cX5_comings 13 = .ok (.iaload, 1) := by decide +kernel
theorem dX5_comings_14 : decode cX5_comings 14 = .ok (.iconst 1, 1) := by decide +kernel
theorem dX5_comings_15 : decode cX5_comings 15 = .ok (.if_icmp .ge 5, 3) := by decide +kernel
theorem dX5_comings_18 : decode cX5_comings 18 = .ok (.iconst 0, 1) := by decide +kernel
theorem dX5_comings_19 : decode cX5_comings 19 = .ok (.ireturn, 1) := by decide +kernel
theorem dX5_comings_20 : decode cX5_comings 20 = .ok (.iconst 1, 1) := by decide +kernel
theorem dX5_comings_21 : decode cX5_comings 21 = .ok (.aload_n 0, 1) := by decide +kernel
theorem dX5_comings_22 : decode cX5_comings 22 = .ok (.getfield 18, 3) := by decide +kernel
theorem dX5_comings_25 : decode cX5_comings 25 = .ok (.iload_n 1, 1) := by decide +kernel
theorem dX5_comings_26 : decode cX5_comings 26 = .ok (.iaload, 1) := by decide +kernel
theorem dX5_comings_27 : decode cX5_comings 27 = .ok (.invokestatic 70, 3) := by decide +kernel
theorem dX5_comings_30 : decode cX5_comings 30 = .ok (.istore_n 3, 1) := by decide +kernel
theorem dX5_comings_31 : decode cX5_comings 31 = .ok (.iload_n 2, 1) := by decide +kernel
theorem dX5_comings_32 : decode cX5_comings 32 = .ok (.iload_n 3, 1) := by decide +kernel
theorem dX5_comings_33 : decode cX5_comings 33 = .ok (.if_icmp .ge 7, 3) := by decide +kernel
theorem dX5_comings_36 : decode cX5_comings 36 = .ok (.iconst 0, 1) := by decide +kernel
theorem dX5_comings_37 : decode cX5_comings 37 = .ok (.goto 15, 3) := by decide +kernel
theorem dX5_comings_40 : decode cX5_comings 40 = .ok (.iconst 1, 1) := by decide +kernel
theorem dX5_comings_41 : decode cX5_comings 41 = .ok (.iload_n 2, 1) := by decide +kernel
theorem dX5_comings_42 : decode cX5_comings 42 = .ok (.iload_n 3, 1) := by decide +kernel
theorem dX5_comings_43 : decode cX5_comings 43 = .ok (.isub, 1) := by decide +kernel
theorem dX5_comings_44 : decode cX5_comings 44 = .ok (.aload_n 0, 1) := by decide +kernel
theorem dX5_comings_45 : decode cX5_comings 45 = .ok (.getfield 15, 3) := by decide +kernel
theorem dX5_comings_48 : decode cX5_comings 48 = .ok (.iload_n 1, 1) := by decide +kernel
theorem dX5_comings_49 : decode cX5_comings 49 = .ok (.iaload, 1) := by decide +kernel
theorem dX5_comings_50 : decode cX5_comings 50 = .ok (.idiv, 1) := by decide +kernel
theorem dX5_comings_51 : decode cX5_comings 51 = .ok (.iadd, 1) := by decide +kernel
theorem dX5_comings_52 : decode cX5_comings 52 = .ok (.ireturn, 1) := by decide +kernel
theorem dX6_init_0 : decode cX6_init 0 = .ok (.aload_n 0, 1) := by decide +kernel
theorem dX6_init_1 : decode cX6_init 1 = .ok (.invokespecial 1, 3) := by decide +kernel
theorem dX6_init_4 : decode cX6_init 4 = .ok (.aload_n 0, 1) := by decide +kernel
theorem dX6_init_5 : decode cX6_init 5 = .ok (.bipush 8, 2) := by decide +kernel
theorem dX6_init_7 : decode cX6_init 7 = .ok (.anewarray 9, 3) := by decide +kernel
theorem dX6_init_10 : decode cX6_init 10 = .ok (.putfield 11, 3) := by decide +kernel
theorem dX6_init_13 : decode cX6_init 13 = .ok (.iconst 0, 1) := by decide +kernel
theorem dX6_init_14 : decode cX6_init 14 = .ok (.istore_n 1, 1) := by decide +kernel
theorem dX6_init_15 : decode cX6_init 15 = .ok (.iload_n 1, 1) := by decide +kernel
theorem dX6_init_16 : decode cX6_init 16 = .ok (.bipush 8, 2) := by decide +kernel
theorem dX6_init_18 : decode cX6_init 18 = .ok (.if_icmp .ge 22, 3) := by decide +kernel
theorem dX6_init_21 : decode cX6_init 21 = .ok (.aload_n 0, 1) := by decide +kernel
theorem dX6_init_22 : decode cX6_init 22 = .ok (.getfield 11, 3) := by decide +kernel
theorem dX6_init_25 : decode cX6_init 25 = .ok (.iload_n 1, 1) := by decide +kernel
theorem dX6_init_26 : decode cX6_init 26 = .ok (.new 9, 3) := by decide +kernel
theorem dX6_init_29 : decode cX6_init 29 = .ok (.dup, 1) := by decide +kernel
theorem dX6_init_30 : decode cX6_init 30 = .ok (.invokespecial 15, 3) := by decide +kernel
theorem dX6_init_33 : decode cX6_init 33 = .ok (.aastore, 1) := by decide +kernel
theorem dX6_init_34 : decode cX6_init 34 = .ok (.iinc 1 1, 3) := by decide +kernel
theorem dX6_init_37 : decode cX6_init 37 = .ok (.goto (-22), 3) := by decide +kernel
theorem dX6_init_40 : decode cX6_init 40 = .ok (.return_, 1) := by decide +kernel
theorem dX6_remember_0 : decode cX6_remember 0 = .ok (.aload_n 0, 1) := by decide +kernel
theorem dX6_remember_1 : decode cX6_remember 1 = .ok (.aload_n 0, 1) := by decide +kernel
theorem dX6_remember_2 : decode cX6_remember 2 = .ok (.getfield 16, 3) := by decide +kernel
theorem dX6_remember_5 : decode cX6_remember 5 = .ok (.iconst 1, 1) := by decide +kernel
theorem dX6_remember_6 : decode cX6_remember 6 = .ok (.iadd, 1) := by decide +kernel
theorem dX6_remember_7 : decode cX6_remember 7 = .ok (.bipush 8, 2) := by decide +kernel
theorem dX6_remember_9 : decode cX6_remember 9 = .ok (.invokestatic 20, 3) := by decide +kernel
theorem dX6_remember_12 : decode cX6_remember 12 = .ok (.putfield 16, 3) := by decide +kernel
theorem dX6_remember_15 : decode cX6_remember 15 = .ok (.aload_n 0, 1) := by decide +kernel
theorem dX6_remember_16 : decode cX6_remember 16 = .ok (.getfield 11, 3) := by decide +kernel
theorem dX6_remember_19 : decode cX6_remember 19 = .ok (.aload_n 0, 1) := by decide +kernel
theorem dX6_remember_20 : decode cX6_remember 20 = .ok (.getfield 16, 3) := by decide +kernel
theorem dX6_remember_23 : decode cX6_remember 23 = .ok (.aaload, 1) := by decide +kernel
theorem dX6_remember_24 : decode cX6_remember 24 = .ok (.astore_n 2, 1) := by decide +kernel
theorem dX6_remember_25 : decode cX6_remember 25 = .ok (.aload_n 2, 1) := by decide +kernel
theorem dX6_remember_26 : decode cX6_remember 26 = .ok (.ifnull 8, 3) := by decide +kernel
theorem dX6_remember_29 : decode cX6_remember 29 = .ok (.aload_n 2, 1) := by decide +kernel
theorem dX6_remember_30 : decode cX6_remember 30 = .ok (.aload_n 1, 1) := by decide +kernel
theorem dX6_remember_31 : decode cX6_remember 31 = .ok (.invokevirtual 26, 3) := by decide +kernel
theorem dX6_remember_34 : decode cX6_remember 34 = .ok (.aload_n 0, 1) := by decide +kernel
theorem dX6_remember_35 : decode cX6_remember 35 = .ok (.bipush 8, 2) := by decide +kernel
theorem dX6_remember_37 : decode cX6_remember 37 = .ok (.aload_n 0, 1) := by decide +kernel
theorem dX6_remember_38 : decode cX6_remember 38 = .ok (.getfield 30, 3) := by decide +kernel
theorem dX6_remember_41 : decode cX6_remember 41 = .ok (.iconst 1, 1) := by decide +kernel
theorem dX6_remember_42 : decode cX6_remember 42 = .ok (.iadd, 1) := by decide +kernel
theorem dX6_remember_43 : decode cX6_remember 43 = .ok (.invokestatic 33, 3) := by decide +kernel
theorem dX6_remember_46 : decode cX6_remember 46 = .ok (.putfield 30, 3) := by decide +kernel
theorem dX6_remember_49 : decode cX6_remember 49 = .ok (.return_, 1) := by decide +kernel
theorem dX6_bringBack_0 : decode cX6_bringBack 0 = .ok (.aload_n 0, 1) := by decide +kernel
theorem dX6_bringBack_1 : decode cX6_bringBack 1 = .ok (.getfield 11, 3) := by decide +kernel
theorem dX6_bringBack_4 : decode cX6_bringBack 4 = .ok (.aload_n 0, 1) := by decide +kernel
theorem dX6_bringBack_5 : decode cX6_bringBack 5 = .ok (.getfield 16, 3) := by decide +kernel
theorem dX6_bringBack_8 : decode cX6_bringBack 8 = .ok (.aaload, 1) := by decide +kernel
theorem dX6_bringBack_9 : decode cX6_bringBack 9 = .ok (.astore_n 2, 1) := by decide +kernel
theorem dX6_bringBack_10 : decode cX6_bringBack 10 = .ok (.aload_n 0, 1) := by decide +kernel
theorem dX6_bringBack_11 : decode cX6_bringBack 11 = .ok (.getfield 30, 3) := by decide +kernel
theorem dX6_bringBack_14 : decode cX6_bringBack 14 = .ok (.ifCond .le 37, 3) := by decide +kernel
theorem dX6_bringBack_17 : decode cX6_bringBack 17 = .ok (.aload_n 2, 1) := by decide +kernel
theorem dX6_bringBack_18 : decode cX6_bringBack 18 = .ok (.ifnull 33, 3) := by decide +kernel
theorem dX6_bringBack_21 : decode cX6_bringBack 21 = .ok (.aload_n 1, 1) := by decide +kernel
theorem dX6_bringBack_22 : decode cX6_bringBack 22 = .ok (.aload_n 2, 1) := by decide +kernel
theorem dX6_bringBack_23 : decode cX6_bringBack 23 = .ok (.invokevirtual 26, 3) := by decide +kernel
theorem dX6_bringBack_26 : decode cX6_bringBack 26 = .ok (.aload_n 0, 1) := by decide +kernel
theorem dX6_bringBack_27 : decode cX6_bringBack 27 = .ok (.aload_n 0, 1) := by decide +kernel
theorem dX6_bringBack_28 : decode cX6_bringBack 28 = .ok (.getfield 16, 3) := by decide +kernel
theorem dX6_bringBack_31 : decode cX6_bringBack 31 = .ok (.iconst 1, 1) := by decide +kernel
theorem dX6_bringBack_32 : decode cX6_bringBack 32 = .ok (.isub, 1) := by decide +kernel
theorem dX6_bringBack_33 : decode cX6_bringBack 33 = .ok (.bipush 8, 2) := by decide +kernel
theorem dX6_bringBack_35 : decode cX6_bringBack 35 = .ok (.invokestatic 20, 3) := by decide +kernel
theorem dX6_bringBack_38 : decode cX6_bringBack 38 = .ok (.putfield 16, 3) := by decide +kernel
theorem dX6_bringBack_41 : decode cX6_bringBack 41 = .ok (.aload_n 0, 1) := by decide +kernel
theorem dX6_bringBack_42 : decode cX6_bringBack 42 = .ok (.dup, 1) := by decide +kernel
theorem dX6_bringBack_43 : decode cX6_bringBack 43 = .ok (.getfield 30, 3) := by decide +kernel
theorem dX6_bringBack_46 : decode cX6_bringBack 46 = .ok (.iconst 1, 1) := by decide +kernel
theorem dX6_bringBack_47 : decode cX6_bringBack 47 = .ok (.isub, 1) := by decide +kernel
theorem dX6_bringBack_48 : decode cX6_bringBack 48 = .ok (.putfield 30, 3) := by decide +kernel
theorem dX6_bringBack_51 : decode cX6_bringBack 51 = .ok (.return_, 1) := by decide +kernel
theorem dX7_init_0 : decode cX7_init 0 = .ok (.aload_n 0, 1) := by decide +kernel
theorem dX7_init_1 : decode cX7_init 1 = .ok (.invokespecial 3, 3) := by decide +kernel
theorem dX7_init_4 : decode cX7_init 4 = .ok (.aload_n 0, 1) := by decide +kernel
theorem dX7_init_5 : decode cX7_init 5 = .ok (.iconst 3, 1) := by decide +kernel
theorem dX7_init_6 : decode cX7_init 6 = .ok (.newarray .int, 2) := by decide +kernel
theorem dX7_init_8 : decode cX7_init 8 = .ok (.putfield 11, 3) := by decide +kernel
theorem dX7_init_11 : decode cX7_init 11 = .ok (.return_, 1) := by decide +kernel
theorem dX7_read_0 : decode cX7_read 0 = .ok (.aload_n 2, 1) := by decide +kernel
theorem dX7_read_1 : decode cX7_read 1 = .ok (.invokevirtual 15, 3) := by decide +kernel
theorem dX7_read_4 : decode cX7_read 4 = .ok (.aload_n 0, 1) := by decide +kernel
theorem dX7_read_5 : decode cX7_read 5 = .ok (.iconst 0, 1) := by decide +kernel
theorem dX7_read_6 : decode cX7_read 6 = .ok (.putfield 20, 3) := by decide +kernel
theorem dX7_read_9 : decode cX7_read 9 = .ok (.aload_n 0, 1) := by decide +kernel
theorem dX7_read_10 : decode cX7_read 10 = .ok (.iconst 0, 1) := by decide +kernel
theorem dX7_read_11 : decode cX7_read 11 = .ok (.putfield 24, 3) := by decide +kernel
theorem dX7_read_14 : decode cX7_read 14 = .ok (.iconst 0, 1) := by decide +kernel
theorem dX7_read_15 : decode cX7_read 15 = .ok (.istore_n 3, 1) := by decide +kernel
theorem dX7_read_16 : decode cX7_read 16 = .ok (.aload_n 0, 1) := by decide +kernel
theorem dX7_read_17 : decode cX7_read 17 = .ok (.aload_n 1, 1) := by decide +kernel
theorem dX7_read_18 : decode cX7_read 18 = .ok (.invokevirtual 27, 3) := by decide +kernel
theorem dX7_read_21 : decode cX7_read 21 = .ok (.iconst 0, 1) := by decide +kernel
theorem dX7_read_22 : decode cX7_read 22 = .ok (.istore 4, 2) := by decide +kernel
theorem dX7_read_24 : decode cX7_read 24 = .ok (.iload 4, 2) := by decide +kernel
theorem dX7_read_26 : decode cX7_read 26 = .ok (.sipush 200, 3) := by decide +kernel
theorem dX7_read_29 : decode cX7_read 29 = .ok (.if_icmp .ge 96, 3) := by decide +kernel
theorem dX7_read_32 : decode cX7_read 32 = .ok (.aload_n 0, 1) := by decide +kernel
theorem dX7_read_33 : decode cX7_read 33 = .ok (.getfield 33, 3) := by decide +kernel
theorem dX7_read_36 : decode cX7_read 36 = .ok (.iconst (-1), 1) := by decide +kernel
theorem dX7_read_37 : decode cX7_read 37 = .ok (.if_icmp .eq 88, 3) := by decide +kernel
theorem dX7_read_40 : decode cX7_read 40 = .ok (.aload_n 0, 1) := by decide +kernel
theorem dX7_read_41 : decode cX7_read 41 = .ok (.getfield 33, 3) := by decide +kernel
theorem dX7_read_44 : decode cX7_read 44 = .ok (.ifCond .ge 8, 3) := by decide +kernel
theorem dX7_read_47 : decode cX7_read 47 = .ok (.bipush (-9), 2) := by decide +kernel
theorem dX7_read_49 : decode cX7_read 49 = .ok (.goto 13, 3) := by decide +kernel
theorem dX7_read_52 : decode cX7_read 52 = .ok (.ldc 36, 2) := by decide +kernel
theorem dX7_read_54 : decode cX7_read 54 = .ok (.aload_n 0, 1) := by decide +kernel
theorem dX7_read_55 : decode cX7_read 55 = .ok (.getfield 33, 3) := by decide +kernel
theorem dX7_read_58 : decode cX7_read 58 = .ok (.i2c, 1) := by decide +kernel
theorem dX7_read_59 : decode cX7_read 59 = .ok (.invokevirtual 38, 3) := by decide +kernel
theorem dX7_read_62 : decode cX7_read 62 = .ok (.istore 5, 2) := by decide +kernel
theorem dX7_read_64 : decode cX7_read 64 = .ok (.iload 5, 2) := by decide +kernel
theorem dX7_read_66 : decode cX7_read 66 = .ok (.ifCond .lt 24, 3) := by decide +kernel
theorem dX7_read_69 : decode cX7_read 69 = .ok (.aload_n 0, 1) := by decide +kernel
theorem dX7_read_70 : decode cX7_read 70 = .ok (.iload 5, 2) := by decide +kernel
theorem dX7_read_72 : decode cX7_read 72 = .ok (.aload_n 2, 1) := by decide +kernel
theorem dX7_read_73 : decode cX7_read 73 = .ok (.invokevirtual 44, 3) := by decide +kernel
theorem dX7_read_76 : decode cX7_read 76 = .ok (.ifCond .ne 14, 3) := by decide +kernel
theorem dX7_read_79 : decode cX7_read 79 = .ok (.aload_n 0, 1) := by decide +kernel
theorem dX7_read_80 : decode cX7_read 80 = .ok (.aload_n 1, 1) := by decide +kernel
theorem dX7_read_81 : decode cX7_read 81 = .ok (.aload_n 2, 1) := by decide +kernel
theorem dX7_read_82 : decode cX7_read 82 = .ok (.iload 5, 2) := by decide +kernel
theorem dX7_read_84 : decode cX7_read 84 = .ok (.invokevirtual 48, 3) := by decide +kernel
