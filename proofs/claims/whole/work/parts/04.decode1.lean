theorem dX7_read_87 : decode cX7_read 87 = .ok (.ifCond .ne 11, 3) := by decide +kernel
theorem dX7_read_90 : decode cX7_read 90 = .ok (.bipush (-10), 2) := by decide +kernel
theorem dX7_read_92 : decode cX7_read 92 = .ok (.aload_n 0, 1) := by decide +kernel
theorem dX7_read_93 : decode cX7_read 93 = .ok (.getfield 52, 3) := by decide +kernel
theorem dX7_read_96 : decode cX7_read 96 = .ok (.isub, 1) := by decide +kernel
theorem dX7_read_97 : decode cX7_read 97 = .ok (.ireturn, 1) := by decide +kernel
theorem dX7_read_98 : decode cX7_read 98 = .ok (.aload_n 0, 1) := by decide +kernel
theorem dX7_read_99 : decode cX7_read 99 = .ok (.dup, 1) := by decide +kernel
theorem dX7_read_100 : decode cX7_read 100 = .ok (.getfield 24, 3) := by decide +kernel
theorem dX7_read_103 : decode cX7_read 103 = .ok (.iconst 1, 1) := by decide +kernel
theorem dX7_read_104 : decode cX7_read 104 = .ok (.iload 5, 2) := by decide +kernel
theorem dX7_read_106 : decode cX7_read 106 = .ok (.ishl, 1) := by decide +kernel
theorem dX7_read_107 : decode cX7_read 107 = .ok (.ior, 1) := by decide +kernel
theorem dX7_read_108 : decode cX7_read 108 = .ok (.putfield 24, 3) := by decide +kernel
theorem dX7_read_111 : decode cX7_read 111 = .ok (.iinc 3 1, 3) := by decide +kernel
theorem dX7_read_114 : decode cX7_read 114 = .ok (.aload_n 0, 1) := by decide +kernel
theorem dX7_read_115 : decode cX7_read 115 = .ok (.aload_n 1, 1) := by decide +kernel
theorem dX7_read_116 : decode cX7_read 116 = .ok (.invokevirtual 27, 3) := by decide +kernel
theorem dX7_read_119 : decode cX7_read 119 = .ok (.iinc 4 1, 3) := by decide +kernel
theorem dX7_read_122 : decode cX7_read 122 = .ok (.goto (-98), 3) := by decide +kernel
theorem dX7_read_125 : decode cX7_read 125 = .ok (.aload_n 2, 1) := by decide +kernel
theorem dX7_read_126 : decode cX7_read 126 = .ok (.invokevirtual 55, 3) := by decide +kernel
theorem dX7_read_129 : decode cX7_read 129 = .ok (.iload_n 3, 1) := by decide +kernel
theorem dX7_read_130 : decode cX7_read 130 = .ok (.ireturn, 1) := by decide +kernel
theorem dX7_isOneTooMany_0 : decode cX7_isOneTooMany 0 = .ok (.iload_n 1, 1) := by decide +kernel
theorem dX7_isOneTooMany_1 : decode cX7_isOneTooMany 1 = .ok (.iconst 5, 1) := by decide +kernel
theorem dX7_isOneTooMany_2 : decode cX7_isOneTooMany 2 = .ok (.if_icmp .ne 20, 3) := by decide +kernel
theorem dX7_isOneTooMany_5 : decode cX7_isOneTooMany 5 = .ok (.aload_n 2, 1) := by decide +kernel
theorem dX7_isOneTooMany_6 : decode cX7_isOneTooMany 6 = .ok (.getfield 58, 3) := by decide +kernel
theorem dX7_isOneTooMany_9 : decode cX7_isOneTooMany 9 = .ok (.bipush 8, 2) := by decide +kernel
theorem dX7_isOneTooMany_11 : decode cX7_isOneTooMany 11 = .ok (.if_icmp .lt 7, 3) := by decide +kernel
theorem dX7_isOneTooMany_14 : decode cX7_isOneTooMany 14 = .ok (.iconst 1, 1) := by decide +kernel
theorem dX7_isOneTooMany_15 : decode cX7_isOneTooMany 15 = .ok (.goto 24, 3) := by decide +kernel
theorem dX7_isOneTooMany_18 : decode cX7_isOneTooMany 18 = .ok (.iconst 0, 1) := by decide +kernel
theorem dX7_isOneTooMany_19 : decode cX7_isOneTooMany 19 = .ok (.goto 20, 3) := by decide +kernel
theorem dX7_isOneTooMany_22 : decode cX7_isOneTooMany 22 = .ok (.aload_n 0, 1) := by decide +kernel
theorem dX7_isOneTooMany_23 : decode cX7_isOneTooMany 23 = .ok (.getfield 24, 3) := by decide +kernel
theorem dX7_isOneTooMany_26 : decode cX7_isOneTooMany 26 = .ok (.iload_n 1, 1) := by decide +kernel
theorem dX7_isOneTooMany_27 : decode cX7_isOneTooMany 27 = .ok (.invokestatic 61, 3) := by decide +kernel
theorem dX7_isOneTooMany_30 : decode cX7_isOneTooMany 30 = .ok (.iconst 1, 1) := by decide +kernel
theorem dX7_isOneTooMany_31 : decode cX7_isOneTooMany 31 = .ok (.if_icmp .ne 7, 3) := by decide +kernel
theorem dX7_isOneTooMany_34 : decode cX7_isOneTooMany 34 = .ok (.iconst 1, 1) := by decide +kernel
theorem dX7_isOneTooMany_35 : decode cX7_isOneTooMany 35 = .ok (.goto 4, 3) := by decide +kernel
theorem dX7_isOneTooMany_38 : decode cX7_isOneTooMany 38 = .ok (.iconst 0, 1) := by decide +kernel
theorem dX7_isOneTooMany_39 : decode cX7_isOneTooMany 39 = .ok (.ireturn, 1) := by decide +kernel
theorem dX7_readItem_0 : decode cX7_readItem 0 = .ok (.iload_n 3, 1) := by decide +kernel
theorem dX7_readItem_1 : decode cX7_readItem 1 = .ok (.iconst 5, 1) := by decide +kernel
theorem dX7_readItem_2 : decode cX7_readItem 2 = .ok (.if_icmp .ne 7, 3) := by decide +kernel
theorem dX7_readItem_5 : decode cX7_readItem 5 = .ok (.iconst 3, 1) := by decide +kernel
theorem dX7_readItem_6 : decode cX7_readItem 6 = .ok (.goto 4, 3) := by decide +kernel
theorem dX7_readItem_9 : decode cX7_readItem 9 = .ok (.iconst 1, 1) := by decide +kernel
theorem dX7_readItem_10 : decode cX7_readItem 10 = .ok (.istore 4, 2) := by decide +kernel
theorem dX7_readItem_12 : decode cX7_readItem 12 = .ok (.iconst 0, 1) := by decide +kernel
theorem dX7_readItem_13 : decode cX7_readItem 13 = .ok (.istore 5, 2) := by decide +kernel
theorem dX7_readItem_15 : decode cX7_readItem 15 = .ok (.iload 5, 2) := by decide +kernel
theorem dX7_readItem_17 : decode cX7_readItem 17 = .ok (.iload 4, 2) := by decide +kernel
theorem dX7_readItem_19 : decode cX7_readItem 19 = .ok (.if_icmp .ge 53, 3) := by decide +kernel
theorem dX7_readItem_22 : decode cX7_readItem 22 = .ok (.iload 5, 2) := by decide +kernel
theorem dX7_readItem_24 : decode cX7_readItem 24 = .ok (.iconst 3, 1) := by decide +kernel
theorem dX7_readItem_25 : decode cX7_readItem 25 = .ok (.if_icmp .ge 47, 3) := by decide +kernel
theorem dX7_readItem_28 : decode cX7_readItem 28 = .ok (.aload_n 0, 1) := by decide +kernel
theorem dX7_readItem_29 : decode cX7_readItem 29 = .ok (.aload_n 1, 1) := by decide +kernel
theorem dX7_readItem_30 : decode cX7_readItem 30 = .ok (.invokevirtual 27, 3) := by decide +kernel
theorem dX7_readItem_33 : decode cX7_readItem 33 = .ok (.aload_n 0, 1) := by decide +kernel
theorem dX7_readItem_34 : decode cX7_readItem 34 = .ok (.getfield 33, 3) := by decide +kernel
theorem dX7_readItem_37 : decode cX7_readItem 37 = .ok (.bipush (-2), 2) := by decide +kernel
theorem dX7_readItem_39 : decode cX7_readItem 39 = .ok (.if_icmp .ne 14, 3) := by decide +kernel
theorem dX7_readItem_42 : decode cX7_readItem 42 = .ok (.aload_n 0, 1) := by decide +kernel
theorem dX7_readItem_43 : decode cX7_readItem 43 = .ok (.iload_n 3, 1) := by decide +kernel
theorem dX7_readItem_44 : decode cX7_readItem 44 = .ok (.iload 5, 2) := by decide +kernel
theorem dX7_readItem_46 : decode cX7_readItem 46 = .ok (.iadd, 1) := by decide +kernel
theorem dX7_readItem_47 : decode cX7_readItem 47 = .ok (.invokevirtual 65, 3) := by decide +kernel
theorem dX7_readItem_50 : decode cX7_readItem 50 = .ok (.ifCond .ne 5, 3) := by decide +kernel
theorem dX7_readItem_53 : decode cX7_readItem 53 = .ok (.iconst 0, 1) := by decide +kernel
theorem dX7_readItem_54 : decode cX7_readItem 54 = .ok (.ireturn, 1) := by decide +kernel
theorem dX7_readItem_55 : decode cX7_readItem 55 = .ok (.aload_n 0, 1) := by decide +kernel
theorem dX7_readItem_56 : decode cX7_readItem 56 = .ok (.getfield 11, 3) := by decide +kernel
theorem dX7_readItem_59 : decode cX7_readItem 59 = .ok (.iload 5, 2) := by decide +kernel
theorem dX7_readItem_61 : decode cX7_readItem 61 = .ok (.aload_n 0, 1) := by decide +kernel
theorem dX7_readItem_62 : decode cX7_readItem 62 = .ok (.getfield 69, 3) := by decide +kernel
theorem dX7_readItem_65 : decode cX7_readItem 65 = .ok (.iastore, 1) := by decide +kernel
theorem dX7_readItem_66 : decode cX7_readItem 66 = .ok (.iinc 5 1, 3) := by decide +kernel
theorem dX7_readItem_69 : decode cX7_readItem 69 = .ok (.goto (-54), 3) := by decide +kernel
theorem dX7_readItem_72 : decode cX7_readItem 72 = .ok (.iload_n 3, 1) := by decide +kernel
theorem dX7_readItem_73 : decode cX7_readItem 73 = .ok (.iconst 5, 1) := by decide +kernel
theorem dX7_readItem_74 : decode cX7_readItem 74 = .ok (.if_icmp .ne 28, 3) := by decide +kernel
theorem dX7_readItem_77 : decode cX7_readItem 77 = .ok (.aload_n 2, 1) := by decide +kernel
theorem dX7_readItem_78 : decode cX7_readItem 78 = .ok (.aload_n 0, 1) := by decide +kernel
theorem dX7_readItem_79 : decode cX7_readItem 79 = .ok (.getfield 11, 3) := by decide +kernel
theorem dX7_readItem_82 : decode cX7_readItem 82 = .ok (.iconst 0, 1) := by decide +kernel
theorem dX7_readItem_83 : decode cX7_readItem 83 = .ok (.iaload, 1) := by decide +kernel
theorem dX7_readItem_84 : decode cX7_readItem 84 = .ok (.aload_n 0, 1) := by decide +kernel
theorem dX7_readItem_85 : decode cX7_readItem 85 = .ok (.getfield 11, 3) := by decide +kernel
theorem dX7_readItem_88 : decode cX7_readItem 88 = .ok (.iconst 1, 1) := by decide +kernel
theorem dX7_readItem_89 : decode cX7_readItem 89 = .ok (.iaload, 1) := by decide +kernel
theorem dX7_readItem_90 : decode cX7_readItem 90 = .ok (.aload_n 0, 1) := by decide +kernel
theorem dX7_readItem_91 : decode cX7_readItem 91 = .ok (.getfield 11, 3) := by decide +kernel
theorem dX7_readItem_94 : decode cX7_readItem 94 = .ok (.iconst 2, 1) := by decide +kernel
theorem dX7_readItem_95 : decode cX7_readItem 95 = .ok (.iaload, 1) := by decide +kernel
theorem dX7_readItem_96 : decode cX7_readItem 96 = .ok (.invokevirtual 72, 3) := by decide +kernel
theorem dX7_readItem_99 : decode cX7_readItem 99 = .ok (.goto 14, 3) := by decide +kernel
theorem dX7_readItem_102 : decode cX7_readItem 102 = .ok (.aload_n 2, 1) := by decide +kernel
theorem dX7_readItem_103 : decode cX7_readItem 103 = .ok (.iload_n 3, 1) := by decide +kernel
theorem dX7_readItem_104 : decode cX7_readItem 104 = .ok (.aload_n 0, 1) := by decide +kernel
theorem dX7_readItem_105 : decode cX7_readItem 105 = .ok (.getfield 11, 3) := by decide +kernel
theorem dX7_readItem_108 : decode cX7_readItem 108 = .ok (.iconst 0, 1) := by decide +kernel
theorem dX7_readItem_109 : decode cX7_readItem 109 = .ok (.iaload, 1) := by decide +kernel
theorem dX7_readItem_110 : decode cX7_readItem 110 = .ok (.invokevirtual 76, 3) := by decide +kernel
theorem dX7_readItem_113 : decode cX7_readItem 113 = .ok (.aload_n 0, 1) := by decide +kernel
theorem dX7_readItem_114 : decode cX7_readItem 114 = .ok (.aload_n 1, 1) := by decide +kernel
theorem dX7_readItem_115 : decode cX7_readItem 115 = .ok (.invokevirtual 27, 3) := by decide +kernel
theorem dX7_readItem_118 : decode cX7_readItem 118 = .ok (.aload_n 0, 1) := by decide +kernel
theorem dX7_readItem_119 : decode cX7_readItem 119 = .ok (.getfield 33, 3) := by decide +kernel
theorem dX7_readItem_122 : decode cX7_readItem 122 = .ok (.bipush 59, 2) := by decide +kernel
theorem dX7_readItem_124 : decode cX7_readItem 124 = .ok (.if_icmp .ne 7, 3) := by decide +kernel
theorem dX7_readItem_127 : decode cX7_readItem 127 = .ok (.iconst 1, 1) := by decide +kernel
theorem dX7_readItem_128 : decode cX7_readItem 128 = .ok (.goto 4, 3) := by decide +kernel
theorem dX7_readItem_131 : decode cX7_readItem 131 = .ok (.iconst 0, 1) := by decide +kernel
theorem dX7_readItem_132 : decode cX7_readItem 132 = .ok (.ireturn, 1) := by decide +kernel
theorem dX7_isWithin_0 : decode cX7_isWithin 0 = .ok (.iload_n 1, 1) := by decide +kernel
theorem dX7_isWithin_1 : decode cX7_isWithin 1 = .ok (.ifCond .lt 47, 3) := by decide +kernel
theorem dX7_isWithin_4 : decode cX7_isWithin 4 = .ok (.iload_n 1, 1) := by decide +kernel
theorem dX7_isWithin_5 : decode cX7_isWithin 5 = .ok (.getstatic 80, 3) := by decide +kernel
theorem dX7_isWithin_8 : decode cX7_isWithin 8 = .ok (.arraylength, 1) := by decide +kernel
theorem dX7_isWithin_9 : decode cX7_isWithin 9 = .ok (.if_icmp .ge 39, 3) := by decide +kernel
theorem dX7_isWithin_12 : decode cX7_isWithin 12 = .ok (.iload_n 1, 1) := by decide +kernel
theorem dX7_isWithin_13 : decode cX7_isWithin 13 = .ok (.getstatic 83, 3) := by decide +kernel
theorem dX7_isWithin_16 : decode cX7_isWithin 16 = .ok (.arraylength, 1) := by decide +kernel
theorem dX7_isWithin_17 : decode cX7_isWithin 17 = .ok (.if_icmp .ge 31, 3) := by decide +kernel
theorem dX7_isWithin_20 : decode cX7_isWithin 20 = .ok (.aload_n 0, 1) := by decide +kernel
theorem dX7_isWithin_21 : decode cX7_isWithin 21 = .ok (.getfield 69, 3) := by decide +kernel
theorem dX7_isWithin_24 : decode cX7_isWithin 24 = .ok (.getstatic 80, 3) := by decide +kernel
theorem dX7_isWithin_27 : decode cX7_isWithin 27 = .ok (.iload_n 1, 1) := by decide +kernel
theorem dX7_isWithin_28 : decode cX7_isWithin 28 = .ok (.iaload, 1) := by decide +kernel
theorem dX7_isWithin_29 : decode cX7_isWithin 29 = .ok (.if_icmp .lt 19, 3) := by decide +kernel
theorem dX7_isWithin_32 : decode cX7_isWithin 32 = .ok (.aload_n 0, 1) := by decide +kernel
theorem dX7_isWithin_33 : decode cX7_isWithin 33 = .ok (.getfield 69, 3) := by decide +kernel
theorem dX7_isWithin_36 : decode cX7_isWithin 36 = .ok (.getstatic 83, 3) := by decide +kernel
theorem dX7_isWithin_39 : decode cX7_isWithin 39 = .ok (.iload_n 1, 1) := by decide +kernel
theorem dX7_isWithin_40 : decode cX7_isWithin 40 = .ok (.iaload, 1) := by decide +kernel
theorem dX7_isWithin_41 : decode cX7_isWithin 41 = .ok (.if_icmp .gt 7, 3) := by decide +kernel
theorem dX7_isWithin_44 : decode cX7_isWithin 44 = .ok (.iconst 1, 1) := by decide +kernel
theorem dX7_isWithin_45 : decode cX7_isWithin 45 = .ok (.goto 4, 3) := by decide +kernel
theorem dX7_isWithin_48 : decode cX7_isWithin 48 = .ok (.iconst 0, 1) := by decide +kernel
theorem dX7_isWithin_49 : decode cX7_isWithin 49 = .ok (.ireturn, 1) := by decide +kernel
theorem dX7_step_0 : decode cX7_step 0 = .ok (.iconst 0, 1) := by decide +kernel
theorem dX7_step_1 : decode cX7_step 1 = .ok (.istore_n 2, 1) := by decide +kernel
theorem dX7_step_2 : decode cX7_step 2 = .ok (.iload_n 2, 1) := by decide +kernel
theorem dX7_step_3 : decode cX7_step 3 = .ok (.sipush 200, 3) := by decide +kernel
theorem dX7_step_6 : decode cX7_step 6 = .ok (.if_icmp .ge 32, 3) := by decide +kernel
theorem dX7_step_9 : decode cX7_step 9 = .ok (.aload_n 1, 1) := by decide +kernel
theorem dX7_step_10 : decode cX7_step 10 = .ok (.aload_n 0, 1) := by decide +kernel
theorem dX7_step_11 : decode cX7_step 11 = .ok (.getfield 20, 3) := by decide +kernel
theorem dX7_step_14 : decode cX7_step 14 = .ok (.invokevirtual 86, 3) := by decide +kernel
theorem dX7_step_17 : decode cX7_step 17 = .ok (.bipush 32, 2) := by decide +kernel
theorem dX7_step_19 : decode cX7_step 19 = .ok (.if_icmp .ne 19, 3) := by decide +kernel
theorem dX7_step_22 : decode cX7_step 22 = .ok (.aload_n 0, 1) := by decide +kernel
theorem dX7_step_23 : decode cX7_step 23 = .ok (.dup, 1) := by decide +kernel
theorem dX7_step_24 : decode cX7_step 24 = .ok (.getfield 20, 3) := by decide +kernel
theorem dX7_step_27 : decode cX7_step 27 = .ok (.iconst 1, 1) := by decide +kernel
theorem dX7_step_28 : decode cX7_step 28 = .ok (.iadd, 1) := by decide +kernel
theorem dX7_step_29 : decode cX7_step 29 = .ok (.putfield 20, 3) := by decide +kernel
theorem dX7_step_32 : decode cX7_step 32 = .ok (.iinc 2 1, 3) := by decide +kernel
theorem dX7_step_35 : decode cX7_step 35 = .ok (.goto (-33), 3) := by decide +kernel
theorem dX7_step_38 : decode cX7_step 38 = .ok (.aload_n 0, 1) := by decide +kernel
theorem dX7_step_39 : decode cX7_step 39 = .ok (.aload_n 0, 1) := by decide +kernel
theorem dX7_step_40 : decode cX7_step 40 = .ok (.getfield 20, 3) := by decide +kernel
theorem dX7_step_43 : decode cX7_step 43 = .ok (.putfield 52, 3) := by decide +kernel
theorem dX7_step_46 : decode cX7_step 46 = .ok (.aload_n 1, 1) := by decide +kernel
theorem dX7_step_47 : decode cX7_step 47 = .ok (.aload_n 0, 1) := by decide +kernel
theorem dX7_step_48 : decode cX7_step 48 = .ok (.getfield 20, 3) := by decide +kernel
theorem dX7_step_51 : decode cX7_step 51 = .ok (.invokevirtual 86, 3) := by decide +kernel
theorem dX7_step_54 : decode cX7_step 54 = .ok (.istore_n 2, 1) := by decide +kernel
theorem dX7_step_55 : decode cX7_step 55 = .ok (.iload_n 2, 1) := by decide +kernel
theorem dX7_step_56 : decode cX7_step 56 = .ok (.invokestatic 89, 3) := by decide +kernel
theorem dX7_step_59 : decode cX7_step 59 = .ok (.ifCond .eq 11, 3) := by decide +kernel
theorem dX7_step_62 : decode cX7_step 62 = .ok (.aload_n 0, 1) := by decide +kernel
theorem dX7_step_63 : decode cX7_step 63 = .ok (.aload_n 1, 1) := by decide +kernel
theorem dX7_step_64 : decode cX7_step 64 = .ok (.invokevirtual 92, 3) := by decide +kernel
theorem dX7_step_67 : decode cX7_step 67 = .ok (.goto 30, 3) := by decide +kernel
theorem dX7_step_70 : decode cX7_step 70 = .ok (.iload_n 2, 1) := by decide +kernel
theorem dX7_step_71 : decode cX7_step 71 = .ok (.ifCond .ge 11, 3) := by decide +kernel
theorem dX7_step_74 : decode cX7_step 74 = .ok (.aload_n 0, 1) := by decide +kernel
theorem dX7_step_75 : decode cX7_step 75 = .ok (.iconst (-1), 1) := by decide +kernel
theorem dX7_step_76 : decode cX7_step 76 = .ok (.putfield 33, 3) := by decide +kernel
theorem dX7_step_79 : decode cX7_step 79 = .ok (.goto 18, 3) := by decide +kernel
theorem dX7_step_82 : decode cX7_step 82 = .ok (.aload_n 0, 1) := by decide +kernel
theorem dX7_step_83 : decode cX7_step 83 = .ok (.iload_n 2, 1) := by decide +kernel
theorem dX7_step_84 : decode cX7_step 84 = .ok (.putfield 33, 3) := by decide +kernel
theorem dX7_step_87 : decode cX7_step 87 = .ok (.aload_n 0, 1) := by decide +kernel
theorem dX7_step_88 : decode cX7_step 88 = .ok (.dup, 1) := by decide +kernel
theorem dX7_step_89 : decode cX7_step 89 = .ok (.getfield 20, 3) := by decide +kernel
theorem dX7_step_92 : decode cX7_step 92 = .ok (.iconst 1, 1) := by decide +kernel
theorem dX7_step_93 : decode cX7_step 93 = .ok (.iadd, 1) := by decide +kernel
theorem dX7_step_94 : decode cX7_step 94 = .ok (.putfield 20, 3) := by decide +kernel
theorem dX7_step_97 : decode cX7_step 97 = .ok (.return_, 1) := by decide +kernel
theorem dX7_stepOverNumber_0 : decode cX7_stepOverNumber 0 = .ok (.iconst 0, 1) := by decide +kernel
theorem dX7_stepOverNumber_1 : decode cX7_stepOverNumber 1 = .ok (.istore_n 2, 1) := by decide +kernel
theorem dX7_stepOverNumber_2 : decode cX7_stepOverNumber 2 = .ok (.iconst 0, 1) := by decide +kernel
theorem dX7_stepOverNumber_3 : decode cX7_stepOverNumber 3 = .ok (.istore_n 3, 1) := by decide +kernel
theorem dX7_stepOverNumber_4 : decode cX7_stepOverNumber 4 = .ok (.iload_n 3, 1) := by decide +kernel
theorem dX7_stepOverNumber_5 : decode cX7_stepOverNumber 5 = .ok (.sipush 200, 3) := by decide +kernel
theorem dX7_stepOverNumber_8 : decode cX7_stepOverNumber 8 = .ok (.if_icmp .ge 55, 3) := by decide +kernel
theorem dX7_stepOverNumber_11 : decode cX7_stepOverNumber 11 = .ok (.aload_n 1, 1) := by decide +kernel
theorem dX7_stepOverNumber_12 : decode cX7_stepOverNumber 12 = .ok (.aload_n 0, 1) := by decide +kernel
theorem dX7_stepOverNumber_13 : decode cX7_stepOverNumber 13 = .ok (.getfield 20, 3) := by decide +kernel
theorem dX7_stepOverNumber_16 : decode cX7_stepOverNumber 16 = .ok (.invokevirtual 86, 3) := by decide +kernel
theorem dX7_stepOverNumber_19 : decode cX7_stepOverNumber 19 = .ok (.invokestatic 89, 3) := by decide +kernel
theorem dX7_stepOverNumber_22 : decode cX7_stepOverNumber 22 = .ok (.ifCond .eq 41, 3) := by decide +kernel
theorem dX7_stepOverNumber_25 : decode cX7_stepOverNumber 25 = .ok (.bipush 100, 2) := by decide +kernel
theorem dX7_stepOverNumber_27 : decode cX7_stepOverNumber 27 = .ok (.iload_n 2, 1) := by decide +kernel
theorem dX7_stepOverNumber_28 : decode cX7_stepOverNumber 28 = .ok (.bipush 10, 2) := by decide +kernel
theorem dX7_stepOverNumber_30 : decode cX7_stepOverNumber 30 = .ok (.imul, 1) := by decide +kernel
theorem dX7_stepOverNumber_31 : decode cX7_stepOverNumber 31 = .ok (.aload_n 1, 1) := by decide +kernel
theorem dX7_stepOverNumber_32 : decode cX7_stepOverNumber 32 = .ok (.aload_n 0, 1) := by decide +kernel
theorem dX7_stepOverNumber_33 : decode cX7_stepOverNumber 33 = .ok (.getfield 20, 3) := by decide +kernel
theorem dX7_stepOverNumber_36 : decode cX7_stepOverNumber 36 = .ok (.invokevirtual 86, 3) := by decide +kernel
theorem dX7_stepOverNumber_39 : decode cX7_stepOverNumber 39 = .ok (.iadd, 1) := by decide +kernel
theorem dX7_stepOverNumber_40 : decode cX7_stepOverNumber 40 = .ok (.bipush 48, 2) := by decide +kernel
theorem dX7_stepOverNumber_42 : decode cX7_stepOverNumber 42 = .ok (.isub, 1) := by decide +kernel
theorem dX7_stepOverNumber_43 : decode cX7_stepOverNumber 43 = .ok (.invokestatic 95, 3) := by decide +kernel
theorem dX7_stepOverNumber_46 : decode cX7_stepOverNumber 46 = .ok (.istore_n 2, 1) := by decide +kernel
theorem dX7_stepOverNumber_47 : decode cX7_stepOverNumber 47 = .ok (.aload_n 0, 1) := by decide +kernel
theorem dX7_stepOverNumber_48 : decode cX7_stepOverNumber 48 = .ok (.dup, 1) := by decide +kernel
theorem dX7_stepOverNumber_49 : decode cX7_stepOverNumber 49 = .ok (.getfield 20, 3) := by decide +kernel
theorem dX7_stepOverNumber_52 : decode cX7_stepOverNumber 52 = .ok (.iconst 1, 1) := by decide +kernel
theorem dX7_stepOverNumber_53 : decode cX7_stepOverNumber 53 = .ok (.iadd, 1) := by decide +kernel
theorem dX7_stepOverNumber_54 : decode cX7_stepOverNumber 54 = .ok (.putfield 20, 3) := by decide +kernel
theorem dX7_stepOverNumber_57 : decode cX7_stepOverNumber 57 = .ok (.iinc 3 1, 3) := by decide +kernel
theorem dX7_stepOverNumber_60 : decode cX7_stepOverNumber 60 = .ok (.goto (-56), 3) := by decide +kernel
theorem dX7_stepOverNumber_63 : decode cX7_stepOverNumber 63 = .ok (.aload_n 1, 1) := by decide +kernel
theorem dX7_stepOverNumber_64 : decode cX7_stepOverNumber 64 = .ok (.aload_n 0, 1) := by decide +kernel
theorem dX7_stepOverNumber_65 : decode cX7_stepOverNumber 65 = .ok (.getfield 52, 3) := by decide +kernel
theorem dX7_stepOverNumber_68 : decode cX7_stepOverNumber 68 = .ok (.invokevirtual 86, 3) := by decide +kernel
theorem dX7_stepOverNumber_71 : decode cX7_stepOverNumber 71 = .ok (.bipush 48, 2) := by decide +kernel
theorem dX7_stepOverNumber_73 : decode cX7_stepOverNumber 73 = .ok (.if_icmp .ne 20, 3) := by decide +kernel
theorem dX7_stepOverNumber_76 : decode cX7_stepOverNumber 76 = .ok (.aload_n 0, 1) := by decide +kernel
theorem dX7_stepOverNumber_77 : decode cX7_stepOverNumber 77 = .ok (.getfield 20, 3) := by decide +kernel
theorem dX7_stepOverNumber_80 : decode cX7_stepOverNumber 80 = .ok (.aload_n 0, 1) := by decide +kernel
theorem dX7_stepOverNumber_81 : decode cX7_stepOverNumber 81 = .ok (.getfield 52, 3) := by decide +kernel
theorem dX7_stepOverNumber_84 : decode cX7_stepOverNumber 84 = .ok (.isub, 1) := by decide +kernel
theorem dX7_stepOverNumber_85 : decode cX7_stepOverNumber 85 = .ok (.iconst 1, 1) := by decide +kernel
theorem dX7_stepOverNumber_86 : decode cX7_stepOverNumber 86 = .ok (.if_icmp .le 7, 3) := by decide +kernel
theorem dX7_stepOverNumber_89 : decode cX7_stepOverNumber 89 = .ok (.iconst 1, 1) := by decide +kernel
theorem dX7_stepOverNumber_90 : decode cX7_stepOverNumber 90 = .ok (.goto 4, 3) := by decide +kernel
theorem dX7_stepOverNumber_93 : decode cX7_stepOverNumber 93 = .ok (.iconst 0, 1) := by decide +kernel
theorem dX7_stepOverNumber_94 : decode cX7_stepOverNumber 94 = .ok (.istore_n 3, 1) := by decide +kernel
theorem dX7_stepOverNumber_95 : decode cX7_stepOverNumber 95 = .ok (.aload_n 0, 1) := by decide +kernel
theorem dX7_stepOverNumber_96 : decode cX7_stepOverNumber 96 = .ok (.iload_n 3, 1) := by decide +kernel
theorem dX7_stepOverNumber_97 : decode cX7_stepOverNumber 97 = .ok (.ifCond .ne 9, 3) := by decide +kernel
theorem dX7_stepOverNumber_100 : decode cX7_stepOverNumber 100 = .ok (.iload_n 2, 1) := by decide +kernel
theorem dX7_stepOverNumber_101 : decode cX7_stepOverNumber 101 = .ok (.bipush 99, 2) := by decide +kernel
theorem dX7_stepOverNumber_103 : decode cX7_stepOverNumber 103 = .ok (.if_icmp .le 8, 3) := by decide +kernel
theorem dX7_stepOverNumber_106 : decode cX7_stepOverNumber 106 = .ok (.bipush (-3), 2) := by decide +kernel
theorem dX7_stepOverNumber_108 : decode cX7_stepOverNumber 108 = .ok (.goto 5, 3) := by decide +kernel
theorem dX7_stepOverNumber_111 : decode cX7_stepOverNumber 111 = .ok (.bipush (-2), 2) := by decide +kernel
theorem dX7_stepOverNumber_113 : decode cX7_stepOverNumber 113 = .ok (.putfield 33, 3) := by decide +kernel
theorem dX7_stepOverNumber_116 : decode cX7_stepOverNumber 116 = .ok (.aload_n 0, 1) := by decide +kernel
theorem dX7_stepOverNumber_117 : decode cX7_stepOverNumber 117 = .ok (.iload_n 2, 1) := by decide +kernel
theorem dX7_stepOverNumber_118 : decode cX7_stepOverNumber 118 = .ok (.putfield 69, 3) := by decide +kernel
theorem dX7_stepOverNumber_121 : decode cX7_stepOverNumber 121 = .ok (.return_, 1) := by decide +kernel
theorem dX7_isDigit_0 : decode cX7_isDigit 0 = .ok (.iload_n 0, 1) := by decide +kernel
theorem dX7_isDigit_1 : decode cX7_isDigit 1 = .ok (.bipush 48, 2) := by decide +kernel
theorem dX7_isDigit_3 : decode cX7_isDigit 3 = .ok (.if_icmp .lt 13, 3) := by decide +kernel
theorem dX7_isDigit_6 : decode cX7_isDigit 6 = .ok (.iload_n 0, 1) := by decide +kernel
theorem dX7_isDigit_7 : decode cX7_isDigit 7 = .ok (.bipush 57, 2) := by decide +kernel
theorem dX7_isDigit_9 : decode cX7_isDigit 9 = .ok (.if_icmp .gt 7, 3) := by decide +kernel
theorem dX7_isDigit_12 : decode cX7_isDigit 12 = .ok (.iconst 1, 1) := by decide +kernel
theorem dX7_isDigit_13 : decode cX7_isDigit 13 = .ok (.goto 4, 3) := by decide +kernel
theorem dX7_isDigit_16 : decode cX7_isDigit 16 = .ok (.iconst 0, 1) := by decide +kernel
theorem dX7_isDigit_17 : decode cX7_isDigit 17 = .ok (.ireturn, 1) := by decide +kernel
theorem dX8_init_0 : decode cX8_init 0 = .ok (.aload_n 0, 1) := by decide +kernel
theorem dX8_init_1 : decode cX8_init 1 = .ok (.invokespecial 1, 3) := by decide +kernel
theorem dX8_init_4 : decode cX8_init 4 = .ok (.aload_n 0, 1) := by decide +kernel
theorem dX8_init_5 : decode cX8_init 5 = .ok (.new 7, 3) := by decide +kernel
theorem dX8_init_8 : decode cX8_init 8 = .ok (.dup, 1) := by decide +kernel
theorem dX8_init_9 : decode cX8_init 9 = .ok (.invokespecial 9, 3) := by decide +kernel
theorem dX8_init_12 : decode cX8_init 12 = .ok (.putfield 10, 3) := by decide +kernel
theorem dX8_init_15 : decode cX8_init 15 = .ok (.aload_n 0, 1) := by decide +kernel
theorem dX8_init_16 : decode cX8_init 16 = .ok (.new 16, 3) := by decide +kernel
theorem dX8_init_19 : decode cX8_init 19 = .ok (.dup, 1) := by decide +kernel
theorem dX8_init_20 : decode cX8_init 20 = .ok (.invokespecial 18, 3) := by decide +kernel
theorem dX8_init_23 : decode cX8_init 23 = .ok (.putfield 19, 3) := by decide +kernel
theorem dX8_init_26 : decode cX8_init 26 = .ok (.aload_n 0, 1) := by decide +kernel
theorem dX8_init_27 : decode cX8_init 27 = .ok (.new 23, 3) := by decide +kernel
theorem dX8_init_30 : decode cX8_init 30 = .ok (.dup, 1) := by decide +kernel
theorem dX8_init_31 : decode cX8_init 31 = .ok (.invokespecial 25, 3) := by decide +kernel
theorem dX8_init_34 : decode cX8_init 34 = .ok (.putfield 26, 3) := by decide +kernel
theorem dX8_init_37 : decode cX8_init 37 = .ok (.aload_n 0, 1) := by decide +kernel
theorem dX8_init_38 : decode cX8_init 38 = .ok (.new 23, 3) := by decide +kernel
theorem dX8_init_41 : decode cX8_init 41 = .ok (.dup, 1) := by decide +kernel
theorem dX8_init_42 : decode cX8_init 42 = .ok (.invokespecial 25, 3) := by decide +kernel
theorem dX8_init_45 : decode cX8_init 45 = .ok (.putfield 30, 3) := by decide +kernel
theorem dX8_init_48 : decode cX8_init 48 = .ok (.aload_n 0, 1) := by decide +kernel
theorem dX8_init_49 : decode cX8_init 49 = .ok (.new 33, 3) := by decide +kernel
theorem dX8_init_52 : decode cX8_init 52 = .ok (.dup, 1) := by decide +kernel
theorem dX8_init_53 : decode cX8_init 53 = .ok (.invokespecial 35, 3) := by decide +kernel
theorem dX8_init_56 : decode cX8_init 56 = .ok (.putfield 36, 3) := by decide +kernel
theorem dX8_init_59 : decode cX8_init 59 = .ok (.aload_n 0, 1) := by decide +kernel
theorem dX8_init_60 : decode cX8_init 60 = .ok (.new 33, 3) := by decide +kernel
theorem dX8_init_63 : decode cX8_init 63 = .ok (.dup, 1) := by decide +kernel
theorem dX8_init_64 : decode cX8_init 64 = .ok (.invokespecial 35, 3) := by decide +kernel
theorem dX8_init_67 : decode cX8_init 67 = .ok (.putfield 40, 3) := by decide +kernel
theorem dX8_init_70 : decode cX8_init 70 = .ok (.aload_n 0, 1) := by decide +kernel
theorem dX8_init_71 : decode cX8_init 71 = .ok (.new 43, 3) := by decide +kernel
theorem dX8_init_74 : decode cX8_init 74 = .ok (.dup, 1) := by decide +kernel
theorem dX8_init_75 : decode cX8_init 75 = .ok (.invokespecial 45, 3) := by decide +kernel
theorem dX8_init_78 : decode cX8_init 78 = .ok (.putfield 46, 3) := by decide +kernel
theorem dX8_init_81 : decode cX8_init 81 = .ok (.aload_n 0, 1) := by decide +kernel
theorem dX8_init_82 : decode cX8_init 82 = .ok (.iconst 2, 1) := by decide +kernel
theorem dX8_init_83 : decode cX8_init 83 = .ok (.anewarray 33, 3) := by decide +kernel
theorem dX8_init_86 : decode cX8_init 86 = .ok (.putfield 50, 3) := by decide +kernel
theorem dX8_init_89 : decode cX8_init 89 = .ok (.iconst 0, 1) := by decide +kernel
theorem dX8_init_90 : decode cX8_init 90 = .ok (.istore_n 1, 1) := by decide +kernel
theorem dX8_init_91 : decode cX8_init 91 = .ok (.iload_n 1, 1) := by decide +kernel
theorem dX8_init_92 : decode cX8_init 92 = .ok (.iconst 2, 1) := by decide +kernel
theorem dX8_init_93 : decode cX8_init 93 = .ok (.if_icmp .ge 22, 3) := by decide +kernel
theorem dX8_init_96 : decode cX8_init 96 = .ok (.aload_n 0, 1) := by decide +kernel
theorem dX8_init_97 : decode cX8_init 97 = .ok (.getfield 50, 3) := by decide +kernel
theorem dX8_init_100 : decode cX8_init 100 = .ok (.iload_n 1, 1) := by decide +kernel
theorem dX8_init_101 : decode cX8_init 101 = .ok (.new 33, 3) := by decide +kernel
theorem dX8_init_104 : decode cX8_init 104 = .ok (.dup, 1) := by decide +kernel
theorem dX8_init_105 : decode cX8_init 105 = .ok (.invokespecial 35, 3) := by decide +kernel
theorem dX8_init_108 : decode cX8_init 108 = .ok (.aastore, 1) := by decide +kernel
theorem dX8_init_109 : decode cX8_init 109 = .ok (.iinc 1 1, 3) := by decide +kernel
theorem dX8_init_112 : decode cX8_init 112 = .ok (.goto (-21), 3) := by decide +kernel
theorem dX8_init_115 : decode cX8_init 115 = .ok (.aload_n 0, 1) := by decide +kernel
theorem dX8_init_116 : decode cX8_init 116 = .ok (.iconst 2, 1) := by decide +kernel
theorem dX8_init_117 : decode cX8_init 117 = .ok (.newarray .boolean, 2) := by decide +kernel
theorem dX8_init_119 : decode cX8_init 119 = .ok (.putfield 54, 3) := by decide +kernel
theorem dX8_init_122 : decode cX8_init 122 = .ok (.aload_n 0, 1) := by decide +kernel
theorem dX8_init_123 : decode cX8_init 123 = .ok (.new 58, 3) := by decide +kernel
theorem dX8_init_126 : decode cX8_init 126 = .ok (.dup, 1) := by decide +kernel
theorem dX8_init_127 : decode cX8_init 127 = .ok (.invokespecial 60, 3) := by decide +kernel
theorem dX8_init_130 : decode cX8_init 130 = .ok (.putfield 61, 3) := by decide +kernel
theorem dX8_init_133 : decode cX8_init 133 = .ok (.aload_n 0, 1) := by decide +kernel
theorem dX8_init_134 : decode cX8_init 134 = .ok (.new 65, 3) := by decide +kernel
theorem dX8_init_137 : decode cX8_init 137 = .ok (.dup, 1) := by decide +kernel
theorem dX8_init_138 : decode cX8_init 138 = .ok (.invokespecial 67, 3) := by decide +kernel
theorem dX8_init_141 : decode cX8_init 141 = .ok (.putfield 68, 3) := by decide +kernel
theorem dX8_init_144 : decode cX8_init 144 = .ok (.aload_n 0, 1) := by decide +kernel
theorem dX8_init_145 : decode cX8_init 145 = .ok (.bipush 10, 2) := by decide +kernel
theorem dX8_init_147 : decode cX8_init 147 = .ok (.newarray .long, 2) := by decide +kernel
theorem dX8_init_149 : decode cX8_init 149 = .ok (.putfield 72, 3) := by decide +kernel
theorem dX8_init_152 : decode cX8_init 152 = .ok (.aload_n 0, 1) := by decide +kernel
theorem dX8_init_153 : decode cX8_init 153 = .ok (.new 76, 3) := by decide +kernel
theorem dX8_init_156 : decode cX8_init 156 = .ok (.dup, 1) := by decide +kernel
theorem dX8_init_157 : decode cX8_init 157 = .ok (.invokespecial 78, 3) := by decide +kernel
theorem dX8_init_160 : decode cX8_init 160 = .ok (.putfield 79, 3) := by decide +kernel
theorem dX8_init_163 : decode cX8_init 163 = .ok (.return_, 1) := by decide +kernel
theorem dX8_type_0 : decode cX8_type 0 = .ok (.iload_n 1, 1) := by decide +kernel
theorem dX8_type_1 : decode cX8_type 1 = .ok (.ifCond .lt 10, 3) := by decide +kernel
theorem dX8_type_4 : decode cX8_type 4 = .ok (.iload_n 1, 1) := by decide +kernel
theorem dX8_type_5 : decode cX8_type 5 = .ok (.sipush 255, 3) := by decide +kernel
theorem dX8_type_8 : decode cX8_type 8 = .ok (.if_icmp .le 5, 3) := by decide +kernel
theorem dX8_type_11 : decode cX8_type 11 = .ok (.iconst (-1), 1) := by decide +kernel
theorem dX8_type_12 : decode cX8_type 12 = .ok (.ireturn, 1) := by decide +kernel
theorem dX8_type_13 : decode cX8_type 13 = .ok (.aload_n 0, 1) := by decide +kernel
theorem dX8_type_14 : decode cX8_type 14 = .ok (.getfield 10, 3) := by decide +kernel
theorem dX8_type_17 : decode cX8_type 17 = .ok (.iload_n 1, 1) := by decide +kernel
theorem dX8_type_18 : decode cX8_type 18 = .ok (.invokevirtual 83, 3) := by decide +kernel
theorem dX8_type_21 : decode cX8_type 21 = .ok (.ifCond .eq 13, 3) := by decide +kernel
theorem dX8_type_24 : decode cX8_type 24 = .ok (.aload_n 0, 1) := by decide +kernel
theorem dX8_type_25 : decode cX8_type 25 = .ok (.getfield 10, 3) := by decide +kernel
theorem dX8_type_28 : decode cX8_type 28 = .ok (.getfield 87, 3) := by decide +kernel
theorem dX8_type_31 : decode cX8_type 31 = .ok (.goto 5, 3) := by decide +kernel
theorem dX8_type_34 : decode cX8_type 34 = .ok (.bipush (-3), 2) := by decide +kernel
theorem dX8_type_36 : decode cX8_type 36 = .ok (.ireturn, 1) := by decide +kernel
theorem dX8_clear_0 : decode cX8_clear 0 = .ok (.aload_n 0, 1) := by decide +kernel
theorem dX8_clear_1 : decode cX8_clear 1 = .ok (.getfield 10, 3) := by decide +kernel
theorem dX8_clear_4 : decode cX8_clear 4 = .ok (.getfield 87, 3) := by decide +kernel
theorem dX8_clear_7 : decode cX8_clear 7 = .ok (.istore_n 1, 1) := by decide +kernel
theorem dX8_clear_8 : decode cX8_clear 8 = .ok (.aload_n 0, 1) := by decide +kernel
theorem dX8_clear_9 : decode cX8_clear 9 = .ok (.getfield 10, 3) := by decide +kernel
theorem dX8_clear_12 : decode cX8_clear 12 = .ok (.iconst 0, 1) := by decide +kernel
theorem dX8_clear_13 : decode cX8_clear 13 = .ok (.putfield 87, 3) := by decide +kernel
theorem dX8_clear_16 : decode cX8_clear 16 = .ok (.iload_n 1, 1) := by decide +kernel
theorem dX8_clear_17 : decode cX8_clear 17 = .ok (.ireturn, 1) := by decide +kernel
theorem dX8_cellar_0 : decode cX8_cellar 0 = .ok (.aload_n 0, 1) := by decide +kernel
theorem dX8_cellar_1 : decode cX8_cellar 1 = .ok (.getfield 19, 3) := by decide +kernel
theorem dX8_cellar_4 : decode cX8_cellar 4 = .ok (.aload_n 0, 1) := by decide +kernel
theorem dX8_cellar_5 : decode cX8_cellar 5 = .ok (.getfield 10, 3) := by decide +kernel
theorem dX8_cellar_8 : decode cX8_cellar 8 = .ok (.aload_n 0, 1) := by decide +kernel
theorem dX8_cellar_9 : decode cX8_cellar 9 = .ok (.getfield 30, 3) := by decide +kernel
theorem dX8_cellar_12 : decode cX8_cellar 12 = .ok (.invokevirtual 91, 3) := by decide +kernel
theorem dX8_cellar_15 : decode cX8_cellar 15 = .ok (.istore_n 1, 1) := by decide +kernel
theorem dX8_cellar_16 : decode cX8_cellar 16 = .ok (.iload_n 1, 1) := by decide +kernel
theorem dX8_cellar_17 : decode cX8_cellar 17 = .ok (.ifCond .ge 5, 3) := by decide +kernel
theorem dX8_cellar_20 : decode cX8_cellar 20 = .ok (.iload_n 1, 1) := by decide +kernel
theorem dX8_cellar_21 : decode cX8_cellar 21 = .ok (.ireturn, 1) := by decide +kernel
theorem dX8_cellar_22 : decode cX8_cellar 22 = .ok (.aload_n 0, 1) := by decide +kernel
theorem dX8_cellar_23 : decode cX8_cellar 23 = .ok (.getfield 26, 3) := by decide +kernel
theorem dX8_cellar_26 : decode cX8_cellar 26 = .ok (.aload_n 0, 1) := by decide +kernel
theorem dX8_cellar_27 : decode cX8_cellar 27 = .ok (.getfield 30, 3) := by decide +kernel
theorem dX8_cellar_30 : decode cX8_cellar 30 = .ok (.invokevirtual 95, 3) := by decide +kernel
theorem dX8_cellar_33 : decode cX8_cellar 33 = .ok (.aload_n 0, 1) := by decide +kernel
theorem dX8_cellar_34 : decode cX8_cellar 34 = .ok (.getfield 36, 3) := by decide +kernel
theorem dX8_cellar_37 : decode cX8_cellar 37 = .ok (.aload_n 0, 1) := by decide +kernel
theorem dX8_cellar_38 : decode cX8_cellar 38 = .ok (.getfield 26, 3) := by decide +kernel
theorem dX8_cellar_41 : decode cX8_cellar 41 = .ok (.getfield 99, 3) := by decide +kernel
theorem dX8_cellar_44 : decode cX8_cellar 44 = .ok (.invokevirtual 102, 3) := by decide +kernel
theorem dX8_cellar_47 : decode cX8_cellar 47 = .ok (.aload_n 0, 1) := by decide +kernel
theorem dX8_cellar_48 : decode cX8_cellar 48 = .ok (.getfield 10, 3) := by decide +kernel
theorem dX8_cellar_51 : decode cX8_cellar 51 = .ok (.iconst 0, 1) := by decide +kernel
theorem dX8_cellar_52 : decode cX8_cellar 52 = .ok (.putfield 87, 3) := by decide +kernel
theorem dX8_cellar_55 : decode cX8_cellar 55 = .ok (.aload_n 0, 1) := by decide +kernel
theorem dX8_cellar_56 : decode cX8_cellar 56 = .ok (.getfield 61, 3) := by decide +kernel
theorem dX8_cellar_59 : decode cX8_cellar 59 = .ok (.iconst 0, 1) := by decide +kernel
theorem dX8_cellar_60 : decode cX8_cellar 60 = .ok (.putfield 105, 3) := by decide +kernel
theorem dX8_cellar_63 : decode cX8_cellar 63 = .ok (.aload_n 0, 1) := by decide +kernel
theorem dX8_cellar_64 : decode cX8_cellar 64 = .ok (.getfield 46, 3) := by decide +kernel
theorem dX8_cellar_67 : decode cX8_cellar 67 = .ok (.iconst 0, 1) := by decide +kernel
theorem dX8_cellar_68 : decode cX8_cellar 68 = .ok (.putfield 108, 3) := by decide +kernel
theorem dX8_cellar_71 : decode cX8_cellar 71 = .ok (.iconst 0, 1) := by decide +kernel
theorem dX8_cellar_72 : decode cX8_cellar 72 = .ok (.istore_n 2, 1) := by decide +kernel
theorem dX8_cellar_73 : decode cX8_cellar 73 = .ok (.iload_n 2, 1) := by decide +kernel
theorem dX8_cellar_74 : decode cX8_cellar 74 = .ok (.iconst 2, 1) := by decide +kernel
theorem dX8_cellar_75 : decode cX8_cellar 75 = .ok (.if_icmp .ge 16, 3) := by decide +kernel
theorem dX8_cellar_78 : decode cX8_cellar 78 = .ok (.aload_n 0, 1) := by decide +kernel
theorem dX8_cellar_79 : decode cX8_cellar 79 = .ok (.getfield 54, 3) := by decide +kernel
theorem dX8_cellar_82 : decode cX8_cellar 82 = .ok (.iload_n 2, 1) := by decide +kernel
theorem dX8_cellar_83 : decode cX8_cellar 83 = .ok (.iconst 0, 1) := by decide +kernel
theorem dX8_cellar_84 : decode cX8_cellar 84 = .ok (.bastore, 1) := by decide +kernel
theorem dX8_cellar_85 : decode cX8_cellar 85 = .ok (.iinc 2 1, 3) := by decide +kernel
theorem dX8_cellar_88 : decode cX8_cellar 88 = .ok (.goto (-15), 3) := by decide +kernel
theorem dX8_cellar_91 : decode cX8_cellar 91 = .ok (.iload_n 1, 1) := by decide +kernel
theorem dX8_cellar_92 : decode cX8_cellar 92 = .ok (.ireturn, 1) := by decide +kernel
theorem dX8_broom_0 : decode cX8_broom 0 = .ok (.iload_n 1, 1) := by decide +kernel
theorem dX8_broom_1 : decode cX8_broom 1 = .ok (.ifCond .lt 9, 3) := by decide +kernel
theorem dX8_broom_4 : decode cX8_broom 4 = .ok (.iload_n 1, 1) := by decide +kernel
theorem dX8_broom_5 : decode cX8_broom 5 = .ok (.bipush 8, 2) := by decide +kernel
theorem dX8_broom_7 : decode cX8_broom 7 = .ok (.if_icmp .lt 5, 3) := by decide +kernel
theorem dX8_broom_10 : decode cX8_broom 10 = .ok (.iconst (-1), 1) := by decide +kernel
theorem dX8_broom_11 : decode cX8_broom 11 = .ok (.ireturn, 1) := by decide +kernel
theorem dX8_broom_12 : decode cX8_broom 12 = .ok (.iload_n 2, 1) := by decide +kernel
theorem dX8_broom_13 : decode cX8_broom 13 = .ok (.tableswitch 121 0 6 #[43, 53, 63, 73, 85, 97, 109], 43) := by decide +kernel
theorem dX8_broom_56 : decode cX8_broom 56 = .ok (.aload_n 0, 1) := by decide +kernel
theorem dX8_broom_57 : decode cX8_broom 57 = .ok (.getfield 36, 3) := by decide +kernel
theorem dX8_broom_60 : decode cX8_broom 60 = .ok (.getfield 109, 3) := by decide +kernel
theorem dX8_broom_63 : decode cX8_broom 63 = .ok (.iload_n 1, 1) := by decide +kernel
theorem dX8_broom_64 : decode cX8_broom 64 = .ok (.iaload, 1) := by decide +kernel
theorem dX8_broom_65 : decode cX8_broom 65 = .ok (.ireturn, 1) := by decide +kernel
theorem dX8_broom_66 : decode cX8_broom 66 = .ok (.aload_n 0, 1) := by decide +kernel
theorem dX8_broom_67 : decode cX8_broom 67 = .ok (.getfield 36, 3) := by decide +kernel
theorem dX8_broom_70 : decode cX8_broom 70 = .ok (.getfield 113, 3) := by decide +kernel
theorem dX8_broom_73 : decode cX8_broom 73 = .ok (.iload_n 1, 1) := by decide +kernel
theorem dX8_broom_74 : decode cX8_broom 74 = .ok (.iaload, 1) := by decide +kernel
theorem dX8_broom_75 : decode cX8_broom 75 = .ok (.ireturn, 1) := by decide +kernel
theorem dX8_broom_76 : decode cX8_broom 76 = .ok (.aload_n 0, 1) := by decide +kernel
theorem dX8_broom_77 : decode cX8_broom 77 = .ok (.getfield 36, 3) := by decide +kernel
theorem dX8_broom_80 : decode cX8_broom 80 = .ok (.getfield 116, 3) := by decide +kernel
theorem dX8_broom_83 : decode cX8_broom 83 = .ok (.iload_n 1, 1) := by decide +kernel
theorem dX8_broom_84 : decode cX8_broom 84 = .ok (.iaload, 1) := by decide +kernel
theorem dX8_broom_85 : decode cX8_broom 85 = .ok (.ireturn, 1) := by decide +kernel
theorem dX8_broom_86 : decode cX8_broom 86 = .ok (.aload_n 0, 1) := by decide +kernel
theorem dX8_broom_87 : decode cX8_broom 87 = .ok (.getfield 36, 3) := by decide +kernel
theorem dX8_broom_90 : decode cX8_broom 90 = .ok (.getfield 119, 3) := by decide +kernel
theorem dX8_broom_93 : decode cX8_broom 93 = .ok (.iload_n 1, 1) := by decide +kernel
theorem dX8_broom_94 : decode cX8_broom 94 = .ok (.invokestatic 122, 3) := by decide +kernel
theorem dX8_broom_97 : decode cX8_broom 97 = .ok (.ireturn, 1) := by decide +kernel
theorem dX8_broom_98 : decode cX8_broom 98 = .ok (.aload_n 0, 1) := by decide +kernel
theorem dX8_broom_99 : decode cX8_broom 99 = .ok (.getfield 36, 3) := by decide +kernel
theorem dX8_broom_102 : decode cX8_broom 102 = .ok (.getfield 126, 3) := by decide +kernel
theorem dX8_broom_105 : decode cX8_broom 105 = .ok (.iload_n 1, 1) := by decide +kernel
theorem dX8_broom_106 : decode cX8_broom 106 = .ok (.invokestatic 122, 3) := by decide +kernel
theorem dX8_broom_109 : decode cX8_broom 109 = .ok (.ireturn, 1) := by decide +kernel
theorem dX8_broom_110 : decode cX8_broom 110 = .ok (.aload_n 0, 1) := by decide +kernel
theorem dX8_broom_111 : decode cX8_broom 111 = .ok (.getfield 36, 3) := by decide +kernel
theorem dX8_broom_114 : decode cX8_broom 114 = .ok (.getfield 129, 3) := by decide +kernel
theorem dX8_broom_117 : decode cX8_broom 117 = .ok (.iload_n 1, 1) := by decide +kernel
theorem dX8_broom_118 : decode cX8_broom 118 = .ok (.invokestatic 122, 3) := by decide +kernel
theorem dX8_broom_121 : decode cX8_broom 121 = .ok (.ireturn, 1) := by decide +kernel
theorem dX8_broom_122 : decode cX8_broom 122 = .ok (.aload_n 0, 1) := by decide +kernel
theorem dX8_broom_123 : decode cX8_broom 123 = .ok (.getfield 36, 3) := by decide +kernel
theorem dX8_broom_126 : decode cX8_broom 126 = .ok (.getfield 132, 3) := by decide +kernel
theorem dX8_broom_129 : decode cX8_broom 129 = .ok (.iload_n 1, 1) := by decide +kernel
theorem dX8_broom_130 : decode cX8_broom 130 = .ok (.invokestatic 122, 3) := by decide +kernel
theorem dX8_broom_133 : decode cX8_broom 133 = .ok (.ireturn, 1) := by decide +kernel
theorem dX8_broom_134 : decode cX8_broom 134 = .ok (.iconst (-1), 1) := by decide +kernel
theorem dX8_broom_135 : decode cX8_broom 135 = .ok (.ireturn, 1) := by decide +kernel
theorem dX8_now_0 : decode cX8_now 0 = .ok (.iload_n 1, 1) := by decide +kernel
theorem dX8_now_1 : decode cX8_now 1 = .ok (.tableswitch 94 0 5 #[39, 47, 55, 70, 78, 86], 39) := by decide +kernel
theorem dX8_now_40 : decode cX8_now 40 = .ok (.aload_n 0, 1) := by decide +kernel
theorem dX8_now_41 : decode cX8_now 41 = .ok (.getfield 36, 3) := by decide +kernel
theorem dX8_now_44 : decode cX8_now 44 = .ok (.getfield 135, 3) := by decide +kernel
theorem dX8_now_47 : decode cX8_now 47 = .ok (.ireturn, 1) := by decide +kernel
theorem dX8_now_48 : decode cX8_now 48 = .ok (.aload_n 0, 1) := by decide +kernel
theorem dX8_now_49 : decode cX8_now 49 = .ok (.getfield 36, 3) := by decide +kernel
theorem dX8_now_52 : decode cX8_now 52 = .ok (.getfield 138, 3) := by decide +kernel
theorem dX8_now_55 : decode cX8_now 55 = .ok (.ireturn, 1) := by decide +kernel
theorem dX8_now_56 : decode cX8_now 56 = .ok (.aload_n 0, 1) := by decide +kernel
theorem dX8_now_57 : decode cX8_now 57 = .ok (.getfield 26, 3) := by decide +kernel
theorem dX8_now_60 : decode cX8_now 60 = .ok (.aload_n 0, 1) := by decide +kernel
theorem dX8_now_61 : decode cX8_now 61 = .ok (.getfield 36, 3) := by decide +kernel
theorem dX8_now_64 : decode cX8_now 64 = .ok (.getfield 138, 3) := by decide +kernel
theorem dX8_now_67 : decode cX8_now 67 = .ok (.invokevirtual 141, 3) := by decide +kernel
theorem dX8_now_70 : decode cX8_now 70 = .ok (.ireturn, 1) := by decide +kernel
theorem dX8_now_71 : decode cX8_now 71 = .ok (.aload_n 0, 1) := by decide +kernel
theorem dX8_now_72 : decode cX8_now 72 = .ok (.getfield 36, 3) := by decide +kernel
theorem dX8_now_75 : decode cX8_now 75 = .ok (.getfield 145, 3) := by decide +kernel
theorem dX8_now_78 : decode cX8_now 78 = .ok (.ireturn, 1) := by decide +kernel
theorem dX8_now_79 : decode cX8_now 79 = .ok (.aload_n 0, 1) := by decide +kernel
theorem dX8_now_80 : decode cX8_now 80 = .ok (.getfield 36, 3) := by decide +kernel
theorem dX8_now_83 : decode cX8_now 83 = .ok (.getfield 132, 3) := by decide +kernel
theorem dX8_now_86 : decode cX8_now 86 = .ok (.ireturn, 1) := by decide +kernel
theorem dX8_now_87 : decode cX8_now 87 = .ok (.aload_n 0, 1) := by decide +kernel
theorem dX8_now_88 : decode cX8_now 88 = .ok (.getfield 46, 3) := by decide +kernel
theorem dX8_now_91 : decode cX8_now 91 = .ok (.getfield 108, 3) := by decide +kernel
theorem dX8_now_94 : decode cX8_now 94 = .ok (.ireturn, 1) := by decide +kernel
theorem dX8_now_95 : decode cX8_now 95 = .ok (.iconst (-1), 1) := by decide +kernel
theorem dX8_now_96 : decode cX8_now 96 = .ok (.ireturn, 1) := by decide +kernel
theorem dX8_minute_0 : decode cX8_minute 0 = .ok (.aload_n 0, 1) := by decide +kernel
theorem dX8_minute_1 : decode cX8_minute 1 = .ok (.getfield 36, 3) := by decide +kernel
theorem dX8_minute_4 : decode cX8_minute 4 = .ok (.getfield 135, 3) := by decide +kernel
theorem dX8_minute_7 : decode cX8_minute 7 = .ok (.sipush 9999, 3) := by decide +kernel
theorem dX8_minute_10 : decode cX8_minute 10 = .ok (.if_icmp .lt 6, 3) := by decide +kernel
theorem dX8_minute_13 : decode cX8_minute 13 = .ok (.bipush (-2), 2) := by decide +kernel
theorem dX8_minute_15 : decode cX8_minute 15 = .ok (.ireturn, 1) := by decide +kernel
theorem dX8_minute_16 : decode cX8_minute 16 = .ok (.aload_n 0, 1) := by decide +kernel
theorem dX8_minute_17 : decode cX8_minute 17 = .ok (.getfield 46, 3) := by decide +kernel
theorem dX8_minute_20 : decode cX8_minute 20 = .ok (.aload_n 0, 1) := by decide +kernel
theorem dX8_minute_21 : decode cX8_minute 21 = .ok (.getfield 36, 3) := by decide +kernel
theorem dX8_minute_24 : decode cX8_minute 24 = .ok (.invokevirtual 148, 3) := by decide +kernel
theorem dX8_minute_27 : decode cX8_minute 27 = .ok (.aload_n 0, 1) := by decide +kernel
theorem dX8_minute_28 : decode cX8_minute 28 = .ok (.getfield 36, 3) := by decide +kernel
theorem dX8_minute_31 : decode cX8_minute 31 = .ok (.aload_n 0, 1) := by decide +kernel
theorem dX8_minute_32 : decode cX8_minute 32 = .ok (.getfield 26, 3) := by decide +kernel
theorem dX8_minute_35 : decode cX8_minute 35 = .ok (.invokevirtual 151, 3) := by decide +kernel
theorem dX8_minute_38 : decode cX8_minute 38 = .ok (.aload_n 0, 1) := by decide +kernel
theorem dX8_minute_39 : decode cX8_minute 39 = .ok (.getfield 26, 3) := by decide +kernel
theorem dX8_minute_42 : decode cX8_minute 42 = .ok (.invokevirtual 155, 3) := by decide +kernel
theorem dX8_minute_45 : decode cX8_minute 45 = .ok (.invokevirtual 158, 3) := by decide +kernel
theorem dX8_minute_48 : decode cX8_minute 48 = .ok (.aload_n 0, 1) := by decide +kernel
theorem dX8_minute_49 : decode cX8_minute 49 = .ok (.getfield 26, 3) := by decide +kernel
theorem dX8_minute_52 : decode cX8_minute 52 = .ok (.aload_n 0, 1) := by decide +kernel
theorem dX8_minute_53 : decode cX8_minute 53 = .ok (.getfield 36, 3) := by decide +kernel
theorem dX8_minute_56 : decode cX8_minute 56 = .ok (.getfield 138, 3) := by decide +kernel
theorem dX8_minute_59 : decode cX8_minute 59 = .ok (.invokevirtual 141, 3) := by decide +kernel
theorem dX8_minute_62 : decode cX8_minute 62 = .ok (.istore_n 1, 1) := by decide +kernel
theorem dX8_minute_63 : decode cX8_minute 63 = .ok (.aload_n 0, 1) := by decide +kernel
theorem dX8_minute_64 : decode cX8_minute 64 = .ok (.getfield 36, 3) := by decide +kernel
theorem dX8_minute_67 : decode cX8_minute 67 = .ok (.aload_n 0, 1) := by decide +kernel
theorem dX8_minute_68 : decode cX8_minute 68 = .ok (.getfield 36, 3) := by decide +kernel
theorem dX8_minute_71 : decode cX8_minute 71 = .ok (.getfield 145, 3) := by decide +kernel
theorem dX8_minute_74 : decode cX8_minute 74 = .ok (.iload_n 1, 1) := by decide +kernel
theorem dX8_minute_75 : decode cX8_minute 75 = .ok (.invokestatic 162, 3) := by decide +kernel
theorem dX8_minute_78 : decode cX8_minute 78 = .ok (.putfield 145, 3) := by decide +kernel
theorem dX8_minute_81 : decode cX8_minute 81 = .ok (.iload_n 1, 1) := by decide +kernel
theorem dX8_minute_82 : decode cX8_minute 82 = .ok (.ireturn, 1) := by decide +kernel
theorem dX8_splits_0 : decode cX8_splits 0 = .ok (.aload_n 0, 1) := by decide +kernel
theorem dX8_splits_1 : decode cX8_splits 1 = .ok (.getfield 36, 3) := by decide +kernel
theorem dX8_splits_4 : decode cX8_splits 4 = .ok (.iload_n 1, 1) := by decide +kernel
theorem dX8_splits_5 : decode cX8_splits 5 = .ok (.invokevirtual 167, 3) := by decide +kernel
theorem dX8_splits_8 : decode cX8_splits 8 = .ok (.ifCond .ne 5, 3) := by decide +kernel
theorem dX8_splits_11 : decode cX8_splits 11 = .ok (.iconst (-1), 1) := by decide +kernel
theorem dX8_splits_12 : decode cX8_splits 12 = .ok (.ireturn, 1) := by decide +kernel
theorem dX8_splits_13 : decode cX8_splits 13 = .ok (.aload_n 0, 1) := by decide +kernel
theorem dX8_splits_14 : decode cX8_splits 14 = .ok (.getfield 36, 3) := by decide +kernel
theorem dX8_splits_17 : decode cX8_splits 17 = .ok (.iload_n 1, 1) := by decide +kernel
theorem dX8_splits_18 : decode cX8_splits 18 = .ok (.invokevirtual 170, 3) := by decide +kernel
theorem dX8_splits_21 : decode cX8_splits 21 = .ok (.ifCond .ne 6, 3) := by decide +kernel
theorem dX8_splits_24 : decode cX8_splits 24 = .ok (.bipush (-3), 2) := by decide +kernel
theorem dX8_splits_26 : decode cX8_splits 26 = .ok (.ireturn, 1) := by decide +kernel
theorem dX8_splits_27 : decode cX8_splits 27 = .ok (.aload_n 0, 1) := by decide +kernel
theorem dX8_splits_28 : decode cX8_splits 28 = .ok (.getfield 46, 3) := by decide +kernel
theorem dX8_splits_31 : decode cX8_splits 31 = .ok (.aload_n 0, 1) := by decide +kernel
theorem dX8_splits_32 : decode cX8_splits 32 = .ok (.getfield 36, 3) := by decide +kernel
theorem dX8_splits_35 : decode cX8_splits 35 = .ok (.invokevirtual 148, 3) := by decide +kernel
theorem dX8_splits_38 : decode cX8_splits 38 = .ok (.aload_n 0, 1) := by decide +kernel
theorem dX8_splits_39 : decode cX8_splits 39 = .ok (.getfield 36, 3) := by decide +kernel
theorem dX8_splits_42 : decode cX8_splits 42 = .ok (.iload_n 1, 1) := by decide +kernel
theorem dX8_splits_43 : decode cX8_splits 43 = .ok (.invokevirtual 173, 3) := by decide +kernel
theorem dX8_splits_46 : decode cX8_splits 46 = .ok (.ireturn, 1) := by decide +kernel
theorem dX8_teaches_0 : decode cX8_teaches 0 = .ok (.aload_n 0, 1) := by decide +kernel
theorem dX8_teaches_1 : decode cX8_teaches 1 = .ok (.getfield 36, 3) := by decide +kernel
theorem dX8_teaches_4 : decode cX8_teaches 4 = .ok (.iload_n 1, 1) := by decide +kernel
theorem dX8_teaches_5 : decode cX8_teaches 5 = .ok (.invokevirtual 167, 3) := by decide +kernel
theorem dX8_teaches_8 : decode cX8_teaches 8 = .ok (.ifCond .ne 5, 3) := by decide +kernel
theorem dX8_teaches_11 : decode cX8_teaches 11 = .ok (.iconst (-1), 1) := by decide +kernel
theorem dX8_teaches_12 : decode cX8_teaches 12 = .ok (.ireturn, 1) := by decide +kernel
theorem dX8_teaches_13 : decode cX8_teaches 13 = .ok (.aload_n 0, 1) := by decide +kernel
theorem dX8_teaches_14 : decode cX8_teaches 14 = .ok (.getfield 46, 3) := by decide +kernel
theorem dX8_teaches_17 : decode cX8_teaches 17 = .ok (.aload_n 0, 1) := by decide +kernel
theorem dX8_teaches_18 : decode cX8_teaches 18 = .ok (.getfield 36, 3) := by decide +kernel
theorem dX8_teaches_21 : decode cX8_teaches 21 = .ok (.invokevirtual 148, 3) := by decide +kernel
theorem dX8_teaches_24 : decode cX8_teaches 24 = .ok (.aload_n 0, 1) := by decide +kernel
theorem dX8_teaches_25 : decode cX8_teaches 25 = .ok (.getfield 36, 3) := by decide +kernel
theorem dX8_teaches_28 : decode cX8_teaches 28 = .ok (.dup, 1) := by decide +kernel
theorem dX8_teaches_29 : decode cX8_teaches 29 = .ok (.getfield 119, 3) := by decide +kernel
theorem dX8_teaches_32 : decode cX8_teaches 32 = .ok (.iconst 1, 1) := by decide +kernel
theorem dX8_teaches_33 : decode cX8_teaches 33 = .ok (.iload_n 1, 1) := by decide +kernel
theorem dX8_teaches_34 : decode cX8_teaches 34 = .ok (.ishl, 1) := by decide +kernel
theorem dX8_teaches_35 : decode cX8_teaches 35 = .ok (.ixor, 1) := by decide +kernel
theorem dX8_teaches_36 : decode cX8_teaches 36 = .ok (.putfield 119, 3) := by decide +kernel
theorem dX8_teaches_39 : decode cX8_teaches 39 = .ok (.aload_n 0, 1) := by decide +kernel
theorem dX8_teaches_40 : decode cX8_teaches 40 = .ok (.getfield 36, 3) := by decide +kernel
theorem dX8_teaches_43 : decode cX8_teaches 43 = .ok (.getfield 119, 3) := by decide +kernel
theorem dX8_teaches_46 : decode cX8_teaches 46 = .ok (.iload_n 1, 1) := by decide +kernel
theorem dX8_teaches_47 : decode cX8_teaches 47 = .ok (.invokestatic 122, 3) := by decide +kernel
theorem dX8_teaches_50 : decode cX8_teaches 50 = .ok (.ireturn, 1) := by decide +kernel
theorem dX8_bores_0 : decode cX8_bores 0 = .ok (.aload_n 0, 1) := by decide +kernel
theorem dX8_bores_1 : decode cX8_bores 1 = .ok (.getfield 36, 3) := by decide +kernel
theorem dX8_bores_4 : decode cX8_bores 4 = .ok (.iload_n 1, 1) := by decide +kernel
theorem dX8_bores_5 : decode cX8_bores 5 = .ok (.invokevirtual 167, 3) := by decide +kernel
theorem dX8_bores_8 : decode cX8_bores 8 = .ok (.ifCond .ne 5, 3) := by decide +kernel
theorem dX8_bores_11 : decode cX8_bores 11 = .ok (.iconst (-1), 1) := by decide +kernel
theorem dX8_bores_12 : decode cX8_bores 12 = .ok (.ireturn, 1) := by decide +kernel
theorem dX8_bores_13 : decode cX8_bores 13 = .ok (.aload_n 0, 1) := by decide +kernel
theorem dX8_bores_14 : decode cX8_bores 14 = .ok (.getfield 36, 3) := by decide +kernel
theorem dX8_bores_17 : decode cX8_bores 17 = .ok (.getfield 126, 3) := by decide +kernel
theorem dX8_bores_20 : decode cX8_bores 20 = .ok (.iload_n 1, 1) := by decide +kernel
theorem dX8_bores_21 : decode cX8_bores 21 = .ok (.invokestatic 122, 3) := by decide +kernel
theorem dX8_bores_24 : decode cX8_bores 24 = .ok (.iconst 1, 1) := by decide +kernel
theorem dX8_bores_25 : decode cX8_bores 25 = .ok (.if_icmp .ne 6, 3) := by decide +kernel
theorem dX8_bores_28 : decode cX8_bores 28 = .ok (.bipush (-2), 2) := by decide +kernel
theorem dX8_bores_30 : decode cX8_bores 30 = .ok (.ireturn, 1) := by decide +kernel
theorem dX8_bores_31 : decode cX8_bores 31 = .ok (.aload_n 0, 1) := by decide +kernel
theorem dX8_bores_32 : decode cX8_bores 32 = .ok (.getfield 46, 3) := by decide +kernel
theorem dX8_bores_35 : decode cX8_bores 35 = .ok (.aload_n 0, 1) := by decide +kernel
theorem dX8_bores_36 : decode cX8_bores 36 = .ok (.getfield 36, 3) := by decide +kernel
theorem dX8_bores_39 : decode cX8_bores 39 = .ok (.invokevirtual 148, 3) := by decide +kernel
theorem dX8_bores_42 : decode cX8_bores 42 = .ok (.aload_n 0, 1) := by decide +kernel
theorem dX8_bores_43 : decode cX8_bores 43 = .ok (.getfield 36, 3) := by decide +kernel
theorem dX8_bores_46 : decode cX8_bores 46 = .ok (.dup, 1) := by decide +kernel
theorem dX8_bores_47 : decode cX8_bores 47 = .ok (.getfield 126, 3) := by decide +kernel
theorem dX8_bores_50 : decode cX8_bores 50 = .ok (.iconst 1, 1) := by decide +kernel
theorem dX8_bores_51 : decode cX8_bores 51 = .ok (.iload_n 1, 1) := by decide +kernel
theorem dX8_bores_52 : decode cX8_bores 52 = .ok (.ishl, 1) := by decide +kernel
theorem dX8_bores_53 : decode cX8_bores 53 = .ok (.ior, 1) := by decide +kernel
theorem dX8_bores_54 : decode cX8_bores 54 = .ok (.putfield 126, 3) := by decide +kernel
theorem dX8_bores_57 : decode cX8_bores 57 = .ok (.aload_n 0, 1) := by decide +kernel
theorem dX8_bores_58 : decode cX8_bores 58 = .ok (.getfield 36, 3) := by decide +kernel
theorem dX8_bores_61 : decode cX8_bores 61 = .ok (.getfield 109, 3) := by decide +kernel
theorem dX8_bores_64 : decode cX8_bores 64 = .ok (.iload_n 1, 1) := by decide +kernel
theorem dX8_bores_65 : decode cX8_bores 65 = .ok (.iaload, 1) := by decide +kernel
theorem dX8_bores_66 : decode cX8_bores 66 = .ok (.ireturn, 1) := by decide +kernel
theorem dX8_burns_0 : decode cX8_burns 0 = .ok (.aload_n 0, 1) := by decide +kernel
theorem dX8_burns_1 : decode cX8_burns 1 = .ok (.getfield 36, 3) := by decide +kernel
theorem dX8_burns_4 : decode cX8_burns 4 = .ok (.iload_n 1, 1) := by decide +kernel
theorem dX8_burns_5 : decode cX8_burns 5 = .ok (.invokevirtual 167, 3) := by decide +kernel
theorem dX8_burns_8 : decode cX8_burns 8 = .ok (.ifCond .ne 5, 3) := by decide +kernel
theorem dX8_burns_11 : decode cX8_burns 11 = .ok (.iconst (-1), 1) := by decide +kernel
theorem dX8_burns_12 : decode cX8_burns 12 = .ok (.ireturn, 1) := by decide +kernel
theorem dX8_burns_13 : decode cX8_burns 13 = .ok (.aload_n 0, 1) := by decide +kernel
theorem dX8_burns_14 : decode cX8_burns 14 = .ok (.getfield 36, 3) := by decide +kernel
theorem dX8_burns_17 : decode cX8_burns 17 = .ok (.getfield 129, 3) := by decide +kernel
theorem dX8_burns_20 : decode cX8_burns 20 = .ok (.iload_n 1, 1) := by decide +kernel
theorem dX8_burns_21 : decode cX8_burns 21 = .ok (.invokestatic 122, 3) := by decide +kernel
theorem dX8_burns_24 : decode cX8_burns 24 = .ok (.iconst 1, 1) := by decide +kernel
theorem dX8_burns_25 : decode cX8_burns 25 = .ok (.if_icmp .ne 6, 3) := by decide +kernel
theorem dX8_burns_28 : decode cX8_burns 28 = .ok (.bipush (-2), 2) := by decide +kernel
theorem dX8_burns_30 : decode cX8_burns 30 = .ok (.ireturn, 1) := by decide +kernel
theorem dX8_burns_31 : decode cX8_burns 31 = .ok (.aload_n 0, 1) := by decide +kernel
theorem dX8_burns_32 : decode cX8_burns 32 = .ok (.iload_n 1, 1) := by decide +kernel
theorem dX8_burns_33 : decode cX8_burns 33 = .ok (.invokevirtual 176, 3) := by decide +kernel
theorem dX8_burns_36 : decode cX8_burns 36 = .ok (.ireturn, 1) := by decide +kernel
theorem dX8_halts_0 : decode cX8_halts 0 = .ok (.aload_n 0, 1) := by decide +kernel
theorem dX8_halts_1 : decode cX8_halts 1 = .ok (.getfield 36, 3) := by decide +kernel
theorem dX8_halts_4 : decode cX8_halts 4 = .ok (.iload_n 1, 1) := by decide +kernel
theorem dX8_halts_5 : decode cX8_halts 5 = .ok (.invokevirtual 167, 3) := by decide +kernel
theorem dX8_halts_8 : decode cX8_halts 8 = .ok (.ifCond .ne 5, 3) := by decide +kernel
theorem dX8_halts_11 : decode cX8_halts 11 = .ok (.iconst (-1), 1) := by decide +kernel
theorem dX8_halts_12 : decode cX8_halts 12 = .ok (.ireturn, 1) := by decide +kernel
theorem dX8_halts_13 : decode cX8_halts 13 = .ok (.aload_n 0, 1) := by decide +kernel
theorem dX8_halts_14 : decode cX8_halts 14 = .ok (.iload_n 1, 1) := by decide +kernel
theorem dX8_halts_15 : decode cX8_halts 15 = .ok (.invokevirtual 176, 3) := by decide +kernel
theorem dX8_halts_18 : decode cX8_halts 18 = .ok (.ireturn, 1) := by decide +kernel
theorem dX8_undo_0 : decode cX8_undo 0 = .ok (.aload_n 0, 1) := by decide +kernel
theorem dX8_undo_1 : decode cX8_undo 1 = .ok (.getfield 46, 3) := by decide +kernel
theorem dX8_undo_4 : decode cX8_undo 4 = .ok (.getfield 108, 3) := by decide +kernel
theorem dX8_undo_7 : decode cX8_undo 7 = .ok (.ifCond .ne 6, 3) := by decide +kernel
theorem dX8_undo_10 : decode cX8_undo 10 = .ok (.bipush (-2), 2) := by decide +kernel
theorem dX8_undo_12 : decode cX8_undo 12 = .ok (.ireturn, 1) := by decide +kernel
theorem dX8_undo_13 : decode cX8_undo 13 = .ok (.aload_n 0, 1) := by decide +kernel
theorem dX8_undo_14 : decode cX8_undo 14 = .ok (.getfield 46, 3) := by decide +kernel
theorem dX8_undo_17 : decode cX8_undo 17 = .ok (.aload_n 0, 1) := by decide +kernel
theorem dX8_undo_18 : decode cX8_undo 18 = .ok (.getfield 36, 3) := by decide +kernel
theorem dX8_undo_21 : decode cX8_undo 21 = .ok (.invokevirtual 179, 3) := by decide +kernel
theorem dX8_undo_24 : decode cX8_undo 24 = .ok (.aload_n 0, 1) := by decide +kernel
theorem dX8_undo_25 : decode cX8_undo 25 = .ok (.getfield 46, 3) := by decide +kernel
theorem dX8_undo_28 : decode cX8_undo 28 = .ok (.getfield 108, 3) := by decide +kernel
theorem dX8_undo_31 : decode cX8_undo 31 = .ok (.ireturn, 1) := by decide +kernel
theorem dX8_takeAway_0 : decode cX8_takeAway 0 = .ok (.aload_n 0, 1) := by decide +kernel
theorem dX8_takeAway_1 : decode cX8_takeAway 1 = .ok (.getfield 46, 3) := by decide +kernel
theorem dX8_takeAway_4 : decode cX8_takeAway 4 = .ok (.aload_n 0, 1) := by decide +kernel
theorem dX8_takeAway_5 : decode cX8_takeAway 5 = .ok (.getfield 36, 3) := by decide +kernel
theorem dX8_takeAway_8 : decode cX8_takeAway 8 = .ok (.invokevirtual 148, 3) := by decide +kernel
theorem dX8_takeAway_11 : decode cX8_takeAway 11 = .ok (.aload_n 0, 1) := by decide +kernel
theorem dX8_takeAway_12 : decode cX8_takeAway 12 = .ok (.getfield 36, 3) := by decide +kernel
theorem dX8_takeAway_15 : decode cX8_takeAway 15 = .ok (.dup, 1) := by decide +kernel
theorem dX8_takeAway_16 : decode cX8_takeAway 16 = .ok (.getfield 132, 3) := by decide +kernel
theorem dX8_takeAway_19 : decode cX8_takeAway 19 = .ok (.iconst 1, 1) := by decide +kernel
theorem dX8_takeAway_20 : decode cX8_takeAway 20 = .ok (.iload_n 1, 1) := by decide +kernel
theorem dX8_takeAway_21 : decode cX8_takeAway 21 = .ok (.ishl, 1) := by decide +kernel
theorem dX8_takeAway_22 : decode cX8_takeAway 22 = .ok (.iconst (-1), 1) := by decide +kernel
theorem dX8_takeAway_23 : decode cX8_takeAway 23 = .ok (.ixor, 1) := by decide +kernel
theorem dX8_takeAway_24 : decode cX8_takeAway 24 = .ok (.iand, 1) := by decide +kernel
theorem dX8_takeAway_25 : decode cX8_takeAway 25 = .ok (.putfield 132, 3) := by decide +kernel
theorem dX8_takeAway_28 : decode cX8_takeAway 28 = .ok (.aload_n 0, 1) := by decide +kernel
theorem dX8_takeAway_29 : decode cX8_takeAway 29 = .ok (.getfield 36, 3) := by decide +kernel
theorem dX8_takeAway_32 : decode cX8_takeAway 32 = .ok (.getfield 132, 3) := by decide +kernel
theorem dX8_takeAway_35 : decode cX8_takeAway 35 = .ok (.invokestatic 182, 3) := by decide +kernel
theorem dX8_takeAway_38 : decode cX8_takeAway 38 = .ok (.ireturn, 1) := by decide +kernel
theorem dX8_stands_0 : decode cX8_stands 0 = .ok (.iload_n 1, 1) := by decide +kernel
theorem dX8_stands_1 : decode cX8_stands 1 = .ok (.ifCond .lt 10, 3) := by decide +kernel
theorem dX8_stands_4 : decode cX8_stands 4 = .ok (.iload_n 1, 1) := by decide +kernel
theorem dX8_stands_5 : decode cX8_stands 5 = .ok (.sipush 200, 3) := by decide +kernel
theorem dX8_stands_8 : decode cX8_stands 8 = .ok (.if_icmp .le 5, 3) := by decide +kernel
theorem dX8_stands_11 : decode cX8_stands 11 = .ok (.iconst (-1), 1) := by decide +kernel
theorem dX8_stands_12 : decode cX8_stands 12 = .ok (.ireturn, 1) := by decide +kernel
theorem dX8_stands_13 : decode cX8_stands 13 = .ok (.aload_n 0, 1) := by decide +kernel
theorem dX8_stands_14 : decode cX8_stands 14 = .ok (.invokevirtual 187, 3) := by decide +kernel
theorem dX8_stands_17 : decode cX8_stands 17 = .ok (.iconst 0, 1) := by decide +kernel
theorem dX8_stands_18 : decode cX8_stands 18 = .ok (.istore_n 2, 1) := by decide +kernel
theorem dX8_stands_19 : decode cX8_stands 19 = .ok (.iload_n 2, 1) := by decide +kernel
theorem dX8_stands_20 : decode cX8_stands 20 = .ok (.iload_n 1, 1) := by decide +kernel
theorem dX8_stands_21 : decode cX8_stands 21 = .ok (.if_icmp .ge 30, 3) := by decide +kernel
theorem dX8_stands_24 : decode cX8_stands 24 = .ok (.aload_n 0, 1) := by decide +kernel
theorem dX8_stands_25 : decode cX8_stands 25 = .ok (.getfield 40, 3) := by decide +kernel
theorem dX8_stands_28 : decode cX8_stands 28 = .ok (.aload_n 0, 1) := by decide +kernel
theorem dX8_stands_29 : decode cX8_stands 29 = .ok (.getfield 26, 3) := by decide +kernel
theorem dX8_stands_32 : decode cX8_stands 32 = .ok (.invokevirtual 151, 3) := by decide +kernel
theorem dX8_stands_35 : decode cX8_stands 35 = .ok (.aload_n 0, 1) := by decide +kernel
theorem dX8_stands_36 : decode cX8_stands 36 = .ok (.getfield 26, 3) := by decide +kernel
theorem dX8_stands_39 : decode cX8_stands 39 = .ok (.invokevirtual 155, 3) := by decide +kernel
theorem dX8_stands_42 : decode cX8_stands 42 = .ok (.invokevirtual 158, 3) := by decide +kernel
theorem dX8_stands_45 : decode cX8_stands 45 = .ok (.iinc 2 1, 3) := by decide +kernel
theorem dX8_stands_48 : decode cX8_stands 48 = .ok (.goto (-29), 3) := by decide +kernel
theorem dX8_stands_51 : decode cX8_stands 51 = .ok (.aload_n 0, 1) := by decide +kernel
theorem dX8_stands_52 : decode cX8_stands 52 = .ok (.getfield 26, 3) := by decide +kernel
theorem dX8_stands_55 : decode cX8_stands 55 = .ok (.aload_n 0, 1) := by decide +kernel
theorem dX8_stands_56 : decode cX8_stands 56 = .ok (.getfield 40, 3) := by decide +kernel
theorem dX8_stands_59 : decode cX8_stands 59 = .ok (.getfield 138, 3) := by decide +kernel
theorem dX8_stands_62 : decode cX8_stands 62 = .ok (.invokevirtual 141, 3) := by decide +kernel
theorem dX8_stands_65 : decode cX8_stands 65 = .ok (.ireturn, 1) := by decide +kernel
theorem dX8_above_0 : decode cX8_above 0 = .ok (.aload_n 0, 1) := by decide +kernel
theorem dX8_above_1 : decode cX8_above 1 = .ok (.invokevirtual 187, 3) := by decide +kernel
theorem dX8_above_4 : decode cX8_above 4 = .ok (.iconst 0, 1) := by decide +kernel
theorem dX8_above_5 : decode cX8_above 5 = .ok (.istore_n 1, 1) := by decide +kernel
theorem dX8_above_6 : decode cX8_above 6 = .ok (.iload_n 1, 1) := by decide +kernel
theorem dX8_above_7 : decode cX8_above 7 = .ok (.sipush 200, 3) := by decide +kernel
theorem dX8_above_10 : decode cX8_above 10 = .ok (.if_icmp .gt 49, 3) := by decide +kernel
theorem dX8_above_13 : decode cX8_above 13 = .ok (.aload_n 0, 1) := by decide +kernel
theorem dX8_above_14 : decode cX8_above 14 = .ok (.getfield 26, 3) := by decide +kernel
theorem dX8_above_17 : decode cX8_above 17 = .ok (.aload_n 0, 1) := by decide +kernel
theorem dX8_above_18 : decode cX8_above 18 = .ok (.getfield 40, 3) := by decide +kernel
theorem dX8_above_21 : decode cX8_above 21 = .ok (.getfield 138, 3) := by decide +kernel
theorem dX8_above_24 : decode cX8_above 24 = .ok (.invokevirtual 190, 3) := by decide +kernel
theorem dX8_above_27 : decode cX8_above 27 = .ok (.ifCond .eq 5, 3) := by decide +kernel
theorem dX8_above_30 : decode cX8_above 30 = .ok (.iload_n 1, 1) := by decide +kernel
theorem dX8_above_31 : decode cX8_above 31 = .ok (.ireturn, 1) := by decide +kernel
theorem dX8_above_32 : decode cX8_above 32 = .ok (.aload_n 0, 1) := by decide +kernel
theorem dX8_above_33 : decode cX8_above 33 = .ok (.getfield 40, 3) := by decide +kernel
theorem dX8_above_36 : decode cX8_above 36 = .ok (.aload_n 0, 1) := by decide +kernel
theorem dX8_above_37 : decode cX8_above 37 = .ok (.getfield 26, 3) := by decide +kernel
theorem dX8_above_40 : decode cX8_above 40 = .ok (.invokevirtual 151, 3) := by decide +kernel
theorem dX8_above_43 : decode cX8_above 43 = .ok (.aload_n 0, 1) := by decide +kernel
theorem dX8_above_44 : decode cX8_above 44 = .ok (.getfield 26, 3) := by decide +kernel
theorem dX8_above_47 : decode cX8_above 47 = .ok (.invokevirtual 155, 3) := by decide +kernel
theorem dX8_above_50 : decode cX8_above 50 = .ok (.invokevirtual 158, 3) := by decide +kernel
theorem dX8_above_53 : decode cX8_above 53 = .ok (.iinc 1 1, 3) := by decide +kernel
theorem dX8_above_56 : decode cX8_above 56 = .ok (.goto (-50), 3) := by decide +kernel
theorem dX8_above_59 : decode cX8_above 59 = .ok (.bipush (-9), 2) := by decide +kernel
theorem dX8_above_61 : decode cX8_above 61 = .ok (.ireturn, 1) := by decide +kernel
theorem dX8_most_0 : decode cX8_most 0 = .ok (.iload_n 1, 1) := by decide +kernel
theorem dX8_most_1 : decode cX8_most 1 = .ok (.ifCond .lt 10, 3) := by decide +kernel
theorem dX8_most_4 : decode cX8_most 4 = .ok (.iload_n 1, 1) := by decide +kernel
theorem dX8_most_5 : decode cX8_most 5 = .ok (.sipush 200, 3) := by decide +kernel
theorem dX8_most_8 : decode cX8_most 8 = .ok (.if_icmp .le 5, 3) := by decide +kernel
theorem dX8_most_11 : decode cX8_most 11 = .ok (.iconst (-1), 1) := by decide +kernel
theorem dX8_most_12 : decode cX8_most 12 = .ok (.ireturn, 1) := by decide +kernel
theorem dX8_most_13 : decode cX8_most 13 = .ok (.aload_n 0, 1) := by decide +kernel
theorem dX8_most_14 : decode cX8_most 14 = .ok (.invokevirtual 187, 3) := by decide +kernel
theorem dX8_most_17 : decode cX8_most 17 = .ok (.aload_n 0, 1) := by decide +kernel
theorem dX8_most_18 : decode cX8_most 18 = .ok (.getfield 26, 3) := by decide +kernel
theorem dX8_most_21 : decode cX8_most 21 = .ok (.aload_n 0, 1) := by decide +kernel
theorem dX8_most_22 : decode cX8_most 22 = .ok (.getfield 40, 3) := by decide +kernel
theorem dX8_most_25 : decode cX8_most 25 = .ok (.getfield 138, 3) := by decide +kernel
theorem dX8_most_28 : decode cX8_most 28 = .ok (.invokevirtual 141, 3) := by decide +kernel
theorem dX8_most_31 : decode cX8_most 31 = .ok (.istore_n 2, 1) := by decide +kernel
theorem dX8_most_32 : decode cX8_most 32 = .ok (.iconst 0, 1) := by decide +kernel
theorem dX8_most_33 : decode cX8_most 33 = .ok (.istore_n 3, 1) := by decide +kernel
theorem dX8_most_34 : decode cX8_most 34 = .ok (.iload_n 3, 1) := by decide +kernel
theorem dX8_most_35 : decode cX8_most 35 = .ok (.iload_n 1, 1) := by decide +kernel
theorem dX8_most_36 : decode cX8_most 36 = .ok (.if_icmp .ge 49, 3) := by decide +kernel
theorem dX8_most_39 : decode cX8_most 39 = .ok (.aload_n 0, 1) := by decide +kernel
theorem dX8_most_40 : decode cX8_most 40 = .ok (.getfield 40, 3) := by decide +kernel
theorem dX8_most_43 : decode cX8_most 43 = .ok (.aload_n 0, 1) := by decide +kernel
theorem dX8_most_44 : decode cX8_most 44 = .ok (.getfield 26, 3) := by decide +kernel
theorem dX8_most_47 : decode cX8_most 47 = .ok (.invokevirtual 151, 3) := by decide +kernel
theorem dX8_most_50 : decode cX8_most 50 = .ok (.aload_n 0, 1) := by decide +kernel
theorem dX8_most_51 : decode cX8_most 51 = .ok (.getfield 26, 3) := by decide +kernel
theorem dX8_most_54 : decode cX8_most 54 = .ok (.invokevirtual 155, 3) := by decide +kernel
theorem dX8_most_57 : decode cX8_most 57 = .ok (.invokevirtual 158, 3) := by decide +kernel
theorem dX8_most_60 : decode cX8_most 60 = .ok (.iload_n 2, 1) := by decide +kernel
theorem dX8_most_61 : decode cX8_most 61 = .ok (.aload_n 0, 1) := by decide +kernel
theorem dX8_most_62 : decode cX8_most 62 = .ok (.getfield 26, 3) := by decide +kernel
theorem dX8_most_65 : decode cX8_most 65 = .ok (.aload_n 0, 1) := by decide +kernel
theorem dX8_most_66 : decode cX8_most 66 = .ok (.getfield 40, 3) := by decide +kernel
theorem dX8_most_69 : decode cX8_most 69 = .ok (.getfield 138, 3) := by decide +kernel
theorem dX8_most_72 : decode cX8_most 72 = .ok (.invokevirtual 141, 3) := by decide +kernel
theorem dX8_most_75 : decode cX8_most 75 = .ok (.invokestatic 162, 3) := by decide +kernel
theorem dX8_most_78 : decode cX8_most 78 = .ok (.istore_n 2, 1) := by decide +kernel
theorem dX8_most_79 : decode cX8_most 79 = .ok (.iinc 3 1, 3) := by decide +kernel
theorem dX8_most_82 : decode cX8_most 82 = .ok (.goto (-48), 3) := by decide +kernel
theorem dX8_most_85 : decode cX8_most 85 = .ok (.iload_n 2, 1) := by decide +kernel
theorem dX8_most_86 : decode cX8_most 86 = .ok (.ireturn, 1) := by decide +kernel
theorem dX8_lookAhead_0 : decode cX8_lookAhead 0 = .ok (.aload_n 0, 1) := by decide +kernel
theorem dX8_lookAhead_1 : decode cX8_lookAhead 1 = .ok (.getfield 40, 3) := by decide +kernel
theorem dX8_lookAhead_4 : decode cX8_lookAhead 4 = .ok (.aload_n 0, 1) := by decide +kernel
theorem dX8_lookAhead_5 : decode cX8_lookAhead 5 = .ok (.getfield 36, 3) := by decide +kernel
theorem dX8_lookAhead_8 : decode cX8_lookAhead 8 = .ok (.invokevirtual 102, 3) := by decide +kernel
theorem dX8_lookAhead_11 : decode cX8_lookAhead 11 = .ok (.return_, 1) := by decide +kernel
theorem dX8_teach_0 : decode cX8_teach 0 = .ok (.aload_n 0, 1) := by decide +kernel
theorem dX8_teach_1 : decode cX8_teach 1 = .ok (.aload_n 0, 1) := by decide +kernel
theorem dX8_teach_2 : decode cX8_teach 2 = .ok (.getfield 36, 3) := by decide +kernel
theorem dX8_teach_5 : decode cX8_teach 5 = .ok (.getfield 132, 3) := by decide +kernel
theorem dX8_teach_8 : decode cX8_teach 8 = .ok (.aload_n 0, 1) := by decide +kernel
theorem dX8_teach_9 : decode cX8_teach 9 = .ok (.getfield 36, 3) := by decide +kernel
theorem dX8_teach_12 : decode cX8_teach 12 = .ok (.getfield 119, 3) := by decide +kernel
theorem dX8_teach_15 : decode cX8_teach 15 = .ok (.iconst (-1), 1) := by decide +kernel
theorem dX8_teach_16 : decode cX8_teach 16 = .ok (.ixor, 1) := by decide +kernel
theorem dX8_teach_17 : decode cX8_teach 17 = .ok (.iand, 1) := by decide +kernel
theorem dX8_teach_18 : decode cX8_teach 18 = .ok (.iconst 1, 1) := by decide +kernel
theorem dX8_teach_19 : decode cX8_teach 19 = .ok (.iload_n 1, 1) := by decide +kernel
theorem dX8_teach_20 : decode cX8_teach 20 = .ok (.invokevirtual 193, 3) := by decide +kernel
theorem dX8_teach_23 : decode cX8_teach 23 = .ok (.ireturn, 1) := by decide +kernel
theorem dX8_burn_0 : decode cX8_burn 0 = .ok (.aload_n 0, 1) := by decide +kernel
theorem dX8_burn_1 : decode cX8_burn 1 = .ok (.aload_n 0, 1) := by decide +kernel
theorem dX8_burn_2 : decode cX8_burn 2 = .ok (.getfield 36, 3) := by decide +kernel
theorem dX8_burn_5 : decode cX8_burn 5 = .ok (.getfield 132, 3) := by decide +kernel
theorem dX8_burn_8 : decode cX8_burn 8 = .ok (.aload_n 0, 1) := by decide +kernel
theorem dX8_burn_9 : decode cX8_burn 9 = .ok (.getfield 36, 3) := by decide +kernel
theorem dX8_burn_12 : decode cX8_burn 12 = .ok (.getfield 129, 3) := by decide +kernel
theorem dX8_burn_15 : decode cX8_burn 15 = .ok (.iconst (-1), 1) := by decide +kernel
theorem dX8_burn_16 : decode cX8_burn 16 = .ok (.ixor, 1) := by decide +kernel
theorem dX8_burn_17 : decode cX8_burn 17 = .ok (.iand, 1) := by decide +kernel
theorem dX8_burn_18 : decode cX8_burn 18 = .ok (.iconst 0, 1) := by decide +kernel
theorem dX8_burn_19 : decode cX8_burn 19 = .ok (.iload_n 1, 1) := by decide +kernel
theorem dX8_burn_20 : decode cX8_burn 20 = .ok (.invokevirtual 193, 3) := by decide +kernel
theorem dX8_burn_23 : decode cX8_burn 23 = .ok (.ireturn, 1) := by decide +kernel
theorem dX8_stair_0 : decode cX8_stair 0 = .ok (.iload_n 1, 1) := by decide +kernel
theorem dX8_stair_1 : decode cX8_stair 1 = .ok (.invokestatic 197, 3) := by decide +kernel
theorem dX8_stair_4 : decode cX8_stair 4 = .ok (.ifCond .ne 5, 3) := by decide +kernel
theorem dX8_stair_7 : decode cX8_stair 7 = .ok (.iconst (-1), 1) := by decide +kernel
theorem dX8_stair_8 : decode cX8_stair 8 = .ok (.ireturn, 1) := by decide +kernel
theorem dX8_stair_9 : decode cX8_stair 9 = .ok (.bipush 8, 2) := by decide +kernel
theorem dX8_stair_11 : decode cX8_stair 11 = .ok (.istore_n 2, 1) := by decide +kernel
theorem dX8_stair_12 : decode cX8_stair 12 = .ok (.iload_n 2, 1) := by decide +kernel
theorem dX8_stair_13 : decode cX8_stair 13 = .ok (.iconst 1, 1) := by decide +kernel
theorem dX8_stair_14 : decode cX8_stair 14 = .ok (.if_icmp .lt 31, 3) := by decide +kernel
theorem dX8_stair_17 : decode cX8_stair 17 = .ok (.aload_n 0, 1) := by decide +kernel
theorem dX8_stair_18 : decode cX8_stair 18 = .ok (.invokevirtual 187, 3) := by decide +kernel
theorem dX8_stair_21 : decode cX8_stair 21 = .ok (.aload_n 0, 1) := by decide +kernel
theorem dX8_stair_22 : decode cX8_stair 22 = .ok (.iload_n 2, 1) := by decide +kernel
theorem dX8_stair_23 : decode cX8_stair 23 = .ok (.aload_n 0, 1) := by decide +kernel
theorem dX8_stair_24 : decode cX8_stair 24 = .ok (.getfield 26, 3) := by decide +kernel
theorem dX8_stair_27 : decode cX8_stair 27 = .ok (.invokevirtual 155, 3) := by decide +kernel
theorem dX8_stair_30 : decode cX8_stair 30 = .ok (.iload_n 1, 1) := by decide +kernel
theorem dX8_stair_31 : decode cX8_stair 31 = .ok (.invokevirtual 200, 3) := by decide +kernel
theorem dX8_stair_34 : decode cX8_stair 34 = .ok (.ifCond .eq 5, 3) := by decide +kernel
theorem dX8_stair_37 : decode cX8_stair 37 = .ok (.iload_n 2, 1) := by decide +kernel
theorem dX8_stair_38 : decode cX8_stair 38 = .ok (.ireturn, 1) := by decide +kernel
theorem dX8_stair_39 : decode cX8_stair 39 = .ok (.iinc 2 (-1), 3) := by decide +kernel
theorem dX8_stair_42 : decode cX8_stair 42 = .ok (.goto (-30), 3) := by decide +kernel
theorem dX8_stair_45 : decode cX8_stair 45 = .ok (.bipush (-9), 2) := by decide +kernel
theorem dX8_stair_47 : decode cX8_stair 47 = .ok (.ireturn, 1) := by decide +kernel
theorem dX8_drain_0 : decode cX8_drain 0 = .ok (.iload_n 1, 1) := by decide +kernel
theorem dX8_drain_1 : decode cX8_drain 1 = .ok (.invokestatic 197, 3) := by decide +kernel
theorem dX8_drain_4 : decode cX8_drain 4 = .ok (.ifCond .ne 5, 3) := by decide +kernel
theorem dX8_drain_7 : decode cX8_drain 7 = .ok (.iconst (-1), 1) := by decide +kernel
theorem dX8_drain_8 : decode cX8_drain 8 = .ok (.ireturn, 1) := by decide +kernel
theorem dX8_drain_9 : decode cX8_drain 9 = .ok (.iconst 0, 1) := by decide +kernel
theorem dX8_drain_10 : decode cX8_drain 10 = .ok (.istore_n 2, 1) := by decide +kernel
theorem dX8_drain_11 : decode cX8_drain 11 = .ok (.iload_n 2, 1) := by decide +kernel
theorem dX8_drain_12 : decode cX8_drain 12 = .ok (.bipush 20, 2) := by decide +kernel
theorem dX8_drain_14 : decode cX8_drain 14 = .ok (.if_icmp .gt 31, 3) := by decide +kernel
theorem dX8_drain_17 : decode cX8_drain 17 = .ok (.aload_n 0, 1) := by decide +kernel
theorem dX8_drain_18 : decode cX8_drain 18 = .ok (.invokevirtual 187, 3) := by decide +kernel
theorem dX8_drain_21 : decode cX8_drain 21 = .ok (.aload_n 0, 1) := by decide +kernel
theorem dX8_drain_22 : decode cX8_drain 22 = .ok (.aload_n 0, 1) := by decide +kernel
theorem dX8_drain_23 : decode cX8_drain 23 = .ok (.getfield 26, 3) := by decide +kernel
theorem dX8_drain_26 : decode cX8_drain 26 = .ok (.invokevirtual 151, 3) := by decide +kernel
theorem dX8_drain_29 : decode cX8_drain 29 = .ok (.iload_n 2, 1) := by decide +kernel
theorem dX8_drain_30 : decode cX8_drain 30 = .ok (.iload_n 1, 1) := by decide +kernel
theorem dX8_drain_31 : decode cX8_drain 31 = .ok (.invokevirtual 200, 3) := by decide +kernel
theorem dX8_drain_34 : decode cX8_drain 34 = .ok (.ifCond .eq 5, 3) := by decide +kernel
theorem dX8_drain_37 : decode cX8_drain 37 = .ok (.iload_n 2, 1) := by decide +kernel
theorem dX8_drain_38 : decode cX8_drain 38 = .ok (.ireturn, 1) := by decide +kernel
theorem dX8_drain_39 : decode cX8_drain 39 = .ok (.iinc 2 1, 3) := by decide +kernel
theorem dX8_drain_42 : decode cX8_drain 42 = .ok (.goto (-31), 3) := by decide +kernel
theorem dX8_drain_45 : decode cX8_drain 45 = .ok (.bipush (-9), 2) := by decide +kernel
theorem dX8_drain_47 : decode cX8_drain 47 = .ok (.ireturn, 1) := by decide +kernel
theorem dX8_isPlanned_0 : decode cX8_isPlanned 0 = .ok (.iload_n 0, 1) := by decide +kernel
theorem dX8_isPlanned_1 : decode cX8_isPlanned 1 = .ok (.iconst 1, 1) := by decide +kernel
theorem dX8_isPlanned_2 : decode cX8_isPlanned 2 = .ok (.if_icmp .lt 13, 3) := by decide +kernel
theorem dX8_isPlanned_5 : decode cX8_isPlanned 5 = .ok (.iload_n 0, 1) := by decide +kernel
theorem dX8_isPlanned_6 : decode cX8_isPlanned 6 = .ok (.bipush 60, 2) := by decide +kernel
theorem dX8_isPlanned_8 : decode cX8_isPlanned 8 = .ok (.if_icmp .gt 7, 3) := by decide +kernel
theorem dX8_isPlanned_11 : decode cX8_isPlanned 11 = .ok (.iconst 1, 1) := by decide +kernel
theorem dX8_isPlanned_12 : decode cX8_isPlanned 12 = .ok (.goto 4, 3) := by decide +kernel
theorem dX8_isPlanned_15 : decode cX8_isPlanned 15 = .ok (.iconst 0, 1) := by decide +kernel
theorem dX8_isPlanned_16 : decode cX8_isPlanned 16 = .ok (.ireturn, 1) := by decide +kernel
theorem dX8_fewest_0 : decode cX8_fewest 0 = .ok (.iload_n 3, 1) := by decide +kernel
theorem dX8_fewest_1 : decode cX8_fewest 1 = .ok (.invokestatic 197, 3) := by decide +kernel
theorem dX8_fewest_4 : decode cX8_fewest 4 = .ok (.ifCond .ne 5, 3) := by decide +kernel
theorem dX8_fewest_7 : decode cX8_fewest 7 = .ok (.iconst (-1), 1) := by decide +kernel
theorem dX8_fewest_8 : decode cX8_fewest 8 = .ok (.ireturn, 1) := by decide +kernel
theorem dX8_fewest_9 : decode cX8_fewest 9 = .ok (.bipush (-9), 2) := by decide +kernel
theorem dX8_fewest_11 : decode cX8_fewest 11 = .ok (.istore 4, 2) := by decide +kernel
theorem dX8_fewest_13 : decode cX8_fewest 13 = .ok (.bipush 9, 2) := by decide +kernel
theorem dX8_fewest_15 : decode cX8_fewest 15 = .ok (.istore 5, 2) := by decide +kernel
theorem dX8_fewest_17 : decode cX8_fewest 17 = .ok (.iconst 0, 1) := by decide +kernel
theorem dX8_fewest_18 : decode cX8_fewest 18 = .ok (.istore 6, 2) := by decide +kernel
theorem dX8_fewest_20 : decode cX8_fewest 20 = .ok (.iload 6, 2) := by decide +kernel
theorem dX8_fewest_22 : decode cX8_fewest 22 = .ok (.iload_n 1, 1) := by decide +kernel
theorem dX8_fewest_23 : decode cX8_fewest 23 = .ok (.if_icmp .gt 62, 3) := by decide +kernel
theorem dX8_fewest_26 : decode cX8_fewest 26 = .ok (.iload 6, 2) := by decide +kernel
theorem dX8_fewest_28 : decode cX8_fewest 28 = .ok (.iload_n 1, 1) := by decide +kernel
theorem dX8_fewest_29 : decode cX8_fewest 29 = .ok (.iconst (-1), 1) := by decide +kernel
theorem dX8_fewest_30 : decode cX8_fewest 30 = .ok (.ixor, 1) := by decide +kernel
theorem dX8_fewest_31 : decode cX8_fewest 31 = .ok (.iand, 1) := by decide +kernel
theorem dX8_fewest_32 : decode cX8_fewest 32 = .ok (.ifCond .ne 17, 3) := by decide +kernel
theorem dX8_fewest_35 : decode cX8_fewest 35 = .ok (.iload 6, 2) := by decide +kernel
theorem dX8_fewest_37 : decode cX8_fewest 37 = .ok (.invokestatic 182, 3) := by decide +kernel
theorem dX8_fewest_40 : decode cX8_fewest 40 = .ok (.iload 5, 2) := by decide +kernel
theorem dX8_fewest_42 : decode cX8_fewest 42 = .ok (.if_icmp .ge 7, 3) := by decide +kernel
theorem dX8_fewest_45 : decode cX8_fewest 45 = .ok (.iconst 1, 1) := by decide +kernel
theorem dX8_fewest_46 : decode cX8_fewest 46 = .ok (.goto 4, 3) := by decide +kernel
theorem dX8_fewest_49 : decode cX8_fewest 49 = .ok (.iconst 0, 1) := by decide +kernel
theorem dX8_fewest_50 : decode cX8_fewest 50 = .ok (.istore 7, 2) := by decide +kernel
theorem dX8_fewest_52 : decode cX8_fewest 52 = .ok (.iload 7, 2) := by decide +kernel
theorem dX8_fewest_54 : decode cX8_fewest 54 = .ok (.ifCond .eq 25, 3) := by decide +kernel
theorem dX8_fewest_57 : decode cX8_fewest 57 = .ok (.aload_n 0, 1) := by decide +kernel
theorem dX8_fewest_58 : decode cX8_fewest 58 = .ok (.iload 6, 2) := by decide +kernel
theorem dX8_fewest_60 : decode cX8_fewest 60 = .ok (.iload_n 2, 1) := by decide +kernel
theorem dX8_fewest_61 : decode cX8_fewest 61 = .ok (.iload_n 3, 1) := by decide +kernel
theorem dX8_fewest_62 : decode cX8_fewest 62 = .ok (.invokevirtual 204, 3) := by decide +kernel
theorem dX8_fewest_65 : decode cX8_fewest 65 = .ok (.ifCond .eq 14, 3) := by decide +kernel
theorem dX8_fewest_68 : decode cX8_fewest 68 = .ok (.iload 6, 2) := by decide +kernel
theorem dX8_fewest_70 : decode cX8_fewest 70 = .ok (.istore 4, 2) := by decide +kernel
theorem dX8_fewest_72 : decode cX8_fewest 72 = .ok (.iload 6, 2) := by decide +kernel
theorem dX8_fewest_74 : decode cX8_fewest 74 = .ok (.invokestatic 182, 3) := by decide +kernel
theorem dX8_fewest_77 : decode cX8_fewest 77 = .ok (.istore 5, 2) := by decide +kernel
theorem dX8_fewest_79 : decode cX8_fewest 79 = .ok (.iinc 6 1, 3) := by decide +kernel
theorem dX8_fewest_82 : decode cX8_fewest 82 = .ok (.goto (-62), 3) := by decide +kernel
theorem dX8_fewest_85 : decode cX8_fewest 85 = .ok (.iload 4, 2) := by decide +kernel
theorem dX8_fewest_87 : decode cX8_fewest 87 = .ok (.ireturn, 1) := by decide +kernel
theorem dX8_helps_0 : decode cX8_helps 0 = .ok (.aload_n 0, 1) := by decide +kernel
theorem dX8_helps_1 : decode cX8_helps 1 = .ok (.invokevirtual 187, 3) := by decide +kernel
theorem dX8_helps_4 : decode cX8_helps 4 = .ok (.iload_n 2, 1) := by decide +kernel
theorem dX8_helps_5 : decode cX8_helps 5 = .ok (.ifCond .eq 19, 3) := by decide +kernel
theorem dX8_helps_8 : decode cX8_helps 8 = .ok (.aload_n 0, 1) := by decide +kernel
theorem dX8_helps_9 : decode cX8_helps 9 = .ok (.getfield 40, 3) := by decide +kernel
theorem dX8_helps_12 : decode cX8_helps 12 = .ok (.dup, 1) := by decide +kernel
theorem dX8_helps_13 : decode cX8_helps 13 = .ok (.getfield 119, 3) := by decide +kernel
theorem dX8_helps_16 : decode cX8_helps 16 = .ok (.iload_n 1, 1) := by decide +kernel
theorem dX8_helps_17 : decode cX8_helps 17 = .ok (.ior, 1) := by decide +kernel
theorem dX8_helps_18 : decode cX8_helps 18 = .ok (.putfield 119, 3) := by decide +kernel
theorem dX8_helps_21 : decode cX8_helps 21 = .ok (.goto 18, 3) := by decide +kernel
theorem dX8_helps_24 : decode cX8_helps 24 = .ok (.aload_n 0, 1) := by decide +kernel
theorem dX8_helps_25 : decode cX8_helps 25 = .ok (.getfield 40, 3) := by decide +kernel
theorem dX8_helps_28 : decode cX8_helps 28 = .ok (.dup, 1) := by decide +kernel
theorem dX8_helps_29 : decode cX8_helps 29 = .ok (.getfield 132, 3) := by decide +kernel
theorem dX8_helps_32 : decode cX8_helps 32 = .ok (.iload_n 1, 1) := by decide +kernel
theorem dX8_helps_33 : decode cX8_helps 33 = .ok (.iconst (-1), 1) := by decide +kernel
theorem dX8_helps_34 : decode cX8_helps 34 = .ok (.ixor, 1) := by decide +kernel
theorem dX8_helps_35 : decode cX8_helps 35 = .ok (.iand, 1) := by decide +kernel
theorem dX8_helps_36 : decode cX8_helps 36 = .ok (.putfield 132, 3) := by decide +kernel
theorem dX8_helps_39 : decode cX8_helps 39 = .ok (.aload_n 0, 1) := by decide +kernel
theorem dX8_helps_40 : decode cX8_helps 40 = .ok (.aload_n 0, 1) := by decide +kernel
theorem dX8_helps_41 : decode cX8_helps 41 = .ok (.getfield 26, 3) := by decide +kernel
theorem dX8_helps_44 : decode cX8_helps 44 = .ok (.invokevirtual 151, 3) := by decide +kernel
theorem dX8_helps_47 : decode cX8_helps 47 = .ok (.aload_n 0, 1) := by decide +kernel
theorem dX8_helps_48 : decode cX8_helps 48 = .ok (.getfield 26, 3) := by decide +kernel
theorem dX8_helps_51 : decode cX8_helps 51 = .ok (.invokevirtual 155, 3) := by decide +kernel
theorem dX8_helps_54 : decode cX8_helps 54 = .ok (.iload_n 3, 1) := by decide +kernel
theorem dX8_helps_55 : decode cX8_helps 55 = .ok (.invokevirtual 200, 3) := by decide +kernel
theorem dX8_helps_58 : decode cX8_helps 58 = .ok (.ireturn, 1) := by decide +kernel
theorem dX8_staysAtMark_0 : decode cX8_staysAtMark 0 = .ok (.aload_n 0, 1) := by decide +kernel
theorem dX8_staysAtMark_1 : decode cX8_staysAtMark 1 = .ok (.getfield 26, 3) := by decide +kernel
theorem dX8_staysAtMark_4 : decode cX8_staysAtMark 4 = .ok (.aload_n 0, 1) := by decide +kernel
theorem dX8_staysAtMark_5 : decode cX8_staysAtMark 5 = .ok (.getfield 40, 3) := by decide +kernel
theorem dX8_staysAtMark_8 : decode cX8_staysAtMark 8 = .ok (.getfield 138, 3) := by decide +kernel
theorem dX8_staysAtMark_11 : decode cX8_staysAtMark 11 = .ok (.invokevirtual 190, 3) := by decide +kernel
theorem dX8_staysAtMark_14 : decode cX8_staysAtMark 14 = .ok (.istore 4, 2) := by decide +kernel
theorem dX8_staysAtMark_16 : decode cX8_staysAtMark 16 = .ok (.iconst 0, 1) := by decide +kernel
theorem dX8_staysAtMark_17 : decode cX8_staysAtMark 17 = .ok (.istore 5, 2) := by decide +kernel
theorem dX8_staysAtMark_19 : decode cX8_staysAtMark 19 = .ok (.iload 5, 2) := by decide +kernel
theorem dX8_staysAtMark_21 : decode cX8_staysAtMark 21 = .ok (.iload_n 3, 1) := by decide +kernel
theorem dX8_staysAtMark_22 : decode cX8_staysAtMark 22 = .ok (.if_icmp .ge 39, 3) := by decide +kernel
theorem dX8_staysAtMark_25 : decode cX8_staysAtMark 25 = .ok (.iload 4, 2) := by decide +kernel
theorem dX8_staysAtMark_27 : decode cX8_staysAtMark 27 = .ok (.ifCond .ne 34, 3) := by decide +kernel
theorem dX8_staysAtMark_30 : decode cX8_staysAtMark 30 = .ok (.aload_n 0, 1) := by decide +kernel
theorem dX8_staysAtMark_31 : decode cX8_staysAtMark 31 = .ok (.getfield 40, 3) := by decide +kernel
theorem dX8_staysAtMark_34 : decode cX8_staysAtMark 34 = .ok (.iload_n 1, 1) := by decide +kernel
theorem dX8_staysAtMark_35 : decode cX8_staysAtMark 35 = .ok (.iload_n 2, 1) := by decide +kernel
theorem dX8_staysAtMark_36 : decode cX8_staysAtMark 36 = .ok (.invokevirtual 158, 3) := by decide +kernel
theorem dX8_staysAtMark_39 : decode cX8_staysAtMark 39 = .ok (.aload_n 0, 1) := by decide +kernel
theorem dX8_staysAtMark_40 : decode cX8_staysAtMark 40 = .ok (.getfield 26, 3) := by decide +kernel
theorem dX8_staysAtMark_43 : decode cX8_staysAtMark 43 = .ok (.aload_n 0, 1) := by decide +kernel
theorem dX8_staysAtMark_44 : decode cX8_staysAtMark 44 = .ok (.getfield 40, 3) := by decide +kernel
theorem dX8_staysAtMark_47 : decode cX8_staysAtMark 47 = .ok (.getfield 138, 3) := by decide +kernel
theorem dX8_staysAtMark_50 : decode cX8_staysAtMark 50 = .ok (.invokevirtual 190, 3) := by decide +kernel
theorem dX8_staysAtMark_53 : decode cX8_staysAtMark 53 = .ok (.istore 4, 2) := by decide +kernel
