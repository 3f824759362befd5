theorem dX9_readsItem_97 : decode cX9_readsItem 97 = .ok (.iastore, 1) := by decide +kernel
theorem dX9_readsItem_98 : decode cX9_readsItem 98 = .ok (.iconst 1, 1) := by decide +kernel
theorem dX9_readsItem_99 : decode cX9_readsItem 99 = .ok (.ireturn, 1) := by decide +kernel
theorem dX9_readsItem_100 : decode cX9_readsItem 100 = .ok (.aload_n 0, 1) := by decide +kernel
theorem dX9_readsItem_101 : decode cX9_readsItem 101 = .ok (.getfield 16, 3) := by decide +kernel
theorem dX9_readsItem_104 : decode cX9_readsItem 104 = .ok (.bipush 7, 2) := by decide +kernel
theorem dX9_readsItem_106 : decode cX9_readsItem 106 = .ok (.iaload, 1) := by decide +kernel
theorem dX9_readsItem_107 : decode cX9_readsItem 107 = .ok (.iload_n 1, 1) := by decide +kernel
theorem dX9_readsItem_108 : decode cX9_readsItem 108 = .ok (.ishr, 1) := by decide +kernel
theorem dX9_readsItem_109 : decode cX9_readsItem 109 = .ok (.iconst 1, 1) := by decide +kernel
theorem dX9_readsItem_110 : decode cX9_readsItem 110 = .ok (.iand, 1) := by decide +kernel
theorem dX9_readsItem_111 : decode cX9_readsItem 111 = .ok (.iconst 1, 1) := by decide +kernel
theorem dX9_readsItem_112 : decode cX9_readsItem 112 = .ok (.if_icmp .ne 5, 3) := by decide +kernel
theorem dX9_readsItem_115 : decode cX9_readsItem 115 = .ok (.iconst 0, 1) := by decide +kernel
theorem dX9_readsItem_116 : decode cX9_readsItem 116 = .ok (.ireturn, 1) := by decide +kernel
theorem dX9_readsItem_117 : decode cX9_readsItem 117 = .ok (.aload_n 0, 1) := by decide +kernel
theorem dX9_readsItem_118 : decode cX9_readsItem 118 = .ok (.getfield 16, 3) := by decide +kernel
theorem dX9_readsItem_121 : decode cX9_readsItem 121 = .ok (.bipush 7, 2) := by decide +kernel
theorem dX9_readsItem_123 : decode cX9_readsItem 123 = .ok (.dup2, 1) := by decide +kernel
theorem dX9_readsItem_124 : decode cX9_readsItem 124 = .ok (.iaload, 1) := by decide +kernel
theorem dX9_readsItem_125 : decode cX9_readsItem 125 = .ok (.iconst 1, 1) := by decide +kernel
theorem dX9_readsItem_126 : decode cX9_readsItem 126 = .ok (.iload_n 1, 1) := by decide +kernel
theorem dX9_readsItem_127 : decode cX9_readsItem 127 = .ok (.ishl, 1) := by decide +kernel
theorem dX9_readsItem_128 : decode cX9_readsItem 128 = .ok (.ior, 1) := by decide +kernel
theorem dX9_readsItem_129 : decode cX9_readsItem 129 = .ok (.iastore, 1) := by decide +kernel
theorem dX9_readsItem_130 : decode cX9_readsItem 130 = .ok (.iload_n 1, 1) := by decide +kernel
theorem dX9_readsItem_131 : decode cX9_readsItem 131 = .ok (.iconst 1, 1) := by decide +kernel
theorem dX9_readsItem_132 : decode cX9_readsItem 132 = .ok (.if_icmp .eq 8, 3) := by decide +kernel
theorem dX9_readsItem_135 : decode cX9_readsItem 135 = .ok (.iload_n 1, 1) := by decide +kernel
theorem dX9_readsItem_136 : decode cX9_readsItem 136 = .ok (.iconst 4, 1) := by decide +kernel
theorem dX9_readsItem_137 : decode cX9_readsItem 137 = .ok (.if_icmp .ne 7, 3) := by decide +kernel
theorem dX9_readsItem_140 : decode cX9_readsItem 140 = .ok (.iconst 1, 1) := by decide +kernel
theorem dX9_readsItem_141 : decode cX9_readsItem 141 = .ok (.goto 4, 3) := by decide +kernel
theorem dX9_readsItem_144 : decode cX9_readsItem 144 = .ok (.iconst 0, 1) := by decide +kernel
theorem dX9_readsItem_145 : decode cX9_readsItem 145 = .ok (.istore_n 2, 1) := by decide +kernel
theorem dX9_readsItem_146 : decode cX9_readsItem 146 = .ok (.iload_n 1, 1) := by decide +kernel
theorem dX9_readsItem_147 : decode cX9_readsItem 147 = .ok (.iconst 1, 1) := by decide +kernel
theorem dX9_readsItem_148 : decode cX9_readsItem 148 = .ok (.if_icmp .eq 8, 3) := by decide +kernel
theorem dX9_readsItem_151 : decode cX9_readsItem 151 = .ok (.iload_n 1, 1) := by decide +kernel
theorem dX9_readsItem_152 : decode cX9_readsItem 152 = .ok (.iconst 2, 1) := by decide +kernel
theorem dX9_readsItem_153 : decode cX9_readsItem 153 = .ok (.if_icmp .ne 8, 3) := by decide +kernel
theorem dX9_readsItem_156 : decode cX9_readsItem 156 = .ok (.bipush 20, 2) := by decide +kernel
theorem dX9_readsItem_158 : decode cX9_readsItem 158 = .ok (.goto 15, 3) := by decide +kernel
theorem dX9_readsItem_161 : decode cX9_readsItem 161 = .ok (.iload_n 1, 1) := by decide +kernel
theorem dX9_readsItem_162 : decode cX9_readsItem 162 = .ok (.iconst 4, 1) := by decide +kernel
theorem dX9_readsItem_163 : decode cX9_readsItem 163 = .ok (.if_icmp .ne 8, 3) := by decide +kernel
theorem dX9_readsItem_166 : decode cX9_readsItem 166 = .ok (.bipush 8, 2) := by decide +kernel
theorem dX9_readsItem_168 : decode cX9_readsItem 168 = .ok (.goto 5, 3) := by decide +kernel
theorem dX9_readsItem_171 : decode cX9_readsItem 171 = .ok (.bipush 99, 2) := by decide +kernel
theorem dX9_readsItem_173 : decode cX9_readsItem 173 = .ok (.istore_n 3, 1) := by decide +kernel
theorem dX9_readsItem_174 : decode cX9_readsItem 174 = .ok (.aload_n 0, 1) := by decide +kernel
theorem dX9_readsItem_175 : decode cX9_readsItem 175 = .ok (.iload_n 1, 1) := by decide +kernel
theorem dX9_readsItem_176 : decode cX9_readsItem 176 = .ok (.iload_n 2, 1) := by decide +kernel
theorem dX9_readsItem_177 : decode cX9_readsItem 177 = .ok (.iload_n 3, 1) := by decide +kernel
theorem dX9_readsItem_178 : decode cX9_readsItem 178 = .ok (.invokevirtual 82, 3) := by decide +kernel
theorem dX9_readsItem_181 : decode cX9_readsItem 181 = .ok (.ireturn, 1) := by decide +kernel
theorem dX9_reads_0 : decode cX9_reads 0 = .ok (.iconst 0, 1) := by decide +kernel
theorem dX9_reads_1 : decode cX9_reads 1 = .ok (.istore_n 1, 1) := by decide +kernel
theorem dX9_reads_2 : decode cX9_reads 2 = .ok (.iload_n 1, 1) := by decide +kernel
theorem dX9_reads_3 : decode cX9_reads 3 = .ok (.bipush 32, 2) := by decide +kernel
theorem dX9_reads_5 : decode cX9_reads 5 = .ok (.if_icmp .ge 16, 3) := by decide +kernel
theorem dX9_reads_8 : decode cX9_reads 8 = .ok (.aload_n 0, 1) := by decide +kernel
theorem dX9_reads_9 : decode cX9_reads 9 = .ok (.getfield 16, 3) := by decide +kernel
theorem dX9_reads_12 : decode cX9_reads 12 = .ok (.iload_n 1, 1) := by decide +kernel
theorem dX9_reads_13 : decode cX9_reads 13 = .ok (.iconst 0, 1) := by decide +kernel
theorem dX9_reads_14 : decode cX9_reads 14 = .ok (.iastore, 1) := by decide +kernel
theorem dX9_reads_15 : decode cX9_reads 15 = .ok (.iinc 1 1, 3) := by decide +kernel
theorem dX9_reads_18 : decode cX9_reads 18 = .ok (.goto (-16), 3) := by decide +kernel
theorem dX9_reads_21 : decode cX9_reads 21 = .ok (.aload_n 0, 1) := by decide +kernel
theorem dX9_reads_22 : decode cX9_reads 22 = .ok (.getfield 16, 3) := by decide +kernel
theorem dX9_reads_25 : decode cX9_reads 25 = .ok (.iconst 1, 1) := by decide +kernel
theorem dX9_reads_26 : decode cX9_reads 26 = .ok (.iconst 4, 1) := by decide +kernel
theorem dX9_reads_27 : decode cX9_reads 27 = .ok (.iastore, 1) := by decide +kernel
theorem dX9_reads_28 : decode cX9_reads 28 = .ok (.aload_n 0, 1) := by decide +kernel
theorem dX9_reads_29 : decode cX9_reads 29 = .ok (.getfield 16, 3) := by decide +kernel
theorem dX9_reads_32 : decode cX9_reads 32 = .ok (.iconst 3, 1) := by decide +kernel
theorem dX9_reads_33 : decode cX9_reads 33 = .ok (.bipush 10, 2) := by decide +kernel
theorem dX9_reads_35 : decode cX9_reads 35 = .ok (.iastore, 1) := by decide +kernel
theorem dX9_reads_36 : decode cX9_reads 36 = .ok (.aload_n 0, 1) := by decide +kernel
theorem dX9_reads_37 : decode cX9_reads 37 = .ok (.getfield 16, 3) := by decide +kernel
theorem dX9_reads_40 : decode cX9_reads 40 = .ok (.iconst 4, 1) := by decide +kernel
theorem dX9_reads_41 : decode cX9_reads 41 = .ok (.bipush 8, 2) := by decide +kernel
theorem dX9_reads_43 : decode cX9_reads 43 = .ok (.iastore, 1) := by decide +kernel
theorem dX9_reads_44 : decode cX9_reads 44 = .ok (.aload_n 0, 1) := by decide +kernel
theorem dX9_reads_45 : decode cX9_reads 45 = .ok (.iconst 0, 1) := by decide +kernel
theorem dX9_reads_46 : decode cX9_reads 46 = .ok (.putfield 57, 3) := by decide +kernel
theorem dX9_reads_49 : decode cX9_reads 49 = .ok (.aload_n 0, 1) := by decide +kernel
theorem dX9_reads_50 : decode cX9_reads 50 = .ok (.invokevirtual 79, 3) := by decide +kernel
theorem dX9_reads_53 : decode cX9_reads 53 = .ok (.aload_n 0, 1) := by decide +kernel
theorem dX9_reads_54 : decode cX9_reads 54 = .ok (.getfield 73, 3) := by decide +kernel
theorem dX9_reads_57 : decode cX9_reads 57 = .ok (.ifCond .eq 44, 3) := by decide +kernel
theorem dX9_reads_60 : decode cX9_reads 60 = .ok (.aload_n 0, 1) := by decide +kernel
theorem dX9_reads_61 : decode cX9_reads 61 = .ok (.invokevirtual 85, 3) := by decide +kernel
theorem dX9_reads_64 : decode cX9_reads 64 = .ok (.ifCond .ne 5, 3) := by decide +kernel
theorem dX9_reads_67 : decode cX9_reads 67 = .ok (.iconst 0, 1) := by decide +kernel
theorem dX9_reads_68 : decode cX9_reads 68 = .ok (.ireturn, 1) := by decide +kernel
theorem dX9_reads_69 : decode cX9_reads 69 = .ok (.aload_n 0, 1) := by decide +kernel
theorem dX9_reads_70 : decode cX9_reads 70 = .ok (.invokevirtual 79, 3) := by decide +kernel
theorem dX9_reads_73 : decode cX9_reads 73 = .ok (.aload_n 0, 1) := by decide +kernel
theorem dX9_reads_74 : decode cX9_reads 74 = .ok (.getfield 73, 3) := by decide +kernel
theorem dX9_reads_77 : decode cX9_reads 77 = .ok (.iconst 3, 1) := by decide +kernel
theorem dX9_reads_78 : decode cX9_reads 78 = .ok (.if_icmp .eq 5, 3) := by decide +kernel
theorem dX9_reads_81 : decode cX9_reads 81 = .ok (.iconst 0, 1) := by decide +kernel
theorem dX9_reads_82 : decode cX9_reads 82 = .ok (.ireturn, 1) := by decide +kernel
theorem dX9_reads_83 : decode cX9_reads 83 = .ok (.aload_n 0, 1) := by decide +kernel
theorem dX9_reads_84 : decode cX9_reads 84 = .ok (.getfield 16, 3) := by decide +kernel
theorem dX9_reads_87 : decode cX9_reads 87 = .ok (.bipush 6, 2) := by decide +kernel
theorem dX9_reads_89 : decode cX9_reads 89 = .ok (.dup2, 1) := by decide +kernel
theorem dX9_reads_90 : decode cX9_reads 90 = .ok (.iaload, 1) := by decide +kernel
theorem dX9_reads_91 : decode cX9_reads 91 = .ok (.iconst 1, 1) := by decide +kernel
theorem dX9_reads_92 : decode cX9_reads 92 = .ok (.iadd, 1) := by decide +kernel
theorem dX9_reads_93 : decode cX9_reads 93 = .ok (.iastore, 1) := by decide +kernel
theorem dX9_reads_94 : decode cX9_reads 94 = .ok (.aload_n 0, 1) := by decide +kernel
theorem dX9_reads_95 : decode cX9_reads 95 = .ok (.invokevirtual 79, 3) := by decide +kernel
theorem dX9_reads_98 : decode cX9_reads 98 = .ok (.goto (-45), 3) := by decide +kernel
theorem dX9_reads_101 : decode cX9_reads 101 = .ok (.iconst 1, 1) := by decide +kernel
theorem dX9_reads_102 : decode cX9_reads 102 = .ok (.ireturn, 1) := by decide +kernel
theorem dX9_high_0 : decode cX9_high 0 = .ok (.aload_n 0, 1) := by decide +kernel
theorem dX9_high_1 : decode cX9_high 1 = .ok (.getfield 19, 3) := by decide +kernel
theorem dX9_high_4 : decode cX9_high 4 = .ok (.iconst 1, 1) := by decide +kernel
theorem dX9_high_5 : decode cX9_high 5 = .ok (.iaload, 1) := by decide +kernel
theorem dX9_high_6 : decode cX9_high 6 = .ok (.aload_n 0, 1) := by decide +kernel
theorem dX9_high_7 : decode cX9_high 7 = .ok (.getfield 13, 3) := by decide +kernel
theorem dX9_high_10 : decode cX9_high 10 = .ok (.iconst 1, 1) := by decide +kernel
theorem dX9_high_11 : decode cX9_high 11 = .ok (.iaload, 1) := by decide +kernel
theorem dX9_high_12 : decode cX9_high 12 = .ok (.idiv, 1) := by decide +kernel
theorem dX9_high_13 : decode cX9_high 13 = .ok (.ireturn, 1) := by decide +kernel
theorem dX9_begins_0 : decode cX9_begins 0 = .ok (.iconst 0, 1) := by decide +kernel
theorem dX9_begins_1 : decode cX9_begins 1 = .ok (.istore_n 1, 1) := by decide +kernel
theorem dX9_begins_2 : decode cX9_begins 2 = .ok (.iload_n 1, 1) := by decide +kernel
theorem dX9_begins_3 : decode cX9_begins 3 = .ok (.bipush 59, 2) := by decide +kernel
theorem dX9_begins_5 : decode cX9_begins 5 = .ok (.if_icmp .ge 16, 3) := by decide +kernel
theorem dX9_begins_8 : decode cX9_begins 8 = .ok (.aload_n 0, 1) := by decide +kernel
theorem dX9_begins_9 : decode cX9_begins 9 = .ok (.getfield 19, 3) := by decide +kernel
theorem dX9_begins_12 : decode cX9_begins 12 = .ok (.iload_n 1, 1) := by decide +kernel
theorem dX9_begins_13 : decode cX9_begins 13 = .ok (.iconst 0, 1) := by decide +kernel
theorem dX9_begins_14 : decode cX9_begins 14 = .ok (.iastore, 1) := by decide +kernel
theorem dX9_begins_15 : decode cX9_begins 15 = .ok (.iinc 1 1, 3) := by decide +kernel
theorem dX9_begins_18 : decode cX9_begins 18 = .ok (.goto (-16), 3) := by decide +kernel
theorem dX9_begins_21 : decode cX9_begins 21 = .ok (.aload_n 0, 1) := by decide +kernel
theorem dX9_begins_22 : decode cX9_begins 22 = .ok (.getfield 19, 3) := by decide +kernel
theorem dX9_begins_25 : decode cX9_begins 25 = .ok (.iconst 1, 1) := by decide +kernel
theorem dX9_begins_26 : decode cX9_begins 26 = .ok (.aload_n 0, 1) := by decide +kernel
theorem dX9_begins_27 : decode cX9_begins 27 = .ok (.getfield 13, 3) := by decide +kernel
theorem dX9_begins_30 : decode cX9_begins 30 = .ok (.iconst 0, 1) := by decide +kernel
theorem dX9_begins_31 : decode cX9_begins 31 = .ok (.iaload, 1) := by decide +kernel
theorem dX9_begins_32 : decode cX9_begins 32 = .ok (.iastore, 1) := by decide +kernel
theorem dX9_begins_33 : decode cX9_begins 33 = .ok (.aload_n 0, 1) := by decide +kernel
theorem dX9_begins_34 : decode cX9_begins 34 = .ok (.getfield 19, 3) := by decide +kernel
theorem dX9_begins_37 : decode cX9_begins 37 = .ok (.iconst 2, 1) := by decide +kernel
theorem dX9_begins_38 : decode cX9_begins 38 = .ok (.aload_n 0, 1) := by decide +kernel
theorem dX9_begins_39 : decode cX9_begins 39 = .ok (.invokevirtual 88, 3) := by decide +kernel
theorem dX9_begins_42 : decode cX9_begins 42 = .ok (.iastore, 1) := by decide +kernel
theorem dX9_begins_43 : decode cX9_begins 43 = .ok (.iconst 0, 1) := by decide +kernel
theorem dX9_begins_44 : decode cX9_begins 44 = .ok (.istore_n 1, 1) := by decide +kernel
theorem dX9_begins_45 : decode cX9_begins 45 = .ok (.iload_n 1, 1) := by decide +kernel
theorem dX9_begins_46 : decode cX9_begins 46 = .ok (.aload_n 0, 1) := by decide +kernel
theorem dX9_begins_47 : decode cX9_begins 47 = .ok (.getfield 13, 3) := by decide +kernel
theorem dX9_begins_50 : decode cX9_begins 50 = .ok (.iconst 5, 1) := by decide +kernel
theorem dX9_begins_51 : decode cX9_begins 51 = .ok (.iaload, 1) := by decide +kernel
theorem dX9_begins_52 : decode cX9_begins 52 = .ok (.if_icmp .ge 72, 3) := by decide +kernel
theorem dX9_begins_55 : decode cX9_begins 55 = .ok (.aload_n 0, 1) := by decide +kernel
theorem dX9_begins_56 : decode cX9_begins 56 = .ok (.getfield 19, 3) := by decide +kernel
theorem dX9_begins_59 : decode cX9_begins 59 = .ok (.iconst 3, 1) := by decide +kernel
theorem dX9_begins_60 : decode cX9_begins 60 = .ok (.iload_n 1, 1) := by decide +kernel
theorem dX9_begins_61 : decode cX9_begins 61 = .ok (.iadd, 1) := by decide +kernel
theorem dX9_begins_62 : decode cX9_begins 62 = .ok (.aload_n 0, 1) := by decide +kernel
theorem dX9_begins_63 : decode cX9_begins 63 = .ok (.getfield 13, 3) := by decide +kernel
theorem dX9_begins_66 : decode cX9_begins 66 = .ok (.bipush 8, 2) := by decide +kernel
theorem dX9_begins_68 : decode cX9_begins 68 = .ok (.iload_n 1, 1) := by decide +kernel
theorem dX9_begins_69 : decode cX9_begins 69 = .ok (.iadd, 1) := by decide +kernel
theorem dX9_begins_70 : decode cX9_begins 70 = .ok (.iaload, 1) := by decide +kernel
theorem dX9_begins_71 : decode cX9_begins 71 = .ok (.iastore, 1) := by decide +kernel
theorem dX9_begins_72 : decode cX9_begins 72 = .ok (.aload_n 0, 1) := by decide +kernel
theorem dX9_begins_73 : decode cX9_begins 73 = .ok (.getfield 19, 3) := by decide +kernel
theorem dX9_begins_76 : decode cX9_begins 76 = .ok (.bipush 11, 2) := by decide +kernel
theorem dX9_begins_78 : decode cX9_begins 78 = .ok (.iload_n 1, 1) := by decide +kernel
theorem dX9_begins_79 : decode cX9_begins 79 = .ok (.iadd, 1) := by decide +kernel
theorem dX9_begins_80 : decode cX9_begins 80 = .ok (.aload_n 0, 1) := by decide +kernel
theorem dX9_begins_81 : decode cX9_begins 81 = .ok (.getfield 13, 3) := by decide +kernel
theorem dX9_begins_84 : decode cX9_begins 84 = .ok (.bipush 16, 2) := by decide +kernel
theorem dX9_begins_86 : decode cX9_begins 86 = .ok (.iload_n 1, 1) := by decide +kernel
theorem dX9_begins_87 : decode cX9_begins 87 = .ok (.iadd, 1) := by decide +kernel
theorem dX9_begins_88 : decode cX9_begins 88 = .ok (.iaload, 1) := by decide +kernel
theorem dX9_begins_89 : decode cX9_begins 89 = .ok (.iastore, 1) := by decide +kernel
theorem dX9_begins_90 : decode cX9_begins 90 = .ok (.aload_n 0, 1) := by decide +kernel
theorem dX9_begins_91 : decode cX9_begins 91 = .ok (.getfield 19, 3) := by decide +kernel
theorem dX9_begins_94 : decode cX9_begins 94 = .ok (.bipush 19, 2) := by decide +kernel
theorem dX9_begins_96 : decode cX9_begins 96 = .ok (.iload_n 1, 1) := by decide +kernel
theorem dX9_begins_97 : decode cX9_begins 97 = .ok (.iadd, 1) := by decide +kernel
theorem dX9_begins_98 : decode cX9_begins 98 = .ok (.aload_n 0, 1) := by decide +kernel
theorem dX9_begins_99 : decode cX9_begins 99 = .ok (.getfield 13, 3) := by decide +kernel
theorem dX9_begins_102 : decode cX9_begins 102 = .ok (.bipush 24, 2) := by decide +kernel
theorem dX9_begins_104 : decode cX9_begins 104 = .ok (.iload_n 1, 1) := by decide +kernel
theorem dX9_begins_105 : decode cX9_begins 105 = .ok (.iadd, 1) := by decide +kernel
theorem dX9_begins_106 : decode cX9_begins 106 = .ok (.iaload, 1) := by decide +kernel
theorem dX9_begins_107 : decode cX9_begins 107 = .ok (.iastore, 1) := by decide +kernel
theorem dX9_begins_108 : decode cX9_begins 108 = .ok (.aload_n 0, 1) := by decide +kernel
theorem dX9_begins_109 : decode cX9_begins 109 = .ok (.getfield 19, 3) := by decide +kernel
theorem dX9_begins_112 : decode cX9_begins 112 = .ok (.bipush 51, 2) := by decide +kernel
theorem dX9_begins_114 : decode cX9_begins 114 = .ok (.iload_n 1, 1) := by decide +kernel
theorem dX9_begins_115 : decode cX9_begins 115 = .ok (.iadd, 1) := by decide +kernel
theorem dX9_begins_116 : decode cX9_begins 116 = .ok (.iconst 1, 1) := by decide +kernel
theorem dX9_begins_117 : decode cX9_begins 117 = .ok (.iastore, 1) := by decide +kernel
theorem dX9_begins_118 : decode cX9_begins 118 = .ok (.iinc 1 1, 3) := by decide +kernel
theorem dX9_begins_121 : decode cX9_begins 121 = .ok (.goto (-76), 3) := by decide +kernel
theorem dX9_begins_124 : decode cX9_begins 124 = .ok (.return_, 1) := by decide +kernel
theorem dX9_tells_0 : decode cX9_tells 0 = .ok (.iconst 0, 1) := by decide +kernel
theorem dX9_tells_1 : decode cX9_tells 1 = .ok (.istore_n 1, 1) := by decide +kernel
theorem dX9_tells_2 : decode cX9_tells 2 = .ok (.iload_n 1, 1) := by decide +kernel
theorem dX9_tells_3 : decode cX9_tells 3 = .ok (.bipush 32, 2) := by decide +kernel
theorem dX9_tells_5 : decode cX9_tells 5 = .ok (.if_icmp .ge 21, 3) := by decide +kernel
theorem dX9_tells_8 : decode cX9_tells 8 = .ok (.aload_n 0, 1) := by decide +kernel
theorem dX9_tells_9 : decode cX9_tells 9 = .ok (.getfield 13, 3) := by decide +kernel
theorem dX9_tells_12 : decode cX9_tells 12 = .ok (.iload_n 1, 1) := by decide +kernel
theorem dX9_tells_13 : decode cX9_tells 13 = .ok (.aload_n 0, 1) := by decide +kernel
theorem dX9_tells_14 : decode cX9_tells 14 = .ok (.getfield 16, 3) := by decide +kernel
theorem dX9_tells_17 : decode cX9_tells 17 = .ok (.iload_n 1, 1) := by decide +kernel
theorem dX9_tells_18 : decode cX9_tells 18 = .ok (.iaload, 1) := by decide +kernel
theorem dX9_tells_19 : decode cX9_tells 19 = .ok (.iastore, 1) := by decide +kernel
theorem dX9_tells_20 : decode cX9_tells 20 = .ok (.iinc 1 1, 3) := by decide +kernel
theorem dX9_tells_23 : decode cX9_tells 23 = .ok (.goto (-21), 3) := by decide +kernel
theorem dX9_tells_26 : decode cX9_tells 26 = .ok (.aload_n 0, 1) := by decide +kernel
theorem dX9_tells_27 : decode cX9_tells 27 = .ok (.invokevirtual 92, 3) := by decide +kernel
theorem dX9_tells_30 : decode cX9_tells 30 = .ok (.aload_n 0, 1) := by decide +kernel
theorem dX9_tells_31 : decode cX9_tells 31 = .ok (.iconst 0, 1) := by decide +kernel
theorem dX9_tells_32 : decode cX9_tells 32 = .ok (.putfield 95, 3) := by decide +kernel
theorem dX9_tells_35 : decode cX9_tells 35 = .ok (.aload_n 0, 1) := by decide +kernel
theorem dX9_tells_36 : decode cX9_tells 36 = .ok (.iconst 0, 1) := by decide +kernel
theorem dX9_tells_37 : decode cX9_tells 37 = .ok (.putfield 98, 3) := by decide +kernel
theorem dX9_tells_40 : decode cX9_tells 40 = .ok (.aload_n 0, 1) := by decide +kernel
theorem dX9_tells_41 : decode cX9_tells 41 = .ok (.getfield 28, 3) := by decide +kernel
theorem dX9_tells_44 : decode cX9_tells 44 = .ok (.iconst 0, 1) := by decide +kernel
theorem dX9_tells_45 : decode cX9_tells 45 = .ok (.iconst 0, 1) := by decide +kernel
theorem dX9_tells_46 : decode cX9_tells 46 = .ok (.bastore, 1) := by decide +kernel
theorem dX9_tells_47 : decode cX9_tells 47 = .ok (.aload_n 0, 1) := by decide +kernel
theorem dX9_tells_48 : decode cX9_tells 48 = .ok (.getfield 28, 3) := by decide +kernel
theorem dX9_tells_51 : decode cX9_tells 51 = .ok (.iconst 1, 1) := by decide +kernel
theorem dX9_tells_52 : decode cX9_tells 52 = .ok (.iconst 0, 1) := by decide +kernel
theorem dX9_tells_53 : decode cX9_tells 53 = .ok (.bastore, 1) := by decide +kernel
theorem dX9_tells_54 : decode cX9_tells 54 = .ok (.return_, 1) := by decide +kernel
theorem dX9_cellar_0 : decode cX9_cellar 0 = .ok (.aload_n 0, 1) := by decide +kernel
theorem dX9_cellar_1 : decode cX9_cellar 1 = .ok (.invokevirtual 38, 3) := by decide +kernel
theorem dX9_cellar_4 : decode cX9_cellar 4 = .ok (.ifCond .ne 11, 3) := by decide +kernel
theorem dX9_cellar_7 : decode cX9_cellar 7 = .ok (.bipush (-10), 2) := by decide +kernel
theorem dX9_cellar_9 : decode cX9_cellar 9 = .ok (.aload_n 0, 1) := by decide +kernel
theorem dX9_cellar_10 : decode cX9_cellar 10 = .ok (.getfield 64, 3) := by decide +kernel
theorem dX9_cellar_13 : decode cX9_cellar 13 = .ok (.isub, 1) := by decide +kernel
theorem dX9_cellar_14 : decode cX9_cellar 14 = .ok (.ireturn, 1) := by decide +kernel
theorem dX9_cellar_15 : decode cX9_cellar 15 = .ok (.aload_n 0, 1) := by decide +kernel
theorem dX9_cellar_16 : decode cX9_cellar 16 = .ok (.invokevirtual 42, 3) := by decide +kernel
theorem dX9_cellar_19 : decode cX9_cellar 19 = .ok (.aload_n 0, 1) := by decide +kernel
theorem dX9_cellar_20 : decode cX9_cellar 20 = .ok (.iconst 0, 1) := by decide +kernel
theorem dX9_cellar_21 : decode cX9_cellar 21 = .ok (.putfield 53, 3) := by decide +kernel
theorem dX9_cellar_24 : decode cX9_cellar 24 = .ok (.aload_n 0, 1) := by decide +kernel
theorem dX9_cellar_25 : decode cX9_cellar 25 = .ok (.getfield 13, 3) := by decide +kernel
theorem dX9_cellar_28 : decode cX9_cellar 28 = .ok (.bipush 6, 2) := by decide +kernel
theorem dX9_cellar_30 : decode cX9_cellar 30 = .ok (.iaload, 1) := by decide +kernel
theorem dX9_cellar_31 : decode cX9_cellar 31 = .ok (.ireturn, 1) := by decide +kernel
theorem dX9_broom_0 : decode cX9_broom 0 = .ok (.iload_n 1, 1) := by decide +kernel
theorem dX9_broom_1 : decode cX9_broom 1 = .ok (.invokestatic 49, 3) := by decide +kernel
theorem dX9_broom_4 : decode cX9_broom 4 = .ok (.ifCond .eq 29, 3) := by decide +kernel
theorem dX9_broom_7 : decode cX9_broom 7 = .ok (.iload_n 2, 1) := by decide +kernel
theorem dX9_broom_8 : decode cX9_broom 8 = .ok (.iconst 0, 1) := by decide +kernel
theorem dX9_broom_9 : decode cX9_broom 9 = .ok (.bipush 6, 2) := by decide +kernel
theorem dX9_broom_11 : decode cX9_broom 11 = .ok (.invokestatic 45, 3) := by decide +kernel
theorem dX9_broom_14 : decode cX9_broom 14 = .ok (.ifCond .eq 19, 3) := by decide +kernel
theorem dX9_broom_17 : decode cX9_broom 17 = .ok (.aload_n 0, 1) := by decide +kernel
theorem dX9_broom_18 : decode cX9_broom 18 = .ok (.getfield 19, 3) := by decide +kernel
theorem dX9_broom_21 : decode cX9_broom 21 = .ok (.iconst 3, 1) := by decide +kernel
theorem dX9_broom_22 : decode cX9_broom 22 = .ok (.bipush 8, 2) := by decide +kernel
theorem dX9_broom_24 : decode cX9_broom 24 = .ok (.iload_n 2, 1) := by decide +kernel
theorem dX9_broom_25 : decode cX9_broom 25 = .ok (.imul, 1) := by decide +kernel
theorem dX9_broom_26 : decode cX9_broom 26 = .ok (.iadd, 1) := by decide +kernel
theorem dX9_broom_27 : decode cX9_broom 27 = .ok (.iload_n 1, 1) := by decide +kernel
theorem dX9_broom_28 : decode cX9_broom 28 = .ok (.iadd, 1) := by decide +kernel
theorem dX9_broom_29 : decode cX9_broom 29 = .ok (.iaload, 1) := by decide +kernel
theorem dX9_broom_30 : decode cX9_broom 30 = .ok (.goto 4, 3) := by decide +kernel
theorem dX9_broom_33 : decode cX9_broom 33 = .ok (.iconst (-1), 1) := by decide +kernel
theorem dX9_broom_34 : decode cX9_broom 34 = .ok (.ireturn, 1) := by decide +kernel
theorem dX9_there_0 : decode cX9_there 0 = .ok (.iconst 0, 1) := by decide +kernel
theorem dX9_there_1 : decode cX9_there 1 = .ok (.istore_n 1, 1) := by decide +kernel
theorem dX9_there_2 : decode cX9_there 2 = .ok (.iconst 0, 1) := by decide +kernel
theorem dX9_there_3 : decode cX9_there 3 = .ok (.istore_n 2, 1) := by decide +kernel
theorem dX9_there_4 : decode cX9_there 4 = .ok (.iload_n 2, 1) := by decide +kernel
theorem dX9_there_5 : decode cX9_there 5 = .ok (.bipush 8, 2) := by decide +kernel
theorem dX9_there_7 : decode cX9_there 7 = .ok (.if_icmp .ge 23, 3) := by decide +kernel
theorem dX9_there_10 : decode cX9_there 10 = .ok (.iload_n 1, 1) := by decide +kernel
theorem dX9_there_11 : decode cX9_there 11 = .ok (.aload_n 0, 1) := by decide +kernel
theorem dX9_there_12 : decode cX9_there 12 = .ok (.getfield 19, 3) := by decide +kernel
theorem dX9_there_15 : decode cX9_there 15 = .ok (.bipush 51, 2) := by decide +kernel
theorem dX9_there_17 : decode cX9_there 17 = .ok (.iload_n 2, 1) := by decide +kernel
theorem dX9_there_18 : decode cX9_there 18 = .ok (.iadd, 1) := by decide +kernel
theorem dX9_there_19 : decode cX9_there 19 = .ok (.iaload, 1) := by decide +kernel
theorem dX9_there_20 : decode cX9_there 20 = .ok (.iload_n 2, 1) := by decide +kernel
theorem dX9_there_21 : decode cX9_there 21 = .ok (.ishl, 1) := by decide +kernel
theorem dX9_there_22 : decode cX9_there 22 = .ok (.ior, 1) := by decide +kernel
theorem dX9_there_23 : decode cX9_there 23 = .ok (.istore_n 1, 1) := by decide +kernel
theorem dX9_there_24 : decode cX9_there 24 = .ok (.iinc 2 1, 3) := by decide +kernel
theorem dX9_there_27 : decode cX9_there 27 = .ok (.goto (-23), 3) := by decide +kernel
theorem dX9_there_30 : decode cX9_there 30 = .ok (.iload_n 1, 1) := by decide +kernel
theorem dX9_there_31 : decode cX9_there 31 = .ok (.ireturn, 1) := by decide +kernel
theorem dX9_now_0 : decode cX9_now 0 = .ok (.iload_n 1, 1) := by decide +kernel
theorem dX9_now_1 : decode cX9_now 1 = .ok (.iconst 0, 1) := by decide +kernel
theorem dX9_now_2 : decode cX9_now 2 = .ok (.iconst 5, 1) := by decide +kernel
theorem dX9_now_3 : decode cX9_now 3 = .ok (.invokestatic 45, 3) := by decide +kernel
theorem dX9_now_6 : decode cX9_now 6 = .ok (.ifCond .ne 5, 3) := by decide +kernel
theorem dX9_now_9 : decode cX9_now 9 = .ok (.iconst (-1), 1) := by decide +kernel
theorem dX9_now_10 : decode cX9_now 10 = .ok (.ireturn, 1) := by decide +kernel
theorem dX9_now_11 : decode cX9_now 11 = .ok (.iload_n 1, 1) := by decide +kernel
theorem dX9_now_12 : decode cX9_now 12 = .ok (.iconst 2, 1) := by decide +kernel
theorem dX9_now_13 : decode cX9_now 13 = .ok (.if_icmp .ge 12, 3) := by decide +kernel
theorem dX9_now_16 : decode cX9_now 16 = .ok (.aload_n 0, 1) := by decide +kernel
theorem dX9_now_17 : decode cX9_now 17 = .ok (.getfield 19, 3) := by decide +kernel
theorem dX9_now_20 : decode cX9_now 20 = .ok (.iload_n 1, 1) := by decide +kernel
theorem dX9_now_21 : decode cX9_now 21 = .ok (.iaload, 1) := by decide +kernel
theorem dX9_now_22 : decode cX9_now 22 = .ok (.goto 45, 3) := by decide +kernel
theorem dX9_now_25 : decode cX9_now 25 = .ok (.iload_n 1, 1) := by decide +kernel
theorem dX9_now_26 : decode cX9_now 26 = .ok (.iconst 2, 1) := by decide +kernel
theorem dX9_now_27 : decode cX9_now 27 = .ok (.if_icmp .ne 10, 3) := by decide +kernel
theorem dX9_now_30 : decode cX9_now 30 = .ok (.aload_n 0, 1) := by decide +kernel
theorem dX9_now_31 : decode cX9_now 31 = .ok (.invokevirtual 88, 3) := by decide +kernel
theorem dX9_now_34 : decode cX9_now 34 = .ok (.goto 33, 3) := by decide +kernel
theorem dX9_now_37 : decode cX9_now 37 = .ok (.iload_n 1, 1) := by decide +kernel
theorem dX9_now_38 : decode cX9_now 38 = .ok (.iconst 3, 1) := by decide +kernel
theorem dX9_now_39 : decode cX9_now 39 = .ok (.if_icmp .ne 12, 3) := by decide +kernel
theorem dX9_now_42 : decode cX9_now 42 = .ok (.aload_n 0, 1) := by decide +kernel
theorem dX9_now_43 : decode cX9_now 43 = .ok (.getfield 19, 3) := by decide +kernel
theorem dX9_now_46 : decode cX9_now 46 = .ok (.iconst 2, 1) := by decide +kernel
theorem dX9_now_47 : decode cX9_now 47 = .ok (.iaload, 1) := by decide +kernel
theorem dX9_now_48 : decode cX9_now 48 = .ok (.goto 19, 3) := by decide +kernel
theorem dX9_now_51 : decode cX9_now 51 = .ok (.iload_n 1, 1) := by decide +kernel
theorem dX9_now_52 : decode cX9_now 52 = .ok (.iconst 4, 1) := by decide +kernel
theorem dX9_now_53 : decode cX9_now 53 = .ok (.if_icmp .ne 10, 3) := by decide +kernel
theorem dX9_now_56 : decode cX9_now 56 = .ok (.aload_n 0, 1) := by decide +kernel
theorem dX9_now_57 : decode cX9_now 57 = .ok (.invokevirtual 101, 3) := by decide +kernel
theorem dX9_now_60 : decode cX9_now 60 = .ok (.goto 7, 3) := by decide +kernel
theorem dX9_now_63 : decode cX9_now 63 = .ok (.aload_n 0, 1) := by decide +kernel
theorem dX9_now_64 : decode cX9_now 64 = .ok (.getfield 95, 3) := by decide +kernel
theorem dX9_now_67 : decode cX9_now 67 = .ok (.ireturn, 1) := by decide +kernel
theorem dX9_keeps_0 : decode cX9_keeps 0 = .ok (.aload_n 0, 1) := by decide +kernel
theorem dX9_keeps_1 : decode cX9_keeps 1 = .ok (.getfield 95, 3) := by decide +kernel
theorem dX9_keeps_4 : decode cX9_keeps 4 = .ok (.bipush 8, 2) := by decide +kernel
theorem dX9_keeps_6 : decode cX9_keeps 6 = .ok (.if_icmp .ne 43, 3) := by decide +kernel
theorem dX9_keeps_9 : decode cX9_keeps 9 = .ok (.iconst 0, 1) := by decide +kernel
theorem dX9_keeps_10 : decode cX9_keeps 10 = .ok (.istore_n 1, 1) := by decide +kernel
theorem dX9_keeps_11 : decode cX9_keeps 11 = .ok (.iload_n 1, 1) := by decide +kernel
theorem dX9_keeps_12 : decode cX9_keeps 12 = .ok (.sipush 413, 3) := by decide +kernel
theorem dX9_keeps_15 : decode cX9_keeps 15 = .ok (.if_icmp .ge 24, 3) := by decide +kernel
theorem dX9_keeps_18 : decode cX9_keeps 18 = .ok (.aload_n 0, 1) := by decide +kernel
theorem dX9_keeps_19 : decode cX9_keeps 19 = .ok (.getfield 22, 3) := by decide +kernel
theorem dX9_keeps_22 : decode cX9_keeps 22 = .ok (.iload_n 1, 1) := by decide +kernel
theorem dX9_keeps_23 : decode cX9_keeps 23 = .ok (.aload_n 0, 1) := by decide +kernel
theorem dX9_keeps_24 : decode cX9_keeps 24 = .ok (.getfield 22, 3) := by decide +kernel
theorem dX9_keeps_27 : decode cX9_keeps 27 = .ok (.iload_n 1, 1) := by decide +kernel
theorem dX9_keeps_28 : decode cX9_keeps 28 = .ok (.bipush 59, 2) := by decide +kernel
theorem dX9_keeps_30 : decode cX9_keeps 30 = .ok (.iadd, 1) := by decide +kernel
theorem dX9_keeps_31 : decode cX9_keeps 31 = .ok (.iaload, 1) := by decide +kernel
theorem dX9_keeps_32 : decode cX9_keeps 32 = .ok (.iastore, 1) := by decide +kernel
theorem dX9_keeps_33 : decode cX9_keeps 33 = .ok (.iinc 1 1, 3) := by decide +kernel
theorem dX9_keeps_36 : decode cX9_keeps 36 = .ok (.goto (-25), 3) := by decide +kernel
theorem dX9_keeps_39 : decode cX9_keeps 39 = .ok (.aload_n 0, 1) := by decide +kernel
theorem dX9_keeps_40 : decode cX9_keeps 40 = .ok (.dup, 1) := by decide +kernel
theorem dX9_keeps_41 : decode cX9_keeps 41 = .ok (.getfield 95, 3) := by decide +kernel
theorem dX9_keeps_44 : decode cX9_keeps 44 = .ok (.iconst 1, 1) := by decide +kernel
theorem dX9_keeps_45 : decode cX9_keeps 45 = .ok (.isub, 1) := by decide +kernel
theorem dX9_keeps_46 : decode cX9_keeps 46 = .ok (.putfield 95, 3) := by decide +kernel
theorem dX9_keeps_49 : decode cX9_keeps 49 = .ok (.iconst 0, 1) := by decide +kernel
theorem dX9_keeps_50 : decode cX9_keeps 50 = .ok (.istore_n 1, 1) := by decide +kernel
theorem dX9_keeps_51 : decode cX9_keeps 51 = .ok (.iload_n 1, 1) := by decide +kernel
theorem dX9_keeps_52 : decode cX9_keeps 52 = .ok (.bipush 59, 2) := by decide +kernel
theorem dX9_keeps_54 : decode cX9_keeps 54 = .ok (.if_icmp .ge 29, 3) := by decide +kernel
theorem dX9_keeps_57 : decode cX9_keeps 57 = .ok (.aload_n 0, 1) := by decide +kernel
theorem dX9_keeps_58 : decode cX9_keeps 58 = .ok (.getfield 22, 3) := by decide +kernel
theorem dX9_keeps_61 : decode cX9_keeps 61 = .ok (.bipush 59, 2) := by decide +kernel
theorem dX9_keeps_63 : decode cX9_keeps 63 = .ok (.aload_n 0, 1) := by decide +kernel
theorem dX9_keeps_64 : decode cX9_keeps 64 = .ok (.getfield 95, 3) := by decide +kernel
theorem dX9_keeps_67 : decode cX9_keeps 67 = .ok (.imul, 1) := by decide +kernel
theorem dX9_keeps_68 : decode cX9_keeps 68 = .ok (.iload_n 1, 1) := by decide +kernel
theorem dX9_keeps_69 : decode cX9_keeps 69 = .ok (.iadd, 1) := by decide +kernel
theorem dX9_keeps_70 : decode cX9_keeps 70 = .ok (.aload_n 0, 1) := by decide +kernel
theorem dX9_keeps_71 : decode cX9_keeps 71 = .ok (.getfield 19, 3) := by decide +kernel
theorem dX9_keeps_74 : decode cX9_keeps 74 = .ok (.iload_n 1, 1) := by decide +kernel
theorem dX9_keeps_75 : decode cX9_keeps 75 = .ok (.iaload, 1) := by decide +kernel
theorem dX9_keeps_76 : decode cX9_keeps 76 = .ok (.iastore, 1) := by decide +kernel
theorem dX9_keeps_77 : decode cX9_keeps 77 = .ok (.iinc 1 1, 3) := by decide +kernel
theorem dX9_keeps_80 : decode cX9_keeps 80 = .ok (.goto (-29), 3) := by decide +kernel
theorem dX9_keeps_83 : decode cX9_keeps 83 = .ok (.aload_n 0, 1) := by decide +kernel
theorem dX9_keeps_84 : decode cX9_keeps 84 = .ok (.dup, 1) := by decide +kernel
theorem dX9_keeps_85 : decode cX9_keeps 85 = .ok (.getfield 95, 3) := by decide +kernel
theorem dX9_keeps_88 : decode cX9_keeps 88 = .ok (.iconst 1, 1) := by decide +kernel
theorem dX9_keeps_89 : decode cX9_keeps 89 = .ok (.iadd, 1) := by decide +kernel
theorem dX9_keeps_90 : decode cX9_keeps 90 = .ok (.putfield 95, 3) := by decide +kernel
theorem dX9_keeps_93 : decode cX9_keeps 93 = .ok (.return_, 1) := by decide +kernel
theorem dX9_carries_0 : decode cX9_carries 0 = .ok (.aload_n 0, 1) := by decide +kernel
theorem dX9_carries_1 : decode cX9_carries 1 = .ok (.getfield 19, 3) := by decide +kernel
theorem dX9_carries_4 : decode cX9_carries 4 = .ok (.bipush 35, 2) := by decide +kernel
theorem dX9_carries_6 : decode cX9_carries 6 = .ok (.iload_n 1, 1) := by decide +kernel
theorem dX9_carries_7 : decode cX9_carries 7 = .ok (.iadd, 1) := by decide +kernel
theorem dX9_carries_8 : decode cX9_carries 8 = .ok (.iaload, 1) := by decide +kernel
theorem dX9_carries_9 : decode cX9_carries 9 = .ok (.iconst 1, 1) := by decide +kernel
theorem dX9_carries_10 : decode cX9_carries 10 = .ok (.if_icmp .ne 16, 3) := by decide +kernel
theorem dX9_carries_13 : decode cX9_carries 13 = .ok (.aload_n 0, 1) := by decide +kernel
theorem dX9_carries_14 : decode cX9_carries 14 = .ok (.getfield 19, 3) := by decide +kernel
theorem dX9_carries_17 : decode cX9_carries 17 = .ok (.iconst 3, 1) := by decide +kernel
theorem dX9_carries_18 : decode cX9_carries 18 = .ok (.iload_n 1, 1) := by decide +kernel
theorem dX9_carries_19 : decode cX9_carries 19 = .ok (.iadd, 1) := by decide +kernel
theorem dX9_carries_20 : decode cX9_carries 20 = .ok (.iaload, 1) := by decide +kernel
theorem dX9_carries_21 : decode cX9_carries 21 = .ok (.iconst 2, 1) := by decide +kernel
theorem dX9_carries_22 : decode cX9_carries 22 = .ok (.idiv, 1) := by decide +kernel
theorem dX9_carries_23 : decode cX9_carries 23 = .ok (.goto 11, 3) := by decide +kernel
theorem dX9_carries_26 : decode cX9_carries 26 = .ok (.aload_n 0, 1) := by decide +kernel
theorem dX9_carries_27 : decode cX9_carries 27 = .ok (.getfield 19, 3) := by decide +kernel
theorem dX9_carries_30 : decode cX9_carries 30 = .ok (.iconst 3, 1) := by decide +kernel
theorem dX9_carries_31 : decode cX9_carries 31 = .ok (.iload_n 1, 1) := by decide +kernel
theorem dX9_carries_32 : decode cX9_carries 32 = .ok (.iadd, 1) := by decide +kernel
theorem dX9_carries_33 : decode cX9_carries 33 = .ok (.iaload, 1) := by decide +kernel
theorem dX9_carries_34 : decode cX9_carries 34 = .ok (.ireturn, 1) := by decide +kernel
theorem dX9_goes_0 : decode cX9_goes 0 = .ok (.iconst 0, 1) := by decide +kernel
theorem dX9_goes_1 : decode cX9_goes 1 = .ok (.istore_n 1, 1) := by decide +kernel
theorem dX9_goes_2 : decode cX9_goes 2 = .ok (.aload_n 0, 1) := by decide +kernel
theorem dX9_goes_3 : decode cX9_goes 3 = .ok (.getfield 104, 3) := by decide +kernel
theorem dX9_goes_6 : decode cX9_goes 6 = .ok (.istore_n 2, 1) := by decide +kernel
theorem dX9_goes_7 : decode cX9_goes 7 = .ok (.iconst 0, 1) := by decide +kernel
theorem dX9_goes_8 : decode cX9_goes 8 = .ok (.istore_n 3, 1) := by decide +kernel
theorem dX9_goes_9 : decode cX9_goes 9 = .ok (.iload_n 3, 1) := by decide +kernel
theorem dX9_goes_10 : decode cX9_goes 10 = .ok (.bipush 8, 2) := by decide +kernel
theorem dX9_goes_12 : decode cX9_goes 12 = .ok (.if_icmp .ge 161, 3) := by decide +kernel
theorem dX9_goes_15 : decode cX9_goes 15 = .ok (.aload_n 0, 1) := by decide +kernel
theorem dX9_goes_16 : decode cX9_goes 16 = .ok (.getfield 19, 3) := by decide +kernel
theorem dX9_goes_19 : decode cX9_goes 19 = .ok (.bipush 19, 2) := by decide +kernel
theorem dX9_goes_21 : decode cX9_goes 21 = .ok (.iload_n 3, 1) := by decide +kernel
theorem dX9_goes_22 : decode cX9_goes 22 = .ok (.iadd, 1) := by decide +kernel
theorem dX9_goes_23 : decode cX9_goes 23 = .ok (.dup2, 1) := by decide +kernel
theorem dX9_goes_24 : decode cX9_goes 24 = .ok (.iaload, 1) := by decide +kernel
theorem dX9_goes_25 : decode cX9_goes 25 = .ok (.aload_n 0, 1) := by decide +kernel
theorem dX9_goes_26 : decode cX9_goes 26 = .ok (.getfield 19, 3) := by decide +kernel
theorem dX9_goes_29 : decode cX9_goes 29 = .ok (.bipush 51, 2) := by decide +kernel
theorem dX9_goes_31 : decode cX9_goes 31 = .ok (.iload_n 3, 1) := by decide +kernel
theorem dX9_goes_32 : decode cX9_goes 32 = .ok (.iadd, 1) := by decide +kernel
theorem dX9_goes_33 : decode cX9_goes 33 = .ok (.iaload, 1) := by decide +kernel
theorem dX9_goes_34 : decode cX9_goes 34 = .ok (.isub, 1) := by decide +kernel
theorem dX9_goes_35 : decode cX9_goes 35 = .ok (.iastore, 1) := by decide +kernel
theorem dX9_goes_36 : decode cX9_goes 36 = .ok (.aload_n 0, 1) := by decide +kernel
theorem dX9_goes_37 : decode cX9_goes 37 = .ok (.getfield 19, 3) := by decide +kernel
theorem dX9_goes_40 : decode cX9_goes 40 = .ok (.bipush 51, 2) := by decide +kernel
theorem dX9_goes_42 : decode cX9_goes 42 = .ok (.iload_n 3, 1) := by decide +kernel
theorem dX9_goes_43 : decode cX9_goes 43 = .ok (.iadd, 1) := by decide +kernel
theorem dX9_goes_44 : decode cX9_goes 44 = .ok (.iaload, 1) := by decide +kernel
theorem dX9_goes_45 : decode cX9_goes 45 = .ok (.iconst 1, 1) := by decide +kernel
theorem dX9_goes_46 : decode cX9_goes 46 = .ok (.if_icmp .ne 121, 3) := by decide +kernel
theorem dX9_goes_49 : decode cX9_goes 49 = .ok (.aload_n 0, 1) := by decide +kernel
theorem dX9_goes_50 : decode cX9_goes 50 = .ok (.getfield 19, 3) := by decide +kernel
theorem dX9_goes_53 : decode cX9_goes 53 = .ok (.bipush 19, 2) := by decide +kernel
theorem dX9_goes_55 : decode cX9_goes 55 = .ok (.iload_n 3, 1) := by decide +kernel
theorem dX9_goes_56 : decode cX9_goes 56 = .ok (.iadd, 1) := by decide +kernel
theorem dX9_goes_57 : decode cX9_goes 57 = .ok (.iaload, 1) := by decide +kernel
theorem dX9_goes_58 : decode cX9_goes 58 = .ok (.ifCond .gt 109, 3) := by decide +kernel
theorem dX9_goes_61 : decode cX9_goes 61 = .ok (.iload_n 2, 1) := by decide +kernel
theorem dX9_goes_62 : decode cX9_goes 62 = .ok (.ifCond .le 105, 3) := by decide +kernel
theorem dX9_goes_65 : decode cX9_goes 65 = .ok (.iinc 2 (-1), 3) := by decide +kernel
theorem dX9_goes_68 : decode cX9_goes 68 = .ok (.iload_n 1, 1) := by decide +kernel
theorem dX9_goes_69 : decode cX9_goes 69 = .ok (.iconst 1, 1) := by decide +kernel
theorem dX9_goes_70 : decode cX9_goes 70 = .ok (.iload_n 3, 1) := by decide +kernel
theorem dX9_goes_71 : decode cX9_goes 71 = .ok (.ishl, 1) := by decide +kernel
theorem dX9_goes_72 : decode cX9_goes 72 = .ok (.ior, 1) := by decide +kernel
theorem dX9_goes_73 : decode cX9_goes 73 = .ok (.istore_n 1, 1) := by decide +kernel
theorem dX9_goes_74 : decode cX9_goes 74 = .ok (.aload_n 0, 1) := by decide +kernel
theorem dX9_goes_75 : decode cX9_goes 75 = .ok (.getfield 19, 3) := by decide +kernel
theorem dX9_goes_78 : decode cX9_goes 78 = .ok (.iconst 1, 1) := by decide +kernel
theorem dX9_goes_79 : decode cX9_goes 79 = .ok (.iaload, 1) := by decide +kernel
theorem dX9_goes_80 : decode cX9_goes 80 = .ok (.aload_n 0, 1) := by decide +kernel
theorem dX9_goes_81 : decode cX9_goes 81 = .ok (.getfield 19, 3) := by decide +kernel
theorem dX9_goes_84 : decode cX9_goes 84 = .ok (.bipush 27, 2) := by decide +kernel
theorem dX9_goes_86 : decode cX9_goes 86 = .ok (.iload_n 3, 1) := by decide +kernel
theorem dX9_goes_87 : decode cX9_goes 87 = .ok (.iadd, 1) := by decide +kernel
theorem dX9_goes_88 : decode cX9_goes 88 = .ok (.iaload, 1) := by decide +kernel
theorem dX9_goes_89 : decode cX9_goes 89 = .ok (.iconst 1, 1) := by decide +kernel
theorem dX9_goes_90 : decode cX9_goes 90 = .ok (.if_icmp .ne 12, 3) := by decide +kernel
theorem dX9_goes_93 : decode cX9_goes 93 = .ok (.aload_n 0, 1) := by decide +kernel
theorem dX9_goes_94 : decode cX9_goes 94 = .ok (.iload_n 3, 1) := by decide +kernel
theorem dX9_goes_95 : decode cX9_goes 95 = .ok (.invokevirtual 107, 3) := by decide +kernel
theorem dX9_goes_98 : decode cX9_goes 98 = .ok (.ineg, 1) := by decide +kernel
theorem dX9_goes_99 : decode cX9_goes 99 = .ok (.goto 8, 3) := by decide +kernel
theorem dX9_goes_102 : decode cX9_goes 102 = .ok (.aload_n 0, 1) := by decide +kernel
theorem dX9_goes_103 : decode cX9_goes 103 = .ok (.iload_n 3, 1) := by decide +kernel
theorem dX9_goes_104 : decode cX9_goes 104 = .ok (.invokevirtual 107, 3) := by decide +kernel
theorem dX9_goes_107 : decode cX9_goes 107 = .ok (.iadd, 1) := by decide +kernel
theorem dX9_goes_108 : decode cX9_goes 108 = .ok (.istore 4, 2) := by decide +kernel
theorem dX9_goes_110 : decode cX9_goes 110 = .ok (.aload_n 0, 1) := by decide +kernel
theorem dX9_goes_111 : decode cX9_goes 111 = .ok (.getfield 19, 3) := by decide +kernel
theorem dX9_goes_114 : decode cX9_goes 114 = .ok (.iconst 1, 1) := by decide +kernel
theorem dX9_goes_115 : decode cX9_goes 115 = .ok (.iload 4, 2) := by decide +kernel
theorem dX9_goes_117 : decode cX9_goes 117 = .ok (.ifCond .ge 7, 3) := by decide +kernel
theorem dX9_goes_120 : decode cX9_goes 120 = .ok (.iconst 0, 1) := by decide +kernel
theorem dX9_goes_121 : decode cX9_goes 121 = .ok (.goto 17, 3) := by decide +kernel
theorem dX9_goes_124 : decode cX9_goes 124 = .ok (.iload 4, 2) := by decide +kernel
theorem dX9_goes_126 : decode cX9_goes 126 = .ok (.ldc 110, 2) := by decide +kernel
theorem dX9_goes_128 : decode cX9_goes 128 = .ok (.if_icmp .le 8, 3) := by decide +kernel
theorem dX9_goes_131 : decode cX9_goes 131 = .ok (.ldc 110, 2) := by decide +kernel
theorem dX9_goes_133 : decode cX9_goes 133 = .ok (.goto 5, 3) := by decide +kernel
theorem dX9_goes_136 : decode cX9_goes 136 = .ok (.iload 4, 2) := by decide +kernel
theorem dX9_goes_138 : decode cX9_goes 138 = .ok (.iastore, 1) := by decide +kernel
theorem dX9_goes_139 : decode cX9_goes 139 = .ok (.aload_n 0, 1) := by decide +kernel
theorem dX9_goes_140 : decode cX9_goes 140 = .ok (.getfield 19, 3) := by decide +kernel
theorem dX9_goes_143 : decode cX9_goes 143 = .ok (.bipush 19, 2) := by decide +kernel
theorem dX9_goes_145 : decode cX9_goes 145 = .ok (.iload_n 3, 1) := by decide +kernel
theorem dX9_goes_146 : decode cX9_goes 146 = .ok (.iadd, 1) := by decide +kernel
theorem dX9_goes_147 : decode cX9_goes 147 = .ok (.aload_n 0, 1) := by decide +kernel
theorem dX9_goes_148 : decode cX9_goes 148 = .ok (.getfield 19, 3) := by decide +kernel
theorem dX9_goes_151 : decode cX9_goes 151 = .ok (.bipush 11, 2) := by decide +kernel
theorem dX9_goes_153 : decode cX9_goes 153 = .ok (.iload_n 3, 1) := by decide +kernel
theorem dX9_goes_154 : decode cX9_goes 154 = .ok (.iadd, 1) := by decide +kernel
theorem dX9_goes_155 : decode cX9_goes 155 = .ok (.iaload, 1) := by decide +kernel
theorem dX9_goes_156 : decode cX9_goes 156 = .ok (.iastore, 1) := by decide +kernel
theorem dX9_goes_157 : decode cX9_goes 157 = .ok (.aload_n 0, 1) := by decide +kernel
theorem dX9_goes_158 : decode cX9_goes 158 = .ok (.getfield 19, 3) := by decide +kernel
theorem dX9_goes_161 : decode cX9_goes 161 = .ok (.bipush 43, 2) := by decide +kernel
theorem dX9_goes_163 : decode cX9_goes 163 = .ok (.iload_n 3, 1) := by decide +kernel
theorem dX9_goes_164 : decode cX9_goes 164 = .ok (.iadd, 1) := by decide +kernel
theorem dX9_goes_165 : decode cX9_goes 165 = .ok (.iconst 1, 1) := by decide +kernel
theorem dX9_goes_166 : decode cX9_goes 166 = .ok (.iastore, 1) := by decide +kernel
theorem dX9_goes_167 : decode cX9_goes 167 = .ok (.iinc 3 1, 3) := by decide +kernel
theorem dX9_goes_170 : decode cX9_goes 170 = .ok (.goto (-161), 3) := by decide +kernel
theorem dX9_goes_173 : decode cX9_goes 173 = .ok (.aload_n 0, 1) := by decide +kernel
theorem dX9_goes_174 : decode cX9_goes 174 = .ok (.aload_n 0, 1) := by decide +kernel
theorem dX9_goes_175 : decode cX9_goes 175 = .ok (.getfield 19, 3) := by decide +kernel
theorem dX9_goes_178 : decode cX9_goes 178 = .ok (.iconst 1, 1) := by decide +kernel
theorem dX9_goes_179 : decode cX9_goes 179 = .ok (.iaload, 1) := by decide +kernel
theorem dX9_goes_180 : decode cX9_goes 180 = .ok (.aload_n 0, 1) := by decide +kernel
theorem dX9_goes_181 : decode cX9_goes 181 = .ok (.getfield 111, 3) := by decide +kernel
theorem dX9_goes_184 : decode cX9_goes 184 = .ok (.if_icmp .ge 12, 3) := by decide +kernel
theorem dX9_goes_187 : decode cX9_goes 187 = .ok (.aload_n 0, 1) := by decide +kernel
theorem dX9_goes_188 : decode cX9_goes 188 = .ok (.getfield 19, 3) := by decide +kernel
theorem dX9_goes_191 : decode cX9_goes 191 = .ok (.iconst 1, 1) := by decide +kernel
theorem dX9_goes_192 : decode cX9_goes 192 = .ok (.iaload, 1) := by decide +kernel
theorem dX9_goes_193 : decode cX9_goes 193 = .ok (.goto 7, 3) := by decide +kernel
theorem dX9_goes_196 : decode cX9_goes 196 = .ok (.aload_n 0, 1) := by decide +kernel
theorem dX9_goes_197 : decode cX9_goes 197 = .ok (.getfield 111, 3) := by decide +kernel
theorem dX9_goes_200 : decode cX9_goes 200 = .ok (.putfield 114, 3) := by decide +kernel
theorem dX9_goes_203 : decode cX9_goes 203 = .ok (.aload_n 0, 1) := by decide +kernel
theorem dX9_goes_204 : decode cX9_goes 204 = .ok (.getfield 19, 3) := by decide +kernel
theorem dX9_goes_207 : decode cX9_goes 207 = .ok (.iconst 1, 1) := by decide +kernel
theorem dX9_goes_208 : decode cX9_goes 208 = .ok (.dup2, 1) := by decide +kernel
theorem dX9_goes_209 : decode cX9_goes 209 = .ok (.iaload, 1) := by decide +kernel
theorem dX9_goes_210 : decode cX9_goes 210 = .ok (.aload_n 0, 1) := by decide +kernel
theorem dX9_goes_211 : decode cX9_goes 211 = .ok (.getfield 114, 3) := by decide +kernel
theorem dX9_goes_214 : decode cX9_goes 214 = .ok (.isub, 1) := by decide +kernel
theorem dX9_goes_215 : decode cX9_goes 215 = .ok (.iastore, 1) := by decide +kernel
theorem dX9_goes_216 : decode cX9_goes 216 = .ok (.aload_n 0, 1) := by decide +kernel
theorem dX9_goes_217 : decode cX9_goes 217 = .ok (.getfield 19, 3) := by decide +kernel
theorem dX9_goes_220 : decode cX9_goes 220 = .ok (.iconst 0, 1) := by decide +kernel
theorem dX9_goes_221 : decode cX9_goes 221 = .ok (.dup2, 1) := by decide +kernel
theorem dX9_goes_222 : decode cX9_goes 222 = .ok (.iaload, 1) := by decide +kernel
theorem dX9_goes_223 : decode cX9_goes 223 = .ok (.iconst 1, 1) := by decide +kernel
theorem dX9_goes_224 : decode cX9_goes 224 = .ok (.iadd, 1) := by decide +kernel
theorem dX9_goes_225 : decode cX9_goes 225 = .ok (.iastore, 1) := by decide +kernel
theorem dX9_goes_226 : decode cX9_goes 226 = .ok (.aload_n 0, 1) := by decide +kernel
theorem dX9_goes_227 : decode cX9_goes 227 = .ok (.getfield 19, 3) := by decide +kernel
theorem dX9_goes_230 : decode cX9_goes 230 = .ok (.iconst 2, 1) := by decide +kernel
theorem dX9_goes_231 : decode cX9_goes 231 = .ok (.aload_n 0, 1) := by decide +kernel
theorem dX9_goes_232 : decode cX9_goes 232 = .ok (.invokevirtual 88, 3) := by decide +kernel
theorem dX9_goes_235 : decode cX9_goes 235 = .ok (.aload_n 0, 1) := by decide +kernel
theorem dX9_goes_236 : decode cX9_goes 236 = .ok (.getfield 19, 3) := by decide +kernel
theorem dX9_goes_239 : decode cX9_goes 239 = .ok (.iconst 2, 1) := by decide +kernel
theorem dX9_goes_240 : decode cX9_goes 240 = .ok (.iaload, 1) := by decide +kernel
theorem dX9_goes_241 : decode cX9_goes 241 = .ok (.if_icmp .le 10, 3) := by decide +kernel
theorem dX9_goes_244 : decode cX9_goes 244 = .ok (.aload_n 0, 1) := by decide +kernel
theorem dX9_goes_245 : decode cX9_goes 245 = .ok (.invokevirtual 88, 3) := by decide +kernel
theorem dX9_goes_248 : decode cX9_goes 248 = .ok (.goto 9, 3) := by decide +kernel
theorem dX9_goes_251 : decode cX9_goes 251 = .ok (.aload_n 0, 1) := by decide +kernel
theorem dX9_goes_252 : decode cX9_goes 252 = .ok (.getfield 19, 3) := by decide +kernel
theorem dX9_goes_255 : decode cX9_goes 255 = .ok (.iconst 2, 1) := by decide +kernel
theorem dX9_goes_256 : decode cX9_goes 256 = .ok (.iaload, 1) := by decide +kernel
theorem dX9_goes_257 : decode cX9_goes 257 = .ok (.iastore, 1) := by decide +kernel
theorem dX9_goes_258 : decode cX9_goes 258 = .ok (.iload_n 1, 1) := by decide +kernel
theorem dX9_goes_259 : decode cX9_goes 259 = .ok (.ireturn, 1) := by decide +kernel
theorem dX9_asTold_0 : decode cX9_asTold 0 = .ok (.aload_n 0, 1) := by decide +kernel
theorem dX9_asTold_1 : decode cX9_asTold 1 = .ok (.aload_n 0, 1) := by decide +kernel
theorem dX9_asTold_2 : decode cX9_asTold 2 = .ok (.getfield 13, 3) := by decide +kernel
theorem dX9_asTold_5 : decode cX9_asTold 5 = .ok (.iconst 4, 1) := by decide +kernel
theorem dX9_asTold_6 : decode cX9_asTold 6 = .ok (.iaload, 1) := by decide +kernel
theorem dX9_asTold_7 : decode cX9_asTold 7 = .ok (.putfield 104, 3) := by decide +kernel
theorem dX9_asTold_10 : decode cX9_asTold 10 = .ok (.aload_n 0, 1) := by decide +kernel
theorem dX9_asTold_11 : decode cX9_asTold 11 = .ok (.aload_n 0, 1) := by decide +kernel
theorem dX9_asTold_12 : decode cX9_asTold 12 = .ok (.getfield 13, 3) := by decide +kernel
theorem dX9_asTold_15 : decode cX9_asTold 15 = .ok (.iconst 2, 1) := by decide +kernel
theorem dX9_asTold_16 : decode cX9_asTold 16 = .ok (.iaload, 1) := by decide +kernel
theorem dX9_asTold_17 : decode cX9_asTold 17 = .ok (.putfield 111, 3) := by decide +kernel
theorem dX9_asTold_20 : decode cX9_asTold 20 = .ok (.return_, 1) := by decide +kernel
theorem dX9_minute_0 : decode cX9_minute 0 = .ok (.aload_n 0, 1) := by decide +kernel
theorem dX9_minute_1 : decode cX9_minute 1 = .ok (.getfield 19, 3) := by decide +kernel
theorem dX9_minute_4 : decode cX9_minute 4 = .ok (.iconst 0, 1) := by decide +kernel
theorem dX9_minute_5 : decode cX9_minute 5 = .ok (.iaload, 1) := by decide +kernel
theorem dX9_minute_6 : decode cX9_minute 6 = .ok (.sipush 9999, 3) := by decide +kernel
theorem dX9_minute_9 : decode cX9_minute 9 = .ok (.if_icmp .ne 6, 3) := by decide +kernel
theorem dX9_minute_12 : decode cX9_minute 12 = .ok (.bipush (-2), 2) := by decide +kernel
theorem dX9_minute_14 : decode cX9_minute 14 = .ok (.ireturn, 1) := by decide +kernel
theorem dX9_minute_15 : decode cX9_minute 15 = .ok (.aload_n 0, 1) := by decide +kernel
theorem dX9_minute_16 : decode cX9_minute 16 = .ok (.invokevirtual 117, 3) := by decide +kernel
theorem dX9_minute_19 : decode cX9_minute 19 = .ok (.aload_n 0, 1) := by decide +kernel
theorem dX9_minute_20 : decode cX9_minute 20 = .ok (.invokevirtual 120, 3) := by decide +kernel
theorem dX9_minute_23 : decode cX9_minute 23 = .ok (.aload_n 0, 1) := by decide +kernel
theorem dX9_minute_24 : decode cX9_minute 24 = .ok (.invokevirtual 123, 3) := by decide +kernel
theorem dX9_minute_27 : decode cX9_minute 27 = .ok (.pop, 1) := by decide +kernel
theorem dX9_minute_28 : decode cX9_minute 28 = .ok (.aload_n 0, 1) := by decide +kernel
theorem dX9_minute_29 : decode cX9_minute 29 = .ok (.invokevirtual 88, 3) := by decide +kernel
theorem dX9_minute_32 : decode cX9_minute 32 = .ok (.ireturn, 1) := by decide +kernel
theorem dX9_free_0 : decode cX9_free 0 = .ok (.bipush (-9), 2) := by decide +kernel
theorem dX9_free_2 : decode cX9_free 2 = .ok (.istore_n 1, 1) := by decide +kernel
theorem dX9_free_3 : decode cX9_free 3 = .ok (.bipush 7, 2) := by decide +kernel
theorem dX9_free_5 : decode cX9_free 5 = .ok (.istore_n 2, 1) := by decide +kernel
theorem dX9_free_6 : decode cX9_free 6 = .ok (.iload_n 2, 1) := by decide +kernel
theorem dX9_free_7 : decode cX9_free 7 = .ok (.ifCond .lt 27, 3) := by decide +kernel
theorem dX9_free_10 : decode cX9_free 10 = .ok (.aload_n 0, 1) := by decide +kernel
theorem dX9_free_11 : decode cX9_free 11 = .ok (.getfield 19, 3) := by decide +kernel
theorem dX9_free_14 : decode cX9_free 14 = .ok (.bipush 51, 2) := by decide +kernel
theorem dX9_free_16 : decode cX9_free 16 = .ok (.iload_n 2, 1) := by decide +kernel
theorem dX9_free_17 : decode cX9_free 17 = .ok (.iadd, 1) := by decide +kernel
theorem dX9_free_18 : decode cX9_free 18 = .ok (.iaload, 1) := by decide +kernel
theorem dX9_free_19 : decode cX9_free 19 = .ok (.ifCond .ne 7, 3) := by decide +kernel
theorem dX9_free_22 : decode cX9_free 22 = .ok (.iload_n 2, 1) := by decide +kernel
theorem dX9_free_23 : decode cX9_free 23 = .ok (.goto 4, 3) := by decide +kernel
theorem dX9_free_26 : decode cX9_free 26 = .ok (.iload_n 1, 1) := by decide +kernel
theorem dX9_free_27 : decode cX9_free 27 = .ok (.istore_n 1, 1) := by decide +kernel
theorem dX9_free_28 : decode cX9_free 28 = .ok (.iinc 2 (-1), 3) := by decide +kernel
theorem dX9_free_31 : decode cX9_free 31 = .ok (.goto (-25), 3) := by decide +kernel
theorem dX9_free_34 : decode cX9_free 34 = .ok (.iload_n 1, 1) := by decide +kernel
theorem dX9_free_35 : decode cX9_free 35 = .ok (.ireturn, 1) := by decide +kernel
theorem dX9_splitsNow_0 : decode cX9_splitsNow 0 = .ok (.aload_n 0, 1) := by decide +kernel
theorem dX9_splitsNow_1 : decode cX9_splitsNow 1 = .ok (.invokevirtual 126, 3) := by decide +kernel
theorem dX9_splitsNow_4 : decode cX9_splitsNow 4 = .ok (.istore_n 2, 1) := by decide +kernel
theorem dX9_splitsNow_5 : decode cX9_splitsNow 5 = .ok (.aload_n 0, 1) := by decide +kernel
theorem dX9_splitsNow_6 : decode cX9_splitsNow 6 = .ok (.getfield 19, 3) := by decide +kernel
theorem dX9_splitsNow_9 : decode cX9_splitsNow 9 = .ok (.iconst 3, 1) := by decide +kernel
theorem dX9_splitsNow_10 : decode cX9_splitsNow 10 = .ok (.iload_n 1, 1) := by decide +kernel
theorem dX9_splitsNow_11 : decode cX9_splitsNow 11 = .ok (.iadd, 1) := by decide +kernel
theorem dX9_splitsNow_12 : decode cX9_splitsNow 12 = .ok (.iaload, 1) := by decide +kernel
theorem dX9_splitsNow_13 : decode cX9_splitsNow 13 = .ok (.iconst 1, 1) := by decide +kernel
theorem dX9_splitsNow_14 : decode cX9_splitsNow 14 = .ok (.if_icmp .ne 16, 3) := by decide +kernel
theorem dX9_splitsNow_17 : decode cX9_splitsNow 17 = .ok (.aload_n 0, 1) := by decide +kernel
theorem dX9_splitsNow_18 : decode cX9_splitsNow 18 = .ok (.getfield 19, 3) := by decide +kernel
theorem dX9_splitsNow_21 : decode cX9_splitsNow 21 = .ok (.bipush 51, 2) := by decide +kernel
theorem dX9_splitsNow_23 : decode cX9_splitsNow 23 = .ok (.iload_n 1, 1) := by decide +kernel
theorem dX9_splitsNow_24 : decode cX9_splitsNow 24 = .ok (.iadd, 1) := by decide +kernel
theorem dX9_splitsNow_25 : decode cX9_splitsNow 25 = .ok (.iconst 0, 1) := by decide +kernel
theorem dX9_splitsNow_26 : decode cX9_splitsNow 26 = .ok (.iastore, 1) := by decide +kernel
theorem dX9_splitsNow_27 : decode cX9_splitsNow 27 = .ok (.bipush (-9), 2) := by decide +kernel
theorem dX9_splitsNow_29 : decode cX9_splitsNow 29 = .ok (.ireturn, 1) := by decide +kernel
theorem dX9_splitsNow_30 : decode cX9_splitsNow 30 = .ok (.aload_n 0, 1) := by decide +kernel
theorem dX9_splitsNow_31 : decode cX9_splitsNow 31 = .ok (.getfield 19, 3) := by decide +kernel
theorem dX9_splitsNow_34 : decode cX9_splitsNow 34 = .ok (.iconst 3, 1) := by decide +kernel
theorem dX9_splitsNow_35 : decode cX9_splitsNow 35 = .ok (.iload_n 1, 1) := by decide +kernel
theorem dX9_splitsNow_36 : decode cX9_splitsNow 36 = .ok (.iadd, 1) := by decide +kernel
theorem dX9_splitsNow_37 : decode cX9_splitsNow 37 = .ok (.dup2, 1) := by decide +kernel
theorem dX9_splitsNow_38 : decode cX9_splitsNow 38 = .ok (.iaload, 1) := by decide +kernel
theorem dX9_splitsNow_39 : decode cX9_splitsNow 39 = .ok (.iconst 2, 1) := by decide +kernel
theorem dX9_splitsNow_40 : decode cX9_splitsNow 40 = .ok (.idiv, 1) := by decide +kernel
theorem dX9_splitsNow_41 : decode cX9_splitsNow 41 = .ok (.iastore, 1) := by decide +kernel
theorem dX9_splitsNow_42 : decode cX9_splitsNow 42 = .ok (.aload_n 0, 1) := by decide +kernel
theorem dX9_splitsNow_43 : decode cX9_splitsNow 43 = .ok (.getfield 19, 3) := by decide +kernel
theorem dX9_splitsNow_46 : decode cX9_splitsNow 46 = .ok (.bipush 11, 2) := by decide +kernel
theorem dX9_splitsNow_48 : decode cX9_splitsNow 48 = .ok (.iload_n 1, 1) := by decide +kernel
theorem dX9_splitsNow_49 : decode cX9_splitsNow 49 = .ok (.iadd, 1) := by decide +kernel
theorem dX9_splitsNow_50 : decode cX9_splitsNow 50 = .ok (.iconst 2, 1) := by decide +kernel
theorem dX9_splitsNow_51 : decode cX9_splitsNow 51 = .ok (.aload_n 0, 1) := by decide +kernel
theorem dX9_splitsNow_52 : decode cX9_splitsNow 52 = .ok (.getfield 19, 3) := by decide +kernel
theorem dX9_splitsNow_55 : decode cX9_splitsNow 55 = .ok (.bipush 11, 2) := by decide +kernel
theorem dX9_splitsNow_57 : decode cX9_splitsNow 57 = .ok (.iload_n 1, 1) := by decide +kernel
theorem dX9_splitsNow_58 : decode cX9_splitsNow 58 = .ok (.iadd, 1) := by decide +kernel
theorem dX9_splitsNow_59 : decode cX9_splitsNow 59 = .ok (.iaload, 1) := by decide +kernel
theorem dX9_splitsNow_60 : decode cX9_splitsNow 60 = .ok (.imul, 1) := by decide +kernel
theorem dX9_splitsNow_61 : decode cX9_splitsNow 61 = .ok (.bipush 40, 2) := by decide +kernel
theorem dX9_splitsNow_63 : decode cX9_splitsNow 63 = .ok (.if_icmp .le 8, 3) := by decide +kernel
theorem dX9_splitsNow_66 : decode cX9_splitsNow 66 = .ok (.bipush 40, 2) := by decide +kernel
theorem dX9_splitsNow_68 : decode cX9_splitsNow 68 = .ok (.goto 14, 3) := by decide +kernel
theorem dX9_splitsNow_71 : decode cX9_splitsNow 71 = .ok (.iconst 2, 1) := by decide +kernel
theorem dX9_splitsNow_72 : decode cX9_splitsNow 72 = .ok (.aload_n 0, 1) := by decide +kernel
theorem dX9_splitsNow_73 : decode cX9_splitsNow 73 = .ok (.getfield 19, 3) := by decide +kernel
theorem dX9_splitsNow_76 : decode cX9_splitsNow 76 = .ok (.bipush 11, 2) := by decide +kernel
theorem dX9_splitsNow_78 : decode cX9_splitsNow 78 = .ok (.iload_n 1, 1) := by decide +kernel
theorem dX9_splitsNow_79 : decode cX9_splitsNow 79 = .ok (.iadd, 1) := by decide +kernel
theorem dX9_splitsNow_80 : decode cX9_splitsNow 80 = .ok (.iaload, 1) := by decide +kernel
theorem dX9_splitsNow_81 : decode cX9_splitsNow 81 = .ok (.imul, 1) := by decide +kernel
theorem dX9_splitsNow_82 : decode cX9_splitsNow 82 = .ok (.iastore, 1) := by decide +kernel
theorem dX9_splitsNow_83 : decode cX9_splitsNow 83 = .ok (.iconst 0, 1) := by decide +kernel
theorem dX9_splitsNow_84 : decode cX9_splitsNow 84 = .ok (.istore_n 3, 1) := by decide +kernel
theorem dX9_splitsNow_85 : decode cX9_splitsNow 85 = .ok (.iload_n 3, 1) := by decide +kernel
theorem dX9_splitsNow_86 : decode cX9_splitsNow 86 = .ok (.bipush 7, 2) := by decide +kernel
theorem dX9_splitsNow_88 : decode cX9_splitsNow 88 = .ok (.if_icmp .ge 35, 3) := by decide +kernel
theorem dX9_splitsNow_91 : decode cX9_splitsNow 91 = .ok (.aload_n 0, 1) := by decide +kernel
theorem dX9_splitsNow_92 : decode cX9_splitsNow 92 = .ok (.getfield 19, 3) := by decide +kernel
theorem dX9_splitsNow_95 : decode cX9_splitsNow 95 = .ok (.iconst 3, 1) := by decide +kernel
theorem dX9_splitsNow_96 : decode cX9_splitsNow 96 = .ok (.bipush 8, 2) := by decide +kernel
theorem dX9_splitsNow_98 : decode cX9_splitsNow 98 = .ok (.iload_n 3, 1) := by decide +kernel
theorem dX9_splitsNow_99 : decode cX9_splitsNow 99 = .ok (.imul, 1) := by decide +kernel
theorem dX9_splitsNow_100 : decode cX9_splitsNow 100 = .ok (.iadd, 1) := by decide +kernel
theorem dX9_splitsNow_101 : decode cX9_splitsNow 101 = .ok (.iload_n 2, 1) := by decide +kernel
theorem dX9_splitsNow_102 : decode cX9_splitsNow 102 = .ok (.iadd, 1) := by decide +kernel
theorem dX9_splitsNow_103 : decode cX9_splitsNow 103 = .ok (.aload_n 0, 1) := by decide +kernel
theorem dX9_splitsNow_104 : decode cX9_splitsNow 104 = .ok (.getfield 19, 3) := by decide +kernel
theorem dX9_splitsNow_107 : decode cX9_splitsNow 107 = .ok (.iconst 3, 1) := by decide +kernel
theorem dX9_splitsNow_108 : decode cX9_splitsNow 108 = .ok (.bipush 8, 2) := by decide +kernel
theorem dX9_splitsNow_110 : decode cX9_splitsNow 110 = .ok (.iload_n 3, 1) := by decide +kernel
theorem dX9_splitsNow_111 : decode cX9_splitsNow 111 = .ok (.imul, 1) := by decide +kernel
theorem dX9_splitsNow_112 : decode cX9_splitsNow 112 = .ok (.iadd, 1) := by decide +kernel
theorem dX9_splitsNow_113 : decode cX9_splitsNow 113 = .ok (.iload_n 1, 1) := by decide +kernel
theorem dX9_splitsNow_114 : decode cX9_splitsNow 114 = .ok (.iadd, 1) := by decide +kernel
theorem dX9_splitsNow_115 : decode cX9_splitsNow 115 = .ok (.iaload, 1) := by decide +kernel
theorem dX9_splitsNow_116 : decode cX9_splitsNow 116 = .ok (.iastore, 1) := by decide +kernel
theorem dX9_splitsNow_117 : decode cX9_splitsNow 117 = .ok (.iinc 3 1, 3) := by decide +kernel
theorem dX9_splitsNow_120 : decode cX9_splitsNow 120 = .ok (.goto (-35), 3) := by decide +kernel
theorem dX9_splitsNow_123 : decode cX9_splitsNow 123 = .ok (.iload_n 2, 1) := by decide +kernel
theorem dX9_splitsNow_124 : decode cX9_splitsNow 124 = .ok (.ireturn, 1) := by decide +kernel
theorem dX9_canSplit_0 : decode cX9_canSplit 0 = .ok (.aload_n 0, 1) := by decide +kernel
theorem dX9_canSplit_1 : decode cX9_canSplit 1 = .ok (.getfield 19, 3) := by decide +kernel
theorem dX9_canSplit_4 : decode cX9_canSplit 4 = .ok (.iconst 3, 1) := by decide +kernel
theorem dX9_canSplit_5 : decode cX9_canSplit 5 = .ok (.iload_n 1, 1) := by decide +kernel
theorem dX9_canSplit_6 : decode cX9_canSplit 6 = .ok (.iadd, 1) := by decide +kernel
theorem dX9_canSplit_7 : decode cX9_canSplit 7 = .ok (.iaload, 1) := by decide +kernel
theorem dX9_canSplit_8 : decode cX9_canSplit 8 = .ok (.iconst 1, 1) := by decide +kernel
theorem dX9_canSplit_9 : decode cX9_canSplit 9 = .ok (.if_icmp .eq 12, 3) := by decide +kernel
theorem dX9_canSplit_12 : decode cX9_canSplit 12 = .ok (.aload_n 0, 1) := by decide +kernel
theorem dX9_canSplit_13 : decode cX9_canSplit 13 = .ok (.invokevirtual 126, 3) := by decide +kernel
theorem dX9_canSplit_16 : decode cX9_canSplit 16 = .ok (.bipush (-9), 2) := by decide +kernel
theorem dX9_canSplit_18 : decode cX9_canSplit 18 = .ok (.if_icmp .eq 7, 3) := by decide +kernel
theorem dX9_canSplit_21 : decode cX9_canSplit 21 = .ok (.iconst 1, 1) := by decide +kernel
theorem dX9_canSplit_22 : decode cX9_canSplit 22 = .ok (.goto 4, 3) := by decide +kernel
theorem dX9_canSplit_25 : decode cX9_canSplit 25 = .ok (.iconst 0, 1) := by decide +kernel
theorem dX9_canSplit_26 : decode cX9_canSplit 26 = .ok (.ireturn, 1) := by decide +kernel
theorem dX9_splits_0 : decode cX9_splits 0 = .ok (.aload_n 0, 1) := by decide +kernel
theorem dX9_splits_1 : decode cX9_splits 1 = .ok (.iload_n 1, 1) := by decide +kernel
theorem dX9_splits_2 : decode cX9_splits 2 = .ok (.invokevirtual 129, 3) := by decide +kernel
theorem dX9_splits_5 : decode cX9_splits 5 = .ok (.ifCond .ne 5, 3) := by decide +kernel
theorem dX9_splits_8 : decode cX9_splits 8 = .ok (.iconst (-1), 1) := by decide +kernel
theorem dX9_splits_9 : decode cX9_splits 9 = .ok (.ireturn, 1) := by decide +kernel
theorem dX9_splits_10 : decode cX9_splits 10 = .ok (.aload_n 0, 1) := by decide +kernel
theorem dX9_splits_11 : decode cX9_splits 11 = .ok (.iload_n 1, 1) := by decide +kernel
theorem dX9_splits_12 : decode cX9_splits 12 = .ok (.invokevirtual 132, 3) := by decide +kernel
theorem dX9_splits_15 : decode cX9_splits 15 = .ok (.ifCond .ne 6, 3) := by decide +kernel
theorem dX9_splits_18 : decode cX9_splits 18 = .ok (.bipush (-3), 2) := by decide +kernel
theorem dX9_splits_20 : decode cX9_splits 20 = .ok (.ireturn, 1) := by decide +kernel
theorem dX9_splits_21 : decode cX9_splits 21 = .ok (.aload_n 0, 1) := by decide +kernel
theorem dX9_splits_22 : decode cX9_splits 22 = .ok (.invokevirtual 117, 3) := by decide +kernel
theorem dX9_splits_25 : decode cX9_splits 25 = .ok (.aload_n 0, 1) := by decide +kernel
theorem dX9_splits_26 : decode cX9_splits 26 = .ok (.iload_n 1, 1) := by decide +kernel
theorem dX9_splits_27 : decode cX9_splits 27 = .ok (.invokevirtual 135, 3) := by decide +kernel
theorem dX9_splits_30 : decode cX9_splits 30 = .ok (.ireturn, 1) := by decide +kernel
theorem dX9_teaches_0 : decode cX9_teaches 0 = .ok (.aload_n 0, 1) := by decide +kernel
theorem dX9_teaches_1 : decode cX9_teaches 1 = .ok (.iload_n 1, 1) := by decide +kernel
theorem dX9_teaches_2 : decode cX9_teaches 2 = .ok (.invokevirtual 129, 3) := by decide +kernel
theorem dX9_teaches_5 : decode cX9_teaches 5 = .ok (.ifCond .ne 5, 3) := by decide +kernel
theorem dX9_teaches_8 : decode cX9_teaches 8 = .ok (.iconst (-1), 1) := by decide +kernel
theorem dX9_teaches_9 : decode cX9_teaches 9 = .ok (.ireturn, 1) := by decide +kernel
theorem dX9_teaches_10 : decode cX9_teaches 10 = .ok (.aload_n 0, 1) := by decide +kernel
theorem dX9_teaches_11 : decode cX9_teaches 11 = .ok (.invokevirtual 117, 3) := by decide +kernel
theorem dX9_teaches_14 : decode cX9_teaches 14 = .ok (.aload_n 0, 1) := by decide +kernel
theorem dX9_teaches_15 : decode cX9_teaches 15 = .ok (.getfield 19, 3) := by decide +kernel
theorem dX9_teaches_18 : decode cX9_teaches 18 = .ok (.bipush 27, 2) := by decide +kernel
theorem dX9_teaches_20 : decode cX9_teaches 20 = .ok (.iload_n 1, 1) := by decide +kernel
theorem dX9_teaches_21 : decode cX9_teaches 21 = .ok (.iadd, 1) := by decide +kernel
theorem dX9_teaches_22 : decode cX9_teaches 22 = .ok (.iconst 1, 1) := by decide +kernel
theorem dX9_teaches_23 : decode cX9_teaches 23 = .ok (.aload_n 0, 1) := by decide +kernel
theorem dX9_teaches_24 : decode cX9_teaches 24 = .ok (.getfield 19, 3) := by decide +kernel
theorem dX9_teaches_27 : decode cX9_teaches 27 = .ok (.bipush 27, 2) := by decide +kernel
theorem dX9_teaches_29 : decode cX9_teaches 29 = .ok (.iload_n 1, 1) := by decide +kernel
theorem dX9_teaches_30 : decode cX9_teaches 30 = .ok (.iadd, 1) := by decide +kernel
theorem dX9_teaches_31 : decode cX9_teaches 31 = .ok (.iaload, 1) := by decide +kernel
theorem dX9_teaches_32 : decode cX9_teaches 32 = .ok (.isub, 1) := by decide +kernel
theorem dX9_teaches_33 : decode cX9_teaches 33 = .ok (.iastore, 1) := by decide +kernel
theorem dX9_teaches_34 : decode cX9_teaches 34 = .ok (.aload_n 0, 1) := by decide +kernel
theorem dX9_teaches_35 : decode cX9_teaches 35 = .ok (.getfield 19, 3) := by decide +kernel
theorem dX9_teaches_38 : decode cX9_teaches 38 = .ok (.bipush 27, 2) := by decide +kernel
theorem dX9_teaches_40 : decode cX9_teaches 40 = .ok (.iload_n 1, 1) := by decide +kernel
theorem dX9_teaches_41 : decode cX9_teaches 41 = .ok (.iadd, 1) := by decide +kernel
theorem dX9_teaches_42 : decode cX9_teaches 42 = .ok (.iaload, 1) := by decide +kernel
theorem dX9_teaches_43 : decode cX9_teaches 43 = .ok (.ireturn, 1) := by decide +kernel
theorem dX9_bores_0 : decode cX9_bores 0 = .ok (.aload_n 0, 1) := by decide +kernel
theorem dX9_bores_1 : decode cX9_bores 1 = .ok (.iload_n 1, 1) := by decide +kernel
theorem dX9_bores_2 : decode cX9_bores 2 = .ok (.invokevirtual 129, 3) := by decide +kernel
theorem dX9_bores_5 : decode cX9_bores 5 = .ok (.ifCond .ne 5, 3) := by decide +kernel
theorem dX9_bores_8 : decode cX9_bores 8 = .ok (.iconst (-1), 1) := by decide +kernel
theorem dX9_bores_9 : decode cX9_bores 9 = .ok (.ireturn, 1) := by decide +kernel
theorem dX9_bores_10 : decode cX9_bores 10 = .ok (.aload_n 0, 1) := by decide +kernel
theorem dX9_bores_11 : decode cX9_bores 11 = .ok (.getfield 19, 3) := by decide +kernel
theorem dX9_bores_14 : decode cX9_bores 14 = .ok (.bipush 35, 2) := by decide +kernel
theorem dX9_bores_16 : decode cX9_bores 16 = .ok (.iload_n 1, 1) := by decide +kernel
theorem dX9_bores_17 : decode cX9_bores 17 = .ok (.iadd, 1) := by decide +kernel
theorem dX9_bores_18 : decode cX9_bores 18 = .ok (.iaload, 1) := by decide +kernel
theorem dX9_bores_19 : decode cX9_bores 19 = .ok (.iconst 1, 1) := by decide +kernel
theorem dX9_bores_20 : decode cX9_bores 20 = .ok (.if_icmp .ne 6, 3) := by decide +kernel
theorem dX9_bores_23 : decode cX9_bores 23 = .ok (.bipush (-2), 2) := by decide +kernel
theorem dX9_bores_25 : decode cX9_bores 25 = .ok (.ireturn, 1) := by decide +kernel
theorem dX9_bores_26 : decode cX9_bores 26 = .ok (.aload_n 0, 1) := by decide +kernel
theorem dX9_bores_27 : decode cX9_bores 27 = .ok (.invokevirtual 117, 3) := by decide +kernel
theorem dX9_bores_30 : decode cX9_bores 30 = .ok (.aload_n 0, 1) := by decide +kernel
theorem dX9_bores_31 : decode cX9_bores 31 = .ok (.getfield 19, 3) := by decide +kernel
theorem dX9_bores_34 : decode cX9_bores 34 = .ok (.bipush 35, 2) := by decide +kernel
theorem dX9_bores_36 : decode cX9_bores 36 = .ok (.iload_n 1, 1) := by decide +kernel
theorem dX9_bores_37 : decode cX9_bores 37 = .ok (.iadd, 1) := by decide +kernel
theorem dX9_bores_38 : decode cX9_bores 38 = .ok (.iconst 1, 1) := by decide +kernel
theorem dX9_bores_39 : decode cX9_bores 39 = .ok (.iastore, 1) := by decide +kernel
theorem dX9_bores_40 : decode cX9_bores 40 = .ok (.aload_n 0, 1) := by decide +kernel
theorem dX9_bores_41 : decode cX9_bores 41 = .ok (.getfield 19, 3) := by decide +kernel
theorem dX9_bores_44 : decode cX9_bores 44 = .ok (.iconst 3, 1) := by decide +kernel
theorem dX9_bores_45 : decode cX9_bores 45 = .ok (.iload_n 1, 1) := by decide +kernel
theorem dX9_bores_46 : decode cX9_bores 46 = .ok (.iadd, 1) := by decide +kernel
theorem dX9_bores_47 : decode cX9_bores 47 = .ok (.iaload, 1) := by decide +kernel
theorem dX9_bores_48 : decode cX9_bores 48 = .ok (.ireturn, 1) := by decide +kernel
theorem dX9_burns_0 : decode cX9_burns 0 = .ok (.aload_n 0, 1) := by decide +kernel
theorem dX9_burns_1 : decode cX9_burns 1 = .ok (.iload_n 1, 1) := by decide +kernel
theorem dX9_burns_2 : decode cX9_burns 2 = .ok (.invokevirtual 129, 3) := by decide +kernel
theorem dX9_burns_5 : decode cX9_burns 5 = .ok (.ifCond .ne 5, 3) := by decide +kernel
theorem dX9_burns_8 : decode cX9_burns 8 = .ok (.iconst (-1), 1) := by decide +kernel
theorem dX9_burns_9 : decode cX9_burns 9 = .ok (.ireturn, 1) := by decide +kernel
theorem dX9_burns_10 : decode cX9_burns 10 = .ok (.aload_n 0, 1) := by decide +kernel
theorem dX9_burns_11 : decode cX9_burns 11 = .ok (.getfield 19, 3) := by decide +kernel
theorem dX9_burns_14 : decode cX9_burns 14 = .ok (.bipush 43, 2) := by decide +kernel
theorem dX9_burns_16 : decode cX9_burns 16 = .ok (.iload_n 1, 1) := by decide +kernel
theorem dX9_burns_17 : decode cX9_burns 17 = .ok (.iadd, 1) := by decide +kernel
theorem dX9_burns_18 : decode cX9_burns 18 = .ok (.iaload, 1) := by decide +kernel
theorem dX9_burns_19 : decode cX9_burns 19 = .ok (.iconst 1, 1) := by decide +kernel
theorem dX9_burns_20 : decode cX9_burns 20 = .ok (.if_icmp .ne 6, 3) := by decide +kernel
theorem dX9_burns_23 : decode cX9_burns 23 = .ok (.bipush (-2), 2) := by decide +kernel
theorem dX9_burns_25 : decode cX9_burns 25 = .ok (.ireturn, 1) := by decide +kernel
theorem dX9_burns_26 : decode cX9_burns 26 = .ok (.aload_n 0, 1) := by decide +kernel
theorem dX9_burns_27 : decode cX9_burns 27 = .ok (.invokevirtual 117, 3) := by decide +kernel
theorem dX9_burns_30 : decode cX9_burns 30 = .ok (.aload_n 0, 1) := by decide +kernel
theorem dX9_burns_31 : decode cX9_burns 31 = .ok (.getfield 19, 3) := by decide +kernel
theorem dX9_burns_34 : decode cX9_burns 34 = .ok (.bipush 51, 2) := by decide +kernel
theorem dX9_burns_36 : decode cX9_burns 36 = .ok (.iload_n 1, 1) := by decide +kernel
theorem dX9_burns_37 : decode cX9_burns 37 = .ok (.iadd, 1) := by decide +kernel
theorem dX9_burns_38 : decode cX9_burns 38 = .ok (.iconst 0, 1) := by decide +kernel
theorem dX9_burns_39 : decode cX9_burns 39 = .ok (.iastore, 1) := by decide +kernel
theorem dX9_burns_40 : decode cX9_burns 40 = .ok (.aload_n 0, 1) := by decide +kernel
theorem dX9_burns_41 : decode cX9_burns 41 = .ok (.invokevirtual 101, 3) := by decide +kernel
theorem dX9_burns_44 : decode cX9_burns 44 = .ok (.invokestatic 138, 3) := by decide +kernel
theorem dX9_burns_47 : decode cX9_burns 47 = .ok (.ireturn, 1) := by decide +kernel
theorem dX9_halts_0 : decode cX9_halts 0 = .ok (.aload_n 0, 1) := by decide +kernel
theorem dX9_halts_1 : decode cX9_halts 1 = .ok (.iload_n 1, 1) := by decide +kernel
theorem dX9_halts_2 : decode cX9_halts 2 = .ok (.invokevirtual 129, 3) := by decide +kernel
theorem dX9_halts_5 : decode cX9_halts 5 = .ok (.ifCond .ne 5, 3) := by decide +kernel
theorem dX9_halts_8 : decode cX9_halts 8 = .ok (.iconst (-1), 1) := by decide +kernel
theorem dX9_halts_9 : decode cX9_halts 9 = .ok (.ireturn, 1) := by decide +kernel
theorem dX9_halts_10 : decode cX9_halts 10 = .ok (.aload_n 0, 1) := by decide +kernel
theorem dX9_halts_11 : decode cX9_halts 11 = .ok (.invokevirtual 117, 3) := by decide +kernel
theorem dX9_halts_14 : decode cX9_halts 14 = .ok (.aload_n 0, 1) := by decide +kernel
theorem dX9_halts_15 : decode cX9_halts 15 = .ok (.getfield 19, 3) := by decide +kernel
theorem dX9_halts_18 : decode cX9_halts 18 = .ok (.bipush 51, 2) := by decide +kernel
theorem dX9_halts_20 : decode cX9_halts 20 = .ok (.iload_n 1, 1) := by decide +kernel
theorem dX9_halts_21 : decode cX9_halts 21 = .ok (.iadd, 1) := by decide +kernel
theorem dX9_halts_22 : decode cX9_halts 22 = .ok (.iconst 0, 1) := by decide +kernel
theorem dX9_halts_23 : decode cX9_halts 23 = .ok (.iastore, 1) := by decide +kernel
theorem dX9_halts_24 : decode cX9_halts 24 = .ok (.aload_n 0, 1) := by decide +kernel
theorem dX9_halts_25 : decode cX9_halts 25 = .ok (.invokevirtual 101, 3) := by decide +kernel
theorem dX9_halts_28 : decode cX9_halts 28 = .ok (.invokestatic 138, 3) := by decide +kernel
theorem dX9_halts_31 : decode cX9_halts 31 = .ok (.ireturn, 1) := by decide +kernel
theorem dX9_undo_0 : decode cX9_undo 0 = .ok (.aload_n 0, 1) := by decide +kernel
theorem dX9_undo_1 : decode cX9_undo 1 = .ok (.getfield 95, 3) := by decide +kernel
theorem dX9_undo_4 : decode cX9_undo 4 = .ok (.ifCond .ne 6, 3) := by decide +kernel
theorem dX9_undo_7 : decode cX9_undo 7 = .ok (.bipush (-2), 2) := by decide +kernel
theorem dX9_undo_9 : decode cX9_undo 9 = .ok (.ireturn, 1) := by decide +kernel
theorem dX9_undo_10 : decode cX9_undo 10 = .ok (.aload_n 0, 1) := by decide +kernel
theorem dX9_undo_11 : decode cX9_undo 11 = .ok (.dup, 1) := by decide +kernel
theorem dX9_undo_12 : decode cX9_undo 12 = .ok (.getfield 95, 3) := by decide +kernel
theorem dX9_undo_15 : decode cX9_undo 15 = .ok (.iconst 1, 1) := by decide +kernel
theorem dX9_undo_16 : decode cX9_undo 16 = .ok (.isub, 1) := by decide +kernel
theorem dX9_undo_17 : decode cX9_undo 17 = .ok (.putfield 95, 3) := by decide +kernel
theorem dX9_undo_20 : decode cX9_undo 20 = .ok (.iconst 0, 1) := by decide +kernel
theorem dX9_undo_21 : decode cX9_undo 21 = .ok (.istore_n 1, 1) := by decide +kernel
theorem dX9_undo_22 : decode cX9_undo 22 = .ok (.iload_n 1, 1) := by decide +kernel
theorem dX9_undo_23 : decode cX9_undo 23 = .ok (.bipush 59, 2) := by decide +kernel
theorem dX9_undo_25 : decode cX9_undo 25 = .ok (.if_icmp .ge 29, 3) := by decide +kernel
theorem dX9_undo_28 : decode cX9_undo 28 = .ok (.aload_n 0, 1) := by decide +kernel
theorem dX9_undo_29 : decode cX9_undo 29 = .ok (.getfield 19, 3) := by decide +kernel
theorem dX9_undo_32 : decode cX9_undo 32 = .ok (.iload_n 1, 1) := by decide +kernel
theorem dX9_undo_33 : decode cX9_undo 33 = .ok (.aload_n 0, 1) := by decide +kernel
theorem dX9_undo_34 : decode cX9_undo 34 = .ok (.getfield 22, 3) := by decide +kernel
theorem dX9_undo_37 : decode cX9_undo 37 = .ok (.bipush 59, 2) := by decide +kernel
theorem dX9_undo_39 : decode cX9_undo 39 = .ok (.aload_n 0, 1) := by decide +kernel
theorem dX9_undo_40 : decode cX9_undo 40 = .ok (.getfield 95, 3) := by decide +kernel
theorem dX9_undo_43 : decode cX9_undo 43 = .ok (.imul, 1) := by decide +kernel
theorem dX9_undo_44 : decode cX9_undo 44 = .ok (.iload_n 1, 1) := by decide +kernel
theorem dX9_undo_45 : decode cX9_undo 45 = .ok (.iadd, 1) := by decide +kernel
theorem dX9_undo_46 : decode cX9_undo 46 = .ok (.iaload, 1) := by decide +kernel
theorem dX9_undo_47 : decode cX9_undo 47 = .ok (.iastore, 1) := by decide +kernel
theorem dX9_undo_48 : decode cX9_undo 48 = .ok (.iinc 1 1, 3) := by decide +kernel
theorem dX9_undo_51 : decode cX9_undo 51 = .ok (.goto (-29), 3) := by decide +kernel
theorem dX9_undo_54 : decode cX9_undo 54 = .ok (.aload_n 0, 1) := by decide +kernel
theorem dX9_undo_55 : decode cX9_undo 55 = .ok (.getfield 95, 3) := by decide +kernel
theorem dX9_undo_58 : decode cX9_undo 58 = .ok (.ireturn, 1) := by decide +kernel
theorem dX9_holds_0 : decode cX9_holds 0 = .ok (.iconst 0, 1) := by decide +kernel
theorem dX9_holds_1 : decode cX9_holds 1 = .ok (.istore_n 1, 1) := by decide +kernel
theorem dX9_holds_2 : decode cX9_holds 2 = .ok (.iload_n 1, 1) := by decide +kernel
theorem dX9_holds_3 : decode cX9_holds 3 = .ok (.bipush 59, 2) := by decide +kernel
theorem dX9_holds_5 : decode cX9_holds 5 = .ok (.if_icmp .ge 21, 3) := by decide +kernel
theorem dX9_holds_8 : decode cX9_holds 8 = .ok (.aload_n 0, 1) := by decide +kernel
theorem dX9_holds_9 : decode cX9_holds 9 = .ok (.getfield 35, 3) := by decide +kernel
theorem dX9_holds_12 : decode cX9_holds 12 = .ok (.iload_n 1, 1) := by decide +kernel
theorem dX9_holds_13 : decode cX9_holds 13 = .ok (.aload_n 0, 1) := by decide +kernel
theorem dX9_holds_14 : decode cX9_holds 14 = .ok (.getfield 19, 3) := by decide +kernel
theorem dX9_holds_17 : decode cX9_holds 17 = .ok (.iload_n 1, 1) := by decide +kernel
theorem dX9_holds_18 : decode cX9_holds 18 = .ok (.iaload, 1) := by decide +kernel
theorem dX9_holds_19 : decode cX9_holds 19 = .ok (.iastore, 1) := by decide +kernel
theorem dX9_holds_20 : decode cX9_holds 20 = .ok (.iinc 1 1, 3) := by decide +kernel
theorem dX9_holds_23 : decode cX9_holds 23 = .ok (.goto (-21), 3) := by decide +kernel
theorem dX9_holds_26 : decode cX9_holds 26 = .ok (.aload_n 0, 1) := by decide +kernel
theorem dX9_holds_27 : decode cX9_holds 27 = .ok (.invokevirtual 120, 3) := by decide +kernel
theorem dX9_holds_30 : decode cX9_holds 30 = .ok (.return_, 1) := by decide +kernel
theorem dX9_lets_0 : decode cX9_lets 0 = .ok (.iconst 0, 1) := by decide +kernel
theorem dX9_lets_1 : decode cX9_lets 1 = .ok (.istore_n 1, 1) := by decide +kernel
theorem dX9_lets_2 : decode cX9_lets 2 = .ok (.iload_n 1, 1) := by decide +kernel
theorem dX9_lets_3 : decode cX9_lets 3 = .ok (.bipush 59, 2) := by decide +kernel
theorem dX9_lets_5 : decode cX9_lets 5 = .ok (.if_icmp .ge 21, 3) := by decide +kernel
theorem dX9_lets_8 : decode cX9_lets 8 = .ok (.aload_n 0, 1) := by decide +kernel
theorem dX9_lets_9 : decode cX9_lets 9 = .ok (.getfield 19, 3) := by decide +kernel
theorem dX9_lets_12 : decode cX9_lets 12 = .ok (.iload_n 1, 1) := by decide +kernel
theorem dX9_lets_13 : decode cX9_lets 13 = .ok (.aload_n 0, 1) := by decide +kernel
theorem dX9_lets_14 : decode cX9_lets 14 = .ok (.getfield 35, 3) := by decide +kernel
theorem dX9_lets_17 : decode cX9_lets 17 = .ok (.iload_n 1, 1) := by decide +kernel
theorem dX9_lets_18 : decode cX9_lets 18 = .ok (.iaload, 1) := by decide +kernel
theorem dX9_lets_19 : decode cX9_lets 19 = .ok (.iastore, 1) := by decide +kernel
theorem dX9_lets_20 : decode cX9_lets 20 = .ok (.iinc 1 1, 3) := by decide +kernel
theorem dX9_lets_23 : decode cX9_lets 23 = .ok (.goto (-21), 3) := by decide +kernel
theorem dX9_lets_26 : decode cX9_lets 26 = .ok (.return_, 1) := by decide +kernel
theorem dX9_stands_0 : decode cX9_stands 0 = .ok (.iload_n 1, 1) := by decide +kernel
theorem dX9_stands_1 : decode cX9_stands 1 = .ok (.iconst 0, 1) := by decide +kernel
theorem dX9_stands_2 : decode cX9_stands 2 = .ok (.sipush 200, 3) := by decide +kernel
theorem dX9_stands_5 : decode cX9_stands 5 = .ok (.invokestatic 45, 3) := by decide +kernel
theorem dX9_stands_8 : decode cX9_stands 8 = .ok (.ifCond .ne 5, 3) := by decide +kernel
theorem dX9_stands_11 : decode cX9_stands 11 = .ok (.iconst (-1), 1) := by decide +kernel
theorem dX9_stands_12 : decode cX9_stands 12 = .ok (.ireturn, 1) := by decide +kernel
theorem dX9_stands_13 : decode cX9_stands 13 = .ok (.aload_n 0, 1) := by decide +kernel
theorem dX9_stands_14 : decode cX9_stands 14 = .ok (.invokevirtual 141, 3) := by decide +kernel
theorem dX9_stands_17 : decode cX9_stands 17 = .ok (.iconst 0, 1) := by decide +kernel
theorem dX9_stands_18 : decode cX9_stands 18 = .ok (.istore_n 2, 1) := by decide +kernel
theorem dX9_stands_19 : decode cX9_stands 19 = .ok (.iload_n 2, 1) := by decide +kernel
theorem dX9_stands_20 : decode cX9_stands 20 = .ok (.iload_n 1, 1) := by decide +kernel
theorem dX9_stands_21 : decode cX9_stands 21 = .ok (.if_icmp .ge 14, 3) := by decide +kernel
theorem dX9_stands_24 : decode cX9_stands 24 = .ok (.aload_n 0, 1) := by decide +kernel
theorem dX9_stands_25 : decode cX9_stands 25 = .ok (.invokevirtual 123, 3) := by decide +kernel
theorem dX9_stands_28 : decode cX9_stands 28 = .ok (.pop, 1) := by decide +kernel
theorem dX9_stands_29 : decode cX9_stands 29 = .ok (.iinc 2 1, 3) := by decide +kernel
theorem dX9_stands_32 : decode cX9_stands 32 = .ok (.goto (-13), 3) := by decide +kernel
theorem dX9_stands_35 : decode cX9_stands 35 = .ok (.aload_n 0, 1) := by decide +kernel
theorem dX9_stands_36 : decode cX9_stands 36 = .ok (.invokevirtual 88, 3) := by decide +kernel
theorem dX9_stands_39 : decode cX9_stands 39 = .ok (.istore_n 2, 1) := by decide +kernel
theorem dX9_stands_40 : decode cX9_stands 40 = .ok (.aload_n 0, 1) := by decide +kernel
theorem dX9_stands_41 : decode cX9_stands 41 = .ok (.invokevirtual 144, 3) := by decide +kernel
theorem dX9_stands_44 : decode cX9_stands 44 = .ok (.iload_n 2, 1) := by decide +kernel
theorem dX9_stands_45 : decode cX9_stands 45 = .ok (.ireturn, 1) := by decide +kernel
theorem dX9_above_0 : decode cX9_above 0 = .ok (.aload_n 0, 1) := by decide +kernel
theorem dX9_above_1 : decode cX9_above 1 = .ok (.invokevirtual 141, 3) := by decide +kernel
theorem dX9_above_4 : decode cX9_above 4 = .ok (.bipush (-9), 2) := by decide +kernel
theorem dX9_above_6 : decode cX9_above 6 = .ok (.istore_n 1, 1) := by decide +kernel
theorem dX9_above_7 : decode cX9_above 7 = .ok (.iconst 0, 1) := by decide +kernel
theorem dX9_above_8 : decode cX9_above 8 = .ok (.istore_n 2, 1) := by decide +kernel
theorem dX9_above_9 : decode cX9_above 9 = .ok (.iload_n 2, 1) := by decide +kernel
theorem dX9_above_10 : decode cX9_above 10 = .ok (.sipush 200, 3) := by decide +kernel
theorem dX9_above_13 : decode cX9_above 13 = .ok (.if_icmp .gt 40, 3) := by decide +kernel
theorem dX9_above_16 : decode cX9_above 16 = .ok (.iload_n 1, 1) := by decide +kernel
theorem dX9_above_17 : decode cX9_above 17 = .ok (.bipush (-9), 2) := by decide +kernel
theorem dX9_above_19 : decode cX9_above 19 = .ok (.if_icmp .ne 34, 3) := by decide +kernel
theorem dX9_above_22 : decode cX9_above 22 = .ok (.aload_n 0, 1) := by decide +kernel
theorem dX9_above_23 : decode cX9_above 23 = .ok (.invokevirtual 88, 3) := by decide +kernel
theorem dX9_above_26 : decode cX9_above 26 = .ok (.aload_n 0, 1) := by decide +kernel
theorem dX9_above_27 : decode cX9_above 27 = .ok (.getfield 13, 3) := by decide +kernel
theorem dX9_above_30 : decode cX9_above 30 = .ok (.iconst 3, 1) := by decide +kernel
theorem dX9_above_31 : decode cX9_above 31 = .ok (.iaload, 1) := by decide +kernel
theorem dX9_above_32 : decode cX9_above 32 = .ok (.if_icmp .le 7, 3) := by decide +kernel
theorem dX9_above_35 : decode cX9_above 35 = .ok (.iload_n 2, 1) := by decide +kernel
theorem dX9_above_36 : decode cX9_above 36 = .ok (.goto 5, 3) := by decide +kernel
theorem dX9_above_39 : decode cX9_above 39 = .ok (.bipush (-9), 2) := by decide +kernel
theorem dX9_above_41 : decode cX9_above 41 = .ok (.istore_n 1, 1) := by decide +kernel
theorem dX9_above_42 : decode cX9_above 42 = .ok (.aload_n 0, 1) := by decide +kernel
theorem dX9_above_43 : decode cX9_above 43 = .ok (.invokevirtual 123, 3) := by decide +kernel
theorem dX9_above_46 : decode cX9_above 46 = .ok (.pop, 1) := by decide +kernel
theorem dX9_above_47 : decode cX9_above 47 = .ok (.iinc 2 1, 3) := by decide +kernel
theorem dX9_above_50 : decode cX9_above 50 = .ok (.goto (-41), 3) := by decide +kernel
theorem dX9_above_53 : decode cX9_above 53 = .ok (.aload_n 0, 1) := by decide +kernel
theorem dX9_above_54 : decode cX9_above 54 = .ok (.invokevirtual 144, 3) := by decide +kernel
theorem dX9_above_57 : decode cX9_above 57 = .ok (.iload_n 1, 1) := by decide +kernel
theorem dX9_above_58 : decode cX9_above 58 = .ok (.ireturn, 1) := by decide +kernel
theorem dX9_highest_0 : decode cX9_highest 0 = .ok (.aload_n 0, 1) := by decide +kernel
theorem dX9_highest_1 : decode cX9_highest 1 = .ok (.invokevirtual 88, 3) := by decide +kernel
theorem dX9_highest_4 : decode cX9_highest 4 = .ok (.istore_n 2, 1) := by decide +kernel
theorem dX9_highest_5 : decode cX9_highest 5 = .ok (.iconst 0, 1) := by decide +kernel
theorem dX9_highest_6 : decode cX9_highest 6 = .ok (.istore_n 3, 1) := by decide +kernel
theorem dX9_highest_7 : decode cX9_highest 7 = .ok (.iload_n 3, 1) := by decide +kernel
theorem dX9_highest_8 : decode cX9_highest 8 = .ok (.iload_n 1, 1) := by decide +kernel
theorem dX9_highest_9 : decode cX9_highest 9 = .ok (.if_icmp .ge 31, 3) := by decide +kernel
theorem dX9_highest_12 : decode cX9_highest 12 = .ok (.aload_n 0, 1) := by decide +kernel
theorem dX9_highest_13 : decode cX9_highest 13 = .ok (.invokevirtual 123, 3) := by decide +kernel
theorem dX9_highest_16 : decode cX9_highest 16 = .ok (.pop, 1) := by decide +kernel
theorem dX9_highest_17 : decode cX9_highest 17 = .ok (.aload_n 0, 1) := by decide +kernel
theorem dX9_highest_18 : decode cX9_highest 18 = .ok (.invokevirtual 88, 3) := by decide +kernel
theorem dX9_highest_21 : decode cX9_highest 21 = .ok (.iload_n 2, 1) := by decide +kernel
theorem dX9_highest_22 : decode cX9_highest 22 = .ok (.if_icmp .le 10, 3) := by decide +kernel
theorem dX9_highest_25 : decode cX9_highest 25 = .ok (.aload_n 0, 1) := by decide +kernel
theorem dX9_highest_26 : decode cX9_highest 26 = .ok (.invokevirtual 88, 3) := by decide +kernel
theorem dX9_highest_29 : decode cX9_highest 29 = .ok (.goto 4, 3) := by decide +kernel
theorem dX9_highest_32 : decode cX9_highest 32 = .ok (.iload_n 2, 1) := by decide +kernel
theorem dX9_highest_33 : decode cX9_highest 33 = .ok (.istore_n 2, 1) := by decide +kernel
theorem dX9_highest_34 : decode cX9_highest 34 = .ok (.iinc 3 1, 3) := by decide +kernel
theorem dX9_highest_37 : decode cX9_highest 37 = .ok (.goto (-30), 3) := by decide +kernel
