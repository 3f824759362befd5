theorem dX9_highest_40 : decode cX9_highest 40 = .ok (.iload_n 2, 1) := by decide +kernel
theorem dX9_highest_41 : decode cX9_highest 41 = .ok (.ireturn, 1) := by decide +kernel
theorem dX9_most_0 : decode cX9_most 0 = .ok (.iload_n 1, 1) := by decide +kernel
theorem dX9_most_1 : decode cX9_most 1 = .ok (.iconst 0, 1) := by decide +kernel
theorem dX9_most_2 : decode cX9_most 2 = .ok (.sipush 200, 3) := by decide +kernel
theorem dX9_most_5 : decode cX9_most 5 = .ok (.invokestatic 45, 3) := by decide +kernel
theorem dX9_most_8 : decode cX9_most 8 = .ok (.ifCond .ne 5, 3) := by decide +kernel
theorem dX9_most_11 : decode cX9_most 11 = .ok (.iconst (-1), 1) := by decide +kernel
theorem dX9_most_12 : decode cX9_most 12 = .ok (.ireturn, 1) := by decide +kernel
theorem dX9_most_13 : decode cX9_most 13 = .ok (.aload_n 0, 1) := by decide +kernel
theorem dX9_most_14 : decode cX9_most 14 = .ok (.invokevirtual 141, 3) := by decide +kernel
theorem dX9_most_17 : decode cX9_most 17 = .ok (.aload_n 0, 1) := by decide +kernel
theorem dX9_most_18 : decode cX9_most 18 = .ok (.iload_n 1, 1) := by decide +kernel
theorem dX9_most_19 : decode cX9_most 19 = .ok (.invokevirtual 147, 3) := by decide +kernel
theorem dX9_most_22 : decode cX9_most 22 = .ok (.istore_n 2, 1) := by decide +kernel
theorem dX9_most_23 : decode cX9_most 23 = .ok (.aload_n 0, 1) := by decide +kernel
theorem dX9_most_24 : decode cX9_most 24 = .ok (.invokevirtual 144, 3) := by decide +kernel
theorem dX9_most_27 : decode cX9_most 27 = .ok (.iload_n 2, 1) := by decide +kernel
theorem dX9_most_28 : decode cX9_most 28 = .ok (.ireturn, 1) := by decide +kernel
theorem dX9_fewest_0 : decode cX9_fewest 0 = .ok (.aload_n 0, 1) := by decide +kernel
theorem dX9_fewest_1 : decode cX9_fewest 1 = .ok (.invokevirtual 141, 3) := by decide +kernel
theorem dX9_fewest_4 : decode cX9_fewest 4 = .ok (.bipush (-9), 2) := by decide +kernel
theorem dX9_fewest_6 : decode cX9_fewest 6 = .ok (.istore_n 3, 1) := by decide +kernel
theorem dX9_fewest_7 : decode cX9_fewest 7 = .ok (.iconst 0, 1) := by decide +kernel
theorem dX9_fewest_8 : decode cX9_fewest 8 = .ok (.istore 4, 2) := by decide +kernel
theorem dX9_fewest_10 : decode cX9_fewest 10 = .ok (.iload 4, 2) := by decide +kernel
theorem dX9_fewest_12 : decode cX9_fewest 12 = .ok (.sipush 256, 3) := by decide +kernel
theorem dX9_fewest_15 : decode cX9_fewest 15 = .ok (.if_icmp .ge 261, 3) := by decide +kernel
theorem dX9_fewest_18 : decode cX9_fewest 18 = .ok (.iload_n 3, 1) := by decide +kernel
theorem dX9_fewest_19 : decode cX9_fewest 19 = .ok (.bipush (-9), 2) := by decide +kernel
theorem dX9_fewest_21 : decode cX9_fewest 21 = .ok (.if_icmp .eq 15, 3) := by decide +kernel
theorem dX9_fewest_24 : decode cX9_fewest 24 = .ok (.iload 4, 2) := by decide +kernel
theorem dX9_fewest_26 : decode cX9_fewest 26 = .ok (.invokestatic 138, 3) := by decide +kernel
theorem dX9_fewest_29 : decode cX9_fewest 29 = .ok (.iload_n 3, 1) := by decide +kernel
theorem dX9_fewest_30 : decode cX9_fewest 30 = .ok (.invokestatic 138, 3) := by decide +kernel
theorem dX9_fewest_33 : decode cX9_fewest 33 = .ok (.if_icmp .ge 7, 3) := by decide +kernel
theorem dX9_fewest_36 : decode cX9_fewest 36 = .ok (.iconst 1, 1) := by decide +kernel
theorem dX9_fewest_37 : decode cX9_fewest 37 = .ok (.goto 4, 3) := by decide +kernel
theorem dX9_fewest_40 : decode cX9_fewest 40 = .ok (.iconst 0, 1) := by decide +kernel
theorem dX9_fewest_41 : decode cX9_fewest 41 = .ok (.istore 5, 2) := by decide +kernel
theorem dX9_fewest_43 : decode cX9_fewest 43 = .ok (.iconst 0, 1) := by decide +kernel
theorem dX9_fewest_44 : decode cX9_fewest 44 = .ok (.istore 6, 2) := by decide +kernel
theorem dX9_fewest_46 : decode cX9_fewest 46 = .ok (.iload 6, 2) := by decide +kernel
theorem dX9_fewest_48 : decode cX9_fewest 48 = .ok (.bipush 8, 2) := by decide +kernel
theorem dX9_fewest_50 : decode cX9_fewest 50 = .ok (.if_icmp .ge 90, 3) := by decide +kernel
theorem dX9_fewest_53 : decode cX9_fewest 53 = .ok (.aload_n 0, 1) := by decide +kernel
theorem dX9_fewest_54 : decode cX9_fewest 54 = .ok (.getfield 19, 3) := by decide +kernel
theorem dX9_fewest_57 : decode cX9_fewest 57 = .ok (.bipush 51, 2) := by decide +kernel
theorem dX9_fewest_59 : decode cX9_fewest 59 = .ok (.iload 6, 2) := by decide +kernel
theorem dX9_fewest_61 : decode cX9_fewest 61 = .ok (.iadd, 1) := by decide +kernel
theorem dX9_fewest_62 : decode cX9_fewest 62 = .ok (.iaload, 1) := by decide +kernel
theorem dX9_fewest_63 : decode cX9_fewest 63 = .ok (.iconst 1, 1) := by decide +kernel
theorem dX9_fewest_64 : decode cX9_fewest 64 = .ok (.if_icmp .ne 40, 3) := by decide +kernel
theorem dX9_fewest_67 : decode cX9_fewest 67 = .ok (.iload_n 2, 1) := by decide +kernel
theorem dX9_fewest_68 : decode cX9_fewest 68 = .ok (.ifCond .eq 19, 3) := by decide +kernel
theorem dX9_fewest_71 : decode cX9_fewest 71 = .ok (.aload_n 0, 1) := by decide +kernel
theorem dX9_fewest_72 : decode cX9_fewest 72 = .ok (.getfield 19, 3) := by decide +kernel
theorem dX9_fewest_75 : decode cX9_fewest 75 = .ok (.bipush 43, 2) := by decide +kernel
theorem dX9_fewest_77 : decode cX9_fewest 77 = .ok (.iload 6, 2) := by decide +kernel
theorem dX9_fewest_79 : decode cX9_fewest 79 = .ok (.iadd, 1) := by decide +kernel
theorem dX9_fewest_80 : decode cX9_fewest 80 = .ok (.iaload, 1) := by decide +kernel
theorem dX9_fewest_81 : decode cX9_fewest 81 = .ok (.ifCond .ne 23, 3) := by decide +kernel
theorem dX9_fewest_84 : decode cX9_fewest 84 = .ok (.goto 16, 3) := by decide +kernel
theorem dX9_fewest_87 : decode cX9_fewest 87 = .ok (.aload_n 0, 1) := by decide +kernel
theorem dX9_fewest_88 : decode cX9_fewest 88 = .ok (.getfield 19, 3) := by decide +kernel
theorem dX9_fewest_91 : decode cX9_fewest 91 = .ok (.bipush 27, 2) := by decide +kernel
theorem dX9_fewest_93 : decode cX9_fewest 93 = .ok (.iload 6, 2) := by decide +kernel
theorem dX9_fewest_95 : decode cX9_fewest 95 = .ok (.iadd, 1) := by decide +kernel
theorem dX9_fewest_96 : decode cX9_fewest 96 = .ok (.iaload, 1) := by decide +kernel
theorem dX9_fewest_97 : decode cX9_fewest 97 = .ok (.ifCond .ne 7, 3) := by decide +kernel
theorem dX9_fewest_100 : decode cX9_fewest 100 = .ok (.iconst 1, 1) := by decide +kernel
theorem dX9_fewest_101 : decode cX9_fewest 101 = .ok (.goto 4, 3) := by decide +kernel
theorem dX9_fewest_104 : decode cX9_fewest 104 = .ok (.iconst 0, 1) := by decide +kernel
theorem dX9_fewest_105 : decode cX9_fewest 105 = .ok (.istore 7, 2) := by decide +kernel
theorem dX9_fewest_107 : decode cX9_fewest 107 = .ok (.iload 5, 2) := by decide +kernel
theorem dX9_fewest_109 : decode cX9_fewest 109 = .ok (.ifCond .eq 22, 3) := by decide +kernel
theorem dX9_fewest_112 : decode cX9_fewest 112 = .ok (.iload 4, 2) := by decide +kernel
theorem dX9_fewest_114 : decode cX9_fewest 114 = .ok (.iload 6, 2) := by decide +kernel
theorem dX9_fewest_116 : decode cX9_fewest 116 = .ok (.ishr, 1) := by decide +kernel
theorem dX9_fewest_117 : decode cX9_fewest 117 = .ok (.iconst 1, 1) := by decide +kernel
theorem dX9_fewest_118 : decode cX9_fewest 118 = .ok (.iand, 1) := by decide +kernel
theorem dX9_fewest_119 : decode cX9_fewest 119 = .ok (.ifCond .eq 8, 3) := by decide +kernel
theorem dX9_fewest_122 : decode cX9_fewest 122 = .ok (.iload 7, 2) := by decide +kernel
theorem dX9_fewest_124 : decode cX9_fewest 124 = .ok (.ifCond .eq 7, 3) := by decide +kernel
theorem dX9_fewest_127 : decode cX9_fewest 127 = .ok (.iconst 1, 1) := by decide +kernel
theorem dX9_fewest_128 : decode cX9_fewest 128 = .ok (.goto 4, 3) := by decide +kernel
theorem dX9_fewest_131 : decode cX9_fewest 131 = .ok (.iconst 0, 1) := by decide +kernel
theorem dX9_fewest_132 : decode cX9_fewest 132 = .ok (.istore 5, 2) := by decide +kernel
theorem dX9_fewest_134 : decode cX9_fewest 134 = .ok (.iinc 6 1, 3) := by decide +kernel
theorem dX9_fewest_137 : decode cX9_fewest 137 = .ok (.goto (-91), 3) := by decide +kernel
theorem dX9_fewest_140 : decode cX9_fewest 140 = .ok (.iload 5, 2) := by decide +kernel
theorem dX9_fewest_142 : decode cX9_fewest 142 = .ok (.ifCond .eq 128, 3) := by decide +kernel
theorem dX9_fewest_145 : decode cX9_fewest 145 = .ok (.iconst 0, 1) := by decide +kernel
theorem dX9_fewest_146 : decode cX9_fewest 146 = .ok (.istore 6, 2) := by decide +kernel
theorem dX9_fewest_148 : decode cX9_fewest 148 = .ok (.iload 6, 2) := by decide +kernel
theorem dX9_fewest_150 : decode cX9_fewest 150 = .ok (.bipush 8, 2) := by decide +kernel
theorem dX9_fewest_152 : decode cX9_fewest 152 = .ok (.if_icmp .ge 93, 3) := by decide +kernel
theorem dX9_fewest_155 : decode cX9_fewest 155 = .ok (.iload 4, 2) := by decide +kernel
theorem dX9_fewest_157 : decode cX9_fewest 157 = .ok (.iload 6, 2) := by decide +kernel
theorem dX9_fewest_159 : decode cX9_fewest 159 = .ok (.ishr, 1) := by decide +kernel
theorem dX9_fewest_160 : decode cX9_fewest 160 = .ok (.iconst 1, 1) := by decide +kernel
theorem dX9_fewest_161 : decode cX9_fewest 161 = .ok (.iand, 1) := by decide +kernel
theorem dX9_fewest_162 : decode cX9_fewest 162 = .ok (.iconst 1, 1) := by decide +kernel
theorem dX9_fewest_163 : decode cX9_fewest 163 = .ok (.if_icmp .ne 7, 3) := by decide +kernel
theorem dX9_fewest_166 : decode cX9_fewest 166 = .ok (.iconst 1, 1) := by decide +kernel
theorem dX9_fewest_167 : decode cX9_fewest 167 = .ok (.goto 4, 3) := by decide +kernel
theorem dX9_fewest_170 : decode cX9_fewest 170 = .ok (.iconst 0, 1) := by decide +kernel
theorem dX9_fewest_171 : decode cX9_fewest 171 = .ok (.istore 7, 2) := by decide +kernel
theorem dX9_fewest_173 : decode cX9_fewest 173 = .ok (.aload_n 0, 1) := by decide +kernel
theorem dX9_fewest_174 : decode cX9_fewest 174 = .ok (.getfield 19, 3) := by decide +kernel
theorem dX9_fewest_177 : decode cX9_fewest 177 = .ok (.bipush 51, 2) := by decide +kernel
theorem dX9_fewest_179 : decode cX9_fewest 179 = .ok (.iload 6, 2) := by decide +kernel
theorem dX9_fewest_181 : decode cX9_fewest 181 = .ok (.iadd, 1) := by decide +kernel
theorem dX9_fewest_182 : decode cX9_fewest 182 = .ok (.iload 7, 2) := by decide +kernel
theorem dX9_fewest_184 : decode cX9_fewest 184 = .ok (.ifCond .eq 11, 3) := by decide +kernel
theorem dX9_fewest_187 : decode cX9_fewest 187 = .ok (.iload_n 2, 1) := by decide +kernel
theorem dX9_fewest_188 : decode cX9_fewest 188 = .ok (.ifCond .eq 7, 3) := by decide +kernel
theorem dX9_fewest_191 : decode cX9_fewest 191 = .ok (.iconst 0, 1) := by decide +kernel
theorem dX9_fewest_192 : decode cX9_fewest 192 = .ok (.goto 13, 3) := by decide +kernel
theorem dX9_fewest_195 : decode cX9_fewest 195 = .ok (.aload_n 0, 1) := by decide +kernel
theorem dX9_fewest_196 : decode cX9_fewest 196 = .ok (.getfield 19, 3) := by decide +kernel
theorem dX9_fewest_199 : decode cX9_fewest 199 = .ok (.bipush 51, 2) := by decide +kernel
theorem dX9_fewest_201 : decode cX9_fewest 201 = .ok (.iload 6, 2) := by decide +kernel
theorem dX9_fewest_203 : decode cX9_fewest 203 = .ok (.iadd, 1) := by decide +kernel
theorem dX9_fewest_204 : decode cX9_fewest 204 = .ok (.iaload, 1) := by decide +kernel
theorem dX9_fewest_205 : decode cX9_fewest 205 = .ok (.iastore, 1) := by decide +kernel
theorem dX9_fewest_206 : decode cX9_fewest 206 = .ok (.aload_n 0, 1) := by decide +kernel
theorem dX9_fewest_207 : decode cX9_fewest 207 = .ok (.getfield 19, 3) := by decide +kernel
theorem dX9_fewest_210 : decode cX9_fewest 210 = .ok (.bipush 27, 2) := by decide +kernel
theorem dX9_fewest_212 : decode cX9_fewest 212 = .ok (.iload 6, 2) := by decide +kernel
theorem dX9_fewest_214 : decode cX9_fewest 214 = .ok (.iadd, 1) := by decide +kernel
theorem dX9_fewest_215 : decode cX9_fewest 215 = .ok (.iload 7, 2) := by decide +kernel
theorem dX9_fewest_217 : decode cX9_fewest 217 = .ok (.ifCond .eq 11, 3) := by decide +kernel
theorem dX9_fewest_220 : decode cX9_fewest 220 = .ok (.iload_n 2, 1) := by decide +kernel
theorem dX9_fewest_221 : decode cX9_fewest 221 = .ok (.ifCond .ne 7, 3) := by decide +kernel
theorem dX9_fewest_224 : decode cX9_fewest 224 = .ok (.iconst 1, 1) := by decide +kernel
theorem dX9_fewest_225 : decode cX9_fewest 225 = .ok (.goto 13, 3) := by decide +kernel
theorem dX9_fewest_228 : decode cX9_fewest 228 = .ok (.aload_n 0, 1) := by decide +kernel
theorem dX9_fewest_229 : decode cX9_fewest 229 = .ok (.getfield 19, 3) := by decide +kernel
theorem dX9_fewest_232 : decode cX9_fewest 232 = .ok (.bipush 27, 2) := by decide +kernel
theorem dX9_fewest_234 : decode cX9_fewest 234 = .ok (.iload 6, 2) := by decide +kernel
theorem dX9_fewest_236 : decode cX9_fewest 236 = .ok (.iadd, 1) := by decide +kernel
theorem dX9_fewest_237 : decode cX9_fewest 237 = .ok (.iaload, 1) := by decide +kernel
theorem dX9_fewest_238 : decode cX9_fewest 238 = .ok (.iastore, 1) := by decide +kernel
theorem dX9_fewest_239 : decode cX9_fewest 239 = .ok (.iinc 6 1, 3) := by decide +kernel
theorem dX9_fewest_242 : decode cX9_fewest 242 = .ok (.goto (-94), 3) := by decide +kernel
theorem dX9_fewest_245 : decode cX9_fewest 245 = .ok (.aload_n 0, 1) := by decide +kernel
theorem dX9_fewest_246 : decode cX9_fewest 246 = .ok (.iload_n 1, 1) := by decide +kernel
theorem dX9_fewest_247 : decode cX9_fewest 247 = .ok (.invokevirtual 147, 3) := by decide +kernel
theorem dX9_fewest_250 : decode cX9_fewest 250 = .ok (.aload_n 0, 1) := by decide +kernel
theorem dX9_fewest_251 : decode cX9_fewest 251 = .ok (.getfield 13, 3) := by decide +kernel
theorem dX9_fewest_254 : decode cX9_fewest 254 = .ok (.iconst 3, 1) := by decide +kernel
theorem dX9_fewest_255 : decode cX9_fewest 255 = .ok (.iaload, 1) := by decide +kernel
theorem dX9_fewest_256 : decode cX9_fewest 256 = .ok (.if_icmp .gt 8, 3) := by decide +kernel
theorem dX9_fewest_259 : decode cX9_fewest 259 = .ok (.iload 4, 2) := by decide +kernel
theorem dX9_fewest_261 : decode cX9_fewest 261 = .ok (.goto 4, 3) := by decide +kernel
theorem dX9_fewest_264 : decode cX9_fewest 264 = .ok (.iload_n 3, 1) := by decide +kernel
theorem dX9_fewest_265 : decode cX9_fewest 265 = .ok (.istore_n 3, 1) := by decide +kernel
theorem dX9_fewest_266 : decode cX9_fewest 266 = .ok (.aload_n 0, 1) := by decide +kernel
theorem dX9_fewest_267 : decode cX9_fewest 267 = .ok (.invokevirtual 144, 3) := by decide +kernel
theorem dX9_fewest_270 : decode cX9_fewest 270 = .ok (.iinc 4 1, 3) := by decide +kernel
theorem dX9_fewest_273 : decode cX9_fewest 273 = .ok (.goto (-263), 3) := by decide +kernel
theorem dX9_fewest_276 : decode cX9_fewest 276 = .ok (.iload_n 3, 1) := by decide +kernel
theorem dX9_fewest_277 : decode cX9_fewest 277 = .ok (.ireturn, 1) := by decide +kernel
theorem dX9_teach_0 : decode cX9_teach 0 = .ok (.iload_n 1, 1) := by decide +kernel
theorem dX9_teach_1 : decode cX9_teach 1 = .ok (.iconst 1, 1) := by decide +kernel
theorem dX9_teach_2 : decode cX9_teach 2 = .ok (.bipush 60, 2) := by decide +kernel
theorem dX9_teach_4 : decode cX9_teach 4 = .ok (.invokestatic 45, 3) := by decide +kernel
theorem dX9_teach_7 : decode cX9_teach 7 = .ok (.ifCond .eq 12, 3) := by decide +kernel
theorem dX9_teach_10 : decode cX9_teach 10 = .ok (.aload_n 0, 1) := by decide +kernel
theorem dX9_teach_11 : decode cX9_teach 11 = .ok (.iload_n 1, 1) := by decide +kernel
theorem dX9_teach_12 : decode cX9_teach 12 = .ok (.iconst 0, 1) := by decide +kernel
theorem dX9_teach_13 : decode cX9_teach 13 = .ok (.invokevirtual 150, 3) := by decide +kernel
theorem dX9_teach_16 : decode cX9_teach 16 = .ok (.goto 4, 3) := by decide +kernel
theorem dX9_teach_19 : decode cX9_teach 19 = .ok (.iconst (-1), 1) := by decide +kernel
theorem dX9_teach_20 : decode cX9_teach 20 = .ok (.ireturn, 1) := by decide +kernel
theorem dX9_burn_0 : decode cX9_burn 0 = .ok (.iload_n 1, 1) := by decide +kernel
theorem dX9_burn_1 : decode cX9_burn 1 = .ok (.iconst 1, 1) := by decide +kernel
theorem dX9_burn_2 : decode cX9_burn 2 = .ok (.bipush 60, 2) := by decide +kernel
theorem dX9_burn_4 : decode cX9_burn 4 = .ok (.invokestatic 45, 3) := by decide +kernel
theorem dX9_burn_7 : decode cX9_burn 7 = .ok (.ifCond .eq 12, 3) := by decide +kernel
theorem dX9_burn_10 : decode cX9_burn 10 = .ok (.aload_n 0, 1) := by decide +kernel
theorem dX9_burn_11 : decode cX9_burn 11 = .ok (.iload_n 1, 1) := by decide +kernel
theorem dX9_burn_12 : decode cX9_burn 12 = .ok (.iconst 1, 1) := by decide +kernel
theorem dX9_burn_13 : decode cX9_burn 13 = .ok (.invokevirtual 150, 3) := by decide +kernel
theorem dX9_burn_16 : decode cX9_burn 16 = .ok (.goto 4, 3) := by decide +kernel
theorem dX9_burn_19 : decode cX9_burn 19 = .ok (.iconst (-1), 1) := by decide +kernel
theorem dX9_burn_20 : decode cX9_burn 20 = .ok (.ireturn, 1) := by decide +kernel
theorem dX9_stair_0 : decode cX9_stair 0 = .ok (.iload_n 1, 1) := by decide +kernel
theorem dX9_stair_1 : decode cX9_stair 1 = .ok (.iconst 1, 1) := by decide +kernel
theorem dX9_stair_2 : decode cX9_stair 2 = .ok (.bipush 60, 2) := by decide +kernel
theorem dX9_stair_4 : decode cX9_stair 4 = .ok (.invokestatic 45, 3) := by decide +kernel
theorem dX9_stair_7 : decode cX9_stair 7 = .ok (.ifCond .ne 5, 3) := by decide +kernel
theorem dX9_stair_10 : decode cX9_stair 10 = .ok (.iconst (-1), 1) := by decide +kernel
theorem dX9_stair_11 : decode cX9_stair 11 = .ok (.ireturn, 1) := by decide +kernel
theorem dX9_stair_12 : decode cX9_stair 12 = .ok (.aload_n 0, 1) := by decide +kernel
theorem dX9_stair_13 : decode cX9_stair 13 = .ok (.invokevirtual 141, 3) := by decide +kernel
theorem dX9_stair_16 : decode cX9_stair 16 = .ok (.bipush (-9), 2) := by decide +kernel
theorem dX9_stair_18 : decode cX9_stair 18 = .ok (.istore_n 2, 1) := by decide +kernel
theorem dX9_stair_19 : decode cX9_stair 19 = .ok (.iconst 1, 1) := by decide +kernel
theorem dX9_stair_20 : decode cX9_stair 20 = .ok (.istore_n 3, 1) := by decide +kernel
theorem dX9_stair_21 : decode cX9_stair 21 = .ok (.iload_n 3, 1) := by decide +kernel
theorem dX9_stair_22 : decode cX9_stair 22 = .ok (.bipush 9, 2) := by decide +kernel
theorem dX9_stair_24 : decode cX9_stair 24 = .ok (.if_icmp .ge 38, 3) := by decide +kernel
theorem dX9_stair_27 : decode cX9_stair 27 = .ok (.aload_n 0, 1) := by decide +kernel
theorem dX9_stair_28 : decode cX9_stair 28 = .ok (.iload_n 3, 1) := by decide +kernel
theorem dX9_stair_29 : decode cX9_stair 29 = .ok (.putfield 104, 3) := by decide +kernel
theorem dX9_stair_32 : decode cX9_stair 32 = .ok (.aload_n 0, 1) := by decide +kernel
theorem dX9_stair_33 : decode cX9_stair 33 = .ok (.iload_n 1, 1) := by decide +kernel
theorem dX9_stair_34 : decode cX9_stair 34 = .ok (.invokevirtual 147, 3) := by decide +kernel
theorem dX9_stair_37 : decode cX9_stair 37 = .ok (.aload_n 0, 1) := by decide +kernel
theorem dX9_stair_38 : decode cX9_stair 38 = .ok (.getfield 13, 3) := by decide +kernel
theorem dX9_stair_41 : decode cX9_stair 41 = .ok (.iconst 3, 1) := by decide +kernel
theorem dX9_stair_42 : decode cX9_stair 42 = .ok (.iaload, 1) := by decide +kernel
theorem dX9_stair_43 : decode cX9_stair 43 = .ok (.if_icmp .gt 7, 3) := by decide +kernel
theorem dX9_stair_46 : decode cX9_stair 46 = .ok (.iload_n 3, 1) := by decide +kernel
theorem dX9_stair_47 : decode cX9_stair 47 = .ok (.goto 4, 3) := by decide +kernel
theorem dX9_stair_50 : decode cX9_stair 50 = .ok (.iload_n 2, 1) := by decide +kernel
theorem dX9_stair_51 : decode cX9_stair 51 = .ok (.istore_n 2, 1) := by decide +kernel
theorem dX9_stair_52 : decode cX9_stair 52 = .ok (.aload_n 0, 1) := by decide +kernel
theorem dX9_stair_53 : decode cX9_stair 53 = .ok (.invokevirtual 144, 3) := by decide +kernel
theorem dX9_stair_56 : decode cX9_stair 56 = .ok (.iinc 3 1, 3) := by decide +kernel
theorem dX9_stair_59 : decode cX9_stair 59 = .ok (.goto (-38), 3) := by decide +kernel
theorem dX9_stair_62 : decode cX9_stair 62 = .ok (.iload_n 2, 1) := by decide +kernel
theorem dX9_stair_63 : decode cX9_stair 63 = .ok (.ireturn, 1) := by decide +kernel
theorem dX9_drain_0 : decode cX9_drain 0 = .ok (.iload_n 1, 1) := by decide +kernel
theorem dX9_drain_1 : decode cX9_drain 1 = .ok (.iconst 1, 1) := by decide +kernel
theorem dX9_drain_2 : decode cX9_drain 2 = .ok (.bipush 60, 2) := by decide +kernel
theorem dX9_drain_4 : decode cX9_drain 4 = .ok (.invokestatic 45, 3) := by decide +kernel
theorem dX9_drain_7 : decode cX9_drain 7 = .ok (.ifCond .ne 5, 3) := by decide +kernel
theorem dX9_drain_10 : decode cX9_drain 10 = .ok (.iconst (-1), 1) := by decide +kernel
theorem dX9_drain_11 : decode cX9_drain 11 = .ok (.ireturn, 1) := by decide +kernel
theorem dX9_drain_12 : decode cX9_drain 12 = .ok (.aload_n 0, 1) := by decide +kernel
theorem dX9_drain_13 : decode cX9_drain 13 = .ok (.invokevirtual 141, 3) := by decide +kernel
theorem dX9_drain_16 : decode cX9_drain 16 = .ok (.bipush (-9), 2) := by decide +kernel
theorem dX9_drain_18 : decode cX9_drain 18 = .ok (.istore_n 2, 1) := by decide +kernel
theorem dX9_drain_19 : decode cX9_drain 19 = .ok (.bipush 20, 2) := by decide +kernel
theorem dX9_drain_21 : decode cX9_drain 21 = .ok (.istore_n 3, 1) := by decide +kernel
theorem dX9_drain_22 : decode cX9_drain 22 = .ok (.iload_n 3, 1) := by decide +kernel
theorem dX9_drain_23 : decode cX9_drain 23 = .ok (.ifCond .lt 38, 3) := by decide +kernel
theorem dX9_drain_26 : decode cX9_drain 26 = .ok (.aload_n 0, 1) := by decide +kernel
theorem dX9_drain_27 : decode cX9_drain 27 = .ok (.iload_n 3, 1) := by decide +kernel
theorem dX9_drain_28 : decode cX9_drain 28 = .ok (.putfield 111, 3) := by decide +kernel
theorem dX9_drain_31 : decode cX9_drain 31 = .ok (.aload_n 0, 1) := by decide +kernel
theorem dX9_drain_32 : decode cX9_drain 32 = .ok (.iload_n 1, 1) := by decide +kernel
theorem dX9_drain_33 : decode cX9_drain 33 = .ok (.invokevirtual 147, 3) := by decide +kernel
theorem dX9_drain_36 : decode cX9_drain 36 = .ok (.aload_n 0, 1) := by decide +kernel
theorem dX9_drain_37 : decode cX9_drain 37 = .ok (.getfield 13, 3) := by decide +kernel
theorem dX9_drain_40 : decode cX9_drain 40 = .ok (.iconst 3, 1) := by decide +kernel
theorem dX9_drain_41 : decode cX9_drain 41 = .ok (.iaload, 1) := by decide +kernel
theorem dX9_drain_42 : decode cX9_drain 42 = .ok (.if_icmp .gt 7, 3) := by decide +kernel
theorem dX9_drain_45 : decode cX9_drain 45 = .ok (.iload_n 3, 1) := by decide +kernel
theorem dX9_drain_46 : decode cX9_drain 46 = .ok (.goto 4, 3) := by decide +kernel
theorem dX9_drain_49 : decode cX9_drain 49 = .ok (.iload_n 2, 1) := by decide +kernel
theorem dX9_drain_50 : decode cX9_drain 50 = .ok (.istore_n 2, 1) := by decide +kernel
theorem dX9_drain_51 : decode cX9_drain 51 = .ok (.aload_n 0, 1) := by decide +kernel
theorem dX9_drain_52 : decode cX9_drain 52 = .ok (.invokevirtual 144, 3) := by decide +kernel
theorem dX9_drain_55 : decode cX9_drain 55 = .ok (.iinc 3 (-1), 3) := by decide +kernel
theorem dX9_drain_58 : decode cX9_drain 58 = .ok (.goto (-36), 3) := by decide +kernel
theorem dX9_drain_61 : decode cX9_drain 61 = .ok (.iload_n 2, 1) := by decide +kernel
theorem dX9_drain_62 : decode cX9_drain 62 = .ok (.ireturn, 1) := by decide +kernel
theorem dX9_common_0 : decode cX9_common 0 = .ok (.lload_n 0, 1) := by decide +kernel
theorem dX9_common_1 : decode cX9_common 1 = .ok (.lconst 0, 1) := by decide +kernel
theorem dX9_common_2 : decode cX9_common 2 = .ok (.lcmp, 1) := by decide +kernel
theorem dX9_common_3 : decode cX9_common 3 = .ok (.ifCond .ge 8, 3) := by decide +kernel
theorem dX9_common_6 : decode cX9_common 6 = .ok (.lload_n 0, 1) := by decide +kernel
theorem dX9_common_7 : decode cX9_common 7 = .ok (.lneg, 1) := by decide +kernel
theorem dX9_common_8 : decode cX9_common 8 = .ok (.goto 4, 3) := by decide +kernel
theorem dX9_common_11 : decode cX9_common 11 = .ok (.lload_n 0, 1) := by decide +kernel
theorem dX9_common_12 : decode cX9_common 12 = .ok (.lstore 4, 2) := by decide +kernel
theorem dX9_common_14 : decode cX9_common 14 = .ok (.lload_n 2, 1) := by decide +kernel
theorem dX9_common_15 : decode cX9_common 15 = .ok (.lstore 6, 2) := by decide +kernel
theorem dX9_common_17 : decode cX9_common 17 = .ok (.lload 6, 2) := by decide +kernel
theorem dX9_common_19 : decode cX9_common 19 = .ok (.lconst 0, 1) := by decide +kernel
theorem dX9_common_20 : decode cX9_common 20 = .ok (.lcmp, 1) := by decide +kernel
theorem dX9_common_21 : decode cX9_common 21 = .ok (.ifCond .le 21, 3) := by decide +kernel
theorem dX9_common_24 : decode cX9_common 24 = .ok (.lload 4, 2) := by decide +kernel
theorem dX9_common_26 : decode cX9_common 26 = .ok (.lload 6, 2) := by decide +kernel
theorem dX9_common_28 : decode cX9_common 28 = .ok (.lrem, 1) := by decide +kernel
theorem dX9_common_29 : decode cX9_common 29 = .ok (.lstore 8, 2) := by decide +kernel
theorem dX9_common_31 : decode cX9_common 31 = .ok (.lload 6, 2) := by decide +kernel
theorem dX9_common_33 : decode cX9_common 33 = .ok (.lstore 4, 2) := by decide +kernel
theorem dX9_common_35 : decode cX9_common 35 = .ok (.lload 8, 2) := by decide +kernel
theorem dX9_common_37 : decode cX9_common 37 = .ok (.lstore 6, 2) := by decide +kernel
theorem dX9_common_39 : decode cX9_common 39 = .ok (.goto (-22), 3) := by decide +kernel
theorem dX9_common_42 : decode cX9_common 42 = .ok (.lload 4, 2) := by decide +kernel
theorem dX9_common_44 : decode cX9_common 44 = .ok (.lreturn, 1) := by decide +kernel
theorem dX9_flow_0 : decode cX9_flow 0 = .ok (.iload_n 1, 1) := by decide +kernel
theorem dX9_flow_1 : decode cX9_flow 1 = .ok (.iconst 0, 1) := by decide +kernel
theorem dX9_flow_2 : decode cX9_flow 2 = .ok (.iconst 1, 1) := by decide +kernel
theorem dX9_flow_3 : decode cX9_flow 3 = .ok (.invokestatic 45, 3) := by decide +kernel
theorem dX9_flow_6 : decode cX9_flow 6 = .ok (.ifCond .ne 7, 3) := by decide +kernel
theorem dX9_flow_9 : decode cX9_flow 9 = .ok (.ldc2_w 154, 3) := by decide +kernel
theorem dX9_flow_12 : decode cX9_flow 12 = .ok (.lreturn, 1) := by decide +kernel
theorem dX9_flow_13 : decode cX9_flow 13 = .ok (.lconst 0, 1) := by decide +kernel
theorem dX9_flow_14 : decode cX9_flow 14 = .ok (.lstore_n 2, 1) := by decide +kernel
theorem dX9_flow_15 : decode cX9_flow 15 = .ok (.lconst 1, 1) := by decide +kernel
theorem dX9_flow_16 : decode cX9_flow 16 = .ok (.lstore 4, 2) := by decide +kernel
theorem dX9_flow_18 : decode cX9_flow 18 = .ok (.iconst 0, 1) := by decide +kernel
theorem dX9_flow_19 : decode cX9_flow 19 = .ok (.istore 6, 2) := by decide +kernel
theorem dX9_flow_21 : decode cX9_flow 21 = .ok (.iload 6, 2) := by decide +kernel
theorem dX9_flow_23 : decode cX9_flow 23 = .ok (.bipush 8, 2) := by decide +kernel
theorem dX9_flow_25 : decode cX9_flow 25 = .ok (.if_icmp .ge 121, 3) := by decide +kernel
theorem dX9_flow_28 : decode cX9_flow 28 = .ok (.aload_n 0, 1) := by decide +kernel
theorem dX9_flow_29 : decode cX9_flow 29 = .ok (.getfield 19, 3) := by decide +kernel
theorem dX9_flow_32 : decode cX9_flow 32 = .ok (.bipush 51, 2) := by decide +kernel
theorem dX9_flow_34 : decode cX9_flow 34 = .ok (.iload 6, 2) := by decide +kernel
theorem dX9_flow_36 : decode cX9_flow 36 = .ok (.iadd, 1) := by decide +kernel
theorem dX9_flow_37 : decode cX9_flow 37 = .ok (.iaload, 1) := by decide +kernel
theorem dX9_flow_38 : decode cX9_flow 38 = .ok (.iconst 1, 1) := by decide +kernel
theorem dX9_flow_39 : decode cX9_flow 39 = .ok (.if_icmp .ne 101, 3) := by decide +kernel
theorem dX9_flow_42 : decode cX9_flow 42 = .ok (.aload_n 0, 1) := by decide +kernel
theorem dX9_flow_43 : decode cX9_flow 43 = .ok (.getfield 19, 3) := by decide +kernel
theorem dX9_flow_46 : decode cX9_flow 46 = .ok (.bipush 11, 2) := by decide +kernel
theorem dX9_flow_48 : decode cX9_flow 48 = .ok (.iload 6, 2) := by decide +kernel
theorem dX9_flow_50 : decode cX9_flow 50 = .ok (.iadd, 1) := by decide +kernel
theorem dX9_flow_51 : decode cX9_flow 51 = .ok (.iaload, 1) := by decide +kernel
theorem dX9_flow_52 : decode cX9_flow 52 = .ok (.i2l, 1) := by decide +kernel
theorem dX9_flow_53 : decode cX9_flow 53 = .ok (.lstore 7, 2) := by decide +kernel
theorem dX9_flow_55 : decode cX9_flow 55 = .ok (.lload 4, 2) := by decide +kernel
theorem dX9_flow_57 : decode cX9_flow 57 = .ok (.lload 4, 2) := by decide +kernel
theorem dX9_flow_59 : decode cX9_flow 59 = .ok (.lload 7, 2) := by decide +kernel
theorem dX9_flow_61 : decode cX9_flow 61 = .ok (.invokestatic 156, 3) := by decide +kernel
theorem dX9_flow_64 : decode cX9_flow 64 = .ok (.ldiv, 1) := by decide +kernel
theorem dX9_flow_65 : decode cX9_flow 65 = .ok (.lload 7, 2) := by decide +kernel
theorem dX9_flow_67 : decode cX9_flow 67 = .ok (.lmul, 1) := by decide +kernel
theorem dX9_flow_68 : decode cX9_flow 68 = .ok (.lstore 9, 2) := by decide +kernel
theorem dX9_flow_70 : decode cX9_flow 70 = .ok (.lload_n 2, 1) := by decide +kernel
theorem dX9_flow_71 : decode cX9_flow 71 = .ok (.lload 9, 2) := by decide +kernel
theorem dX9_flow_73 : decode cX9_flow 73 = .ok (.lload 4, 2) := by decide +kernel
theorem dX9_flow_75 : decode cX9_flow 75 = .ok (.ldiv, 1) := by decide +kernel
theorem dX9_flow_76 : decode cX9_flow 76 = .ok (.lmul, 1) := by decide +kernel
theorem dX9_flow_77 : decode cX9_flow 77 = .ok (.aload_n 0, 1) := by decide +kernel
theorem dX9_flow_78 : decode cX9_flow 78 = .ok (.getfield 19, 3) := by decide +kernel
theorem dX9_flow_81 : decode cX9_flow 81 = .ok (.bipush 27, 2) := by decide +kernel
theorem dX9_flow_83 : decode cX9_flow 83 = .ok (.iload 6, 2) := by decide +kernel
theorem dX9_flow_85 : decode cX9_flow 85 = .ok (.iadd, 1) := by decide +kernel
theorem dX9_flow_86 : decode cX9_flow 86 = .ok (.iaload, 1) := by decide +kernel
theorem dX9_flow_87 : decode cX9_flow 87 = .ok (.iconst 1, 1) := by decide +kernel
theorem dX9_flow_88 : decode cX9_flow 88 = .ok (.if_icmp .ne 13, 3) := by decide +kernel
theorem dX9_flow_91 : decode cX9_flow 91 = .ok (.aload_n 0, 1) := by decide +kernel
theorem dX9_flow_92 : decode cX9_flow 92 = .ok (.iload 6, 2) := by decide +kernel
theorem dX9_flow_94 : decode cX9_flow 94 = .ok (.invokevirtual 107, 3) := by decide +kernel
theorem dX9_flow_97 : decode cX9_flow 97 = .ok (.ineg, 1) := by decide +kernel
theorem dX9_flow_98 : decode cX9_flow 98 = .ok (.goto 9, 3) := by decide +kernel
theorem dX9_flow_101 : decode cX9_flow 101 = .ok (.aload_n 0, 1) := by decide +kernel
theorem dX9_flow_102 : decode cX9_flow 102 = .ok (.iload 6, 2) := by decide +kernel
theorem dX9_flow_104 : decode cX9_flow 104 = .ok (.invokevirtual 107, 3) := by decide +kernel
theorem dX9_flow_107 : decode cX9_flow 107 = .ok (.i2l, 1) := by decide +kernel
theorem dX9_flow_108 : decode cX9_flow 108 = .ok (.lload 9, 2) := by decide +kernel
theorem dX9_flow_110 : decode cX9_flow 110 = .ok (.lload 7, 2) := by decide +kernel
theorem dX9_flow_112 : decode cX9_flow 112 = .ok (.ldiv, 1) := by decide +kernel
theorem dX9_flow_113 : decode cX9_flow 113 = .ok (.lmul, 1) := by decide +kernel
theorem dX9_flow_114 : decode cX9_flow 114 = .ok (.ladd, 1) := by decide +kernel
theorem dX9_flow_115 : decode cX9_flow 115 = .ok (.lstore_n 2, 1) := by decide +kernel
theorem dX9_flow_116 : decode cX9_flow 116 = .ok (.lload 9, 2) := by decide +kernel
theorem dX9_flow_118 : decode cX9_flow 118 = .ok (.lstore 4, 2) := by decide +kernel
theorem dX9_flow_120 : decode cX9_flow 120 = .ok (.lload_n 2, 1) := by decide +kernel
theorem dX9_flow_121 : decode cX9_flow 121 = .ok (.lload 4, 2) := by decide +kernel
theorem dX9_flow_123 : decode cX9_flow 123 = .ok (.invokestatic 156, 3) := by decide +kernel
theorem dX9_flow_126 : decode cX9_flow 126 = .ok (.lstore 11, 2) := by decide +kernel
theorem dX9_flow_128 : decode cX9_flow 128 = .ok (.lload_n 2, 1) := by decide +kernel
theorem dX9_flow_129 : decode cX9_flow 129 = .ok (.lload 11, 2) := by decide +kernel
theorem dX9_flow_131 : decode cX9_flow 131 = .ok (.ldiv, 1) := by decide +kernel
theorem dX9_flow_132 : decode cX9_flow 132 = .ok (.lstore_n 2, 1) := by decide +kernel
theorem dX9_flow_133 : decode cX9_flow 133 = .ok (.lload 4, 2) := by decide +kernel
theorem dX9_flow_135 : decode cX9_flow 135 = .ok (.lload 11, 2) := by decide +kernel
theorem dX9_flow_137 : decode cX9_flow 137 = .ok (.ldiv, 1) := by decide +kernel
theorem dX9_flow_138 : decode cX9_flow 138 = .ok (.lstore 4, 2) := by decide +kernel
theorem dX9_flow_140 : decode cX9_flow 140 = .ok (.iinc 6 1, 3) := by decide +kernel
theorem dX9_flow_143 : decode cX9_flow 143 = .ok (.goto (-122), 3) := by decide +kernel
theorem dX9_flow_146 : decode cX9_flow 146 = .ok (.iload_n 1, 1) := by decide +kernel
theorem dX9_flow_147 : decode cX9_flow 147 = .ok (.ifCond .ne 7, 3) := by decide +kernel
theorem dX9_flow_150 : decode cX9_flow 150 = .ok (.lload_n 2, 1) := by decide +kernel
theorem dX9_flow_151 : decode cX9_flow 151 = .ok (.goto 5, 3) := by decide +kernel
theorem dX9_flow_154 : decode cX9_flow 154 = .ok (.lload 4, 2) := by decide +kernel
theorem dX9_flow_156 : decode cX9_flow 156 = .ok (.lreturn, 1) := by decide +kernel
theorem dX9_splitOn_0 : decode cX9_splitOn 0 = .ok (.aload_n 0, 1) := by decide +kernel
theorem dX9_splitOn_1 : decode cX9_splitOn 1 = .ok (.iload_n 1, 1) := by decide +kernel
theorem dX9_splitOn_2 : decode cX9_splitOn 2 = .ok (.invokevirtual 129, 3) := by decide +kernel
theorem dX9_splitOn_5 : decode cX9_splitOn 5 = .ok (.ifCond .eq 22, 3) := by decide +kernel
theorem dX9_splitOn_8 : decode cX9_splitOn 8 = .ok (.iload_n 2, 1) := by decide +kernel
theorem dX9_splitOn_9 : decode cX9_splitOn 9 = .ok (.iconst 0, 1) := by decide +kernel
theorem dX9_splitOn_10 : decode cX9_splitOn 10 = .ok (.bipush 6, 2) := by decide +kernel
theorem dX9_splitOn_12 : decode cX9_splitOn 12 = .ok (.invokestatic 45, 3) := by decide +kernel
theorem dX9_splitOn_15 : decode cX9_splitOn 15 = .ok (.ifCond .eq 12, 3) := by decide +kernel
theorem dX9_splitOn_18 : decode cX9_splitOn 18 = .ok (.iload_n 3, 1) := by decide +kernel
theorem dX9_splitOn_19 : decode cX9_splitOn 19 = .ok (.iconst 0, 1) := by decide +kernel
theorem dX9_splitOn_20 : decode cX9_splitOn 20 = .ok (.iconst 1, 1) := by decide +kernel
theorem dX9_splitOn_21 : decode cX9_splitOn 21 = .ok (.invokestatic 45, 3) := by decide +kernel
theorem dX9_splitOn_24 : decode cX9_splitOn 24 = .ok (.ifCond .ne 5, 3) := by decide +kernel
theorem dX9_splitOn_27 : decode cX9_splitOn 27 = .ok (.iconst (-1), 1) := by decide +kernel
theorem dX9_splitOn_28 : decode cX9_splitOn 28 = .ok (.ireturn, 1) := by decide +kernel
theorem dX9_splitOn_29 : decode cX9_splitOn 29 = .ok (.aload_n 0, 1) := by decide +kernel
theorem dX9_splitOn_30 : decode cX9_splitOn 30 = .ok (.getfield 19, 3) := by decide +kernel
theorem dX9_splitOn_33 : decode cX9_splitOn 33 = .ok (.iconst 3, 1) := by decide +kernel
theorem dX9_splitOn_34 : decode cX9_splitOn 34 = .ok (.iload_n 1, 1) := by decide +kernel
theorem dX9_splitOn_35 : decode cX9_splitOn 35 = .ok (.iadd, 1) := by decide +kernel
theorem dX9_splitOn_36 : decode cX9_splitOn 36 = .ok (.iaload, 1) := by decide +kernel
theorem dX9_splitOn_37 : decode cX9_splitOn 37 = .ok (.iload_n 2, 1) := by decide +kernel
theorem dX9_splitOn_38 : decode cX9_splitOn 38 = .ok (.ishr, 1) := by decide +kernel
theorem dX9_splitOn_39 : decode cX9_splitOn 39 = .ok (.istore 4, 2) := by decide +kernel
theorem dX9_splitOn_41 : decode cX9_splitOn 41 = .ok (.iload 4, 2) := by decide +kernel
theorem dX9_splitOn_43 : decode cX9_splitOn 43 = .ok (.ifCond .ne 7, 3) := by decide +kernel
theorem dX9_splitOn_46 : decode cX9_splitOn 46 = .ok (.iconst 0, 1) := by decide +kernel
theorem dX9_splitOn_47 : decode cX9_splitOn 47 = .ok (.goto 6, 3) := by decide +kernel
theorem dX9_splitOn_50 : decode cX9_splitOn 50 = .ok (.iconst 1, 1) := by decide +kernel
theorem dX9_splitOn_51 : decode cX9_splitOn 51 = .ok (.iload_n 2, 1) := by decide +kernel
theorem dX9_splitOn_52 : decode cX9_splitOn 52 = .ok (.ishl, 1) := by decide +kernel
theorem dX9_splitOn_53 : decode cX9_splitOn 53 = .ok (.istore 5, 2) := by decide +kernel
theorem dX9_splitOn_55 : decode cX9_splitOn 55 = .ok (.iload_n 3, 1) := by decide +kernel
theorem dX9_splitOn_56 : decode cX9_splitOn 56 = .ok (.ifCond .ne 8, 3) := by decide +kernel
theorem dX9_splitOn_59 : decode cX9_splitOn 59 = .ok (.iload 5, 2) := by decide +kernel
theorem dX9_splitOn_61 : decode cX9_splitOn 61 = .ok (.goto 8, 3) := by decide +kernel
theorem dX9_splitOn_64 : decode cX9_splitOn 64 = .ok (.iload 5, 2) := by decide +kernel
theorem dX9_splitOn_66 : decode cX9_splitOn 66 = .ok (.iload 4, 2) := by decide +kernel
theorem dX9_splitOn_68 : decode cX9_splitOn 68 = .ok (.imul, 1) := by decide +kernel
theorem dX9_splitOn_69 : decode cX9_splitOn 69 = .ok (.ireturn, 1) := by decide +kernel
theorem dX9_price_0 : decode cX9_price 0 = .ok (.iload_n 1, 1) := by decide +kernel
theorem dX9_price_1 : decode cX9_price 1 = .ok (.iconst 1, 1) := by decide +kernel
theorem dX9_price_2 : decode cX9_price 2 = .ok (.bipush 9, 2) := by decide +kernel
theorem dX9_price_4 : decode cX9_price 4 = .ok (.invokestatic 45, 3) := by decide +kernel
theorem dX9_price_7 : decode cX9_price 7 = .ok (.ifCond .eq 14, 3) := by decide +kernel
theorem dX9_price_10 : decode cX9_price 10 = .ok (.iload_n 2, 1) := by decide +kernel
theorem dX9_price_11 : decode cX9_price 11 = .ok (.iconst 0, 1) := by decide +kernel
theorem dX9_price_12 : decode cX9_price 12 = .ok (.sipush 200, 3) := by decide +kernel
theorem dX9_price_15 : decode cX9_price 15 = .ok (.invokestatic 45, 3) := by decide +kernel
theorem dX9_price_18 : decode cX9_price 18 = .ok (.ifCond .ne 5, 3) := by decide +kernel
theorem dX9_price_21 : decode cX9_price 21 = .ok (.iconst (-1), 1) := by decide +kernel
theorem dX9_price_22 : decode cX9_price 22 = .ok (.ireturn, 1) := by decide +kernel
theorem dX9_price_23 : decode cX9_price 23 = .ok (.aload_n 0, 1) := by decide +kernel
theorem dX9_price_24 : decode cX9_price 24 = .ok (.invokevirtual 141, 3) := by decide +kernel
theorem dX9_price_27 : decode cX9_price 27 = .ok (.iconst 0, 1) := by decide +kernel
theorem dX9_price_28 : decode cX9_price 28 = .ok (.istore_n 3, 1) := by decide +kernel
theorem dX9_price_29 : decode cX9_price 29 = .ok (.iconst 0, 1) := by decide +kernel
theorem dX9_price_30 : decode cX9_price 30 = .ok (.istore 4, 2) := by decide +kernel
theorem dX9_price_32 : decode cX9_price 32 = .ok (.iload 4, 2) := by decide +kernel
theorem dX9_price_34 : decode cX9_price 34 = .ok (.iload_n 2, 1) := by decide +kernel
theorem dX9_price_35 : decode cX9_price 35 = .ok (.if_icmp .ge 21, 3) := by decide +kernel
theorem dX9_price_38 : decode cX9_price 38 = .ok (.aload_n 0, 1) := by decide +kernel
theorem dX9_price_39 : decode cX9_price 39 = .ok (.invokevirtual 123, 3) := by decide +kernel
theorem dX9_price_42 : decode cX9_price 42 = .ok (.pop, 1) := by decide +kernel
theorem dX9_price_43 : decode cX9_price 43 = .ok (.iload_n 3, 1) := by decide +kernel
theorem dX9_price_44 : decode cX9_price 44 = .ok (.aload_n 0, 1) := by decide +kernel
theorem dX9_price_45 : decode cX9_price 45 = .ok (.getfield 114, 3) := by decide +kernel
theorem dX9_price_48 : decode cX9_price 48 = .ok (.iadd, 1) := by decide +kernel
theorem dX9_price_49 : decode cX9_price 49 = .ok (.istore_n 3, 1) := by decide +kernel
theorem dX9_price_50 : decode cX9_price 50 = .ok (.iinc 4 1, 3) := by decide +kernel
theorem dX9_price_53 : decode cX9_price 53 = .ok (.goto (-21), 3) := by decide +kernel
theorem dX9_price_56 : decode cX9_price 56 = .ok (.aload_n 0, 1) := by decide +kernel
theorem dX9_price_57 : decode cX9_price 57 = .ok (.invokevirtual 144, 3) := by decide +kernel
theorem dX9_price_60 : decode cX9_price 60 = .ok (.iload_n 1, 1) := by decide +kernel
theorem dX9_price_61 : decode cX9_price 61 = .ok (.iload_n 3, 1) := by decide +kernel
theorem dX9_price_62 : decode cX9_price 62 = .ok (.imul, 1) := by decide +kernel
theorem dX9_price_63 : decode cX9_price 63 = .ok (.ireturn, 1) := by decide +kernel
theorem dX9_heard_0 : decode cX9_heard 0 = .ok (.aload_n 0, 1) := by decide +kernel
theorem dX9_heard_1 : decode cX9_heard 1 = .ok (.iload_n 1, 1) := by decide +kernel
theorem dX9_heard_2 : decode cX9_heard 2 = .ok (.invokevirtual 129, 3) := by decide +kernel
theorem dX9_heard_5 : decode cX9_heard 5 = .ok (.ifCond .ne 5, 3) := by decide +kernel
theorem dX9_heard_8 : decode cX9_heard 8 = .ok (.iconst (-1), 1) := by decide +kernel
theorem dX9_heard_9 : decode cX9_heard 9 = .ok (.ireturn, 1) := by decide +kernel
theorem dX9_heard_10 : decode cX9_heard 10 = .ok (.aload_n 0, 1) := by decide +kernel
theorem dX9_heard_11 : decode cX9_heard 11 = .ok (.invokevirtual 141, 3) := by decide +kernel
theorem dX9_heard_14 : decode cX9_heard 14 = .ok (.aload_n 0, 1) := by decide +kernel
theorem dX9_heard_15 : decode cX9_heard 15 = .ok (.invokevirtual 101, 3) := by decide +kernel
theorem dX9_heard_18 : decode cX9_heard 18 = .ok (.istore_n 2, 1) := by decide +kernel
theorem dX9_heard_19 : decode cX9_heard 19 = .ok (.iconst 1, 1) := by decide +kernel
theorem dX9_heard_20 : decode cX9_heard 20 = .ok (.iload_n 1, 1) := by decide +kernel
theorem dX9_heard_21 : decode cX9_heard 21 = .ok (.ishl, 1) := by decide +kernel
theorem dX9_heard_22 : decode cX9_heard 22 = .ok (.istore_n 3, 1) := by decide +kernel
theorem dX9_heard_23 : decode cX9_heard 23 = .ok (.iconst 0, 1) := by decide +kernel
theorem dX9_heard_24 : decode cX9_heard 24 = .ok (.istore 4, 2) := by decide +kernel
theorem dX9_heard_26 : decode cX9_heard 26 = .ok (.iload_n 3, 1) := by decide +kernel
theorem dX9_heard_27 : decode cX9_heard 27 = .ok (.iload_n 2, 1) := by decide +kernel
theorem dX9_heard_28 : decode cX9_heard 28 = .ok (.if_icmp .eq 39, 3) := by decide +kernel
theorem dX9_heard_31 : decode cX9_heard 31 = .ok (.iload 4, 2) := by decide +kernel
theorem dX9_heard_33 : decode cX9_heard 33 = .ok (.sipush 200, 3) := by decide +kernel
theorem dX9_heard_36 : decode cX9_heard 36 = .ok (.if_icmp .ge 31, 3) := by decide +kernel
theorem dX9_heard_39 : decode cX9_heard 39 = .ok (.aload_n 0, 1) := by decide +kernel
theorem dX9_heard_40 : decode cX9_heard 40 = .ok (.invokevirtual 123, 3) := by decide +kernel
theorem dX9_heard_43 : decode cX9_heard 43 = .ok (.istore 5, 2) := by decide +kernel
theorem dX9_heard_45 : decode cX9_heard 45 = .ok (.iload_n 3, 1) := by decide +kernel
theorem dX9_heard_46 : decode cX9_heard 46 = .ok (.iload 5, 2) := by decide +kernel
theorem dX9_heard_48 : decode cX9_heard 48 = .ok (.iload_n 3, 1) := by decide +kernel
theorem dX9_heard_49 : decode cX9_heard 49 = .ok (.iand, 1) := by decide +kernel
theorem dX9_heard_50 : decode cX9_heard 50 = .ok (.ifCond .eq 8, 3) := by decide +kernel
theorem dX9_heard_53 : decode cX9_heard 53 = .ok (.iload 5, 2) := by decide +kernel
theorem dX9_heard_55 : decode cX9_heard 55 = .ok (.goto 4, 3) := by decide +kernel
theorem dX9_heard_58 : decode cX9_heard 58 = .ok (.iconst 0, 1) := by decide +kernel
theorem dX9_heard_59 : decode cX9_heard 59 = .ok (.ior, 1) := by decide +kernel
theorem dX9_heard_60 : decode cX9_heard 60 = .ok (.istore_n 3, 1) := by decide +kernel
theorem dX9_heard_61 : decode cX9_heard 61 = .ok (.iinc 4 1, 3) := by decide +kernel
theorem dX9_heard_64 : decode cX9_heard 64 = .ok (.goto (-38), 3) := by decide +kernel
theorem dX9_heard_67 : decode cX9_heard 67 = .ok (.aload_n 0, 1) := by decide +kernel
theorem dX9_heard_68 : decode cX9_heard 68 = .ok (.invokevirtual 144, 3) := by decide +kernel
theorem dX9_heard_71 : decode cX9_heard 71 = .ok (.iload_n 3, 1) := by decide +kernel
theorem dX9_heard_72 : decode cX9_heard 72 = .ok (.iload_n 2, 1) := by decide +kernel
theorem dX9_heard_73 : decode cX9_heard 73 = .ok (.if_icmp .ne 8, 3) := by decide +kernel
theorem dX9_heard_76 : decode cX9_heard 76 = .ok (.iload 4, 2) := by decide +kernel
theorem dX9_heard_78 : decode cX9_heard 78 = .ok (.goto 5, 3) := by decide +kernel
theorem dX9_heard_81 : decode cX9_heard 81 = .ok (.bipush (-9), 2) := by decide +kernel
theorem dX9_heard_83 : decode cX9_heard 83 = .ok (.ireturn, 1) := by decide +kernel
theorem dX9_measured_0 : decode cX9_measured 0 = .ok (.iload_n 1, 1) := by decide +kernel
theorem dX9_measured_1 : decode cX9_measured 1 = .ok (.iconst 0, 1) := by decide +kernel
theorem dX9_measured_2 : decode cX9_measured 2 = .ok (.bipush 40, 2) := by decide +kernel
theorem dX9_measured_4 : decode cX9_measured 4 = .ok (.invokestatic 45, 3) := by decide +kernel
theorem dX9_measured_7 : decode cX9_measured 7 = .ok (.ifCond .eq 13, 3) := by decide +kernel
theorem dX9_measured_10 : decode cX9_measured 10 = .ok (.iload_n 2, 1) := by decide +kernel
theorem dX9_measured_11 : decode cX9_measured 11 = .ok (.iconst 0, 1) := by decide +kernel
theorem dX9_measured_12 : decode cX9_measured 12 = .ok (.ldc 110, 2) := by decide +kernel
theorem dX9_measured_14 : decode cX9_measured 14 = .ok (.invokestatic 45, 3) := by decide +kernel
theorem dX9_measured_17 : decode cX9_measured 17 = .ok (.ifCond .ne 5, 3) := by decide +kernel
theorem dX9_measured_20 : decode cX9_measured 20 = .ok (.iconst (-1), 1) := by decide +kernel
theorem dX9_measured_21 : decode cX9_measured 21 = .ok (.ireturn, 1) := by decide +kernel
theorem dX9_measured_22 : decode cX9_measured 22 = .ok (.aload_n 0, 1) := by decide +kernel
theorem dX9_measured_23 : decode cX9_measured 23 = .ok (.getfield 98, 3) := by decide +kernel
theorem dX9_measured_26 : decode cX9_measured 26 = .ok (.iconst 4, 1) := by decide +kernel
theorem dX9_measured_27 : decode cX9_measured 27 = .ok (.if_icmp .ne 6, 3) := by decide +kernel
theorem dX9_measured_30 : decode cX9_measured 30 = .ok (.bipush (-3), 2) := by decide +kernel
theorem dX9_measured_32 : decode cX9_measured 32 = .ok (.ireturn, 1) := by decide +kernel
theorem dX9_measured_33 : decode cX9_measured 33 = .ok (.aload_n 0, 1) := by decide +kernel
theorem dX9_measured_34 : decode cX9_measured 34 = .ok (.getfield 32, 3) := by decide +kernel
theorem dX9_measured_37 : decode cX9_measured 37 = .ok (.iconst 2, 1) := by decide +kernel
theorem dX9_measured_38 : decode cX9_measured 38 = .ok (.aload_n 0, 1) := by decide +kernel
theorem dX9_measured_39 : decode cX9_measured 39 = .ok (.getfield 98, 3) := by decide +kernel
theorem dX9_measured_42 : decode cX9_measured 42 = .ok (.imul, 1) := by decide +kernel
theorem dX9_measured_43 : decode cX9_measured 43 = .ok (.iload_n 1, 1) := by decide +kernel
theorem dX9_measured_44 : decode cX9_measured 44 = .ok (.iastore, 1) := by decide +kernel
theorem dX9_measured_45 : decode cX9_measured 45 = .ok (.aload_n 0, 1) := by decide +kernel
theorem dX9_measured_46 : decode cX9_measured 46 = .ok (.getfield 32, 3) := by decide +kernel
theorem dX9_measured_49 : decode cX9_measured 49 = .ok (.iconst 2, 1) := by decide +kernel
theorem dX9_measured_50 : decode cX9_measured 50 = .ok (.aload_n 0, 1) := by decide +kernel
theorem dX9_measured_51 : decode cX9_measured 51 = .ok (.getfield 98, 3) := by decide +kernel
theorem dX9_measured_54 : decode cX9_measured 54 = .ok (.imul, 1) := by decide +kernel
theorem dX9_measured_55 : decode cX9_measured 55 = .ok (.iconst 1, 1) := by decide +kernel
theorem dX9_measured_56 : decode cX9_measured 56 = .ok (.iadd, 1) := by decide +kernel
theorem dX9_measured_57 : decode cX9_measured 57 = .ok (.iload_n 2, 1) := by decide +kernel
theorem dX9_measured_58 : decode cX9_measured 58 = .ok (.iastore, 1) := by decide +kernel
theorem dX9_measured_59 : decode cX9_measured 59 = .ok (.aload_n 0, 1) := by decide +kernel
theorem dX9_measured_60 : decode cX9_measured 60 = .ok (.dup, 1) := by decide +kernel
theorem dX9_measured_61 : decode cX9_measured 61 = .ok (.getfield 98, 3) := by decide +kernel
theorem dX9_measured_64 : decode cX9_measured 64 = .ok (.iconst 1, 1) := by decide +kernel
theorem dX9_measured_65 : decode cX9_measured 65 = .ok (.iadd, 1) := by decide +kernel
theorem dX9_measured_66 : decode cX9_measured 66 = .ok (.putfield 98, 3) := by decide +kernel
theorem dX9_measured_69 : decode cX9_measured 69 = .ok (.aload_n 0, 1) := by decide +kernel
theorem dX9_measured_70 : decode cX9_measured 70 = .ok (.getfield 98, 3) := by decide +kernel
theorem dX9_measured_73 : decode cX9_measured 73 = .ok (.ireturn, 1) := by decide +kernel
theorem dX9_forget_0 : decode cX9_forget 0 = .ok (.aload_n 0, 1) := by decide +kernel
theorem dX9_forget_1 : decode cX9_forget 1 = .ok (.getfield 98, 3) := by decide +kernel
theorem dX9_forget_4 : decode cX9_forget 4 = .ok (.istore_n 1, 1) := by decide +kernel
theorem dX9_forget_5 : decode cX9_forget 5 = .ok (.aload_n 0, 1) := by decide +kernel
theorem dX9_forget_6 : decode cX9_forget 6 = .ok (.iconst 0, 1) := by decide +kernel
theorem dX9_forget_7 : decode cX9_forget 7 = .ok (.putfield 98, 3) := by decide +kernel
theorem dX9_forget_10 : decode cX9_forget 10 = .ok (.iload_n 1, 1) := by decide +kernel
theorem dX9_forget_11 : decode cX9_forget 11 = .ok (.ireturn, 1) := by decide +kernel
theorem dX9_isSo_0 : decode cX9_isSo 0 = .ok (.iconst 1, 1) := by decide +kernel
theorem dX9_isSo_1 : decode cX9_isSo 1 = .ok (.istore_n 1, 1) := by decide +kernel
theorem dX9_isSo_2 : decode cX9_isSo 2 = .ok (.iconst 0, 1) := by decide +kernel
theorem dX9_isSo_3 : decode cX9_isSo 3 = .ok (.istore_n 2, 1) := by decide +kernel
theorem dX9_isSo_4 : decode cX9_isSo 4 = .ok (.iload_n 2, 1) := by decide +kernel
theorem dX9_isSo_5 : decode cX9_isSo 5 = .ok (.bipush 41, 2) := by decide +kernel
theorem dX9_isSo_7 : decode cX9_isSo 7 = .ok (.if_icmp .ge 71, 3) := by decide +kernel
theorem dX9_isSo_10 : decode cX9_isSo 10 = .ok (.iconst 0, 1) := by decide +kernel
theorem dX9_isSo_11 : decode cX9_isSo 11 = .ok (.istore_n 3, 1) := by decide +kernel
theorem dX9_isSo_12 : decode cX9_isSo 12 = .ok (.iload_n 3, 1) := by decide +kernel
theorem dX9_isSo_13 : decode cX9_isSo 13 = .ok (.aload_n 0, 1) := by decide +kernel
theorem dX9_isSo_14 : decode cX9_isSo 14 = .ok (.getfield 98, 3) := by decide +kernel
theorem dX9_isSo_17 : decode cX9_isSo 17 = .ok (.if_icmp .ge 50, 3) := by decide +kernel
theorem dX9_isSo_20 : decode cX9_isSo 20 = .ok (.iload_n 1, 1) := by decide +kernel
theorem dX9_isSo_21 : decode cX9_isSo 21 = .ok (.ifCond .eq 38, 3) := by decide +kernel
theorem dX9_isSo_24 : decode cX9_isSo 24 = .ok (.aload_n 0, 1) := by decide +kernel
theorem dX9_isSo_25 : decode cX9_isSo 25 = .ok (.getfield 32, 3) := by decide +kernel
theorem dX9_isSo_28 : decode cX9_isSo 28 = .ok (.iconst 2, 1) := by decide +kernel
theorem dX9_isSo_29 : decode cX9_isSo 29 = .ok (.iload_n 3, 1) := by decide +kernel
theorem dX9_isSo_30 : decode cX9_isSo 30 = .ok (.imul, 1) := by decide +kernel
theorem dX9_isSo_31 : decode cX9_isSo 31 = .ok (.iaload, 1) := by decide +kernel
theorem dX9_isSo_32 : decode cX9_isSo 32 = .ok (.iload_n 2, 1) := by decide +kernel
theorem dX9_isSo_33 : decode cX9_isSo 33 = .ok (.if_icmp .ne 22, 3) := by decide +kernel
theorem dX9_isSo_36 : decode cX9_isSo 36 = .ok (.aload_n 0, 1) := by decide +kernel
theorem dX9_isSo_37 : decode cX9_isSo 37 = .ok (.getfield 32, 3) := by decide +kernel
theorem dX9_isSo_40 : decode cX9_isSo 40 = .ok (.iconst 2, 1) := by decide +kernel
theorem dX9_isSo_41 : decode cX9_isSo 41 = .ok (.iload_n 3, 1) := by decide +kernel
theorem dX9_isSo_42 : decode cX9_isSo 42 = .ok (.imul, 1) := by decide +kernel
theorem dX9_isSo_43 : decode cX9_isSo 43 = .ok (.iconst 1, 1) := by decide +kernel
theorem dX9_isSo_44 : decode cX9_isSo 44 = .ok (.iadd, 1) := by decide +kernel
theorem dX9_isSo_45 : decode cX9_isSo 45 = .ok (.iaload, 1) := by decide +kernel
theorem dX9_isSo_46 : decode cX9_isSo 46 = .ok (.aload_n 0, 1) := by decide +kernel
theorem dX9_isSo_47 : decode cX9_isSo 47 = .ok (.getfield 19, 3) := by decide +kernel
theorem dX9_isSo_50 : decode cX9_isSo 50 = .ok (.iconst 1, 1) := by decide +kernel
theorem dX9_isSo_51 : decode cX9_isSo 51 = .ok (.iaload, 1) := by decide +kernel
theorem dX9_isSo_52 : decode cX9_isSo 52 = .ok (.if_icmp .ne 7, 3) := by decide +kernel
theorem dX9_isSo_55 : decode cX9_isSo 55 = .ok (.iconst 1, 1) := by decide +kernel
theorem dX9_isSo_56 : decode cX9_isSo 56 = .ok (.goto 4, 3) := by decide +kernel
theorem dX9_isSo_59 : decode cX9_isSo 59 = .ok (.iconst 0, 1) := by decide +kernel
theorem dX9_isSo_60 : decode cX9_isSo 60 = .ok (.istore_n 1, 1) := by decide +kernel
theorem dX9_isSo_61 : decode cX9_isSo 61 = .ok (.iinc 3 1, 3) := by decide +kernel
theorem dX9_isSo_64 : decode cX9_isSo 64 = .ok (.goto (-52), 3) := by decide +kernel
theorem dX9_isSo_67 : decode cX9_isSo 67 = .ok (.aload_n 0, 1) := by decide +kernel
theorem dX9_isSo_68 : decode cX9_isSo 68 = .ok (.invokevirtual 123, 3) := by decide +kernel
theorem dX9_isSo_71 : decode cX9_isSo 71 = .ok (.pop, 1) := by decide +kernel
theorem dX9_isSo_72 : decode cX9_isSo 72 = .ok (.iinc 2 1, 3) := by decide +kernel
theorem dX9_isSo_75 : decode cX9_isSo 75 = .ok (.goto (-71), 3) := by decide +kernel
theorem dX9_isSo_78 : decode cX9_isSo 78 = .ok (.iload_n 1, 1) := by decide +kernel
theorem dX9_isSo_79 : decode cX9_isSo 79 = .ok (.ireturn, 1) := by decide +kernel
theorem dX9_splitFirst_0 : decode cX9_splitFirst 0 = .ok (.aload_n 0, 1) := by decide +kernel
theorem dX9_splitFirst_1 : decode cX9_splitFirst 1 = .ok (.invokevirtual 141, 3) := by decide +kernel
theorem dX9_splitFirst_4 : decode cX9_splitFirst 4 = .ok (.aload_n 0, 1) := by decide +kernel
theorem dX9_splitFirst_5 : decode cX9_splitFirst 5 = .ok (.invokevirtual 92, 3) := by decide +kernel
theorem dX9_splitFirst_8 : decode cX9_splitFirst 8 = .ok (.aload_n 0, 1) := by decide +kernel
theorem dX9_splitFirst_9 : decode cX9_splitFirst 9 = .ok (.invokevirtual 160, 3) := by decide +kernel
theorem dX9_splitFirst_12 : decode cX9_splitFirst 12 = .ok (.ifCond .eq 9, 3) := by decide +kernel
theorem dX9_splitFirst_15 : decode cX9_splitFirst 15 = .ok (.sipush 256, 3) := by decide +kernel
theorem dX9_splitFirst_18 : decode cX9_splitFirst 18 = .ok (.goto 4, 3) := by decide +kernel
theorem dX9_splitFirst_21 : decode cX9_splitFirst 21 = .ok (.iconst 0, 1) := by decide +kernel
theorem dX9_splitFirst_22 : decode cX9_splitFirst 22 = .ok (.istore_n 1, 1) := by decide +kernel
theorem dX9_splitFirst_23 : decode cX9_splitFirst 23 = .ok (.iconst 0, 1) := by decide +kernel
theorem dX9_splitFirst_24 : decode cX9_splitFirst 24 = .ok (.istore_n 2, 1) := by decide +kernel
theorem dX9_splitFirst_25 : decode cX9_splitFirst 25 = .ok (.iload_n 2, 1) := by decide +kernel
theorem dX9_splitFirst_26 : decode cX9_splitFirst 26 = .ok (.aload_n 0, 1) := by decide +kernel
theorem dX9_splitFirst_27 : decode cX9_splitFirst 27 = .ok (.getfield 13, 3) := by decide +kernel
theorem dX9_splitFirst_30 : decode cX9_splitFirst 30 = .ok (.iconst 5, 1) := by decide +kernel
theorem dX9_splitFirst_31 : decode cX9_splitFirst 31 = .ok (.iaload, 1) := by decide +kernel
theorem dX9_splitFirst_32 : decode cX9_splitFirst 32 = .ok (.if_icmp .ge 44, 3) := by decide +kernel
theorem dX9_splitFirst_35 : decode cX9_splitFirst 35 = .ok (.aload_n 0, 1) := by decide +kernel
theorem dX9_splitFirst_36 : decode cX9_splitFirst 36 = .ok (.invokevirtual 92, 3) := by decide +kernel
theorem dX9_splitFirst_39 : decode cX9_splitFirst 39 = .ok (.aload_n 0, 1) := by decide +kernel
theorem dX9_splitFirst_40 : decode cX9_splitFirst 40 = .ok (.iload_n 2, 1) := by decide +kernel
theorem dX9_splitFirst_41 : decode cX9_splitFirst 41 = .ok (.invokevirtual 132, 3) := by decide +kernel
theorem dX9_splitFirst_44 : decode cX9_splitFirst 44 = .ok (.ifCond .eq 26, 3) := by decide +kernel
theorem dX9_splitFirst_47 : decode cX9_splitFirst 47 = .ok (.aload_n 0, 1) := by decide +kernel
theorem dX9_splitFirst_48 : decode cX9_splitFirst 48 = .ok (.iload_n 2, 1) := by decide +kernel
theorem dX9_splitFirst_49 : decode cX9_splitFirst 49 = .ok (.invokevirtual 135, 3) := by decide +kernel
theorem dX9_splitFirst_52 : decode cX9_splitFirst 52 = .ok (.pop, 1) := by decide +kernel
theorem dX9_splitFirst_53 : decode cX9_splitFirst 53 = .ok (.iload_n 1, 1) := by decide +kernel
theorem dX9_splitFirst_54 : decode cX9_splitFirst 54 = .ok (.aload_n 0, 1) := by decide +kernel
theorem dX9_splitFirst_55 : decode cX9_splitFirst 55 = .ok (.invokevirtual 160, 3) := by decide +kernel
theorem dX9_splitFirst_58 : decode cX9_splitFirst 58 = .ok (.ifCond .eq 9, 3) := by decide +kernel
theorem dX9_splitFirst_61 : decode cX9_splitFirst 61 = .ok (.iconst 1, 1) := by decide +kernel
theorem dX9_splitFirst_62 : decode cX9_splitFirst 62 = .ok (.iload_n 2, 1) := by decide +kernel
theorem dX9_splitFirst_63 : decode cX9_splitFirst 63 = .ok (.ishl, 1) := by decide +kernel
theorem dX9_splitFirst_64 : decode cX9_splitFirst 64 = .ok (.goto 4, 3) := by decide +kernel
theorem dX9_splitFirst_67 : decode cX9_splitFirst 67 = .ok (.iconst 0, 1) := by decide +kernel
theorem dX9_splitFirst_68 : decode cX9_splitFirst 68 = .ok (.ior, 1) := by decide +kernel
theorem dX9_splitFirst_69 : decode cX9_splitFirst 69 = .ok (.istore_n 1, 1) := by decide +kernel
theorem dX9_splitFirst_70 : decode cX9_splitFirst 70 = .ok (.iinc 2 1, 3) := by decide +kernel
theorem dX9_splitFirst_73 : decode cX9_splitFirst 73 = .ok (.goto (-48), 3) := by decide +kernel
theorem dX9_splitFirst_76 : decode cX9_splitFirst 76 = .ok (.aload_n 0, 1) := by decide +kernel
theorem dX9_splitFirst_77 : decode cX9_splitFirst 77 = .ok (.invokevirtual 144, 3) := by decide +kernel
theorem dX9_splitFirst_80 : decode cX9_splitFirst 80 = .ok (.iload_n 1, 1) := by decide +kernel
theorem dX9_splitFirst_81 : decode cX9_splitFirst 81 = .ok (.ireturn, 1) := by decide +kernel
theorem dX9_odds_0 : decode cX9_odds 0 = .ok (.aload_n 0, 1) := by decide +kernel
theorem dX9_odds_1 : decode cX9_odds 1 = .ok (.iload_n 1, 1) := by decide +kernel
theorem dX9_odds_2 : decode cX9_odds 2 = .ok (.invokevirtual 129, 3) := by decide +kernel
theorem dX9_odds_5 : decode cX9_odds 5 = .ok (.ifCond .eq 44, 3) := by decide +kernel
theorem dX9_odds_8 : decode cX9_odds 8 = .ok (.iload_n 2, 1) := by decide +kernel
theorem dX9_odds_9 : decode cX9_odds 9 = .ok (.iconst 0, 1) := by decide +kernel
theorem dX9_odds_10 : decode cX9_odds 10 = .ok (.bipush 10, 2) := by decide +kernel
theorem dX9_odds_12 : decode cX9_odds 12 = .ok (.invokestatic 45, 3) := by decide +kernel
theorem dX9_odds_15 : decode cX9_odds 15 = .ok (.ifCond .eq 34, 3) := by decide +kernel
theorem dX9_odds_18 : decode cX9_odds 18 = .ok (.iload_n 3, 1) := by decide +kernel
theorem dX9_odds_19 : decode cX9_odds 19 = .ok (.iconst 0, 1) := by decide +kernel
theorem dX9_odds_20 : decode cX9_odds 20 = .ok (.bipush 40, 2) := by decide +kernel
theorem dX9_odds_22 : decode cX9_odds 22 = .ok (.invokestatic 45, 3) := by decide +kernel
theorem dX9_odds_25 : decode cX9_odds 25 = .ok (.ifCond .eq 24, 3) := by decide +kernel
theorem dX9_odds_28 : decode cX9_odds 28 = .ok (.iload 4, 2) := by decide +kernel
theorem dX9_odds_30 : decode cX9_odds 30 = .ok (.iconst 0, 1) := by decide +kernel
theorem dX9_odds_31 : decode cX9_odds 31 = .ok (.bipush 9, 2) := by decide +kernel
theorem dX9_odds_33 : decode cX9_odds 33 = .ok (.invokestatic 45, 3) := by decide +kernel
theorem dX9_odds_36 : decode cX9_odds 36 = .ok (.ifCond .eq 13, 3) := by decide +kernel
theorem dX9_odds_39 : decode cX9_odds 39 = .ok (.iload 5, 2) := by decide +kernel
theorem dX9_odds_41 : decode cX9_odds 41 = .ok (.iconst 0, 1) := by decide +kernel
theorem dX9_odds_42 : decode cX9_odds 42 = .ok (.iconst 1, 1) := by decide +kernel
theorem dX9_odds_43 : decode cX9_odds 43 = .ok (.invokestatic 45, 3) := by decide +kernel
theorem dX9_odds_46 : decode cX9_odds 46 = .ok (.ifCond .ne 5, 3) := by decide +kernel
theorem dX9_odds_49 : decode cX9_odds 49 = .ok (.iconst (-1), 1) := by decide +kernel
theorem dX9_odds_50 : decode cX9_odds 50 = .ok (.ireturn, 1) := by decide +kernel
theorem dX9_odds_51 : decode cX9_odds 51 = .ok (.aload_n 0, 1) := by decide +kernel
theorem dX9_odds_52 : decode cX9_odds 52 = .ok (.getfield 19, 3) := by decide +kernel
theorem dX9_odds_55 : decode cX9_odds 55 = .ok (.bipush 19, 2) := by decide +kernel
theorem dX9_odds_57 : decode cX9_odds 57 = .ok (.iload_n 1, 1) := by decide +kernel
theorem dX9_odds_58 : decode cX9_odds 58 = .ok (.iadd, 1) := by decide +kernel
theorem dX9_odds_59 : decode cX9_odds 59 = .ok (.iaload, 1) := by decide +kernel
theorem dX9_odds_60 : decode cX9_odds 60 = .ok (.iconst 1, 1) := by decide +kernel
theorem dX9_odds_61 : decode cX9_odds 61 = .ok (.if_icmp .ge 7, 3) := by decide +kernel
theorem dX9_odds_64 : decode cX9_odds 64 = .ok (.iconst 1, 1) := by decide +kernel
theorem dX9_odds_65 : decode cX9_odds 65 = .ok (.goto 12, 3) := by decide +kernel
theorem dX9_odds_68 : decode cX9_odds 68 = .ok (.aload_n 0, 1) := by decide +kernel
theorem dX9_odds_69 : decode cX9_odds 69 = .ok (.getfield 19, 3) := by decide +kernel
theorem dX9_odds_72 : decode cX9_odds 72 = .ok (.bipush 19, 2) := by decide +kernel
theorem dX9_odds_74 : decode cX9_odds 74 = .ok (.iload_n 1, 1) := by decide +kernel
theorem dX9_odds_75 : decode cX9_odds 75 = .ok (.iadd, 1) := by decide +kernel
theorem dX9_odds_76 : decode cX9_odds 76 = .ok (.iaload, 1) := by decide +kernel
theorem dX9_odds_77 : decode cX9_odds 77 = .ok (.istore 6, 2) := by decide +kernel
theorem dX9_odds_79 : decode cX9_odds 79 = .ok (.iload 6, 2) := by decide +kernel
theorem dX9_odds_81 : decode cX9_odds 81 = .ok (.iload_n 3, 1) := by decide +kernel
theorem dX9_odds_82 : decode cX9_odds 82 = .ok (.if_icmp .le 7, 3) := by decide +kernel
theorem dX9_odds_85 : decode cX9_odds 85 = .ok (.iconst 0, 1) := by decide +kernel
theorem dX9_odds_86 : decode cX9_odds 86 = .ok (.goto 19, 3) := by decide +kernel
theorem dX9_odds_89 : decode cX9_odds 89 = .ok (.iconst 1, 1) := by decide +kernel
theorem dX9_odds_90 : decode cX9_odds 90 = .ok (.iload_n 3, 1) := by decide +kernel
theorem dX9_odds_91 : decode cX9_odds 91 = .ok (.iload 6, 2) := by decide +kernel
theorem dX9_odds_93 : decode cX9_odds 93 = .ok (.isub, 1) := by decide +kernel
theorem dX9_odds_94 : decode cX9_odds 94 = .ok (.aload_n 0, 1) := by decide +kernel
theorem dX9_odds_95 : decode cX9_odds 95 = .ok (.getfield 19, 3) := by decide +kernel
theorem dX9_odds_98 : decode cX9_odds 98 = .ok (.bipush 11, 2) := by decide +kernel
theorem dX9_odds_100 : decode cX9_odds 100 = .ok (.iload_n 1, 1) := by decide +kernel
theorem dX9_odds_101 : decode cX9_odds 101 = .ok (.iadd, 1) := by decide +kernel
theorem dX9_odds_102 : decode cX9_odds 102 = .ok (.iaload, 1) := by decide +kernel
theorem dX9_odds_103 : decode cX9_odds 103 = .ok (.idiv, 1) := by decide +kernel
theorem dX9_odds_104 : decode cX9_odds 104 = .ok (.iadd, 1) := by decide +kernel
theorem dX9_odds_105 : decode cX9_odds 105 = .ok (.istore 7, 2) := by decide +kernel
theorem dX9_odds_107 : decode cX9_odds 107 = .ok (.iload 7, 2) := by decide +kernel
theorem dX9_odds_109 : decode cX9_odds 109 = .ok (.bipush 9, 2) := by decide +kernel
theorem dX9_odds_111 : decode cX9_odds 111 = .ok (.if_icmp .le 6, 3) := by decide +kernel
theorem dX9_odds_114 : decode cX9_odds 114 = .ok (.ldc 163, 2) := by decide +kernel
theorem dX9_odds_116 : decode cX9_odds 116 = .ok (.ireturn, 1) := by decide +kernel
theorem dX9_odds_117 : decode cX9_odds 117 = .ok (.iconst 0, 1) := by decide +kernel
theorem dX9_odds_118 : decode cX9_odds 118 = .ok (.istore 8, 2) := by decide +kernel
theorem dX9_odds_120 : decode cX9_odds 120 = .ok (.iconst 1, 1) := by decide +kernel
theorem dX9_odds_121 : decode cX9_odds 121 = .ok (.istore 9, 2) := by decide +kernel
theorem dX9_odds_123 : decode cX9_odds 123 = .ok (.iconst 0, 1) := by decide +kernel
theorem dX9_odds_124 : decode cX9_odds 124 = .ok (.istore 10, 2) := by decide +kernel
theorem dX9_odds_126 : decode cX9_odds 126 = .ok (.iload 10, 2) := by decide +kernel
theorem dX9_odds_128 : decode cX9_odds 128 = .ok (.iload 7, 2) := by decide +kernel
theorem dX9_odds_130 : decode cX9_odds 130 = .ok (.if_icmp .ge 16, 3) := by decide +kernel
theorem dX9_odds_133 : decode cX9_odds 133 = .ok (.iload 9, 2) := by decide +kernel
theorem dX9_odds_135 : decode cX9_odds 135 = .ok (.bipush 10, 2) := by decide +kernel
theorem dX9_odds_137 : decode cX9_odds 137 = .ok (.imul, 1) := by decide +kernel
theorem dX9_odds_138 : decode cX9_odds 138 = .ok (.istore 9, 2) := by decide +kernel
theorem dX9_odds_140 : decode cX9_odds 140 = .ok (.iinc 10 1, 3) := by decide +kernel
theorem dX9_odds_143 : decode cX9_odds 143 = .ok (.goto (-17), 3) := by decide +kernel
theorem dX9_odds_146 : decode cX9_odds 146 = .ok (.iconst 0, 1) := by decide +kernel
theorem dX9_odds_147 : decode cX9_odds 147 = .ok (.istore 10, 2) := by decide +kernel
theorem dX9_odds_149 : decode cX9_odds 149 = .ok (.iload 10, 2) := by decide +kernel
theorem dX9_odds_151 : decode cX9_odds 151 = .ok (.iconst 1, 1) := by decide +kernel
theorem dX9_odds_152 : decode cX9_odds 152 = .ok (.iload 7, 2) := by decide +kernel
theorem dX9_odds_154 : decode cX9_odds 154 = .ok (.ishl, 1) := by decide +kernel
theorem dX9_odds_155 : decode cX9_odds 155 = .ok (.if_icmp .ge 100, 3) := by decide +kernel
theorem dX9_odds_158 : decode cX9_odds 158 = .ok (.iconst 1, 1) := by decide +kernel
theorem dX9_odds_159 : decode cX9_odds 159 = .ok (.istore 11, 2) := by decide +kernel
theorem dX9_odds_161 : decode cX9_odds 161 = .ok (.iconst 0, 1) := by decide +kernel
theorem dX9_odds_162 : decode cX9_odds 162 = .ok (.istore 12, 2) := by decide +kernel
theorem dX9_odds_164 : decode cX9_odds 164 = .ok (.iconst 0, 1) := by decide +kernel
theorem dX9_odds_165 : decode cX9_odds 165 = .ok (.istore 13, 2) := by decide +kernel
theorem dX9_odds_167 : decode cX9_odds 167 = .ok (.iload 13, 2) := by decide +kernel
theorem dX9_odds_169 : decode cX9_odds 169 = .ok (.iload 7, 2) := by decide +kernel
theorem dX9_odds_171 : decode cX9_odds 171 = .ok (.if_icmp .ge 60, 3) := by decide +kernel
theorem dX9_odds_174 : decode cX9_odds 174 = .ok (.iload 10, 2) := by decide +kernel
theorem dX9_odds_176 : decode cX9_odds 176 = .ok (.iload 13, 2) := by decide +kernel
theorem dX9_odds_178 : decode cX9_odds 178 = .ok (.ishr, 1) := by decide +kernel
theorem dX9_odds_179 : decode cX9_odds 179 = .ok (.iconst 1, 1) := by decide +kernel
theorem dX9_odds_180 : decode cX9_odds 180 = .ok (.iand, 1) := by decide +kernel
theorem dX9_odds_181 : decode cX9_odds 181 = .ok (.iconst 1, 1) := by decide +kernel
theorem dX9_odds_182 : decode cX9_odds 182 = .ok (.if_icmp .ne 7, 3) := by decide +kernel
theorem dX9_odds_185 : decode cX9_odds 185 = .ok (.iconst 1, 1) := by decide +kernel
theorem dX9_odds_186 : decode cX9_odds 186 = .ok (.goto 4, 3) := by decide +kernel
theorem dX9_odds_189 : decode cX9_odds 189 = .ok (.iconst 0, 1) := by decide +kernel
theorem dX9_odds_190 : decode cX9_odds 190 = .ok (.istore 14, 2) := by decide +kernel
theorem dX9_odds_192 : decode cX9_odds 192 = .ok (.iload 11, 2) := by decide +kernel
theorem dX9_odds_194 : decode cX9_odds 194 = .ok (.iload 14, 2) := by decide +kernel
theorem dX9_odds_196 : decode cX9_odds 196 = .ok (.ifCond .eq 10, 3) := by decide +kernel
theorem dX9_odds_199 : decode cX9_odds 199 = .ok (.bipush 10, 2) := by decide +kernel
theorem dX9_odds_201 : decode cX9_odds 201 = .ok (.iload_n 2, 1) := by decide +kernel
theorem dX9_odds_202 : decode cX9_odds 202 = .ok (.isub, 1) := by decide +kernel
theorem dX9_odds_203 : decode cX9_odds 203 = .ok (.goto 4, 3) := by decide +kernel
theorem dX9_odds_206 : decode cX9_odds 206 = .ok (.iload_n 2, 1) := by decide +kernel
theorem dX9_odds_207 : decode cX9_odds 207 = .ok (.imul, 1) := by decide +kernel
theorem dX9_odds_208 : decode cX9_odds 208 = .ok (.istore 11, 2) := by decide +kernel
theorem dX9_odds_210 : decode cX9_odds 210 = .ok (.iload 12, 2) := by decide +kernel
theorem dX9_odds_212 : decode cX9_odds 212 = .ok (.iload 14, 2) := by decide +kernel
theorem dX9_odds_214 : decode cX9_odds 214 = .ok (.ifCond .eq 7, 3) := by decide +kernel
theorem dX9_odds_217 : decode cX9_odds 217 = .ok (.iconst 1, 1) := by decide +kernel
theorem dX9_odds_218 : decode cX9_odds 218 = .ok (.goto 4, 3) := by decide +kernel
theorem dX9_odds_221 : decode cX9_odds 221 = .ok (.iconst 0, 1) := by decide +kernel
theorem dX9_odds_222 : decode cX9_odds 222 = .ok (.iadd, 1) := by decide +kernel
theorem dX9_odds_223 : decode cX9_odds 223 = .ok (.istore 12, 2) := by decide +kernel
theorem dX9_odds_225 : decode cX9_odds 225 = .ok (.iinc 13 1, 3) := by decide +kernel
theorem dX9_odds_228 : decode cX9_odds 228 = .ok (.goto (-61), 3) := by decide +kernel
theorem dX9_odds_231 : decode cX9_odds 231 = .ok (.iload 8, 2) := by decide +kernel
theorem dX9_odds_233 : decode cX9_odds 233 = .ok (.iload 12, 2) := by decide +kernel
theorem dX9_odds_235 : decode cX9_odds 235 = .ok (.iload 4, 2) := by decide +kernel
theorem dX9_odds_237 : decode cX9_odds 237 = .ok (.if_icmp .lt 8, 3) := by decide +kernel
theorem dX9_odds_240 : decode cX9_odds 240 = .ok (.iload 11, 2) := by decide +kernel
theorem dX9_odds_242 : decode cX9_odds 242 = .ok (.goto 4, 3) := by decide +kernel
theorem dX9_odds_245 : decode cX9_odds 245 = .ok (.iconst 0, 1) := by decide +kernel
theorem dX9_odds_246 : decode cX9_odds 246 = .ok (.iadd, 1) := by decide +kernel
theorem dX9_odds_247 : decode cX9_odds 247 = .ok (.istore 8, 2) := by decide +kernel
theorem dX9_odds_249 : decode cX9_odds 249 = .ok (.iinc 10 1, 3) := by decide +kernel
theorem dX9_odds_252 : decode cX9_odds 252 = .ok (.goto (-103), 3) := by decide +kernel
theorem dX9_odds_255 : decode cX9_odds 255 = .ok (.iload 8, 2) := by decide +kernel
theorem dX9_odds_257 : decode cX9_odds 257 = .ok (.i2l, 1) := by decide +kernel
theorem dX9_odds_258 : decode cX9_odds 258 = .ok (.iload 9, 2) := by decide +kernel
theorem dX9_odds_260 : decode cX9_odds 260 = .ok (.i2l, 1) := by decide +kernel
theorem dX9_odds_261 : decode cX9_odds 261 = .ok (.invokestatic 156, 3) := by decide +kernel
theorem dX9_odds_264 : decode cX9_odds 264 = .ok (.l2i, 1) := by decide +kernel
theorem dX9_odds_265 : decode cX9_odds 265 = .ok (.istore 10, 2) := by decide +kernel
theorem dX9_odds_267 : decode cX9_odds 267 = .ok (.iload 5, 2) := by decide +kernel
theorem dX9_odds_269 : decode cX9_odds 269 = .ok (.ifCond .ne 11, 3) := by decide +kernel
theorem dX9_odds_272 : decode cX9_odds 272 = .ok (.iload 8, 2) := by decide +kernel
theorem dX9_odds_274 : decode cX9_odds 274 = .ok (.iload 10, 2) := by decide +kernel
theorem dX9_odds_276 : decode cX9_odds 276 = .ok (.idiv, 1) := by decide +kernel
theorem dX9_odds_277 : decode cX9_odds 277 = .ok (.goto 8, 3) := by decide +kernel
theorem dX9_odds_280 : decode cX9_odds 280 = .ok (.iload 9, 2) := by decide +kernel
theorem dX9_odds_282 : decode cX9_odds 282 = .ok (.iload 10, 2) := by decide +kernel
theorem dX9_odds_284 : decode cX9_odds 284 = .ok (.idiv, 1) := by decide +kernel
theorem dX9_odds_285 : decode cX9_odds 285 = .ok (.ireturn, 1) := by decide +kernel
theorem dX9_rate_0 : decode cX9_rate 0 = .ok (.iload_n 1, 1) := by decide +kernel
theorem dX9_rate_1 : decode cX9_rate 1 = .ok (.iconst 0, 1) := by decide +kernel
theorem dX9_rate_2 : decode cX9_rate 2 = .ok (.iconst 5, 1) := by decide +kernel
theorem dX9_rate_3 : decode cX9_rate 3 = .ok (.invokestatic 45, 3) := by decide +kernel
theorem dX9_rate_6 : decode cX9_rate 6 = .ok (.ifCond .eq 10, 3) := by decide +kernel
theorem dX9_rate_9 : decode cX9_rate 9 = .ok (.iload_n 2, 1) := by decide +kernel
theorem dX9_rate_10 : decode cX9_rate 10 = .ok (.invokestatic 49, 3) := by decide +kernel
theorem dX9_rate_13 : decode cX9_rate 13 = .ok (.ifCond .ne 6, 3) := by decide +kernel
theorem dX9_rate_16 : decode cX9_rate 16 = .ok (.ldc 163, 2) := by decide +kernel
theorem dX9_rate_18 : decode cX9_rate 18 = .ok (.ireturn, 1) := by decide +kernel
theorem dX9_rate_19 : decode cX9_rate 19 = .ok (.aload_n 0, 1) := by decide +kernel
theorem dX9_rate_20 : decode cX9_rate 20 = .ok (.dup, 1) := by decide +kernel
theorem dX9_rate_21 : decode cX9_rate 21 = .ok (.getfield 164, 3) := by decide +kernel
theorem dX9_rate_24 : decode cX9_rate 24 = .ok (.iload_n 1, 1) := by decide +kernel
theorem dX9_rate_25 : decode cX9_rate 25 = .ok (.ifCond .ne 7, 3) := by decide +kernel
theorem dX9_rate_28 : decode cX9_rate 28 = .ok (.lconst 1, 1) := by decide +kernel
theorem dX9_rate_29 : decode cX9_rate 29 = .ok (.goto 50, 3) := by decide +kernel
theorem dX9_rate_32 : decode cX9_rate 32 = .ok (.iload_n 1, 1) := by decide +kernel
theorem dX9_rate_33 : decode cX9_rate 33 = .ok (.iconst 1, 1) := by decide +kernel
theorem dX9_rate_34 : decode cX9_rate 34 = .ok (.if_icmp .ne 9, 3) := by decide +kernel
theorem dX9_rate_37 : decode cX9_rate 37 = .ok (.ldc2_w 168, 3) := by decide +kernel
theorem dX9_rate_40 : decode cX9_rate 40 = .ok (.goto 39, 3) := by decide +kernel
theorem dX9_rate_43 : decode cX9_rate 43 = .ok (.iload_n 1, 1) := by decide +kernel
theorem dX9_rate_44 : decode cX9_rate 44 = .ok (.iconst 2, 1) := by decide +kernel
theorem dX9_rate_45 : decode cX9_rate 45 = .ok (.if_icmp .ne 9, 3) := by decide +kernel
theorem dX9_rate_48 : decode cX9_rate 48 = .ok (.ldc2_w 170, 3) := by decide +kernel
theorem dX9_rate_51 : decode cX9_rate 51 = .ok (.goto 28, 3) := by decide +kernel
theorem dX9_rate_54 : decode cX9_rate 54 = .ok (.iload_n 1, 1) := by decide +kernel
theorem dX9_rate_55 : decode cX9_rate 55 = .ok (.iconst 3, 1) := by decide +kernel
theorem dX9_rate_56 : decode cX9_rate 56 = .ok (.if_icmp .ne 9, 3) := by decide +kernel
theorem dX9_rate_59 : decode cX9_rate 59 = .ok (.ldc2_w 172, 3) := by decide +kernel
theorem dX9_rate_62 : decode cX9_rate 62 = .ok (.goto 17, 3) := by decide +kernel
theorem dX9_rate_65 : decode cX9_rate 65 = .ok (.iload_n 1, 1) := by decide +kernel
theorem dX9_rate_66 : decode cX9_rate 66 = .ok (.iconst 4, 1) := by decide +kernel
theorem dX9_rate_67 : decode cX9_rate 67 = .ok (.if_icmp .ne 9, 3) := by decide +kernel
theorem dX9_rate_70 : decode cX9_rate 70 = .ok (.ldc2_w 174, 3) := by decide +kernel
theorem dX9_rate_73 : decode cX9_rate 73 = .ok (.goto 6, 3) := by decide +kernel
theorem dX9_rate_76 : decode cX9_rate 76 = .ok (.ldc2_w 176, 3) := by decide +kernel
theorem dX9_rate_79 : decode cX9_rate 79 = .ok (.ladd, 1) := by decide +kernel
theorem dX9_rate_80 : decode cX9_rate 80 = .ok (.putfield 164, 3) := by decide +kernel
theorem dX9_rate_83 : decode cX9_rate 83 = .ok (.aload_n 0, 1) := by decide +kernel
theorem dX9_rate_84 : decode cX9_rate 84 = .ok (.getfield 19, 3) := by decide +kernel
theorem dX9_rate_87 : decode cX9_rate 87 = .ok (.iconst 3, 1) := by decide +kernel
theorem dX9_rate_88 : decode cX9_rate 88 = .ok (.iload_n 2, 1) := by decide +kernel
theorem dX9_rate_89 : decode cX9_rate 89 = .ok (.iadd, 1) := by decide +kernel
theorem dX9_rate_90 : decode cX9_rate 90 = .ok (.iaload, 1) := by decide +kernel
theorem dX9_rate_91 : decode cX9_rate 91 = .ok (.istore_n 3, 1) := by decide +kernel
theorem dX9_rate_92 : decode cX9_rate 92 = .ok (.iload_n 3, 1) := by decide +kernel
theorem dX9_rate_93 : decode cX9_rate 93 = .ok (.aload_n 0, 1) := by decide +kernel
theorem dX9_rate_94 : decode cX9_rate 94 = .ok (.getfield 19, 3) := by decide +kernel
theorem dX9_rate_97 : decode cX9_rate 97 = .ok (.bipush 11, 2) := by decide +kernel
theorem dX9_rate_99 : decode cX9_rate 99 = .ok (.iload_n 2, 1) := by decide +kernel
theorem dX9_rate_100 : decode cX9_rate 100 = .ok (.iadd, 1) := by decide +kernel
theorem dX9_rate_101 : decode cX9_rate 101 = .ok (.iaload, 1) := by decide +kernel
theorem dX9_rate_102 : decode cX9_rate 102 = .ok (.iadd, 1) := by decide +kernel
theorem dX9_rate_103 : decode cX9_rate 103 = .ok (.istore 4, 2) := by decide +kernel
theorem dX9_rate_105 : decode cX9_rate 105 = .ok (.iload_n 3, 1) := by decide +kernel
theorem dX9_rate_106 : decode cX9_rate 106 = .ok (.aload_n 0, 1) := by decide +kernel
theorem dX9_rate_107 : decode cX9_rate 107 = .ok (.getfield 19, 3) := by decide +kernel
theorem dX9_rate_110 : decode cX9_rate 110 = .ok (.bipush 19, 2) := by decide +kernel
theorem dX9_rate_112 : decode cX9_rate 112 = .ok (.iload_n 2, 1) := by decide +kernel
theorem dX9_rate_113 : decode cX9_rate 113 = .ok (.iadd, 1) := by decide +kernel
theorem dX9_rate_114 : decode cX9_rate 114 = .ok (.iaload, 1) := by decide +kernel
theorem dX9_rate_115 : decode cX9_rate 115 = .ok (.isub, 1) := by decide +kernel
theorem dX9_rate_116 : decode cX9_rate 116 = .ok (.istore 5, 2) := by decide +kernel
theorem dX9_rate_118 : decode cX9_rate 118 = .ok (.iload_n 1, 1) := by decide +kernel
theorem dX9_rate_119 : decode cX9_rate 119 = .ok (.ifCond .ne 7, 3) := by decide +kernel
theorem dX9_rate_122 : decode cX9_rate 122 = .ok (.iload_n 3, 1) := by decide +kernel
theorem dX9_rate_123 : decode cX9_rate 123 = .ok (.goto 53, 3) := by decide +kernel
theorem dX9_rate_126 : decode cX9_rate 126 = .ok (.iload_n 1, 1) := by decide +kernel
theorem dX9_rate_127 : decode cX9_rate 127 = .ok (.iconst 1, 1) := by decide +kernel
theorem dX9_rate_128 : decode cX9_rate 128 = .ok (.if_icmp .ne 8, 3) := by decide +kernel
theorem dX9_rate_131 : decode cX9_rate 131 = .ok (.iload 4, 2) := by decide +kernel
theorem dX9_rate_133 : decode cX9_rate 133 = .ok (.goto 43, 3) := by decide +kernel
theorem dX9_rate_136 : decode cX9_rate 136 = .ok (.iload_n 1, 1) := by decide +kernel
theorem dX9_rate_137 : decode cX9_rate 137 = .ok (.iconst 2, 1) := by decide +kernel
theorem dX9_rate_138 : decode cX9_rate 138 = .ok (.if_icmp .ne 8, 3) := by decide +kernel
theorem dX9_rate_141 : decode cX9_rate 141 = .ok (.iload 5, 2) := by decide +kernel
theorem dX9_rate_143 : decode cX9_rate 143 = .ok (.goto 33, 3) := by decide +kernel
theorem dX9_rate_146 : decode cX9_rate 146 = .ok (.iload_n 1, 1) := by decide +kernel
theorem dX9_rate_147 : decode cX9_rate 147 = .ok (.iconst 3, 1) := by decide +kernel
theorem dX9_rate_148 : decode cX9_rate 148 = .ok (.if_icmp .ne 10, 3) := by decide +kernel
theorem dX9_rate_151 : decode cX9_rate 151 = .ok (.iconst 2, 1) := by decide +kernel
theorem dX9_rate_152 : decode cX9_rate 152 = .ok (.iload 4, 2) := by decide +kernel
theorem dX9_rate_154 : decode cX9_rate 154 = .ok (.imul, 1) := by decide +kernel
theorem dX9_rate_155 : decode cX9_rate 155 = .ok (.goto 21, 3) := by decide +kernel
theorem dX9_rate_158 : decode cX9_rate 158 = .ok (.iload_n 1, 1) := by decide +kernel
theorem dX9_rate_159 : decode cX9_rate 159 = .ok (.iconst 4, 1) := by decide +kernel
theorem dX9_rate_160 : decode cX9_rate 160 = .ok (.if_icmp .ne 10, 3) := by decide +kernel
theorem dX9_rate_163 : decode cX9_rate 163 = .ok (.iload 5, 2) := by decide +kernel
theorem dX9_rate_165 : decode cX9_rate 165 = .ok (.iload_n 2, 1) := by decide +kernel
theorem dX9_rate_166 : decode cX9_rate 166 = .ok (.iadd, 1) := by decide +kernel
theorem dX9_rate_167 : decode cX9_rate 167 = .ok (.goto 9, 3) := by decide +kernel
theorem dX9_rate_170 : decode cX9_rate 170 = .ok (.iload_n 3, 1) := by decide +kernel
theorem dX9_rate_171 : decode cX9_rate 171 = .ok (.aload_n 0, 1) := by decide +kernel
theorem dX9_rate_172 : decode cX9_rate 172 = .ok (.invokevirtual 88, 3) := by decide +kernel
theorem dX9_rate_175 : decode cX9_rate 175 = .ok (.iadd, 1) := by decide +kernel
theorem dX9_rate_176 : decode cX9_rate 176 = .ok (.ireturn, 1) := by decide +kernel
theorem dX9_keep_0 : decode cX9_keep 0 = .ok (.iload_n 1, 1) := by decide +kernel
theorem dX9_keep_1 : decode cX9_keep 1 = .ok (.iconst 0, 1) := by decide +kernel
theorem dX9_keep_2 : decode cX9_keep 2 = .ok (.iconst 1, 1) := by decide +kernel
theorem dX9_keep_3 : decode cX9_keep 3 = .ok (.invokestatic 45, 3) := by decide +kernel
theorem dX9_keep_6 : decode cX9_keep 6 = .ok (.ifCond .ne 5, 3) := by decide +kernel
theorem dX9_keep_9 : decode cX9_keep 9 = .ok (.iconst (-1), 1) := by decide +kernel
theorem dX9_keep_10 : decode cX9_keep 10 = .ok (.ireturn, 1) := by decide +kernel
theorem dX9_keep_11 : decode cX9_keep 11 = .ok (.iconst 0, 1) := by decide +kernel
theorem dX9_keep_12 : decode cX9_keep 12 = .ok (.istore_n 2, 1) := by decide +kernel
theorem dX9_keep_13 : decode cX9_keep 13 = .ok (.iload_n 2, 1) := by decide +kernel
theorem dX9_keep_14 : decode cX9_keep 14 = .ok (.bipush 59, 2) := by decide +kernel
theorem dX9_keep_16 : decode cX9_keep 16 = .ok (.if_icmp .ge 26, 3) := by decide +kernel
theorem dX9_keep_19 : decode cX9_keep 19 = .ok (.aload_n 0, 1) := by decide +kernel
theorem dX9_keep_20 : decode cX9_keep 20 = .ok (.getfield 25, 3) := by decide +kernel
theorem dX9_keep_23 : decode cX9_keep 23 = .ok (.bipush 59, 2) := by decide +kernel
theorem dX9_keep_25 : decode cX9_keep 25 = .ok (.iload_n 1, 1) := by decide +kernel
theorem dX9_keep_26 : decode cX9_keep 26 = .ok (.imul, 1) := by decide +kernel
theorem dX9_keep_27 : decode cX9_keep 27 = .ok (.iload_n 2, 1) := by decide +kernel
theorem dX9_keep_28 : decode cX9_keep 28 = .ok (.iadd, 1) := by decide +kernel
theorem dX9_keep_29 : decode cX9_keep 29 = .ok (.aload_n 0, 1) := by decide +kernel
theorem dX9_keep_30 : decode cX9_keep 30 = .ok (.getfield 19, 3) := by decide +kernel
theorem dX9_keep_33 : decode cX9_keep 33 = .ok (.iload_n 2, 1) := by decide +kernel
theorem dX9_keep_34 : decode cX9_keep 34 = .ok (.iaload, 1) := by decide +kernel
theorem dX9_keep_35 : decode cX9_keep 35 = .ok (.iastore, 1) := by decide +kernel
theorem dX9_keep_36 : decode cX9_keep 36 = .ok (.iinc 2 1, 3) := by decide +kernel
theorem dX9_keep_39 : decode cX9_keep 39 = .ok (.goto (-26), 3) := by decide +kernel
theorem dX9_keep_42 : decode cX9_keep 42 = .ok (.aload_n 0, 1) := by decide +kernel
theorem dX9_keep_43 : decode cX9_keep 43 = .ok (.getfield 28, 3) := by decide +kernel
theorem dX9_keep_46 : decode cX9_keep 46 = .ok (.iload_n 1, 1) := by decide +kernel
theorem dX9_keep_47 : decode cX9_keep 47 = .ok (.iconst 1, 1) := by decide +kernel
theorem dX9_keep_48 : decode cX9_keep 48 = .ok (.bastore, 1) := by decide +kernel
theorem dX9_keep_49 : decode cX9_keep 49 = .ok (.aload_n 0, 1) := by decide +kernel
theorem dX9_keep_50 : decode cX9_keep 50 = .ok (.getfield 19, 3) := by decide +kernel
theorem dX9_keep_53 : decode cX9_keep 53 = .ok (.iconst 0, 1) := by decide +kernel
theorem dX9_keep_54 : decode cX9_keep 54 = .ok (.iaload, 1) := by decide +kernel
theorem dX9_keep_55 : decode cX9_keep 55 = .ok (.ireturn, 1) := by decide +kernel
theorem dX9_back_0 : decode cX9_back 0 = .ok (.iload_n 1, 1) := by decide +kernel
theorem dX9_back_1 : decode cX9_back 1 = .ok (.iconst 0, 1) := by decide +kernel
theorem dX9_back_2 : decode cX9_back 2 = .ok (.iconst 1, 1) := by decide +kernel
theorem dX9_back_3 : decode cX9_back 3 = .ok (.invokestatic 45, 3) := by decide +kernel
theorem dX9_back_6 : decode cX9_back 6 = .ok (.ifCond .ne 5, 3) := by decide +kernel
theorem dX9_back_9 : decode cX9_back 9 = .ok (.iconst (-1), 1) := by decide +kernel
theorem dX9_back_10 : decode cX9_back 10 = .ok (.ireturn, 1) := by decide +kernel
theorem dX9_back_11 : decode cX9_back 11 = .ok (.aload_n 0, 1) := by decide +kernel
theorem dX9_back_12 : decode cX9_back 12 = .ok (.getfield 28, 3) := by decide +kernel
theorem dX9_back_15 : decode cX9_back 15 = .ok (.iload_n 1, 1) := by decide +kernel
theorem dX9_back_16 : decode cX9_back 16 = .ok (.baload, 1) := by decide +kernel
theorem dX9_back_17 : decode cX9_back 17 = .ok (.ifCond .ne 6, 3) := by decide +kernel
theorem dX9_back_20 : decode cX9_back 20 = .ok (.bipush (-2), 2) := by decide +kernel
theorem dX9_back_22 : decode cX9_back 22 = .ok (.ireturn, 1) := by decide +kernel
theorem dX9_back_23 : decode cX9_back 23 = .ok (.iconst 0, 1) := by decide +kernel
theorem dX9_back_24 : decode cX9_back 24 = .ok (.istore_n 2, 1) := by decide +kernel
theorem dX9_back_25 : decode cX9_back 25 = .ok (.iload_n 2, 1) := by decide +kernel
theorem dX9_back_26 : decode cX9_back 26 = .ok (.bipush 59, 2) := by decide +kernel
theorem dX9_back_28 : decode cX9_back 28 = .ok (.if_icmp .ge 26, 3) := by decide +kernel
theorem dX9_back_31 : decode cX9_back 31 = .ok (.aload_n 0, 1) := by decide +kernel
theorem dX9_back_32 : decode cX9_back 32 = .ok (.getfield 19, 3) := by decide +kernel
theorem dX9_back_35 : decode cX9_back 35 = .ok (.iload_n 2, 1) := by decide +kernel
theorem dX9_back_36 : decode cX9_back 36 = .ok (.aload_n 0, 1) := by decide +kernel
theorem dX9_back_37 : decode cX9_back 37 = .ok (.getfield 25, 3) := by decide +kernel
theorem dX9_back_40 : decode cX9_back 40 = .ok (.bipush 59, 2) := by decide +kernel
theorem dX9_back_42 : decode cX9_back 42 = .ok (.iload_n 1, 1) := by decide +kernel
theorem dX9_back_43 : decode cX9_back 43 = .ok (.imul, 1) := by decide +kernel
theorem dX9_back_44 : decode cX9_back 44 = .ok (.iload_n 2, 1) := by decide +kernel
theorem dX9_back_45 : decode cX9_back 45 = .ok (.iadd, 1) := by decide +kernel
theorem dX9_back_46 : decode cX9_back 46 = .ok (.iaload, 1) := by decide +kernel
theorem dX9_back_47 : decode cX9_back 47 = .ok (.iastore, 1) := by decide +kernel
theorem dX9_back_48 : decode cX9_back 48 = .ok (.iinc 2 1, 3) := by decide +kernel
theorem dX9_back_51 : decode cX9_back 51 = .ok (.goto (-26), 3) := by decide +kernel
theorem dX9_back_54 : decode cX9_back 54 = .ok (.aload_n 0, 1) := by decide +kernel
theorem dX9_back_55 : decode cX9_back 55 = .ok (.iconst 0, 1) := by decide +kernel
theorem dX9_back_56 : decode cX9_back 56 = .ok (.putfield 95, 3) := by decide +kernel
theorem dX9_back_59 : decode cX9_back 59 = .ok (.aload_n 0, 1) := by decide +kernel
theorem dX9_back_60 : decode cX9_back 60 = .ok (.getfield 19, 3) := by decide +kernel
theorem dX9_back_63 : decode cX9_back 63 = .ok (.iconst 0, 1) := by decide +kernel
theorem dX9_back_64 : decode cX9_back 64 = .ok (.iaload, 1) := by decide +kernel
theorem dX9_back_65 : decode cX9_back 65 = .ok (.ireturn, 1) := by decide +kernel
theorem dX9_count_0 : decode cX9_count 0 = .ok (.iload_n 1, 1) := by decide +kernel
theorem dX9_count_1 : decode cX9_count 1 = .ok (.iconst 0, 1) := by decide +kernel
theorem dX9_count_2 : decode cX9_count 2 = .ok (.bipush 6, 2) := by decide +kernel
theorem dX9_count_4 : decode cX9_count 4 = .ok (.invokestatic 45, 3) := by decide +kernel
theorem dX9_count_7 : decode cX9_count 7 = .ok (.ifCond .ne 5, 3) := by decide +kernel
theorem dX9_count_10 : decode cX9_count 10 = .ok (.iconst (-1), 1) := by decide +kernel
theorem dX9_count_11 : decode cX9_count 11 = .ok (.ireturn, 1) := by decide +kernel
theorem dX9_count_12 : decode cX9_count 12 = .ok (.iload_n 1, 1) := by decide +kernel
theorem dX9_count_13 : decode cX9_count 13 = .ok (.iconst 4, 1) := by decide +kernel
theorem dX9_count_14 : decode cX9_count 14 = .ok (.if_icmp .ge 14, 3) := by decide +kernel
theorem dX9_count_17 : decode cX9_count 17 = .ok (.aload_n 0, 1) := by decide +kernel
theorem dX9_count_18 : decode cX9_count 18 = .ok (.getfield 13, 3) := by decide +kernel
theorem dX9_count_21 : decode cX9_count 21 = .ok (.iconst 1, 1) := by decide +kernel
theorem dX9_count_22 : decode cX9_count 22 = .ok (.iload_n 1, 1) := by decide +kernel
theorem dX9_count_23 : decode cX9_count 23 = .ok (.iadd, 1) := by decide +kernel
theorem dX9_count_24 : decode cX9_count 24 = .ok (.iaload, 1) := by decide +kernel
theorem dX9_count_25 : decode cX9_count 25 = .ok (.goto 33, 3) := by decide +kernel
theorem dX9_count_28 : decode cX9_count 28 = .ok (.iload_n 1, 1) := by decide +kernel
theorem dX9_count_29 : decode cX9_count 29 = .ok (.iconst 4, 1) := by decide +kernel
theorem dX9_count_30 : decode cX9_count 30 = .ok (.if_icmp .ne 12, 3) := by decide +kernel
theorem dX9_count_33 : decode cX9_count 33 = .ok (.aload_n 0, 1) := by decide +kernel
theorem dX9_count_34 : decode cX9_count 34 = .ok (.getfield 13, 3) := by decide +kernel
theorem dX9_count_37 : decode cX9_count 37 = .ok (.iconst 5, 1) := by decide +kernel
theorem dX9_count_38 : decode cX9_count 38 = .ok (.iaload, 1) := by decide +kernel
