theorem dX7_most_196 : decode cX7_most 196 = .ok (.goto (-87), 3) := by decide +kernel
theorem dX7_most_199 : decode cX7_most 199 = .ok (.iinc 3 1, 3) := by decide +kernel
theorem dX7_most_202 : decode cX7_most 202 = .ok (.goto (-102), 3) := by decide +kernel
theorem dX7_most_205 : decode cX7_most 205 = .ok (.iconst 0, 1) := by decide +kernel
theorem dX7_most_206 : decode cX7_most 206 = .ok (.istore_n 3, 1) := by decide +kernel
theorem dX7_most_207 : decode cX7_most 207 = .ok (.iload_n 3, 1) := by decide +kernel
theorem dX7_most_208 : decode cX7_most 208 = .ok (.bipush 64, 2) := by decide +kernel
theorem dX7_most_210 : decode cX7_most 210 = .ok (.if_icmp .ge 21, 3) := by decide +kernel
theorem dX7_most_213 : decode cX7_most 213 = .ok (.aload_n 0, 1) := by decide +kernel
theorem dX7_most_214 : decode cX7_most 214 = .ok (.getfield 65, 3) := by decide +kernel
theorem dX7_most_217 : decode cX7_most 217 = .ok (.iload_n 3, 1) := by decide +kernel
theorem dX7_most_218 : decode cX7_most 218 = .ok (.aload_n 0, 1) := by decide +kernel
theorem dX7_most_219 : decode cX7_most 219 = .ok (.getfield 68, 3) := by decide +kernel
theorem dX7_most_222 : decode cX7_most 222 = .ok (.iload_n 3, 1) := by decide +kernel
theorem dX7_most_223 : decode cX7_most 223 = .ok (.iaload, 1) := by decide +kernel
theorem dX7_most_224 : decode cX7_most 224 = .ok (.iastore, 1) := by decide +kernel
theorem dX7_most_225 : decode cX7_most 225 = .ok (.iinc 3 1, 3) := by decide +kernel
theorem dX7_most_228 : decode cX7_most 228 = .ok (.goto (-21), 3) := by decide +kernel
theorem dX7_most_231 : decode cX7_most 231 = .ok (.iinc 2 1, 3) := by decide +kernel
theorem dX7_most_234 : decode cX7_most 234 = .ok (.goto (-165), 3) := by decide +kernel
theorem dX7_most_237 : decode cX7_most 237 = .ok (.iconst 0, 1) := by decide +kernel
theorem dX7_most_238 : decode cX7_most 238 = .ok (.istore_n 2, 1) := by decide +kernel
theorem dX7_most_239 : decode cX7_most 239 = .ok (.iconst 0, 1) := by decide +kernel
theorem dX7_most_240 : decode cX7_most 240 = .ok (.istore_n 3, 1) := by decide +kernel
theorem dX7_most_241 : decode cX7_most 241 = .ok (.iload_n 3, 1) := by decide +kernel
theorem dX7_most_242 : decode cX7_most 242 = .ok (.bipush 64, 2) := by decide +kernel
theorem dX7_most_244 : decode cX7_most 244 = .ok (.if_icmp .ge 40, 3) := by decide +kernel
theorem dX7_most_247 : decode cX7_most 247 = .ok (.aload_n 0, 1) := by decide +kernel
theorem dX7_most_248 : decode cX7_most 248 = .ok (.getfield 65, 3) := by decide +kernel
theorem dX7_most_251 : decode cX7_most 251 = .ok (.iload_n 3, 1) := by decide +kernel
theorem dX7_most_252 : decode cX7_most 252 = .ok (.iaload, 1) := by decide +kernel
theorem dX7_most_253 : decode cX7_most 253 = .ok (.aload_n 0, 1) := by decide +kernel
theorem dX7_most_254 : decode cX7_most 254 = .ok (.iload_n 1, 1) := by decide +kernel
theorem dX7_most_255 : decode cX7_most 255 = .ok (.invokevirtual 191, 3) := by decide +kernel
theorem dX7_most_258 : decode cX7_most 258 = .ok (.if_icmp .gt 18, 3) := by decide +kernel
theorem dX7_most_261 : decode cX7_most 261 = .ok (.iload_n 3, 1) := by decide +kernel
theorem dX7_most_262 : decode cX7_most 262 = .ok (.invokestatic 143, 3) := by decide +kernel
theorem dX7_most_265 : decode cX7_most 265 = .ok (.iload_n 2, 1) := by decide +kernel
theorem dX7_most_266 : decode cX7_most 266 = .ok (.if_icmp .le 10, 3) := by decide +kernel
theorem dX7_most_269 : decode cX7_most 269 = .ok (.iload_n 3, 1) := by decide +kernel
theorem dX7_most_270 : decode cX7_most 270 = .ok (.invokestatic 143, 3) := by decide +kernel
theorem dX7_most_273 : decode cX7_most 273 = .ok (.goto 4, 3) := by decide +kernel
theorem dX7_most_276 : decode cX7_most 276 = .ok (.iload_n 2, 1) := by decide +kernel
theorem dX7_most_277 : decode cX7_most 277 = .ok (.istore_n 2, 1) := by decide +kernel
theorem dX7_most_278 : decode cX7_most 278 = .ok (.iinc 3 1, 3) := by decide +kernel
theorem dX7_most_281 : decode cX7_most 281 = .ok (.goto (-40), 3) := by decide +kernel
theorem dX7_most_284 : decode cX7_most 284 = .ok (.iload_n 2, 1) := by decide +kernel
theorem dX7_most_285 : decode cX7_most 285 = .ok (.ireturn, 1) := by decide +kernel
theorem dX7_goWays_0 : decode cX7_goWays 0 = .ok (.iconst 0, 1) := by decide +kernel
theorem dX7_goWays_1 : decode cX7_goWays 1 = .ok (.istore_n 3, 1) := by decide +kernel
theorem dX7_goWays_2 : decode cX7_goWays 2 = .ok (.iload_n 3, 1) := by decide +kernel
theorem dX7_goWays_3 : decode cX7_goWays 3 = .ok (.sipush 640, 3) := by decide +kernel
theorem dX7_goWays_6 : decode cX7_goWays 6 = .ok (.if_icmp .ge 16, 3) := by decide +kernel
theorem dX7_goWays_9 : decode cX7_goWays 9 = .ok (.aload_n 0, 1) := by decide +kernel
theorem dX7_goWays_10 : decode cX7_goWays 10 = .ok (.getfield 68, 3) := by decide +kernel
theorem dX7_goWays_13 : decode cX7_goWays 13 = .ok (.iload_n 3, 1) := by decide +kernel
theorem dX7_goWays_14 : decode cX7_goWays 14 = .ok (.iconst 0, 1) := by decide +kernel
theorem dX7_goWays_15 : decode cX7_goWays 15 = .ok (.iastore, 1) := by decide +kernel
theorem dX7_goWays_16 : decode cX7_goWays 16 = .ok (.iinc 3 1, 3) := by decide +kernel
theorem dX7_goWays_19 : decode cX7_goWays 19 = .ok (.goto (-17), 3) := by decide +kernel
theorem dX7_goWays_22 : decode cX7_goWays 22 = .ok (.iconst 0, 1) := by decide +kernel
theorem dX7_goWays_23 : decode cX7_goWays 23 = .ok (.istore_n 3, 1) := by decide +kernel
theorem dX7_goWays_24 : decode cX7_goWays 24 = .ok (.iload_n 3, 1) := by decide +kernel
theorem dX7_goWays_25 : decode cX7_goWays 25 = .ok (.sipush 640, 3) := by decide +kernel
theorem dX7_goWays_28 : decode cX7_goWays 28 = .ok (.if_icmp .ge 94, 3) := by decide +kernel
theorem dX7_goWays_31 : decode cX7_goWays 31 = .ok (.iconst 0, 1) := by decide +kernel
theorem dX7_goWays_32 : decode cX7_goWays 32 = .ok (.istore 4, 2) := by decide +kernel
theorem dX7_goWays_34 : decode cX7_goWays 34 = .ok (.iload 4, 2) := by decide +kernel
theorem dX7_goWays_36 : decode cX7_goWays 36 = .ok (.bipush 8, 2) := by decide +kernel
theorem dX7_goWays_38 : decode cX7_goWays 38 = .ok (.if_icmp .ge 78, 3) := by decide +kernel
theorem dX7_goWays_41 : decode cX7_goWays 41 = .ok (.aload_n 0, 1) := by decide +kernel
theorem dX7_goWays_42 : decode cX7_goWays 42 = .ok (.getfield 65, 3) := by decide +kernel
theorem dX7_goWays_45 : decode cX7_goWays 45 = .ok (.iload_n 3, 1) := by decide +kernel
theorem dX7_goWays_46 : decode cX7_goWays 46 = .ok (.iaload, 1) := by decide +kernel
theorem dX7_goWays_47 : decode cX7_goWays 47 = .ok (.ifCond .le 69, 3) := by decide +kernel
theorem dX7_goWays_50 : decode cX7_goWays 50 = .ok (.aload_n 0, 1) := by decide +kernel
theorem dX7_goWays_51 : decode cX7_goWays 51 = .ok (.iload 4, 2) := by decide +kernel
theorem dX7_goWays_53 : decode cX7_goWays 53 = .ok (.iload_n 1, 1) := by decide +kernel
theorem dX7_goWays_54 : decode cX7_goWays 54 = .ok (.iload_n 3, 1) := by decide +kernel
theorem dX7_goWays_55 : decode cX7_goWays 55 = .ok (.bipush 10, 2) := by decide +kernel
theorem dX7_goWays_57 : decode cX7_goWays 57 = .ok (.idiv, 1) := by decide +kernel
theorem dX7_goWays_58 : decode cX7_goWays 58 = .ok (.invokevirtual 183, 3) := by decide +kernel
theorem dX7_goWays_61 : decode cX7_goWays 61 = .ok (.istore 5, 2) := by decide +kernel
theorem dX7_goWays_63 : decode cX7_goWays 63 = .ok (.iload_n 3, 1) := by decide +kernel
theorem dX7_goWays_64 : decode cX7_goWays 64 = .ok (.bipush 10, 2) := by decide +kernel
theorem dX7_goWays_66 : decode cX7_goWays 66 = .ok (.irem, 1) := by decide +kernel
theorem dX7_goWays_67 : decode cX7_goWays 67 = .ok (.iload 4, 2) := by decide +kernel
theorem dX7_goWays_69 : decode cX7_goWays 69 = .ok (.invokestatic 143, 3) := by decide +kernel
theorem dX7_goWays_72 : decode cX7_goWays 72 = .ok (.iadd, 1) := by decide +kernel
theorem dX7_goWays_73 : decode cX7_goWays 73 = .ok (.istore 6, 2) := by decide +kernel
theorem dX7_goWays_75 : decode cX7_goWays 75 = .ok (.iload 5, 2) := by decide +kernel
theorem dX7_goWays_77 : decode cX7_goWays 77 = .ok (.bipush (-9), 2) := by decide +kernel
theorem dX7_goWays_79 : decode cX7_goWays 79 = .ok (.if_icmp .eq 31, 3) := by decide +kernel
theorem dX7_goWays_82 : decode cX7_goWays 82 = .ok (.iload 6, 2) := by decide +kernel
theorem dX7_goWays_84 : decode cX7_goWays 84 = .ok (.iload_n 2, 1) := by decide +kernel
theorem dX7_goWays_85 : decode cX7_goWays 85 = .ok (.if_icmp .gt 25, 3) := by decide +kernel
theorem dX7_goWays_88 : decode cX7_goWays 88 = .ok (.aload_n 0, 1) := by decide +kernel
theorem dX7_goWays_89 : decode cX7_goWays 89 = .ok (.getfield 68, 3) := by decide +kernel
theorem dX7_goWays_92 : decode cX7_goWays 92 = .ok (.bipush 10, 2) := by decide +kernel
theorem dX7_goWays_94 : decode cX7_goWays 94 = .ok (.iload 5, 2) := by decide +kernel
theorem dX7_goWays_96 : decode cX7_goWays 96 = .ok (.imul, 1) := by decide +kernel
theorem dX7_goWays_97 : decode cX7_goWays 97 = .ok (.iload 6, 2) := by decide +kernel
theorem dX7_goWays_99 : decode cX7_goWays 99 = .ok (.iadd, 1) := by decide +kernel
theorem dX7_goWays_100 : decode cX7_goWays 100 = .ok (.dup2, 1) := by decide +kernel
theorem dX7_goWays_101 : decode cX7_goWays 101 = .ok (.iaload, 1) := by decide +kernel
theorem dX7_goWays_102 : decode cX7_goWays 102 = .ok (.aload_n 0, 1) := by decide +kernel
theorem dX7_goWays_103 : decode cX7_goWays 103 = .ok (.getfield 65, 3) := by decide +kernel
theorem dX7_goWays_106 : decode cX7_goWays 106 = .ok (.iload_n 3, 1) := by decide +kernel
theorem dX7_goWays_107 : decode cX7_goWays 107 = .ok (.iaload, 1) := by decide +kernel
theorem dX7_goWays_108 : decode cX7_goWays 108 = .ok (.iadd, 1) := by decide +kernel
theorem dX7_goWays_109 : decode cX7_goWays 109 = .ok (.iastore, 1) := by decide +kernel
theorem dX7_goWays_110 : decode cX7_goWays 110 = .ok (.iinc 4 1, 3) := by decide +kernel
theorem dX7_goWays_113 : decode cX7_goWays 113 = .ok (.goto (-79), 3) := by decide +kernel
theorem dX7_goWays_116 : decode cX7_goWays 116 = .ok (.iinc 3 1, 3) := by decide +kernel
theorem dX7_goWays_119 : decode cX7_goWays 119 = .ok (.goto (-95), 3) := by decide +kernel
theorem dX7_goWays_122 : decode cX7_goWays 122 = .ok (.iconst 0, 1) := by decide +kernel
theorem dX7_goWays_123 : decode cX7_goWays 123 = .ok (.istore_n 3, 1) := by decide +kernel
theorem dX7_goWays_124 : decode cX7_goWays 124 = .ok (.iload_n 3, 1) := by decide +kernel
theorem dX7_goWays_125 : decode cX7_goWays 125 = .ok (.sipush 640, 3) := by decide +kernel
theorem dX7_goWays_128 : decode cX7_goWays 128 = .ok (.if_icmp .ge 21, 3) := by decide +kernel
theorem dX7_goWays_131 : decode cX7_goWays 131 = .ok (.aload_n 0, 1) := by decide +kernel
theorem dX7_goWays_132 : decode cX7_goWays 132 = .ok (.getfield 65, 3) := by decide +kernel
theorem dX7_goWays_135 : decode cX7_goWays 135 = .ok (.iload_n 3, 1) := by decide +kernel
theorem dX7_goWays_136 : decode cX7_goWays 136 = .ok (.aload_n 0, 1) := by decide +kernel
theorem dX7_goWays_137 : decode cX7_goWays 137 = .ok (.getfield 68, 3) := by decide +kernel
theorem dX7_goWays_140 : decode cX7_goWays 140 = .ok (.iload_n 3, 1) := by decide +kernel
theorem dX7_goWays_141 : decode cX7_goWays 141 = .ok (.iaload, 1) := by decide +kernel
theorem dX7_goWays_142 : decode cX7_goWays 142 = .ok (.iastore, 1) := by decide +kernel
theorem dX7_goWays_143 : decode cX7_goWays 143 = .ok (.iinc 3 1, 3) := by decide +kernel
theorem dX7_goWays_146 : decode cX7_goWays 146 = .ok (.goto (-22), 3) := by decide +kernel
theorem dX7_goWays_149 : decode cX7_goWays 149 = .ok (.return_, 1) := by decide +kernel
theorem dX7_spent_0 : decode cX7_spent 0 = .ok (.aload_n 0, 1) := by decide +kernel
theorem dX7_spent_1 : decode cX7_spent 1 = .ok (.iconst 0, 1) := by decide +kernel
theorem dX7_spent_2 : decode cX7_spent 2 = .ok (.putfield 77, 3) := by decide +kernel
theorem dX7_spent_5 : decode cX7_spent 5 = .ok (.aload_n 0, 1) := by decide +kernel
theorem dX7_spent_6 : decode cX7_spent 6 = .ok (.iload_n 2, 1) := by decide +kernel
theorem dX7_spent_7 : decode cX7_spent 7 = .ok (.invokevirtual 150, 3) := by decide +kernel
theorem dX7_spent_10 : decode cX7_spent 10 = .ok (.ifCond .ne 11, 3) := by decide +kernel
theorem dX7_spent_13 : decode cX7_spent 13 = .ok (.aload_n 0, 1) := by decide +kernel
theorem dX7_spent_14 : decode cX7_spent 14 = .ok (.iload_n 1, 1) := by decide +kernel
theorem dX7_spent_15 : decode cX7_spent 15 = .ok (.invokevirtual 155, 3) := by decide +kernel
theorem dX7_spent_18 : decode cX7_spent 18 = .ok (.ifCond .eq 5, 3) := by decide +kernel
theorem dX7_spent_21 : decode cX7_spent 21 = .ok (.iconst (-1), 1) := by decide +kernel
theorem dX7_spent_22 : decode cX7_spent 22 = .ok (.ireturn, 1) := by decide +kernel
theorem dX7_spent_23 : decode cX7_spent 23 = .ok (.aload_n 0, 1) := by decide +kernel
theorem dX7_spent_24 : decode cX7_spent 24 = .ok (.getfield 130, 3) := by decide +kernel
theorem dX7_spent_27 : decode cX7_spent 27 = .ok (.ifCond .eq 6, 3) := by decide +kernel
theorem dX7_spent_30 : decode cX7_spent 30 = .ok (.bipush (-3), 2) := by decide +kernel
theorem dX7_spent_32 : decode cX7_spent 32 = .ok (.ireturn, 1) := by decide +kernel
theorem dX7_spent_33 : decode cX7_spent 33 = .ok (.aload_n 0, 1) := by decide +kernel
theorem dX7_spent_34 : decode cX7_spent 34 = .ok (.iload_n 1, 1) := by decide +kernel
theorem dX7_spent_35 : decode cX7_spent 35 = .ok (.invokevirtual 191, 3) := by decide +kernel
theorem dX7_spent_38 : decode cX7_spent 38 = .ok (.istore_n 3, 1) := by decide +kernel
theorem dX7_spent_39 : decode cX7_spent 39 = .ok (.iconst 0, 1) := by decide +kernel
theorem dX7_spent_40 : decode cX7_spent 40 = .ok (.istore 4, 2) := by decide +kernel
theorem dX7_spent_42 : decode cX7_spent 42 = .ok (.iload 4, 2) := by decide +kernel
theorem dX7_spent_44 : decode cX7_spent 44 = .ok (.sipush 640, 3) := by decide +kernel
theorem dX7_spent_47 : decode cX7_spent 47 = .ok (.if_icmp .ge 37, 3) := by decide +kernel
theorem dX7_spent_50 : decode cX7_spent 50 = .ok (.aload_n 0, 1) := by decide +kernel
theorem dX7_spent_51 : decode cX7_spent 51 = .ok (.getfield 65, 3) := by decide +kernel
theorem dX7_spent_54 : decode cX7_spent 54 = .ok (.iload 4, 2) := by decide +kernel
theorem dX7_spent_56 : decode cX7_spent 56 = .ok (.iload 4, 2) := by decide +kernel
theorem dX7_spent_58 : decode cX7_spent 58 = .ok (.bipush 10, 2) := by decide +kernel
theorem dX7_spent_60 : decode cX7_spent 60 = .ok (.aload_n 0, 1) := by decide +kernel
theorem dX7_spent_61 : decode cX7_spent 61 = .ok (.getfield 25, 3) := by decide +kernel
theorem dX7_spent_64 : decode cX7_spent 64 = .ok (.iconst 3, 1) := by decide +kernel
theorem dX7_spent_65 : decode cX7_spent 65 = .ok (.iload_n 1, 1) := by decide +kernel
theorem dX7_spent_66 : decode cX7_spent 66 = .ok (.iadd, 1) := by decide +kernel
theorem dX7_spent_67 : decode cX7_spent 67 = .ok (.iaload, 1) := by decide +kernel
theorem dX7_spent_68 : decode cX7_spent 68 = .ok (.imul, 1) := by decide +kernel
theorem dX7_spent_69 : decode cX7_spent 69 = .ok (.if_icmp .ne 7, 3) := by decide +kernel
theorem dX7_spent_72 : decode cX7_spent 72 = .ok (.iconst 1, 1) := by decide +kernel
theorem dX7_spent_73 : decode cX7_spent 73 = .ok (.goto 4, 3) := by decide +kernel
theorem dX7_spent_76 : decode cX7_spent 76 = .ok (.iconst 0, 1) := by decide +kernel
theorem dX7_spent_77 : decode cX7_spent 77 = .ok (.iastore, 1) := by decide +kernel
theorem dX7_spent_78 : decode cX7_spent 78 = .ok (.iinc 4 1, 3) := by decide +kernel
theorem dX7_spent_81 : decode cX7_spent 81 = .ok (.goto (-39), 3) := by decide +kernel
theorem dX7_spent_84 : decode cX7_spent 84 = .ok (.aload_n 0, 1) := by decide +kernel
theorem dX7_spent_85 : decode cX7_spent 85 = .ok (.getfield 137, 3) := by decide +kernel
theorem dX7_spent_88 : decode cX7_spent 88 = .ok (.istore 4, 2) := by decide +kernel
theorem dX7_spent_90 : decode cX7_spent 90 = .ok (.iload 4, 2) := by decide +kernel
theorem dX7_spent_92 : decode cX7_spent 92 = .ok (.bipush 6, 2) := by decide +kernel
theorem dX7_spent_94 : decode cX7_spent 94 = .ok (.if_icmp .gt 101, 3) := by decide +kernel
theorem dX7_spent_97 : decode cX7_spent 97 = .ok (.iconst 0, 1) := by decide +kernel
theorem dX7_spent_98 : decode cX7_spent 98 = .ok (.istore 5, 2) := by decide +kernel
theorem dX7_spent_100 : decode cX7_spent 100 = .ok (.iload 5, 2) := by decide +kernel
theorem dX7_spent_102 : decode cX7_spent 102 = .ok (.sipush 640, 3) := by decide +kernel
theorem dX7_spent_105 : decode cX7_spent 105 = .ok (.if_icmp .ge 70, 3) := by decide +kernel
theorem dX7_spent_108 : decode cX7_spent 108 = .ok (.aload_n 0, 1) := by decide +kernel
theorem dX7_spent_109 : decode cX7_spent 109 = .ok (.getfield 65, 3) := by decide +kernel
theorem dX7_spent_112 : decode cX7_spent 112 = .ok (.iload 5, 2) := by decide +kernel
theorem dX7_spent_114 : decode cX7_spent 114 = .ok (.aload_n 0, 1) := by decide +kernel
theorem dX7_spent_115 : decode cX7_spent 115 = .ok (.getfield 65, 3) := by decide +kernel
theorem dX7_spent_118 : decode cX7_spent 118 = .ok (.iload 5, 2) := by decide +kernel
theorem dX7_spent_120 : decode cX7_spent 120 = .ok (.iaload, 1) := by decide +kernel
theorem dX7_spent_121 : decode cX7_spent 121 = .ok (.ifCond .le 19, 3) := by decide +kernel
theorem dX7_spent_124 : decode cX7_spent 124 = .ok (.iload 5, 2) := by decide +kernel
theorem dX7_spent_126 : decode cX7_spent 126 = .ok (.bipush 10, 2) := by decide +kernel
theorem dX7_spent_128 : decode cX7_spent 128 = .ok (.idiv, 1) := by decide +kernel
theorem dX7_spent_129 : decode cX7_spent 129 = .ok (.iload_n 2, 1) := by decide +kernel
theorem dX7_spent_130 : decode cX7_spent 130 = .ok (.invokestatic 109, 3) := by decide +kernel
theorem dX7_spent_133 : decode cX7_spent 133 = .ok (.ifCond .ne 7, 3) := by decide +kernel
theorem dX7_spent_136 : decode cX7_spent 136 = .ok (.iconst 1, 1) := by decide +kernel
theorem dX7_spent_137 : decode cX7_spent 137 = .ok (.goto 4, 3) := by decide +kernel
theorem dX7_spent_140 : decode cX7_spent 140 = .ok (.iconst 0, 1) := by decide +kernel
theorem dX7_spent_141 : decode cX7_spent 141 = .ok (.iastore, 1) := by decide +kernel
theorem dX7_spent_142 : decode cX7_spent 142 = .ok (.aload_n 0, 1) := by decide +kernel
theorem dX7_spent_143 : decode cX7_spent 143 = .ok (.getfield 65, 3) := by decide +kernel
theorem dX7_spent_146 : decode cX7_spent 146 = .ok (.iload 5, 2) := by decide +kernel
theorem dX7_spent_148 : decode cX7_spent 148 = .ok (.iaload, 1) := by decide +kernel
theorem dX7_spent_149 : decode cX7_spent 149 = .ok (.ifCond .le 20, 3) := by decide +kernel
theorem dX7_spent_152 : decode cX7_spent 152 = .ok (.iload 5, 2) := by decide +kernel
theorem dX7_spent_154 : decode cX7_spent 154 = .ok (.bipush 10, 2) := by decide +kernel
theorem dX7_spent_156 : decode cX7_spent 156 = .ok (.irem, 1) := by decide +kernel
theorem dX7_spent_157 : decode cX7_spent 157 = .ok (.iload_n 3, 1) := by decide +kernel
theorem dX7_spent_158 : decode cX7_spent 158 = .ok (.if_icmp .ne 11, 3) := by decide +kernel
theorem dX7_spent_161 : decode cX7_spent 161 = .ok (.iload 4, 2) := by decide +kernel
theorem dX7_spent_163 : decode cX7_spent 163 = .ok (.aload_n 0, 1) := by decide +kernel
theorem dX7_spent_164 : decode cX7_spent 164 = .ok (.getfield 137, 3) := by decide +kernel
theorem dX7_spent_167 : decode cX7_spent 167 = .ok (.isub, 1) := by decide +kernel
theorem dX7_spent_168 : decode cX7_spent 168 = .ok (.ireturn, 1) := by decide +kernel
theorem dX7_spent_169 : decode cX7_spent 169 = .ok (.iinc 5 1, 3) := by decide +kernel
theorem dX7_spent_172 : decode cX7_spent 172 = .ok (.goto (-72), 3) := by decide +kernel
theorem dX7_spent_175 : decode cX7_spent 175 = .ok (.iload 4, 2) := by decide +kernel
theorem dX7_spent_177 : decode cX7_spent 177 = .ok (.bipush 6, 2) := by decide +kernel
theorem dX7_spent_179 : decode cX7_spent 179 = .ok (.if_icmp .ge 10, 3) := by decide +kernel
theorem dX7_spent_182 : decode cX7_spent 182 = .ok (.aload_n 0, 1) := by decide +kernel
theorem dX7_spent_183 : decode cX7_spent 183 = .ok (.iload 4, 2) := by decide +kernel
theorem dX7_spent_185 : decode cX7_spent 185 = .ok (.iload_n 3, 1) := by decide +kernel
theorem dX7_spent_186 : decode cX7_spent 186 = .ok (.invokevirtual 200, 3) := by decide +kernel
theorem dX7_spent_189 : decode cX7_spent 189 = .ok (.iinc 4 1, 3) := by decide +kernel
theorem dX7_spent_192 : decode cX7_spent 192 = .ok (.goto (-102), 3) := by decide +kernel
theorem dX7_spent_195 : decode cX7_spent 195 = .ok (.bipush (-9), 2) := by decide +kernel
theorem dX7_spent_197 : decode cX7_spent 197 = .ok (.ireturn, 1) := by decide +kernel
theorem dX7_both_0 : decode cX7_both 0 = .ok (.iload 4, 2) := by decide +kernel
theorem dX7_both_2 : decode cX7_both 2 = .ok (.istore 5, 2) := by decide +kernel
theorem dX7_both_4 : decode cX7_both 4 = .ok (.iload 5, 2) := by decide +kernel
theorem dX7_both_6 : decode cX7_both 6 = .ok (.iload_n 1, 1) := by decide +kernel
theorem dX7_both_7 : decode cX7_both 7 = .ok (.iconst 3, 1) := by decide +kernel
theorem dX7_both_8 : decode cX7_both 8 = .ok (.if_icmp .ge 12, 3) := by decide +kernel
theorem dX7_both_11 : decode cX7_both 11 = .ok (.aload_n 0, 1) := by decide +kernel
theorem dX7_both_12 : decode cX7_both 12 = .ok (.iload_n 1, 1) := by decide +kernel
theorem dX7_both_13 : decode cX7_both 13 = .ok (.iload_n 3, 1) := by decide +kernel
theorem dX7_both_14 : decode cX7_both 14 = .ok (.invokevirtual 158, 3) := by decide +kernel
theorem dX7_both_17 : decode cX7_both 17 = .ok (.goto 4, 3) := by decide +kernel
theorem dX7_both_20 : decode cX7_both 20 = .ok (.iconst 0, 1) := by decide +kernel
theorem dX7_both_21 : decode cX7_both 21 = .ok (.ior, 1) := by decide +kernel
theorem dX7_both_22 : decode cX7_both 22 = .ok (.istore 5, 2) := by decide +kernel
theorem dX7_both_24 : decode cX7_both 24 = .ok (.iload 5, 2) := by decide +kernel
theorem dX7_both_26 : decode cX7_both 26 = .ok (.iload_n 2, 1) := by decide +kernel
theorem dX7_both_27 : decode cX7_both 27 = .ok (.iconst 3, 1) := by decide +kernel
theorem dX7_both_28 : decode cX7_both 28 = .ok (.if_icmp .ge 12, 3) := by decide +kernel
theorem dX7_both_31 : decode cX7_both 31 = .ok (.aload_n 0, 1) := by decide +kernel
theorem dX7_both_32 : decode cX7_both 32 = .ok (.iload_n 2, 1) := by decide +kernel
theorem dX7_both_33 : decode cX7_both 33 = .ok (.iload_n 3, 1) := by decide +kernel
theorem dX7_both_34 : decode cX7_both 34 = .ok (.invokevirtual 158, 3) := by decide +kernel
theorem dX7_both_37 : decode cX7_both 37 = .ok (.goto 4, 3) := by decide +kernel
theorem dX7_both_40 : decode cX7_both 40 = .ok (.iconst 0, 1) := by decide +kernel
theorem dX7_both_41 : decode cX7_both 41 = .ok (.ior, 1) := by decide +kernel
theorem dX7_both_42 : decode cX7_both 42 = .ok (.istore 5, 2) := by decide +kernel
theorem dX7_both_44 : decode cX7_both 44 = .ok (.iload 5, 2) := by decide +kernel
theorem dX7_both_46 : decode cX7_both 46 = .ok (.ireturn, 1) := by decide +kernel
theorem dX7_hasIt_0 : decode cX7_hasIt 0 = .ok (.iconst 0, 1) := by decide +kernel
theorem dX7_hasIt_1 : decode cX7_hasIt 1 = .ok (.istore 4, 2) := by decide +kernel
theorem dX7_hasIt_3 : decode cX7_hasIt 3 = .ok (.iconst 0, 1) := by decide +kernel
theorem dX7_hasIt_4 : decode cX7_hasIt 4 = .ok (.istore 5, 2) := by decide +kernel
theorem dX7_hasIt_6 : decode cX7_hasIt 6 = .ok (.iload 5, 2) := by decide +kernel
theorem dX7_hasIt_8 : decode cX7_hasIt 8 = .ok (.iconst 3, 1) := by decide +kernel
theorem dX7_hasIt_9 : decode cX7_hasIt 9 = .ok (.if_icmp .gt 169, 3) := by decide +kernel
theorem dX7_hasIt_12 : decode cX7_hasIt 12 = .ok (.iload 5, 2) := by decide +kernel
theorem dX7_hasIt_14 : decode cX7_hasIt 14 = .ok (.iconst 3, 1) := by decide +kernel
theorem dX7_hasIt_15 : decode cX7_hasIt 15 = .ok (.if_icmp .eq 18, 3) := by decide +kernel
theorem dX7_hasIt_18 : decode cX7_hasIt 18 = .ok (.iload_n 3, 1) := by decide +kernel
theorem dX7_hasIt_19 : decode cX7_hasIt 19 = .ok (.ifCond .le 18, 3) := by decide +kernel
theorem dX7_hasIt_22 : decode cX7_hasIt 22 = .ok (.aload_n 0, 1) := by decide +kernel
theorem dX7_hasIt_23 : decode cX7_hasIt 23 = .ok (.iload 5, 2) := by decide +kernel
theorem dX7_hasIt_25 : decode cX7_hasIt 25 = .ok (.iload_n 1, 1) := by decide +kernel
theorem dX7_hasIt_26 : decode cX7_hasIt 26 = .ok (.iload_n 2, 1) := by decide +kernel
theorem dX7_hasIt_27 : decode cX7_hasIt 27 = .ok (.invokevirtual 179, 3) := by decide +kernel
theorem dX7_hasIt_30 : decode cX7_hasIt 30 = .ok (.ifCond .eq 7, 3) := by decide +kernel
theorem dX7_hasIt_33 : decode cX7_hasIt 33 = .ok (.iconst 1, 1) := by decide +kernel
theorem dX7_hasIt_34 : decode cX7_hasIt 34 = .ok (.goto 4, 3) := by decide +kernel
theorem dX7_hasIt_37 : decode cX7_hasIt 37 = .ok (.iconst 0, 1) := by decide +kernel
theorem dX7_hasIt_38 : decode cX7_hasIt 38 = .ok (.istore 6, 2) := by decide +kernel
theorem dX7_hasIt_40 : decode cX7_hasIt 40 = .ok (.iload 6, 2) := by decide +kernel
theorem dX7_hasIt_42 : decode cX7_hasIt 42 = .ok (.istore 7, 2) := by decide +kernel
theorem dX7_hasIt_44 : decode cX7_hasIt 44 = .ok (.iload_n 3, 1) := by decide +kernel
theorem dX7_hasIt_45 : decode cX7_hasIt 45 = .ok (.iload 5, 2) := by decide +kernel
theorem dX7_hasIt_47 : decode cX7_hasIt 47 = .ok (.iconst 3, 1) := by decide +kernel
theorem dX7_hasIt_48 : decode cX7_hasIt 48 = .ok (.if_icmp .ge 7, 3) := by decide +kernel
theorem dX7_hasIt_51 : decode cX7_hasIt 51 = .ok (.iconst 1, 1) := by decide +kernel
theorem dX7_hasIt_52 : decode cX7_hasIt 52 = .ok (.goto 4, 3) := by decide +kernel
theorem dX7_hasIt_55 : decode cX7_hasIt 55 = .ok (.iconst 0, 1) := by decide +kernel
theorem dX7_hasIt_56 : decode cX7_hasIt 56 = .ok (.isub, 1) := by decide +kernel
theorem dX7_hasIt_57 : decode cX7_hasIt 57 = .ok (.istore 8, 2) := by decide +kernel
theorem dX7_hasIt_59 : decode cX7_hasIt 59 = .ok (.iconst 0, 1) := by decide +kernel
theorem dX7_hasIt_60 : decode cX7_hasIt 60 = .ok (.istore 9, 2) := by decide +kernel
theorem dX7_hasIt_62 : decode cX7_hasIt 62 = .ok (.iload 9, 2) := by decide +kernel
theorem dX7_hasIt_64 : decode cX7_hasIt 64 = .ok (.iconst 3, 1) := by decide +kernel
theorem dX7_hasIt_65 : decode cX7_hasIt 65 = .ok (.if_icmp .gt 90, 3) := by decide +kernel
theorem dX7_hasIt_68 : decode cX7_hasIt 68 = .ok (.iload 7, 2) := by decide +kernel
theorem dX7_hasIt_70 : decode cX7_hasIt 70 = .ok (.ifCond .eq 85, 3) := by decide +kernel
theorem dX7_hasIt_73 : decode cX7_hasIt 73 = .ok (.iload 9, 2) := by decide +kernel
theorem dX7_hasIt_75 : decode cX7_hasIt 75 = .ok (.iconst 3, 1) := by decide +kernel
theorem dX7_hasIt_76 : decode cX7_hasIt 76 = .ok (.if_icmp .eq 26, 3) := by decide +kernel
theorem dX7_hasIt_79 : decode cX7_hasIt 79 = .ok (.iload 9, 2) := by decide +kernel
theorem dX7_hasIt_81 : decode cX7_hasIt 81 = .ok (.iload 5, 2) := by decide +kernel
theorem dX7_hasIt_83 : decode cX7_hasIt 83 = .ok (.if_icmp .eq 23, 3) := by decide +kernel
theorem dX7_hasIt_86 : decode cX7_hasIt 86 = .ok (.iload 8, 2) := by decide +kernel
theorem dX7_hasIt_88 : decode cX7_hasIt 88 = .ok (.ifCond .le 18, 3) := by decide +kernel
theorem dX7_hasIt_91 : decode cX7_hasIt 91 = .ok (.aload_n 0, 1) := by decide +kernel
theorem dX7_hasIt_92 : decode cX7_hasIt 92 = .ok (.iload 9, 2) := by decide +kernel
theorem dX7_hasIt_94 : decode cX7_hasIt 94 = .ok (.iload_n 1, 1) := by decide +kernel
theorem dX7_hasIt_95 : decode cX7_hasIt 95 = .ok (.iload_n 2, 1) := by decide +kernel
theorem dX7_hasIt_96 : decode cX7_hasIt 96 = .ok (.invokevirtual 179, 3) := by decide +kernel
theorem dX7_hasIt_99 : decode cX7_hasIt 99 = .ok (.ifCond .eq 7, 3) := by decide +kernel
theorem dX7_hasIt_102 : decode cX7_hasIt 102 = .ok (.iconst 1, 1) := by decide +kernel
theorem dX7_hasIt_103 : decode cX7_hasIt 103 = .ok (.goto 4, 3) := by decide +kernel
theorem dX7_hasIt_106 : decode cX7_hasIt 106 = .ok (.iconst 0, 1) := by decide +kernel
theorem dX7_hasIt_107 : decode cX7_hasIt 107 = .ok (.istore 10, 2) := by decide +kernel
theorem dX7_hasIt_109 : decode cX7_hasIt 109 = .ok (.iload 10, 2) := by decide +kernel
theorem dX7_hasIt_111 : decode cX7_hasIt 111 = .ok (.ifCond .eq 38, 3) := by decide +kernel
theorem dX7_hasIt_114 : decode cX7_hasIt 114 = .ok (.aload_n 0, 1) := by decide +kernel
theorem dX7_hasIt_115 : decode cX7_hasIt 115 = .ok (.getfield 71, 3) := by decide +kernel
theorem dX7_hasIt_118 : decode cX7_hasIt 118 = .ok (.bipush 10, 2) := by decide +kernel
theorem dX7_hasIt_120 : decode cX7_hasIt 120 = .ok (.aload_n 0, 1) := by decide +kernel
theorem dX7_hasIt_121 : decode cX7_hasIt 121 = .ok (.iload 5, 2) := by decide +kernel
theorem dX7_hasIt_123 : decode cX7_hasIt 123 = .ok (.iload 9, 2) := by decide +kernel
theorem dX7_hasIt_125 : decode cX7_hasIt 125 = .ok (.iload_n 1, 1) := by decide +kernel
theorem dX7_hasIt_126 : decode cX7_hasIt 126 = .ok (.iload_n 2, 1) := by decide +kernel
theorem dX7_hasIt_127 : decode cX7_hasIt 127 = .ok (.invokevirtual 204, 3) := by decide +kernel
theorem dX7_hasIt_130 : decode cX7_hasIt 130 = .ok (.imul, 1) := by decide +kernel
theorem dX7_hasIt_131 : decode cX7_hasIt 131 = .ok (.iload 8, 2) := by decide +kernel
theorem dX7_hasIt_133 : decode cX7_hasIt 133 = .ok (.iadd, 1) := by decide +kernel
theorem dX7_hasIt_134 : decode cX7_hasIt 134 = .ok (.iload 9, 2) := by decide +kernel
theorem dX7_hasIt_136 : decode cX7_hasIt 136 = .ok (.iconst 3, 1) := by decide +kernel
theorem dX7_hasIt_137 : decode cX7_hasIt 137 = .ok (.if_icmp .ge 7, 3) := by decide +kernel
theorem dX7_hasIt_140 : decode cX7_hasIt 140 = .ok (.iconst 1, 1) := by decide +kernel
theorem dX7_hasIt_141 : decode cX7_hasIt 141 = .ok (.goto 4, 3) := by decide +kernel
theorem dX7_hasIt_144 : decode cX7_hasIt 144 = .ok (.iconst 0, 1) := by decide +kernel
theorem dX7_hasIt_145 : decode cX7_hasIt 145 = .ok (.isub, 1) := by decide +kernel
theorem dX7_hasIt_146 : decode cX7_hasIt 146 = .ok (.baload, 1) := by decide +kernel
theorem dX7_hasIt_147 : decode cX7_hasIt 147 = .ok (.istore 7, 2) := by decide +kernel
theorem dX7_hasIt_149 : decode cX7_hasIt 149 = .ok (.iinc 9 1, 3) := by decide +kernel
theorem dX7_hasIt_152 : decode cX7_hasIt 152 = .ok (.goto (-90), 3) := by decide +kernel
theorem dX7_hasIt_155 : decode cX7_hasIt 155 = .ok (.iload 4, 2) := by decide +kernel
theorem dX7_hasIt_157 : decode cX7_hasIt 157 = .ok (.ifCond .ne 8, 3) := by decide +kernel
theorem dX7_hasIt_160 : decode cX7_hasIt 160 = .ok (.iload 7, 2) := by decide +kernel
theorem dX7_hasIt_162 : decode cX7_hasIt 162 = .ok (.ifCond .eq 7, 3) := by decide +kernel
theorem dX7_hasIt_165 : decode cX7_hasIt 165 = .ok (.iconst 1, 1) := by decide +kernel
theorem dX7_hasIt_166 : decode cX7_hasIt 166 = .ok (.goto 4, 3) := by decide +kernel
theorem dX7_hasIt_169 : decode cX7_hasIt 169 = .ok (.iconst 0, 1) := by decide +kernel
theorem dX7_hasIt_170 : decode cX7_hasIt 170 = .ok (.istore 4, 2) := by decide +kernel
theorem dX7_hasIt_172 : decode cX7_hasIt 172 = .ok (.iinc 5 1, 3) := by decide +kernel
theorem dX7_hasIt_175 : decode cX7_hasIt 175 = .ok (.goto (-169), 3) := by decide +kernel
theorem dX7_hasIt_178 : decode cX7_hasIt 178 = .ok (.iload 4, 2) := by decide +kernel
theorem dX7_hasIt_180 : decode cX7_hasIt 180 = .ok (.ireturn, 1) := by decide +kernel
theorem dX7_duel_0 : decode cX7_duel 0 = .ok (.aload_n 0, 1) := by decide +kernel
theorem dX7_duel_1 : decode cX7_duel 1 = .ok (.iconst 0, 1) := by decide +kernel
theorem dX7_duel_2 : decode cX7_duel 2 = .ok (.putfield 77, 3) := by decide +kernel
theorem dX7_duel_5 : decode cX7_duel 5 = .ok (.aload_n 0, 1) := by decide +kernel
theorem dX7_duel_6 : decode cX7_duel 6 = .ok (.iload_n 2, 1) := by decide +kernel
theorem dX7_duel_7 : decode cX7_duel 7 = .ok (.invokevirtual 150, 3) := by decide +kernel
theorem dX7_duel_10 : decode cX7_duel 10 = .ok (.ifCond .ne 11, 3) := by decide +kernel
theorem dX7_duel_13 : decode cX7_duel 13 = .ok (.aload_n 0, 1) := by decide +kernel
theorem dX7_duel_14 : decode cX7_duel 14 = .ok (.iload_n 1, 1) := by decide +kernel
theorem dX7_duel_15 : decode cX7_duel 15 = .ok (.invokevirtual 155, 3) := by decide +kernel
theorem dX7_duel_18 : decode cX7_duel 18 = .ok (.ifCond .eq 5, 3) := by decide +kernel
theorem dX7_duel_21 : decode cX7_duel 21 = .ok (.iconst (-1), 1) := by decide +kernel
theorem dX7_duel_22 : decode cX7_duel 22 = .ok (.ireturn, 1) := by decide +kernel
theorem dX7_duel_23 : decode cX7_duel 23 = .ok (.aload_n 0, 1) := by decide +kernel
theorem dX7_duel_24 : decode cX7_duel 24 = .ok (.getfield 130, 3) := by decide +kernel
theorem dX7_duel_27 : decode cX7_duel 27 = .ok (.ifCond .eq 6, 3) := by decide +kernel
theorem dX7_duel_30 : decode cX7_duel 30 = .ok (.bipush (-3), 2) := by decide +kernel
theorem dX7_duel_32 : decode cX7_duel 32 = .ok (.ireturn, 1) := by decide +kernel
theorem dX7_duel_33 : decode cX7_duel 33 = .ok (.iconst 0, 1) := by decide +kernel
theorem dX7_duel_34 : decode cX7_duel 34 = .ok (.istore_n 3, 1) := by decide +kernel
theorem dX7_duel_35 : decode cX7_duel 35 = .ok (.iload_n 3, 1) := by decide +kernel
theorem dX7_duel_36 : decode cX7_duel 36 = .ok (.sipush 640, 3) := by decide +kernel
theorem dX7_duel_39 : decode cX7_duel 39 = .ok (.if_icmp .ge 23, 3) := by decide +kernel
theorem dX7_duel_42 : decode cX7_duel 42 = .ok (.aload_n 0, 1) := by decide +kernel
theorem dX7_duel_43 : decode cX7_duel 43 = .ok (.getfield 71, 3) := by decide +kernel
theorem dX7_duel_46 : decode cX7_duel 46 = .ok (.iload_n 3, 1) := by decide +kernel
theorem dX7_duel_47 : decode cX7_duel 47 = .ok (.iload_n 3, 1) := by decide +kernel
theorem dX7_duel_48 : decode cX7_duel 48 = .ok (.bipush 10, 2) := by decide +kernel
theorem dX7_duel_50 : decode cX7_duel 50 = .ok (.idiv, 1) := by decide +kernel
theorem dX7_duel_51 : decode cX7_duel 51 = .ok (.iload_n 2, 1) := by decide +kernel
theorem dX7_duel_52 : decode cX7_duel 52 = .ok (.invokestatic 109, 3) := by decide +kernel
theorem dX7_duel_55 : decode cX7_duel 55 = .ok (.bastore, 1) := by decide +kernel
theorem dX7_duel_56 : decode cX7_duel 56 = .ok (.iinc 3 1, 3) := by decide +kernel
theorem dX7_duel_59 : decode cX7_duel 59 = .ok (.goto (-24), 3) := by decide +kernel
theorem dX7_duel_62 : decode cX7_duel 62 = .ok (.iconst 5, 1) := by decide +kernel
theorem dX7_duel_63 : decode cX7_duel 63 = .ok (.istore_n 3, 1) := by decide +kernel
theorem dX7_duel_64 : decode cX7_duel 64 = .ok (.iload_n 3, 1) := by decide +kernel
theorem dX7_duel_65 : decode cX7_duel 65 = .ok (.aload_n 0, 1) := by decide +kernel
theorem dX7_duel_66 : decode cX7_duel 66 = .ok (.getfield 137, 3) := by decide +kernel
theorem dX7_duel_69 : decode cX7_duel 69 = .ok (.if_icmp .lt 79, 3) := by decide +kernel
theorem dX7_duel_72 : decode cX7_duel 72 = .ok (.iconst 0, 1) := by decide +kernel
theorem dX7_duel_73 : decode cX7_duel 73 = .ok (.istore 4, 2) := by decide +kernel
theorem dX7_duel_75 : decode cX7_duel 75 = .ok (.iload 4, 2) := by decide +kernel
theorem dX7_duel_77 : decode cX7_duel 77 = .ok (.sipush 640, 3) := by decide +kernel
theorem dX7_duel_80 : decode cX7_duel 80 = .ok (.if_icmp .ge 31, 3) := by decide +kernel
theorem dX7_duel_83 : decode cX7_duel 83 = .ok (.aload_n 0, 1) := by decide +kernel
theorem dX7_duel_84 : decode cX7_duel 84 = .ok (.getfield 74, 3) := by decide +kernel
theorem dX7_duel_87 : decode cX7_duel 87 = .ok (.iload 4, 2) := by decide +kernel
theorem dX7_duel_89 : decode cX7_duel 89 = .ok (.aload_n 0, 1) := by decide +kernel
theorem dX7_duel_90 : decode cX7_duel 90 = .ok (.iload_n 3, 1) := by decide +kernel
theorem dX7_duel_91 : decode cX7_duel 91 = .ok (.iload 4, 2) := by decide +kernel
theorem dX7_duel_93 : decode cX7_duel 93 = .ok (.bipush 10, 2) := by decide +kernel
theorem dX7_duel_95 : decode cX7_duel 95 = .ok (.idiv, 1) := by decide +kernel
theorem dX7_duel_96 : decode cX7_duel 96 = .ok (.iload 4, 2) := by decide +kernel
theorem dX7_duel_98 : decode cX7_duel 98 = .ok (.bipush 10, 2) := by decide +kernel
theorem dX7_duel_100 : decode cX7_duel 100 = .ok (.irem, 1) := by decide +kernel
theorem dX7_duel_101 : decode cX7_duel 101 = .ok (.invokevirtual 208, 3) := by decide +kernel
theorem dX7_duel_104 : decode cX7_duel 104 = .ok (.bastore, 1) := by decide +kernel
theorem dX7_duel_105 : decode cX7_duel 105 = .ok (.iinc 4 1, 3) := by decide +kernel
theorem dX7_duel_108 : decode cX7_duel 108 = .ok (.goto (-33), 3) := by decide +kernel
theorem dX7_duel_111 : decode cX7_duel 111 = .ok (.iconst 0, 1) := by decide +kernel
theorem dX7_duel_112 : decode cX7_duel 112 = .ok (.istore 4, 2) := by decide +kernel
theorem dX7_duel_114 : decode cX7_duel 114 = .ok (.iload 4, 2) := by decide +kernel
theorem dX7_duel_116 : decode cX7_duel 116 = .ok (.sipush 640, 3) := by decide +kernel
theorem dX7_duel_119 : decode cX7_duel 119 = .ok (.if_icmp .ge 23, 3) := by decide +kernel
theorem dX7_duel_122 : decode cX7_duel 122 = .ok (.aload_n 0, 1) := by decide +kernel
theorem dX7_duel_123 : decode cX7_duel 123 = .ok (.getfield 71, 3) := by decide +kernel
theorem dX7_duel_126 : decode cX7_duel 126 = .ok (.iload 4, 2) := by decide +kernel
theorem dX7_duel_128 : decode cX7_duel 128 = .ok (.aload_n 0, 1) := by decide +kernel
theorem dX7_duel_129 : decode cX7_duel 129 = .ok (.getfield 74, 3) := by decide +kernel
theorem dX7_duel_132 : decode cX7_duel 132 = .ok (.iload 4, 2) := by decide +kernel
theorem dX7_duel_134 : decode cX7_duel 134 = .ok (.baload, 1) := by decide +kernel
theorem dX7_duel_135 : decode cX7_duel 135 = .ok (.bastore, 1) := by decide +kernel
theorem dX7_duel_136 : decode cX7_duel 136 = .ok (.iinc 4 1, 3) := by decide +kernel
theorem dX7_duel_139 : decode cX7_duel 139 = .ok (.goto (-25), 3) := by decide +kernel
theorem dX7_duel_142 : decode cX7_duel 142 = .ok (.iinc 3 (-1), 3) := by decide +kernel
theorem dX7_duel_145 : decode cX7_duel 145 = .ok (.goto (-81), 3) := by decide +kernel
theorem dX7_duel_148 : decode cX7_duel 148 = .ok (.aload_n 0, 1) := by decide +kernel
theorem dX7_duel_149 : decode cX7_duel 149 = .ok (.getfield 71, 3) := by decide +kernel
theorem dX7_duel_152 : decode cX7_duel 152 = .ok (.bipush 10, 2) := by decide +kernel
theorem dX7_duel_154 : decode cX7_duel 154 = .ok (.aload_n 0, 1) := by decide +kernel
theorem dX7_duel_155 : decode cX7_duel 155 = .ok (.getfield 25, 3) := by decide +kernel
theorem dX7_duel_158 : decode cX7_duel 158 = .ok (.iconst 3, 1) := by decide +kernel
theorem dX7_duel_159 : decode cX7_duel 159 = .ok (.iload_n 1, 1) := by decide +kernel
theorem dX7_duel_160 : decode cX7_duel 160 = .ok (.iadd, 1) := by decide +kernel
theorem dX7_duel_161 : decode cX7_duel 161 = .ok (.iaload, 1) := by decide +kernel
theorem dX7_duel_162 : decode cX7_duel 162 = .ok (.imul, 1) := by decide +kernel
theorem dX7_duel_163 : decode cX7_duel 163 = .ok (.aload_n 0, 1) := by decide +kernel
theorem dX7_duel_164 : decode cX7_duel 164 = .ok (.iload_n 1, 1) := by decide +kernel
theorem dX7_duel_165 : decode cX7_duel 165 = .ok (.invokevirtual 191, 3) := by decide +kernel
theorem dX7_duel_168 : decode cX7_duel 168 = .ok (.iadd, 1) := by decide +kernel
theorem dX7_duel_169 : decode cX7_duel 169 = .ok (.baload, 1) := by decide +kernel
theorem dX7_duel_170 : decode cX7_duel 170 = .ok (.ifCond .eq 7, 3) := by decide +kernel
theorem dX7_duel_173 : decode cX7_duel 173 = .ok (.iconst 1, 1) := by decide +kernel
theorem dX7_duel_174 : decode cX7_duel 174 = .ok (.goto 4, 3) := by decide +kernel
theorem dX7_duel_177 : decode cX7_duel 177 = .ok (.iconst 0, 1) := by decide +kernel
theorem dX7_duel_178 : decode cX7_duel 178 = .ok (.ireturn, 1) := by decide +kernel
theorem dX7_divisor_0 : decode cX7_divisor 0 = .ok (.lload_n 0, 1) := by decide +kernel
theorem dX7_divisor_1 : decode cX7_divisor 1 = .ok (.lstore 4, 2) := by decide +kernel
theorem dX7_divisor_3 : decode cX7_divisor 3 = .ok (.lload_n 2, 1) := by decide +kernel
theorem dX7_divisor_4 : decode cX7_divisor 4 = .ok (.lstore 6, 2) := by decide +kernel
theorem dX7_divisor_6 : decode cX7_divisor 6 = .ok (.lload 6, 2) := by decide +kernel
theorem dX7_divisor_8 : decode cX7_divisor 8 = .ok (.lconst 0, 1) := by decide +kernel
theorem dX7_divisor_9 : decode cX7_divisor 9 = .ok (.lcmp, 1) := by decide +kernel
theorem dX7_divisor_10 : decode cX7_divisor 10 = .ok (.ifCond .eq 21, 3) := by decide +kernel
theorem dX7_divisor_13 : decode cX7_divisor 13 = .ok (.lload 4, 2) := by decide +kernel
theorem dX7_divisor_15 : decode cX7_divisor 15 = .ok (.lload 6, 2) := by decide +kernel
theorem dX7_divisor_17 : decode cX7_divisor 17 = .ok (.lrem, 1) := by decide +kernel
theorem dX7_divisor_18 : decode cX7_divisor 18 = .ok (.lstore 8, 2) := by decide +kernel
theorem dX7_divisor_20 : decode cX7_divisor 20 = .ok (.lload 6, 2) := by decide +kernel
theorem dX7_divisor_22 : decode cX7_divisor 22 = .ok (.lstore 4, 2) := by decide +kernel
theorem dX7_divisor_24 : decode cX7_divisor 24 = .ok (.lload 8, 2) := by decide +kernel
theorem dX7_divisor_26 : decode cX7_divisor 26 = .ok (.lstore 6, 2) := by decide +kernel
theorem dX7_divisor_28 : decode cX7_divisor 28 = .ok (.goto (-22), 3) := by decide +kernel
theorem dX7_divisor_31 : decode cX7_divisor 31 = .ok (.lload 4, 2) := by decide +kernel
theorem dX7_divisor_33 : decode cX7_divisor 33 = .ok (.lreturn, 1) := by decide +kernel
theorem dX7_chance_0 : decode cX7_chance 0 = .ok (.aload_n 0, 1) := by decide +kernel
theorem dX7_chance_1 : decode cX7_chance 1 = .ok (.iconst 0, 1) := by decide +kernel
theorem dX7_chance_2 : decode cX7_chance 2 = .ok (.putfield 77, 3) := by decide +kernel
theorem dX7_chance_5 : decode cX7_chance 5 = .ok (.aload_n 0, 1) := by decide +kernel
theorem dX7_chance_6 : decode cX7_chance 6 = .ok (.iload_n 1, 1) := by decide +kernel
theorem dX7_chance_7 : decode cX7_chance 7 = .ok (.invokevirtual 155, 3) := by decide +kernel
theorem dX7_chance_10 : decode cX7_chance 10 = .ok (.ifCond .ne 23, 3) := by decide +kernel
theorem dX7_chance_13 : decode cX7_chance 13 = .ok (.aload_n 0, 1) := by decide +kernel
theorem dX7_chance_14 : decode cX7_chance 14 = .ok (.iload_n 2, 1) := by decide +kernel
theorem dX7_chance_15 : decode cX7_chance 15 = .ok (.invokevirtual 150, 3) := by decide +kernel
theorem dX7_chance_18 : decode cX7_chance 18 = .ok (.ifCond .ne 15, 3) := by decide +kernel
theorem dX7_chance_21 : decode cX7_chance 21 = .ok (.iload_n 3, 1) := by decide +kernel
theorem dX7_chance_22 : decode cX7_chance 22 = .ok (.i2l, 1) := by decide +kernel
theorem dX7_chance_23 : decode cX7_chance 23 = .ok (.lconst 0, 1) := by decide +kernel
theorem dX7_chance_24 : decode cX7_chance 24 = .ok (.ldc2_w 211, 3) := by decide +kernel
theorem dX7_chance_27 : decode cX7_chance 27 = .ok (.invokestatic 84, 3) := by decide +kernel
theorem dX7_chance_30 : decode cX7_chance 30 = .ok (.ifCond .ne 7, 3) := by decide +kernel
theorem dX7_chance_33 : decode cX7_chance 33 = .ok (.ldc2_w 213, 3) := by decide +kernel
theorem dX7_chance_36 : decode cX7_chance 36 = .ok (.lreturn, 1) := by decide +kernel
theorem dX7_chance_37 : decode cX7_chance 37 = .ok (.iload 4, 2) := by decide +kernel
theorem dX7_chance_39 : decode cX7_chance 39 = .ok (.i2l, 1) := by decide +kernel
theorem dX7_chance_40 : decode cX7_chance 40 = .ok (.lconst 0, 1) := by decide +kernel
theorem dX7_chance_41 : decode cX7_chance 41 = .ok (.ldc2_w 215, 3) := by decide +kernel
theorem dX7_chance_44 : decode cX7_chance 44 = .ok (.invokestatic 84, 3) := by decide +kernel
theorem dX7_chance_47 : decode cX7_chance 47 = .ok (.ifCond .ne 7, 3) := by decide +kernel
theorem dX7_chance_50 : decode cX7_chance 50 = .ok (.ldc2_w 217, 3) := by decide +kernel
theorem dX7_chance_53 : decode cX7_chance 53 = .ok (.lreturn, 1) := by decide +kernel
theorem dX7_chance_54 : decode cX7_chance 54 = .ok (.aload_n 0, 1) := by decide +kernel
theorem dX7_chance_55 : decode cX7_chance 55 = .ok (.getfield 25, 3) := by decide +kernel
theorem dX7_chance_58 : decode cX7_chance 58 = .ok (.iconst 3, 1) := by decide +kernel
theorem dX7_chance_59 : decode cX7_chance 59 = .ok (.iload_n 1, 1) := by decide +kernel
theorem dX7_chance_60 : decode cX7_chance 60 = .ok (.iadd, 1) := by decide +kernel
theorem dX7_chance_61 : decode cX7_chance 61 = .ok (.iaload, 1) := by decide +kernel
theorem dX7_chance_62 : decode cX7_chance 62 = .ok (.iload_n 2, 1) := by decide +kernel
theorem dX7_chance_63 : decode cX7_chance 63 = .ok (.invokestatic 109, 3) := by decide +kernel
theorem dX7_chance_66 : decode cX7_chance 66 = .ok (.ifCond .eq 5, 3) := by decide +kernel
theorem dX7_chance_69 : decode cX7_chance 69 = .ok (.lconst 1, 1) := by decide +kernel
theorem dX7_chance_70 : decode cX7_chance 70 = .ok (.lreturn, 1) := by decide +kernel
theorem dX7_chance_71 : decode cX7_chance 71 = .ok (.lconst 1, 1) := by decide +kernel
theorem dX7_chance_72 : decode cX7_chance 72 = .ok (.lstore 6, 2) := by decide +kernel
theorem dX7_chance_74 : decode cX7_chance 74 = .ok (.lconst 1, 1) := by decide +kernel
theorem dX7_chance_75 : decode cX7_chance 75 = .ok (.lstore 8, 2) := by decide +kernel
theorem dX7_chance_77 : decode cX7_chance 77 = .ok (.aload_n 0, 1) := by decide +kernel
theorem dX7_chance_78 : decode cX7_chance 78 = .ok (.getfield 137, 3) := by decide +kernel
theorem dX7_chance_81 : decode cX7_chance 81 = .ok (.istore 10, 2) := by decide +kernel
theorem dX7_chance_83 : decode cX7_chance 83 = .ok (.iload 10, 2) := by decide +kernel
theorem dX7_chance_85 : decode cX7_chance 85 = .ok (.bipush 6, 2) := by decide +kernel
theorem dX7_chance_87 : decode cX7_chance 87 = .ok (.if_icmp .ge 88, 3) := by decide +kernel
theorem dX7_chance_90 : decode cX7_chance 90 = .ok (.aload_n 0, 1) := by decide +kernel
theorem dX7_chance_91 : decode cX7_chance 91 = .ok (.getfield 13, 3) := by decide +kernel
theorem dX7_chance_94 : decode cX7_chance 94 = .ok (.bipush 6, 2) := by decide +kernel
theorem dX7_chance_96 : decode cX7_chance 96 = .ok (.iload_n 2, 1) := by decide +kernel
theorem dX7_chance_97 : decode cX7_chance 97 = .ok (.imul, 1) := by decide +kernel
theorem dX7_chance_98 : decode cX7_chance 98 = .ok (.iload 10, 2) := by decide +kernel
theorem dX7_chance_100 : decode cX7_chance 100 = .ok (.iadd, 1) := by decide +kernel
theorem dX7_chance_101 : decode cX7_chance 101 = .ok (.iaload, 1) := by decide +kernel
theorem dX7_chance_102 : decode cX7_chance 102 = .ok (.iload_n 3, 1) := by decide +kernel
theorem dX7_chance_103 : decode cX7_chance 103 = .ok (.if_icmp .ne 26, 3) := by decide +kernel
theorem dX7_chance_106 : decode cX7_chance 106 = .ok (.aload_n 0, 1) := by decide +kernel
theorem dX7_chance_107 : decode cX7_chance 107 = .ok (.iload_n 3, 1) := by decide +kernel
theorem dX7_chance_108 : decode cX7_chance 108 = .ok (.iload 10, 2) := by decide +kernel
theorem dX7_chance_110 : decode cX7_chance 110 = .ok (.invokevirtual 158, 3) := by decide +kernel
theorem dX7_chance_113 : decode cX7_chance 113 = .ok (.aload_n 0, 1) := by decide +kernel
theorem dX7_chance_114 : decode cX7_chance 114 = .ok (.getfield 25, 3) := by decide +kernel
theorem dX7_chance_117 : decode cX7_chance 117 = .ok (.iconst 3, 1) := by decide +kernel
theorem dX7_chance_118 : decode cX7_chance 118 = .ok (.iload_n 1, 1) := by decide +kernel
theorem dX7_chance_119 : decode cX7_chance 119 = .ok (.iadd, 1) := by decide +kernel
theorem dX7_chance_120 : decode cX7_chance 120 = .ok (.iaload, 1) := by decide +kernel
theorem dX7_chance_121 : decode cX7_chance 121 = .ok (.iand, 1) := by decide +kernel
theorem dX7_chance_122 : decode cX7_chance 122 = .ok (.ifCond .eq 7, 3) := by decide +kernel
theorem dX7_chance_125 : decode cX7_chance 125 = .ok (.iconst 1, 1) := by decide +kernel
theorem dX7_chance_126 : decode cX7_chance 126 = .ok (.goto 4, 3) := by decide +kernel
theorem dX7_chance_129 : decode cX7_chance 129 = .ok (.iconst 0, 1) := by decide +kernel
theorem dX7_chance_130 : decode cX7_chance 130 = .ok (.istore 11, 2) := by decide +kernel
theorem dX7_chance_132 : decode cX7_chance 132 = .ok (.lload 6, 2) := by decide +kernel
theorem dX7_chance_134 : decode cX7_chance 134 = .ok (.iload 11, 2) := by decide +kernel
theorem dX7_chance_136 : decode cX7_chance 136 = .ok (.ifCond .eq 12, 3) := by decide +kernel
theorem dX7_chance_139 : decode cX7_chance 139 = .ok (.bipush 10, 2) := by decide +kernel
theorem dX7_chance_141 : decode cX7_chance 141 = .ok (.iload 4, 2) := by decide +kernel
theorem dX7_chance_143 : decode cX7_chance 143 = .ok (.isub, 1) := by decide +kernel
theorem dX7_chance_144 : decode cX7_chance 144 = .ok (.i2l, 1) := by decide +kernel
theorem dX7_chance_145 : decode cX7_chance 145 = .ok (.goto 4, 3) := by decide +kernel
theorem dX7_chance_148 : decode cX7_chance 148 = .ok (.lconst 1, 1) := by decide +kernel
theorem dX7_chance_149 : decode cX7_chance 149 = .ok (.lmul, 1) := by decide +kernel
theorem dX7_chance_150 : decode cX7_chance 150 = .ok (.lstore 6, 2) := by decide +kernel
theorem dX7_chance_152 : decode cX7_chance 152 = .ok (.lload 8, 2) := by decide +kernel
theorem dX7_chance_154 : decode cX7_chance 154 = .ok (.iload 11, 2) := by decide +kernel
theorem dX7_chance_156 : decode cX7_chance 156 = .ok (.ifCond .eq 9, 3) := by decide +kernel
theorem dX7_chance_159 : decode cX7_chance 159 = .ok (.ldc2_w 215, 3) := by decide +kernel
theorem dX7_chance_162 : decode cX7_chance 162 = .ok (.goto 4, 3) := by decide +kernel
theorem dX7_chance_165 : decode cX7_chance 165 = .ok (.lconst 1, 1) := by decide +kernel
theorem dX7_chance_166 : decode cX7_chance 166 = .ok (.lmul, 1) := by decide +kernel
theorem dX7_chance_167 : decode cX7_chance 167 = .ok (.lstore 8, 2) := by decide +kernel
theorem dX7_chance_169 : decode cX7_chance 169 = .ok (.iinc 10 1, 3) := by decide +kernel
theorem dX7_chance_172 : decode cX7_chance 172 = .ok (.goto (-89), 3) := by decide +kernel
theorem dX7_chance_175 : decode cX7_chance 175 = .ok (.lload 8, 2) := by decide +kernel
theorem dX7_chance_177 : decode cX7_chance 177 = .ok (.lload 6, 2) := by decide +kernel
theorem dX7_chance_179 : decode cX7_chance 179 = .ok (.lsub, 1) := by decide +kernel
theorem dX7_chance_180 : decode cX7_chance 180 = .ok (.lload 8, 2) := by decide +kernel
theorem dX7_chance_182 : decode cX7_chance 182 = .ok (.invokestatic 219, 3) := by decide +kernel
theorem dX7_chance_185 : decode cX7_chance 185 = .ok (.lstore 10, 2) := by decide +kernel
theorem dX7_chance_187 : decode cX7_chance 187 = .ok (.iload 5, 2) := by decide +kernel
theorem dX7_chance_189 : decode cX7_chance 189 = .ok (.ifCond .eq 14, 3) := by decide +kernel
theorem dX7_chance_192 : decode cX7_chance 192 = .ok (.lload 8, 2) := by decide +kernel
theorem dX7_chance_194 : decode cX7_chance 194 = .ok (.lload 6, 2) := by decide +kernel
theorem dX7_chance_196 : decode cX7_chance 196 = .ok (.lsub, 1) := by decide +kernel
theorem dX7_chance_197 : decode cX7_chance 197 = .ok (.lload 10, 2) := by decide +kernel
theorem dX7_chance_199 : decode cX7_chance 199 = .ok (.ldiv, 1) := by decide +kernel
theorem dX7_chance_200 : decode cX7_chance 200 = .ok (.goto 8, 3) := by decide +kernel
theorem dX7_chance_203 : decode cX7_chance 203 = .ok (.lload 8, 2) := by decide +kernel
theorem dX7_chance_205 : decode cX7_chance 205 = .ok (.lload 10, 2) := by decide +kernel
theorem dX7_chance_207 : decode cX7_chance 207 = .ok (.ldiv, 1) := by decide +kernel
theorem dX7_chance_208 : decode cX7_chance 208 = .ok (.lreturn, 1) := by decide +kernel
theorem dX7_sight_0 : decode cX7_sight 0 = .ok (.aload_n 0, 1) := by decide +kernel
theorem dX7_sight_1 : decode cX7_sight 1 = .ok (.iconst 0, 1) := by decide +kernel
theorem dX7_sight_2 : decode cX7_sight 2 = .ok (.putfield 77, 3) := by decide +kernel
theorem dX7_sight_5 : decode cX7_sight 5 = .ok (.aload_n 0, 1) := by decide +kernel
theorem dX7_sight_6 : decode cX7_sight 6 = .ok (.iload_n 2, 1) := by decide +kernel
theorem dX7_sight_7 : decode cX7_sight 7 = .ok (.invokevirtual 150, 3) := by decide +kernel
theorem dX7_sight_10 : decode cX7_sight 10 = .ok (.ifCond .eq 5, 3) := by decide +kernel
theorem dX7_sight_13 : decode cX7_sight 13 = .ok (.iconst (-1), 1) := by decide +kernel
theorem dX7_sight_14 : decode cX7_sight 14 = .ok (.ireturn, 1) := by decide +kernel
theorem dX7_sight_15 : decode cX7_sight 15 = .ok (.iload_n 1, 1) := by decide +kernel
theorem dX7_sight_16 : decode cX7_sight 16 = .ok (.i2l, 1) := by decide +kernel
theorem dX7_sight_17 : decode cX7_sight 17 = .ok (.lconst 0, 1) := by decide +kernel
theorem dX7_sight_18 : decode cX7_sight 18 = .ok (.ldc2_w 153, 3) := by decide +kernel
theorem dX7_sight_21 : decode cX7_sight 21 = .ok (.invokestatic 84, 3) := by decide +kernel
theorem dX7_sight_24 : decode cX7_sight 24 = .ok (.ifCond .ne 6, 3) := by decide +kernel
theorem dX7_sight_27 : decode cX7_sight 27 = .ok (.bipush (-2), 2) := by decide +kernel
theorem dX7_sight_29 : decode cX7_sight 29 = .ok (.ireturn, 1) := by decide +kernel
theorem dX7_sight_30 : decode cX7_sight 30 = .ok (.aload_n 0, 1) := by decide +kernel
theorem dX7_sight_31 : decode cX7_sight 31 = .ok (.getfield 147, 3) := by decide +kernel
theorem dX7_sight_34 : decode cX7_sight 34 = .ok (.bipush 8, 2) := by decide +kernel
theorem dX7_sight_36 : decode cX7_sight 36 = .ok (.if_icmp .ne 6, 3) := by decide +kernel
theorem dX7_sight_39 : decode cX7_sight 39 = .ok (.bipush (-4), 2) := by decide +kernel
theorem dX7_sight_41 : decode cX7_sight 41 = .ok (.ireturn, 1) := by decide +kernel
theorem dX7_sight_42 : decode cX7_sight 42 = .ok (.aload_n 0, 1) := by decide +kernel
theorem dX7_sight_43 : decode cX7_sight 43 = .ok (.getfield 53, 3) := by decide +kernel
theorem dX7_sight_46 : decode cX7_sight 46 = .ok (.aload_n 0, 1) := by decide +kernel
theorem dX7_sight_47 : decode cX7_sight 47 = .ok (.getfield 147, 3) := by decide +kernel
theorem dX7_sight_50 : decode cX7_sight 50 = .ok (.iload_n 1, 1) := by decide +kernel
theorem dX7_sight_51 : decode cX7_sight 51 = .ok (.iastore, 1) := by decide +kernel
theorem dX7_sight_52 : decode cX7_sight 52 = .ok (.aload_n 0, 1) := by decide +kernel
theorem dX7_sight_53 : decode cX7_sight 53 = .ok (.getfield 56, 3) := by decide +kernel
theorem dX7_sight_56 : decode cX7_sight 56 = .ok (.aload_n 0, 1) := by decide +kernel
theorem dX7_sight_57 : decode cX7_sight 57 = .ok (.getfield 147, 3) := by decide +kernel
theorem dX7_sight_60 : decode cX7_sight 60 = .ok (.iload_n 2, 1) := by decide +kernel
theorem dX7_sight_61 : decode cX7_sight 61 = .ok (.iastore, 1) := by decide +kernel
theorem dX7_sight_62 : decode cX7_sight 62 = .ok (.aload_n 0, 1) := by decide +kernel
theorem dX7_sight_63 : decode cX7_sight 63 = .ok (.getfield 59, 3) := by decide +kernel
theorem dX7_sight_66 : decode cX7_sight 66 = .ok (.aload_n 0, 1) := by decide +kernel
theorem dX7_sight_67 : decode cX7_sight 67 = .ok (.getfield 147, 3) := by decide +kernel
theorem dX7_sight_70 : decode cX7_sight 70 = .ok (.iload_n 3, 1) := by decide +kernel
theorem dX7_sight_71 : decode cX7_sight 71 = .ok (.bastore, 1) := by decide +kernel
theorem dX7_sight_72 : decode cX7_sight 72 = .ok (.aload_n 0, 1) := by decide +kernel
theorem dX7_sight_73 : decode cX7_sight 73 = .ok (.dup, 1) := by decide +kernel
theorem dX7_sight_74 : decode cX7_sight 74 = .ok (.getfield 147, 3) := by decide +kernel
theorem dX7_sight_77 : decode cX7_sight 77 = .ok (.iconst 1, 1) := by decide +kernel
theorem dX7_sight_78 : decode cX7_sight 78 = .ok (.iadd, 1) := by decide +kernel
theorem dX7_sight_79 : decode cX7_sight 79 = .ok (.putfield 147, 3) := by decide +kernel
theorem dX7_sight_82 : decode cX7_sight 82 = .ok (.aload_n 0, 1) := by decide +kernel
theorem dX7_sight_83 : decode cX7_sight 83 = .ok (.getfield 147, 3) := by decide +kernel
theorem dX7_sight_86 : decode cX7_sight 86 = .ok (.ireturn, 1) := by decide +kernel
theorem dX7_unsee_0 : decode cX7_unsee 0 = .ok (.aload_n 0, 1) := by decide +kernel
theorem dX7_unsee_1 : decode cX7_unsee 1 = .ok (.iconst 0, 1) := by decide +kernel
theorem dX7_unsee_2 : decode cX7_unsee 2 = .ok (.putfield 77, 3) := by decide +kernel
theorem dX7_unsee_5 : decode cX7_unsee 5 = .ok (.aload_n 0, 1) := by decide +kernel
theorem dX7_unsee_6 : decode cX7_unsee 6 = .ok (.getfield 147, 3) := by decide +kernel
theorem dX7_unsee_9 : decode cX7_unsee 9 = .ok (.istore_n 1, 1) := by decide +kernel
theorem dX7_unsee_10 : decode cX7_unsee 10 = .ok (.aload_n 0, 1) := by decide +kernel
theorem dX7_unsee_11 : decode cX7_unsee 11 = .ok (.iconst 0, 1) := by decide +kernel
theorem dX7_unsee_12 : decode cX7_unsee 12 = .ok (.putfield 147, 3) := by decide +kernel
theorem dX7_unsee_15 : decode cX7_unsee 15 = .ok (.iload_n 1, 1) := by decide +kernel
theorem dX7_unsee_16 : decode cX7_unsee 16 = .ok (.ireturn, 1) := by decide +kernel
theorem dX7_isSeen_0 : decode cX7_isSeen 0 = .ok (.iconst 1, 1) := by decide +kernel
theorem dX7_isSeen_1 : decode cX7_isSeen 1 = .ok (.istore_n 3, 1) := by decide +kernel
theorem dX7_isSeen_2 : decode cX7_isSeen 2 = .ok (.iconst 0, 1) := by decide +kernel
theorem dX7_isSeen_3 : decode cX7_isSeen 3 = .ok (.istore 4, 2) := by decide +kernel
theorem dX7_isSeen_5 : decode cX7_isSeen 5 = .ok (.iload 4, 2) := by decide +kernel
theorem dX7_isSeen_7 : decode cX7_isSeen 7 = .ok (.aload_n 0, 1) := by decide +kernel
theorem dX7_isSeen_8 : decode cX7_isSeen 8 = .ok (.getfield 147, 3) := by decide +kernel
theorem dX7_isSeen_11 : decode cX7_isSeen 11 = .ok (.if_icmp .ge 51, 3) := by decide +kernel
theorem dX7_isSeen_14 : decode cX7_isSeen 14 = .ok (.iload_n 3, 1) := by decide +kernel
theorem dX7_isSeen_15 : decode cX7_isSeen 15 = .ok (.ifCond .eq 39, 3) := by decide +kernel
theorem dX7_isSeen_18 : decode cX7_isSeen 18 = .ok (.aload_n 0, 1) := by decide +kernel
theorem dX7_isSeen_19 : decode cX7_isSeen 19 = .ok (.getfield 53, 3) := by decide +kernel
theorem dX7_isSeen_22 : decode cX7_isSeen 22 = .ok (.iload 4, 2) := by decide +kernel
theorem dX7_isSeen_24 : decode cX7_isSeen 24 = .ok (.iaload, 1) := by decide +kernel
theorem dX7_isSeen_25 : decode cX7_isSeen 25 = .ok (.iload_n 1, 1) := by decide +kernel
theorem dX7_isSeen_26 : decode cX7_isSeen 26 = .ok (.if_icmp .ne 24, 3) := by decide +kernel
theorem dX7_isSeen_29 : decode cX7_isSeen 29 = .ok (.iload_n 2, 1) := by decide +kernel
theorem dX7_isSeen_30 : decode cX7_isSeen 30 = .ok (.aload_n 0, 1) := by decide +kernel
theorem dX7_isSeen_31 : decode cX7_isSeen 31 = .ok (.getfield 56, 3) := by decide +kernel
theorem dX7_isSeen_34 : decode cX7_isSeen 34 = .ok (.iload 4, 2) := by decide +kernel
theorem dX7_isSeen_36 : decode cX7_isSeen 36 = .ok (.iaload, 1) := by decide +kernel
theorem dX7_isSeen_37 : decode cX7_isSeen 37 = .ok (.invokestatic 109, 3) := by decide +kernel
theorem dX7_isSeen_40 : decode cX7_isSeen 40 = .ok (.aload_n 0, 1) := by decide +kernel
theorem dX7_isSeen_41 : decode cX7_isSeen 41 = .ok (.getfield 59, 3) := by decide +kernel
theorem dX7_isSeen_44 : decode cX7_isSeen 44 = .ok (.iload 4, 2) := by decide +kernel
theorem dX7_isSeen_46 : decode cX7_isSeen 46 = .ok (.baload, 1) := by decide +kernel
theorem dX7_isSeen_47 : decode cX7_isSeen 47 = .ok (.if_icmp .ne 7, 3) := by decide +kernel
theorem dX7_isSeen_50 : decode cX7_isSeen 50 = .ok (.iconst 1, 1) := by decide +kernel
theorem dX7_isSeen_51 : decode cX7_isSeen 51 = .ok (.goto 4, 3) := by decide +kernel
theorem dX7_isSeen_54 : decode cX7_isSeen 54 = .ok (.iconst 0, 1) := by decide +kernel
theorem dX7_isSeen_55 : decode cX7_isSeen 55 = .ok (.istore_n 3, 1) := by decide +kernel
theorem dX7_isSeen_56 : decode cX7_isSeen 56 = .ok (.iinc 4 1, 3) := by decide +kernel
theorem dX7_isSeen_59 : decode cX7_isSeen 59 = .ok (.goto (-54), 3) := by decide +kernel
theorem dX7_isSeen_62 : decode cX7_isSeen 62 = .ok (.iload_n 3, 1) := by decide +kernel
theorem dX7_isSeen_63 : decode cX7_isSeen 63 = .ok (.ireturn, 1) := by decide +kernel
theorem dX7_rows_0 : decode cX7_rows 0 = .ok (.aload_n 0, 1) := by decide +kernel
theorem dX7_rows_1 : decode cX7_rows 1 = .ok (.iconst 0, 1) := by decide +kernel
theorem dX7_rows_2 : decode cX7_rows 2 = .ok (.putfield 77, 3) := by decide +kernel
theorem dX7_rows_5 : decode cX7_rows 5 = .ok (.aload_n 0, 1) := by decide +kernel
theorem dX7_rows_6 : decode cX7_rows 6 = .ok (.iload_n 1, 1) := by decide +kernel
theorem dX7_rows_7 : decode cX7_rows 7 = .ok (.invokevirtual 155, 3) := by decide +kernel
theorem dX7_rows_10 : decode cX7_rows 10 = .ok (.ifCond .eq 5, 3) := by decide +kernel
theorem dX7_rows_13 : decode cX7_rows 13 = .ok (.iconst (-1), 1) := by decide +kernel
theorem dX7_rows_14 : decode cX7_rows 14 = .ok (.ireturn, 1) := by decide +kernel
theorem dX7_rows_15 : decode cX7_rows 15 = .ok (.iconst 0, 1) := by decide +kernel
theorem dX7_rows_16 : decode cX7_rows 16 = .ok (.istore_n 2, 1) := by decide +kernel
theorem dX7_rows_17 : decode cX7_rows 17 = .ok (.iload_n 2, 1) := by decide +kernel
theorem dX7_rows_18 : decode cX7_rows 18 = .ok (.sipush 640, 3) := by decide +kernel
theorem dX7_rows_21 : decode cX7_rows 21 = .ok (.if_icmp .ge 33, 3) := by decide +kernel
theorem dX7_rows_24 : decode cX7_rows 24 = .ok (.aload_n 0, 1) := by decide +kernel
theorem dX7_rows_25 : decode cX7_rows 25 = .ok (.getfield 65, 3) := by decide +kernel
theorem dX7_rows_28 : decode cX7_rows 28 = .ok (.iload_n 2, 1) := by decide +kernel
theorem dX7_rows_29 : decode cX7_rows 29 = .ok (.iload_n 2, 1) := by decide +kernel
theorem dX7_rows_30 : decode cX7_rows 30 = .ok (.bipush 10, 2) := by decide +kernel
theorem dX7_rows_32 : decode cX7_rows 32 = .ok (.aload_n 0, 1) := by decide +kernel
theorem dX7_rows_33 : decode cX7_rows 33 = .ok (.getfield 22, 3) := by decide +kernel
theorem dX7_rows_36 : decode cX7_rows 36 = .ok (.iload_n 1, 1) := by decide +kernel
theorem dX7_rows_37 : decode cX7_rows 37 = .ok (.iaload, 1) := by decide +kernel
theorem dX7_rows_38 : decode cX7_rows 38 = .ok (.imul, 1) := by decide +kernel
theorem dX7_rows_39 : decode cX7_rows 39 = .ok (.if_icmp .ne 7, 3) := by decide +kernel
theorem dX7_rows_42 : decode cX7_rows 42 = .ok (.iconst 1, 1) := by decide +kernel
theorem dX7_rows_43 : decode cX7_rows 43 = .ok (.goto 4, 3) := by decide +kernel
theorem dX7_rows_46 : decode cX7_rows 46 = .ok (.iconst 0, 1) := by decide +kernel
theorem dX7_rows_47 : decode cX7_rows 47 = .ok (.iastore, 1) := by decide +kernel
theorem dX7_rows_48 : decode cX7_rows 48 = .ok (.iinc 2 1, 3) := by decide +kernel
theorem dX7_rows_51 : decode cX7_rows 51 = .ok (.goto (-34), 3) := by decide +kernel
theorem dX7_rows_54 : decode cX7_rows 54 = .ok (.iconst 0, 1) := by decide +kernel
theorem dX7_rows_55 : decode cX7_rows 55 = .ok (.istore_n 2, 1) := by decide +kernel
theorem dX7_rows_56 : decode cX7_rows 56 = .ok (.iload_n 2, 1) := by decide +kernel
theorem dX7_rows_57 : decode cX7_rows 57 = .ok (.bipush 6, 2) := by decide +kernel
theorem dX7_rows_59 : decode cX7_rows 59 = .ok (.if_icmp .ge 63, 3) := by decide +kernel
theorem dX7_rows_62 : decode cX7_rows 62 = .ok (.aload_n 0, 1) := by decide +kernel
theorem dX7_rows_63 : decode cX7_rows 63 = .ok (.iload_n 2, 1) := by decide +kernel
theorem dX7_rows_64 : decode cX7_rows 64 = .ok (.aload_n 0, 1) := by decide +kernel
theorem dX7_rows_65 : decode cX7_rows 65 = .ok (.getfield 16, 3) := by decide +kernel
theorem dX7_rows_68 : decode cX7_rows 68 = .ok (.iload_n 1, 1) := by decide +kernel
theorem dX7_rows_69 : decode cX7_rows 69 = .ok (.iaload, 1) := by decide +kernel
theorem dX7_rows_70 : decode cX7_rows 70 = .ok (.invokevirtual 200, 3) := by decide +kernel
theorem dX7_rows_73 : decode cX7_rows 73 = .ok (.iconst 0, 1) := by decide +kernel
theorem dX7_rows_74 : decode cX7_rows 74 = .ok (.istore_n 3, 1) := by decide +kernel
theorem dX7_rows_75 : decode cX7_rows 75 = .ok (.iload_n 3, 1) := by decide +kernel
theorem dX7_rows_76 : decode cX7_rows 76 = .ok (.sipush 640, 3) := by decide +kernel
theorem dX7_rows_79 : decode cX7_rows 79 = .ok (.if_icmp .ge 37, 3) := by decide +kernel
theorem dX7_rows_82 : decode cX7_rows 82 = .ok (.aload_n 0, 1) := by decide +kernel
theorem dX7_rows_83 : decode cX7_rows 83 = .ok (.getfield 65, 3) := by decide +kernel
theorem dX7_rows_86 : decode cX7_rows 86 = .ok (.iload_n 3, 1) := by decide +kernel
theorem dX7_rows_87 : decode cX7_rows 87 = .ok (.aload_n 0, 1) := by decide +kernel
theorem dX7_rows_88 : decode cX7_rows 88 = .ok (.iload_n 2, 1) := by decide +kernel
theorem dX7_rows_89 : decode cX7_rows 89 = .ok (.iload_n 3, 1) := by decide +kernel
theorem dX7_rows_90 : decode cX7_rows 90 = .ok (.bipush 10, 2) := by decide +kernel
theorem dX7_rows_92 : decode cX7_rows 92 = .ok (.idiv, 1) := by decide +kernel
theorem dX7_rows_93 : decode cX7_rows 93 = .ok (.invokevirtual 223, 3) := by decide +kernel
theorem dX7_rows_96 : decode cX7_rows 96 = .ok (.ifCond .eq 12, 3) := by decide +kernel
theorem dX7_rows_99 : decode cX7_rows 99 = .ok (.aload_n 0, 1) := by decide +kernel
theorem dX7_rows_100 : decode cX7_rows 100 = .ok (.getfield 65, 3) := by decide +kernel
theorem dX7_rows_103 : decode cX7_rows 103 = .ok (.iload_n 3, 1) := by decide +kernel
theorem dX7_rows_104 : decode cX7_rows 104 = .ok (.iaload, 1) := by decide +kernel
theorem dX7_rows_105 : decode cX7_rows 105 = .ok (.goto 4, 3) := by decide +kernel
theorem dX7_rows_108 : decode cX7_rows 108 = .ok (.iconst 0, 1) := by decide +kernel
theorem dX7_rows_109 : decode cX7_rows 109 = .ok (.iastore, 1) := by decide +kernel
theorem dX7_rows_110 : decode cX7_rows 110 = .ok (.iinc 3 1, 3) := by decide +kernel
theorem dX7_rows_113 : decode cX7_rows 113 = .ok (.goto (-38), 3) := by decide +kernel
theorem dX7_rows_116 : decode cX7_rows 116 = .ok (.iinc 2 1, 3) := by decide +kernel
theorem dX7_rows_119 : decode cX7_rows 119 = .ok (.goto (-63), 3) := by decide +kernel
theorem dX7_rows_122 : decode cX7_rows 122 = .ok (.iconst 0, 1) := by decide +kernel
theorem dX7_rows_123 : decode cX7_rows 123 = .ok (.istore_n 2, 1) := by decide +kernel
theorem dX7_rows_124 : decode cX7_rows 124 = .ok (.iconst 0, 1) := by decide +kernel
theorem dX7_rows_125 : decode cX7_rows 125 = .ok (.istore_n 3, 1) := by decide +kernel
theorem dX7_rows_126 : decode cX7_rows 126 = .ok (.iload_n 3, 1) := by decide +kernel
theorem dX7_rows_127 : decode cX7_rows 127 = .ok (.sipush 640, 3) := by decide +kernel
theorem dX7_rows_130 : decode cX7_rows 130 = .ok (.if_icmp .ge 18, 3) := by decide +kernel
theorem dX7_rows_133 : decode cX7_rows 133 = .ok (.iload_n 2, 1) := by decide +kernel
theorem dX7_rows_134 : decode cX7_rows 134 = .ok (.aload_n 0, 1) := by decide +kernel
theorem dX7_rows_135 : decode cX7_rows 135 = .ok (.getfield 65, 3) := by decide +kernel
theorem dX7_rows_138 : decode cX7_rows 138 = .ok (.iload_n 3, 1) := by decide +kernel
theorem dX7_rows_139 : decode cX7_rows 139 = .ok (.iaload, 1) := by decide +kernel
theorem dX7_rows_140 : decode cX7_rows 140 = .ok (.iadd, 1) := by decide +kernel
theorem dX7_rows_141 : decode cX7_rows 141 = .ok (.istore_n 2, 1) := by decide +kernel
theorem dX7_rows_142 : decode cX7_rows 142 = .ok (.iinc 3 1, 3) := by decide +kernel
theorem dX7_rows_145 : decode cX7_rows 145 = .ok (.goto (-19), 3) := by decide +kernel
theorem dX7_rows_148 : decode cX7_rows 148 = .ok (.iload_n 2, 1) := by decide +kernel
theorem dX7_rows_149 : decode cX7_rows 149 = .ok (.ireturn, 1) := by decide +kernel
theorem dX7_keep_0 : decode cX7_keep 0 = .ok (.aload_n 0, 1) := by decide +kernel
theorem dX7_keep_1 : decode cX7_keep 1 = .ok (.iconst 0, 1) := by decide +kernel
theorem dX7_keep_2 : decode cX7_keep 2 = .ok (.putfield 77, 3) := by decide +kernel
theorem dX7_keep_5 : decode cX7_keep 5 = .ok (.iload_n 1, 1) := by decide +kernel
theorem dX7_keep_6 : decode cX7_keep 6 = .ok (.i2l, 1) := by decide +kernel
theorem dX7_keep_7 : decode cX7_keep 7 = .ok (.lconst 0, 1) := by decide +kernel
theorem dX7_keep_8 : decode cX7_keep 8 = .ok (.lconst 1, 1) := by decide +kernel
theorem dX7_keep_9 : decode cX7_keep 9 = .ok (.invokestatic 84, 3) := by decide +kernel
theorem dX7_keep_12 : decode cX7_keep 12 = .ok (.ifCond .ne 5, 3) := by decide +kernel
theorem dX7_keep_15 : decode cX7_keep 15 = .ok (.iconst (-1), 1) := by decide +kernel
theorem dX7_keep_16 : decode cX7_keep 16 = .ok (.ireturn, 1) := by decide +kernel
theorem dX7_keep_17 : decode cX7_keep 17 = .ok (.aload_n 0, 1) := by decide +kernel
theorem dX7_keep_18 : decode cX7_keep 18 = .ok (.getfield 46, 3) := by decide +kernel
theorem dX7_keep_21 : decode cX7_keep 21 = .ok (.iload_n 1, 1) := by decide +kernel
theorem dX7_keep_22 : decode cX7_keep 22 = .ok (.iconst 1, 1) := by decide +kernel
theorem dX7_keep_23 : decode cX7_keep 23 = .ok (.bastore, 1) := by decide +kernel
theorem dX7_keep_24 : decode cX7_keep 24 = .ok (.aload_n 0, 1) := by decide +kernel
theorem dX7_keep_25 : decode cX7_keep 25 = .ok (.aload_n 0, 1) := by decide +kernel
theorem dX7_keep_26 : decode cX7_keep 26 = .ok (.getfield 43, 3) := by decide +kernel
theorem dX7_keep_29 : decode cX7_keep 29 = .ok (.bipush 58, 2) := by decide +kernel
theorem dX7_keep_31 : decode cX7_keep 31 = .ok (.iload_n 1, 1) := by decide +kernel
theorem dX7_keep_32 : decode cX7_keep 32 = .ok (.imul, 1) := by decide +kernel
theorem dX7_keep_33 : decode cX7_keep 33 = .ok (.invokevirtual 165, 3) := by decide +kernel
theorem dX7_keep_36 : decode cX7_keep 36 = .ok (.aload_n 0, 1) := by decide +kernel
theorem dX7_keep_37 : decode cX7_keep 37 = .ok (.getfield 137, 3) := by decide +kernel
theorem dX7_keep_40 : decode cX7_keep 40 = .ok (.ireturn, 1) := by decide +kernel
theorem dX7_again_0 : decode cX7_again 0 = .ok (.aload_n 0, 1) := by decide +kernel
theorem dX7_again_1 : decode cX7_again 1 = .ok (.iconst 0, 1) := by decide +kernel
theorem dX7_again_2 : decode cX7_again 2 = .ok (.putfield 77, 3) := by decide +kernel
theorem dX7_again_5 : decode cX7_again 5 = .ok (.iload_n 1, 1) := by decide +kernel
theorem dX7_again_6 : decode cX7_again 6 = .ok (.i2l, 1) := by decide +kernel
theorem dX7_again_7 : decode cX7_again 7 = .ok (.lconst 0, 1) := by decide +kernel
theorem dX7_again_8 : decode cX7_again 8 = .ok (.lconst 1, 1) := by decide +kernel
theorem dX7_again_9 : decode cX7_again 9 = .ok (.invokestatic 84, 3) := by decide +kernel
theorem dX7_again_12 : decode cX7_again 12 = .ok (.ifCond .ne 5, 3) := by decide +kernel
theorem dX7_again_15 : decode cX7_again 15 = .ok (.iconst (-1), 1) := by decide +kernel
theorem dX7_again_16 : decode cX7_again 16 = .ok (.ireturn, 1) := by decide +kernel
theorem dX7_again_17 : decode cX7_again 17 = .ok (.aload_n 0, 1) := by decide +kernel
theorem dX7_again_18 : decode cX7_again 18 = .ok (.getfield 46, 3) := by decide +kernel
theorem dX7_again_21 : decode cX7_again 21 = .ok (.iload_n 1, 1) := by decide +kernel
theorem dX7_again_22 : decode cX7_again 22 = .ok (.baload, 1) := by decide +kernel
theorem dX7_again_23 : decode cX7_again 23 = .ok (.ifCond .ne 6, 3) := by decide +kernel
theorem dX7_again_26 : decode cX7_again 26 = .ok (.bipush (-3), 2) := by decide +kernel
theorem dX7_again_28 : decode cX7_again 28 = .ok (.ireturn, 1) := by decide +kernel
theorem dX7_again_29 : decode cX7_again 29 = .ok (.aload_n 0, 1) := by decide +kernel
theorem dX7_again_30 : decode cX7_again 30 = .ok (.aload_n 0, 1) := by decide +kernel
theorem dX7_again_31 : decode cX7_again 31 = .ok (.getfield 43, 3) := by decide +kernel
theorem dX7_again_34 : decode cX7_again 34 = .ok (.bipush 58, 2) := by decide +kernel
theorem dX7_again_36 : decode cX7_again 36 = .ok (.iload_n 1, 1) := by decide +kernel
theorem dX7_again_37 : decode cX7_again 37 = .ok (.imul, 1) := by decide +kernel
theorem dX7_again_38 : decode cX7_again 38 = .ok (.invokevirtual 176, 3) := by decide +kernel
theorem dX7_again_41 : decode cX7_again 41 = .ok (.aload_n 0, 1) := by decide +kernel
theorem dX7_again_42 : decode cX7_again 42 = .ok (.iconst 0, 1) := by decide +kernel
theorem dX7_again_43 : decode cX7_again 43 = .ok (.putfield 140, 3) := by decide +kernel
theorem dX7_again_46 : decode cX7_again 46 = .ok (.aload_n 0, 1) := by decide +kernel
theorem dX7_again_47 : decode cX7_again 47 = .ok (.getfield 137, 3) := by decide +kernel
theorem dX7_again_50 : decode cX7_again 50 = .ok (.ireturn, 1) := by decide +kernel
theorem dJ6_bitCount_0f7a4_0 : decode cJ6_bitCount_0f7a4 0 = .ok (.iload_n 0, 1) := by decide +kernel
theorem dJ6_bitCount_0f7a4_1 : decode cJ6_bitCount_0f7a4 1 = .ok (.iload_n 0, 1) := by decide +kernel
theorem dJ6_bitCount_0f7a4_2 : decode cJ6_bitCount_0f7a4 2 = .ok (.iconst 1, 1) := by decide +kernel
theorem dJ6_bitCount_0f7a4_3 : decode cJ6_bitCount_0f7a4 3 = .ok (.iushr, 1) := by decide +kernel
theorem dJ6_bitCount_0f7a4_4 : decode cJ6_bitCount_0f7a4 4 = .ok (.ldc_w 265, 3) := by decide +kernel
theorem dJ6_bitCount_0f7a4_7 : decode cJ6_bitCount_0f7a4 7 = .ok (.iand, 1) := by decide +kernel
theorem dJ6_bitCount_0f7a4_8 : decode cJ6_bitCount_0f7a4 8 = .ok (.isub, 1) := by decide +kernel
theorem dJ6_bitCount_0f7a4_9 : decode cJ6_bitCount_0f7a4 9 = .ok (.istore_n 0, 1) := by decide +kernel
theorem dJ6_bitCount_0f7a4_10 : decode cJ6_bitCount_0f7a4 10 = .ok (.iload_n 0, 1) := by decide +kernel
theorem dJ6_bitCount_0f7a4_11 : decode cJ6_bitCount_0f7a4 11 = .ok (.ldc_w 266, 3) := by decide +kernel
theorem dJ6_bitCount_0f7a4_14 : decode cJ6_bitCount_0f7a4 14 = .ok (.iand, 1) := by decide +kernel
theorem dJ6_bitCount_0f7a4_15 : decode cJ6_bitCount_0f7a4 15 = .ok (.iload_n 0, 1) := by decide +kernel
theorem dJ6_bitCount_0f7a4_16 : decode cJ6_bitCount_0f7a4 16 = .ok (.iconst 2, 1) := by decide +kernel
theorem dJ6_bitCount_0f7a4_17 : decode cJ6_bitCount_0f7a4 17 = .ok (.iushr, 1) := by decide +kernel
theorem dJ6_bitCount_0f7a4_18 : decode cJ6_bitCount_0f7a4 18 = .ok (.ldc_w 266, 3) := by decide +kernel
theorem dJ6_bitCount_0f7a4_21 : decode cJ6_bitCount_0f7a4 21 = .ok (.iand, 1) := by decide +kernel
theorem dJ6_bitCount_0f7a4_22 : decode cJ6_bitCount_0f7a4 22 = .ok (.iadd, 1) := by decide +kernel
theorem dJ6_bitCount_0f7a4_23 : decode cJ6_bitCount_0f7a4 23 = .ok (.istore_n 0, 1) := by decide +kernel
theorem dJ6_bitCount_0f7a4_24 : decode cJ6_bitCount_0f7a4 24 = .ok (.iload_n 0, 1) := by decide +kernel
theorem dJ6_bitCount_0f7a4_25 : decode cJ6_bitCount_0f7a4 25 = .ok (.iload_n 0, 1) := by decide +kernel
theorem dJ6_bitCount_0f7a4_26 : decode cJ6_bitCount_0f7a4 26 = .ok (.iconst 4, 1) := by decide +kernel
theorem dJ6_bitCount_0f7a4_27 : decode cJ6_bitCount_0f7a4 27 = .ok (.iushr, 1) := by decide +kernel
theorem dJ6_bitCount_0f7a4_28 : decode cJ6_bitCount_0f7a4 28 = .ok (.iadd, 1) := by decide +kernel
theorem dJ6_bitCount_0f7a4_29 : decode cJ6_bitCount_0f7a4 29 = .ok (.ldc_w 267, 3) := by decide +kernel
theorem dJ6_bitCount_0f7a4_32 : decode cJ6_bitCount_0f7a4 32 = .ok (.iand, 1) := by decide +kernel
theorem dJ6_bitCount_0f7a4_33 : decode cJ6_bitCount_0f7a4 33 = .ok (.istore_n 0, 1) := by decide +kernel
theorem dJ6_bitCount_0f7a4_34 : decode cJ6_bitCount_0f7a4 34 = .ok (.iload_n 0, 1) := by decide +kernel
theorem dJ6_bitCount_0f7a4_35 : decode cJ6_bitCount_0f7a4 35 = .ok (.iload_n 0, 1) := by decide +kernel
theorem dJ6_bitCount_0f7a4_36 : decode cJ6_bitCount_0f7a4 36 = .ok (.bipush 8, 2) := by decide +kernel
theorem dJ6_bitCount_0f7a4_38 : decode cJ6_bitCount_0f7a4 38 = .ok (.iushr, 1) := by decide +kernel
theorem dJ6_bitCount_0f7a4_39 : decode cJ6_bitCount_0f7a4 39 = .ok (.iadd, 1) := by decide +kernel
theorem dJ6_bitCount_0f7a4_40 : decode cJ6_bitCount_0f7a4 40 = .ok (.istore_n 0, 1) := by decide +kernel
theorem dJ6_bitCount_0f7a4_41 : decode cJ6_bitCount_0f7a4 41 = .ok (.iload_n 0, 1) := by decide +kernel
theorem dJ6_bitCount_0f7a4_42 : decode cJ6_bitCount_0f7a4 42 = .ok (.iload_n 0, 1) := by decide +kernel
theorem dJ6_bitCount_0f7a4_43 : decode cJ6_bitCount_0f7a4 43 = .ok (.bipush 16, 2) := by decide +kernel
theorem dJ6_bitCount_0f7a4_45 : decode cJ6_bitCount_0f7a4 45 = .ok (.iushr, 1) := by decide +kernel
theorem dJ6_bitCount_0f7a4_46 : decode cJ6_bitCount_0f7a4 46 = .ok (.iadd, 1) := by decide +kernel
theorem dJ6_bitCount_0f7a4_47 : decode cJ6_bitCount_0f7a4 47 = .ok (.istore_n 0, 1) := by decide +kernel
theorem dJ6_bitCount_0f7a4_48 : decode cJ6_bitCount_0f7a4 48 = .ok (.iload_n 0, 1) := by decide +kernel
theorem dJ6_bitCount_0f7a4_49 : decode cJ6_bitCount_0f7a4 49 = .ok (.bipush 63, 2) := by decide +kernel
theorem dJ6_bitCount_0f7a4_51 : decode cJ6_bitCount_0f7a4 51 = .ok (.iand, 1) := by decide +kernel
theorem dJ6_bitCount_0f7a4_52 : decode cJ6_bitCount_0f7a4 52 = .ok (.ireturn, 1) := by decide +kernel
theorem dJ9_max_7cf53_0 : decode cJ9_max_7cf53 0 = .ok (.iload_n 0, 1) := by decide +kernel
theorem dJ9_max_7cf53_1 : decode cJ9_max_7cf53 1 = .ok (.iload_n 1, 1) := by decide +kernel
theorem dJ9_max_7cf53_2 : decode cJ9_max_7cf53 2 = .ok (.if_icmp .lt 7, 3) := by decide +kernel
theorem dJ9_max_7cf53_5 : decode cJ9_max_7cf53 5 = .ok (.iload_n 0, 1) := by decide +kernel
theorem dJ9_max_7cf53_6 : decode cJ9_max_7cf53 6 = .ok (.goto 4, 3) := by decide +kernel
theorem dJ9_max_7cf53_9 : decode cJ9_max_7cf53 9 = .ok (.iload_n 1, 1) := by decide +kernel
theorem dJ9_max_7cf53_10 : decode cJ9_max_7cf53 10 = .ok (.ireturn, 1) := by decide +kernel
theorem dJ9_min_7cf53_0 : decode cJ9_min_7cf53 0 = .ok (.iload_n 0, 1) := by decide +kernel
theorem dJ9_min_7cf53_1 : decode cJ9_min_7cf53 1 = .ok (.iload_n 1, 1) := by decide +kernel
theorem dJ9_min_7cf53_2 : decode cJ9_min_7cf53 2 = .ok (.if_icmp .gt 7, 3) := by decide +kernel
theorem dJ9_min_7cf53_5 : decode cJ9_min_7cf53 5 = .ok (.iload_n 0, 1) := by decide +kernel
theorem dJ9_min_7cf53_6 : decode cJ9_min_7cf53 6 = .ok (.goto 4, 3) := by decide +kernel
theorem dJ9_min_7cf53_9 : decode cJ9_min_7cf53 9 = .ok (.iload_n 1, 1) := by decide +kernel
theorem dJ9_min_7cf53_10 : decode cJ9_min_7cf53 10 = .ok (.ireturn, 1) := by decide +kernel
theorem dJ7_fill_53178_0 : decode cJ7_fill_53178 0 = .ok (.iconst 0, 1) := by decide +kernel
theorem dJ7_fill_53178_1 : decode cJ7_fill_53178 1 = .ok (.istore_n 2, 1) := by decide +kernel
theorem dJ7_fill_53178_2 : decode cJ7_fill_53178 2 = .ok (.aload_n 0, 1) := by decide +kernel
theorem dJ7_fill_53178_3 : decode cJ7_fill_53178 3 = .ok (.arraylength, 1) := by decide +kernel
theorem dJ7_fill_53178_4 : decode cJ7_fill_53178 4 = .ok (.istore_n 3, 1) := by decide +kernel
theorem dJ7_fill_53178_5 : decode cJ7_fill_53178 5 = .ok (.iload_n 2, 1) := by decide +kernel
theorem dJ7_fill_53178_6 : decode cJ7_fill_53178 6 = .ok (.iload_n 3, 1) := by decide +kernel
theorem dJ7_fill_53178_7 : decode cJ7_fill_53178 7 = .ok (.if_icmp .ge 13, 3) := by decide +kernel
theorem dJ7_fill_53178_10 : decode cJ7_fill_53178 10 = .ok (.aload_n 0, 1) := by decide +kernel
theorem dJ7_fill_53178_11 : decode cJ7_fill_53178 11 = .ok (.iload_n 2, 1) := by decide +kernel
theorem dJ7_fill_53178_12 : decode cJ7_fill_53178 12 = .ok (.iload_n 1, 1) := by decide +kernel
theorem dJ7_fill_53178_13 : decode cJ7_fill_53178 13 = .ok (.iastore, 1) := by decide +kernel
theorem dJ7_fill_53178_14 : decode cJ7_fill_53178 14 = .ok (.iinc 2 1, 3) := by decide +kernel
theorem dJ7_fill_53178_17 : decode cJ7_fill_53178 17 = .ok (.goto (-12), 3) := by decide +kernel
theorem dJ7_fill_53178_20 : decode cJ7_fill_53178 20 = .ok (.return_, 1) := by decide +kernel
theorem dL_law_0 : decode cL_law 0 = .ok (.new 7, 3) := by decide +kernel
theorem dL_law_3 : decode cL_law 3 = .ok (.dup, 1) := by decide +kernel
theorem dL_law_4 : decode cL_law 4 = .ok (.invokespecial 9, 3) := by decide +kernel
theorem dL_law_7 : decode cL_law 7 = .ok (.astore_n 1, 1) := by decide +kernel
theorem dL_law_8 : decode cL_law 8 = .ok (.new 10, 3) := by decide +kernel
theorem dL_law_11 : decode cL_law 11 = .ok (.dup, 1) := by decide +kernel
theorem dL_law_12 : decode cL_law 12 = .ok (.invokespecial 12, 3) := by decide +kernel
theorem dL_law_15 : decode cL_law 15 = .ok (.astore_n 2, 1) := by decide +kernel
theorem dL_law_16 : decode cL_law 16 = .ok (.iconst 0, 1) := by decide +kernel
theorem dL_law_17 : decode cL_law 17 = .ok (.istore_n 3, 1) := by decide +kernel
theorem dL_law_18 : decode cL_law 18 = .ok (.iload_n 3, 1) := by decide +kernel
theorem dL_law_19 : decode cL_law 19 = .ok (.aload_n 0, 1) := by decide +kernel
theorem dL_law_20 : decode cL_law 20 = .ok (.arraylength, 1) := by decide +kernel
theorem dL_law_21 : decode cL_law 21 = .ok (.bipush 6, 2) := by decide +kernel
theorem dL_law_23 : decode cL_law 23 = .ok (.isub, 1) := by decide +kernel
theorem dL_law_24 : decode cL_law 24 = .ok (.if_icmp .gt 908, 3) := by decide +kernel
theorem dL_law_27 : decode cL_law 27 = .ok (.aload_n 0, 1) := by decide +kernel
theorem dL_law_28 : decode cL_law 28 = .ok (.iload_n 3, 1) := by decide +kernel
theorem dL_law_29 : decode cL_law 29 = .ok (.iaload, 1) := by decide +kernel
theorem dL_law_30 : decode cL_law 30 = .ok (.bipush 31, 2) := by decide +kernel
theorem dL_law_32 : decode cL_law 32 = .ok (.iand, 1) := by decide +kernel
theorem dL_law_33 : decode cL_law 33 = .ok (.tableswitch 893 0 24 #[115, 178, 191, 204, 217, 240, 273, 306, 339, 372, 405, 438, 451, 464, 507, 540, 583, 606, 639, 672, 752, 811, 824, 847, 870], 115) := by decide +kernel
theorem dL_law_148 : decode cL_law 148 = .ok (.aload_n 1, 1) := by decide +kernel
theorem dL_law_149 : decode cL_law 149 = .ok (.aload_n 0, 1) := by decide +kernel
theorem dL_law_150 : decode cL_law 150 = .ok (.iload_n 3, 1) := by decide +kernel
theorem dL_law_151 : decode cL_law 151 = .ok (.iconst 1, 1) := by decide +kernel
theorem dL_law_152 : decode cL_law 152 = .ok (.iadd, 1) := by decide +kernel
theorem dL_law_153 : decode cL_law 153 = .ok (.iaload, 1) := by decide +kernel
theorem dL_law_154 : decode cL_law 154 = .ok (.aload_n 0, 1) := by decide +kernel
theorem dL_law_155 : decode cL_law 155 = .ok (.iload_n 3, 1) := by decide +kernel
theorem dL_law_156 : decode cL_law 156 = .ok (.iconst 2, 1) := by decide +kernel
theorem dL_law_157 : decode cL_law 157 = .ok (.iadd, 1) := by decide +kernel
theorem dL_law_158 : decode cL_law 158 = .ok (.iaload, 1) := by decide +kernel
theorem dL_law_159 : decode cL_law 159 = .ok (.i2l, 1) := by decide +kernel
theorem dL_law_160 : decode cL_law 160 = .ok (.bipush 32, 2) := by decide +kernel
theorem dL_law_162 : decode cL_law 162 = .ok (.lshl, 1) := by decide +kernel
theorem dL_law_163 : decode cL_law 163 = .ok (.aload_n 0, 1) := by decide +kernel
theorem dL_law_164 : decode cL_law 164 = .ok (.iload_n 3, 1) := by decide +kernel
theorem dL_law_165 : decode cL_law 165 = .ok (.iconst 3, 1) := by decide +kernel
theorem dL_law_166 : decode cL_law 166 = .ok (.iadd, 1) := by decide +kernel
theorem dL_law_167 : decode cL_law 167 = .ok (.iaload, 1) := by decide +kernel
theorem dL_law_168 : decode cL_law 168 = .ok (.i2l, 1) := by decide +kernel
theorem dL_law_169 : decode cL_law 169 = .ok (.ldc2_w 13, 3) := by decide +kernel
theorem dL_law_172 : decode cL_law 172 = .ok (.land, 1) := by decide +kernel
theorem dL_law_173 : decode cL_law 173 = .ok (.lor, 1) := by decide +kernel
theorem dL_law_174 : decode cL_law 174 = .ok (.invokevirtual 15, 3) := by decide +kernel
theorem dL_law_177 : decode cL_law 177 = .ok (.aload_n 2, 1) := by decide +kernel
theorem dL_law_178 : decode cL_law 178 = .ok (.aload_n 0, 1) := by decide +kernel
theorem dL_law_179 : decode cL_law 179 = .ok (.iload_n 3, 1) := by decide +kernel
theorem dL_law_180 : decode cL_law 180 = .ok (.iconst 1, 1) := by decide +kernel
theorem dL_law_181 : decode cL_law 181 = .ok (.iadd, 1) := by decide +kernel
theorem dL_law_182 : decode cL_law 182 = .ok (.iaload, 1) := by decide +kernel
theorem dL_law_183 : decode cL_law 183 = .ok (.aload_n 0, 1) := by decide +kernel
theorem dL_law_184 : decode cL_law 184 = .ok (.iload_n 3, 1) := by decide +kernel
theorem dL_law_185 : decode cL_law 185 = .ok (.iconst 2, 1) := by decide +kernel
theorem dL_law_186 : decode cL_law 186 = .ok (.iadd, 1) := by decide +kernel
theorem dL_law_187 : decode cL_law 187 = .ok (.iaload, 1) := by decide +kernel
theorem dL_law_188 : decode cL_law 188 = .ok (.i2l, 1) := by decide +kernel
theorem dL_law_189 : decode cL_law 189 = .ok (.bipush 32, 2) := by decide +kernel
theorem dL_law_191 : decode cL_law 191 = .ok (.lshl, 1) := by decide +kernel
theorem dL_law_192 : decode cL_law 192 = .ok (.aload_n 0, 1) := by decide +kernel
theorem dL_law_193 : decode cL_law 193 = .ok (.iload_n 3, 1) := by decide +kernel
theorem dL_law_194 : decode cL_law 194 = .ok (.iconst 3, 1) := by decide +kernel
theorem dL_law_195 : decode cL_law 195 = .ok (.iadd, 1) := by decide +kernel
theorem dL_law_196 : decode cL_law 196 = .ok (.iaload, 1) := by decide +kernel
theorem dL_law_197 : decode cL_law 197 = .ok (.i2l, 1) := by decide +kernel
theorem dL_law_198 : decode cL_law 198 = .ok (.ldc2_w 13, 3) := by decide +kernel
theorem dL_law_201 : decode cL_law 201 = .ok (.land, 1) := by decide +kernel
theorem dL_law_202 : decode cL_law 202 = .ok (.lor, 1) := by decide +kernel
theorem dL_law_203 : decode cL_law 203 = .ok (.invokevirtual 19, 3) := by decide +kernel
theorem dL_law_206 : decode cL_law 206 = .ok (.if_icmp .eq 720, 3) := by decide +kernel
theorem dL_law_209 : decode cL_law 209 = .ok (.iconst 0, 1) := by decide +kernel
theorem dL_law_210 : decode cL_law 210 = .ok (.ireturn, 1) := by decide +kernel
theorem dL_law_211 : decode cL_law 211 = .ok (.aload_n 1, 1) := by decide +kernel
theorem dL_law_212 : decode cL_law 212 = .ok (.invokevirtual 20, 3) := by decide +kernel
theorem dL_law_215 : decode cL_law 215 = .ok (.aload_n 2, 1) := by decide +kernel
theorem dL_law_216 : decode cL_law 216 = .ok (.invokevirtual 24, 3) := by decide +kernel
theorem dL_law_219 : decode cL_law 219 = .ok (.if_icmp .eq 707, 3) := by decide +kernel
theorem dL_law_222 : decode cL_law 222 = .ok (.iconst 0, 1) := by decide +kernel
theorem dL_law_223 : decode cL_law 223 = .ok (.ireturn, 1) := by decide +kernel
theorem dL_law_224 : decode cL_law 224 = .ok (.aload_n 1, 1) := by decide +kernel
theorem dL_law_225 : decode cL_law 225 = .ok (.invokevirtual 25, 3) := by decide +kernel
theorem dL_law_228 : decode cL_law 228 = .ok (.aload_n 2, 1) := by decide +kernel
theorem dL_law_229 : decode cL_law 229 = .ok (.invokevirtual 28, 3) := by decide +kernel
theorem dL_law_232 : decode cL_law 232 = .ok (.if_icmp .eq 694, 3) := by decide +kernel
theorem dL_law_235 : decode cL_law 235 = .ok (.iconst 0, 1) := by decide +kernel
theorem dL_law_236 : decode cL_law 236 = .ok (.ireturn, 1) := by decide +kernel
theorem dL_law_237 : decode cL_law 237 = .ok (.aload_n 1, 1) := by decide +kernel
theorem dL_law_238 : decode cL_law 238 = .ok (.invokevirtual 29, 3) := by decide +kernel
theorem dL_law_241 : decode cL_law 241 = .ok (.aload_n 2, 1) := by decide +kernel
theorem dL_law_242 : decode cL_law 242 = .ok (.invokevirtual 32, 3) := by decide +kernel
theorem dL_law_245 : decode cL_law 245 = .ok (.if_icmp .eq 681, 3) := by decide +kernel
theorem dL_law_248 : decode cL_law 248 = .ok (.iconst 0, 1) := by decide +kernel
theorem dL_law_249 : decode cL_law 249 = .ok (.ireturn, 1) := by decide +kernel
theorem dL_law_250 : decode cL_law 250 = .ok (.aload_n 1, 1) := by decide +kernel
theorem dL_law_251 : decode cL_law 251 = .ok (.aload_n 0, 1) := by decide +kernel
theorem dL_law_252 : decode cL_law 252 = .ok (.iload_n 3, 1) := by decide +kernel
theorem dL_law_253 : decode cL_law 253 = .ok (.iconst 1, 1) := by decide +kernel
theorem dL_law_254 : decode cL_law 254 = .ok (.iadd, 1) := by decide +kernel
theorem dL_law_255 : decode cL_law 255 = .ok (.iaload, 1) := by decide +kernel
theorem dL_law_256 : decode cL_law 256 = .ok (.invokevirtual 33, 3) := by decide +kernel
theorem dL_law_259 : decode cL_law 259 = .ok (.aload_n 2, 1) := by decide +kernel
theorem dL_law_260 : decode cL_law 260 = .ok (.aload_n 0, 1) := by decide +kernel
theorem dL_law_261 : decode cL_law 261 = .ok (.iload_n 3, 1) := by decide +kernel
theorem dL_law_262 : decode cL_law 262 = .ok (.iconst 1, 1) := by decide +kernel
theorem dL_law_263 : decode cL_law 263 = .ok (.iadd, 1) := by decide +kernel
theorem dL_law_264 : decode cL_law 264 = .ok (.iaload, 1) := by decide +kernel
theorem dL_law_265 : decode cL_law 265 = .ok (.invokevirtual 37, 3) := by decide +kernel
theorem dL_law_268 : decode cL_law 268 = .ok (.if_icmp .eq 658, 3) := by decide +kernel
theorem dL_law_271 : decode cL_law 271 = .ok (.iconst 0, 1) := by decide +kernel
theorem dL_law_272 : decode cL_law 272 = .ok (.ireturn, 1) := by decide +kernel
theorem dL_law_273 : decode cL_law 273 = .ok (.aload_n 1, 1) := by decide +kernel
theorem dL_law_274 : decode cL_law 274 = .ok (.aload_n 0, 1) := by decide +kernel
theorem dL_law_275 : decode cL_law 275 = .ok (.iload_n 3, 1) := by decide +kernel
theorem dL_law_276 : decode cL_law 276 = .ok (.iconst 1, 1) := by decide +kernel
theorem dL_law_277 : decode cL_law 277 = .ok (.iadd, 1) := by decide +kernel
theorem dL_law_278 : decode cL_law 278 = .ok (.iaload, 1) := by decide +kernel
theorem dL_law_279 : decode cL_law 279 = .ok (.aload_n 0, 1) := by decide +kernel
theorem dL_law_280 : decode cL_law 280 = .ok (.iload_n 3, 1) := by decide +kernel
theorem dL_law_281 : decode cL_law 281 = .ok (.iconst 2, 1) := by decide +kernel
theorem dL_law_282 : decode cL_law 282 = .ok (.iadd, 1) := by decide +kernel
theorem dL_law_283 : decode cL_law 283 = .ok (.iaload, 1) := by decide +kernel
theorem dL_law_284 : decode cL_law 284 = .ok (.invokevirtual 38, 3) := by decide +kernel
theorem dL_law_287 : decode cL_law 287 = .ok (.aload_n 2, 1) := by decide +kernel
theorem dL_law_288 : decode cL_law 288 = .ok (.aload_n 0, 1) := by decide +kernel
theorem dL_law_289 : decode cL_law 289 = .ok (.iload_n 3, 1) := by decide +kernel
theorem dL_law_290 : decode cL_law 290 = .ok (.iconst 1, 1) := by decide +kernel
theorem dL_law_291 : decode cL_law 291 = .ok (.iadd, 1) := by decide +kernel
theorem dL_law_292 : decode cL_law 292 = .ok (.iaload, 1) := by decide +kernel
theorem dL_law_293 : decode cL_law 293 = .ok (.aload_n 0, 1) := by decide +kernel
theorem dL_law_294 : decode cL_law 294 = .ok (.iload_n 3, 1) := by decide +kernel
theorem dL_law_295 : decode cL_law 295 = .ok (.iconst 2, 1) := by decide +kernel
theorem dL_law_296 : decode cL_law 296 = .ok (.iadd, 1) := by decide +kernel
theorem dL_law_297 : decode cL_law 297 = .ok (.iaload, 1) := by decide +kernel
theorem dL_law_298 : decode cL_law 298 = .ok (.invokevirtual 42, 3) := by decide +kernel
theorem dL_law_301 : decode cL_law 301 = .ok (.if_icmp .eq 625, 3) := by decide +kernel
theorem dL_law_304 : decode cL_law 304 = .ok (.iconst 0, 1) := by decide +kernel
theorem dL_law_305 : decode cL_law 305 = .ok (.ireturn, 1) := by decide +kernel
theorem dL_law_306 : decode cL_law 306 = .ok (.aload_n 1, 1) := by decide +kernel
theorem dL_law_307 : decode cL_law 307 = .ok (.aload_n 0, 1) := by decide +kernel
theorem dL_law_308 : decode cL_law 308 = .ok (.iload_n 3, 1) := by decide +kernel
theorem dL_law_309 : decode cL_law 309 = .ok (.iconst 1, 1) := by decide +kernel
theorem dL_law_310 : decode cL_law 310 = .ok (.iadd, 1) := by decide +kernel
theorem dL_law_311 : decode cL_law 311 = .ok (.iaload, 1) := by decide +kernel
theorem dL_law_312 : decode cL_law 312 = .ok (.aload_n 0, 1) := by decide +kernel
theorem dL_law_313 : decode cL_law 313 = .ok (.iload_n 3, 1) := by decide +kernel
theorem dL_law_314 : decode cL_law 314 = .ok (.iconst 2, 1) := by decide +kernel
theorem dL_law_315 : decode cL_law 315 = .ok (.iadd, 1) := by decide +kernel
theorem dL_law_316 : decode cL_law 316 = .ok (.iaload, 1) := by decide +kernel
theorem dL_law_317 : decode cL_law 317 = .ok (.invokevirtual 43, 3) := by decide +kernel
theorem dL_law_320 : decode cL_law 320 = .ok (.aload_n 2, 1) := by decide +kernel
theorem dL_law_321 : decode cL_law 321 = .ok (.aload_n 0, 1) := by decide +kernel
theorem dL_law_322 : decode cL_law 322 = .ok (.iload_n 3, 1) := by decide +kernel
theorem dL_law_323 : decode cL_law 323 = .ok (.iconst 1, 1) := by decide +kernel
theorem dL_law_324 : decode cL_law 324 = .ok (.iadd, 1) := by decide +kernel
theorem dL_law_325 : decode cL_law 325 = .ok (.iaload, 1) := by decide +kernel
theorem dL_law_326 : decode cL_law 326 = .ok (.aload_n 0, 1) := by decide +kernel
theorem dL_law_327 : decode cL_law 327 = .ok (.iload_n 3, 1) := by decide +kernel
theorem dL_law_328 : decode cL_law 328 = .ok (.iconst 2, 1) := by decide +kernel
theorem dL_law_329 : decode cL_law 329 = .ok (.iadd, 1) := by decide +kernel
theorem dL_law_330 : decode cL_law 330 = .ok (.iaload, 1) := by decide +kernel
theorem dL_law_331 : decode cL_law 331 = .ok (.invokevirtual 46, 3) := by decide +kernel
theorem dL_law_334 : decode cL_law 334 = .ok (.if_icmp .eq 592, 3) := by decide +kernel
theorem dL_law_337 : decode cL_law 337 = .ok (.iconst 0, 1) := by decide +kernel
theorem dL_law_338 : decode cL_law 338 = .ok (.ireturn, 1) := by decide +kernel
theorem dL_law_339 : decode cL_law 339 = .ok (.aload_n 1, 1) := by decide +kernel
theorem dL_law_340 : decode cL_law 340 = .ok (.aload_n 0, 1) := by decide +kernel
theorem dL_law_341 : decode cL_law 341 = .ok (.iload_n 3, 1) := by decide +kernel
theorem dL_law_342 : decode cL_law 342 = .ok (.iconst 1, 1) := by decide +kernel
theorem dL_law_343 : decode cL_law 343 = .ok (.iadd, 1) := by decide +kernel
theorem dL_law_344 : decode cL_law 344 = .ok (.iaload, 1) := by decide +kernel
theorem dL_law_345 : decode cL_law 345 = .ok (.aload_n 0, 1) := by decide +kernel
theorem dL_law_346 : decode cL_law 346 = .ok (.iload_n 3, 1) := by decide +kernel
theorem dL_law_347 : decode cL_law 347 = .ok (.iconst 2, 1) := by decide +kernel
theorem dL_law_348 : decode cL_law 348 = .ok (.iadd, 1) := by decide +kernel
theorem dL_law_349 : decode cL_law 349 = .ok (.iaload, 1) := by decide +kernel
theorem dL_law_350 : decode cL_law 350 = .ok (.invokevirtual 47, 3) := by decide +kernel
theorem dL_law_353 : decode cL_law 353 = .ok (.aload_n 2, 1) := by decide +kernel
theorem dL_law_354 : decode cL_law 354 = .ok (.aload_n 0, 1) := by decide +kernel
theorem dL_law_355 : decode cL_law 355 = .ok (.iload_n 3, 1) := by decide +kernel
theorem dL_law_356 : decode cL_law 356 = .ok (.iconst 1, 1) := by decide +kernel
theorem dL_law_357 : decode cL_law 357 = .ok (.iadd, 1) := by decide +kernel
theorem dL_law_358 : decode cL_law 358 = .ok (.iaload, 1) := by decide +kernel
theorem dL_law_359 : decode cL_law 359 = .ok (.aload_n 0, 1) := by decide +kernel
theorem dL_law_360 : decode cL_law 360 = .ok (.iload_n 3, 1) := by decide +kernel
theorem dL_law_361 : decode cL_law 361 = .ok (.iconst 2, 1) := by decide +kernel
theorem dL_law_362 : decode cL_law 362 = .ok (.iadd, 1) := by decide +kernel
theorem dL_law_363 : decode cL_law 363 = .ok (.iaload, 1) := by decide +kernel
theorem dL_law_364 : decode cL_law 364 = .ok (.invokevirtual 50, 3) := by decide +kernel
theorem dL_law_367 : decode cL_law 367 = .ok (.if_icmp .eq 559, 3) := by decide +kernel
theorem dL_law_370 : decode cL_law 370 = .ok (.iconst 0, 1) := by decide +kernel
theorem dL_law_371 : decode cL_law 371 = .ok (.ireturn, 1) := by decide +kernel
theorem dL_law_372 : decode cL_law 372 = .ok (.aload_n 1, 1) := by decide +kernel
theorem dL_law_373 : decode cL_law 373 = .ok (.aload_n 0, 1) := by decide +kernel
theorem dL_law_374 : decode cL_law 374 = .ok (.iload_n 3, 1) := by decide +kernel
theorem dL_law_375 : decode cL_law 375 = .ok (.iconst 1, 1) := by decide +kernel
theorem dL_law_376 : decode cL_law 376 = .ok (.iadd, 1) := by decide +kernel
theorem dL_law_377 : decode cL_law 377 = .ok (.iaload, 1) := by decide +kernel
theorem dL_law_378 : decode cL_law 378 = .ok (.aload_n 0, 1) := by decide +kernel
theorem dL_law_379 : decode cL_law 379 = .ok (.iload_n 3, 1) := by decide +kernel
theorem dL_law_380 : decode cL_law 380 = .ok (.iconst 2, 1) := by decide +kernel
theorem dL_law_381 : decode cL_law 381 = .ok (.iadd, 1) := by decide +kernel
theorem dL_law_382 : decode cL_law 382 = .ok (.iaload, 1) := by decide +kernel
theorem dL_law_383 : decode cL_law 383 = .ok (.invokevirtual 51, 3) := by decide +kernel
theorem dL_law_386 : decode cL_law 386 = .ok (.aload_n 2, 1) := by decide +kernel
theorem dL_law_387 : decode cL_law 387 = .ok (.aload_n 0, 1) := by decide +kernel
theorem dL_law_388 : decode cL_law 388 = .ok (.iload_n 3, 1) := by decide +kernel
theorem dL_law_389 : decode cL_law 389 = .ok (.iconst 1, 1) := by decide +kernel
theorem dL_law_390 : decode cL_law 390 = .ok (.iadd, 1) := by decide +kernel
theorem dL_law_391 : decode cL_law 391 = .ok (.iaload, 1) := by decide +kernel
theorem dL_law_392 : decode cL_law 392 = .ok (.aload_n 0, 1) := by decide +kernel
theorem dL_law_393 : decode cL_law 393 = .ok (.iload_n 3, 1) := by decide +kernel
theorem dL_law_394 : decode cL_law 394 = .ok (.iconst 2, 1) := by decide +kernel
theorem dL_law_395 : decode cL_law 395 = .ok (.iadd, 1) := by decide +kernel
theorem dL_law_396 : decode cL_law 396 = .ok (.iaload, 1) := by decide +kernel
theorem dL_law_397 : decode cL_law 397 = .ok (.invokevirtual 54, 3) := by decide +kernel
theorem dL_law_400 : decode cL_law 400 = .ok (.if_icmp .eq 526, 3) := by decide +kernel
theorem dL_law_403 : decode cL_law 403 = .ok (.iconst 0, 1) := by decide +kernel
theorem dL_law_404 : decode cL_law 404 = .ok (.ireturn, 1) := by decide +kernel
theorem dL_law_405 : decode cL_law 405 = .ok (.aload_n 1, 1) := by decide +kernel
theorem dL_law_406 : decode cL_law 406 = .ok (.aload_n 0, 1) := by decide +kernel
theorem dL_law_407 : decode cL_law 407 = .ok (.iload_n 3, 1) := by decide +kernel
theorem dL_law_408 : decode cL_law 408 = .ok (.iconst 1, 1) := by decide +kernel
theorem dL_law_409 : decode cL_law 409 = .ok (.iadd, 1) := by decide +kernel
theorem dL_law_410 : decode cL_law 410 = .ok (.iaload, 1) := by decide +kernel
theorem dL_law_411 : decode cL_law 411 = .ok (.aload_n 0, 1) := by decide +kernel
theorem dL_law_412 : decode cL_law 412 = .ok (.iload_n 3, 1) := by decide +kernel
theorem dL_law_413 : decode cL_law 413 = .ok (.iconst 2, 1) := by decide +kernel
theorem dL_law_414 : decode cL_law 414 = .ok (.iadd, 1) := by decide +kernel
theorem dL_law_415 : decode cL_law 415 = .ok (.iaload, 1) := by decide +kernel
theorem dL_law_416 : decode cL_law 416 = .ok (.invokevirtual 55, 3) := by decide +kernel
theorem dL_law_419 : decode cL_law 419 = .ok (.aload_n 2, 1) := by decide +kernel
theorem dL_law_420 : decode cL_law 420 = .ok (.aload_n 0, 1) := by decide +kernel
theorem dL_law_421 : decode cL_law 421 = .ok (.iload_n 3, 1) := by decide +kernel
theorem dL_law_422 : decode cL_law 422 = .ok (.iconst 1, 1) := by decide +kernel
theorem dL_law_423 : decode cL_law 423 = .ok (.iadd, 1) := by decide +kernel
theorem dL_law_424 : decode cL_law 424 = .ok (.iaload, 1) := by decide +kernel
theorem dL_law_425 : decode cL_law 425 = .ok (.aload_n 0, 1) := by decide +kernel
theorem dL_law_426 : decode cL_law 426 = .ok (.iload_n 3, 1) := by decide +kernel
theorem dL_law_427 : decode cL_law 427 = .ok (.iconst 2, 1) := by decide +kernel
theorem dL_law_428 : decode cL_law 428 = .ok (.iadd, 1) := by decide +kernel
theorem dL_law_429 : decode cL_law 429 = .ok (.iaload, 1) := by decide +kernel
theorem dL_law_430 : decode cL_law 430 = .ok (.invokevirtual 58, 3) := by decide +kernel
theorem dL_law_433 : decode cL_law 433 = .ok (.if_icmp .eq 493, 3) := by decide +kernel
theorem dL_law_436 : decode cL_law 436 = .ok (.iconst 0, 1) := by decide +kernel
theorem dL_law_437 : decode cL_law 437 = .ok (.ireturn, 1) := by decide +kernel
theorem dL_law_438 : decode cL_law 438 = .ok (.aload_n 1, 1) := by decide +kernel
theorem dL_law_439 : decode cL_law 439 = .ok (.aload_n 0, 1) := by decide +kernel
theorem dL_law_440 : decode cL_law 440 = .ok (.iload_n 3, 1) := by decide +kernel
theorem dL_law_441 : decode cL_law 441 = .ok (.iconst 1, 1) := by decide +kernel
theorem dL_law_442 : decode cL_law 442 = .ok (.iadd, 1) := by decide +kernel
theorem dL_law_443 : decode cL_law 443 = .ok (.iaload, 1) := by decide +kernel
theorem dL_law_444 : decode cL_law 444 = .ok (.aload_n 0, 1) := by decide +kernel
theorem dL_law_445 : decode cL_law 445 = .ok (.iload_n 3, 1) := by decide +kernel
theorem dL_law_446 : decode cL_law 446 = .ok (.iconst 2, 1) := by decide +kernel
theorem dL_law_447 : decode cL_law 447 = .ok (.iadd, 1) := by decide +kernel
theorem dL_law_448 : decode cL_law 448 = .ok (.iaload, 1) := by decide +kernel
theorem dL_law_449 : decode cL_law 449 = .ok (.invokevirtual 59, 3) := by decide +kernel
theorem dL_law_452 : decode cL_law 452 = .ok (.aload_n 2, 1) := by decide +kernel
theorem dL_law_453 : decode cL_law 453 = .ok (.aload_n 0, 1) := by decide +kernel
theorem dL_law_454 : decode cL_law 454 = .ok (.iload_n 3, 1) := by decide +kernel
theorem dL_law_455 : decode cL_law 455 = .ok (.iconst 1, 1) := by decide +kernel
theorem dL_law_456 : decode cL_law 456 = .ok (.iadd, 1) := by decide +kernel
theorem dL_law_457 : decode cL_law 457 = .ok (.iaload, 1) := by decide +kernel
theorem dL_law_458 : decode cL_law 458 = .ok (.aload_n 0, 1) := by decide +kernel
theorem dL_law_459 : decode cL_law 459 = .ok (.iload_n 3, 1) := by decide +kernel
theorem dL_law_460 : decode cL_law 460 = .ok (.iconst 2, 1) := by decide +kernel
theorem dL_law_461 : decode cL_law 461 = .ok (.iadd, 1) := by decide +kernel
theorem dL_law_462 : decode cL_law 462 = .ok (.iaload, 1) := by decide +kernel
theorem dL_law_463 : decode cL_law 463 = .ok (.invokevirtual 62, 3) := by decide +kernel
theorem dL_law_466 : decode cL_law 466 = .ok (.if_icmp .eq 460, 3) := by decide +kernel
theorem dL_law_469 : decode cL_law 469 = .ok (.iconst 0, 1) := by decide +kernel
theorem dL_law_470 : decode cL_law 470 = .ok (.ireturn, 1) := by decide +kernel
theorem dL_law_471 : decode cL_law 471 = .ok (.aload_n 1, 1) := by decide +kernel
theorem dL_law_472 : decode cL_law 472 = .ok (.invokevirtual 63, 3) := by decide +kernel
theorem dL_law_475 : decode cL_law 475 = .ok (.aload_n 2, 1) := by decide +kernel
theorem dL_law_476 : decode cL_law 476 = .ok (.invokevirtual 66, 3) := by decide +kernel
theorem dL_law_479 : decode cL_law 479 = .ok (.if_icmp .eq 447, 3) := by decide +kernel
theorem dL_law_482 : decode cL_law 482 = .ok (.iconst 0, 1) := by decide +kernel
theorem dL_law_483 : decode cL_law 483 = .ok (.ireturn, 1) := by decide +kernel
theorem dL_law_484 : decode cL_law 484 = .ok (.aload_n 1, 1) := by decide +kernel
theorem dL_law_485 : decode cL_law 485 = .ok (.invokevirtual 67, 3) := by decide +kernel
theorem dL_law_488 : decode cL_law 488 = .ok (.aload_n 2, 1) := by decide +kernel
theorem dL_law_489 : decode cL_law 489 = .ok (.invokevirtual 70, 3) := by decide +kernel
theorem dL_law_492 : decode cL_law 492 = .ok (.if_icmp .eq 434, 3) := by decide +kernel
theorem dL_law_495 : decode cL_law 495 = .ok (.iconst 0, 1) := by decide +kernel
theorem dL_law_496 : decode cL_law 496 = .ok (.ireturn, 1) := by decide +kernel
theorem dL_law_497 : decode cL_law 497 = .ok (.aload_n 1, 1) := by decide +kernel
theorem dL_law_498 : decode cL_law 498 = .ok (.aload_n 0, 1) := by decide +kernel
theorem dL_law_499 : decode cL_law 499 = .ok (.iload_n 3, 1) := by decide +kernel
theorem dL_law_500 : decode cL_law 500 = .ok (.iconst 1, 1) := by decide +kernel
theorem dL_law_501 : decode cL_law 501 = .ok (.iadd, 1) := by decide +kernel
theorem dL_law_502 : decode cL_law 502 = .ok (.iaload, 1) := by decide +kernel
theorem dL_law_503 : decode cL_law 503 = .ok (.aload_n 0, 1) := by decide +kernel
theorem dL_law_504 : decode cL_law 504 = .ok (.iload_n 3, 1) := by decide +kernel
theorem dL_law_505 : decode cL_law 505 = .ok (.iconst 2, 1) := by decide +kernel
theorem dL_law_506 : decode cL_law 506 = .ok (.iadd, 1) := by decide +kernel
theorem dL_law_507 : decode cL_law 507 = .ok (.iaload, 1) := by decide +kernel
theorem dL_law_508 : decode cL_law 508 = .ok (.aload_n 0, 1) := by decide +kernel
theorem dL_law_509 : decode cL_law 509 = .ok (.iload_n 3, 1) := by decide +kernel
theorem dL_law_510 : decode cL_law 510 = .ok (.iconst 3, 1) := by decide +kernel
theorem dL_law_511 : decode cL_law 511 = .ok (.iadd, 1) := by decide +kernel
theorem dL_law_512 : decode cL_law 512 = .ok (.iaload, 1) := by decide +kernel
theorem dL_law_513 : decode cL_law 513 = .ok (.invokevirtual 71, 3) := by decide +kernel
theorem dL_law_516 : decode cL_law 516 = .ok (.aload_n 2, 1) := by decide +kernel
theorem dL_law_517 : decode cL_law 517 = .ok (.aload_n 0, 1) := by decide +kernel
theorem dL_law_518 : decode cL_law 518 = .ok (.iload_n 3, 1) := by decide +kernel
theorem dL_law_519 : decode cL_law 519 = .ok (.iconst 1, 1) := by decide +kernel
theorem dL_law_520 : decode cL_law 520 = .ok (.iadd, 1) := by decide +kernel
theorem dL_law_521 : decode cL_law 521 = .ok (.iaload, 1) := by decide +kernel
theorem dL_law_522 : decode cL_law 522 = .ok (.aload_n 0, 1) := by decide +kernel
theorem dL_law_523 : decode cL_law 523 = .ok (.iload_n 3, 1) := by decide +kernel
theorem dL_law_524 : decode cL_law 524 = .ok (.iconst 2, 1) := by decide +kernel
theorem dL_law_525 : decode cL_law 525 = .ok (.iadd, 1) := by decide +kernel
theorem dL_law_526 : decode cL_law 526 = .ok (.iaload, 1) := by decide +kernel
theorem dL_law_527 : decode cL_law 527 = .ok (.aload_n 0, 1) := by decide +kernel
theorem dL_law_528 : decode cL_law 528 = .ok (.iload_n 3, 1) := by decide +kernel
theorem dL_law_529 : decode cL_law 529 = .ok (.iconst 3, 1) := by decide +kernel
theorem dL_law_530 : decode cL_law 530 = .ok (.iadd, 1) := by decide +kernel
theorem dL_law_531 : decode cL_law 531 = .ok (.iaload, 1) := by decide +kernel
theorem dL_law_532 : decode cL_law 532 = .ok (.invokevirtual 75, 3) := by decide +kernel
theorem dL_law_535 : decode cL_law 535 = .ok (.if_icmp .eq 391, 3) := by decide +kernel
theorem dL_law_538 : decode cL_law 538 = .ok (.iconst 0, 1) := by decide +kernel
theorem dL_law_539 : decode cL_law 539 = .ok (.ireturn, 1) := by decide +kernel
theorem dL_law_540 : decode cL_law 540 = .ok (.aload_n 1, 1) := by decide +kernel
theorem dL_law_541 : decode cL_law 541 = .ok (.aload_n 0, 1) := by decide +kernel
theorem dL_law_542 : decode cL_law 542 = .ok (.iload_n 3, 1) := by decide +kernel
theorem dL_law_543 : decode cL_law 543 = .ok (.iconst 1, 1) := by decide +kernel
theorem dL_law_544 : decode cL_law 544 = .ok (.iadd, 1) := by decide +kernel
theorem dL_law_545 : decode cL_law 545 = .ok (.iaload, 1) := by decide +kernel
theorem dL_law_546 : decode cL_law 546 = .ok (.aload_n 0, 1) := by decide +kernel
theorem dL_law_547 : decode cL_law 547 = .ok (.iload_n 3, 1) := by decide +kernel
theorem dL_law_548 : decode cL_law 548 = .ok (.iconst 2, 1) := by decide +kernel
theorem dL_law_549 : decode cL_law 549 = .ok (.iadd, 1) := by decide +kernel
theorem dL_law_550 : decode cL_law 550 = .ok (.iaload, 1) := by decide +kernel
theorem dL_law_551 : decode cL_law 551 = .ok (.invokevirtual 76, 3) := by decide +kernel
theorem dL_law_554 : decode cL_law 554 = .ok (.aload_n 2, 1) := by decide +kernel
theorem dL_law_555 : decode cL_law 555 = .ok (.aload_n 0, 1) := by decide +kernel
theorem dL_law_556 : decode cL_law 556 = .ok (.iload_n 3, 1) := by decide +kernel
theorem dL_law_557 : decode cL_law 557 = .ok (.iconst 1, 1) := by decide +kernel
theorem dL_law_558 : decode cL_law 558 = .ok (.iadd, 1) := by decide +kernel
theorem dL_law_559 : decode cL_law 559 = .ok (.iaload, 1) := by decide +kernel
theorem dL_law_560 : decode cL_law 560 = .ok (.aload_n 0, 1) := by decide +kernel
theorem dL_law_561 : decode cL_law 561 = .ok (.iload_n 3, 1) := by decide +kernel
theorem dL_law_562 : decode cL_law 562 = .ok (.iconst 2, 1) := by decide +kernel
theorem dL_law_563 : decode cL_law 563 = .ok (.iadd, 1) := by decide +kernel
theorem dL_law_564 : decode cL_law 564 = .ok (.iaload, 1) := by decide +kernel
theorem dL_law_565 : decode cL_law 565 = .ok (.invokevirtual 79, 3) := by decide +kernel
theorem dL_law_568 : decode cL_law 568 = .ok (.if_icmp .eq 358, 3) := by decide +kernel
theorem dL_law_571 : decode cL_law 571 = .ok (.iconst 0, 1) := by decide +kernel
theorem dL_law_572 : decode cL_law 572 = .ok (.ireturn, 1) := by decide +kernel
theorem dL_law_573 : decode cL_law 573 = .ok (.aload_n 1, 1) := by decide +kernel
theorem dL_law_574 : decode cL_law 574 = .ok (.aload_n 0, 1) := by decide +kernel
theorem dL_law_575 : decode cL_law 575 = .ok (.iload_n 3, 1) := by decide +kernel
theorem dL_law_576 : decode cL_law 576 = .ok (.iconst 1, 1) := by decide +kernel
theorem dL_law_577 : decode cL_law 577 = .ok (.iadd, 1) := by decide +kernel
theorem dL_law_578 : decode cL_law 578 = .ok (.iaload, 1) := by decide +kernel
theorem dL_law_579 : decode cL_law 579 = .ok (.aload_n 0, 1) := by decide +kernel
theorem dL_law_580 : decode cL_law 580 = .ok (.iload_n 3, 1) := by decide +kernel
theorem dL_law_581 : decode cL_law 581 = .ok (.iconst 2, 1) := by decide +kernel
theorem dL_law_582 : decode cL_law 582 = .ok (.iadd, 1) := by decide +kernel
theorem dL_law_583 : decode cL_law 583 = .ok (.iaload, 1) := by decide +kernel
theorem dL_law_584 : decode cL_law 584 = .ok (.aload_n 0, 1) := by decide +kernel
theorem dL_law_585 : decode cL_law 585 = .ok (.iload_n 3, 1) := by decide +kernel
theorem dL_law_586 : decode cL_law 586 = .ok (.iconst 3, 1) := by decide +kernel
theorem dL_law_587 : decode cL_law 587 = .ok (.iadd, 1) := by decide +kernel
theorem dL_law_588 : decode cL_law 588 = .ok (.iaload, 1) := by decide +kernel
theorem dL_law_589 : decode cL_law 589 = .ok (.invokevirtual 80, 3) := by decide +kernel
theorem dL_law_592 : decode cL_law 592 = .ok (.aload_n 2, 1) := by decide +kernel
theorem dL_law_593 : decode cL_law 593 = .ok (.aload_n 0, 1) := by decide +kernel
theorem dL_law_594 : decode cL_law 594 = .ok (.iload_n 3, 1) := by decide +kernel
theorem dL_law_595 : decode cL_law 595 = .ok (.iconst 1, 1) := by decide +kernel
theorem dL_law_596 : decode cL_law 596 = .ok (.iadd, 1) := by decide +kernel
theorem dL_law_597 : decode cL_law 597 = .ok (.iaload, 1) := by decide +kernel
theorem dL_law_598 : decode cL_law 598 = .ok (.aload_n 0, 1) := by decide +kernel
theorem dL_law_599 : decode cL_law 599 = .ok (.iload_n 3, 1) := by decide +kernel
theorem dL_law_600 : decode cL_law 600 = .ok (.iconst 2, 1) := by decide +kernel
theorem dL_law_601 : decode cL_law 601 = .ok (.iadd, 1) := by decide +kernel
theorem dL_law_602 : decode cL_law 602 = .ok (.iaload, 1) := by decide +kernel
theorem dL_law_603 : decode cL_law 603 = .ok (.aload_n 0, 1) := by decide +kernel
theorem dL_law_604 : decode cL_law 604 = .ok (.iload_n 3, 1) := by decide +kernel
theorem dL_law_605 : decode cL_law 605 = .ok (.iconst 3, 1) := by decide +kernel
theorem dL_law_606 : decode cL_law 606 = .ok (.iadd, 1) := by decide +kernel
theorem dL_law_607 : decode cL_law 607 = .ok (.iaload, 1) := by decide +kernel
theorem dL_law_608 : decode cL_law 608 = .ok (.invokevirtual 83, 3) := by decide +kernel
theorem dL_law_611 : decode cL_law 611 = .ok (.if_icmp .eq 315, 3) := by decide +kernel
theorem dL_law_614 : decode cL_law 614 = .ok (.iconst 0, 1) := by decide +kernel
theorem dL_law_615 : decode cL_law 615 = .ok (.ireturn, 1) := by decide +kernel
theorem dL_law_616 : decode cL_law 616 = .ok (.aload_n 1, 1) := by decide +kernel
theorem dL_law_617 : decode cL_law 617 = .ok (.aload_n 0, 1) := by decide +kernel
theorem dL_law_618 : decode cL_law 618 = .ok (.iload_n 3, 1) := by decide +kernel
theorem dL_law_619 : decode cL_law 619 = .ok (.iconst 1, 1) := by decide +kernel
theorem dL_law_620 : decode cL_law 620 = .ok (.iadd, 1) := by decide +kernel
theorem dL_law_621 : decode cL_law 621 = .ok (.iaload, 1) := by decide +kernel
theorem dL_law_622 : decode cL_law 622 = .ok (.invokevirtual 84, 3) := by decide +kernel
theorem dL_law_625 : decode cL_law 625 = .ok (.aload_n 2, 1) := by decide +kernel
theorem dL_law_626 : decode cL_law 626 = .ok (.aload_n 0, 1) := by decide +kernel
theorem dL_law_627 : decode cL_law 627 = .ok (.iload_n 3, 1) := by decide +kernel
theorem dL_law_628 : decode cL_law 628 = .ok (.iconst 1, 1) := by decide +kernel
theorem dL_law_629 : decode cL_law 629 = .ok (.iadd, 1) := by decide +kernel
theorem dL_law_630 : decode cL_law 630 = .ok (.iaload, 1) := by decide +kernel
theorem dL_law_631 : decode cL_law 631 = .ok (.invokevirtual 87, 3) := by decide +kernel
theorem dL_law_634 : decode cL_law 634 = .ok (.if_icmp .eq 292, 3) := by decide +kernel
theorem dL_law_637 : decode cL_law 637 = .ok (.iconst 0, 1) := by decide +kernel
theorem dL_law_638 : decode cL_law 638 = .ok (.ireturn, 1) := by decide +kernel
theorem dL_law_639 : decode cL_law 639 = .ok (.aload_n 1, 1) := by decide +kernel
theorem dL_law_640 : decode cL_law 640 = .ok (.aload_n 0, 1) := by decide +kernel
theorem dL_law_641 : decode cL_law 641 = .ok (.iload_n 3, 1) := by decide +kernel
theorem dL_law_642 : decode cL_law 642 = .ok (.iconst 1, 1) := by decide +kernel
theorem dL_law_643 : decode cL_law 643 = .ok (.iadd, 1) := by decide +kernel
theorem dL_law_644 : decode cL_law 644 = .ok (.iaload, 1) := by decide +kernel
theorem dL_law_645 : decode cL_law 645 = .ok (.aload_n 0, 1) := by decide +kernel
theorem dL_law_646 : decode cL_law 646 = .ok (.iload_n 3, 1) := by decide +kernel
theorem dL_law_647 : decode cL_law 647 = .ok (.iconst 2, 1) := by decide +kernel
theorem dL_law_648 : decode cL_law 648 = .ok (.iadd, 1) := by decide +kernel
theorem dL_law_649 : decode cL_law 649 = .ok (.iaload, 1) := by decide +kernel
theorem dL_law_650 : decode cL_law 650 = .ok (.invokevirtual 88, 3) := by decide +kernel
theorem dL_law_653 : decode cL_law 653 = .ok (.aload_n 2, 1) := by decide +kernel
theorem dL_law_654 : decode cL_law 654 = .ok (.aload_n 0, 1) := by decide +kernel
theorem dL_law_655 : decode cL_law 655 = .ok (.iload_n 3, 1) := by decide +kernel
theorem dL_law_656 : decode cL_law 656 = .ok (.iconst 1, 1) := by decide +kernel
theorem dL_law_657 : decode cL_law 657 = .ok (.iadd, 1) := by decide +kernel
theorem dL_law_658 : decode cL_law 658 = .ok (.iaload, 1) := by decide +kernel
theorem dL_law_659 : decode cL_law 659 = .ok (.aload_n 0, 1) := by decide +kernel
theorem dL_law_660 : decode cL_law 660 = .ok (.iload_n 3, 1) := by decide +kernel
theorem dL_law_661 : decode cL_law 661 = .ok (.iconst 2, 1) := by decide +kernel
theorem dL_law_662 : decode cL_law 662 = .ok (.iadd, 1) := by decide +kernel
theorem dL_law_663 : decode cL_law 663 = .ok (.iaload, 1) := by decide +kernel
theorem dL_law_664 : decode cL_law 664 = .ok (.invokevirtual 91, 3) := by decide +kernel
theorem dL_law_667 : decode cL_law 667 = .ok (.if_icmp .eq 259, 3) := by decide +kernel
theorem dL_law_670 : decode cL_law 670 = .ok (.iconst 0, 1) := by decide +kernel
theorem dL_law_671 : decode cL_law 671 = .ok (.ireturn, 1) := by decide +kernel
theorem dL_law_672 : decode cL_law 672 = .ok (.aload_n 1, 1) := by decide +kernel
theorem dL_law_673 : decode cL_law 673 = .ok (.aload_n 0, 1) := by decide +kernel
theorem dL_law_674 : decode cL_law 674 = .ok (.iload_n 3, 1) := by decide +kernel
theorem dL_law_675 : decode cL_law 675 = .ok (.iconst 1, 1) := by decide +kernel
theorem dL_law_676 : decode cL_law 676 = .ok (.iadd, 1) := by decide +kernel
theorem dL_law_677 : decode cL_law 677 = .ok (.iaload, 1) := by decide +kernel
theorem dL_law_678 : decode cL_law 678 = .ok (.aload_n 0, 1) := by decide +kernel
theorem dL_law_679 : decode cL_law 679 = .ok (.iload_n 3, 1) := by decide +kernel
theorem dL_law_680 : decode cL_law 680 = .ok (.iconst 2, 1) := by decide +kernel
theorem dL_law_681 : decode cL_law 681 = .ok (.iadd, 1) := by decide +kernel
theorem dL_law_682 : decode cL_law 682 = .ok (.iaload, 1) := by decide +kernel
theorem dL_law_683 : decode cL_law 683 = .ok (.invokevirtual 92, 3) := by decide +kernel
theorem dL_law_686 : decode cL_law 686 = .ok (.aload_n 2, 1) := by decide +kernel
theorem dL_law_687 : decode cL_law 687 = .ok (.aload_n 0, 1) := by decide +kernel
theorem dL_law_688 : decode cL_law 688 = .ok (.iload_n 3, 1) := by decide +kernel
theorem dL_law_689 : decode cL_law 689 = .ok (.iconst 1, 1) := by decide +kernel
theorem dL_law_690 : decode cL_law 690 = .ok (.iadd, 1) := by decide +kernel
theorem dL_law_691 : decode cL_law 691 = .ok (.iaload, 1) := by decide +kernel
theorem dL_law_692 : decode cL_law 692 = .ok (.aload_n 0, 1) := by decide +kernel
theorem dL_law_693 : decode cL_law 693 = .ok (.iload_n 3, 1) := by decide +kernel
theorem dL_law_694 : decode cL_law 694 = .ok (.iconst 2, 1) := by decide +kernel
theorem dL_law_695 : decode cL_law 695 = .ok (.iadd, 1) := by decide +kernel
theorem dL_law_696 : decode cL_law 696 = .ok (.iaload, 1) := by decide +kernel
theorem dL_law_697 : decode cL_law 697 = .ok (.invokevirtual 95, 3) := by decide +kernel
theorem dL_law_700 : decode cL_law 700 = .ok (.if_icmp .eq 226, 3) := by decide +kernel
theorem dL_law_703 : decode cL_law 703 = .ok (.iconst 0, 1) := by decide +kernel
theorem dL_law_704 : decode cL_law 704 = .ok (.ireturn, 1) := by decide +kernel
theorem dL_law_705 : decode cL_law 705 = .ok (.aload_n 1, 1) := by decide +kernel
theorem dL_law_706 : decode cL_law 706 = .ok (.aload_n 0, 1) := by decide +kernel
theorem dL_law_707 : decode cL_law 707 = .ok (.iload_n 3, 1) := by decide +kernel
theorem dL_law_708 : decode cL_law 708 = .ok (.iconst 1, 1) := by decide +kernel
theorem dL_law_709 : decode cL_law 709 = .ok (.iadd, 1) := by decide +kernel
theorem dL_law_710 : decode cL_law 710 = .ok (.iaload, 1) := by decide +kernel
theorem dL_law_711 : decode cL_law 711 = .ok (.aload_n 0, 1) := by decide +kernel
theorem dL_law_712 : decode cL_law 712 = .ok (.iload_n 3, 1) := by decide +kernel
theorem dL_law_713 : decode cL_law 713 = .ok (.iconst 2, 1) := by decide +kernel
theorem dL_law_714 : decode cL_law 714 = .ok (.iadd, 1) := by decide +kernel
theorem dL_law_715 : decode cL_law 715 = .ok (.iaload, 1) := by decide +kernel
theorem dL_law_716 : decode cL_law 716 = .ok (.aload_n 0, 1) := by decide +kernel
theorem dL_law_717 : decode cL_law 717 = .ok (.iload_n 3, 1) := by decide +kernel
theorem dL_law_718 : decode cL_law 718 = .ok (.iconst 3, 1) := by decide +kernel
theorem dL_law_719 : decode cL_law 719 = .ok (.iadd, 1) := by decide +kernel
theorem dL_law_720 : decode cL_law 720 = .ok (.iaload, 1) := by decide +kernel
theorem dL_law_721 : decode cL_law 721 = .ok (.aload_n 0, 1) := by decide +kernel
theorem dL_law_722 : decode cL_law 722 = .ok (.iload_n 3, 1) := by decide +kernel
theorem dL_law_723 : decode cL_law 723 = .ok (.iconst 4, 1) := by decide +kernel
theorem dL_law_724 : decode cL_law 724 = .ok (.iadd, 1) := by decide +kernel
theorem dL_law_725 : decode cL_law 725 = .ok (.iaload, 1) := by decide +kernel
theorem dL_law_726 : decode cL_law 726 = .ok (.aload_n 0, 1) := by decide +kernel
theorem dL_law_727 : decode cL_law 727 = .ok (.iload_n 3, 1) := by decide +kernel
theorem dL_law_728 : decode cL_law 728 = .ok (.iconst 5, 1) := by decide +kernel
theorem dL_law_729 : decode cL_law 729 = .ok (.iadd, 1) := by decide +kernel
theorem dL_law_730 : decode cL_law 730 = .ok (.iaload, 1) := by decide +kernel
theorem dL_law_731 : decode cL_law 731 = .ok (.ifCond .eq 7, 3) := by decide +kernel
theorem dL_law_734 : decode cL_law 734 = .ok (.iconst 1, 1) := by decide +kernel
theorem dL_law_735 : decode cL_law 735 = .ok (.goto 4, 3) := by decide +kernel
theorem dL_law_738 : decode cL_law 738 = .ok (.iconst 0, 1) := by decide +kernel
theorem dL_law_739 : decode cL_law 739 = .ok (.invokevirtual 96, 3) := by decide +kernel
theorem dL_law_742 : decode cL_law 742 = .ok (.aload_n 2, 1) := by decide +kernel
theorem dL_law_743 : decode cL_law 743 = .ok (.aload_n 0, 1) := by decide +kernel
theorem dL_law_744 : decode cL_law 744 = .ok (.iload_n 3, 1) := by decide +kernel
theorem dL_law_745 : decode cL_law 745 = .ok (.iconst 1, 1) := by decide +kernel
theorem dL_law_746 : decode cL_law 746 = .ok (.iadd, 1) := by decide +kernel
theorem dL_law_747 : decode cL_law 747 = .ok (.iaload, 1) := by decide +kernel
theorem dL_law_748 : decode cL_law 748 = .ok (.aload_n 0, 1) := by decide +kernel
theorem dL_law_749 : decode cL_law 749 = .ok (.iload_n 3, 1) := by decide +kernel
theorem dL_law_750 : decode cL_law 750 = .ok (.iconst 2, 1) := by decide +kernel
theorem dL_law_751 : decode cL_law 751 = .ok (.iadd, 1) := by decide +kernel
theorem dL_law_752 : decode cL_law 752 = .ok (.iaload, 1) := by decide +kernel
theorem dL_law_753 : decode cL_law 753 = .ok (.aload_n 0, 1) := by decide +kernel
theorem dL_law_754 : decode cL_law 754 = .ok (.iload_n 3, 1) := by decide +kernel
theorem dL_law_755 : decode cL_law 755 = .ok (.iconst 3, 1) := by decide +kernel
theorem dL_law_756 : decode cL_law 756 = .ok (.iadd, 1) := by decide +kernel
theorem dL_law_757 : decode cL_law 757 = .ok (.iaload, 1) := by decide +kernel
theorem dL_law_758 : decode cL_law 758 = .ok (.aload_n 0, 1) := by decide +kernel
theorem dL_law_759 : decode cL_law 759 = .ok (.iload_n 3, 1) := by decide +kernel
theorem dL_law_760 : decode cL_law 760 = .ok (.iconst 4, 1) := by decide +kernel
theorem dL_law_761 : decode cL_law 761 = .ok (.iadd, 1) := by decide +kernel
theorem dL_law_762 : decode cL_law 762 = .ok (.iaload, 1) := by decide +kernel
theorem dL_law_763 : decode cL_law 763 = .ok (.aload_n 0, 1) := by decide +kernel
theorem dL_law_764 : decode cL_law 764 = .ok (.iload_n 3, 1) := by decide +kernel
theorem dL_law_765 : decode cL_law 765 = .ok (.iconst 5, 1) := by decide +kernel
theorem dL_law_766 : decode cL_law 766 = .ok (.iadd, 1) := by decide +kernel
theorem dL_law_767 : decode cL_law 767 = .ok (.iaload, 1) := by decide +kernel
theorem dL_law_768 : decode cL_law 768 = .ok (.ifCond .eq 7, 3) := by decide +kernel
theorem dL_law_771 : decode cL_law 771 = .ok (.iconst 1, 1) := by decide +kernel
theorem dL_law_772 : decode cL_law 772 = .ok (.goto 4, 3) := by decide +kernel
theorem dL_law_775 : decode cL_law 775 = .ok (.iconst 0, 1) := by decide +kernel
theorem dL_law_776 : decode cL_law 776 = .ok (.invokevirtual 100, 3) := by decide +kernel
theorem dL_law_779 : decode cL_law 779 = .ok (.lcmp, 1) := by decide +kernel
theorem dL_law_780 : decode cL_law 780 = .ok (.ifCond .eq 146, 3) := by decide +kernel
theorem dL_law_783 : decode cL_law 783 = .ok (.iconst 0, 1) := by decide +kernel
theorem dL_law_784 : decode cL_law 784 = .ok (.ireturn, 1) := by decide +kernel
theorem dL_law_785 : decode cL_law 785 = .ok (.aload_n 1, 1) := by decide +kernel
theorem dL_law_786 : decode cL_law 786 = .ok (.aload_n 0, 1) := by decide +kernel
theorem dL_law_787 : decode cL_law 787 = .ok (.iload_n 3, 1) := by decide +kernel
theorem dL_law_788 : decode cL_law 788 = .ok (.iconst 1, 1) := by decide +kernel
theorem dL_law_789 : decode cL_law 789 = .ok (.iadd, 1) := by decide +kernel
theorem dL_law_790 : decode cL_law 790 = .ok (.iaload, 1) := by decide +kernel
theorem dL_law_791 : decode cL_law 791 = .ok (.aload_n 0, 1) := by decide +kernel
theorem dL_law_792 : decode cL_law 792 = .ok (.iload_n 3, 1) := by decide +kernel
theorem dL_law_793 : decode cL_law 793 = .ok (.iconst 2, 1) := by decide +kernel
theorem dL_law_794 : decode cL_law 794 = .ok (.iadd, 1) := by decide +kernel
theorem dL_law_795 : decode cL_law 795 = .ok (.iaload, 1) := by decide +kernel
theorem dL_law_796 : decode cL_law 796 = .ok (.aload_n 0, 1) := by decide +kernel
theorem dL_law_797 : decode cL_law 797 = .ok (.iload_n 3, 1) := by decide +kernel
theorem dL_law_798 : decode cL_law 798 = .ok (.iconst 3, 1) := by decide +kernel
theorem dL_law_799 : decode cL_law 799 = .ok (.iadd, 1) := by decide +kernel
theorem dL_law_800 : decode cL_law 800 = .ok (.iaload, 1) := by decide +kernel
theorem dL_law_801 : decode cL_law 801 = .ok (.ifCond .eq 7, 3) := by decide +kernel
theorem dL_law_804 : decode cL_law 804 = .ok (.iconst 1, 1) := by decide +kernel
theorem dL_law_805 : decode cL_law 805 = .ok (.goto 4, 3) := by decide +kernel
theorem dL_law_808 : decode cL_law 808 = .ok (.iconst 0, 1) := by decide +kernel
theorem dL_law_809 : decode cL_law 809 = .ok (.invokevirtual 101, 3) := by decide +kernel
theorem dL_law_812 : decode cL_law 812 = .ok (.aload_n 2, 1) := by decide +kernel
theorem dL_law_813 : decode cL_law 813 = .ok (.aload_n 0, 1) := by decide +kernel
theorem dL_law_814 : decode cL_law 814 = .ok (.iload_n 3, 1) := by decide +kernel
theorem dL_law_815 : decode cL_law 815 = .ok (.iconst 1, 1) := by decide +kernel
theorem dL_law_816 : decode cL_law 816 = .ok (.iadd, 1) := by decide +kernel
theorem dL_law_817 : decode cL_law 817 = .ok (.iaload, 1) := by decide +kernel
theorem dL_law_818 : decode cL_law 818 = .ok (.aload_n 0, 1) := by decide +kernel
theorem dL_law_819 : decode cL_law 819 = .ok (.iload_n 3, 1) := by decide +kernel
theorem dL_law_820 : decode cL_law 820 = .ok (.iconst 2, 1) := by decide +kernel
theorem dL_law_821 : decode cL_law 821 = .ok (.iadd, 1) := by decide +kernel
theorem dL_law_822 : decode cL_law 822 = .ok (.iaload, 1) := by decide +kernel
theorem dL_law_823 : decode cL_law 823 = .ok (.aload_n 0, 1) := by decide +kernel
theorem dL_law_824 : decode cL_law 824 = .ok (.iload_n 3, 1) := by decide +kernel
theorem dL_law_825 : decode cL_law 825 = .ok (.iconst 3, 1) := by decide +kernel
theorem dL_law_826 : decode cL_law 826 = .ok (.iadd, 1) := by decide +kernel
theorem dL_law_827 : decode cL_law 827 = .ok (.iaload, 1) := by decide +kernel
theorem dL_law_828 : decode cL_law 828 = .ok (.ifCond .eq 7, 3) := by decide +kernel
theorem dL_law_831 : decode cL_law 831 = .ok (.iconst 1, 1) := by decide +kernel
theorem dL_law_832 : decode cL_law 832 = .ok (.goto 4, 3) := by decide +kernel
theorem dL_law_835 : decode cL_law 835 = .ok (.iconst 0, 1) := by decide +kernel
theorem dL_law_836 : decode cL_law 836 = .ok (.invokevirtual 105, 3) := by decide +kernel
theorem dL_law_839 : decode cL_law 839 = .ok (.if_icmp .eq 87, 3) := by decide +kernel
theorem dL_law_842 : decode cL_law 842 = .ok (.iconst 0, 1) := by decide +kernel
theorem dL_law_843 : decode cL_law 843 = .ok (.ireturn, 1) := by decide +kernel
theorem dL_law_844 : decode cL_law 844 = .ok (.aload_n 1, 1) := by decide +kernel
theorem dL_law_845 : decode cL_law 845 = .ok (.invokevirtual 106, 3) := by decide +kernel
theorem dL_law_848 : decode cL_law 848 = .ok (.aload_n 2, 1) := by decide +kernel
theorem dL_law_849 : decode cL_law 849 = .ok (.invokevirtual 109, 3) := by decide +kernel
theorem dL_law_852 : decode cL_law 852 = .ok (.if_icmp .eq 74, 3) := by decide +kernel
theorem dL_law_855 : decode cL_law 855 = .ok (.iconst 0, 1) := by decide +kernel
theorem dL_law_856 : decode cL_law 856 = .ok (.ireturn, 1) := by decide +kernel
theorem dL_law_857 : decode cL_law 857 = .ok (.aload_n 1, 1) := by decide +kernel
theorem dL_law_858 : decode cL_law 858 = .ok (.aload_n 0, 1) := by decide +kernel
theorem dL_law_859 : decode cL_law 859 = .ok (.iload_n 3, 1) := by decide +kernel
theorem dL_law_860 : decode cL_law 860 = .ok (.iconst 1, 1) := by decide +kernel
theorem dL_law_861 : decode cL_law 861 = .ok (.iadd, 1) := by decide +kernel
theorem dL_law_862 : decode cL_law 862 = .ok (.iaload, 1) := by decide +kernel
theorem dL_law_863 : decode cL_law 863 = .ok (.invokevirtual 110, 3) := by decide +kernel
theorem dL_law_866 : decode cL_law 866 = .ok (.aload_n 2, 1) := by decide +kernel
theorem dL_law_867 : decode cL_law 867 = .ok (.aload_n 0, 1) := by decide +kernel
theorem dL_law_868 : decode cL_law 868 = .ok (.iload_n 3, 1) := by decide +kernel
theorem dL_law_869 : decode cL_law 869 = .ok (.iconst 1, 1) := by decide +kernel
theorem dL_law_870 : decode cL_law 870 = .ok (.iadd, 1) := by decide +kernel
theorem dL_law_871 : decode cL_law 871 = .ok (.iaload, 1) := by decide +kernel
theorem dL_law_872 : decode cL_law 872 = .ok (.invokevirtual 113, 3) := by decide +kernel
theorem dL_law_875 : decode cL_law 875 = .ok (.if_icmp .eq 51, 3) := by decide +kernel
theorem dL_law_878 : decode cL_law 878 = .ok (.iconst 0, 1) := by decide +kernel
theorem dL_law_879 : decode cL_law 879 = .ok (.ireturn, 1) := by decide +kernel
theorem dL_law_880 : decode cL_law 880 = .ok (.aload_n 1, 1) := by decide +kernel
theorem dL_law_881 : decode cL_law 881 = .ok (.aload_n 0, 1) := by decide +kernel
theorem dL_law_882 : decode cL_law 882 = .ok (.iload_n 3, 1) := by decide +kernel
theorem dL_law_883 : decode cL_law 883 = .ok (.iconst 1, 1) := by decide +kernel
theorem dL_law_884 : decode cL_law 884 = .ok (.iadd, 1) := by decide +kernel
theorem dL_law_885 : decode cL_law 885 = .ok (.iaload, 1) := by decide +kernel
theorem dL_law_886 : decode cL_law 886 = .ok (.invokevirtual 114, 3) := by decide +kernel
theorem dL_law_889 : decode cL_law 889 = .ok (.aload_n 2, 1) := by decide +kernel
theorem dL_law_890 : decode cL_law 890 = .ok (.aload_n 0, 1) := by decide +kernel
