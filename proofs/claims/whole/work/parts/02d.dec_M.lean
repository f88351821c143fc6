theorem d_M_power_0 : decode b_M_power 0 = .ok (.aload_n 0, 1) := by decide +kernel
theorem d_M_power_1 : decode b_M_power 1 = .ok (.iconst 0, 1) := by decide +kernel
theorem d_M_power_2 : decode b_M_power 2 = .ok (.putfield 39, 3) := by decide +kernel
theorem d_M_power_5 : decode b_M_power 5 = .ok (.aload_n 0, 1) := by decide +kernel
theorem d_M_power_6 : decode b_M_power 6 = .ok (.iload_n 1, 1) := by decide +kernel
theorem d_M_power_7 : decode b_M_power 7 = .ok (.invokevirtual 176, 3) := by decide +kernel
theorem d_M_power_10 : decode b_M_power 10 = .ok (.ifCond .eq 61, 3) := by decide +kernel
theorem d_M_power_13 : decode b_M_power 13 = .ok (.aload_n 0, 1) := by decide +kernel
theorem d_M_power_14 : decode b_M_power 14 = .ok (.iload_n 2, 1) := by decide +kernel
theorem d_M_power_15 : decode b_M_power 15 = .ok (.invokevirtual 176, 3) := by decide +kernel
theorem d_M_power_18 : decode b_M_power 18 = .ok (.ifCond .eq 53, 3) := by decide +kernel
theorem d_M_power_21 : decode b_M_power 21 = .ok (.aload_n 0, 1) := by decide +kernel
theorem d_M_power_22 : decode b_M_power 22 = .ok (.iload_n 3, 1) := by decide +kernel
theorem d_M_power_23 : decode b_M_power 23 = .ok (.invokevirtual 176, 3) := by decide +kernel
theorem d_M_power_26 : decode b_M_power 26 = .ok (.ifCond .eq 45, 3) := by decide +kernel
theorem d_M_power_29 : decode b_M_power 29 = .ok (.iload 4, 2) := by decide +kernel
theorem d_M_power_31 : decode b_M_power 31 = .ok (.iconst 0, 1) := by decide +kernel
theorem d_M_power_32 : decode b_M_power 32 = .ok (.bipush 7, 2) := by decide +kernel
theorem d_M_power_34 : decode b_M_power 34 = .ok (.invokestatic 138, 3) := by decide +kernel
theorem d_M_power_37 : decode b_M_power 37 = .ok (.ifCond .eq 34, 3) := by decide +kernel
theorem d_M_power_40 : decode b_M_power 40 = .ok (.aload_n 0, 1) := by decide +kernel
theorem d_M_power_41 : decode b_M_power 41 = .ok (.getfield 16, 3) := by decide +kernel
theorem d_M_power_44 : decode b_M_power 44 = .ok (.iload_n 1, 1) := by decide +kernel
theorem d_M_power_45 : decode b_M_power 45 = .ok (.iaload, 1) := by decide +kernel
theorem d_M_power_46 : decode b_M_power 46 = .ok (.ifCond .ne 25, 3) := by decide +kernel
theorem d_M_power_49 : decode b_M_power 49 = .ok (.aload_n 0, 1) := by decide +kernel
theorem d_M_power_50 : decode b_M_power 50 = .ok (.getfield 16, 3) := by decide +kernel
theorem d_M_power_53 : decode b_M_power 53 = .ok (.iload_n 2, 1) := by decide +kernel
theorem d_M_power_54 : decode b_M_power 54 = .ok (.iaload, 1) := by decide +kernel
theorem d_M_power_55 : decode b_M_power 55 = .ok (.ifCond .ne 16, 3) := by decide +kernel
theorem d_M_power_58 : decode b_M_power 58 = .ok (.aload_n 0, 1) := by decide +kernel
theorem d_M_power_59 : decode b_M_power 59 = .ok (.getfield 16, 3) := by decide +kernel
theorem d_M_power_62 : decode b_M_power 62 = .ok (.iload_n 3, 1) := by decide +kernel
theorem d_M_power_63 : decode b_M_power 63 = .ok (.iaload, 1) := by decide +kernel
theorem d_M_power_64 : decode b_M_power 64 = .ok (.ifCond .ne 7, 3) := by decide +kernel
theorem d_M_power_67 : decode b_M_power 67 = .ok (.iconst 1, 1) := by decide +kernel
theorem d_M_power_68 : decode b_M_power 68 = .ok (.goto 4, 3) := by decide +kernel
theorem d_M_power_71 : decode b_M_power 71 = .ok (.iconst 0, 1) := by decide +kernel
theorem d_M_power_72 : decode b_M_power 72 = .ok (.istore 5, 2) := by decide +kernel
theorem d_M_power_74 : decode b_M_power 74 = .ok (.iload 5, 2) := by decide +kernel
theorem d_M_power_76 : decode b_M_power 76 = .ok (.ifCond .eq 33, 3) := by decide +kernel
theorem d_M_power_79 : decode b_M_power 79 = .ok (.aload_n 0, 1) := by decide +kernel
theorem d_M_power_80 : decode b_M_power 80 = .ok (.getfield 19, 3) := by decide +kernel
theorem d_M_power_83 : decode b_M_power 83 = .ok (.iload_n 3, 1) := by decide +kernel
theorem d_M_power_84 : decode b_M_power 84 = .ok (.baload, 1) := by decide +kernel
theorem d_M_power_85 : decode b_M_power 85 = .ok (.ifCond .ne 24, 3) := by decide +kernel
theorem d_M_power_88 : decode b_M_power 88 = .ok (.aload_n 0, 1) := by decide +kernel
theorem d_M_power_89 : decode b_M_power 89 = .ok (.iconst 2, 1) := by decide +kernel
theorem d_M_power_90 : decode b_M_power 90 = .ok (.iload_n 3, 1) := by decide +kernel
theorem d_M_power_91 : decode b_M_power 91 = .ok (.imul, 1) := by decide +kernel
theorem d_M_power_92 : decode b_M_power 92 = .ok (.invokevirtual 75, 3) := by decide +kernel
theorem d_M_power_95 : decode b_M_power 95 = .ok (.ifCond .ne 14, 3) := by decide +kernel
theorem d_M_power_98 : decode b_M_power 98 = .ok (.aload_n 0, 1) := by decide +kernel
theorem d_M_power_99 : decode b_M_power 99 = .ok (.iload_n 2, 1) := by decide +kernel
theorem d_M_power_100 : decode b_M_power 100 = .ok (.invokevirtual 173, 3) := by decide +kernel
theorem d_M_power_103 : decode b_M_power 103 = .ok (.sipush 1000, 3) := by decide +kernel
theorem d_M_power_106 : decode b_M_power 106 = .ok (.if_icmp .ne 9, 3) := by decide +kernel
theorem d_M_power_109 : decode b_M_power 109 = .ok (.aload_n 0, 1) := by decide +kernel
theorem d_M_power_110 : decode b_M_power 110 = .ok (.iconst 1, 1) := by decide +kernel
theorem d_M_power_111 : decode b_M_power 111 = .ok (.invokevirtual 135, 3) := by decide +kernel
theorem d_M_power_114 : decode b_M_power 114 = .ok (.ireturn, 1) := by decide +kernel
theorem d_M_power_115 : decode b_M_power 115 = .ok (.aload_n 0, 1) := by decide +kernel
theorem d_M_power_116 : decode b_M_power 116 = .ok (.iconst 2, 1) := by decide +kernel
theorem d_M_power_117 : decode b_M_power 117 = .ok (.iload_n 3, 1) := by decide +kernel
theorem d_M_power_118 : decode b_M_power 118 = .ok (.imul, 1) := by decide +kernel
theorem d_M_power_119 : decode b_M_power 119 = .ok (.bipush 30, 2) := by decide +kernel
theorem d_M_power_121 : decode b_M_power 121 = .ok (.invokevirtual 58, 3) := by decide +kernel
theorem d_M_power_124 : decode b_M_power 124 = .ok (.aload_n 0, 1) := by decide +kernel
theorem d_M_power_125 : decode b_M_power 125 = .ok (.iconst 2, 1) := by decide +kernel
theorem d_M_power_126 : decode b_M_power 126 = .ok (.iload_n 1, 1) := by decide +kernel
theorem d_M_power_127 : decode b_M_power 127 = .ok (.imul, 1) := by decide +kernel
theorem d_M_power_128 : decode b_M_power 128 = .ok (.bipush 16, 2) := by decide +kernel
theorem d_M_power_130 : decode b_M_power 130 = .ok (.invokevirtual 58, 3) := by decide +kernel
theorem d_M_power_133 : decode b_M_power 133 = .ok (.aload_n 0, 1) := by decide +kernel
theorem d_M_power_134 : decode b_M_power 134 = .ok (.bipush 16, 2) := by decide +kernel
theorem d_M_power_136 : decode b_M_power 136 = .ok (.aload_n 0, 1) := by decide +kernel
theorem d_M_power_137 : decode b_M_power 137 = .ok (.getfield 19, 3) := by decide +kernel
theorem d_M_power_140 : decode b_M_power 140 = .ok (.iload_n 1, 1) := by decide +kernel
theorem d_M_power_141 : decode b_M_power 141 = .ok (.baload, 1) := by decide +kernel
theorem d_M_power_142 : decode b_M_power 142 = .ok (.invokevirtual 214, 3) := by decide +kernel
theorem d_M_power_145 : decode b_M_power 145 = .ok (.aload_n 0, 1) := by decide +kernel
theorem d_M_power_146 : decode b_M_power 146 = .ok (.iload_n 2, 1) := by decide +kernel
theorem d_M_power_147 : decode b_M_power 147 = .ok (.invokevirtual 173, 3) := by decide +kernel
theorem d_M_power_150 : decode b_M_power 150 = .ok (.istore 6, 2) := by decide +kernel
theorem d_M_power_152 : decode b_M_power 152 = .ok (.iload 6, 2) := by decide +kernel
theorem d_M_power_154 : decode b_M_power 154 = .ok (.ifCond .ge 16, 3) := by decide +kernel
theorem d_M_power_157 : decode b_M_power 157 = .ok (.aload_n 0, 1) := by decide +kernel
theorem d_M_power_158 : decode b_M_power 158 = .ok (.invokevirtual 218, 3) := by decide +kernel
theorem d_M_power_161 : decode b_M_power 161 = .ok (.ifCond .ne 9, 3) := by decide +kernel
theorem d_M_power_164 : decode b_M_power 164 = .ok (.aload_n 0, 1) := by decide +kernel
theorem d_M_power_165 : decode b_M_power 165 = .ok (.iconst 2, 1) := by decide +kernel
theorem d_M_power_166 : decode b_M_power 166 = .ok (.invokevirtual 135, 3) := by decide +kernel
theorem d_M_power_169 : decode b_M_power 169 = .ok (.ireturn, 1) := by decide +kernel
theorem d_M_power_170 : decode b_M_power 170 = .ok (.iload 6, 2) := by decide +kernel
theorem d_M_power_172 : decode b_M_power 172 = .ok (.ifCond .ge 9, 3) := by decide +kernel
theorem d_M_power_175 : decode b_M_power 175 = .ok (.iload 6, 2) := by decide +kernel
theorem d_M_power_177 : decode b_M_power 177 = .ok (.ineg, 1) := by decide +kernel
theorem d_M_power_178 : decode b_M_power 178 = .ok (.goto 5, 3) := by decide +kernel
theorem d_M_power_181 : decode b_M_power 181 = .ok (.iload 6, 2) := by decide +kernel
theorem d_M_power_183 : decode b_M_power 183 = .ok (.istore 6, 2) := by decide +kernel
theorem d_M_power_185 : decode b_M_power 185 = .ok (.aload_n 0, 1) := by decide +kernel
theorem d_M_power_186 : decode b_M_power 186 = .ok (.bipush 20, 2) := by decide +kernel
theorem d_M_power_188 : decode b_M_power 188 = .ok (.lconst 1, 1) := by decide +kernel
theorem d_M_power_189 : decode b_M_power 189 = .ok (.invokevirtual 82, 3) := by decide +kernel
theorem d_M_power_192 : decode b_M_power 192 = .ok (.aload_n 0, 1) := by decide +kernel
theorem d_M_power_193 : decode b_M_power 193 = .ok (.bipush 20, 2) := by decide +kernel
theorem d_M_power_195 : decode b_M_power 195 = .ok (.iconst 0, 1) := by decide +kernel
theorem d_M_power_196 : decode b_M_power 196 = .ok (.invokevirtual 214, 3) := by decide +kernel
theorem d_M_power_199 : decode b_M_power 199 = .ok (.bipush 9, 2) := by decide +kernel
theorem d_M_power_201 : decode b_M_power 201 = .ok (.istore 7, 2) := by decide +kernel
theorem d_M_power_203 : decode b_M_power 203 = .ok (.iload 7, 2) := by decide +kernel
theorem d_M_power_205 : decode b_M_power 205 = .ok (.ifCond .lt 72, 3) := by decide +kernel
theorem d_M_power_208 : decode b_M_power 208 = .ok (.aload_n 0, 1) := by decide +kernel
theorem d_M_power_209 : decode b_M_power 209 = .ok (.bipush 20, 2) := by decide +kernel
theorem d_M_power_211 : decode b_M_power 211 = .ok (.bipush 20, 2) := by decide +kernel
theorem d_M_power_213 : decode b_M_power 213 = .ok (.bipush 22, 2) := by decide +kernel
theorem d_M_power_215 : decode b_M_power 215 = .ok (.invokevirtual 146, 3) := by decide +kernel
theorem d_M_power_218 : decode b_M_power 218 = .ok (.aload_n 0, 1) := by decide +kernel
theorem d_M_power_219 : decode b_M_power 219 = .ok (.bipush 22, 2) := by decide +kernel
theorem d_M_power_221 : decode b_M_power 221 = .ok (.iconst 0, 1) := by decide +kernel
theorem d_M_power_222 : decode b_M_power 222 = .ok (.invokevirtual 214, 3) := by decide +kernel
theorem d_M_power_225 : decode b_M_power 225 = .ok (.aload_n 0, 1) := by decide +kernel
theorem d_M_power_226 : decode b_M_power 226 = .ok (.bipush 22, 2) := by decide +kernel
theorem d_M_power_228 : decode b_M_power 228 = .ok (.bipush 20, 2) := by decide +kernel
theorem d_M_power_230 : decode b_M_power 230 = .ok (.invokevirtual 58, 3) := by decide +kernel
theorem d_M_power_233 : decode b_M_power 233 = .ok (.iload 6, 2) := by decide +kernel
theorem d_M_power_235 : decode b_M_power 235 = .ok (.iload 7, 2) := by decide +kernel
theorem d_M_power_237 : decode b_M_power 237 = .ok (.ishr, 1) := by decide +kernel
theorem d_M_power_238 : decode b_M_power 238 = .ok (.iconst 1, 1) := by decide +kernel
theorem d_M_power_239 : decode b_M_power 239 = .ok (.iand, 1) := by decide +kernel
theorem d_M_power_240 : decode b_M_power 240 = .ok (.ifCond .ne 6, 3) := by decide +kernel
theorem d_M_power_243 : decode b_M_power 243 = .ok (.goto 28, 3) := by decide +kernel
theorem d_M_power_246 : decode b_M_power 246 = .ok (.aload_n 0, 1) := by decide +kernel
theorem d_M_power_247 : decode b_M_power 247 = .ok (.bipush 20, 2) := by decide +kernel
theorem d_M_power_249 : decode b_M_power 249 = .ok (.bipush 16, 2) := by decide +kernel
theorem d_M_power_251 : decode b_M_power 251 = .ok (.bipush 22, 2) := by decide +kernel
theorem d_M_power_253 : decode b_M_power 253 = .ok (.invokevirtual 146, 3) := by decide +kernel
theorem d_M_power_256 : decode b_M_power 256 = .ok (.aload_n 0, 1) := by decide +kernel
theorem d_M_power_257 : decode b_M_power 257 = .ok (.bipush 22, 2) := by decide +kernel
theorem d_M_power_259 : decode b_M_power 259 = .ok (.iconst 0, 1) := by decide +kernel
theorem d_M_power_260 : decode b_M_power 260 = .ok (.invokevirtual 214, 3) := by decide +kernel
theorem d_M_power_263 : decode b_M_power 263 = .ok (.aload_n 0, 1) := by decide +kernel
theorem d_M_power_264 : decode b_M_power 264 = .ok (.bipush 22, 2) := by decide +kernel
theorem d_M_power_266 : decode b_M_power 266 = .ok (.bipush 20, 2) := by decide +kernel
theorem d_M_power_268 : decode b_M_power 268 = .ok (.invokevirtual 58, 3) := by decide +kernel
theorem d_M_power_271 : decode b_M_power 271 = .ok (.iinc 7 (-1), 3) := by decide +kernel
theorem d_M_power_274 : decode b_M_power 274 = .ok (.goto (-71), 3) := by decide +kernel
theorem d_M_power_277 : decode b_M_power 277 = .ok (.aload_n 0, 1) := by decide +kernel
theorem d_M_power_278 : decode b_M_power 278 = .ok (.bipush 21, 2) := by decide +kernel
theorem d_M_power_280 : decode b_M_power 280 = .ok (.lconst 1, 1) := by decide +kernel
theorem d_M_power_281 : decode b_M_power 281 = .ok (.invokevirtual 82, 3) := by decide +kernel
theorem d_M_power_284 : decode b_M_power 284 = .ok (.aload_n 0, 1) := by decide +kernel
theorem d_M_power_285 : decode b_M_power 285 = .ok (.iconst 0, 1) := by decide +kernel
theorem d_M_power_286 : decode b_M_power 286 = .ok (.putfield 129, 3) := by decide +kernel
theorem d_M_power_289 : decode b_M_power 289 = .ok (.aload_n 0, 1) := by decide +kernel
theorem d_M_power_290 : decode b_M_power 290 = .ok (.iconst 0, 1) := by decide +kernel
theorem d_M_power_291 : decode b_M_power 291 = .ok (.iload 4, 2) := by decide +kernel
theorem d_M_power_293 : decode b_M_power 293 = .ok (.iconst 2, 1) := by decide +kernel
theorem d_M_power_294 : decode b_M_power 294 = .ok (.invokevirtual 142, 3) := by decide +kernel
theorem d_M_power_297 : decode b_M_power 297 = .ok (.ireturn, 1) := by decide +kernel
theorem d_M_inverted_0 : decode b_M_inverted 0 = .ok (.aload_n 0, 1) := by decide +kernel
theorem d_M_inverted_1 : decode b_M_inverted 1 = .ok (.bipush 30, 2) := by decide +kernel
theorem d_M_inverted_3 : decode b_M_inverted 3 = .ok (.bipush 31, 2) := by decide +kernel
theorem d_M_inverted_5 : decode b_M_inverted 5 = .ok (.invokevirtual 58, 3) := by decide +kernel
theorem d_M_inverted_8 : decode b_M_inverted 8 = .ok (.aload_n 0, 1) := by decide +kernel
theorem d_M_inverted_9 : decode b_M_inverted 9 = .ok (.bipush 16, 2) := by decide +kernel
theorem d_M_inverted_11 : decode b_M_inverted 11 = .ok (.bipush 28, 2) := by decide +kernel
theorem d_M_inverted_13 : decode b_M_inverted 13 = .ok (.invokevirtual 58, 3) := by decide +kernel
theorem d_M_inverted_16 : decode b_M_inverted 16 = .ok (.aload_n 0, 1) := by decide +kernel
theorem d_M_inverted_17 : decode b_M_inverted 17 = .ok (.getfield 13, 3) := by decide +kernel
theorem d_M_inverted_20 : decode b_M_inverted 20 = .ok (.bipush 18, 2) := by decide +kernel
theorem d_M_inverted_22 : decode b_M_inverted 22 = .ok (.iconst 0, 1) := by decide +kernel
theorem d_M_inverted_23 : decode b_M_inverted 23 = .ok (.iastore, 1) := by decide +kernel
theorem d_M_inverted_24 : decode b_M_inverted 24 = .ok (.aload_n 0, 1) := by decide +kernel
theorem d_M_inverted_25 : decode b_M_inverted 25 = .ok (.bipush 19, 2) := by decide +kernel
theorem d_M_inverted_27 : decode b_M_inverted 27 = .ok (.lconst 1, 1) := by decide +kernel
theorem d_M_inverted_28 : decode b_M_inverted 28 = .ok (.invokevirtual 82, 3) := by decide +kernel
theorem d_M_inverted_31 : decode b_M_inverted 31 = .ok (.aload_n 0, 1) := by decide +kernel
theorem d_M_inverted_32 : decode b_M_inverted 32 = .ok (.bipush 19, 2) := by decide +kernel
theorem d_M_inverted_34 : decode b_M_inverted 34 = .ok (.iconst 0, 1) := by decide +kernel
theorem d_M_inverted_35 : decode b_M_inverted 35 = .ok (.invokevirtual 214, 3) := by decide +kernel
theorem d_M_inverted_38 : decode b_M_inverted 38 = .ok (.aload_n 0, 1) := by decide +kernel
theorem d_M_inverted_39 : decode b_M_inverted 39 = .ok (.bipush 28, 2) := by decide +kernel
theorem d_M_inverted_41 : decode b_M_inverted 41 = .ok (.invokevirtual 75, 3) := by decide +kernel
theorem d_M_inverted_44 : decode b_M_inverted 44 = .ok (.ifCond .ne 80, 3) := by decide +kernel
theorem d_M_inverted_47 : decode b_M_inverted 47 = .ok (.aload_n 0, 1) := by decide +kernel
theorem d_M_inverted_48 : decode b_M_inverted 48 = .ok (.bipush 31, 2) := by decide +kernel
theorem d_M_inverted_50 : decode b_M_inverted 50 = .ok (.bipush 28, 2) := by decide +kernel
theorem d_M_inverted_52 : decode b_M_inverted 52 = .ok (.invokevirtual 79, 3) := by decide +kernel
theorem d_M_inverted_55 : decode b_M_inverted 55 = .ok (.aload_n 0, 1) := by decide +kernel
theorem d_M_inverted_56 : decode b_M_inverted 56 = .ok (.bipush 28, 2) := by decide +kernel
theorem d_M_inverted_58 : decode b_M_inverted 58 = .ok (.bipush 31, 2) := by decide +kernel
theorem d_M_inverted_60 : decode b_M_inverted 60 = .ok (.invokevirtual 58, 3) := by decide +kernel
theorem d_M_inverted_63 : decode b_M_inverted 63 = .ok (.aload_n 0, 1) := by decide +kernel
theorem d_M_inverted_64 : decode b_M_inverted 64 = .ok (.bipush 25, 2) := by decide +kernel
theorem d_M_inverted_66 : decode b_M_inverted 66 = .ok (.bipush 28, 2) := by decide +kernel
theorem d_M_inverted_68 : decode b_M_inverted 68 = .ok (.invokevirtual 58, 3) := by decide +kernel
theorem d_M_inverted_71 : decode b_M_inverted 71 = .ok (.aload_n 0, 1) := by decide +kernel
theorem d_M_inverted_72 : decode b_M_inverted 72 = .ok (.bipush 24, 2) := by decide +kernel
theorem d_M_inverted_74 : decode b_M_inverted 74 = .ok (.bipush 19, 2) := by decide +kernel
theorem d_M_inverted_76 : decode b_M_inverted 76 = .ok (.bipush 22, 2) := by decide +kernel
theorem d_M_inverted_78 : decode b_M_inverted 78 = .ok (.invokevirtual 146, 3) := by decide +kernel
theorem d_M_inverted_81 : decode b_M_inverted 81 = .ok (.aload_n 0, 1) := by decide +kernel
theorem d_M_inverted_82 : decode b_M_inverted 82 = .ok (.bipush 22, 2) := by decide +kernel
theorem d_M_inverted_84 : decode b_M_inverted 84 = .ok (.iconst 1, 1) := by decide +kernel
theorem d_M_inverted_85 : decode b_M_inverted 85 = .ok (.invokevirtual 214, 3) := by decide +kernel
theorem d_M_inverted_88 : decode b_M_inverted 88 = .ok (.aload_n 0, 1) := by decide +kernel
theorem d_M_inverted_89 : decode b_M_inverted 89 = .ok (.bipush 22, 2) := by decide +kernel
theorem d_M_inverted_91 : decode b_M_inverted 91 = .ok (.bipush 18, 2) := by decide +kernel
theorem d_M_inverted_93 : decode b_M_inverted 93 = .ok (.bipush 22, 2) := by decide +kernel
theorem d_M_inverted_95 : decode b_M_inverted 95 = .ok (.invokevirtual 155, 3) := by decide +kernel
theorem d_M_inverted_98 : decode b_M_inverted 98 = .ok (.aload_n 0, 1) := by decide +kernel
theorem d_M_inverted_99 : decode b_M_inverted 99 = .ok (.bipush 22, 2) := by decide +kernel
theorem d_M_inverted_101 : decode b_M_inverted 101 = .ok (.iconst 0, 1) := by decide +kernel
theorem d_M_inverted_102 : decode b_M_inverted 102 = .ok (.invokevirtual 214, 3) := by decide +kernel
theorem d_M_inverted_105 : decode b_M_inverted 105 = .ok (.aload_n 0, 1) := by decide +kernel
theorem d_M_inverted_106 : decode b_M_inverted 106 = .ok (.bipush 19, 2) := by decide +kernel
theorem d_M_inverted_108 : decode b_M_inverted 108 = .ok (.bipush 18, 2) := by decide +kernel
theorem d_M_inverted_110 : decode b_M_inverted 110 = .ok (.invokevirtual 58, 3) := by decide +kernel
theorem d_M_inverted_113 : decode b_M_inverted 113 = .ok (.aload_n 0, 1) := by decide +kernel
theorem d_M_inverted_114 : decode b_M_inverted 114 = .ok (.bipush 22, 2) := by decide +kernel
theorem d_M_inverted_116 : decode b_M_inverted 116 = .ok (.bipush 19, 2) := by decide +kernel
theorem d_M_inverted_118 : decode b_M_inverted 118 = .ok (.invokevirtual 58, 3) := by decide +kernel
theorem d_M_inverted_121 : decode b_M_inverted 121 = .ok (.goto (-83), 3) := by decide +kernel
theorem d_M_inverted_124 : decode b_M_inverted 124 = .ok (.aload_n 0, 1) := by decide +kernel
theorem d_M_inverted_125 : decode b_M_inverted 125 = .ok (.bipush 18, 2) := by decide +kernel
theorem d_M_inverted_127 : decode b_M_inverted 127 = .ok (.bipush 16, 2) := by decide +kernel
theorem d_M_inverted_129 : decode b_M_inverted 129 = .ok (.invokevirtual 58, 3) := by decide +kernel
theorem d_M_inverted_132 : decode b_M_inverted 132 = .ok (.aload_n 0, 1) := by decide +kernel
theorem d_M_inverted_133 : decode b_M_inverted 133 = .ok (.bipush 32, 2) := by decide +kernel
theorem d_M_inverted_135 : decode b_M_inverted 135 = .ok (.lconst 1, 1) := by decide +kernel
theorem d_M_inverted_136 : decode b_M_inverted 136 = .ok (.invokevirtual 82, 3) := by decide +kernel
theorem d_M_inverted_139 : decode b_M_inverted 139 = .ok (.aload_n 0, 1) := by decide +kernel
theorem d_M_inverted_140 : decode b_M_inverted 140 = .ok (.bipush 31, 2) := by decide +kernel
theorem d_M_inverted_142 : decode b_M_inverted 142 = .ok (.bipush 32, 2) := by decide +kernel
theorem d_M_inverted_144 : decode b_M_inverted 144 = .ok (.invokevirtual 105, 3) := by decide +kernel
theorem d_M_inverted_147 : decode b_M_inverted 147 = .ok (.ifCond .ne 7, 3) := by decide +kernel
theorem d_M_inverted_150 : decode b_M_inverted 150 = .ok (.iconst 1, 1) := by decide +kernel
theorem d_M_inverted_151 : decode b_M_inverted 151 = .ok (.goto 4, 3) := by decide +kernel
theorem d_M_inverted_154 : decode b_M_inverted 154 = .ok (.iconst 0, 1) := by decide +kernel
theorem d_M_inverted_155 : decode b_M_inverted 155 = .ok (.ireturn, 1) := by decide +kernel
theorem d_M_twice_0 : decode b_M_twice 0 = .ok (.lload_n 0, 1) := by decide +kernel
theorem d_M_twice_1 : decode b_M_twice 1 = .ok (.lload_n 0, 1) := by decide +kernel
theorem d_M_twice_2 : decode b_M_twice 2 = .ok (.ladd, 1) := by decide +kernel
theorem d_M_twice_3 : decode b_M_twice 3 = .ok (.lstore_n 2, 1) := by decide +kernel
theorem d_M_twice_4 : decode b_M_twice 4 = .ok (.lload_n 2, 1) := by decide +kernel
theorem d_M_twice_5 : decode b_M_twice 5 = .ok (.ldc2_w 222, 3) := by decide +kernel
theorem d_M_twice_8 : decode b_M_twice 8 = .ok (.lcmp, 1) := by decide +kernel
theorem d_M_twice_9 : decode b_M_twice 9 = .ok (.ifCond .lt 11, 3) := by decide +kernel
theorem d_M_twice_12 : decode b_M_twice 12 = .ok (.lload_n 2, 1) := by decide +kernel
theorem d_M_twice_13 : decode b_M_twice 13 = .ok (.ldc2_w 222, 3) := by decide +kernel
theorem d_M_twice_16 : decode b_M_twice 16 = .ok (.lsub, 1) := by decide +kernel
theorem d_M_twice_17 : decode b_M_twice 17 = .ok (.goto 4, 3) := by decide +kernel
theorem d_M_twice_20 : decode b_M_twice 20 = .ok (.lload_n 2, 1) := by decide +kernel
theorem d_M_twice_21 : decode b_M_twice 21 = .ok (.lreturn, 1) := by decide +kernel
theorem d_M_multiplied_0 : decode b_M_multiplied 0 = .ok (.lconst 0, 1) := by decide +kernel
theorem d_M_multiplied_1 : decode b_M_multiplied 1 = .ok (.lstore 4, 2) := by decide +kernel
theorem d_M_multiplied_3 : decode b_M_multiplied 3 = .ok (.bipush 60, 2) := by decide +kernel
theorem d_M_multiplied_5 : decode b_M_multiplied 5 = .ok (.istore 6, 2) := by decide +kernel
theorem d_M_multiplied_7 : decode b_M_multiplied 7 = .ok (.iload 6, 2) := by decide +kernel
theorem d_M_multiplied_9 : decode b_M_multiplied 9 = .ok (.ifCond .lt 58, 3) := by decide +kernel
theorem d_M_multiplied_12 : decode b_M_multiplied 12 = .ok (.lload 4, 2) := by decide +kernel
theorem d_M_multiplied_14 : decode b_M_multiplied 14 = .ok (.invokestatic 224, 3) := by decide +kernel
theorem d_M_multiplied_17 : decode b_M_multiplied 17 = .ok (.lstore 4, 2) := by decide +kernel
theorem d_M_multiplied_19 : decode b_M_multiplied 19 = .ok (.lload_n 2, 1) := by decide +kernel
theorem d_M_multiplied_20 : decode b_M_multiplied 20 = .ok (.iload 6, 2) := by decide +kernel
theorem d_M_multiplied_22 : decode b_M_multiplied 22 = .ok (.lshr, 1) := by decide +kernel
theorem d_M_multiplied_23 : decode b_M_multiplied 23 = .ok (.lconst 1, 1) := by decide +kernel
theorem d_M_multiplied_24 : decode b_M_multiplied 24 = .ok (.land, 1) := by decide +kernel
theorem d_M_multiplied_25 : decode b_M_multiplied 25 = .ok (.lconst 0, 1) := by decide +kernel
theorem d_M_multiplied_26 : decode b_M_multiplied 26 = .ok (.lcmp, 1) := by decide +kernel
theorem d_M_multiplied_27 : decode b_M_multiplied 27 = .ok (.ifCond .ne 6, 3) := by decide +kernel
theorem d_M_multiplied_30 : decode b_M_multiplied 30 = .ok (.goto 31, 3) := by decide +kernel
theorem d_M_multiplied_33 : decode b_M_multiplied 33 = .ok (.lload 4, 2) := by decide +kernel
theorem d_M_multiplied_35 : decode b_M_multiplied 35 = .ok (.lload_n 0, 1) := by decide +kernel
theorem d_M_multiplied_36 : decode b_M_multiplied 36 = .ok (.ladd, 1) := by decide +kernel
theorem d_M_multiplied_37 : decode b_M_multiplied 37 = .ok (.lstore 4, 2) := by decide +kernel
theorem d_M_multiplied_39 : decode b_M_multiplied 39 = .ok (.lload 4, 2) := by decide +kernel
theorem d_M_multiplied_41 : decode b_M_multiplied 41 = .ok (.ldc2_w 222, 3) := by decide +kernel
theorem d_M_multiplied_44 : decode b_M_multiplied 44 = .ok (.lcmp, 1) := by decide +kernel
theorem d_M_multiplied_45 : decode b_M_multiplied 45 = .ok (.ifCond .lt 12, 3) := by decide +kernel
theorem d_M_multiplied_48 : decode b_M_multiplied 48 = .ok (.lload 4, 2) := by decide +kernel
theorem d_M_multiplied_50 : decode b_M_multiplied 50 = .ok (.ldc2_w 222, 3) := by decide +kernel
theorem d_M_multiplied_53 : decode b_M_multiplied 53 = .ok (.lsub, 1) := by decide +kernel
theorem d_M_multiplied_54 : decode b_M_multiplied 54 = .ok (.goto 5, 3) := by decide +kernel
theorem d_M_multiplied_57 : decode b_M_multiplied 57 = .ok (.lload 4, 2) := by decide +kernel
theorem d_M_multiplied_59 : decode b_M_multiplied 59 = .ok (.lstore 4, 2) := by decide +kernel
theorem d_M_multiplied_61 : decode b_M_multiplied 61 = .ok (.iinc 6 (-1), 3) := by decide +kernel
theorem d_M_multiplied_64 : decode b_M_multiplied 64 = .ok (.goto (-57), 3) := by decide +kernel
theorem d_M_multiplied_67 : decode b_M_multiplied 67 = .ok (.lload 4, 2) := by decide +kernel
theorem d_M_multiplied_69 : decode b_M_multiplied 69 = .ok (.lreturn, 1) := by decide +kernel
theorem d_M_modulo_0 : decode b_M_modulo 0 = .ok (.lconst 0, 1) := by decide +kernel
theorem d_M_modulo_1 : decode b_M_modulo 1 = .ok (.lstore_n 2, 1) := by decide +kernel
theorem d_M_modulo_2 : decode b_M_modulo 2 = .ok (.aload_n 0, 1) := by decide +kernel
theorem d_M_modulo_3 : decode b_M_modulo 3 = .ok (.iload_n 1, 1) := by decide +kernel
theorem d_M_modulo_4 : decode b_M_modulo 4 = .ok (.invokevirtual 62, 3) := by decide +kernel
theorem d_M_modulo_7 : decode b_M_modulo 7 = .ok (.iconst 1, 1) := by decide +kernel
theorem d_M_modulo_8 : decode b_M_modulo 8 = .ok (.isub, 1) := by decide +kernel
theorem d_M_modulo_9 : decode b_M_modulo 9 = .ok (.istore 4, 2) := by decide +kernel
theorem d_M_modulo_11 : decode b_M_modulo 11 = .ok (.iload 4, 2) := by decide +kernel
theorem d_M_modulo_13 : decode b_M_modulo 13 = .ok (.ifCond .lt 57, 3) := by decide +kernel
theorem d_M_modulo_16 : decode b_M_modulo 16 = .ok (.lload_n 2, 1) := by decide +kernel
theorem d_M_modulo_17 : decode b_M_modulo 17 = .ok (.invokestatic 224, 3) := by decide +kernel
theorem d_M_modulo_20 : decode b_M_modulo 20 = .ok (.aload_n 0, 1) := by decide +kernel
theorem d_M_modulo_21 : decode b_M_modulo 21 = .ok (.getfield 7, 3) := by decide +kernel
theorem d_M_modulo_24 : decode b_M_modulo 24 = .ok (.bipush 26, 2) := by decide +kernel
theorem d_M_modulo_26 : decode b_M_modulo 26 = .ok (.iload_n 1, 1) := by decide +kernel
theorem d_M_modulo_27 : decode b_M_modulo 27 = .ok (.imul, 1) := by decide +kernel
theorem d_M_modulo_28 : decode b_M_modulo 28 = .ok (.iload 4, 2) := by decide +kernel
theorem d_M_modulo_30 : decode b_M_modulo 30 = .ok (.bipush 28, 2) := by decide +kernel
theorem d_M_modulo_32 : decode b_M_modulo 32 = .ok (.idiv, 1) := by decide +kernel
theorem d_M_modulo_33 : decode b_M_modulo 33 = .ok (.iadd, 1) := by decide +kernel
theorem d_M_modulo_34 : decode b_M_modulo 34 = .ok (.iaload, 1) := by decide +kernel
theorem d_M_modulo_35 : decode b_M_modulo 35 = .ok (.iload 4, 2) := by decide +kernel
theorem d_M_modulo_37 : decode b_M_modulo 37 = .ok (.bipush 28, 2) := by decide +kernel
theorem d_M_modulo_39 : decode b_M_modulo 39 = .ok (.irem, 1) := by decide +kernel
theorem d_M_modulo_40 : decode b_M_modulo 40 = .ok (.ishr, 1) := by decide +kernel
theorem d_M_modulo_41 : decode b_M_modulo 41 = .ok (.iconst 1, 1) := by decide +kernel
theorem d_M_modulo_42 : decode b_M_modulo 42 = .ok (.iand, 1) := by decide +kernel
theorem d_M_modulo_43 : decode b_M_modulo 43 = .ok (.i2l, 1) := by decide +kernel
theorem d_M_modulo_44 : decode b_M_modulo 44 = .ok (.ladd, 1) := by decide +kernel
theorem d_M_modulo_45 : decode b_M_modulo 45 = .ok (.lstore_n 2, 1) := by decide +kernel
theorem d_M_modulo_46 : decode b_M_modulo 46 = .ok (.lload_n 2, 1) := by decide +kernel
theorem d_M_modulo_47 : decode b_M_modulo 47 = .ok (.ldc2_w 222, 3) := by decide +kernel
theorem d_M_modulo_50 : decode b_M_modulo 50 = .ok (.lcmp, 1) := by decide +kernel
theorem d_M_modulo_51 : decode b_M_modulo 51 = .ok (.ifCond .lt 11, 3) := by decide +kernel
theorem d_M_modulo_54 : decode b_M_modulo 54 = .ok (.lload_n 2, 1) := by decide +kernel
theorem d_M_modulo_55 : decode b_M_modulo 55 = .ok (.ldc2_w 222, 3) := by decide +kernel
theorem d_M_modulo_58 : decode b_M_modulo 58 = .ok (.lsub, 1) := by decide +kernel
theorem d_M_modulo_59 : decode b_M_modulo 59 = .ok (.goto 4, 3) := by decide +kernel
theorem d_M_modulo_62 : decode b_M_modulo 62 = .ok (.lload_n 2, 1) := by decide +kernel
theorem d_M_modulo_63 : decode b_M_modulo 63 = .ok (.lstore_n 2, 1) := by decide +kernel
theorem d_M_modulo_64 : decode b_M_modulo 64 = .ok (.iinc 4 (-1), 3) := by decide +kernel
theorem d_M_modulo_67 : decode b_M_modulo 67 = .ok (.goto (-56), 3) := by decide +kernel
theorem d_M_modulo_70 : decode b_M_modulo 70 = .ok (.lload_n 2, 1) := by decide +kernel
theorem d_M_modulo_71 : decode b_M_modulo 71 = .ok (.lreturn, 1) := by decide +kernel
theorem d_M_hash_0 : decode b_M_hash 0 = .ok (.aload_n 0, 1) := by decide +kernel
theorem d_M_hash_1 : decode b_M_hash 1 = .ok (.iconst 0, 1) := by decide +kernel
theorem d_M_hash_2 : decode b_M_hash 2 = .ok (.putfield 39, 3) := by decide +kernel
theorem d_M_hash_5 : decode b_M_hash 5 = .ok (.aload_n 0, 1) := by decide +kernel
theorem d_M_hash_6 : decode b_M_hash 6 = .ok (.iload_n 1, 1) := by decide +kernel
theorem d_M_hash_7 : decode b_M_hash 7 = .ok (.invokevirtual 176, 3) := by decide +kernel
theorem d_M_hash_10 : decode b_M_hash 10 = .ok (.ifCond .ne 5, 3) := by decide +kernel
theorem d_M_hash_13 : decode b_M_hash 13 = .ok (.lconst 0, 1) := by decide +kernel
theorem d_M_hash_14 : decode b_M_hash 14 = .ok (.lreturn, 1) := by decide +kernel
theorem d_M_hash_15 : decode b_M_hash 15 = .ok (.aload_n 0, 1) := by decide +kernel
theorem d_M_hash_16 : decode b_M_hash 16 = .ok (.iload_n 1, 1) := by decide +kernel
theorem d_M_hash_17 : decode b_M_hash 17 = .ok (.bipush 16, 2) := by decide +kernel
theorem d_M_hash_19 : decode b_M_hash 19 = .ok (.bipush 17, 2) := by decide +kernel
theorem d_M_hash_21 : decode b_M_hash 21 = .ok (.invokevirtual 182, 3) := by decide +kernel
theorem d_M_hash_24 : decode b_M_hash 24 = .ok (.istore_n 2, 1) := by decide +kernel
theorem d_M_hash_25 : decode b_M_hash 25 = .ok (.aload_n 0, 1) := by decide +kernel
theorem d_M_hash_26 : decode b_M_hash 26 = .ok (.bipush 17, 2) := by decide +kernel
theorem d_M_hash_28 : decode b_M_hash 28 = .ok (.invokevirtual 228, 3) := by decide +kernel
theorem d_M_hash_31 : decode b_M_hash 31 = .ok (.lstore_n 3, 1) := by decide +kernel
theorem d_M_hash_32 : decode b_M_hash 32 = .ok (.aload_n 0, 1) := by decide +kernel
theorem d_M_hash_33 : decode b_M_hash 33 = .ok (.bipush 16, 2) := by decide +kernel
theorem d_M_hash_35 : decode b_M_hash 35 = .ok (.invokevirtual 228, 3) := by decide +kernel
theorem d_M_hash_38 : decode b_M_hash 38 = .ok (.lstore 5, 2) := by decide +kernel
theorem d_M_hash_40 : decode b_M_hash 40 = .ok (.lconst 1, 1) := by decide +kernel
theorem d_M_hash_41 : decode b_M_hash 41 = .ok (.lstore 7, 2) := by decide +kernel
theorem d_M_hash_43 : decode b_M_hash 43 = .ok (.bipush 60, 2) := by decide +kernel
theorem d_M_hash_45 : decode b_M_hash 45 = .ok (.istore 9, 2) := by decide +kernel
theorem d_M_hash_47 : decode b_M_hash 47 = .ok (.iload 9, 2) := by decide +kernel
theorem d_M_hash_49 : decode b_M_hash 49 = .ok (.ifCond .lt 39, 3) := by decide +kernel
theorem d_M_hash_52 : decode b_M_hash 52 = .ok (.lload 7, 2) := by decide +kernel
theorem d_M_hash_54 : decode b_M_hash 54 = .ok (.lload 7, 2) := by decide +kernel
theorem d_M_hash_56 : decode b_M_hash 56 = .ok (.invokestatic 231, 3) := by decide +kernel
theorem d_M_hash_59 : decode b_M_hash 59 = .ok (.lstore 7, 2) := by decide +kernel
theorem d_M_hash_61 : decode b_M_hash 61 = .ok (.ldc2_w 235, 3) := by decide +kernel
theorem d_M_hash_64 : decode b_M_hash 64 = .ok (.iload 9, 2) := by decide +kernel
theorem d_M_hash_66 : decode b_M_hash 66 = .ok (.lshr, 1) := by decide +kernel
theorem d_M_hash_67 : decode b_M_hash 67 = .ok (.lconst 1, 1) := by decide +kernel
theorem d_M_hash_68 : decode b_M_hash 68 = .ok (.land, 1) := by decide +kernel
theorem d_M_hash_69 : decode b_M_hash 69 = .ok (.lconst 1, 1) := by decide +kernel
theorem d_M_hash_70 : decode b_M_hash 70 = .ok (.lcmp, 1) := by decide +kernel
theorem d_M_hash_71 : decode b_M_hash 71 = .ok (.ifCond .ne 11, 3) := by decide +kernel
theorem d_M_hash_74 : decode b_M_hash 74 = .ok (.lload 7, 2) := by decide +kernel
theorem d_M_hash_76 : decode b_M_hash 76 = .ok (.lload_n 3, 1) := by decide +kernel
theorem d_M_hash_77 : decode b_M_hash 77 = .ok (.invokestatic 231, 3) := by decide +kernel
theorem d_M_hash_80 : decode b_M_hash 80 = .ok (.lstore 7, 2) := by decide +kernel
theorem d_M_hash_82 : decode b_M_hash 82 = .ok (.iinc 9 (-1), 3) := by decide +kernel
theorem d_M_hash_85 : decode b_M_hash 85 = .ok (.goto (-38), 3) := by decide +kernel
theorem d_M_hash_88 : decode b_M_hash 88 = .ok (.lload_n 3, 1) := by decide +kernel
theorem d_M_hash_89 : decode b_M_hash 89 = .ok (.lconst 0, 1) := by decide +kernel
theorem d_M_hash_90 : decode b_M_hash 90 = .ok (.lcmp, 1) := by decide +kernel
theorem d_M_hash_91 : decode b_M_hash 91 = .ok (.ifCond .ne 9, 3) := by decide +kernel
theorem d_M_hash_94 : decode b_M_hash 94 = .ok (.ldc2_w 237, 3) := by decide +kernel
theorem d_M_hash_97 : decode b_M_hash 97 = .ok (.goto 10, 3) := by decide +kernel
theorem d_M_hash_100 : decode b_M_hash 100 = .ok (.lload 5, 2) := by decide +kernel
theorem d_M_hash_102 : decode b_M_hash 102 = .ok (.lload 7, 2) := by decide +kernel
theorem d_M_hash_104 : decode b_M_hash 104 = .ok (.invokestatic 231, 3) := by decide +kernel
theorem d_M_hash_107 : decode b_M_hash 107 = .ok (.lstore 5, 2) := by decide +kernel
theorem d_M_hash_109 : decode b_M_hash 109 = .ok (.iload_n 2, 1) := by decide +kernel
theorem d_M_hash_110 : decode b_M_hash 110 = .ok (.ifCond .eq 22, 3) := by decide +kernel
theorem d_M_hash_113 : decode b_M_hash 113 = .ok (.lload 5, 2) := by decide +kernel
theorem d_M_hash_115 : decode b_M_hash 115 = .ok (.lconst 1, 1) := by decide +kernel
theorem d_M_hash_116 : decode b_M_hash 116 = .ok (.lcmp, 1) := by decide +kernel
theorem d_M_hash_117 : decode b_M_hash 117 = .ok (.ifCond .ne 9, 3) := by decide +kernel
theorem d_M_hash_120 : decode b_M_hash 120 = .ok (.ldc2_w 239, 3) := by decide +kernel
theorem d_M_hash_123 : decode b_M_hash 123 = .ok (.goto 11, 3) := by decide +kernel
theorem d_M_hash_126 : decode b_M_hash 126 = .ok (.lload 5, 2) := by decide +kernel
theorem d_M_hash_128 : decode b_M_hash 128 = .ok (.lneg, 1) := by decide +kernel
theorem d_M_hash_129 : decode b_M_hash 129 = .ok (.goto 5, 3) := by decide +kernel
theorem d_M_hash_132 : decode b_M_hash 132 = .ok (.lload 5, 2) := by decide +kernel
theorem d_M_hash_134 : decode b_M_hash 134 = .ok (.lreturn, 1) := by decide +kernel
theorem d_M_write_0 : decode b_M_write 0 = .ok (.aload_n 0, 1) := by decide +kernel
theorem d_M_write_1 : decode b_M_write 1 = .ok (.iconst 0, 1) := by decide +kernel
theorem d_M_write_2 : decode b_M_write 2 = .ok (.putfield 39, 3) := by decide +kernel
theorem d_M_write_5 : decode b_M_write 5 = .ok (.iconst 0, 1) := by decide +kernel
theorem d_M_write_6 : decode b_M_write 6 = .ok (.istore_n 2, 1) := by decide +kernel
theorem d_M_write_7 : decode b_M_write 7 = .ok (.iconst 3, 1) := by decide +kernel
theorem d_M_write_8 : decode b_M_write 8 = .ok (.istore_n 3, 1) := by decide +kernel
theorem d_M_write_9 : decode b_M_write 9 = .ok (.iload_n 3, 1) := by decide +kernel
theorem d_M_write_10 : decode b_M_write 10 = .ok (.ifCond .lt 46, 3) := by decide +kernel
theorem d_M_write_13 : decode b_M_write 13 = .ok (.iload_n 1, 1) := by decide +kernel
theorem d_M_write_14 : decode b_M_write 14 = .ok (.bipush 8, 2) := by decide +kernel
theorem d_M_write_16 : decode b_M_write 16 = .ok (.iload_n 3, 1) := by decide +kernel
theorem d_M_write_17 : decode b_M_write 17 = .ok (.imul, 1) := by decide +kernel
theorem d_M_write_18 : decode b_M_write 18 = .ok (.ishr, 1) := by decide +kernel
theorem d_M_write_19 : decode b_M_write 19 = .ok (.sipush 255, 3) := by decide +kernel
theorem d_M_write_22 : decode b_M_write 22 = .ok (.iand, 1) := by decide +kernel
theorem d_M_write_23 : decode b_M_write 23 = .ok (.istore 4, 2) := by decide +kernel
theorem d_M_write_25 : decode b_M_write 25 = .ok (.iload 4, 2) := by decide +kernel
theorem d_M_write_27 : decode b_M_write 27 = .ok (.ifCond .ne 6, 3) := by decide +kernel
theorem d_M_write_30 : decode b_M_write 30 = .ok (.goto 20, 3) := by decide +kernel
theorem d_M_write_33 : decode b_M_write 33 = .ok (.iload 4, 2) := by decide +kernel
theorem d_M_write_35 : decode b_M_write 35 = .ok (.bipush 32, 2) := by decide +kernel
theorem d_M_write_37 : decode b_M_write 37 = .ok (.bipush 126, 2) := by decide +kernel
theorem d_M_write_39 : decode b_M_write 39 = .ok (.invokestatic 138, 3) := by decide +kernel
theorem d_M_write_42 : decode b_M_write 42 = .ok (.ifCond .ne 5, 3) := by decide +kernel
theorem d_M_write_45 : decode b_M_write 45 = .ok (.iconst 0, 1) := by decide +kernel
theorem d_M_write_46 : decode b_M_write 46 = .ok (.ireturn, 1) := by decide +kernel
theorem d_M_write_47 : decode b_M_write 47 = .ok (.iinc 2 1, 3) := by decide +kernel
theorem d_M_write_50 : decode b_M_write 50 = .ok (.iinc 3 (-1), 3) := by decide +kernel
theorem d_M_write_53 : decode b_M_write 53 = .ok (.goto (-44), 3) := by decide +kernel
theorem d_M_write_56 : decode b_M_write 56 = .ok (.aload_n 0, 1) := by decide +kernel
theorem d_M_write_57 : decode b_M_write 57 = .ok (.getfield 241, 3) := by decide +kernel
theorem d_M_write_60 : decode b_M_write 60 = .ok (.iload_n 2, 1) := by decide +kernel
theorem d_M_write_61 : decode b_M_write 61 = .ok (.iadd, 1) := by decide +kernel
theorem d_M_write_62 : decode b_M_write 62 = .ok (.bipush 40, 2) := by decide +kernel
theorem d_M_write_64 : decode b_M_write 64 = .ok (.if_icmp .le 5, 3) := by decide +kernel
theorem d_M_write_67 : decode b_M_write 67 = .ok (.iconst 0, 1) := by decide +kernel
theorem d_M_write_68 : decode b_M_write 68 = .ok (.ireturn, 1) := by decide +kernel
theorem d_M_write_69 : decode b_M_write 69 = .ok (.iconst 3, 1) := by decide +kernel
theorem d_M_write_70 : decode b_M_write 70 = .ok (.istore_n 3, 1) := by decide +kernel
theorem d_M_write_71 : decode b_M_write 71 = .ok (.iload_n 3, 1) := by decide +kernel
theorem d_M_write_72 : decode b_M_write 72 = .ok (.ifCond .lt 50, 3) := by decide +kernel
theorem d_M_write_75 : decode b_M_write 75 = .ok (.iload_n 1, 1) := by decide +kernel
theorem d_M_write_76 : decode b_M_write 76 = .ok (.bipush 8, 2) := by decide +kernel
theorem d_M_write_78 : decode b_M_write 78 = .ok (.iload_n 3, 1) := by decide +kernel
theorem d_M_write_79 : decode b_M_write 79 = .ok (.imul, 1) := by decide +kernel
theorem d_M_write_80 : decode b_M_write 80 = .ok (.ishr, 1) := by decide +kernel
theorem d_M_write_81 : decode b_M_write 81 = .ok (.sipush 255, 3) := by decide +kernel
theorem d_M_write_84 : decode b_M_write 84 = .ok (.iand, 1) := by decide +kernel
theorem d_M_write_85 : decode b_M_write 85 = .ok (.istore 4, 2) := by decide +kernel
theorem d_M_write_87 : decode b_M_write 87 = .ok (.iload 4, 2) := by decide +kernel
theorem d_M_write_89 : decode b_M_write 89 = .ok (.ifCond .ne 6, 3) := by decide +kernel
theorem d_M_write_92 : decode b_M_write 92 = .ok (.goto 24, 3) := by decide +kernel
theorem d_M_write_95 : decode b_M_write 95 = .ok (.aload_n 0, 1) := by decide +kernel
theorem d_M_write_96 : decode b_M_write 96 = .ok (.getfield 27, 3) := by decide +kernel
theorem d_M_write_99 : decode b_M_write 99 = .ok (.aload_n 0, 1) := by decide +kernel
theorem d_M_write_100 : decode b_M_write 100 = .ok (.getfield 241, 3) := by decide +kernel
theorem d_M_write_103 : decode b_M_write 103 = .ok (.iload 4, 2) := by decide +kernel
theorem d_M_write_105 : decode b_M_write 105 = .ok (.iastore, 1) := by decide +kernel
theorem d_M_write_106 : decode b_M_write 106 = .ok (.aload_n 0, 1) := by decide +kernel
theorem d_M_write_107 : decode b_M_write 107 = .ok (.dup, 1) := by decide +kernel
theorem d_M_write_108 : decode b_M_write 108 = .ok (.getfield 241, 3) := by decide +kernel
theorem d_M_write_111 : decode b_M_write 111 = .ok (.iconst 1, 1) := by decide +kernel
theorem d_M_write_112 : decode b_M_write 112 = .ok (.iadd, 1) := by decide +kernel
theorem d_M_write_113 : decode b_M_write 113 = .ok (.putfield 241, 3) := by decide +kernel
theorem d_M_write_116 : decode b_M_write 116 = .ok (.iinc 3 (-1), 3) := by decide +kernel
theorem d_M_write_119 : decode b_M_write 119 = .ok (.goto (-48), 3) := by decide +kernel
theorem d_M_write_122 : decode b_M_write 122 = .ok (.iconst 1, 1) := by decide +kernel
theorem d_M_write_123 : decode b_M_write 123 = .ok (.ireturn, 1) := by decide +kernel
theorem d_M_wipe_0 : decode b_M_wipe 0 = .ok (.aload_n 0, 1) := by decide +kernel
theorem d_M_wipe_1 : decode b_M_wipe 1 = .ok (.iconst 0, 1) := by decide +kernel
theorem d_M_wipe_2 : decode b_M_wipe 2 = .ok (.putfield 39, 3) := by decide +kernel
theorem d_M_wipe_5 : decode b_M_wipe 5 = .ok (.aload_n 0, 1) := by decide +kernel
theorem d_M_wipe_6 : decode b_M_wipe 6 = .ok (.iconst 0, 1) := by decide +kernel
theorem d_M_wipe_7 : decode b_M_wipe 7 = .ok (.putfield 241, 3) := by decide +kernel
theorem d_M_wipe_10 : decode b_M_wipe 10 = .ok (.return_, 1) := by decide +kernel
theorem d_M_here_0 : decode b_M_here 0 = .ok (.iload_n 1, 1) := by decide +kernel
theorem d_M_here_1 : decode b_M_here 1 = .ok (.aload_n 0, 1) := by decide +kernel
theorem d_M_here_2 : decode b_M_here 2 = .ok (.getfield 241, 3) := by decide +kernel
theorem d_M_here_5 : decode b_M_here 5 = .ok (.if_icmp .ge 12, 3) := by decide +kernel
theorem d_M_here_8 : decode b_M_here 8 = .ok (.aload_n 0, 1) := by decide +kernel
theorem d_M_here_9 : decode b_M_here 9 = .ok (.getfield 27, 3) := by decide +kernel
theorem d_M_here_12 : decode b_M_here 12 = .ok (.iload_n 1, 1) := by decide +kernel
theorem d_M_here_13 : decode b_M_here 13 = .ok (.iaload, 1) := by decide +kernel
theorem d_M_here_14 : decode b_M_here 14 = .ok (.goto 4, 3) := by decide +kernel
theorem d_M_here_17 : decode b_M_here 17 = .ok (.iconst 0, 1) := by decide +kernel
theorem d_M_here_18 : decode b_M_here 18 = .ok (.ireturn, 1) := by decide +kernel
theorem d_M_takes2_0 : decode b_M_takes2 0 = .ok (.aload_n 0, 1) := by decide +kernel
theorem d_M_takes2_1 : decode b_M_takes2 1 = .ok (.aload_n 0, 1) := by decide +kernel
theorem d_M_takes2_2 : decode b_M_takes2 2 = .ok (.getfield 244, 3) := by decide +kernel
theorem d_M_takes2_5 : decode b_M_takes2 5 = .ok (.invokevirtual 247, 3) := by decide +kernel
theorem d_M_takes2_8 : decode b_M_takes2 8 = .ok (.iload_n 1, 1) := by decide +kernel
theorem d_M_takes2_9 : decode b_M_takes2 9 = .ok (.if_icmp .eq 5, 3) := by decide +kernel
theorem d_M_takes2_12 : decode b_M_takes2 12 = .ok (.iconst 0, 1) := by decide +kernel
theorem d_M_takes2_13 : decode b_M_takes2 13 = .ok (.ireturn, 1) := by decide +kernel
theorem d_M_takes2_14 : decode b_M_takes2 14 = .ok (.aload_n 0, 1) := by decide +kernel
theorem d_M_takes2_15 : decode b_M_takes2 15 = .ok (.dup, 1) := by decide +kernel
theorem d_M_takes2_16 : decode b_M_takes2 16 = .ok (.getfield 244, 3) := by decide +kernel
theorem d_M_takes2_19 : decode b_M_takes2 19 = .ok (.iconst 1, 1) := by decide +kernel
theorem d_M_takes2_20 : decode b_M_takes2 20 = .ok (.iadd, 1) := by decide +kernel
theorem d_M_takes2_21 : decode b_M_takes2 21 = .ok (.putfield 244, 3) := by decide +kernel
theorem d_M_takes2_24 : decode b_M_takes2 24 = .ok (.iconst 1, 1) := by decide +kernel
theorem d_M_takes2_25 : decode b_M_takes2 25 = .ok (.ireturn, 1) := by decide +kernel
theorem d_M_digitOf_0 : decode b_M_digitOf 0 = .ok (.iload_n 0, 1) := by decide +kernel
theorem d_M_digitOf_1 : decode b_M_digitOf 1 = .ok (.bipush 48, 2) := by decide +kernel
theorem d_M_digitOf_3 : decode b_M_digitOf 3 = .ok (.bipush 57, 2) := by decide +kernel
theorem d_M_digitOf_5 : decode b_M_digitOf 5 = .ok (.invokestatic 138, 3) := by decide +kernel
theorem d_M_digitOf_8 : decode b_M_digitOf 8 = .ok (.ifCond .eq 10, 3) := by decide +kernel
theorem d_M_digitOf_11 : decode b_M_digitOf 11 = .ok (.iload_n 0, 1) := by decide +kernel
theorem d_M_digitOf_12 : decode b_M_digitOf 12 = .ok (.bipush 48, 2) := by decide +kernel
theorem d_M_digitOf_14 : decode b_M_digitOf 14 = .ok (.isub, 1) := by decide +kernel
theorem d_M_digitOf_15 : decode b_M_digitOf 15 = .ok (.goto 46, 3) := by decide +kernel
theorem d_M_digitOf_18 : decode b_M_digitOf 18 = .ok (.iload_n 0, 1) := by decide +kernel
theorem d_M_digitOf_19 : decode b_M_digitOf 19 = .ok (.bipush 97, 2) := by decide +kernel
theorem d_M_digitOf_21 : decode b_M_digitOf 21 = .ok (.bipush 102, 2) := by decide +kernel
theorem d_M_digitOf_23 : decode b_M_digitOf 23 = .ok (.invokestatic 138, 3) := by decide +kernel
theorem d_M_digitOf_26 : decode b_M_digitOf 26 = .ok (.ifCond .eq 13, 3) := by decide +kernel
theorem d_M_digitOf_29 : decode b_M_digitOf 29 = .ok (.iload_n 0, 1) := by decide +kernel
theorem d_M_digitOf_30 : decode b_M_digitOf 30 = .ok (.bipush 97, 2) := by decide +kernel
theorem d_M_digitOf_32 : decode b_M_digitOf 32 = .ok (.isub, 1) := by decide +kernel
theorem d_M_digitOf_33 : decode b_M_digitOf 33 = .ok (.bipush 10, 2) := by decide +kernel
theorem d_M_digitOf_35 : decode b_M_digitOf 35 = .ok (.iadd, 1) := by decide +kernel
theorem d_M_digitOf_36 : decode b_M_digitOf 36 = .ok (.goto 25, 3) := by decide +kernel
theorem d_M_digitOf_39 : decode b_M_digitOf 39 = .ok (.iload_n 0, 1) := by decide +kernel
theorem d_M_digitOf_40 : decode b_M_digitOf 40 = .ok (.bipush 65, 2) := by decide +kernel
theorem d_M_digitOf_42 : decode b_M_digitOf 42 = .ok (.bipush 70, 2) := by decide +kernel
theorem d_M_digitOf_44 : decode b_M_digitOf 44 = .ok (.invokestatic 138, 3) := by decide +kernel
theorem d_M_digitOf_47 : decode b_M_digitOf 47 = .ok (.ifCond .eq 13, 3) := by decide +kernel
theorem d_M_digitOf_50 : decode b_M_digitOf 50 = .ok (.iload_n 0, 1) := by decide +kernel
theorem d_M_digitOf_51 : decode b_M_digitOf 51 = .ok (.bipush 65, 2) := by decide +kernel
theorem d_M_digitOf_53 : decode b_M_digitOf 53 = .ok (.isub, 1) := by decide +kernel
theorem d_M_digitOf_54 : decode b_M_digitOf 54 = .ok (.bipush 10, 2) := by decide +kernel
theorem d_M_digitOf_56 : decode b_M_digitOf 56 = .ok (.iadd, 1) := by decide +kernel
theorem d_M_digitOf_57 : decode b_M_digitOf 57 = .ok (.goto 4, 3) := by decide +kernel
theorem d_M_digitOf_60 : decode b_M_digitOf 60 = .ok (.iconst (-1), 1) := by decide +kernel
theorem d_M_digitOf_61 : decode b_M_digitOf 61 = .ok (.istore_n 2, 1) := by decide +kernel
theorem d_M_digitOf_62 : decode b_M_digitOf 62 = .ok (.iload_n 2, 1) := by decide +kernel
theorem d_M_digitOf_63 : decode b_M_digitOf 63 = .ok (.iload_n 1, 1) := by decide +kernel
theorem d_M_digitOf_64 : decode b_M_digitOf 64 = .ok (.if_icmp .ge 7, 3) := by decide +kernel
theorem d_M_digitOf_67 : decode b_M_digitOf 67 = .ok (.iload_n 2, 1) := by decide +kernel
theorem d_M_digitOf_68 : decode b_M_digitOf 68 = .ok (.goto 4, 3) := by decide +kernel
theorem d_M_digitOf_71 : decode b_M_digitOf 71 = .ok (.iconst (-1), 1) := by decide +kernel
theorem d_M_digitOf_72 : decode b_M_digitOf 72 = .ok (.ireturn, 1) := by decide +kernel
theorem d_M_digits_0 : decode b_M_digits 0 = .ok (.aload_n 0, 1) := by decide +kernel
theorem d_M_digits_1 : decode b_M_digits 1 = .ok (.iconst 0, 1) := by decide +kernel
theorem d_M_digits_2 : decode b_M_digits 2 = .ok (.putfield 250, 3) := by decide +kernel
theorem d_M_digits_5 : decode b_M_digits 5 = .ok (.iconst 1, 1) := by decide +kernel
theorem d_M_digits_6 : decode b_M_digits 6 = .ok (.istore_n 3, 1) := by decide +kernel
theorem d_M_digits_7 : decode b_M_digits 7 = .ok (.iload_n 3, 1) := by decide +kernel
theorem d_M_digits_8 : decode b_M_digits 8 = .ok (.ifCond .eq 120, 3) := by decide +kernel
theorem d_M_digits_11 : decode b_M_digits 11 = .ok (.aload_n 0, 1) := by decide +kernel
theorem d_M_digits_12 : decode b_M_digits 12 = .ok (.aload_n 0, 1) := by decide +kernel
theorem d_M_digits_13 : decode b_M_digits 13 = .ok (.getfield 244, 3) := by decide +kernel
theorem d_M_digits_16 : decode b_M_digits 16 = .ok (.invokevirtual 247, 3) := by decide +kernel
theorem d_M_digits_19 : decode b_M_digits 19 = .ok (.iload_n 1, 1) := by decide +kernel
theorem d_M_digits_20 : decode b_M_digits 20 = .ok (.invokestatic 253, 3) := by decide +kernel
theorem d_M_digits_23 : decode b_M_digits 23 = .ok (.istore 4, 2) := by decide +kernel
theorem d_M_digits_25 : decode b_M_digits 25 = .ok (.iload 4, 2) := by decide +kernel
theorem d_M_digits_27 : decode b_M_digits 27 = .ok (.ifCond .lt 34, 3) := by decide +kernel
theorem d_M_digits_30 : decode b_M_digits 30 = .ok (.aload_n 0, 1) := by decide +kernel
theorem d_M_digits_31 : decode b_M_digits 31 = .ok (.iload_n 2, 1) := by decide +kernel
theorem d_M_digits_32 : decode b_M_digits 32 = .ok (.iload_n 1, 1) := by decide +kernel
theorem d_M_digits_33 : decode b_M_digits 33 = .ok (.iload 4, 2) := by decide +kernel
theorem d_M_digits_35 : decode b_M_digits 35 = .ok (.invokevirtual 54, 3) := by decide +kernel
theorem d_M_digits_38 : decode b_M_digits 38 = .ok (.aload_n 0, 1) := by decide +kernel
theorem d_M_digits_39 : decode b_M_digits 39 = .ok (.dup, 1) := by decide +kernel
theorem d_M_digits_40 : decode b_M_digits 40 = .ok (.getfield 250, 3) := by decide +kernel
theorem d_M_digits_43 : decode b_M_digits 43 = .ok (.iconst 1, 1) := by decide +kernel
theorem d_M_digits_44 : decode b_M_digits 44 = .ok (.iadd, 1) := by decide +kernel
theorem d_M_digits_45 : decode b_M_digits 45 = .ok (.putfield 250, 3) := by decide +kernel
theorem d_M_digits_48 : decode b_M_digits 48 = .ok (.aload_n 0, 1) := by decide +kernel
theorem d_M_digits_49 : decode b_M_digits 49 = .ok (.dup, 1) := by decide +kernel
theorem d_M_digits_50 : decode b_M_digits 50 = .ok (.getfield 244, 3) := by decide +kernel
theorem d_M_digits_53 : decode b_M_digits 53 = .ok (.iconst 1, 1) := by decide +kernel
theorem d_M_digits_54 : decode b_M_digits 54 = .ok (.iadd, 1) := by decide +kernel
theorem d_M_digits_55 : decode b_M_digits 55 = .ok (.putfield 244, 3) := by decide +kernel
theorem d_M_digits_58 : decode b_M_digits 58 = .ok (.goto 67, 3) := by decide +kernel
theorem d_M_digits_61 : decode b_M_digits 61 = .ok (.aload_n 0, 1) := by decide +kernel
theorem d_M_digits_62 : decode b_M_digits 62 = .ok (.getfield 250, 3) := by decide +kernel
theorem d_M_digits_65 : decode b_M_digits 65 = .ok (.ifCond .le 37, 3) := by decide +kernel
theorem d_M_digits_68 : decode b_M_digits 68 = .ok (.aload_n 0, 1) := by decide +kernel
theorem d_M_digits_69 : decode b_M_digits 69 = .ok (.aload_n 0, 1) := by decide +kernel
theorem d_M_digits_70 : decode b_M_digits 70 = .ok (.getfield 244, 3) := by decide +kernel
theorem d_M_digits_73 : decode b_M_digits 73 = .ok (.invokevirtual 247, 3) := by decide +kernel
theorem d_M_digits_76 : decode b_M_digits 76 = .ok (.bipush 95, 2) := by decide +kernel
theorem d_M_digits_78 : decode b_M_digits 78 = .ok (.if_icmp .ne 24, 3) := by decide +kernel
theorem d_M_digits_81 : decode b_M_digits 81 = .ok (.aload_n 0, 1) := by decide +kernel
theorem d_M_digits_82 : decode b_M_digits 82 = .ok (.aload_n 0, 1) := by decide +kernel
theorem d_M_digits_83 : decode b_M_digits 83 = .ok (.getfield 244, 3) := by decide +kernel
theorem d_M_digits_86 : decode b_M_digits 86 = .ok (.iconst 1, 1) := by decide +kernel
theorem d_M_digits_87 : decode b_M_digits 87 = .ok (.iadd, 1) := by decide +kernel
theorem d_M_digits_88 : decode b_M_digits 88 = .ok (.invokevirtual 247, 3) := by decide +kernel
theorem d_M_digits_91 : decode b_M_digits 91 = .ok (.iload_n 1, 1) := by decide +kernel
theorem d_M_digits_92 : decode b_M_digits 92 = .ok (.invokestatic 253, 3) := by decide +kernel
theorem d_M_digits_95 : decode b_M_digits 95 = .ok (.ifCond .lt 7, 3) := by decide +kernel
theorem d_M_digits_98 : decode b_M_digits 98 = .ok (.iconst 1, 1) := by decide +kernel
theorem d_M_digits_99 : decode b_M_digits 99 = .ok (.goto 4, 3) := by decide +kernel
theorem d_M_digits_102 : decode b_M_digits 102 = .ok (.iconst 0, 1) := by decide +kernel
theorem d_M_digits_103 : decode b_M_digits 103 = .ok (.istore_n 3, 1) := by decide +kernel
theorem d_M_digits_104 : decode b_M_digits 104 = .ok (.aload_n 0, 1) := by decide +kernel
theorem d_M_digits_105 : decode b_M_digits 105 = .ok (.iload_n 3, 1) := by decide +kernel
theorem d_M_digits_106 : decode b_M_digits 106 = .ok (.ifCond .eq 12, 3) := by decide +kernel
theorem d_M_digits_109 : decode b_M_digits 109 = .ok (.aload_n 0, 1) := by decide +kernel
theorem d_M_digits_110 : decode b_M_digits 110 = .ok (.getfield 244, 3) := by decide +kernel
theorem d_M_digits_113 : decode b_M_digits 113 = .ok (.iconst 1, 1) := by decide +kernel
theorem d_M_digits_114 : decode b_M_digits 114 = .ok (.iadd, 1) := by decide +kernel
theorem d_M_digits_115 : decode b_M_digits 115 = .ok (.goto 7, 3) := by decide +kernel
theorem d_M_digits_118 : decode b_M_digits 118 = .ok (.aload_n 0, 1) := by decide +kernel
theorem d_M_digits_119 : decode b_M_digits 119 = .ok (.getfield 244, 3) := by decide +kernel
theorem d_M_digits_122 : decode b_M_digits 122 = .ok (.putfield 244, 3) := by decide +kernel
theorem d_M_digits_125 : decode b_M_digits 125 = .ok (.goto (-118), 3) := by decide +kernel
theorem d_M_digits_128 : decode b_M_digits 128 = .ok (.return_, 1) := by decide +kernel
theorem d_M_parsed_0 : decode b_M_parsed 0 = .ok (.aload_n 0, 1) := by decide +kernel
theorem d_M_parsed_1 : decode b_M_parsed 1 = .ok (.iconst 0, 1) := by decide +kernel
theorem d_M_parsed_2 : decode b_M_parsed 2 = .ok (.putfield 244, 3) := by decide +kernel
theorem d_M_parsed_5 : decode b_M_parsed 5 = .ok (.aload_n 0, 1) := by decide +kernel
theorem d_M_parsed_6 : decode b_M_parsed 6 = .ok (.getfield 13, 3) := by decide +kernel
theorem d_M_parsed_9 : decode b_M_parsed 9 = .ok (.bipush 20, 2) := by decide +kernel
theorem d_M_parsed_11 : decode b_M_parsed 11 = .ok (.iconst 0, 1) := by decide +kernel
theorem d_M_parsed_12 : decode b_M_parsed 12 = .ok (.iastore, 1) := by decide +kernel
theorem d_M_parsed_13 : decode b_M_parsed 13 = .ok (.aload_n 0, 1) := by decide +kernel
theorem d_M_parsed_14 : decode b_M_parsed 14 = .ok (.bipush 21, 2) := by decide +kernel
theorem d_M_parsed_16 : decode b_M_parsed 16 = .ok (.lconst 1, 1) := by decide +kernel
theorem d_M_parsed_17 : decode b_M_parsed 17 = .ok (.invokevirtual 82, 3) := by decide +kernel
theorem d_M_parsed_20 : decode b_M_parsed 20 = .ok (.aload_n 0, 1) := by decide +kernel
theorem d_M_parsed_21 : decode b_M_parsed 21 = .ok (.aload_n 0, 1) := by decide +kernel
theorem d_M_parsed_22 : decode b_M_parsed 22 = .ok (.iconst 0, 1) := by decide +kernel
theorem d_M_parsed_23 : decode b_M_parsed 23 = .ok (.invokevirtual 247, 3) := by decide +kernel
theorem d_M_parsed_26 : decode b_M_parsed 26 = .ok (.bipush 45, 2) := by decide +kernel
theorem d_M_parsed_28 : decode b_M_parsed 28 = .ok (.if_icmp .ne 7, 3) := by decide +kernel
theorem d_M_parsed_31 : decode b_M_parsed 31 = .ok (.iconst 1, 1) := by decide +kernel
theorem d_M_parsed_32 : decode b_M_parsed 32 = .ok (.goto 4, 3) := by decide +kernel
theorem d_M_parsed_35 : decode b_M_parsed 35 = .ok (.iconst 0, 1) := by decide +kernel
theorem d_M_parsed_36 : decode b_M_parsed 36 = .ok (.putfield 129, 3) := by decide +kernel
theorem d_M_parsed_39 : decode b_M_parsed 39 = .ok (.aload_n 0, 1) := by decide +kernel
theorem d_M_parsed_40 : decode b_M_parsed 40 = .ok (.getfield 129, 3) := by decide +kernel
theorem d_M_parsed_43 : decode b_M_parsed 43 = .ok (.ifCond .ne 13, 3) := by decide +kernel
theorem d_M_parsed_46 : decode b_M_parsed 46 = .ok (.aload_n 0, 1) := by decide +kernel
theorem d_M_parsed_47 : decode b_M_parsed 47 = .ok (.iconst 0, 1) := by decide +kernel
theorem d_M_parsed_48 : decode b_M_parsed 48 = .ok (.invokevirtual 247, 3) := by decide +kernel
theorem d_M_parsed_51 : decode b_M_parsed 51 = .ok (.bipush 43, 2) := by decide +kernel
theorem d_M_parsed_53 : decode b_M_parsed 53 = .ok (.if_icmp .ne 13, 3) := by decide +kernel
theorem d_M_parsed_56 : decode b_M_parsed 56 = .ok (.aload_n 0, 1) := by decide +kernel
theorem d_M_parsed_57 : decode b_M_parsed 57 = .ok (.dup, 1) := by decide +kernel
theorem d_M_parsed_58 : decode b_M_parsed 58 = .ok (.getfield 244, 3) := by decide +kernel
theorem d_M_parsed_61 : decode b_M_parsed 61 = .ok (.iconst 1, 1) := by decide +kernel
theorem d_M_parsed_62 : decode b_M_parsed 62 = .ok (.iadd, 1) := by decide +kernel
theorem d_M_parsed_63 : decode b_M_parsed 63 = .ok (.putfield 244, 3) := by decide +kernel
theorem d_M_parsed_66 : decode b_M_parsed 66 = .ok (.aload_n 0, 1) := by decide +kernel
theorem d_M_parsed_67 : decode b_M_parsed 67 = .ok (.aload_n 0, 1) := by decide +kernel
theorem d_M_parsed_68 : decode b_M_parsed 68 = .ok (.getfield 244, 3) := by decide +kernel
theorem d_M_parsed_71 : decode b_M_parsed 71 = .ok (.invokevirtual 247, 3) := by decide +kernel
theorem d_M_parsed_74 : decode b_M_parsed 74 = .ok (.bipush 48, 2) := by decide +kernel
theorem d_M_parsed_76 : decode b_M_parsed 76 = .ok (.if_icmp .eq 8, 3) := by decide +kernel
theorem d_M_parsed_79 : decode b_M_parsed 79 = .ok (.bipush 10, 2) := by decide +kernel
theorem d_M_parsed_81 : decode b_M_parsed 81 = .ok (.goto 44, 3) := by decide +kernel
theorem d_M_parsed_84 : decode b_M_parsed 84 = .ok (.aload_n 0, 1) := by decide +kernel
theorem d_M_parsed_85 : decode b_M_parsed 85 = .ok (.aload_n 0, 1) := by decide +kernel
theorem d_M_parsed_86 : decode b_M_parsed 86 = .ok (.getfield 244, 3) := by decide +kernel
theorem d_M_parsed_89 : decode b_M_parsed 89 = .ok (.iconst 1, 1) := by decide +kernel
theorem d_M_parsed_90 : decode b_M_parsed 90 = .ok (.iadd, 1) := by decide +kernel
theorem d_M_parsed_91 : decode b_M_parsed 91 = .ok (.invokevirtual 247, 3) := by decide +kernel
theorem d_M_parsed_94 : decode b_M_parsed 94 = .ok (.bipush 120, 2) := by decide +kernel
theorem d_M_parsed_96 : decode b_M_parsed 96 = .ok (.if_icmp .ne 8, 3) := by decide +kernel
theorem d_M_parsed_99 : decode b_M_parsed 99 = .ok (.bipush 16, 2) := by decide +kernel
theorem d_M_parsed_101 : decode b_M_parsed 101 = .ok (.goto 24, 3) := by decide +kernel
theorem d_M_parsed_104 : decode b_M_parsed 104 = .ok (.aload_n 0, 1) := by decide +kernel
theorem d_M_parsed_105 : decode b_M_parsed 105 = .ok (.aload_n 0, 1) := by decide +kernel
theorem d_M_parsed_106 : decode b_M_parsed 106 = .ok (.getfield 244, 3) := by decide +kernel
theorem d_M_parsed_109 : decode b_M_parsed 109 = .ok (.iconst 1, 1) := by decide +kernel
theorem d_M_parsed_110 : decode b_M_parsed 110 = .ok (.iadd, 1) := by decide +kernel
theorem d_M_parsed_111 : decode b_M_parsed 111 = .ok (.invokevirtual 247, 3) := by decide +kernel
theorem d_M_parsed_114 : decode b_M_parsed 114 = .ok (.bipush 98, 2) := by decide +kernel
theorem d_M_parsed_116 : decode b_M_parsed 116 = .ok (.if_icmp .ne 7, 3) := by decide +kernel
theorem d_M_parsed_119 : decode b_M_parsed 119 = .ok (.iconst 2, 1) := by decide +kernel
theorem d_M_parsed_120 : decode b_M_parsed 120 = .ok (.goto 5, 3) := by decide +kernel
theorem d_M_parsed_123 : decode b_M_parsed 123 = .ok (.bipush 10, 2) := by decide +kernel
theorem d_M_parsed_125 : decode b_M_parsed 125 = .ok (.istore_n 1, 1) := by decide +kernel
theorem d_M_parsed_126 : decode b_M_parsed 126 = .ok (.iload_n 1, 1) := by decide +kernel
theorem d_M_parsed_127 : decode b_M_parsed 127 = .ok (.bipush 10, 2) := by decide +kernel
theorem d_M_parsed_129 : decode b_M_parsed 129 = .ok (.if_icmp .eq 44, 3) := by decide +kernel
theorem d_M_parsed_132 : decode b_M_parsed 132 = .ok (.aload_n 0, 1) := by decide +kernel
theorem d_M_parsed_133 : decode b_M_parsed 133 = .ok (.dup, 1) := by decide +kernel
theorem d_M_parsed_134 : decode b_M_parsed 134 = .ok (.getfield 244, 3) := by decide +kernel
theorem d_M_parsed_137 : decode b_M_parsed 137 = .ok (.iconst 2, 1) := by decide +kernel
theorem d_M_parsed_138 : decode b_M_parsed 138 = .ok (.iadd, 1) := by decide +kernel
theorem d_M_parsed_139 : decode b_M_parsed 139 = .ok (.putfield 244, 3) := by decide +kernel
theorem d_M_parsed_142 : decode b_M_parsed 142 = .ok (.aload_n 0, 1) := by decide +kernel
theorem d_M_parsed_143 : decode b_M_parsed 143 = .ok (.iload_n 1, 1) := by decide +kernel
theorem d_M_parsed_144 : decode b_M_parsed 144 = .ok (.bipush 20, 2) := by decide +kernel
theorem d_M_parsed_146 : decode b_M_parsed 146 = .ok (.invokevirtual 256, 3) := by decide +kernel
theorem d_M_parsed_149 : decode b_M_parsed 149 = .ok (.aload_n 0, 1) := by decide +kernel
theorem d_M_parsed_150 : decode b_M_parsed 150 = .ok (.getfield 250, 3) := by decide +kernel
theorem d_M_parsed_153 : decode b_M_parsed 153 = .ok (.ifCond .le 18, 3) := by decide +kernel
theorem d_M_parsed_156 : decode b_M_parsed 156 = .ok (.aload_n 0, 1) := by decide +kernel
theorem d_M_parsed_157 : decode b_M_parsed 157 = .ok (.getfield 244, 3) := by decide +kernel
theorem d_M_parsed_160 : decode b_M_parsed 160 = .ok (.aload_n 0, 1) := by decide +kernel
theorem d_M_parsed_161 : decode b_M_parsed 161 = .ok (.getfield 241, 3) := by decide +kernel
theorem d_M_parsed_164 : decode b_M_parsed 164 = .ok (.if_icmp .ne 7, 3) := by decide +kernel
theorem d_M_parsed_167 : decode b_M_parsed 167 = .ok (.iconst 0, 1) := by decide +kernel
theorem d_M_parsed_168 : decode b_M_parsed 168 = .ok (.goto 4, 3) := by decide +kernel
theorem d_M_parsed_171 : decode b_M_parsed 171 = .ok (.iconst (-1), 1) := by decide +kernel
theorem d_M_parsed_172 : decode b_M_parsed 172 = .ok (.ireturn, 1) := by decide +kernel
theorem d_M_parsed_173 : decode b_M_parsed 173 = .ok (.aload_n 0, 1) := by decide +kernel
theorem d_M_parsed_174 : decode b_M_parsed 174 = .ok (.bipush 10, 2) := by decide +kernel
theorem d_M_parsed_176 : decode b_M_parsed 176 = .ok (.bipush 20, 2) := by decide +kernel
theorem d_M_parsed_178 : decode b_M_parsed 178 = .ok (.invokevirtual 256, 3) := by decide +kernel
theorem d_M_parsed_181 : decode b_M_parsed 181 = .ok (.aload_n 0, 1) := by decide +kernel
theorem d_M_parsed_182 : decode b_M_parsed 182 = .ok (.getfield 250, 3) := by decide +kernel
theorem d_M_parsed_185 : decode b_M_parsed 185 = .ok (.ifCond .le 7, 3) := by decide +kernel
theorem d_M_parsed_188 : decode b_M_parsed 188 = .ok (.iconst 1, 1) := by decide +kernel
theorem d_M_parsed_189 : decode b_M_parsed 189 = .ok (.goto 4, 3) := by decide +kernel
theorem d_M_parsed_192 : decode b_M_parsed 192 = .ok (.iconst 0, 1) := by decide +kernel
theorem d_M_parsed_193 : decode b_M_parsed 193 = .ok (.istore_n 2, 1) := by decide +kernel
theorem d_M_parsed_194 : decode b_M_parsed 194 = .ok (.iload_n 2, 1) := by decide +kernel
theorem d_M_parsed_195 : decode b_M_parsed 195 = .ok (.ifCond .eq 16, 3) := by decide +kernel
theorem d_M_parsed_198 : decode b_M_parsed 198 = .ok (.aload_n 0, 1) := by decide +kernel
theorem d_M_parsed_199 : decode b_M_parsed 199 = .ok (.getfield 244, 3) := by decide +kernel
theorem d_M_parsed_202 : decode b_M_parsed 202 = .ok (.aload_n 0, 1) := by decide +kernel
theorem d_M_parsed_203 : decode b_M_parsed 203 = .ok (.getfield 241, 3) := by decide +kernel
theorem d_M_parsed_206 : decode b_M_parsed 206 = .ok (.if_icmp .ne 5, 3) := by decide +kernel
theorem d_M_parsed_209 : decode b_M_parsed 209 = .ok (.iconst 0, 1) := by decide +kernel
theorem d_M_parsed_210 : decode b_M_parsed 210 = .ok (.ireturn, 1) := by decide +kernel
theorem d_M_parsed_211 : decode b_M_parsed 211 = .ok (.iload_n 2, 1) := by decide +kernel
theorem d_M_parsed_212 : decode b_M_parsed 212 = .ok (.ifCond .eq 52, 3) := by decide +kernel
theorem d_M_parsed_215 : decode b_M_parsed 215 = .ok (.aload_n 0, 1) := by decide +kernel
theorem d_M_parsed_216 : decode b_M_parsed 216 = .ok (.bipush 47, 2) := by decide +kernel
theorem d_M_parsed_218 : decode b_M_parsed 218 = .ok (.invokevirtual 259, 3) := by decide +kernel
theorem d_M_parsed_221 : decode b_M_parsed 221 = .ok (.ifCond .eq 43, 3) := by decide +kernel
theorem d_M_parsed_224 : decode b_M_parsed 224 = .ok (.aload_n 0, 1) := by decide +kernel
theorem d_M_parsed_225 : decode b_M_parsed 225 = .ok (.getfield 13, 3) := by decide +kernel
theorem d_M_parsed_228 : decode b_M_parsed 228 = .ok (.bipush 21, 2) := by decide +kernel
theorem d_M_parsed_230 : decode b_M_parsed 230 = .ok (.iconst 0, 1) := by decide +kernel
theorem d_M_parsed_231 : decode b_M_parsed 231 = .ok (.iastore, 1) := by decide +kernel
theorem d_M_parsed_232 : decode b_M_parsed 232 = .ok (.aload_n 0, 1) := by decide +kernel
theorem d_M_parsed_233 : decode b_M_parsed 233 = .ok (.bipush 10, 2) := by decide +kernel
theorem d_M_parsed_235 : decode b_M_parsed 235 = .ok (.bipush 21, 2) := by decide +kernel
theorem d_M_parsed_237 : decode b_M_parsed 237 = .ok (.invokevirtual 256, 3) := by decide +kernel
theorem d_M_parsed_240 : decode b_M_parsed 240 = .ok (.aload_n 0, 1) := by decide +kernel
theorem d_M_parsed_241 : decode b_M_parsed 241 = .ok (.getfield 250, 3) := by decide +kernel
theorem d_M_parsed_244 : decode b_M_parsed 244 = .ok (.ifCond .le 18, 3) := by decide +kernel
theorem d_M_parsed_247 : decode b_M_parsed 247 = .ok (.aload_n 0, 1) := by decide +kernel
theorem d_M_parsed_248 : decode b_M_parsed 248 = .ok (.getfield 244, 3) := by decide +kernel
theorem d_M_parsed_251 : decode b_M_parsed 251 = .ok (.aload_n 0, 1) := by decide +kernel
theorem d_M_parsed_252 : decode b_M_parsed 252 = .ok (.getfield 241, 3) := by decide +kernel
theorem d_M_parsed_255 : decode b_M_parsed 255 = .ok (.if_icmp .ne 7, 3) := by decide +kernel
theorem d_M_parsed_258 : decode b_M_parsed 258 = .ok (.iconst 1, 1) := by decide +kernel
theorem d_M_parsed_259 : decode b_M_parsed 259 = .ok (.goto 4, 3) := by decide +kernel
theorem d_M_parsed_262 : decode b_M_parsed 262 = .ok (.iconst (-1), 1) := by decide +kernel
theorem d_M_parsed_263 : decode b_M_parsed 263 = .ok (.ireturn, 1) := by decide +kernel
theorem d_M_parsed_264 : decode b_M_parsed 264 = .ok (.iconst 0, 1) := by decide +kernel
theorem d_M_parsed_265 : decode b_M_parsed 265 = .ok (.istore_n 3, 1) := by decide +kernel
theorem d_M_parsed_266 : decode b_M_parsed 266 = .ok (.aload_n 0, 1) := by decide +kernel
theorem d_M_parsed_267 : decode b_M_parsed 267 = .ok (.bipush 46, 2) := by decide +kernel
theorem d_M_parsed_269 : decode b_M_parsed 269 = .ok (.invokevirtual 259, 3) := by decide +kernel
theorem d_M_parsed_272 : decode b_M_parsed 272 = .ok (.ifCond .eq 16, 3) := by decide +kernel
theorem d_M_parsed_275 : decode b_M_parsed 275 = .ok (.aload_n 0, 1) := by decide +kernel
theorem d_M_parsed_276 : decode b_M_parsed 276 = .ok (.bipush 10, 2) := by decide +kernel
theorem d_M_parsed_278 : decode b_M_parsed 278 = .ok (.bipush 20, 2) := by decide +kernel
theorem d_M_parsed_280 : decode b_M_parsed 280 = .ok (.invokevirtual 256, 3) := by decide +kernel
theorem d_M_parsed_283 : decode b_M_parsed 283 = .ok (.aload_n 0, 1) := by decide +kernel
theorem d_M_parsed_284 : decode b_M_parsed 284 = .ok (.getfield 250, 3) := by decide +kernel
theorem d_M_parsed_287 : decode b_M_parsed 287 = .ok (.istore_n 3, 1) := by decide +kernel
theorem d_M_parsed_288 : decode b_M_parsed 288 = .ok (.iload_n 2, 1) := by decide +kernel
theorem d_M_parsed_289 : decode b_M_parsed 289 = .ok (.ifCond .ne 9, 3) := by decide +kernel
theorem d_M_parsed_292 : decode b_M_parsed 292 = .ok (.iload_n 3, 1) := by decide +kernel
theorem d_M_parsed_293 : decode b_M_parsed 293 = .ok (.ifCond .ne 5, 3) := by decide +kernel
theorem d_M_parsed_296 : decode b_M_parsed 296 = .ok (.iconst (-1), 1) := by decide +kernel
theorem d_M_parsed_297 : decode b_M_parsed 297 = .ok (.ireturn, 1) := by decide +kernel
theorem d_M_parsed_298 : decode b_M_parsed 298 = .ok (.iconst 0, 1) := by decide +kernel
theorem d_M_parsed_299 : decode b_M_parsed 299 = .ok (.istore 4, 2) := by decide +kernel
theorem d_M_parsed_301 : decode b_M_parsed 301 = .ok (.aload_n 0, 1) := by decide +kernel
theorem d_M_parsed_302 : decode b_M_parsed 302 = .ok (.bipush 101, 2) := by decide +kernel
theorem d_M_parsed_304 : decode b_M_parsed 304 = .ok (.invokevirtual 259, 3) := by decide +kernel
theorem d_M_parsed_307 : decode b_M_parsed 307 = .ok (.ifCond .ne 12, 3) := by decide +kernel
theorem d_M_parsed_310 : decode b_M_parsed 310 = .ok (.aload_n 0, 1) := by decide +kernel
theorem d_M_parsed_311 : decode b_M_parsed 311 = .ok (.bipush 69, 2) := by decide +kernel
theorem d_M_parsed_313 : decode b_M_parsed 313 = .ok (.invokevirtual 259, 3) := by decide +kernel
theorem d_M_parsed_316 : decode b_M_parsed 316 = .ok (.ifCond .eq 142, 3) := by decide +kernel
theorem d_M_parsed_319 : decode b_M_parsed 319 = .ok (.aload_n 0, 1) := by decide +kernel
theorem d_M_parsed_320 : decode b_M_parsed 320 = .ok (.aload_n 0, 1) := by decide +kernel
theorem d_M_parsed_321 : decode b_M_parsed 321 = .ok (.getfield 244, 3) := by decide +kernel
theorem d_M_parsed_324 : decode b_M_parsed 324 = .ok (.invokevirtual 247, 3) := by decide +kernel
theorem d_M_parsed_327 : decode b_M_parsed 327 = .ok (.bipush 45, 2) := by decide +kernel
theorem d_M_parsed_329 : decode b_M_parsed 329 = .ok (.if_icmp .ne 7, 3) := by decide +kernel
theorem d_M_parsed_332 : decode b_M_parsed 332 = .ok (.iconst 1, 1) := by decide +kernel
theorem d_M_parsed_333 : decode b_M_parsed 333 = .ok (.goto 4, 3) := by decide +kernel
theorem d_M_parsed_336 : decode b_M_parsed 336 = .ok (.iconst 0, 1) := by decide +kernel
theorem d_M_parsed_337 : decode b_M_parsed 337 = .ok (.istore 5, 2) := by decide +kernel
theorem d_M_parsed_339 : decode b_M_parsed 339 = .ok (.iload 5, 2) := by decide +kernel
theorem d_M_parsed_341 : decode b_M_parsed 341 = .ok (.ifCond .ne 16, 3) := by decide +kernel
theorem d_M_parsed_344 : decode b_M_parsed 344 = .ok (.aload_n 0, 1) := by decide +kernel
theorem d_M_parsed_345 : decode b_M_parsed 345 = .ok (.aload_n 0, 1) := by decide +kernel
theorem d_M_parsed_346 : decode b_M_parsed 346 = .ok (.getfield 244, 3) := by decide +kernel
theorem d_M_parsed_349 : decode b_M_parsed 349 = .ok (.invokevirtual 247, 3) := by decide +kernel
theorem d_M_parsed_352 : decode b_M_parsed 352 = .ok (.bipush 43, 2) := by decide +kernel
theorem d_M_parsed_354 : decode b_M_parsed 354 = .ok (.if_icmp .ne 13, 3) := by decide +kernel
theorem d_M_parsed_357 : decode b_M_parsed 357 = .ok (.aload_n 0, 1) := by decide +kernel
theorem d_M_parsed_358 : decode b_M_parsed 358 = .ok (.dup, 1) := by decide +kernel
theorem d_M_parsed_359 : decode b_M_parsed 359 = .ok (.getfield 244, 3) := by decide +kernel
theorem d_M_parsed_362 : decode b_M_parsed 362 = .ok (.iconst 1, 1) := by decide +kernel
theorem d_M_parsed_363 : decode b_M_parsed 363 = .ok (.iadd, 1) := by decide +kernel
theorem d_M_parsed_364 : decode b_M_parsed 364 = .ok (.putfield 244, 3) := by decide +kernel
theorem d_M_parsed_367 : decode b_M_parsed 367 = .ok (.aload_n 0, 1) := by decide +kernel
theorem d_M_parsed_368 : decode b_M_parsed 368 = .ok (.getfield 244, 3) := by decide +kernel
theorem d_M_parsed_371 : decode b_M_parsed 371 = .ok (.istore 6, 2) := by decide +kernel
theorem d_M_parsed_373 : decode b_M_parsed 373 = .ok (.aload_n 0, 1) := by decide +kernel
theorem d_M_parsed_374 : decode b_M_parsed 374 = .ok (.getfield 244, 3) := by decide +kernel
theorem d_M_parsed_377 : decode b_M_parsed 377 = .ok (.iload 6, 2) := by decide +kernel
theorem d_M_parsed_379 : decode b_M_parsed 379 = .ok (.iconst 3, 1) := by decide +kernel
theorem d_M_parsed_380 : decode b_M_parsed 380 = .ok (.iadd, 1) := by decide +kernel
theorem d_M_parsed_381 : decode b_M_parsed 381 = .ok (.if_icmp .ge 51, 3) := by decide +kernel
theorem d_M_parsed_384 : decode b_M_parsed 384 = .ok (.aload_n 0, 1) := by decide +kernel
theorem d_M_parsed_385 : decode b_M_parsed 385 = .ok (.aload_n 0, 1) := by decide +kernel
theorem d_M_parsed_386 : decode b_M_parsed 386 = .ok (.getfield 244, 3) := by decide +kernel
theorem d_M_parsed_389 : decode b_M_parsed 389 = .ok (.invokevirtual 247, 3) := by decide +kernel
theorem d_M_parsed_392 : decode b_M_parsed 392 = .ok (.bipush 10, 2) := by decide +kernel
theorem d_M_parsed_394 : decode b_M_parsed 394 = .ok (.invokestatic 253, 3) := by decide +kernel
theorem d_M_parsed_397 : decode b_M_parsed 397 = .ok (.ifCond .lt 35, 3) := by decide +kernel
theorem d_M_parsed_400 : decode b_M_parsed 400 = .ok (.bipush 10, 2) := by decide +kernel
theorem d_M_parsed_402 : decode b_M_parsed 402 = .ok (.iload 4, 2) := by decide +kernel
theorem d_M_parsed_404 : decode b_M_parsed 404 = .ok (.imul, 1) := by decide +kernel
theorem d_M_parsed_405 : decode b_M_parsed 405 = .ok (.aload_n 0, 1) := by decide +kernel
theorem d_M_parsed_406 : decode b_M_parsed 406 = .ok (.aload_n 0, 1) := by decide +kernel
theorem d_M_parsed_407 : decode b_M_parsed 407 = .ok (.getfield 244, 3) := by decide +kernel
theorem d_M_parsed_410 : decode b_M_parsed 410 = .ok (.invokevirtual 247, 3) := by decide +kernel
theorem d_M_parsed_413 : decode b_M_parsed 413 = .ok (.iadd, 1) := by decide +kernel
theorem d_M_parsed_414 : decode b_M_parsed 414 = .ok (.bipush 48, 2) := by decide +kernel
theorem d_M_parsed_416 : decode b_M_parsed 416 = .ok (.isub, 1) := by decide +kernel
theorem d_M_parsed_417 : decode b_M_parsed 417 = .ok (.istore 4, 2) := by decide +kernel
theorem d_M_parsed_419 : decode b_M_parsed 419 = .ok (.aload_n 0, 1) := by decide +kernel
theorem d_M_parsed_420 : decode b_M_parsed 420 = .ok (.dup, 1) := by decide +kernel
theorem d_M_parsed_421 : decode b_M_parsed 421 = .ok (.getfield 244, 3) := by decide +kernel
theorem d_M_parsed_424 : decode b_M_parsed 424 = .ok (.iconst 1, 1) := by decide +kernel
theorem d_M_parsed_425 : decode b_M_parsed 425 = .ok (.iadd, 1) := by decide +kernel
theorem d_M_parsed_426 : decode b_M_parsed 426 = .ok (.putfield 244, 3) := by decide +kernel
theorem d_M_parsed_429 : decode b_M_parsed 429 = .ok (.goto (-56), 3) := by decide +kernel
theorem d_M_parsed_432 : decode b_M_parsed 432 = .ok (.aload_n 0, 1) := by decide +kernel
theorem d_M_parsed_433 : decode b_M_parsed 433 = .ok (.getfield 244, 3) := by decide +kernel
theorem d_M_parsed_436 : decode b_M_parsed 436 = .ok (.iload 6, 2) := by decide +kernel
theorem d_M_parsed_438 : decode b_M_parsed 438 = .ok (.if_icmp .ne 5, 3) := by decide +kernel
theorem d_M_parsed_441 : decode b_M_parsed 441 = .ok (.iconst (-1), 1) := by decide +kernel
theorem d_M_parsed_442 : decode b_M_parsed 442 = .ok (.ireturn, 1) := by decide +kernel
theorem d_M_parsed_443 : decode b_M_parsed 443 = .ok (.iload 5, 2) := by decide +kernel
theorem d_M_parsed_445 : decode b_M_parsed 445 = .ok (.ifCond .eq 9, 3) := by decide +kernel
theorem d_M_parsed_448 : decode b_M_parsed 448 = .ok (.iload 4, 2) := by decide +kernel
theorem d_M_parsed_450 : decode b_M_parsed 450 = .ok (.ineg, 1) := by decide +kernel
theorem d_M_parsed_451 : decode b_M_parsed 451 = .ok (.goto 5, 3) := by decide +kernel
theorem d_M_parsed_454 : decode b_M_parsed 454 = .ok (.iload 4, 2) := by decide +kernel
theorem d_M_parsed_456 : decode b_M_parsed 456 = .ok (.istore 4, 2) := by decide +kernel
theorem d_M_parsed_458 : decode b_M_parsed 458 = .ok (.aload_n 0, 1) := by decide +kernel
theorem d_M_parsed_459 : decode b_M_parsed 459 = .ok (.getfield 244, 3) := by decide +kernel
theorem d_M_parsed_462 : decode b_M_parsed 462 = .ok (.aload_n 0, 1) := by decide +kernel
theorem d_M_parsed_463 : decode b_M_parsed 463 = .ok (.getfield 241, 3) := by decide +kernel
theorem d_M_parsed_466 : decode b_M_parsed 466 = .ok (.if_icmp .ge 5, 3) := by decide +kernel
theorem d_M_parsed_469 : decode b_M_parsed 469 = .ok (.iconst (-1), 1) := by decide +kernel
theorem d_M_parsed_470 : decode b_M_parsed 470 = .ok (.ireturn, 1) := by decide +kernel
theorem d_M_parsed_471 : decode b_M_parsed 471 = .ok (.iload 4, 2) := by decide +kernel
theorem d_M_parsed_473 : decode b_M_parsed 473 = .ok (.iload_n 3, 1) := by decide +kernel
theorem d_M_parsed_474 : decode b_M_parsed 474 = .ok (.isub, 1) := by decide +kernel
theorem d_M_parsed_475 : decode b_M_parsed 475 = .ok (.istore 4, 2) := by decide +kernel
theorem d_M_parsed_477 : decode b_M_parsed 477 = .ok (.iload 4, 2) := by decide +kernel
theorem d_M_parsed_479 : decode b_M_parsed 479 = .ok (.bipush 70, 2) := by decide +kernel
theorem d_M_parsed_481 : decode b_M_parsed 481 = .ok (.if_icmp .le 8, 3) := by decide +kernel
theorem d_M_parsed_484 : decode b_M_parsed 484 = .ok (.bipush 70, 2) := by decide +kernel
theorem d_M_parsed_486 : decode b_M_parsed 486 = .ok (.goto 17, 3) := by decide +kernel
theorem d_M_parsed_489 : decode b_M_parsed 489 = .ok (.iload 4, 2) := by decide +kernel
theorem d_M_parsed_491 : decode b_M_parsed 491 = .ok (.bipush (-110), 2) := by decide +kernel
theorem d_M_parsed_493 : decode b_M_parsed 493 = .ok (.if_icmp .ge 8, 3) := by decide +kernel
theorem d_M_parsed_496 : decode b_M_parsed 496 = .ok (.bipush (-110), 2) := by decide +kernel
theorem d_M_parsed_498 : decode b_M_parsed 498 = .ok (.goto 5, 3) := by decide +kernel
theorem d_M_parsed_501 : decode b_M_parsed 501 = .ok (.iload 4, 2) := by decide +kernel
theorem d_M_parsed_503 : decode b_M_parsed 503 = .ok (.istore 4, 2) := by decide +kernel
theorem d_M_parsed_505 : decode b_M_parsed 505 = .ok (.iload 4, 2) := by decide +kernel
theorem d_M_parsed_507 : decode b_M_parsed 507 = .ok (.ifCond .le 14, 3) := by decide +kernel
theorem d_M_parsed_510 : decode b_M_parsed 510 = .ok (.aload_n 0, 1) := by decide +kernel
theorem d_M_parsed_511 : decode b_M_parsed 511 = .ok (.bipush 20, 2) := by decide +kernel
theorem d_M_parsed_513 : decode b_M_parsed 513 = .ok (.iload 4, 2) := by decide +kernel
theorem d_M_parsed_515 : decode b_M_parsed 515 = .ok (.invokevirtual 208, 3) := by decide +kernel
theorem d_M_parsed_518 : decode b_M_parsed 518 = .ok (.goto 12, 3) := by decide +kernel
theorem d_M_parsed_521 : decode b_M_parsed 521 = .ok (.aload_n 0, 1) := by decide +kernel
theorem d_M_parsed_522 : decode b_M_parsed 522 = .ok (.bipush 21, 2) := by decide +kernel
theorem d_M_parsed_524 : decode b_M_parsed 524 = .ok (.iload 4, 2) := by decide +kernel
theorem d_M_parsed_526 : decode b_M_parsed 526 = .ok (.ineg, 1) := by decide +kernel
theorem d_M_parsed_527 : decode b_M_parsed 527 = .ok (.invokevirtual 208, 3) := by decide +kernel
theorem d_M_parsed_530 : decode b_M_parsed 530 = .ok (.iconst 2, 1) := by decide +kernel
theorem d_M_parsed_531 : decode b_M_parsed 531 = .ok (.ireturn, 1) := by decide +kernel
theorem d_M_read_0 : decode b_M_read 0 = .ok (.aload_n 0, 1) := by decide +kernel
theorem d_M_read_1 : decode b_M_read 1 = .ok (.iconst 0, 1) := by decide +kernel
theorem d_M_read_2 : decode b_M_read 2 = .ok (.putfield 39, 3) := by decide +kernel
theorem d_M_read_5 : decode b_M_read 5 = .ok (.iload_n 1, 1) := by decide +kernel
theorem d_M_read_6 : decode b_M_read 6 = .ok (.iconst 0, 1) := by decide +kernel
theorem d_M_read_7 : decode b_M_read 7 = .ok (.bipush 7, 2) := by decide +kernel
theorem d_M_read_9 : decode b_M_read 9 = .ok (.invokestatic 138, 3) := by decide +kernel
theorem d_M_read_12 : decode b_M_read 12 = .ok (.ifCond .eq 10, 3) := by decide +kernel
theorem d_M_read_15 : decode b_M_read 15 = .ok (.aload_n 0, 1) := by decide +kernel
theorem d_M_read_16 : decode b_M_read 16 = .ok (.invokevirtual 261, 3) := by decide +kernel
theorem d_M_read_19 : decode b_M_read 19 = .ok (.goto 4, 3) := by decide +kernel
theorem d_M_read_22 : decode b_M_read 22 = .ok (.iconst (-1), 1) := by decide +kernel
theorem d_M_read_23 : decode b_M_read 23 = .ok (.istore_n 2, 1) := by decide +kernel
theorem d_M_read_24 : decode b_M_read 24 = .ok (.aload_n 0, 1) := by decide +kernel
theorem d_M_read_25 : decode b_M_read 25 = .ok (.iconst 0, 1) := by decide +kernel
theorem d_M_read_26 : decode b_M_read 26 = .ok (.putfield 241, 3) := by decide +kernel
theorem d_M_read_29 : decode b_M_read 29 = .ok (.iload_n 2, 1) := by decide +kernel
theorem d_M_read_30 : decode b_M_read 30 = .ok (.ifCond .ge 9, 3) := by decide +kernel
theorem d_M_read_33 : decode b_M_read 33 = .ok (.aload_n 0, 1) := by decide +kernel
theorem d_M_read_34 : decode b_M_read 34 = .ok (.iconst 1, 1) := by decide +kernel
theorem d_M_read_35 : decode b_M_read 35 = .ok (.invokevirtual 135, 3) := by decide +kernel
theorem d_M_read_38 : decode b_M_read 38 = .ok (.ireturn, 1) := by decide +kernel
theorem d_M_read_39 : decode b_M_read 39 = .ok (.aload_n 0, 1) := by decide +kernel
theorem d_M_read_40 : decode b_M_read 40 = .ok (.bipush 21, 2) := by decide +kernel
theorem d_M_read_42 : decode b_M_read 42 = .ok (.invokevirtual 75, 3) := by decide +kernel
theorem d_M_read_45 : decode b_M_read 45 = .ok (.ifCond .eq 9, 3) := by decide +kernel
theorem d_M_read_48 : decode b_M_read 48 = .ok (.aload_n 0, 1) := by decide +kernel
theorem d_M_read_49 : decode b_M_read 49 = .ok (.iconst 2, 1) := by decide +kernel
theorem d_M_read_50 : decode b_M_read 50 = .ok (.invokevirtual 135, 3) := by decide +kernel
theorem d_M_read_53 : decode b_M_read 53 = .ok (.ireturn, 1) := by decide +kernel
theorem d_M_read_54 : decode b_M_read 54 = .ok (.aload_n 0, 1) := by decide +kernel
theorem d_M_read_55 : decode b_M_read 55 = .ok (.iload_n 2, 1) := by decide +kernel
theorem d_M_read_56 : decode b_M_read 56 = .ok (.iload_n 1, 1) := by decide +kernel
theorem d_M_read_57 : decode b_M_read 57 = .ok (.iconst 3, 1) := by decide +kernel
theorem d_M_read_58 : decode b_M_read 58 = .ok (.invokevirtual 142, 3) := by decide +kernel
theorem d_M_read_61 : decode b_M_read 61 = .ok (.ireturn, 1) := by decide +kernel
theorem d_M_say_0 : decode b_M_say 0 = .ok (.aload_n 0, 1) := by decide +kernel
theorem d_M_say_1 : decode b_M_say 1 = .ok (.getfield 36, 3) := by decide +kernel
theorem d_M_say_4 : decode b_M_say 4 = .ok (.aload_n 0, 1) := by decide +kernel
theorem d_M_say_5 : decode b_M_say 5 = .ok (.getfield 265, 3) := by decide +kernel
theorem d_M_say_8 : decode b_M_say 8 = .ok (.iload_n 1, 1) := by decide +kernel
theorem d_M_say_9 : decode b_M_say 9 = .ok (.iastore, 1) := by decide +kernel
theorem d_M_say_10 : decode b_M_say 10 = .ok (.aload_n 0, 1) := by decide +kernel
theorem d_M_say_11 : decode b_M_say 11 = .ok (.dup, 1) := by decide +kernel
theorem d_M_say_12 : decode b_M_say 12 = .ok (.getfield 265, 3) := by decide +kernel
theorem d_M_say_15 : decode b_M_say 15 = .ok (.iconst 1, 1) := by decide +kernel
theorem d_M_say_16 : decode b_M_say 16 = .ok (.iadd, 1) := by decide +kernel
theorem d_M_say_17 : decode b_M_say 17 = .ok (.putfield 265, 3) := by decide +kernel
theorem d_M_say_20 : decode b_M_say 20 = .ok (.return_, 1) := by decide +kernel
theorem d_M_spell_0 : decode b_M_spell 0 = .ok (.aload_n 0, 1) := by decide +kernel
theorem d_M_spell_1 : decode b_M_spell 1 = .ok (.iload_n 1, 1) := by decide +kernel
theorem d_M_spell_2 : decode b_M_spell 2 = .ok (.bipush 29, 2) := by decide +kernel
theorem d_M_spell_4 : decode b_M_spell 4 = .ok (.invokevirtual 58, 3) := by decide +kernel
theorem d_M_spell_7 : decode b_M_spell 7 = .ok (.aload_n 0, 1) := by decide +kernel
theorem d_M_spell_8 : decode b_M_spell 8 = .ok (.iconst 0, 1) := by decide +kernel
theorem d_M_spell_9 : decode b_M_spell 9 = .ok (.putfield 268, 3) := by decide +kernel
theorem d_M_spell_12 : decode b_M_spell 12 = .ok (.aload_n 0, 1) := by decide +kernel
theorem d_M_spell_13 : decode b_M_spell 13 = .ok (.bipush 29, 2) := by decide +kernel
theorem d_M_spell_15 : decode b_M_spell 15 = .ok (.invokevirtual 75, 3) := by decide +kernel
theorem d_M_spell_18 : decode b_M_spell 18 = .ok (.ifCond .eq 11, 3) := by decide +kernel
theorem d_M_spell_21 : decode b_M_spell 21 = .ok (.aload_n 0, 1) := by decide +kernel
theorem d_M_spell_22 : decode b_M_spell 22 = .ok (.getfield 268, 3) := by decide +kernel
theorem d_M_spell_25 : decode b_M_spell 25 = .ok (.iload_n 3, 1) := by decide +kernel
theorem d_M_spell_26 : decode b_M_spell 26 = .ok (.if_icmp .ge 32, 3) := by decide +kernel
theorem d_M_spell_29 : decode b_M_spell 29 = .ok (.aload_n 0, 1) := by decide +kernel
theorem d_M_spell_30 : decode b_M_spell 30 = .ok (.getfield 33, 3) := by decide +kernel
theorem d_M_spell_33 : decode b_M_spell 33 = .ok (.aload_n 0, 1) := by decide +kernel
theorem d_M_spell_34 : decode b_M_spell 34 = .ok (.getfield 268, 3) := by decide +kernel
theorem d_M_spell_37 : decode b_M_spell 37 = .ok (.aload_n 0, 1) := by decide +kernel
theorem d_M_spell_38 : decode b_M_spell 38 = .ok (.bipush 29, 2) := by decide +kernel
theorem d_M_spell_40 : decode b_M_spell 40 = .ok (.iload_n 2, 1) := by decide +kernel
theorem d_M_spell_41 : decode b_M_spell 41 = .ok (.invokevirtual 271, 3) := by decide +kernel
theorem d_M_spell_44 : decode b_M_spell 44 = .ok (.iastore, 1) := by decide +kernel
theorem d_M_spell_45 : decode b_M_spell 45 = .ok (.aload_n 0, 1) := by decide +kernel
theorem d_M_spell_46 : decode b_M_spell 46 = .ok (.dup, 1) := by decide +kernel
theorem d_M_spell_47 : decode b_M_spell 47 = .ok (.getfield 268, 3) := by decide +kernel
theorem d_M_spell_50 : decode b_M_spell 50 = .ok (.iconst 1, 1) := by decide +kernel
theorem d_M_spell_51 : decode b_M_spell 51 = .ok (.iadd, 1) := by decide +kernel
theorem d_M_spell_52 : decode b_M_spell 52 = .ok (.putfield 268, 3) := by decide +kernel
theorem d_M_spell_55 : decode b_M_spell 55 = .ok (.goto (-43), 3) := by decide +kernel
theorem d_M_spell_58 : decode b_M_spell 58 = .ok (.return_, 1) := by decide +kernel
theorem d_M_sign_0 : decode b_M_sign 0 = .ok (.aload_n 0, 1) := by decide +kernel
theorem d_M_sign_1 : decode b_M_sign 1 = .ok (.getfield 33, 3) := by decide +kernel
theorem d_M_sign_4 : decode b_M_sign 4 = .ok (.iload_n 1, 1) := by decide +kernel
theorem d_M_sign_5 : decode b_M_sign 5 = .ok (.iaload, 1) := by decide +kernel
theorem d_M_sign_6 : decode b_M_sign 6 = .ok (.bipush 10, 2) := by decide +kernel
theorem d_M_sign_8 : decode b_M_sign 8 = .ok (.if_icmp .ge 15, 3) := by decide +kernel
theorem d_M_sign_11 : decode b_M_sign 11 = .ok (.bipush 48, 2) := by decide +kernel
theorem d_M_sign_13 : decode b_M_sign 13 = .ok (.aload_n 0, 1) := by decide +kernel
theorem d_M_sign_14 : decode b_M_sign 14 = .ok (.getfield 33, 3) := by decide +kernel
theorem d_M_sign_17 : decode b_M_sign 17 = .ok (.iload_n 1, 1) := by decide +kernel
theorem d_M_sign_18 : decode b_M_sign 18 = .ok (.iaload, 1) := by decide +kernel
theorem d_M_sign_19 : decode b_M_sign 19 = .ok (.iadd, 1) := by decide +kernel
theorem d_M_sign_20 : decode b_M_sign 20 = .ok (.goto 24, 3) := by decide +kernel
theorem d_M_sign_23 : decode b_M_sign 23 = .ok (.iload_n 2, 1) := by decide +kernel
theorem d_M_sign_24 : decode b_M_sign 24 = .ok (.ifCond .eq 8, 3) := by decide +kernel
theorem d_M_sign_27 : decode b_M_sign 27 = .ok (.bipush 65, 2) := by decide +kernel
theorem d_M_sign_29 : decode b_M_sign 29 = .ok (.goto 5, 3) := by decide +kernel
theorem d_M_sign_32 : decode b_M_sign 32 = .ok (.bipush 97, 2) := by decide +kernel
theorem d_M_sign_34 : decode b_M_sign 34 = .ok (.aload_n 0, 1) := by decide +kernel
theorem d_M_sign_35 : decode b_M_sign 35 = .ok (.getfield 33, 3) := by decide +kernel
theorem d_M_sign_38 : decode b_M_sign 38 = .ok (.iload_n 1, 1) := by decide +kernel
theorem d_M_sign_39 : decode b_M_sign 39 = .ok (.iaload, 1) := by decide +kernel
theorem d_M_sign_40 : decode b_M_sign 40 = .ok (.iadd, 1) := by decide +kernel
theorem d_M_sign_41 : decode b_M_sign 41 = .ok (.bipush 10, 2) := by decide +kernel
theorem d_M_sign_43 : decode b_M_sign 43 = .ok (.isub, 1) := by decide +kernel
theorem d_M_sign_44 : decode b_M_sign 44 = .ok (.ireturn, 1) := by decide +kernel
theorem d_M_sayDigits_0 : decode b_M_sayDigits 0 = .ok (.iload_n 1, 1) := by decide +kernel
theorem d_M_sayDigits_1 : decode b_M_sayDigits 1 = .ok (.istore 6, 2) := by decide +kernel
theorem d_M_sayDigits_3 : decode b_M_sayDigits 3 = .ok (.iload 6, 2) := by decide +kernel
theorem d_M_sayDigits_5 : decode b_M_sayDigits 5 = .ok (.iload_n 2, 1) := by decide +kernel
theorem d_M_sayDigits_6 : decode b_M_sayDigits 6 = .ok (.if_icmp .lt 47, 3) := by decide +kernel
theorem d_M_sayDigits_9 : decode b_M_sayDigits 9 = .ok (.aload_n 0, 1) := by decide +kernel
theorem d_M_sayDigits_10 : decode b_M_sayDigits 10 = .ok (.aload_n 0, 1) := by decide +kernel
theorem d_M_sayDigits_11 : decode b_M_sayDigits 11 = .ok (.iload 6, 2) := by decide +kernel
theorem d_M_sayDigits_13 : decode b_M_sayDigits 13 = .ok (.iload 5, 2) := by decide +kernel
theorem d_M_sayDigits_15 : decode b_M_sayDigits 15 = .ok (.invokevirtual 274, 3) := by decide +kernel
theorem d_M_sayDigits_18 : decode b_M_sayDigits 18 = .ok (.invokevirtual 278, 3) := by decide +kernel
theorem d_M_sayDigits_21 : decode b_M_sayDigits 21 = .ok (.iload 4, 2) := by decide +kernel
theorem d_M_sayDigits_23 : decode b_M_sayDigits 23 = .ok (.ifCond .le 24, 3) := by decide +kernel
theorem d_M_sayDigits_26 : decode b_M_sayDigits 26 = .ok (.iload 6, 2) := by decide +kernel
theorem d_M_sayDigits_28 : decode b_M_sayDigits 28 = .ok (.iload_n 2, 1) := by decide +kernel
theorem d_M_sayDigits_29 : decode b_M_sayDigits 29 = .ok (.if_icmp .le 18, 3) := by decide +kernel
theorem d_M_sayDigits_32 : decode b_M_sayDigits 32 = .ok (.iload 6, 2) := by decide +kernel
theorem d_M_sayDigits_34 : decode b_M_sayDigits 34 = .ok (.iload_n 2, 1) := by decide +kernel
theorem d_M_sayDigits_35 : decode b_M_sayDigits 35 = .ok (.isub, 1) := by decide +kernel
theorem d_M_sayDigits_36 : decode b_M_sayDigits 36 = .ok (.iload_n 3, 1) := by decide +kernel
theorem d_M_sayDigits_37 : decode b_M_sayDigits 37 = .ok (.irem, 1) := by decide +kernel
theorem d_M_sayDigits_38 : decode b_M_sayDigits 38 = .ok (.ifCond .ne 9, 3) := by decide +kernel
theorem d_M_sayDigits_41 : decode b_M_sayDigits 41 = .ok (.aload_n 0, 1) := by decide +kernel
theorem d_M_sayDigits_42 : decode b_M_sayDigits 42 = .ok (.iload 4, 2) := by decide +kernel
theorem d_M_sayDigits_44 : decode b_M_sayDigits 44 = .ok (.invokevirtual 278, 3) := by decide +kernel
theorem d_M_sayDigits_47 : decode b_M_sayDigits 47 = .ok (.iinc 6 (-1), 3) := by decide +kernel
theorem d_M_sayDigits_50 : decode b_M_sayDigits 50 = .ok (.goto (-47), 3) := by decide +kernel
theorem d_M_sayDigits_53 : decode b_M_sayDigits 53 = .ok (.return_, 1) := by decide +kernel
theorem d_M_sayExponent_0 : decode b_M_sayExponent 0 = .ok (.aload_n 0, 1) := by decide +kernel
theorem d_M_sayExponent_1 : decode b_M_sayExponent 1 = .ok (.iload_n 2, 1) := by decide +kernel
theorem d_M_sayExponent_2 : decode b_M_sayExponent 2 = .ok (.invokevirtual 278, 3) := by decide +kernel
theorem d_M_sayExponent_5 : decode b_M_sayExponent 5 = .ok (.aload_n 0, 1) := by decide +kernel
theorem d_M_sayExponent_6 : decode b_M_sayExponent 6 = .ok (.iload_n 1, 1) := by decide +kernel
theorem d_M_sayExponent_7 : decode b_M_sayExponent 7 = .ok (.ifCond .ge 8, 3) := by decide +kernel
theorem d_M_sayExponent_10 : decode b_M_sayExponent 10 = .ok (.bipush 45, 2) := by decide +kernel
theorem d_M_sayExponent_12 : decode b_M_sayExponent 12 = .ok (.goto 5, 3) := by decide +kernel
theorem d_M_sayExponent_15 : decode b_M_sayExponent 15 = .ok (.bipush 43, 2) := by decide +kernel
theorem d_M_sayExponent_17 : decode b_M_sayExponent 17 = .ok (.invokevirtual 278, 3) := by decide +kernel
theorem d_M_sayExponent_20 : decode b_M_sayExponent 20 = .ok (.iload_n 1, 1) := by decide +kernel
theorem d_M_sayExponent_21 : decode b_M_sayExponent 21 = .ok (.ifCond .ge 8, 3) := by decide +kernel
theorem d_M_sayExponent_24 : decode b_M_sayExponent 24 = .ok (.iload_n 1, 1) := by decide +kernel
theorem d_M_sayExponent_25 : decode b_M_sayExponent 25 = .ok (.ineg, 1) := by decide +kernel
theorem d_M_sayExponent_26 : decode b_M_sayExponent 26 = .ok (.goto 4, 3) := by decide +kernel
theorem d_M_sayExponent_29 : decode b_M_sayExponent 29 = .ok (.iload_n 1, 1) := by decide +kernel
theorem d_M_sayExponent_30 : decode b_M_sayExponent 30 = .ok (.istore_n 3, 1) := by decide +kernel
theorem d_M_sayExponent_31 : decode b_M_sayExponent 31 = .ok (.aload_n 0, 1) := by decide +kernel
theorem d_M_sayExponent_32 : decode b_M_sayExponent 32 = .ok (.bipush 48, 2) := by decide +kernel
theorem d_M_sayExponent_34 : decode b_M_sayExponent 34 = .ok (.iload_n 3, 1) := by decide +kernel
theorem d_M_sayExponent_35 : decode b_M_sayExponent 35 = .ok (.bipush 10, 2) := by decide +kernel
theorem d_M_sayExponent_37 : decode b_M_sayExponent 37 = .ok (.idiv, 1) := by decide +kernel
theorem d_M_sayExponent_38 : decode b_M_sayExponent 38 = .ok (.iadd, 1) := by decide +kernel
theorem d_M_sayExponent_39 : decode b_M_sayExponent 39 = .ok (.invokevirtual 278, 3) := by decide +kernel
theorem d_M_sayExponent_42 : decode b_M_sayExponent 42 = .ok (.aload_n 0, 1) := by decide +kernel
theorem d_M_sayExponent_43 : decode b_M_sayExponent 43 = .ok (.bipush 48, 2) := by decide +kernel
theorem d_M_sayExponent_45 : decode b_M_sayExponent 45 = .ok (.iload_n 3, 1) := by decide +kernel
theorem d_M_sayExponent_46 : decode b_M_sayExponent 46 = .ok (.bipush 10, 2) := by decide +kernel
theorem d_M_sayExponent_48 : decode b_M_sayExponent 48 = .ok (.irem, 1) := by decide +kernel
theorem d_M_sayExponent_49 : decode b_M_sayExponent 49 = .ok (.iadd, 1) := by decide +kernel
theorem d_M_sayExponent_50 : decode b_M_sayExponent 50 = .ok (.invokevirtual 278, 3) := by decide +kernel
theorem d_M_sayExponent_53 : decode b_M_sayExponent 53 = .ok (.return_, 1) := by decide +kernel
theorem d_M_reaches_0 : decode b_M_reaches 0 = .ok (.aload_n 0, 1) := by decide +kernel
theorem d_M_reaches_1 : decode b_M_reaches 1 = .ok (.bipush 31, 2) := by decide +kernel
theorem d_M_reaches_3 : decode b_M_reaches 3 = .ok (.bipush 22, 2) := by decide +kernel
theorem d_M_reaches_5 : decode b_M_reaches 5 = .ok (.invokevirtual 58, 3) := by decide +kernel
theorem d_M_reaches_8 : decode b_M_reaches 8 = .ok (.aload_n 0, 1) := by decide +kernel
theorem d_M_reaches_9 : decode b_M_reaches 9 = .ok (.bipush 28, 2) := by decide +kernel
theorem d_M_reaches_11 : decode b_M_reaches 11 = .ok (.bipush 23, 2) := by decide +kernel
theorem d_M_reaches_13 : decode b_M_reaches 13 = .ok (.invokevirtual 58, 3) := by decide +kernel
theorem d_M_reaches_16 : decode b_M_reaches 16 = .ok (.iload_n 1, 1) := by decide +kernel
theorem d_M_reaches_17 : decode b_M_reaches 17 = .ok (.ifCond .le 13, 3) := by decide +kernel
theorem d_M_reaches_20 : decode b_M_reaches 20 = .ok (.aload_n 0, 1) := by decide +kernel
theorem d_M_reaches_21 : decode b_M_reaches 21 = .ok (.bipush 23, 2) := by decide +kernel
theorem d_M_reaches_23 : decode b_M_reaches 23 = .ok (.iload_n 1, 1) := by decide +kernel
theorem d_M_reaches_24 : decode b_M_reaches 24 = .ok (.invokevirtual 208, 3) := by decide +kernel
theorem d_M_reaches_27 : decode b_M_reaches 27 = .ok (.goto 11, 3) := by decide +kernel
theorem d_M_reaches_30 : decode b_M_reaches 30 = .ok (.aload_n 0, 1) := by decide +kernel
theorem d_M_reaches_31 : decode b_M_reaches 31 = .ok (.bipush 22, 2) := by decide +kernel
theorem d_M_reaches_33 : decode b_M_reaches 33 = .ok (.iload_n 1, 1) := by decide +kernel
theorem d_M_reaches_34 : decode b_M_reaches 34 = .ok (.ineg, 1) := by decide +kernel
theorem d_M_reaches_35 : decode b_M_reaches 35 = .ok (.invokevirtual 208, 3) := by decide +kernel
theorem d_M_reaches_38 : decode b_M_reaches 38 = .ok (.aload_n 0, 1) := by decide +kernel
theorem d_M_reaches_39 : decode b_M_reaches 39 = .ok (.bipush 22, 2) := by decide +kernel
theorem d_M_reaches_41 : decode b_M_reaches 41 = .ok (.bipush 23, 2) := by decide +kernel
theorem d_M_reaches_43 : decode b_M_reaches 43 = .ok (.invokevirtual 105, 3) := by decide +kernel
theorem d_M_reaches_46 : decode b_M_reaches 46 = .ok (.ifCond .lt 7, 3) := by decide +kernel
theorem d_M_reaches_49 : decode b_M_reaches 49 = .ok (.iconst 1, 1) := by decide +kernel
theorem d_M_reaches_50 : decode b_M_reaches 50 = .ok (.goto 4, 3) := by decide +kernel
theorem d_M_reaches_53 : decode b_M_reaches 53 = .ok (.iconst 0, 1) := by decide +kernel
theorem d_M_reaches_54 : decode b_M_reaches 54 = .ok (.ireturn, 1) := by decide +kernel
theorem d_M_exponent_0 : decode b_M_exponent 0 = .ok (.aload_n 0, 1) := by decide +kernel
theorem d_M_exponent_1 : decode b_M_exponent 1 = .ok (.bipush 31, 2) := by decide +kernel
theorem d_M_exponent_3 : decode b_M_exponent 3 = .ok (.invokevirtual 62, 3) := by decide +kernel
theorem d_M_exponent_6 : decode b_M_exponent 6 = .ok (.aload_n 0, 1) := by decide +kernel
theorem d_M_exponent_7 : decode b_M_exponent 7 = .ok (.bipush 28, 2) := by decide +kernel
theorem d_M_exponent_9 : decode b_M_exponent 9 = .ok (.invokevirtual 62, 3) := by decide +kernel
theorem d_M_exponent_12 : decode b_M_exponent 12 = .ok (.isub, 1) := by decide +kernel
theorem d_M_exponent_13 : decode b_M_exponent 13 = .ok (.sipush 30103, 3) := by decide +kernel
theorem d_M_exponent_16 : decode b_M_exponent 16 = .ok (.imul, 1) := by decide +kernel
theorem d_M_exponent_17 : decode b_M_exponent 17 = .ok (.ldc_w 281, 3) := by decide +kernel
theorem d_M_exponent_20 : decode b_M_exponent 20 = .ok (.idiv, 1) := by decide +kernel
theorem d_M_exponent_21 : decode b_M_exponent 21 = .ok (.istore_n 1, 1) := by decide +kernel
theorem d_M_exponent_22 : decode b_M_exponent 22 = .ok (.aload_n 0, 1) := by decide +kernel
theorem d_M_exponent_23 : decode b_M_exponent 23 = .ok (.iload_n 1, 1) := by decide +kernel
theorem d_M_exponent_24 : decode b_M_exponent 24 = .ok (.invokevirtual 282, 3) := by decide +kernel
theorem d_M_exponent_27 : decode b_M_exponent 27 = .ok (.ifCond .ne 9, 3) := by decide +kernel
theorem d_M_exponent_30 : decode b_M_exponent 30 = .ok (.iinc 1 (-1), 3) := by decide +kernel
theorem d_M_exponent_33 : decode b_M_exponent 33 = .ok (.goto (-11), 3) := by decide +kernel
theorem d_M_exponent_36 : decode b_M_exponent 36 = .ok (.aload_n 0, 1) := by decide +kernel
theorem d_M_exponent_37 : decode b_M_exponent 37 = .ok (.iload_n 1, 1) := by decide +kernel
theorem d_M_exponent_38 : decode b_M_exponent 38 = .ok (.iconst 1, 1) := by decide +kernel
theorem d_M_exponent_39 : decode b_M_exponent 39 = .ok (.iadd, 1) := by decide +kernel
theorem d_M_exponent_40 : decode b_M_exponent 40 = .ok (.invokevirtual 282, 3) := by decide +kernel
theorem d_M_exponent_43 : decode b_M_exponent 43 = .ok (.ifCond .eq 9, 3) := by decide +kernel
theorem d_M_exponent_46 : decode b_M_exponent 46 = .ok (.iinc 1 1, 3) := by decide +kernel
theorem d_M_exponent_49 : decode b_M_exponent 49 = .ok (.goto (-13), 3) := by decide +kernel
theorem d_M_exponent_52 : decode b_M_exponent 52 = .ok (.iload_n 1, 1) := by decide +kernel
theorem d_M_exponent_53 : decode b_M_exponent 53 = .ok (.ireturn, 1) := by decide +kernel
theorem d_M_moved_0 : decode b_M_moved 0 = .ok (.aload_n 0, 1) := by decide +kernel
theorem d_M_moved_1 : decode b_M_moved 1 = .ok (.bipush 31, 2) := by decide +kernel
theorem d_M_moved_3 : decode b_M_moved 3 = .ok (.bipush 22, 2) := by decide +kernel
theorem d_M_moved_5 : decode b_M_moved 5 = .ok (.invokevirtual 58, 3) := by decide +kernel
theorem d_M_moved_8 : decode b_M_moved 8 = .ok (.aload_n 0, 1) := by decide +kernel
theorem d_M_moved_9 : decode b_M_moved 9 = .ok (.bipush 28, 2) := by decide +kernel
theorem d_M_moved_11 : decode b_M_moved 11 = .ok (.bipush 23, 2) := by decide +kernel
theorem d_M_moved_13 : decode b_M_moved 13 = .ok (.invokevirtual 58, 3) := by decide +kernel
theorem d_M_moved_16 : decode b_M_moved 16 = .ok (.iload_n 1, 1) := by decide +kernel
theorem d_M_moved_17 : decode b_M_moved 17 = .ok (.ifCond .le 13, 3) := by decide +kernel
theorem d_M_moved_20 : decode b_M_moved 20 = .ok (.aload_n 0, 1) := by decide +kernel
theorem d_M_moved_21 : decode b_M_moved 21 = .ok (.bipush 22, 2) := by decide +kernel
theorem d_M_moved_23 : decode b_M_moved 23 = .ok (.iload_n 1, 1) := by decide +kernel
theorem d_M_moved_24 : decode b_M_moved 24 = .ok (.invokevirtual 208, 3) := by decide +kernel
theorem d_M_moved_27 : decode b_M_moved 27 = .ok (.goto 11, 3) := by decide +kernel
theorem d_M_moved_30 : decode b_M_moved 30 = .ok (.aload_n 0, 1) := by decide +kernel
theorem d_M_moved_31 : decode b_M_moved 31 = .ok (.bipush 23, 2) := by decide +kernel
theorem d_M_moved_33 : decode b_M_moved 33 = .ok (.iload_n 1, 1) := by decide +kernel
theorem d_M_moved_34 : decode b_M_moved 34 = .ok (.ineg, 1) := by decide +kernel
theorem d_M_moved_35 : decode b_M_moved 35 = .ok (.invokevirtual 208, 3) := by decide +kernel
theorem d_M_moved_38 : decode b_M_moved 38 = .ok (.return_, 1) := by decide +kernel
theorem d_M_leads_0 : decode b_M_leads 0 = .ok (.aload_n 0, 1) := by decide +kernel
theorem d_M_leads_1 : decode b_M_leads 1 = .ok (.bipush 27, 2) := by decide +kernel
theorem d_M_leads_3 : decode b_M_leads 3 = .ok (.bipush 20, 2) := by decide +kernel
theorem d_M_leads_5 : decode b_M_leads 5 = .ok (.invokevirtual 58, 3) := by decide +kernel
theorem d_M_leads_8 : decode b_M_leads 8 = .ok (.aload_n 0, 1) := by decide +kernel
theorem d_M_leads_9 : decode b_M_leads 9 = .ok (.bipush 21, 2) := by decide +kernel
theorem d_M_leads_11 : decode b_M_leads 11 = .ok (.lconst 1, 1) := by decide +kernel
theorem d_M_leads_12 : decode b_M_leads 12 = .ok (.invokevirtual 82, 3) := by decide +kernel
theorem d_M_leads_15 : decode b_M_leads 15 = .ok (.iload_n 2, 1) := by decide +kernel
theorem d_M_leads_16 : decode b_M_leads 16 = .ok (.ifCond .le 13, 3) := by decide +kernel
theorem d_M_leads_19 : decode b_M_leads 19 = .ok (.aload_n 0, 1) := by decide +kernel
theorem d_M_leads_20 : decode b_M_leads 20 = .ok (.bipush 20, 2) := by decide +kernel
theorem d_M_leads_22 : decode b_M_leads 22 = .ok (.iload_n 2, 1) := by decide +kernel
theorem d_M_leads_23 : decode b_M_leads 23 = .ok (.invokevirtual 208, 3) := by decide +kernel
theorem d_M_leads_26 : decode b_M_leads 26 = .ok (.goto 11, 3) := by decide +kernel
theorem d_M_leads_29 : decode b_M_leads 29 = .ok (.aload_n 0, 1) := by decide +kernel
theorem d_M_leads_30 : decode b_M_leads 30 = .ok (.bipush 21, 2) := by decide +kernel
theorem d_M_leads_32 : decode b_M_leads 32 = .ok (.iload_n 2, 1) := by decide +kernel
theorem d_M_leads_33 : decode b_M_leads 33 = .ok (.ineg, 1) := by decide +kernel
theorem d_M_leads_34 : decode b_M_leads 34 = .ok (.invokevirtual 208, 3) := by decide +kernel
theorem d_M_leads_37 : decode b_M_leads 37 = .ok (.aload_n 0, 1) := by decide +kernel
theorem d_M_leads_38 : decode b_M_leads 38 = .ok (.bipush 20, 2) := by decide +kernel
theorem d_M_leads_40 : decode b_M_leads 40 = .ok (.bipush 21, 2) := by decide +kernel
theorem d_M_leads_42 : decode b_M_leads 42 = .ok (.invokevirtual 118, 3) := by decide +kernel
theorem d_M_leads_45 : decode b_M_leads 45 = .ok (.dstore_n 3, 1) := by decide +kernel
theorem d_M_leads_46 : decode b_M_leads 46 = .ok (.aload_n 0, 1) := by decide +kernel
theorem d_M_leads_47 : decode b_M_leads 47 = .ok (.getfield 94, 3) := by decide +kernel
theorem d_M_leads_50 : decode b_M_leads 50 = .ok (.ifCond .ne 18, 3) := by decide +kernel
theorem d_M_leads_53 : decode b_M_leads 53 = .ok (.dload_n 3, 1) := by decide +kernel
theorem d_M_leads_54 : decode b_M_leads 54 = .ok (.aload_n 0, 1) := by decide +kernel
theorem d_M_leads_55 : decode b_M_leads 55 = .ok (.getfield 23, 3) := by decide +kernel
theorem d_M_leads_58 : decode b_M_leads 58 = .ok (.iload_n 1, 1) := by decide +kernel
theorem d_M_leads_59 : decode b_M_leads 59 = .ok (.daload, 1) := by decide +kernel
theorem d_M_leads_60 : decode b_M_leads 60 = .ok (.dcmp .l, 1) := by decide +kernel
theorem d_M_leads_61 : decode b_M_leads 61 = .ok (.ifCond .ne 7, 3) := by decide +kernel
theorem d_M_leads_64 : decode b_M_leads 64 = .ok (.iconst 1, 1) := by decide +kernel
theorem d_M_leads_65 : decode b_M_leads 65 = .ok (.goto 4, 3) := by decide +kernel
theorem d_M_leads_68 : decode b_M_leads 68 = .ok (.iconst 0, 1) := by decide +kernel
theorem d_M_leads_69 : decode b_M_leads 69 = .ok (.ireturn, 1) := by decide +kernel
theorem d_M_shortest_0 : decode b_M_shortest 0 = .ok (.aload_n 0, 1) := by decide +kernel
theorem d_M_shortest_1 : decode b_M_shortest 1 = .ok (.aload_n 0, 1) := by decide +kernel
theorem d_M_shortest_2 : decode b_M_shortest 2 = .ok (.getfield 23, 3) := by decide +kernel
theorem d_M_shortest_5 : decode b_M_shortest 5 = .ok (.iload_n 1, 1) := by decide +kernel
theorem d_M_shortest_6 : decode b_M_shortest 6 = .ok (.daload, 1) := by decide +kernel
theorem d_M_shortest_7 : decode b_M_shortest 7 = .ok (.bipush 31, 2) := by decide +kernel
theorem d_M_shortest_9 : decode b_M_shortest 9 = .ok (.bipush 28, 2) := by decide +kernel
theorem d_M_shortest_11 : decode b_M_shortest 11 = .ok (.invokevirtual 114, 3) := by decide +kernel
theorem d_M_shortest_14 : decode b_M_shortest 14 = .ok (.aload_n 0, 1) := by decide +kernel
theorem d_M_shortest_15 : decode b_M_shortest 15 = .ok (.invokevirtual 285, 3) := by decide +kernel
theorem d_M_shortest_18 : decode b_M_shortest 18 = .ok (.istore_n 2, 1) := by decide +kernel
theorem d_M_shortest_19 : decode b_M_shortest 19 = .ok (.iconst 1, 1) := by decide +kernel
theorem d_M_shortest_20 : decode b_M_shortest 20 = .ok (.istore_n 3, 1) := by decide +kernel
theorem d_M_shortest_21 : decode b_M_shortest 21 = .ok (.iload_n 3, 1) := by decide +kernel
theorem d_M_shortest_22 : decode b_M_shortest 22 = .ok (.bipush 18, 2) := by decide +kernel
theorem d_M_shortest_24 : decode b_M_shortest 24 = .ok (.if_icmp .ge 176, 3) := by decide +kernel
theorem d_M_shortest_27 : decode b_M_shortest 27 = .ok (.aload_n 0, 1) := by decide +kernel
theorem d_M_shortest_28 : decode b_M_shortest 28 = .ok (.iload_n 3, 1) := by decide +kernel
theorem d_M_shortest_29 : decode b_M_shortest 29 = .ok (.iconst 1, 1) := by decide +kernel
theorem d_M_shortest_30 : decode b_M_shortest 30 = .ok (.isub, 1) := by decide +kernel
theorem d_M_shortest_31 : decode b_M_shortest 31 = .ok (.iload_n 2, 1) := by decide +kernel
theorem d_M_shortest_32 : decode b_M_shortest 32 = .ok (.isub, 1) := by decide +kernel
theorem d_M_shortest_33 : decode b_M_shortest 33 = .ok (.invokevirtual 288, 3) := by decide +kernel
theorem d_M_shortest_36 : decode b_M_shortest 36 = .ok (.aload_n 0, 1) := by decide +kernel
theorem d_M_shortest_37 : decode b_M_shortest 37 = .ok (.bipush 22, 2) := by decide +kernel
theorem d_M_shortest_39 : decode b_M_shortest 39 = .ok (.bipush 23, 2) := by decide +kernel
theorem d_M_shortest_41 : decode b_M_shortest 41 = .ok (.invokevirtual 79, 3) := by decide +kernel
theorem d_M_shortest_44 : decode b_M_shortest 44 = .ok (.aload_n 0, 1) := by decide +kernel
theorem d_M_shortest_45 : decode b_M_shortest 45 = .ok (.bipush 24, 2) := by decide +kernel
theorem d_M_shortest_47 : decode b_M_shortest 47 = .ok (.bipush 27, 2) := by decide +kernel
theorem d_M_shortest_49 : decode b_M_shortest 49 = .ok (.invokevirtual 58, 3) := by decide +kernel
theorem d_M_shortest_52 : decode b_M_shortest 52 = .ok (.aload_n 0, 1) := by decide +kernel
theorem d_M_shortest_53 : decode b_M_shortest 53 = .ok (.bipush 25, 2) := by decide +kernel
theorem d_M_shortest_55 : decode b_M_shortest 55 = .ok (.iconst 1, 1) := by decide +kernel
theorem d_M_shortest_56 : decode b_M_shortest 56 = .ok (.invokevirtual 66, 3) := by decide +kernel
theorem d_M_shortest_59 : decode b_M_shortest 59 = .ok (.aload_n 0, 1) := by decide +kernel
theorem d_M_shortest_60 : decode b_M_shortest 60 = .ok (.bipush 25, 2) := by decide +kernel
theorem d_M_shortest_62 : decode b_M_shortest 62 = .ok (.bipush 23, 2) := by decide +kernel
theorem d_M_shortest_64 : decode b_M_shortest 64 = .ok (.invokevirtual 105, 3) := by decide +kernel
theorem d_M_shortest_67 : decode b_M_shortest 67 = .ok (.istore 4, 2) := by decide +kernel
theorem d_M_shortest_69 : decode b_M_shortest 69 = .ok (.aload_n 0, 1) := by decide +kernel
theorem d_M_shortest_70 : decode b_M_shortest 70 = .ok (.iload_n 1, 1) := by decide +kernel
theorem d_M_shortest_71 : decode b_M_shortest 71 = .ok (.iload_n 2, 1) := by decide +kernel
theorem d_M_shortest_72 : decode b_M_shortest 72 = .ok (.iconst 1, 1) := by decide +kernel
theorem d_M_shortest_73 : decode b_M_shortest 73 = .ok (.iadd, 1) := by decide +kernel
theorem d_M_shortest_74 : decode b_M_shortest 74 = .ok (.iload_n 3, 1) := by decide +kernel
theorem d_M_shortest_75 : decode b_M_shortest 75 = .ok (.isub, 1) := by decide +kernel
theorem d_M_shortest_76 : decode b_M_shortest 76 = .ok (.invokevirtual 291, 3) := by decide +kernel
theorem d_M_shortest_79 : decode b_M_shortest 79 = .ok (.istore 5, 2) := by decide +kernel
theorem d_M_shortest_81 : decode b_M_shortest 81 = .ok (.aload_n 0, 1) := by decide +kernel
theorem d_M_shortest_82 : decode b_M_shortest 82 = .ok (.bipush 27, 2) := by decide +kernel
theorem d_M_shortest_84 : decode b_M_shortest 84 = .ok (.bipush 16, 2) := by decide +kernel
theorem d_M_shortest_86 : decode b_M_shortest 86 = .ok (.invokevirtual 58, 3) := by decide +kernel
theorem d_M_shortest_89 : decode b_M_shortest 89 = .ok (.aload_n 0, 1) := by decide +kernel
theorem d_M_shortest_90 : decode b_M_shortest 90 = .ok (.bipush 27, 2) := by decide +kernel
theorem d_M_shortest_92 : decode b_M_shortest 92 = .ok (.invokevirtual 161, 3) := by decide +kernel
theorem d_M_shortest_95 : decode b_M_shortest 95 = .ok (.aload_n 0, 1) := by decide +kernel
theorem d_M_shortest_96 : decode b_M_shortest 96 = .ok (.iload_n 1, 1) := by decide +kernel
theorem d_M_shortest_97 : decode b_M_shortest 97 = .ok (.iload_n 2, 1) := by decide +kernel
theorem d_M_shortest_98 : decode b_M_shortest 98 = .ok (.iconst 1, 1) := by decide +kernel
theorem d_M_shortest_99 : decode b_M_shortest 99 = .ok (.iadd, 1) := by decide +kernel
theorem d_M_shortest_100 : decode b_M_shortest 100 = .ok (.iload_n 3, 1) := by decide +kernel
theorem d_M_shortest_101 : decode b_M_shortest 101 = .ok (.isub, 1) := by decide +kernel
theorem d_M_shortest_102 : decode b_M_shortest 102 = .ok (.invokevirtual 291, 3) := by decide +kernel
theorem d_M_shortest_105 : decode b_M_shortest 105 = .ok (.istore 6, 2) := by decide +kernel
theorem d_M_shortest_107 : decode b_M_shortest 107 = .ok (.aload_n 0, 1) := by decide +kernel
theorem d_M_shortest_108 : decode b_M_shortest 108 = .ok (.bipush 16, 2) := by decide +kernel
theorem d_M_shortest_110 : decode b_M_shortest 110 = .ok (.iconst 0, 1) := by decide +kernel
theorem d_M_shortest_111 : decode b_M_shortest 111 = .ok (.invokevirtual 45, 3) := by decide +kernel
theorem d_M_shortest_114 : decode b_M_shortest 114 = .ok (.iconst 1, 1) := by decide +kernel
theorem d_M_shortest_115 : decode b_M_shortest 115 = .ok (.iand, 1) := by decide +kernel
theorem d_M_shortest_116 : decode b_M_shortest 116 = .ok (.ifCond .ne 7, 3) := by decide +kernel
theorem d_M_shortest_119 : decode b_M_shortest 119 = .ok (.iconst 1, 1) := by decide +kernel
theorem d_M_shortest_120 : decode b_M_shortest 120 = .ok (.goto 4, 3) := by decide +kernel
theorem d_M_shortest_123 : decode b_M_shortest 123 = .ok (.iconst 0, 1) := by decide +kernel
theorem d_M_shortest_124 : decode b_M_shortest 124 = .ok (.istore 7, 2) := by decide +kernel
theorem d_M_shortest_126 : decode b_M_shortest 126 = .ok (.iload 5, 2) := by decide +kernel
theorem d_M_shortest_128 : decode b_M_shortest 128 = .ok (.ifCond .eq 31, 3) := by decide +kernel
theorem d_M_shortest_131 : decode b_M_shortest 131 = .ok (.iload 6, 2) := by decide +kernel
theorem d_M_shortest_133 : decode b_M_shortest 133 = .ok (.ifCond .eq 18, 3) := by decide +kernel
theorem d_M_shortest_136 : decode b_M_shortest 136 = .ok (.iload 4, 2) := by decide +kernel
theorem d_M_shortest_138 : decode b_M_shortest 138 = .ok (.ifCond .lt 13, 3) := by decide +kernel
theorem d_M_shortest_141 : decode b_M_shortest 141 = .ok (.iload 4, 2) := by decide +kernel
theorem d_M_shortest_143 : decode b_M_shortest 143 = .ok (.ifCond .ne 16, 3) := by decide +kernel
theorem d_M_shortest_146 : decode b_M_shortest 146 = .ok (.iload 7, 2) := by decide +kernel
theorem d_M_shortest_148 : decode b_M_shortest 148 = .ok (.ifCond .eq 11, 3) := by decide +kernel
theorem d_M_shortest_151 : decode b_M_shortest 151 = .ok (.aload_n 0, 1) := by decide +kernel
theorem d_M_shortest_152 : decode b_M_shortest 152 = .ok (.bipush 16, 2) := by decide +kernel
theorem d_M_shortest_154 : decode b_M_shortest 154 = .ok (.bipush 27, 2) := by decide +kernel
theorem d_M_shortest_156 : decode b_M_shortest 156 = .ok (.invokevirtual 58, 3) := by decide +kernel
theorem d_M_shortest_159 : decode b_M_shortest 159 = .ok (.iload 5, 2) := by decide +kernel
theorem d_M_shortest_161 : decode b_M_shortest 161 = .ok (.ifCond .ne 8, 3) := by decide +kernel
theorem d_M_shortest_164 : decode b_M_shortest 164 = .ok (.iload 6, 2) := by decide +kernel
theorem d_M_shortest_166 : decode b_M_shortest 166 = .ok (.ifCond .eq 28, 3) := by decide +kernel
theorem d_M_shortest_169 : decode b_M_shortest 169 = .ok (.aload_n 0, 1) := by decide +kernel
theorem d_M_shortest_170 : decode b_M_shortest 170 = .ok (.bipush 27, 2) := by decide +kernel
theorem d_M_shortest_172 : decode b_M_shortest 172 = .ok (.bipush 10, 2) := by decide +kernel
theorem d_M_shortest_174 : decode b_M_shortest 174 = .ok (.iconst 1, 1) := by decide +kernel
theorem d_M_shortest_175 : decode b_M_shortest 175 = .ok (.invokevirtual 294, 3) := by decide +kernel
theorem d_M_shortest_178 : decode b_M_shortest 178 = .ok (.aload_n 0, 1) := by decide +kernel
theorem d_M_shortest_179 : decode b_M_shortest 179 = .ok (.getfield 268, 3) := by decide +kernel
theorem d_M_shortest_182 : decode b_M_shortest 182 = .ok (.iload_n 3, 1) := by decide +kernel
theorem d_M_shortest_183 : decode b_M_shortest 183 = .ok (.if_icmp .le 9, 3) := by decide +kernel
theorem d_M_shortest_186 : decode b_M_shortest 186 = .ok (.iload_n 2, 1) := by decide +kernel
theorem d_M_shortest_187 : decode b_M_shortest 187 = .ok (.iconst 1, 1) := by decide +kernel
theorem d_M_shortest_188 : decode b_M_shortest 188 = .ok (.iadd, 1) := by decide +kernel
theorem d_M_shortest_189 : decode b_M_shortest 189 = .ok (.goto 4, 3) := by decide +kernel
theorem d_M_shortest_192 : decode b_M_shortest 192 = .ok (.iload_n 2, 1) := by decide +kernel
theorem d_M_shortest_193 : decode b_M_shortest 193 = .ok (.ireturn, 1) := by decide +kernel
theorem d_M_shortest_194 : decode b_M_shortest 194 = .ok (.iinc 3 1, 3) := by decide +kernel
theorem d_M_shortest_197 : decode b_M_shortest 197 = .ok (.goto (-176), 3) := by decide +kernel
theorem d_M_shortest_200 : decode b_M_shortest 200 = .ok (.iload_n 2, 1) := by decide +kernel
theorem d_M_shortest_201 : decode b_M_shortest 201 = .ok (.ireturn, 1) := by decide +kernel
theorem d_M_sayReal_0 : decode b_M_sayReal 0 = .ok (.aload_n 0, 1) := by decide +kernel
theorem d_M_sayReal_1 : decode b_M_sayReal 1 = .ok (.getfield 23, 3) := by decide +kernel
theorem d_M_sayReal_4 : decode b_M_sayReal 4 = .ok (.iload_n 1, 1) := by decide +kernel
theorem d_M_sayReal_5 : decode b_M_sayReal 5 = .ok (.daload, 1) := by decide +kernel
theorem d_M_sayReal_6 : decode b_M_sayReal 6 = .ok (.dconst 0, 1) := by decide +kernel
theorem d_M_sayReal_7 : decode b_M_sayReal 7 = .ok (.dcmp .l, 1) := by decide +kernel
theorem d_M_sayReal_8 : decode b_M_sayReal 8 = .ok (.ifCond .ne 22, 3) := by decide +kernel
theorem d_M_sayReal_11 : decode b_M_sayReal 11 = .ok (.aload_n 0, 1) := by decide +kernel
theorem d_M_sayReal_12 : decode b_M_sayReal 12 = .ok (.bipush 48, 2) := by decide +kernel
theorem d_M_sayReal_14 : decode b_M_sayReal 14 = .ok (.invokevirtual 278, 3) := by decide +kernel
theorem d_M_sayReal_17 : decode b_M_sayReal 17 = .ok (.aload_n 0, 1) := by decide +kernel
theorem d_M_sayReal_18 : decode b_M_sayReal 18 = .ok (.bipush 46, 2) := by decide +kernel
theorem d_M_sayReal_20 : decode b_M_sayReal 20 = .ok (.invokevirtual 278, 3) := by decide +kernel
theorem d_M_sayReal_23 : decode b_M_sayReal 23 = .ok (.aload_n 0, 1) := by decide +kernel
theorem d_M_sayReal_24 : decode b_M_sayReal 24 = .ok (.bipush 48, 2) := by decide +kernel
theorem d_M_sayReal_26 : decode b_M_sayReal 26 = .ok (.invokevirtual 278, 3) := by decide +kernel
theorem d_M_sayReal_29 : decode b_M_sayReal 29 = .ok (.return_, 1) := by decide +kernel
theorem d_M_sayReal_30 : decode b_M_sayReal 30 = .ok (.aload_n 0, 1) := by decide +kernel
theorem d_M_sayReal_31 : decode b_M_sayReal 31 = .ok (.iload_n 1, 1) := by decide +kernel
theorem d_M_sayReal_32 : decode b_M_sayReal 32 = .ok (.invokevirtual 297, 3) := by decide +kernel
theorem d_M_sayReal_35 : decode b_M_sayReal 35 = .ok (.istore_n 2, 1) := by decide +kernel
theorem d_M_sayReal_36 : decode b_M_sayReal 36 = .ok (.iconst 0, 1) := by decide +kernel
theorem d_M_sayReal_37 : decode b_M_sayReal 37 = .ok (.istore_n 3, 1) := by decide +kernel
theorem d_M_sayReal_38 : decode b_M_sayReal 38 = .ok (.aload_n 0, 1) := by decide +kernel
theorem d_M_sayReal_39 : decode b_M_sayReal 39 = .ok (.getfield 33, 3) := by decide +kernel
theorem d_M_sayReal_42 : decode b_M_sayReal 42 = .ok (.iload_n 3, 1) := by decide +kernel
theorem d_M_sayReal_43 : decode b_M_sayReal 43 = .ok (.iaload, 1) := by decide +kernel
theorem d_M_sayReal_44 : decode b_M_sayReal 44 = .ok (.ifCond .ne 9, 3) := by decide +kernel
theorem d_M_sayReal_47 : decode b_M_sayReal 47 = .ok (.iinc 3 1, 3) := by decide +kernel
theorem d_M_sayReal_50 : decode b_M_sayReal 50 = .ok (.goto (-12), 3) := by decide +kernel
theorem d_M_sayReal_53 : decode b_M_sayReal 53 = .ok (.aload_n 0, 1) := by decide +kernel
theorem d_M_sayReal_54 : decode b_M_sayReal 54 = .ok (.getfield 268, 3) := by decide +kernel
theorem d_M_sayReal_57 : decode b_M_sayReal 57 = .ok (.iload_n 3, 1) := by decide +kernel
theorem d_M_sayReal_58 : decode b_M_sayReal 58 = .ok (.isub, 1) := by decide +kernel
theorem d_M_sayReal_59 : decode b_M_sayReal 59 = .ok (.istore 4, 2) := by decide +kernel
theorem d_M_sayReal_61 : decode b_M_sayReal 61 = .ok (.iload_n 2, 1) := by decide +kernel
theorem d_M_sayReal_62 : decode b_M_sayReal 62 = .ok (.bipush (-4), 2) := by decide +kernel
theorem d_M_sayReal_64 : decode b_M_sayReal 64 = .ok (.bipush 15, 2) := by decide +kernel
theorem d_M_sayReal_66 : decode b_M_sayReal 66 = .ok (.invokestatic 138, 3) := by decide +kernel
theorem d_M_sayReal_69 : decode b_M_sayReal 69 = .ok (.ifCond .eq 108, 3) := by decide +kernel
theorem d_M_sayReal_72 : decode b_M_sayReal 72 = .ok (.iload_n 2, 1) := by decide +kernel
theorem d_M_sayReal_73 : decode b_M_sayReal 73 = .ok (.iload 4, 2) := by decide +kernel
theorem d_M_sayReal_75 : decode b_M_sayReal 75 = .ok (.isub, 1) := by decide +kernel
theorem d_M_sayReal_76 : decode b_M_sayReal 76 = .ok (.iconst 1, 1) := by decide +kernel
theorem d_M_sayReal_77 : decode b_M_sayReal 77 = .ok (.iadd, 1) := by decide +kernel
theorem d_M_sayReal_78 : decode b_M_sayReal 78 = .ok (.iconst (-1), 1) := by decide +kernel
theorem d_M_sayReal_79 : decode b_M_sayReal 79 = .ok (.if_icmp .ge 12, 3) := by decide +kernel
theorem d_M_sayReal_82 : decode b_M_sayReal 82 = .ok (.iload_n 2, 1) := by decide +kernel
theorem d_M_sayReal_83 : decode b_M_sayReal 83 = .ok (.iload 4, 2) := by decide +kernel
theorem d_M_sayReal_85 : decode b_M_sayReal 85 = .ok (.isub, 1) := by decide +kernel
theorem d_M_sayReal_86 : decode b_M_sayReal 86 = .ok (.iconst 1, 1) := by decide +kernel
theorem d_M_sayReal_87 : decode b_M_sayReal 87 = .ok (.iadd, 1) := by decide +kernel
theorem d_M_sayReal_88 : decode b_M_sayReal 88 = .ok (.goto 4, 3) := by decide +kernel
theorem d_M_sayReal_91 : decode b_M_sayReal 91 = .ok (.iconst (-1), 1) := by decide +kernel
theorem d_M_sayReal_92 : decode b_M_sayReal 92 = .ok (.istore 5, 2) := by decide +kernel
theorem d_M_sayReal_94 : decode b_M_sayReal 94 = .ok (.iload_n 2, 1) := by decide +kernel
theorem d_M_sayReal_95 : decode b_M_sayReal 95 = .ok (.ifCond .le 7, 3) := by decide +kernel
theorem d_M_sayReal_98 : decode b_M_sayReal 98 = .ok (.iload_n 2, 1) := by decide +kernel
theorem d_M_sayReal_99 : decode b_M_sayReal 99 = .ok (.goto 4, 3) := by decide +kernel
theorem d_M_sayReal_102 : decode b_M_sayReal 102 = .ok (.iconst 0, 1) := by decide +kernel
theorem d_M_sayReal_103 : decode b_M_sayReal 103 = .ok (.istore 6, 2) := by decide +kernel
theorem d_M_sayReal_105 : decode b_M_sayReal 105 = .ok (.iload 6, 2) := by decide +kernel
theorem d_M_sayReal_107 : decode b_M_sayReal 107 = .ok (.iload 5, 2) := by decide +kernel
theorem d_M_sayReal_109 : decode b_M_sayReal 109 = .ok (.if_icmp .lt 67, 3) := by decide +kernel
theorem d_M_sayReal_112 : decode b_M_sayReal 112 = .ok (.aload_n 0, 1) := by decide +kernel
theorem d_M_sayReal_113 : decode b_M_sayReal 113 = .ok (.getfield 268, 3) := by decide +kernel
theorem d_M_sayReal_116 : decode b_M_sayReal 116 = .ok (.iconst 1, 1) := by decide +kernel
theorem d_M_sayReal_117 : decode b_M_sayReal 117 = .ok (.isub, 1) := by decide +kernel
theorem d_M_sayReal_118 : decode b_M_sayReal 118 = .ok (.iload_n 2, 1) := by decide +kernel
theorem d_M_sayReal_119 : decode b_M_sayReal 119 = .ok (.iload 6, 2) := by decide +kernel
theorem d_M_sayReal_121 : decode b_M_sayReal 121 = .ok (.isub, 1) := by decide +kernel
theorem d_M_sayReal_122 : decode b_M_sayReal 122 = .ok (.isub, 1) := by decide +kernel
theorem d_M_sayReal_123 : decode b_M_sayReal 123 = .ok (.istore 7, 2) := by decide +kernel
theorem d_M_sayReal_125 : decode b_M_sayReal 125 = .ok (.aload_n 0, 1) := by decide +kernel
theorem d_M_sayReal_126 : decode b_M_sayReal 126 = .ok (.iload 7, 2) := by decide +kernel
theorem d_M_sayReal_128 : decode b_M_sayReal 128 = .ok (.aload_n 0, 1) := by decide +kernel
theorem d_M_sayReal_129 : decode b_M_sayReal 129 = .ok (.getfield 268, 3) := by decide +kernel
theorem d_M_sayReal_132 : decode b_M_sayReal 132 = .ok (.if_icmp .ge 22, 3) := by decide +kernel
theorem d_M_sayReal_135 : decode b_M_sayReal 135 = .ok (.iload 7, 2) := by decide +kernel
theorem d_M_sayReal_137 : decode b_M_sayReal 137 = .ok (.iload_n 3, 1) := by decide +kernel
theorem d_M_sayReal_138 : decode b_M_sayReal 138 = .ok (.if_icmp .lt 16, 3) := by decide +kernel
theorem d_M_sayReal_141 : decode b_M_sayReal 141 = .ok (.bipush 48, 2) := by decide +kernel
theorem d_M_sayReal_143 : decode b_M_sayReal 143 = .ok (.aload_n 0, 1) := by decide +kernel
theorem d_M_sayReal_144 : decode b_M_sayReal 144 = .ok (.getfield 33, 3) := by decide +kernel
theorem d_M_sayReal_147 : decode b_M_sayReal 147 = .ok (.iload 7, 2) := by decide +kernel
theorem d_M_sayReal_149 : decode b_M_sayReal 149 = .ok (.iaload, 1) := by decide +kernel
theorem d_M_sayReal_150 : decode b_M_sayReal 150 = .ok (.iadd, 1) := by decide +kernel
theorem d_M_sayReal_151 : decode b_M_sayReal 151 = .ok (.goto 5, 3) := by decide +kernel
theorem d_M_sayReal_154 : decode b_M_sayReal 154 = .ok (.bipush 48, 2) := by decide +kernel
theorem d_M_sayReal_156 : decode b_M_sayReal 156 = .ok (.invokevirtual 278, 3) := by decide +kernel
theorem d_M_sayReal_159 : decode b_M_sayReal 159 = .ok (.iload 6, 2) := by decide +kernel
theorem d_M_sayReal_161 : decode b_M_sayReal 161 = .ok (.ifCond .ne 9, 3) := by decide +kernel
theorem d_M_sayReal_164 : decode b_M_sayReal 164 = .ok (.aload_n 0, 1) := by decide +kernel
theorem d_M_sayReal_165 : decode b_M_sayReal 165 = .ok (.bipush 46, 2) := by decide +kernel
theorem d_M_sayReal_167 : decode b_M_sayReal 167 = .ok (.invokevirtual 278, 3) := by decide +kernel
theorem d_M_sayReal_170 : decode b_M_sayReal 170 = .ok (.iinc 6 (-1), 3) := by decide +kernel
theorem d_M_sayReal_173 : decode b_M_sayReal 173 = .ok (.goto (-68), 3) := by decide +kernel
theorem d_M_sayReal_176 : decode b_M_sayReal 176 = .ok (.return_, 1) := by decide +kernel
theorem d_M_sayReal_177 : decode b_M_sayReal 177 = .ok (.aload_n 0, 1) := by decide +kernel
theorem d_M_sayReal_178 : decode b_M_sayReal 178 = .ok (.bipush 48, 2) := by decide +kernel
theorem d_M_sayReal_180 : decode b_M_sayReal 180 = .ok (.aload_n 0, 1) := by decide +kernel
theorem d_M_sayReal_181 : decode b_M_sayReal 181 = .ok (.getfield 33, 3) := by decide +kernel
theorem d_M_sayReal_184 : decode b_M_sayReal 184 = .ok (.aload_n 0, 1) := by decide +kernel
theorem d_M_sayReal_185 : decode b_M_sayReal 185 = .ok (.getfield 268, 3) := by decide +kernel
theorem d_M_sayReal_188 : decode b_M_sayReal 188 = .ok (.iconst 1, 1) := by decide +kernel
theorem d_M_sayReal_189 : decode b_M_sayReal 189 = .ok (.isub, 1) := by decide +kernel
theorem d_M_sayReal_190 : decode b_M_sayReal 190 = .ok (.iaload, 1) := by decide +kernel
theorem d_M_sayReal_191 : decode b_M_sayReal 191 = .ok (.iadd, 1) := by decide +kernel
theorem d_M_sayReal_192 : decode b_M_sayReal 192 = .ok (.invokevirtual 278, 3) := by decide +kernel
theorem d_M_sayReal_195 : decode b_M_sayReal 195 = .ok (.iload 4, 2) := by decide +kernel
theorem d_M_sayReal_197 : decode b_M_sayReal 197 = .ok (.iconst 1, 1) := by decide +kernel
theorem d_M_sayReal_198 : decode b_M_sayReal 198 = .ok (.if_icmp .le 9, 3) := by decide +kernel
theorem d_M_sayReal_201 : decode b_M_sayReal 201 = .ok (.aload_n 0, 1) := by decide +kernel
theorem d_M_sayReal_202 : decode b_M_sayReal 202 = .ok (.bipush 46, 2) := by decide +kernel
theorem d_M_sayReal_204 : decode b_M_sayReal 204 = .ok (.invokevirtual 278, 3) := by decide +kernel
theorem d_M_sayReal_207 : decode b_M_sayReal 207 = .ok (.aload_n 0, 1) := by decide +kernel
theorem d_M_sayReal_208 : decode b_M_sayReal 208 = .ok (.aload_n 0, 1) := by decide +kernel
theorem d_M_sayReal_209 : decode b_M_sayReal 209 = .ok (.getfield 268, 3) := by decide +kernel
theorem d_M_sayReal_212 : decode b_M_sayReal 212 = .ok (.iconst 2, 1) := by decide +kernel
theorem d_M_sayReal_213 : decode b_M_sayReal 213 = .ok (.isub, 1) := by decide +kernel
theorem d_M_sayReal_214 : decode b_M_sayReal 214 = .ok (.iload_n 3, 1) := by decide +kernel
theorem d_M_sayReal_215 : decode b_M_sayReal 215 = .ok (.iconst 3, 1) := by decide +kernel
theorem d_M_sayReal_216 : decode b_M_sayReal 216 = .ok (.iconst 0, 1) := by decide +kernel
theorem d_M_sayReal_217 : decode b_M_sayReal 217 = .ok (.iconst 0, 1) := by decide +kernel
theorem d_M_sayReal_218 : decode b_M_sayReal 218 = .ok (.invokevirtual 300, 3) := by decide +kernel
theorem d_M_sayReal_221 : decode b_M_sayReal 221 = .ok (.aload_n 0, 1) := by decide +kernel
theorem d_M_sayReal_222 : decode b_M_sayReal 222 = .ok (.iload_n 2, 1) := by decide +kernel
theorem d_M_sayReal_223 : decode b_M_sayReal 223 = .ok (.bipush 101, 2) := by decide +kernel
theorem d_M_sayReal_225 : decode b_M_sayReal 225 = .ok (.invokevirtual 304, 3) := by decide +kernel
theorem d_M_sayReal_228 : decode b_M_sayReal 228 = .ok (.return_, 1) := by decide +kernel
