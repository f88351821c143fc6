theorem d_D_init_0 : decode b_D_init 0 = .ok (.aload_n 0, 1) := by decide +kernel
theorem d_D_init_1 : decode b_D_init 1 = .ok (.invokespecial 3, 3) := by decide +kernel
theorem d_D_init_4 : decode b_D_init 4 = .ok (.aload_n 0, 1) := by decide +kernel
theorem d_D_init_5 : decode b_D_init 5 = .ok (.new 9, 3) := by decide +kernel
theorem d_D_init_8 : decode b_D_init 8 = .ok (.dup, 1) := by decide +kernel
theorem d_D_init_9 : decode b_D_init 9 = .ok (.invokespecial 11, 3) := by decide +kernel
theorem d_D_init_12 : decode b_D_init 12 = .ok (.putfield 12, 3) := by decide +kernel
theorem d_D_init_15 : decode b_D_init 15 = .ok (.aload_n 0, 1) := by decide +kernel
theorem d_D_init_16 : decode b_D_init 16 = .ok (.new 9, 3) := by decide +kernel
theorem d_D_init_19 : decode b_D_init 19 = .ok (.dup, 1) := by decide +kernel
theorem d_D_init_20 : decode b_D_init 20 = .ok (.invokespecial 11, 3) := by decide +kernel
theorem d_D_init_23 : decode b_D_init 23 = .ok (.putfield 18, 3) := by decide +kernel
theorem d_D_init_26 : decode b_D_init 26 = .ok (.aload_n 0, 1) := by decide +kernel
theorem d_D_init_27 : decode b_D_init 27 = .ok (.new 9, 3) := by decide +kernel
theorem d_D_init_30 : decode b_D_init 30 = .ok (.dup, 1) := by decide +kernel
theorem d_D_init_31 : decode b_D_init 31 = .ok (.invokespecial 11, 3) := by decide +kernel
theorem d_D_init_34 : decode b_D_init 34 = .ok (.putfield 21, 3) := by decide +kernel
theorem d_D_init_37 : decode b_D_init 37 = .ok (.aload_n 0, 1) := by decide +kernel
theorem d_D_init_38 : decode b_D_init 38 = .ok (.new 24, 3) := by decide +kernel
theorem d_D_init_41 : decode b_D_init 41 = .ok (.dup, 1) := by decide +kernel
theorem d_D_init_42 : decode b_D_init 42 = .ok (.invokespecial 26, 3) := by decide +kernel
theorem d_D_init_45 : decode b_D_init 45 = .ok (.putfield 27, 3) := by decide +kernel
theorem d_D_init_48 : decode b_D_init 48 = .ok (.aload_n 0, 1) := by decide +kernel
theorem d_D_init_49 : decode b_D_init 49 = .ok (.new 24, 3) := by decide +kernel
theorem d_D_init_52 : decode b_D_init 52 = .ok (.dup, 1) := by decide +kernel
theorem d_D_init_53 : decode b_D_init 53 = .ok (.invokespecial 26, 3) := by decide +kernel
theorem d_D_init_56 : decode b_D_init 56 = .ok (.putfield 31, 3) := by decide +kernel
theorem d_D_init_59 : decode b_D_init 59 = .ok (.aload_n 0, 1) := by decide +kernel
theorem d_D_init_60 : decode b_D_init 60 = .ok (.new 24, 3) := by decide +kernel
theorem d_D_init_63 : decode b_D_init 63 = .ok (.dup, 1) := by decide +kernel
theorem d_D_init_64 : decode b_D_init 64 = .ok (.invokespecial 26, 3) := by decide +kernel
theorem d_D_init_67 : decode b_D_init 67 = .ok (.putfield 34, 3) := by decide +kernel
theorem d_D_init_70 : decode b_D_init 70 = .ok (.aload_n 0, 1) := by decide +kernel
theorem d_D_init_71 : decode b_D_init 71 = .ok (.new 24, 3) := by decide +kernel
theorem d_D_init_74 : decode b_D_init 74 = .ok (.dup, 1) := by decide +kernel
theorem d_D_init_75 : decode b_D_init 75 = .ok (.invokespecial 26, 3) := by decide +kernel
theorem d_D_init_78 : decode b_D_init 78 = .ok (.putfield 37, 3) := by decide +kernel
theorem d_D_init_81 : decode b_D_init 81 = .ok (.aload_n 0, 1) := by decide +kernel
theorem d_D_init_82 : decode b_D_init 82 = .ok (.new 24, 3) := by decide +kernel
theorem d_D_init_85 : decode b_D_init 85 = .ok (.dup, 1) := by decide +kernel
theorem d_D_init_86 : decode b_D_init 86 = .ok (.invokespecial 26, 3) := by decide +kernel
theorem d_D_init_89 : decode b_D_init 89 = .ok (.putfield 40, 3) := by decide +kernel
theorem d_D_init_92 : decode b_D_init 92 = .ok (.aload_n 0, 1) := by decide +kernel
theorem d_D_init_93 : decode b_D_init 93 = .ok (.new 24, 3) := by decide +kernel
theorem d_D_init_96 : decode b_D_init 96 = .ok (.dup, 1) := by decide +kernel
theorem d_D_init_97 : decode b_D_init 97 = .ok (.invokespecial 26, 3) := by decide +kernel
theorem d_D_init_100 : decode b_D_init 100 = .ok (.putfield 43, 3) := by decide +kernel
theorem d_D_init_103 : decode b_D_init 103 = .ok (.aload_n 0, 1) := by decide +kernel
theorem d_D_init_104 : decode b_D_init 104 = .ok (.new 24, 3) := by decide +kernel
theorem d_D_init_107 : decode b_D_init 107 = .ok (.dup, 1) := by decide +kernel
theorem d_D_init_108 : decode b_D_init 108 = .ok (.invokespecial 26, 3) := by decide +kernel
theorem d_D_init_111 : decode b_D_init 111 = .ok (.putfield 46, 3) := by decide +kernel
theorem d_D_init_114 : decode b_D_init 114 = .ok (.aload_n 0, 1) := by decide +kernel
theorem d_D_init_115 : decode b_D_init 115 = .ok (.new 24, 3) := by decide +kernel
theorem d_D_init_118 : decode b_D_init 118 = .ok (.dup, 1) := by decide +kernel
theorem d_D_init_119 : decode b_D_init 119 = .ok (.invokespecial 26, 3) := by decide +kernel
theorem d_D_init_122 : decode b_D_init 122 = .ok (.putfield 49, 3) := by decide +kernel
theorem d_D_init_125 : decode b_D_init 125 = .ok (.return_, 1) := by decide +kernel
theorem d_D_reckon_0 : decode b_D_reckon 0 = .ok (.aload_n 2, 1) := by decide +kernel
theorem d_D_reckon_1 : decode b_D_reckon 1 = .ok (.getfield 52, 3) := by decide +kernel
theorem d_D_reckon_4 : decode b_D_reckon 4 = .ok (.aload_n 3, 1) := by decide +kernel
theorem d_D_reckon_5 : decode b_D_reckon 5 = .ok (.getfield 52, 3) := by decide +kernel
theorem d_D_reckon_8 : decode b_D_reckon 8 = .ok (.invokestatic 56, 3) := by decide +kernel
theorem d_D_reckon_11 : decode b_D_reckon 11 = .ok (.istore 4, 2) := by decide +kernel
theorem d_D_reckon_13 : decode b_D_reckon 13 = .ok (.aload_n 0, 1) := by decide +kernel
theorem d_D_reckon_14 : decode b_D_reckon 14 = .ok (.getfield 18, 3) := by decide +kernel
theorem d_D_reckon_17 : decode b_D_reckon 17 = .ok (.aload_n 2, 1) := by decide +kernel
theorem d_D_reckon_18 : decode b_D_reckon 18 = .ok (.invokevirtual 62, 3) := by decide +kernel
theorem d_D_reckon_21 : decode b_D_reckon 21 = .ok (.aload_n 0, 1) := by decide +kernel
theorem d_D_reckon_22 : decode b_D_reckon 22 = .ok (.getfield 21, 3) := by decide +kernel
theorem d_D_reckon_25 : decode b_D_reckon 25 = .ok (.aload_n 3, 1) := by decide +kernel
theorem d_D_reckon_26 : decode b_D_reckon 26 = .ok (.invokevirtual 62, 3) := by decide +kernel
theorem d_D_reckon_29 : decode b_D_reckon 29 = .ok (.iload 4, 2) := by decide +kernel
theorem d_D_reckon_31 : decode b_D_reckon 31 = .ok (.iconst 2, 1) := by decide +kernel
theorem d_D_reckon_32 : decode b_D_reckon 32 = .ok (.if_icmp .ne 19, 3) := by decide +kernel
theorem d_D_reckon_35 : decode b_D_reckon 35 = .ok (.aload_n 0, 1) := by decide +kernel
theorem d_D_reckon_36 : decode b_D_reckon 36 = .ok (.aload_n 0, 1) := by decide +kernel
theorem d_D_reckon_37 : decode b_D_reckon 37 = .ok (.getfield 18, 3) := by decide +kernel
theorem d_D_reckon_40 : decode b_D_reckon 40 = .ok (.invokevirtual 66, 3) := by decide +kernel
theorem d_D_reckon_43 : decode b_D_reckon 43 = .ok (.aload_n 0, 1) := by decide +kernel
theorem d_D_reckon_44 : decode b_D_reckon 44 = .ok (.aload_n 0, 1) := by decide +kernel
theorem d_D_reckon_45 : decode b_D_reckon 45 = .ok (.getfield 21, 3) := by decide +kernel
theorem d_D_reckon_48 : decode b_D_reckon 48 = .ok (.invokevirtual 66, 3) := by decide +kernel
theorem d_D_reckon_51 : decode b_D_reckon 51 = .ok (.iload_n 1, 1) := by decide +kernel
theorem d_D_reckon_52 : decode b_D_reckon 52 = .ok (.ifCond .eq 8, 3) := by decide +kernel
theorem d_D_reckon_55 : decode b_D_reckon 55 = .ok (.iload_n 1, 1) := by decide +kernel
theorem d_D_reckon_56 : decode b_D_reckon 56 = .ok (.iconst 1, 1) := by decide +kernel
theorem d_D_reckon_57 : decode b_D_reckon 57 = .ok (.if_icmp .ne 32, 3) := by decide +kernel
theorem d_D_reckon_60 : decode b_D_reckon 60 = .ok (.aload_n 0, 1) := by decide +kernel
theorem d_D_reckon_61 : decode b_D_reckon 61 = .ok (.iload_n 1, 1) := by decide +kernel
theorem d_D_reckon_62 : decode b_D_reckon 62 = .ok (.ifCond .ne 13, 3) := by decide +kernel
theorem d_D_reckon_65 : decode b_D_reckon 65 = .ok (.aload_n 0, 1) := by decide +kernel
theorem d_D_reckon_66 : decode b_D_reckon 66 = .ok (.getfield 21, 3) := by decide +kernel
theorem d_D_reckon_69 : decode b_D_reckon 69 = .ok (.getfield 69, 3) := by decide +kernel
theorem d_D_reckon_72 : decode b_D_reckon 72 = .ok (.goto 11, 3) := by decide +kernel
theorem d_D_reckon_75 : decode b_D_reckon 75 = .ok (.aload_n 0, 1) := by decide +kernel
theorem d_D_reckon_76 : decode b_D_reckon 76 = .ok (.getfield 21, 3) := by decide +kernel
theorem d_D_reckon_79 : decode b_D_reckon 79 = .ok (.getfield 69, 3) := by decide +kernel
theorem d_D_reckon_82 : decode b_D_reckon 82 = .ok (.ineg, 1) := by decide +kernel
theorem d_D_reckon_83 : decode b_D_reckon 83 = .ok (.invokevirtual 72, 3) := by decide +kernel
theorem d_D_reckon_86 : decode b_D_reckon 86 = .ok (.goto 203, 3) := by decide +kernel
theorem d_D_reckon_89 : decode b_D_reckon 89 = .ok (.iload_n 1, 1) := by decide +kernel
theorem d_D_reckon_90 : decode b_D_reckon 90 = .ok (.iconst 2, 1) := by decide +kernel
theorem d_D_reckon_91 : decode b_D_reckon 91 = .ok (.if_icmp .ne 38, 3) := by decide +kernel
theorem d_D_reckon_94 : decode b_D_reckon 94 = .ok (.aload_n 0, 1) := by decide +kernel
theorem d_D_reckon_95 : decode b_D_reckon 95 = .ok (.aload_n 0, 1) := by decide +kernel
theorem d_D_reckon_96 : decode b_D_reckon 96 = .ok (.getfield 18, 3) := by decide +kernel
theorem d_D_reckon_99 : decode b_D_reckon 99 = .ok (.getfield 76, 3) := by decide +kernel
theorem d_D_reckon_102 : decode b_D_reckon 102 = .ok (.aload_n 0, 1) := by decide +kernel
theorem d_D_reckon_103 : decode b_D_reckon 103 = .ok (.getfield 21, 3) := by decide +kernel
theorem d_D_reckon_106 : decode b_D_reckon 106 = .ok (.getfield 76, 3) := by decide +kernel
theorem d_D_reckon_109 : decode b_D_reckon 109 = .ok (.aload_n 0, 1) := by decide +kernel
theorem d_D_reckon_110 : decode b_D_reckon 110 = .ok (.getfield 18, 3) := by decide +kernel
theorem d_D_reckon_113 : decode b_D_reckon 113 = .ok (.getfield 79, 3) := by decide +kernel
theorem d_D_reckon_116 : decode b_D_reckon 116 = .ok (.aload_n 0, 1) := by decide +kernel
theorem d_D_reckon_117 : decode b_D_reckon 117 = .ok (.getfield 21, 3) := by decide +kernel
theorem d_D_reckon_120 : decode b_D_reckon 120 = .ok (.getfield 79, 3) := by decide +kernel
theorem d_D_reckon_123 : decode b_D_reckon 123 = .ok (.invokevirtual 82, 3) := by decide +kernel
theorem d_D_reckon_126 : decode b_D_reckon 126 = .ok (.goto 163, 3) := by decide +kernel
theorem d_D_reckon_129 : decode b_D_reckon 129 = .ok (.iload_n 1, 1) := by decide +kernel
theorem d_D_reckon_130 : decode b_D_reckon 130 = .ok (.iconst 3, 1) := by decide +kernel
theorem d_D_reckon_131 : decode b_D_reckon 131 = .ok (.if_icmp .ne 51, 3) := by decide +kernel
theorem d_D_reckon_134 : decode b_D_reckon 134 = .ok (.aload_n 0, 1) := by decide +kernel
theorem d_D_reckon_135 : decode b_D_reckon 135 = .ok (.aload_n 0, 1) := by decide +kernel
theorem d_D_reckon_136 : decode b_D_reckon 136 = .ok (.getfield 18, 3) := by decide +kernel
theorem d_D_reckon_139 : decode b_D_reckon 139 = .ok (.getfield 76, 3) := by decide +kernel
theorem d_D_reckon_142 : decode b_D_reckon 142 = .ok (.aload_n 0, 1) := by decide +kernel
theorem d_D_reckon_143 : decode b_D_reckon 143 = .ok (.getfield 21, 3) := by decide +kernel
theorem d_D_reckon_146 : decode b_D_reckon 146 = .ok (.getfield 79, 3) := by decide +kernel
theorem d_D_reckon_149 : decode b_D_reckon 149 = .ok (.aload_n 0, 1) := by decide +kernel
theorem d_D_reckon_150 : decode b_D_reckon 150 = .ok (.getfield 18, 3) := by decide +kernel
theorem d_D_reckon_153 : decode b_D_reckon 153 = .ok (.getfield 79, 3) := by decide +kernel
theorem d_D_reckon_156 : decode b_D_reckon 156 = .ok (.aload_n 0, 1) := by decide +kernel
theorem d_D_reckon_157 : decode b_D_reckon 157 = .ok (.getfield 21, 3) := by decide +kernel
theorem d_D_reckon_160 : decode b_D_reckon 160 = .ok (.getfield 76, 3) := by decide +kernel
theorem d_D_reckon_163 : decode b_D_reckon 163 = .ok (.invokevirtual 82, 3) := by decide +kernel
theorem d_D_reckon_166 : decode b_D_reckon 166 = .ok (.iload 4, 2) := by decide +kernel
theorem d_D_reckon_168 : decode b_D_reckon 168 = .ok (.ifCond .ne 7, 3) := by decide +kernel
theorem d_D_reckon_171 : decode b_D_reckon 171 = .ok (.iconst 2, 1) := by decide +kernel
theorem d_D_reckon_172 : decode b_D_reckon 172 = .ok (.goto 5, 3) := by decide +kernel
theorem d_D_reckon_175 : decode b_D_reckon 175 = .ok (.iload 4, 2) := by decide +kernel
theorem d_D_reckon_177 : decode b_D_reckon 177 = .ok (.istore 4, 2) := by decide +kernel
theorem d_D_reckon_179 : decode b_D_reckon 179 = .ok (.goto 110, 3) := by decide +kernel
theorem d_D_reckon_182 : decode b_D_reckon 182 = .ok (.iload_n 1, 1) := by decide +kernel
theorem d_D_reckon_183 : decode b_D_reckon 183 = .ok (.iconst 4, 1) := by decide +kernel
theorem d_D_reckon_184 : decode b_D_reckon 184 = .ok (.if_icmp .ne 49, 3) := by decide +kernel
theorem d_D_reckon_187 : decode b_D_reckon 187 = .ok (.aload_n 0, 1) := by decide +kernel
theorem d_D_reckon_188 : decode b_D_reckon 188 = .ok (.invokevirtual 86, 3) := by decide +kernel
theorem d_D_reckon_191 : decode b_D_reckon 191 = .ok (.aload_n 0, 1) := by decide +kernel
theorem d_D_reckon_192 : decode b_D_reckon 192 = .ok (.getfield 12, 3) := by decide +kernel
theorem d_D_reckon_195 : decode b_D_reckon 195 = .ok (.getfield 76, 3) := by decide +kernel
theorem d_D_reckon_198 : decode b_D_reckon 198 = .ok (.aload_n 0, 1) := by decide +kernel
theorem d_D_reckon_199 : decode b_D_reckon 199 = .ok (.getfield 27, 3) := by decide +kernel
theorem d_D_reckon_202 : decode b_D_reckon 202 = .ok (.invokevirtual 89, 3) := by decide +kernel
theorem d_D_reckon_205 : decode b_D_reckon 205 = .ok (.aload_n 0, 1) := by decide +kernel
theorem d_D_reckon_206 : decode b_D_reckon 206 = .ok (.getfield 12, 3) := by decide +kernel
theorem d_D_reckon_209 : decode b_D_reckon 209 = .ok (.getfield 79, 3) := by decide +kernel
theorem d_D_reckon_212 : decode b_D_reckon 212 = .ok (.lconst 1, 1) := by decide +kernel
theorem d_D_reckon_213 : decode b_D_reckon 213 = .ok (.invokevirtual 93, 3) := by decide +kernel
theorem d_D_reckon_216 : decode b_D_reckon 216 = .ok (.iload 4, 2) := by decide +kernel
theorem d_D_reckon_218 : decode b_D_reckon 218 = .ok (.iconst 1, 1) := by decide +kernel
theorem d_D_reckon_219 : decode b_D_reckon 219 = .ok (.if_icmp .ne 7, 3) := by decide +kernel
theorem d_D_reckon_222 : decode b_D_reckon 222 = .ok (.iconst 0, 1) := by decide +kernel
theorem d_D_reckon_223 : decode b_D_reckon 223 = .ok (.goto 5, 3) := by decide +kernel
theorem d_D_reckon_226 : decode b_D_reckon 226 = .ok (.iload 4, 2) := by decide +kernel
theorem d_D_reckon_228 : decode b_D_reckon 228 = .ok (.istore 4, 2) := by decide +kernel
theorem d_D_reckon_230 : decode b_D_reckon 230 = .ok (.goto 59, 3) := by decide +kernel
theorem d_D_reckon_233 : decode b_D_reckon 233 = .ok (.aload_n 0, 1) := by decide +kernel
theorem d_D_reckon_234 : decode b_D_reckon 234 = .ok (.invokevirtual 86, 3) := by decide +kernel
theorem d_D_reckon_237 : decode b_D_reckon 237 = .ok (.aload_n 0, 1) := by decide +kernel
theorem d_D_reckon_238 : decode b_D_reckon 238 = .ok (.getfield 12, 3) := by decide +kernel
theorem d_D_reckon_241 : decode b_D_reckon 241 = .ok (.getfield 76, 3) := by decide +kernel
theorem d_D_reckon_244 : decode b_D_reckon 244 = .ok (.aload_n 0, 1) := by decide +kernel
theorem d_D_reckon_245 : decode b_D_reckon 245 = .ok (.getfield 31, 3) := by decide +kernel
theorem d_D_reckon_248 : decode b_D_reckon 248 = .ok (.invokevirtual 89, 3) := by decide +kernel
theorem d_D_reckon_251 : decode b_D_reckon 251 = .ok (.aload_n 0, 1) := by decide +kernel
theorem d_D_reckon_252 : decode b_D_reckon 252 = .ok (.getfield 12, 3) := by decide +kernel
theorem d_D_reckon_255 : decode b_D_reckon 255 = .ok (.getfield 79, 3) := by decide +kernel
theorem d_D_reckon_258 : decode b_D_reckon 258 = .ok (.aload_n 0, 1) := by decide +kernel
theorem d_D_reckon_259 : decode b_D_reckon 259 = .ok (.getfield 18, 3) := by decide +kernel
theorem d_D_reckon_262 : decode b_D_reckon 262 = .ok (.getfield 79, 3) := by decide +kernel
theorem d_D_reckon_265 : decode b_D_reckon 265 = .ok (.aload_n 0, 1) := by decide +kernel
theorem d_D_reckon_266 : decode b_D_reckon 266 = .ok (.getfield 21, 3) := by decide +kernel
theorem d_D_reckon_269 : decode b_D_reckon 269 = .ok (.getfield 79, 3) := by decide +kernel
theorem d_D_reckon_272 : decode b_D_reckon 272 = .ok (.invokevirtual 97, 3) := by decide +kernel
theorem d_D_reckon_275 : decode b_D_reckon 275 = .ok (.aload_n 0, 1) := by decide +kernel
theorem d_D_reckon_276 : decode b_D_reckon 276 = .ok (.getfield 12, 3) := by decide +kernel
theorem d_D_reckon_279 : decode b_D_reckon 279 = .ok (.aload_n 0, 1) := by decide +kernel
theorem d_D_reckon_280 : decode b_D_reckon 280 = .ok (.getfield 21, 3) := by decide +kernel
theorem d_D_reckon_283 : decode b_D_reckon 283 = .ok (.getfield 69, 3) := by decide +kernel
theorem d_D_reckon_286 : decode b_D_reckon 286 = .ok (.putfield 69, 3) := by decide +kernel
theorem d_D_reckon_289 : decode b_D_reckon 289 = .ok (.aload_n 0, 1) := by decide +kernel
theorem d_D_reckon_290 : decode b_D_reckon 290 = .ok (.iload 4, 2) := by decide +kernel
theorem d_D_reckon_292 : decode b_D_reckon 292 = .ok (.invokevirtual 101, 3) := by decide +kernel
theorem d_D_reckon_295 : decode b_D_reckon 295 = .ok (.return_, 1) := by decide +kernel
theorem d_D_setParts_0 : decode b_D_setParts 0 = .ok (.aload_n 0, 1) := by decide +kernel
theorem d_D_setParts_1 : decode b_D_setParts 1 = .ok (.getfield 12, 3) := by decide +kernel
theorem d_D_setParts_4 : decode b_D_setParts 4 = .ok (.getfield 76, 3) := by decide +kernel
theorem d_D_setParts_7 : decode b_D_setParts 7 = .ok (.aload_n 1, 1) := by decide +kernel
theorem d_D_setParts_8 : decode b_D_setParts 8 = .ok (.aload_n 2, 1) := by decide +kernel
theorem d_D_setParts_9 : decode b_D_setParts 9 = .ok (.invokevirtual 97, 3) := by decide +kernel
theorem d_D_setParts_12 : decode b_D_setParts 12 = .ok (.aload_n 0, 1) := by decide +kernel
theorem d_D_setParts_13 : decode b_D_setParts 13 = .ok (.getfield 12, 3) := by decide +kernel
theorem d_D_setParts_16 : decode b_D_setParts 16 = .ok (.getfield 79, 3) := by decide +kernel
theorem d_D_setParts_19 : decode b_D_setParts 19 = .ok (.aload_n 3, 1) := by decide +kernel
theorem d_D_setParts_20 : decode b_D_setParts 20 = .ok (.aload 4, 2) := by decide +kernel
theorem d_D_setParts_22 : decode b_D_setParts 22 = .ok (.invokevirtual 97, 3) := by decide +kernel
theorem d_D_setParts_25 : decode b_D_setParts 25 = .ok (.aload_n 0, 1) := by decide +kernel
theorem d_D_setParts_26 : decode b_D_setParts 26 = .ok (.getfield 12, 3) := by decide +kernel
theorem d_D_setParts_29 : decode b_D_setParts 29 = .ok (.aload_n 0, 1) := by decide +kernel
theorem d_D_setParts_30 : decode b_D_setParts 30 = .ok (.getfield 18, 3) := by decide +kernel
theorem d_D_setParts_33 : decode b_D_setParts 33 = .ok (.getfield 69, 3) := by decide +kernel
theorem d_D_setParts_36 : decode b_D_setParts 36 = .ok (.aload_n 0, 1) := by decide +kernel
theorem d_D_setParts_37 : decode b_D_setParts 37 = .ok (.getfield 21, 3) := by decide +kernel
theorem d_D_setParts_40 : decode b_D_setParts 40 = .ok (.getfield 69, 3) := by decide +kernel
theorem d_D_setParts_43 : decode b_D_setParts 43 = .ok (.imul, 1) := by decide +kernel
theorem d_D_setParts_44 : decode b_D_setParts 44 = .ok (.putfield 69, 3) := by decide +kernel
theorem d_D_setParts_47 : decode b_D_setParts 47 = .ok (.return_, 1) := by decide +kernel
theorem d_D_addParts_0 : decode b_D_addParts 0 = .ok (.aload_n 0, 1) := by decide +kernel
theorem d_D_addParts_1 : decode b_D_addParts 1 = .ok (.getfield 31, 3) := by decide +kernel
theorem d_D_addParts_4 : decode b_D_addParts 4 = .ok (.aload_n 0, 1) := by decide +kernel
theorem d_D_addParts_5 : decode b_D_addParts 5 = .ok (.getfield 18, 3) := by decide +kernel
theorem d_D_addParts_8 : decode b_D_addParts 8 = .ok (.getfield 76, 3) := by decide +kernel
theorem d_D_addParts_11 : decode b_D_addParts 11 = .ok (.aload_n 0, 1) := by decide +kernel
theorem d_D_addParts_12 : decode b_D_addParts 12 = .ok (.getfield 21, 3) := by decide +kernel
theorem d_D_addParts_15 : decode b_D_addParts 15 = .ok (.getfield 79, 3) := by decide +kernel
theorem d_D_addParts_18 : decode b_D_addParts 18 = .ok (.invokevirtual 97, 3) := by decide +kernel
theorem d_D_addParts_21 : decode b_D_addParts 21 = .ok (.aload_n 0, 1) := by decide +kernel
theorem d_D_addParts_22 : decode b_D_addParts 22 = .ok (.getfield 34, 3) := by decide +kernel
theorem d_D_addParts_25 : decode b_D_addParts 25 = .ok (.aload_n 0, 1) := by decide +kernel
theorem d_D_addParts_26 : decode b_D_addParts 26 = .ok (.getfield 21, 3) := by decide +kernel
theorem d_D_addParts_29 : decode b_D_addParts 29 = .ok (.getfield 76, 3) := by decide +kernel
theorem d_D_addParts_32 : decode b_D_addParts 32 = .ok (.aload_n 0, 1) := by decide +kernel
theorem d_D_addParts_33 : decode b_D_addParts 33 = .ok (.getfield 18, 3) := by decide +kernel
theorem d_D_addParts_36 : decode b_D_addParts 36 = .ok (.getfield 79, 3) := by decide +kernel
theorem d_D_addParts_39 : decode b_D_addParts 39 = .ok (.invokevirtual 97, 3) := by decide +kernel
theorem d_D_addParts_42 : decode b_D_addParts 42 = .ok (.aload_n 0, 1) := by decide +kernel
theorem d_D_addParts_43 : decode b_D_addParts 43 = .ok (.getfield 12, 3) := by decide +kernel
theorem d_D_addParts_46 : decode b_D_addParts 46 = .ok (.getfield 79, 3) := by decide +kernel
theorem d_D_addParts_49 : decode b_D_addParts 49 = .ok (.aload_n 0, 1) := by decide +kernel
theorem d_D_addParts_50 : decode b_D_addParts 50 = .ok (.getfield 18, 3) := by decide +kernel
theorem d_D_addParts_53 : decode b_D_addParts 53 = .ok (.getfield 79, 3) := by decide +kernel
theorem d_D_addParts_56 : decode b_D_addParts 56 = .ok (.aload_n 0, 1) := by decide +kernel
theorem d_D_addParts_57 : decode b_D_addParts 57 = .ok (.getfield 21, 3) := by decide +kernel
theorem d_D_addParts_60 : decode b_D_addParts 60 = .ok (.getfield 79, 3) := by decide +kernel
theorem d_D_addParts_63 : decode b_D_addParts 63 = .ok (.invokevirtual 97, 3) := by decide +kernel
theorem d_D_addParts_66 : decode b_D_addParts 66 = .ok (.aload_n 0, 1) := by decide +kernel
theorem d_D_addParts_67 : decode b_D_addParts 67 = .ok (.getfield 18, 3) := by decide +kernel
theorem d_D_addParts_70 : decode b_D_addParts 70 = .ok (.getfield 69, 3) := by decide +kernel
theorem d_D_addParts_73 : decode b_D_addParts 73 = .ok (.iload_n 1, 1) := by decide +kernel
theorem d_D_addParts_74 : decode b_D_addParts 74 = .ok (.imul, 1) := by decide +kernel
theorem d_D_addParts_75 : decode b_D_addParts 75 = .ok (.ifCond .lt 59, 3) := by decide +kernel
theorem d_D_addParts_78 : decode b_D_addParts 78 = .ok (.aload_n 0, 1) := by decide +kernel
theorem d_D_addParts_79 : decode b_D_addParts 79 = .ok (.getfield 31, 3) := by decide +kernel
theorem d_D_addParts_82 : decode b_D_addParts 82 = .ok (.aload_n 0, 1) := by decide +kernel
theorem d_D_addParts_83 : decode b_D_addParts 83 = .ok (.getfield 34, 3) := by decide +kernel
theorem d_D_addParts_86 : decode b_D_addParts 86 = .ok (.invokevirtual 104, 3) := by decide +kernel
theorem d_D_addParts_89 : decode b_D_addParts 89 = .ok (.aload_n 0, 1) := by decide +kernel
theorem d_D_addParts_90 : decode b_D_addParts 90 = .ok (.getfield 12, 3) := by decide +kernel
theorem d_D_addParts_93 : decode b_D_addParts 93 = .ok (.getfield 76, 3) := by decide +kernel
theorem d_D_addParts_96 : decode b_D_addParts 96 = .ok (.aload_n 0, 1) := by decide +kernel
theorem d_D_addParts_97 : decode b_D_addParts 97 = .ok (.getfield 31, 3) := by decide +kernel
theorem d_D_addParts_100 : decode b_D_addParts 100 = .ok (.invokevirtual 89, 3) := by decide +kernel
theorem d_D_addParts_103 : decode b_D_addParts 103 = .ok (.aload_n 0, 1) := by decide +kernel
theorem d_D_addParts_104 : decode b_D_addParts 104 = .ok (.getfield 12, 3) := by decide +kernel
theorem d_D_addParts_107 : decode b_D_addParts 107 = .ok (.aload_n 0, 1) := by decide +kernel
theorem d_D_addParts_108 : decode b_D_addParts 108 = .ok (.getfield 18, 3) := by decide +kernel
theorem d_D_addParts_111 : decode b_D_addParts 111 = .ok (.getfield 69, 3) := by decide +kernel
theorem d_D_addParts_114 : decode b_D_addParts 114 = .ok (.ifCond .eq 13, 3) := by decide +kernel
theorem d_D_addParts_117 : decode b_D_addParts 117 = .ok (.aload_n 0, 1) := by decide +kernel
theorem d_D_addParts_118 : decode b_D_addParts 118 = .ok (.getfield 18, 3) := by decide +kernel
theorem d_D_addParts_121 : decode b_D_addParts 121 = .ok (.getfield 69, 3) := by decide +kernel
theorem d_D_addParts_124 : decode b_D_addParts 124 = .ok (.goto 4, 3) := by decide +kernel
theorem d_D_addParts_127 : decode b_D_addParts 127 = .ok (.iload_n 1, 1) := by decide +kernel
theorem d_D_addParts_128 : decode b_D_addParts 128 = .ok (.putfield 69, 3) := by decide +kernel
theorem d_D_addParts_131 : decode b_D_addParts 131 = .ok (.goto 14, 3) := by decide +kernel
theorem d_D_addParts_134 : decode b_D_addParts 134 = .ok (.aload_n 0, 1) := by decide +kernel
theorem d_D_addParts_135 : decode b_D_addParts 135 = .ok (.aload_n 0, 1) := by decide +kernel
theorem d_D_addParts_136 : decode b_D_addParts 136 = .ok (.getfield 18, 3) := by decide +kernel
theorem d_D_addParts_139 : decode b_D_addParts 139 = .ok (.getfield 69, 3) := by decide +kernel
theorem d_D_addParts_142 : decode b_D_addParts 142 = .ok (.invokevirtual 107, 3) := by decide +kernel
theorem d_D_addParts_145 : decode b_D_addParts 145 = .ok (.return_, 1) := by decide +kernel
theorem d_D_subtractAmounts_0 : decode b_D_subtractAmounts 0 = .ok (.aload_n 0, 1) := by decide +kernel
theorem d_D_subtractAmounts_1 : decode b_D_subtractAmounts 1 = .ok (.getfield 31, 3) := by decide +kernel
theorem d_D_subtractAmounts_4 : decode b_D_subtractAmounts 4 = .ok (.aload_n 0, 1) := by decide +kernel
theorem d_D_subtractAmounts_5 : decode b_D_subtractAmounts 5 = .ok (.getfield 34, 3) := by decide +kernel
theorem d_D_subtractAmounts_8 : decode b_D_subtractAmounts 8 = .ok (.invokevirtual 110, 3) := by decide +kernel
theorem d_D_subtractAmounts_11 : decode b_D_subtractAmounts 11 = .ok (.ifCond .lt 39, 3) := by decide +kernel
theorem d_D_subtractAmounts_14 : decode b_D_subtractAmounts 14 = .ok (.aload_n 0, 1) := by decide +kernel
theorem d_D_subtractAmounts_15 : decode b_D_subtractAmounts 15 = .ok (.getfield 31, 3) := by decide +kernel
theorem d_D_subtractAmounts_18 : decode b_D_subtractAmounts 18 = .ok (.aload_n 0, 1) := by decide +kernel
theorem d_D_subtractAmounts_19 : decode b_D_subtractAmounts 19 = .ok (.getfield 34, 3) := by decide +kernel
theorem d_D_subtractAmounts_22 : decode b_D_subtractAmounts 22 = .ok (.invokevirtual 114, 3) := by decide +kernel
theorem d_D_subtractAmounts_25 : decode b_D_subtractAmounts 25 = .ok (.aload_n 0, 1) := by decide +kernel
theorem d_D_subtractAmounts_26 : decode b_D_subtractAmounts 26 = .ok (.getfield 12, 3) := by decide +kernel
theorem d_D_subtractAmounts_29 : decode b_D_subtractAmounts 29 = .ok (.getfield 76, 3) := by decide +kernel
theorem d_D_subtractAmounts_32 : decode b_D_subtractAmounts 32 = .ok (.aload_n 0, 1) := by decide +kernel
theorem d_D_subtractAmounts_33 : decode b_D_subtractAmounts 33 = .ok (.getfield 31, 3) := by decide +kernel
theorem d_D_subtractAmounts_36 : decode b_D_subtractAmounts 36 = .ok (.invokevirtual 89, 3) := by decide +kernel
theorem d_D_subtractAmounts_39 : decode b_D_subtractAmounts 39 = .ok (.aload_n 0, 1) := by decide +kernel
theorem d_D_subtractAmounts_40 : decode b_D_subtractAmounts 40 = .ok (.getfield 12, 3) := by decide +kernel
theorem d_D_subtractAmounts_43 : decode b_D_subtractAmounts 43 = .ok (.iload_n 1, 1) := by decide +kernel
theorem d_D_subtractAmounts_44 : decode b_D_subtractAmounts 44 = .ok (.putfield 69, 3) := by decide +kernel
theorem d_D_subtractAmounts_47 : decode b_D_subtractAmounts 47 = .ok (.goto 37, 3) := by decide +kernel
theorem d_D_subtractAmounts_50 : decode b_D_subtractAmounts 50 = .ok (.aload_n 0, 1) := by decide +kernel
theorem d_D_subtractAmounts_51 : decode b_D_subtractAmounts 51 = .ok (.getfield 34, 3) := by decide +kernel
theorem d_D_subtractAmounts_54 : decode b_D_subtractAmounts 54 = .ok (.aload_n 0, 1) := by decide +kernel
theorem d_D_subtractAmounts_55 : decode b_D_subtractAmounts 55 = .ok (.getfield 31, 3) := by decide +kernel
theorem d_D_subtractAmounts_58 : decode b_D_subtractAmounts 58 = .ok (.invokevirtual 114, 3) := by decide +kernel
theorem d_D_subtractAmounts_61 : decode b_D_subtractAmounts 61 = .ok (.aload_n 0, 1) := by decide +kernel
theorem d_D_subtractAmounts_62 : decode b_D_subtractAmounts 62 = .ok (.getfield 12, 3) := by decide +kernel
theorem d_D_subtractAmounts_65 : decode b_D_subtractAmounts 65 = .ok (.getfield 76, 3) := by decide +kernel
theorem d_D_subtractAmounts_68 : decode b_D_subtractAmounts 68 = .ok (.aload_n 0, 1) := by decide +kernel
theorem d_D_subtractAmounts_69 : decode b_D_subtractAmounts 69 = .ok (.getfield 34, 3) := by decide +kernel
theorem d_D_subtractAmounts_72 : decode b_D_subtractAmounts 72 = .ok (.invokevirtual 89, 3) := by decide +kernel
theorem d_D_subtractAmounts_75 : decode b_D_subtractAmounts 75 = .ok (.aload_n 0, 1) := by decide +kernel
theorem d_D_subtractAmounts_76 : decode b_D_subtractAmounts 76 = .ok (.getfield 12, 3) := by decide +kernel
theorem d_D_subtractAmounts_79 : decode b_D_subtractAmounts 79 = .ok (.iload_n 1, 1) := by decide +kernel
theorem d_D_subtractAmounts_80 : decode b_D_subtractAmounts 80 = .ok (.ineg, 1) := by decide +kernel
theorem d_D_subtractAmounts_81 : decode b_D_subtractAmounts 81 = .ok (.putfield 69, 3) := by decide +kernel
theorem d_D_subtractAmounts_84 : decode b_D_subtractAmounts 84 = .ok (.return_, 1) := by decide +kernel
theorem d_D_floorAndRest_0 : decode b_D_floorAndRest 0 = .ok (.aload_n 0, 1) := by decide +kernel
theorem d_D_floorAndRest_1 : decode b_D_floorAndRest 1 = .ok (.getfield 31, 3) := by decide +kernel
theorem d_D_floorAndRest_4 : decode b_D_floorAndRest 4 = .ok (.aload_n 0, 1) := by decide +kernel
theorem d_D_floorAndRest_5 : decode b_D_floorAndRest 5 = .ok (.getfield 18, 3) := by decide +kernel
theorem d_D_floorAndRest_8 : decode b_D_floorAndRest 8 = .ok (.getfield 76, 3) := by decide +kernel
theorem d_D_floorAndRest_11 : decode b_D_floorAndRest 11 = .ok (.aload_n 0, 1) := by decide +kernel
theorem d_D_floorAndRest_12 : decode b_D_floorAndRest 12 = .ok (.getfield 21, 3) := by decide +kernel
theorem d_D_floorAndRest_15 : decode b_D_floorAndRest 15 = .ok (.getfield 79, 3) := by decide +kernel
theorem d_D_floorAndRest_18 : decode b_D_floorAndRest 18 = .ok (.invokevirtual 97, 3) := by decide +kernel
theorem d_D_floorAndRest_21 : decode b_D_floorAndRest 21 = .ok (.aload_n 0, 1) := by decide +kernel
theorem d_D_floorAndRest_22 : decode b_D_floorAndRest 22 = .ok (.getfield 34, 3) := by decide +kernel
theorem d_D_floorAndRest_25 : decode b_D_floorAndRest 25 = .ok (.aload_n 0, 1) := by decide +kernel
theorem d_D_floorAndRest_26 : decode b_D_floorAndRest 26 = .ok (.getfield 18, 3) := by decide +kernel
theorem d_D_floorAndRest_29 : decode b_D_floorAndRest 29 = .ok (.getfield 79, 3) := by decide +kernel
theorem d_D_floorAndRest_32 : decode b_D_floorAndRest 32 = .ok (.aload_n 0, 1) := by decide +kernel
theorem d_D_floorAndRest_33 : decode b_D_floorAndRest 33 = .ok (.getfield 21, 3) := by decide +kernel
theorem d_D_floorAndRest_36 : decode b_D_floorAndRest 36 = .ok (.getfield 76, 3) := by decide +kernel
theorem d_D_floorAndRest_39 : decode b_D_floorAndRest 39 = .ok (.invokevirtual 97, 3) := by decide +kernel
theorem d_D_floorAndRest_42 : decode b_D_floorAndRest 42 = .ok (.aload_n 0, 1) := by decide +kernel
theorem d_D_floorAndRest_43 : decode b_D_floorAndRest 43 = .ok (.getfield 31, 3) := by decide +kernel
theorem d_D_floorAndRest_46 : decode b_D_floorAndRest 46 = .ok (.aload_n 0, 1) := by decide +kernel
theorem d_D_floorAndRest_47 : decode b_D_floorAndRest 47 = .ok (.getfield 34, 3) := by decide +kernel
theorem d_D_floorAndRest_50 : decode b_D_floorAndRest 50 = .ok (.aload_n 0, 1) := by decide +kernel
theorem d_D_floorAndRest_51 : decode b_D_floorAndRest 51 = .ok (.getfield 27, 3) := by decide +kernel
theorem d_D_floorAndRest_54 : decode b_D_floorAndRest 54 = .ok (.invokevirtual 117, 3) := by decide +kernel
theorem d_D_floorAndRest_57 : decode b_D_floorAndRest 57 = .ok (.aload_n 0, 1) := by decide +kernel
theorem d_D_floorAndRest_58 : decode b_D_floorAndRest 58 = .ok (.getfield 12, 3) := by decide +kernel
theorem d_D_floorAndRest_61 : decode b_D_floorAndRest 61 = .ok (.aload_n 0, 1) := by decide +kernel
theorem d_D_floorAndRest_62 : decode b_D_floorAndRest 62 = .ok (.getfield 18, 3) := by decide +kernel
theorem d_D_floorAndRest_65 : decode b_D_floorAndRest 65 = .ok (.getfield 69, 3) := by decide +kernel
theorem d_D_floorAndRest_68 : decode b_D_floorAndRest 68 = .ok (.aload_n 0, 1) := by decide +kernel
theorem d_D_floorAndRest_69 : decode b_D_floorAndRest 69 = .ok (.getfield 21, 3) := by decide +kernel
theorem d_D_floorAndRest_72 : decode b_D_floorAndRest 72 = .ok (.getfield 69, 3) := by decide +kernel
theorem d_D_floorAndRest_75 : decode b_D_floorAndRest 75 = .ok (.imul, 1) := by decide +kernel
theorem d_D_floorAndRest_76 : decode b_D_floorAndRest 76 = .ok (.putfield 69, 3) := by decide +kernel
theorem d_D_floorAndRest_79 : decode b_D_floorAndRest 79 = .ok (.aload_n 0, 1) := by decide +kernel
theorem d_D_floorAndRest_80 : decode b_D_floorAndRest 80 = .ok (.getfield 12, 3) := by decide +kernel
theorem d_D_floorAndRest_83 : decode b_D_floorAndRest 83 = .ok (.getfield 69, 3) := by decide +kernel
theorem d_D_floorAndRest_86 : decode b_D_floorAndRest 86 = .ok (.ifCond .ge 43, 3) := by decide +kernel
theorem d_D_floorAndRest_89 : decode b_D_floorAndRest 89 = .ok (.aload_n 0, 1) := by decide +kernel
theorem d_D_floorAndRest_90 : decode b_D_floorAndRest 90 = .ok (.getfield 31, 3) := by decide +kernel
theorem d_D_floorAndRest_93 : decode b_D_floorAndRest 93 = .ok (.invokevirtual 120, 3) := by decide +kernel
theorem d_D_floorAndRest_96 : decode b_D_floorAndRest 96 = .ok (.ifCond .ne 33, 3) := by decide +kernel
theorem d_D_floorAndRest_99 : decode b_D_floorAndRest 99 = .ok (.aload_n 0, 1) := by decide +kernel
theorem d_D_floorAndRest_100 : decode b_D_floorAndRest 100 = .ok (.getfield 27, 3) := by decide +kernel
theorem d_D_floorAndRest_103 : decode b_D_floorAndRest 103 = .ok (.iconst 1, 1) := by decide +kernel
theorem d_D_floorAndRest_104 : decode b_D_floorAndRest 104 = .ok (.invokevirtual 124, 3) := by decide +kernel
theorem d_D_floorAndRest_107 : decode b_D_floorAndRest 107 = .ok (.aload_n 0, 1) := by decide +kernel
theorem d_D_floorAndRest_108 : decode b_D_floorAndRest 108 = .ok (.getfield 34, 3) := by decide +kernel
theorem d_D_floorAndRest_111 : decode b_D_floorAndRest 111 = .ok (.aload_n 0, 1) := by decide +kernel
theorem d_D_floorAndRest_112 : decode b_D_floorAndRest 112 = .ok (.getfield 31, 3) := by decide +kernel
theorem d_D_floorAndRest_115 : decode b_D_floorAndRest 115 = .ok (.invokevirtual 114, 3) := by decide +kernel
theorem d_D_floorAndRest_118 : decode b_D_floorAndRest 118 = .ok (.aload_n 0, 1) := by decide +kernel
theorem d_D_floorAndRest_119 : decode b_D_floorAndRest 119 = .ok (.getfield 31, 3) := by decide +kernel
theorem d_D_floorAndRest_122 : decode b_D_floorAndRest 122 = .ok (.aload_n 0, 1) := by decide +kernel
theorem d_D_floorAndRest_123 : decode b_D_floorAndRest 123 = .ok (.getfield 34, 3) := by decide +kernel
theorem d_D_floorAndRest_126 : decode b_D_floorAndRest 126 = .ok (.invokevirtual 89, 3) := by decide +kernel
theorem d_D_floorAndRest_129 : decode b_D_floorAndRest 129 = .ok (.return_, 1) := by decide +kernel
theorem d_D_raise_0 : decode b_D_raise 0 = .ok (.aload_n 0, 1) := by decide +kernel
theorem d_D_raise_1 : decode b_D_raise 1 = .ok (.getfield 21, 3) := by decide +kernel
theorem d_D_raise_4 : decode b_D_raise 4 = .ok (.aload_n 1, 1) := by decide +kernel
theorem d_D_raise_5 : decode b_D_raise 5 = .ok (.invokevirtual 62, 3) := by decide +kernel
theorem d_D_raise_8 : decode b_D_raise 8 = .ok (.aload_n 0, 1) := by decide +kernel
theorem d_D_raise_9 : decode b_D_raise 9 = .ok (.getfield 12, 3) := by decide +kernel
theorem d_D_raise_12 : decode b_D_raise 12 = .ok (.lconst 1, 1) := by decide +kernel
theorem d_D_raise_13 : decode b_D_raise 13 = .ok (.invokevirtual 127, 3) := by decide +kernel
theorem d_D_raise_16 : decode b_D_raise 16 = .ok (.aload_n 0, 1) := by decide +kernel
theorem d_D_raise_17 : decode b_D_raise 17 = .ok (.getfield 12, 3) := by decide +kernel
theorem d_D_raise_20 : decode b_D_raise 20 = .ok (.aload_n 1, 1) := by decide +kernel
theorem d_D_raise_21 : decode b_D_raise 21 = .ok (.getfield 52, 3) := by decide +kernel
theorem d_D_raise_24 : decode b_D_raise 24 = .ok (.putfield 52, 3) := by decide +kernel
theorem d_D_raise_27 : decode b_D_raise 27 = .ok (.iconst 0, 1) := by decide +kernel
theorem d_D_raise_28 : decode b_D_raise 28 = .ok (.istore_n 3, 1) := by decide +kernel
theorem d_D_raise_29 : decode b_D_raise 29 = .ok (.iload_n 3, 1) := by decide +kernel
theorem d_D_raise_30 : decode b_D_raise 30 = .ok (.iload_n 2, 1) := by decide +kernel
theorem d_D_raise_31 : decode b_D_raise 31 = .ok (.if_icmp .ge 75, 3) := by decide +kernel
theorem d_D_raise_34 : decode b_D_raise 34 = .ok (.aload_n 0, 1) := by decide +kernel
theorem d_D_raise_35 : decode b_D_raise 35 = .ok (.getfield 18, 3) := by decide +kernel
theorem d_D_raise_38 : decode b_D_raise 38 = .ok (.aload_n 0, 1) := by decide +kernel
theorem d_D_raise_39 : decode b_D_raise 39 = .ok (.getfield 12, 3) := by decide +kernel
theorem d_D_raise_42 : decode b_D_raise 42 = .ok (.invokevirtual 62, 3) := by decide +kernel
theorem d_D_raise_45 : decode b_D_raise 45 = .ok (.aload_n 0, 1) := by decide +kernel
theorem d_D_raise_46 : decode b_D_raise 46 = .ok (.aload_n 0, 1) := by decide +kernel
theorem d_D_raise_47 : decode b_D_raise 47 = .ok (.getfield 18, 3) := by decide +kernel
theorem d_D_raise_50 : decode b_D_raise 50 = .ok (.getfield 76, 3) := by decide +kernel
theorem d_D_raise_53 : decode b_D_raise 53 = .ok (.aload_n 0, 1) := by decide +kernel
theorem d_D_raise_54 : decode b_D_raise 54 = .ok (.getfield 21, 3) := by decide +kernel
theorem d_D_raise_57 : decode b_D_raise 57 = .ok (.getfield 76, 3) := by decide +kernel
theorem d_D_raise_60 : decode b_D_raise 60 = .ok (.aload_n 0, 1) := by decide +kernel
theorem d_D_raise_61 : decode b_D_raise 61 = .ok (.getfield 18, 3) := by decide +kernel
theorem d_D_raise_64 : decode b_D_raise 64 = .ok (.getfield 79, 3) := by decide +kernel
theorem d_D_raise_67 : decode b_D_raise 67 = .ok (.aload_n 0, 1) := by decide +kernel
theorem d_D_raise_68 : decode b_D_raise 68 = .ok (.getfield 21, 3) := by decide +kernel
theorem d_D_raise_71 : decode b_D_raise 71 = .ok (.getfield 79, 3) := by decide +kernel
theorem d_D_raise_74 : decode b_D_raise 74 = .ok (.invokevirtual 82, 3) := by decide +kernel
theorem d_D_raise_77 : decode b_D_raise 77 = .ok (.aload_n 1, 1) := by decide +kernel
theorem d_D_raise_78 : decode b_D_raise 78 = .ok (.getfield 52, 3) := by decide +kernel
theorem d_D_raise_81 : decode b_D_raise 81 = .ok (.iconst 2, 1) := by decide +kernel
theorem d_D_raise_82 : decode b_D_raise 82 = .ok (.if_icmp .ne 11, 3) := by decide +kernel
theorem d_D_raise_85 : decode b_D_raise 85 = .ok (.aload_n 0, 1) := by decide +kernel
theorem d_D_raise_86 : decode b_D_raise 86 = .ok (.iconst 2, 1) := by decide +kernel
theorem d_D_raise_87 : decode b_D_raise 87 = .ok (.invokevirtual 101, 3) := by decide +kernel
theorem d_D_raise_90 : decode b_D_raise 90 = .ok (.goto 10, 3) := by decide +kernel
theorem d_D_raise_93 : decode b_D_raise 93 = .ok (.aload_n 0, 1) := by decide +kernel
theorem d_D_raise_94 : decode b_D_raise 94 = .ok (.getfield 12, 3) := by decide +kernel
theorem d_D_raise_97 : decode b_D_raise 97 = .ok (.invokestatic 130, 3) := by decide +kernel
theorem d_D_raise_100 : decode b_D_raise 100 = .ok (.iinc 3 1, 3) := by decide +kernel
theorem d_D_raise_103 : decode b_D_raise 103 = .ok (.goto (-74), 3) := by decide +kernel
theorem d_D_raise_106 : decode b_D_raise 106 = .ok (.return_, 1) := by decide +kernel
theorem d_D_mix_0 : decode b_D_mix 0 = .ok (.aload_n 2, 1) := by decide +kernel
theorem d_D_mix_1 : decode b_D_mix 1 = .ok (.aload_n 0, 1) := by decide +kernel
theorem d_D_mix_2 : decode b_D_mix 2 = .ok (.getfield 31, 3) := by decide +kernel
theorem d_D_mix_5 : decode b_D_mix 5 = .ok (.invokestatic 133, 3) := by decide +kernel
theorem d_D_mix_8 : decode b_D_mix 8 = .ok (.istore 4, 2) := by decide +kernel
theorem d_D_mix_10 : decode b_D_mix 10 = .ok (.aload_n 3, 1) := by decide +kernel
theorem d_D_mix_11 : decode b_D_mix 11 = .ok (.aload_n 0, 1) := by decide +kernel
theorem d_D_mix_12 : decode b_D_mix 12 = .ok (.getfield 34, 3) := by decide +kernel
theorem d_D_mix_15 : decode b_D_mix 15 = .ok (.invokestatic 133, 3) := by decide +kernel
theorem d_D_mix_18 : decode b_D_mix 18 = .ok (.istore 5, 2) := by decide +kernel
theorem d_D_mix_20 : decode b_D_mix 20 = .ok (.iload_n 1, 1) := by decide +kernel
theorem d_D_mix_21 : decode b_D_mix 21 = .ok (.iload 4, 2) := by decide +kernel
theorem d_D_mix_23 : decode b_D_mix 23 = .ok (.iload 5, 2) := by decide +kernel
theorem d_D_mix_25 : decode b_D_mix 25 = .ok (.invokestatic 137, 3) := by decide +kernel
theorem d_D_mix_28 : decode b_D_mix 28 = .ok (.istore 6, 2) := by decide +kernel
theorem d_D_mix_30 : decode b_D_mix 30 = .ok (.aload_n 0, 1) := by decide +kernel
theorem d_D_mix_31 : decode b_D_mix 31 = .ok (.getfield 12, 3) := by decide +kernel
theorem d_D_mix_34 : decode b_D_mix 34 = .ok (.lconst 0, 1) := by decide +kernel
theorem d_D_mix_35 : decode b_D_mix 35 = .ok (.invokevirtual 127, 3) := by decide +kernel
theorem d_D_mix_38 : decode b_D_mix 38 = .ok (.iconst 0, 1) := by decide +kernel
theorem d_D_mix_39 : decode b_D_mix 39 = .ok (.istore 7, 2) := by decide +kernel
theorem d_D_mix_41 : decode b_D_mix 41 = .ok (.iload 7, 2) := by decide +kernel
theorem d_D_mix_43 : decode b_D_mix 43 = .ok (.bipush 16, 2) := by decide +kernel
theorem d_D_mix_45 : decode b_D_mix 45 = .ok (.if_icmp .ge 59, 3) := by decide +kernel
theorem d_D_mix_48 : decode b_D_mix 48 = .ok (.iload_n 1, 1) := by decide +kernel
theorem d_D_mix_49 : decode b_D_mix 49 = .ok (.aload_n 0, 1) := by decide +kernel
theorem d_D_mix_50 : decode b_D_mix 50 = .ok (.getfield 31, 3) := by decide +kernel
theorem d_D_mix_53 : decode b_D_mix 53 = .ok (.getfield 141, 3) := by decide +kernel
theorem d_D_mix_56 : decode b_D_mix 56 = .ok (.iload 7, 2) := by decide +kernel
theorem d_D_mix_58 : decode b_D_mix 58 = .ok (.iaload, 1) := by decide +kernel
theorem d_D_mix_59 : decode b_D_mix 59 = .ok (.iload 4, 2) := by decide +kernel
theorem d_D_mix_61 : decode b_D_mix 61 = .ok (.ixor, 1) := by decide +kernel
theorem d_D_mix_62 : decode b_D_mix 62 = .ok (.aload_n 0, 1) := by decide +kernel
theorem d_D_mix_63 : decode b_D_mix 63 = .ok (.getfield 34, 3) := by decide +kernel
theorem d_D_mix_66 : decode b_D_mix 66 = .ok (.getfield 141, 3) := by decide +kernel
theorem d_D_mix_69 : decode b_D_mix 69 = .ok (.iload 7, 2) := by decide +kernel
theorem d_D_mix_71 : decode b_D_mix 71 = .ok (.iaload, 1) := by decide +kernel
theorem d_D_mix_72 : decode b_D_mix 72 = .ok (.iload 5, 2) := by decide +kernel
theorem d_D_mix_74 : decode b_D_mix 74 = .ok (.ixor, 1) := by decide +kernel
theorem d_D_mix_75 : decode b_D_mix 75 = .ok (.invokestatic 137, 3) := by decide +kernel
theorem d_D_mix_78 : decode b_D_mix 78 = .ok (.istore 8, 2) := by decide +kernel
theorem d_D_mix_80 : decode b_D_mix 80 = .ok (.aload_n 0, 1) := by decide +kernel
theorem d_D_mix_81 : decode b_D_mix 81 = .ok (.getfield 12, 3) := by decide +kernel
theorem d_D_mix_84 : decode b_D_mix 84 = .ok (.getfield 76, 3) := by decide +kernel
theorem d_D_mix_87 : decode b_D_mix 87 = .ok (.getfield 141, 3) := by decide +kernel
theorem d_D_mix_90 : decode b_D_mix 90 = .ok (.iload 7, 2) := by decide +kernel
theorem d_D_mix_92 : decode b_D_mix 92 = .ok (.iload 8, 2) := by decide +kernel
theorem d_D_mix_94 : decode b_D_mix 94 = .ok (.iload 6, 2) := by decide +kernel
theorem d_D_mix_96 : decode b_D_mix 96 = .ok (.ixor, 1) := by decide +kernel
theorem d_D_mix_97 : decode b_D_mix 97 = .ok (.iastore, 1) := by decide +kernel
theorem d_D_mix_98 : decode b_D_mix 98 = .ok (.iinc 7 1, 3) := by decide +kernel
theorem d_D_mix_101 : decode b_D_mix 101 = .ok (.goto (-60), 3) := by decide +kernel
theorem d_D_mix_104 : decode b_D_mix 104 = .ok (.aload_n 0, 1) := by decide +kernel
theorem d_D_mix_105 : decode b_D_mix 105 = .ok (.getfield 12, 3) := by decide +kernel
theorem d_D_mix_108 : decode b_D_mix 108 = .ok (.getfield 76, 3) := by decide +kernel
theorem d_D_mix_111 : decode b_D_mix 111 = .ok (.bipush 16, 2) := by decide +kernel
theorem d_D_mix_113 : decode b_D_mix 113 = .ok (.invokevirtual 145, 3) := by decide +kernel
theorem d_D_mix_116 : decode b_D_mix 116 = .ok (.iload 6, 2) := by decide +kernel
theorem d_D_mix_118 : decode b_D_mix 118 = .ok (.ifCond .eq 14, 3) := by decide +kernel
theorem d_D_mix_121 : decode b_D_mix 121 = .ok (.aload_n 0, 1) := by decide +kernel
theorem d_D_mix_122 : decode b_D_mix 122 = .ok (.getfield 12, 3) := by decide +kernel
theorem d_D_mix_125 : decode b_D_mix 125 = .ok (.getfield 76, 3) := by decide +kernel
theorem d_D_mix_128 : decode b_D_mix 128 = .ok (.iconst 1, 1) := by decide +kernel
theorem d_D_mix_129 : decode b_D_mix 129 = .ok (.invokevirtual 124, 3) := by decide +kernel
theorem d_D_mix_132 : decode b_D_mix 132 = .ok (.aload_n 0, 1) := by decide +kernel
theorem d_D_mix_133 : decode b_D_mix 133 = .ok (.getfield 12, 3) := by decide +kernel
theorem d_D_mix_136 : decode b_D_mix 136 = .ok (.iload 6, 2) := by decide +kernel
theorem d_D_mix_138 : decode b_D_mix 138 = .ok (.ifCond .eq 7, 3) := by decide +kernel
theorem d_D_mix_141 : decode b_D_mix 141 = .ok (.iconst (-1), 1) := by decide +kernel
theorem d_D_mix_142 : decode b_D_mix 142 = .ok (.goto 4, 3) := by decide +kernel
theorem d_D_mix_145 : decode b_D_mix 145 = .ok (.iconst 1, 1) := by decide +kernel
theorem d_D_mix_146 : decode b_D_mix 146 = .ok (.putfield 69, 3) := by decide +kernel
theorem d_D_mix_149 : decode b_D_mix 149 = .ok (.aload_n 0, 1) := by decide +kernel
theorem d_D_mix_150 : decode b_D_mix 150 = .ok (.iconst 0, 1) := by decide +kernel
theorem d_D_mix_151 : decode b_D_mix 151 = .ok (.invokevirtual 101, 3) := by decide +kernel
theorem d_D_mix_154 : decode b_D_mix 154 = .ok (.return_, 1) := by decide +kernel
theorem d_D_loadForBits_0 : decode b_D_loadForBits 0 = .ok (.aload_n 1, 1) := by decide +kernel
theorem d_D_loadForBits_1 : decode b_D_loadForBits 1 = .ok (.aload_n 0, 1) := by decide +kernel
theorem d_D_loadForBits_2 : decode b_D_loadForBits 2 = .ok (.getfield 76, 3) := by decide +kernel
theorem d_D_loadForBits_5 : decode b_D_loadForBits 5 = .ok (.invokevirtual 89, 3) := by decide +kernel
theorem d_D_loadForBits_8 : decode b_D_loadForBits 8 = .ok (.aload_n 0, 1) := by decide +kernel
theorem d_D_loadForBits_9 : decode b_D_loadForBits 9 = .ok (.getfield 69, 3) := by decide +kernel
theorem d_D_loadForBits_12 : decode b_D_loadForBits 12 = .ok (.ifCond .lt 5, 3) := by decide +kernel
theorem d_D_loadForBits_15 : decode b_D_loadForBits 15 = .ok (.iconst 0, 1) := by decide +kernel
theorem d_D_loadForBits_16 : decode b_D_loadForBits 16 = .ok (.ireturn, 1) := by decide +kernel
theorem d_D_loadForBits_17 : decode b_D_loadForBits 17 = .ok (.aload_n 1, 1) := by decide +kernel
theorem d_D_loadForBits_18 : decode b_D_loadForBits 18 = .ok (.invokestatic 148, 3) := by decide +kernel
theorem d_D_loadForBits_21 : decode b_D_loadForBits 21 = .ok (.ldc 151, 2) := by decide +kernel
theorem d_D_loadForBits_23 : decode b_D_loadForBits 23 = .ok (.ireturn, 1) := by decide +kernel
theorem d_D_lessOne_0 : decode b_D_lessOne 0 = .ok (.aload_n 0, 1) := by decide +kernel
theorem d_D_lessOne_1 : decode b_D_lessOne 1 = .ok (.invokevirtual 120, 3) := by decide +kernel
theorem d_D_lessOne_4 : decode b_D_lessOne 4 = .ok (.ifCond .ne 7, 3) := by decide +kernel
theorem d_D_lessOne_7 : decode b_D_lessOne 7 = .ok (.iconst 1, 1) := by decide +kernel
theorem d_D_lessOne_8 : decode b_D_lessOne 8 = .ok (.goto 4, 3) := by decide +kernel
theorem d_D_lessOne_11 : decode b_D_lessOne 11 = .ok (.iconst 0, 1) := by decide +kernel
theorem d_D_lessOne_12 : decode b_D_lessOne 12 = .ok (.istore_n 1, 1) := by decide +kernel
theorem d_D_lessOne_13 : decode b_D_lessOne 13 = .ok (.iconst 0, 1) := by decide +kernel
theorem d_D_lessOne_14 : decode b_D_lessOne 14 = .ok (.istore_n 2, 1) := by decide +kernel
theorem d_D_lessOne_15 : decode b_D_lessOne 15 = .ok (.iload_n 2, 1) := by decide +kernel
theorem d_D_lessOne_16 : decode b_D_lessOne 16 = .ok (.bipush 16, 2) := by decide +kernel
theorem d_D_lessOne_18 : decode b_D_lessOne 18 = .ok (.if_icmp .ge 45, 3) := by decide +kernel
theorem d_D_lessOne_21 : decode b_D_lessOne 21 = .ok (.iload_n 1, 1) := by decide +kernel
theorem d_D_lessOne_22 : decode b_D_lessOne 22 = .ok (.ifCond .eq 41, 3) := by decide +kernel
theorem d_D_lessOne_25 : decode b_D_lessOne 25 = .ok (.aload_n 0, 1) := by decide +kernel
theorem d_D_lessOne_26 : decode b_D_lessOne 26 = .ok (.getfield 141, 3) := by decide +kernel
theorem d_D_lessOne_29 : decode b_D_lessOne 29 = .ok (.iload_n 2, 1) := by decide +kernel
theorem d_D_lessOne_30 : decode b_D_lessOne 30 = .ok (.iaload, 1) := by decide +kernel
theorem d_D_lessOne_31 : decode b_D_lessOne 31 = .ok (.ifCond .ne 7, 3) := by decide +kernel
theorem d_D_lessOne_34 : decode b_D_lessOne 34 = .ok (.iconst 1, 1) := by decide +kernel
theorem d_D_lessOne_35 : decode b_D_lessOne 35 = .ok (.goto 4, 3) := by decide +kernel
theorem d_D_lessOne_38 : decode b_D_lessOne 38 = .ok (.iconst 0, 1) := by decide +kernel
theorem d_D_lessOne_39 : decode b_D_lessOne 39 = .ok (.istore_n 1, 1) := by decide +kernel
theorem d_D_lessOne_40 : decode b_D_lessOne 40 = .ok (.aload_n 0, 1) := by decide +kernel
theorem d_D_lessOne_41 : decode b_D_lessOne 41 = .ok (.getfield 141, 3) := by decide +kernel
theorem d_D_lessOne_44 : decode b_D_lessOne 44 = .ok (.iload_n 2, 1) := by decide +kernel
theorem d_D_lessOne_45 : decode b_D_lessOne 45 = .ok (.aload_n 0, 1) := by decide +kernel
theorem d_D_lessOne_46 : decode b_D_lessOne 46 = .ok (.getfield 141, 3) := by decide +kernel
theorem d_D_lessOne_49 : decode b_D_lessOne 49 = .ok (.iload_n 2, 1) := by decide +kernel
theorem d_D_lessOne_50 : decode b_D_lessOne 50 = .ok (.iaload, 1) := by decide +kernel
theorem d_D_lessOne_51 : decode b_D_lessOne 51 = .ok (.iconst 1, 1) := by decide +kernel
theorem d_D_lessOne_52 : decode b_D_lessOne 52 = .ok (.isub, 1) := by decide +kernel
theorem d_D_lessOne_53 : decode b_D_lessOne 53 = .ok (.ldc 151, 2) := by decide +kernel
theorem d_D_lessOne_55 : decode b_D_lessOne 55 = .ok (.iand, 1) := by decide +kernel
theorem d_D_lessOne_56 : decode b_D_lessOne 56 = .ok (.iastore, 1) := by decide +kernel
theorem d_D_lessOne_57 : decode b_D_lessOne 57 = .ok (.iinc 2 1, 3) := by decide +kernel
theorem d_D_lessOne_60 : decode b_D_lessOne 60 = .ok (.goto (-45), 3) := by decide +kernel
theorem d_D_lessOne_63 : decode b_D_lessOne 63 = .ok (.aload_n 0, 1) := by decide +kernel
theorem d_D_lessOne_64 : decode b_D_lessOne 64 = .ok (.aload_n 0, 1) := by decide +kernel
theorem d_D_lessOne_65 : decode b_D_lessOne 65 = .ok (.getfield 152, 3) := by decide +kernel
theorem d_D_lessOne_68 : decode b_D_lessOne 68 = .ok (.invokevirtual 145, 3) := by decide +kernel
theorem d_D_lessOne_71 : decode b_D_lessOne 71 = .ok (.return_, 1) := by decide +kernel
theorem d_D_mixBits_0 : decode b_D_mixBits 0 = .ok (.iload_n 0, 1) := by decide +kernel
theorem d_D_mixBits_1 : decode b_D_mixBits 1 = .ok (.bipush 7, 2) := by decide +kernel
theorem d_D_mixBits_3 : decode b_D_mixBits 3 = .ok (.if_icmp .ne 7, 3) := by decide +kernel
theorem d_D_mixBits_6 : decode b_D_mixBits 6 = .ok (.iload_n 1, 1) := by decide +kernel
theorem d_D_mixBits_7 : decode b_D_mixBits 7 = .ok (.iload_n 2, 1) := by decide +kernel
theorem d_D_mixBits_8 : decode b_D_mixBits 8 = .ok (.iand, 1) := by decide +kernel
theorem d_D_mixBits_9 : decode b_D_mixBits 9 = .ok (.ireturn, 1) := by decide +kernel
theorem d_D_mixBits_10 : decode b_D_mixBits 10 = .ok (.iload_n 0, 1) := by decide +kernel
theorem d_D_mixBits_11 : decode b_D_mixBits 11 = .ok (.bipush 8, 2) := by decide +kernel
theorem d_D_mixBits_13 : decode b_D_mixBits 13 = .ok (.if_icmp .ne 9, 3) := by decide +kernel
theorem d_D_mixBits_16 : decode b_D_mixBits 16 = .ok (.iload_n 1, 1) := by decide +kernel
theorem d_D_mixBits_17 : decode b_D_mixBits 17 = .ok (.iload_n 2, 1) := by decide +kernel
theorem d_D_mixBits_18 : decode b_D_mixBits 18 = .ok (.ior, 1) := by decide +kernel
theorem d_D_mixBits_19 : decode b_D_mixBits 19 = .ok (.goto 6, 3) := by decide +kernel
theorem d_D_mixBits_22 : decode b_D_mixBits 22 = .ok (.iload_n 1, 1) := by decide +kernel
theorem d_D_mixBits_23 : decode b_D_mixBits 23 = .ok (.iload_n 2, 1) := by decide +kernel
theorem d_D_mixBits_24 : decode b_D_mixBits 24 = .ok (.ixor, 1) := by decide +kernel
theorem d_D_mixBits_25 : decode b_D_mixBits 25 = .ok (.ireturn, 1) := by decide +kernel
theorem d_D_shift_0 : decode b_D_shift 0 = .ok (.aload_n 0, 1) := by decide +kernel
theorem d_D_shift_1 : decode b_D_shift 1 = .ok (.getfield 12, 3) := by decide +kernel
theorem d_D_shift_4 : decode b_D_shift 4 = .ok (.aload_n 1, 1) := by decide +kernel
theorem d_D_shift_5 : decode b_D_shift 5 = .ok (.invokevirtual 62, 3) := by decide +kernel
theorem d_D_shift_8 : decode b_D_shift 8 = .ok (.iload_n 2, 1) := by decide +kernel
theorem d_D_shift_9 : decode b_D_shift 9 = .ok (.ifCond .lt 17, 3) := by decide +kernel
theorem d_D_shift_12 : decode b_D_shift 12 = .ok (.aload_n 0, 1) := by decide +kernel
theorem d_D_shift_13 : decode b_D_shift 13 = .ok (.getfield 12, 3) := by decide +kernel
theorem d_D_shift_16 : decode b_D_shift 16 = .ok (.getfield 76, 3) := by decide +kernel
theorem d_D_shift_19 : decode b_D_shift 19 = .ok (.iload_n 2, 1) := by decide +kernel
theorem d_D_shift_20 : decode b_D_shift 20 = .ok (.invokevirtual 155, 3) := by decide +kernel
theorem d_D_shift_23 : decode b_D_shift 23 = .ok (.goto 58, 3) := by decide +kernel
theorem d_D_shift_26 : decode b_D_shift 26 = .ok (.aload_n 1, 1) := by decide +kernel
theorem d_D_shift_27 : decode b_D_shift 27 = .ok (.getfield 69, 3) := by decide +kernel
theorem d_D_shift_30 : decode b_D_shift 30 = .ok (.ifCond .lt 18, 3) := by decide +kernel
theorem d_D_shift_33 : decode b_D_shift 33 = .ok (.aload_n 0, 1) := by decide +kernel
theorem d_D_shift_34 : decode b_D_shift 34 = .ok (.getfield 12, 3) := by decide +kernel
theorem d_D_shift_37 : decode b_D_shift 37 = .ok (.getfield 76, 3) := by decide +kernel
theorem d_D_shift_40 : decode b_D_shift 40 = .ok (.iload_n 2, 1) := by decide +kernel
theorem d_D_shift_41 : decode b_D_shift 41 = .ok (.ineg, 1) := by decide +kernel
theorem d_D_shift_42 : decode b_D_shift 42 = .ok (.invokevirtual 158, 3) := by decide +kernel
theorem d_D_shift_45 : decode b_D_shift 45 = .ok (.goto 36, 3) := by decide +kernel
theorem d_D_shift_48 : decode b_D_shift 48 = .ok (.aload_n 0, 1) := by decide +kernel
theorem d_D_shift_49 : decode b_D_shift 49 = .ok (.getfield 12, 3) := by decide +kernel
theorem d_D_shift_52 : decode b_D_shift 52 = .ok (.getfield 76, 3) := by decide +kernel
theorem d_D_shift_55 : decode b_D_shift 55 = .ok (.invokestatic 148, 3) := by decide +kernel
theorem d_D_shift_58 : decode b_D_shift 58 = .ok (.aload_n 0, 1) := by decide +kernel
theorem d_D_shift_59 : decode b_D_shift 59 = .ok (.getfield 12, 3) := by decide +kernel
theorem d_D_shift_62 : decode b_D_shift 62 = .ok (.getfield 76, 3) := by decide +kernel
theorem d_D_shift_65 : decode b_D_shift 65 = .ok (.iload_n 2, 1) := by decide +kernel
theorem d_D_shift_66 : decode b_D_shift 66 = .ok (.ineg, 1) := by decide +kernel
theorem d_D_shift_67 : decode b_D_shift 67 = .ok (.invokevirtual 158, 3) := by decide +kernel
theorem d_D_shift_70 : decode b_D_shift 70 = .ok (.aload_n 0, 1) := by decide +kernel
theorem d_D_shift_71 : decode b_D_shift 71 = .ok (.getfield 12, 3) := by decide +kernel
theorem d_D_shift_74 : decode b_D_shift 74 = .ok (.getfield 76, 3) := by decide +kernel
theorem d_D_shift_77 : decode b_D_shift 77 = .ok (.iconst 1, 1) := by decide +kernel
theorem d_D_shift_78 : decode b_D_shift 78 = .ok (.invokevirtual 124, 3) := by decide +kernel
theorem d_D_shift_81 : decode b_D_shift 81 = .ok (.aload_n 0, 1) := by decide +kernel
theorem d_D_shift_82 : decode b_D_shift 82 = .ok (.iconst 0, 1) := by decide +kernel
theorem d_D_shift_83 : decode b_D_shift 83 = .ok (.invokevirtual 101, 3) := by decide +kernel
theorem d_D_shift_86 : decode b_D_shift 86 = .ok (.return_, 1) := by decide +kernel
theorem d_D_raiseModulo_0 : decode b_D_raiseModulo 0 = .ok (.aload_n 0, 1) := by decide +kernel
theorem d_D_raiseModulo_1 : decode b_D_raiseModulo 1 = .ok (.getfield 49, 3) := by decide +kernel
theorem d_D_raiseModulo_4 : decode b_D_raiseModulo 4 = .ok (.aload_n 3, 1) := by decide +kernel
theorem d_D_raiseModulo_5 : decode b_D_raiseModulo 5 = .ok (.invokevirtual 89, 3) := by decide +kernel
theorem d_D_raiseModulo_8 : decode b_D_raiseModulo 8 = .ok (.aload_n 0, 1) := by decide +kernel
theorem d_D_raiseModulo_9 : decode b_D_raiseModulo 9 = .ok (.getfield 46, 3) := by decide +kernel
theorem d_D_raiseModulo_12 : decode b_D_raiseModulo 12 = .ok (.aload_n 1, 1) := by decide +kernel
theorem d_D_raiseModulo_13 : decode b_D_raiseModulo 13 = .ok (.getfield 76, 3) := by decide +kernel
theorem d_D_raiseModulo_16 : decode b_D_raiseModulo 16 = .ok (.invokevirtual 89, 3) := by decide +kernel
theorem d_D_raiseModulo_19 : decode b_D_raiseModulo 19 = .ok (.aload_n 0, 1) := by decide +kernel
theorem d_D_raiseModulo_20 : decode b_D_raiseModulo 20 = .ok (.getfield 46, 3) := by decide +kernel
theorem d_D_raiseModulo_23 : decode b_D_raiseModulo 23 = .ok (.aload_n 0, 1) := by decide +kernel
theorem d_D_raiseModulo_24 : decode b_D_raiseModulo 24 = .ok (.getfield 49, 3) := by decide +kernel
theorem d_D_raiseModulo_27 : decode b_D_raiseModulo 27 = .ok (.aload_n 0, 1) := by decide +kernel
theorem d_D_raiseModulo_28 : decode b_D_raiseModulo 28 = .ok (.getfield 27, 3) := by decide +kernel
theorem d_D_raiseModulo_31 : decode b_D_raiseModulo 31 = .ok (.invokevirtual 117, 3) := by decide +kernel
theorem d_D_raiseModulo_34 : decode b_D_raiseModulo 34 = .ok (.aload_n 1, 1) := by decide +kernel
theorem d_D_raiseModulo_35 : decode b_D_raiseModulo 35 = .ok (.getfield 69, 3) := by decide +kernel
theorem d_D_raiseModulo_38 : decode b_D_raiseModulo 38 = .ok (.ifCond .ge 46, 3) := by decide +kernel
theorem d_D_raiseModulo_41 : decode b_D_raiseModulo 41 = .ok (.aload_n 0, 1) := by decide +kernel
theorem d_D_raiseModulo_42 : decode b_D_raiseModulo 42 = .ok (.getfield 46, 3) := by decide +kernel
theorem d_D_raiseModulo_45 : decode b_D_raiseModulo 45 = .ok (.invokevirtual 120, 3) := by decide +kernel
theorem d_D_raiseModulo_48 : decode b_D_raiseModulo 48 = .ok (.ifCond .ne 36, 3) := by decide +kernel
theorem d_D_raiseModulo_51 : decode b_D_raiseModulo 51 = .ok (.aload_n 0, 1) := by decide +kernel
theorem d_D_raiseModulo_52 : decode b_D_raiseModulo 52 = .ok (.getfield 31, 3) := by decide +kernel
theorem d_D_raiseModulo_55 : decode b_D_raiseModulo 55 = .ok (.aload_n 0, 1) := by decide +kernel
theorem d_D_raiseModulo_56 : decode b_D_raiseModulo 56 = .ok (.getfield 49, 3) := by decide +kernel
theorem d_D_raiseModulo_59 : decode b_D_raiseModulo 59 = .ok (.invokevirtual 89, 3) := by decide +kernel
theorem d_D_raiseModulo_62 : decode b_D_raiseModulo 62 = .ok (.aload_n 0, 1) := by decide +kernel
theorem d_D_raiseModulo_63 : decode b_D_raiseModulo 63 = .ok (.getfield 31, 3) := by decide +kernel
theorem d_D_raiseModulo_66 : decode b_D_raiseModulo 66 = .ok (.aload_n 0, 1) := by decide +kernel
theorem d_D_raiseModulo_67 : decode b_D_raiseModulo 67 = .ok (.getfield 46, 3) := by decide +kernel
theorem d_D_raiseModulo_70 : decode b_D_raiseModulo 70 = .ok (.invokevirtual 114, 3) := by decide +kernel
theorem d_D_raiseModulo_73 : decode b_D_raiseModulo 73 = .ok (.aload_n 0, 1) := by decide +kernel
theorem d_D_raiseModulo_74 : decode b_D_raiseModulo 74 = .ok (.getfield 46, 3) := by decide +kernel
theorem d_D_raiseModulo_77 : decode b_D_raiseModulo 77 = .ok (.aload_n 0, 1) := by decide +kernel
theorem d_D_raiseModulo_78 : decode b_D_raiseModulo 78 = .ok (.getfield 31, 3) := by decide +kernel
theorem d_D_raiseModulo_81 : decode b_D_raiseModulo 81 = .ok (.invokevirtual 89, 3) := by decide +kernel
theorem d_D_raiseModulo_84 : decode b_D_raiseModulo 84 = .ok (.iload_n 2, 1) := by decide +kernel
theorem d_D_raiseModulo_85 : decode b_D_raiseModulo 85 = .ok (.ifCond .ge 12, 3) := by decide +kernel
theorem d_D_raiseModulo_88 : decode b_D_raiseModulo 88 = .ok (.aload_n 0, 1) := by decide +kernel
theorem d_D_raiseModulo_89 : decode b_D_raiseModulo 89 = .ok (.invokevirtual 161, 3) := by decide +kernel
theorem d_D_raiseModulo_92 : decode b_D_raiseModulo 92 = .ok (.ifCond .ne 5, 3) := by decide +kernel
theorem d_D_raiseModulo_95 : decode b_D_raiseModulo 95 = .ok (.iconst 0, 1) := by decide +kernel
theorem d_D_raiseModulo_96 : decode b_D_raiseModulo 96 = .ok (.ireturn, 1) := by decide +kernel
theorem d_D_raiseModulo_97 : decode b_D_raiseModulo 97 = .ok (.aload_n 0, 1) := by decide +kernel
theorem d_D_raiseModulo_98 : decode b_D_raiseModulo 98 = .ok (.getfield 12, 3) := by decide +kernel
theorem d_D_raiseModulo_101 : decode b_D_raiseModulo 101 = .ok (.lconst 1, 1) := by decide +kernel
theorem d_D_raiseModulo_102 : decode b_D_raiseModulo 102 = .ok (.invokevirtual 127, 3) := by decide +kernel
theorem d_D_raiseModulo_105 : decode b_D_raiseModulo 105 = .ok (.aload_n 0, 1) := by decide +kernel
theorem d_D_raiseModulo_106 : decode b_D_raiseModulo 106 = .ok (.getfield 12, 3) := by decide +kernel
theorem d_D_raiseModulo_109 : decode b_D_raiseModulo 109 = .ok (.getfield 76, 3) := by decide +kernel
theorem d_D_raiseModulo_112 : decode b_D_raiseModulo 112 = .ok (.aload_n 0, 1) := by decide +kernel
theorem d_D_raiseModulo_113 : decode b_D_raiseModulo 113 = .ok (.getfield 49, 3) := by decide +kernel
theorem d_D_raiseModulo_116 : decode b_D_raiseModulo 116 = .ok (.aload_n 0, 1) := by decide +kernel
theorem d_D_raiseModulo_117 : decode b_D_raiseModulo 117 = .ok (.getfield 27, 3) := by decide +kernel
theorem d_D_raiseModulo_120 : decode b_D_raiseModulo 120 = .ok (.invokevirtual 117, 3) := by decide +kernel
theorem d_D_raiseModulo_123 : decode b_D_raiseModulo 123 = .ok (.iload_n 2, 1) := by decide +kernel
theorem d_D_raiseModulo_124 : decode b_D_raiseModulo 124 = .ok (.invokestatic 164, 3) := by decide +kernel
theorem d_D_raiseModulo_127 : decode b_D_raiseModulo 127 = .ok (.istore 4, 2) := by decide +kernel
theorem d_D_raiseModulo_129 : decode b_D_raiseModulo 129 = .ok (.bipush 9, 2) := by decide +kernel
theorem d_D_raiseModulo_131 : decode b_D_raiseModulo 131 = .ok (.istore 5, 2) := by decide +kernel
theorem d_D_raiseModulo_133 : decode b_D_raiseModulo 133 = .ok (.iload 5, 2) := by decide +kernel
theorem d_D_raiseModulo_135 : decode b_D_raiseModulo 135 = .ok (.ifCond .lt 38, 3) := by decide +kernel
theorem d_D_raiseModulo_138 : decode b_D_raiseModulo 138 = .ok (.aload_n 0, 1) := by decide +kernel
theorem d_D_raiseModulo_139 : decode b_D_raiseModulo 139 = .ok (.aload_n 0, 1) := by decide +kernel
theorem d_D_raiseModulo_140 : decode b_D_raiseModulo 140 = .ok (.getfield 12, 3) := by decide +kernel
theorem d_D_raiseModulo_143 : decode b_D_raiseModulo 143 = .ok (.getfield 76, 3) := by decide +kernel
theorem d_D_raiseModulo_146 : decode b_D_raiseModulo 146 = .ok (.invokevirtual 168, 3) := by decide +kernel
theorem d_D_raiseModulo_149 : decode b_D_raiseModulo 149 = .ok (.iload 4, 2) := by decide +kernel
theorem d_D_raiseModulo_151 : decode b_D_raiseModulo 151 = .ok (.iload 5, 2) := by decide +kernel
theorem d_D_raiseModulo_153 : decode b_D_raiseModulo 153 = .ok (.ishr, 1) := by decide +kernel
theorem d_D_raiseModulo_154 : decode b_D_raiseModulo 154 = .ok (.iconst 1, 1) := by decide +kernel
theorem d_D_raiseModulo_155 : decode b_D_raiseModulo 155 = .ok (.iand, 1) := by decide +kernel
theorem d_D_raiseModulo_156 : decode b_D_raiseModulo 156 = .ok (.ifCond .eq 11, 3) := by decide +kernel
theorem d_D_raiseModulo_159 : decode b_D_raiseModulo 159 = .ok (.aload_n 0, 1) := by decide +kernel
theorem d_D_raiseModulo_160 : decode b_D_raiseModulo 160 = .ok (.aload_n 0, 1) := by decide +kernel
theorem d_D_raiseModulo_161 : decode b_D_raiseModulo 161 = .ok (.getfield 46, 3) := by decide +kernel
theorem d_D_raiseModulo_164 : decode b_D_raiseModulo 164 = .ok (.invokevirtual 168, 3) := by decide +kernel
theorem d_D_raiseModulo_167 : decode b_D_raiseModulo 167 = .ok (.iinc 5 (-1), 3) := by decide +kernel
theorem d_D_raiseModulo_170 : decode b_D_raiseModulo 170 = .ok (.goto (-37), 3) := by decide +kernel
theorem d_D_raiseModulo_173 : decode b_D_raiseModulo 173 = .ok (.aload_n 0, 1) := by decide +kernel
theorem d_D_raiseModulo_174 : decode b_D_raiseModulo 174 = .ok (.getfield 12, 3) := by decide +kernel
theorem d_D_raiseModulo_177 : decode b_D_raiseModulo 177 = .ok (.aload_n 0, 1) := by decide +kernel
theorem d_D_raiseModulo_178 : decode b_D_raiseModulo 178 = .ok (.getfield 12, 3) := by decide +kernel
theorem d_D_raiseModulo_181 : decode b_D_raiseModulo 181 = .ok (.getfield 76, 3) := by decide +kernel
theorem d_D_raiseModulo_184 : decode b_D_raiseModulo 184 = .ok (.invokevirtual 120, 3) := by decide +kernel
theorem d_D_raiseModulo_187 : decode b_D_raiseModulo 187 = .ok (.ifCond .eq 7, 3) := by decide +kernel
theorem d_D_raiseModulo_190 : decode b_D_raiseModulo 190 = .ok (.iconst 0, 1) := by decide +kernel
theorem d_D_raiseModulo_191 : decode b_D_raiseModulo 191 = .ok (.goto 4, 3) := by decide +kernel
theorem d_D_raiseModulo_194 : decode b_D_raiseModulo 194 = .ok (.iconst 1, 1) := by decide +kernel
theorem d_D_raiseModulo_195 : decode b_D_raiseModulo 195 = .ok (.putfield 69, 3) := by decide +kernel
theorem d_D_raiseModulo_198 : decode b_D_raiseModulo 198 = .ok (.iconst 1, 1) := by decide +kernel
theorem d_D_raiseModulo_199 : decode b_D_raiseModulo 199 = .ok (.ireturn, 1) := by decide +kernel
theorem d_D_multiplyModulo_0 : decode b_D_multiplyModulo 0 = .ok (.aload_n 0, 1) := by decide +kernel
theorem d_D_multiplyModulo_1 : decode b_D_multiplyModulo 1 = .ok (.getfield 31, 3) := by decide +kernel
theorem d_D_multiplyModulo_4 : decode b_D_multiplyModulo 4 = .ok (.aload_n 0, 1) := by decide +kernel
theorem d_D_multiplyModulo_5 : decode b_D_multiplyModulo 5 = .ok (.getfield 12, 3) := by decide +kernel
theorem d_D_multiplyModulo_8 : decode b_D_multiplyModulo 8 = .ok (.getfield 76, 3) := by decide +kernel
theorem d_D_multiplyModulo_11 : decode b_D_multiplyModulo 11 = .ok (.aload_n 1, 1) := by decide +kernel
theorem d_D_multiplyModulo_12 : decode b_D_multiplyModulo 12 = .ok (.invokevirtual 97, 3) := by decide +kernel
theorem d_D_multiplyModulo_15 : decode b_D_multiplyModulo 15 = .ok (.aload_n 0, 1) := by decide +kernel
theorem d_D_multiplyModulo_16 : decode b_D_multiplyModulo 16 = .ok (.getfield 31, 3) := by decide +kernel
theorem d_D_multiplyModulo_19 : decode b_D_multiplyModulo 19 = .ok (.aload_n 0, 1) := by decide +kernel
theorem d_D_multiplyModulo_20 : decode b_D_multiplyModulo 20 = .ok (.getfield 49, 3) := by decide +kernel
theorem d_D_multiplyModulo_23 : decode b_D_multiplyModulo 23 = .ok (.aload_n 0, 1) := by decide +kernel
theorem d_D_multiplyModulo_24 : decode b_D_multiplyModulo 24 = .ok (.getfield 27, 3) := by decide +kernel
theorem d_D_multiplyModulo_27 : decode b_D_multiplyModulo 27 = .ok (.invokevirtual 117, 3) := by decide +kernel
theorem d_D_multiplyModulo_30 : decode b_D_multiplyModulo 30 = .ok (.aload_n 0, 1) := by decide +kernel
theorem d_D_multiplyModulo_31 : decode b_D_multiplyModulo 31 = .ok (.getfield 12, 3) := by decide +kernel
theorem d_D_multiplyModulo_34 : decode b_D_multiplyModulo 34 = .ok (.getfield 76, 3) := by decide +kernel
theorem d_D_multiplyModulo_37 : decode b_D_multiplyModulo 37 = .ok (.aload_n 0, 1) := by decide +kernel
theorem d_D_multiplyModulo_38 : decode b_D_multiplyModulo 38 = .ok (.getfield 31, 3) := by decide +kernel
theorem d_D_multiplyModulo_41 : decode b_D_multiplyModulo 41 = .ok (.invokevirtual 89, 3) := by decide +kernel
theorem d_D_multiplyModulo_44 : decode b_D_multiplyModulo 44 = .ok (.return_, 1) := by decide +kernel
theorem d_D_invertBase_0 : decode b_D_invertBase 0 = .ok (.aload_n 0, 1) := by decide +kernel
theorem d_D_invertBase_1 : decode b_D_invertBase 1 = .ok (.getfield 31, 3) := by decide +kernel
theorem d_D_invertBase_4 : decode b_D_invertBase 4 = .ok (.astore_n 1, 1) := by decide +kernel
theorem d_D_invertBase_5 : decode b_D_invertBase 5 = .ok (.aload_n 0, 1) := by decide +kernel
theorem d_D_invertBase_6 : decode b_D_invertBase 6 = .ok (.getfield 34, 3) := by decide +kernel
theorem d_D_invertBase_9 : decode b_D_invertBase 9 = .ok (.astore_n 2, 1) := by decide +kernel
theorem d_D_invertBase_10 : decode b_D_invertBase 10 = .ok (.aload_n 0, 1) := by decide +kernel
theorem d_D_invertBase_11 : decode b_D_invertBase 11 = .ok (.getfield 37, 3) := by decide +kernel
theorem d_D_invertBase_14 : decode b_D_invertBase 14 = .ok (.astore_n 3, 1) := by decide +kernel
theorem d_D_invertBase_15 : decode b_D_invertBase 15 = .ok (.aload_n 0, 1) := by decide +kernel
theorem d_D_invertBase_16 : decode b_D_invertBase 16 = .ok (.getfield 40, 3) := by decide +kernel
theorem d_D_invertBase_19 : decode b_D_invertBase 19 = .ok (.astore 4, 2) := by decide +kernel
theorem d_D_invertBase_21 : decode b_D_invertBase 21 = .ok (.aload_n 1, 1) := by decide +kernel
theorem d_D_invertBase_22 : decode b_D_invertBase 22 = .ok (.aload_n 0, 1) := by decide +kernel
theorem d_D_invertBase_23 : decode b_D_invertBase 23 = .ok (.getfield 49, 3) := by decide +kernel
theorem d_D_invertBase_26 : decode b_D_invertBase 26 = .ok (.invokevirtual 89, 3) := by decide +kernel
theorem d_D_invertBase_29 : decode b_D_invertBase 29 = .ok (.aload_n 2, 1) := by decide +kernel
theorem d_D_invertBase_30 : decode b_D_invertBase 30 = .ok (.aload_n 0, 1) := by decide +kernel
theorem d_D_invertBase_31 : decode b_D_invertBase 31 = .ok (.getfield 46, 3) := by decide +kernel
theorem d_D_invertBase_34 : decode b_D_invertBase 34 = .ok (.invokevirtual 89, 3) := by decide +kernel
theorem d_D_invertBase_37 : decode b_D_invertBase 37 = .ok (.aload_n 3, 1) := by decide +kernel
theorem d_D_invertBase_38 : decode b_D_invertBase 38 = .ok (.invokevirtual 171, 3) := by decide +kernel
theorem d_D_invertBase_41 : decode b_D_invertBase 41 = .ok (.aload 4, 2) := by decide +kernel
theorem d_D_invertBase_43 : decode b_D_invertBase 43 = .ok (.lconst 1, 1) := by decide +kernel
theorem d_D_invertBase_44 : decode b_D_invertBase 44 = .ok (.invokevirtual 93, 3) := by decide +kernel
theorem d_D_invertBase_47 : decode b_D_invertBase 47 = .ok (.iconst 1, 1) := by decide +kernel
theorem d_D_invertBase_48 : decode b_D_invertBase 48 = .ok (.istore 5, 2) := by decide +kernel
theorem d_D_invertBase_50 : decode b_D_invertBase 50 = .ok (.iconst 0, 1) := by decide +kernel
theorem d_D_invertBase_51 : decode b_D_invertBase 51 = .ok (.istore 6, 2) := by decide +kernel
theorem d_D_invertBase_53 : decode b_D_invertBase 53 = .ok (.iload 6, 2) := by decide +kernel
theorem d_D_invertBase_55 : decode b_D_invertBase 55 = .ok (.sipush 1000, 3) := by decide +kernel
theorem d_D_invertBase_58 : decode b_D_invertBase 58 = .ok (.if_icmp .ge 76, 3) := by decide +kernel
theorem d_D_invertBase_61 : decode b_D_invertBase 61 = .ok (.aload_n 2, 1) := by decide +kernel
theorem d_D_invertBase_62 : decode b_D_invertBase 62 = .ok (.invokevirtual 120, 3) := by decide +kernel
theorem d_D_invertBase_65 : decode b_D_invertBase 65 = .ok (.ifCond .ne 69, 3) := by decide +kernel
theorem d_D_invertBase_68 : decode b_D_invertBase 68 = .ok (.aload_n 1, 1) := by decide +kernel
theorem d_D_invertBase_69 : decode b_D_invertBase 69 = .ok (.aload_n 2, 1) := by decide +kernel
theorem d_D_invertBase_70 : decode b_D_invertBase 70 = .ok (.aload_n 0, 1) := by decide +kernel
theorem d_D_invertBase_71 : decode b_D_invertBase 71 = .ok (.getfield 27, 3) := by decide +kernel
theorem d_D_invertBase_74 : decode b_D_invertBase 74 = .ok (.invokevirtual 117, 3) := by decide +kernel
theorem d_D_invertBase_77 : decode b_D_invertBase 77 = .ok (.aload_n 0, 1) := by decide +kernel
theorem d_D_invertBase_78 : decode b_D_invertBase 78 = .ok (.getfield 43, 3) := by decide +kernel
theorem d_D_invertBase_81 : decode b_D_invertBase 81 = .ok (.aload_n 0, 1) := by decide +kernel
theorem d_D_invertBase_82 : decode b_D_invertBase 82 = .ok (.getfield 27, 3) := by decide +kernel
theorem d_D_invertBase_85 : decode b_D_invertBase 85 = .ok (.aload 4, 2) := by decide +kernel
theorem d_D_invertBase_87 : decode b_D_invertBase 87 = .ok (.invokevirtual 97, 3) := by decide +kernel
theorem d_D_invertBase_90 : decode b_D_invertBase 90 = .ok (.aload_n 3, 1) := by decide +kernel
theorem d_D_invertBase_91 : decode b_D_invertBase 91 = .ok (.aload_n 0, 1) := by decide +kernel
theorem d_D_invertBase_92 : decode b_D_invertBase 92 = .ok (.getfield 43, 3) := by decide +kernel
theorem d_D_invertBase_95 : decode b_D_invertBase 95 = .ok (.invokevirtual 104, 3) := by decide +kernel
theorem d_D_invertBase_98 : decode b_D_invertBase 98 = .ok (.aload_n 1, 1) := by decide +kernel
theorem d_D_invertBase_99 : decode b_D_invertBase 99 = .ok (.astore 7, 2) := by decide +kernel
theorem d_D_invertBase_101 : decode b_D_invertBase 101 = .ok (.aload_n 2, 1) := by decide +kernel
theorem d_D_invertBase_102 : decode b_D_invertBase 102 = .ok (.astore_n 1, 1) := by decide +kernel
theorem d_D_invertBase_103 : decode b_D_invertBase 103 = .ok (.aload 7, 2) := by decide +kernel
theorem d_D_invertBase_105 : decode b_D_invertBase 105 = .ok (.astore_n 2, 1) := by decide +kernel
theorem d_D_invertBase_106 : decode b_D_invertBase 106 = .ok (.aload_n 3, 1) := by decide +kernel
theorem d_D_invertBase_107 : decode b_D_invertBase 107 = .ok (.astore 7, 2) := by decide +kernel
theorem d_D_invertBase_109 : decode b_D_invertBase 109 = .ok (.aload 4, 2) := by decide +kernel
theorem d_D_invertBase_111 : decode b_D_invertBase 111 = .ok (.astore_n 3, 1) := by decide +kernel
theorem d_D_invertBase_112 : decode b_D_invertBase 112 = .ok (.aload 7, 2) := by decide +kernel
theorem d_D_invertBase_114 : decode b_D_invertBase 114 = .ok (.astore 4, 2) := by decide +kernel
theorem d_D_invertBase_116 : decode b_D_invertBase 116 = .ok (.iload 5, 2) := by decide +kernel
theorem d_D_invertBase_118 : decode b_D_invertBase 118 = .ok (.ifCond .ne 7, 3) := by decide +kernel
theorem d_D_invertBase_121 : decode b_D_invertBase 121 = .ok (.iconst 1, 1) := by decide +kernel
theorem d_D_invertBase_122 : decode b_D_invertBase 122 = .ok (.goto 4, 3) := by decide +kernel
theorem d_D_invertBase_125 : decode b_D_invertBase 125 = .ok (.iconst 0, 1) := by decide +kernel
theorem d_D_invertBase_126 : decode b_D_invertBase 126 = .ok (.istore 5, 2) := by decide +kernel
theorem d_D_invertBase_128 : decode b_D_invertBase 128 = .ok (.iinc 6 1, 3) := by decide +kernel
theorem d_D_invertBase_131 : decode b_D_invertBase 131 = .ok (.goto (-78), 3) := by decide +kernel
theorem d_D_invertBase_134 : decode b_D_invertBase 134 = .ok (.aload_n 1, 1) := by decide +kernel
theorem d_D_invertBase_135 : decode b_D_invertBase 135 = .ok (.invokevirtual 174, 3) := by decide +kernel
theorem d_D_invertBase_138 : decode b_D_invertBase 138 = .ok (.ifCond .ne 5, 3) := by decide +kernel
theorem d_D_invertBase_141 : decode b_D_invertBase 141 = .ok (.iconst 0, 1) := by decide +kernel
theorem d_D_invertBase_142 : decode b_D_invertBase 142 = .ok (.ireturn, 1) := by decide +kernel
theorem d_D_invertBase_143 : decode b_D_invertBase 143 = .ok (.aload_n 0, 1) := by decide +kernel
theorem d_D_invertBase_144 : decode b_D_invertBase 144 = .ok (.getfield 46, 3) := by decide +kernel
theorem d_D_invertBase_147 : decode b_D_invertBase 147 = .ok (.aload_n 3, 1) := by decide +kernel
theorem d_D_invertBase_148 : decode b_D_invertBase 148 = .ok (.invokevirtual 89, 3) := by decide +kernel
theorem d_D_invertBase_151 : decode b_D_invertBase 151 = .ok (.iload 5, 2) := by decide +kernel
theorem d_D_invertBase_153 : decode b_D_invertBase 153 = .ok (.ifCond .eq 29, 3) := by decide +kernel
theorem d_D_invertBase_156 : decode b_D_invertBase 156 = .ok (.aload_n 3, 1) := by decide +kernel
theorem d_D_invertBase_157 : decode b_D_invertBase 157 = .ok (.invokevirtual 120, 3) := by decide +kernel
theorem d_D_invertBase_160 : decode b_D_invertBase 160 = .ok (.ifCond .ne 22, 3) := by decide +kernel
theorem d_D_invertBase_163 : decode b_D_invertBase 163 = .ok (.aload_n 0, 1) := by decide +kernel
theorem d_D_invertBase_164 : decode b_D_invertBase 164 = .ok (.getfield 46, 3) := by decide +kernel
theorem d_D_invertBase_167 : decode b_D_invertBase 167 = .ok (.aload_n 0, 1) := by decide +kernel
theorem d_D_invertBase_168 : decode b_D_invertBase 168 = .ok (.getfield 49, 3) := by decide +kernel
theorem d_D_invertBase_171 : decode b_D_invertBase 171 = .ok (.invokevirtual 89, 3) := by decide +kernel
theorem d_D_invertBase_174 : decode b_D_invertBase 174 = .ok (.aload_n 0, 1) := by decide +kernel
theorem d_D_invertBase_175 : decode b_D_invertBase 175 = .ok (.getfield 46, 3) := by decide +kernel
theorem d_D_invertBase_178 : decode b_D_invertBase 178 = .ok (.aload_n 3, 1) := by decide +kernel
theorem d_D_invertBase_179 : decode b_D_invertBase 179 = .ok (.invokevirtual 114, 3) := by decide +kernel
theorem d_D_invertBase_182 : decode b_D_invertBase 182 = .ok (.iconst 1, 1) := by decide +kernel
theorem d_D_invertBase_183 : decode b_D_invertBase 183 = .ok (.ireturn, 1) := by decide +kernel
theorem d_D_turnTo_0 : decode b_D_turnTo 0 = .ok (.aload_n 0, 1) := by decide +kernel
theorem d_D_turnTo_1 : decode b_D_turnTo 1 = .ok (.getfield 12, 3) := by decide +kernel
theorem d_D_turnTo_4 : decode b_D_turnTo 4 = .ok (.aload_n 2, 1) := by decide +kernel
theorem d_D_turnTo_5 : decode b_D_turnTo 5 = .ok (.invokevirtual 62, 3) := by decide +kernel
theorem d_D_turnTo_8 : decode b_D_turnTo 8 = .ok (.iload_n 1, 1) := by decide +kernel
theorem d_D_turnTo_9 : decode b_D_turnTo 9 = .ok (.tableswitch 132 0 3 #[31, 85, 103, 114], 31) := by decide +kernel
theorem d_D_turnTo_40 : decode b_D_turnTo 40 = .ok (.aload_n 0, 1) := by decide +kernel
theorem d_D_turnTo_41 : decode b_D_turnTo 41 = .ok (.getfield 12, 3) := by decide +kernel
theorem d_D_turnTo_44 : decode b_D_turnTo 44 = .ok (.getfield 76, 3) := by decide +kernel
theorem d_D_turnTo_47 : decode b_D_turnTo 47 = .ok (.aload_n 0, 1) := by decide +kernel
theorem d_D_turnTo_48 : decode b_D_turnTo 48 = .ok (.getfield 12, 3) := by decide +kernel
theorem d_D_turnTo_51 : decode b_D_turnTo 51 = .ok (.getfield 79, 3) := by decide +kernel
theorem d_D_turnTo_54 : decode b_D_turnTo 54 = .ok (.aload_n 0, 1) := by decide +kernel
theorem d_D_turnTo_55 : decode b_D_turnTo 55 = .ok (.getfield 27, 3) := by decide +kernel
theorem d_D_turnTo_58 : decode b_D_turnTo 58 = .ok (.invokevirtual 117, 3) := by decide +kernel
theorem d_D_turnTo_61 : decode b_D_turnTo 61 = .ok (.aload_n 0, 1) := by decide +kernel
theorem d_D_turnTo_62 : decode b_D_turnTo 62 = .ok (.getfield 12, 3) := by decide +kernel
theorem d_D_turnTo_65 : decode b_D_turnTo 65 = .ok (.getfield 76, 3) := by decide +kernel
theorem d_D_turnTo_68 : decode b_D_turnTo 68 = .ok (.aload_n 0, 1) := by decide +kernel
theorem d_D_turnTo_69 : decode b_D_turnTo 69 = .ok (.getfield 27, 3) := by decide +kernel
theorem d_D_turnTo_72 : decode b_D_turnTo 72 = .ok (.invokevirtual 89, 3) := by decide +kernel
theorem d_D_turnTo_75 : decode b_D_turnTo 75 = .ok (.aload_n 0, 1) := by decide +kernel
theorem d_D_turnTo_76 : decode b_D_turnTo 76 = .ok (.getfield 12, 3) := by decide +kernel
theorem d_D_turnTo_79 : decode b_D_turnTo 79 = .ok (.getfield 79, 3) := by decide +kernel
theorem d_D_turnTo_82 : decode b_D_turnTo 82 = .ok (.lconst 1, 1) := by decide +kernel
theorem d_D_turnTo_83 : decode b_D_turnTo 83 = .ok (.invokevirtual 93, 3) := by decide +kernel
theorem d_D_turnTo_86 : decode b_D_turnTo 86 = .ok (.aload_n 0, 1) := by decide +kernel
theorem d_D_turnTo_87 : decode b_D_turnTo 87 = .ok (.iconst 0, 1) := by decide +kernel
theorem d_D_turnTo_88 : decode b_D_turnTo 88 = .ok (.invokevirtual 101, 3) := by decide +kernel
theorem d_D_turnTo_91 : decode b_D_turnTo 91 = .ok (.goto 67, 3) := by decide +kernel
theorem d_D_turnTo_94 : decode b_D_turnTo 94 = .ok (.aload_n 0, 1) := by decide +kernel
theorem d_D_turnTo_95 : decode b_D_turnTo 95 = .ok (.getfield 12, 3) := by decide +kernel
theorem d_D_turnTo_98 : decode b_D_turnTo 98 = .ok (.iconst 1, 1) := by decide +kernel
theorem d_D_turnTo_99 : decode b_D_turnTo 99 = .ok (.putfield 52, 3) := by decide +kernel
theorem d_D_turnTo_102 : decode b_D_turnTo 102 = .ok (.aload_n 0, 1) := by decide +kernel
theorem d_D_turnTo_103 : decode b_D_turnTo 103 = .ok (.getfield 12, 3) := by decide +kernel
theorem d_D_turnTo_106 : decode b_D_turnTo 106 = .ok (.invokestatic 130, 3) := by decide +kernel
theorem d_D_turnTo_109 : decode b_D_turnTo 109 = .ok (.goto 49, 3) := by decide +kernel
theorem d_D_turnTo_112 : decode b_D_turnTo 112 = .ok (.aload_n 0, 1) := by decide +kernel
theorem d_D_turnTo_113 : decode b_D_turnTo 113 = .ok (.aload_n 0, 1) := by decide +kernel
theorem d_D_turnTo_114 : decode b_D_turnTo 114 = .ok (.getfield 12, 3) := by decide +kernel
theorem d_D_turnTo_117 : decode b_D_turnTo 117 = .ok (.invokevirtual 177, 3) := by decide +kernel
theorem d_D_turnTo_120 : decode b_D_turnTo 120 = .ok (.goto 38, 3) := by decide +kernel
theorem d_D_turnTo_123 : decode b_D_turnTo 123 = .ok (.aload_n 0, 1) := by decide +kernel
theorem d_D_turnTo_124 : decode b_D_turnTo 124 = .ok (.getfield 12, 3) := by decide +kernel
theorem d_D_turnTo_127 : decode b_D_turnTo 127 = .ok (.aload_n 0, 1) := by decide +kernel
theorem d_D_turnTo_128 : decode b_D_turnTo 128 = .ok (.getfield 12, 3) := by decide +kernel
theorem d_D_turnTo_131 : decode b_D_turnTo 131 = .ok (.getfield 69, 3) := by decide +kernel
theorem d_D_turnTo_134 : decode b_D_turnTo 134 = .ok (.ineg, 1) := by decide +kernel
theorem d_D_turnTo_135 : decode b_D_turnTo 135 = .ok (.putfield 69, 3) := by decide +kernel
theorem d_D_turnTo_138 : decode b_D_turnTo 138 = .ok (.goto 20, 3) := by decide +kernel
theorem d_D_turnTo_141 : decode b_D_turnTo 141 = .ok (.aload_n 0, 1) := by decide +kernel
theorem d_D_turnTo_142 : decode b_D_turnTo 142 = .ok (.getfield 12, 3) := by decide +kernel
theorem d_D_turnTo_145 : decode b_D_turnTo 145 = .ok (.aload_n 0, 1) := by decide +kernel
theorem d_D_turnTo_146 : decode b_D_turnTo 146 = .ok (.getfield 12, 3) := by decide +kernel
theorem d_D_turnTo_149 : decode b_D_turnTo 149 = .ok (.getfield 69, 3) := by decide +kernel
theorem d_D_turnTo_152 : decode b_D_turnTo 152 = .ok (.invokestatic 164, 3) := by decide +kernel
theorem d_D_turnTo_155 : decode b_D_turnTo 155 = .ok (.putfield 69, 3) := by decide +kernel
theorem d_D_turnTo_158 : decode b_D_turnTo 158 = .ok (.return_, 1) := by decide +kernel
theorem d_D_roundTo_0 : decode b_D_roundTo 0 = .ok (.aload_n 1, 1) := by decide +kernel
theorem d_D_roundTo_1 : decode b_D_roundTo 1 = .ok (.getfield 52, 3) := by decide +kernel
theorem d_D_roundTo_4 : decode b_D_roundTo 4 = .ok (.ifCond .ne 11, 3) := by decide +kernel
theorem d_D_roundTo_7 : decode b_D_roundTo 7 = .ok (.iload_n 2, 1) := by decide +kernel
theorem d_D_roundTo_8 : decode b_D_roundTo 8 = .ok (.iconst 0, 1) := by decide +kernel
theorem d_D_roundTo_9 : decode b_D_roundTo 9 = .ok (.invokestatic 180, 3) := by decide +kernel
theorem d_D_roundTo_12 : decode b_D_roundTo 12 = .ok (.goto 4, 3) := by decide +kernel
theorem d_D_roundTo_15 : decode b_D_roundTo 15 = .ok (.iload_n 2, 1) := by decide +kernel
theorem d_D_roundTo_16 : decode b_D_roundTo 16 = .ok (.istore_n 3, 1) := by decide +kernel
theorem d_D_roundTo_17 : decode b_D_roundTo 17 = .ok (.aload_n 0, 1) := by decide +kernel
theorem d_D_roundTo_18 : decode b_D_roundTo 18 = .ok (.getfield 12, 3) := by decide +kernel
theorem d_D_roundTo_21 : decode b_D_roundTo 21 = .ok (.aload_n 1, 1) := by decide +kernel
theorem d_D_roundTo_22 : decode b_D_roundTo 22 = .ok (.invokevirtual 62, 3) := by decide +kernel
theorem d_D_roundTo_25 : decode b_D_roundTo 25 = .ok (.aload_n 0, 1) := by decide +kernel
theorem d_D_roundTo_26 : decode b_D_roundTo 26 = .ok (.getfield 12, 3) := by decide +kernel
theorem d_D_roundTo_29 : decode b_D_roundTo 29 = .ok (.getfield 76, 3) := by decide +kernel
theorem d_D_roundTo_32 : decode b_D_roundTo 32 = .ok (.iload_n 3, 1) := by decide +kernel
theorem d_D_roundTo_33 : decode b_D_roundTo 33 = .ok (.invokevirtual 183, 3) := by decide +kernel
theorem d_D_roundTo_36 : decode b_D_roundTo 36 = .ok (.aload_n 0, 1) := by decide +kernel
theorem d_D_roundTo_37 : decode b_D_roundTo 37 = .ok (.getfield 12, 3) := by decide +kernel
theorem d_D_roundTo_40 : decode b_D_roundTo 40 = .ok (.getfield 79, 3) := by decide +kernel
theorem d_D_roundTo_43 : decode b_D_roundTo 43 = .ok (.iload_n 3, 1) := by decide +kernel
theorem d_D_roundTo_44 : decode b_D_roundTo 44 = .ok (.ineg, 1) := by decide +kernel
theorem d_D_roundTo_45 : decode b_D_roundTo 45 = .ok (.invokevirtual 183, 3) := by decide +kernel
theorem d_D_roundTo_48 : decode b_D_roundTo 48 = .ok (.aload_n 0, 1) := by decide +kernel
theorem d_D_roundTo_49 : decode b_D_roundTo 49 = .ok (.getfield 12, 3) := by decide +kernel
theorem d_D_roundTo_52 : decode b_D_roundTo 52 = .ok (.getfield 76, 3) := by decide +kernel
theorem d_D_roundTo_55 : decode b_D_roundTo 55 = .ok (.aload_n 0, 1) := by decide +kernel
theorem d_D_roundTo_56 : decode b_D_roundTo 56 = .ok (.getfield 12, 3) := by decide +kernel
theorem d_D_roundTo_59 : decode b_D_roundTo 59 = .ok (.getfield 79, 3) := by decide +kernel
theorem d_D_roundTo_62 : decode b_D_roundTo 62 = .ok (.aload_n 0, 1) := by decide +kernel
theorem d_D_roundTo_63 : decode b_D_roundTo 63 = .ok (.getfield 27, 3) := by decide +kernel
theorem d_D_roundTo_66 : decode b_D_roundTo 66 = .ok (.invokevirtual 117, 3) := by decide +kernel
theorem d_D_roundTo_69 : decode b_D_roundTo 69 = .ok (.aload_n 0, 1) := by decide +kernel
theorem d_D_roundTo_70 : decode b_D_roundTo 70 = .ok (.getfield 27, 3) := by decide +kernel
theorem d_D_roundTo_73 : decode b_D_roundTo 73 = .ok (.aload_n 0, 1) := by decide +kernel
theorem d_D_roundTo_74 : decode b_D_roundTo 74 = .ok (.getfield 12, 3) := by decide +kernel
theorem d_D_roundTo_77 : decode b_D_roundTo 77 = .ok (.getfield 76, 3) := by decide +kernel
theorem d_D_roundTo_80 : decode b_D_roundTo 80 = .ok (.aload_n 0, 1) := by decide +kernel
theorem d_D_roundTo_81 : decode b_D_roundTo 81 = .ok (.getfield 12, 3) := by decide +kernel
theorem d_D_roundTo_84 : decode b_D_roundTo 84 = .ok (.getfield 79, 3) := by decide +kernel
theorem d_D_roundTo_87 : decode b_D_roundTo 87 = .ok (.invokevirtual 186, 3) := by decide +kernel
theorem d_D_roundTo_90 : decode b_D_roundTo 90 = .ok (.aload_n 0, 1) := by decide +kernel
theorem d_D_roundTo_91 : decode b_D_roundTo 91 = .ok (.getfield 12, 3) := by decide +kernel
theorem d_D_roundTo_94 : decode b_D_roundTo 94 = .ok (.getfield 76, 3) := by decide +kernel
theorem d_D_roundTo_97 : decode b_D_roundTo 97 = .ok (.aload_n 0, 1) := by decide +kernel
theorem d_D_roundTo_98 : decode b_D_roundTo 98 = .ok (.getfield 27, 3) := by decide +kernel
theorem d_D_roundTo_101 : decode b_D_roundTo 101 = .ok (.invokevirtual 89, 3) := by decide +kernel
theorem d_D_roundTo_104 : decode b_D_roundTo 104 = .ok (.aload_n 0, 1) := by decide +kernel
theorem d_D_roundTo_105 : decode b_D_roundTo 105 = .ok (.getfield 12, 3) := by decide +kernel
theorem d_D_roundTo_108 : decode b_D_roundTo 108 = .ok (.getfield 79, 3) := by decide +kernel
theorem d_D_roundTo_111 : decode b_D_roundTo 111 = .ok (.lconst 1, 1) := by decide +kernel
theorem d_D_roundTo_112 : decode b_D_roundTo 112 = .ok (.invokevirtual 93, 3) := by decide +kernel
theorem d_D_roundTo_115 : decode b_D_roundTo 115 = .ok (.aload_n 0, 1) := by decide +kernel
theorem d_D_roundTo_116 : decode b_D_roundTo 116 = .ok (.getfield 12, 3) := by decide +kernel
theorem d_D_roundTo_119 : decode b_D_roundTo 119 = .ok (.getfield 79, 3) := by decide +kernel
theorem d_D_roundTo_122 : decode b_D_roundTo 122 = .ok (.iload_n 3, 1) := by decide +kernel
theorem d_D_roundTo_123 : decode b_D_roundTo 123 = .ok (.invokevirtual 183, 3) := by decide +kernel
theorem d_D_roundTo_126 : decode b_D_roundTo 126 = .ok (.aload_n 0, 1) := by decide +kernel
theorem d_D_roundTo_127 : decode b_D_roundTo 127 = .ok (.getfield 12, 3) := by decide +kernel
theorem d_D_roundTo_130 : decode b_D_roundTo 130 = .ok (.getfield 76, 3) := by decide +kernel
theorem d_D_roundTo_133 : decode b_D_roundTo 133 = .ok (.iload_n 3, 1) := by decide +kernel
theorem d_D_roundTo_134 : decode b_D_roundTo 134 = .ok (.ineg, 1) := by decide +kernel
theorem d_D_roundTo_135 : decode b_D_roundTo 135 = .ok (.invokevirtual 183, 3) := by decide +kernel
theorem d_D_roundTo_138 : decode b_D_roundTo 138 = .ok (.aload_n 0, 1) := by decide +kernel
theorem d_D_roundTo_139 : decode b_D_roundTo 139 = .ok (.aload_n 1, 1) := by decide +kernel
theorem d_D_roundTo_140 : decode b_D_roundTo 140 = .ok (.getfield 52, 3) := by decide +kernel
theorem d_D_roundTo_143 : decode b_D_roundTo 143 = .ok (.invokevirtual 101, 3) := by decide +kernel
theorem d_D_roundTo_146 : decode b_D_roundTo 146 = .ok (.return_, 1) := by decide +kernel
theorem d_D_startSum_0 : decode b_D_startSum 0 = .ok (.aload_n 0, 1) := by decide +kernel
theorem d_D_startSum_1 : decode b_D_startSum 1 = .ok (.getfield 31, 3) := by decide +kernel
theorem d_D_startSum_4 : decode b_D_startSum 4 = .ok (.invokevirtual 171, 3) := by decide +kernel
theorem d_D_startSum_7 : decode b_D_startSum 7 = .ok (.aload_n 0, 1) := by decide +kernel
theorem d_D_startSum_8 : decode b_D_startSum 8 = .ok (.getfield 34, 3) := by decide +kernel
theorem d_D_startSum_11 : decode b_D_startSum 11 = .ok (.invokevirtual 171, 3) := by decide +kernel
theorem d_D_startSum_14 : decode b_D_startSum 14 = .ok (.return_, 1) := by decide +kernel
theorem d_D_addToSum_0 : decode b_D_addToSum 0 = .ok (.aload_n 0, 1) := by decide +kernel
theorem d_D_addToSum_1 : decode b_D_addToSum 1 = .ok (.getfield 37, 3) := by decide +kernel
theorem d_D_addToSum_4 : decode b_D_addToSum 4 = .ok (.aload_n 1, 1) := by decide +kernel
theorem d_D_addToSum_5 : decode b_D_addToSum 5 = .ok (.getfield 76, 3) := by decide +kernel
theorem d_D_addToSum_8 : decode b_D_addToSum 8 = .ok (.invokevirtual 89, 3) := by decide +kernel
theorem d_D_addToSum_11 : decode b_D_addToSum 11 = .ok (.aload_n 0, 1) := by decide +kernel
theorem d_D_addToSum_12 : decode b_D_addToSum 12 = .ok (.getfield 37, 3) := by decide +kernel
theorem d_D_addToSum_15 : decode b_D_addToSum 15 = .ok (.sipush 152, 3) := by decide +kernel
theorem d_D_addToSum_18 : decode b_D_addToSum 18 = .ok (.aload_n 1, 1) := by decide +kernel
theorem d_D_addToSum_19 : decode b_D_addToSum 19 = .ok (.getfield 79, 3) := by decide +kernel
theorem d_D_addToSum_22 : decode b_D_addToSum 22 = .ok (.invokevirtual 189, 3) := by decide +kernel
theorem d_D_addToSum_25 : decode b_D_addToSum 25 = .ok (.iconst 1, 1) := by decide +kernel
theorem d_D_addToSum_26 : decode b_D_addToSum 26 = .ok (.isub, 1) := by decide +kernel
theorem d_D_addToSum_27 : decode b_D_addToSum 27 = .ok (.isub, 1) := by decide +kernel
theorem d_D_addToSum_28 : decode b_D_addToSum 28 = .ok (.invokevirtual 155, 3) := by decide +kernel
theorem d_D_addToSum_31 : decode b_D_addToSum 31 = .ok (.aload_n 1, 1) := by decide +kernel
theorem d_D_addToSum_32 : decode b_D_addToSum 32 = .ok (.getfield 69, 3) := by decide +kernel
theorem d_D_addToSum_35 : decode b_D_addToSum 35 = .ok (.ifCond .le 17, 3) := by decide +kernel
theorem d_D_addToSum_38 : decode b_D_addToSum 38 = .ok (.aload_n 0, 1) := by decide +kernel
theorem d_D_addToSum_39 : decode b_D_addToSum 39 = .ok (.getfield 31, 3) := by decide +kernel
theorem d_D_addToSum_42 : decode b_D_addToSum 42 = .ok (.aload_n 0, 1) := by decide +kernel
theorem d_D_addToSum_43 : decode b_D_addToSum 43 = .ok (.getfield 37, 3) := by decide +kernel
theorem d_D_addToSum_46 : decode b_D_addToSum 46 = .ok (.invokevirtual 104, 3) := by decide +kernel
theorem d_D_addToSum_49 : decode b_D_addToSum 49 = .ok (.goto 14, 3) := by decide +kernel
theorem d_D_addToSum_52 : decode b_D_addToSum 52 = .ok (.aload_n 0, 1) := by decide +kernel
theorem d_D_addToSum_53 : decode b_D_addToSum 53 = .ok (.getfield 34, 3) := by decide +kernel
theorem d_D_addToSum_56 : decode b_D_addToSum 56 = .ok (.aload_n 0, 1) := by decide +kernel
theorem d_D_addToSum_57 : decode b_D_addToSum 57 = .ok (.getfield 37, 3) := by decide +kernel
theorem d_D_addToSum_60 : decode b_D_addToSum 60 = .ok (.invokevirtual 104, 3) := by decide +kernel
theorem d_D_addToSum_63 : decode b_D_addToSum 63 = .ok (.return_, 1) := by decide +kernel
theorem d_D_finishSum_0 : decode b_D_finishSum 0 = .ok (.aload_n 0, 1) := by decide +kernel
theorem d_D_finishSum_1 : decode b_D_finishSum 1 = .ok (.iconst 1, 1) := by decide +kernel
theorem d_D_finishSum_2 : decode b_D_finishSum 2 = .ok (.invokevirtual 107, 3) := by decide +kernel
theorem d_D_finishSum_5 : decode b_D_finishSum 5 = .ok (.aload_n 0, 1) := by decide +kernel
theorem d_D_finishSum_6 : decode b_D_finishSum 6 = .ok (.getfield 12, 3) := by decide +kernel
theorem d_D_finishSum_9 : decode b_D_finishSum 9 = .ok (.getfield 79, 3) := by decide +kernel
theorem d_D_finishSum_12 : decode b_D_finishSum 12 = .ok (.lconst 1, 1) := by decide +kernel
theorem d_D_finishSum_13 : decode b_D_finishSum 13 = .ok (.invokevirtual 93, 3) := by decide +kernel
theorem d_D_finishSum_16 : decode b_D_finishSum 16 = .ok (.aload_n 0, 1) := by decide +kernel
theorem d_D_finishSum_17 : decode b_D_finishSum 17 = .ok (.getfield 12, 3) := by decide +kernel
theorem d_D_finishSum_20 : decode b_D_finishSum 20 = .ok (.getfield 79, 3) := by decide +kernel
theorem d_D_finishSum_23 : decode b_D_finishSum 23 = .ok (.sipush 152, 3) := by decide +kernel
theorem d_D_finishSum_26 : decode b_D_finishSum 26 = .ok (.invokevirtual 155, 3) := by decide +kernel
theorem d_D_finishSum_29 : decode b_D_finishSum 29 = .ok (.aload_n 0, 1) := by decide +kernel
theorem d_D_finishSum_30 : decode b_D_finishSum 30 = .ok (.iconst 2, 1) := by decide +kernel
theorem d_D_finishSum_31 : decode b_D_finishSum 31 = .ok (.invokevirtual 101, 3) := by decide +kernel
theorem d_D_finishSum_34 : decode b_D_finishSum 34 = .ok (.return_, 1) := by decide +kernel
theorem d_D_orderOf_0 : decode b_D_orderOf 0 = .ok (.aload_n 1, 1) := by decide +kernel
theorem d_D_orderOf_1 : decode b_D_orderOf 1 = .ok (.getfield 69, 3) := by decide +kernel
theorem d_D_orderOf_4 : decode b_D_orderOf 4 = .ok (.aload_n 2, 1) := by decide +kernel
theorem d_D_orderOf_5 : decode b_D_orderOf 5 = .ok (.getfield 69, 3) := by decide +kernel
theorem d_D_orderOf_8 : decode b_D_orderOf 8 = .ok (.if_icmp .eq 20, 3) := by decide +kernel
theorem d_D_orderOf_11 : decode b_D_orderOf 11 = .ok (.aload_n 1, 1) := by decide +kernel
theorem d_D_orderOf_12 : decode b_D_orderOf 12 = .ok (.getfield 69, 3) := by decide +kernel
theorem d_D_orderOf_15 : decode b_D_orderOf 15 = .ok (.aload_n 2, 1) := by decide +kernel
theorem d_D_orderOf_16 : decode b_D_orderOf 16 = .ok (.getfield 69, 3) := by decide +kernel
theorem d_D_orderOf_19 : decode b_D_orderOf 19 = .ok (.if_icmp .ge 7, 3) := by decide +kernel
theorem d_D_orderOf_22 : decode b_D_orderOf 22 = .ok (.iconst (-1), 1) := by decide +kernel
theorem d_D_orderOf_23 : decode b_D_orderOf 23 = .ok (.goto 4, 3) := by decide +kernel
theorem d_D_orderOf_26 : decode b_D_orderOf 26 = .ok (.iconst 1, 1) := by decide +kernel
theorem d_D_orderOf_27 : decode b_D_orderOf 27 = .ok (.ireturn, 1) := by decide +kernel
theorem d_D_orderOf_28 : decode b_D_orderOf 28 = .ok (.aload_n 0, 1) := by decide +kernel
theorem d_D_orderOf_29 : decode b_D_orderOf 29 = .ok (.getfield 31, 3) := by decide +kernel
theorem d_D_orderOf_32 : decode b_D_orderOf 32 = .ok (.aload_n 1, 1) := by decide +kernel
theorem d_D_orderOf_33 : decode b_D_orderOf 33 = .ok (.getfield 76, 3) := by decide +kernel
theorem d_D_orderOf_36 : decode b_D_orderOf 36 = .ok (.aload_n 2, 1) := by decide +kernel
theorem d_D_orderOf_37 : decode b_D_orderOf 37 = .ok (.getfield 79, 3) := by decide +kernel
theorem d_D_orderOf_40 : decode b_D_orderOf 40 = .ok (.invokevirtual 97, 3) := by decide +kernel
theorem d_D_orderOf_43 : decode b_D_orderOf 43 = .ok (.aload_n 0, 1) := by decide +kernel
theorem d_D_orderOf_44 : decode b_D_orderOf 44 = .ok (.getfield 34, 3) := by decide +kernel
theorem d_D_orderOf_47 : decode b_D_orderOf 47 = .ok (.aload_n 2, 1) := by decide +kernel
theorem d_D_orderOf_48 : decode b_D_orderOf 48 = .ok (.getfield 76, 3) := by decide +kernel
theorem d_D_orderOf_51 : decode b_D_orderOf 51 = .ok (.aload_n 1, 1) := by decide +kernel
theorem d_D_orderOf_52 : decode b_D_orderOf 52 = .ok (.getfield 79, 3) := by decide +kernel
theorem d_D_orderOf_55 : decode b_D_orderOf 55 = .ok (.invokevirtual 97, 3) := by decide +kernel
theorem d_D_orderOf_58 : decode b_D_orderOf 58 = .ok (.aload_n 0, 1) := by decide +kernel
theorem d_D_orderOf_59 : decode b_D_orderOf 59 = .ok (.getfield 31, 3) := by decide +kernel
theorem d_D_orderOf_62 : decode b_D_orderOf 62 = .ok (.aload_n 0, 1) := by decide +kernel
theorem d_D_orderOf_63 : decode b_D_orderOf 63 = .ok (.getfield 34, 3) := by decide +kernel
theorem d_D_orderOf_66 : decode b_D_orderOf 66 = .ok (.invokevirtual 110, 3) := by decide +kernel
theorem d_D_orderOf_69 : decode b_D_orderOf 69 = .ok (.aload_n 1, 1) := by decide +kernel
theorem d_D_orderOf_70 : decode b_D_orderOf 70 = .ok (.getfield 69, 3) := by decide +kernel
theorem d_D_orderOf_73 : decode b_D_orderOf 73 = .ok (.imul, 1) := by decide +kernel
theorem d_D_orderOf_74 : decode b_D_orderOf 74 = .ok (.ireturn, 1) := by decide +kernel
theorem d_D_hashOf_0 : decode b_D_hashOf 0 = .ok (.aload_n 0, 1) := by decide +kernel
theorem d_D_hashOf_1 : decode b_D_hashOf 1 = .ok (.getfield 49, 3) := by decide +kernel
theorem d_D_hashOf_4 : decode b_D_hashOf 4 = .ok (.ldc2_w 193, 3) := by decide +kernel
theorem d_D_hashOf_7 : decode b_D_hashOf 7 = .ok (.invokevirtual 93, 3) := by decide +kernel
theorem d_D_hashOf_10 : decode b_D_hashOf 10 = .ok (.aload_n 0, 1) := by decide +kernel
theorem d_D_hashOf_11 : decode b_D_hashOf 11 = .ok (.getfield 46, 3) := by decide +kernel
theorem d_D_hashOf_14 : decode b_D_hashOf 14 = .ok (.aload_n 1, 1) := by decide +kernel
theorem d_D_hashOf_15 : decode b_D_hashOf 15 = .ok (.getfield 79, 3) := by decide +kernel
theorem d_D_hashOf_18 : decode b_D_hashOf 18 = .ok (.invokevirtual 89, 3) := by decide +kernel
theorem d_D_hashOf_21 : decode b_D_hashOf 21 = .ok (.aload_n 0, 1) := by decide +kernel
theorem d_D_hashOf_22 : decode b_D_hashOf 22 = .ok (.getfield 46, 3) := by decide +kernel
theorem d_D_hashOf_25 : decode b_D_hashOf 25 = .ok (.aload_n 0, 1) := by decide +kernel
theorem d_D_hashOf_26 : decode b_D_hashOf 26 = .ok (.getfield 49, 3) := by decide +kernel
theorem d_D_hashOf_29 : decode b_D_hashOf 29 = .ok (.aload_n 0, 1) := by decide +kernel
theorem d_D_hashOf_30 : decode b_D_hashOf 30 = .ok (.getfield 27, 3) := by decide +kernel
theorem d_D_hashOf_33 : decode b_D_hashOf 33 = .ok (.invokevirtual 117, 3) := by decide +kernel
theorem d_D_hashOf_36 : decode b_D_hashOf 36 = .ok (.ldc2_w 195, 3) := by decide +kernel
theorem d_D_hashOf_39 : decode b_D_hashOf 39 = .ok (.lstore_n 2, 1) := by decide +kernel
theorem d_D_hashOf_40 : decode b_D_hashOf 40 = .ok (.aload_n 0, 1) := by decide +kernel
theorem d_D_hashOf_41 : decode b_D_hashOf 41 = .ok (.invokevirtual 161, 3) := by decide +kernel
theorem d_D_hashOf_44 : decode b_D_hashOf 44 = .ok (.ifCond .eq 67, 3) := by decide +kernel
theorem d_D_hashOf_47 : decode b_D_hashOf 47 = .ok (.aload_n 0, 1) := by decide +kernel
theorem d_D_hashOf_48 : decode b_D_hashOf 48 = .ok (.getfield 31, 3) := by decide +kernel
theorem d_D_hashOf_51 : decode b_D_hashOf 51 = .ok (.aload_n 1, 1) := by decide +kernel
theorem d_D_hashOf_52 : decode b_D_hashOf 52 = .ok (.getfield 76, 3) := by decide +kernel
theorem d_D_hashOf_55 : decode b_D_hashOf 55 = .ok (.invokevirtual 89, 3) := by decide +kernel
theorem d_D_hashOf_58 : decode b_D_hashOf 58 = .ok (.aload_n 0, 1) := by decide +kernel
theorem d_D_hashOf_59 : decode b_D_hashOf 59 = .ok (.getfield 31, 3) := by decide +kernel
theorem d_D_hashOf_62 : decode b_D_hashOf 62 = .ok (.aload_n 0, 1) := by decide +kernel
theorem d_D_hashOf_63 : decode b_D_hashOf 63 = .ok (.getfield 49, 3) := by decide +kernel
theorem d_D_hashOf_66 : decode b_D_hashOf 66 = .ok (.aload_n 0, 1) := by decide +kernel
theorem d_D_hashOf_67 : decode b_D_hashOf 67 = .ok (.getfield 27, 3) := by decide +kernel
theorem d_D_hashOf_70 : decode b_D_hashOf 70 = .ok (.invokevirtual 117, 3) := by decide +kernel
theorem d_D_hashOf_73 : decode b_D_hashOf 73 = .ok (.aload_n 0, 1) := by decide +kernel
theorem d_D_hashOf_74 : decode b_D_hashOf 74 = .ok (.getfield 34, 3) := by decide +kernel
theorem d_D_hashOf_77 : decode b_D_hashOf 77 = .ok (.aload_n 0, 1) := by decide +kernel
theorem d_D_hashOf_78 : decode b_D_hashOf 78 = .ok (.getfield 31, 3) := by decide +kernel
theorem d_D_hashOf_81 : decode b_D_hashOf 81 = .ok (.aload_n 0, 1) := by decide +kernel
theorem d_D_hashOf_82 : decode b_D_hashOf 82 = .ok (.getfield 46, 3) := by decide +kernel
theorem d_D_hashOf_85 : decode b_D_hashOf 85 = .ok (.invokevirtual 97, 3) := by decide +kernel
theorem d_D_hashOf_88 : decode b_D_hashOf 88 = .ok (.aload_n 0, 1) := by decide +kernel
theorem d_D_hashOf_89 : decode b_D_hashOf 89 = .ok (.getfield 34, 3) := by decide +kernel
theorem d_D_hashOf_92 : decode b_D_hashOf 92 = .ok (.aload_n 0, 1) := by decide +kernel
theorem d_D_hashOf_93 : decode b_D_hashOf 93 = .ok (.getfield 49, 3) := by decide +kernel
theorem d_D_hashOf_96 : decode b_D_hashOf 96 = .ok (.aload_n 0, 1) := by decide +kernel
theorem d_D_hashOf_97 : decode b_D_hashOf 97 = .ok (.getfield 27, 3) := by decide +kernel
theorem d_D_hashOf_100 : decode b_D_hashOf 100 = .ok (.invokevirtual 117, 3) := by decide +kernel
theorem d_D_hashOf_103 : decode b_D_hashOf 103 = .ok (.aload_n 0, 1) := by decide +kernel
theorem d_D_hashOf_104 : decode b_D_hashOf 104 = .ok (.getfield 34, 3) := by decide +kernel
theorem d_D_hashOf_107 : decode b_D_hashOf 107 = .ok (.invokevirtual 197, 3) := by decide +kernel
theorem d_D_hashOf_110 : decode b_D_hashOf 110 = .ok (.lstore_n 2, 1) := by decide +kernel
theorem d_D_hashOf_111 : decode b_D_hashOf 111 = .ok (.aload_n 1, 1) := by decide +kernel
theorem d_D_hashOf_112 : decode b_D_hashOf 112 = .ok (.getfield 69, 3) := by decide +kernel
theorem d_D_hashOf_115 : decode b_D_hashOf 115 = .ok (.i2l, 1) := by decide +kernel
theorem d_D_hashOf_116 : decode b_D_hashOf 116 = .ok (.lload_n 2, 1) := by decide +kernel
theorem d_D_hashOf_117 : decode b_D_hashOf 117 = .ok (.lmul, 1) := by decide +kernel
theorem d_D_hashOf_118 : decode b_D_hashOf 118 = .ok (.lstore 4, 2) := by decide +kernel
theorem d_D_hashOf_120 : decode b_D_hashOf 120 = .ok (.lload 4, 2) := by decide +kernel
theorem d_D_hashOf_122 : decode b_D_hashOf 122 = .ok (.ldc2_w 201, 3) := by decide +kernel
theorem d_D_hashOf_125 : decode b_D_hashOf 125 = .ok (.lcmp, 1) := by decide +kernel
theorem d_D_hashOf_126 : decode b_D_hashOf 126 = .ok (.ifCond .ne 9, 3) := by decide +kernel
theorem d_D_hashOf_129 : decode b_D_hashOf 129 = .ok (.ldc2_w 203, 3) := by decide +kernel
theorem d_D_hashOf_132 : decode b_D_hashOf 132 = .ok (.goto 5, 3) := by decide +kernel
theorem d_D_hashOf_135 : decode b_D_hashOf 135 = .ok (.lload 4, 2) := by decide +kernel
theorem d_D_hashOf_137 : decode b_D_hashOf 137 = .ok (.lreturn, 1) := by decide +kernel
theorem d_D_finishReading_0 : decode b_D_finishReading 0 = .ok (.aload_n 0, 1) := by decide +kernel
theorem d_D_finishReading_1 : decode b_D_finishReading 1 = .ok (.getfield 12, 3) := by decide +kernel
theorem d_D_finishReading_4 : decode b_D_finishReading 4 = .ok (.getfield 52, 3) := by decide +kernel
theorem d_D_finishReading_7 : decode b_D_finishReading 7 = .ok (.iconst 2, 1) := by decide +kernel
theorem d_D_finishReading_8 : decode b_D_finishReading 8 = .ok (.if_icmp .ne 61, 3) := by decide +kernel
theorem d_D_finishReading_11 : decode b_D_finishReading 11 = .ok (.aload_n 0, 1) := by decide +kernel
theorem d_D_finishReading_12 : decode b_D_finishReading 12 = .ok (.getfield 12, 3) := by decide +kernel
theorem d_D_finishReading_15 : decode b_D_finishReading 15 = .ok (.getfield 76, 3) := by decide +kernel
theorem d_D_finishReading_18 : decode b_D_finishReading 18 = .ok (.invokevirtual 120, 3) := by decide +kernel
theorem d_D_finishReading_21 : decode b_D_finishReading 21 = .ok (.ifCond .ne 48, 3) := by decide +kernel
theorem d_D_finishReading_24 : decode b_D_finishReading 24 = .ok (.iload_n 1, 1) := by decide +kernel
theorem d_D_finishReading_25 : decode b_D_finishReading 25 = .ok (.bipush 40, 2) := by decide +kernel
theorem d_D_finishReading_27 : decode b_D_finishReading 27 = .ok (.if_icmp .gt 9, 3) := by decide +kernel
theorem d_D_finishReading_30 : decode b_D_finishReading 30 = .ok (.iload_n 1, 1) := by decide +kernel
theorem d_D_finishReading_31 : decode b_D_finishReading 31 = .ok (.bipush (-80), 2) := by decide +kernel
theorem d_D_finishReading_33 : decode b_D_finishReading 33 = .ok (.if_icmp .ge 13, 3) := by decide +kernel
theorem d_D_finishReading_36 : decode b_D_finishReading 36 = .ok (.new 205, 3) := by decide +kernel
theorem d_D_finishReading_39 : decode b_D_finishReading 39 = .ok (.dup, 1) := by decide +kernel
theorem d_D_finishReading_40 : decode b_D_finishReading 40 = .ok (.ldc 207, 2) := by decide +kernel
theorem d_D_finishReading_42 : decode b_D_finishReading 42 = .ok (.invokespecial 209, 3) := by decide +kernel
theorem d_D_finishReading_45 : decode b_D_finishReading 45 = .ok (.athrow, 1) := by decide +kernel
theorem d_D_finishReading_46 : decode b_D_finishReading 46 = .ok (.aload_n 0, 1) := by decide +kernel
theorem d_D_finishReading_47 : decode b_D_finishReading 47 = .ok (.getfield 12, 3) := by decide +kernel
theorem d_D_finishReading_50 : decode b_D_finishReading 50 = .ok (.getfield 76, 3) := by decide +kernel
theorem d_D_finishReading_53 : decode b_D_finishReading 53 = .ok (.iload_n 1, 1) := by decide +kernel
theorem d_D_finishReading_54 : decode b_D_finishReading 54 = .ok (.invokevirtual 183, 3) := by decide +kernel
theorem d_D_finishReading_57 : decode b_D_finishReading 57 = .ok (.aload_n 0, 1) := by decide +kernel
theorem d_D_finishReading_58 : decode b_D_finishReading 58 = .ok (.getfield 12, 3) := by decide +kernel
theorem d_D_finishReading_61 : decode b_D_finishReading 61 = .ok (.getfield 79, 3) := by decide +kernel
theorem d_D_finishReading_64 : decode b_D_finishReading 64 = .ok (.iload_n 1, 1) := by decide +kernel
theorem d_D_finishReading_65 : decode b_D_finishReading 65 = .ok (.ineg, 1) := by decide +kernel
theorem d_D_finishReading_66 : decode b_D_finishReading 66 = .ok (.invokevirtual 183, 3) := by decide +kernel
theorem d_D_finishReading_69 : decode b_D_finishReading 69 = .ok (.aload_n 0, 1) := by decide +kernel
theorem d_D_finishReading_70 : decode b_D_finishReading 70 = .ok (.aload_n 0, 1) := by decide +kernel
theorem d_D_finishReading_71 : decode b_D_finishReading 71 = .ok (.getfield 12, 3) := by decide +kernel
theorem d_D_finishReading_74 : decode b_D_finishReading 74 = .ok (.getfield 52, 3) := by decide +kernel
theorem d_D_finishReading_77 : decode b_D_finishReading 77 = .ok (.invokevirtual 101, 3) := by decide +kernel
theorem d_D_finishReading_80 : decode b_D_finishReading 80 = .ok (.return_, 1) := by decide +kernel
theorem d_D_settle_0 : decode b_D_settle 0 = .ok (.aload_n 0, 1) := by decide +kernel
theorem d_D_settle_1 : decode b_D_settle 1 = .ok (.getfield 12, 3) := by decide +kernel
theorem d_D_settle_4 : decode b_D_settle 4 = .ok (.getfield 76, 3) := by decide +kernel
theorem d_D_settle_7 : decode b_D_settle 7 = .ok (.invokevirtual 120, 3) := by decide +kernel
theorem d_D_settle_10 : decode b_D_settle 10 = .ok (.ifCond .eq 11, 3) := by decide +kernel
theorem d_D_settle_13 : decode b_D_settle 13 = .ok (.aload_n 0, 1) := by decide +kernel
theorem d_D_settle_14 : decode b_D_settle 14 = .ok (.getfield 12, 3) := by decide +kernel
theorem d_D_settle_17 : decode b_D_settle 17 = .ok (.iconst 0, 1) := by decide +kernel
theorem d_D_settle_18 : decode b_D_settle 18 = .ok (.putfield 69, 3) := by decide +kernel
theorem d_D_settle_21 : decode b_D_settle 21 = .ok (.iload_n 1, 1) := by decide +kernel
theorem d_D_settle_22 : decode b_D_settle 22 = .ok (.iconst 2, 1) := by decide +kernel
theorem d_D_settle_23 : decode b_D_settle 23 = .ok (.if_icmp .ne 12, 3) := by decide +kernel
theorem d_D_settle_26 : decode b_D_settle 26 = .ok (.aload_n 0, 1) := by decide +kernel
theorem d_D_settle_27 : decode b_D_settle 27 = .ok (.aload_n 0, 1) := by decide +kernel
theorem d_D_settle_28 : decode b_D_settle 28 = .ok (.getfield 12, 3) := by decide +kernel
theorem d_D_settle_31 : decode b_D_settle 31 = .ok (.invokevirtual 177, 3) := by decide +kernel
theorem d_D_settle_34 : decode b_D_settle 34 = .ok (.return_, 1) := by decide +kernel
theorem d_D_settle_35 : decode b_D_settle 35 = .ok (.aload_n 0, 1) := by decide +kernel
theorem d_D_settle_36 : decode b_D_settle 36 = .ok (.getfield 12, 3) := by decide +kernel
theorem d_D_settle_39 : decode b_D_settle 39 = .ok (.iload_n 1, 1) := by decide +kernel
theorem d_D_settle_40 : decode b_D_settle 40 = .ok (.putfield 52, 3) := by decide +kernel
theorem d_D_settle_43 : decode b_D_settle 43 = .ok (.iload_n 1, 1) := by decide +kernel
theorem d_D_settle_44 : decode b_D_settle 44 = .ok (.iconst 1, 1) := by decide +kernel
theorem d_D_settle_45 : decode b_D_settle 45 = .ok (.if_icmp .ne 7, 3) := by decide +kernel
theorem d_D_settle_48 : decode b_D_settle 48 = .ok (.aload_n 0, 1) := by decide +kernel
theorem d_D_settle_49 : decode b_D_settle 49 = .ok (.invokevirtual 212, 3) := by decide +kernel
theorem d_D_settle_52 : decode b_D_settle 52 = .ok (.aload_n 0, 1) := by decide +kernel
theorem d_D_settle_53 : decode b_D_settle 53 = .ok (.getfield 12, 3) := by decide +kernel
theorem d_D_settle_56 : decode b_D_settle 56 = .ok (.invokestatic 130, 3) := by decide +kernel
theorem d_D_settle_59 : decode b_D_settle 59 = .ok (.return_, 1) := by decide +kernel
theorem d_D_refuseBeyond_0 : decode b_D_refuseBeyond 0 = .ok (.aload_n 0, 1) := by decide +kernel
theorem d_D_refuseBeyond_1 : decode b_D_refuseBeyond 1 = .ok (.getfield 76, 3) := by decide +kernel
theorem d_D_refuseBeyond_4 : decode b_D_refuseBeyond 4 = .ok (.invokevirtual 189, 3) := by decide +kernel
theorem d_D_refuseBeyond_7 : decode b_D_refuseBeyond 7 = .ok (.bipush 120, 2) := by decide +kernel
theorem d_D_refuseBeyond_9 : decode b_D_refuseBeyond 9 = .ok (.if_icmp .gt 15, 3) := by decide +kernel
theorem d_D_refuseBeyond_12 : decode b_D_refuseBeyond 12 = .ok (.aload_n 0, 1) := by decide +kernel
theorem d_D_refuseBeyond_13 : decode b_D_refuseBeyond 13 = .ok (.getfield 79, 3) := by decide +kernel
theorem d_D_refuseBeyond_16 : decode b_D_refuseBeyond 16 = .ok (.invokevirtual 189, 3) := by decide +kernel
theorem d_D_refuseBeyond_19 : decode b_D_refuseBeyond 19 = .ok (.bipush 120, 2) := by decide +kernel
theorem d_D_refuseBeyond_21 : decode b_D_refuseBeyond 21 = .ok (.if_icmp .le 13, 3) := by decide +kernel
theorem d_D_refuseBeyond_24 : decode b_D_refuseBeyond 24 = .ok (.new 205, 3) := by decide +kernel
theorem d_D_refuseBeyond_27 : decode b_D_refuseBeyond 27 = .ok (.dup, 1) := by decide +kernel
theorem d_D_refuseBeyond_28 : decode b_D_refuseBeyond 28 = .ok (.ldc 207, 2) := by decide +kernel
theorem d_D_refuseBeyond_30 : decode b_D_refuseBeyond 30 = .ok (.invokespecial 209, 3) := by decide +kernel
theorem d_D_refuseBeyond_33 : decode b_D_refuseBeyond 33 = .ok (.athrow, 1) := by decide +kernel
theorem d_D_refuseBeyond_34 : decode b_D_refuseBeyond 34 = .ok (.return_, 1) := by decide +kernel
theorem d_D_reduceOut_0 : decode b_D_reduceOut 0 = .ok (.aload_n 0, 1) := by decide +kernel
theorem d_D_reduceOut_1 : decode b_D_reduceOut 1 = .ok (.getfield 31, 3) := by decide +kernel
theorem d_D_reduceOut_4 : decode b_D_reduceOut 4 = .ok (.astore_n 1, 1) := by decide +kernel
theorem d_D_reduceOut_5 : decode b_D_reduceOut 5 = .ok (.aload_n 0, 1) := by decide +kernel
theorem d_D_reduceOut_6 : decode b_D_reduceOut 6 = .ok (.getfield 34, 3) := by decide +kernel
theorem d_D_reduceOut_9 : decode b_D_reduceOut 9 = .ok (.astore_n 2, 1) := by decide +kernel
theorem d_D_reduceOut_10 : decode b_D_reduceOut 10 = .ok (.aload_n 1, 1) := by decide +kernel
theorem d_D_reduceOut_11 : decode b_D_reduceOut 11 = .ok (.aload_n 0, 1) := by decide +kernel
theorem d_D_reduceOut_12 : decode b_D_reduceOut 12 = .ok (.getfield 12, 3) := by decide +kernel
theorem d_D_reduceOut_15 : decode b_D_reduceOut 15 = .ok (.getfield 76, 3) := by decide +kernel
theorem d_D_reduceOut_18 : decode b_D_reduceOut 18 = .ok (.invokevirtual 89, 3) := by decide +kernel
theorem d_D_reduceOut_21 : decode b_D_reduceOut 21 = .ok (.aload_n 2, 1) := by decide +kernel
theorem d_D_reduceOut_22 : decode b_D_reduceOut 22 = .ok (.aload_n 0, 1) := by decide +kernel
theorem d_D_reduceOut_23 : decode b_D_reduceOut 23 = .ok (.getfield 12, 3) := by decide +kernel
theorem d_D_reduceOut_26 : decode b_D_reduceOut 26 = .ok (.getfield 79, 3) := by decide +kernel
theorem d_D_reduceOut_29 : decode b_D_reduceOut 29 = .ok (.invokevirtual 89, 3) := by decide +kernel
theorem d_D_reduceOut_32 : decode b_D_reduceOut 32 = .ok (.iconst 0, 1) := by decide +kernel
theorem d_D_reduceOut_33 : decode b_D_reduceOut 33 = .ok (.istore_n 3, 1) := by decide +kernel
theorem d_D_reduceOut_34 : decode b_D_reduceOut 34 = .ok (.iload_n 3, 1) := by decide +kernel
theorem d_D_reduceOut_35 : decode b_D_reduceOut 35 = .ok (.sipush 1000, 3) := by decide +kernel
theorem d_D_reduceOut_38 : decode b_D_reduceOut 38 = .ok (.if_icmp .ge 33, 3) := by decide +kernel
theorem d_D_reduceOut_41 : decode b_D_reduceOut 41 = .ok (.aload_n 2, 1) := by decide +kernel
theorem d_D_reduceOut_42 : decode b_D_reduceOut 42 = .ok (.invokevirtual 120, 3) := by decide +kernel
theorem d_D_reduceOut_45 : decode b_D_reduceOut 45 = .ok (.ifCond .ne 26, 3) := by decide +kernel
theorem d_D_reduceOut_48 : decode b_D_reduceOut 48 = .ok (.aload_n 1, 1) := by decide +kernel
theorem d_D_reduceOut_49 : decode b_D_reduceOut 49 = .ok (.aload_n 2, 1) := by decide +kernel
theorem d_D_reduceOut_50 : decode b_D_reduceOut 50 = .ok (.aload_n 0, 1) := by decide +kernel
theorem d_D_reduceOut_51 : decode b_D_reduceOut 51 = .ok (.getfield 27, 3) := by decide +kernel
theorem d_D_reduceOut_54 : decode b_D_reduceOut 54 = .ok (.invokevirtual 117, 3) := by decide +kernel
theorem d_D_reduceOut_57 : decode b_D_reduceOut 57 = .ok (.aload_n 1, 1) := by decide +kernel
theorem d_D_reduceOut_58 : decode b_D_reduceOut 58 = .ok (.astore 4, 2) := by decide +kernel
theorem d_D_reduceOut_60 : decode b_D_reduceOut 60 = .ok (.aload_n 2, 1) := by decide +kernel
theorem d_D_reduceOut_61 : decode b_D_reduceOut 61 = .ok (.astore_n 1, 1) := by decide +kernel
theorem d_D_reduceOut_62 : decode b_D_reduceOut 62 = .ok (.aload 4, 2) := by decide +kernel
theorem d_D_reduceOut_64 : decode b_D_reduceOut 64 = .ok (.astore_n 2, 1) := by decide +kernel
theorem d_D_reduceOut_65 : decode b_D_reduceOut 65 = .ok (.iinc 3 1, 3) := by decide +kernel
theorem d_D_reduceOut_68 : decode b_D_reduceOut 68 = .ok (.goto (-34), 3) := by decide +kernel
theorem d_D_reduceOut_71 : decode b_D_reduceOut 71 = .ok (.aload_n 1, 1) := by decide +kernel
theorem d_D_reduceOut_72 : decode b_D_reduceOut 72 = .ok (.invokevirtual 174, 3) := by decide +kernel
theorem d_D_reduceOut_75 : decode b_D_reduceOut 75 = .ok (.ifCond .ne 61, 3) := by decide +kernel
theorem d_D_reduceOut_78 : decode b_D_reduceOut 78 = .ok (.aload_n 0, 1) := by decide +kernel
theorem d_D_reduceOut_79 : decode b_D_reduceOut 79 = .ok (.getfield 12, 3) := by decide +kernel
theorem d_D_reduceOut_82 : decode b_D_reduceOut 82 = .ok (.getfield 76, 3) := by decide +kernel
theorem d_D_reduceOut_85 : decode b_D_reduceOut 85 = .ok (.aload_n 1, 1) := by decide +kernel
theorem d_D_reduceOut_86 : decode b_D_reduceOut 86 = .ok (.aload_n 0, 1) := by decide +kernel
theorem d_D_reduceOut_87 : decode b_D_reduceOut 87 = .ok (.getfield 27, 3) := by decide +kernel
theorem d_D_reduceOut_90 : decode b_D_reduceOut 90 = .ok (.invokevirtual 117, 3) := by decide +kernel
theorem d_D_reduceOut_93 : decode b_D_reduceOut 93 = .ok (.aload_n 0, 1) := by decide +kernel
theorem d_D_reduceOut_94 : decode b_D_reduceOut 94 = .ok (.getfield 12, 3) := by decide +kernel
theorem d_D_reduceOut_97 : decode b_D_reduceOut 97 = .ok (.getfield 76, 3) := by decide +kernel
theorem d_D_reduceOut_100 : decode b_D_reduceOut 100 = .ok (.aload_n 0, 1) := by decide +kernel
theorem d_D_reduceOut_101 : decode b_D_reduceOut 101 = .ok (.getfield 27, 3) := by decide +kernel
theorem d_D_reduceOut_104 : decode b_D_reduceOut 104 = .ok (.invokevirtual 89, 3) := by decide +kernel
theorem d_D_reduceOut_107 : decode b_D_reduceOut 107 = .ok (.aload_n 0, 1) := by decide +kernel
theorem d_D_reduceOut_108 : decode b_D_reduceOut 108 = .ok (.getfield 12, 3) := by decide +kernel
theorem d_D_reduceOut_111 : decode b_D_reduceOut 111 = .ok (.getfield 79, 3) := by decide +kernel
theorem d_D_reduceOut_114 : decode b_D_reduceOut 114 = .ok (.aload_n 1, 1) := by decide +kernel
theorem d_D_reduceOut_115 : decode b_D_reduceOut 115 = .ok (.aload_n 0, 1) := by decide +kernel
theorem d_D_reduceOut_116 : decode b_D_reduceOut 116 = .ok (.getfield 27, 3) := by decide +kernel
theorem d_D_reduceOut_119 : decode b_D_reduceOut 119 = .ok (.invokevirtual 117, 3) := by decide +kernel
theorem d_D_reduceOut_122 : decode b_D_reduceOut 122 = .ok (.aload_n 0, 1) := by decide +kernel
theorem d_D_reduceOut_123 : decode b_D_reduceOut 123 = .ok (.getfield 12, 3) := by decide +kernel
theorem d_D_reduceOut_126 : decode b_D_reduceOut 126 = .ok (.getfield 79, 3) := by decide +kernel
theorem d_D_reduceOut_129 : decode b_D_reduceOut 129 = .ok (.aload_n 0, 1) := by decide +kernel
theorem d_D_reduceOut_130 : decode b_D_reduceOut 130 = .ok (.getfield 27, 3) := by decide +kernel
theorem d_D_reduceOut_133 : decode b_D_reduceOut 133 = .ok (.invokevirtual 89, 3) := by decide +kernel
theorem d_D_reduceOut_136 : decode b_D_reduceOut 136 = .ok (.return_, 1) := by decide +kernel
theorem d_D_makeNearestUnlessReal_0 : decode b_D_makeNearestUnlessReal 0 = .ok (.aload_n 1, 1) := by decide +kernel
theorem d_D_makeNearestUnlessReal_1 : decode b_D_makeNearestUnlessReal 1 = .ok (.getfield 52, 3) := by decide +kernel
theorem d_D_makeNearestUnlessReal_4 : decode b_D_makeNearestUnlessReal 4 = .ok (.iconst 2, 1) := by decide +kernel
theorem d_D_makeNearestUnlessReal_5 : decode b_D_makeNearestUnlessReal 5 = .ok (.if_icmp .eq 8, 3) := by decide +kernel
theorem d_D_makeNearestUnlessReal_8 : decode b_D_makeNearestUnlessReal 8 = .ok (.aload_n 0, 1) := by decide +kernel
theorem d_D_makeNearestUnlessReal_9 : decode b_D_makeNearestUnlessReal 9 = .ok (.aload_n 1, 1) := by decide +kernel
theorem d_D_makeNearestUnlessReal_10 : decode b_D_makeNearestUnlessReal 10 = .ok (.invokevirtual 177, 3) := by decide +kernel
theorem d_D_makeNearestUnlessReal_13 : decode b_D_makeNearestUnlessReal 13 = .ok (.return_, 1) := by decide +kernel
theorem d_D_makeNearest_0 : decode b_D_makeNearest 0 = .ok (.aload_n 1, 1) := by decide +kernel
theorem d_D_makeNearest_1 : decode b_D_makeNearest 1 = .ok (.getfield 76, 3) := by decide +kernel
theorem d_D_makeNearest_4 : decode b_D_makeNearest 4 = .ok (.invokevirtual 120, 3) := by decide +kernel
theorem d_D_makeNearest_7 : decode b_D_makeNearest 7 = .ok (.ifCond .eq 11, 3) := by decide +kernel
theorem d_D_makeNearest_10 : decode b_D_makeNearest 10 = .ok (.aload_n 1, 1) := by decide +kernel
theorem d_D_makeNearest_11 : decode b_D_makeNearest 11 = .ok (.iconst 0, 1) := by decide +kernel
theorem d_D_makeNearest_12 : decode b_D_makeNearest 12 = .ok (.lconst 0, 1) := by decide +kernel
theorem d_D_makeNearest_13 : decode b_D_makeNearest 13 = .ok (.iconst 0, 1) := by decide +kernel
theorem d_D_makeNearest_14 : decode b_D_makeNearest 14 = .ok (.invokevirtual 215, 3) := by decide +kernel
theorem d_D_makeNearest_17 : decode b_D_makeNearest 17 = .ok (.return_, 1) := by decide +kernel
theorem d_D_makeNearest_18 : decode b_D_makeNearest 18 = .ok (.bipush 54, 2) := by decide +kernel
theorem d_D_makeNearest_20 : decode b_D_makeNearest 20 = .ok (.aload_n 1, 1) := by decide +kernel
theorem d_D_makeNearest_21 : decode b_D_makeNearest 21 = .ok (.getfield 76, 3) := by decide +kernel
theorem d_D_makeNearest_24 : decode b_D_makeNearest 24 = .ok (.invokevirtual 189, 3) := by decide +kernel
theorem d_D_makeNearest_27 : decode b_D_makeNearest 27 = .ok (.aload_n 1, 1) := by decide +kernel
theorem d_D_makeNearest_28 : decode b_D_makeNearest 28 = .ok (.getfield 79, 3) := by decide +kernel
theorem d_D_makeNearest_31 : decode b_D_makeNearest 31 = .ok (.invokevirtual 189, 3) := by decide +kernel
theorem d_D_makeNearest_34 : decode b_D_makeNearest 34 = .ok (.isub, 1) := by decide +kernel
theorem d_D_makeNearest_35 : decode b_D_makeNearest 35 = .ok (.isub, 1) := by decide +kernel
theorem d_D_makeNearest_36 : decode b_D_makeNearest 36 = .ok (.istore_n 2, 1) := by decide +kernel
theorem d_D_makeNearest_37 : decode b_D_makeNearest 37 = .ok (.aload_n 1, 1) := by decide +kernel
theorem d_D_makeNearest_38 : decode b_D_makeNearest 38 = .ok (.getfield 76, 3) := by decide +kernel
theorem d_D_makeNearest_41 : decode b_D_makeNearest 41 = .ok (.iload_n 2, 1) := by decide +kernel
theorem d_D_makeNearest_42 : decode b_D_makeNearest 42 = .ok (.invokevirtual 155, 3) := by decide +kernel
theorem d_D_makeNearest_45 : decode b_D_makeNearest 45 = .ok (.aload_n 1, 1) := by decide +kernel
theorem d_D_makeNearest_46 : decode b_D_makeNearest 46 = .ok (.getfield 79, 3) := by decide +kernel
theorem d_D_makeNearest_49 : decode b_D_makeNearest 49 = .ok (.iload_n 2, 1) := by decide +kernel
theorem d_D_makeNearest_50 : decode b_D_makeNearest 50 = .ok (.ineg, 1) := by decide +kernel
theorem d_D_makeNearest_51 : decode b_D_makeNearest 51 = .ok (.invokevirtual 155, 3) := by decide +kernel
theorem d_D_makeNearest_54 : decode b_D_makeNearest 54 = .ok (.aload_n 1, 1) := by decide +kernel
theorem d_D_makeNearest_55 : decode b_D_makeNearest 55 = .ok (.getfield 76, 3) := by decide +kernel
theorem d_D_makeNearest_58 : decode b_D_makeNearest 58 = .ok (.aload_n 1, 1) := by decide +kernel
theorem d_D_makeNearest_59 : decode b_D_makeNearest 59 = .ok (.getfield 79, 3) := by decide +kernel
theorem d_D_makeNearest_62 : decode b_D_makeNearest 62 = .ok (.aload_n 0, 1) := by decide +kernel
theorem d_D_makeNearest_63 : decode b_D_makeNearest 63 = .ok (.getfield 27, 3) := by decide +kernel
theorem d_D_makeNearest_66 : decode b_D_makeNearest 66 = .ok (.invokevirtual 117, 3) := by decide +kernel
theorem d_D_makeNearest_69 : decode b_D_makeNearest 69 = .ok (.aload_n 0, 1) := by decide +kernel
theorem d_D_makeNearest_70 : decode b_D_makeNearest 70 = .ok (.getfield 27, 3) := by decide +kernel
theorem d_D_makeNearest_73 : decode b_D_makeNearest 73 = .ok (.invokevirtual 197, 3) := by decide +kernel
theorem d_D_makeNearest_76 : decode b_D_makeNearest 76 = .ok (.lstore_n 3, 1) := by decide +kernel
theorem d_D_makeNearest_77 : decode b_D_makeNearest 77 = .ok (.lload_n 3, 1) := by decide +kernel
theorem d_D_makeNearest_78 : decode b_D_makeNearest 78 = .ok (.invokestatic 219, 3) := by decide +kernel
theorem d_D_makeNearest_81 : decode b_D_makeNearest 81 = .ok (.bipush 53, 2) := by decide +kernel
theorem d_D_makeNearest_83 : decode b_D_makeNearest 83 = .ok (.isub, 1) := by decide +kernel
theorem d_D_makeNearest_84 : decode b_D_makeNearest 84 = .ok (.istore 5, 2) := by decide +kernel
theorem d_D_makeNearest_86 : decode b_D_makeNearest 86 = .ok (.lload_n 3, 1) := by decide +kernel
theorem d_D_makeNearest_87 : decode b_D_makeNearest 87 = .ok (.iload 5, 2) := by decide +kernel
theorem d_D_makeNearest_89 : decode b_D_makeNearest 89 = .ok (.lshr, 1) := by decide +kernel
theorem d_D_makeNearest_90 : decode b_D_makeNearest 90 = .ok (.lstore 6, 2) := by decide +kernel
theorem d_D_makeNearest_92 : decode b_D_makeNearest 92 = .ok (.ldc2_w 223, 3) := by decide +kernel
theorem d_D_makeNearest_95 : decode b_D_makeNearest 95 = .ok (.lload_n 3, 1) := by decide +kernel
theorem d_D_makeNearest_96 : decode b_D_makeNearest 96 = .ok (.lload 6, 2) := by decide +kernel
theorem d_D_makeNearest_98 : decode b_D_makeNearest 98 = .ok (.iload 5, 2) := by decide +kernel
theorem d_D_makeNearest_100 : decode b_D_makeNearest 100 = .ok (.lshl, 1) := by decide +kernel
theorem d_D_makeNearest_101 : decode b_D_makeNearest 101 = .ok (.lsub, 1) := by decide +kernel
theorem d_D_makeNearest_102 : decode b_D_makeNearest 102 = .ok (.lmul, 1) := by decide +kernel
theorem d_D_makeNearest_103 : decode b_D_makeNearest 103 = .ok (.aload_n 1, 1) := by decide +kernel
theorem d_D_makeNearest_104 : decode b_D_makeNearest 104 = .ok (.getfield 76, 3) := by decide +kernel
theorem d_D_makeNearest_107 : decode b_D_makeNearest 107 = .ok (.invokevirtual 120, 3) := by decide +kernel
theorem d_D_makeNearest_110 : decode b_D_makeNearest 110 = .ok (.ifCond .eq 7, 3) := by decide +kernel
theorem d_D_makeNearest_113 : decode b_D_makeNearest 113 = .ok (.iconst 0, 1) := by decide +kernel
theorem d_D_makeNearest_114 : decode b_D_makeNearest 114 = .ok (.goto 4, 3) := by decide +kernel
theorem d_D_makeNearest_117 : decode b_D_makeNearest 117 = .ok (.iconst 1, 1) := by decide +kernel
theorem d_D_makeNearest_118 : decode b_D_makeNearest 118 = .ok (.i2l, 1) := by decide +kernel
theorem d_D_makeNearest_119 : decode b_D_makeNearest 119 = .ok (.ladd, 1) := by decide +kernel
theorem d_D_makeNearest_120 : decode b_D_makeNearest 120 = .ok (.lstore 8, 2) := by decide +kernel
theorem d_D_makeNearest_122 : decode b_D_makeNearest 122 = .ok (.lconst 1, 1) := by decide +kernel
theorem d_D_makeNearest_123 : decode b_D_makeNearest 123 = .ok (.iload 5, 2) := by decide +kernel
theorem d_D_makeNearest_125 : decode b_D_makeNearest 125 = .ok (.lshl, 1) := by decide +kernel
theorem d_D_makeNearest_126 : decode b_D_makeNearest 126 = .ok (.lstore 10, 2) := by decide +kernel
theorem d_D_makeNearest_128 : decode b_D_makeNearest 128 = .ok (.lload 8, 2) := by decide +kernel
theorem d_D_makeNearest_130 : decode b_D_makeNearest 130 = .ok (.lload 10, 2) := by decide +kernel
theorem d_D_makeNearest_132 : decode b_D_makeNearest 132 = .ok (.lcmp, 1) := by decide +kernel
theorem d_D_makeNearest_133 : decode b_D_makeNearest 133 = .ok (.ifCond .gt 20, 3) := by decide +kernel
theorem d_D_makeNearest_136 : decode b_D_makeNearest 136 = .ok (.lload 8, 2) := by decide +kernel
theorem d_D_makeNearest_138 : decode b_D_makeNearest 138 = .ok (.lload 10, 2) := by decide +kernel
theorem d_D_makeNearest_140 : decode b_D_makeNearest 140 = .ok (.lcmp, 1) := by decide +kernel
theorem d_D_makeNearest_141 : decode b_D_makeNearest 141 = .ok (.ifCond .ne 18, 3) := by decide +kernel
theorem d_D_makeNearest_144 : decode b_D_makeNearest 144 = .ok (.lload 6, 2) := by decide +kernel
theorem d_D_makeNearest_146 : decode b_D_makeNearest 146 = .ok (.lconst 1, 1) := by decide +kernel
theorem d_D_makeNearest_147 : decode b_D_makeNearest 147 = .ok (.land, 1) := by decide +kernel
theorem d_D_makeNearest_148 : decode b_D_makeNearest 148 = .ok (.lconst 0, 1) := by decide +kernel
theorem d_D_makeNearest_149 : decode b_D_makeNearest 149 = .ok (.lcmp, 1) := by decide +kernel
theorem d_D_makeNearest_150 : decode b_D_makeNearest 150 = .ok (.ifCond .eq 9, 3) := by decide +kernel
theorem d_D_makeNearest_153 : decode b_D_makeNearest 153 = .ok (.lload 6, 2) := by decide +kernel
theorem d_D_makeNearest_155 : decode b_D_makeNearest 155 = .ok (.lconst 1, 1) := by decide +kernel
theorem d_D_makeNearest_156 : decode b_D_makeNearest 156 = .ok (.ladd, 1) := by decide +kernel
theorem d_D_makeNearest_157 : decode b_D_makeNearest 157 = .ok (.lstore 6, 2) := by decide +kernel
theorem d_D_makeNearest_159 : decode b_D_makeNearest 159 = .ok (.iload 5, 2) := by decide +kernel
theorem d_D_makeNearest_161 : decode b_D_makeNearest 161 = .ok (.iload_n 2, 1) := by decide +kernel
theorem d_D_makeNearest_162 : decode b_D_makeNearest 162 = .ok (.isub, 1) := by decide +kernel
theorem d_D_makeNearest_163 : decode b_D_makeNearest 163 = .ok (.istore 12, 2) := by decide +kernel
theorem d_D_makeNearest_165 : decode b_D_makeNearest 165 = .ok (.lload 6, 2) := by decide +kernel
theorem d_D_makeNearest_167 : decode b_D_makeNearest 167 = .ok (.invokestatic 219, 3) := by decide +kernel
theorem d_D_makeNearest_170 : decode b_D_makeNearest 170 = .ok (.iconst 1, 1) := by decide +kernel
theorem d_D_makeNearest_171 : decode b_D_makeNearest 171 = .ok (.isub, 1) := by decide +kernel
theorem d_D_makeNearest_172 : decode b_D_makeNearest 172 = .ok (.iload 12, 2) := by decide +kernel
theorem d_D_makeNearest_174 : decode b_D_makeNearest 174 = .ok (.iadd, 1) := by decide +kernel
theorem d_D_makeNearest_175 : decode b_D_makeNearest 175 = .ok (.istore 13, 2) := by decide +kernel
theorem d_D_makeNearest_177 : decode b_D_makeNearest 177 = .ok (.iload 13, 2) := by decide +kernel
theorem d_D_makeNearest_179 : decode b_D_makeNearest 179 = .ok (.bipush (-100), 2) := by decide +kernel
theorem d_D_makeNearest_181 : decode b_D_makeNearest 181 = .ok (.if_icmp .lt 10, 3) := by decide +kernel
theorem d_D_makeNearest_184 : decode b_D_makeNearest 184 = .ok (.iload 13, 2) := by decide +kernel
theorem d_D_makeNearest_186 : decode b_D_makeNearest 186 = .ok (.bipush 99, 2) := by decide +kernel
theorem d_D_makeNearest_188 : decode b_D_makeNearest 188 = .ok (.if_icmp .le 13, 3) := by decide +kernel
theorem d_D_makeNearest_191 : decode b_D_makeNearest 191 = .ok (.new 205, 3) := by decide +kernel
theorem d_D_makeNearest_194 : decode b_D_makeNearest 194 = .ok (.dup, 1) := by decide +kernel
theorem d_D_makeNearest_195 : decode b_D_makeNearest 195 = .ok (.ldc 207, 2) := by decide +kernel
theorem d_D_makeNearest_197 : decode b_D_makeNearest 197 = .ok (.invokespecial 209, 3) := by decide +kernel
theorem d_D_makeNearest_200 : decode b_D_makeNearest 200 = .ok (.athrow, 1) := by decide +kernel
theorem d_D_makeNearest_201 : decode b_D_makeNearest 201 = .ok (.aload_n 1, 1) := by decide +kernel
theorem d_D_makeNearest_202 : decode b_D_makeNearest 202 = .ok (.aload_n 1, 1) := by decide +kernel
theorem d_D_makeNearest_203 : decode b_D_makeNearest 203 = .ok (.getfield 69, 3) := by decide +kernel
theorem d_D_makeNearest_206 : decode b_D_makeNearest 206 = .ok (.lload 6, 2) := by decide +kernel
theorem d_D_makeNearest_208 : decode b_D_makeNearest 208 = .ok (.iload 12, 2) := by decide +kernel
theorem d_D_makeNearest_210 : decode b_D_makeNearest 210 = .ok (.invokevirtual 215, 3) := by decide +kernel
theorem d_D_makeNearest_213 : decode b_D_makeNearest 213 = .ok (.return_, 1) := by decide +kernel
