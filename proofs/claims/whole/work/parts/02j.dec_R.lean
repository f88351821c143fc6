theorem d_R_init_0 : decode b_R_init 0 = .ok (.aload_n 0, 1) := by decide +kernel
theorem d_R_init_1 : decode b_R_init 1 = .ok (.invokespecial 3, 3) := by decide +kernel
theorem d_R_init_4 : decode b_R_init 4 = .ok (.aload_n 0, 1) := by decide +kernel
theorem d_R_init_5 : decode b_R_init 5 = .ok (.aload_n 1, 1) := by decide +kernel
theorem d_R_init_6 : decode b_R_init 6 = .ok (.putfield 9, 3) := by decide +kernel
theorem d_R_init_9 : decode b_R_init 9 = .ok (.return_, 1) := by decide +kernel
theorem d_R_parse_0 : decode b_R_parse 0 = .ok (.aload_n 0, 1) := by decide +kernel
theorem d_R_parse_1 : decode b_R_parse 1 = .ok (.iconst 0, 1) := by decide +kernel
theorem d_R_parse_2 : decode b_R_parse 2 = .ok (.putfield 15, 3) := by decide +kernel
theorem d_R_parse_5 : decode b_R_parse 5 = .ok (.aload_n 0, 1) := by decide +kernel
theorem d_R_parse_6 : decode b_R_parse 6 = .ok (.iconst 0, 1) := by decide +kernel
theorem d_R_parse_7 : decode b_R_parse 7 = .ok (.putfield 19, 3) := by decide +kernel
theorem d_R_parse_10 : decode b_R_parse 10 = .ok (.aload_n 1, 1) := by decide +kernel
theorem d_R_parse_11 : decode b_R_parse 11 = .ok (.lconst 0, 1) := by decide +kernel
theorem d_R_parse_12 : decode b_R_parse 12 = .ok (.invokevirtual 22, 3) := by decide +kernel
theorem d_R_parse_15 : decode b_R_parse 15 = .ok (.aload_n 1, 1) := by decide +kernel
theorem d_R_parse_16 : decode b_R_parse 16 = .ok (.aload_n 0, 1) := by decide +kernel
theorem d_R_parse_17 : decode b_R_parse 17 = .ok (.getfield 9, 3) := by decide +kernel
theorem d_R_parse_20 : decode b_R_parse 20 = .ok (.iconst 0, 1) := by decide +kernel
theorem d_R_parse_21 : decode b_R_parse 21 = .ok (.invokevirtual 28, 3) := by decide +kernel
theorem d_R_parse_24 : decode b_R_parse 24 = .ok (.bipush 45, 2) := by decide +kernel
theorem d_R_parse_26 : decode b_R_parse 26 = .ok (.if_icmp .ne 7, 3) := by decide +kernel
theorem d_R_parse_29 : decode b_R_parse 29 = .ok (.iconst (-1), 1) := by decide +kernel
theorem d_R_parse_30 : decode b_R_parse 30 = .ok (.goto 4, 3) := by decide +kernel
theorem d_R_parse_33 : decode b_R_parse 33 = .ok (.iconst 1, 1) := by decide +kernel
theorem d_R_parse_34 : decode b_R_parse 34 = .ok (.putfield 33, 3) := by decide +kernel
theorem d_R_parse_37 : decode b_R_parse 37 = .ok (.aload_n 0, 1) := by decide +kernel
theorem d_R_parse_38 : decode b_R_parse 38 = .ok (.getfield 9, 3) := by decide +kernel
theorem d_R_parse_41 : decode b_R_parse 41 = .ok (.iconst 0, 1) := by decide +kernel
theorem d_R_parse_42 : decode b_R_parse 42 = .ok (.invokevirtual 28, 3) := by decide +kernel
theorem d_R_parse_45 : decode b_R_parse 45 = .ok (.bipush 45, 2) := by decide +kernel
theorem d_R_parse_47 : decode b_R_parse 47 = .ok (.if_icmp .eq 16, 3) := by decide +kernel
theorem d_R_parse_50 : decode b_R_parse 50 = .ok (.aload_n 0, 1) := by decide +kernel
theorem d_R_parse_51 : decode b_R_parse 51 = .ok (.getfield 9, 3) := by decide +kernel
theorem d_R_parse_54 : decode b_R_parse 54 = .ok (.iconst 0, 1) := by decide +kernel
theorem d_R_parse_55 : decode b_R_parse 55 = .ok (.invokevirtual 28, 3) := by decide +kernel
theorem d_R_parse_58 : decode b_R_parse 58 = .ok (.bipush 43, 2) := by decide +kernel
theorem d_R_parse_60 : decode b_R_parse 60 = .ok (.if_icmp .ne 13, 3) := by decide +kernel
theorem d_R_parse_63 : decode b_R_parse 63 = .ok (.aload_n 0, 1) := by decide +kernel
theorem d_R_parse_64 : decode b_R_parse 64 = .ok (.dup, 1) := by decide +kernel
theorem d_R_parse_65 : decode b_R_parse 65 = .ok (.getfield 15, 3) := by decide +kernel
theorem d_R_parse_68 : decode b_R_parse 68 = .ok (.iconst 1, 1) := by decide +kernel
theorem d_R_parse_69 : decode b_R_parse 69 = .ok (.iadd, 1) := by decide +kernel
theorem d_R_parse_70 : decode b_R_parse 70 = .ok (.putfield 15, 3) := by decide +kernel
theorem d_R_parse_73 : decode b_R_parse 73 = .ok (.aload_n 0, 1) := by decide +kernel
theorem d_R_parse_74 : decode b_R_parse 74 = .ok (.getfield 9, 3) := by decide +kernel
theorem d_R_parse_77 : decode b_R_parse 77 = .ok (.aload_n 0, 1) := by decide +kernel
theorem d_R_parse_78 : decode b_R_parse 78 = .ok (.getfield 15, 3) := by decide +kernel
theorem d_R_parse_81 : decode b_R_parse 81 = .ok (.invokevirtual 28, 3) := by decide +kernel
theorem d_R_parse_84 : decode b_R_parse 84 = .ok (.bipush 48, 2) := by decide +kernel
theorem d_R_parse_86 : decode b_R_parse 86 = .ok (.if_icmp .ne 53, 3) := by decide +kernel
theorem d_R_parse_89 : decode b_R_parse 89 = .ok (.aload_n 0, 1) := by decide +kernel
theorem d_R_parse_90 : decode b_R_parse 90 = .ok (.getfield 9, 3) := by decide +kernel
theorem d_R_parse_93 : decode b_R_parse 93 = .ok (.aload_n 0, 1) := by decide +kernel
theorem d_R_parse_94 : decode b_R_parse 94 = .ok (.getfield 15, 3) := by decide +kernel
theorem d_R_parse_97 : decode b_R_parse 97 = .ok (.iconst 1, 1) := by decide +kernel
theorem d_R_parse_98 : decode b_R_parse 98 = .ok (.iadd, 1) := by decide +kernel
theorem d_R_parse_99 : decode b_R_parse 99 = .ok (.invokevirtual 28, 3) := by decide +kernel
theorem d_R_parse_102 : decode b_R_parse 102 = .ok (.bipush 120, 2) := by decide +kernel
theorem d_R_parse_104 : decode b_R_parse 104 = .ok (.if_icmp .ne 35, 3) := by decide +kernel
theorem d_R_parse_107 : decode b_R_parse 107 = .ok (.aload_n 0, 1) := by decide +kernel
theorem d_R_parse_108 : decode b_R_parse 108 = .ok (.dup, 1) := by decide +kernel
theorem d_R_parse_109 : decode b_R_parse 109 = .ok (.getfield 15, 3) := by decide +kernel
theorem d_R_parse_112 : decode b_R_parse 112 = .ok (.iconst 2, 1) := by decide +kernel
theorem d_R_parse_113 : decode b_R_parse 113 = .ok (.iadd, 1) := by decide +kernel
theorem d_R_parse_114 : decode b_R_parse 114 = .ok (.putfield 15, 3) := by decide +kernel
theorem d_R_parse_117 : decode b_R_parse 117 = .ok (.aload_n 0, 1) := by decide +kernel
theorem d_R_parse_118 : decode b_R_parse 118 = .ok (.bipush 16, 2) := by decide +kernel
theorem d_R_parse_120 : decode b_R_parse 120 = .ok (.aload_n 1, 1) := by decide +kernel
theorem d_R_parse_121 : decode b_R_parse 121 = .ok (.getfield 36, 3) := by decide +kernel
theorem d_R_parse_124 : decode b_R_parse 124 = .ok (.invokevirtual 40, 3) := by decide +kernel
theorem d_R_parse_127 : decode b_R_parse 127 = .ok (.ifCond .le 7, 3) := by decide +kernel
theorem d_R_parse_130 : decode b_R_parse 130 = .ok (.iconst 1, 1) := by decide +kernel
theorem d_R_parse_131 : decode b_R_parse 131 = .ok (.goto 4, 3) := by decide +kernel
theorem d_R_parse_134 : decode b_R_parse 134 = .ok (.iconst 0, 1) := by decide +kernel
theorem d_R_parse_135 : decode b_R_parse 135 = .ok (.istore_n 2, 1) := by decide +kernel
theorem d_R_parse_136 : decode b_R_parse 136 = .ok (.goto 74, 3) := by decide +kernel
theorem d_R_parse_139 : decode b_R_parse 139 = .ok (.aload_n 0, 1) := by decide +kernel
theorem d_R_parse_140 : decode b_R_parse 140 = .ok (.getfield 9, 3) := by decide +kernel
theorem d_R_parse_143 : decode b_R_parse 143 = .ok (.aload_n 0, 1) := by decide +kernel
theorem d_R_parse_144 : decode b_R_parse 144 = .ok (.getfield 15, 3) := by decide +kernel
theorem d_R_parse_147 : decode b_R_parse 147 = .ok (.invokevirtual 28, 3) := by decide +kernel
theorem d_R_parse_150 : decode b_R_parse 150 = .ok (.bipush 48, 2) := by decide +kernel
theorem d_R_parse_152 : decode b_R_parse 152 = .ok (.if_icmp .ne 52, 3) := by decide +kernel
theorem d_R_parse_155 : decode b_R_parse 155 = .ok (.aload_n 0, 1) := by decide +kernel
theorem d_R_parse_156 : decode b_R_parse 156 = .ok (.getfield 9, 3) := by decide +kernel
theorem d_R_parse_159 : decode b_R_parse 159 = .ok (.aload_n 0, 1) := by decide +kernel
theorem d_R_parse_160 : decode b_R_parse 160 = .ok (.getfield 15, 3) := by decide +kernel
theorem d_R_parse_163 : decode b_R_parse 163 = .ok (.iconst 1, 1) := by decide +kernel
theorem d_R_parse_164 : decode b_R_parse 164 = .ok (.iadd, 1) := by decide +kernel
theorem d_R_parse_165 : decode b_R_parse 165 = .ok (.invokevirtual 28, 3) := by decide +kernel
theorem d_R_parse_168 : decode b_R_parse 168 = .ok (.bipush 98, 2) := by decide +kernel
theorem d_R_parse_170 : decode b_R_parse 170 = .ok (.if_icmp .ne 34, 3) := by decide +kernel
theorem d_R_parse_173 : decode b_R_parse 173 = .ok (.aload_n 0, 1) := by decide +kernel
theorem d_R_parse_174 : decode b_R_parse 174 = .ok (.dup, 1) := by decide +kernel
theorem d_R_parse_175 : decode b_R_parse 175 = .ok (.getfield 15, 3) := by decide +kernel
theorem d_R_parse_178 : decode b_R_parse 178 = .ok (.iconst 2, 1) := by decide +kernel
theorem d_R_parse_179 : decode b_R_parse 179 = .ok (.iadd, 1) := by decide +kernel
theorem d_R_parse_180 : decode b_R_parse 180 = .ok (.putfield 15, 3) := by decide +kernel
theorem d_R_parse_183 : decode b_R_parse 183 = .ok (.aload_n 0, 1) := by decide +kernel
theorem d_R_parse_184 : decode b_R_parse 184 = .ok (.iconst 2, 1) := by decide +kernel
theorem d_R_parse_185 : decode b_R_parse 185 = .ok (.aload_n 1, 1) := by decide +kernel
theorem d_R_parse_186 : decode b_R_parse 186 = .ok (.getfield 36, 3) := by decide +kernel
theorem d_R_parse_189 : decode b_R_parse 189 = .ok (.invokevirtual 40, 3) := by decide +kernel
theorem d_R_parse_192 : decode b_R_parse 192 = .ok (.ifCond .le 7, 3) := by decide +kernel
theorem d_R_parse_195 : decode b_R_parse 195 = .ok (.iconst 1, 1) := by decide +kernel
theorem d_R_parse_196 : decode b_R_parse 196 = .ok (.goto 4, 3) := by decide +kernel
theorem d_R_parse_199 : decode b_R_parse 199 = .ok (.iconst 0, 1) := by decide +kernel
theorem d_R_parse_200 : decode b_R_parse 200 = .ok (.istore_n 2, 1) := by decide +kernel
theorem d_R_parse_201 : decode b_R_parse 201 = .ok (.goto 9, 3) := by decide +kernel
theorem d_R_parse_204 : decode b_R_parse 204 = .ok (.aload_n 0, 1) := by decide +kernel
theorem d_R_parse_205 : decode b_R_parse 205 = .ok (.aload_n 1, 1) := by decide +kernel
theorem d_R_parse_206 : decode b_R_parse 206 = .ok (.invokevirtual 44, 3) := by decide +kernel
theorem d_R_parse_209 : decode b_R_parse 209 = .ok (.istore_n 2, 1) := by decide +kernel
theorem d_R_parse_210 : decode b_R_parse 210 = .ok (.iload_n 2, 1) := by decide +kernel
theorem d_R_parse_211 : decode b_R_parse 211 = .ok (.ifCond .eq 21, 3) := by decide +kernel
theorem d_R_parse_214 : decode b_R_parse 214 = .ok (.aload_n 0, 1) := by decide +kernel
theorem d_R_parse_215 : decode b_R_parse 215 = .ok (.getfield 15, 3) := by decide +kernel
theorem d_R_parse_218 : decode b_R_parse 218 = .ok (.aload_n 0, 1) := by decide +kernel
theorem d_R_parse_219 : decode b_R_parse 219 = .ok (.getfield 9, 3) := by decide +kernel
theorem d_R_parse_222 : decode b_R_parse 222 = .ok (.getfield 48, 3) := by decide +kernel
theorem d_R_parse_225 : decode b_R_parse 225 = .ok (.if_icmp .ne 7, 3) := by decide +kernel
theorem d_R_parse_228 : decode b_R_parse 228 = .ok (.iconst 1, 1) := by decide +kernel
theorem d_R_parse_229 : decode b_R_parse 229 = .ok (.goto 4, 3) := by decide +kernel
theorem d_R_parse_232 : decode b_R_parse 232 = .ok (.iconst 0, 1) := by decide +kernel
theorem d_R_parse_233 : decode b_R_parse 233 = .ok (.ireturn, 1) := by decide +kernel
theorem d_R_parseDecimal_0 : decode b_R_parseDecimal 0 = .ok (.aload_n 0, 1) := by decide +kernel
theorem d_R_parseDecimal_1 : decode b_R_parseDecimal 1 = .ok (.bipush 10, 2) := by decide +kernel
theorem d_R_parseDecimal_3 : decode b_R_parseDecimal 3 = .ok (.aload_n 1, 1) := by decide +kernel
theorem d_R_parseDecimal_4 : decode b_R_parseDecimal 4 = .ok (.getfield 36, 3) := by decide +kernel
theorem d_R_parseDecimal_7 : decode b_R_parseDecimal 7 = .ok (.invokevirtual 40, 3) := by decide +kernel
theorem d_R_parseDecimal_10 : decode b_R_parseDecimal 10 = .ok (.istore_n 2, 1) := by decide +kernel
theorem d_R_parseDecimal_11 : decode b_R_parseDecimal 11 = .ok (.aload_n 0, 1) := by decide +kernel
theorem d_R_parseDecimal_12 : decode b_R_parseDecimal 12 = .ok (.getfield 9, 3) := by decide +kernel
theorem d_R_parseDecimal_15 : decode b_R_parseDecimal 15 = .ok (.aload_n 0, 1) := by decide +kernel
theorem d_R_parseDecimal_16 : decode b_R_parseDecimal 16 = .ok (.getfield 15, 3) := by decide +kernel
theorem d_R_parseDecimal_19 : decode b_R_parseDecimal 19 = .ok (.invokevirtual 28, 3) := by decide +kernel
theorem d_R_parseDecimal_22 : decode b_R_parseDecimal 22 = .ok (.bipush 47, 2) := by decide +kernel
theorem d_R_parseDecimal_24 : decode b_R_parseDecimal 24 = .ok (.if_icmp .ne 48, 3) := by decide +kernel
theorem d_R_parseDecimal_27 : decode b_R_parseDecimal 27 = .ok (.aload_n 0, 1) := by decide +kernel
theorem d_R_parseDecimal_28 : decode b_R_parseDecimal 28 = .ok (.dup, 1) := by decide +kernel
theorem d_R_parseDecimal_29 : decode b_R_parseDecimal 29 = .ok (.getfield 15, 3) := by decide +kernel
theorem d_R_parseDecimal_32 : decode b_R_parseDecimal 32 = .ok (.iconst 1, 1) := by decide +kernel
theorem d_R_parseDecimal_33 : decode b_R_parseDecimal 33 = .ok (.iadd, 1) := by decide +kernel
theorem d_R_parseDecimal_34 : decode b_R_parseDecimal 34 = .ok (.putfield 15, 3) := by decide +kernel
theorem d_R_parseDecimal_37 : decode b_R_parseDecimal 37 = .ok (.aload_n 1, 1) := by decide +kernel
theorem d_R_parseDecimal_38 : decode b_R_parseDecimal 38 = .ok (.iconst 1, 1) := by decide +kernel
theorem d_R_parseDecimal_39 : decode b_R_parseDecimal 39 = .ok (.putfield 51, 3) := by decide +kernel
theorem d_R_parseDecimal_42 : decode b_R_parseDecimal 42 = .ok (.aload_n 1, 1) := by decide +kernel
theorem d_R_parseDecimal_43 : decode b_R_parseDecimal 43 = .ok (.getfield 54, 3) := by decide +kernel
theorem d_R_parseDecimal_46 : decode b_R_parseDecimal 46 = .ok (.invokevirtual 57, 3) := by decide +kernel
theorem d_R_parseDecimal_49 : decode b_R_parseDecimal 49 = .ok (.iload_n 2, 1) := by decide +kernel
theorem d_R_parseDecimal_50 : decode b_R_parseDecimal 50 = .ok (.ifCond .le 20, 3) := by decide +kernel
theorem d_R_parseDecimal_53 : decode b_R_parseDecimal 53 = .ok (.aload_n 0, 1) := by decide +kernel
theorem d_R_parseDecimal_54 : decode b_R_parseDecimal 54 = .ok (.bipush 10, 2) := by decide +kernel
theorem d_R_parseDecimal_56 : decode b_R_parseDecimal 56 = .ok (.aload_n 1, 1) := by decide +kernel
theorem d_R_parseDecimal_57 : decode b_R_parseDecimal 57 = .ok (.getfield 54, 3) := by decide +kernel
theorem d_R_parseDecimal_60 : decode b_R_parseDecimal 60 = .ok (.invokevirtual 40, 3) := by decide +kernel
theorem d_R_parseDecimal_63 : decode b_R_parseDecimal 63 = .ok (.ifCond .le 7, 3) := by decide +kernel
theorem d_R_parseDecimal_66 : decode b_R_parseDecimal 66 = .ok (.iconst 1, 1) := by decide +kernel
theorem d_R_parseDecimal_67 : decode b_R_parseDecimal 67 = .ok (.goto 4, 3) := by decide +kernel
theorem d_R_parseDecimal_70 : decode b_R_parseDecimal 70 = .ok (.iconst 0, 1) := by decide +kernel
theorem d_R_parseDecimal_71 : decode b_R_parseDecimal 71 = .ok (.ireturn, 1) := by decide +kernel
theorem d_R_parseDecimal_72 : decode b_R_parseDecimal 72 = .ok (.aload_n 0, 1) := by decide +kernel
theorem d_R_parseDecimal_73 : decode b_R_parseDecimal 73 = .ok (.getfield 9, 3) := by decide +kernel
theorem d_R_parseDecimal_76 : decode b_R_parseDecimal 76 = .ok (.aload_n 0, 1) := by decide +kernel
theorem d_R_parseDecimal_77 : decode b_R_parseDecimal 77 = .ok (.getfield 15, 3) := by decide +kernel
theorem d_R_parseDecimal_80 : decode b_R_parseDecimal 80 = .ok (.invokevirtual 28, 3) := by decide +kernel
theorem d_R_parseDecimal_83 : decode b_R_parseDecimal 83 = .ok (.bipush 46, 2) := by decide +kernel
theorem d_R_parseDecimal_85 : decode b_R_parseDecimal 85 = .ok (.if_icmp .ne 7, 3) := by decide +kernel
theorem d_R_parseDecimal_88 : decode b_R_parseDecimal 88 = .ok (.iconst 1, 1) := by decide +kernel
theorem d_R_parseDecimal_89 : decode b_R_parseDecimal 89 = .ok (.goto 4, 3) := by decide +kernel
theorem d_R_parseDecimal_92 : decode b_R_parseDecimal 92 = .ok (.iconst 0, 1) := by decide +kernel
theorem d_R_parseDecimal_93 : decode b_R_parseDecimal 93 = .ok (.istore_n 3, 1) := by decide +kernel
theorem d_R_parseDecimal_94 : decode b_R_parseDecimal 94 = .ok (.iconst 0, 1) := by decide +kernel
theorem d_R_parseDecimal_95 : decode b_R_parseDecimal 95 = .ok (.istore 4, 2) := by decide +kernel
theorem d_R_parseDecimal_97 : decode b_R_parseDecimal 97 = .ok (.iload_n 3, 1) := by decide +kernel
theorem d_R_parseDecimal_98 : decode b_R_parseDecimal 98 = .ok (.ifCond .eq 25, 3) := by decide +kernel
theorem d_R_parseDecimal_101 : decode b_R_parseDecimal 101 = .ok (.aload_n 0, 1) := by decide +kernel
theorem d_R_parseDecimal_102 : decode b_R_parseDecimal 102 = .ok (.dup, 1) := by decide +kernel
theorem d_R_parseDecimal_103 : decode b_R_parseDecimal 103 = .ok (.getfield 15, 3) := by decide +kernel
theorem d_R_parseDecimal_106 : decode b_R_parseDecimal 106 = .ok (.iconst 1, 1) := by decide +kernel
theorem d_R_parseDecimal_107 : decode b_R_parseDecimal 107 = .ok (.iadd, 1) := by decide +kernel
theorem d_R_parseDecimal_108 : decode b_R_parseDecimal 108 = .ok (.putfield 15, 3) := by decide +kernel
theorem d_R_parseDecimal_111 : decode b_R_parseDecimal 111 = .ok (.aload_n 0, 1) := by decide +kernel
theorem d_R_parseDecimal_112 : decode b_R_parseDecimal 112 = .ok (.bipush 10, 2) := by decide +kernel
theorem d_R_parseDecimal_114 : decode b_R_parseDecimal 114 = .ok (.aload_n 1, 1) := by decide +kernel
theorem d_R_parseDecimal_115 : decode b_R_parseDecimal 115 = .ok (.getfield 36, 3) := by decide +kernel
theorem d_R_parseDecimal_118 : decode b_R_parseDecimal 118 = .ok (.invokevirtual 40, 3) := by decide +kernel
theorem d_R_parseDecimal_121 : decode b_R_parseDecimal 121 = .ok (.istore 4, 2) := by decide +kernel
theorem d_R_parseDecimal_123 : decode b_R_parseDecimal 123 = .ok (.iload_n 2, 1) := by decide +kernel
theorem d_R_parseDecimal_124 : decode b_R_parseDecimal 124 = .ok (.ifCond .ne 10, 3) := by decide +kernel
theorem d_R_parseDecimal_127 : decode b_R_parseDecimal 127 = .ok (.iload 4, 2) := by decide +kernel
theorem d_R_parseDecimal_129 : decode b_R_parseDecimal 129 = .ok (.ifCond .ne 5, 3) := by decide +kernel
theorem d_R_parseDecimal_132 : decode b_R_parseDecimal 132 = .ok (.iconst 0, 1) := by decide +kernel
theorem d_R_parseDecimal_133 : decode b_R_parseDecimal 133 = .ok (.ireturn, 1) := by decide +kernel
theorem d_R_parseDecimal_134 : decode b_R_parseDecimal 134 = .ok (.aload_n 0, 1) := by decide +kernel
theorem d_R_parseDecimal_135 : decode b_R_parseDecimal 135 = .ok (.getfield 9, 3) := by decide +kernel
theorem d_R_parseDecimal_138 : decode b_R_parseDecimal 138 = .ok (.aload_n 0, 1) := by decide +kernel
theorem d_R_parseDecimal_139 : decode b_R_parseDecimal 139 = .ok (.getfield 15, 3) := by decide +kernel
theorem d_R_parseDecimal_142 : decode b_R_parseDecimal 142 = .ok (.invokevirtual 28, 3) := by decide +kernel
theorem d_R_parseDecimal_145 : decode b_R_parseDecimal 145 = .ok (.bipush 101, 2) := by decide +kernel
theorem d_R_parseDecimal_147 : decode b_R_parseDecimal 147 = .ok (.if_icmp .eq 19, 3) := by decide +kernel
theorem d_R_parseDecimal_150 : decode b_R_parseDecimal 150 = .ok (.aload_n 0, 1) := by decide +kernel
theorem d_R_parseDecimal_151 : decode b_R_parseDecimal 151 = .ok (.getfield 9, 3) := by decide +kernel
theorem d_R_parseDecimal_154 : decode b_R_parseDecimal 154 = .ok (.aload_n 0, 1) := by decide +kernel
theorem d_R_parseDecimal_155 : decode b_R_parseDecimal 155 = .ok (.getfield 15, 3) := by decide +kernel
theorem d_R_parseDecimal_158 : decode b_R_parseDecimal 158 = .ok (.invokevirtual 28, 3) := by decide +kernel
theorem d_R_parseDecimal_161 : decode b_R_parseDecimal 161 = .ok (.bipush 69, 2) := by decide +kernel
theorem d_R_parseDecimal_163 : decode b_R_parseDecimal 163 = .ok (.if_icmp .ne 7, 3) := by decide +kernel
theorem d_R_parseDecimal_166 : decode b_R_parseDecimal 166 = .ok (.iconst 1, 1) := by decide +kernel
theorem d_R_parseDecimal_167 : decode b_R_parseDecimal 167 = .ok (.goto 4, 3) := by decide +kernel
theorem d_R_parseDecimal_170 : decode b_R_parseDecimal 170 = .ok (.iconst 0, 1) := by decide +kernel
theorem d_R_parseDecimal_171 : decode b_R_parseDecimal 171 = .ok (.istore 5, 2) := by decide +kernel
theorem d_R_parseDecimal_173 : decode b_R_parseDecimal 173 = .ok (.iload 5, 2) := by decide +kernel
theorem d_R_parseDecimal_175 : decode b_R_parseDecimal 175 = .ok (.ifCond .eq 12, 3) := by decide +kernel
theorem d_R_parseDecimal_178 : decode b_R_parseDecimal 178 = .ok (.aload_n 0, 1) := by decide +kernel
theorem d_R_parseDecimal_179 : decode b_R_parseDecimal 179 = .ok (.invokevirtual 62, 3) := by decide +kernel
theorem d_R_parseDecimal_182 : decode b_R_parseDecimal 182 = .ok (.ifCond .ne 5, 3) := by decide +kernel
theorem d_R_parseDecimal_185 : decode b_R_parseDecimal 185 = .ok (.iconst 0, 1) := by decide +kernel
theorem d_R_parseDecimal_186 : decode b_R_parseDecimal 186 = .ok (.ireturn, 1) := by decide +kernel
theorem d_R_parseDecimal_187 : decode b_R_parseDecimal 187 = .ok (.iload_n 3, 1) := by decide +kernel
theorem d_R_parseDecimal_188 : decode b_R_parseDecimal 188 = .ok (.ifCond .ne 8, 3) := by decide +kernel
theorem d_R_parseDecimal_191 : decode b_R_parseDecimal 191 = .ok (.iload 5, 2) := by decide +kernel
theorem d_R_parseDecimal_193 : decode b_R_parseDecimal 193 = .ok (.ifCond .eq 19, 3) := by decide +kernel
theorem d_R_parseDecimal_196 : decode b_R_parseDecimal 196 = .ok (.aload_n 1, 1) := by decide +kernel
theorem d_R_parseDecimal_197 : decode b_R_parseDecimal 197 = .ok (.iconst 2, 1) := by decide +kernel
theorem d_R_parseDecimal_198 : decode b_R_parseDecimal 198 = .ok (.putfield 51, 3) := by decide +kernel
theorem d_R_parseDecimal_201 : decode b_R_parseDecimal 201 = .ok (.aload_n 0, 1) := by decide +kernel
theorem d_R_parseDecimal_202 : decode b_R_parseDecimal 202 = .ok (.dup, 1) := by decide +kernel
theorem d_R_parseDecimal_203 : decode b_R_parseDecimal 203 = .ok (.getfield 19, 3) := by decide +kernel
theorem d_R_parseDecimal_206 : decode b_R_parseDecimal 206 = .ok (.iload 4, 2) := by decide +kernel
theorem d_R_parseDecimal_208 : decode b_R_parseDecimal 208 = .ok (.isub, 1) := by decide +kernel
theorem d_R_parseDecimal_209 : decode b_R_parseDecimal 209 = .ok (.putfield 19, 3) := by decide +kernel
theorem d_R_parseDecimal_212 : decode b_R_parseDecimal 212 = .ok (.iconst 1, 1) := by decide +kernel
theorem d_R_parseDecimal_213 : decode b_R_parseDecimal 213 = .ok (.ireturn, 1) := by decide +kernel
theorem d_R_parseTens_0 : decode b_R_parseTens 0 = .ok (.aload_n 0, 1) := by decide +kernel
theorem d_R_parseTens_1 : decode b_R_parseTens 1 = .ok (.dup, 1) := by decide +kernel
theorem d_R_parseTens_2 : decode b_R_parseTens 2 = .ok (.getfield 15, 3) := by decide +kernel
theorem d_R_parseTens_5 : decode b_R_parseTens 5 = .ok (.iconst 1, 1) := by decide +kernel
theorem d_R_parseTens_6 : decode b_R_parseTens 6 = .ok (.iadd, 1) := by decide +kernel
theorem d_R_parseTens_7 : decode b_R_parseTens 7 = .ok (.putfield 15, 3) := by decide +kernel
theorem d_R_parseTens_10 : decode b_R_parseTens 10 = .ok (.aload_n 0, 1) := by decide +kernel
theorem d_R_parseTens_11 : decode b_R_parseTens 11 = .ok (.getfield 9, 3) := by decide +kernel
theorem d_R_parseTens_14 : decode b_R_parseTens 14 = .ok (.aload_n 0, 1) := by decide +kernel
theorem d_R_parseTens_15 : decode b_R_parseTens 15 = .ok (.getfield 15, 3) := by decide +kernel
theorem d_R_parseTens_18 : decode b_R_parseTens 18 = .ok (.invokevirtual 28, 3) := by decide +kernel
theorem d_R_parseTens_21 : decode b_R_parseTens 21 = .ok (.bipush 45, 2) := by decide +kernel
theorem d_R_parseTens_23 : decode b_R_parseTens 23 = .ok (.if_icmp .ne 7, 3) := by decide +kernel
theorem d_R_parseTens_26 : decode b_R_parseTens 26 = .ok (.iconst 1, 1) := by decide +kernel
theorem d_R_parseTens_27 : decode b_R_parseTens 27 = .ok (.goto 4, 3) := by decide +kernel
theorem d_R_parseTens_30 : decode b_R_parseTens 30 = .ok (.iconst 0, 1) := by decide +kernel
theorem d_R_parseTens_31 : decode b_R_parseTens 31 = .ok (.istore_n 1, 1) := by decide +kernel
theorem d_R_parseTens_32 : decode b_R_parseTens 32 = .ok (.iload_n 1, 1) := by decide +kernel
theorem d_R_parseTens_33 : decode b_R_parseTens 33 = .ok (.ifCond .ne 19, 3) := by decide +kernel
theorem d_R_parseTens_36 : decode b_R_parseTens 36 = .ok (.aload_n 0, 1) := by decide +kernel
theorem d_R_parseTens_37 : decode b_R_parseTens 37 = .ok (.getfield 9, 3) := by decide +kernel
theorem d_R_parseTens_40 : decode b_R_parseTens 40 = .ok (.aload_n 0, 1) := by decide +kernel
theorem d_R_parseTens_41 : decode b_R_parseTens 41 = .ok (.getfield 15, 3) := by decide +kernel
theorem d_R_parseTens_44 : decode b_R_parseTens 44 = .ok (.invokevirtual 28, 3) := by decide +kernel
theorem d_R_parseTens_47 : decode b_R_parseTens 47 = .ok (.bipush 43, 2) := by decide +kernel
theorem d_R_parseTens_49 : decode b_R_parseTens 49 = .ok (.if_icmp .ne 13, 3) := by decide +kernel
theorem d_R_parseTens_52 : decode b_R_parseTens 52 = .ok (.aload_n 0, 1) := by decide +kernel
theorem d_R_parseTens_53 : decode b_R_parseTens 53 = .ok (.dup, 1) := by decide +kernel
theorem d_R_parseTens_54 : decode b_R_parseTens 54 = .ok (.getfield 15, 3) := by decide +kernel
theorem d_R_parseTens_57 : decode b_R_parseTens 57 = .ok (.iconst 1, 1) := by decide +kernel
theorem d_R_parseTens_58 : decode b_R_parseTens 58 = .ok (.iadd, 1) := by decide +kernel
theorem d_R_parseTens_59 : decode b_R_parseTens 59 = .ok (.putfield 15, 3) := by decide +kernel
theorem d_R_parseTens_62 : decode b_R_parseTens 62 = .ok (.iconst 0, 1) := by decide +kernel
theorem d_R_parseTens_63 : decode b_R_parseTens 63 = .ok (.istore_n 2, 1) := by decide +kernel
theorem d_R_parseTens_64 : decode b_R_parseTens 64 = .ok (.iconst 0, 1) := by decide +kernel
theorem d_R_parseTens_65 : decode b_R_parseTens 65 = .ok (.istore_n 3, 1) := by decide +kernel
theorem d_R_parseTens_66 : decode b_R_parseTens 66 = .ok (.iload_n 3, 1) := by decide +kernel
theorem d_R_parseTens_67 : decode b_R_parseTens 67 = .ok (.iconst 3, 1) := by decide +kernel
theorem d_R_parseTens_68 : decode b_R_parseTens 68 = .ok (.if_icmp .ge 74, 3) := by decide +kernel
theorem d_R_parseTens_71 : decode b_R_parseTens 71 = .ok (.aload_n 0, 1) := by decide +kernel
theorem d_R_parseTens_72 : decode b_R_parseTens 72 = .ok (.getfield 9, 3) := by decide +kernel
theorem d_R_parseTens_75 : decode b_R_parseTens 75 = .ok (.aload_n 0, 1) := by decide +kernel
theorem d_R_parseTens_76 : decode b_R_parseTens 76 = .ok (.getfield 15, 3) := by decide +kernel
theorem d_R_parseTens_79 : decode b_R_parseTens 79 = .ok (.invokevirtual 28, 3) := by decide +kernel
theorem d_R_parseTens_82 : decode b_R_parseTens 82 = .ok (.bipush 10, 2) := by decide +kernel
theorem d_R_parseTens_84 : decode b_R_parseTens 84 = .ok (.invokestatic 66, 3) := by decide +kernel
theorem d_R_parseTens_87 : decode b_R_parseTens 87 = .ok (.istore 4, 2) := by decide +kernel
theorem d_R_parseTens_89 : decode b_R_parseTens 89 = .ok (.iload 4, 2) := by decide +kernel
theorem d_R_parseTens_91 : decode b_R_parseTens 91 = .ok (.ifCond .ge 27, 3) := by decide +kernel
theorem d_R_parseTens_94 : decode b_R_parseTens 94 = .ok (.aload_n 0, 1) := by decide +kernel
theorem d_R_parseTens_95 : decode b_R_parseTens 95 = .ok (.iload_n 1, 1) := by decide +kernel
theorem d_R_parseTens_96 : decode b_R_parseTens 96 = .ok (.ifCond .eq 8, 3) := by decide +kernel
theorem d_R_parseTens_99 : decode b_R_parseTens 99 = .ok (.iload_n 2, 1) := by decide +kernel
theorem d_R_parseTens_100 : decode b_R_parseTens 100 = .ok (.ineg, 1) := by decide +kernel
theorem d_R_parseTens_101 : decode b_R_parseTens 101 = .ok (.goto 4, 3) := by decide +kernel
theorem d_R_parseTens_104 : decode b_R_parseTens 104 = .ok (.iload_n 2, 1) := by decide +kernel
theorem d_R_parseTens_105 : decode b_R_parseTens 105 = .ok (.putfield 19, 3) := by decide +kernel
theorem d_R_parseTens_108 : decode b_R_parseTens 108 = .ok (.iload_n 3, 1) := by decide +kernel
theorem d_R_parseTens_109 : decode b_R_parseTens 109 = .ok (.ifCond .le 7, 3) := by decide +kernel
theorem d_R_parseTens_112 : decode b_R_parseTens 112 = .ok (.iconst 1, 1) := by decide +kernel
theorem d_R_parseTens_113 : decode b_R_parseTens 113 = .ok (.goto 4, 3) := by decide +kernel
theorem d_R_parseTens_116 : decode b_R_parseTens 116 = .ok (.iconst 0, 1) := by decide +kernel
theorem d_R_parseTens_117 : decode b_R_parseTens 117 = .ok (.ireturn, 1) := by decide +kernel
theorem d_R_parseTens_118 : decode b_R_parseTens 118 = .ok (.iload_n 2, 1) := by decide +kernel
theorem d_R_parseTens_119 : decode b_R_parseTens 119 = .ok (.bipush 10, 2) := by decide +kernel
theorem d_R_parseTens_121 : decode b_R_parseTens 121 = .ok (.imul, 1) := by decide +kernel
theorem d_R_parseTens_122 : decode b_R_parseTens 122 = .ok (.iload 4, 2) := by decide +kernel
theorem d_R_parseTens_124 : decode b_R_parseTens 124 = .ok (.iadd, 1) := by decide +kernel
theorem d_R_parseTens_125 : decode b_R_parseTens 125 = .ok (.istore_n 2, 1) := by decide +kernel
theorem d_R_parseTens_126 : decode b_R_parseTens 126 = .ok (.aload_n 0, 1) := by decide +kernel
theorem d_R_parseTens_127 : decode b_R_parseTens 127 = .ok (.dup, 1) := by decide +kernel
theorem d_R_parseTens_128 : decode b_R_parseTens 128 = .ok (.getfield 15, 3) := by decide +kernel
theorem d_R_parseTens_131 : decode b_R_parseTens 131 = .ok (.iconst 1, 1) := by decide +kernel
theorem d_R_parseTens_132 : decode b_R_parseTens 132 = .ok (.iadd, 1) := by decide +kernel
theorem d_R_parseTens_133 : decode b_R_parseTens 133 = .ok (.putfield 15, 3) := by decide +kernel
theorem d_R_parseTens_136 : decode b_R_parseTens 136 = .ok (.iinc 3 1, 3) := by decide +kernel
theorem d_R_parseTens_139 : decode b_R_parseTens 139 = .ok (.goto (-73), 3) := by decide +kernel
theorem d_R_parseTens_142 : decode b_R_parseTens 142 = .ok (.aload_n 0, 1) := by decide +kernel
theorem d_R_parseTens_143 : decode b_R_parseTens 143 = .ok (.iload_n 1, 1) := by decide +kernel
theorem d_R_parseTens_144 : decode b_R_parseTens 144 = .ok (.ifCond .eq 8, 3) := by decide +kernel
theorem d_R_parseTens_147 : decode b_R_parseTens 147 = .ok (.iload_n 2, 1) := by decide +kernel
theorem d_R_parseTens_148 : decode b_R_parseTens 148 = .ok (.ineg, 1) := by decide +kernel
theorem d_R_parseTens_149 : decode b_R_parseTens 149 = .ok (.goto 4, 3) := by decide +kernel
theorem d_R_parseTens_152 : decode b_R_parseTens 152 = .ok (.iload_n 2, 1) := by decide +kernel
theorem d_R_parseTens_153 : decode b_R_parseTens 153 = .ok (.putfield 19, 3) := by decide +kernel
theorem d_R_parseTens_156 : decode b_R_parseTens 156 = .ok (.iconst 1, 1) := by decide +kernel
theorem d_R_parseTens_157 : decode b_R_parseTens 157 = .ok (.ireturn, 1) := by decide +kernel
theorem d_R_parseDigits_0 : decode b_R_parseDigits 0 = .ok (.iconst 0, 1) := by decide +kernel
theorem d_R_parseDigits_1 : decode b_R_parseDigits 1 = .ok (.istore_n 3, 1) := by decide +kernel
theorem d_R_parseDigits_2 : decode b_R_parseDigits 2 = .ok (.iconst 0, 1) := by decide +kernel
theorem d_R_parseDigits_3 : decode b_R_parseDigits 3 = .ok (.istore 4, 2) := by decide +kernel
theorem d_R_parseDigits_5 : decode b_R_parseDigits 5 = .ok (.iload 4, 2) := by decide +kernel
theorem d_R_parseDigits_7 : decode b_R_parseDigits 7 = .ok (.bipush 40, 2) := by decide +kernel
theorem d_R_parseDigits_9 : decode b_R_parseDigits 9 = .ok (.if_icmp .ge 103, 3) := by decide +kernel
theorem d_R_parseDigits_12 : decode b_R_parseDigits 12 = .ok (.iload_n 3, 1) := by decide +kernel
theorem d_R_parseDigits_13 : decode b_R_parseDigits 13 = .ok (.ifCond .le 49, 3) := by decide +kernel
theorem d_R_parseDigits_16 : decode b_R_parseDigits 16 = .ok (.aload_n 0, 1) := by decide +kernel
theorem d_R_parseDigits_17 : decode b_R_parseDigits 17 = .ok (.getfield 9, 3) := by decide +kernel
theorem d_R_parseDigits_20 : decode b_R_parseDigits 20 = .ok (.aload_n 0, 1) := by decide +kernel
theorem d_R_parseDigits_21 : decode b_R_parseDigits 21 = .ok (.getfield 15, 3) := by decide +kernel
theorem d_R_parseDigits_24 : decode b_R_parseDigits 24 = .ok (.invokevirtual 28, 3) := by decide +kernel
theorem d_R_parseDigits_27 : decode b_R_parseDigits 27 = .ok (.bipush 95, 2) := by decide +kernel
theorem d_R_parseDigits_29 : decode b_R_parseDigits 29 = .ok (.if_icmp .ne 33, 3) := by decide +kernel
theorem d_R_parseDigits_32 : decode b_R_parseDigits 32 = .ok (.aload_n 0, 1) := by decide +kernel
theorem d_R_parseDigits_33 : decode b_R_parseDigits 33 = .ok (.getfield 9, 3) := by decide +kernel
theorem d_R_parseDigits_36 : decode b_R_parseDigits 36 = .ok (.aload_n 0, 1) := by decide +kernel
theorem d_R_parseDigits_37 : decode b_R_parseDigits 37 = .ok (.getfield 15, 3) := by decide +kernel
theorem d_R_parseDigits_40 : decode b_R_parseDigits 40 = .ok (.iconst 1, 1) := by decide +kernel
theorem d_R_parseDigits_41 : decode b_R_parseDigits 41 = .ok (.iadd, 1) := by decide +kernel
theorem d_R_parseDigits_42 : decode b_R_parseDigits 42 = .ok (.invokevirtual 28, 3) := by decide +kernel
theorem d_R_parseDigits_45 : decode b_R_parseDigits 45 = .ok (.iload_n 1, 1) := by decide +kernel
theorem d_R_parseDigits_46 : decode b_R_parseDigits 46 = .ok (.invokestatic 66, 3) := by decide +kernel
theorem d_R_parseDigits_49 : decode b_R_parseDigits 49 = .ok (.ifCond .lt 13, 3) := by decide +kernel
theorem d_R_parseDigits_52 : decode b_R_parseDigits 52 = .ok (.aload_n 0, 1) := by decide +kernel
theorem d_R_parseDigits_53 : decode b_R_parseDigits 53 = .ok (.dup, 1) := by decide +kernel
theorem d_R_parseDigits_54 : decode b_R_parseDigits 54 = .ok (.getfield 15, 3) := by decide +kernel
theorem d_R_parseDigits_57 : decode b_R_parseDigits 57 = .ok (.iconst 1, 1) := by decide +kernel
theorem d_R_parseDigits_58 : decode b_R_parseDigits 58 = .ok (.iadd, 1) := by decide +kernel
theorem d_R_parseDigits_59 : decode b_R_parseDigits 59 = .ok (.putfield 15, 3) := by decide +kernel
theorem d_R_parseDigits_62 : decode b_R_parseDigits 62 = .ok (.aload_n 0, 1) := by decide +kernel
theorem d_R_parseDigits_63 : decode b_R_parseDigits 63 = .ok (.getfield 9, 3) := by decide +kernel
theorem d_R_parseDigits_66 : decode b_R_parseDigits 66 = .ok (.aload_n 0, 1) := by decide +kernel
theorem d_R_parseDigits_67 : decode b_R_parseDigits 67 = .ok (.getfield 15, 3) := by decide +kernel
theorem d_R_parseDigits_70 : decode b_R_parseDigits 70 = .ok (.invokevirtual 28, 3) := by decide +kernel
theorem d_R_parseDigits_73 : decode b_R_parseDigits 73 = .ok (.iload_n 1, 1) := by decide +kernel
theorem d_R_parseDigits_74 : decode b_R_parseDigits 74 = .ok (.invokestatic 66, 3) := by decide +kernel
theorem d_R_parseDigits_77 : decode b_R_parseDigits 77 = .ok (.istore 5, 2) := by decide +kernel
theorem d_R_parseDigits_79 : decode b_R_parseDigits 79 = .ok (.iload 5, 2) := by decide +kernel
theorem d_R_parseDigits_81 : decode b_R_parseDigits 81 = .ok (.ifCond .ge 5, 3) := by decide +kernel
theorem d_R_parseDigits_84 : decode b_R_parseDigits 84 = .ok (.iload_n 3, 1) := by decide +kernel
theorem d_R_parseDigits_85 : decode b_R_parseDigits 85 = .ok (.ireturn, 1) := by decide +kernel
theorem d_R_parseDigits_86 : decode b_R_parseDigits 86 = .ok (.aload_n 2, 1) := by decide +kernel
theorem d_R_parseDigits_87 : decode b_R_parseDigits 87 = .ok (.iload_n 1, 1) := by decide +kernel
theorem d_R_parseDigits_88 : decode b_R_parseDigits 88 = .ok (.iload 5, 2) := by decide +kernel
theorem d_R_parseDigits_90 : decode b_R_parseDigits 90 = .ok (.invokevirtual 70, 3) := by decide +kernel
theorem d_R_parseDigits_93 : decode b_R_parseDigits 93 = .ok (.iinc 3 1, 3) := by decide +kernel
theorem d_R_parseDigits_96 : decode b_R_parseDigits 96 = .ok (.aload_n 0, 1) := by decide +kernel
theorem d_R_parseDigits_97 : decode b_R_parseDigits 97 = .ok (.dup, 1) := by decide +kernel
theorem d_R_parseDigits_98 : decode b_R_parseDigits 98 = .ok (.getfield 15, 3) := by decide +kernel
theorem d_R_parseDigits_101 : decode b_R_parseDigits 101 = .ok (.iconst 1, 1) := by decide +kernel
theorem d_R_parseDigits_102 : decode b_R_parseDigits 102 = .ok (.iadd, 1) := by decide +kernel
theorem d_R_parseDigits_103 : decode b_R_parseDigits 103 = .ok (.putfield 15, 3) := by decide +kernel
theorem d_R_parseDigits_106 : decode b_R_parseDigits 106 = .ok (.iinc 4 1, 3) := by decide +kernel
theorem d_R_parseDigits_109 : decode b_R_parseDigits 109 = .ok (.goto (-104), 3) := by decide +kernel
theorem d_R_parseDigits_112 : decode b_R_parseDigits 112 = .ok (.iload_n 3, 1) := by decide +kernel
theorem d_R_parseDigits_113 : decode b_R_parseDigits 113 = .ok (.ireturn, 1) := by decide +kernel
theorem d_R_digitOf_0 : decode b_R_digitOf 0 = .ok (.iconst (-1), 1) := by decide +kernel
theorem d_R_digitOf_1 : decode b_R_digitOf 1 = .ok (.istore_n 2, 1) := by decide +kernel
theorem d_R_digitOf_2 : decode b_R_digitOf 2 = .ok (.iload_n 0, 1) := by decide +kernel
theorem d_R_digitOf_3 : decode b_R_digitOf 3 = .ok (.bipush 48, 2) := by decide +kernel
theorem d_R_digitOf_5 : decode b_R_digitOf 5 = .ok (.if_icmp .lt 17, 3) := by decide +kernel
theorem d_R_digitOf_8 : decode b_R_digitOf 8 = .ok (.iload_n 0, 1) := by decide +kernel
theorem d_R_digitOf_9 : decode b_R_digitOf 9 = .ok (.bipush 57, 2) := by decide +kernel
theorem d_R_digitOf_11 : decode b_R_digitOf 11 = .ok (.if_icmp .gt 11, 3) := by decide +kernel
theorem d_R_digitOf_14 : decode b_R_digitOf 14 = .ok (.iload_n 0, 1) := by decide +kernel
theorem d_R_digitOf_15 : decode b_R_digitOf 15 = .ok (.bipush 48, 2) := by decide +kernel
theorem d_R_digitOf_17 : decode b_R_digitOf 17 = .ok (.isub, 1) := by decide +kernel
theorem d_R_digitOf_18 : decode b_R_digitOf 18 = .ok (.istore_n 2, 1) := by decide +kernel
theorem d_R_digitOf_19 : decode b_R_digitOf 19 = .ok (.goto 46, 3) := by decide +kernel
theorem d_R_digitOf_22 : decode b_R_digitOf 22 = .ok (.iload_n 0, 1) := by decide +kernel
theorem d_R_digitOf_23 : decode b_R_digitOf 23 = .ok (.bipush 97, 2) := by decide +kernel
theorem d_R_digitOf_25 : decode b_R_digitOf 25 = .ok (.if_icmp .lt 20, 3) := by decide +kernel
theorem d_R_digitOf_28 : decode b_R_digitOf 28 = .ok (.iload_n 0, 1) := by decide +kernel
theorem d_R_digitOf_29 : decode b_R_digitOf 29 = .ok (.bipush 102, 2) := by decide +kernel
theorem d_R_digitOf_31 : decode b_R_digitOf 31 = .ok (.if_icmp .gt 14, 3) := by decide +kernel
theorem d_R_digitOf_34 : decode b_R_digitOf 34 = .ok (.iload_n 0, 1) := by decide +kernel
theorem d_R_digitOf_35 : decode b_R_digitOf 35 = .ok (.bipush 97, 2) := by decide +kernel
theorem d_R_digitOf_37 : decode b_R_digitOf 37 = .ok (.isub, 1) := by decide +kernel
theorem d_R_digitOf_38 : decode b_R_digitOf 38 = .ok (.bipush 10, 2) := by decide +kernel
theorem d_R_digitOf_40 : decode b_R_digitOf 40 = .ok (.iadd, 1) := by decide +kernel
theorem d_R_digitOf_41 : decode b_R_digitOf 41 = .ok (.istore_n 2, 1) := by decide +kernel
theorem d_R_digitOf_42 : decode b_R_digitOf 42 = .ok (.goto 23, 3) := by decide +kernel
theorem d_R_digitOf_45 : decode b_R_digitOf 45 = .ok (.iload_n 0, 1) := by decide +kernel
theorem d_R_digitOf_46 : decode b_R_digitOf 46 = .ok (.bipush 65, 2) := by decide +kernel
theorem d_R_digitOf_48 : decode b_R_digitOf 48 = .ok (.if_icmp .lt 17, 3) := by decide +kernel
theorem d_R_digitOf_51 : decode b_R_digitOf 51 = .ok (.iload_n 0, 1) := by decide +kernel
theorem d_R_digitOf_52 : decode b_R_digitOf 52 = .ok (.bipush 70, 2) := by decide +kernel
theorem d_R_digitOf_54 : decode b_R_digitOf 54 = .ok (.if_icmp .gt 11, 3) := by decide +kernel
theorem d_R_digitOf_57 : decode b_R_digitOf 57 = .ok (.iload_n 0, 1) := by decide +kernel
theorem d_R_digitOf_58 : decode b_R_digitOf 58 = .ok (.bipush 65, 2) := by decide +kernel
theorem d_R_digitOf_60 : decode b_R_digitOf 60 = .ok (.isub, 1) := by decide +kernel
theorem d_R_digitOf_61 : decode b_R_digitOf 61 = .ok (.bipush 10, 2) := by decide +kernel
theorem d_R_digitOf_63 : decode b_R_digitOf 63 = .ok (.iadd, 1) := by decide +kernel
theorem d_R_digitOf_64 : decode b_R_digitOf 64 = .ok (.istore_n 2, 1) := by decide +kernel
theorem d_R_digitOf_65 : decode b_R_digitOf 65 = .ok (.iload_n 2, 1) := by decide +kernel
theorem d_R_digitOf_66 : decode b_R_digitOf 66 = .ok (.iload_n 1, 1) := by decide +kernel
theorem d_R_digitOf_67 : decode b_R_digitOf 67 = .ok (.if_icmp .ge 7, 3) := by decide +kernel
theorem d_R_digitOf_70 : decode b_R_digitOf 70 = .ok (.iload_n 2, 1) := by decide +kernel
theorem d_R_digitOf_71 : decode b_R_digitOf 71 = .ok (.goto 4, 3) := by decide +kernel
theorem d_R_digitOf_74 : decode b_R_digitOf 74 = .ok (.iconst (-1), 1) := by decide +kernel
theorem d_R_digitOf_75 : decode b_R_digitOf 75 = .ok (.ireturn, 1) := by decide +kernel
