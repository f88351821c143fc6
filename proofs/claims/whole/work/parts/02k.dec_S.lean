theorem d_S_init_0 : decode b_S_init 0 = .ok (.aload_n 0, 1) := by decide +kernel
theorem d_S_init_1 : decode b_S_init 1 = .ok (.invokespecial 3, 3) := by decide +kernel
theorem d_S_init_4 : decode b_S_init 4 = .ok (.aload_n 0, 1) := by decide +kernel
theorem d_S_init_5 : decode b_S_init 5 = .ok (.aload_n 1, 1) := by decide +kernel
theorem d_S_init_6 : decode b_S_init 6 = .ok (.putfield 9, 3) := by decide +kernel
theorem d_S_init_9 : decode b_S_init 9 = .ok (.return_, 1) := by decide +kernel
theorem d_S_parse_0 : decode b_S_parse 0 = .ok (.aload_n 0, 1) := by decide +kernel
theorem d_S_parse_1 : decode b_S_parse 1 = .ok (.iconst 0, 1) := by decide +kernel
theorem d_S_parse_2 : decode b_S_parse 2 = .ok (.putfield 15, 3) := by decide +kernel
theorem d_S_parse_5 : decode b_S_parse 5 = .ok (.aload_n 0, 1) := by decide +kernel
theorem d_S_parse_6 : decode b_S_parse 6 = .ok (.invokevirtual 19, 3) := by decide +kernel
theorem d_S_parse_9 : decode b_S_parse 9 = .ok (.aload_n 0, 1) := by decide +kernel
theorem d_S_parse_10 : decode b_S_parse 10 = .ok (.aload_n 0, 1) := by decide +kernel
theorem d_S_parse_11 : decode b_S_parse 11 = .ok (.bipush 43, 2) := by decide +kernel
theorem d_S_parse_13 : decode b_S_parse 13 = .ok (.invokevirtual 22, 3) := by decide +kernel
theorem d_S_parse_16 : decode b_S_parse 16 = .ok (.ifCond .eq 8, 3) := by decide +kernel
theorem d_S_parse_19 : decode b_S_parse 19 = .ok (.bipush 43, 2) := by decide +kernel
theorem d_S_parse_21 : decode b_S_parse 21 = .ok (.goto 32, 3) := by decide +kernel
theorem d_S_parse_24 : decode b_S_parse 24 = .ok (.aload_n 0, 1) := by decide +kernel
theorem d_S_parse_25 : decode b_S_parse 25 = .ok (.bipush 45, 2) := by decide +kernel
theorem d_S_parse_27 : decode b_S_parse 27 = .ok (.invokevirtual 22, 3) := by decide +kernel
theorem d_S_parse_30 : decode b_S_parse 30 = .ok (.ifCond .eq 8, 3) := by decide +kernel
theorem d_S_parse_33 : decode b_S_parse 33 = .ok (.bipush 45, 2) := by decide +kernel
theorem d_S_parse_35 : decode b_S_parse 35 = .ok (.goto 18, 3) := by decide +kernel
theorem d_S_parse_38 : decode b_S_parse 38 = .ok (.aload_n 0, 1) := by decide +kernel
theorem d_S_parse_39 : decode b_S_parse 39 = .ok (.bipush 32, 2) := by decide +kernel
theorem d_S_parse_41 : decode b_S_parse 41 = .ok (.invokevirtual 22, 3) := by decide +kernel
theorem d_S_parse_44 : decode b_S_parse 44 = .ok (.ifCond .eq 8, 3) := by decide +kernel
theorem d_S_parse_47 : decode b_S_parse 47 = .ok (.bipush 32, 2) := by decide +kernel
theorem d_S_parse_49 : decode b_S_parse 49 = .ok (.goto 4, 3) := by decide +kernel
theorem d_S_parse_52 : decode b_S_parse 52 = .ok (.iconst 0, 1) := by decide +kernel
theorem d_S_parse_53 : decode b_S_parse 53 = .ok (.putfield 26, 3) := by decide +kernel
theorem d_S_parse_56 : decode b_S_parse 56 = .ok (.aload_n 0, 1) := by decide +kernel
theorem d_S_parse_57 : decode b_S_parse 57 = .ok (.aload_n 0, 1) := by decide +kernel
theorem d_S_parse_58 : decode b_S_parse 58 = .ok (.bipush 35, 2) := by decide +kernel
theorem d_S_parse_60 : decode b_S_parse 60 = .ok (.invokevirtual 22, 3) := by decide +kernel
theorem d_S_parse_63 : decode b_S_parse 63 = .ok (.putfield 29, 3) := by decide +kernel
theorem d_S_parse_66 : decode b_S_parse 66 = .ok (.aload_n 0, 1) := by decide +kernel
theorem d_S_parse_67 : decode b_S_parse 67 = .ok (.aload_n 0, 1) := by decide +kernel
theorem d_S_parse_68 : decode b_S_parse 68 = .ok (.bipush 48, 2) := by decide +kernel
theorem d_S_parse_70 : decode b_S_parse 70 = .ok (.invokevirtual 22, 3) := by decide +kernel
theorem d_S_parse_73 : decode b_S_parse 73 = .ok (.putfield 33, 3) := by decide +kernel
theorem d_S_parse_76 : decode b_S_parse 76 = .ok (.aload_n 0, 1) := by decide +kernel
theorem d_S_parse_77 : decode b_S_parse 77 = .ok (.aload_n 0, 1) := by decide +kernel
theorem d_S_parse_78 : decode b_S_parse 78 = .ok (.getfield 9, 3) := by decide +kernel
theorem d_S_parse_81 : decode b_S_parse 81 = .ok (.aload_n 0, 1) := by decide +kernel
theorem d_S_parse_82 : decode b_S_parse 82 = .ok (.getfield 15, 3) := by decide +kernel
theorem d_S_parse_85 : decode b_S_parse 85 = .ok (.invokevirtual 36, 3) := by decide +kernel
theorem d_S_parse_88 : decode b_S_parse 88 = .ok (.bipush 48, 2) := by decide +kernel
theorem d_S_parse_90 : decode b_S_parse 90 = .ok (.if_icmp .ne 7, 3) := by decide +kernel
theorem d_S_parse_93 : decode b_S_parse 93 = .ok (.iconst 0, 1) := by decide +kernel
theorem d_S_parse_94 : decode b_S_parse 94 = .ok (.goto 11, 3) := by decide +kernel
theorem d_S_parse_97 : decode b_S_parse 97 = .ok (.iconst 0, 1) := by decide +kernel
theorem d_S_parse_98 : decode b_S_parse 98 = .ok (.aload_n 0, 1) := by decide +kernel
theorem d_S_parse_99 : decode b_S_parse 99 = .ok (.invokevirtual 41, 3) := by decide +kernel
theorem d_S_parse_102 : decode b_S_parse 102 = .ok (.invokestatic 45, 3) := by decide +kernel
theorem d_S_parse_105 : decode b_S_parse 105 = .ok (.putfield 51, 3) := by decide +kernel
theorem d_S_parse_108 : decode b_S_parse 108 = .ok (.aload_n 0, 1) := by decide +kernel
theorem d_S_parse_109 : decode b_S_parse 109 = .ok (.aload_n 0, 1) := by decide +kernel
theorem d_S_parse_110 : decode b_S_parse 110 = .ok (.bipush 44, 2) := by decide +kernel
theorem d_S_parse_112 : decode b_S_parse 112 = .ok (.invokevirtual 22, 3) := by decide +kernel
theorem d_S_parse_115 : decode b_S_parse 115 = .ok (.ifCond .eq 8, 3) := by decide +kernel
theorem d_S_parse_118 : decode b_S_parse 118 = .ok (.bipush 44, 2) := by decide +kernel
theorem d_S_parse_120 : decode b_S_parse 120 = .ok (.goto 18, 3) := by decide +kernel
theorem d_S_parse_123 : decode b_S_parse 123 = .ok (.aload_n 0, 1) := by decide +kernel
theorem d_S_parse_124 : decode b_S_parse 124 = .ok (.bipush 95, 2) := by decide +kernel
theorem d_S_parse_126 : decode b_S_parse 126 = .ok (.invokevirtual 22, 3) := by decide +kernel
theorem d_S_parse_129 : decode b_S_parse 129 = .ok (.ifCond .eq 8, 3) := by decide +kernel
theorem d_S_parse_132 : decode b_S_parse 132 = .ok (.bipush 95, 2) := by decide +kernel
theorem d_S_parse_134 : decode b_S_parse 134 = .ok (.goto 4, 3) := by decide +kernel
theorem d_S_parse_137 : decode b_S_parse 137 = .ok (.iconst 0, 1) := by decide +kernel
theorem d_S_parse_138 : decode b_S_parse 138 = .ok (.putfield 54, 3) := by decide +kernel
theorem d_S_parse_141 : decode b_S_parse 141 = .ok (.aload_n 0, 1) := by decide +kernel
theorem d_S_parse_142 : decode b_S_parse 142 = .ok (.iconst (-1), 1) := by decide +kernel
theorem d_S_parse_143 : decode b_S_parse 143 = .ok (.putfield 57, 3) := by decide +kernel
theorem d_S_parse_146 : decode b_S_parse 146 = .ok (.aload_n 0, 1) := by decide +kernel
theorem d_S_parse_147 : decode b_S_parse 147 = .ok (.bipush 46, 2) := by decide +kernel
theorem d_S_parse_149 : decode b_S_parse 149 = .ok (.invokevirtual 22, 3) := by decide +kernel
theorem d_S_parse_152 : decode b_S_parse 152 = .ok (.ifCond .eq 29, 3) := by decide +kernel
theorem d_S_parse_155 : decode b_S_parse 155 = .ok (.aload_n 0, 1) := by decide +kernel
theorem d_S_parse_156 : decode b_S_parse 156 = .ok (.aload_n 0, 1) := by decide +kernel
theorem d_S_parse_157 : decode b_S_parse 157 = .ok (.invokevirtual 41, 3) := by decide +kernel
theorem d_S_parse_160 : decode b_S_parse 160 = .ok (.putfield 57, 3) := by decide +kernel
theorem d_S_parse_163 : decode b_S_parse 163 = .ok (.aload_n 0, 1) := by decide +kernel
theorem d_S_parse_164 : decode b_S_parse 164 = .ok (.getfield 57, 3) := by decide +kernel
theorem d_S_parse_167 : decode b_S_parse 167 = .ok (.ifCond .lt 12, 3) := by decide +kernel
theorem d_S_parse_170 : decode b_S_parse 170 = .ok (.aload_n 0, 1) := by decide +kernel
theorem d_S_parse_171 : decode b_S_parse 171 = .ok (.getfield 57, 3) := by decide +kernel
theorem d_S_parse_174 : decode b_S_parse 174 = .ok (.bipush 20, 2) := by decide +kernel
theorem d_S_parse_176 : decode b_S_parse 176 = .ok (.if_icmp .le 5, 3) := by decide +kernel
theorem d_S_parse_179 : decode b_S_parse 179 = .ok (.iconst 0, 1) := by decide +kernel
theorem d_S_parse_180 : decode b_S_parse 180 = .ok (.ireturn, 1) := by decide +kernel
theorem d_S_parse_181 : decode b_S_parse 181 = .ok (.aload_n 0, 1) := by decide +kernel
theorem d_S_parse_182 : decode b_S_parse 182 = .ok (.invokevirtual 60, 3) := by decide +kernel
theorem d_S_parse_185 : decode b_S_parse 185 = .ok (.aload_n 0, 1) := by decide +kernel
theorem d_S_parse_186 : decode b_S_parse 186 = .ok (.getfield 51, 3) := by decide +kernel
theorem d_S_parse_189 : decode b_S_parse 189 = .ok (.bipush 40, 2) := by decide +kernel
theorem d_S_parse_191 : decode b_S_parse 191 = .ok (.if_icmp .gt 21, 3) := by decide +kernel
theorem d_S_parse_194 : decode b_S_parse 194 = .ok (.aload_n 0, 1) := by decide +kernel
theorem d_S_parse_195 : decode b_S_parse 195 = .ok (.getfield 15, 3) := by decide +kernel
theorem d_S_parse_198 : decode b_S_parse 198 = .ok (.aload_n 0, 1) := by decide +kernel
theorem d_S_parse_199 : decode b_S_parse 199 = .ok (.getfield 9, 3) := by decide +kernel
theorem d_S_parse_202 : decode b_S_parse 202 = .ok (.getfield 63, 3) := by decide +kernel
theorem d_S_parse_205 : decode b_S_parse 205 = .ok (.if_icmp .ne 7, 3) := by decide +kernel
theorem d_S_parse_208 : decode b_S_parse 208 = .ok (.iconst 1, 1) := by decide +kernel
theorem d_S_parse_209 : decode b_S_parse 209 = .ok (.goto 4, 3) := by decide +kernel
theorem d_S_parse_212 : decode b_S_parse 212 = .ok (.iconst 0, 1) := by decide +kernel
theorem d_S_parse_213 : decode b_S_parse 213 = .ok (.ireturn, 1) := by decide +kernel
theorem d_S_parseAlign_0 : decode b_S_parseAlign 0 = .ok (.aload_n 0, 1) := by decide +kernel
theorem d_S_parseAlign_1 : decode b_S_parseAlign 1 = .ok (.iconst 0, 1) := by decide +kernel
theorem d_S_parseAlign_2 : decode b_S_parseAlign 2 = .ok (.putfield 66, 3) := by decide +kernel
theorem d_S_parseAlign_5 : decode b_S_parseAlign 5 = .ok (.aload_n 0, 1) := by decide +kernel
theorem d_S_parseAlign_6 : decode b_S_parseAlign 6 = .ok (.iconst 0, 1) := by decide +kernel
theorem d_S_parseAlign_7 : decode b_S_parseAlign 7 = .ok (.putfield 69, 3) := by decide +kernel
theorem d_S_parseAlign_10 : decode b_S_parseAlign 10 = .ok (.aload_n 0, 1) := by decide +kernel
theorem d_S_parseAlign_11 : decode b_S_parseAlign 11 = .ok (.getfield 9, 3) := by decide +kernel
theorem d_S_parseAlign_14 : decode b_S_parseAlign 14 = .ok (.iconst 1, 1) := by decide +kernel
theorem d_S_parseAlign_15 : decode b_S_parseAlign 15 = .ok (.invokevirtual 36, 3) := by decide +kernel
theorem d_S_parseAlign_18 : decode b_S_parseAlign 18 = .ok (.invokestatic 72, 3) := by decide +kernel
theorem d_S_parseAlign_21 : decode b_S_parseAlign 21 = .ok (.ifCond .eq 35, 3) := by decide +kernel
theorem d_S_parseAlign_24 : decode b_S_parseAlign 24 = .ok (.aload_n 0, 1) := by decide +kernel
theorem d_S_parseAlign_25 : decode b_S_parseAlign 25 = .ok (.aload_n 0, 1) := by decide +kernel
theorem d_S_parseAlign_26 : decode b_S_parseAlign 26 = .ok (.getfield 9, 3) := by decide +kernel
theorem d_S_parseAlign_29 : decode b_S_parseAlign 29 = .ok (.iconst 0, 1) := by decide +kernel
theorem d_S_parseAlign_30 : decode b_S_parseAlign 30 = .ok (.invokevirtual 36, 3) := by decide +kernel
theorem d_S_parseAlign_33 : decode b_S_parseAlign 33 = .ok (.putfield 66, 3) := by decide +kernel
theorem d_S_parseAlign_36 : decode b_S_parseAlign 36 = .ok (.aload_n 0, 1) := by decide +kernel
theorem d_S_parseAlign_37 : decode b_S_parseAlign 37 = .ok (.aload_n 0, 1) := by decide +kernel
theorem d_S_parseAlign_38 : decode b_S_parseAlign 38 = .ok (.getfield 9, 3) := by decide +kernel
theorem d_S_parseAlign_41 : decode b_S_parseAlign 41 = .ok (.iconst 1, 1) := by decide +kernel
theorem d_S_parseAlign_42 : decode b_S_parseAlign 42 = .ok (.invokevirtual 36, 3) := by decide +kernel
theorem d_S_parseAlign_45 : decode b_S_parseAlign 45 = .ok (.putfield 69, 3) := by decide +kernel
theorem d_S_parseAlign_48 : decode b_S_parseAlign 48 = .ok (.aload_n 0, 1) := by decide +kernel
theorem d_S_parseAlign_49 : decode b_S_parseAlign 49 = .ok (.iconst 2, 1) := by decide +kernel
theorem d_S_parseAlign_50 : decode b_S_parseAlign 50 = .ok (.putfield 15, 3) := by decide +kernel
theorem d_S_parseAlign_53 : decode b_S_parseAlign 53 = .ok (.goto 34, 3) := by decide +kernel
theorem d_S_parseAlign_56 : decode b_S_parseAlign 56 = .ok (.aload_n 0, 1) := by decide +kernel
theorem d_S_parseAlign_57 : decode b_S_parseAlign 57 = .ok (.getfield 9, 3) := by decide +kernel
theorem d_S_parseAlign_60 : decode b_S_parseAlign 60 = .ok (.iconst 0, 1) := by decide +kernel
theorem d_S_parseAlign_61 : decode b_S_parseAlign 61 = .ok (.invokevirtual 36, 3) := by decide +kernel
theorem d_S_parseAlign_64 : decode b_S_parseAlign 64 = .ok (.invokestatic 72, 3) := by decide +kernel
theorem d_S_parseAlign_67 : decode b_S_parseAlign 67 = .ok (.ifCond .eq 20, 3) := by decide +kernel
theorem d_S_parseAlign_70 : decode b_S_parseAlign 70 = .ok (.aload_n 0, 1) := by decide +kernel
theorem d_S_parseAlign_71 : decode b_S_parseAlign 71 = .ok (.aload_n 0, 1) := by decide +kernel
theorem d_S_parseAlign_72 : decode b_S_parseAlign 72 = .ok (.getfield 9, 3) := by decide +kernel
theorem d_S_parseAlign_75 : decode b_S_parseAlign 75 = .ok (.iconst 0, 1) := by decide +kernel
theorem d_S_parseAlign_76 : decode b_S_parseAlign 76 = .ok (.invokevirtual 36, 3) := by decide +kernel
theorem d_S_parseAlign_79 : decode b_S_parseAlign 79 = .ok (.putfield 69, 3) := by decide +kernel
theorem d_S_parseAlign_82 : decode b_S_parseAlign 82 = .ok (.aload_n 0, 1) := by decide +kernel
theorem d_S_parseAlign_83 : decode b_S_parseAlign 83 = .ok (.iconst 1, 1) := by decide +kernel
theorem d_S_parseAlign_84 : decode b_S_parseAlign 84 = .ok (.putfield 15, 3) := by decide +kernel
theorem d_S_parseAlign_87 : decode b_S_parseAlign 87 = .ok (.return_, 1) := by decide +kernel
theorem d_S_isAlign_0 : decode b_S_isAlign 0 = .ok (.iload_n 0, 1) := by decide +kernel
theorem d_S_isAlign_1 : decode b_S_isAlign 1 = .ok (.bipush 60, 2) := by decide +kernel
theorem d_S_isAlign_3 : decode b_S_isAlign 3 = .ok (.if_icmp .eq 21, 3) := by decide +kernel
theorem d_S_isAlign_6 : decode b_S_isAlign 6 = .ok (.iload_n 0, 1) := by decide +kernel
theorem d_S_isAlign_7 : decode b_S_isAlign 7 = .ok (.bipush 62, 2) := by decide +kernel
theorem d_S_isAlign_9 : decode b_S_isAlign 9 = .ok (.if_icmp .eq 15, 3) := by decide +kernel
theorem d_S_isAlign_12 : decode b_S_isAlign 12 = .ok (.iload_n 0, 1) := by decide +kernel
theorem d_S_isAlign_13 : decode b_S_isAlign 13 = .ok (.bipush 61, 2) := by decide +kernel
theorem d_S_isAlign_15 : decode b_S_isAlign 15 = .ok (.if_icmp .eq 9, 3) := by decide +kernel
theorem d_S_isAlign_18 : decode b_S_isAlign 18 = .ok (.iload_n 0, 1) := by decide +kernel
theorem d_S_isAlign_19 : decode b_S_isAlign 19 = .ok (.bipush 94, 2) := by decide +kernel
theorem d_S_isAlign_21 : decode b_S_isAlign 21 = .ok (.if_icmp .ne 7, 3) := by decide +kernel
theorem d_S_isAlign_24 : decode b_S_isAlign 24 = .ok (.iconst 1, 1) := by decide +kernel
theorem d_S_isAlign_25 : decode b_S_isAlign 25 = .ok (.goto 4, 3) := by decide +kernel
theorem d_S_isAlign_28 : decode b_S_isAlign 28 = .ok (.iconst 0, 1) := by decide +kernel
theorem d_S_isAlign_29 : decode b_S_isAlign 29 = .ok (.ireturn, 1) := by decide +kernel
theorem d_S_take_0 : decode b_S_take 0 = .ok (.aload_n 0, 1) := by decide +kernel
theorem d_S_take_1 : decode b_S_take 1 = .ok (.getfield 9, 3) := by decide +kernel
theorem d_S_take_4 : decode b_S_take 4 = .ok (.aload_n 0, 1) := by decide +kernel
theorem d_S_take_5 : decode b_S_take 5 = .ok (.getfield 15, 3) := by decide +kernel
theorem d_S_take_8 : decode b_S_take 8 = .ok (.invokevirtual 36, 3) := by decide +kernel
theorem d_S_take_11 : decode b_S_take 11 = .ok (.iload_n 1, 1) := by decide +kernel
theorem d_S_take_12 : decode b_S_take 12 = .ok (.if_icmp .eq 5, 3) := by decide +kernel
theorem d_S_take_15 : decode b_S_take 15 = .ok (.iconst 0, 1) := by decide +kernel
theorem d_S_take_16 : decode b_S_take 16 = .ok (.ireturn, 1) := by decide +kernel
theorem d_S_take_17 : decode b_S_take 17 = .ok (.aload_n 0, 1) := by decide +kernel
theorem d_S_take_18 : decode b_S_take 18 = .ok (.dup, 1) := by decide +kernel
theorem d_S_take_19 : decode b_S_take 19 = .ok (.getfield 15, 3) := by decide +kernel
theorem d_S_take_22 : decode b_S_take 22 = .ok (.iconst 1, 1) := by decide +kernel
theorem d_S_take_23 : decode b_S_take 23 = .ok (.iadd, 1) := by decide +kernel
theorem d_S_take_24 : decode b_S_take 24 = .ok (.putfield 15, 3) := by decide +kernel
theorem d_S_take_27 : decode b_S_take 27 = .ok (.iconst 1, 1) := by decide +kernel
theorem d_S_take_28 : decode b_S_take 28 = .ok (.ireturn, 1) := by decide +kernel
theorem d_S_parseNumber_0 : decode b_S_parseNumber 0 = .ok (.iconst (-1), 1) := by decide +kernel
theorem d_S_parseNumber_1 : decode b_S_parseNumber 1 = .ok (.istore_n 1, 1) := by decide +kernel
theorem d_S_parseNumber_2 : decode b_S_parseNumber 2 = .ok (.iconst 0, 1) := by decide +kernel
theorem d_S_parseNumber_3 : decode b_S_parseNumber 3 = .ok (.istore_n 2, 1) := by decide +kernel
theorem d_S_parseNumber_4 : decode b_S_parseNumber 4 = .ok (.iload_n 2, 1) := by decide +kernel
theorem d_S_parseNumber_5 : decode b_S_parseNumber 5 = .ok (.iconst 2, 1) := by decide +kernel
theorem d_S_parseNumber_6 : decode b_S_parseNumber 6 = .ok (.if_icmp .ge 75, 3) := by decide +kernel
theorem d_S_parseNumber_9 : decode b_S_parseNumber 9 = .ok (.aload_n 0, 1) := by decide +kernel
theorem d_S_parseNumber_10 : decode b_S_parseNumber 10 = .ok (.getfield 9, 3) := by decide +kernel
theorem d_S_parseNumber_13 : decode b_S_parseNumber 13 = .ok (.aload_n 0, 1) := by decide +kernel
theorem d_S_parseNumber_14 : decode b_S_parseNumber 14 = .ok (.getfield 15, 3) := by decide +kernel
theorem d_S_parseNumber_17 : decode b_S_parseNumber 17 = .ok (.invokevirtual 36, 3) := by decide +kernel
theorem d_S_parseNumber_20 : decode b_S_parseNumber 20 = .ok (.bipush 48, 2) := by decide +kernel
theorem d_S_parseNumber_22 : decode b_S_parseNumber 22 = .ok (.if_icmp .lt 59, 3) := by decide +kernel
theorem d_S_parseNumber_25 : decode b_S_parseNumber 25 = .ok (.aload_n 0, 1) := by decide +kernel
theorem d_S_parseNumber_26 : decode b_S_parseNumber 26 = .ok (.getfield 9, 3) := by decide +kernel
theorem d_S_parseNumber_29 : decode b_S_parseNumber 29 = .ok (.aload_n 0, 1) := by decide +kernel
theorem d_S_parseNumber_30 : decode b_S_parseNumber 30 = .ok (.getfield 15, 3) := by decide +kernel
theorem d_S_parseNumber_33 : decode b_S_parseNumber 33 = .ok (.invokevirtual 36, 3) := by decide +kernel
theorem d_S_parseNumber_36 : decode b_S_parseNumber 36 = .ok (.bipush 57, 2) := by decide +kernel
theorem d_S_parseNumber_38 : decode b_S_parseNumber 38 = .ok (.if_icmp .gt 43, 3) := by decide +kernel
theorem d_S_parseNumber_41 : decode b_S_parseNumber 41 = .ok (.iload_n 1, 1) := by decide +kernel
theorem d_S_parseNumber_42 : decode b_S_parseNumber 42 = .ok (.iconst 0, 1) := by decide +kernel
theorem d_S_parseNumber_43 : decode b_S_parseNumber 43 = .ok (.invokestatic 45, 3) := by decide +kernel
theorem d_S_parseNumber_46 : decode b_S_parseNumber 46 = .ok (.bipush 10, 2) := by decide +kernel
theorem d_S_parseNumber_48 : decode b_S_parseNumber 48 = .ok (.imul, 1) := by decide +kernel
theorem d_S_parseNumber_49 : decode b_S_parseNumber 49 = .ok (.aload_n 0, 1) := by decide +kernel
theorem d_S_parseNumber_50 : decode b_S_parseNumber 50 = .ok (.getfield 9, 3) := by decide +kernel
theorem d_S_parseNumber_53 : decode b_S_parseNumber 53 = .ok (.aload_n 0, 1) := by decide +kernel
theorem d_S_parseNumber_54 : decode b_S_parseNumber 54 = .ok (.getfield 15, 3) := by decide +kernel
theorem d_S_parseNumber_57 : decode b_S_parseNumber 57 = .ok (.invokevirtual 36, 3) := by decide +kernel
theorem d_S_parseNumber_60 : decode b_S_parseNumber 60 = .ok (.iadd, 1) := by decide +kernel
theorem d_S_parseNumber_61 : decode b_S_parseNumber 61 = .ok (.bipush 48, 2) := by decide +kernel
theorem d_S_parseNumber_63 : decode b_S_parseNumber 63 = .ok (.isub, 1) := by decide +kernel
theorem d_S_parseNumber_64 : decode b_S_parseNumber 64 = .ok (.istore_n 1, 1) := by decide +kernel
theorem d_S_parseNumber_65 : decode b_S_parseNumber 65 = .ok (.aload_n 0, 1) := by decide +kernel
theorem d_S_parseNumber_66 : decode b_S_parseNumber 66 = .ok (.dup, 1) := by decide +kernel
theorem d_S_parseNumber_67 : decode b_S_parseNumber 67 = .ok (.getfield 15, 3) := by decide +kernel
theorem d_S_parseNumber_70 : decode b_S_parseNumber 70 = .ok (.iconst 1, 1) := by decide +kernel
theorem d_S_parseNumber_71 : decode b_S_parseNumber 71 = .ok (.iadd, 1) := by decide +kernel
theorem d_S_parseNumber_72 : decode b_S_parseNumber 72 = .ok (.putfield 15, 3) := by decide +kernel
theorem d_S_parseNumber_75 : decode b_S_parseNumber 75 = .ok (.iinc 2 1, 3) := by decide +kernel
theorem d_S_parseNumber_78 : decode b_S_parseNumber 78 = .ok (.goto (-74), 3) := by decide +kernel
theorem d_S_parseNumber_81 : decode b_S_parseNumber 81 = .ok (.iload_n 1, 1) := by decide +kernel
theorem d_S_parseNumber_82 : decode b_S_parseNumber 82 = .ok (.ireturn, 1) := by decide +kernel
theorem d_S_parseType_0 : decode b_S_parseType 0 = .ok (.aload_n 0, 1) := by decide +kernel
theorem d_S_parseType_1 : decode b_S_parseType 1 = .ok (.iconst 0, 1) := by decide +kernel
theorem d_S_parseType_2 : decode b_S_parseType 2 = .ok (.putfield 75, 3) := by decide +kernel
theorem d_S_parseType_5 : decode b_S_parseType 5 = .ok (.aload_n 0, 1) := by decide +kernel
theorem d_S_parseType_6 : decode b_S_parseType 6 = .ok (.getfield 9, 3) := by decide +kernel
theorem d_S_parseType_9 : decode b_S_parseType 9 = .ok (.aload_n 0, 1) := by decide +kernel
theorem d_S_parseType_10 : decode b_S_parseType 10 = .ok (.getfield 15, 3) := by decide +kernel
theorem d_S_parseType_13 : decode b_S_parseType 13 = .ok (.invokevirtual 36, 3) := by decide +kernel
theorem d_S_parseType_16 : decode b_S_parseType 16 = .ok (.lookupswitch 120 #[(37, 92), (69, 92), (71, 92), (88, 92), (98, 92), (100, 92), (101, 92), (102, 92), (103, 92), (120, 92)], 92) := by decide +kernel
theorem d_S_parseType_108 : decode b_S_parseType 108 = .ok (.aload_n 0, 1) := by decide +kernel
theorem d_S_parseType_109 : decode b_S_parseType 109 = .ok (.aload_n 0, 1) := by decide +kernel
theorem d_S_parseType_110 : decode b_S_parseType 110 = .ok (.getfield 9, 3) := by decide +kernel
theorem d_S_parseType_113 : decode b_S_parseType 113 = .ok (.aload_n 0, 1) := by decide +kernel
theorem d_S_parseType_114 : decode b_S_parseType 114 = .ok (.getfield 15, 3) := by decide +kernel
theorem d_S_parseType_117 : decode b_S_parseType 117 = .ok (.invokevirtual 36, 3) := by decide +kernel
theorem d_S_parseType_120 : decode b_S_parseType 120 = .ok (.putfield 75, 3) := by decide +kernel
theorem d_S_parseType_123 : decode b_S_parseType 123 = .ok (.aload_n 0, 1) := by decide +kernel
theorem d_S_parseType_124 : decode b_S_parseType 124 = .ok (.dup, 1) := by decide +kernel
theorem d_S_parseType_125 : decode b_S_parseType 125 = .ok (.getfield 15, 3) := by decide +kernel
theorem d_S_parseType_128 : decode b_S_parseType 128 = .ok (.iconst 1, 1) := by decide +kernel
theorem d_S_parseType_129 : decode b_S_parseType 129 = .ok (.iadd, 1) := by decide +kernel
theorem d_S_parseType_130 : decode b_S_parseType 130 = .ok (.putfield 15, 3) := by decide +kernel
theorem d_S_parseType_133 : decode b_S_parseType 133 = .ok (.goto 3, 3) := by decide +kernel
theorem d_S_parseType_136 : decode b_S_parseType 136 = .ok (.return_, 1) := by decide +kernel
theorem d_S_suits_0 : decode b_S_suits 0 = .ok (.aload_n 0, 1) := by decide +kernel
theorem d_S_suits_1 : decode b_S_suits 1 = .ok (.getfield 75, 3) := by decide +kernel
theorem d_S_suits_4 : decode b_S_suits 4 = .ok (.ifCond .ne 18, 3) := by decide +kernel
theorem d_S_suits_7 : decode b_S_suits 7 = .ok (.aload_n 0, 1) := by decide +kernel
theorem d_S_suits_8 : decode b_S_suits 8 = .ok (.iload_n 1, 1) := by decide +kernel
theorem d_S_suits_9 : decode b_S_suits 9 = .ok (.ifCond .ne 8, 3) := by decide +kernel
theorem d_S_suits_12 : decode b_S_suits 12 = .ok (.bipush 100, 2) := by decide +kernel
theorem d_S_suits_14 : decode b_S_suits 14 = .ok (.goto 5, 3) := by decide +kernel
theorem d_S_suits_17 : decode b_S_suits 17 = .ok (.bipush 103, 2) := by decide +kernel
theorem d_S_suits_19 : decode b_S_suits 19 = .ok (.putfield 75, 3) := by decide +kernel
theorem d_S_suits_22 : decode b_S_suits 22 = .ok (.aload_n 0, 1) := by decide +kernel
theorem d_S_suits_23 : decode b_S_suits 23 = .ok (.getfield 75, 3) := by decide +kernel
theorem d_S_suits_26 : decode b_S_suits 26 = .ok (.bipush 98, 2) := by decide +kernel
theorem d_S_suits_28 : decode b_S_suits 28 = .ok (.if_icmp .eq 21, 3) := by decide +kernel
theorem d_S_suits_31 : decode b_S_suits 31 = .ok (.aload_n 0, 1) := by decide +kernel
theorem d_S_suits_32 : decode b_S_suits 32 = .ok (.getfield 75, 3) := by decide +kernel
theorem d_S_suits_35 : decode b_S_suits 35 = .ok (.bipush 120, 2) := by decide +kernel
theorem d_S_suits_37 : decode b_S_suits 37 = .ok (.if_icmp .eq 12, 3) := by decide +kernel
theorem d_S_suits_40 : decode b_S_suits 40 = .ok (.aload_n 0, 1) := by decide +kernel
theorem d_S_suits_41 : decode b_S_suits 41 = .ok (.getfield 75, 3) := by decide +kernel
theorem d_S_suits_44 : decode b_S_suits 44 = .ok (.bipush 88, 2) := by decide +kernel
theorem d_S_suits_46 : decode b_S_suits 46 = .ok (.if_icmp .ne 7, 3) := by decide +kernel
theorem d_S_suits_49 : decode b_S_suits 49 = .ok (.iconst 1, 1) := by decide +kernel
theorem d_S_suits_50 : decode b_S_suits 50 = .ok (.goto 4, 3) := by decide +kernel
theorem d_S_suits_53 : decode b_S_suits 53 = .ok (.iconst 0, 1) := by decide +kernel
theorem d_S_suits_54 : decode b_S_suits 54 = .ok (.istore_n 2, 1) := by decide +kernel
theorem d_S_suits_55 : decode b_S_suits 55 = .ok (.aload_n 0, 1) := by decide +kernel
theorem d_S_suits_56 : decode b_S_suits 56 = .ok (.getfield 75, 3) := by decide +kernel
theorem d_S_suits_59 : decode b_S_suits 59 = .ok (.bipush 100, 2) := by decide +kernel
theorem d_S_suits_61 : decode b_S_suits 61 = .ok (.if_icmp .eq 9, 3) := by decide +kernel
theorem d_S_suits_64 : decode b_S_suits 64 = .ok (.iload_n 2, 1) := by decide +kernel
theorem d_S_suits_65 : decode b_S_suits 65 = .ok (.ifCond .ne 5, 3) := by decide +kernel
theorem d_S_suits_68 : decode b_S_suits 68 = .ok (.iconst 1, 1) := by decide +kernel
theorem d_S_suits_69 : decode b_S_suits 69 = .ok (.ireturn, 1) := by decide +kernel
theorem d_S_suits_70 : decode b_S_suits 70 = .ok (.iload_n 1, 1) := by decide +kernel
theorem d_S_suits_71 : decode b_S_suits 71 = .ok (.ifCond .ne 28, 3) := by decide +kernel
theorem d_S_suits_74 : decode b_S_suits 74 = .ok (.aload_n 0, 1) := by decide +kernel
theorem d_S_suits_75 : decode b_S_suits 75 = .ok (.getfield 57, 3) := by decide +kernel
theorem d_S_suits_78 : decode b_S_suits 78 = .ok (.iconst (-1), 1) := by decide +kernel
theorem d_S_suits_79 : decode b_S_suits 79 = .ok (.if_icmp .ne 20, 3) := by decide +kernel
theorem d_S_suits_82 : decode b_S_suits 82 = .ok (.iload_n 2, 1) := by decide +kernel
theorem d_S_suits_83 : decode b_S_suits 83 = .ok (.ifCond .eq 12, 3) := by decide +kernel
theorem d_S_suits_86 : decode b_S_suits 86 = .ok (.aload_n 0, 1) := by decide +kernel
theorem d_S_suits_87 : decode b_S_suits 87 = .ok (.getfield 54, 3) := by decide +kernel
theorem d_S_suits_90 : decode b_S_suits 90 = .ok (.bipush 44, 2) := by decide +kernel
theorem d_S_suits_92 : decode b_S_suits 92 = .ok (.if_icmp .eq 7, 3) := by decide +kernel
theorem d_S_suits_95 : decode b_S_suits 95 = .ok (.iconst 1, 1) := by decide +kernel
theorem d_S_suits_96 : decode b_S_suits 96 = .ok (.goto 4, 3) := by decide +kernel
theorem d_S_suits_99 : decode b_S_suits 99 = .ok (.iconst 0, 1) := by decide +kernel
theorem d_S_suits_100 : decode b_S_suits 100 = .ok (.ireturn, 1) := by decide +kernel
