theorem d_L_read_0 : decode b_L_read 0 = .ok (.aload_n 2, 1) := by decide +kernel
theorem d_L_read_1 : decode b_L_read 1 = .ok (.iconst 0, 1) := by decide +kernel
theorem d_L_read_2 : decode b_L_read 2 = .ok (.aload_n 0, 1) := by decide +kernel
theorem d_L_read_3 : decode b_L_read 3 = .ok (.iload_n 1, 1) := by decide +kernel
theorem d_L_read_4 : decode b_L_read 4 = .ok (.invokevirtual 7, 3) := by decide +kernel
theorem d_L_read_7 : decode b_L_read 7 = .ok (.i2l, 1) := by decide +kernel
theorem d_L_read_8 : decode b_L_read 8 = .ok (.lastore, 1) := by decide +kernel
theorem d_L_read_9 : decode b_L_read 9 = .ok (.goto 12, 3) := by decide +kernel
theorem d_L_read_12 : decode b_L_read 12 = .ok (.astore_n 3, 1) := by decide +kernel
theorem d_L_read_13 : decode b_L_read 13 = .ok (.iconst 1, 1) := by decide +kernel
theorem d_L_read_14 : decode b_L_read 14 = .ok (.ireturn, 1) := by decide +kernel
theorem d_L_read_15 : decode b_L_read 15 = .ok (.astore_n 3, 1) := by decide +kernel
theorem d_L_read_16 : decode b_L_read 16 = .ok (.iconst 2, 1) := by decide +kernel
theorem d_L_read_17 : decode b_L_read 17 = .ok (.ireturn, 1) := by decide +kernel
theorem d_L_read_18 : decode b_L_read 18 = .ok (.astore_n 3, 1) := by decide +kernel
theorem d_L_read_19 : decode b_L_read 19 = .ok (.iconst 3, 1) := by decide +kernel
theorem d_L_read_20 : decode b_L_read 20 = .ok (.ireturn, 1) := by decide +kernel
theorem d_L_read_21 : decode b_L_read 21 = .ok (.iconst 0, 1) := by decide +kernel
theorem d_L_read_22 : decode b_L_read 22 = .ok (.ireturn, 1) := by decide +kernel
theorem d_L_combine_0 : decode b_L_combine 0 = .ok (.aload 5, 2) := by decide +kernel
theorem d_L_combine_2 : decode b_L_combine 2 = .ok (.iconst 0, 1) := by decide +kernel
theorem d_L_combine_3 : decode b_L_combine 3 = .ok (.aload_n 0, 1) := by decide +kernel
theorem d_L_combine_4 : decode b_L_combine 4 = .ok (.iload_n 1, 1) := by decide +kernel
theorem d_L_combine_5 : decode b_L_combine 5 = .ok (.iload_n 2, 1) := by decide +kernel
theorem d_L_combine_6 : decode b_L_combine 6 = .ok (.iload_n 3, 1) := by decide +kernel
theorem d_L_combine_7 : decode b_L_combine 7 = .ok (.iload 4, 2) := by decide +kernel
theorem d_L_combine_9 : decode b_L_combine 9 = .ok (.invokevirtual 19, 3) := by decide +kernel
theorem d_L_combine_12 : decode b_L_combine 12 = .ok (.i2l, 1) := by decide +kernel
theorem d_L_combine_13 : decode b_L_combine 13 = .ok (.lastore, 1) := by decide +kernel
theorem d_L_combine_14 : decode b_L_combine 14 = .ok (.goto 15, 3) := by decide +kernel
theorem d_L_combine_17 : decode b_L_combine 17 = .ok (.astore 6, 2) := by decide +kernel
theorem d_L_combine_19 : decode b_L_combine 19 = .ok (.iconst 1, 1) := by decide +kernel
theorem d_L_combine_20 : decode b_L_combine 20 = .ok (.ireturn, 1) := by decide +kernel
theorem d_L_combine_21 : decode b_L_combine 21 = .ok (.astore 6, 2) := by decide +kernel
theorem d_L_combine_23 : decode b_L_combine 23 = .ok (.iconst 2, 1) := by decide +kernel
theorem d_L_combine_24 : decode b_L_combine 24 = .ok (.ireturn, 1) := by decide +kernel
theorem d_L_combine_25 : decode b_L_combine 25 = .ok (.astore 6, 2) := by decide +kernel
theorem d_L_combine_27 : decode b_L_combine 27 = .ok (.iconst 3, 1) := by decide +kernel
theorem d_L_combine_28 : decode b_L_combine 28 = .ok (.ireturn, 1) := by decide +kernel
theorem d_L_combine_29 : decode b_L_combine 29 = .ok (.iconst 0, 1) := by decide +kernel
theorem d_L_combine_30 : decode b_L_combine 30 = .ok (.ireturn, 1) := by decide +kernel
theorem d_L_power_0 : decode b_L_power 0 = .ok (.aload 5, 2) := by decide +kernel
theorem d_L_power_2 : decode b_L_power 2 = .ok (.iconst 0, 1) := by decide +kernel
theorem d_L_power_3 : decode b_L_power 3 = .ok (.aload_n 0, 1) := by decide +kernel
theorem d_L_power_4 : decode b_L_power 4 = .ok (.iload_n 1, 1) := by decide +kernel
theorem d_L_power_5 : decode b_L_power 5 = .ok (.iload_n 2, 1) := by decide +kernel
theorem d_L_power_6 : decode b_L_power 6 = .ok (.iload_n 3, 1) := by decide +kernel
theorem d_L_power_7 : decode b_L_power 7 = .ok (.iload 4, 2) := by decide +kernel
theorem d_L_power_9 : decode b_L_power 9 = .ok (.invokevirtual 23, 3) := by decide +kernel
theorem d_L_power_12 : decode b_L_power 12 = .ok (.i2l, 1) := by decide +kernel
theorem d_L_power_13 : decode b_L_power 13 = .ok (.lastore, 1) := by decide +kernel
theorem d_L_power_14 : decode b_L_power 14 = .ok (.goto 11, 3) := by decide +kernel
theorem d_L_power_17 : decode b_L_power 17 = .ok (.astore 6, 2) := by decide +kernel
theorem d_L_power_19 : decode b_L_power 19 = .ok (.iconst 1, 1) := by decide +kernel
theorem d_L_power_20 : decode b_L_power 20 = .ok (.ireturn, 1) := by decide +kernel
theorem d_L_power_21 : decode b_L_power 21 = .ok (.astore 6, 2) := by decide +kernel
theorem d_L_power_23 : decode b_L_power 23 = .ok (.iconst 2, 1) := by decide +kernel
theorem d_L_power_24 : decode b_L_power 24 = .ok (.ireturn, 1) := by decide +kernel
theorem d_L_power_25 : decode b_L_power 25 = .ok (.iconst 0, 1) := by decide +kernel
theorem d_L_power_26 : decode b_L_power 26 = .ok (.ireturn, 1) := by decide +kernel
theorem d_L_turn_0 : decode b_L_turn 0 = .ok (.aload 4, 2) := by decide +kernel
theorem d_L_turn_2 : decode b_L_turn 2 = .ok (.iconst 0, 1) := by decide +kernel
theorem d_L_turn_3 : decode b_L_turn 3 = .ok (.aload_n 0, 1) := by decide +kernel
theorem d_L_turn_4 : decode b_L_turn 4 = .ok (.iload_n 1, 1) := by decide +kernel
theorem d_L_turn_5 : decode b_L_turn 5 = .ok (.iload_n 2, 1) := by decide +kernel
theorem d_L_turn_6 : decode b_L_turn 6 = .ok (.iload_n 3, 1) := by decide +kernel
theorem d_L_turn_7 : decode b_L_turn 7 = .ok (.invokevirtual 26, 3) := by decide +kernel
theorem d_L_turn_10 : decode b_L_turn 10 = .ok (.i2l, 1) := by decide +kernel
theorem d_L_turn_11 : decode b_L_turn 11 = .ok (.lastore, 1) := by decide +kernel
theorem d_L_turn_12 : decode b_L_turn 12 = .ok (.goto 11, 3) := by decide +kernel
theorem d_L_turn_15 : decode b_L_turn 15 = .ok (.astore 5, 2) := by decide +kernel
theorem d_L_turn_17 : decode b_L_turn 17 = .ok (.iconst 1, 1) := by decide +kernel
theorem d_L_turn_18 : decode b_L_turn 18 = .ok (.ireturn, 1) := by decide +kernel
theorem d_L_turn_19 : decode b_L_turn 19 = .ok (.astore 5, 2) := by decide +kernel
theorem d_L_turn_21 : decode b_L_turn 21 = .ok (.iconst 2, 1) := by decide +kernel
theorem d_L_turn_22 : decode b_L_turn 22 = .ok (.ireturn, 1) := by decide +kernel
theorem d_L_turn_23 : decode b_L_turn 23 = .ok (.iconst 0, 1) := by decide +kernel
theorem d_L_turn_24 : decode b_L_turn 24 = .ok (.ireturn, 1) := by decide +kernel
theorem d_L_round_0 : decode b_L_round 0 = .ok (.aload 4, 2) := by decide +kernel
theorem d_L_round_2 : decode b_L_round 2 = .ok (.iconst 0, 1) := by decide +kernel
theorem d_L_round_3 : decode b_L_round 3 = .ok (.aload_n 0, 1) := by decide +kernel
theorem d_L_round_4 : decode b_L_round 4 = .ok (.iload_n 1, 1) := by decide +kernel
theorem d_L_round_5 : decode b_L_round 5 = .ok (.iload_n 2, 1) := by decide +kernel
theorem d_L_round_6 : decode b_L_round 6 = .ok (.iload_n 3, 1) := by decide +kernel
theorem d_L_round_7 : decode b_L_round 7 = .ok (.invokevirtual 30, 3) := by decide +kernel
theorem d_L_round_10 : decode b_L_round 10 = .ok (.i2l, 1) := by decide +kernel
theorem d_L_round_11 : decode b_L_round 11 = .ok (.lastore, 1) := by decide +kernel
theorem d_L_round_12 : decode b_L_round 12 = .ok (.goto 11, 3) := by decide +kernel
theorem d_L_round_15 : decode b_L_round 15 = .ok (.astore 5, 2) := by decide +kernel
theorem d_L_round_17 : decode b_L_round 17 = .ok (.iconst 1, 1) := by decide +kernel
theorem d_L_round_18 : decode b_L_round 18 = .ok (.ireturn, 1) := by decide +kernel
theorem d_L_round_19 : decode b_L_round 19 = .ok (.astore 5, 2) := by decide +kernel
theorem d_L_round_21 : decode b_L_round 21 = .ok (.iconst 2, 1) := by decide +kernel
theorem d_L_round_22 : decode b_L_round 22 = .ok (.ireturn, 1) := by decide +kernel
theorem d_L_round_23 : decode b_L_round 23 = .ok (.iconst 0, 1) := by decide +kernel
theorem d_L_round_24 : decode b_L_round 24 = .ok (.ireturn, 1) := by decide +kernel
theorem d_L_sum_0 : decode b_L_sum 0 = .ok (.aload_n 3, 1) := by decide +kernel
theorem d_L_sum_1 : decode b_L_sum 1 = .ok (.iconst 0, 1) := by decide +kernel
theorem d_L_sum_2 : decode b_L_sum 2 = .ok (.aload_n 0, 1) := by decide +kernel
theorem d_L_sum_3 : decode b_L_sum 3 = .ok (.iload_n 1, 1) := by decide +kernel
theorem d_L_sum_4 : decode b_L_sum 4 = .ok (.iload_n 2, 1) := by decide +kernel
theorem d_L_sum_5 : decode b_L_sum 5 = .ok (.invokevirtual 33, 3) := by decide +kernel
theorem d_L_sum_8 : decode b_L_sum 8 = .ok (.i2l, 1) := by decide +kernel
theorem d_L_sum_9 : decode b_L_sum 9 = .ok (.lastore, 1) := by decide +kernel
theorem d_L_sum_10 : decode b_L_sum 10 = .ok (.goto 11, 3) := by decide +kernel
theorem d_L_sum_13 : decode b_L_sum 13 = .ok (.astore 4, 2) := by decide +kernel
theorem d_L_sum_15 : decode b_L_sum 15 = .ok (.iconst 1, 1) := by decide +kernel
theorem d_L_sum_16 : decode b_L_sum 16 = .ok (.ireturn, 1) := by decide +kernel
theorem d_L_sum_17 : decode b_L_sum 17 = .ok (.astore 4, 2) := by decide +kernel
theorem d_L_sum_19 : decode b_L_sum 19 = .ok (.iconst 2, 1) := by decide +kernel
theorem d_L_sum_20 : decode b_L_sum 20 = .ok (.ireturn, 1) := by decide +kernel
theorem d_L_sum_21 : decode b_L_sum 21 = .ok (.iconst 0, 1) := by decide +kernel
theorem d_L_sum_22 : decode b_L_sum 22 = .ok (.ireturn, 1) := by decide +kernel
theorem d_L_show_0 : decode b_L_show 0 = .ok (.aload_n 2, 1) := by decide +kernel
theorem d_L_show_1 : decode b_L_show 1 = .ok (.iconst 0, 1) := by decide +kernel
theorem d_L_show_2 : decode b_L_show 2 = .ok (.aload_n 0, 1) := by decide +kernel
theorem d_L_show_3 : decode b_L_show 3 = .ok (.iload_n 1, 1) := by decide +kernel
theorem d_L_show_4 : decode b_L_show 4 = .ok (.invokevirtual 37, 3) := by decide +kernel
theorem d_L_show_7 : decode b_L_show 7 = .ok (.i2l, 1) := by decide +kernel
theorem d_L_show_8 : decode b_L_show 8 = .ok (.lastore, 1) := by decide +kernel
theorem d_L_show_9 : decode b_L_show 9 = .ok (.goto 6, 3) := by decide +kernel
theorem d_L_show_12 : decode b_L_show 12 = .ok (.astore_n 3, 1) := by decide +kernel
theorem d_L_show_13 : decode b_L_show 13 = .ok (.iconst 1, 1) := by decide +kernel
theorem d_L_show_14 : decode b_L_show 14 = .ok (.ireturn, 1) := by decide +kernel
theorem d_L_show_15 : decode b_L_show 15 = .ok (.iconst 0, 1) := by decide +kernel
theorem d_L_show_16 : decode b_L_show 16 = .ok (.ireturn, 1) := by decide +kernel
theorem d_L_format_0 : decode b_L_format 0 = .ok (.aload_n 2, 1) := by decide +kernel
theorem d_L_format_1 : decode b_L_format 1 = .ok (.iconst 0, 1) := by decide +kernel
theorem d_L_format_2 : decode b_L_format 2 = .ok (.aload_n 0, 1) := by decide +kernel
theorem d_L_format_3 : decode b_L_format 3 = .ok (.iload_n 1, 1) := by decide +kernel
theorem d_L_format_4 : decode b_L_format 4 = .ok (.invokevirtual 40, 3) := by decide +kernel
theorem d_L_format_7 : decode b_L_format 7 = .ok (.i2l, 1) := by decide +kernel
theorem d_L_format_8 : decode b_L_format 8 = .ok (.lastore, 1) := by decide +kernel
theorem d_L_format_9 : decode b_L_format 9 = .ok (.goto 6, 3) := by decide +kernel
theorem d_L_format_12 : decode b_L_format 12 = .ok (.astore_n 3, 1) := by decide +kernel
theorem d_L_format_13 : decode b_L_format 13 = .ok (.iconst 1, 1) := by decide +kernel
theorem d_L_format_14 : decode b_L_format 14 = .ok (.ireturn, 1) := by decide +kernel
theorem d_L_format_15 : decode b_L_format 15 = .ok (.iconst 0, 1) := by decide +kernel
theorem d_L_format_16 : decode b_L_format 16 = .ok (.ireturn, 1) := by decide +kernel
theorem d_L_law_0 : decode b_L_law 0 = .ok (.new 8, 3) := by decide +kernel
theorem d_L_law_3 : decode b_L_law 3 = .ok (.dup, 1) := by decide +kernel
theorem d_L_law_4 : decode b_L_law 4 = .ok (.invokespecial 43, 3) := by decide +kernel
theorem d_L_law_7 : decode b_L_law 7 = .ok (.astore_n 1, 1) := by decide +kernel
theorem d_L_law_8 : decode b_L_law 8 = .ok (.new 44, 3) := by decide +kernel
theorem d_L_law_11 : decode b_L_law 11 = .ok (.dup, 1) := by decide +kernel
theorem d_L_law_12 : decode b_L_law 12 = .ok (.invokespecial 46, 3) := by decide +kernel
theorem d_L_law_15 : decode b_L_law 15 = .ok (.astore_n 2, 1) := by decide +kernel
theorem d_L_law_16 : decode b_L_law 16 = .ok (.iconst 1, 1) := by decide +kernel
theorem d_L_law_17 : decode b_L_law 17 = .ok (.newarray .long, 2) := by decide +kernel
theorem d_L_law_19 : decode b_L_law 19 = .ok (.astore_n 3, 1) := by decide +kernel
theorem d_L_law_20 : decode b_L_law 20 = .ok (.iconst 0, 1) := by decide +kernel
theorem d_L_law_21 : decode b_L_law 21 = .ok (.istore 4, 2) := by decide +kernel
theorem d_L_law_23 : decode b_L_law 23 = .ok (.iload 4, 2) := by decide +kernel
theorem d_L_law_25 : decode b_L_law 25 = .ok (.aload_n 0, 1) := by decide +kernel
theorem d_L_law_26 : decode b_L_law 26 = .ok (.arraylength, 1) := by decide +kernel
theorem d_L_law_27 : decode b_L_law 27 = .ok (.iconst 5, 1) := by decide +kernel
theorem d_L_law_28 : decode b_L_law 28 = .ok (.isub, 1) := by decide +kernel
theorem d_L_law_29 : decode b_L_law 29 = .ok (.if_icmp .gt 1065, 3) := by decide +kernel
theorem d_L_law_32 : decode b_L_law 32 = .ok (.aload_n 0, 1) := by decide +kernel
theorem d_L_law_33 : decode b_L_law 33 = .ok (.iload 4, 2) := by decide +kernel
theorem d_L_law_35 : decode b_L_law 35 = .ok (.iaload, 1) := by decide +kernel
theorem d_L_law_36 : decode b_L_law 36 = .ok (.bipush 31, 2) := by decide +kernel
theorem d_L_law_38 : decode b_L_law 38 = .ok (.iand, 1) := by decide +kernel
theorem d_L_law_39 : decode b_L_law 39 = .ok (.tableswitch 1049 0 17 #[85, 110, 121, 177, 246, 293, 385, 477, 557, 637, 705, 742, 768, 824, 880, 905, 930, 983], 85) := by decide +kernel
theorem d_L_law_124 : decode b_L_law 124 = .ok (.aload_n 1, 1) := by decide +kernel
theorem d_L_law_125 : decode b_L_law 125 = .ok (.aload_n 0, 1) := by decide +kernel
theorem d_L_law_126 : decode b_L_law 126 = .ok (.iload 4, 2) := by decide +kernel
theorem d_L_law_128 : decode b_L_law 128 = .ok (.iconst 1, 1) := by decide +kernel
theorem d_L_law_129 : decode b_L_law 129 = .ok (.iadd, 1) := by decide +kernel
theorem d_L_law_130 : decode b_L_law 130 = .ok (.iaload, 1) := by decide +kernel
theorem d_L_law_131 : decode b_L_law 131 = .ok (.invokevirtual 47, 3) := by decide +kernel
theorem d_L_law_134 : decode b_L_law 134 = .ok (.aload_n 2, 1) := by decide +kernel
theorem d_L_law_135 : decode b_L_law 135 = .ok (.aload_n 0, 1) := by decide +kernel
theorem d_L_law_136 : decode b_L_law 136 = .ok (.iload 4, 2) := by decide +kernel
theorem d_L_law_138 : decode b_L_law 138 = .ok (.iconst 1, 1) := by decide +kernel
theorem d_L_law_139 : decode b_L_law 139 = .ok (.iadd, 1) := by decide +kernel
theorem d_L_law_140 : decode b_L_law 140 = .ok (.iaload, 1) := by decide +kernel
theorem d_L_law_141 : decode b_L_law 141 = .ok (.invokevirtual 51, 3) := by decide +kernel
theorem d_L_law_144 : decode b_L_law 144 = .ok (.if_icmp .eq 944, 3) := by decide +kernel
theorem d_L_law_147 : decode b_L_law 147 = .ok (.iconst 0, 1) := by decide +kernel
theorem d_L_law_148 : decode b_L_law 148 = .ok (.ireturn, 1) := by decide +kernel
theorem d_L_law_149 : decode b_L_law 149 = .ok (.aload_n 1, 1) := by decide +kernel
theorem d_L_law_150 : decode b_L_law 150 = .ok (.invokevirtual 52, 3) := by decide +kernel
theorem d_L_law_153 : decode b_L_law 153 = .ok (.aload_n 2, 1) := by decide +kernel
theorem d_L_law_154 : decode b_L_law 154 = .ok (.invokevirtual 55, 3) := by decide +kernel
theorem d_L_law_157 : decode b_L_law 157 = .ok (.goto 931, 3) := by decide +kernel
theorem d_L_law_160 : decode b_L_law 160 = .ok (.aload_n 1, 1) := by decide +kernel
theorem d_L_law_161 : decode b_L_law 161 = .ok (.aload_n 0, 1) := by decide +kernel
theorem d_L_law_162 : decode b_L_law 162 = .ok (.iload 4, 2) := by decide +kernel
theorem d_L_law_164 : decode b_L_law 164 = .ok (.iconst 1, 1) := by decide +kernel
theorem d_L_law_165 : decode b_L_law 165 = .ok (.iadd, 1) := by decide +kernel
theorem d_L_law_166 : decode b_L_law 166 = .ok (.iaload, 1) := by decide +kernel
theorem d_L_law_167 : decode b_L_law 167 = .ok (.aload_n 3, 1) := by decide +kernel
theorem d_L_law_168 : decode b_L_law 168 = .ok (.invokestatic 56, 3) := by decide +kernel
theorem d_L_law_171 : decode b_L_law 171 = .ok (.istore 5, 2) := by decide +kernel
theorem d_L_law_173 : decode b_L_law 173 = .ok (.aload_n 2, 1) := by decide +kernel
theorem d_L_law_174 : decode b_L_law 174 = .ok (.aload_n 0, 1) := by decide +kernel
theorem d_L_law_175 : decode b_L_law 175 = .ok (.iload 4, 2) := by decide +kernel
theorem d_L_law_177 : decode b_L_law 177 = .ok (.iconst 1, 1) := by decide +kernel
theorem d_L_law_178 : decode b_L_law 178 = .ok (.iadd, 1) := by decide +kernel
theorem d_L_law_179 : decode b_L_law 179 = .ok (.iaload, 1) := by decide +kernel
theorem d_L_law_180 : decode b_L_law 180 = .ok (.invokevirtual 61, 3) := by decide +kernel
theorem d_L_law_183 : decode b_L_law 183 = .ok (.istore 6, 2) := by decide +kernel
theorem d_L_law_185 : decode b_L_law 185 = .ok (.aload_n 2, 1) := by decide +kernel
theorem d_L_law_186 : decode b_L_law 186 = .ok (.invokevirtual 62, 3) := by decide +kernel
theorem d_L_law_189 : decode b_L_law 189 = .ok (.iload 5, 2) := by decide +kernel
theorem d_L_law_191 : decode b_L_law 191 = .ok (.if_icmp .eq 5, 3) := by decide +kernel
theorem d_L_law_194 : decode b_L_law 194 = .ok (.iconst 0, 1) := by decide +kernel
theorem d_L_law_195 : decode b_L_law 195 = .ok (.ireturn, 1) := by decide +kernel
theorem d_L_law_196 : decode b_L_law 196 = .ok (.iload 5, 2) := by decide +kernel
theorem d_L_law_198 : decode b_L_law 198 = .ok (.ifCond .ne 15, 3) := by decide +kernel
theorem d_L_law_201 : decode b_L_law 201 = .ok (.aload_n 3, 1) := by decide +kernel
theorem d_L_law_202 : decode b_L_law 202 = .ok (.iconst 0, 1) := by decide +kernel
theorem d_L_law_203 : decode b_L_law 203 = .ok (.laload, 1) := by decide +kernel
theorem d_L_law_204 : decode b_L_law 204 = .ok (.iload 6, 2) := by decide +kernel
theorem d_L_law_206 : decode b_L_law 206 = .ok (.i2l, 1) := by decide +kernel
theorem d_L_law_207 : decode b_L_law 207 = .ok (.lcmp, 1) := by decide +kernel
theorem d_L_law_208 : decode b_L_law 208 = .ok (.ifCond .eq 5, 3) := by decide +kernel
theorem d_L_law_211 : decode b_L_law 211 = .ok (.iconst 0, 1) := by decide +kernel
theorem d_L_law_212 : decode b_L_law 212 = .ok (.ireturn, 1) := by decide +kernel
theorem d_L_law_213 : decode b_L_law 213 = .ok (.goto 875, 3) := by decide +kernel
theorem d_L_law_216 : decode b_L_law 216 = .ok (.aload_n 1, 1) := by decide +kernel
theorem d_L_law_217 : decode b_L_law 217 = .ok (.aload_n 0, 1) := by decide +kernel
theorem d_L_law_218 : decode b_L_law 218 = .ok (.iload 4, 2) := by decide +kernel
theorem d_L_law_220 : decode b_L_law 220 = .ok (.iconst 1, 1) := by decide +kernel
theorem d_L_law_221 : decode b_L_law 221 = .ok (.iadd, 1) := by decide +kernel
theorem d_L_law_222 : decode b_L_law 222 = .ok (.iaload, 1) := by decide +kernel
theorem d_L_law_223 : decode b_L_law 223 = .ok (.aload_n 0, 1) := by decide +kernel
theorem d_L_law_224 : decode b_L_law 224 = .ok (.iload 4, 2) := by decide +kernel
theorem d_L_law_226 : decode b_L_law 226 = .ok (.iconst 2, 1) := by decide +kernel
theorem d_L_law_227 : decode b_L_law 227 = .ok (.iadd, 1) := by decide +kernel
theorem d_L_law_228 : decode b_L_law 228 = .ok (.iaload, 1) := by decide +kernel
theorem d_L_law_229 : decode b_L_law 229 = .ok (.i2l, 1) := by decide +kernel
theorem d_L_law_230 : decode b_L_law 230 = .ok (.bipush 32, 2) := by decide +kernel
theorem d_L_law_232 : decode b_L_law 232 = .ok (.lshl, 1) := by decide +kernel
theorem d_L_law_233 : decode b_L_law 233 = .ok (.aload_n 0, 1) := by decide +kernel
theorem d_L_law_234 : decode b_L_law 234 = .ok (.iload 4, 2) := by decide +kernel
theorem d_L_law_236 : decode b_L_law 236 = .ok (.iconst 3, 1) := by decide +kernel
theorem d_L_law_237 : decode b_L_law 237 = .ok (.iadd, 1) := by decide +kernel
theorem d_L_law_238 : decode b_L_law 238 = .ok (.iaload, 1) := by decide +kernel
theorem d_L_law_239 : decode b_L_law 239 = .ok (.i2l, 1) := by decide +kernel
theorem d_L_law_240 : decode b_L_law 240 = .ok (.ldc2_w 66, 3) := by decide +kernel
theorem d_L_law_243 : decode b_L_law 243 = .ok (.land, 1) := by decide +kernel
theorem d_L_law_244 : decode b_L_law 244 = .ok (.lor, 1) := by decide +kernel
theorem d_L_law_245 : decode b_L_law 245 = .ok (.invokevirtual 68, 3) := by decide +kernel
theorem d_L_law_248 : decode b_L_law 248 = .ok (.aload_n 2, 1) := by decide +kernel
theorem d_L_law_249 : decode b_L_law 249 = .ok (.aload_n 0, 1) := by decide +kernel
theorem d_L_law_250 : decode b_L_law 250 = .ok (.iload 4, 2) := by decide +kernel
theorem d_L_law_252 : decode b_L_law 252 = .ok (.iconst 1, 1) := by decide +kernel
theorem d_L_law_253 : decode b_L_law 253 = .ok (.iadd, 1) := by decide +kernel
theorem d_L_law_254 : decode b_L_law 254 = .ok (.iaload, 1) := by decide +kernel
theorem d_L_law_255 : decode b_L_law 255 = .ok (.aload_n 0, 1) := by decide +kernel
theorem d_L_law_256 : decode b_L_law 256 = .ok (.iload 4, 2) := by decide +kernel
theorem d_L_law_258 : decode b_L_law 258 = .ok (.iconst 2, 1) := by decide +kernel
theorem d_L_law_259 : decode b_L_law 259 = .ok (.iadd, 1) := by decide +kernel
theorem d_L_law_260 : decode b_L_law 260 = .ok (.iaload, 1) := by decide +kernel
theorem d_L_law_261 : decode b_L_law 261 = .ok (.i2l, 1) := by decide +kernel
theorem d_L_law_262 : decode b_L_law 262 = .ok (.bipush 32, 2) := by decide +kernel
theorem d_L_law_264 : decode b_L_law 264 = .ok (.lshl, 1) := by decide +kernel
theorem d_L_law_265 : decode b_L_law 265 = .ok (.aload_n 0, 1) := by decide +kernel
theorem d_L_law_266 : decode b_L_law 266 = .ok (.iload 4, 2) := by decide +kernel
theorem d_L_law_268 : decode b_L_law 268 = .ok (.iconst 3, 1) := by decide +kernel
theorem d_L_law_269 : decode b_L_law 269 = .ok (.iadd, 1) := by decide +kernel
theorem d_L_law_270 : decode b_L_law 270 = .ok (.iaload, 1) := by decide +kernel
theorem d_L_law_271 : decode b_L_law 271 = .ok (.i2l, 1) := by decide +kernel
theorem d_L_law_272 : decode b_L_law 272 = .ok (.ldc2_w 66, 3) := by decide +kernel
theorem d_L_law_275 : decode b_L_law 275 = .ok (.land, 1) := by decide +kernel
theorem d_L_law_276 : decode b_L_law 276 = .ok (.lor, 1) := by decide +kernel
theorem d_L_law_277 : decode b_L_law 277 = .ok (.invokevirtual 72, 3) := by decide +kernel
theorem d_L_law_280 : decode b_L_law 280 = .ok (.if_icmp .eq 808, 3) := by decide +kernel
theorem d_L_law_283 : decode b_L_law 283 = .ok (.iconst 0, 1) := by decide +kernel
theorem d_L_law_284 : decode b_L_law 284 = .ok (.ireturn, 1) := by decide +kernel
theorem d_L_law_285 : decode b_L_law 285 = .ok (.aload_n 1, 1) := by decide +kernel
theorem d_L_law_286 : decode b_L_law 286 = .ok (.aload_n 0, 1) := by decide +kernel
theorem d_L_law_287 : decode b_L_law 287 = .ok (.iload 4, 2) := by decide +kernel
theorem d_L_law_289 : decode b_L_law 289 = .ok (.iconst 1, 1) := by decide +kernel
theorem d_L_law_290 : decode b_L_law 290 = .ok (.iadd, 1) := by decide +kernel
theorem d_L_law_291 : decode b_L_law 291 = .ok (.iaload, 1) := by decide +kernel
theorem d_L_law_292 : decode b_L_law 292 = .ok (.aload_n 0, 1) := by decide +kernel
theorem d_L_law_293 : decode b_L_law 293 = .ok (.iload 4, 2) := by decide +kernel
theorem d_L_law_295 : decode b_L_law 295 = .ok (.iconst 2, 1) := by decide +kernel
theorem d_L_law_296 : decode b_L_law 296 = .ok (.iadd, 1) := by decide +kernel
theorem d_L_law_297 : decode b_L_law 297 = .ok (.iaload, 1) := by decide +kernel
theorem d_L_law_298 : decode b_L_law 298 = .ok (.i2d, 1) := by decide +kernel
theorem d_L_law_299 : decode b_L_law 299 = .ok (.ldc2_w 73, 3) := by decide +kernel
theorem d_L_law_302 : decode b_L_law 302 = .ok (.dmul, 1) := by decide +kernel
theorem d_L_law_303 : decode b_L_law 303 = .ok (.invokevirtual 75, 3) := by decide +kernel
theorem d_L_law_306 : decode b_L_law 306 = .ok (.aload_n 2, 1) := by decide +kernel
theorem d_L_law_307 : decode b_L_law 307 = .ok (.aload_n 0, 1) := by decide +kernel
theorem d_L_law_308 : decode b_L_law 308 = .ok (.iload 4, 2) := by decide +kernel
theorem d_L_law_310 : decode b_L_law 310 = .ok (.iconst 1, 1) := by decide +kernel
theorem d_L_law_311 : decode b_L_law 311 = .ok (.iadd, 1) := by decide +kernel
theorem d_L_law_312 : decode b_L_law 312 = .ok (.iaload, 1) := by decide +kernel
theorem d_L_law_313 : decode b_L_law 313 = .ok (.aload_n 0, 1) := by decide +kernel
theorem d_L_law_314 : decode b_L_law 314 = .ok (.iload 4, 2) := by decide +kernel
theorem d_L_law_316 : decode b_L_law 316 = .ok (.iconst 2, 1) := by decide +kernel
theorem d_L_law_317 : decode b_L_law 317 = .ok (.iadd, 1) := by decide +kernel
theorem d_L_law_318 : decode b_L_law 318 = .ok (.iaload, 1) := by decide +kernel
theorem d_L_law_319 : decode b_L_law 319 = .ok (.i2d, 1) := by decide +kernel
theorem d_L_law_320 : decode b_L_law 320 = .ok (.ldc2_w 73, 3) := by decide +kernel
theorem d_L_law_323 : decode b_L_law 323 = .ok (.dmul, 1) := by decide +kernel
theorem d_L_law_324 : decode b_L_law 324 = .ok (.invokevirtual 79, 3) := by decide +kernel
theorem d_L_law_327 : decode b_L_law 327 = .ok (.if_icmp .eq 761, 3) := by decide +kernel
theorem d_L_law_330 : decode b_L_law 330 = .ok (.iconst 0, 1) := by decide +kernel
theorem d_L_law_331 : decode b_L_law 331 = .ok (.ireturn, 1) := by decide +kernel
theorem d_L_law_332 : decode b_L_law 332 = .ok (.aload_n 1, 1) := by decide +kernel
theorem d_L_law_333 : decode b_L_law 333 = .ok (.aload_n 0, 1) := by decide +kernel
theorem d_L_law_334 : decode b_L_law 334 = .ok (.iload 4, 2) := by decide +kernel
theorem d_L_law_336 : decode b_L_law 336 = .ok (.iconst 1, 1) := by decide +kernel
theorem d_L_law_337 : decode b_L_law 337 = .ok (.iadd, 1) := by decide +kernel
theorem d_L_law_338 : decode b_L_law 338 = .ok (.iaload, 1) := by decide +kernel
theorem d_L_law_339 : decode b_L_law 339 = .ok (.aload_n 0, 1) := by decide +kernel
theorem d_L_law_340 : decode b_L_law 340 = .ok (.iload 4, 2) := by decide +kernel
theorem d_L_law_342 : decode b_L_law 342 = .ok (.iconst 2, 1) := by decide +kernel
theorem d_L_law_343 : decode b_L_law 343 = .ok (.iadd, 1) := by decide +kernel
theorem d_L_law_344 : decode b_L_law 344 = .ok (.iaload, 1) := by decide +kernel
theorem d_L_law_345 : decode b_L_law 345 = .ok (.aload_n 0, 1) := by decide +kernel
theorem d_L_law_346 : decode b_L_law 346 = .ok (.iload 4, 2) := by decide +kernel
theorem d_L_law_348 : decode b_L_law 348 = .ok (.iconst 3, 1) := by decide +kernel
theorem d_L_law_349 : decode b_L_law 349 = .ok (.iadd, 1) := by decide +kernel
theorem d_L_law_350 : decode b_L_law 350 = .ok (.iaload, 1) := by decide +kernel
theorem d_L_law_351 : decode b_L_law 351 = .ok (.aload_n 0, 1) := by decide +kernel
theorem d_L_law_352 : decode b_L_law 352 = .ok (.iload 4, 2) := by decide +kernel
theorem d_L_law_354 : decode b_L_law 354 = .ok (.iconst 4, 1) := by decide +kernel
theorem d_L_law_355 : decode b_L_law 355 = .ok (.iadd, 1) := by decide +kernel
theorem d_L_law_356 : decode b_L_law 356 = .ok (.iaload, 1) := by decide +kernel
theorem d_L_law_357 : decode b_L_law 357 = .ok (.aload_n 3, 1) := by decide +kernel
theorem d_L_law_358 : decode b_L_law 358 = .ok (.invokestatic 80, 3) := by decide +kernel
theorem d_L_law_361 : decode b_L_law 361 = .ok (.istore 5, 2) := by decide +kernel
theorem d_L_law_363 : decode b_L_law 363 = .ok (.aload_n 2, 1) := by decide +kernel
theorem d_L_law_364 : decode b_L_law 364 = .ok (.aload_n 0, 1) := by decide +kernel
theorem d_L_law_365 : decode b_L_law 365 = .ok (.iload 4, 2) := by decide +kernel
theorem d_L_law_367 : decode b_L_law 367 = .ok (.iconst 1, 1) := by decide +kernel
theorem d_L_law_368 : decode b_L_law 368 = .ok (.iadd, 1) := by decide +kernel
theorem d_L_law_369 : decode b_L_law 369 = .ok (.iaload, 1) := by decide +kernel
theorem d_L_law_370 : decode b_L_law 370 = .ok (.aload_n 0, 1) := by decide +kernel
theorem d_L_law_371 : decode b_L_law 371 = .ok (.iload 4, 2) := by decide +kernel
theorem d_L_law_373 : decode b_L_law 373 = .ok (.iconst 2, 1) := by decide +kernel
theorem d_L_law_374 : decode b_L_law 374 = .ok (.iadd, 1) := by decide +kernel
theorem d_L_law_375 : decode b_L_law 375 = .ok (.iaload, 1) := by decide +kernel
theorem d_L_law_376 : decode b_L_law 376 = .ok (.aload_n 0, 1) := by decide +kernel
theorem d_L_law_377 : decode b_L_law 377 = .ok (.iload 4, 2) := by decide +kernel
theorem d_L_law_379 : decode b_L_law 379 = .ok (.iconst 3, 1) := by decide +kernel
theorem d_L_law_380 : decode b_L_law 380 = .ok (.iadd, 1) := by decide +kernel
theorem d_L_law_381 : decode b_L_law 381 = .ok (.iaload, 1) := by decide +kernel
theorem d_L_law_382 : decode b_L_law 382 = .ok (.aload_n 0, 1) := by decide +kernel
theorem d_L_law_383 : decode b_L_law 383 = .ok (.iload 4, 2) := by decide +kernel
theorem d_L_law_385 : decode b_L_law 385 = .ok (.iconst 4, 1) := by decide +kernel
theorem d_L_law_386 : decode b_L_law 386 = .ok (.iadd, 1) := by decide +kernel
theorem d_L_law_387 : decode b_L_law 387 = .ok (.iaload, 1) := by decide +kernel
theorem d_L_law_388 : decode b_L_law 388 = .ok (.invokevirtual 83, 3) := by decide +kernel
theorem d_L_law_391 : decode b_L_law 391 = .ok (.istore 6, 2) := by decide +kernel
theorem d_L_law_393 : decode b_L_law 393 = .ok (.aload_n 2, 1) := by decide +kernel
theorem d_L_law_394 : decode b_L_law 394 = .ok (.invokevirtual 62, 3) := by decide +kernel
theorem d_L_law_397 : decode b_L_law 397 = .ok (.iload 5, 2) := by decide +kernel
theorem d_L_law_399 : decode b_L_law 399 = .ok (.if_icmp .eq 5, 3) := by decide +kernel
theorem d_L_law_402 : decode b_L_law 402 = .ok (.iconst 0, 1) := by decide +kernel
theorem d_L_law_403 : decode b_L_law 403 = .ok (.ireturn, 1) := by decide +kernel
theorem d_L_law_404 : decode b_L_law 404 = .ok (.iload 5, 2) := by decide +kernel
theorem d_L_law_406 : decode b_L_law 406 = .ok (.ifCond .ne 15, 3) := by decide +kernel
theorem d_L_law_409 : decode b_L_law 409 = .ok (.aload_n 3, 1) := by decide +kernel
theorem d_L_law_410 : decode b_L_law 410 = .ok (.iconst 0, 1) := by decide +kernel
theorem d_L_law_411 : decode b_L_law 411 = .ok (.laload, 1) := by decide +kernel
theorem d_L_law_412 : decode b_L_law 412 = .ok (.iload 6, 2) := by decide +kernel
theorem d_L_law_414 : decode b_L_law 414 = .ok (.i2l, 1) := by decide +kernel
theorem d_L_law_415 : decode b_L_law 415 = .ok (.lcmp, 1) := by decide +kernel
theorem d_L_law_416 : decode b_L_law 416 = .ok (.ifCond .eq 5, 3) := by decide +kernel
theorem d_L_law_419 : decode b_L_law 419 = .ok (.iconst 0, 1) := by decide +kernel
theorem d_L_law_420 : decode b_L_law 420 = .ok (.ireturn, 1) := by decide +kernel
theorem d_L_law_421 : decode b_L_law 421 = .ok (.goto 667, 3) := by decide +kernel
theorem d_L_law_424 : decode b_L_law 424 = .ok (.aload_n 1, 1) := by decide +kernel
theorem d_L_law_425 : decode b_L_law 425 = .ok (.aload_n 0, 1) := by decide +kernel
theorem d_L_law_426 : decode b_L_law 426 = .ok (.iload 4, 2) := by decide +kernel
theorem d_L_law_428 : decode b_L_law 428 = .ok (.iconst 1, 1) := by decide +kernel
theorem d_L_law_429 : decode b_L_law 429 = .ok (.iadd, 1) := by decide +kernel
theorem d_L_law_430 : decode b_L_law 430 = .ok (.iaload, 1) := by decide +kernel
theorem d_L_law_431 : decode b_L_law 431 = .ok (.aload_n 0, 1) := by decide +kernel
theorem d_L_law_432 : decode b_L_law 432 = .ok (.iload 4, 2) := by decide +kernel
theorem d_L_law_434 : decode b_L_law 434 = .ok (.iconst 2, 1) := by decide +kernel
theorem d_L_law_435 : decode b_L_law 435 = .ok (.iadd, 1) := by decide +kernel
theorem d_L_law_436 : decode b_L_law 436 = .ok (.iaload, 1) := by decide +kernel
theorem d_L_law_437 : decode b_L_law 437 = .ok (.aload_n 0, 1) := by decide +kernel
theorem d_L_law_438 : decode b_L_law 438 = .ok (.iload 4, 2) := by decide +kernel
theorem d_L_law_440 : decode b_L_law 440 = .ok (.iconst 3, 1) := by decide +kernel
theorem d_L_law_441 : decode b_L_law 441 = .ok (.iadd, 1) := by decide +kernel
theorem d_L_law_442 : decode b_L_law 442 = .ok (.iaload, 1) := by decide +kernel
theorem d_L_law_443 : decode b_L_law 443 = .ok (.aload_n 0, 1) := by decide +kernel
theorem d_L_law_444 : decode b_L_law 444 = .ok (.iload 4, 2) := by decide +kernel
theorem d_L_law_446 : decode b_L_law 446 = .ok (.iconst 4, 1) := by decide +kernel
theorem d_L_law_447 : decode b_L_law 447 = .ok (.iadd, 1) := by decide +kernel
theorem d_L_law_448 : decode b_L_law 448 = .ok (.iaload, 1) := by decide +kernel
theorem d_L_law_449 : decode b_L_law 449 = .ok (.aload_n 3, 1) := by decide +kernel
theorem d_L_law_450 : decode b_L_law 450 = .ok (.invokestatic 84, 3) := by decide +kernel
theorem d_L_law_453 : decode b_L_law 453 = .ok (.istore 5, 2) := by decide +kernel
theorem d_L_law_455 : decode b_L_law 455 = .ok (.aload_n 2, 1) := by decide +kernel
theorem d_L_law_456 : decode b_L_law 456 = .ok (.aload_n 0, 1) := by decide +kernel
theorem d_L_law_457 : decode b_L_law 457 = .ok (.iload 4, 2) := by decide +kernel
theorem d_L_law_459 : decode b_L_law 459 = .ok (.iconst 1, 1) := by decide +kernel
theorem d_L_law_460 : decode b_L_law 460 = .ok (.iadd, 1) := by decide +kernel
theorem d_L_law_461 : decode b_L_law 461 = .ok (.iaload, 1) := by decide +kernel
theorem d_L_law_462 : decode b_L_law 462 = .ok (.aload_n 0, 1) := by decide +kernel
theorem d_L_law_463 : decode b_L_law 463 = .ok (.iload 4, 2) := by decide +kernel
theorem d_L_law_465 : decode b_L_law 465 = .ok (.iconst 2, 1) := by decide +kernel
theorem d_L_law_466 : decode b_L_law 466 = .ok (.iadd, 1) := by decide +kernel
theorem d_L_law_467 : decode b_L_law 467 = .ok (.iaload, 1) := by decide +kernel
theorem d_L_law_468 : decode b_L_law 468 = .ok (.aload_n 0, 1) := by decide +kernel
theorem d_L_law_469 : decode b_L_law 469 = .ok (.iload 4, 2) := by decide +kernel
theorem d_L_law_471 : decode b_L_law 471 = .ok (.iconst 3, 1) := by decide +kernel
theorem d_L_law_472 : decode b_L_law 472 = .ok (.iadd, 1) := by decide +kernel
theorem d_L_law_473 : decode b_L_law 473 = .ok (.iaload, 1) := by decide +kernel
theorem d_L_law_474 : decode b_L_law 474 = .ok (.aload_n 0, 1) := by decide +kernel
theorem d_L_law_475 : decode b_L_law 475 = .ok (.iload 4, 2) := by decide +kernel
theorem d_L_law_477 : decode b_L_law 477 = .ok (.iconst 4, 1) := by decide +kernel
theorem d_L_law_478 : decode b_L_law 478 = .ok (.iadd, 1) := by decide +kernel
theorem d_L_law_479 : decode b_L_law 479 = .ok (.iaload, 1) := by decide +kernel
theorem d_L_law_480 : decode b_L_law 480 = .ok (.invokevirtual 86, 3) := by decide +kernel
theorem d_L_law_483 : decode b_L_law 483 = .ok (.istore 6, 2) := by decide +kernel
theorem d_L_law_485 : decode b_L_law 485 = .ok (.aload_n 2, 1) := by decide +kernel
theorem d_L_law_486 : decode b_L_law 486 = .ok (.invokevirtual 62, 3) := by decide +kernel
theorem d_L_law_489 : decode b_L_law 489 = .ok (.iload 5, 2) := by decide +kernel
theorem d_L_law_491 : decode b_L_law 491 = .ok (.if_icmp .eq 5, 3) := by decide +kernel
theorem d_L_law_494 : decode b_L_law 494 = .ok (.iconst 0, 1) := by decide +kernel
theorem d_L_law_495 : decode b_L_law 495 = .ok (.ireturn, 1) := by decide +kernel
theorem d_L_law_496 : decode b_L_law 496 = .ok (.iload 5, 2) := by decide +kernel
theorem d_L_law_498 : decode b_L_law 498 = .ok (.ifCond .ne 15, 3) := by decide +kernel
theorem d_L_law_501 : decode b_L_law 501 = .ok (.aload_n 3, 1) := by decide +kernel
theorem d_L_law_502 : decode b_L_law 502 = .ok (.iconst 0, 1) := by decide +kernel
theorem d_L_law_503 : decode b_L_law 503 = .ok (.laload, 1) := by decide +kernel
theorem d_L_law_504 : decode b_L_law 504 = .ok (.iload 6, 2) := by decide +kernel
theorem d_L_law_506 : decode b_L_law 506 = .ok (.i2l, 1) := by decide +kernel
theorem d_L_law_507 : decode b_L_law 507 = .ok (.lcmp, 1) := by decide +kernel
theorem d_L_law_508 : decode b_L_law 508 = .ok (.ifCond .eq 5, 3) := by decide +kernel
theorem d_L_law_511 : decode b_L_law 511 = .ok (.iconst 0, 1) := by decide +kernel
theorem d_L_law_512 : decode b_L_law 512 = .ok (.ireturn, 1) := by decide +kernel
theorem d_L_law_513 : decode b_L_law 513 = .ok (.goto 575, 3) := by decide +kernel
theorem d_L_law_516 : decode b_L_law 516 = .ok (.aload_n 1, 1) := by decide +kernel
theorem d_L_law_517 : decode b_L_law 517 = .ok (.aload_n 0, 1) := by decide +kernel
theorem d_L_law_518 : decode b_L_law 518 = .ok (.iload 4, 2) := by decide +kernel
theorem d_L_law_520 : decode b_L_law 520 = .ok (.iconst 1, 1) := by decide +kernel
theorem d_L_law_521 : decode b_L_law 521 = .ok (.iadd, 1) := by decide +kernel
theorem d_L_law_522 : decode b_L_law 522 = .ok (.iaload, 1) := by decide +kernel
theorem d_L_law_523 : decode b_L_law 523 = .ok (.aload_n 0, 1) := by decide +kernel
theorem d_L_law_524 : decode b_L_law 524 = .ok (.iload 4, 2) := by decide +kernel
theorem d_L_law_526 : decode b_L_law 526 = .ok (.iconst 2, 1) := by decide +kernel
theorem d_L_law_527 : decode b_L_law 527 = .ok (.iadd, 1) := by decide +kernel
theorem d_L_law_528 : decode b_L_law 528 = .ok (.iaload, 1) := by decide +kernel
theorem d_L_law_529 : decode b_L_law 529 = .ok (.aload_n 0, 1) := by decide +kernel
theorem d_L_law_530 : decode b_L_law 530 = .ok (.iload 4, 2) := by decide +kernel
theorem d_L_law_532 : decode b_L_law 532 = .ok (.iconst 3, 1) := by decide +kernel
theorem d_L_law_533 : decode b_L_law 533 = .ok (.iadd, 1) := by decide +kernel
theorem d_L_law_534 : decode b_L_law 534 = .ok (.iaload, 1) := by decide +kernel
theorem d_L_law_535 : decode b_L_law 535 = .ok (.aload_n 3, 1) := by decide +kernel
theorem d_L_law_536 : decode b_L_law 536 = .ok (.invokestatic 87, 3) := by decide +kernel
theorem d_L_law_539 : decode b_L_law 539 = .ok (.istore 5, 2) := by decide +kernel
theorem d_L_law_541 : decode b_L_law 541 = .ok (.aload_n 2, 1) := by decide +kernel
theorem d_L_law_542 : decode b_L_law 542 = .ok (.aload_n 0, 1) := by decide +kernel
theorem d_L_law_543 : decode b_L_law 543 = .ok (.iload 4, 2) := by decide +kernel
theorem d_L_law_545 : decode b_L_law 545 = .ok (.iconst 1, 1) := by decide +kernel
theorem d_L_law_546 : decode b_L_law 546 = .ok (.iadd, 1) := by decide +kernel
theorem d_L_law_547 : decode b_L_law 547 = .ok (.iaload, 1) := by decide +kernel
theorem d_L_law_548 : decode b_L_law 548 = .ok (.aload_n 0, 1) := by decide +kernel
theorem d_L_law_549 : decode b_L_law 549 = .ok (.iload 4, 2) := by decide +kernel
theorem d_L_law_551 : decode b_L_law 551 = .ok (.iconst 2, 1) := by decide +kernel
theorem d_L_law_552 : decode b_L_law 552 = .ok (.iadd, 1) := by decide +kernel
theorem d_L_law_553 : decode b_L_law 553 = .ok (.iaload, 1) := by decide +kernel
theorem d_L_law_554 : decode b_L_law 554 = .ok (.aload_n 0, 1) := by decide +kernel
theorem d_L_law_555 : decode b_L_law 555 = .ok (.iload 4, 2) := by decide +kernel
theorem d_L_law_557 : decode b_L_law 557 = .ok (.iconst 3, 1) := by decide +kernel
theorem d_L_law_558 : decode b_L_law 558 = .ok (.iadd, 1) := by decide +kernel
theorem d_L_law_559 : decode b_L_law 559 = .ok (.iaload, 1) := by decide +kernel
theorem d_L_law_560 : decode b_L_law 560 = .ok (.invokevirtual 90, 3) := by decide +kernel
theorem d_L_law_563 : decode b_L_law 563 = .ok (.istore 6, 2) := by decide +kernel
theorem d_L_law_565 : decode b_L_law 565 = .ok (.aload_n 2, 1) := by decide +kernel
theorem d_L_law_566 : decode b_L_law 566 = .ok (.invokevirtual 62, 3) := by decide +kernel
theorem d_L_law_569 : decode b_L_law 569 = .ok (.iload 5, 2) := by decide +kernel
theorem d_L_law_571 : decode b_L_law 571 = .ok (.if_icmp .eq 5, 3) := by decide +kernel
theorem d_L_law_574 : decode b_L_law 574 = .ok (.iconst 0, 1) := by decide +kernel
theorem d_L_law_575 : decode b_L_law 575 = .ok (.ireturn, 1) := by decide +kernel
theorem d_L_law_576 : decode b_L_law 576 = .ok (.iload 5, 2) := by decide +kernel
theorem d_L_law_578 : decode b_L_law 578 = .ok (.ifCond .ne 15, 3) := by decide +kernel
theorem d_L_law_581 : decode b_L_law 581 = .ok (.aload_n 3, 1) := by decide +kernel
theorem d_L_law_582 : decode b_L_law 582 = .ok (.iconst 0, 1) := by decide +kernel
theorem d_L_law_583 : decode b_L_law 583 = .ok (.laload, 1) := by decide +kernel
theorem d_L_law_584 : decode b_L_law 584 = .ok (.iload 6, 2) := by decide +kernel
theorem d_L_law_586 : decode b_L_law 586 = .ok (.i2l, 1) := by decide +kernel
theorem d_L_law_587 : decode b_L_law 587 = .ok (.lcmp, 1) := by decide +kernel
theorem d_L_law_588 : decode b_L_law 588 = .ok (.ifCond .eq 5, 3) := by decide +kernel
theorem d_L_law_591 : decode b_L_law 591 = .ok (.iconst 0, 1) := by decide +kernel
theorem d_L_law_592 : decode b_L_law 592 = .ok (.ireturn, 1) := by decide +kernel
theorem d_L_law_593 : decode b_L_law 593 = .ok (.goto 495, 3) := by decide +kernel
theorem d_L_law_596 : decode b_L_law 596 = .ok (.aload_n 1, 1) := by decide +kernel
theorem d_L_law_597 : decode b_L_law 597 = .ok (.aload_n 0, 1) := by decide +kernel
theorem d_L_law_598 : decode b_L_law 598 = .ok (.iload 4, 2) := by decide +kernel
theorem d_L_law_600 : decode b_L_law 600 = .ok (.iconst 1, 1) := by decide +kernel
theorem d_L_law_601 : decode b_L_law 601 = .ok (.iadd, 1) := by decide +kernel
theorem d_L_law_602 : decode b_L_law 602 = .ok (.iaload, 1) := by decide +kernel
theorem d_L_law_603 : decode b_L_law 603 = .ok (.aload_n 0, 1) := by decide +kernel
theorem d_L_law_604 : decode b_L_law 604 = .ok (.iload 4, 2) := by decide +kernel
theorem d_L_law_606 : decode b_L_law 606 = .ok (.iconst 2, 1) := by decide +kernel
theorem d_L_law_607 : decode b_L_law 607 = .ok (.iadd, 1) := by decide +kernel
theorem d_L_law_608 : decode b_L_law 608 = .ok (.iaload, 1) := by decide +kernel
theorem d_L_law_609 : decode b_L_law 609 = .ok (.aload_n 0, 1) := by decide +kernel
theorem d_L_law_610 : decode b_L_law 610 = .ok (.iload 4, 2) := by decide +kernel
theorem d_L_law_612 : decode b_L_law 612 = .ok (.iconst 3, 1) := by decide +kernel
theorem d_L_law_613 : decode b_L_law 613 = .ok (.iadd, 1) := by decide +kernel
theorem d_L_law_614 : decode b_L_law 614 = .ok (.iaload, 1) := by decide +kernel
theorem d_L_law_615 : decode b_L_law 615 = .ok (.aload_n 3, 1) := by decide +kernel
theorem d_L_law_616 : decode b_L_law 616 = .ok (.invokestatic 91, 3) := by decide +kernel
theorem d_L_law_619 : decode b_L_law 619 = .ok (.istore 5, 2) := by decide +kernel
theorem d_L_law_621 : decode b_L_law 621 = .ok (.aload_n 2, 1) := by decide +kernel
theorem d_L_law_622 : decode b_L_law 622 = .ok (.aload_n 0, 1) := by decide +kernel
theorem d_L_law_623 : decode b_L_law 623 = .ok (.iload 4, 2) := by decide +kernel
theorem d_L_law_625 : decode b_L_law 625 = .ok (.iconst 1, 1) := by decide +kernel
theorem d_L_law_626 : decode b_L_law 626 = .ok (.iadd, 1) := by decide +kernel
theorem d_L_law_627 : decode b_L_law 627 = .ok (.iaload, 1) := by decide +kernel
theorem d_L_law_628 : decode b_L_law 628 = .ok (.aload_n 0, 1) := by decide +kernel
theorem d_L_law_629 : decode b_L_law 629 = .ok (.iload 4, 2) := by decide +kernel
theorem d_L_law_631 : decode b_L_law 631 = .ok (.iconst 2, 1) := by decide +kernel
theorem d_L_law_632 : decode b_L_law 632 = .ok (.iadd, 1) := by decide +kernel
theorem d_L_law_633 : decode b_L_law 633 = .ok (.iaload, 1) := by decide +kernel
theorem d_L_law_634 : decode b_L_law 634 = .ok (.aload_n 0, 1) := by decide +kernel
theorem d_L_law_635 : decode b_L_law 635 = .ok (.iload 4, 2) := by decide +kernel
theorem d_L_law_637 : decode b_L_law 637 = .ok (.iconst 3, 1) := by decide +kernel
theorem d_L_law_638 : decode b_L_law 638 = .ok (.iadd, 1) := by decide +kernel
theorem d_L_law_639 : decode b_L_law 639 = .ok (.iaload, 1) := by decide +kernel
theorem d_L_law_640 : decode b_L_law 640 = .ok (.invokevirtual 93, 3) := by decide +kernel
theorem d_L_law_643 : decode b_L_law 643 = .ok (.istore 6, 2) := by decide +kernel
theorem d_L_law_645 : decode b_L_law 645 = .ok (.aload_n 2, 1) := by decide +kernel
theorem d_L_law_646 : decode b_L_law 646 = .ok (.invokevirtual 62, 3) := by decide +kernel
theorem d_L_law_649 : decode b_L_law 649 = .ok (.iload 5, 2) := by decide +kernel
theorem d_L_law_651 : decode b_L_law 651 = .ok (.if_icmp .eq 5, 3) := by decide +kernel
theorem d_L_law_654 : decode b_L_law 654 = .ok (.iconst 0, 1) := by decide +kernel
theorem d_L_law_655 : decode b_L_law 655 = .ok (.ireturn, 1) := by decide +kernel
theorem d_L_law_656 : decode b_L_law 656 = .ok (.iload 5, 2) := by decide +kernel
theorem d_L_law_658 : decode b_L_law 658 = .ok (.ifCond .ne 15, 3) := by decide +kernel
theorem d_L_law_661 : decode b_L_law 661 = .ok (.aload_n 3, 1) := by decide +kernel
theorem d_L_law_662 : decode b_L_law 662 = .ok (.iconst 0, 1) := by decide +kernel
theorem d_L_law_663 : decode b_L_law 663 = .ok (.laload, 1) := by decide +kernel
theorem d_L_law_664 : decode b_L_law 664 = .ok (.iload 6, 2) := by decide +kernel
theorem d_L_law_666 : decode b_L_law 666 = .ok (.i2l, 1) := by decide +kernel
theorem d_L_law_667 : decode b_L_law 667 = .ok (.lcmp, 1) := by decide +kernel
theorem d_L_law_668 : decode b_L_law 668 = .ok (.ifCond .eq 5, 3) := by decide +kernel
theorem d_L_law_671 : decode b_L_law 671 = .ok (.iconst 0, 1) := by decide +kernel
theorem d_L_law_672 : decode b_L_law 672 = .ok (.ireturn, 1) := by decide +kernel
theorem d_L_law_673 : decode b_L_law 673 = .ok (.goto 415, 3) := by decide +kernel
theorem d_L_law_676 : decode b_L_law 676 = .ok (.aload_n 1, 1) := by decide +kernel
theorem d_L_law_677 : decode b_L_law 677 = .ok (.aload_n 0, 1) := by decide +kernel
theorem d_L_law_678 : decode b_L_law 678 = .ok (.iload 4, 2) := by decide +kernel
theorem d_L_law_680 : decode b_L_law 680 = .ok (.iconst 1, 1) := by decide +kernel
theorem d_L_law_681 : decode b_L_law 681 = .ok (.iadd, 1) := by decide +kernel
theorem d_L_law_682 : decode b_L_law 682 = .ok (.iaload, 1) := by decide +kernel
theorem d_L_law_683 : decode b_L_law 683 = .ok (.aload_n 0, 1) := by decide +kernel
theorem d_L_law_684 : decode b_L_law 684 = .ok (.iload 4, 2) := by decide +kernel
theorem d_L_law_686 : decode b_L_law 686 = .ok (.iconst 2, 1) := by decide +kernel
theorem d_L_law_687 : decode b_L_law 687 = .ok (.iadd, 1) := by decide +kernel
theorem d_L_law_688 : decode b_L_law 688 = .ok (.iaload, 1) := by decide +kernel
theorem d_L_law_689 : decode b_L_law 689 = .ok (.aload_n 3, 1) := by decide +kernel
theorem d_L_law_690 : decode b_L_law 690 = .ok (.invokestatic 94, 3) := by decide +kernel
theorem d_L_law_693 : decode b_L_law 693 = .ok (.istore 5, 2) := by decide +kernel
theorem d_L_law_695 : decode b_L_law 695 = .ok (.aload_n 2, 1) := by decide +kernel
theorem d_L_law_696 : decode b_L_law 696 = .ok (.aload_n 0, 1) := by decide +kernel
theorem d_L_law_697 : decode b_L_law 697 = .ok (.iload 4, 2) := by decide +kernel
theorem d_L_law_699 : decode b_L_law 699 = .ok (.iconst 1, 1) := by decide +kernel
theorem d_L_law_700 : decode b_L_law 700 = .ok (.iadd, 1) := by decide +kernel
theorem d_L_law_701 : decode b_L_law 701 = .ok (.iaload, 1) := by decide +kernel
theorem d_L_law_702 : decode b_L_law 702 = .ok (.aload_n 0, 1) := by decide +kernel
theorem d_L_law_703 : decode b_L_law 703 = .ok (.iload 4, 2) := by decide +kernel
theorem d_L_law_705 : decode b_L_law 705 = .ok (.iconst 2, 1) := by decide +kernel
theorem d_L_law_706 : decode b_L_law 706 = .ok (.iadd, 1) := by decide +kernel
theorem d_L_law_707 : decode b_L_law 707 = .ok (.iaload, 1) := by decide +kernel
theorem d_L_law_708 : decode b_L_law 708 = .ok (.invokevirtual 97, 3) := by decide +kernel
theorem d_L_law_711 : decode b_L_law 711 = .ok (.istore 6, 2) := by decide +kernel
theorem d_L_law_713 : decode b_L_law 713 = .ok (.aload_n 2, 1) := by decide +kernel
theorem d_L_law_714 : decode b_L_law 714 = .ok (.invokevirtual 62, 3) := by decide +kernel
theorem d_L_law_717 : decode b_L_law 717 = .ok (.iload 5, 2) := by decide +kernel
theorem d_L_law_719 : decode b_L_law 719 = .ok (.if_icmp .eq 5, 3) := by decide +kernel
theorem d_L_law_722 : decode b_L_law 722 = .ok (.iconst 0, 1) := by decide +kernel
theorem d_L_law_723 : decode b_L_law 723 = .ok (.ireturn, 1) := by decide +kernel
theorem d_L_law_724 : decode b_L_law 724 = .ok (.iload 5, 2) := by decide +kernel
theorem d_L_law_726 : decode b_L_law 726 = .ok (.ifCond .ne 15, 3) := by decide +kernel
theorem d_L_law_729 : decode b_L_law 729 = .ok (.aload_n 3, 1) := by decide +kernel
theorem d_L_law_730 : decode b_L_law 730 = .ok (.iconst 0, 1) := by decide +kernel
theorem d_L_law_731 : decode b_L_law 731 = .ok (.laload, 1) := by decide +kernel
theorem d_L_law_732 : decode b_L_law 732 = .ok (.iload 6, 2) := by decide +kernel
theorem d_L_law_734 : decode b_L_law 734 = .ok (.i2l, 1) := by decide +kernel
theorem d_L_law_735 : decode b_L_law 735 = .ok (.lcmp, 1) := by decide +kernel
theorem d_L_law_736 : decode b_L_law 736 = .ok (.ifCond .eq 5, 3) := by decide +kernel
theorem d_L_law_739 : decode b_L_law 739 = .ok (.iconst 0, 1) := by decide +kernel
theorem d_L_law_740 : decode b_L_law 740 = .ok (.ireturn, 1) := by decide +kernel
theorem d_L_law_741 : decode b_L_law 741 = .ok (.goto 347, 3) := by decide +kernel
theorem d_L_law_744 : decode b_L_law 744 = .ok (.aload_n 1, 1) := by decide +kernel
theorem d_L_law_745 : decode b_L_law 745 = .ok (.aload_n 0, 1) := by decide +kernel
theorem d_L_law_746 : decode b_L_law 746 = .ok (.iload 4, 2) := by decide +kernel
theorem d_L_law_748 : decode b_L_law 748 = .ok (.iconst 1, 1) := by decide +kernel
theorem d_L_law_749 : decode b_L_law 749 = .ok (.iadd, 1) := by decide +kernel
theorem d_L_law_750 : decode b_L_law 750 = .ok (.iaload, 1) := by decide +kernel
theorem d_L_law_751 : decode b_L_law 751 = .ok (.aload_n 0, 1) := by decide +kernel
theorem d_L_law_752 : decode b_L_law 752 = .ok (.iload 4, 2) := by decide +kernel
theorem d_L_law_754 : decode b_L_law 754 = .ok (.iconst 2, 1) := by decide +kernel
theorem d_L_law_755 : decode b_L_law 755 = .ok (.iadd, 1) := by decide +kernel
theorem d_L_law_756 : decode b_L_law 756 = .ok (.iaload, 1) := by decide +kernel
theorem d_L_law_757 : decode b_L_law 757 = .ok (.invokevirtual 98, 3) := by decide +kernel
theorem d_L_law_760 : decode b_L_law 760 = .ok (.aload_n 2, 1) := by decide +kernel
theorem d_L_law_761 : decode b_L_law 761 = .ok (.aload_n 0, 1) := by decide +kernel
theorem d_L_law_762 : decode b_L_law 762 = .ok (.iload 4, 2) := by decide +kernel
theorem d_L_law_764 : decode b_L_law 764 = .ok (.iconst 1, 1) := by decide +kernel
theorem d_L_law_765 : decode b_L_law 765 = .ok (.iadd, 1) := by decide +kernel
theorem d_L_law_766 : decode b_L_law 766 = .ok (.iaload, 1) := by decide +kernel
theorem d_L_law_767 : decode b_L_law 767 = .ok (.aload_n 0, 1) := by decide +kernel
theorem d_L_law_768 : decode b_L_law 768 = .ok (.iload 4, 2) := by decide +kernel
theorem d_L_law_770 : decode b_L_law 770 = .ok (.iconst 2, 1) := by decide +kernel
theorem d_L_law_771 : decode b_L_law 771 = .ok (.iadd, 1) := by decide +kernel
theorem d_L_law_772 : decode b_L_law 772 = .ok (.iaload, 1) := by decide +kernel
theorem d_L_law_773 : decode b_L_law 773 = .ok (.invokevirtual 101, 3) := by decide +kernel
theorem d_L_law_776 : decode b_L_law 776 = .ok (.if_icmp .eq 312, 3) := by decide +kernel
theorem d_L_law_779 : decode b_L_law 779 = .ok (.iconst 0, 1) := by decide +kernel
theorem d_L_law_780 : decode b_L_law 780 = .ok (.ireturn, 1) := by decide +kernel
theorem d_L_law_781 : decode b_L_law 781 = .ok (.aload_n 1, 1) := by decide +kernel
theorem d_L_law_782 : decode b_L_law 782 = .ok (.aload_n 0, 1) := by decide +kernel
theorem d_L_law_783 : decode b_L_law 783 = .ok (.iload 4, 2) := by decide +kernel
theorem d_L_law_785 : decode b_L_law 785 = .ok (.iconst 1, 1) := by decide +kernel
theorem d_L_law_786 : decode b_L_law 786 = .ok (.iadd, 1) := by decide +kernel
theorem d_L_law_787 : decode b_L_law 787 = .ok (.iaload, 1) := by decide +kernel
theorem d_L_law_788 : decode b_L_law 788 = .ok (.invokevirtual 102, 3) := by decide +kernel
theorem d_L_law_791 : decode b_L_law 791 = .ok (.aload_n 2, 1) := by decide +kernel
theorem d_L_law_792 : decode b_L_law 792 = .ok (.aload_n 0, 1) := by decide +kernel
theorem d_L_law_793 : decode b_L_law 793 = .ok (.iload 4, 2) := by decide +kernel
theorem d_L_law_795 : decode b_L_law 795 = .ok (.iconst 1, 1) := by decide +kernel
theorem d_L_law_796 : decode b_L_law 796 = .ok (.iadd, 1) := by decide +kernel
theorem d_L_law_797 : decode b_L_law 797 = .ok (.iaload, 1) := by decide +kernel
theorem d_L_law_798 : decode b_L_law 798 = .ok (.invokevirtual 106, 3) := by decide +kernel
theorem d_L_law_801 : decode b_L_law 801 = .ok (.lcmp, 1) := by decide +kernel
theorem d_L_law_802 : decode b_L_law 802 = .ok (.ifCond .eq 286, 3) := by decide +kernel
theorem d_L_law_805 : decode b_L_law 805 = .ok (.iconst 0, 1) := by decide +kernel
theorem d_L_law_806 : decode b_L_law 806 = .ok (.ireturn, 1) := by decide +kernel
theorem d_L_law_807 : decode b_L_law 807 = .ok (.aload_n 1, 1) := by decide +kernel
theorem d_L_law_808 : decode b_L_law 808 = .ok (.aload_n 0, 1) := by decide +kernel
theorem d_L_law_809 : decode b_L_law 809 = .ok (.iload 4, 2) := by decide +kernel
theorem d_L_law_811 : decode b_L_law 811 = .ok (.iconst 1, 1) := by decide +kernel
theorem d_L_law_812 : decode b_L_law 812 = .ok (.iadd, 1) := by decide +kernel
theorem d_L_law_813 : decode b_L_law 813 = .ok (.iaload, 1) := by decide +kernel
theorem d_L_law_814 : decode b_L_law 814 = .ok (.aload_n 3, 1) := by decide +kernel
theorem d_L_law_815 : decode b_L_law 815 = .ok (.invokestatic 107, 3) := by decide +kernel
theorem d_L_law_818 : decode b_L_law 818 = .ok (.istore 5, 2) := by decide +kernel
theorem d_L_law_820 : decode b_L_law 820 = .ok (.aload_n 2, 1) := by decide +kernel
theorem d_L_law_821 : decode b_L_law 821 = .ok (.aload_n 0, 1) := by decide +kernel
theorem d_L_law_822 : decode b_L_law 822 = .ok (.iload 4, 2) := by decide +kernel
theorem d_L_law_824 : decode b_L_law 824 = .ok (.iconst 1, 1) := by decide +kernel
theorem d_L_law_825 : decode b_L_law 825 = .ok (.iadd, 1) := by decide +kernel
theorem d_L_law_826 : decode b_L_law 826 = .ok (.iaload, 1) := by decide +kernel
theorem d_L_law_827 : decode b_L_law 827 = .ok (.invokevirtual 109, 3) := by decide +kernel
theorem d_L_law_830 : decode b_L_law 830 = .ok (.istore 6, 2) := by decide +kernel
theorem d_L_law_832 : decode b_L_law 832 = .ok (.aload_n 2, 1) := by decide +kernel
theorem d_L_law_833 : decode b_L_law 833 = .ok (.invokevirtual 62, 3) := by decide +kernel
theorem d_L_law_836 : decode b_L_law 836 = .ok (.iload 5, 2) := by decide +kernel
theorem d_L_law_838 : decode b_L_law 838 = .ok (.if_icmp .eq 5, 3) := by decide +kernel
theorem d_L_law_841 : decode b_L_law 841 = .ok (.iconst 0, 1) := by decide +kernel
theorem d_L_law_842 : decode b_L_law 842 = .ok (.ireturn, 1) := by decide +kernel
theorem d_L_law_843 : decode b_L_law 843 = .ok (.iload 5, 2) := by decide +kernel
theorem d_L_law_845 : decode b_L_law 845 = .ok (.ifCond .ne 15, 3) := by decide +kernel
theorem d_L_law_848 : decode b_L_law 848 = .ok (.aload_n 3, 1) := by decide +kernel
theorem d_L_law_849 : decode b_L_law 849 = .ok (.iconst 0, 1) := by decide +kernel
theorem d_L_law_850 : decode b_L_law 850 = .ok (.laload, 1) := by decide +kernel
theorem d_L_law_851 : decode b_L_law 851 = .ok (.iload 6, 2) := by decide +kernel
theorem d_L_law_853 : decode b_L_law 853 = .ok (.i2l, 1) := by decide +kernel
theorem d_L_law_854 : decode b_L_law 854 = .ok (.lcmp, 1) := by decide +kernel
theorem d_L_law_855 : decode b_L_law 855 = .ok (.ifCond .eq 5, 3) := by decide +kernel
theorem d_L_law_858 : decode b_L_law 858 = .ok (.iconst 0, 1) := by decide +kernel
theorem d_L_law_859 : decode b_L_law 859 = .ok (.ireturn, 1) := by decide +kernel
theorem d_L_law_860 : decode b_L_law 860 = .ok (.goto 228, 3) := by decide +kernel
theorem d_L_law_863 : decode b_L_law 863 = .ok (.aload_n 1, 1) := by decide +kernel
theorem d_L_law_864 : decode b_L_law 864 = .ok (.aload_n 0, 1) := by decide +kernel
theorem d_L_law_865 : decode b_L_law 865 = .ok (.iload 4, 2) := by decide +kernel
theorem d_L_law_867 : decode b_L_law 867 = .ok (.iconst 1, 1) := by decide +kernel
theorem d_L_law_868 : decode b_L_law 868 = .ok (.iadd, 1) := by decide +kernel
theorem d_L_law_869 : decode b_L_law 869 = .ok (.iaload, 1) := by decide +kernel
theorem d_L_law_870 : decode b_L_law 870 = .ok (.aload_n 3, 1) := by decide +kernel
theorem d_L_law_871 : decode b_L_law 871 = .ok (.invokestatic 110, 3) := by decide +kernel
theorem d_L_law_874 : decode b_L_law 874 = .ok (.istore 5, 2) := by decide +kernel
theorem d_L_law_876 : decode b_L_law 876 = .ok (.aload_n 2, 1) := by decide +kernel
theorem d_L_law_877 : decode b_L_law 877 = .ok (.aload_n 0, 1) := by decide +kernel
theorem d_L_law_878 : decode b_L_law 878 = .ok (.iload 4, 2) := by decide +kernel
theorem d_L_law_880 : decode b_L_law 880 = .ok (.iconst 1, 1) := by decide +kernel
theorem d_L_law_881 : decode b_L_law 881 = .ok (.iadd, 1) := by decide +kernel
theorem d_L_law_882 : decode b_L_law 882 = .ok (.iaload, 1) := by decide +kernel
theorem d_L_law_883 : decode b_L_law 883 = .ok (.invokevirtual 112, 3) := by decide +kernel
theorem d_L_law_886 : decode b_L_law 886 = .ok (.istore 6, 2) := by decide +kernel
theorem d_L_law_888 : decode b_L_law 888 = .ok (.aload_n 2, 1) := by decide +kernel
theorem d_L_law_889 : decode b_L_law 889 = .ok (.invokevirtual 62, 3) := by decide +kernel
theorem d_L_law_892 : decode b_L_law 892 = .ok (.iload 5, 2) := by decide +kernel
theorem d_L_law_894 : decode b_L_law 894 = .ok (.if_icmp .eq 5, 3) := by decide +kernel
theorem d_L_law_897 : decode b_L_law 897 = .ok (.iconst 0, 1) := by decide +kernel
theorem d_L_law_898 : decode b_L_law 898 = .ok (.ireturn, 1) := by decide +kernel
theorem d_L_law_899 : decode b_L_law 899 = .ok (.iload 5, 2) := by decide +kernel
theorem d_L_law_901 : decode b_L_law 901 = .ok (.ifCond .ne 15, 3) := by decide +kernel
theorem d_L_law_904 : decode b_L_law 904 = .ok (.aload_n 3, 1) := by decide +kernel
theorem d_L_law_905 : decode b_L_law 905 = .ok (.iconst 0, 1) := by decide +kernel
theorem d_L_law_906 : decode b_L_law 906 = .ok (.laload, 1) := by decide +kernel
theorem d_L_law_907 : decode b_L_law 907 = .ok (.iload 6, 2) := by decide +kernel
theorem d_L_law_909 : decode b_L_law 909 = .ok (.i2l, 1) := by decide +kernel
theorem d_L_law_910 : decode b_L_law 910 = .ok (.lcmp, 1) := by decide +kernel
theorem d_L_law_911 : decode b_L_law 911 = .ok (.ifCond .eq 5, 3) := by decide +kernel
theorem d_L_law_914 : decode b_L_law 914 = .ok (.iconst 0, 1) := by decide +kernel
theorem d_L_law_915 : decode b_L_law 915 = .ok (.ireturn, 1) := by decide +kernel
theorem d_L_law_916 : decode b_L_law 916 = .ok (.goto 172, 3) := by decide +kernel
theorem d_L_law_919 : decode b_L_law 919 = .ok (.aload_n 1, 1) := by decide +kernel
theorem d_L_law_920 : decode b_L_law 920 = .ok (.aload_n 0, 1) := by decide +kernel
theorem d_L_law_921 : decode b_L_law 921 = .ok (.iload 4, 2) := by decide +kernel
theorem d_L_law_923 : decode b_L_law 923 = .ok (.iconst 1, 1) := by decide +kernel
theorem d_L_law_924 : decode b_L_law 924 = .ok (.iadd, 1) := by decide +kernel
theorem d_L_law_925 : decode b_L_law 925 = .ok (.iaload, 1) := by decide +kernel
theorem d_L_law_926 : decode b_L_law 926 = .ok (.invokevirtual 113, 3) := by decide +kernel
theorem d_L_law_929 : decode b_L_law 929 = .ok (.aload_n 2, 1) := by decide +kernel
theorem d_L_law_930 : decode b_L_law 930 = .ok (.aload_n 0, 1) := by decide +kernel
theorem d_L_law_931 : decode b_L_law 931 = .ok (.iload 4, 2) := by decide +kernel
theorem d_L_law_933 : decode b_L_law 933 = .ok (.iconst 1, 1) := by decide +kernel
theorem d_L_law_934 : decode b_L_law 934 = .ok (.iadd, 1) := by decide +kernel
theorem d_L_law_935 : decode b_L_law 935 = .ok (.iaload, 1) := by decide +kernel
theorem d_L_law_936 : decode b_L_law 936 = .ok (.invokevirtual 116, 3) := by decide +kernel
theorem d_L_law_939 : decode b_L_law 939 = .ok (.if_icmp .eq 149, 3) := by decide +kernel
theorem d_L_law_942 : decode b_L_law 942 = .ok (.iconst 0, 1) := by decide +kernel
theorem d_L_law_943 : decode b_L_law 943 = .ok (.ireturn, 1) := by decide +kernel
theorem d_L_law_944 : decode b_L_law 944 = .ok (.aload_n 1, 1) := by decide +kernel
theorem d_L_law_945 : decode b_L_law 945 = .ok (.aload_n 0, 1) := by decide +kernel
theorem d_L_law_946 : decode b_L_law 946 = .ok (.iload 4, 2) := by decide +kernel
theorem d_L_law_948 : decode b_L_law 948 = .ok (.iconst 1, 1) := by decide +kernel
theorem d_L_law_949 : decode b_L_law 949 = .ok (.iadd, 1) := by decide +kernel
theorem d_L_law_950 : decode b_L_law 950 = .ok (.iaload, 1) := by decide +kernel
theorem d_L_law_951 : decode b_L_law 951 = .ok (.invokevirtual 117, 3) := by decide +kernel
theorem d_L_law_954 : decode b_L_law 954 = .ok (.aload_n 2, 1) := by decide +kernel
theorem d_L_law_955 : decode b_L_law 955 = .ok (.aload_n 0, 1) := by decide +kernel
theorem d_L_law_956 : decode b_L_law 956 = .ok (.iload 4, 2) := by decide +kernel
theorem d_L_law_958 : decode b_L_law 958 = .ok (.iconst 1, 1) := by decide +kernel
theorem d_L_law_959 : decode b_L_law 959 = .ok (.iadd, 1) := by decide +kernel
theorem d_L_law_960 : decode b_L_law 960 = .ok (.iaload, 1) := by decide +kernel
theorem d_L_law_961 : decode b_L_law 961 = .ok (.invokevirtual 120, 3) := by decide +kernel
theorem d_L_law_964 : decode b_L_law 964 = .ok (.if_icmp .eq 124, 3) := by decide +kernel
theorem d_L_law_967 : decode b_L_law 967 = .ok (.iconst 0, 1) := by decide +kernel
theorem d_L_law_968 : decode b_L_law 968 = .ok (.ireturn, 1) := by decide +kernel
theorem d_L_law_969 : decode b_L_law 969 = .ok (.aload_n 1, 1) := by decide +kernel
theorem d_L_law_970 : decode b_L_law 970 = .ok (.aload_n 0, 1) := by decide +kernel
theorem d_L_law_971 : decode b_L_law 971 = .ok (.iload 4, 2) := by decide +kernel
theorem d_L_law_973 : decode b_L_law 973 = .ok (.iconst 1, 1) := by decide +kernel
theorem d_L_law_974 : decode b_L_law 974 = .ok (.iadd, 1) := by decide +kernel
theorem d_L_law_975 : decode b_L_law 975 = .ok (.iaload, 1) := by decide +kernel
theorem d_L_law_976 : decode b_L_law 976 = .ok (.invokevirtual 121, 3) := by decide +kernel
theorem d_L_law_979 : decode b_L_law 979 = .ok (.dstore 5, 2) := by decide +kernel
theorem d_L_law_981 : decode b_L_law 981 = .ok (.aload_n 2, 1) := by decide +kernel
theorem d_L_law_982 : decode b_L_law 982 = .ok (.aload_n 0, 1) := by decide +kernel
theorem d_L_law_983 : decode b_L_law 983 = .ok (.iload 4, 2) := by decide +kernel
theorem d_L_law_985 : decode b_L_law 985 = .ok (.iconst 1, 1) := by decide +kernel
theorem d_L_law_986 : decode b_L_law 986 = .ok (.iadd, 1) := by decide +kernel
theorem d_L_law_987 : decode b_L_law 987 = .ok (.iaload, 1) := by decide +kernel
theorem d_L_law_988 : decode b_L_law 988 = .ok (.invokevirtual 125, 3) := by decide +kernel
theorem d_L_law_991 : decode b_L_law 991 = .ok (.dstore 7, 2) := by decide +kernel
theorem d_L_law_993 : decode b_L_law 993 = .ok (.dload 5, 2) := by decide +kernel
theorem d_L_law_995 : decode b_L_law 995 = .ok (.dload 7, 2) := by decide +kernel
theorem d_L_law_997 : decode b_L_law 997 = .ok (.dcmp .l, 1) := by decide +kernel
theorem d_L_law_998 : decode b_L_law 998 = .ok (.ifCond .eq 21, 3) := by decide +kernel
theorem d_L_law_1001 : decode b_L_law 1001 = .ok (.dload 5, 2) := by decide +kernel
theorem d_L_law_1003 : decode b_L_law 1003 = .ok (.dload 5, 2) := by decide +kernel
theorem d_L_law_1005 : decode b_L_law 1005 = .ok (.dcmp .l, 1) := by decide +kernel
theorem d_L_law_1006 : decode b_L_law 1006 = .ok (.ifCond .eq 11, 3) := by decide +kernel
theorem d_L_law_1009 : decode b_L_law 1009 = .ok (.dload 7, 2) := by decide +kernel
theorem d_L_law_1011 : decode b_L_law 1011 = .ok (.dload 7, 2) := by decide +kernel
theorem d_L_law_1013 : decode b_L_law 1013 = .ok (.dcmp .l, 1) := by decide +kernel
theorem d_L_law_1014 : decode b_L_law 1014 = .ok (.ifCond .ne 5, 3) := by decide +kernel
theorem d_L_law_1017 : decode b_L_law 1017 = .ok (.iconst 0, 1) := by decide +kernel
theorem d_L_law_1018 : decode b_L_law 1018 = .ok (.ireturn, 1) := by decide +kernel
theorem d_L_law_1019 : decode b_L_law 1019 = .ok (.goto 69, 3) := by decide +kernel
theorem d_L_law_1022 : decode b_L_law 1022 = .ok (.aload_n 1, 1) := by decide +kernel
theorem d_L_law_1023 : decode b_L_law 1023 = .ok (.aload_n 0, 1) := by decide +kernel
theorem d_L_law_1024 : decode b_L_law 1024 = .ok (.iload 4, 2) := by decide +kernel
theorem d_L_law_1026 : decode b_L_law 1026 = .ok (.iconst 1, 1) := by decide +kernel
theorem d_L_law_1027 : decode b_L_law 1027 = .ok (.iadd, 1) := by decide +kernel
theorem d_L_law_1028 : decode b_L_law 1028 = .ok (.iaload, 1) := by decide +kernel
theorem d_L_law_1029 : decode b_L_law 1029 = .ok (.aload_n 0, 1) := by decide +kernel
theorem d_L_law_1030 : decode b_L_law 1030 = .ok (.iload 4, 2) := by decide +kernel
theorem d_L_law_1032 : decode b_L_law 1032 = .ok (.iconst 2, 1) := by decide +kernel
theorem d_L_law_1033 : decode b_L_law 1033 = .ok (.iadd, 1) := by decide +kernel
theorem d_L_law_1034 : decode b_L_law 1034 = .ok (.iaload, 1) := by decide +kernel
theorem d_L_law_1035 : decode b_L_law 1035 = .ok (.ifCond .eq 7, 3) := by decide +kernel
theorem d_L_law_1038 : decode b_L_law 1038 = .ok (.iconst 1, 1) := by decide +kernel
theorem d_L_law_1039 : decode b_L_law 1039 = .ok (.goto 4, 3) := by decide +kernel
theorem d_L_law_1042 : decode b_L_law 1042 = .ok (.iconst 0, 1) := by decide +kernel
theorem d_L_law_1043 : decode b_L_law 1043 = .ok (.aload_n 0, 1) := by decide +kernel
theorem d_L_law_1044 : decode b_L_law 1044 = .ok (.iload 4, 2) := by decide +kernel
theorem d_L_law_1046 : decode b_L_law 1046 = .ok (.iconst 3, 1) := by decide +kernel
theorem d_L_law_1047 : decode b_L_law 1047 = .ok (.iadd, 1) := by decide +kernel
theorem d_L_law_1048 : decode b_L_law 1048 = .ok (.iaload, 1) := by decide +kernel
theorem d_L_law_1049 : decode b_L_law 1049 = .ok (.invokevirtual 126, 3) := by decide +kernel
theorem d_L_law_1052 : decode b_L_law 1052 = .ok (.aload_n 2, 1) := by decide +kernel
theorem d_L_law_1053 : decode b_L_law 1053 = .ok (.aload_n 0, 1) := by decide +kernel
theorem d_L_law_1054 : decode b_L_law 1054 = .ok (.iload 4, 2) := by decide +kernel
theorem d_L_law_1056 : decode b_L_law 1056 = .ok (.iconst 1, 1) := by decide +kernel
theorem d_L_law_1057 : decode b_L_law 1057 = .ok (.iadd, 1) := by decide +kernel
theorem d_L_law_1058 : decode b_L_law 1058 = .ok (.iaload, 1) := by decide +kernel
theorem d_L_law_1059 : decode b_L_law 1059 = .ok (.aload_n 0, 1) := by decide +kernel
theorem d_L_law_1060 : decode b_L_law 1060 = .ok (.iload 4, 2) := by decide +kernel
theorem d_L_law_1062 : decode b_L_law 1062 = .ok (.iconst 2, 1) := by decide +kernel
theorem d_L_law_1063 : decode b_L_law 1063 = .ok (.iadd, 1) := by decide +kernel
theorem d_L_law_1064 : decode b_L_law 1064 = .ok (.iaload, 1) := by decide +kernel
theorem d_L_law_1065 : decode b_L_law 1065 = .ok (.ifCond .eq 7, 3) := by decide +kernel
theorem d_L_law_1068 : decode b_L_law 1068 = .ok (.iconst 1, 1) := by decide +kernel
theorem d_L_law_1069 : decode b_L_law 1069 = .ok (.goto 4, 3) := by decide +kernel
theorem d_L_law_1072 : decode b_L_law 1072 = .ok (.iconst 0, 1) := by decide +kernel
theorem d_L_law_1073 : decode b_L_law 1073 = .ok (.aload_n 0, 1) := by decide +kernel
theorem d_L_law_1074 : decode b_L_law 1074 = .ok (.iload 4, 2) := by decide +kernel
theorem d_L_law_1076 : decode b_L_law 1076 = .ok (.iconst 3, 1) := by decide +kernel
theorem d_L_law_1077 : decode b_L_law 1077 = .ok (.iadd, 1) := by decide +kernel
theorem d_L_law_1078 : decode b_L_law 1078 = .ok (.iaload, 1) := by decide +kernel
theorem d_L_law_1079 : decode b_L_law 1079 = .ok (.invokevirtual 130, 3) := by decide +kernel
theorem d_L_law_1082 : decode b_L_law 1082 = .ok (.lcmp, 1) := by decide +kernel
theorem d_L_law_1083 : decode b_L_law 1083 = .ok (.ifCond .eq 5, 3) := by decide +kernel
theorem d_L_law_1086 : decode b_L_law 1086 = .ok (.iconst 0, 1) := by decide +kernel
theorem d_L_law_1087 : decode b_L_law 1087 = .ok (.ireturn, 1) := by decide +kernel
theorem d_L_law_1088 : decode b_L_law 1088 = .ok (.iinc 4 5, 3) := by decide +kernel
theorem d_L_law_1091 : decode b_L_law 1091 = .ok (.goto (-1068), 3) := by decide +kernel
theorem d_L_law_1094 : decode b_L_law 1094 = .ok (.iconst 1, 1) := by decide +kernel
theorem d_L_law_1095 : decode b_L_law 1095 = .ok (.ireturn, 1) := by decide +kernel
