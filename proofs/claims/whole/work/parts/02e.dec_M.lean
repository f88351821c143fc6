theorem d_M_shownSize_0 : decode b_M_shownSize 0 = .ok (.iconst 0, 1) := by decide +kernel
theorem d_M_shownSize_1 : decode b_M_shownSize 1 = .ok (.istore_n 1, 1) := by decide +kernel
theorem d_M_shownSize_2 : decode b_M_shownSize 2 = .ok (.iload_n 1, 1) := by decide +kernel
theorem d_M_shownSize_3 : decode b_M_shownSize 3 = .ok (.aload_n 0, 1) := by decide +kernel
theorem d_M_shownSize_4 : decode b_M_shownSize 4 = .ok (.getfield 265, 3) := by decide +kernel
theorem d_M_shownSize_7 : decode b_M_shownSize 7 = .ok (.if_icmp .ge 21, 3) := by decide +kernel
theorem d_M_shownSize_10 : decode b_M_shownSize 10 = .ok (.aload_n 0, 1) := by decide +kernel
theorem d_M_shownSize_11 : decode b_M_shownSize 11 = .ok (.getfield 30, 3) := by decide +kernel
theorem d_M_shownSize_14 : decode b_M_shownSize 14 = .ok (.iload_n 1, 1) := by decide +kernel
theorem d_M_shownSize_15 : decode b_M_shownSize 15 = .ok (.aload_n 0, 1) := by decide +kernel
theorem d_M_shownSize_16 : decode b_M_shownSize 16 = .ok (.getfield 36, 3) := by decide +kernel
theorem d_M_shownSize_19 : decode b_M_shownSize 19 = .ok (.iload_n 1, 1) := by decide +kernel
theorem d_M_shownSize_20 : decode b_M_shownSize 20 = .ok (.iaload, 1) := by decide +kernel
theorem d_M_shownSize_21 : decode b_M_shownSize 21 = .ok (.iastore, 1) := by decide +kernel
theorem d_M_shownSize_22 : decode b_M_shownSize 22 = .ok (.iinc 1 1, 3) := by decide +kernel
theorem d_M_shownSize_25 : decode b_M_shownSize 25 = .ok (.goto (-23), 3) := by decide +kernel
theorem d_M_shownSize_28 : decode b_M_shownSize 28 = .ok (.aload_n 0, 1) := by decide +kernel
theorem d_M_shownSize_29 : decode b_M_shownSize 29 = .ok (.aload_n 0, 1) := by decide +kernel
theorem d_M_shownSize_30 : decode b_M_shownSize 30 = .ok (.getfield 265, 3) := by decide +kernel
theorem d_M_shownSize_33 : decode b_M_shownSize 33 = .ok (.putfield 307, 3) := by decide +kernel
theorem d_M_shownSize_36 : decode b_M_shownSize 36 = .ok (.aload_n 0, 1) := by decide +kernel
theorem d_M_shownSize_37 : decode b_M_shownSize 37 = .ok (.getfield 307, 3) := by decide +kernel
theorem d_M_shownSize_40 : decode b_M_shownSize 40 = .ok (.ireturn, 1) := by decide +kernel
theorem d_M_show_0 : decode b_M_show 0 = .ok (.aload_n 0, 1) := by decide +kernel
theorem d_M_show_1 : decode b_M_show 1 = .ok (.iconst 0, 1) := by decide +kernel
theorem d_M_show_2 : decode b_M_show 2 = .ok (.putfield 39, 3) := by decide +kernel
theorem d_M_show_5 : decode b_M_show 5 = .ok (.aload_n 0, 1) := by decide +kernel
theorem d_M_show_6 : decode b_M_show 6 = .ok (.iload_n 1, 1) := by decide +kernel
theorem d_M_show_7 : decode b_M_show 7 = .ok (.invokevirtual 176, 3) := by decide +kernel
theorem d_M_show_10 : decode b_M_show 10 = .ok (.ifCond .ne 9, 3) := by decide +kernel
theorem d_M_show_13 : decode b_M_show 13 = .ok (.aload_n 0, 1) := by decide +kernel
theorem d_M_show_14 : decode b_M_show 14 = .ok (.iconst 1, 1) := by decide +kernel
theorem d_M_show_15 : decode b_M_show 15 = .ok (.invokevirtual 135, 3) := by decide +kernel
theorem d_M_show_18 : decode b_M_show 18 = .ok (.ireturn, 1) := by decide +kernel
theorem d_M_show_19 : decode b_M_show 19 = .ok (.aload_n 0, 1) := by decide +kernel
theorem d_M_show_20 : decode b_M_show 20 = .ok (.iconst 0, 1) := by decide +kernel
theorem d_M_show_21 : decode b_M_show 21 = .ok (.putfield 265, 3) := by decide +kernel
theorem d_M_show_24 : decode b_M_show 24 = .ok (.aload_n 0, 1) := by decide +kernel
theorem d_M_show_25 : decode b_M_show 25 = .ok (.getfield 19, 3) := by decide +kernel
theorem d_M_show_28 : decode b_M_show 28 = .ok (.iload_n 1, 1) := by decide +kernel
theorem d_M_show_29 : decode b_M_show 29 = .ok (.baload, 1) := by decide +kernel
theorem d_M_show_30 : decode b_M_show 30 = .ok (.ifCond .eq 9, 3) := by decide +kernel
theorem d_M_show_33 : decode b_M_show 33 = .ok (.aload_n 0, 1) := by decide +kernel
theorem d_M_show_34 : decode b_M_show 34 = .ok (.bipush 45, 2) := by decide +kernel
theorem d_M_show_36 : decode b_M_show 36 = .ok (.invokevirtual 278, 3) := by decide +kernel
theorem d_M_show_39 : decode b_M_show 39 = .ok (.aload_n 0, 1) := by decide +kernel
theorem d_M_show_40 : decode b_M_show 40 = .ok (.getfield 16, 3) := by decide +kernel
theorem d_M_show_43 : decode b_M_show 43 = .ok (.iload_n 1, 1) := by decide +kernel
theorem d_M_show_44 : decode b_M_show 44 = .ok (.iaload, 1) := by decide +kernel
theorem d_M_show_45 : decode b_M_show 45 = .ok (.iconst 2, 1) := by decide +kernel
theorem d_M_show_46 : decode b_M_show 46 = .ok (.if_icmp .ne 11, 3) := by decide +kernel
theorem d_M_show_49 : decode b_M_show 49 = .ok (.aload_n 0, 1) := by decide +kernel
theorem d_M_show_50 : decode b_M_show 50 = .ok (.iload_n 1, 1) := by decide +kernel
theorem d_M_show_51 : decode b_M_show 51 = .ok (.invokevirtual 310, 3) := by decide +kernel
theorem d_M_show_54 : decode b_M_show 54 = .ok (.goto 80, 3) := by decide +kernel
theorem d_M_show_57 : decode b_M_show 57 = .ok (.aload_n 0, 1) := by decide +kernel
theorem d_M_show_58 : decode b_M_show 58 = .ok (.iconst 2, 1) := by decide +kernel
theorem d_M_show_59 : decode b_M_show 59 = .ok (.iload_n 1, 1) := by decide +kernel
theorem d_M_show_60 : decode b_M_show 60 = .ok (.imul, 1) := by decide +kernel
theorem d_M_show_61 : decode b_M_show 61 = .ok (.bipush 10, 2) := by decide +kernel
theorem d_M_show_63 : decode b_M_show 63 = .ok (.iconst 1, 1) := by decide +kernel
theorem d_M_show_64 : decode b_M_show 64 = .ok (.invokevirtual 294, 3) := by decide +kernel
theorem d_M_show_67 : decode b_M_show 67 = .ok (.aload_n 0, 1) := by decide +kernel
theorem d_M_show_68 : decode b_M_show 68 = .ok (.aload_n 0, 1) := by decide +kernel
theorem d_M_show_69 : decode b_M_show 69 = .ok (.getfield 268, 3) := by decide +kernel
theorem d_M_show_72 : decode b_M_show 72 = .ok (.iconst 1, 1) := by decide +kernel
theorem d_M_show_73 : decode b_M_show 73 = .ok (.isub, 1) := by decide +kernel
theorem d_M_show_74 : decode b_M_show 74 = .ok (.iconst 0, 1) := by decide +kernel
theorem d_M_show_75 : decode b_M_show 75 = .ok (.iconst 3, 1) := by decide +kernel
theorem d_M_show_76 : decode b_M_show 76 = .ok (.iconst 0, 1) := by decide +kernel
theorem d_M_show_77 : decode b_M_show 77 = .ok (.iconst 0, 1) := by decide +kernel
theorem d_M_show_78 : decode b_M_show 78 = .ok (.invokevirtual 300, 3) := by decide +kernel
theorem d_M_show_81 : decode b_M_show 81 = .ok (.aload_n 0, 1) := by decide +kernel
theorem d_M_show_82 : decode b_M_show 82 = .ok (.bipush 32, 2) := by decide +kernel
theorem d_M_show_84 : decode b_M_show 84 = .ok (.lconst 1, 1) := by decide +kernel
theorem d_M_show_85 : decode b_M_show 85 = .ok (.invokevirtual 82, 3) := by decide +kernel
theorem d_M_show_88 : decode b_M_show 88 = .ok (.aload_n 0, 1) := by decide +kernel
theorem d_M_show_89 : decode b_M_show 89 = .ok (.iconst 2, 1) := by decide +kernel
theorem d_M_show_90 : decode b_M_show 90 = .ok (.iload_n 1, 1) := by decide +kernel
theorem d_M_show_91 : decode b_M_show 91 = .ok (.imul, 1) := by decide +kernel
theorem d_M_show_92 : decode b_M_show 92 = .ok (.iconst 1, 1) := by decide +kernel
theorem d_M_show_93 : decode b_M_show 93 = .ok (.iadd, 1) := by decide +kernel
theorem d_M_show_94 : decode b_M_show 94 = .ok (.bipush 32, 2) := by decide +kernel
theorem d_M_show_96 : decode b_M_show 96 = .ok (.invokevirtual 105, 3) := by decide +kernel
theorem d_M_show_99 : decode b_M_show 99 = .ok (.ifCond .eq 35, 3) := by decide +kernel
theorem d_M_show_102 : decode b_M_show 102 = .ok (.aload_n 0, 1) := by decide +kernel
theorem d_M_show_103 : decode b_M_show 103 = .ok (.bipush 47, 2) := by decide +kernel
theorem d_M_show_105 : decode b_M_show 105 = .ok (.invokevirtual 278, 3) := by decide +kernel
theorem d_M_show_108 : decode b_M_show 108 = .ok (.aload_n 0, 1) := by decide +kernel
theorem d_M_show_109 : decode b_M_show 109 = .ok (.iconst 2, 1) := by decide +kernel
theorem d_M_show_110 : decode b_M_show 110 = .ok (.iload_n 1, 1) := by decide +kernel
theorem d_M_show_111 : decode b_M_show 111 = .ok (.imul, 1) := by decide +kernel
theorem d_M_show_112 : decode b_M_show 112 = .ok (.iconst 1, 1) := by decide +kernel
theorem d_M_show_113 : decode b_M_show 113 = .ok (.iadd, 1) := by decide +kernel
theorem d_M_show_114 : decode b_M_show 114 = .ok (.bipush 10, 2) := by decide +kernel
theorem d_M_show_116 : decode b_M_show 116 = .ok (.iconst 1, 1) := by decide +kernel
theorem d_M_show_117 : decode b_M_show 117 = .ok (.invokevirtual 294, 3) := by decide +kernel
theorem d_M_show_120 : decode b_M_show 120 = .ok (.aload_n 0, 1) := by decide +kernel
theorem d_M_show_121 : decode b_M_show 121 = .ok (.aload_n 0, 1) := by decide +kernel
theorem d_M_show_122 : decode b_M_show 122 = .ok (.getfield 268, 3) := by decide +kernel
theorem d_M_show_125 : decode b_M_show 125 = .ok (.iconst 1, 1) := by decide +kernel
theorem d_M_show_126 : decode b_M_show 126 = .ok (.isub, 1) := by decide +kernel
theorem d_M_show_127 : decode b_M_show 127 = .ok (.iconst 0, 1) := by decide +kernel
theorem d_M_show_128 : decode b_M_show 128 = .ok (.iconst 3, 1) := by decide +kernel
theorem d_M_show_129 : decode b_M_show 129 = .ok (.iconst 0, 1) := by decide +kernel
theorem d_M_show_130 : decode b_M_show 130 = .ok (.iconst 0, 1) := by decide +kernel
theorem d_M_show_131 : decode b_M_show 131 = .ok (.invokevirtual 300, 3) := by decide +kernel
theorem d_M_show_134 : decode b_M_show 134 = .ok (.aload_n 0, 1) := by decide +kernel
theorem d_M_show_135 : decode b_M_show 135 = .ok (.invokevirtual 313, 3) := by decide +kernel
theorem d_M_show_138 : decode b_M_show 138 = .ok (.ireturn, 1) := by decide +kernel
theorem d_M_isAlign_0 : decode b_M_isAlign 0 = .ok (.iload_n 0, 1) := by decide +kernel
theorem d_M_isAlign_1 : decode b_M_isAlign 1 = .ok (.bipush 60, 2) := by decide +kernel
theorem d_M_isAlign_3 : decode b_M_isAlign 3 = .ok (.if_icmp .eq 21, 3) := by decide +kernel
theorem d_M_isAlign_6 : decode b_M_isAlign 6 = .ok (.iload_n 0, 1) := by decide +kernel
theorem d_M_isAlign_7 : decode b_M_isAlign 7 = .ok (.bipush 62, 2) := by decide +kernel
theorem d_M_isAlign_9 : decode b_M_isAlign 9 = .ok (.if_icmp .eq 15, 3) := by decide +kernel
theorem d_M_isAlign_12 : decode b_M_isAlign 12 = .ok (.iload_n 0, 1) := by decide +kernel
theorem d_M_isAlign_13 : decode b_M_isAlign 13 = .ok (.bipush 61, 2) := by decide +kernel
theorem d_M_isAlign_15 : decode b_M_isAlign 15 = .ok (.if_icmp .eq 9, 3) := by decide +kernel
theorem d_M_isAlign_18 : decode b_M_isAlign 18 = .ok (.iload_n 0, 1) := by decide +kernel
theorem d_M_isAlign_19 : decode b_M_isAlign 19 = .ok (.bipush 94, 2) := by decide +kernel
theorem d_M_isAlign_21 : decode b_M_isAlign 21 = .ok (.if_icmp .ne 7, 3) := by decide +kernel
theorem d_M_isAlign_24 : decode b_M_isAlign 24 = .ok (.iconst 1, 1) := by decide +kernel
theorem d_M_isAlign_25 : decode b_M_isAlign 25 = .ok (.goto 4, 3) := by decide +kernel
theorem d_M_isAlign_28 : decode b_M_isAlign 28 = .ok (.iconst 0, 1) := by decide +kernel
theorem d_M_isAlign_29 : decode b_M_isAlign 29 = .ok (.ireturn, 1) := by decide +kernel
theorem d_M_two_0 : decode b_M_two 0 = .ok (.iconst (-1), 1) := by decide +kernel
theorem d_M_two_1 : decode b_M_two 1 = .ok (.istore_n 1, 1) := by decide +kernel
theorem d_M_two_2 : decode b_M_two 2 = .ok (.iconst 0, 1) := by decide +kernel
theorem d_M_two_3 : decode b_M_two 3 = .ok (.istore_n 2, 1) := by decide +kernel
theorem d_M_two_4 : decode b_M_two 4 = .ok (.iload_n 2, 1) := by decide +kernel
theorem d_M_two_5 : decode b_M_two 5 = .ok (.iconst 2, 1) := by decide +kernel
theorem d_M_two_6 : decode b_M_two 6 = .ok (.if_icmp .ge 60, 3) := by decide +kernel
theorem d_M_two_9 : decode b_M_two 9 = .ok (.aload_n 0, 1) := by decide +kernel
theorem d_M_two_10 : decode b_M_two 10 = .ok (.aload_n 0, 1) := by decide +kernel
theorem d_M_two_11 : decode b_M_two 11 = .ok (.getfield 244, 3) := by decide +kernel
theorem d_M_two_14 : decode b_M_two 14 = .ok (.invokevirtual 247, 3) := by decide +kernel
theorem d_M_two_17 : decode b_M_two 17 = .ok (.bipush 10, 2) := by decide +kernel
theorem d_M_two_19 : decode b_M_two 19 = .ok (.invokestatic 253, 3) := by decide +kernel
theorem d_M_two_22 : decode b_M_two 22 = .ok (.ifCond .lt 44, 3) := by decide +kernel
theorem d_M_two_25 : decode b_M_two 25 = .ok (.iload_n 1, 1) := by decide +kernel
theorem d_M_two_26 : decode b_M_two 26 = .ok (.ifCond .ge 7, 3) := by decide +kernel
theorem d_M_two_29 : decode b_M_two 29 = .ok (.iconst 0, 1) := by decide +kernel
theorem d_M_two_30 : decode b_M_two 30 = .ok (.goto 7, 3) := by decide +kernel
theorem d_M_two_33 : decode b_M_two 33 = .ok (.bipush 10, 2) := by decide +kernel
theorem d_M_two_35 : decode b_M_two 35 = .ok (.iload_n 1, 1) := by decide +kernel
theorem d_M_two_36 : decode b_M_two 36 = .ok (.imul, 1) := by decide +kernel
theorem d_M_two_37 : decode b_M_two 37 = .ok (.aload_n 0, 1) := by decide +kernel
theorem d_M_two_38 : decode b_M_two 38 = .ok (.aload_n 0, 1) := by decide +kernel
theorem d_M_two_39 : decode b_M_two 39 = .ok (.getfield 244, 3) := by decide +kernel
theorem d_M_two_42 : decode b_M_two 42 = .ok (.invokevirtual 247, 3) := by decide +kernel
theorem d_M_two_45 : decode b_M_two 45 = .ok (.iadd, 1) := by decide +kernel
theorem d_M_two_46 : decode b_M_two 46 = .ok (.bipush 48, 2) := by decide +kernel
theorem d_M_two_48 : decode b_M_two 48 = .ok (.isub, 1) := by decide +kernel
theorem d_M_two_49 : decode b_M_two 49 = .ok (.istore_n 1, 1) := by decide +kernel
theorem d_M_two_50 : decode b_M_two 50 = .ok (.aload_n 0, 1) := by decide +kernel
theorem d_M_two_51 : decode b_M_two 51 = .ok (.dup, 1) := by decide +kernel
theorem d_M_two_52 : decode b_M_two 52 = .ok (.getfield 244, 3) := by decide +kernel
theorem d_M_two_55 : decode b_M_two 55 = .ok (.iconst 1, 1) := by decide +kernel
theorem d_M_two_56 : decode b_M_two 56 = .ok (.iadd, 1) := by decide +kernel
theorem d_M_two_57 : decode b_M_two 57 = .ok (.putfield 244, 3) := by decide +kernel
theorem d_M_two_60 : decode b_M_two 60 = .ok (.iinc 2 1, 3) := by decide +kernel
theorem d_M_two_63 : decode b_M_two 63 = .ok (.goto (-59), 3) := by decide +kernel
theorem d_M_two_66 : decode b_M_two 66 = .ok (.iload_n 1, 1) := by decide +kernel
theorem d_M_two_67 : decode b_M_two 67 = .ok (.ireturn, 1) := by decide +kernel
theorem d_M_spec_0 : decode b_M_spec 0 = .ok (.aload_n 0, 1) := by decide +kernel
theorem d_M_spec_1 : decode b_M_spec 1 = .ok (.iconst 0, 1) := by decide +kernel
theorem d_M_spec_2 : decode b_M_spec 2 = .ok (.putfield 244, 3) := by decide +kernel
theorem d_M_spec_5 : decode b_M_spec 5 = .ok (.aload_n 0, 1) := by decide +kernel
theorem d_M_spec_6 : decode b_M_spec 6 = .ok (.iconst 0, 1) := by decide +kernel
theorem d_M_spec_7 : decode b_M_spec 7 = .ok (.putfield 316, 3) := by decide +kernel
theorem d_M_spec_10 : decode b_M_spec 10 = .ok (.aload_n 0, 1) := by decide +kernel
theorem d_M_spec_11 : decode b_M_spec 11 = .ok (.iconst 0, 1) := by decide +kernel
theorem d_M_spec_12 : decode b_M_spec 12 = .ok (.putfield 319, 3) := by decide +kernel
theorem d_M_spec_15 : decode b_M_spec 15 = .ok (.aload_n 0, 1) := by decide +kernel
theorem d_M_spec_16 : decode b_M_spec 16 = .ok (.iconst 1, 1) := by decide +kernel
theorem d_M_spec_17 : decode b_M_spec 17 = .ok (.invokevirtual 247, 3) := by decide +kernel
theorem d_M_spec_20 : decode b_M_spec 20 = .ok (.invokestatic 322, 3) := by decide +kernel
theorem d_M_spec_23 : decode b_M_spec 23 = .ok (.ifCond .eq 29, 3) := by decide +kernel
theorem d_M_spec_26 : decode b_M_spec 26 = .ok (.aload_n 0, 1) := by decide +kernel
theorem d_M_spec_27 : decode b_M_spec 27 = .ok (.aload_n 0, 1) := by decide +kernel
theorem d_M_spec_28 : decode b_M_spec 28 = .ok (.iconst 0, 1) := by decide +kernel
theorem d_M_spec_29 : decode b_M_spec 29 = .ok (.invokevirtual 247, 3) := by decide +kernel
theorem d_M_spec_32 : decode b_M_spec 32 = .ok (.putfield 316, 3) := by decide +kernel
theorem d_M_spec_35 : decode b_M_spec 35 = .ok (.aload_n 0, 1) := by decide +kernel
theorem d_M_spec_36 : decode b_M_spec 36 = .ok (.aload_n 0, 1) := by decide +kernel
theorem d_M_spec_37 : decode b_M_spec 37 = .ok (.iconst 1, 1) := by decide +kernel
theorem d_M_spec_38 : decode b_M_spec 38 = .ok (.invokevirtual 247, 3) := by decide +kernel
theorem d_M_spec_41 : decode b_M_spec 41 = .ok (.putfield 319, 3) := by decide +kernel
theorem d_M_spec_44 : decode b_M_spec 44 = .ok (.aload_n 0, 1) := by decide +kernel
theorem d_M_spec_45 : decode b_M_spec 45 = .ok (.iconst 2, 1) := by decide +kernel
theorem d_M_spec_46 : decode b_M_spec 46 = .ok (.putfield 244, 3) := by decide +kernel
theorem d_M_spec_49 : decode b_M_spec 49 = .ok (.goto 28, 3) := by decide +kernel
theorem d_M_spec_52 : decode b_M_spec 52 = .ok (.aload_n 0, 1) := by decide +kernel
theorem d_M_spec_53 : decode b_M_spec 53 = .ok (.iconst 0, 1) := by decide +kernel
theorem d_M_spec_54 : decode b_M_spec 54 = .ok (.invokevirtual 247, 3) := by decide +kernel
theorem d_M_spec_57 : decode b_M_spec 57 = .ok (.invokestatic 322, 3) := by decide +kernel
theorem d_M_spec_60 : decode b_M_spec 60 = .ok (.ifCond .eq 17, 3) := by decide +kernel
theorem d_M_spec_63 : decode b_M_spec 63 = .ok (.aload_n 0, 1) := by decide +kernel
theorem d_M_spec_64 : decode b_M_spec 64 = .ok (.aload_n 0, 1) := by decide +kernel
theorem d_M_spec_65 : decode b_M_spec 65 = .ok (.iconst 0, 1) := by decide +kernel
theorem d_M_spec_66 : decode b_M_spec 66 = .ok (.invokevirtual 247, 3) := by decide +kernel
theorem d_M_spec_69 : decode b_M_spec 69 = .ok (.putfield 319, 3) := by decide +kernel
theorem d_M_spec_72 : decode b_M_spec 72 = .ok (.aload_n 0, 1) := by decide +kernel
theorem d_M_spec_73 : decode b_M_spec 73 = .ok (.iconst 1, 1) := by decide +kernel
theorem d_M_spec_74 : decode b_M_spec 74 = .ok (.putfield 244, 3) := by decide +kernel
theorem d_M_spec_77 : decode b_M_spec 77 = .ok (.aload_n 0, 1) := by decide +kernel
theorem d_M_spec_78 : decode b_M_spec 78 = .ok (.aload_n 0, 1) := by decide +kernel
theorem d_M_spec_79 : decode b_M_spec 79 = .ok (.aload_n 0, 1) := by decide +kernel
theorem d_M_spec_80 : decode b_M_spec 80 = .ok (.getfield 244, 3) := by decide +kernel
theorem d_M_spec_83 : decode b_M_spec 83 = .ok (.invokevirtual 247, 3) := by decide +kernel
theorem d_M_spec_86 : decode b_M_spec 86 = .ok (.bipush 43, 2) := by decide +kernel
theorem d_M_spec_88 : decode b_M_spec 88 = .ok (.if_icmp .eq 29, 3) := by decide +kernel
theorem d_M_spec_91 : decode b_M_spec 91 = .ok (.aload_n 0, 1) := by decide +kernel
theorem d_M_spec_92 : decode b_M_spec 92 = .ok (.aload_n 0, 1) := by decide +kernel
theorem d_M_spec_93 : decode b_M_spec 93 = .ok (.getfield 244, 3) := by decide +kernel
theorem d_M_spec_96 : decode b_M_spec 96 = .ok (.invokevirtual 247, 3) := by decide +kernel
theorem d_M_spec_99 : decode b_M_spec 99 = .ok (.bipush 45, 2) := by decide +kernel
theorem d_M_spec_101 : decode b_M_spec 101 = .ok (.if_icmp .eq 16, 3) := by decide +kernel
theorem d_M_spec_104 : decode b_M_spec 104 = .ok (.aload_n 0, 1) := by decide +kernel
theorem d_M_spec_105 : decode b_M_spec 105 = .ok (.aload_n 0, 1) := by decide +kernel
theorem d_M_spec_106 : decode b_M_spec 106 = .ok (.getfield 244, 3) := by decide +kernel
theorem d_M_spec_109 : decode b_M_spec 109 = .ok (.invokevirtual 247, 3) := by decide +kernel
theorem d_M_spec_112 : decode b_M_spec 112 = .ok (.bipush 32, 2) := by decide +kernel
theorem d_M_spec_114 : decode b_M_spec 114 = .ok (.if_icmp .ne 14, 3) := by decide +kernel
theorem d_M_spec_117 : decode b_M_spec 117 = .ok (.aload_n 0, 1) := by decide +kernel
theorem d_M_spec_118 : decode b_M_spec 118 = .ok (.aload_n 0, 1) := by decide +kernel
theorem d_M_spec_119 : decode b_M_spec 119 = .ok (.getfield 244, 3) := by decide +kernel
theorem d_M_spec_122 : decode b_M_spec 122 = .ok (.invokevirtual 247, 3) := by decide +kernel
theorem d_M_spec_125 : decode b_M_spec 125 = .ok (.goto 4, 3) := by decide +kernel
theorem d_M_spec_128 : decode b_M_spec 128 = .ok (.iconst 0, 1) := by decide +kernel
theorem d_M_spec_129 : decode b_M_spec 129 = .ok (.putfield 325, 3) := by decide +kernel
theorem d_M_spec_132 : decode b_M_spec 132 = .ok (.aload_n 0, 1) := by decide +kernel
theorem d_M_spec_133 : decode b_M_spec 133 = .ok (.aload_n 0, 1) := by decide +kernel
theorem d_M_spec_134 : decode b_M_spec 134 = .ok (.getfield 325, 3) := by decide +kernel
theorem d_M_spec_137 : decode b_M_spec 137 = .ok (.ifCond .le 12, 3) := by decide +kernel
theorem d_M_spec_140 : decode b_M_spec 140 = .ok (.aload_n 0, 1) := by decide +kernel
theorem d_M_spec_141 : decode b_M_spec 141 = .ok (.getfield 244, 3) := by decide +kernel
theorem d_M_spec_144 : decode b_M_spec 144 = .ok (.iconst 1, 1) := by decide +kernel
theorem d_M_spec_145 : decode b_M_spec 145 = .ok (.iadd, 1) := by decide +kernel
theorem d_M_spec_146 : decode b_M_spec 146 = .ok (.goto 7, 3) := by decide +kernel
theorem d_M_spec_149 : decode b_M_spec 149 = .ok (.aload_n 0, 1) := by decide +kernel
theorem d_M_spec_150 : decode b_M_spec 150 = .ok (.getfield 244, 3) := by decide +kernel
theorem d_M_spec_153 : decode b_M_spec 153 = .ok (.putfield 244, 3) := by decide +kernel
theorem d_M_spec_156 : decode b_M_spec 156 = .ok (.aload_n 0, 1) := by decide +kernel
theorem d_M_spec_157 : decode b_M_spec 157 = .ok (.aload_n 0, 1) := by decide +kernel
theorem d_M_spec_158 : decode b_M_spec 158 = .ok (.bipush 35, 2) := by decide +kernel
theorem d_M_spec_160 : decode b_M_spec 160 = .ok (.invokevirtual 259, 3) := by decide +kernel
theorem d_M_spec_163 : decode b_M_spec 163 = .ok (.putfield 327, 3) := by decide +kernel
theorem d_M_spec_166 : decode b_M_spec 166 = .ok (.aload_n 0, 1) := by decide +kernel
theorem d_M_spec_167 : decode b_M_spec 167 = .ok (.aload_n 0, 1) := by decide +kernel
theorem d_M_spec_168 : decode b_M_spec 168 = .ok (.bipush 48, 2) := by decide +kernel
theorem d_M_spec_170 : decode b_M_spec 170 = .ok (.invokevirtual 259, 3) := by decide +kernel
theorem d_M_spec_173 : decode b_M_spec 173 = .ok (.putfield 330, 3) := by decide +kernel
theorem d_M_spec_176 : decode b_M_spec 176 = .ok (.aload_n 0, 1) := by decide +kernel
theorem d_M_spec_177 : decode b_M_spec 177 = .ok (.aload_n 0, 1) := by decide +kernel
theorem d_M_spec_178 : decode b_M_spec 178 = .ok (.aload_n 0, 1) := by decide +kernel
theorem d_M_spec_179 : decode b_M_spec 179 = .ok (.getfield 244, 3) := by decide +kernel
theorem d_M_spec_182 : decode b_M_spec 182 = .ok (.invokevirtual 247, 3) := by decide +kernel
theorem d_M_spec_185 : decode b_M_spec 185 = .ok (.bipush 48, 2) := by decide +kernel
theorem d_M_spec_187 : decode b_M_spec 187 = .ok (.if_icmp .ne 7, 3) := by decide +kernel
theorem d_M_spec_190 : decode b_M_spec 190 = .ok (.iconst (-1), 1) := by decide +kernel
theorem d_M_spec_191 : decode b_M_spec 191 = .ok (.goto 7, 3) := by decide +kernel
theorem d_M_spec_194 : decode b_M_spec 194 = .ok (.aload_n 0, 1) := by decide +kernel
theorem d_M_spec_195 : decode b_M_spec 195 = .ok (.invokevirtual 333, 3) := by decide +kernel
theorem d_M_spec_198 : decode b_M_spec 198 = .ok (.putfield 336, 3) := by decide +kernel
theorem d_M_spec_201 : decode b_M_spec 201 = .ok (.aload_n 0, 1) := by decide +kernel
theorem d_M_spec_202 : decode b_M_spec 202 = .ok (.aload_n 0, 1) := by decide +kernel
theorem d_M_spec_203 : decode b_M_spec 203 = .ok (.aload_n 0, 1) := by decide +kernel
theorem d_M_spec_204 : decode b_M_spec 204 = .ok (.getfield 244, 3) := by decide +kernel
theorem d_M_spec_207 : decode b_M_spec 207 = .ok (.invokevirtual 247, 3) := by decide +kernel
theorem d_M_spec_210 : decode b_M_spec 210 = .ok (.bipush 44, 2) := by decide +kernel
theorem d_M_spec_212 : decode b_M_spec 212 = .ok (.if_icmp .eq 16, 3) := by decide +kernel
theorem d_M_spec_215 : decode b_M_spec 215 = .ok (.aload_n 0, 1) := by decide +kernel
theorem d_M_spec_216 : decode b_M_spec 216 = .ok (.aload_n 0, 1) := by decide +kernel
theorem d_M_spec_217 : decode b_M_spec 217 = .ok (.getfield 244, 3) := by decide +kernel
theorem d_M_spec_220 : decode b_M_spec 220 = .ok (.invokevirtual 247, 3) := by decide +kernel
theorem d_M_spec_223 : decode b_M_spec 223 = .ok (.bipush 95, 2) := by decide +kernel
theorem d_M_spec_225 : decode b_M_spec 225 = .ok (.if_icmp .ne 14, 3) := by decide +kernel
theorem d_M_spec_228 : decode b_M_spec 228 = .ok (.aload_n 0, 1) := by decide +kernel
theorem d_M_spec_229 : decode b_M_spec 229 = .ok (.aload_n 0, 1) := by decide +kernel
theorem d_M_spec_230 : decode b_M_spec 230 = .ok (.getfield 244, 3) := by decide +kernel
theorem d_M_spec_233 : decode b_M_spec 233 = .ok (.invokevirtual 247, 3) := by decide +kernel
theorem d_M_spec_236 : decode b_M_spec 236 = .ok (.goto 4, 3) := by decide +kernel
theorem d_M_spec_239 : decode b_M_spec 239 = .ok (.iconst 0, 1) := by decide +kernel
theorem d_M_spec_240 : decode b_M_spec 240 = .ok (.putfield 339, 3) := by decide +kernel
theorem d_M_spec_243 : decode b_M_spec 243 = .ok (.aload_n 0, 1) := by decide +kernel
theorem d_M_spec_244 : decode b_M_spec 244 = .ok (.aload_n 0, 1) := by decide +kernel
theorem d_M_spec_245 : decode b_M_spec 245 = .ok (.getfield 339, 3) := by decide +kernel
theorem d_M_spec_248 : decode b_M_spec 248 = .ok (.ifCond .le 12, 3) := by decide +kernel
theorem d_M_spec_251 : decode b_M_spec 251 = .ok (.aload_n 0, 1) := by decide +kernel
theorem d_M_spec_252 : decode b_M_spec 252 = .ok (.getfield 244, 3) := by decide +kernel
theorem d_M_spec_255 : decode b_M_spec 255 = .ok (.iconst 1, 1) := by decide +kernel
theorem d_M_spec_256 : decode b_M_spec 256 = .ok (.iadd, 1) := by decide +kernel
theorem d_M_spec_257 : decode b_M_spec 257 = .ok (.goto 7, 3) := by decide +kernel
theorem d_M_spec_260 : decode b_M_spec 260 = .ok (.aload_n 0, 1) := by decide +kernel
theorem d_M_spec_261 : decode b_M_spec 261 = .ok (.getfield 244, 3) := by decide +kernel
theorem d_M_spec_264 : decode b_M_spec 264 = .ok (.putfield 244, 3) := by decide +kernel
theorem d_M_spec_267 : decode b_M_spec 267 = .ok (.aload_n 0, 1) := by decide +kernel
theorem d_M_spec_268 : decode b_M_spec 268 = .ok (.bipush 46, 2) := by decide +kernel
theorem d_M_spec_270 : decode b_M_spec 270 = .ok (.invokevirtual 259, 3) := by decide +kernel
theorem d_M_spec_273 : decode b_M_spec 273 = .ok (.istore_n 2, 1) := by decide +kernel
theorem d_M_spec_274 : decode b_M_spec 274 = .ok (.aload_n 0, 1) := by decide +kernel
theorem d_M_spec_275 : decode b_M_spec 275 = .ok (.iload_n 2, 1) := by decide +kernel
theorem d_M_spec_276 : decode b_M_spec 276 = .ok (.ifCond .eq 10, 3) := by decide +kernel
theorem d_M_spec_279 : decode b_M_spec 279 = .ok (.aload_n 0, 1) := by decide +kernel
theorem d_M_spec_280 : decode b_M_spec 280 = .ok (.invokevirtual 333, 3) := by decide +kernel
theorem d_M_spec_283 : decode b_M_spec 283 = .ok (.goto 4, 3) := by decide +kernel
theorem d_M_spec_286 : decode b_M_spec 286 = .ok (.iconst (-1), 1) := by decide +kernel
theorem d_M_spec_287 : decode b_M_spec 287 = .ok (.putfield 342, 3) := by decide +kernel
theorem d_M_spec_290 : decode b_M_spec 290 = .ok (.aload_n 0, 1) := by decide +kernel
theorem d_M_spec_291 : decode b_M_spec 291 = .ok (.aload_n 0, 1) := by decide +kernel
theorem d_M_spec_292 : decode b_M_spec 292 = .ok (.getfield 244, 3) := by decide +kernel
theorem d_M_spec_295 : decode b_M_spec 295 = .ok (.invokevirtual 247, 3) := by decide +kernel
theorem d_M_spec_298 : decode b_M_spec 298 = .ok (.istore_n 3, 1) := by decide +kernel
theorem d_M_spec_299 : decode b_M_spec 299 = .ok (.aload_n 0, 1) := by decide +kernel
theorem d_M_spec_300 : decode b_M_spec 300 = .ok (.iload_n 3, 1) := by decide +kernel
theorem d_M_spec_301 : decode b_M_spec 301 = .ok (.bipush 100, 2) := by decide +kernel
theorem d_M_spec_303 : decode b_M_spec 303 = .ok (.if_icmp .eq 57, 3) := by decide +kernel
theorem d_M_spec_306 : decode b_M_spec 306 = .ok (.iload_n 3, 1) := by decide +kernel
theorem d_M_spec_307 : decode b_M_spec 307 = .ok (.bipush 98, 2) := by decide +kernel
theorem d_M_spec_309 : decode b_M_spec 309 = .ok (.if_icmp .eq 51, 3) := by decide +kernel
theorem d_M_spec_312 : decode b_M_spec 312 = .ok (.iload_n 3, 1) := by decide +kernel
theorem d_M_spec_313 : decode b_M_spec 313 = .ok (.bipush 120, 2) := by decide +kernel
theorem d_M_spec_315 : decode b_M_spec 315 = .ok (.if_icmp .eq 45, 3) := by decide +kernel
theorem d_M_spec_318 : decode b_M_spec 318 = .ok (.iload_n 3, 1) := by decide +kernel
theorem d_M_spec_319 : decode b_M_spec 319 = .ok (.bipush 88, 2) := by decide +kernel
theorem d_M_spec_321 : decode b_M_spec 321 = .ok (.if_icmp .eq 39, 3) := by decide +kernel
theorem d_M_spec_324 : decode b_M_spec 324 = .ok (.iload_n 3, 1) := by decide +kernel
theorem d_M_spec_325 : decode b_M_spec 325 = .ok (.bipush 101, 2) := by decide +kernel
theorem d_M_spec_327 : decode b_M_spec 327 = .ok (.if_icmp .eq 33, 3) := by decide +kernel
theorem d_M_spec_330 : decode b_M_spec 330 = .ok (.iload_n 3, 1) := by decide +kernel
theorem d_M_spec_331 : decode b_M_spec 331 = .ok (.bipush 69, 2) := by decide +kernel
theorem d_M_spec_333 : decode b_M_spec 333 = .ok (.if_icmp .eq 27, 3) := by decide +kernel
theorem d_M_spec_336 : decode b_M_spec 336 = .ok (.iload_n 3, 1) := by decide +kernel
theorem d_M_spec_337 : decode b_M_spec 337 = .ok (.bipush 102, 2) := by decide +kernel
theorem d_M_spec_339 : decode b_M_spec 339 = .ok (.if_icmp .eq 21, 3) := by decide +kernel
theorem d_M_spec_342 : decode b_M_spec 342 = .ok (.iload_n 3, 1) := by decide +kernel
theorem d_M_spec_343 : decode b_M_spec 343 = .ok (.bipush 103, 2) := by decide +kernel
theorem d_M_spec_345 : decode b_M_spec 345 = .ok (.if_icmp .eq 15, 3) := by decide +kernel
theorem d_M_spec_348 : decode b_M_spec 348 = .ok (.iload_n 3, 1) := by decide +kernel
theorem d_M_spec_349 : decode b_M_spec 349 = .ok (.bipush 71, 2) := by decide +kernel
theorem d_M_spec_351 : decode b_M_spec 351 = .ok (.if_icmp .eq 9, 3) := by decide +kernel
theorem d_M_spec_354 : decode b_M_spec 354 = .ok (.iload_n 3, 1) := by decide +kernel
theorem d_M_spec_355 : decode b_M_spec 355 = .ok (.bipush 37, 2) := by decide +kernel
theorem d_M_spec_357 : decode b_M_spec 357 = .ok (.if_icmp .ne 7, 3) := by decide +kernel
theorem d_M_spec_360 : decode b_M_spec 360 = .ok (.iload_n 3, 1) := by decide +kernel
theorem d_M_spec_361 : decode b_M_spec 361 = .ok (.goto 4, 3) := by decide +kernel
theorem d_M_spec_364 : decode b_M_spec 364 = .ok (.iconst 0, 1) := by decide +kernel
theorem d_M_spec_365 : decode b_M_spec 365 = .ok (.putfield 345, 3) := by decide +kernel
theorem d_M_spec_368 : decode b_M_spec 368 = .ok (.aload_n 0, 1) := by decide +kernel
theorem d_M_spec_369 : decode b_M_spec 369 = .ok (.aload_n 0, 1) := by decide +kernel
theorem d_M_spec_370 : decode b_M_spec 370 = .ok (.getfield 345, 3) := by decide +kernel
theorem d_M_spec_373 : decode b_M_spec 373 = .ok (.ifCond .le 12, 3) := by decide +kernel
theorem d_M_spec_376 : decode b_M_spec 376 = .ok (.aload_n 0, 1) := by decide +kernel
theorem d_M_spec_377 : decode b_M_spec 377 = .ok (.getfield 244, 3) := by decide +kernel
theorem d_M_spec_380 : decode b_M_spec 380 = .ok (.iconst 1, 1) := by decide +kernel
theorem d_M_spec_381 : decode b_M_spec 381 = .ok (.iadd, 1) := by decide +kernel
theorem d_M_spec_382 : decode b_M_spec 382 = .ok (.goto 7, 3) := by decide +kernel
theorem d_M_spec_385 : decode b_M_spec 385 = .ok (.aload_n 0, 1) := by decide +kernel
theorem d_M_spec_386 : decode b_M_spec 386 = .ok (.getfield 244, 3) := by decide +kernel
theorem d_M_spec_389 : decode b_M_spec 389 = .ok (.putfield 244, 3) := by decide +kernel
theorem d_M_spec_392 : decode b_M_spec 392 = .ok (.aload_n 0, 1) := by decide +kernel
theorem d_M_spec_393 : decode b_M_spec 393 = .ok (.aload_n 0, 1) := by decide +kernel
theorem d_M_spec_394 : decode b_M_spec 394 = .ok (.getfield 345, 3) := by decide +kernel
theorem d_M_spec_397 : decode b_M_spec 397 = .ok (.ifCond .le 10, 3) := by decide +kernel
theorem d_M_spec_400 : decode b_M_spec 400 = .ok (.aload_n 0, 1) := by decide +kernel
theorem d_M_spec_401 : decode b_M_spec 401 = .ok (.getfield 345, 3) := by decide +kernel
theorem d_M_spec_404 : decode b_M_spec 404 = .ok (.goto 14, 3) := by decide +kernel
theorem d_M_spec_407 : decode b_M_spec 407 = .ok (.iload_n 1, 1) := by decide +kernel
theorem d_M_spec_408 : decode b_M_spec 408 = .ok (.ifCond .ne 8, 3) := by decide +kernel
theorem d_M_spec_411 : decode b_M_spec 411 = .ok (.bipush 100, 2) := by decide +kernel
theorem d_M_spec_413 : decode b_M_spec 413 = .ok (.goto 5, 3) := by decide +kernel
theorem d_M_spec_416 : decode b_M_spec 416 = .ok (.bipush 103, 2) := by decide +kernel
theorem d_M_spec_418 : decode b_M_spec 418 = .ok (.putfield 345, 3) := by decide +kernel
theorem d_M_spec_421 : decode b_M_spec 421 = .ok (.aload_n 0, 1) := by decide +kernel
theorem d_M_spec_422 : decode b_M_spec 422 = .ok (.getfield 345, 3) := by decide +kernel
theorem d_M_spec_425 : decode b_M_spec 425 = .ok (.bipush 98, 2) := by decide +kernel
theorem d_M_spec_427 : decode b_M_spec 427 = .ok (.if_icmp .eq 21, 3) := by decide +kernel
theorem d_M_spec_430 : decode b_M_spec 430 = .ok (.aload_n 0, 1) := by decide +kernel
theorem d_M_spec_431 : decode b_M_spec 431 = .ok (.getfield 345, 3) := by decide +kernel
theorem d_M_spec_434 : decode b_M_spec 434 = .ok (.bipush 120, 2) := by decide +kernel
theorem d_M_spec_436 : decode b_M_spec 436 = .ok (.if_icmp .eq 12, 3) := by decide +kernel
theorem d_M_spec_439 : decode b_M_spec 439 = .ok (.aload_n 0, 1) := by decide +kernel
theorem d_M_spec_440 : decode b_M_spec 440 = .ok (.getfield 345, 3) := by decide +kernel
theorem d_M_spec_443 : decode b_M_spec 443 = .ok (.bipush 88, 2) := by decide +kernel
theorem d_M_spec_445 : decode b_M_spec 445 = .ok (.if_icmp .ne 7, 3) := by decide +kernel
theorem d_M_spec_448 : decode b_M_spec 448 = .ok (.iconst 1, 1) := by decide +kernel
theorem d_M_spec_449 : decode b_M_spec 449 = .ok (.goto 4, 3) := by decide +kernel
theorem d_M_spec_452 : decode b_M_spec 452 = .ok (.iconst 0, 1) := by decide +kernel
theorem d_M_spec_453 : decode b_M_spec 453 = .ok (.istore 4, 2) := by decide +kernel
theorem d_M_spec_455 : decode b_M_spec 455 = .ok (.aload_n 0, 1) := by decide +kernel
theorem d_M_spec_456 : decode b_M_spec 456 = .ok (.getfield 244, 3) := by decide +kernel
theorem d_M_spec_459 : decode b_M_spec 459 = .ok (.aload_n 0, 1) := by decide +kernel
theorem d_M_spec_460 : decode b_M_spec 460 = .ok (.getfield 241, 3) := by decide +kernel
theorem d_M_spec_463 : decode b_M_spec 463 = .ok (.if_icmp .ne 36, 3) := by decide +kernel
theorem d_M_spec_466 : decode b_M_spec 466 = .ok (.aload_n 0, 1) := by decide +kernel
theorem d_M_spec_467 : decode b_M_spec 467 = .ok (.getfield 336, 3) := by decide +kernel
theorem d_M_spec_470 : decode b_M_spec 470 = .ok (.bipush 40, 2) := by decide +kernel
theorem d_M_spec_472 : decode b_M_spec 472 = .ok (.if_icmp .gt 27, 3) := by decide +kernel
theorem d_M_spec_475 : decode b_M_spec 475 = .ok (.aload_n 0, 1) := by decide +kernel
theorem d_M_spec_476 : decode b_M_spec 476 = .ok (.getfield 342, 3) := by decide +kernel
theorem d_M_spec_479 : decode b_M_spec 479 = .ok (.bipush 20, 2) := by decide +kernel
theorem d_M_spec_481 : decode b_M_spec 481 = .ok (.if_icmp .gt 18, 3) := by decide +kernel
theorem d_M_spec_484 : decode b_M_spec 484 = .ok (.iload_n 2, 1) := by decide +kernel
theorem d_M_spec_485 : decode b_M_spec 485 = .ok (.ifCond .eq 10, 3) := by decide +kernel
theorem d_M_spec_488 : decode b_M_spec 488 = .ok (.aload_n 0, 1) := by decide +kernel
theorem d_M_spec_489 : decode b_M_spec 489 = .ok (.getfield 342, 3) := by decide +kernel
theorem d_M_spec_492 : decode b_M_spec 492 = .ok (.ifCond .lt 7, 3) := by decide +kernel
theorem d_M_spec_495 : decode b_M_spec 495 = .ok (.iconst 1, 1) := by decide +kernel
theorem d_M_spec_496 : decode b_M_spec 496 = .ok (.goto 4, 3) := by decide +kernel
theorem d_M_spec_499 : decode b_M_spec 499 = .ok (.iconst 0, 1) := by decide +kernel
theorem d_M_spec_500 : decode b_M_spec 500 = .ok (.istore 5, 2) := by decide +kernel
theorem d_M_spec_502 : decode b_M_spec 502 = .ok (.iload 4, 2) := by decide +kernel
theorem d_M_spec_504 : decode b_M_spec 504 = .ok (.ifCond .ne 12, 3) := by decide +kernel
theorem d_M_spec_507 : decode b_M_spec 507 = .ok (.aload_n 0, 1) := by decide +kernel
theorem d_M_spec_508 : decode b_M_spec 508 = .ok (.getfield 345, 3) := by decide +kernel
theorem d_M_spec_511 : decode b_M_spec 511 = .ok (.bipush 100, 2) := by decide +kernel
theorem d_M_spec_513 : decode b_M_spec 513 = .ok (.if_icmp .ne 41, 3) := by decide +kernel
theorem d_M_spec_516 : decode b_M_spec 516 = .ok (.iload 5, 2) := by decide +kernel
theorem d_M_spec_518 : decode b_M_spec 518 = .ok (.ifCond .eq 33, 3) := by decide +kernel
theorem d_M_spec_521 : decode b_M_spec 521 = .ok (.iload_n 1, 1) := by decide +kernel
theorem d_M_spec_522 : decode b_M_spec 522 = .ok (.ifCond .ne 29, 3) := by decide +kernel
theorem d_M_spec_525 : decode b_M_spec 525 = .ok (.iload_n 2, 1) := by decide +kernel
theorem d_M_spec_526 : decode b_M_spec 526 = .ok (.ifCond .ne 25, 3) := by decide +kernel
theorem d_M_spec_529 : decode b_M_spec 529 = .ok (.aload_n 0, 1) := by decide +kernel
theorem d_M_spec_530 : decode b_M_spec 530 = .ok (.getfield 345, 3) := by decide +kernel
theorem d_M_spec_533 : decode b_M_spec 533 = .ok (.bipush 100, 2) := by decide +kernel
theorem d_M_spec_535 : decode b_M_spec 535 = .ok (.if_icmp .eq 12, 3) := by decide +kernel
theorem d_M_spec_538 : decode b_M_spec 538 = .ok (.aload_n 0, 1) := by decide +kernel
theorem d_M_spec_539 : decode b_M_spec 539 = .ok (.getfield 339, 3) := by decide +kernel
theorem d_M_spec_542 : decode b_M_spec 542 = .ok (.bipush 44, 2) := by decide +kernel
theorem d_M_spec_544 : decode b_M_spec 544 = .ok (.if_icmp .eq 7, 3) := by decide +kernel
theorem d_M_spec_547 : decode b_M_spec 547 = .ok (.iconst 1, 1) := by decide +kernel
theorem d_M_spec_548 : decode b_M_spec 548 = .ok (.goto 4, 3) := by decide +kernel
theorem d_M_spec_551 : decode b_M_spec 551 = .ok (.iconst 0, 1) := by decide +kernel
theorem d_M_spec_552 : decode b_M_spec 552 = .ok (.istore 5, 2) := by decide +kernel
theorem d_M_spec_554 : decode b_M_spec 554 = .ok (.iload 5, 2) := by decide +kernel
theorem d_M_spec_556 : decode b_M_spec 556 = .ok (.ireturn, 1) := by decide +kernel
theorem d_M_rounded_0 : decode b_M_rounded 0 = .ok (.aload_n 0, 1) := by decide +kernel
theorem d_M_rounded_1 : decode b_M_rounded 1 = .ok (.iload_n 1, 1) := by decide +kernel
theorem d_M_rounded_2 : decode b_M_rounded 2 = .ok (.invokevirtual 288, 3) := by decide +kernel
theorem d_M_rounded_5 : decode b_M_rounded 5 = .ok (.aload_n 0, 1) := by decide +kernel
theorem d_M_rounded_6 : decode b_M_rounded 6 = .ok (.bipush 22, 2) := by decide +kernel
theorem d_M_rounded_8 : decode b_M_rounded 8 = .ok (.bipush 23, 2) := by decide +kernel
theorem d_M_rounded_10 : decode b_M_rounded 10 = .ok (.invokevirtual 211, 3) := by decide +kernel
theorem d_M_rounded_13 : decode b_M_rounded 13 = .ok (.aload_n 0, 1) := by decide +kernel
theorem d_M_rounded_14 : decode b_M_rounded 14 = .ok (.bipush 24, 2) := by decide +kernel
theorem d_M_rounded_16 : decode b_M_rounded 16 = .ok (.bipush 10, 2) := by decide +kernel
theorem d_M_rounded_18 : decode b_M_rounded 18 = .ok (.iload_n 2, 1) := by decide +kernel
theorem d_M_rounded_19 : decode b_M_rounded 19 = .ok (.invokevirtual 294, 3) := by decide +kernel
theorem d_M_rounded_22 : decode b_M_rounded 22 = .ok (.return_, 1) := by decide +kernel
theorem d_M_sayFixed_0 : decode b_M_sayFixed 0 = .ok (.aload_n 0, 1) := by decide +kernel
theorem d_M_sayFixed_1 : decode b_M_sayFixed 1 = .ok (.iload_n 1, 1) := by decide +kernel
theorem d_M_sayFixed_2 : decode b_M_sayFixed 2 = .ok (.iload_n 1, 1) := by decide +kernel
theorem d_M_sayFixed_3 : decode b_M_sayFixed 3 = .ok (.iconst 1, 1) := by decide +kernel
theorem d_M_sayFixed_4 : decode b_M_sayFixed 4 = .ok (.iadd, 1) := by decide +kernel
theorem d_M_sayFixed_5 : decode b_M_sayFixed 5 = .ok (.invokevirtual 348, 3) := by decide +kernel
theorem d_M_sayFixed_8 : decode b_M_sayFixed 8 = .ok (.aload_n 0, 1) := by decide +kernel
theorem d_M_sayFixed_9 : decode b_M_sayFixed 9 = .ok (.aload_n 0, 1) := by decide +kernel
theorem d_M_sayFixed_10 : decode b_M_sayFixed 10 = .ok (.getfield 268, 3) := by decide +kernel
theorem d_M_sayFixed_13 : decode b_M_sayFixed 13 = .ok (.iconst 1, 1) := by decide +kernel
theorem d_M_sayFixed_14 : decode b_M_sayFixed 14 = .ok (.isub, 1) := by decide +kernel
theorem d_M_sayFixed_15 : decode b_M_sayFixed 15 = .ok (.iload_n 1, 1) := by decide +kernel
theorem d_M_sayFixed_16 : decode b_M_sayFixed 16 = .ok (.iconst 3, 1) := by decide +kernel
theorem d_M_sayFixed_17 : decode b_M_sayFixed 17 = .ok (.aload_n 0, 1) := by decide +kernel
theorem d_M_sayFixed_18 : decode b_M_sayFixed 18 = .ok (.getfield 339, 3) := by decide +kernel
theorem d_M_sayFixed_21 : decode b_M_sayFixed 21 = .ok (.iconst 0, 1) := by decide +kernel
theorem d_M_sayFixed_22 : decode b_M_sayFixed 22 = .ok (.invokevirtual 300, 3) := by decide +kernel
theorem d_M_sayFixed_25 : decode b_M_sayFixed 25 = .ok (.iload_n 1, 1) := by decide +kernel
theorem d_M_sayFixed_26 : decode b_M_sayFixed 26 = .ok (.ifCond .gt 10, 3) := by decide +kernel
theorem d_M_sayFixed_29 : decode b_M_sayFixed 29 = .ok (.aload_n 0, 1) := by decide +kernel
theorem d_M_sayFixed_30 : decode b_M_sayFixed 30 = .ok (.getfield 327, 3) := by decide +kernel
theorem d_M_sayFixed_33 : decode b_M_sayFixed 33 = .ok (.ifCond .eq 9, 3) := by decide +kernel
theorem d_M_sayFixed_36 : decode b_M_sayFixed 36 = .ok (.aload_n 0, 1) := by decide +kernel
theorem d_M_sayFixed_37 : decode b_M_sayFixed 37 = .ok (.bipush 46, 2) := by decide +kernel
theorem d_M_sayFixed_39 : decode b_M_sayFixed 39 = .ok (.invokevirtual 278, 3) := by decide +kernel
theorem d_M_sayFixed_42 : decode b_M_sayFixed 42 = .ok (.aload_n 0, 1) := by decide +kernel
theorem d_M_sayFixed_43 : decode b_M_sayFixed 43 = .ok (.iload_n 1, 1) := by decide +kernel
theorem d_M_sayFixed_44 : decode b_M_sayFixed 44 = .ok (.iconst 1, 1) := by decide +kernel
theorem d_M_sayFixed_45 : decode b_M_sayFixed 45 = .ok (.isub, 1) := by decide +kernel
theorem d_M_sayFixed_46 : decode b_M_sayFixed 46 = .ok (.iconst 0, 1) := by decide +kernel
theorem d_M_sayFixed_47 : decode b_M_sayFixed 47 = .ok (.iconst 3, 1) := by decide +kernel
theorem d_M_sayFixed_48 : decode b_M_sayFixed 48 = .ok (.iconst 0, 1) := by decide +kernel
theorem d_M_sayFixed_49 : decode b_M_sayFixed 49 = .ok (.iconst 0, 1) := by decide +kernel
theorem d_M_sayFixed_50 : decode b_M_sayFixed 50 = .ok (.invokevirtual 300, 3) := by decide +kernel
theorem d_M_sayFixed_53 : decode b_M_sayFixed 53 = .ok (.return_, 1) := by decide +kernel
theorem d_M_floating_0 : decode b_M_floating 0 = .ok (.aload_n 0, 1) := by decide +kernel
theorem d_M_floating_1 : decode b_M_floating 1 = .ok (.bipush 31, 2) := by decide +kernel
theorem d_M_floating_3 : decode b_M_floating 3 = .ok (.invokevirtual 75, 3) := by decide +kernel
theorem d_M_floating_6 : decode b_M_floating 6 = .ok (.ifCond .eq 14, 3) := by decide +kernel
theorem d_M_floating_9 : decode b_M_floating 9 = .ok (.aload_n 0, 1) := by decide +kernel
theorem d_M_floating_10 : decode b_M_floating 10 = .ok (.bipush 31, 2) := by decide +kernel
theorem d_M_floating_12 : decode b_M_floating 12 = .ok (.bipush 10, 2) := by decide +kernel
theorem d_M_floating_14 : decode b_M_floating 14 = .ok (.iload_n 1, 1) := by decide +kernel
theorem d_M_floating_15 : decode b_M_floating 15 = .ok (.invokevirtual 294, 3) := by decide +kernel
theorem d_M_floating_18 : decode b_M_floating 18 = .ok (.iconst 0, 1) := by decide +kernel
theorem d_M_floating_19 : decode b_M_floating 19 = .ok (.ireturn, 1) := by decide +kernel
theorem d_M_floating_20 : decode b_M_floating 20 = .ok (.aload_n 0, 1) := by decide +kernel
theorem d_M_floating_21 : decode b_M_floating 21 = .ok (.invokevirtual 285, 3) := by decide +kernel
theorem d_M_floating_24 : decode b_M_floating 24 = .ok (.istore_n 2, 1) := by decide +kernel
theorem d_M_floating_25 : decode b_M_floating 25 = .ok (.aload_n 0, 1) := by decide +kernel
theorem d_M_floating_26 : decode b_M_floating 26 = .ok (.iload_n 1, 1) := by decide +kernel
theorem d_M_floating_27 : decode b_M_floating 27 = .ok (.iconst 1, 1) := by decide +kernel
theorem d_M_floating_28 : decode b_M_floating 28 = .ok (.isub, 1) := by decide +kernel
theorem d_M_floating_29 : decode b_M_floating 29 = .ok (.iload_n 2, 1) := by decide +kernel
theorem d_M_floating_30 : decode b_M_floating 30 = .ok (.isub, 1) := by decide +kernel
theorem d_M_floating_31 : decode b_M_floating 31 = .ok (.iconst 1, 1) := by decide +kernel
theorem d_M_floating_32 : decode b_M_floating 32 = .ok (.invokevirtual 348, 3) := by decide +kernel
theorem d_M_floating_35 : decode b_M_floating 35 = .ok (.aload_n 0, 1) := by decide +kernel
theorem d_M_floating_36 : decode b_M_floating 36 = .ok (.getfield 268, 3) := by decide +kernel
theorem d_M_floating_39 : decode b_M_floating 39 = .ok (.iload_n 1, 1) := by decide +kernel
theorem d_M_floating_40 : decode b_M_floating 40 = .ok (.if_icmp .le 16, 3) := by decide +kernel
theorem d_M_floating_43 : decode b_M_floating 43 = .ok (.iinc 2 1, 3) := by decide +kernel
theorem d_M_floating_46 : decode b_M_floating 46 = .ok (.aload_n 0, 1) := by decide +kernel
theorem d_M_floating_47 : decode b_M_floating 47 = .ok (.iload_n 1, 1) := by decide +kernel
theorem d_M_floating_48 : decode b_M_floating 48 = .ok (.iconst 1, 1) := by decide +kernel
theorem d_M_floating_49 : decode b_M_floating 49 = .ok (.isub, 1) := by decide +kernel
theorem d_M_floating_50 : decode b_M_floating 50 = .ok (.iload_n 2, 1) := by decide +kernel
theorem d_M_floating_51 : decode b_M_floating 51 = .ok (.isub, 1) := by decide +kernel
theorem d_M_floating_52 : decode b_M_floating 52 = .ok (.iconst 1, 1) := by decide +kernel
theorem d_M_floating_53 : decode b_M_floating 53 = .ok (.invokevirtual 348, 3) := by decide +kernel
theorem d_M_floating_56 : decode b_M_floating 56 = .ok (.iload_n 2, 1) := by decide +kernel
theorem d_M_floating_57 : decode b_M_floating 57 = .ok (.ireturn, 1) := by decide +kernel
theorem d_M_cut_0 : decode b_M_cut 0 = .ok (.iload_n 1, 1) := by decide +kernel
theorem d_M_cut_1 : decode b_M_cut 1 = .ok (.istore_n 2, 1) := by decide +kernel
theorem d_M_cut_2 : decode b_M_cut 2 = .ok (.iload_n 2, 1) := by decide +kernel
theorem d_M_cut_3 : decode b_M_cut 3 = .ok (.aload_n 0, 1) := by decide +kernel
theorem d_M_cut_4 : decode b_M_cut 4 = .ok (.getfield 265, 3) := by decide +kernel
theorem d_M_cut_7 : decode b_M_cut 7 = .ok (.if_icmp .ge 20, 3) := by decide +kernel
theorem d_M_cut_10 : decode b_M_cut 10 = .ok (.aload_n 0, 1) := by decide +kernel
theorem d_M_cut_11 : decode b_M_cut 11 = .ok (.getfield 36, 3) := by decide +kernel
theorem d_M_cut_14 : decode b_M_cut 14 = .ok (.iload_n 2, 1) := by decide +kernel
theorem d_M_cut_15 : decode b_M_cut 15 = .ok (.iaload, 1) := by decide +kernel
theorem d_M_cut_16 : decode b_M_cut 16 = .ok (.bipush 46, 2) := by decide +kernel
theorem d_M_cut_18 : decode b_M_cut 18 = .ok (.if_icmp .eq 9, 3) := by decide +kernel
theorem d_M_cut_21 : decode b_M_cut 21 = .ok (.iinc 2 1, 3) := by decide +kernel
theorem d_M_cut_24 : decode b_M_cut 24 = .ok (.goto (-22), 3) := by decide +kernel
theorem d_M_cut_27 : decode b_M_cut 27 = .ok (.iload_n 2, 1) := by decide +kernel
theorem d_M_cut_28 : decode b_M_cut 28 = .ok (.aload_n 0, 1) := by decide +kernel
theorem d_M_cut_29 : decode b_M_cut 29 = .ok (.getfield 265, 3) := by decide +kernel
theorem d_M_cut_32 : decode b_M_cut 32 = .ok (.if_icmp .ne 4, 3) := by decide +kernel
theorem d_M_cut_35 : decode b_M_cut 35 = .ok (.return_, 1) := by decide +kernel
theorem d_M_cut_36 : decode b_M_cut 36 = .ok (.aload_n 0, 1) := by decide +kernel
theorem d_M_cut_37 : decode b_M_cut 37 = .ok (.getfield 36, 3) := by decide +kernel
theorem d_M_cut_40 : decode b_M_cut 40 = .ok (.aload_n 0, 1) := by decide +kernel
theorem d_M_cut_41 : decode b_M_cut 41 = .ok (.getfield 265, 3) := by decide +kernel
theorem d_M_cut_44 : decode b_M_cut 44 = .ok (.iconst 1, 1) := by decide +kernel
theorem d_M_cut_45 : decode b_M_cut 45 = .ok (.isub, 1) := by decide +kernel
theorem d_M_cut_46 : decode b_M_cut 46 = .ok (.iaload, 1) := by decide +kernel
theorem d_M_cut_47 : decode b_M_cut 47 = .ok (.bipush 48, 2) := by decide +kernel
theorem d_M_cut_49 : decode b_M_cut 49 = .ok (.if_icmp .ne 16, 3) := by decide +kernel
theorem d_M_cut_52 : decode b_M_cut 52 = .ok (.aload_n 0, 1) := by decide +kernel
theorem d_M_cut_53 : decode b_M_cut 53 = .ok (.dup, 1) := by decide +kernel
theorem d_M_cut_54 : decode b_M_cut 54 = .ok (.getfield 265, 3) := by decide +kernel
theorem d_M_cut_57 : decode b_M_cut 57 = .ok (.iconst 1, 1) := by decide +kernel
theorem d_M_cut_58 : decode b_M_cut 58 = .ok (.isub, 1) := by decide +kernel
theorem d_M_cut_59 : decode b_M_cut 59 = .ok (.putfield 265, 3) := by decide +kernel
theorem d_M_cut_62 : decode b_M_cut 62 = .ok (.goto (-26), 3) := by decide +kernel
theorem d_M_cut_65 : decode b_M_cut 65 = .ok (.aload_n 0, 1) := by decide +kernel
theorem d_M_cut_66 : decode b_M_cut 66 = .ok (.aload_n 0, 1) := by decide +kernel
theorem d_M_cut_67 : decode b_M_cut 67 = .ok (.getfield 265, 3) := by decide +kernel
theorem d_M_cut_70 : decode b_M_cut 70 = .ok (.iconst 1, 1) := by decide +kernel
theorem d_M_cut_71 : decode b_M_cut 71 = .ok (.isub, 1) := by decide +kernel
theorem d_M_cut_72 : decode b_M_cut 72 = .ok (.iload_n 2, 1) := by decide +kernel
theorem d_M_cut_73 : decode b_M_cut 73 = .ok (.if_icmp .ne 7, 3) := by decide +kernel
theorem d_M_cut_76 : decode b_M_cut 76 = .ok (.iload_n 2, 1) := by decide +kernel
theorem d_M_cut_77 : decode b_M_cut 77 = .ok (.goto 7, 3) := by decide +kernel
theorem d_M_cut_80 : decode b_M_cut 80 = .ok (.aload_n 0, 1) := by decide +kernel
theorem d_M_cut_81 : decode b_M_cut 81 = .ok (.getfield 265, 3) := by decide +kernel
theorem d_M_cut_84 : decode b_M_cut 84 = .ok (.putfield 265, 3) := by decide +kernel
theorem d_M_cut_87 : decode b_M_cut 87 = .ok (.return_, 1) := by decide +kernel
theorem d_M_sayFloat_0 : decode b_M_sayFloat 0 = .ok (.aload_n 0, 1) := by decide +kernel
theorem d_M_sayFloat_1 : decode b_M_sayFloat 1 = .ok (.iload_n 1, 1) := by decide +kernel
theorem d_M_sayFloat_2 : decode b_M_sayFloat 2 = .ok (.invokevirtual 351, 3) := by decide +kernel
theorem d_M_sayFloat_5 : decode b_M_sayFloat 5 = .ok (.istore 4, 2) := by decide +kernel
theorem d_M_sayFloat_7 : decode b_M_sayFloat 7 = .ok (.aload_n 0, 1) := by decide +kernel
theorem d_M_sayFloat_8 : decode b_M_sayFloat 8 = .ok (.getfield 265, 3) := by decide +kernel
theorem d_M_sayFloat_11 : decode b_M_sayFloat 11 = .ok (.istore 5, 2) := by decide +kernel
theorem d_M_sayFloat_13 : decode b_M_sayFloat 13 = .ok (.aload_n 0, 1) := by decide +kernel
theorem d_M_sayFloat_14 : decode b_M_sayFloat 14 = .ok (.aload_n 0, 1) := by decide +kernel
theorem d_M_sayFloat_15 : decode b_M_sayFloat 15 = .ok (.aload_n 0, 1) := by decide +kernel
theorem d_M_sayFloat_16 : decode b_M_sayFloat 16 = .ok (.getfield 268, 3) := by decide +kernel
theorem d_M_sayFloat_19 : decode b_M_sayFloat 19 = .ok (.iconst 1, 1) := by decide +kernel
theorem d_M_sayFloat_20 : decode b_M_sayFloat 20 = .ok (.isub, 1) := by decide +kernel
theorem d_M_sayFloat_21 : decode b_M_sayFloat 21 = .ok (.iconst 0, 1) := by decide +kernel
theorem d_M_sayFloat_22 : decode b_M_sayFloat 22 = .ok (.invokevirtual 274, 3) := by decide +kernel
theorem d_M_sayFloat_25 : decode b_M_sayFloat 25 = .ok (.invokevirtual 278, 3) := by decide +kernel
theorem d_M_sayFloat_28 : decode b_M_sayFloat 28 = .ok (.iload_n 1, 1) := by decide +kernel
theorem d_M_sayFloat_29 : decode b_M_sayFloat 29 = .ok (.iconst 1, 1) := by decide +kernel
theorem d_M_sayFloat_30 : decode b_M_sayFloat 30 = .ok (.if_icmp .gt 10, 3) := by decide +kernel
theorem d_M_sayFloat_33 : decode b_M_sayFloat 33 = .ok (.aload_n 0, 1) := by decide +kernel
theorem d_M_sayFloat_34 : decode b_M_sayFloat 34 = .ok (.getfield 327, 3) := by decide +kernel
theorem d_M_sayFloat_37 : decode b_M_sayFloat 37 = .ok (.ifCond .eq 9, 3) := by decide +kernel
theorem d_M_sayFloat_40 : decode b_M_sayFloat 40 = .ok (.aload_n 0, 1) := by decide +kernel
theorem d_M_sayFloat_41 : decode b_M_sayFloat 41 = .ok (.bipush 46, 2) := by decide +kernel
theorem d_M_sayFloat_43 : decode b_M_sayFloat 43 = .ok (.invokevirtual 278, 3) := by decide +kernel
theorem d_M_sayFloat_46 : decode b_M_sayFloat 46 = .ok (.aload_n 0, 1) := by decide +kernel
theorem d_M_sayFloat_47 : decode b_M_sayFloat 47 = .ok (.iload_n 1, 1) := by decide +kernel
theorem d_M_sayFloat_48 : decode b_M_sayFloat 48 = .ok (.iconst 2, 1) := by decide +kernel
theorem d_M_sayFloat_49 : decode b_M_sayFloat 49 = .ok (.isub, 1) := by decide +kernel
theorem d_M_sayFloat_50 : decode b_M_sayFloat 50 = .ok (.iconst 0, 1) := by decide +kernel
theorem d_M_sayFloat_51 : decode b_M_sayFloat 51 = .ok (.iconst 3, 1) := by decide +kernel
theorem d_M_sayFloat_52 : decode b_M_sayFloat 52 = .ok (.iconst 0, 1) := by decide +kernel
theorem d_M_sayFloat_53 : decode b_M_sayFloat 53 = .ok (.iconst 0, 1) := by decide +kernel
theorem d_M_sayFloat_54 : decode b_M_sayFloat 54 = .ok (.invokevirtual 300, 3) := by decide +kernel
theorem d_M_sayFloat_57 : decode b_M_sayFloat 57 = .ok (.iload_n 2, 1) := by decide +kernel
theorem d_M_sayFloat_58 : decode b_M_sayFloat 58 = .ok (.ifCond .eq 9, 3) := by decide +kernel
theorem d_M_sayFloat_61 : decode b_M_sayFloat 61 = .ok (.aload_n 0, 1) := by decide +kernel
theorem d_M_sayFloat_62 : decode b_M_sayFloat 62 = .ok (.iload 5, 2) := by decide +kernel
theorem d_M_sayFloat_64 : decode b_M_sayFloat 64 = .ok (.invokevirtual 354, 3) := by decide +kernel
theorem d_M_sayFloat_67 : decode b_M_sayFloat 67 = .ok (.aload_n 0, 1) := by decide +kernel
theorem d_M_sayFloat_68 : decode b_M_sayFloat 68 = .ok (.iload 4, 2) := by decide +kernel
theorem d_M_sayFloat_70 : decode b_M_sayFloat 70 = .ok (.iload_n 3, 1) := by decide +kernel
theorem d_M_sayFloat_71 : decode b_M_sayFloat 71 = .ok (.invokevirtual 304, 3) := by decide +kernel
theorem d_M_sayFloat_74 : decode b_M_sayFloat 74 = .ok (.return_, 1) := by decide +kernel
theorem d_M_sayGeneral_0 : decode b_M_sayGeneral 0 = .ok (.aload_n 0, 1) := by decide +kernel
theorem d_M_sayGeneral_1 : decode b_M_sayGeneral 1 = .ok (.getfield 342, 3) := by decide +kernel
theorem d_M_sayGeneral_4 : decode b_M_sayGeneral 4 = .ok (.ifCond .ge 8, 3) := by decide +kernel
theorem d_M_sayGeneral_7 : decode b_M_sayGeneral 7 = .ok (.bipush 6, 2) := by decide +kernel
theorem d_M_sayGeneral_9 : decode b_M_sayGeneral 9 = .ok (.goto 18, 3) := by decide +kernel
theorem d_M_sayGeneral_12 : decode b_M_sayGeneral 12 = .ok (.aload_n 0, 1) := by decide +kernel
theorem d_M_sayGeneral_13 : decode b_M_sayGeneral 13 = .ok (.getfield 342, 3) := by decide +kernel
theorem d_M_sayGeneral_16 : decode b_M_sayGeneral 16 = .ok (.ifCond .ne 7, 3) := by decide +kernel
theorem d_M_sayGeneral_19 : decode b_M_sayGeneral 19 = .ok (.iconst 1, 1) := by decide +kernel
theorem d_M_sayGeneral_20 : decode b_M_sayGeneral 20 = .ok (.goto 7, 3) := by decide +kernel
theorem d_M_sayGeneral_23 : decode b_M_sayGeneral 23 = .ok (.aload_n 0, 1) := by decide +kernel
theorem d_M_sayGeneral_24 : decode b_M_sayGeneral 24 = .ok (.getfield 342, 3) := by decide +kernel
theorem d_M_sayGeneral_27 : decode b_M_sayGeneral 27 = .ok (.istore_n 2, 1) := by decide +kernel
theorem d_M_sayGeneral_28 : decode b_M_sayGeneral 28 = .ok (.aload_n 0, 1) := by decide +kernel
theorem d_M_sayGeneral_29 : decode b_M_sayGeneral 29 = .ok (.iload_n 2, 1) := by decide +kernel
theorem d_M_sayGeneral_30 : decode b_M_sayGeneral 30 = .ok (.invokevirtual 351, 3) := by decide +kernel
theorem d_M_sayGeneral_33 : decode b_M_sayGeneral 33 = .ok (.istore_n 3, 1) := by decide +kernel
theorem d_M_sayGeneral_34 : decode b_M_sayGeneral 34 = .ok (.aload_n 0, 1) := by decide +kernel
theorem d_M_sayGeneral_35 : decode b_M_sayGeneral 35 = .ok (.getfield 265, 3) := by decide +kernel
theorem d_M_sayGeneral_38 : decode b_M_sayGeneral 38 = .ok (.istore 4, 2) := by decide +kernel
theorem d_M_sayGeneral_40 : decode b_M_sayGeneral 40 = .ok (.iload_n 3, 1) := by decide +kernel
theorem d_M_sayGeneral_41 : decode b_M_sayGeneral 41 = .ok (.bipush (-4), 2) := by decide +kernel
theorem d_M_sayGeneral_43 : decode b_M_sayGeneral 43 = .ok (.iload_n 2, 1) := by decide +kernel
theorem d_M_sayGeneral_44 : decode b_M_sayGeneral 44 = .ok (.iconst 1, 1) := by decide +kernel
theorem d_M_sayGeneral_45 : decode b_M_sayGeneral 45 = .ok (.isub, 1) := by decide +kernel
theorem d_M_sayGeneral_46 : decode b_M_sayGeneral 46 = .ok (.invokestatic 138, 3) := by decide +kernel
theorem d_M_sayGeneral_49 : decode b_M_sayGeneral 49 = .ok (.ifCond .ne 22, 3) := by decide +kernel
theorem d_M_sayGeneral_52 : decode b_M_sayGeneral 52 = .ok (.aload_n 0, 1) := by decide +kernel
theorem d_M_sayGeneral_53 : decode b_M_sayGeneral 53 = .ok (.iload_n 2, 1) := by decide +kernel
theorem d_M_sayGeneral_54 : decode b_M_sayGeneral 54 = .ok (.aload_n 0, 1) := by decide +kernel
theorem d_M_sayGeneral_55 : decode b_M_sayGeneral 55 = .ok (.getfield 327, 3) := by decide +kernel
theorem d_M_sayGeneral_58 : decode b_M_sayGeneral 58 = .ok (.ifCond .ne 7, 3) := by decide +kernel
theorem d_M_sayGeneral_61 : decode b_M_sayGeneral 61 = .ok (.iconst 1, 1) := by decide +kernel
theorem d_M_sayGeneral_62 : decode b_M_sayGeneral 62 = .ok (.goto 4, 3) := by decide +kernel
theorem d_M_sayGeneral_65 : decode b_M_sayGeneral 65 = .ok (.iconst 0, 1) := by decide +kernel
theorem d_M_sayGeneral_66 : decode b_M_sayGeneral 66 = .ok (.iload_n 1, 1) := by decide +kernel
theorem d_M_sayGeneral_67 : decode b_M_sayGeneral 67 = .ok (.invokevirtual 357, 3) := by decide +kernel
theorem d_M_sayGeneral_70 : decode b_M_sayGeneral 70 = .ok (.return_, 1) := by decide +kernel
theorem d_M_sayGeneral_71 : decode b_M_sayGeneral 71 = .ok (.aload_n 0, 1) := by decide +kernel
theorem d_M_sayGeneral_72 : decode b_M_sayGeneral 72 = .ok (.iload_n 2, 1) := by decide +kernel
theorem d_M_sayGeneral_73 : decode b_M_sayGeneral 73 = .ok (.iconst 1, 1) := by decide +kernel
theorem d_M_sayGeneral_74 : decode b_M_sayGeneral 74 = .ok (.isub, 1) := by decide +kernel
theorem d_M_sayGeneral_75 : decode b_M_sayGeneral 75 = .ok (.iload_n 3, 1) := by decide +kernel
theorem d_M_sayGeneral_76 : decode b_M_sayGeneral 76 = .ok (.isub, 1) := by decide +kernel
theorem d_M_sayGeneral_77 : decode b_M_sayGeneral 77 = .ok (.invokevirtual 360, 3) := by decide +kernel
theorem d_M_sayGeneral_80 : decode b_M_sayGeneral 80 = .ok (.aload_n 0, 1) := by decide +kernel
theorem d_M_sayGeneral_81 : decode b_M_sayGeneral 81 = .ok (.getfield 327, 3) := by decide +kernel
theorem d_M_sayGeneral_84 : decode b_M_sayGeneral 84 = .ok (.ifCond .ne 9, 3) := by decide +kernel
theorem d_M_sayGeneral_87 : decode b_M_sayGeneral 87 = .ok (.aload_n 0, 1) := by decide +kernel
theorem d_M_sayGeneral_88 : decode b_M_sayGeneral 88 = .ok (.iload 4, 2) := by decide +kernel
theorem d_M_sayGeneral_90 : decode b_M_sayGeneral 90 = .ok (.invokevirtual 354, 3) := by decide +kernel
theorem d_M_sayGeneral_93 : decode b_M_sayGeneral 93 = .ok (.return_, 1) := by decide +kernel
theorem d_M_body_0 : decode b_M_body 0 = .ok (.aload_n 0, 1) := by decide +kernel
theorem d_M_body_1 : decode b_M_body 1 = .ok (.getfield 342, 3) := by decide +kernel
theorem d_M_body_4 : decode b_M_body 4 = .ok (.ifCond .ge 8, 3) := by decide +kernel
theorem d_M_body_7 : decode b_M_body 7 = .ok (.bipush 6, 2) := by decide +kernel
theorem d_M_body_9 : decode b_M_body 9 = .ok (.goto 7, 3) := by decide +kernel
theorem d_M_body_12 : decode b_M_body 12 = .ok (.aload_n 0, 1) := by decide +kernel
theorem d_M_body_13 : decode b_M_body 13 = .ok (.getfield 342, 3) := by decide +kernel
theorem d_M_body_16 : decode b_M_body 16 = .ok (.istore_n 1, 1) := by decide +kernel
theorem d_M_body_17 : decode b_M_body 17 = .ok (.aload_n 0, 1) := by decide +kernel
theorem d_M_body_18 : decode b_M_body 18 = .ok (.getfield 345, 3) := by decide +kernel
theorem d_M_body_21 : decode b_M_body 21 = .ok (.lookupswitch 202 #[(37, 164), (69, 187), (88, 75), (98, 75), (100, 75), (101, 187), (102, 156), (120, 75)], 75) := by decide +kernel
theorem d_M_body_96 : decode b_M_body 96 = .ok (.aload_n 0, 1) := by decide +kernel
theorem d_M_body_97 : decode b_M_body 97 = .ok (.getfield 345, 3) := by decide +kernel
theorem d_M_body_100 : decode b_M_body 100 = .ok (.bipush 100, 2) := by decide +kernel
theorem d_M_body_102 : decode b_M_body 102 = .ok (.if_icmp .ne 8, 3) := by decide +kernel
theorem d_M_body_105 : decode b_M_body 105 = .ok (.bipush 10, 2) := by decide +kernel
theorem d_M_body_107 : decode b_M_body 107 = .ok (.goto 18, 3) := by decide +kernel
theorem d_M_body_110 : decode b_M_body 110 = .ok (.aload_n 0, 1) := by decide +kernel
theorem d_M_body_111 : decode b_M_body 111 = .ok (.getfield 345, 3) := by decide +kernel
theorem d_M_body_114 : decode b_M_body 114 = .ok (.bipush 98, 2) := by decide +kernel
theorem d_M_body_116 : decode b_M_body 116 = .ok (.if_icmp .ne 7, 3) := by decide +kernel
theorem d_M_body_119 : decode b_M_body 119 = .ok (.iconst 2, 1) := by decide +kernel
theorem d_M_body_120 : decode b_M_body 120 = .ok (.goto 5, 3) := by decide +kernel
theorem d_M_body_123 : decode b_M_body 123 = .ok (.bipush 16, 2) := by decide +kernel
theorem d_M_body_125 : decode b_M_body 125 = .ok (.istore_n 2, 1) := by decide +kernel
theorem d_M_body_126 : decode b_M_body 126 = .ok (.aload_n 0, 1) := by decide +kernel
theorem d_M_body_127 : decode b_M_body 127 = .ok (.bipush 31, 2) := by decide +kernel
theorem d_M_body_129 : decode b_M_body 129 = .ok (.iload_n 2, 1) := by decide +kernel
theorem d_M_body_130 : decode b_M_body 130 = .ok (.iconst 1, 1) := by decide +kernel
theorem d_M_body_131 : decode b_M_body 131 = .ok (.invokevirtual 294, 3) := by decide +kernel
theorem d_M_body_134 : decode b_M_body 134 = .ok (.aload_n 0, 1) := by decide +kernel
theorem d_M_body_135 : decode b_M_body 135 = .ok (.aload_n 0, 1) := by decide +kernel
theorem d_M_body_136 : decode b_M_body 136 = .ok (.getfield 268, 3) := by decide +kernel
theorem d_M_body_139 : decode b_M_body 139 = .ok (.iconst 1, 1) := by decide +kernel
theorem d_M_body_140 : decode b_M_body 140 = .ok (.isub, 1) := by decide +kernel
theorem d_M_body_141 : decode b_M_body 141 = .ok (.iconst 0, 1) := by decide +kernel
theorem d_M_body_142 : decode b_M_body 142 = .ok (.iload_n 2, 1) := by decide +kernel
theorem d_M_body_143 : decode b_M_body 143 = .ok (.bipush 10, 2) := by decide +kernel
theorem d_M_body_145 : decode b_M_body 145 = .ok (.if_icmp .ne 7, 3) := by decide +kernel
theorem d_M_body_148 : decode b_M_body 148 = .ok (.iconst 3, 1) := by decide +kernel
theorem d_M_body_149 : decode b_M_body 149 = .ok (.goto 4, 3) := by decide +kernel
theorem d_M_body_152 : decode b_M_body 152 = .ok (.iconst 4, 1) := by decide +kernel
theorem d_M_body_153 : decode b_M_body 153 = .ok (.aload_n 0, 1) := by decide +kernel
theorem d_M_body_154 : decode b_M_body 154 = .ok (.getfield 339, 3) := by decide +kernel
theorem d_M_body_157 : decode b_M_body 157 = .ok (.aload_n 0, 1) := by decide +kernel
theorem d_M_body_158 : decode b_M_body 158 = .ok (.getfield 345, 3) := by decide +kernel
theorem d_M_body_161 : decode b_M_body 161 = .ok (.bipush 88, 2) := by decide +kernel
theorem d_M_body_163 : decode b_M_body 163 = .ok (.if_icmp .ne 7, 3) := by decide +kernel
theorem d_M_body_166 : decode b_M_body 166 = .ok (.iconst 1, 1) := by decide +kernel
theorem d_M_body_167 : decode b_M_body 167 = .ok (.goto 4, 3) := by decide +kernel
theorem d_M_body_170 : decode b_M_body 170 = .ok (.iconst 0, 1) := by decide +kernel
theorem d_M_body_171 : decode b_M_body 171 = .ok (.invokevirtual 300, 3) := by decide +kernel
theorem d_M_body_174 : decode b_M_body 174 = .ok (.goto 69, 3) := by decide +kernel
theorem d_M_body_177 : decode b_M_body 177 = .ok (.aload_n 0, 1) := by decide +kernel
theorem d_M_body_178 : decode b_M_body 178 = .ok (.iload_n 1, 1) := by decide +kernel
theorem d_M_body_179 : decode b_M_body 179 = .ok (.invokevirtual 360, 3) := by decide +kernel
theorem d_M_body_182 : decode b_M_body 182 = .ok (.goto 61, 3) := by decide +kernel
theorem d_M_body_185 : decode b_M_body 185 = .ok (.aload_n 0, 1) := by decide +kernel
theorem d_M_body_186 : decode b_M_body 186 = .ok (.bipush 31, 2) := by decide +kernel
theorem d_M_body_188 : decode b_M_body 188 = .ok (.bipush 100, 2) := by decide +kernel
theorem d_M_body_190 : decode b_M_body 190 = .ok (.iconst 0, 1) := by decide +kernel
theorem d_M_body_191 : decode b_M_body 191 = .ok (.invokevirtual 54, 3) := by decide +kernel
theorem d_M_body_194 : decode b_M_body 194 = .ok (.aload_n 0, 1) := by decide +kernel
theorem d_M_body_195 : decode b_M_body 195 = .ok (.iload_n 1, 1) := by decide +kernel
theorem d_M_body_196 : decode b_M_body 196 = .ok (.invokevirtual 360, 3) := by decide +kernel
theorem d_M_body_199 : decode b_M_body 199 = .ok (.aload_n 0, 1) := by decide +kernel
theorem d_M_body_200 : decode b_M_body 200 = .ok (.bipush 37, 2) := by decide +kernel
theorem d_M_body_202 : decode b_M_body 202 = .ok (.invokevirtual 278, 3) := by decide +kernel
theorem d_M_body_205 : decode b_M_body 205 = .ok (.goto 38, 3) := by decide +kernel
theorem d_M_body_208 : decode b_M_body 208 = .ok (.aload_n 0, 1) := by decide +kernel
theorem d_M_body_209 : decode b_M_body 209 = .ok (.iload_n 1, 1) := by decide +kernel
theorem d_M_body_210 : decode b_M_body 210 = .ok (.iconst 1, 1) := by decide +kernel
theorem d_M_body_211 : decode b_M_body 211 = .ok (.iadd, 1) := by decide +kernel
theorem d_M_body_212 : decode b_M_body 212 = .ok (.iconst 0, 1) := by decide +kernel
theorem d_M_body_213 : decode b_M_body 213 = .ok (.aload_n 0, 1) := by decide +kernel
theorem d_M_body_214 : decode b_M_body 214 = .ok (.getfield 345, 3) := by decide +kernel
theorem d_M_body_217 : decode b_M_body 217 = .ok (.invokevirtual 357, 3) := by decide +kernel
theorem d_M_body_220 : decode b_M_body 220 = .ok (.goto 23, 3) := by decide +kernel
theorem d_M_body_223 : decode b_M_body 223 = .ok (.aload_n 0, 1) := by decide +kernel
theorem d_M_body_224 : decode b_M_body 224 = .ok (.aload_n 0, 1) := by decide +kernel
theorem d_M_body_225 : decode b_M_body 225 = .ok (.getfield 345, 3) := by decide +kernel
theorem d_M_body_228 : decode b_M_body 228 = .ok (.bipush 71, 2) := by decide +kernel
theorem d_M_body_230 : decode b_M_body 230 = .ok (.if_icmp .ne 8, 3) := by decide +kernel
theorem d_M_body_233 : decode b_M_body 233 = .ok (.bipush 69, 2) := by decide +kernel
theorem d_M_body_235 : decode b_M_body 235 = .ok (.goto 5, 3) := by decide +kernel
theorem d_M_body_238 : decode b_M_body 238 = .ok (.bipush 101, 2) := by decide +kernel
theorem d_M_body_240 : decode b_M_body 240 = .ok (.invokevirtual 363, 3) := by decide +kernel
theorem d_M_body_243 : decode b_M_body 243 = .ok (.return_, 1) := by decide +kernel
theorem d_M_format_0 : decode b_M_format 0 = .ok (.aload_n 0, 1) := by decide +kernel
theorem d_M_format_1 : decode b_M_format 1 = .ok (.iconst 0, 1) := by decide +kernel
theorem d_M_format_2 : decode b_M_format 2 = .ok (.putfield 39, 3) := by decide +kernel
theorem d_M_format_5 : decode b_M_format 5 = .ok (.aload_n 0, 1) := by decide +kernel
theorem d_M_format_6 : decode b_M_format 6 = .ok (.iload_n 1, 1) := by decide +kernel
theorem d_M_format_7 : decode b_M_format 7 = .ok (.invokevirtual 176, 3) := by decide +kernel
theorem d_M_format_10 : decode b_M_format 10 = .ok (.ifCond .eq 20, 3) := by decide +kernel
theorem d_M_format_13 : decode b_M_format 13 = .ok (.aload_n 0, 1) := by decide +kernel
theorem d_M_format_14 : decode b_M_format 14 = .ok (.aload_n 0, 1) := by decide +kernel
theorem d_M_format_15 : decode b_M_format 15 = .ok (.getfield 16, 3) := by decide +kernel
theorem d_M_format_18 : decode b_M_format 18 = .ok (.iload_n 1, 1) := by decide +kernel
theorem d_M_format_19 : decode b_M_format 19 = .ok (.iaload, 1) := by decide +kernel
theorem d_M_format_20 : decode b_M_format 20 = .ok (.invokevirtual 366, 3) := by decide +kernel
theorem d_M_format_23 : decode b_M_format 23 = .ok (.ifCond .eq 7, 3) := by decide +kernel
theorem d_M_format_26 : decode b_M_format 26 = .ok (.iconst 1, 1) := by decide +kernel
theorem d_M_format_27 : decode b_M_format 27 = .ok (.goto 4, 3) := by decide +kernel
theorem d_M_format_30 : decode b_M_format 30 = .ok (.iconst 0, 1) := by decide +kernel
theorem d_M_format_31 : decode b_M_format 31 = .ok (.istore_n 2, 1) := by decide +kernel
theorem d_M_format_32 : decode b_M_format 32 = .ok (.aload_n 0, 1) := by decide +kernel
theorem d_M_format_33 : decode b_M_format 33 = .ok (.iconst 0, 1) := by decide +kernel
theorem d_M_format_34 : decode b_M_format 34 = .ok (.putfield 241, 3) := by decide +kernel
theorem d_M_format_37 : decode b_M_format 37 = .ok (.iload_n 2, 1) := by decide +kernel
theorem d_M_format_38 : decode b_M_format 38 = .ok (.ifCond .ne 9, 3) := by decide +kernel
theorem d_M_format_41 : decode b_M_format 41 = .ok (.aload_n 0, 1) := by decide +kernel
theorem d_M_format_42 : decode b_M_format 42 = .ok (.iconst 1, 1) := by decide +kernel
theorem d_M_format_43 : decode b_M_format 43 = .ok (.invokevirtual 135, 3) := by decide +kernel
theorem d_M_format_46 : decode b_M_format 46 = .ok (.ireturn, 1) := by decide +kernel
theorem d_M_format_47 : decode b_M_format 47 = .ok (.aload_n 0, 1) := by decide +kernel
theorem d_M_format_48 : decode b_M_format 48 = .ok (.iload_n 1, 1) := by decide +kernel
theorem d_M_format_49 : decode b_M_format 49 = .ok (.bipush 31, 2) := by decide +kernel
theorem d_M_format_51 : decode b_M_format 51 = .ok (.bipush 28, 2) := by decide +kernel
theorem d_M_format_53 : decode b_M_format 53 = .ok (.invokevirtual 182, 3) := by decide +kernel
theorem d_M_format_56 : decode b_M_format 56 = .ok (.istore_n 3, 1) := by decide +kernel
theorem d_M_format_57 : decode b_M_format 57 = .ok (.aload_n 0, 1) := by decide +kernel
theorem d_M_format_58 : decode b_M_format 58 = .ok (.iconst 0, 1) := by decide +kernel
theorem d_M_format_59 : decode b_M_format 59 = .ok (.putfield 265, 3) := by decide +kernel
theorem d_M_format_62 : decode b_M_format 62 = .ok (.iload_n 3, 1) := by decide +kernel
theorem d_M_format_63 : decode b_M_format 63 = .ok (.ifCond .eq 12, 3) := by decide +kernel
theorem d_M_format_66 : decode b_M_format 66 = .ok (.aload_n 0, 1) := by decide +kernel
theorem d_M_format_67 : decode b_M_format 67 = .ok (.bipush 45, 2) := by decide +kernel
theorem d_M_format_69 : decode b_M_format 69 = .ok (.invokevirtual 278, 3) := by decide +kernel
theorem d_M_format_72 : decode b_M_format 72 = .ok (.goto 29, 3) := by decide +kernel
theorem d_M_format_75 : decode b_M_format 75 = .ok (.aload_n 0, 1) := by decide +kernel
theorem d_M_format_76 : decode b_M_format 76 = .ok (.getfield 325, 3) := by decide +kernel
theorem d_M_format_79 : decode b_M_format 79 = .ok (.bipush 43, 2) := by decide +kernel
theorem d_M_format_81 : decode b_M_format 81 = .ok (.if_icmp .eq 12, 3) := by decide +kernel
theorem d_M_format_84 : decode b_M_format 84 = .ok (.aload_n 0, 1) := by decide +kernel
theorem d_M_format_85 : decode b_M_format 85 = .ok (.getfield 325, 3) := by decide +kernel
theorem d_M_format_88 : decode b_M_format 88 = .ok (.bipush 32, 2) := by decide +kernel
theorem d_M_format_90 : decode b_M_format 90 = .ok (.if_icmp .ne 11, 3) := by decide +kernel
theorem d_M_format_93 : decode b_M_format 93 = .ok (.aload_n 0, 1) := by decide +kernel
theorem d_M_format_94 : decode b_M_format 94 = .ok (.aload_n 0, 1) := by decide +kernel
theorem d_M_format_95 : decode b_M_format 95 = .ok (.getfield 325, 3) := by decide +kernel
theorem d_M_format_98 : decode b_M_format 98 = .ok (.invokevirtual 278, 3) := by decide +kernel
theorem d_M_format_101 : decode b_M_format 101 = .ok (.aload_n 0, 1) := by decide +kernel
theorem d_M_format_102 : decode b_M_format 102 = .ok (.getfield 327, 3) := by decide +kernel
theorem d_M_format_105 : decode b_M_format 105 = .ok (.ifCond .eq 44, 3) := by decide +kernel
theorem d_M_format_108 : decode b_M_format 108 = .ok (.aload_n 0, 1) := by decide +kernel
theorem d_M_format_109 : decode b_M_format 109 = .ok (.getfield 345, 3) := by decide +kernel
theorem d_M_format_112 : decode b_M_format 112 = .ok (.bipush 98, 2) := by decide +kernel
theorem d_M_format_114 : decode b_M_format 114 = .ok (.if_icmp .eq 21, 3) := by decide +kernel
theorem d_M_format_117 : decode b_M_format 117 = .ok (.aload_n 0, 1) := by decide +kernel
theorem d_M_format_118 : decode b_M_format 118 = .ok (.getfield 345, 3) := by decide +kernel
theorem d_M_format_121 : decode b_M_format 121 = .ok (.bipush 120, 2) := by decide +kernel
theorem d_M_format_123 : decode b_M_format 123 = .ok (.if_icmp .eq 12, 3) := by decide +kernel
theorem d_M_format_126 : decode b_M_format 126 = .ok (.aload_n 0, 1) := by decide +kernel
theorem d_M_format_127 : decode b_M_format 127 = .ok (.getfield 345, 3) := by decide +kernel
theorem d_M_format_130 : decode b_M_format 130 = .ok (.bipush 88, 2) := by decide +kernel
theorem d_M_format_132 : decode b_M_format 132 = .ok (.if_icmp .ne 17, 3) := by decide +kernel
theorem d_M_format_135 : decode b_M_format 135 = .ok (.aload_n 0, 1) := by decide +kernel
theorem d_M_format_136 : decode b_M_format 136 = .ok (.bipush 48, 2) := by decide +kernel
theorem d_M_format_138 : decode b_M_format 138 = .ok (.invokevirtual 278, 3) := by decide +kernel
theorem d_M_format_141 : decode b_M_format 141 = .ok (.aload_n 0, 1) := by decide +kernel
theorem d_M_format_142 : decode b_M_format 142 = .ok (.aload_n 0, 1) := by decide +kernel
theorem d_M_format_143 : decode b_M_format 143 = .ok (.getfield 345, 3) := by decide +kernel
theorem d_M_format_146 : decode b_M_format 146 = .ok (.invokevirtual 278, 3) := by decide +kernel
theorem d_M_format_149 : decode b_M_format 149 = .ok (.aload_n 0, 1) := by decide +kernel
theorem d_M_format_150 : decode b_M_format 150 = .ok (.getfield 265, 3) := by decide +kernel
theorem d_M_format_153 : decode b_M_format 153 = .ok (.istore 4, 2) := by decide +kernel
theorem d_M_format_155 : decode b_M_format 155 = .ok (.aload_n 0, 1) := by decide +kernel
theorem d_M_format_156 : decode b_M_format 156 = .ok (.invokevirtual 369, 3) := by decide +kernel
theorem d_M_format_159 : decode b_M_format 159 = .ok (.aload_n 0, 1) := by decide +kernel
theorem d_M_format_160 : decode b_M_format 160 = .ok (.getfield 336, 3) := by decide +kernel
theorem d_M_format_163 : decode b_M_format 163 = .ok (.aload_n 0, 1) := by decide +kernel
theorem d_M_format_164 : decode b_M_format 164 = .ok (.getfield 265, 3) := by decide +kernel
theorem d_M_format_167 : decode b_M_format 167 = .ok (.isub, 1) := by decide +kernel
theorem d_M_format_168 : decode b_M_format 168 = .ok (.istore 5, 2) := by decide +kernel
theorem d_M_format_170 : decode b_M_format 170 = .ok (.aload_n 0, 1) := by decide +kernel
theorem d_M_format_171 : decode b_M_format 171 = .ok (.getfield 316, 3) := by decide +kernel
theorem d_M_format_174 : decode b_M_format 174 = .ok (.ifCond .le 10, 3) := by decide +kernel
theorem d_M_format_177 : decode b_M_format 177 = .ok (.aload_n 0, 1) := by decide +kernel
theorem d_M_format_178 : decode b_M_format 178 = .ok (.getfield 316, 3) := by decide +kernel
theorem d_M_format_181 : decode b_M_format 181 = .ok (.goto 17, 3) := by decide +kernel
theorem d_M_format_184 : decode b_M_format 184 = .ok (.aload_n 0, 1) := by decide +kernel
theorem d_M_format_185 : decode b_M_format 185 = .ok (.getfield 330, 3) := by decide +kernel
theorem d_M_format_188 : decode b_M_format 188 = .ok (.ifCond .eq 8, 3) := by decide +kernel
theorem d_M_format_191 : decode b_M_format 191 = .ok (.bipush 48, 2) := by decide +kernel
theorem d_M_format_193 : decode b_M_format 193 = .ok (.goto 5, 3) := by decide +kernel
theorem d_M_format_196 : decode b_M_format 196 = .ok (.bipush 32, 2) := by decide +kernel
theorem d_M_format_198 : decode b_M_format 198 = .ok (.istore 6, 2) := by decide +kernel
theorem d_M_format_200 : decode b_M_format 200 = .ok (.aload_n 0, 1) := by decide +kernel
theorem d_M_format_201 : decode b_M_format 201 = .ok (.getfield 319, 3) := by decide +kernel
theorem d_M_format_204 : decode b_M_format 204 = .ok (.ifCond .le 10, 3) := by decide +kernel
theorem d_M_format_207 : decode b_M_format 207 = .ok (.aload_n 0, 1) := by decide +kernel
theorem d_M_format_208 : decode b_M_format 208 = .ok (.getfield 319, 3) := by decide +kernel
theorem d_M_format_211 : decode b_M_format 211 = .ok (.goto 17, 3) := by decide +kernel
theorem d_M_format_214 : decode b_M_format 214 = .ok (.aload_n 0, 1) := by decide +kernel
theorem d_M_format_215 : decode b_M_format 215 = .ok (.getfield 330, 3) := by decide +kernel
theorem d_M_format_218 : decode b_M_format 218 = .ok (.ifCond .eq 8, 3) := by decide +kernel
theorem d_M_format_221 : decode b_M_format 221 = .ok (.bipush 61, 2) := by decide +kernel
theorem d_M_format_223 : decode b_M_format 223 = .ok (.goto 5, 3) := by decide +kernel
theorem d_M_format_226 : decode b_M_format 226 = .ok (.bipush 62, 2) := by decide +kernel
theorem d_M_format_228 : decode b_M_format 228 = .ok (.istore 7, 2) := by decide +kernel
theorem d_M_format_230 : decode b_M_format 230 = .ok (.iload 5, 2) := by decide +kernel
theorem d_M_format_232 : decode b_M_format 232 = .ok (.ifCond .le 54, 3) := by decide +kernel
theorem d_M_format_235 : decode b_M_format 235 = .ok (.aload_n 0, 1) := by decide +kernel
theorem d_M_format_236 : decode b_M_format 236 = .ok (.iload 5, 2) := by decide +kernel
theorem d_M_format_238 : decode b_M_format 238 = .ok (.iload 6, 2) := by decide +kernel
theorem d_M_format_240 : decode b_M_format 240 = .ok (.iload 7, 2) := by decide +kernel
theorem d_M_format_242 : decode b_M_format 242 = .ok (.bipush 60, 2) := by decide +kernel
theorem d_M_format_244 : decode b_M_format 244 = .ok (.if_icmp .ne 10, 3) := by decide +kernel
theorem d_M_format_247 : decode b_M_format 247 = .ok (.aload_n 0, 1) := by decide +kernel
theorem d_M_format_248 : decode b_M_format 248 = .ok (.getfield 265, 3) := by decide +kernel
theorem d_M_format_251 : decode b_M_format 251 = .ok (.goto 16, 3) := by decide +kernel
theorem d_M_format_254 : decode b_M_format 254 = .ok (.iload 7, 2) := by decide +kernel
theorem d_M_format_256 : decode b_M_format 256 = .ok (.bipush 61, 2) := by decide +kernel
theorem d_M_format_258 : decode b_M_format 258 = .ok (.if_icmp .ne 8, 3) := by decide +kernel
theorem d_M_format_261 : decode b_M_format 261 = .ok (.iload 4, 2) := by decide +kernel
theorem d_M_format_263 : decode b_M_format 263 = .ok (.goto 4, 3) := by decide +kernel
theorem d_M_format_266 : decode b_M_format 266 = .ok (.iconst 0, 1) := by decide +kernel
theorem d_M_format_267 : decode b_M_format 267 = .ok (.iload 7, 2) := by decide +kernel
theorem d_M_format_269 : decode b_M_format 269 = .ok (.bipush 94, 2) := by decide +kernel
theorem d_M_format_271 : decode b_M_format 271 = .ok (.if_icmp .ne 10, 3) := by decide +kernel
theorem d_M_format_274 : decode b_M_format 274 = .ok (.iload 5, 2) := by decide +kernel
theorem d_M_format_276 : decode b_M_format 276 = .ok (.iconst 2, 1) := by decide +kernel
theorem d_M_format_277 : decode b_M_format 277 = .ok (.idiv, 1) := by decide +kernel
theorem d_M_format_278 : decode b_M_format 278 = .ok (.goto 5, 3) := by decide +kernel
theorem d_M_format_281 : decode b_M_format 281 = .ok (.iload 5, 2) := by decide +kernel
theorem d_M_format_283 : decode b_M_format 283 = .ok (.invokevirtual 372, 3) := by decide +kernel
theorem d_M_format_286 : decode b_M_format 286 = .ok (.aload_n 0, 1) := by decide +kernel
theorem d_M_format_287 : decode b_M_format 287 = .ok (.invokevirtual 313, 3) := by decide +kernel
theorem d_M_format_290 : decode b_M_format 290 = .ok (.ireturn, 1) := by decide +kernel
theorem d_M_pad_0 : decode b_M_pad 0 = .ok (.aload_n 0, 1) := by decide +kernel
theorem d_M_pad_1 : decode b_M_pad 1 = .ok (.getfield 265, 3) := by decide +kernel
theorem d_M_pad_4 : decode b_M_pad 4 = .ok (.iconst 1, 1) := by decide +kernel
theorem d_M_pad_5 : decode b_M_pad 5 = .ok (.isub, 1) := by decide +kernel
theorem d_M_pad_6 : decode b_M_pad 6 = .ok (.istore 5, 2) := by decide +kernel
theorem d_M_pad_8 : decode b_M_pad 8 = .ok (.iload 5, 2) := by decide +kernel
theorem d_M_pad_10 : decode b_M_pad 10 = .ok (.iload_n 3, 1) := by decide +kernel
theorem d_M_pad_11 : decode b_M_pad 11 = .ok (.if_icmp .lt 26, 3) := by decide +kernel
theorem d_M_pad_14 : decode b_M_pad 14 = .ok (.aload_n 0, 1) := by decide +kernel
theorem d_M_pad_15 : decode b_M_pad 15 = .ok (.getfield 36, 3) := by decide +kernel
theorem d_M_pad_18 : decode b_M_pad 18 = .ok (.iload 5, 2) := by decide +kernel
theorem d_M_pad_20 : decode b_M_pad 20 = .ok (.iload 4, 2) := by decide +kernel
theorem d_M_pad_22 : decode b_M_pad 22 = .ok (.iadd, 1) := by decide +kernel
theorem d_M_pad_23 : decode b_M_pad 23 = .ok (.aload_n 0, 1) := by decide +kernel
theorem d_M_pad_24 : decode b_M_pad 24 = .ok (.getfield 36, 3) := by decide +kernel
theorem d_M_pad_27 : decode b_M_pad 27 = .ok (.iload 5, 2) := by decide +kernel
theorem d_M_pad_29 : decode b_M_pad 29 = .ok (.iaload, 1) := by decide +kernel
theorem d_M_pad_30 : decode b_M_pad 30 = .ok (.iastore, 1) := by decide +kernel
theorem d_M_pad_31 : decode b_M_pad 31 = .ok (.iinc 5 (-1), 3) := by decide +kernel
theorem d_M_pad_34 : decode b_M_pad 34 = .ok (.goto (-26), 3) := by decide +kernel
theorem d_M_pad_37 : decode b_M_pad 37 = .ok (.iconst 0, 1) := by decide +kernel
theorem d_M_pad_38 : decode b_M_pad 38 = .ok (.istore 5, 2) := by decide +kernel
theorem d_M_pad_40 : decode b_M_pad 40 = .ok (.iload 5, 2) := by decide +kernel
theorem d_M_pad_42 : decode b_M_pad 42 = .ok (.iload 4, 2) := by decide +kernel
theorem d_M_pad_44 : decode b_M_pad 44 = .ok (.if_icmp .ge 19, 3) := by decide +kernel
theorem d_M_pad_47 : decode b_M_pad 47 = .ok (.aload_n 0, 1) := by decide +kernel
theorem d_M_pad_48 : decode b_M_pad 48 = .ok (.getfield 36, 3) := by decide +kernel
theorem d_M_pad_51 : decode b_M_pad 51 = .ok (.iload_n 3, 1) := by decide +kernel
theorem d_M_pad_52 : decode b_M_pad 52 = .ok (.iload 5, 2) := by decide +kernel
theorem d_M_pad_54 : decode b_M_pad 54 = .ok (.iadd, 1) := by decide +kernel
theorem d_M_pad_55 : decode b_M_pad 55 = .ok (.iload_n 2, 1) := by decide +kernel
theorem d_M_pad_56 : decode b_M_pad 56 = .ok (.iastore, 1) := by decide +kernel
theorem d_M_pad_57 : decode b_M_pad 57 = .ok (.iinc 5 1, 3) := by decide +kernel
theorem d_M_pad_60 : decode b_M_pad 60 = .ok (.goto (-20), 3) := by decide +kernel
theorem d_M_pad_63 : decode b_M_pad 63 = .ok (.aload_n 0, 1) := by decide +kernel
theorem d_M_pad_64 : decode b_M_pad 64 = .ok (.dup, 1) := by decide +kernel
theorem d_M_pad_65 : decode b_M_pad 65 = .ok (.getfield 265, 3) := by decide +kernel
theorem d_M_pad_68 : decode b_M_pad 68 = .ok (.iload 4, 2) := by decide +kernel
theorem d_M_pad_70 : decode b_M_pad 70 = .ok (.iadd, 1) := by decide +kernel
theorem d_M_pad_71 : decode b_M_pad 71 = .ok (.putfield 265, 3) := by decide +kernel
theorem d_M_pad_74 : decode b_M_pad 74 = .ok (.iload 4, 2) := by decide +kernel
theorem d_M_pad_76 : decode b_M_pad 76 = .ok (.istore 5, 2) := by decide +kernel
theorem d_M_pad_78 : decode b_M_pad 78 = .ok (.iload 5, 2) := by decide +kernel
theorem d_M_pad_80 : decode b_M_pad 80 = .ok (.iload_n 1, 1) := by decide +kernel
theorem d_M_pad_81 : decode b_M_pad 81 = .ok (.if_icmp .ge 14, 3) := by decide +kernel
theorem d_M_pad_84 : decode b_M_pad 84 = .ok (.aload_n 0, 1) := by decide +kernel
theorem d_M_pad_85 : decode b_M_pad 85 = .ok (.iload_n 2, 1) := by decide +kernel
theorem d_M_pad_86 : decode b_M_pad 86 = .ok (.invokevirtual 278, 3) := by decide +kernel
theorem d_M_pad_89 : decode b_M_pad 89 = .ok (.iinc 5 1, 3) := by decide +kernel
theorem d_M_pad_92 : decode b_M_pad 92 = .ok (.goto (-14), 3) := by decide +kernel
theorem d_M_pad_95 : decode b_M_pad 95 = .ok (.return_, 1) := by decide +kernel
theorem d_M_letter_0 : decode b_M_letter 0 = .ok (.aload_n 0, 1) := by decide +kernel
theorem d_M_letter_1 : decode b_M_letter 1 = .ok (.iconst 0, 1) := by decide +kernel
theorem d_M_letter_2 : decode b_M_letter 2 = .ok (.putfield 39, 3) := by decide +kernel
theorem d_M_letter_5 : decode b_M_letter 5 = .ok (.iload_n 1, 1) := by decide +kernel
theorem d_M_letter_6 : decode b_M_letter 6 = .ok (.iconst 0, 1) := by decide +kernel
theorem d_M_letter_7 : decode b_M_letter 7 = .ok (.aload_n 0, 1) := by decide +kernel
theorem d_M_letter_8 : decode b_M_letter 8 = .ok (.getfield 307, 3) := by decide +kernel
theorem d_M_letter_11 : decode b_M_letter 11 = .ok (.iconst 1, 1) := by decide +kernel
theorem d_M_letter_12 : decode b_M_letter 12 = .ok (.isub, 1) := by decide +kernel
theorem d_M_letter_13 : decode b_M_letter 13 = .ok (.invokestatic 138, 3) := by decide +kernel
theorem d_M_letter_16 : decode b_M_letter 16 = .ok (.ifCond .eq 12, 3) := by decide +kernel
theorem d_M_letter_19 : decode b_M_letter 19 = .ok (.aload_n 0, 1) := by decide +kernel
theorem d_M_letter_20 : decode b_M_letter 20 = .ok (.getfield 30, 3) := by decide +kernel
theorem d_M_letter_23 : decode b_M_letter 23 = .ok (.iload_n 1, 1) := by decide +kernel
theorem d_M_letter_24 : decode b_M_letter 24 = .ok (.iaload, 1) := by decide +kernel
theorem d_M_letter_25 : decode b_M_letter 25 = .ok (.goto 4, 3) := by decide +kernel
theorem d_M_letter_28 : decode b_M_letter 28 = .ok (.iconst (-1), 1) := by decide +kernel
theorem d_M_letter_29 : decode b_M_letter 29 = .ok (.ireturn, 1) := by decide +kernel
theorem d_M_kind_0 : decode b_M_kind 0 = .ok (.aload_n 0, 1) := by decide +kernel
theorem d_M_kind_1 : decode b_M_kind 1 = .ok (.iconst 0, 1) := by decide +kernel
theorem d_M_kind_2 : decode b_M_kind 2 = .ok (.putfield 39, 3) := by decide +kernel
theorem d_M_kind_5 : decode b_M_kind 5 = .ok (.aload_n 0, 1) := by decide +kernel
theorem d_M_kind_6 : decode b_M_kind 6 = .ok (.iload_n 1, 1) := by decide +kernel
theorem d_M_kind_7 : decode b_M_kind 7 = .ok (.invokevirtual 176, 3) := by decide +kernel
theorem d_M_kind_10 : decode b_M_kind 10 = .ok (.ifCond .eq 12, 3) := by decide +kernel
theorem d_M_kind_13 : decode b_M_kind 13 = .ok (.aload_n 0, 1) := by decide +kernel
theorem d_M_kind_14 : decode b_M_kind 14 = .ok (.getfield 16, 3) := by decide +kernel
theorem d_M_kind_17 : decode b_M_kind 17 = .ok (.iload_n 1, 1) := by decide +kernel
theorem d_M_kind_18 : decode b_M_kind 18 = .ok (.iaload, 1) := by decide +kernel
theorem d_M_kind_19 : decode b_M_kind 19 = .ok (.goto 4, 3) := by decide +kernel
theorem d_M_kind_22 : decode b_M_kind 22 = .ok (.iconst (-1), 1) := by decide +kernel
theorem d_M_kind_23 : decode b_M_kind 23 = .ok (.ireturn, 1) := by decide +kernel
theorem d_M_value_0 : decode b_M_value 0 = .ok (.aload_n 0, 1) := by decide +kernel
theorem d_M_value_1 : decode b_M_value 1 = .ok (.iconst 0, 1) := by decide +kernel
theorem d_M_value_2 : decode b_M_value 2 = .ok (.putfield 39, 3) := by decide +kernel
theorem d_M_value_5 : decode b_M_value 5 = .ok (.aload_n 0, 1) := by decide +kernel
theorem d_M_value_6 : decode b_M_value 6 = .ok (.iload_n 1, 1) := by decide +kernel
theorem d_M_value_7 : decode b_M_value 7 = .ok (.invokevirtual 176, 3) := by decide +kernel
theorem d_M_value_10 : decode b_M_value 10 = .ok (.ifCond .eq 13, 3) := by decide +kernel
theorem d_M_value_13 : decode b_M_value 13 = .ok (.aload_n 0, 1) := by decide +kernel
theorem d_M_value_14 : decode b_M_value 14 = .ok (.getfield 16, 3) := by decide +kernel
theorem d_M_value_17 : decode b_M_value 17 = .ok (.iload_n 1, 1) := by decide +kernel
theorem d_M_value_18 : decode b_M_value 18 = .ok (.iaload, 1) := by decide +kernel
theorem d_M_value_19 : decode b_M_value 19 = .ok (.iconst 2, 1) := by decide +kernel
theorem d_M_value_20 : decode b_M_value 20 = .ok (.if_icmp .eq 5, 3) := by decide +kernel
theorem d_M_value_23 : decode b_M_value 23 = .ok (.dconst 0, 1) := by decide +kernel
theorem d_M_value_24 : decode b_M_value 24 = .ok (.dreturn, 1) := by decide +kernel
theorem d_M_value_25 : decode b_M_value 25 = .ok (.aload_n 0, 1) := by decide +kernel
theorem d_M_value_26 : decode b_M_value 26 = .ok (.getfield 19, 3) := by decide +kernel
theorem d_M_value_29 : decode b_M_value 29 = .ok (.iload_n 1, 1) := by decide +kernel
theorem d_M_value_30 : decode b_M_value 30 = .ok (.baload, 1) := by decide +kernel
theorem d_M_value_31 : decode b_M_value 31 = .ok (.ifCond .eq 13, 3) := by decide +kernel
theorem d_M_value_34 : decode b_M_value 34 = .ok (.aload_n 0, 1) := by decide +kernel
theorem d_M_value_35 : decode b_M_value 35 = .ok (.getfield 23, 3) := by decide +kernel
theorem d_M_value_38 : decode b_M_value 38 = .ok (.iload_n 1, 1) := by decide +kernel
theorem d_M_value_39 : decode b_M_value 39 = .ok (.daload, 1) := by decide +kernel
theorem d_M_value_40 : decode b_M_value 40 = .ok (.dneg, 1) := by decide +kernel
theorem d_M_value_41 : decode b_M_value 41 = .ok (.goto 9, 3) := by decide +kernel
theorem d_M_value_44 : decode b_M_value 44 = .ok (.aload_n 0, 1) := by decide +kernel
theorem d_M_value_45 : decode b_M_value 45 = .ok (.getfield 23, 3) := by decide +kernel
theorem d_M_value_48 : decode b_M_value 48 = .ok (.iload_n 1, 1) := by decide +kernel
theorem d_M_value_49 : decode b_M_value 49 = .ok (.daload, 1) := by decide +kernel
theorem d_M_value_50 : decode b_M_value 50 = .ok (.dreturn, 1) := by decide +kernel
theorem d_M_part_0 : decode b_M_part 0 = .ok (.aload_n 0, 1) := by decide +kernel
theorem d_M_part_1 : decode b_M_part 1 = .ok (.iconst 0, 1) := by decide +kernel
theorem d_M_part_2 : decode b_M_part 2 = .ok (.putfield 39, 3) := by decide +kernel
theorem d_M_part_5 : decode b_M_part 5 = .ok (.aload_n 0, 1) := by decide +kernel
theorem d_M_part_6 : decode b_M_part 6 = .ok (.iload_n 1, 1) := by decide +kernel
theorem d_M_part_7 : decode b_M_part 7 = .ok (.invokevirtual 176, 3) := by decide +kernel
theorem d_M_part_10 : decode b_M_part 10 = .ok (.ifCond .eq 22, 3) := by decide +kernel
theorem d_M_part_13 : decode b_M_part 13 = .ok (.aload_n 0, 1) := by decide +kernel
theorem d_M_part_14 : decode b_M_part 14 = .ok (.getfield 16, 3) := by decide +kernel
theorem d_M_part_17 : decode b_M_part 17 = .ok (.iload_n 1, 1) := by decide +kernel
theorem d_M_part_18 : decode b_M_part 18 = .ok (.iaload, 1) := by decide +kernel
theorem d_M_part_19 : decode b_M_part 19 = .ok (.iconst 2, 1) := by decide +kernel
theorem d_M_part_20 : decode b_M_part 20 = .ok (.if_icmp .eq 12, 3) := by decide +kernel
theorem d_M_part_23 : decode b_M_part 23 = .ok (.iload_n 3, 1) := by decide +kernel
theorem d_M_part_24 : decode b_M_part 24 = .ok (.iconst 0, 1) := by decide +kernel
theorem d_M_part_25 : decode b_M_part 25 = .ok (.iconst 1, 1) := by decide +kernel
theorem d_M_part_26 : decode b_M_part 26 = .ok (.invokestatic 138, 3) := by decide +kernel
theorem d_M_part_29 : decode b_M_part 29 = .ok (.ifCond .ne 7, 3) := by decide +kernel
theorem d_M_part_32 : decode b_M_part 32 = .ok (.ldc2_w 376, 3) := by decide +kernel
theorem d_M_part_35 : decode b_M_part 35 = .ok (.lreturn, 1) := by decide +kernel
theorem d_M_part_36 : decode b_M_part 36 = .ok (.aload_n 0, 1) := by decide +kernel
theorem d_M_part_37 : decode b_M_part 37 = .ok (.iload_n 2, 1) := by decide +kernel
theorem d_M_part_38 : decode b_M_part 38 = .ok (.ifCond .eq 11, 3) := by decide +kernel
theorem d_M_part_41 : decode b_M_part 41 = .ok (.iconst 2, 1) := by decide +kernel
theorem d_M_part_42 : decode b_M_part 42 = .ok (.iload_n 1, 1) := by decide +kernel
theorem d_M_part_43 : decode b_M_part 43 = .ok (.imul, 1) := by decide +kernel
theorem d_M_part_44 : decode b_M_part 44 = .ok (.iconst 1, 1) := by decide +kernel
theorem d_M_part_45 : decode b_M_part 45 = .ok (.iadd, 1) := by decide +kernel
theorem d_M_part_46 : decode b_M_part 46 = .ok (.goto 6, 3) := by decide +kernel
theorem d_M_part_49 : decode b_M_part 49 = .ok (.iconst 2, 1) := by decide +kernel
theorem d_M_part_50 : decode b_M_part 50 = .ok (.iload_n 1, 1) := by decide +kernel
theorem d_M_part_51 : decode b_M_part 51 = .ok (.imul, 1) := by decide +kernel
theorem d_M_part_52 : decode b_M_part 52 = .ok (.bipush 29, 2) := by decide +kernel
theorem d_M_part_54 : decode b_M_part 54 = .ok (.invokevirtual 58, 3) := by decide +kernel
theorem d_M_part_57 : decode b_M_part 57 = .ok (.aload_n 0, 1) := by decide +kernel
theorem d_M_part_58 : decode b_M_part 58 = .ok (.bipush 29, 2) := by decide +kernel
theorem d_M_part_60 : decode b_M_part 60 = .ok (.bipush 60, 2) := by decide +kernel
theorem d_M_part_62 : decode b_M_part 62 = .ok (.iload_n 3, 1) := by decide +kernel
theorem d_M_part_63 : decode b_M_part 63 = .ok (.imul, 1) := by decide +kernel
theorem d_M_part_64 : decode b_M_part 64 = .ok (.invokevirtual 72, 3) := by decide +kernel
theorem d_M_part_67 : decode b_M_part 67 = .ok (.aload_n 0, 1) := by decide +kernel
theorem d_M_part_68 : decode b_M_part 68 = .ok (.bipush 29, 2) := by decide +kernel
theorem d_M_part_70 : decode b_M_part 70 = .ok (.invokevirtual 101, 3) := by decide +kernel
theorem d_M_part_73 : decode b_M_part 73 = .ok (.ldc2_w 378, 3) := by decide +kernel
theorem d_M_part_76 : decode b_M_part 76 = .ok (.land, 1) := by decide +kernel
theorem d_M_part_77 : decode b_M_part 77 = .ok (.lreturn, 1) := by decide +kernel
