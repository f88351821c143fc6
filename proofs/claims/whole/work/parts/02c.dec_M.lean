theorem d_M_low_0 : decode b_M_low 0 = .ok (.aload_n 0, 1) := by decide +kernel
theorem d_M_low_1 : decode b_M_low 1 = .ok (.iload_n 1, 1) := by decide +kernel
theorem d_M_low_2 : decode b_M_low 2 = .ok (.iconst 0, 1) := by decide +kernel
theorem d_M_low_3 : decode b_M_low 3 = .ok (.invokevirtual 45, 3) := by decide +kernel
theorem d_M_low_6 : decode b_M_low 6 = .ok (.i2l, 1) := by decide +kernel
theorem d_M_low_7 : decode b_M_low 7 = .ok (.aload_n 0, 1) := by decide +kernel
theorem d_M_low_8 : decode b_M_low 8 = .ok (.iload_n 1, 1) := by decide +kernel
theorem d_M_low_9 : decode b_M_low 9 = .ok (.iconst 1, 1) := by decide +kernel
theorem d_M_low_10 : decode b_M_low 10 = .ok (.invokevirtual 45, 3) := by decide +kernel
theorem d_M_low_13 : decode b_M_low 13 = .ok (.i2l, 1) := by decide +kernel
theorem d_M_low_14 : decode b_M_low 14 = .ok (.bipush 28, 2) := by decide +kernel
theorem d_M_low_16 : decode b_M_low 16 = .ok (.lshl, 1) := by decide +kernel
theorem d_M_low_17 : decode b_M_low 17 = .ok (.lor, 1) := by decide +kernel
theorem d_M_low_18 : decode b_M_low 18 = .ok (.aload_n 0, 1) := by decide +kernel
theorem d_M_low_19 : decode b_M_low 19 = .ok (.iload_n 1, 1) := by decide +kernel
theorem d_M_low_20 : decode b_M_low 20 = .ok (.iconst 2, 1) := by decide +kernel
theorem d_M_low_21 : decode b_M_low 21 = .ok (.invokevirtual 45, 3) := by decide +kernel
theorem d_M_low_24 : decode b_M_low 24 = .ok (.i2l, 1) := by decide +kernel
theorem d_M_low_25 : decode b_M_low 25 = .ok (.bipush 56, 2) := by decide +kernel
theorem d_M_low_27 : decode b_M_low 27 = .ok (.lshl, 1) := by decide +kernel
theorem d_M_low_28 : decode b_M_low 28 = .ok (.lor, 1) := by decide +kernel
theorem d_M_low_29 : decode b_M_low 29 = .ok (.lreturn, 1) := by decide +kernel
theorem d_M_isReal_0 : decode b_M_isReal 0 = .ok (.ldc2_w 112, 3) := by decide +kernel
theorem d_M_isReal_3 : decode b_M_isReal 3 = .ok (.dstore_n 2, 1) := by decide +kernel
theorem d_M_isReal_4 : decode b_M_isReal 4 = .ok (.dload_n 0, 1) := by decide +kernel
theorem d_M_isReal_5 : decode b_M_isReal 5 = .ok (.dconst 0, 1) := by decide +kernel
theorem d_M_isReal_6 : decode b_M_isReal 6 = .ok (.dcmp .l, 1) := by decide +kernel
theorem d_M_isReal_7 : decode b_M_isReal 7 = .ok (.ifCond .eq 17, 3) := by decide +kernel
theorem d_M_isReal_10 : decode b_M_isReal 10 = .ok (.dload_n 0, 1) := by decide +kernel
theorem d_M_isReal_11 : decode b_M_isReal 11 = .ok (.dload_n 2, 1) := by decide +kernel
theorem d_M_isReal_12 : decode b_M_isReal 12 = .ok (.dcmp .g, 1) := by decide +kernel
theorem d_M_isReal_13 : decode b_M_isReal 13 = .ok (.ifCond .ge 15, 3) := by decide +kernel
theorem d_M_isReal_16 : decode b_M_isReal 16 = .ok (.dload_n 0, 1) := by decide +kernel
theorem d_M_isReal_17 : decode b_M_isReal 17 = .ok (.dload_n 2, 1) := by decide +kernel
theorem d_M_isReal_18 : decode b_M_isReal 18 = .ok (.dmul, 1) := by decide +kernel
theorem d_M_isReal_19 : decode b_M_isReal 19 = .ok (.dconst 1, 1) := by decide +kernel
theorem d_M_isReal_20 : decode b_M_isReal 20 = .ok (.dcmp .l, 1) := by decide +kernel
theorem d_M_isReal_21 : decode b_M_isReal 21 = .ok (.ifCond .lt 7, 3) := by decide +kernel
theorem d_M_isReal_24 : decode b_M_isReal 24 = .ok (.iconst 1, 1) := by decide +kernel
theorem d_M_isReal_25 : decode b_M_isReal 25 = .ok (.goto 4, 3) := by decide +kernel
theorem d_M_isReal_28 : decode b_M_isReal 28 = .ok (.iconst 0, 1) := by decide +kernel
theorem d_M_isReal_29 : decode b_M_isReal 29 = .ok (.ireturn, 1) := by decide +kernel
theorem d_M_fetch_0 : decode b_M_fetch 0 = .ok (.aload_n 0, 1) := by decide +kernel
theorem d_M_fetch_1 : decode b_M_fetch 1 = .ok (.getfield 16, 3) := by decide +kernel
theorem d_M_fetch_4 : decode b_M_fetch 4 = .ok (.iload_n 1, 1) := by decide +kernel
theorem d_M_fetch_5 : decode b_M_fetch 5 = .ok (.iaload, 1) := by decide +kernel
theorem d_M_fetch_6 : decode b_M_fetch 6 = .ok (.iconst 2, 1) := by decide +kernel
theorem d_M_fetch_7 : decode b_M_fetch 7 = .ok (.if_icmp .ne 18, 3) := by decide +kernel
theorem d_M_fetch_10 : decode b_M_fetch 10 = .ok (.aload_n 0, 1) := by decide +kernel
theorem d_M_fetch_11 : decode b_M_fetch 11 = .ok (.aload_n 0, 1) := by decide +kernel
theorem d_M_fetch_12 : decode b_M_fetch 12 = .ok (.getfield 23, 3) := by decide +kernel
theorem d_M_fetch_15 : decode b_M_fetch 15 = .ok (.iload_n 1, 1) := by decide +kernel
theorem d_M_fetch_16 : decode b_M_fetch 16 = .ok (.daload, 1) := by decide +kernel
theorem d_M_fetch_17 : decode b_M_fetch 17 = .ok (.iload_n 2, 1) := by decide +kernel
theorem d_M_fetch_18 : decode b_M_fetch 18 = .ok (.iload_n 3, 1) := by decide +kernel
theorem d_M_fetch_19 : decode b_M_fetch 19 = .ok (.invokevirtual 114, 3) := by decide +kernel
theorem d_M_fetch_22 : decode b_M_fetch 22 = .ok (.goto 21, 3) := by decide +kernel
theorem d_M_fetch_25 : decode b_M_fetch 25 = .ok (.aload_n 0, 1) := by decide +kernel
theorem d_M_fetch_26 : decode b_M_fetch 26 = .ok (.iconst 2, 1) := by decide +kernel
theorem d_M_fetch_27 : decode b_M_fetch 27 = .ok (.iload_n 1, 1) := by decide +kernel
theorem d_M_fetch_28 : decode b_M_fetch 28 = .ok (.imul, 1) := by decide +kernel
theorem d_M_fetch_29 : decode b_M_fetch 29 = .ok (.iload_n 2, 1) := by decide +kernel
theorem d_M_fetch_30 : decode b_M_fetch 30 = .ok (.invokevirtual 58, 3) := by decide +kernel
theorem d_M_fetch_33 : decode b_M_fetch 33 = .ok (.aload_n 0, 1) := by decide +kernel
theorem d_M_fetch_34 : decode b_M_fetch 34 = .ok (.iconst 2, 1) := by decide +kernel
theorem d_M_fetch_35 : decode b_M_fetch 35 = .ok (.iload_n 1, 1) := by decide +kernel
theorem d_M_fetch_36 : decode b_M_fetch 36 = .ok (.imul, 1) := by decide +kernel
theorem d_M_fetch_37 : decode b_M_fetch 37 = .ok (.iconst 1, 1) := by decide +kernel
theorem d_M_fetch_38 : decode b_M_fetch 38 = .ok (.iadd, 1) := by decide +kernel
theorem d_M_fetch_39 : decode b_M_fetch 39 = .ok (.iload_n 3, 1) := by decide +kernel
theorem d_M_fetch_40 : decode b_M_fetch 40 = .ok (.invokevirtual 58, 3) := by decide +kernel
theorem d_M_fetch_43 : decode b_M_fetch 43 = .ok (.aload_n 0, 1) := by decide +kernel
theorem d_M_fetch_44 : decode b_M_fetch 44 = .ok (.getfield 19, 3) := by decide +kernel
theorem d_M_fetch_47 : decode b_M_fetch 47 = .ok (.iload_n 1, 1) := by decide +kernel
theorem d_M_fetch_48 : decode b_M_fetch 48 = .ok (.baload, 1) := by decide +kernel
theorem d_M_fetch_49 : decode b_M_fetch 49 = .ok (.ireturn, 1) := by decide +kernel
theorem d_M_form_0 : decode b_M_form 0 = .ok (.aload_n 0, 1) := by decide +kernel
theorem d_M_form_1 : decode b_M_form 1 = .ok (.iconst 0, 1) := by decide +kernel
theorem d_M_form_2 : decode b_M_form 2 = .ok (.putfield 94, 3) := by decide +kernel
theorem d_M_form_5 : decode b_M_form 5 = .ok (.iload_n 1, 1) := by decide +kernel
theorem d_M_form_6 : decode b_M_form 6 = .ok (.iconst 2, 1) := by decide +kernel
theorem d_M_form_7 : decode b_M_form 7 = .ok (.if_icmp .ne 37, 3) := by decide +kernel
theorem d_M_form_10 : decode b_M_form 10 = .ok (.aload_n 0, 1) := by decide +kernel
theorem d_M_form_11 : decode b_M_form 11 = .ok (.aload_n 0, 1) := by decide +kernel
theorem d_M_form_12 : decode b_M_form 12 = .ok (.bipush 20, 2) := by decide +kernel
theorem d_M_form_14 : decode b_M_form 14 = .ok (.bipush 21, 2) := by decide +kernel
theorem d_M_form_16 : decode b_M_form 16 = .ok (.invokevirtual 118, 3) := by decide +kernel
theorem d_M_form_19 : decode b_M_form 19 = .ok (.putfield 122, 3) := by decide +kernel
theorem d_M_form_22 : decode b_M_form 22 = .ok (.aload_n 0, 1) := by decide +kernel
theorem d_M_form_23 : decode b_M_form 23 = .ok (.getfield 94, 3) := by decide +kernel
theorem d_M_form_26 : decode b_M_form 26 = .ok (.ifCond .ne 57, 3) := by decide +kernel
theorem d_M_form_29 : decode b_M_form 29 = .ok (.aload_n 0, 1) := by decide +kernel
theorem d_M_form_30 : decode b_M_form 30 = .ok (.aload_n 0, 1) := by decide +kernel
theorem d_M_form_31 : decode b_M_form 31 = .ok (.getfield 122, 3) := by decide +kernel
theorem d_M_form_34 : decode b_M_form 34 = .ok (.bipush 20, 2) := by decide +kernel
theorem d_M_form_36 : decode b_M_form 36 = .ok (.bipush 21, 2) := by decide +kernel
theorem d_M_form_38 : decode b_M_form 38 = .ok (.invokevirtual 114, 3) := by decide +kernel
theorem d_M_form_41 : decode b_M_form 41 = .ok (.goto 42, 3) := by decide +kernel
theorem d_M_form_44 : decode b_M_form 44 = .ok (.aload_n 0, 1) := by decide +kernel
theorem d_M_form_45 : decode b_M_form 45 = .ok (.bipush 20, 2) := by decide +kernel
theorem d_M_form_47 : decode b_M_form 47 = .ok (.bipush 21, 2) := by decide +kernel
theorem d_M_form_49 : decode b_M_form 49 = .ok (.invokevirtual 126, 3) := by decide +kernel
theorem d_M_form_52 : decode b_M_form 52 = .ok (.aload_n 0, 1) := by decide +kernel
theorem d_M_form_53 : decode b_M_form 53 = .ok (.aload_n 0, 1) := by decide +kernel
theorem d_M_form_54 : decode b_M_form 54 = .ok (.bipush 20, 2) := by decide +kernel
theorem d_M_form_56 : decode b_M_form 56 = .ok (.invokevirtual 62, 3) := by decide +kernel
theorem d_M_form_59 : decode b_M_form 59 = .ok (.bipush 120, 2) := by decide +kernel
theorem d_M_form_61 : decode b_M_form 61 = .ok (.if_icmp .gt 14, 3) := by decide +kernel
theorem d_M_form_64 : decode b_M_form 64 = .ok (.aload_n 0, 1) := by decide +kernel
theorem d_M_form_65 : decode b_M_form 65 = .ok (.bipush 21, 2) := by decide +kernel
theorem d_M_form_67 : decode b_M_form 67 = .ok (.invokevirtual 62, 3) := by decide +kernel
theorem d_M_form_70 : decode b_M_form 70 = .ok (.bipush 120, 2) := by decide +kernel
theorem d_M_form_72 : decode b_M_form 72 = .ok (.if_icmp .le 7, 3) := by decide +kernel
theorem d_M_form_75 : decode b_M_form 75 = .ok (.iconst 1, 1) := by decide +kernel
theorem d_M_form_76 : decode b_M_form 76 = .ok (.goto 4, 3) := by decide +kernel
theorem d_M_form_79 : decode b_M_form 79 = .ok (.iconst 0, 1) := by decide +kernel
theorem d_M_form_80 : decode b_M_form 80 = .ok (.putfield 94, 3) := by decide +kernel
theorem d_M_form_83 : decode b_M_form 83 = .ok (.aload_n 0, 1) := by decide +kernel
theorem d_M_form_84 : decode b_M_form 84 = .ok (.aload_n 0, 1) := by decide +kernel
theorem d_M_form_85 : decode b_M_form 85 = .ok (.getfield 129, 3) := by decide +kernel
theorem d_M_form_88 : decode b_M_form 88 = .ok (.ifCond .eq 16, 3) := by decide +kernel
theorem d_M_form_91 : decode b_M_form 91 = .ok (.aload_n 0, 1) := by decide +kernel
theorem d_M_form_92 : decode b_M_form 92 = .ok (.bipush 20, 2) := by decide +kernel
theorem d_M_form_94 : decode b_M_form 94 = .ok (.invokevirtual 75, 3) := by decide +kernel
theorem d_M_form_97 : decode b_M_form 97 = .ok (.ifCond .ne 7, 3) := by decide +kernel
theorem d_M_form_100 : decode b_M_form 100 = .ok (.iconst 1, 1) := by decide +kernel
theorem d_M_form_101 : decode b_M_form 101 = .ok (.goto 4, 3) := by decide +kernel
theorem d_M_form_104 : decode b_M_form 104 = .ok (.iconst 0, 1) := by decide +kernel
theorem d_M_form_105 : decode b_M_form 105 = .ok (.putfield 129, 3) := by decide +kernel
theorem d_M_form_108 : decode b_M_form 108 = .ok (.return_, 1) := by decide +kernel
theorem d_M_store_0 : decode b_M_store 0 = .ok (.aload_n 0, 1) := by decide +kernel
theorem d_M_store_1 : decode b_M_store 1 = .ok (.iload_n 1, 1) := by decide +kernel
theorem d_M_store_2 : decode b_M_store 2 = .ok (.invokevirtual 132, 3) := by decide +kernel
theorem d_M_store_5 : decode b_M_store 5 = .ok (.aload_n 0, 1) := by decide +kernel
theorem d_M_store_6 : decode b_M_store 6 = .ok (.getfield 94, 3) := by decide +kernel
theorem d_M_store_9 : decode b_M_store 9 = .ok (.ifCond .eq 9, 3) := by decide +kernel
theorem d_M_store_12 : decode b_M_store 12 = .ok (.aload_n 0, 1) := by decide +kernel
theorem d_M_store_13 : decode b_M_store 13 = .ok (.iload_n 3, 1) := by decide +kernel
theorem d_M_store_14 : decode b_M_store 14 = .ok (.invokevirtual 135, 3) := by decide +kernel
theorem d_M_store_17 : decode b_M_store 17 = .ok (.ireturn, 1) := by decide +kernel
theorem d_M_store_18 : decode b_M_store 18 = .ok (.aload_n 0, 1) := by decide +kernel
theorem d_M_store_19 : decode b_M_store 19 = .ok (.getfield 16, 3) := by decide +kernel
theorem d_M_store_22 : decode b_M_store 22 = .ok (.iload_n 2, 1) := by decide +kernel
theorem d_M_store_23 : decode b_M_store 23 = .ok (.iload_n 1, 1) := by decide +kernel
theorem d_M_store_24 : decode b_M_store 24 = .ok (.iastore, 1) := by decide +kernel
theorem d_M_store_25 : decode b_M_store 25 = .ok (.aload_n 0, 1) := by decide +kernel
theorem d_M_store_26 : decode b_M_store 26 = .ok (.getfield 19, 3) := by decide +kernel
theorem d_M_store_29 : decode b_M_store 29 = .ok (.iload_n 2, 1) := by decide +kernel
theorem d_M_store_30 : decode b_M_store 30 = .ok (.aload_n 0, 1) := by decide +kernel
theorem d_M_store_31 : decode b_M_store 31 = .ok (.getfield 129, 3) := by decide +kernel
theorem d_M_store_34 : decode b_M_store 34 = .ok (.bastore, 1) := by decide +kernel
theorem d_M_store_35 : decode b_M_store 35 = .ok (.aload_n 0, 1) := by decide +kernel
theorem d_M_store_36 : decode b_M_store 36 = .ok (.getfield 23, 3) := by decide +kernel
theorem d_M_store_39 : decode b_M_store 39 = .ok (.iload_n 2, 1) := by decide +kernel
theorem d_M_store_40 : decode b_M_store 40 = .ok (.iload_n 1, 1) := by decide +kernel
theorem d_M_store_41 : decode b_M_store 41 = .ok (.iconst 2, 1) := by decide +kernel
theorem d_M_store_42 : decode b_M_store 42 = .ok (.if_icmp .ne 10, 3) := by decide +kernel
theorem d_M_store_45 : decode b_M_store 45 = .ok (.aload_n 0, 1) := by decide +kernel
theorem d_M_store_46 : decode b_M_store 46 = .ok (.getfield 122, 3) := by decide +kernel
theorem d_M_store_49 : decode b_M_store 49 = .ok (.goto 4, 3) := by decide +kernel
theorem d_M_store_52 : decode b_M_store 52 = .ok (.dconst 0, 1) := by decide +kernel
theorem d_M_store_53 : decode b_M_store 53 = .ok (.dastore, 1) := by decide +kernel
theorem d_M_store_54 : decode b_M_store 54 = .ok (.aload_n 0, 1) := by decide +kernel
theorem d_M_store_55 : decode b_M_store 55 = .ok (.bipush 20, 2) := by decide +kernel
theorem d_M_store_57 : decode b_M_store 57 = .ok (.iconst 2, 1) := by decide +kernel
theorem d_M_store_58 : decode b_M_store 58 = .ok (.iload_n 2, 1) := by decide +kernel
theorem d_M_store_59 : decode b_M_store 59 = .ok (.imul, 1) := by decide +kernel
theorem d_M_store_60 : decode b_M_store 60 = .ok (.invokevirtual 58, 3) := by decide +kernel
theorem d_M_store_63 : decode b_M_store 63 = .ok (.aload_n 0, 1) := by decide +kernel
theorem d_M_store_64 : decode b_M_store 64 = .ok (.bipush 21, 2) := by decide +kernel
theorem d_M_store_66 : decode b_M_store 66 = .ok (.iconst 2, 1) := by decide +kernel
theorem d_M_store_67 : decode b_M_store 67 = .ok (.iload_n 2, 1) := by decide +kernel
theorem d_M_store_68 : decode b_M_store 68 = .ok (.imul, 1) := by decide +kernel
theorem d_M_store_69 : decode b_M_store 69 = .ok (.iconst 1, 1) := by decide +kernel
theorem d_M_store_70 : decode b_M_store 70 = .ok (.iadd, 1) := by decide +kernel
theorem d_M_store_71 : decode b_M_store 71 = .ok (.invokevirtual 58, 3) := by decide +kernel
theorem d_M_store_74 : decode b_M_store 74 = .ok (.iload_n 1, 1) := by decide +kernel
theorem d_M_store_75 : decode b_M_store 75 = .ok (.iconst 2, 1) := by decide +kernel
theorem d_M_store_76 : decode b_M_store 76 = .ok (.if_icmp .ne 23, 3) := by decide +kernel
theorem d_M_store_79 : decode b_M_store 79 = .ok (.aload_n 0, 1) := by decide +kernel
theorem d_M_store_80 : decode b_M_store 80 = .ok (.getfield 13, 3) := by decide +kernel
theorem d_M_store_83 : decode b_M_store 83 = .ok (.iconst 2, 1) := by decide +kernel
theorem d_M_store_84 : decode b_M_store 84 = .ok (.iload_n 2, 1) := by decide +kernel
theorem d_M_store_85 : decode b_M_store 85 = .ok (.imul, 1) := by decide +kernel
theorem d_M_store_86 : decode b_M_store 86 = .ok (.iconst 0, 1) := by decide +kernel
theorem d_M_store_87 : decode b_M_store 87 = .ok (.iastore, 1) := by decide +kernel
theorem d_M_store_88 : decode b_M_store 88 = .ok (.aload_n 0, 1) := by decide +kernel
theorem d_M_store_89 : decode b_M_store 89 = .ok (.getfield 13, 3) := by decide +kernel
theorem d_M_store_92 : decode b_M_store 92 = .ok (.iconst 2, 1) := by decide +kernel
theorem d_M_store_93 : decode b_M_store 93 = .ok (.iload_n 2, 1) := by decide +kernel
theorem d_M_store_94 : decode b_M_store 94 = .ok (.imul, 1) := by decide +kernel
theorem d_M_store_95 : decode b_M_store 95 = .ok (.iconst 1, 1) := by decide +kernel
theorem d_M_store_96 : decode b_M_store 96 = .ok (.iadd, 1) := by decide +kernel
theorem d_M_store_97 : decode b_M_store 97 = .ok (.iconst 0, 1) := by decide +kernel
theorem d_M_store_98 : decode b_M_store 98 = .ok (.iastore, 1) := by decide +kernel
theorem d_M_store_99 : decode b_M_store 99 = .ok (.iload_n 1, 1) := by decide +kernel
theorem d_M_store_100 : decode b_M_store 100 = .ok (.ireturn, 1) := by decide +kernel
theorem d_M_isNumber_0 : decode b_M_isNumber 0 = .ok (.iload_n 1, 1) := by decide +kernel
theorem d_M_isNumber_1 : decode b_M_isNumber 1 = .ok (.iconst 0, 1) := by decide +kernel
theorem d_M_isNumber_2 : decode b_M_isNumber 2 = .ok (.bipush 7, 2) := by decide +kernel
theorem d_M_isNumber_4 : decode b_M_isNumber 4 = .ok (.invokestatic 138, 3) := by decide +kernel
theorem d_M_isNumber_7 : decode b_M_isNumber 7 = .ok (.ifCond .eq 16, 3) := by decide +kernel
theorem d_M_isNumber_10 : decode b_M_isNumber 10 = .ok (.aload_n 0, 1) := by decide +kernel
theorem d_M_isNumber_11 : decode b_M_isNumber 11 = .ok (.getfield 16, 3) := by decide +kernel
theorem d_M_isNumber_14 : decode b_M_isNumber 14 = .ok (.iload_n 1, 1) := by decide +kernel
theorem d_M_isNumber_15 : decode b_M_isNumber 15 = .ok (.iaload, 1) := by decide +kernel
theorem d_M_isNumber_16 : decode b_M_isNumber 16 = .ok (.ifCond .lt 7, 3) := by decide +kernel
theorem d_M_isNumber_19 : decode b_M_isNumber 19 = .ok (.iconst 1, 1) := by decide +kernel
theorem d_M_isNumber_20 : decode b_M_isNumber 20 = .ok (.goto 4, 3) := by decide +kernel
theorem d_M_isNumber_23 : decode b_M_isNumber 23 = .ok (.iconst 0, 1) := by decide +kernel
theorem d_M_isNumber_24 : decode b_M_isNumber 24 = .ok (.ireturn, 1) := by decide +kernel
theorem d_M_whole_0 : decode b_M_whole 0 = .ok (.aload_n 0, 1) := by decide +kernel
theorem d_M_whole_1 : decode b_M_whole 1 = .ok (.iconst 0, 1) := by decide +kernel
theorem d_M_whole_2 : decode b_M_whole 2 = .ok (.putfield 39, 3) := by decide +kernel
theorem d_M_whole_5 : decode b_M_whole 5 = .ok (.iload_n 1, 1) := by decide +kernel
theorem d_M_whole_6 : decode b_M_whole 6 = .ok (.iconst 0, 1) := by decide +kernel
theorem d_M_whole_7 : decode b_M_whole 7 = .ok (.bipush 7, 2) := by decide +kernel
theorem d_M_whole_9 : decode b_M_whole 9 = .ok (.invokestatic 138, 3) := by decide +kernel
theorem d_M_whole_12 : decode b_M_whole 12 = .ok (.ifCond .ne 5, 3) := by decide +kernel
theorem d_M_whole_15 : decode b_M_whole 15 = .ok (.iconst 0, 1) := by decide +kernel
theorem d_M_whole_16 : decode b_M_whole 16 = .ok (.ireturn, 1) := by decide +kernel
theorem d_M_whole_17 : decode b_M_whole 17 = .ok (.aload_n 0, 1) := by decide +kernel
theorem d_M_whole_18 : decode b_M_whole 18 = .ok (.bipush 20, 2) := by decide +kernel
theorem d_M_whole_20 : decode b_M_whole 20 = .ok (.lload_n 2, 1) := by decide +kernel
theorem d_M_whole_21 : decode b_M_whole 21 = .ok (.lconst 0, 1) := by decide +kernel
theorem d_M_whole_22 : decode b_M_whole 22 = .ok (.lcmp, 1) := by decide +kernel
theorem d_M_whole_23 : decode b_M_whole 23 = .ok (.ifCond .ge 8, 3) := by decide +kernel
theorem d_M_whole_26 : decode b_M_whole 26 = .ok (.lload_n 2, 1) := by decide +kernel
theorem d_M_whole_27 : decode b_M_whole 27 = .ok (.lneg, 1) := by decide +kernel
theorem d_M_whole_28 : decode b_M_whole 28 = .ok (.goto 4, 3) := by decide +kernel
theorem d_M_whole_31 : decode b_M_whole 31 = .ok (.lload_n 2, 1) := by decide +kernel
theorem d_M_whole_32 : decode b_M_whole 32 = .ok (.invokevirtual 82, 3) := by decide +kernel
theorem d_M_whole_35 : decode b_M_whole 35 = .ok (.aload_n 0, 1) := by decide +kernel
theorem d_M_whole_36 : decode b_M_whole 36 = .ok (.bipush 21, 2) := by decide +kernel
theorem d_M_whole_38 : decode b_M_whole 38 = .ok (.lconst 1, 1) := by decide +kernel
theorem d_M_whole_39 : decode b_M_whole 39 = .ok (.invokevirtual 82, 3) := by decide +kernel
theorem d_M_whole_42 : decode b_M_whole 42 = .ok (.aload_n 0, 1) := by decide +kernel
theorem d_M_whole_43 : decode b_M_whole 43 = .ok (.lload_n 2, 1) := by decide +kernel
theorem d_M_whole_44 : decode b_M_whole 44 = .ok (.lconst 0, 1) := by decide +kernel
theorem d_M_whole_45 : decode b_M_whole 45 = .ok (.lcmp, 1) := by decide +kernel
theorem d_M_whole_46 : decode b_M_whole 46 = .ok (.ifCond .ge 7, 3) := by decide +kernel
theorem d_M_whole_49 : decode b_M_whole 49 = .ok (.iconst 1, 1) := by decide +kernel
theorem d_M_whole_50 : decode b_M_whole 50 = .ok (.goto 4, 3) := by decide +kernel
theorem d_M_whole_53 : decode b_M_whole 53 = .ok (.iconst 0, 1) := by decide +kernel
theorem d_M_whole_54 : decode b_M_whole 54 = .ok (.putfield 129, 3) := by decide +kernel
theorem d_M_whole_57 : decode b_M_whole 57 = .ok (.aload_n 0, 1) := by decide +kernel
theorem d_M_whole_58 : decode b_M_whole 58 = .ok (.iconst 0, 1) := by decide +kernel
theorem d_M_whole_59 : decode b_M_whole 59 = .ok (.iload_n 1, 1) := by decide +kernel
theorem d_M_whole_60 : decode b_M_whole 60 = .ok (.iconst 0, 1) := by decide +kernel
theorem d_M_whole_61 : decode b_M_whole 61 = .ok (.invokevirtual 142, 3) := by decide +kernel
theorem d_M_whole_64 : decode b_M_whole 64 = .ok (.ifCond .ne 7, 3) := by decide +kernel
theorem d_M_whole_67 : decode b_M_whole 67 = .ok (.iconst 1, 1) := by decide +kernel
theorem d_M_whole_68 : decode b_M_whole 68 = .ok (.goto 4, 3) := by decide +kernel
theorem d_M_whole_71 : decode b_M_whole 71 = .ok (.iconst 0, 1) := by decide +kernel
theorem d_M_whole_72 : decode b_M_whole 72 = .ok (.ireturn, 1) := by decide +kernel
theorem d_M_real_0 : decode b_M_real 0 = .ok (.aload_n 0, 1) := by decide +kernel
theorem d_M_real_1 : decode b_M_real 1 = .ok (.iconst 0, 1) := by decide +kernel
theorem d_M_real_2 : decode b_M_real 2 = .ok (.putfield 39, 3) := by decide +kernel
theorem d_M_real_5 : decode b_M_real 5 = .ok (.iload_n 1, 1) := by decide +kernel
theorem d_M_real_6 : decode b_M_real 6 = .ok (.iconst 0, 1) := by decide +kernel
theorem d_M_real_7 : decode b_M_real 7 = .ok (.bipush 7, 2) := by decide +kernel
theorem d_M_real_9 : decode b_M_real 9 = .ok (.invokestatic 138, 3) := by decide +kernel
theorem d_M_real_12 : decode b_M_real 12 = .ok (.ifCond .eq 21, 3) := by decide +kernel
theorem d_M_real_15 : decode b_M_real 15 = .ok (.dload_n 2, 1) := by decide +kernel
theorem d_M_real_16 : decode b_M_real 16 = .ok (.dconst 0, 1) := by decide +kernel
theorem d_M_real_17 : decode b_M_real 17 = .ok (.dcmp .g, 1) := by decide +kernel
theorem d_M_real_18 : decode b_M_real 18 = .ok (.ifCond .ge 8, 3) := by decide +kernel
theorem d_M_real_21 : decode b_M_real 21 = .ok (.dload_n 2, 1) := by decide +kernel
theorem d_M_real_22 : decode b_M_real 22 = .ok (.dneg, 1) := by decide +kernel
theorem d_M_real_23 : decode b_M_real 23 = .ok (.goto 4, 3) := by decide +kernel
theorem d_M_real_26 : decode b_M_real 26 = .ok (.dload_n 2, 1) := by decide +kernel
theorem d_M_real_27 : decode b_M_real 27 = .ok (.invokestatic 108, 3) := by decide +kernel
theorem d_M_real_30 : decode b_M_real 30 = .ok (.ifCond .ne 5, 3) := by decide +kernel
theorem d_M_real_33 : decode b_M_real 33 = .ok (.iconst 0, 1) := by decide +kernel
theorem d_M_real_34 : decode b_M_real 34 = .ok (.ireturn, 1) := by decide +kernel
theorem d_M_real_35 : decode b_M_real 35 = .ok (.aload_n 0, 1) := by decide +kernel
theorem d_M_real_36 : decode b_M_real 36 = .ok (.dload_n 2, 1) := by decide +kernel
theorem d_M_real_37 : decode b_M_real 37 = .ok (.dconst 0, 1) := by decide +kernel
theorem d_M_real_38 : decode b_M_real 38 = .ok (.dcmp .g, 1) := by decide +kernel
theorem d_M_real_39 : decode b_M_real 39 = .ok (.ifCond .ge 8, 3) := by decide +kernel
theorem d_M_real_42 : decode b_M_real 42 = .ok (.dload_n 2, 1) := by decide +kernel
theorem d_M_real_43 : decode b_M_real 43 = .ok (.dneg, 1) := by decide +kernel
theorem d_M_real_44 : decode b_M_real 44 = .ok (.goto 4, 3) := by decide +kernel
theorem d_M_real_47 : decode b_M_real 47 = .ok (.dload_n 2, 1) := by decide +kernel
theorem d_M_real_48 : decode b_M_real 48 = .ok (.bipush 20, 2) := by decide +kernel
theorem d_M_real_50 : decode b_M_real 50 = .ok (.bipush 21, 2) := by decide +kernel
theorem d_M_real_52 : decode b_M_real 52 = .ok (.invokevirtual 114, 3) := by decide +kernel
theorem d_M_real_55 : decode b_M_real 55 = .ok (.aload_n 0, 1) := by decide +kernel
theorem d_M_real_56 : decode b_M_real 56 = .ok (.dload_n 2, 1) := by decide +kernel
theorem d_M_real_57 : decode b_M_real 57 = .ok (.dconst 0, 1) := by decide +kernel
theorem d_M_real_58 : decode b_M_real 58 = .ok (.dcmp .g, 1) := by decide +kernel
theorem d_M_real_59 : decode b_M_real 59 = .ok (.ifCond .ge 7, 3) := by decide +kernel
theorem d_M_real_62 : decode b_M_real 62 = .ok (.iconst 1, 1) := by decide +kernel
theorem d_M_real_63 : decode b_M_real 63 = .ok (.goto 4, 3) := by decide +kernel
theorem d_M_real_66 : decode b_M_real 66 = .ok (.iconst 0, 1) := by decide +kernel
theorem d_M_real_67 : decode b_M_real 67 = .ok (.putfield 129, 3) := by decide +kernel
theorem d_M_real_70 : decode b_M_real 70 = .ok (.aload_n 0, 1) := by decide +kernel
theorem d_M_real_71 : decode b_M_real 71 = .ok (.iconst 2, 1) := by decide +kernel
theorem d_M_real_72 : decode b_M_real 72 = .ok (.iload_n 1, 1) := by decide +kernel
theorem d_M_real_73 : decode b_M_real 73 = .ok (.iconst 0, 1) := by decide +kernel
theorem d_M_real_74 : decode b_M_real 74 = .ok (.invokevirtual 142, 3) := by decide +kernel
theorem d_M_real_77 : decode b_M_real 77 = .ok (.iconst 2, 1) := by decide +kernel
theorem d_M_real_78 : decode b_M_real 78 = .ok (.if_icmp .ne 7, 3) := by decide +kernel
theorem d_M_real_81 : decode b_M_real 81 = .ok (.iconst 1, 1) := by decide +kernel
theorem d_M_real_82 : decode b_M_real 82 = .ok (.goto 4, 3) := by decide +kernel
theorem d_M_real_85 : decode b_M_real 85 = .ok (.iconst 0, 1) := by decide +kernel
theorem d_M_real_86 : decode b_M_real 86 = .ok (.ireturn, 1) := by decide +kernel
theorem d_M_plus_0 : decode b_M_plus 0 = .ok (.aload_n 0, 1) := by decide +kernel
theorem d_M_plus_1 : decode b_M_plus 1 = .ok (.bipush 16, 2) := by decide +kernel
theorem d_M_plus_3 : decode b_M_plus 3 = .ok (.bipush 19, 2) := by decide +kernel
theorem d_M_plus_5 : decode b_M_plus 5 = .ok (.bipush 22, 2) := by decide +kernel
theorem d_M_plus_7 : decode b_M_plus 7 = .ok (.invokevirtual 146, 3) := by decide +kernel
theorem d_M_plus_10 : decode b_M_plus 10 = .ok (.aload_n 0, 1) := by decide +kernel
theorem d_M_plus_11 : decode b_M_plus 11 = .ok (.bipush 18, 2) := by decide +kernel
theorem d_M_plus_13 : decode b_M_plus 13 = .ok (.bipush 17, 2) := by decide +kernel
theorem d_M_plus_15 : decode b_M_plus 15 = .ok (.bipush 23, 2) := by decide +kernel
theorem d_M_plus_17 : decode b_M_plus 17 = .ok (.invokevirtual 146, 3) := by decide +kernel
theorem d_M_plus_20 : decode b_M_plus 20 = .ok (.aload_n 0, 1) := by decide +kernel
theorem d_M_plus_21 : decode b_M_plus 21 = .ok (.bipush 17, 2) := by decide +kernel
theorem d_M_plus_23 : decode b_M_plus 23 = .ok (.bipush 19, 2) := by decide +kernel
theorem d_M_plus_25 : decode b_M_plus 25 = .ok (.bipush 21, 2) := by decide +kernel
theorem d_M_plus_27 : decode b_M_plus 27 = .ok (.invokevirtual 146, 3) := by decide +kernel
theorem d_M_plus_30 : decode b_M_plus 30 = .ok (.aload_n 0, 1) := by decide +kernel
theorem d_M_plus_31 : decode b_M_plus 31 = .ok (.aload_n 0, 1) := by decide +kernel
theorem d_M_plus_32 : decode b_M_plus 32 = .ok (.getfield 149, 3) := by decide +kernel
theorem d_M_plus_35 : decode b_M_plus 35 = .ok (.putfield 129, 3) := by decide +kernel
theorem d_M_plus_38 : decode b_M_plus 38 = .ok (.aload_n 0, 1) := by decide +kernel
theorem d_M_plus_39 : decode b_M_plus 39 = .ok (.getfield 149, 3) := by decide +kernel
theorem d_M_plus_42 : decode b_M_plus 42 = .ok (.aload_n 0, 1) := by decide +kernel
theorem d_M_plus_43 : decode b_M_plus 43 = .ok (.getfield 152, 3) := by decide +kernel
theorem d_M_plus_46 : decode b_M_plus 46 = .ok (.if_icmp .ne 16, 3) := by decide +kernel
theorem d_M_plus_49 : decode b_M_plus 49 = .ok (.aload_n 0, 1) := by decide +kernel
theorem d_M_plus_50 : decode b_M_plus 50 = .ok (.bipush 22, 2) := by decide +kernel
theorem d_M_plus_52 : decode b_M_plus 52 = .ok (.bipush 23, 2) := by decide +kernel
theorem d_M_plus_54 : decode b_M_plus 54 = .ok (.bipush 20, 2) := by decide +kernel
theorem d_M_plus_56 : decode b_M_plus 56 = .ok (.invokevirtual 155, 3) := by decide +kernel
theorem d_M_plus_59 : decode b_M_plus 59 = .ok (.goto 45, 3) := by decide +kernel
theorem d_M_plus_62 : decode b_M_plus 62 = .ok (.aload_n 0, 1) := by decide +kernel
theorem d_M_plus_63 : decode b_M_plus 63 = .ok (.bipush 22, 2) := by decide +kernel
theorem d_M_plus_65 : decode b_M_plus 65 = .ok (.bipush 23, 2) := by decide +kernel
theorem d_M_plus_67 : decode b_M_plus 67 = .ok (.invokevirtual 105, 3) := by decide +kernel
theorem d_M_plus_70 : decode b_M_plus 70 = .ok (.ifCond .lt 16, 3) := by decide +kernel
theorem d_M_plus_73 : decode b_M_plus 73 = .ok (.aload_n 0, 1) := by decide +kernel
theorem d_M_plus_74 : decode b_M_plus 74 = .ok (.bipush 22, 2) := by decide +kernel
theorem d_M_plus_76 : decode b_M_plus 76 = .ok (.bipush 23, 2) := by decide +kernel
theorem d_M_plus_78 : decode b_M_plus 78 = .ok (.bipush 20, 2) := by decide +kernel
theorem d_M_plus_80 : decode b_M_plus 80 = .ok (.invokevirtual 158, 3) := by decide +kernel
theorem d_M_plus_83 : decode b_M_plus 83 = .ok (.goto 21, 3) := by decide +kernel
theorem d_M_plus_86 : decode b_M_plus 86 = .ok (.aload_n 0, 1) := by decide +kernel
theorem d_M_plus_87 : decode b_M_plus 87 = .ok (.bipush 23, 2) := by decide +kernel
theorem d_M_plus_89 : decode b_M_plus 89 = .ok (.bipush 22, 2) := by decide +kernel
theorem d_M_plus_91 : decode b_M_plus 91 = .ok (.bipush 20, 2) := by decide +kernel
theorem d_M_plus_93 : decode b_M_plus 93 = .ok (.invokevirtual 158, 3) := by decide +kernel
theorem d_M_plus_96 : decode b_M_plus 96 = .ok (.aload_n 0, 1) := by decide +kernel
theorem d_M_plus_97 : decode b_M_plus 97 = .ok (.aload_n 0, 1) := by decide +kernel
theorem d_M_plus_98 : decode b_M_plus 98 = .ok (.getfield 152, 3) := by decide +kernel
theorem d_M_plus_101 : decode b_M_plus 101 = .ok (.putfield 129, 3) := by decide +kernel
theorem d_M_plus_104 : decode b_M_plus 104 = .ok (.aload_n 0, 1) := by decide +kernel
theorem d_M_plus_105 : decode b_M_plus 105 = .ok (.aload_n 0, 1) := by decide +kernel
theorem d_M_plus_106 : decode b_M_plus 106 = .ok (.getfield 129, 3) := by decide +kernel
theorem d_M_plus_109 : decode b_M_plus 109 = .ok (.ifCond .eq 16, 3) := by decide +kernel
theorem d_M_plus_112 : decode b_M_plus 112 = .ok (.aload_n 0, 1) := by decide +kernel
theorem d_M_plus_113 : decode b_M_plus 113 = .ok (.bipush 20, 2) := by decide +kernel
theorem d_M_plus_115 : decode b_M_plus 115 = .ok (.invokevirtual 75, 3) := by decide +kernel
theorem d_M_plus_118 : decode b_M_plus 118 = .ok (.ifCond .ne 7, 3) := by decide +kernel
theorem d_M_plus_121 : decode b_M_plus 121 = .ok (.iconst 1, 1) := by decide +kernel
theorem d_M_plus_122 : decode b_M_plus 122 = .ok (.goto 4, 3) := by decide +kernel
theorem d_M_plus_125 : decode b_M_plus 125 = .ok (.iconst 0, 1) := by decide +kernel
theorem d_M_plus_126 : decode b_M_plus 126 = .ok (.putfield 129, 3) := by decide +kernel
theorem d_M_plus_129 : decode b_M_plus 129 = .ok (.return_, 1) := by decide +kernel
theorem d_M_product_0 : decode b_M_product 0 = .ok (.aload_n 0, 1) := by decide +kernel
theorem d_M_product_1 : decode b_M_product 1 = .ok (.bipush 16, 2) := by decide +kernel
theorem d_M_product_3 : decode b_M_product 3 = .ok (.bipush 18, 2) := by decide +kernel
theorem d_M_product_5 : decode b_M_product 5 = .ok (.bipush 20, 2) := by decide +kernel
theorem d_M_product_7 : decode b_M_product 7 = .ok (.invokevirtual 146, 3) := by decide +kernel
theorem d_M_product_10 : decode b_M_product 10 = .ok (.aload_n 0, 1) := by decide +kernel
theorem d_M_product_11 : decode b_M_product 11 = .ok (.bipush 17, 2) := by decide +kernel
theorem d_M_product_13 : decode b_M_product 13 = .ok (.bipush 19, 2) := by decide +kernel
theorem d_M_product_15 : decode b_M_product 15 = .ok (.bipush 21, 2) := by decide +kernel
theorem d_M_product_17 : decode b_M_product 17 = .ok (.invokevirtual 146, 3) := by decide +kernel
theorem d_M_product_20 : decode b_M_product 20 = .ok (.aload_n 0, 1) := by decide +kernel
theorem d_M_product_21 : decode b_M_product 21 = .ok (.aload_n 0, 1) := by decide +kernel
theorem d_M_product_22 : decode b_M_product 22 = .ok (.getfield 149, 3) := by decide +kernel
theorem d_M_product_25 : decode b_M_product 25 = .ok (.aload_n 0, 1) := by decide +kernel
theorem d_M_product_26 : decode b_M_product 26 = .ok (.getfield 152, 3) := by decide +kernel
theorem d_M_product_29 : decode b_M_product 29 = .ok (.if_icmp .eq 7, 3) := by decide +kernel
theorem d_M_product_32 : decode b_M_product 32 = .ok (.iconst 1, 1) := by decide +kernel
theorem d_M_product_33 : decode b_M_product 33 = .ok (.goto 4, 3) := by decide +kernel
theorem d_M_product_36 : decode b_M_product 36 = .ok (.iconst 0, 1) := by decide +kernel
theorem d_M_product_37 : decode b_M_product 37 = .ok (.putfield 129, 3) := by decide +kernel
theorem d_M_product_40 : decode b_M_product 40 = .ok (.return_, 1) := by decide +kernel
theorem d_M_ratio_0 : decode b_M_ratio 0 = .ok (.aload_n 0, 1) := by decide +kernel
theorem d_M_ratio_1 : decode b_M_ratio 1 = .ok (.bipush 16, 2) := by decide +kernel
theorem d_M_ratio_3 : decode b_M_ratio 3 = .ok (.bipush 19, 2) := by decide +kernel
theorem d_M_ratio_5 : decode b_M_ratio 5 = .ok (.bipush 20, 2) := by decide +kernel
theorem d_M_ratio_7 : decode b_M_ratio 7 = .ok (.invokevirtual 146, 3) := by decide +kernel
theorem d_M_ratio_10 : decode b_M_ratio 10 = .ok (.aload_n 0, 1) := by decide +kernel
theorem d_M_ratio_11 : decode b_M_ratio 11 = .ok (.bipush 17, 2) := by decide +kernel
theorem d_M_ratio_13 : decode b_M_ratio 13 = .ok (.bipush 18, 2) := by decide +kernel
theorem d_M_ratio_15 : decode b_M_ratio 15 = .ok (.bipush 21, 2) := by decide +kernel
theorem d_M_ratio_17 : decode b_M_ratio 17 = .ok (.invokevirtual 146, 3) := by decide +kernel
theorem d_M_ratio_20 : decode b_M_ratio 20 = .ok (.aload_n 0, 1) := by decide +kernel
theorem d_M_ratio_21 : decode b_M_ratio 21 = .ok (.aload_n 0, 1) := by decide +kernel
theorem d_M_ratio_22 : decode b_M_ratio 22 = .ok (.getfield 149, 3) := by decide +kernel
theorem d_M_ratio_25 : decode b_M_ratio 25 = .ok (.aload_n 0, 1) := by decide +kernel
theorem d_M_ratio_26 : decode b_M_ratio 26 = .ok (.getfield 152, 3) := by decide +kernel
theorem d_M_ratio_29 : decode b_M_ratio 29 = .ok (.if_icmp .eq 7, 3) := by decide +kernel
theorem d_M_ratio_32 : decode b_M_ratio 32 = .ok (.iconst 1, 1) := by decide +kernel
theorem d_M_ratio_33 : decode b_M_ratio 33 = .ok (.goto 4, 3) := by decide +kernel
theorem d_M_ratio_36 : decode b_M_ratio 36 = .ok (.iconst 0, 1) := by decide +kernel
theorem d_M_ratio_37 : decode b_M_ratio 37 = .ok (.putfield 129, 3) := by decide +kernel
theorem d_M_ratio_40 : decode b_M_ratio 40 = .ok (.return_, 1) := by decide +kernel
theorem d_M_floor_0 : decode b_M_floor 0 = .ok (.aload_n 0, 1) := by decide +kernel
theorem d_M_floor_1 : decode b_M_floor 1 = .ok (.bipush 20, 2) := by decide +kernel
theorem d_M_floor_3 : decode b_M_floor 3 = .ok (.bipush 21, 2) := by decide +kernel
theorem d_M_floor_5 : decode b_M_floor 5 = .ok (.invokevirtual 79, 3) := by decide +kernel
theorem d_M_floor_8 : decode b_M_floor 8 = .ok (.aload_n 0, 1) := by decide +kernel
theorem d_M_floor_9 : decode b_M_floor 9 = .ok (.bipush 25, 2) := by decide +kernel
theorem d_M_floor_11 : decode b_M_floor 11 = .ok (.invokevirtual 75, 3) := by decide +kernel
theorem d_M_floor_14 : decode b_M_floor 14 = .ok (.istore_n 1, 1) := by decide +kernel
theorem d_M_floor_15 : decode b_M_floor 15 = .ok (.aload_n 0, 1) := by decide +kernel
theorem d_M_floor_16 : decode b_M_floor 16 = .ok (.bipush 24, 2) := by decide +kernel
theorem d_M_floor_18 : decode b_M_floor 18 = .ok (.bipush 20, 2) := by decide +kernel
theorem d_M_floor_20 : decode b_M_floor 20 = .ok (.invokevirtual 58, 3) := by decide +kernel
theorem d_M_floor_23 : decode b_M_floor 23 = .ok (.aload_n 0, 1) := by decide +kernel
theorem d_M_floor_24 : decode b_M_floor 24 = .ok (.bipush 21, 2) := by decide +kernel
theorem d_M_floor_26 : decode b_M_floor 26 = .ok (.lconst 1, 1) := by decide +kernel
theorem d_M_floor_27 : decode b_M_floor 27 = .ok (.invokevirtual 82, 3) := by decide +kernel
theorem d_M_floor_30 : decode b_M_floor 30 = .ok (.aload_n 0, 1) := by decide +kernel
theorem d_M_floor_31 : decode b_M_floor 31 = .ok (.getfield 129, 3) := by decide +kernel
theorem d_M_floor_34 : decode b_M_floor 34 = .ok (.ifCond .eq 13, 3) := by decide +kernel
theorem d_M_floor_37 : decode b_M_floor 37 = .ok (.iload_n 1, 1) := by decide +kernel
theorem d_M_floor_38 : decode b_M_floor 38 = .ok (.ifCond .ne 9, 3) := by decide +kernel
theorem d_M_floor_41 : decode b_M_floor 41 = .ok (.aload_n 0, 1) := by decide +kernel
theorem d_M_floor_42 : decode b_M_floor 42 = .ok (.bipush 20, 2) := by decide +kernel
theorem d_M_floor_44 : decode b_M_floor 44 = .ok (.invokevirtual 161, 3) := by decide +kernel
theorem d_M_floor_47 : decode b_M_floor 47 = .ok (.aload_n 0, 1) := by decide +kernel
theorem d_M_floor_48 : decode b_M_floor 48 = .ok (.aload_n 0, 1) := by decide +kernel
theorem d_M_floor_49 : decode b_M_floor 49 = .ok (.getfield 129, 3) := by decide +kernel
theorem d_M_floor_52 : decode b_M_floor 52 = .ok (.ifCond .eq 16, 3) := by decide +kernel
theorem d_M_floor_55 : decode b_M_floor 55 = .ok (.aload_n 0, 1) := by decide +kernel
theorem d_M_floor_56 : decode b_M_floor 56 = .ok (.bipush 20, 2) := by decide +kernel
theorem d_M_floor_58 : decode b_M_floor 58 = .ok (.invokevirtual 75, 3) := by decide +kernel
theorem d_M_floor_61 : decode b_M_floor 61 = .ok (.ifCond .ne 7, 3) := by decide +kernel
theorem d_M_floor_64 : decode b_M_floor 64 = .ok (.iconst 1, 1) := by decide +kernel
theorem d_M_floor_65 : decode b_M_floor 65 = .ok (.goto 4, 3) := by decide +kernel
theorem d_M_floor_68 : decode b_M_floor 68 = .ok (.iconst 0, 1) := by decide +kernel
theorem d_M_floor_69 : decode b_M_floor 69 = .ok (.putfield 129, 3) := by decide +kernel
theorem d_M_floor_72 : decode b_M_floor 72 = .ok (.return_, 1) := by decide +kernel
theorem d_M_grow1_0 : decode b_M_grow1 0 = .ok (.aload_n 0, 1) := by decide +kernel
theorem d_M_grow1_1 : decode b_M_grow1 1 = .ok (.bipush 32, 2) := by decide +kernel
theorem d_M_grow1_3 : decode b_M_grow1 3 = .ok (.lconst 1, 1) := by decide +kernel
theorem d_M_grow1_4 : decode b_M_grow1 4 = .ok (.invokevirtual 82, 3) := by decide +kernel
theorem d_M_grow1_7 : decode b_M_grow1 7 = .ok (.aload_n 0, 1) := by decide +kernel
theorem d_M_grow1_8 : decode b_M_grow1 8 = .ok (.iload_n 1, 1) := by decide +kernel
theorem d_M_grow1_9 : decode b_M_grow1 9 = .ok (.bipush 32, 2) := by decide +kernel
theorem d_M_grow1_11 : decode b_M_grow1 11 = .ok (.iload_n 1, 1) := by decide +kernel
theorem d_M_grow1_12 : decode b_M_grow1 12 = .ok (.invokevirtual 155, 3) := by decide +kernel
theorem d_M_grow1_15 : decode b_M_grow1 15 = .ok (.return_, 1) := by decide +kernel
theorem d_M_rest_0 : decode b_M_rest 0 = .ok (.aload_n 0, 1) := by decide +kernel
theorem d_M_rest_1 : decode b_M_rest 1 = .ok (.invokevirtual 164, 3) := by decide +kernel
theorem d_M_rest_4 : decode b_M_rest 4 = .ok (.aload_n 0, 1) := by decide +kernel
theorem d_M_rest_5 : decode b_M_rest 5 = .ok (.invokevirtual 167, 3) := by decide +kernel
theorem d_M_rest_8 : decode b_M_rest 8 = .ok (.aload_n 0, 1) := by decide +kernel
theorem d_M_rest_9 : decode b_M_rest 9 = .ok (.bipush 18, 2) := by decide +kernel
theorem d_M_rest_11 : decode b_M_rest 11 = .ok (.bipush 20, 2) := by decide +kernel
theorem d_M_rest_13 : decode b_M_rest 13 = .ok (.bipush 22, 2) := by decide +kernel
theorem d_M_rest_15 : decode b_M_rest 15 = .ok (.invokevirtual 146, 3) := by decide +kernel
theorem d_M_rest_18 : decode b_M_rest 18 = .ok (.aload_n 0, 1) := by decide +kernel
theorem d_M_rest_19 : decode b_M_rest 19 = .ok (.bipush 22, 2) := by decide +kernel
theorem d_M_rest_21 : decode b_M_rest 21 = .ok (.bipush 18, 2) := by decide +kernel
theorem d_M_rest_23 : decode b_M_rest 23 = .ok (.invokevirtual 58, 3) := by decide +kernel
theorem d_M_rest_26 : decode b_M_rest 26 = .ok (.aload_n 0, 1) := by decide +kernel
theorem d_M_rest_27 : decode b_M_rest 27 = .ok (.aload_n 0, 1) := by decide +kernel
theorem d_M_rest_28 : decode b_M_rest 28 = .ok (.getfield 152, 3) := by decide +kernel
theorem d_M_rest_31 : decode b_M_rest 31 = .ok (.aload_n 0, 1) := by decide +kernel
theorem d_M_rest_32 : decode b_M_rest 32 = .ok (.getfield 129, 3) := by decide +kernel
theorem d_M_rest_35 : decode b_M_rest 35 = .ok (.if_icmp .ne 7, 3) := by decide +kernel
theorem d_M_rest_38 : decode b_M_rest 38 = .ok (.iconst 1, 1) := by decide +kernel
theorem d_M_rest_39 : decode b_M_rest 39 = .ok (.goto 4, 3) := by decide +kernel
theorem d_M_rest_42 : decode b_M_rest 42 = .ok (.iconst 0, 1) := by decide +kernel
theorem d_M_rest_43 : decode b_M_rest 43 = .ok (.putfield 152, 3) := by decide +kernel
theorem d_M_rest_46 : decode b_M_rest 46 = .ok (.aload_n 0, 1) := by decide +kernel
theorem d_M_rest_47 : decode b_M_rest 47 = .ok (.invokevirtual 170, 3) := by decide +kernel
theorem d_M_rest_50 : decode b_M_rest 50 = .ok (.return_, 1) := by decide +kernel
theorem d_M_meet_0 : decode b_M_meet 0 = .ok (.aload_n 0, 1) := by decide +kernel
theorem d_M_meet_1 : decode b_M_meet 1 = .ok (.iconst 0, 1) := by decide +kernel
theorem d_M_meet_2 : decode b_M_meet 2 = .ok (.putfield 94, 3) := by decide +kernel
theorem d_M_meet_5 : decode b_M_meet 5 = .ok (.aload_n 0, 1) := by decide +kernel
theorem d_M_meet_6 : decode b_M_meet 6 = .ok (.getfield 16, 3) := by decide +kernel
theorem d_M_meet_9 : decode b_M_meet 9 = .ok (.iload_n 1, 1) := by decide +kernel
theorem d_M_meet_10 : decode b_M_meet 10 = .ok (.iaload, 1) := by decide +kernel
theorem d_M_meet_11 : decode b_M_meet 11 = .ok (.iconst 2, 1) := by decide +kernel
theorem d_M_meet_12 : decode b_M_meet 12 = .ok (.if_icmp .ge 34, 3) := by decide +kernel
theorem d_M_meet_15 : decode b_M_meet 15 = .ok (.aload_n 0, 1) := by decide +kernel
theorem d_M_meet_16 : decode b_M_meet 16 = .ok (.getfield 16, 3) := by decide +kernel
theorem d_M_meet_19 : decode b_M_meet 19 = .ok (.iload_n 2, 1) := by decide +kernel
theorem d_M_meet_20 : decode b_M_meet 20 = .ok (.iaload, 1) := by decide +kernel
theorem d_M_meet_21 : decode b_M_meet 21 = .ok (.iconst 2, 1) := by decide +kernel
theorem d_M_meet_22 : decode b_M_meet 22 = .ok (.if_icmp .ne 24, 3) := by decide +kernel
theorem d_M_meet_25 : decode b_M_meet 25 = .ok (.aload_n 0, 1) := by decide +kernel
theorem d_M_meet_26 : decode b_M_meet 26 = .ok (.bipush 16, 2) := by decide +kernel
theorem d_M_meet_28 : decode b_M_meet 28 = .ok (.bipush 17, 2) := by decide +kernel
theorem d_M_meet_30 : decode b_M_meet 30 = .ok (.invokevirtual 118, 3) := by decide +kernel
theorem d_M_meet_33 : decode b_M_meet 33 = .ok (.dstore_n 3, 1) := by decide +kernel
theorem d_M_meet_34 : decode b_M_meet 34 = .ok (.aload_n 0, 1) := by decide +kernel
theorem d_M_meet_35 : decode b_M_meet 35 = .ok (.dload_n 3, 1) := by decide +kernel
theorem d_M_meet_36 : decode b_M_meet 36 = .ok (.bipush 16, 2) := by decide +kernel
theorem d_M_meet_38 : decode b_M_meet 38 = .ok (.bipush 17, 2) := by decide +kernel
theorem d_M_meet_40 : decode b_M_meet 40 = .ok (.invokevirtual 114, 3) := by decide +kernel
theorem d_M_meet_43 : decode b_M_meet 43 = .ok (.goto 41, 3) := by decide +kernel
theorem d_M_meet_46 : decode b_M_meet 46 = .ok (.aload_n 0, 1) := by decide +kernel
theorem d_M_meet_47 : decode b_M_meet 47 = .ok (.getfield 16, 3) := by decide +kernel
theorem d_M_meet_50 : decode b_M_meet 50 = .ok (.iload_n 1, 1) := by decide +kernel
theorem d_M_meet_51 : decode b_M_meet 51 = .ok (.iaload, 1) := by decide +kernel
theorem d_M_meet_52 : decode b_M_meet 52 = .ok (.iconst 2, 1) := by decide +kernel
theorem d_M_meet_53 : decode b_M_meet 53 = .ok (.if_icmp .ne 31, 3) := by decide +kernel
theorem d_M_meet_56 : decode b_M_meet 56 = .ok (.aload_n 0, 1) := by decide +kernel
theorem d_M_meet_57 : decode b_M_meet 57 = .ok (.getfield 16, 3) := by decide +kernel
theorem d_M_meet_60 : decode b_M_meet 60 = .ok (.iload_n 2, 1) := by decide +kernel
theorem d_M_meet_61 : decode b_M_meet 61 = .ok (.iaload, 1) := by decide +kernel
theorem d_M_meet_62 : decode b_M_meet 62 = .ok (.iconst 2, 1) := by decide +kernel
theorem d_M_meet_63 : decode b_M_meet 63 = .ok (.if_icmp .ge 21, 3) := by decide +kernel
theorem d_M_meet_66 : decode b_M_meet 66 = .ok (.aload_n 0, 1) := by decide +kernel
theorem d_M_meet_67 : decode b_M_meet 67 = .ok (.bipush 18, 2) := by decide +kernel
theorem d_M_meet_69 : decode b_M_meet 69 = .ok (.bipush 19, 2) := by decide +kernel
theorem d_M_meet_71 : decode b_M_meet 71 = .ok (.invokevirtual 118, 3) := by decide +kernel
theorem d_M_meet_74 : decode b_M_meet 74 = .ok (.dstore_n 3, 1) := by decide +kernel
theorem d_M_meet_75 : decode b_M_meet 75 = .ok (.aload_n 0, 1) := by decide +kernel
theorem d_M_meet_76 : decode b_M_meet 76 = .ok (.dload_n 3, 1) := by decide +kernel
theorem d_M_meet_77 : decode b_M_meet 77 = .ok (.bipush 18, 2) := by decide +kernel
theorem d_M_meet_79 : decode b_M_meet 79 = .ok (.bipush 19, 2) := by decide +kernel
theorem d_M_meet_81 : decode b_M_meet 81 = .ok (.invokevirtual 114, 3) := by decide +kernel
theorem d_M_meet_84 : decode b_M_meet 84 = .ok (.return_, 1) := by decide +kernel
theorem d_M_small_0 : decode b_M_small 0 = .ok (.aload_n 0, 1) := by decide +kernel
theorem d_M_small_1 : decode b_M_small 1 = .ok (.iconst 2, 1) := by decide +kernel
theorem d_M_small_2 : decode b_M_small 2 = .ok (.iload_n 1, 1) := by decide +kernel
theorem d_M_small_3 : decode b_M_small 3 = .ok (.imul, 1) := by decide +kernel
theorem d_M_small_4 : decode b_M_small 4 = .ok (.invokevirtual 62, 3) := by decide +kernel
theorem d_M_small_7 : decode b_M_small 7 = .ok (.bipush 10, 2) := by decide +kernel
theorem d_M_small_9 : decode b_M_small 9 = .ok (.if_icmp .gt 17, 3) := by decide +kernel
theorem d_M_small_12 : decode b_M_small 12 = .ok (.aload_n 0, 1) := by decide +kernel
theorem d_M_small_13 : decode b_M_small 13 = .ok (.iconst 2, 1) := by decide +kernel
theorem d_M_small_14 : decode b_M_small 14 = .ok (.iload_n 1, 1) := by decide +kernel
theorem d_M_small_15 : decode b_M_small 15 = .ok (.imul, 1) := by decide +kernel
theorem d_M_small_16 : decode b_M_small 16 = .ok (.iconst 0, 1) := by decide +kernel
theorem d_M_small_17 : decode b_M_small 17 = .ok (.invokevirtual 45, 3) := by decide +kernel
theorem d_M_small_20 : decode b_M_small 20 = .ok (.sipush 999, 3) := by decide +kernel
theorem d_M_small_23 : decode b_M_small 23 = .ok (.if_icmp .le 7, 3) := by decide +kernel
theorem d_M_small_26 : decode b_M_small 26 = .ok (.sipush 1000, 3) := by decide +kernel
theorem d_M_small_29 : decode b_M_small 29 = .ok (.ireturn, 1) := by decide +kernel
theorem d_M_small_30 : decode b_M_small 30 = .ok (.aload_n 0, 1) := by decide +kernel
theorem d_M_small_31 : decode b_M_small 31 = .ok (.getfield 19, 3) := by decide +kernel
theorem d_M_small_34 : decode b_M_small 34 = .ok (.iload_n 1, 1) := by decide +kernel
theorem d_M_small_35 : decode b_M_small 35 = .ok (.baload, 1) := by decide +kernel
theorem d_M_small_36 : decode b_M_small 36 = .ok (.ifCond .eq 15, 3) := by decide +kernel
theorem d_M_small_39 : decode b_M_small 39 = .ok (.aload_n 0, 1) := by decide +kernel
theorem d_M_small_40 : decode b_M_small 40 = .ok (.iconst 2, 1) := by decide +kernel
theorem d_M_small_41 : decode b_M_small 41 = .ok (.iload_n 1, 1) := by decide +kernel
theorem d_M_small_42 : decode b_M_small 42 = .ok (.imul, 1) := by decide +kernel
theorem d_M_small_43 : decode b_M_small 43 = .ok (.iconst 0, 1) := by decide +kernel
theorem d_M_small_44 : decode b_M_small 44 = .ok (.invokevirtual 45, 3) := by decide +kernel
theorem d_M_small_47 : decode b_M_small 47 = .ok (.ineg, 1) := by decide +kernel
theorem d_M_small_48 : decode b_M_small 48 = .ok (.goto 11, 3) := by decide +kernel
theorem d_M_small_51 : decode b_M_small 51 = .ok (.aload_n 0, 1) := by decide +kernel
theorem d_M_small_52 : decode b_M_small 52 = .ok (.iconst 2, 1) := by decide +kernel
theorem d_M_small_53 : decode b_M_small 53 = .ok (.iload_n 1, 1) := by decide +kernel
theorem d_M_small_54 : decode b_M_small 54 = .ok (.imul, 1) := by decide +kernel
theorem d_M_small_55 : decode b_M_small 55 = .ok (.iconst 0, 1) := by decide +kernel
theorem d_M_small_56 : decode b_M_small 56 = .ok (.invokevirtual 45, 3) := by decide +kernel
theorem d_M_small_59 : decode b_M_small 59 = .ok (.ireturn, 1) := by decide +kernel
theorem d_M_takes_0 : decode b_M_takes 0 = .ok (.iload_n 1, 1) := by decide +kernel
theorem d_M_takes_1 : decode b_M_takes 1 = .ok (.bipush 6, 2) := by decide +kernel
theorem d_M_takes_3 : decode b_M_takes 3 = .ok (.if_icmp .ne 32, 3) := by decide +kernel
theorem d_M_takes_6 : decode b_M_takes 6 = .ok (.aload_n 0, 1) := by decide +kernel
theorem d_M_takes_7 : decode b_M_takes 7 = .ok (.getfield 16, 3) := by decide +kernel
theorem d_M_takes_10 : decode b_M_takes 10 = .ok (.iload_n 3, 1) := by decide +kernel
theorem d_M_takes_11 : decode b_M_takes 11 = .ok (.iaload, 1) := by decide +kernel
theorem d_M_takes_12 : decode b_M_takes 12 = .ok (.ifCond .ne 21, 3) := by decide +kernel
theorem d_M_takes_15 : decode b_M_takes 15 = .ok (.aload_n 0, 1) := by decide +kernel
theorem d_M_takes_16 : decode b_M_takes 16 = .ok (.iload_n 3, 1) := by decide +kernel
theorem d_M_takes_17 : decode b_M_takes 17 = .ok (.invokevirtual 173, 3) := by decide +kernel
theorem d_M_takes_20 : decode b_M_takes 20 = .ok (.iconst 0, 1) := by decide +kernel
theorem d_M_takes_21 : decode b_M_takes 21 = .ok (.bipush 40, 2) := by decide +kernel
theorem d_M_takes_23 : decode b_M_takes 23 = .ok (.invokestatic 138, 3) := by decide +kernel
theorem d_M_takes_26 : decode b_M_takes 26 = .ok (.ifCond .eq 7, 3) := by decide +kernel
theorem d_M_takes_29 : decode b_M_takes 29 = .ok (.iconst 1, 1) := by decide +kernel
theorem d_M_takes_30 : decode b_M_takes 30 = .ok (.goto 4, 3) := by decide +kernel
theorem d_M_takes_33 : decode b_M_takes 33 = .ok (.iconst 0, 1) := by decide +kernel
theorem d_M_takes_34 : decode b_M_takes 34 = .ok (.ireturn, 1) := by decide +kernel
theorem d_M_takes_35 : decode b_M_takes 35 = .ok (.iload_n 1, 1) := by decide +kernel
theorem d_M_takes_36 : decode b_M_takes 36 = .ok (.bipush 6, 2) := by decide +kernel
theorem d_M_takes_38 : decode b_M_takes 38 = .ok (.if_icmp .ge 5, 3) := by decide +kernel
theorem d_M_takes_41 : decode b_M_takes 41 = .ok (.iconst 1, 1) := by decide +kernel
theorem d_M_takes_42 : decode b_M_takes 42 = .ok (.ireturn, 1) := by decide +kernel
theorem d_M_takes_43 : decode b_M_takes 43 = .ok (.aload_n 0, 1) := by decide +kernel
theorem d_M_takes_44 : decode b_M_takes 44 = .ok (.getfield 16, 3) := by decide +kernel
theorem d_M_takes_47 : decode b_M_takes 47 = .ok (.iload_n 2, 1) := by decide +kernel
theorem d_M_takes_48 : decode b_M_takes 48 = .ok (.iaload, 1) := by decide +kernel
theorem d_M_takes_49 : decode b_M_takes 49 = .ok (.ifCond .ne 37, 3) := by decide +kernel
theorem d_M_takes_52 : decode b_M_takes 52 = .ok (.aload_n 0, 1) := by decide +kernel
theorem d_M_takes_53 : decode b_M_takes 53 = .ok (.getfield 16, 3) := by decide +kernel
theorem d_M_takes_56 : decode b_M_takes 56 = .ok (.iload_n 3, 1) := by decide +kernel
theorem d_M_takes_57 : decode b_M_takes 57 = .ok (.iaload, 1) := by decide +kernel
theorem d_M_takes_58 : decode b_M_takes 58 = .ok (.ifCond .ne 28, 3) := by decide +kernel
theorem d_M_takes_61 : decode b_M_takes 61 = .ok (.iload_n 1, 1) := by decide +kernel
theorem d_M_takes_62 : decode b_M_takes 62 = .ok (.bipush 10, 2) := by decide +kernel
theorem d_M_takes_64 : decode b_M_takes 64 = .ok (.if_icmp .lt 18, 3) := by decide +kernel
theorem d_M_takes_67 : decode b_M_takes 67 = .ok (.aload_n 0, 1) := by decide +kernel
theorem d_M_takes_68 : decode b_M_takes 68 = .ok (.iload_n 3, 1) := by decide +kernel
theorem d_M_takes_69 : decode b_M_takes 69 = .ok (.invokevirtual 173, 3) := by decide +kernel
theorem d_M_takes_72 : decode b_M_takes 72 = .ok (.bipush (-120), 2) := by decide +kernel
theorem d_M_takes_74 : decode b_M_takes 74 = .ok (.bipush 120, 2) := by decide +kernel
theorem d_M_takes_76 : decode b_M_takes 76 = .ok (.invokestatic 138, 3) := by decide +kernel
theorem d_M_takes_79 : decode b_M_takes 79 = .ok (.ifCond .eq 7, 3) := by decide +kernel
theorem d_M_takes_82 : decode b_M_takes 82 = .ok (.iconst 1, 1) := by decide +kernel
theorem d_M_takes_83 : decode b_M_takes 83 = .ok (.goto 4, 3) := by decide +kernel
theorem d_M_takes_86 : decode b_M_takes 86 = .ok (.iconst 0, 1) := by decide +kernel
theorem d_M_takes_87 : decode b_M_takes 87 = .ok (.ireturn, 1) := by decide +kernel
theorem d_M_combine_0 : decode b_M_combine 0 = .ok (.aload_n 0, 1) := by decide +kernel
theorem d_M_combine_1 : decode b_M_combine 1 = .ok (.iconst 0, 1) := by decide +kernel
theorem d_M_combine_2 : decode b_M_combine 2 = .ok (.putfield 39, 3) := by decide +kernel
theorem d_M_combine_5 : decode b_M_combine 5 = .ok (.iload_n 1, 1) := by decide +kernel
theorem d_M_combine_6 : decode b_M_combine 6 = .ok (.iconst 0, 1) := by decide +kernel
theorem d_M_combine_7 : decode b_M_combine 7 = .ok (.bipush 10, 2) := by decide +kernel
theorem d_M_combine_9 : decode b_M_combine 9 = .ok (.invokestatic 138, 3) := by decide +kernel
theorem d_M_combine_12 : decode b_M_combine 12 = .ok (.ifCond .eq 40, 3) := by decide +kernel
theorem d_M_combine_15 : decode b_M_combine 15 = .ok (.aload_n 0, 1) := by decide +kernel
theorem d_M_combine_16 : decode b_M_combine 16 = .ok (.iload_n 2, 1) := by decide +kernel
theorem d_M_combine_17 : decode b_M_combine 17 = .ok (.invokevirtual 176, 3) := by decide +kernel
theorem d_M_combine_20 : decode b_M_combine 20 = .ok (.ifCond .eq 32, 3) := by decide +kernel
theorem d_M_combine_23 : decode b_M_combine 23 = .ok (.aload_n 0, 1) := by decide +kernel
theorem d_M_combine_24 : decode b_M_combine 24 = .ok (.iload_n 3, 1) := by decide +kernel
theorem d_M_combine_25 : decode b_M_combine 25 = .ok (.invokevirtual 176, 3) := by decide +kernel
theorem d_M_combine_28 : decode b_M_combine 28 = .ok (.ifCond .eq 24, 3) := by decide +kernel
theorem d_M_combine_31 : decode b_M_combine 31 = .ok (.iload 4, 2) := by decide +kernel
theorem d_M_combine_33 : decode b_M_combine 33 = .ok (.iconst 0, 1) := by decide +kernel
theorem d_M_combine_34 : decode b_M_combine 34 = .ok (.bipush 7, 2) := by decide +kernel
theorem d_M_combine_36 : decode b_M_combine 36 = .ok (.invokestatic 138, 3) := by decide +kernel
theorem d_M_combine_39 : decode b_M_combine 39 = .ok (.ifCond .eq 13, 3) := by decide +kernel
theorem d_M_combine_42 : decode b_M_combine 42 = .ok (.aload_n 0, 1) := by decide +kernel
theorem d_M_combine_43 : decode b_M_combine 43 = .ok (.iload_n 1, 1) := by decide +kernel
theorem d_M_combine_44 : decode b_M_combine 44 = .ok (.iload_n 2, 1) := by decide +kernel
theorem d_M_combine_45 : decode b_M_combine 45 = .ok (.iload_n 3, 1) := by decide +kernel
theorem d_M_combine_46 : decode b_M_combine 46 = .ok (.invokevirtual 179, 3) := by decide +kernel
theorem d_M_combine_49 : decode b_M_combine 49 = .ok (.ifCond .ne 9, 3) := by decide +kernel
theorem d_M_combine_52 : decode b_M_combine 52 = .ok (.aload_n 0, 1) := by decide +kernel
theorem d_M_combine_53 : decode b_M_combine 53 = .ok (.iconst 1, 1) := by decide +kernel
theorem d_M_combine_54 : decode b_M_combine 54 = .ok (.invokevirtual 135, 3) := by decide +kernel
theorem d_M_combine_57 : decode b_M_combine 57 = .ok (.ireturn, 1) := by decide +kernel
theorem d_M_combine_58 : decode b_M_combine 58 = .ok (.aload_n 0, 1) := by decide +kernel
theorem d_M_combine_59 : decode b_M_combine 59 = .ok (.aload_n 0, 1) := by decide +kernel
theorem d_M_combine_60 : decode b_M_combine 60 = .ok (.iload_n 2, 1) := by decide +kernel
theorem d_M_combine_61 : decode b_M_combine 61 = .ok (.bipush 16, 2) := by decide +kernel
theorem d_M_combine_63 : decode b_M_combine 63 = .ok (.bipush 17, 2) := by decide +kernel
theorem d_M_combine_65 : decode b_M_combine 65 = .ok (.invokevirtual 182, 3) := by decide +kernel
theorem d_M_combine_68 : decode b_M_combine 68 = .ok (.putfield 149, 3) := by decide +kernel
theorem d_M_combine_71 : decode b_M_combine 71 = .ok (.aload_n 0, 1) := by decide +kernel
theorem d_M_combine_72 : decode b_M_combine 72 = .ok (.aload_n 0, 1) := by decide +kernel
theorem d_M_combine_73 : decode b_M_combine 73 = .ok (.iload_n 3, 1) := by decide +kernel
theorem d_M_combine_74 : decode b_M_combine 74 = .ok (.bipush 18, 2) := by decide +kernel
theorem d_M_combine_76 : decode b_M_combine 76 = .ok (.bipush 19, 2) := by decide +kernel
theorem d_M_combine_78 : decode b_M_combine 78 = .ok (.invokevirtual 182, 3) := by decide +kernel
theorem d_M_combine_81 : decode b_M_combine 81 = .ok (.putfield 152, 3) := by decide +kernel
theorem d_M_combine_84 : decode b_M_combine 84 = .ok (.iload_n 1, 1) := by decide +kernel
theorem d_M_combine_85 : decode b_M_combine 85 = .ok (.iconst 3, 1) := by decide +kernel
theorem d_M_combine_86 : decode b_M_combine 86 = .ok (.iconst 5, 1) := by decide +kernel
theorem d_M_combine_87 : decode b_M_combine 87 = .ok (.invokestatic 138, 3) := by decide +kernel
theorem d_M_combine_90 : decode b_M_combine 90 = .ok (.ifCond .eq 18, 3) := by decide +kernel
theorem d_M_combine_93 : decode b_M_combine 93 = .ok (.aload_n 0, 1) := by decide +kernel
theorem d_M_combine_94 : decode b_M_combine 94 = .ok (.bipush 18, 2) := by decide +kernel
theorem d_M_combine_96 : decode b_M_combine 96 = .ok (.invokevirtual 75, 3) := by decide +kernel
theorem d_M_combine_99 : decode b_M_combine 99 = .ok (.ifCond .eq 9, 3) := by decide +kernel
theorem d_M_combine_102 : decode b_M_combine 102 = .ok (.aload_n 0, 1) := by decide +kernel
theorem d_M_combine_103 : decode b_M_combine 103 = .ok (.iconst 2, 1) := by decide +kernel
theorem d_M_combine_104 : decode b_M_combine 104 = .ok (.invokevirtual 135, 3) := by decide +kernel
theorem d_M_combine_107 : decode b_M_combine 107 = .ok (.ireturn, 1) := by decide +kernel
theorem d_M_combine_108 : decode b_M_combine 108 = .ok (.iload_n 1, 1) := by decide +kernel
theorem d_M_combine_109 : decode b_M_combine 109 = .ok (.iconst 5, 1) := by decide +kernel
theorem d_M_combine_110 : decode b_M_combine 110 = .ok (.if_icmp .le 12, 3) := by decide +kernel
theorem d_M_combine_113 : decode b_M_combine 113 = .ok (.aload_n 0, 1) := by decide +kernel
theorem d_M_combine_114 : decode b_M_combine 114 = .ok (.getfield 16, 3) := by decide +kernel
theorem d_M_combine_117 : decode b_M_combine 117 = .ok (.iload_n 2, 1) := by decide +kernel
theorem d_M_combine_118 : decode b_M_combine 118 = .ok (.iaload, 1) := by decide +kernel
theorem d_M_combine_119 : decode b_M_combine 119 = .ok (.goto 33, 3) := by decide +kernel
theorem d_M_combine_122 : decode b_M_combine 122 = .ok (.aload_n 0, 1) := by decide +kernel
theorem d_M_combine_123 : decode b_M_combine 123 = .ok (.getfield 16, 3) := by decide +kernel
theorem d_M_combine_126 : decode b_M_combine 126 = .ok (.iload_n 2, 1) := by decide +kernel
theorem d_M_combine_127 : decode b_M_combine 127 = .ok (.iaload, 1) := by decide +kernel
theorem d_M_combine_128 : decode b_M_combine 128 = .ok (.aload_n 0, 1) := by decide +kernel
theorem d_M_combine_129 : decode b_M_combine 129 = .ok (.getfield 16, 3) := by decide +kernel
theorem d_M_combine_132 : decode b_M_combine 132 = .ok (.iload_n 3, 1) := by decide +kernel
theorem d_M_combine_133 : decode b_M_combine 133 = .ok (.iaload, 1) := by decide +kernel
theorem d_M_combine_134 : decode b_M_combine 134 = .ok (.if_icmp .le 12, 3) := by decide +kernel
theorem d_M_combine_137 : decode b_M_combine 137 = .ok (.aload_n 0, 1) := by decide +kernel
theorem d_M_combine_138 : decode b_M_combine 138 = .ok (.getfield 16, 3) := by decide +kernel
theorem d_M_combine_141 : decode b_M_combine 141 = .ok (.iload_n 2, 1) := by decide +kernel
theorem d_M_combine_142 : decode b_M_combine 142 = .ok (.iaload, 1) := by decide +kernel
theorem d_M_combine_143 : decode b_M_combine 143 = .ok (.goto 9, 3) := by decide +kernel
theorem d_M_combine_146 : decode b_M_combine 146 = .ok (.aload_n 0, 1) := by decide +kernel
theorem d_M_combine_147 : decode b_M_combine 147 = .ok (.getfield 16, 3) := by decide +kernel
theorem d_M_combine_150 : decode b_M_combine 150 = .ok (.iload_n 3, 1) := by decide +kernel
theorem d_M_combine_151 : decode b_M_combine 151 = .ok (.iaload, 1) := by decide +kernel
theorem d_M_combine_152 : decode b_M_combine 152 = .ok (.istore 5, 2) := by decide +kernel
theorem d_M_combine_154 : decode b_M_combine 154 = .ok (.iload_n 1, 1) := by decide +kernel
theorem d_M_combine_155 : decode b_M_combine 155 = .ok (.bipush 6, 2) := by decide +kernel
theorem d_M_combine_157 : decode b_M_combine 157 = .ok (.if_icmp .ge 9, 3) := by decide +kernel
theorem d_M_combine_160 : decode b_M_combine 160 = .ok (.aload_n 0, 1) := by decide +kernel
theorem d_M_combine_161 : decode b_M_combine 161 = .ok (.iload_n 2, 1) := by decide +kernel
theorem d_M_combine_162 : decode b_M_combine 162 = .ok (.iload_n 3, 1) := by decide +kernel
theorem d_M_combine_163 : decode b_M_combine 163 = .ok (.invokevirtual 185, 3) := by decide +kernel
theorem d_M_combine_166 : decode b_M_combine 166 = .ok (.iload_n 1, 1) := by decide +kernel
theorem d_M_combine_167 : decode b_M_combine 167 = .ok (.bipush 6, 2) := by decide +kernel
theorem d_M_combine_169 : decode b_M_combine 169 = .ok (.if_icmp .ge 16, 3) := by decide +kernel
theorem d_M_combine_172 : decode b_M_combine 172 = .ok (.aload_n 0, 1) := by decide +kernel
theorem d_M_combine_173 : decode b_M_combine 173 = .ok (.getfield 94, 3) := by decide +kernel
theorem d_M_combine_176 : decode b_M_combine 176 = .ok (.ifCond .eq 9, 3) := by decide +kernel
theorem d_M_combine_179 : decode b_M_combine 179 = .ok (.aload_n 0, 1) := by decide +kernel
theorem d_M_combine_180 : decode b_M_combine 180 = .ok (.iconst 3, 1) := by decide +kernel
theorem d_M_combine_181 : decode b_M_combine 181 = .ok (.invokevirtual 135, 3) := by decide +kernel
theorem d_M_combine_184 : decode b_M_combine 184 = .ok (.ireturn, 1) := by decide +kernel
theorem d_M_combine_185 : decode b_M_combine 185 = .ok (.iload_n 1, 1) := by decide +kernel
theorem d_M_combine_186 : decode b_M_combine 186 = .ok (.iconst 1, 1) := by decide +kernel
theorem d_M_combine_187 : decode b_M_combine 187 = .ok (.if_icmp .ne 19, 3) := by decide +kernel
theorem d_M_combine_190 : decode b_M_combine 190 = .ok (.aload_n 0, 1) := by decide +kernel
theorem d_M_combine_191 : decode b_M_combine 191 = .ok (.aload_n 0, 1) := by decide +kernel
theorem d_M_combine_192 : decode b_M_combine 192 = .ok (.getfield 152, 3) := by decide +kernel
theorem d_M_combine_195 : decode b_M_combine 195 = .ok (.ifCond .ne 7, 3) := by decide +kernel
theorem d_M_combine_198 : decode b_M_combine 198 = .ok (.iconst 1, 1) := by decide +kernel
theorem d_M_combine_199 : decode b_M_combine 199 = .ok (.goto 4, 3) := by decide +kernel
theorem d_M_combine_202 : decode b_M_combine 202 = .ok (.iconst 0, 1) := by decide +kernel
theorem d_M_combine_203 : decode b_M_combine 203 = .ok (.putfield 152, 3) := by decide +kernel
theorem d_M_combine_206 : decode b_M_combine 206 = .ok (.iload_n 1, 1) := by decide +kernel
theorem d_M_combine_207 : decode b_M_combine 207 = .ok (.tableswitch 145 0 10 #[57, 57, 64, 71, 86, 106, 113, 145, 145, 145, 133], 57) := by decide +kernel
theorem d_M_combine_264 : decode b_M_combine 264 = .ok (.aload_n 0, 1) := by decide +kernel
theorem d_M_combine_265 : decode b_M_combine 265 = .ok (.invokevirtual 170, 3) := by decide +kernel
theorem d_M_combine_268 : decode b_M_combine 268 = .ok (.goto 89, 3) := by decide +kernel
theorem d_M_combine_271 : decode b_M_combine 271 = .ok (.aload_n 0, 1) := by decide +kernel
theorem d_M_combine_272 : decode b_M_combine 272 = .ok (.invokevirtual 188, 3) := by decide +kernel
theorem d_M_combine_275 : decode b_M_combine 275 = .ok (.goto 82, 3) := by decide +kernel
theorem d_M_combine_278 : decode b_M_combine 278 = .ok (.aload_n 0, 1) := by decide +kernel
theorem d_M_combine_279 : decode b_M_combine 279 = .ok (.invokevirtual 164, 3) := by decide +kernel
theorem d_M_combine_282 : decode b_M_combine 282 = .ok (.iload 5, 2) := by decide +kernel
theorem d_M_combine_284 : decode b_M_combine 284 = .ok (.ifCond .ne 73, 3) := by decide +kernel
theorem d_M_combine_287 : decode b_M_combine 287 = .ok (.iconst 2, 1) := by decide +kernel
theorem d_M_combine_288 : decode b_M_combine 288 = .ok (.istore 5, 2) := by decide +kernel
theorem d_M_combine_290 : decode b_M_combine 290 = .ok (.goto 67, 3) := by decide +kernel
theorem d_M_combine_293 : decode b_M_combine 293 = .ok (.aload_n 0, 1) := by decide +kernel
theorem d_M_combine_294 : decode b_M_combine 294 = .ok (.invokevirtual 164, 3) := by decide +kernel
theorem d_M_combine_297 : decode b_M_combine 297 = .ok (.aload_n 0, 1) := by decide +kernel
theorem d_M_combine_298 : decode b_M_combine 298 = .ok (.invokevirtual 167, 3) := by decide +kernel
theorem d_M_combine_301 : decode b_M_combine 301 = .ok (.iload 5, 2) := by decide +kernel
theorem d_M_combine_303 : decode b_M_combine 303 = .ok (.iconst 1, 1) := by decide +kernel
theorem d_M_combine_304 : decode b_M_combine 304 = .ok (.if_icmp .ne 53, 3) := by decide +kernel
theorem d_M_combine_307 : decode b_M_combine 307 = .ok (.iconst 0, 1) := by decide +kernel
theorem d_M_combine_308 : decode b_M_combine 308 = .ok (.istore 5, 2) := by decide +kernel
theorem d_M_combine_310 : decode b_M_combine 310 = .ok (.goto 47, 3) := by decide +kernel
theorem d_M_combine_313 : decode b_M_combine 313 = .ok (.aload_n 0, 1) := by decide +kernel
theorem d_M_combine_314 : decode b_M_combine 314 = .ok (.invokevirtual 191, 3) := by decide +kernel
theorem d_M_combine_317 : decode b_M_combine 317 = .ok (.goto 40, 3) := by decide +kernel
theorem d_M_combine_320 : decode b_M_combine 320 = .ok (.aload_n 0, 1) := by decide +kernel
theorem d_M_combine_321 : decode b_M_combine 321 = .ok (.iload 5, 2) := by decide +kernel
theorem d_M_combine_323 : decode b_M_combine 323 = .ok (.aload_n 0, 1) := by decide +kernel
theorem d_M_combine_324 : decode b_M_combine 324 = .ok (.iload_n 3, 1) := by decide +kernel
theorem d_M_combine_325 : decode b_M_combine 325 = .ok (.invokevirtual 173, 3) := by decide +kernel
theorem d_M_combine_328 : decode b_M_combine 328 = .ok (.invokevirtual 194, 3) := by decide +kernel
theorem d_M_combine_331 : decode b_M_combine 331 = .ok (.ifCond .ne 26, 3) := by decide +kernel
theorem d_M_combine_334 : decode b_M_combine 334 = .ok (.aload_n 0, 1) := by decide +kernel
theorem d_M_combine_335 : decode b_M_combine 335 = .ok (.iconst 3, 1) := by decide +kernel
theorem d_M_combine_336 : decode b_M_combine 336 = .ok (.invokevirtual 135, 3) := by decide +kernel
theorem d_M_combine_339 : decode b_M_combine 339 = .ok (.ireturn, 1) := by decide +kernel
theorem d_M_combine_340 : decode b_M_combine 340 = .ok (.aload_n 0, 1) := by decide +kernel
theorem d_M_combine_341 : decode b_M_combine 341 = .ok (.aload_n 0, 1) := by decide +kernel
theorem d_M_combine_342 : decode b_M_combine 342 = .ok (.iload_n 3, 1) := by decide +kernel
theorem d_M_combine_343 : decode b_M_combine 343 = .ok (.invokevirtual 173, 3) := by decide +kernel
theorem d_M_combine_346 : decode b_M_combine 346 = .ok (.invokevirtual 198, 3) := by decide +kernel
theorem d_M_combine_349 : decode b_M_combine 349 = .ok (.goto 8, 3) := by decide +kernel
theorem d_M_combine_352 : decode b_M_combine 352 = .ok (.aload_n 0, 1) := by decide +kernel
theorem d_M_combine_353 : decode b_M_combine 353 = .ok (.iload_n 1, 1) := by decide +kernel
theorem d_M_combine_354 : decode b_M_combine 354 = .ok (.invokevirtual 201, 3) := by decide +kernel
theorem d_M_combine_357 : decode b_M_combine 357 = .ok (.aload_n 0, 1) := by decide +kernel
theorem d_M_combine_358 : decode b_M_combine 358 = .ok (.iload 5, 2) := by decide +kernel
theorem d_M_combine_360 : decode b_M_combine 360 = .ok (.iload 4, 2) := by decide +kernel
theorem d_M_combine_362 : decode b_M_combine 362 = .ok (.iconst 3, 1) := by decide +kernel
theorem d_M_combine_363 : decode b_M_combine 363 = .ok (.invokevirtual 142, 3) := by decide +kernel
theorem d_M_combine_366 : decode b_M_combine 366 = .ok (.ireturn, 1) := by decide +kernel
theorem d_M_powered_0 : decode b_M_powered 0 = .ok (.aload_n 0, 1) := by decide +kernel
theorem d_M_powered_1 : decode b_M_powered 1 = .ok (.bipush 16, 2) := by decide +kernel
theorem d_M_powered_3 : decode b_M_powered 3 = .ok (.bipush 18, 2) := by decide +kernel
theorem d_M_powered_5 : decode b_M_powered 5 = .ok (.invokevirtual 58, 3) := by decide +kernel
theorem d_M_powered_8 : decode b_M_powered 8 = .ok (.aload_n 0, 1) := by decide +kernel
theorem d_M_powered_9 : decode b_M_powered 9 = .ok (.bipush 17, 2) := by decide +kernel
theorem d_M_powered_11 : decode b_M_powered 11 = .ok (.bipush 19, 2) := by decide +kernel
theorem d_M_powered_13 : decode b_M_powered 13 = .ok (.invokevirtual 58, 3) := by decide +kernel
theorem d_M_powered_16 : decode b_M_powered 16 = .ok (.aload_n 0, 1) := by decide +kernel
theorem d_M_powered_17 : decode b_M_powered 17 = .ok (.aload_n 0, 1) := by decide +kernel
theorem d_M_powered_18 : decode b_M_powered 18 = .ok (.getfield 149, 3) := by decide +kernel
theorem d_M_powered_21 : decode b_M_powered 21 = .ok (.putfield 152, 3) := by decide +kernel
theorem d_M_powered_24 : decode b_M_powered 24 = .ok (.aload_n 0, 1) := by decide +kernel
theorem d_M_powered_25 : decode b_M_powered 25 = .ok (.bipush 20, 2) := by decide +kernel
theorem d_M_powered_27 : decode b_M_powered 27 = .ok (.lconst 1, 1) := by decide +kernel
theorem d_M_powered_28 : decode b_M_powered 28 = .ok (.invokevirtual 82, 3) := by decide +kernel
theorem d_M_powered_31 : decode b_M_powered 31 = .ok (.aload_n 0, 1) := by decide +kernel
theorem d_M_powered_32 : decode b_M_powered 32 = .ok (.bipush 21, 2) := by decide +kernel
theorem d_M_powered_34 : decode b_M_powered 34 = .ok (.lconst 1, 1) := by decide +kernel
theorem d_M_powered_35 : decode b_M_powered 35 = .ok (.invokevirtual 82, 3) := by decide +kernel
theorem d_M_powered_38 : decode b_M_powered 38 = .ok (.aload_n 0, 1) := by decide +kernel
theorem d_M_powered_39 : decode b_M_powered 39 = .ok (.iconst 0, 1) := by decide +kernel
theorem d_M_powered_40 : decode b_M_powered 40 = .ok (.putfield 129, 3) := by decide +kernel
theorem d_M_powered_43 : decode b_M_powered 43 = .ok (.iconst 0, 1) := by decide +kernel
theorem d_M_powered_44 : decode b_M_powered 44 = .ok (.istore_n 3, 1) := by decide +kernel
theorem d_M_powered_45 : decode b_M_powered 45 = .ok (.iload_n 3, 1) := by decide +kernel
theorem d_M_powered_46 : decode b_M_powered 46 = .ok (.iload_n 2, 1) := by decide +kernel
theorem d_M_powered_47 : decode b_M_powered 47 = .ok (.if_icmp .ge 51, 3) := by decide +kernel
theorem d_M_powered_50 : decode b_M_powered 50 = .ok (.aload_n 0, 1) := by decide +kernel
theorem d_M_powered_51 : decode b_M_powered 51 = .ok (.bipush 20, 2) := by decide +kernel
theorem d_M_powered_53 : decode b_M_powered 53 = .ok (.bipush 16, 2) := by decide +kernel
theorem d_M_powered_55 : decode b_M_powered 55 = .ok (.invokevirtual 58, 3) := by decide +kernel
theorem d_M_powered_58 : decode b_M_powered 58 = .ok (.aload_n 0, 1) := by decide +kernel
theorem d_M_powered_59 : decode b_M_powered 59 = .ok (.bipush 21, 2) := by decide +kernel
theorem d_M_powered_61 : decode b_M_powered 61 = .ok (.bipush 17, 2) := by decide +kernel
theorem d_M_powered_63 : decode b_M_powered 63 = .ok (.invokevirtual 58, 3) := by decide +kernel
theorem d_M_powered_66 : decode b_M_powered 66 = .ok (.aload_n 0, 1) := by decide +kernel
theorem d_M_powered_67 : decode b_M_powered 67 = .ok (.aload_n 0, 1) := by decide +kernel
theorem d_M_powered_68 : decode b_M_powered 68 = .ok (.getfield 129, 3) := by decide +kernel
theorem d_M_powered_71 : decode b_M_powered 71 = .ok (.putfield 149, 3) := by decide +kernel
theorem d_M_powered_74 : decode b_M_powered 74 = .ok (.aload_n 0, 1) := by decide +kernel
theorem d_M_powered_75 : decode b_M_powered 75 = .ok (.invokevirtual 188, 3) := by decide +kernel
theorem d_M_powered_78 : decode b_M_powered 78 = .ok (.aload_n 0, 1) := by decide +kernel
theorem d_M_powered_79 : decode b_M_powered 79 = .ok (.iload_n 1, 1) := by decide +kernel
theorem d_M_powered_80 : decode b_M_powered 80 = .ok (.invokevirtual 132, 3) := by decide +kernel
theorem d_M_powered_83 : decode b_M_powered 83 = .ok (.aload_n 0, 1) := by decide +kernel
theorem d_M_powered_84 : decode b_M_powered 84 = .ok (.getfield 94, 3) := by decide +kernel
theorem d_M_powered_87 : decode b_M_powered 87 = .ok (.ifCond .eq 5, 3) := by decide +kernel
theorem d_M_powered_90 : decode b_M_powered 90 = .ok (.iconst 0, 1) := by decide +kernel
theorem d_M_powered_91 : decode b_M_powered 91 = .ok (.ireturn, 1) := by decide +kernel
theorem d_M_powered_92 : decode b_M_powered 92 = .ok (.iinc 3 1, 3) := by decide +kernel
theorem d_M_powered_95 : decode b_M_powered 95 = .ok (.goto (-50), 3) := by decide +kernel
theorem d_M_powered_98 : decode b_M_powered 98 = .ok (.iconst 1, 1) := by decide +kernel
theorem d_M_powered_99 : decode b_M_powered 99 = .ok (.ireturn, 1) := by decide +kernel
theorem d_M_shift_0 : decode b_M_shift 0 = .ok (.aload_n 0, 1) := by decide +kernel
theorem d_M_shift_1 : decode b_M_shift 1 = .ok (.bipush 16, 2) := by decide +kernel
theorem d_M_shift_3 : decode b_M_shift 3 = .ok (.bipush 20, 2) := by decide +kernel
theorem d_M_shift_5 : decode b_M_shift 5 = .ok (.invokevirtual 58, 3) := by decide +kernel
theorem d_M_shift_8 : decode b_M_shift 8 = .ok (.aload_n 0, 1) := by decide +kernel
theorem d_M_shift_9 : decode b_M_shift 9 = .ok (.bipush 21, 2) := by decide +kernel
theorem d_M_shift_11 : decode b_M_shift 11 = .ok (.lconst 1, 1) := by decide +kernel
theorem d_M_shift_12 : decode b_M_shift 12 = .ok (.invokevirtual 82, 3) := by decide +kernel
theorem d_M_shift_15 : decode b_M_shift 15 = .ok (.aload_n 0, 1) := by decide +kernel
theorem d_M_shift_16 : decode b_M_shift 16 = .ok (.aload_n 0, 1) := by decide +kernel
theorem d_M_shift_17 : decode b_M_shift 17 = .ok (.getfield 149, 3) := by decide +kernel
theorem d_M_shift_20 : decode b_M_shift 20 = .ok (.putfield 129, 3) := by decide +kernel
theorem d_M_shift_23 : decode b_M_shift 23 = .ok (.iload_n 1, 1) := by decide +kernel
theorem d_M_shift_24 : decode b_M_shift 24 = .ok (.ifCond .lt 13, 3) := by decide +kernel
theorem d_M_shift_27 : decode b_M_shift 27 = .ok (.aload_n 0, 1) := by decide +kernel
theorem d_M_shift_28 : decode b_M_shift 28 = .ok (.bipush 20, 2) := by decide +kernel
theorem d_M_shift_30 : decode b_M_shift 30 = .ok (.iload_n 1, 1) := by decide +kernel
theorem d_M_shift_31 : decode b_M_shift 31 = .ok (.invokevirtual 66, 3) := by decide +kernel
theorem d_M_shift_34 : decode b_M_shift 34 = .ok (.goto 15, 3) := by decide +kernel
theorem d_M_shift_37 : decode b_M_shift 37 = .ok (.aload_n 0, 1) := by decide +kernel
theorem d_M_shift_38 : decode b_M_shift 38 = .ok (.bipush 21, 2) := by decide +kernel
theorem d_M_shift_40 : decode b_M_shift 40 = .ok (.iload_n 1, 1) := by decide +kernel
theorem d_M_shift_41 : decode b_M_shift 41 = .ok (.ineg, 1) := by decide +kernel
theorem d_M_shift_42 : decode b_M_shift 42 = .ok (.invokevirtual 66, 3) := by decide +kernel
theorem d_M_shift_45 : decode b_M_shift 45 = .ok (.aload_n 0, 1) := by decide +kernel
theorem d_M_shift_46 : decode b_M_shift 46 = .ok (.invokevirtual 167, 3) := by decide +kernel
theorem d_M_shift_49 : decode b_M_shift 49 = .ok (.return_, 1) := by decide +kernel
theorem d_M_bitsOf_0 : decode b_M_bitsOf 0 = .ok (.aload_n 0, 1) := by decide +kernel
theorem d_M_bitsOf_1 : decode b_M_bitsOf 1 = .ok (.bipush 32, 2) := by decide +kernel
theorem d_M_bitsOf_3 : decode b_M_bitsOf 3 = .ok (.lconst 1, 1) := by decide +kernel
theorem d_M_bitsOf_4 : decode b_M_bitsOf 4 = .ok (.invokevirtual 82, 3) := by decide +kernel
theorem d_M_bitsOf_7 : decode b_M_bitsOf 7 = .ok (.aload_n 0, 1) := by decide +kernel
theorem d_M_bitsOf_8 : decode b_M_bitsOf 8 = .ok (.iload_n 1, 1) := by decide +kernel
theorem d_M_bitsOf_9 : decode b_M_bitsOf 9 = .ok (.iload_n 3, 1) := by decide +kernel
theorem d_M_bitsOf_10 : decode b_M_bitsOf 10 = .ok (.invokevirtual 58, 3) := by decide +kernel
theorem d_M_bitsOf_13 : decode b_M_bitsOf 13 = .ok (.iload_n 2, 1) := by decide +kernel
theorem d_M_bitsOf_14 : decode b_M_bitsOf 14 = .ok (.ifCond .eq 11, 3) := by decide +kernel
theorem d_M_bitsOf_17 : decode b_M_bitsOf 17 = .ok (.aload_n 0, 1) := by decide +kernel
theorem d_M_bitsOf_18 : decode b_M_bitsOf 18 = .ok (.iload_n 1, 1) := by decide +kernel
theorem d_M_bitsOf_19 : decode b_M_bitsOf 19 = .ok (.bipush 32, 2) := by decide +kernel
theorem d_M_bitsOf_21 : decode b_M_bitsOf 21 = .ok (.iload_n 3, 1) := by decide +kernel
theorem d_M_bitsOf_22 : decode b_M_bitsOf 22 = .ok (.invokevirtual 158, 3) := by decide +kernel
theorem d_M_bitsOf_25 : decode b_M_bitsOf 25 = .ok (.iconst 0, 1) := by decide +kernel
theorem d_M_bitsOf_26 : decode b_M_bitsOf 26 = .ok (.istore 4, 2) := by decide +kernel
theorem d_M_bitsOf_28 : decode b_M_bitsOf 28 = .ok (.iload 4, 2) := by decide +kernel
theorem d_M_bitsOf_30 : decode b_M_bitsOf 30 = .ok (.iconst 5, 1) := by decide +kernel
theorem d_M_bitsOf_31 : decode b_M_bitsOf 31 = .ok (.if_icmp .ge 44, 3) := by decide +kernel
theorem d_M_bitsOf_34 : decode b_M_bitsOf 34 = .ok (.aload_n 0, 1) := by decide +kernel
theorem d_M_bitsOf_35 : decode b_M_bitsOf 35 = .ok (.iload_n 3, 1) := by decide +kernel
theorem d_M_bitsOf_36 : decode b_M_bitsOf 36 = .ok (.iload 4, 2) := by decide +kernel
theorem d_M_bitsOf_38 : decode b_M_bitsOf 38 = .ok (.invokevirtual 45, 3) := by decide +kernel
theorem d_M_bitsOf_41 : decode b_M_bitsOf 41 = .ok (.istore 5, 2) := by decide +kernel
theorem d_M_bitsOf_43 : decode b_M_bitsOf 43 = .ok (.aload_n 0, 1) := by decide +kernel
theorem d_M_bitsOf_44 : decode b_M_bitsOf 44 = .ok (.getfield 7, 3) := by decide +kernel
theorem d_M_bitsOf_47 : decode b_M_bitsOf 47 = .ok (.bipush 26, 2) := by decide +kernel
theorem d_M_bitsOf_49 : decode b_M_bitsOf 49 = .ok (.iload_n 3, 1) := by decide +kernel
theorem d_M_bitsOf_50 : decode b_M_bitsOf 50 = .ok (.imul, 1) := by decide +kernel
theorem d_M_bitsOf_51 : decode b_M_bitsOf 51 = .ok (.iload 4, 2) := by decide +kernel
theorem d_M_bitsOf_53 : decode b_M_bitsOf 53 = .ok (.iadd, 1) := by decide +kernel
theorem d_M_bitsOf_54 : decode b_M_bitsOf 54 = .ok (.iload_n 2, 1) := by decide +kernel
theorem d_M_bitsOf_55 : decode b_M_bitsOf 55 = .ok (.ifCond .eq 11, 3) := by decide +kernel
theorem d_M_bitsOf_58 : decode b_M_bitsOf 58 = .ok (.ldc 49, 2) := by decide +kernel
theorem d_M_bitsOf_60 : decode b_M_bitsOf 60 = .ok (.iload 5, 2) := by decide +kernel
theorem d_M_bitsOf_62 : decode b_M_bitsOf 62 = .ok (.isub, 1) := by decide +kernel
theorem d_M_bitsOf_63 : decode b_M_bitsOf 63 = .ok (.goto 5, 3) := by decide +kernel
theorem d_M_bitsOf_66 : decode b_M_bitsOf 66 = .ok (.iload 5, 2) := by decide +kernel
theorem d_M_bitsOf_68 : decode b_M_bitsOf 68 = .ok (.iastore, 1) := by decide +kernel
theorem d_M_bitsOf_69 : decode b_M_bitsOf 69 = .ok (.iinc 4 1, 3) := by decide +kernel
theorem d_M_bitsOf_72 : decode b_M_bitsOf 72 = .ok (.goto (-44), 3) := by decide +kernel
theorem d_M_bitsOf_75 : decode b_M_bitsOf 75 = .ok (.aload_n 0, 1) := by decide +kernel
theorem d_M_bitsOf_76 : decode b_M_bitsOf 76 = .ok (.getfield 13, 3) := by decide +kernel
theorem d_M_bitsOf_79 : decode b_M_bitsOf 79 = .ok (.iload_n 3, 1) := by decide +kernel
theorem d_M_bitsOf_80 : decode b_M_bitsOf 80 = .ok (.iconst 5, 1) := by decide +kernel
theorem d_M_bitsOf_81 : decode b_M_bitsOf 81 = .ok (.iastore, 1) := by decide +kernel
theorem d_M_bitsOf_82 : decode b_M_bitsOf 82 = .ok (.return_, 1) := by decide +kernel
theorem d_M_mixed_0 : decode b_M_mixed 0 = .ok (.aload_n 0, 1) := by decide +kernel
theorem d_M_mixed_1 : decode b_M_mixed 1 = .ok (.bipush 16, 2) := by decide +kernel
theorem d_M_mixed_3 : decode b_M_mixed 3 = .ok (.aload_n 0, 1) := by decide +kernel
theorem d_M_mixed_4 : decode b_M_mixed 4 = .ok (.getfield 149, 3) := by decide +kernel
theorem d_M_mixed_7 : decode b_M_mixed 7 = .ok (.bipush 22, 2) := by decide +kernel
theorem d_M_mixed_9 : decode b_M_mixed 9 = .ok (.invokevirtual 204, 3) := by decide +kernel
theorem d_M_mixed_12 : decode b_M_mixed 12 = .ok (.aload_n 0, 1) := by decide +kernel
theorem d_M_mixed_13 : decode b_M_mixed 13 = .ok (.bipush 18, 2) := by decide +kernel
theorem d_M_mixed_15 : decode b_M_mixed 15 = .ok (.aload_n 0, 1) := by decide +kernel
theorem d_M_mixed_16 : decode b_M_mixed 16 = .ok (.getfield 152, 3) := by decide +kernel
theorem d_M_mixed_19 : decode b_M_mixed 19 = .ok (.bipush 23, 2) := by decide +kernel
theorem d_M_mixed_21 : decode b_M_mixed 21 = .ok (.invokevirtual 204, 3) := by decide +kernel
theorem d_M_mixed_24 : decode b_M_mixed 24 = .ok (.aload_n 0, 1) := by decide +kernel
theorem d_M_mixed_25 : decode b_M_mixed 25 = .ok (.iload_n 1, 1) := by decide +kernel
theorem d_M_mixed_26 : decode b_M_mixed 26 = .ok (.bipush 7, 2) := by decide +kernel
theorem d_M_mixed_28 : decode b_M_mixed 28 = .ok (.if_icmp .ne 25, 3) := by decide +kernel
theorem d_M_mixed_31 : decode b_M_mixed 31 = .ok (.aload_n 0, 1) := by decide +kernel
theorem d_M_mixed_32 : decode b_M_mixed 32 = .ok (.getfield 149, 3) := by decide +kernel
theorem d_M_mixed_35 : decode b_M_mixed 35 = .ok (.ifCond .eq 14, 3) := by decide +kernel
theorem d_M_mixed_38 : decode b_M_mixed 38 = .ok (.aload_n 0, 1) := by decide +kernel
theorem d_M_mixed_39 : decode b_M_mixed 39 = .ok (.getfield 152, 3) := by decide +kernel
theorem d_M_mixed_42 : decode b_M_mixed 42 = .ok (.ifCond .eq 7, 3) := by decide +kernel
theorem d_M_mixed_45 : decode b_M_mixed 45 = .ok (.iconst 1, 1) := by decide +kernel
theorem d_M_mixed_46 : decode b_M_mixed 46 = .ok (.goto 51, 3) := by decide +kernel
theorem d_M_mixed_49 : decode b_M_mixed 49 = .ok (.iconst 0, 1) := by decide +kernel
theorem d_M_mixed_50 : decode b_M_mixed 50 = .ok (.goto 47, 3) := by decide +kernel
theorem d_M_mixed_53 : decode b_M_mixed 53 = .ok (.iload_n 1, 1) := by decide +kernel
theorem d_M_mixed_54 : decode b_M_mixed 54 = .ok (.bipush 8, 2) := by decide +kernel
theorem d_M_mixed_56 : decode b_M_mixed 56 = .ok (.if_icmp .ne 25, 3) := by decide +kernel
theorem d_M_mixed_59 : decode b_M_mixed 59 = .ok (.aload_n 0, 1) := by decide +kernel
theorem d_M_mixed_60 : decode b_M_mixed 60 = .ok (.getfield 149, 3) := by decide +kernel
theorem d_M_mixed_63 : decode b_M_mixed 63 = .ok (.ifCond .ne 10, 3) := by decide +kernel
theorem d_M_mixed_66 : decode b_M_mixed 66 = .ok (.aload_n 0, 1) := by decide +kernel
theorem d_M_mixed_67 : decode b_M_mixed 67 = .ok (.getfield 152, 3) := by decide +kernel
theorem d_M_mixed_70 : decode b_M_mixed 70 = .ok (.ifCond .eq 7, 3) := by decide +kernel
theorem d_M_mixed_73 : decode b_M_mixed 73 = .ok (.iconst 1, 1) := by decide +kernel
theorem d_M_mixed_74 : decode b_M_mixed 74 = .ok (.goto 23, 3) := by decide +kernel
theorem d_M_mixed_77 : decode b_M_mixed 77 = .ok (.iconst 0, 1) := by decide +kernel
theorem d_M_mixed_78 : decode b_M_mixed 78 = .ok (.goto 19, 3) := by decide +kernel
theorem d_M_mixed_81 : decode b_M_mixed 81 = .ok (.aload_n 0, 1) := by decide +kernel
theorem d_M_mixed_82 : decode b_M_mixed 82 = .ok (.getfield 149, 3) := by decide +kernel
theorem d_M_mixed_85 : decode b_M_mixed 85 = .ok (.aload_n 0, 1) := by decide +kernel
theorem d_M_mixed_86 : decode b_M_mixed 86 = .ok (.getfield 152, 3) := by decide +kernel
theorem d_M_mixed_89 : decode b_M_mixed 89 = .ok (.if_icmp .eq 7, 3) := by decide +kernel
theorem d_M_mixed_92 : decode b_M_mixed 92 = .ok (.iconst 1, 1) := by decide +kernel
theorem d_M_mixed_93 : decode b_M_mixed 93 = .ok (.goto 4, 3) := by decide +kernel
theorem d_M_mixed_96 : decode b_M_mixed 96 = .ok (.iconst 0, 1) := by decide +kernel
theorem d_M_mixed_97 : decode b_M_mixed 97 = .ok (.putfield 129, 3) := by decide +kernel
theorem d_M_mixed_100 : decode b_M_mixed 100 = .ok (.iconst 0, 1) := by decide +kernel
theorem d_M_mixed_101 : decode b_M_mixed 101 = .ok (.istore_n 2, 1) := by decide +kernel
theorem d_M_mixed_102 : decode b_M_mixed 102 = .ok (.iload_n 2, 1) := by decide +kernel
theorem d_M_mixed_103 : decode b_M_mixed 103 = .ok (.iconst 5, 1) := by decide +kernel
theorem d_M_mixed_104 : decode b_M_mixed 104 = .ok (.if_icmp .ge 91, 3) := by decide +kernel
theorem d_M_mixed_107 : decode b_M_mixed 107 = .ok (.aload_n 0, 1) := by decide +kernel
theorem d_M_mixed_108 : decode b_M_mixed 108 = .ok (.getfield 7, 3) := by decide +kernel
theorem d_M_mixed_111 : decode b_M_mixed 111 = .ok (.sipush 572, 3) := by decide +kernel
theorem d_M_mixed_114 : decode b_M_mixed 114 = .ok (.iload_n 2, 1) := by decide +kernel
theorem d_M_mixed_115 : decode b_M_mixed 115 = .ok (.iadd, 1) := by decide +kernel
theorem d_M_mixed_116 : decode b_M_mixed 116 = .ok (.iaload, 1) := by decide +kernel
theorem d_M_mixed_117 : decode b_M_mixed 117 = .ok (.istore_n 3, 1) := by decide +kernel
theorem d_M_mixed_118 : decode b_M_mixed 118 = .ok (.aload_n 0, 1) := by decide +kernel
theorem d_M_mixed_119 : decode b_M_mixed 119 = .ok (.getfield 7, 3) := by decide +kernel
theorem d_M_mixed_122 : decode b_M_mixed 122 = .ok (.sipush 598, 3) := by decide +kernel
theorem d_M_mixed_125 : decode b_M_mixed 125 = .ok (.iload_n 2, 1) := by decide +kernel
theorem d_M_mixed_126 : decode b_M_mixed 126 = .ok (.iadd, 1) := by decide +kernel
theorem d_M_mixed_127 : decode b_M_mixed 127 = .ok (.iaload, 1) := by decide +kernel
theorem d_M_mixed_128 : decode b_M_mixed 128 = .ok (.istore 4, 2) := by decide +kernel
theorem d_M_mixed_130 : decode b_M_mixed 130 = .ok (.iload_n 1, 1) := by decide +kernel
theorem d_M_mixed_131 : decode b_M_mixed 131 = .ok (.bipush 7, 2) := by decide +kernel
theorem d_M_mixed_133 : decode b_M_mixed 133 = .ok (.if_icmp .ne 10, 3) := by decide +kernel
theorem d_M_mixed_136 : decode b_M_mixed 136 = .ok (.iload_n 3, 1) := by decide +kernel
theorem d_M_mixed_137 : decode b_M_mixed 137 = .ok (.iload 4, 2) := by decide +kernel
theorem d_M_mixed_139 : decode b_M_mixed 139 = .ok (.iand, 1) := by decide +kernel
theorem d_M_mixed_140 : decode b_M_mixed 140 = .ok (.goto 20, 3) := by decide +kernel
theorem d_M_mixed_143 : decode b_M_mixed 143 = .ok (.iload_n 1, 1) := by decide +kernel
theorem d_M_mixed_144 : decode b_M_mixed 144 = .ok (.bipush 8, 2) := by decide +kernel
theorem d_M_mixed_146 : decode b_M_mixed 146 = .ok (.if_icmp .ne 10, 3) := by decide +kernel
theorem d_M_mixed_149 : decode b_M_mixed 149 = .ok (.iload_n 3, 1) := by decide +kernel
theorem d_M_mixed_150 : decode b_M_mixed 150 = .ok (.iload 4, 2) := by decide +kernel
theorem d_M_mixed_152 : decode b_M_mixed 152 = .ok (.ior, 1) := by decide +kernel
theorem d_M_mixed_153 : decode b_M_mixed 153 = .ok (.goto 7, 3) := by decide +kernel
theorem d_M_mixed_156 : decode b_M_mixed 156 = .ok (.iload_n 3, 1) := by decide +kernel
theorem d_M_mixed_157 : decode b_M_mixed 157 = .ok (.iload 4, 2) := by decide +kernel
theorem d_M_mixed_159 : decode b_M_mixed 159 = .ok (.ixor, 1) := by decide +kernel
theorem d_M_mixed_160 : decode b_M_mixed 160 = .ok (.istore 5, 2) := by decide +kernel
theorem d_M_mixed_162 : decode b_M_mixed 162 = .ok (.aload_n 0, 1) := by decide +kernel
theorem d_M_mixed_163 : decode b_M_mixed 163 = .ok (.getfield 7, 3) := by decide +kernel
theorem d_M_mixed_166 : decode b_M_mixed 166 = .ok (.sipush 520, 3) := by decide +kernel
theorem d_M_mixed_169 : decode b_M_mixed 169 = .ok (.iload_n 2, 1) := by decide +kernel
theorem d_M_mixed_170 : decode b_M_mixed 170 = .ok (.iadd, 1) := by decide +kernel
theorem d_M_mixed_171 : decode b_M_mixed 171 = .ok (.aload_n 0, 1) := by decide +kernel
theorem d_M_mixed_172 : decode b_M_mixed 172 = .ok (.getfield 129, 3) := by decide +kernel
theorem d_M_mixed_175 : decode b_M_mixed 175 = .ok (.ifCond .eq 11, 3) := by decide +kernel
theorem d_M_mixed_178 : decode b_M_mixed 178 = .ok (.ldc 49, 2) := by decide +kernel
theorem d_M_mixed_180 : decode b_M_mixed 180 = .ok (.iload 5, 2) := by decide +kernel
theorem d_M_mixed_182 : decode b_M_mixed 182 = .ok (.isub, 1) := by decide +kernel
theorem d_M_mixed_183 : decode b_M_mixed 183 = .ok (.goto 5, 3) := by decide +kernel
theorem d_M_mixed_186 : decode b_M_mixed 186 = .ok (.iload 5, 2) := by decide +kernel
theorem d_M_mixed_188 : decode b_M_mixed 188 = .ok (.iastore, 1) := by decide +kernel
theorem d_M_mixed_189 : decode b_M_mixed 189 = .ok (.iinc 2 1, 3) := by decide +kernel
theorem d_M_mixed_192 : decode b_M_mixed 192 = .ok (.goto (-90), 3) := by decide +kernel
theorem d_M_mixed_195 : decode b_M_mixed 195 = .ok (.aload_n 0, 1) := by decide +kernel
theorem d_M_mixed_196 : decode b_M_mixed 196 = .ok (.getfield 13, 3) := by decide +kernel
theorem d_M_mixed_199 : decode b_M_mixed 199 = .ok (.bipush 20, 2) := by decide +kernel
theorem d_M_mixed_201 : decode b_M_mixed 201 = .ok (.iconst 5, 1) := by decide +kernel
theorem d_M_mixed_202 : decode b_M_mixed 202 = .ok (.iastore, 1) := by decide +kernel
theorem d_M_mixed_203 : decode b_M_mixed 203 = .ok (.aload_n 0, 1) := by decide +kernel
theorem d_M_mixed_204 : decode b_M_mixed 204 = .ok (.bipush 20, 2) := by decide +kernel
theorem d_M_mixed_206 : decode b_M_mixed 206 = .ok (.invokevirtual 50, 3) := by decide +kernel
theorem d_M_mixed_209 : decode b_M_mixed 209 = .ok (.aload_n 0, 1) := by decide +kernel
theorem d_M_mixed_210 : decode b_M_mixed 210 = .ok (.getfield 129, 3) := by decide +kernel
theorem d_M_mixed_213 : decode b_M_mixed 213 = .ok (.ifCond .eq 9, 3) := by decide +kernel
theorem d_M_mixed_216 : decode b_M_mixed 216 = .ok (.aload_n 0, 1) := by decide +kernel
theorem d_M_mixed_217 : decode b_M_mixed 217 = .ok (.bipush 20, 2) := by decide +kernel
theorem d_M_mixed_219 : decode b_M_mixed 219 = .ok (.invokevirtual 161, 3) := by decide +kernel
theorem d_M_mixed_222 : decode b_M_mixed 222 = .ok (.aload_n 0, 1) := by decide +kernel
theorem d_M_mixed_223 : decode b_M_mixed 223 = .ok (.bipush 21, 2) := by decide +kernel
theorem d_M_mixed_225 : decode b_M_mixed 225 = .ok (.lconst 1, 1) := by decide +kernel
theorem d_M_mixed_226 : decode b_M_mixed 226 = .ok (.invokevirtual 82, 3) := by decide +kernel
theorem d_M_mixed_229 : decode b_M_mixed 229 = .ok (.return_, 1) := by decide +kernel
theorem d_M_turn_0 : decode b_M_turn 0 = .ok (.aload_n 0, 1) := by decide +kernel
theorem d_M_turn_1 : decode b_M_turn 1 = .ok (.iconst 0, 1) := by decide +kernel
theorem d_M_turn_2 : decode b_M_turn 2 = .ok (.putfield 39, 3) := by decide +kernel
theorem d_M_turn_5 : decode b_M_turn 5 = .ok (.iload_n 1, 1) := by decide +kernel
theorem d_M_turn_6 : decode b_M_turn 6 = .ok (.iconst 0, 1) := by decide +kernel
theorem d_M_turn_7 : decode b_M_turn 7 = .ok (.iconst 4, 1) := by decide +kernel
theorem d_M_turn_8 : decode b_M_turn 8 = .ok (.invokestatic 138, 3) := by decide +kernel
theorem d_M_turn_11 : decode b_M_turn 11 = .ok (.ifCond .eq 21, 3) := by decide +kernel
theorem d_M_turn_14 : decode b_M_turn 14 = .ok (.aload_n 0, 1) := by decide +kernel
theorem d_M_turn_15 : decode b_M_turn 15 = .ok (.iload_n 2, 1) := by decide +kernel
theorem d_M_turn_16 : decode b_M_turn 16 = .ok (.invokevirtual 176, 3) := by decide +kernel
theorem d_M_turn_19 : decode b_M_turn 19 = .ok (.ifCond .eq 13, 3) := by decide +kernel
theorem d_M_turn_22 : decode b_M_turn 22 = .ok (.iload_n 3, 1) := by decide +kernel
theorem d_M_turn_23 : decode b_M_turn 23 = .ok (.iconst 0, 1) := by decide +kernel
theorem d_M_turn_24 : decode b_M_turn 24 = .ok (.bipush 7, 2) := by decide +kernel
theorem d_M_turn_26 : decode b_M_turn 26 = .ok (.invokestatic 138, 3) := by decide +kernel
theorem d_M_turn_29 : decode b_M_turn 29 = .ok (.ifCond .ne 9, 3) := by decide +kernel
theorem d_M_turn_32 : decode b_M_turn 32 = .ok (.aload_n 0, 1) := by decide +kernel
theorem d_M_turn_33 : decode b_M_turn 33 = .ok (.iconst 1, 1) := by decide +kernel
theorem d_M_turn_34 : decode b_M_turn 34 = .ok (.invokevirtual 135, 3) := by decide +kernel
theorem d_M_turn_37 : decode b_M_turn 37 = .ok (.ireturn, 1) := by decide +kernel
theorem d_M_turn_38 : decode b_M_turn 38 = .ok (.aload_n 0, 1) := by decide +kernel
theorem d_M_turn_39 : decode b_M_turn 39 = .ok (.aload_n 0, 1) := by decide +kernel
theorem d_M_turn_40 : decode b_M_turn 40 = .ok (.iload_n 2, 1) := by decide +kernel
theorem d_M_turn_41 : decode b_M_turn 41 = .ok (.bipush 20, 2) := by decide +kernel
theorem d_M_turn_43 : decode b_M_turn 43 = .ok (.bipush 21, 2) := by decide +kernel
theorem d_M_turn_45 : decode b_M_turn 45 = .ok (.invokevirtual 182, 3) := by decide +kernel
theorem d_M_turn_48 : decode b_M_turn 48 = .ok (.putfield 129, 3) := by decide +kernel
theorem d_M_turn_51 : decode b_M_turn 51 = .ok (.iload_n 1, 1) := by decide +kernel
theorem d_M_turn_52 : decode b_M_turn 52 = .ok (.ifCond .ne 26, 3) := by decide +kernel
theorem d_M_turn_55 : decode b_M_turn 55 = .ok (.aload_n 0, 1) := by decide +kernel
theorem d_M_turn_56 : decode b_M_turn 56 = .ok (.bipush 20, 2) := by decide +kernel
theorem d_M_turn_58 : decode b_M_turn 58 = .ok (.bipush 21, 2) := by decide +kernel
theorem d_M_turn_60 : decode b_M_turn 60 = .ok (.invokevirtual 79, 3) := by decide +kernel
theorem d_M_turn_63 : decode b_M_turn 63 = .ok (.aload_n 0, 1) := by decide +kernel
theorem d_M_turn_64 : decode b_M_turn 64 = .ok (.bipush 24, 2) := by decide +kernel
theorem d_M_turn_66 : decode b_M_turn 66 = .ok (.bipush 20, 2) := by decide +kernel
theorem d_M_turn_68 : decode b_M_turn 68 = .ok (.invokevirtual 58, 3) := by decide +kernel
theorem d_M_turn_71 : decode b_M_turn 71 = .ok (.aload_n 0, 1) := by decide +kernel
theorem d_M_turn_72 : decode b_M_turn 72 = .ok (.bipush 21, 2) := by decide +kernel
theorem d_M_turn_74 : decode b_M_turn 74 = .ok (.lconst 1, 1) := by decide +kernel
theorem d_M_turn_75 : decode b_M_turn 75 = .ok (.invokevirtual 82, 3) := by decide +kernel
theorem d_M_turn_78 : decode b_M_turn 78 = .ok (.iload_n 1, 1) := by decide +kernel
theorem d_M_turn_79 : decode b_M_turn 79 = .ok (.iconst 3, 1) := by decide +kernel
theorem d_M_turn_80 : decode b_M_turn 80 = .ok (.if_icmp .ne 19, 3) := by decide +kernel
theorem d_M_turn_83 : decode b_M_turn 83 = .ok (.aload_n 0, 1) := by decide +kernel
theorem d_M_turn_84 : decode b_M_turn 84 = .ok (.aload_n 0, 1) := by decide +kernel
theorem d_M_turn_85 : decode b_M_turn 85 = .ok (.getfield 129, 3) := by decide +kernel
theorem d_M_turn_88 : decode b_M_turn 88 = .ok (.ifCond .ne 7, 3) := by decide +kernel
theorem d_M_turn_91 : decode b_M_turn 91 = .ok (.iconst 1, 1) := by decide +kernel
theorem d_M_turn_92 : decode b_M_turn 92 = .ok (.goto 4, 3) := by decide +kernel
theorem d_M_turn_95 : decode b_M_turn 95 = .ok (.iconst 0, 1) := by decide +kernel
theorem d_M_turn_96 : decode b_M_turn 96 = .ok (.putfield 129, 3) := by decide +kernel
theorem d_M_turn_99 : decode b_M_turn 99 = .ok (.iload_n 1, 1) := by decide +kernel
theorem d_M_turn_100 : decode b_M_turn 100 = .ok (.iconst 4, 1) := by decide +kernel
theorem d_M_turn_101 : decode b_M_turn 101 = .ok (.if_icmp .ne 8, 3) := by decide +kernel
theorem d_M_turn_104 : decode b_M_turn 104 = .ok (.aload_n 0, 1) := by decide +kernel
theorem d_M_turn_105 : decode b_M_turn 105 = .ok (.iconst 0, 1) := by decide +kernel
theorem d_M_turn_106 : decode b_M_turn 106 = .ok (.putfield 129, 3) := by decide +kernel
theorem d_M_turn_109 : decode b_M_turn 109 = .ok (.aload_n 0, 1) := by decide +kernel
theorem d_M_turn_110 : decode b_M_turn 110 = .ok (.iload_n 1, 1) := by decide +kernel
theorem d_M_turn_111 : decode b_M_turn 111 = .ok (.iconst 3, 1) := by decide +kernel
theorem d_M_turn_112 : decode b_M_turn 112 = .ok (.if_icmp .ge 7, 3) := by decide +kernel
theorem d_M_turn_115 : decode b_M_turn 115 = .ok (.iload_n 1, 1) := by decide +kernel
theorem d_M_turn_116 : decode b_M_turn 116 = .ok (.goto 9, 3) := by decide +kernel
theorem d_M_turn_119 : decode b_M_turn 119 = .ok (.aload_n 0, 1) := by decide +kernel
theorem d_M_turn_120 : decode b_M_turn 120 = .ok (.getfield 16, 3) := by decide +kernel
theorem d_M_turn_123 : decode b_M_turn 123 = .ok (.iload_n 2, 1) := by decide +kernel
theorem d_M_turn_124 : decode b_M_turn 124 = .ok (.iaload, 1) := by decide +kernel
theorem d_M_turn_125 : decode b_M_turn 125 = .ok (.iload_n 3, 1) := by decide +kernel
theorem d_M_turn_126 : decode b_M_turn 126 = .ok (.iconst 2, 1) := by decide +kernel
theorem d_M_turn_127 : decode b_M_turn 127 = .ok (.invokevirtual 142, 3) := by decide +kernel
theorem d_M_turn_130 : decode b_M_turn 130 = .ok (.ireturn, 1) := by decide +kernel
theorem d_M_even_0 : decode b_M_even 0 = .ok (.aload_n 0, 1) := by decide +kernel
theorem d_M_even_1 : decode b_M_even 1 = .ok (.iload_n 1, 1) := by decide +kernel
theorem d_M_even_2 : decode b_M_even 2 = .ok (.iload_n 2, 1) := by decide +kernel
theorem d_M_even_3 : decode b_M_even 3 = .ok (.invokevirtual 79, 3) := by decide +kernel
theorem d_M_even_6 : decode b_M_even 6 = .ok (.aload_n 0, 1) := by decide +kernel
theorem d_M_even_7 : decode b_M_even 7 = .ok (.bipush 25, 2) := by decide +kernel
theorem d_M_even_9 : decode b_M_even 9 = .ok (.iconst 1, 1) := by decide +kernel
theorem d_M_even_10 : decode b_M_even 10 = .ok (.invokevirtual 66, 3) := by decide +kernel
theorem d_M_even_13 : decode b_M_even 13 = .ok (.aload_n 0, 1) := by decide +kernel
theorem d_M_even_14 : decode b_M_even 14 = .ok (.bipush 25, 2) := by decide +kernel
theorem d_M_even_16 : decode b_M_even 16 = .ok (.iload_n 2, 1) := by decide +kernel
theorem d_M_even_17 : decode b_M_even 17 = .ok (.invokevirtual 105, 3) := by decide +kernel
theorem d_M_even_20 : decode b_M_even 20 = .ok (.istore_n 3, 1) := by decide +kernel
theorem d_M_even_21 : decode b_M_even 21 = .ok (.iload_n 3, 1) := by decide +kernel
theorem d_M_even_22 : decode b_M_even 22 = .ok (.ifCond .gt 20, 3) := by decide +kernel
theorem d_M_even_25 : decode b_M_even 25 = .ok (.iload_n 3, 1) := by decide +kernel
theorem d_M_even_26 : decode b_M_even 26 = .ok (.ifCond .ne 22, 3) := by decide +kernel
theorem d_M_even_29 : decode b_M_even 29 = .ok (.aload_n 0, 1) := by decide +kernel
theorem d_M_even_30 : decode b_M_even 30 = .ok (.bipush 24, 2) := by decide +kernel
theorem d_M_even_32 : decode b_M_even 32 = .ok (.iconst 0, 1) := by decide +kernel
theorem d_M_even_33 : decode b_M_even 33 = .ok (.invokevirtual 45, 3) := by decide +kernel
theorem d_M_even_36 : decode b_M_even 36 = .ok (.iconst 1, 1) := by decide +kernel
theorem d_M_even_37 : decode b_M_even 37 = .ok (.iand, 1) := by decide +kernel
theorem d_M_even_38 : decode b_M_even 38 = .ok (.iconst 1, 1) := by decide +kernel
theorem d_M_even_39 : decode b_M_even 39 = .ok (.if_icmp .ne 9, 3) := by decide +kernel
theorem d_M_even_42 : decode b_M_even 42 = .ok (.aload_n 0, 1) := by decide +kernel
theorem d_M_even_43 : decode b_M_even 43 = .ok (.bipush 24, 2) := by decide +kernel
theorem d_M_even_45 : decode b_M_even 45 = .ok (.invokevirtual 161, 3) := by decide +kernel
theorem d_M_even_48 : decode b_M_even 48 = .ok (.return_, 1) := by decide +kernel
theorem d_M_round_0 : decode b_M_round 0 = .ok (.aload_n 0, 1) := by decide +kernel
theorem d_M_round_1 : decode b_M_round 1 = .ok (.iconst 0, 1) := by decide +kernel
theorem d_M_round_2 : decode b_M_round 2 = .ok (.putfield 39, 3) := by decide +kernel
theorem d_M_round_5 : decode b_M_round 5 = .ok (.aload_n 0, 1) := by decide +kernel
theorem d_M_round_6 : decode b_M_round 6 = .ok (.iload_n 1, 1) := by decide +kernel
theorem d_M_round_7 : decode b_M_round 7 = .ok (.invokevirtual 176, 3) := by decide +kernel
theorem d_M_round_10 : decode b_M_round 10 = .ok (.ifCond .eq 24, 3) := by decide +kernel
theorem d_M_round_13 : decode b_M_round 13 = .ok (.iload_n 2, 1) := by decide +kernel
theorem d_M_round_14 : decode b_M_round 14 = .ok (.bipush (-20), 2) := by decide +kernel
theorem d_M_round_16 : decode b_M_round 16 = .ok (.bipush 20, 2) := by decide +kernel
theorem d_M_round_18 : decode b_M_round 18 = .ok (.invokestatic 138, 3) := by decide +kernel
theorem d_M_round_21 : decode b_M_round 21 = .ok (.ifCond .eq 13, 3) := by decide +kernel
theorem d_M_round_24 : decode b_M_round 24 = .ok (.iload_n 3, 1) := by decide +kernel
theorem d_M_round_25 : decode b_M_round 25 = .ok (.iconst 0, 1) := by decide +kernel
theorem d_M_round_26 : decode b_M_round 26 = .ok (.bipush 7, 2) := by decide +kernel
theorem d_M_round_28 : decode b_M_round 28 = .ok (.invokestatic 138, 3) := by decide +kernel
theorem d_M_round_31 : decode b_M_round 31 = .ok (.ifCond .ne 9, 3) := by decide +kernel
theorem d_M_round_34 : decode b_M_round 34 = .ok (.aload_n 0, 1) := by decide +kernel
theorem d_M_round_35 : decode b_M_round 35 = .ok (.iconst 1, 1) := by decide +kernel
theorem d_M_round_36 : decode b_M_round 36 = .ok (.invokevirtual 135, 3) := by decide +kernel
theorem d_M_round_39 : decode b_M_round 39 = .ok (.ireturn, 1) := by decide +kernel
theorem d_M_round_40 : decode b_M_round 40 = .ok (.aload_n 0, 1) := by decide +kernel
theorem d_M_round_41 : decode b_M_round 41 = .ok (.aload_n 0, 1) := by decide +kernel
theorem d_M_round_42 : decode b_M_round 42 = .ok (.iload_n 1, 1) := by decide +kernel
theorem d_M_round_43 : decode b_M_round 43 = .ok (.bipush 20, 2) := by decide +kernel
theorem d_M_round_45 : decode b_M_round 45 = .ok (.bipush 21, 2) := by decide +kernel
theorem d_M_round_47 : decode b_M_round 47 = .ok (.invokevirtual 182, 3) := by decide +kernel
theorem d_M_round_50 : decode b_M_round 50 = .ok (.putfield 129, 3) := by decide +kernel
theorem d_M_round_53 : decode b_M_round 53 = .ok (.iload_n 2, 1) := by decide +kernel
theorem d_M_round_54 : decode b_M_round 54 = .ok (.ifCond .le 13, 3) := by decide +kernel
theorem d_M_round_57 : decode b_M_round 57 = .ok (.aload_n 0, 1) := by decide +kernel
theorem d_M_round_58 : decode b_M_round 58 = .ok (.bipush 20, 2) := by decide +kernel
theorem d_M_round_60 : decode b_M_round 60 = .ok (.iload_n 2, 1) := by decide +kernel
theorem d_M_round_61 : decode b_M_round 61 = .ok (.invokevirtual 208, 3) := by decide +kernel
theorem d_M_round_64 : decode b_M_round 64 = .ok (.goto 11, 3) := by decide +kernel
theorem d_M_round_67 : decode b_M_round 67 = .ok (.aload_n 0, 1) := by decide +kernel
theorem d_M_round_68 : decode b_M_round 68 = .ok (.bipush 21, 2) := by decide +kernel
theorem d_M_round_70 : decode b_M_round 70 = .ok (.iload_n 2, 1) := by decide +kernel
theorem d_M_round_71 : decode b_M_round 71 = .ok (.ineg, 1) := by decide +kernel
theorem d_M_round_72 : decode b_M_round 72 = .ok (.invokevirtual 208, 3) := by decide +kernel
theorem d_M_round_75 : decode b_M_round 75 = .ok (.aload_n 0, 1) := by decide +kernel
theorem d_M_round_76 : decode b_M_round 76 = .ok (.bipush 20, 2) := by decide +kernel
theorem d_M_round_78 : decode b_M_round 78 = .ok (.bipush 21, 2) := by decide +kernel
theorem d_M_round_80 : decode b_M_round 80 = .ok (.invokevirtual 211, 3) := by decide +kernel
theorem d_M_round_83 : decode b_M_round 83 = .ok (.aload_n 0, 1) := by decide +kernel
theorem d_M_round_84 : decode b_M_round 84 = .ok (.bipush 24, 2) := by decide +kernel
theorem d_M_round_86 : decode b_M_round 86 = .ok (.bipush 20, 2) := by decide +kernel
theorem d_M_round_88 : decode b_M_round 88 = .ok (.invokevirtual 58, 3) := by decide +kernel
theorem d_M_round_91 : decode b_M_round 91 = .ok (.aload_n 0, 1) := by decide +kernel
theorem d_M_round_92 : decode b_M_round 92 = .ok (.bipush 21, 2) := by decide +kernel
theorem d_M_round_94 : decode b_M_round 94 = .ok (.lconst 1, 1) := by decide +kernel
theorem d_M_round_95 : decode b_M_round 95 = .ok (.invokevirtual 82, 3) := by decide +kernel
theorem d_M_round_98 : decode b_M_round 98 = .ok (.iload_n 2, 1) := by decide +kernel
theorem d_M_round_99 : decode b_M_round 99 = .ok (.ifCond .le 13, 3) := by decide +kernel
theorem d_M_round_102 : decode b_M_round 102 = .ok (.aload_n 0, 1) := by decide +kernel
theorem d_M_round_103 : decode b_M_round 103 = .ok (.bipush 21, 2) := by decide +kernel
theorem d_M_round_105 : decode b_M_round 105 = .ok (.iload_n 2, 1) := by decide +kernel
theorem d_M_round_106 : decode b_M_round 106 = .ok (.invokevirtual 208, 3) := by decide +kernel
theorem d_M_round_109 : decode b_M_round 109 = .ok (.goto 11, 3) := by decide +kernel
theorem d_M_round_112 : decode b_M_round 112 = .ok (.aload_n 0, 1) := by decide +kernel
theorem d_M_round_113 : decode b_M_round 113 = .ok (.bipush 20, 2) := by decide +kernel
theorem d_M_round_115 : decode b_M_round 115 = .ok (.iload_n 2, 1) := by decide +kernel
theorem d_M_round_116 : decode b_M_round 116 = .ok (.ineg, 1) := by decide +kernel
theorem d_M_round_117 : decode b_M_round 117 = .ok (.invokevirtual 208, 3) := by decide +kernel
theorem d_M_round_120 : decode b_M_round 120 = .ok (.aload_n 0, 1) := by decide +kernel
theorem d_M_round_121 : decode b_M_round 121 = .ok (.aload_n 0, 1) := by decide +kernel
theorem d_M_round_122 : decode b_M_round 122 = .ok (.getfield 16, 3) := by decide +kernel
theorem d_M_round_125 : decode b_M_round 125 = .ok (.iload_n 1, 1) := by decide +kernel
theorem d_M_round_126 : decode b_M_round 126 = .ok (.iaload, 1) := by decide +kernel
theorem d_M_round_127 : decode b_M_round 127 = .ok (.iload_n 3, 1) := by decide +kernel
theorem d_M_round_128 : decode b_M_round 128 = .ok (.iconst 2, 1) := by decide +kernel
theorem d_M_round_129 : decode b_M_round 129 = .ok (.invokevirtual 142, 3) := by decide +kernel
theorem d_M_round_132 : decode b_M_round 132 = .ok (.ireturn, 1) := by decide +kernel
theorem d_M_sum_0 : decode b_M_sum 0 = .ok (.aload_n 0, 1) := by decide +kernel
theorem d_M_sum_1 : decode b_M_sum 1 = .ok (.iconst 0, 1) := by decide +kernel
theorem d_M_sum_2 : decode b_M_sum 2 = .ok (.putfield 39, 3) := by decide +kernel
theorem d_M_sum_5 : decode b_M_sum 5 = .ok (.iload_n 1, 1) := by decide +kernel
theorem d_M_sum_6 : decode b_M_sum 6 = .ok (.iconst 0, 1) := by decide +kernel
theorem d_M_sum_7 : decode b_M_sum 7 = .ok (.sipush 255, 3) := by decide +kernel
theorem d_M_sum_10 : decode b_M_sum 10 = .ok (.invokestatic 138, 3) := by decide +kernel
theorem d_M_sum_13 : decode b_M_sum 13 = .ok (.ifCond .eq 17, 3) := by decide +kernel
theorem d_M_sum_16 : decode b_M_sum 16 = .ok (.iload_n 2, 1) := by decide +kernel
theorem d_M_sum_17 : decode b_M_sum 17 = .ok (.iconst 0, 1) := by decide +kernel
theorem d_M_sum_18 : decode b_M_sum 18 = .ok (.bipush 7, 2) := by decide +kernel
theorem d_M_sum_20 : decode b_M_sum 20 = .ok (.invokestatic 138, 3) := by decide +kernel
theorem d_M_sum_23 : decode b_M_sum 23 = .ok (.ifCond .eq 7, 3) := by decide +kernel
theorem d_M_sum_26 : decode b_M_sum 26 = .ok (.iconst 1, 1) := by decide +kernel
theorem d_M_sum_27 : decode b_M_sum 27 = .ok (.goto 4, 3) := by decide +kernel
theorem d_M_sum_30 : decode b_M_sum 30 = .ok (.iconst 0, 1) := by decide +kernel
theorem d_M_sum_31 : decode b_M_sum 31 = .ok (.istore_n 3, 1) := by decide +kernel
theorem d_M_sum_32 : decode b_M_sum 32 = .ok (.iconst 0, 1) := by decide +kernel
theorem d_M_sum_33 : decode b_M_sum 33 = .ok (.istore 4, 2) := by decide +kernel
theorem d_M_sum_35 : decode b_M_sum 35 = .ok (.iload 4, 2) := by decide +kernel
theorem d_M_sum_37 : decode b_M_sum 37 = .ok (.bipush 8, 2) := by decide +kernel
theorem d_M_sum_39 : decode b_M_sum 39 = .ok (.if_icmp .ge 39, 3) := by decide +kernel
theorem d_M_sum_42 : decode b_M_sum 42 = .ok (.iload_n 3, 1) := by decide +kernel
theorem d_M_sum_43 : decode b_M_sum 43 = .ok (.ifCond .eq 35, 3) := by decide +kernel
theorem d_M_sum_46 : decode b_M_sum 46 = .ok (.iload_n 1, 1) := by decide +kernel
theorem d_M_sum_47 : decode b_M_sum 47 = .ok (.iload 4, 2) := by decide +kernel
theorem d_M_sum_49 : decode b_M_sum 49 = .ok (.ishr, 1) := by decide +kernel
theorem d_M_sum_50 : decode b_M_sum 50 = .ok (.iconst 1, 1) := by decide +kernel
theorem d_M_sum_51 : decode b_M_sum 51 = .ok (.iand, 1) := by decide +kernel
theorem d_M_sum_52 : decode b_M_sum 52 = .ok (.ifCond .eq 14, 3) := by decide +kernel
theorem d_M_sum_55 : decode b_M_sum 55 = .ok (.aload_n 0, 1) := by decide +kernel
theorem d_M_sum_56 : decode b_M_sum 56 = .ok (.getfield 16, 3) := by decide +kernel
theorem d_M_sum_59 : decode b_M_sum 59 = .ok (.iload 4, 2) := by decide +kernel
theorem d_M_sum_61 : decode b_M_sum 61 = .ok (.iaload, 1) := by decide +kernel
theorem d_M_sum_62 : decode b_M_sum 62 = .ok (.iconst 1, 1) := by decide +kernel
theorem d_M_sum_63 : decode b_M_sum 63 = .ok (.if_icmp .eq 7, 3) := by decide +kernel
theorem d_M_sum_66 : decode b_M_sum 66 = .ok (.iconst 1, 1) := by decide +kernel
theorem d_M_sum_67 : decode b_M_sum 67 = .ok (.goto 4, 3) := by decide +kernel
theorem d_M_sum_70 : decode b_M_sum 70 = .ok (.iconst 0, 1) := by decide +kernel
theorem d_M_sum_71 : decode b_M_sum 71 = .ok (.istore_n 3, 1) := by decide +kernel
theorem d_M_sum_72 : decode b_M_sum 72 = .ok (.iinc 4 1, 3) := by decide +kernel
theorem d_M_sum_75 : decode b_M_sum 75 = .ok (.goto (-40), 3) := by decide +kernel
theorem d_M_sum_78 : decode b_M_sum 78 = .ok (.iload_n 3, 1) := by decide +kernel
theorem d_M_sum_79 : decode b_M_sum 79 = .ok (.ifCond .ne 9, 3) := by decide +kernel
theorem d_M_sum_82 : decode b_M_sum 82 = .ok (.aload_n 0, 1) := by decide +kernel
theorem d_M_sum_83 : decode b_M_sum 83 = .ok (.iconst 1, 1) := by decide +kernel
theorem d_M_sum_84 : decode b_M_sum 84 = .ok (.invokevirtual 135, 3) := by decide +kernel
theorem d_M_sum_87 : decode b_M_sum 87 = .ok (.ireturn, 1) := by decide +kernel
theorem d_M_sum_88 : decode b_M_sum 88 = .ok (.aload_n 0, 1) := by decide +kernel
theorem d_M_sum_89 : decode b_M_sum 89 = .ok (.getfield 13, 3) := by decide +kernel
theorem d_M_sum_92 : decode b_M_sum 92 = .ok (.bipush 31, 2) := by decide +kernel
theorem d_M_sum_94 : decode b_M_sum 94 = .ok (.iconst 0, 1) := by decide +kernel
theorem d_M_sum_95 : decode b_M_sum 95 = .ok (.iastore, 1) := by decide +kernel
theorem d_M_sum_96 : decode b_M_sum 96 = .ok (.aload_n 0, 1) := by decide +kernel
theorem d_M_sum_97 : decode b_M_sum 97 = .ok (.getfield 13, 3) := by decide +kernel
theorem d_M_sum_100 : decode b_M_sum 100 = .ok (.bipush 28, 2) := by decide +kernel
theorem d_M_sum_102 : decode b_M_sum 102 = .ok (.iconst 0, 1) := by decide +kernel
theorem d_M_sum_103 : decode b_M_sum 103 = .ok (.iastore, 1) := by decide +kernel
theorem d_M_sum_104 : decode b_M_sum 104 = .ok (.iconst 0, 1) := by decide +kernel
theorem d_M_sum_105 : decode b_M_sum 105 = .ok (.istore 4, 2) := by decide +kernel
theorem d_M_sum_107 : decode b_M_sum 107 = .ok (.iload 4, 2) := by decide +kernel
theorem d_M_sum_109 : decode b_M_sum 109 = .ok (.bipush 8, 2) := by decide +kernel
theorem d_M_sum_111 : decode b_M_sum 111 = .ok (.if_icmp .ge 88, 3) := by decide +kernel
theorem d_M_sum_114 : decode b_M_sum 114 = .ok (.iload_n 1, 1) := by decide +kernel
theorem d_M_sum_115 : decode b_M_sum 115 = .ok (.iload 4, 2) := by decide +kernel
theorem d_M_sum_117 : decode b_M_sum 117 = .ok (.ishr, 1) := by decide +kernel
theorem d_M_sum_118 : decode b_M_sum 118 = .ok (.iconst 1, 1) := by decide +kernel
theorem d_M_sum_119 : decode b_M_sum 119 = .ok (.iand, 1) := by decide +kernel
theorem d_M_sum_120 : decode b_M_sum 120 = .ok (.ifCond .eq 73, 3) := by decide +kernel
theorem d_M_sum_123 : decode b_M_sum 123 = .ok (.aload_n 0, 1) := by decide +kernel
theorem d_M_sum_124 : decode b_M_sum 124 = .ok (.getfield 16, 3) := by decide +kernel
theorem d_M_sum_127 : decode b_M_sum 127 = .ok (.iload 4, 2) := by decide +kernel
theorem d_M_sum_129 : decode b_M_sum 129 = .ok (.iaload, 1) := by decide +kernel
theorem d_M_sum_130 : decode b_M_sum 130 = .ok (.ifCond .ge 6, 3) := by decide +kernel
theorem d_M_sum_133 : decode b_M_sum 133 = .ok (.goto 60, 3) := by decide +kernel
theorem d_M_sum_136 : decode b_M_sum 136 = .ok (.aload_n 0, 1) := by decide +kernel
theorem d_M_sum_137 : decode b_M_sum 137 = .ok (.iload 4, 2) := by decide +kernel
theorem d_M_sum_139 : decode b_M_sum 139 = .ok (.bipush 16, 2) := by decide +kernel
theorem d_M_sum_141 : decode b_M_sum 141 = .ok (.bipush 17, 2) := by decide +kernel
theorem d_M_sum_143 : decode b_M_sum 143 = .ok (.invokevirtual 182, 3) := by decide +kernel
theorem d_M_sum_146 : decode b_M_sum 146 = .ok (.istore 5, 2) := by decide +kernel
theorem d_M_sum_148 : decode b_M_sum 148 = .ok (.aload_n 0, 1) := by decide +kernel
theorem d_M_sum_149 : decode b_M_sum 149 = .ok (.bipush 16, 2) := by decide +kernel
theorem d_M_sum_151 : decode b_M_sum 151 = .ok (.sipush 160, 3) := by decide +kernel
theorem d_M_sum_154 : decode b_M_sum 154 = .ok (.invokevirtual 66, 3) := by decide +kernel
theorem d_M_sum_157 : decode b_M_sum 157 = .ok (.aload_n 0, 1) := by decide +kernel
theorem d_M_sum_158 : decode b_M_sum 158 = .ok (.bipush 16, 2) := by decide +kernel
theorem d_M_sum_160 : decode b_M_sum 160 = .ok (.bipush 17, 2) := by decide +kernel
theorem d_M_sum_162 : decode b_M_sum 162 = .ok (.invokevirtual 79, 3) := by decide +kernel
theorem d_M_sum_165 : decode b_M_sum 165 = .ok (.iload 5, 2) := by decide +kernel
theorem d_M_sum_167 : decode b_M_sum 167 = .ok (.ifCond .eq 16, 3) := by decide +kernel
theorem d_M_sum_170 : decode b_M_sum 170 = .ok (.aload_n 0, 1) := by decide +kernel
theorem d_M_sum_171 : decode b_M_sum 171 = .ok (.bipush 28, 2) := by decide +kernel
theorem d_M_sum_173 : decode b_M_sum 173 = .ok (.bipush 24, 2) := by decide +kernel
theorem d_M_sum_175 : decode b_M_sum 175 = .ok (.bipush 28, 2) := by decide +kernel
theorem d_M_sum_177 : decode b_M_sum 177 = .ok (.invokevirtual 155, 3) := by decide +kernel
theorem d_M_sum_180 : decode b_M_sum 180 = .ok (.goto 13, 3) := by decide +kernel
theorem d_M_sum_183 : decode b_M_sum 183 = .ok (.aload_n 0, 1) := by decide +kernel
theorem d_M_sum_184 : decode b_M_sum 184 = .ok (.bipush 31, 2) := by decide +kernel
theorem d_M_sum_186 : decode b_M_sum 186 = .ok (.bipush 24, 2) := by decide +kernel
theorem d_M_sum_188 : decode b_M_sum 188 = .ok (.bipush 31, 2) := by decide +kernel
theorem d_M_sum_190 : decode b_M_sum 190 = .ok (.invokevirtual 155, 3) := by decide +kernel
theorem d_M_sum_193 : decode b_M_sum 193 = .ok (.iinc 4 1, 3) := by decide +kernel
theorem d_M_sum_196 : decode b_M_sum 196 = .ok (.goto (-89), 3) := by decide +kernel
theorem d_M_sum_199 : decode b_M_sum 199 = .ok (.aload_n 0, 1) := by decide +kernel
theorem d_M_sum_200 : decode b_M_sum 200 = .ok (.aload_n 0, 1) := by decide +kernel
theorem d_M_sum_201 : decode b_M_sum 201 = .ok (.bipush 31, 2) := by decide +kernel
theorem d_M_sum_203 : decode b_M_sum 203 = .ok (.bipush 28, 2) := by decide +kernel
theorem d_M_sum_205 : decode b_M_sum 205 = .ok (.invokevirtual 105, 3) := by decide +kernel
theorem d_M_sum_208 : decode b_M_sum 208 = .ok (.ifCond .ge 7, 3) := by decide +kernel
theorem d_M_sum_211 : decode b_M_sum 211 = .ok (.iconst 1, 1) := by decide +kernel
theorem d_M_sum_212 : decode b_M_sum 212 = .ok (.goto 4, 3) := by decide +kernel
theorem d_M_sum_215 : decode b_M_sum 215 = .ok (.iconst 0, 1) := by decide +kernel
theorem d_M_sum_216 : decode b_M_sum 216 = .ok (.putfield 129, 3) := by decide +kernel
theorem d_M_sum_219 : decode b_M_sum 219 = .ok (.aload_n 0, 1) := by decide +kernel
theorem d_M_sum_220 : decode b_M_sum 220 = .ok (.getfield 129, 3) := by decide +kernel
theorem d_M_sum_223 : decode b_M_sum 223 = .ok (.ifCond .eq 16, 3) := by decide +kernel
theorem d_M_sum_226 : decode b_M_sum 226 = .ok (.aload_n 0, 1) := by decide +kernel
theorem d_M_sum_227 : decode b_M_sum 227 = .ok (.bipush 28, 2) := by decide +kernel
theorem d_M_sum_229 : decode b_M_sum 229 = .ok (.bipush 31, 2) := by decide +kernel
theorem d_M_sum_231 : decode b_M_sum 231 = .ok (.bipush 20, 2) := by decide +kernel
theorem d_M_sum_233 : decode b_M_sum 233 = .ok (.invokevirtual 158, 3) := by decide +kernel
theorem d_M_sum_236 : decode b_M_sum 236 = .ok (.goto 13, 3) := by decide +kernel
theorem d_M_sum_239 : decode b_M_sum 239 = .ok (.aload_n 0, 1) := by decide +kernel
theorem d_M_sum_240 : decode b_M_sum 240 = .ok (.bipush 31, 2) := by decide +kernel
theorem d_M_sum_242 : decode b_M_sum 242 = .ok (.bipush 28, 2) := by decide +kernel
theorem d_M_sum_244 : decode b_M_sum 244 = .ok (.bipush 20, 2) := by decide +kernel
theorem d_M_sum_246 : decode b_M_sum 246 = .ok (.invokevirtual 158, 3) := by decide +kernel
theorem d_M_sum_249 : decode b_M_sum 249 = .ok (.aload_n 0, 1) := by decide +kernel
theorem d_M_sum_250 : decode b_M_sum 250 = .ok (.bipush 21, 2) := by decide +kernel
theorem d_M_sum_252 : decode b_M_sum 252 = .ok (.lconst 1, 1) := by decide +kernel
theorem d_M_sum_253 : decode b_M_sum 253 = .ok (.invokevirtual 82, 3) := by decide +kernel
theorem d_M_sum_256 : decode b_M_sum 256 = .ok (.aload_n 0, 1) := by decide +kernel
theorem d_M_sum_257 : decode b_M_sum 257 = .ok (.bipush 21, 2) := by decide +kernel
theorem d_M_sum_259 : decode b_M_sum 259 = .ok (.sipush 160, 3) := by decide +kernel
theorem d_M_sum_262 : decode b_M_sum 262 = .ok (.invokevirtual 66, 3) := by decide +kernel
theorem d_M_sum_265 : decode b_M_sum 265 = .ok (.aload_n 0, 1) := by decide +kernel
theorem d_M_sum_266 : decode b_M_sum 266 = .ok (.iconst 2, 1) := by decide +kernel
theorem d_M_sum_267 : decode b_M_sum 267 = .ok (.iload_n 2, 1) := by decide +kernel
theorem d_M_sum_268 : decode b_M_sum 268 = .ok (.iconst 2, 1) := by decide +kernel
theorem d_M_sum_269 : decode b_M_sum 269 = .ok (.invokevirtual 142, 3) := by decide +kernel
theorem d_M_sum_272 : decode b_M_sum 272 = .ok (.ireturn, 1) := by decide +kernel
theorem d_M_compare_0 : decode b_M_compare 0 = .ok (.aload_n 0, 1) := by decide +kernel
theorem d_M_compare_1 : decode b_M_compare 1 = .ok (.iconst 0, 1) := by decide +kernel
theorem d_M_compare_2 : decode b_M_compare 2 = .ok (.putfield 39, 3) := by decide +kernel
theorem d_M_compare_5 : decode b_M_compare 5 = .ok (.aload_n 0, 1) := by decide +kernel
theorem d_M_compare_6 : decode b_M_compare 6 = .ok (.iload_n 1, 1) := by decide +kernel
theorem d_M_compare_7 : decode b_M_compare 7 = .ok (.invokevirtual 176, 3) := by decide +kernel
theorem d_M_compare_10 : decode b_M_compare 10 = .ok (.ifCond .eq 11, 3) := by decide +kernel
theorem d_M_compare_13 : decode b_M_compare 13 = .ok (.aload_n 0, 1) := by decide +kernel
theorem d_M_compare_14 : decode b_M_compare 14 = .ok (.iload_n 2, 1) := by decide +kernel
theorem d_M_compare_15 : decode b_M_compare 15 = .ok (.invokevirtual 176, 3) := by decide +kernel
theorem d_M_compare_18 : decode b_M_compare 18 = .ok (.ifCond .ne 5, 3) := by decide +kernel
theorem d_M_compare_21 : decode b_M_compare 21 = .ok (.iconst 2, 1) := by decide +kernel
theorem d_M_compare_22 : decode b_M_compare 22 = .ok (.ireturn, 1) := by decide +kernel
theorem d_M_compare_23 : decode b_M_compare 23 = .ok (.aload_n 0, 1) := by decide +kernel
theorem d_M_compare_24 : decode b_M_compare 24 = .ok (.aload_n 0, 1) := by decide +kernel
theorem d_M_compare_25 : decode b_M_compare 25 = .ok (.iload_n 1, 1) := by decide +kernel
theorem d_M_compare_26 : decode b_M_compare 26 = .ok (.bipush 16, 2) := by decide +kernel
theorem d_M_compare_28 : decode b_M_compare 28 = .ok (.bipush 17, 2) := by decide +kernel
theorem d_M_compare_30 : decode b_M_compare 30 = .ok (.invokevirtual 182, 3) := by decide +kernel
theorem d_M_compare_33 : decode b_M_compare 33 = .ok (.putfield 149, 3) := by decide +kernel
theorem d_M_compare_36 : decode b_M_compare 36 = .ok (.aload_n 0, 1) := by decide +kernel
theorem d_M_compare_37 : decode b_M_compare 37 = .ok (.aload_n 0, 1) := by decide +kernel
theorem d_M_compare_38 : decode b_M_compare 38 = .ok (.iload_n 2, 1) := by decide +kernel
theorem d_M_compare_39 : decode b_M_compare 39 = .ok (.bipush 18, 2) := by decide +kernel
theorem d_M_compare_41 : decode b_M_compare 41 = .ok (.bipush 19, 2) := by decide +kernel
theorem d_M_compare_43 : decode b_M_compare 43 = .ok (.invokevirtual 182, 3) := by decide +kernel
theorem d_M_compare_46 : decode b_M_compare 46 = .ok (.ifCond .ne 7, 3) := by decide +kernel
theorem d_M_compare_49 : decode b_M_compare 49 = .ok (.iconst 1, 1) := by decide +kernel
theorem d_M_compare_50 : decode b_M_compare 50 = .ok (.goto 4, 3) := by decide +kernel
theorem d_M_compare_53 : decode b_M_compare 53 = .ok (.iconst 0, 1) := by decide +kernel
theorem d_M_compare_54 : decode b_M_compare 54 = .ok (.putfield 152, 3) := by decide +kernel
theorem d_M_compare_57 : decode b_M_compare 57 = .ok (.aload_n 0, 1) := by decide +kernel
theorem d_M_compare_58 : decode b_M_compare 58 = .ok (.invokevirtual 170, 3) := by decide +kernel
theorem d_M_compare_61 : decode b_M_compare 61 = .ok (.aload_n 0, 1) := by decide +kernel
theorem d_M_compare_62 : decode b_M_compare 62 = .ok (.getfield 129, 3) := by decide +kernel
theorem d_M_compare_65 : decode b_M_compare 65 = .ok (.ifCond .eq 7, 3) := by decide +kernel
theorem d_M_compare_68 : decode b_M_compare 68 = .ok (.iconst (-1), 1) := by decide +kernel
theorem d_M_compare_69 : decode b_M_compare 69 = .ok (.goto 17, 3) := by decide +kernel
theorem d_M_compare_72 : decode b_M_compare 72 = .ok (.aload_n 0, 1) := by decide +kernel
theorem d_M_compare_73 : decode b_M_compare 73 = .ok (.bipush 20, 2) := by decide +kernel
theorem d_M_compare_75 : decode b_M_compare 75 = .ok (.invokevirtual 75, 3) := by decide +kernel
theorem d_M_compare_78 : decode b_M_compare 78 = .ok (.ifCond .eq 7, 3) := by decide +kernel
theorem d_M_compare_81 : decode b_M_compare 81 = .ok (.iconst 0, 1) := by decide +kernel
theorem d_M_compare_82 : decode b_M_compare 82 = .ok (.goto 4, 3) := by decide +kernel
theorem d_M_compare_85 : decode b_M_compare 85 = .ok (.iconst 1, 1) := by decide +kernel
theorem d_M_compare_86 : decode b_M_compare 86 = .ok (.ireturn, 1) := by decide +kernel
theorem d_M_reduce_0 : decode b_M_reduce 0 = .ok (.aload_n 0, 1) := by decide +kernel
theorem d_M_reduce_1 : decode b_M_reduce 1 = .ok (.iload_n 1, 1) := by decide +kernel
theorem d_M_reduce_2 : decode b_M_reduce 2 = .ok (.bipush 30, 2) := by decide +kernel
theorem d_M_reduce_4 : decode b_M_reduce 4 = .ok (.invokevirtual 79, 3) := by decide +kernel
theorem d_M_reduce_7 : decode b_M_reduce 7 = .ok (.aload_n 0, 1) := by decide +kernel
theorem d_M_reduce_8 : decode b_M_reduce 8 = .ok (.bipush 25, 2) := by decide +kernel
theorem d_M_reduce_10 : decode b_M_reduce 10 = .ok (.iload_n 1, 1) := by decide +kernel
theorem d_M_reduce_11 : decode b_M_reduce 11 = .ok (.invokevirtual 58, 3) := by decide +kernel
theorem d_M_reduce_14 : decode b_M_reduce 14 = .ok (.iload_n 2, 1) := by decide +kernel
theorem d_M_reduce_15 : decode b_M_reduce 15 = .ok (.ifCond .eq 19, 3) := by decide +kernel
theorem d_M_reduce_18 : decode b_M_reduce 18 = .ok (.aload_n 0, 1) := by decide +kernel
theorem d_M_reduce_19 : decode b_M_reduce 19 = .ok (.iload_n 1, 1) := by decide +kernel
theorem d_M_reduce_20 : decode b_M_reduce 20 = .ok (.invokevirtual 75, 3) := by decide +kernel
theorem d_M_reduce_23 : decode b_M_reduce 23 = .ok (.ifCond .ne 11, 3) := by decide +kernel
theorem d_M_reduce_26 : decode b_M_reduce 26 = .ok (.aload_n 0, 1) := by decide +kernel
theorem d_M_reduce_27 : decode b_M_reduce 27 = .ok (.bipush 30, 2) := by decide +kernel
theorem d_M_reduce_29 : decode b_M_reduce 29 = .ok (.iload_n 1, 1) := by decide +kernel
theorem d_M_reduce_30 : decode b_M_reduce 30 = .ok (.iload_n 1, 1) := by decide +kernel
theorem d_M_reduce_31 : decode b_M_reduce 31 = .ok (.invokevirtual 158, 3) := by decide +kernel
theorem d_M_reduce_34 : decode b_M_reduce 34 = .ok (.return_, 1) := by decide +kernel
