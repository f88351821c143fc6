theorem d_U_init_0 : decode b_U_init 0 = .ok (.aload_n 0, 1) := by decide +kernel
theorem d_U_init_1 : decode b_U_init 1 = .ok (.invokespecial 3, 3) := by decide +kernel
theorem d_U_init_4 : decode b_U_init 4 = .ok (.aload_n 0, 1) := by decide +kernel
theorem d_U_init_5 : decode b_U_init 5 = .ok (.iconst (-1), 1) := by decide +kernel
theorem d_U_init_6 : decode b_U_init 6 = .ok (.putfield 9, 3) := by decide +kernel
theorem d_U_init_9 : decode b_U_init 9 = .ok (.aload_n 0, 1) := by decide +kernel
theorem d_U_init_10 : decode b_U_init 10 = .ok (.new 15, 3) := by decide +kernel
theorem d_U_init_13 : decode b_U_init 13 = .ok (.dup, 1) := by decide +kernel
theorem d_U_init_14 : decode b_U_init 14 = .ok (.invokespecial 17, 3) := by decide +kernel
theorem d_U_init_17 : decode b_U_init 17 = .ok (.putfield 18, 3) := by decide +kernel
theorem d_U_init_20 : decode b_U_init 20 = .ok (.aload_n 0, 1) := by decide +kernel
theorem d_U_init_21 : decode b_U_init 21 = .ok (.new 15, 3) := by decide +kernel
theorem d_U_init_24 : decode b_U_init 24 = .ok (.dup, 1) := by decide +kernel
theorem d_U_init_25 : decode b_U_init 25 = .ok (.invokespecial 17, 3) := by decide +kernel
theorem d_U_init_28 : decode b_U_init 28 = .ok (.putfield 22, 3) := by decide +kernel
theorem d_U_init_31 : decode b_U_init 31 = .ok (.return_, 1) := by decide +kernel
theorem d_U_isThere_0 : decode b_U_isThere 0 = .ok (.aload_n 0, 1) := by decide +kernel
theorem d_U_isThere_1 : decode b_U_isThere 1 = .ok (.getfield 9, 3) := by decide +kernel
theorem d_U_isThere_4 : decode b_U_isThere 4 = .ok (.iconst (-1), 1) := by decide +kernel
theorem d_U_isThere_5 : decode b_U_isThere 5 = .ok (.if_icmp .eq 7, 3) := by decide +kernel
theorem d_U_isThere_8 : decode b_U_isThere 8 = .ok (.iconst 1, 1) := by decide +kernel
theorem d_U_isThere_9 : decode b_U_isThere 9 = .ok (.goto 4, 3) := by decide +kernel
theorem d_U_isThere_12 : decode b_U_isThere 12 = .ok (.iconst 0, 1) := by decide +kernel
theorem d_U_isThere_13 : decode b_U_isThere 13 = .ok (.ireturn, 1) := by decide +kernel
theorem d_U_become_0 : decode b_U_become 0 = .ok (.aload_n 0, 1) := by decide +kernel
theorem d_U_become_1 : decode b_U_become 1 = .ok (.aload_n 1, 1) := by decide +kernel
theorem d_U_become_2 : decode b_U_become 2 = .ok (.getfield 9, 3) := by decide +kernel
theorem d_U_become_5 : decode b_U_become 5 = .ok (.putfield 9, 3) := by decide +kernel
theorem d_U_become_8 : decode b_U_become 8 = .ok (.aload_n 0, 1) := by decide +kernel
theorem d_U_become_9 : decode b_U_become 9 = .ok (.aload_n 1, 1) := by decide +kernel
theorem d_U_become_10 : decode b_U_become 10 = .ok (.getfield 25, 3) := by decide +kernel
theorem d_U_become_13 : decode b_U_become 13 = .ok (.putfield 25, 3) := by decide +kernel
theorem d_U_become_16 : decode b_U_become 16 = .ok (.aload_n 0, 1) := by decide +kernel
theorem d_U_become_17 : decode b_U_become 17 = .ok (.getfield 18, 3) := by decide +kernel
theorem d_U_become_20 : decode b_U_become 20 = .ok (.aload_n 1, 1) := by decide +kernel
theorem d_U_become_21 : decode b_U_become 21 = .ok (.getfield 18, 3) := by decide +kernel
theorem d_U_become_24 : decode b_U_become 24 = .ok (.invokevirtual 28, 3) := by decide +kernel
theorem d_U_become_27 : decode b_U_become 27 = .ok (.aload_n 0, 1) := by decide +kernel
theorem d_U_become_28 : decode b_U_become 28 = .ok (.getfield 22, 3) := by decide +kernel
theorem d_U_become_31 : decode b_U_become 31 = .ok (.aload_n 1, 1) := by decide +kernel
theorem d_U_become_32 : decode b_U_become 32 = .ok (.getfield 22, 3) := by decide +kernel
theorem d_U_become_35 : decode b_U_become 35 = .ok (.invokevirtual 28, 3) := by decide +kernel
theorem d_U_become_38 : decode b_U_become 38 = .ok (.return_, 1) := by decide +kernel
theorem d_U_setWhole_0 : decode b_U_setWhole 0 = .ok (.aload_n 0, 1) := by decide +kernel
theorem d_U_setWhole_1 : decode b_U_setWhole 1 = .ok (.iconst 0, 1) := by decide +kernel
theorem d_U_setWhole_2 : decode b_U_setWhole 2 = .ok (.putfield 9, 3) := by decide +kernel
theorem d_U_setWhole_5 : decode b_U_setWhole 5 = .ok (.aload_n 0, 1) := by decide +kernel
theorem d_U_setWhole_6 : decode b_U_setWhole 6 = .ok (.lload_n 1, 1) := by decide +kernel
theorem d_U_setWhole_7 : decode b_U_setWhole 7 = .ok (.lconst 0, 1) := by decide +kernel
theorem d_U_setWhole_8 : decode b_U_setWhole 8 = .ok (.invokestatic 32, 3) := by decide +kernel
theorem d_U_setWhole_11 : decode b_U_setWhole 11 = .ok (.putfield 25, 3) := by decide +kernel
theorem d_U_setWhole_14 : decode b_U_setWhole 14 = .ok (.aload_n 0, 1) := by decide +kernel
theorem d_U_setWhole_15 : decode b_U_setWhole 15 = .ok (.getfield 18, 3) := by decide +kernel
theorem d_U_setWhole_18 : decode b_U_setWhole 18 = .ok (.lload_n 1, 1) := by decide +kernel
theorem d_U_setWhole_19 : decode b_U_setWhole 19 = .ok (.lconst 0, 1) := by decide +kernel
theorem d_U_setWhole_20 : decode b_U_setWhole 20 = .ok (.lcmp, 1) := by decide +kernel
theorem d_U_setWhole_21 : decode b_U_setWhole 21 = .ok (.ifCond .ge 8, 3) := by decide +kernel
theorem d_U_setWhole_24 : decode b_U_setWhole 24 = .ok (.lload_n 1, 1) := by decide +kernel
theorem d_U_setWhole_25 : decode b_U_setWhole 25 = .ok (.lneg, 1) := by decide +kernel
theorem d_U_setWhole_26 : decode b_U_setWhole 26 = .ok (.goto 4, 3) := by decide +kernel
theorem d_U_setWhole_29 : decode b_U_setWhole 29 = .ok (.lload_n 1, 1) := by decide +kernel
theorem d_U_setWhole_30 : decode b_U_setWhole 30 = .ok (.invokevirtual 38, 3) := by decide +kernel
theorem d_U_setWhole_33 : decode b_U_setWhole 33 = .ok (.aload_n 0, 1) := by decide +kernel
theorem d_U_setWhole_34 : decode b_U_setWhole 34 = .ok (.getfield 22, 3) := by decide +kernel
theorem d_U_setWhole_37 : decode b_U_setWhole 37 = .ok (.lconst 1, 1) := by decide +kernel
theorem d_U_setWhole_38 : decode b_U_setWhole 38 = .ok (.invokevirtual 38, 3) := by decide +kernel
theorem d_U_setWhole_41 : decode b_U_setWhole 41 = .ok (.return_, 1) := by decide +kernel
theorem d_U_setReal_0 : decode b_U_setReal 0 = .ok (.dload_n 2, 1) := by decide +kernel
theorem d_U_setReal_1 : decode b_U_setReal 1 = .ok (.dstore 4, 2) := by decide +kernel
theorem d_U_setReal_3 : decode b_U_setReal 3 = .ok (.iconst 0, 1) := by decide +kernel
theorem d_U_setReal_4 : decode b_U_setReal 4 = .ok (.istore 6, 2) := by decide +kernel
theorem d_U_setReal_6 : decode b_U_setReal 6 = .ok (.iconst 0, 1) := by decide +kernel
theorem d_U_setReal_7 : decode b_U_setReal 7 = .ok (.istore 7, 2) := by decide +kernel
theorem d_U_setReal_9 : decode b_U_setReal 9 = .ok (.iload 7, 2) := by decide +kernel
theorem d_U_setReal_11 : decode b_U_setReal 11 = .ok (.bipush 60, 2) := by decide +kernel
theorem d_U_setReal_13 : decode b_U_setReal 13 = .ok (.if_icmp .ge 29, 3) := by decide +kernel
theorem d_U_setReal_16 : decode b_U_setReal 16 = .ok (.dload 4, 2) := by decide +kernel
theorem d_U_setReal_18 : decode b_U_setReal 18 = .ok (.ldc2_w 42, 3) := by decide +kernel
theorem d_U_setReal_21 : decode b_U_setReal 21 = .ok (.dcmp .l, 1) := by decide +kernel
theorem d_U_setReal_22 : decode b_U_setReal 22 = .ok (.ifCond .lt 20, 3) := by decide +kernel
theorem d_U_setReal_25 : decode b_U_setReal 25 = .ok (.dload 4, 2) := by decide +kernel
theorem d_U_setReal_27 : decode b_U_setReal 27 = .ok (.ldc2_w 44, 3) := by decide +kernel
theorem d_U_setReal_30 : decode b_U_setReal 30 = .ok (.ddiv, 1) := by decide +kernel
theorem d_U_setReal_31 : decode b_U_setReal 31 = .ok (.dstore 4, 2) := by decide +kernel
theorem d_U_setReal_33 : decode b_U_setReal 33 = .ok (.iinc 6 1, 3) := by decide +kernel
theorem d_U_setReal_36 : decode b_U_setReal 36 = .ok (.iinc 7 1, 3) := by decide +kernel
theorem d_U_setReal_39 : decode b_U_setReal 39 = .ok (.goto (-30), 3) := by decide +kernel
theorem d_U_setReal_42 : decode b_U_setReal 42 = .ok (.iconst 0, 1) := by decide +kernel
theorem d_U_setReal_43 : decode b_U_setReal 43 = .ok (.istore 7, 2) := by decide +kernel
theorem d_U_setReal_45 : decode b_U_setReal 45 = .ok (.iload 7, 2) := by decide +kernel
theorem d_U_setReal_47 : decode b_U_setReal 47 = .ok (.sipush 160, 3) := by decide +kernel
theorem d_U_setReal_50 : decode b_U_setReal 50 = .ok (.if_icmp .ge 36, 3) := by decide +kernel
theorem d_U_setReal_53 : decode b_U_setReal 53 = .ok (.dload 4, 2) := by decide +kernel
theorem d_U_setReal_55 : decode b_U_setReal 55 = .ok (.dconst 0, 1) := by decide +kernel
theorem d_U_setReal_56 : decode b_U_setReal 56 = .ok (.dcmp .l, 1) := by decide +kernel
theorem d_U_setReal_57 : decode b_U_setReal 57 = .ok (.ifCond .le 29, 3) := by decide +kernel
theorem d_U_setReal_60 : decode b_U_setReal 60 = .ok (.dload 4, 2) := by decide +kernel
theorem d_U_setReal_62 : decode b_U_setReal 62 = .ok (.ldc2_w 46, 3) := by decide +kernel
theorem d_U_setReal_65 : decode b_U_setReal 65 = .ok (.dcmp .g, 1) := by decide +kernel
theorem d_U_setReal_66 : decode b_U_setReal 66 = .ok (.ifCond .ge 20, 3) := by decide +kernel
theorem d_U_setReal_69 : decode b_U_setReal 69 = .ok (.dload 4, 2) := by decide +kernel
theorem d_U_setReal_71 : decode b_U_setReal 71 = .ok (.ldc2_w 44, 3) := by decide +kernel
theorem d_U_setReal_74 : decode b_U_setReal 74 = .ok (.dmul, 1) := by decide +kernel
theorem d_U_setReal_75 : decode b_U_setReal 75 = .ok (.dstore 4, 2) := by decide +kernel
theorem d_U_setReal_77 : decode b_U_setReal 77 = .ok (.iinc 6 (-1), 3) := by decide +kernel
theorem d_U_setReal_80 : decode b_U_setReal 80 = .ok (.iinc 7 1, 3) := by decide +kernel
theorem d_U_setReal_83 : decode b_U_setReal 83 = .ok (.goto (-38), 3) := by decide +kernel
theorem d_U_setReal_86 : decode b_U_setReal 86 = .ok (.aload_n 0, 1) := by decide +kernel
theorem d_U_setReal_87 : decode b_U_setReal 87 = .ok (.iload_n 1, 1) := by decide +kernel
theorem d_U_setReal_88 : decode b_U_setReal 88 = .ok (.dload 4, 2) := by decide +kernel
theorem d_U_setReal_90 : decode b_U_setReal 90 = .ok (.d2l, 1) := by decide +kernel
theorem d_U_setReal_91 : decode b_U_setReal 91 = .ok (.iload 6, 2) := by decide +kernel
theorem d_U_setReal_93 : decode b_U_setReal 93 = .ok (.invokevirtual 48, 3) := by decide +kernel
theorem d_U_setReal_96 : decode b_U_setReal 96 = .ok (.return_, 1) := by decide +kernel
theorem d_U_setBinary_0 : decode b_U_setBinary 0 = .ok (.aload_n 0, 1) := by decide +kernel
theorem d_U_setBinary_1 : decode b_U_setBinary 1 = .ok (.iconst 2, 1) := by decide +kernel
theorem d_U_setBinary_2 : decode b_U_setBinary 2 = .ok (.putfield 9, 3) := by decide +kernel
theorem d_U_setBinary_5 : decode b_U_setBinary 5 = .ok (.aload_n 0, 1) := by decide +kernel
theorem d_U_setBinary_6 : decode b_U_setBinary 6 = .ok (.lload_n 2, 1) := by decide +kernel
theorem d_U_setBinary_7 : decode b_U_setBinary 7 = .ok (.lconst 0, 1) := by decide +kernel
theorem d_U_setBinary_8 : decode b_U_setBinary 8 = .ok (.lcmp, 1) := by decide +kernel
theorem d_U_setBinary_9 : decode b_U_setBinary 9 = .ok (.ifCond .ne 7, 3) := by decide +kernel
theorem d_U_setBinary_12 : decode b_U_setBinary 12 = .ok (.iconst 0, 1) := by decide +kernel
theorem d_U_setBinary_13 : decode b_U_setBinary 13 = .ok (.goto 4, 3) := by decide +kernel
theorem d_U_setBinary_16 : decode b_U_setBinary 16 = .ok (.iload_n 1, 1) := by decide +kernel
theorem d_U_setBinary_17 : decode b_U_setBinary 17 = .ok (.putfield 25, 3) := by decide +kernel
theorem d_U_setBinary_20 : decode b_U_setBinary 20 = .ok (.aload_n 0, 1) := by decide +kernel
theorem d_U_setBinary_21 : decode b_U_setBinary 21 = .ok (.getfield 22, 3) := by decide +kernel
theorem d_U_setBinary_24 : decode b_U_setBinary 24 = .ok (.lconst 1, 1) := by decide +kernel
theorem d_U_setBinary_25 : decode b_U_setBinary 25 = .ok (.invokevirtual 38, 3) := by decide +kernel
theorem d_U_setBinary_28 : decode b_U_setBinary 28 = .ok (.lload_n 2, 1) := by decide +kernel
theorem d_U_setBinary_29 : decode b_U_setBinary 29 = .ok (.lconst 0, 1) := by decide +kernel
theorem d_U_setBinary_30 : decode b_U_setBinary 30 = .ok (.lcmp, 1) := by decide +kernel
theorem d_U_setBinary_31 : decode b_U_setBinary 31 = .ok (.ifCond .ne 11, 3) := by decide +kernel
theorem d_U_setBinary_34 : decode b_U_setBinary 34 = .ok (.aload_n 0, 1) := by decide +kernel
theorem d_U_setBinary_35 : decode b_U_setBinary 35 = .ok (.getfield 18, 3) := by decide +kernel
theorem d_U_setBinary_38 : decode b_U_setBinary 38 = .ok (.invokevirtual 52, 3) := by decide +kernel
theorem d_U_setBinary_41 : decode b_U_setBinary 41 = .ok (.return_, 1) := by decide +kernel
theorem d_U_setBinary_42 : decode b_U_setBinary 42 = .ok (.lload_n 2, 1) := by decide +kernel
theorem d_U_setBinary_43 : decode b_U_setBinary 43 = .ok (.lload_n 2, 1) := by decide +kernel
theorem d_U_setBinary_44 : decode b_U_setBinary 44 = .ok (.lneg, 1) := by decide +kernel
theorem d_U_setBinary_45 : decode b_U_setBinary 45 = .ok (.land, 1) := by decide +kernel
theorem d_U_setBinary_46 : decode b_U_setBinary 46 = .ok (.lconst 1, 1) := by decide +kernel
theorem d_U_setBinary_47 : decode b_U_setBinary 47 = .ok (.lsub, 1) := by decide +kernel
theorem d_U_setBinary_48 : decode b_U_setBinary 48 = .ok (.invokestatic 55, 3) := by decide +kernel
theorem d_U_setBinary_51 : decode b_U_setBinary 51 = .ok (.istore 5, 2) := by decide +kernel
theorem d_U_setBinary_53 : decode b_U_setBinary 53 = .ok (.aload_n 0, 1) := by decide +kernel
theorem d_U_setBinary_54 : decode b_U_setBinary 54 = .ok (.getfield 18, 3) := by decide +kernel
theorem d_U_setBinary_57 : decode b_U_setBinary 57 = .ok (.lload_n 2, 1) := by decide +kernel
theorem d_U_setBinary_58 : decode b_U_setBinary 58 = .ok (.iload 5, 2) := by decide +kernel
theorem d_U_setBinary_60 : decode b_U_setBinary 60 = .ok (.lshr, 1) := by decide +kernel
theorem d_U_setBinary_61 : decode b_U_setBinary 61 = .ok (.invokevirtual 38, 3) := by decide +kernel
theorem d_U_setBinary_64 : decode b_U_setBinary 64 = .ok (.aload_n 0, 1) := by decide +kernel
theorem d_U_setBinary_65 : decode b_U_setBinary 65 = .ok (.getfield 18, 3) := by decide +kernel
theorem d_U_setBinary_68 : decode b_U_setBinary 68 = .ok (.iload 4, 2) := by decide +kernel
theorem d_U_setBinary_70 : decode b_U_setBinary 70 = .ok (.iload 5, 2) := by decide +kernel
theorem d_U_setBinary_72 : decode b_U_setBinary 72 = .ok (.iadd, 1) := by decide +kernel
theorem d_U_setBinary_73 : decode b_U_setBinary 73 = .ok (.invokevirtual 59, 3) := by decide +kernel
theorem d_U_setBinary_76 : decode b_U_setBinary 76 = .ok (.aload_n 0, 1) := by decide +kernel
theorem d_U_setBinary_77 : decode b_U_setBinary 77 = .ok (.getfield 22, 3) := by decide +kernel
theorem d_U_setBinary_80 : decode b_U_setBinary 80 = .ok (.iload 4, 2) := by decide +kernel
theorem d_U_setBinary_82 : decode b_U_setBinary 82 = .ok (.iload 5, 2) := by decide +kernel
theorem d_U_setBinary_84 : decode b_U_setBinary 84 = .ok (.iadd, 1) := by decide +kernel
theorem d_U_setBinary_85 : decode b_U_setBinary 85 = .ok (.ineg, 1) := by decide +kernel
theorem d_U_setBinary_86 : decode b_U_setBinary 86 = .ok (.invokevirtual 59, 3) := by decide +kernel
theorem d_U_setBinary_89 : decode b_U_setBinary 89 = .ok (.return_, 1) := by decide +kernel
theorem d_U_isWholeWithin_0 : decode b_U_isWholeWithin 0 = .ok (.aload_n 0, 1) := by decide +kernel
theorem d_U_isWholeWithin_1 : decode b_U_isWholeWithin 1 = .ok (.getfield 9, 3) := by decide +kernel
theorem d_U_isWholeWithin_4 : decode b_U_isWholeWithin 4 = .ok (.ifCond .ne 34, 3) := by decide +kernel
theorem d_U_isWholeWithin_7 : decode b_U_isWholeWithin 7 = .ok (.aload_n 0, 1) := by decide +kernel
theorem d_U_isWholeWithin_8 : decode b_U_isWholeWithin 8 = .ok (.getfield 18, 3) := by decide +kernel
theorem d_U_isWholeWithin_11 : decode b_U_isWholeWithin 11 = .ok (.getfield 63, 3) := by decide +kernel
theorem d_U_isWholeWithin_14 : decode b_U_isWholeWithin 14 = .ok (.iconst 1, 1) := by decide +kernel
theorem d_U_isWholeWithin_15 : decode b_U_isWholeWithin 15 = .ok (.if_icmp .gt 23, 3) := by decide +kernel
theorem d_U_isWholeWithin_18 : decode b_U_isWholeWithin 18 = .ok (.aload_n 0, 1) := by decide +kernel
theorem d_U_isWholeWithin_19 : decode b_U_isWholeWithin 19 = .ok (.invokevirtual 66, 3) := by decide +kernel
theorem d_U_isWholeWithin_22 : decode b_U_isWholeWithin 22 = .ok (.iload_n 1, 1) := by decide +kernel
theorem d_U_isWholeWithin_23 : decode b_U_isWholeWithin 23 = .ok (.if_icmp .lt 15, 3) := by decide +kernel
theorem d_U_isWholeWithin_26 : decode b_U_isWholeWithin 26 = .ok (.aload_n 0, 1) := by decide +kernel
theorem d_U_isWholeWithin_27 : decode b_U_isWholeWithin 27 = .ok (.invokevirtual 66, 3) := by decide +kernel
theorem d_U_isWholeWithin_30 : decode b_U_isWholeWithin 30 = .ok (.iload_n 2, 1) := by decide +kernel
theorem d_U_isWholeWithin_31 : decode b_U_isWholeWithin 31 = .ok (.if_icmp .gt 7, 3) := by decide +kernel
theorem d_U_isWholeWithin_34 : decode b_U_isWholeWithin 34 = .ok (.iconst 1, 1) := by decide +kernel
theorem d_U_isWholeWithin_35 : decode b_U_isWholeWithin 35 = .ok (.goto 4, 3) := by decide +kernel
theorem d_U_isWholeWithin_38 : decode b_U_isWholeWithin 38 = .ok (.iconst 0, 1) := by decide +kernel
theorem d_U_isWholeWithin_39 : decode b_U_isWholeWithin 39 = .ok (.ireturn, 1) := by decide +kernel
theorem d_U_small_0 : decode b_U_small 0 = .ok (.aload_n 0, 1) := by decide +kernel
theorem d_U_small_1 : decode b_U_small 1 = .ok (.getfield 25, 3) := by decide +kernel
theorem d_U_small_4 : decode b_U_small 4 = .ok (.aload_n 0, 1) := by decide +kernel
theorem d_U_small_5 : decode b_U_small 5 = .ok (.getfield 18, 3) := by decide +kernel
theorem d_U_small_8 : decode b_U_small 8 = .ok (.getfield 70, 3) := by decide +kernel
theorem d_U_small_11 : decode b_U_small 11 = .ok (.iconst 0, 1) := by decide +kernel
theorem d_U_small_12 : decode b_U_small 12 = .ok (.iaload, 1) := by decide +kernel
theorem d_U_small_13 : decode b_U_small 13 = .ok (.imul, 1) := by decide +kernel
theorem d_U_small_14 : decode b_U_small 14 = .ok (.ireturn, 1) := by decide +kernel
theorem d_U_worth_0 : decode b_U_worth 0 = .ok (.aload_n 0, 1) := by decide +kernel
theorem d_U_worth_1 : decode b_U_worth 1 = .ok (.getfield 22, 3) := by decide +kernel
theorem d_U_worth_4 : decode b_U_worth 4 = .ok (.invokevirtual 74, 3) := by decide +kernel
theorem d_U_worth_7 : decode b_U_worth 7 = .ok (.dstore_n 1, 1) := by decide +kernel
theorem d_U_worth_8 : decode b_U_worth 8 = .ok (.aload_n 0, 1) := by decide +kernel
theorem d_U_worth_9 : decode b_U_worth 9 = .ok (.getfield 25, 3) := by decide +kernel
theorem d_U_worth_12 : decode b_U_worth 12 = .ok (.ifCond .eq 9, 3) := by decide +kernel
theorem d_U_worth_15 : decode b_U_worth 15 = .ok (.dload_n 1, 1) := by decide +kernel
theorem d_U_worth_16 : decode b_U_worth 16 = .ok (.dconst 1, 1) := by decide +kernel
theorem d_U_worth_17 : decode b_U_worth 17 = .ok (.dcmp .g, 1) := by decide +kernel
theorem d_U_worth_18 : decode b_U_worth 18 = .ok (.ifCond .ge 5, 3) := by decide +kernel
theorem d_U_worth_21 : decode b_U_worth 21 = .ok (.dconst 0, 1) := by decide +kernel
theorem d_U_worth_22 : decode b_U_worth 22 = .ok (.dreturn, 1) := by decide +kernel
theorem d_U_worth_23 : decode b_U_worth 23 = .ok (.aload_n 0, 1) := by decide +kernel
theorem d_U_worth_24 : decode b_U_worth 24 = .ok (.getfield 18, 3) := by decide +kernel
theorem d_U_worth_27 : decode b_U_worth 27 = .ok (.invokevirtual 74, 3) := by decide +kernel
theorem d_U_worth_30 : decode b_U_worth 30 = .ok (.dload_n 1, 1) := by decide +kernel
theorem d_U_worth_31 : decode b_U_worth 31 = .ok (.ddiv, 1) := by decide +kernel
theorem d_U_worth_32 : decode b_U_worth 32 = .ok (.dstore_n 3, 1) := by decide +kernel
theorem d_U_worth_33 : decode b_U_worth 33 = .ok (.aload_n 0, 1) := by decide +kernel
theorem d_U_worth_34 : decode b_U_worth 34 = .ok (.getfield 25, 3) := by decide +kernel
theorem d_U_worth_37 : decode b_U_worth 37 = .ok (.ifCond .ge 8, 3) := by decide +kernel
theorem d_U_worth_40 : decode b_U_worth 40 = .ok (.dload_n 3, 1) := by decide +kernel
theorem d_U_worth_41 : decode b_U_worth 41 = .ok (.dneg, 1) := by decide +kernel
theorem d_U_worth_42 : decode b_U_worth 42 = .ok (.goto 4, 3) := by decide +kernel
theorem d_U_worth_45 : decode b_U_worth 45 = .ok (.dload_n 3, 1) := by decide +kernel
theorem d_U_worth_46 : decode b_U_worth 46 = .ok (.dreturn, 1) := by decide +kernel
