theorem d_X_init_0 : decode b_X_init 0 = .ok (.aload_n 0, 1) := by decide +kernel
theorem d_X_init_1 : decode b_X_init 1 = .ok (.invokespecial 1, 3) := by decide +kernel
theorem d_X_init_4 : decode b_X_init 4 = .ok (.aload_n 0, 1) := by decide +kernel
theorem d_X_init_5 : decode b_X_init 5 = .ok (.bipush 8, 2) := by decide +kernel
theorem d_X_init_7 : decode b_X_init 7 = .ok (.anewarray 9, 3) := by decide +kernel
theorem d_X_init_10 : decode b_X_init 10 = .ok (.putfield 11, 3) := by decide +kernel
theorem d_X_init_13 : decode b_X_init 13 = .ok (.aload_n 0, 1) := by decide +kernel
theorem d_X_init_14 : decode b_X_init 14 = .ok (.new 9, 3) := by decide +kernel
theorem d_X_init_17 : decode b_X_init 17 = .ok (.dup, 1) := by decide +kernel
theorem d_X_init_18 : decode b_X_init 18 = .ok (.invokespecial 15, 3) := by decide +kernel
theorem d_X_init_21 : decode b_X_init 21 = .ok (.putfield 16, 3) := by decide +kernel
theorem d_X_init_24 : decode b_X_init 24 = .ok (.aload_n 0, 1) := by decide +kernel
theorem d_X_init_25 : decode b_X_init 25 = .ok (.new 20, 3) := by decide +kernel
theorem d_X_init_28 : decode b_X_init 28 = .ok (.dup, 1) := by decide +kernel
theorem d_X_init_29 : decode b_X_init 29 = .ok (.invokespecial 22, 3) := by decide +kernel
theorem d_X_init_32 : decode b_X_init 32 = .ok (.putfield 23, 3) := by decide +kernel
theorem d_X_init_35 : decode b_X_init 35 = .ok (.aload_n 0, 1) := by decide +kernel
theorem d_X_init_36 : decode b_X_init 36 = .ok (.new 27, 3) := by decide +kernel
theorem d_X_init_39 : decode b_X_init 39 = .ok (.dup, 1) := by decide +kernel
theorem d_X_init_40 : decode b_X_init 40 = .ok (.invokespecial 29, 3) := by decide +kernel
theorem d_X_init_43 : decode b_X_init 43 = .ok (.putfield 30, 3) := by decide +kernel
theorem d_X_init_46 : decode b_X_init 46 = .ok (.aload_n 0, 1) := by decide +kernel
theorem d_X_init_47 : decode b_X_init 47 = .ok (.new 34, 3) := by decide +kernel
theorem d_X_init_50 : decode b_X_init 50 = .ok (.dup, 1) := by decide +kernel
theorem d_X_init_51 : decode b_X_init 51 = .ok (.aload_n 0, 1) := by decide +kernel
theorem d_X_init_52 : decode b_X_init 52 = .ok (.getfield 23, 3) := by decide +kernel
theorem d_X_init_55 : decode b_X_init 55 = .ok (.invokespecial 36, 3) := by decide +kernel
theorem d_X_init_58 : decode b_X_init 58 = .ok (.putfield 39, 3) := by decide +kernel
theorem d_X_init_61 : decode b_X_init 61 = .ok (.aload_n 0, 1) := by decide +kernel
theorem d_X_init_62 : decode b_X_init 62 = .ok (.new 43, 3) := by decide +kernel
theorem d_X_init_65 : decode b_X_init 65 = .ok (.dup, 1) := by decide +kernel
theorem d_X_init_66 : decode b_X_init 66 = .ok (.aload_n 0, 1) := by decide +kernel
theorem d_X_init_67 : decode b_X_init 67 = .ok (.getfield 23, 3) := by decide +kernel
theorem d_X_init_70 : decode b_X_init 70 = .ok (.invokespecial 45, 3) := by decide +kernel
theorem d_X_init_73 : decode b_X_init 73 = .ok (.putfield 46, 3) := by decide +kernel
theorem d_X_init_76 : decode b_X_init 76 = .ok (.aload_n 0, 1) := by decide +kernel
theorem d_X_init_77 : decode b_X_init 77 = .ok (.new 50, 3) := by decide +kernel
theorem d_X_init_80 : decode b_X_init 80 = .ok (.dup, 1) := by decide +kernel
theorem d_X_init_81 : decode b_X_init 81 = .ok (.invokespecial 52, 3) := by decide +kernel
theorem d_X_init_84 : decode b_X_init 84 = .ok (.putfield 53, 3) := by decide +kernel
theorem d_X_init_87 : decode b_X_init 87 = .ok (.iconst 0, 1) := by decide +kernel
theorem d_X_init_88 : decode b_X_init 88 = .ok (.istore_n 1, 1) := by decide +kernel
theorem d_X_init_89 : decode b_X_init 89 = .ok (.iload_n 1, 1) := by decide +kernel
theorem d_X_init_90 : decode b_X_init 90 = .ok (.bipush 8, 2) := by decide +kernel
theorem d_X_init_92 : decode b_X_init 92 = .ok (.if_icmp .ge 22, 3) := by decide +kernel
theorem d_X_init_95 : decode b_X_init 95 = .ok (.aload_n 0, 1) := by decide +kernel
theorem d_X_init_96 : decode b_X_init 96 = .ok (.getfield 11, 3) := by decide +kernel
theorem d_X_init_99 : decode b_X_init 99 = .ok (.iload_n 1, 1) := by decide +kernel
theorem d_X_init_100 : decode b_X_init 100 = .ok (.new 9, 3) := by decide +kernel
theorem d_X_init_103 : decode b_X_init 103 = .ok (.dup, 1) := by decide +kernel
theorem d_X_init_104 : decode b_X_init 104 = .ok (.invokespecial 15, 3) := by decide +kernel
theorem d_X_init_107 : decode b_X_init 107 = .ok (.aastore, 1) := by decide +kernel
theorem d_X_init_108 : decode b_X_init 108 = .ok (.iinc 1 1, 3) := by decide +kernel
theorem d_X_init_111 : decode b_X_init 111 = .ok (.goto (-22), 3) := by decide +kernel
theorem d_X_init_114 : decode b_X_init 114 = .ok (.return_, 1) := by decide +kernel
theorem d_X_write_0 : decode b_X_write 0 = .ok (.iconst 0, 1) := by decide +kernel
theorem d_X_write_1 : decode b_X_write 1 = .ok (.istore_n 2, 1) := by decide +kernel
theorem d_X_write_2 : decode b_X_write 2 = .ok (.bipush 24, 2) := by decide +kernel
theorem d_X_write_4 : decode b_X_write 4 = .ok (.istore_n 3, 1) := by decide +kernel
theorem d_X_write_5 : decode b_X_write 5 = .ok (.iload_n 3, 1) := by decide +kernel
theorem d_X_write_6 : decode b_X_write 6 = .ok (.ifCond .lt 42, 3) := by decide +kernel
theorem d_X_write_9 : decode b_X_write 9 = .ok (.iload_n 1, 1) := by decide +kernel
theorem d_X_write_10 : decode b_X_write 10 = .ok (.iload_n 3, 1) := by decide +kernel
theorem d_X_write_11 : decode b_X_write 11 = .ok (.iushr, 1) := by decide +kernel
theorem d_X_write_12 : decode b_X_write 12 = .ok (.sipush 255, 3) := by decide +kernel
theorem d_X_write_15 : decode b_X_write 15 = .ok (.iand, 1) := by decide +kernel
theorem d_X_write_16 : decode b_X_write 16 = .ok (.istore 4, 2) := by decide +kernel
theorem d_X_write_18 : decode b_X_write 18 = .ok (.iload 4, 2) := by decide +kernel
theorem d_X_write_20 : decode b_X_write 20 = .ok (.ifCond .eq 22, 3) := by decide +kernel
theorem d_X_write_23 : decode b_X_write 23 = .ok (.iload 4, 2) := by decide +kernel
theorem d_X_write_25 : decode b_X_write 25 = .ok (.bipush 32, 2) := by decide +kernel
theorem d_X_write_27 : decode b_X_write 27 = .ok (.if_icmp .lt 10, 3) := by decide +kernel
theorem d_X_write_30 : decode b_X_write 30 = .ok (.iload 4, 2) := by decide +kernel
theorem d_X_write_32 : decode b_X_write 32 = .ok (.bipush 126, 2) := by decide +kernel
theorem d_X_write_34 : decode b_X_write 34 = .ok (.if_icmp .le 5, 3) := by decide +kernel
theorem d_X_write_37 : decode b_X_write 37 = .ok (.iconst 0, 1) := by decide +kernel
theorem d_X_write_38 : decode b_X_write 38 = .ok (.ireturn, 1) := by decide +kernel
theorem d_X_write_39 : decode b_X_write 39 = .ok (.iinc 2 1, 3) := by decide +kernel
theorem d_X_write_42 : decode b_X_write 42 = .ok (.iinc 3 (-8), 3) := by decide +kernel
theorem d_X_write_45 : decode b_X_write 45 = .ok (.goto (-40), 3) := by decide +kernel
theorem d_X_write_48 : decode b_X_write 48 = .ok (.aload_n 0, 1) := by decide +kernel
theorem d_X_write_49 : decode b_X_write 49 = .ok (.getfield 23, 3) := by decide +kernel
theorem d_X_write_52 : decode b_X_write 52 = .ok (.getfield 57, 3) := by decide +kernel
theorem d_X_write_55 : decode b_X_write 55 = .ok (.iload_n 2, 1) := by decide +kernel
theorem d_X_write_56 : decode b_X_write 56 = .ok (.iadd, 1) := by decide +kernel
theorem d_X_write_57 : decode b_X_write 57 = .ok (.bipush 40, 2) := by decide +kernel
theorem d_X_write_59 : decode b_X_write 59 = .ok (.if_icmp .le 5, 3) := by decide +kernel
theorem d_X_write_62 : decode b_X_write 62 = .ok (.iconst 0, 1) := by decide +kernel
theorem d_X_write_63 : decode b_X_write 63 = .ok (.ireturn, 1) := by decide +kernel
theorem d_X_write_64 : decode b_X_write 64 = .ok (.bipush 24, 2) := by decide +kernel
theorem d_X_write_66 : decode b_X_write 66 = .ok (.istore_n 3, 1) := by decide +kernel
theorem d_X_write_67 : decode b_X_write 67 = .ok (.iload_n 3, 1) := by decide +kernel
theorem d_X_write_68 : decode b_X_write 68 = .ok (.ifCond .lt 32, 3) := by decide +kernel
theorem d_X_write_71 : decode b_X_write 71 = .ok (.iload_n 1, 1) := by decide +kernel
theorem d_X_write_72 : decode b_X_write 72 = .ok (.iload_n 3, 1) := by decide +kernel
theorem d_X_write_73 : decode b_X_write 73 = .ok (.iushr, 1) := by decide +kernel
theorem d_X_write_74 : decode b_X_write 74 = .ok (.sipush 255, 3) := by decide +kernel
theorem d_X_write_77 : decode b_X_write 77 = .ok (.iand, 1) := by decide +kernel
theorem d_X_write_78 : decode b_X_write 78 = .ok (.istore 4, 2) := by decide +kernel
theorem d_X_write_80 : decode b_X_write 80 = .ok (.iload 4, 2) := by decide +kernel
theorem d_X_write_82 : decode b_X_write 82 = .ok (.ifCond .eq 12, 3) := by decide +kernel
theorem d_X_write_85 : decode b_X_write 85 = .ok (.aload_n 0, 1) := by decide +kernel
theorem d_X_write_86 : decode b_X_write 86 = .ok (.getfield 23, 3) := by decide +kernel
theorem d_X_write_89 : decode b_X_write 89 = .ok (.iload 4, 2) := by decide +kernel
theorem d_X_write_91 : decode b_X_write 91 = .ok (.invokevirtual 61, 3) := by decide +kernel
theorem d_X_write_94 : decode b_X_write 94 = .ok (.iinc 3 (-8), 3) := by decide +kernel
theorem d_X_write_97 : decode b_X_write 97 = .ok (.goto (-30), 3) := by decide +kernel
theorem d_X_write_100 : decode b_X_write 100 = .ok (.iconst 1, 1) := by decide +kernel
theorem d_X_write_101 : decode b_X_write 101 = .ok (.ireturn, 1) := by decide +kernel
theorem d_X_wipe_0 : decode b_X_wipe 0 = .ok (.aload_n 0, 1) := by decide +kernel
theorem d_X_wipe_1 : decode b_X_wipe 1 = .ok (.getfield 23, 3) := by decide +kernel
theorem d_X_wipe_4 : decode b_X_wipe 4 = .ok (.invokevirtual 65, 3) := by decide +kernel
theorem d_X_wipe_7 : decode b_X_wipe 7 = .ok (.return_, 1) := by decide +kernel
theorem d_X_read_0 : decode b_X_read 0 = .ok (.aload_n 0, 1) := by decide +kernel
theorem d_X_read_1 : decode b_X_read 1 = .ok (.getfield 39, 3) := by decide +kernel
theorem d_X_read_4 : decode b_X_read 4 = .ok (.aload_n 0, 1) := by decide +kernel
theorem d_X_read_5 : decode b_X_read 5 = .ok (.getfield 30, 3) := by decide +kernel
theorem d_X_read_8 : decode b_X_read 8 = .ok (.getfield 68, 3) := by decide +kernel
theorem d_X_read_11 : decode b_X_read 11 = .ok (.invokevirtual 71, 3) := by decide +kernel
theorem d_X_read_14 : decode b_X_read 14 = .ok (.istore_n 2, 1) := by decide +kernel
theorem d_X_read_15 : decode b_X_read 15 = .ok (.aload_n 0, 1) := by decide +kernel
theorem d_X_read_16 : decode b_X_read 16 = .ok (.getfield 23, 3) := by decide +kernel
theorem d_X_read_19 : decode b_X_read 19 = .ok (.invokevirtual 65, 3) := by decide +kernel
theorem d_X_read_22 : decode b_X_read 22 = .ok (.iload_n 2, 1) := by decide +kernel
theorem d_X_read_23 : decode b_X_read 23 = .ok (.ifCond .eq 10, 3) := by decide +kernel
theorem d_X_read_26 : decode b_X_read 26 = .ok (.iload_n 1, 1) := by decide +kernel
theorem d_X_read_27 : decode b_X_read 27 = .ok (.invokestatic 75, 3) := by decide +kernel
theorem d_X_read_30 : decode b_X_read 30 = .ok (.ifCond .ne 13, 3) := by decide +kernel
theorem d_X_read_33 : decode b_X_read 33 = .ok (.new 79, 3) := by decide +kernel
theorem d_X_read_36 : decode b_X_read 36 = .ok (.dup, 1) := by decide +kernel
theorem d_X_read_37 : decode b_X_read 37 = .ok (.ldc 81, 2) := by decide +kernel
theorem d_X_read_39 : decode b_X_read 39 = .ok (.invokespecial 83, 3) := by decide +kernel
theorem d_X_read_42 : decode b_X_read 42 = .ok (.athrow, 1) := by decide +kernel
theorem d_X_read_43 : decode b_X_read 43 = .ok (.aload_n 0, 1) := by decide +kernel
theorem d_X_read_44 : decode b_X_read 44 = .ok (.getfield 30, 3) := by decide +kernel
theorem d_X_read_47 : decode b_X_read 47 = .ok (.getfield 68, 3) := by decide +kernel
theorem d_X_read_50 : decode b_X_read 50 = .ok (.getfield 86, 3) := by decide +kernel
theorem d_X_read_53 : decode b_X_read 53 = .ok (.invokevirtual 90, 3) := by decide +kernel
theorem d_X_read_56 : decode b_X_read 56 = .ok (.ifCond .eq 13, 3) := by decide +kernel
theorem d_X_read_59 : decode b_X_read 59 = .ok (.new 96, 3) := by decide +kernel
theorem d_X_read_62 : decode b_X_read 62 = .ok (.dup, 1) := by decide +kernel
theorem d_X_read_63 : decode b_X_read 63 = .ok (.ldc 98, 2) := by decide +kernel
theorem d_X_read_65 : decode b_X_read 65 = .ok (.invokespecial 100, 3) := by decide +kernel
theorem d_X_read_68 : decode b_X_read 68 = .ok (.athrow, 1) := by decide +kernel
theorem d_X_read_69 : decode b_X_read 69 = .ok (.aload_n 0, 1) := by decide +kernel
theorem d_X_read_70 : decode b_X_read 70 = .ok (.getfield 30, 3) := by decide +kernel
theorem d_X_read_73 : decode b_X_read 73 = .ok (.aload_n 0, 1) := by decide +kernel
theorem d_X_read_74 : decode b_X_read 74 = .ok (.getfield 39, 3) := by decide +kernel
theorem d_X_read_77 : decode b_X_read 77 = .ok (.getfield 101, 3) := by decide +kernel
theorem d_X_read_80 : decode b_X_read 80 = .ok (.invokevirtual 104, 3) := by decide +kernel
theorem d_X_read_83 : decode b_X_read 83 = .ok (.aload_n 0, 1) := by decide +kernel
theorem d_X_read_84 : decode b_X_read 84 = .ok (.iload_n 1, 1) := by decide +kernel
theorem d_X_read_85 : decode b_X_read 85 = .ok (.invokevirtual 107, 3) := by decide +kernel
theorem d_X_read_88 : decode b_X_read 88 = .ok (.ireturn, 1) := by decide +kernel
theorem d_X_whole_0 : decode b_X_whole 0 = .ok (.iload_n 1, 1) := by decide +kernel
theorem d_X_whole_1 : decode b_X_whole 1 = .ok (.invokestatic 75, 3) := by decide +kernel
theorem d_X_whole_4 : decode b_X_whole 4 = .ok (.ifCond .ne 5, 3) := by decide +kernel
theorem d_X_whole_7 : decode b_X_whole 7 = .ok (.iconst 0, 1) := by decide +kernel
theorem d_X_whole_8 : decode b_X_whole 8 = .ok (.ireturn, 1) := by decide +kernel
theorem d_X_whole_9 : decode b_X_whole 9 = .ok (.aload_n 0, 1) := by decide +kernel
theorem d_X_whole_10 : decode b_X_whole 10 = .ok (.getfield 30, 3) := by decide +kernel
theorem d_X_whole_13 : decode b_X_whole 13 = .ok (.getfield 68, 3) := by decide +kernel
theorem d_X_whole_16 : decode b_X_whole 16 = .ok (.lload_n 2, 1) := by decide +kernel
theorem d_X_whole_17 : decode b_X_whole 17 = .ok (.invokevirtual 111, 3) := by decide +kernel
theorem d_X_whole_20 : decode b_X_whole 20 = .ok (.aload_n 0, 1) := by decide +kernel
theorem d_X_whole_21 : decode b_X_whole 21 = .ok (.iload_n 1, 1) := by decide +kernel
theorem d_X_whole_22 : decode b_X_whole 22 = .ok (.invokevirtual 107, 3) := by decide +kernel
theorem d_X_whole_25 : decode b_X_whole 25 = .ok (.pop, 1) := by decide +kernel
theorem d_X_whole_26 : decode b_X_whole 26 = .ok (.iconst 1, 1) := by decide +kernel
theorem d_X_whole_27 : decode b_X_whole 27 = .ok (.ireturn, 1) := by decide +kernel
theorem d_X_real_0 : decode b_X_real 0 = .ok (.dload_n 2, 1) := by decide +kernel
theorem d_X_real_1 : decode b_X_real 1 = .ok (.dconst 0, 1) := by decide +kernel
theorem d_X_real_2 : decode b_X_real 2 = .ok (.dcmp .g, 1) := by decide +kernel
theorem d_X_real_3 : decode b_X_real 3 = .ok (.ifCond .ge 8, 3) := by decide +kernel
theorem d_X_real_6 : decode b_X_real 6 = .ok (.dload_n 2, 1) := by decide +kernel
theorem d_X_real_7 : decode b_X_real 7 = .ok (.dneg, 1) := by decide +kernel
theorem d_X_real_8 : decode b_X_real 8 = .ok (.goto 4, 3) := by decide +kernel
theorem d_X_real_11 : decode b_X_real 11 = .ok (.dload_n 2, 1) := by decide +kernel
theorem d_X_real_12 : decode b_X_real 12 = .ok (.dstore 4, 2) := by decide +kernel
theorem d_X_real_14 : decode b_X_real 14 = .ok (.ldc2_w 115, 3) := by decide +kernel
theorem d_X_real_17 : decode b_X_real 17 = .ok (.dstore 6, 2) := by decide +kernel
theorem d_X_real_19 : decode b_X_real 19 = .ok (.dload 4, 2) := by decide +kernel
theorem d_X_real_21 : decode b_X_real 21 = .ok (.dconst 0, 1) := by decide +kernel
theorem d_X_real_22 : decode b_X_real 22 = .ok (.dcmp .l, 1) := by decide +kernel
theorem d_X_real_23 : decode b_X_real 23 = .ok (.ifCond .eq 21, 3) := by decide +kernel
theorem d_X_real_26 : decode b_X_real 26 = .ok (.dload 4, 2) := by decide +kernel
theorem d_X_real_28 : decode b_X_real 28 = .ok (.dconst 1, 1) := by decide +kernel
theorem d_X_real_29 : decode b_X_real 29 = .ok (.dload 6, 2) := by decide +kernel
theorem d_X_real_31 : decode b_X_real 31 = .ok (.ddiv, 1) := by decide +kernel
theorem d_X_real_32 : decode b_X_real 32 = .ok (.dcmp .l, 1) := by decide +kernel
theorem d_X_real_33 : decode b_X_real 33 = .ok (.ifCond .lt 15, 3) := by decide +kernel
theorem d_X_real_36 : decode b_X_real 36 = .ok (.dload 4, 2) := by decide +kernel
theorem d_X_real_38 : decode b_X_real 38 = .ok (.dload 6, 2) := by decide +kernel
theorem d_X_real_40 : decode b_X_real 40 = .ok (.dcmp .g, 1) := by decide +kernel
theorem d_X_real_41 : decode b_X_real 41 = .ok (.ifCond .ge 7, 3) := by decide +kernel
theorem d_X_real_44 : decode b_X_real 44 = .ok (.iconst 1, 1) := by decide +kernel
theorem d_X_real_45 : decode b_X_real 45 = .ok (.goto 4, 3) := by decide +kernel
theorem d_X_real_48 : decode b_X_real 48 = .ok (.iconst 0, 1) := by decide +kernel
theorem d_X_real_49 : decode b_X_real 49 = .ok (.istore 8, 2) := by decide +kernel
theorem d_X_real_51 : decode b_X_real 51 = .ok (.iload 8, 2) := by decide +kernel
theorem d_X_real_53 : decode b_X_real 53 = .ok (.ifCond .eq 10, 3) := by decide +kernel
theorem d_X_real_56 : decode b_X_real 56 = .ok (.iload_n 1, 1) := by decide +kernel
theorem d_X_real_57 : decode b_X_real 57 = .ok (.invokestatic 75, 3) := by decide +kernel
theorem d_X_real_60 : decode b_X_real 60 = .ok (.ifCond .ne 5, 3) := by decide +kernel
theorem d_X_real_63 : decode b_X_real 63 = .ok (.iconst 0, 1) := by decide +kernel
theorem d_X_real_64 : decode b_X_real 64 = .ok (.ireturn, 1) := by decide +kernel
theorem d_X_real_65 : decode b_X_real 65 = .ok (.aload_n 0, 1) := by decide +kernel
theorem d_X_real_66 : decode b_X_real 66 = .ok (.getfield 30, 3) := by decide +kernel
theorem d_X_real_69 : decode b_X_real 69 = .ok (.getfield 68, 3) := by decide +kernel
theorem d_X_real_72 : decode b_X_real 72 = .ok (.dload_n 2, 1) := by decide +kernel
theorem d_X_real_73 : decode b_X_real 73 = .ok (.dconst 0, 1) := by decide +kernel
theorem d_X_real_74 : decode b_X_real 74 = .ok (.dcmp .g, 1) := by decide +kernel
theorem d_X_real_75 : decode b_X_real 75 = .ok (.ifCond .ge 7, 3) := by decide +kernel
theorem d_X_real_78 : decode b_X_real 78 = .ok (.iconst (-1), 1) := by decide +kernel
theorem d_X_real_79 : decode b_X_real 79 = .ok (.goto 4, 3) := by decide +kernel
theorem d_X_real_82 : decode b_X_real 82 = .ok (.iconst 1, 1) := by decide +kernel
theorem d_X_real_83 : decode b_X_real 83 = .ok (.dload 4, 2) := by decide +kernel
theorem d_X_real_85 : decode b_X_real 85 = .ok (.invokevirtual 117, 3) := by decide +kernel
theorem d_X_real_88 : decode b_X_real 88 = .ok (.aload_n 0, 1) := by decide +kernel
theorem d_X_real_89 : decode b_X_real 89 = .ok (.iload_n 1, 1) := by decide +kernel
theorem d_X_real_90 : decode b_X_real 90 = .ok (.invokevirtual 107, 3) := by decide +kernel
theorem d_X_real_93 : decode b_X_real 93 = .ok (.pop, 1) := by decide +kernel
theorem d_X_real_94 : decode b_X_real 94 = .ok (.iconst 1, 1) := by decide +kernel
theorem d_X_real_95 : decode b_X_real 95 = .ok (.ireturn, 1) := by decide +kernel
theorem d_X_combine_0 : decode b_X_combine 0 = .ok (.aload_n 0, 1) := by decide +kernel
theorem d_X_combine_1 : decode b_X_combine 1 = .ok (.iload_n 2, 1) := by decide +kernel
theorem d_X_combine_2 : decode b_X_combine 2 = .ok (.invokevirtual 121, 3) := by decide +kernel
theorem d_X_combine_5 : decode b_X_combine 5 = .ok (.astore 5, 2) := by decide +kernel
theorem d_X_combine_7 : decode b_X_combine 7 = .ok (.aload_n 0, 1) := by decide +kernel
theorem d_X_combine_8 : decode b_X_combine 8 = .ok (.iload_n 3, 1) := by decide +kernel
theorem d_X_combine_9 : decode b_X_combine 9 = .ok (.invokevirtual 121, 3) := by decide +kernel
theorem d_X_combine_12 : decode b_X_combine 12 = .ok (.astore 6, 2) := by decide +kernel
theorem d_X_combine_14 : decode b_X_combine 14 = .ok (.iload 4, 2) := by decide +kernel
theorem d_X_combine_16 : decode b_X_combine 16 = .ok (.invokestatic 75, 3) := by decide +kernel
theorem d_X_combine_19 : decode b_X_combine 19 = .ok (.ifCond .eq 30, 3) := by decide +kernel
theorem d_X_combine_22 : decode b_X_combine 22 = .ok (.aload 5, 2) := by decide +kernel
theorem d_X_combine_24 : decode b_X_combine 24 = .ok (.invokevirtual 125, 3) := by decide +kernel
theorem d_X_combine_27 : decode b_X_combine 27 = .ok (.ifCond .eq 22, 3) := by decide +kernel
theorem d_X_combine_30 : decode b_X_combine 30 = .ok (.aload 6, 2) := by decide +kernel
theorem d_X_combine_32 : decode b_X_combine 32 = .ok (.invokevirtual 125, 3) := by decide +kernel
theorem d_X_combine_35 : decode b_X_combine 35 = .ok (.ifCond .eq 14, 3) := by decide +kernel
theorem d_X_combine_38 : decode b_X_combine 38 = .ok (.iload_n 1, 1) := by decide +kernel
theorem d_X_combine_39 : decode b_X_combine 39 = .ok (.aload 5, 2) := by decide +kernel
theorem d_X_combine_41 : decode b_X_combine 41 = .ok (.aload 6, 2) := by decide +kernel
theorem d_X_combine_43 : decode b_X_combine 43 = .ok (.invokestatic 128, 3) := by decide +kernel
theorem d_X_combine_46 : decode b_X_combine 46 = .ok (.ifCond .ne 13, 3) := by decide +kernel
theorem d_X_combine_49 : decode b_X_combine 49 = .ok (.new 79, 3) := by decide +kernel
theorem d_X_combine_52 : decode b_X_combine 52 = .ok (.dup, 1) := by decide +kernel
theorem d_X_combine_53 : decode b_X_combine 53 = .ok (.ldc 132, 2) := by decide +kernel
theorem d_X_combine_55 : decode b_X_combine 55 = .ok (.invokespecial 83, 3) := by decide +kernel
theorem d_X_combine_58 : decode b_X_combine 58 = .ok (.athrow, 1) := by decide +kernel
theorem d_X_combine_59 : decode b_X_combine 59 = .ok (.iload_n 1, 1) := by decide +kernel
theorem d_X_combine_60 : decode b_X_combine 60 = .ok (.iconst 3, 1) := by decide +kernel
theorem d_X_combine_61 : decode b_X_combine 61 = .ok (.if_icmp .lt 26, 3) := by decide +kernel
theorem d_X_combine_64 : decode b_X_combine 64 = .ok (.iload_n 1, 1) := by decide +kernel
theorem d_X_combine_65 : decode b_X_combine 65 = .ok (.iconst 5, 1) := by decide +kernel
theorem d_X_combine_66 : decode b_X_combine 66 = .ok (.if_icmp .gt 21, 3) := by decide +kernel
theorem d_X_combine_69 : decode b_X_combine 69 = .ok (.aload 6, 2) := by decide +kernel
theorem d_X_combine_71 : decode b_X_combine 71 = .ok (.getfield 134, 3) := by decide +kernel
theorem d_X_combine_74 : decode b_X_combine 74 = .ok (.ifCond .ne 13, 3) := by decide +kernel
theorem d_X_combine_77 : decode b_X_combine 77 = .ok (.new 96, 3) := by decide +kernel
theorem d_X_combine_80 : decode b_X_combine 80 = .ok (.dup, 1) := by decide +kernel
theorem d_X_combine_81 : decode b_X_combine 81 = .ok (.ldc 137, 2) := by decide +kernel
theorem d_X_combine_83 : decode b_X_combine 83 = .ok (.invokespecial 100, 3) := by decide +kernel
theorem d_X_combine_86 : decode b_X_combine 86 = .ok (.athrow, 1) := by decide +kernel
theorem d_X_combine_87 : decode b_X_combine 87 = .ok (.iload_n 1, 1) := by decide +kernel
theorem d_X_combine_88 : decode b_X_combine 88 = .ok (.bipush 6, 2) := by decide +kernel
theorem d_X_combine_90 : decode b_X_combine 90 = .ok (.if_icmp .ne 20, 3) := by decide +kernel
theorem d_X_combine_93 : decode b_X_combine 93 = .ok (.aload_n 0, 1) := by decide +kernel
theorem d_X_combine_94 : decode b_X_combine 94 = .ok (.getfield 30, 3) := by decide +kernel
theorem d_X_combine_97 : decode b_X_combine 97 = .ok (.aload 5, 2) := by decide +kernel
theorem d_X_combine_99 : decode b_X_combine 99 = .ok (.aload 6, 2) := by decide +kernel
theorem d_X_combine_101 : decode b_X_combine 101 = .ok (.invokevirtual 139, 3) := by decide +kernel
theorem d_X_combine_104 : decode b_X_combine 104 = .ok (.invokevirtual 143, 3) := by decide +kernel
theorem d_X_combine_107 : decode b_X_combine 107 = .ok (.goto 59, 3) := by decide +kernel
theorem d_X_combine_110 : decode b_X_combine 110 = .ok (.iload_n 1, 1) := by decide +kernel
theorem d_X_combine_111 : decode b_X_combine 111 = .ok (.bipush 10, 2) := by decide +kernel
theorem d_X_combine_113 : decode b_X_combine 113 = .ok (.if_icmp .ne 20, 3) := by decide +kernel
theorem d_X_combine_116 : decode b_X_combine 116 = .ok (.aload_n 0, 1) := by decide +kernel
theorem d_X_combine_117 : decode b_X_combine 117 = .ok (.getfield 30, 3) := by decide +kernel
theorem d_X_combine_120 : decode b_X_combine 120 = .ok (.aload 5, 2) := by decide +kernel
theorem d_X_combine_122 : decode b_X_combine 122 = .ok (.aload 6, 2) := by decide +kernel
theorem d_X_combine_124 : decode b_X_combine 124 = .ok (.invokevirtual 139, 3) := by decide +kernel
theorem d_X_combine_127 : decode b_X_combine 127 = .ok (.invokevirtual 147, 3) := by decide +kernel
theorem d_X_combine_130 : decode b_X_combine 130 = .ok (.goto 36, 3) := by decide +kernel
theorem d_X_combine_133 : decode b_X_combine 133 = .ok (.iload_n 1, 1) := by decide +kernel
theorem d_X_combine_134 : decode b_X_combine 134 = .ok (.bipush 7, 2) := by decide +kernel
theorem d_X_combine_136 : decode b_X_combine 136 = .ok (.if_icmp .lt 18, 3) := by decide +kernel
theorem d_X_combine_139 : decode b_X_combine 139 = .ok (.aload_n 0, 1) := by decide +kernel
theorem d_X_combine_140 : decode b_X_combine 140 = .ok (.getfield 30, 3) := by decide +kernel
theorem d_X_combine_143 : decode b_X_combine 143 = .ok (.iload_n 1, 1) := by decide +kernel
theorem d_X_combine_144 : decode b_X_combine 144 = .ok (.aload 5, 2) := by decide +kernel
theorem d_X_combine_146 : decode b_X_combine 146 = .ok (.aload 6, 2) := by decide +kernel
theorem d_X_combine_148 : decode b_X_combine 148 = .ok (.invokevirtual 150, 3) := by decide +kernel
theorem d_X_combine_151 : decode b_X_combine 151 = .ok (.goto 15, 3) := by decide +kernel
theorem d_X_combine_154 : decode b_X_combine 154 = .ok (.aload_n 0, 1) := by decide +kernel
theorem d_X_combine_155 : decode b_X_combine 155 = .ok (.getfield 30, 3) := by decide +kernel
theorem d_X_combine_158 : decode b_X_combine 158 = .ok (.iload_n 1, 1) := by decide +kernel
theorem d_X_combine_159 : decode b_X_combine 159 = .ok (.aload 5, 2) := by decide +kernel
theorem d_X_combine_161 : decode b_X_combine 161 = .ok (.aload 6, 2) := by decide +kernel
theorem d_X_combine_163 : decode b_X_combine 163 = .ok (.invokevirtual 154, 3) := by decide +kernel
theorem d_X_combine_166 : decode b_X_combine 166 = .ok (.aload_n 0, 1) := by decide +kernel
theorem d_X_combine_167 : decode b_X_combine 167 = .ok (.iload 4, 2) := by decide +kernel
theorem d_X_combine_169 : decode b_X_combine 169 = .ok (.invokevirtual 107, 3) := by decide +kernel
theorem d_X_combine_172 : decode b_X_combine 172 = .ok (.ireturn, 1) := by decide +kernel
theorem d_X_power_0 : decode b_X_power 0 = .ok (.aload_n 0, 1) := by decide +kernel
theorem d_X_power_1 : decode b_X_power 1 = .ok (.iload_n 1, 1) := by decide +kernel
theorem d_X_power_2 : decode b_X_power 2 = .ok (.invokevirtual 121, 3) := by decide +kernel
theorem d_X_power_5 : decode b_X_power 5 = .ok (.astore 5, 2) := by decide +kernel
theorem d_X_power_7 : decode b_X_power 7 = .ok (.aload_n 0, 1) := by decide +kernel
theorem d_X_power_8 : decode b_X_power 8 = .ok (.iload_n 2, 1) := by decide +kernel
theorem d_X_power_9 : decode b_X_power 9 = .ok (.invokevirtual 121, 3) := by decide +kernel
theorem d_X_power_12 : decode b_X_power 12 = .ok (.astore 6, 2) := by decide +kernel
theorem d_X_power_14 : decode b_X_power 14 = .ok (.aload_n 0, 1) := by decide +kernel
theorem d_X_power_15 : decode b_X_power 15 = .ok (.iload_n 3, 1) := by decide +kernel
theorem d_X_power_16 : decode b_X_power 16 = .ok (.invokevirtual 121, 3) := by decide +kernel
theorem d_X_power_19 : decode b_X_power 19 = .ok (.astore 7, 2) := by decide +kernel
theorem d_X_power_21 : decode b_X_power 21 = .ok (.aload 5, 2) := by decide +kernel
theorem d_X_power_23 : decode b_X_power 23 = .ok (.getfield 157, 3) := by decide +kernel
theorem d_X_power_26 : decode b_X_power 26 = .ok (.ifCond .ne 15, 3) := by decide +kernel
theorem d_X_power_29 : decode b_X_power 29 = .ok (.aload 7, 2) := by decide +kernel
theorem d_X_power_31 : decode b_X_power 31 = .ok (.getfield 157, 3) := by decide +kernel
theorem d_X_power_34 : decode b_X_power 34 = .ok (.ifCond .ne 7, 3) := by decide +kernel
theorem d_X_power_37 : decode b_X_power 37 = .ok (.iconst 1, 1) := by decide +kernel
theorem d_X_power_38 : decode b_X_power 38 = .ok (.goto 4, 3) := by decide +kernel
theorem d_X_power_41 : decode b_X_power 41 = .ok (.iconst 0, 1) := by decide +kernel
theorem d_X_power_42 : decode b_X_power 42 = .ok (.istore 8, 2) := by decide +kernel
theorem d_X_power_44 : decode b_X_power 44 = .ok (.iload 4, 2) := by decide +kernel
theorem d_X_power_46 : decode b_X_power 46 = .ok (.invokestatic 75, 3) := by decide +kernel
theorem d_X_power_49 : decode b_X_power 49 = .ok (.ifCond .eq 30, 3) := by decide +kernel
theorem d_X_power_52 : decode b_X_power 52 = .ok (.iload 8, 2) := by decide +kernel
theorem d_X_power_54 : decode b_X_power 54 = .ok (.ifCond .eq 25, 3) := by decide +kernel
theorem d_X_power_57 : decode b_X_power 57 = .ok (.aload 7, 2) := by decide +kernel
theorem d_X_power_59 : decode b_X_power 59 = .ok (.getfield 134, 3) := by decide +kernel
theorem d_X_power_62 : decode b_X_power 62 = .ok (.ifCond .le 17, 3) := by decide +kernel
theorem d_X_power_65 : decode b_X_power 65 = .ok (.aload 6, 2) := by decide +kernel
theorem d_X_power_67 : decode b_X_power 67 = .ok (.sipush (-999), 3) := by decide +kernel
theorem d_X_power_70 : decode b_X_power 70 = .ok (.sipush 999, 3) := by decide +kernel
theorem d_X_power_73 : decode b_X_power 73 = .ok (.invokevirtual 160, 3) := by decide +kernel
theorem d_X_power_76 : decode b_X_power 76 = .ok (.ifCond .ne 13, 3) := by decide +kernel
theorem d_X_power_79 : decode b_X_power 79 = .ok (.new 79, 3) := by decide +kernel
theorem d_X_power_82 : decode b_X_power 82 = .ok (.dup, 1) := by decide +kernel
theorem d_X_power_83 : decode b_X_power 83 = .ok (.ldc 164, 2) := by decide +kernel
theorem d_X_power_85 : decode b_X_power 85 = .ok (.invokespecial 83, 3) := by decide +kernel
theorem d_X_power_88 : decode b_X_power 88 = .ok (.athrow, 1) := by decide +kernel
theorem d_X_power_89 : decode b_X_power 89 = .ok (.aload_n 0, 1) := by decide +kernel
theorem d_X_power_90 : decode b_X_power 90 = .ok (.getfield 30, 3) := by decide +kernel
theorem d_X_power_93 : decode b_X_power 93 = .ok (.aload 5, 2) := by decide +kernel
theorem d_X_power_95 : decode b_X_power 95 = .ok (.aload 6, 2) := by decide +kernel
theorem d_X_power_97 : decode b_X_power 97 = .ok (.invokevirtual 139, 3) := by decide +kernel
theorem d_X_power_100 : decode b_X_power 100 = .ok (.aload 7, 2) := by decide +kernel
theorem d_X_power_102 : decode b_X_power 102 = .ok (.getfield 166, 3) := by decide +kernel
theorem d_X_power_105 : decode b_X_power 105 = .ok (.invokevirtual 169, 3) := by decide +kernel
theorem d_X_power_108 : decode b_X_power 108 = .ok (.ifCond .ne 13, 3) := by decide +kernel
theorem d_X_power_111 : decode b_X_power 111 = .ok (.new 96, 3) := by decide +kernel
theorem d_X_power_114 : decode b_X_power 114 = .ok (.dup, 1) := by decide +kernel
theorem d_X_power_115 : decode b_X_power 115 = .ok (.ldc 173, 2) := by decide +kernel
theorem d_X_power_117 : decode b_X_power 117 = .ok (.invokespecial 100, 3) := by decide +kernel
theorem d_X_power_120 : decode b_X_power 120 = .ok (.athrow, 1) := by decide +kernel
theorem d_X_power_121 : decode b_X_power 121 = .ok (.aload_n 0, 1) := by decide +kernel
theorem d_X_power_122 : decode b_X_power 122 = .ok (.iload 4, 2) := by decide +kernel
theorem d_X_power_124 : decode b_X_power 124 = .ok (.invokevirtual 107, 3) := by decide +kernel
theorem d_X_power_127 : decode b_X_power 127 = .ok (.ireturn, 1) := by decide +kernel
theorem d_X_turn_0 : decode b_X_turn 0 = .ok (.aload_n 0, 1) := by decide +kernel
theorem d_X_turn_1 : decode b_X_turn 1 = .ok (.iload_n 2, 1) := by decide +kernel
theorem d_X_turn_2 : decode b_X_turn 2 = .ok (.invokevirtual 121, 3) := by decide +kernel
theorem d_X_turn_5 : decode b_X_turn 5 = .ok (.astore 4, 2) := by decide +kernel
theorem d_X_turn_7 : decode b_X_turn 7 = .ok (.iload_n 1, 1) := by decide +kernel
theorem d_X_turn_8 : decode b_X_turn 8 = .ok (.ifCond .lt 23, 3) := by decide +kernel
theorem d_X_turn_11 : decode b_X_turn 11 = .ok (.iload_n 1, 1) := by decide +kernel
theorem d_X_turn_12 : decode b_X_turn 12 = .ok (.iconst 4, 1) := by decide +kernel
theorem d_X_turn_13 : decode b_X_turn 13 = .ok (.if_icmp .gt 18, 3) := by decide +kernel
theorem d_X_turn_16 : decode b_X_turn 16 = .ok (.iload_n 3, 1) := by decide +kernel
theorem d_X_turn_17 : decode b_X_turn 17 = .ok (.invokestatic 75, 3) := by decide +kernel
theorem d_X_turn_20 : decode b_X_turn 20 = .ok (.ifCond .eq 11, 3) := by decide +kernel
theorem d_X_turn_23 : decode b_X_turn 23 = .ok (.aload 4, 2) := by decide +kernel
theorem d_X_turn_25 : decode b_X_turn 25 = .ok (.invokevirtual 125, 3) := by decide +kernel
theorem d_X_turn_28 : decode b_X_turn 28 = .ok (.ifCond .ne 13, 3) := by decide +kernel
theorem d_X_turn_31 : decode b_X_turn 31 = .ok (.new 79, 3) := by decide +kernel
theorem d_X_turn_34 : decode b_X_turn 34 = .ok (.dup, 1) := by decide +kernel
theorem d_X_turn_35 : decode b_X_turn 35 = .ok (.ldc 175, 2) := by decide +kernel
theorem d_X_turn_37 : decode b_X_turn 37 = .ok (.invokespecial 83, 3) := by decide +kernel
theorem d_X_turn_40 : decode b_X_turn 40 = .ok (.athrow, 1) := by decide +kernel
theorem d_X_turn_41 : decode b_X_turn 41 = .ok (.aload_n 0, 1) := by decide +kernel
theorem d_X_turn_42 : decode b_X_turn 42 = .ok (.getfield 30, 3) := by decide +kernel
theorem d_X_turn_45 : decode b_X_turn 45 = .ok (.iload_n 1, 1) := by decide +kernel
theorem d_X_turn_46 : decode b_X_turn 46 = .ok (.aload 4, 2) := by decide +kernel
theorem d_X_turn_48 : decode b_X_turn 48 = .ok (.invokevirtual 177, 3) := by decide +kernel
theorem d_X_turn_51 : decode b_X_turn 51 = .ok (.aload_n 0, 1) := by decide +kernel
theorem d_X_turn_52 : decode b_X_turn 52 = .ok (.iload_n 3, 1) := by decide +kernel
theorem d_X_turn_53 : decode b_X_turn 53 = .ok (.invokevirtual 107, 3) := by decide +kernel
theorem d_X_turn_56 : decode b_X_turn 56 = .ok (.ireturn, 1) := by decide +kernel
theorem d_X_round_0 : decode b_X_round 0 = .ok (.aload_n 0, 1) := by decide +kernel
theorem d_X_round_1 : decode b_X_round 1 = .ok (.iload_n 1, 1) := by decide +kernel
theorem d_X_round_2 : decode b_X_round 2 = .ok (.invokevirtual 121, 3) := by decide +kernel
theorem d_X_round_5 : decode b_X_round 5 = .ok (.astore 4, 2) := by decide +kernel
theorem d_X_round_7 : decode b_X_round 7 = .ok (.iload_n 2, 1) := by decide +kernel
theorem d_X_round_8 : decode b_X_round 8 = .ok (.bipush (-20), 2) := by decide +kernel
theorem d_X_round_10 : decode b_X_round 10 = .ok (.if_icmp .lt 24, 3) := by decide +kernel
theorem d_X_round_13 : decode b_X_round 13 = .ok (.iload_n 2, 1) := by decide +kernel
theorem d_X_round_14 : decode b_X_round 14 = .ok (.bipush 20, 2) := by decide +kernel
theorem d_X_round_16 : decode b_X_round 16 = .ok (.if_icmp .gt 18, 3) := by decide +kernel
theorem d_X_round_19 : decode b_X_round 19 = .ok (.iload_n 3, 1) := by decide +kernel
theorem d_X_round_20 : decode b_X_round 20 = .ok (.invokestatic 75, 3) := by decide +kernel
theorem d_X_round_23 : decode b_X_round 23 = .ok (.ifCond .eq 11, 3) := by decide +kernel
theorem d_X_round_26 : decode b_X_round 26 = .ok (.aload 4, 2) := by decide +kernel
theorem d_X_round_28 : decode b_X_round 28 = .ok (.invokevirtual 125, 3) := by decide +kernel
theorem d_X_round_31 : decode b_X_round 31 = .ok (.ifCond .ne 13, 3) := by decide +kernel
theorem d_X_round_34 : decode b_X_round 34 = .ok (.new 79, 3) := by decide +kernel
theorem d_X_round_37 : decode b_X_round 37 = .ok (.dup, 1) := by decide +kernel
theorem d_X_round_38 : decode b_X_round 38 = .ok (.ldc 181, 2) := by decide +kernel
theorem d_X_round_40 : decode b_X_round 40 = .ok (.invokespecial 83, 3) := by decide +kernel
theorem d_X_round_43 : decode b_X_round 43 = .ok (.athrow, 1) := by decide +kernel
theorem d_X_round_44 : decode b_X_round 44 = .ok (.aload_n 0, 1) := by decide +kernel
theorem d_X_round_45 : decode b_X_round 45 = .ok (.getfield 30, 3) := by decide +kernel
theorem d_X_round_48 : decode b_X_round 48 = .ok (.aload 4, 2) := by decide +kernel
theorem d_X_round_50 : decode b_X_round 50 = .ok (.iload_n 2, 1) := by decide +kernel
theorem d_X_round_51 : decode b_X_round 51 = .ok (.invokevirtual 183, 3) := by decide +kernel
theorem d_X_round_54 : decode b_X_round 54 = .ok (.aload_n 0, 1) := by decide +kernel
theorem d_X_round_55 : decode b_X_round 55 = .ok (.iload_n 3, 1) := by decide +kernel
theorem d_X_round_56 : decode b_X_round 56 = .ok (.invokevirtual 107, 3) := by decide +kernel
theorem d_X_round_59 : decode b_X_round 59 = .ok (.ireturn, 1) := by decide +kernel
theorem d_X_sum_0 : decode b_X_sum 0 = .ok (.iload_n 1, 1) := by decide +kernel
theorem d_X_sum_1 : decode b_X_sum 1 = .ok (.ifCond .lt 25, 3) := by decide +kernel
theorem d_X_sum_4 : decode b_X_sum 4 = .ok (.iload_n 1, 1) := by decide +kernel
theorem d_X_sum_5 : decode b_X_sum 5 = .ok (.sipush 255, 3) := by decide +kernel
theorem d_X_sum_8 : decode b_X_sum 8 = .ok (.if_icmp .gt 18, 3) := by decide +kernel
theorem d_X_sum_11 : decode b_X_sum 11 = .ok (.iload_n 2, 1) := by decide +kernel
theorem d_X_sum_12 : decode b_X_sum 12 = .ok (.invokestatic 75, 3) := by decide +kernel
theorem d_X_sum_15 : decode b_X_sum 15 = .ok (.ifCond .eq 11, 3) := by decide +kernel
theorem d_X_sum_18 : decode b_X_sum 18 = .ok (.aload_n 0, 1) := by decide +kernel
theorem d_X_sum_19 : decode b_X_sum 19 = .ok (.iload_n 1, 1) := by decide +kernel
theorem d_X_sum_20 : decode b_X_sum 20 = .ok (.invokevirtual 186, 3) := by decide +kernel
theorem d_X_sum_23 : decode b_X_sum 23 = .ok (.ifCond .eq 13, 3) := by decide +kernel
theorem d_X_sum_26 : decode b_X_sum 26 = .ok (.new 79, 3) := by decide +kernel
theorem d_X_sum_29 : decode b_X_sum 29 = .ok (.dup, 1) := by decide +kernel
theorem d_X_sum_30 : decode b_X_sum 30 = .ok (.ldc 189, 2) := by decide +kernel
theorem d_X_sum_32 : decode b_X_sum 32 = .ok (.invokespecial 83, 3) := by decide +kernel
theorem d_X_sum_35 : decode b_X_sum 35 = .ok (.athrow, 1) := by decide +kernel
theorem d_X_sum_36 : decode b_X_sum 36 = .ok (.aload_n 0, 1) := by decide +kernel
theorem d_X_sum_37 : decode b_X_sum 37 = .ok (.getfield 30, 3) := by decide +kernel
theorem d_X_sum_40 : decode b_X_sum 40 = .ok (.invokevirtual 191, 3) := by decide +kernel
theorem d_X_sum_43 : decode b_X_sum 43 = .ok (.iconst 0, 1) := by decide +kernel
theorem d_X_sum_44 : decode b_X_sum 44 = .ok (.istore_n 3, 1) := by decide +kernel
theorem d_X_sum_45 : decode b_X_sum 45 = .ok (.iload_n 3, 1) := by decide +kernel
theorem d_X_sum_46 : decode b_X_sum 46 = .ok (.bipush 8, 2) := by decide +kernel
theorem d_X_sum_48 : decode b_X_sum 48 = .ok (.if_icmp .ge 42, 3) := by decide +kernel
theorem d_X_sum_51 : decode b_X_sum 51 = .ok (.iload_n 1, 1) := by decide +kernel
theorem d_X_sum_52 : decode b_X_sum 52 = .ok (.iload_n 3, 1) := by decide +kernel
theorem d_X_sum_53 : decode b_X_sum 53 = .ok (.ishr, 1) := by decide +kernel
theorem d_X_sum_54 : decode b_X_sum 54 = .ok (.iconst 1, 1) := by decide +kernel
theorem d_X_sum_55 : decode b_X_sum 55 = .ok (.iand, 1) := by decide +kernel
theorem d_X_sum_56 : decode b_X_sum 56 = .ok (.ifCond .eq 28, 3) := by decide +kernel
theorem d_X_sum_59 : decode b_X_sum 59 = .ok (.aload_n 0, 1) := by decide +kernel
theorem d_X_sum_60 : decode b_X_sum 60 = .ok (.getfield 11, 3) := by decide +kernel
theorem d_X_sum_63 : decode b_X_sum 63 = .ok (.iload_n 3, 1) := by decide +kernel
theorem d_X_sum_64 : decode b_X_sum 64 = .ok (.aaload, 1) := by decide +kernel
theorem d_X_sum_65 : decode b_X_sum 65 = .ok (.invokevirtual 125, 3) := by decide +kernel
theorem d_X_sum_68 : decode b_X_sum 68 = .ok (.ifCond .eq 16, 3) := by decide +kernel
theorem d_X_sum_71 : decode b_X_sum 71 = .ok (.aload_n 0, 1) := by decide +kernel
theorem d_X_sum_72 : decode b_X_sum 72 = .ok (.getfield 30, 3) := by decide +kernel
theorem d_X_sum_75 : decode b_X_sum 75 = .ok (.aload_n 0, 1) := by decide +kernel
theorem d_X_sum_76 : decode b_X_sum 76 = .ok (.getfield 11, 3) := by decide +kernel
theorem d_X_sum_79 : decode b_X_sum 79 = .ok (.iload_n 3, 1) := by decide +kernel
theorem d_X_sum_80 : decode b_X_sum 80 = .ok (.aaload, 1) := by decide +kernel
theorem d_X_sum_81 : decode b_X_sum 81 = .ok (.invokevirtual 194, 3) := by decide +kernel
theorem d_X_sum_84 : decode b_X_sum 84 = .ok (.iinc 3 1, 3) := by decide +kernel
theorem d_X_sum_87 : decode b_X_sum 87 = .ok (.goto (-42), 3) := by decide +kernel
theorem d_X_sum_90 : decode b_X_sum 90 = .ok (.aload_n 0, 1) := by decide +kernel
theorem d_X_sum_91 : decode b_X_sum 91 = .ok (.getfield 30, 3) := by decide +kernel
theorem d_X_sum_94 : decode b_X_sum 94 = .ok (.invokevirtual 198, 3) := by decide +kernel
theorem d_X_sum_97 : decode b_X_sum 97 = .ok (.aload_n 0, 1) := by decide +kernel
theorem d_X_sum_98 : decode b_X_sum 98 = .ok (.iload_n 2, 1) := by decide +kernel
theorem d_X_sum_99 : decode b_X_sum 99 = .ok (.invokevirtual 107, 3) := by decide +kernel
theorem d_X_sum_102 : decode b_X_sum 102 = .ok (.ireturn, 1) := by decide +kernel
theorem d_X_compare_0 : decode b_X_compare 0 = .ok (.aload_n 0, 1) := by decide +kernel
theorem d_X_compare_1 : decode b_X_compare 1 = .ok (.iload_n 1, 1) := by decide +kernel
theorem d_X_compare_2 : decode b_X_compare 2 = .ok (.invokevirtual 121, 3) := by decide +kernel
theorem d_X_compare_5 : decode b_X_compare 5 = .ok (.astore_n 3, 1) := by decide +kernel
theorem d_X_compare_6 : decode b_X_compare 6 = .ok (.aload_n 0, 1) := by decide +kernel
theorem d_X_compare_7 : decode b_X_compare 7 = .ok (.iload_n 2, 1) := by decide +kernel
theorem d_X_compare_8 : decode b_X_compare 8 = .ok (.invokevirtual 121, 3) := by decide +kernel
theorem d_X_compare_11 : decode b_X_compare 11 = .ok (.astore 4, 2) := by decide +kernel
theorem d_X_compare_13 : decode b_X_compare 13 = .ok (.aload_n 3, 1) := by decide +kernel
theorem d_X_compare_14 : decode b_X_compare 14 = .ok (.invokevirtual 125, 3) := by decide +kernel
theorem d_X_compare_17 : decode b_X_compare 17 = .ok (.ifCond .eq 11, 3) := by decide +kernel
theorem d_X_compare_20 : decode b_X_compare 20 = .ok (.aload 4, 2) := by decide +kernel
theorem d_X_compare_22 : decode b_X_compare 22 = .ok (.invokevirtual 125, 3) := by decide +kernel
theorem d_X_compare_25 : decode b_X_compare 25 = .ok (.ifCond .ne 5, 3) := by decide +kernel
theorem d_X_compare_28 : decode b_X_compare 28 = .ok (.iconst 2, 1) := by decide +kernel
theorem d_X_compare_29 : decode b_X_compare 29 = .ok (.ireturn, 1) := by decide +kernel
theorem d_X_compare_30 : decode b_X_compare 30 = .ok (.aload_n 0, 1) := by decide +kernel
theorem d_X_compare_31 : decode b_X_compare 31 = .ok (.getfield 30, 3) := by decide +kernel
theorem d_X_compare_34 : decode b_X_compare 34 = .ok (.aload_n 3, 1) := by decide +kernel
theorem d_X_compare_35 : decode b_X_compare 35 = .ok (.aload 4, 2) := by decide +kernel
theorem d_X_compare_37 : decode b_X_compare 37 = .ok (.invokevirtual 201, 3) := by decide +kernel
theorem d_X_compare_40 : decode b_X_compare 40 = .ok (.ireturn, 1) := by decide +kernel
theorem d_X_hash_0 : decode b_X_hash 0 = .ok (.aload_n 0, 1) := by decide +kernel
theorem d_X_hash_1 : decode b_X_hash 1 = .ok (.iload_n 1, 1) := by decide +kernel
theorem d_X_hash_2 : decode b_X_hash 2 = .ok (.invokevirtual 121, 3) := by decide +kernel
theorem d_X_hash_5 : decode b_X_hash 5 = .ok (.astore_n 2, 1) := by decide +kernel
theorem d_X_hash_6 : decode b_X_hash 6 = .ok (.aload_n 2, 1) := by decide +kernel
theorem d_X_hash_7 : decode b_X_hash 7 = .ok (.invokevirtual 125, 3) := by decide +kernel
theorem d_X_hash_10 : decode b_X_hash 10 = .ok (.ifCond .eq 14, 3) := by decide +kernel
theorem d_X_hash_13 : decode b_X_hash 13 = .ok (.aload_n 0, 1) := by decide +kernel
theorem d_X_hash_14 : decode b_X_hash 14 = .ok (.getfield 30, 3) := by decide +kernel
theorem d_X_hash_17 : decode b_X_hash 17 = .ok (.aload_n 2, 1) := by decide +kernel
theorem d_X_hash_18 : decode b_X_hash 18 = .ok (.invokevirtual 205, 3) := by decide +kernel
theorem d_X_hash_21 : decode b_X_hash 21 = .ok (.goto 4, 3) := by decide +kernel
theorem d_X_hash_24 : decode b_X_hash 24 = .ok (.lconst 0, 1) := by decide +kernel
theorem d_X_hash_25 : decode b_X_hash 25 = .ok (.lreturn, 1) := by decide +kernel
theorem d_X_show_0 : decode b_X_show 0 = .ok (.aload_n 0, 1) := by decide +kernel
theorem d_X_show_1 : decode b_X_show 1 = .ok (.iload_n 1, 1) := by decide +kernel
theorem d_X_show_2 : decode b_X_show 2 = .ok (.invokevirtual 121, 3) := by decide +kernel
theorem d_X_show_5 : decode b_X_show 5 = .ok (.astore_n 2, 1) := by decide +kernel
theorem d_X_show_6 : decode b_X_show 6 = .ok (.aload_n 2, 1) := by decide +kernel
theorem d_X_show_7 : decode b_X_show 7 = .ok (.invokevirtual 125, 3) := by decide +kernel
theorem d_X_show_10 : decode b_X_show 10 = .ok (.ifCond .ne 13, 3) := by decide +kernel
theorem d_X_show_13 : decode b_X_show 13 = .ok (.new 79, 3) := by decide +kernel
theorem d_X_show_16 : decode b_X_show 16 = .ok (.dup, 1) := by decide +kernel
theorem d_X_show_17 : decode b_X_show 17 = .ok (.ldc 209, 2) := by decide +kernel
theorem d_X_show_19 : decode b_X_show 19 = .ok (.invokespecial 83, 3) := by decide +kernel
theorem d_X_show_22 : decode b_X_show 22 = .ok (.athrow, 1) := by decide +kernel
theorem d_X_show_23 : decode b_X_show 23 = .ok (.aload_n 0, 1) := by decide +kernel
theorem d_X_show_24 : decode b_X_show 24 = .ok (.getfield 53, 3) := by decide +kernel
theorem d_X_show_27 : decode b_X_show 27 = .ok (.aload_n 2, 1) := by decide +kernel
theorem d_X_show_28 : decode b_X_show 28 = .ok (.invokevirtual 211, 3) := by decide +kernel
theorem d_X_show_31 : decode b_X_show 31 = .ok (.aload_n 0, 1) := by decide +kernel
theorem d_X_show_32 : decode b_X_show 32 = .ok (.getfield 53, 3) := by decide +kernel
theorem d_X_show_35 : decode b_X_show 35 = .ok (.getfield 214, 3) := by decide +kernel
theorem d_X_show_38 : decode b_X_show 38 = .ok (.getfield 57, 3) := by decide +kernel
theorem d_X_show_41 : decode b_X_show 41 = .ok (.ireturn, 1) := by decide +kernel
theorem d_X_format_0 : decode b_X_format 0 = .ok (.aload_n 0, 1) := by decide +kernel
theorem d_X_format_1 : decode b_X_format 1 = .ok (.iload_n 1, 1) := by decide +kernel
theorem d_X_format_2 : decode b_X_format 2 = .ok (.invokevirtual 121, 3) := by decide +kernel
theorem d_X_format_5 : decode b_X_format 5 = .ok (.astore_n 2, 1) := by decide +kernel
theorem d_X_format_6 : decode b_X_format 6 = .ok (.aload_n 0, 1) := by decide +kernel
theorem d_X_format_7 : decode b_X_format 7 = .ok (.getfield 46, 3) := by decide +kernel
theorem d_X_format_10 : decode b_X_format 10 = .ok (.invokevirtual 217, 3) := by decide +kernel
theorem d_X_format_13 : decode b_X_format 13 = .ok (.istore_n 3, 1) := by decide +kernel
theorem d_X_format_14 : decode b_X_format 14 = .ok (.aload_n 0, 1) := by decide +kernel
theorem d_X_format_15 : decode b_X_format 15 = .ok (.getfield 23, 3) := by decide +kernel
theorem d_X_format_18 : decode b_X_format 18 = .ok (.invokevirtual 65, 3) := by decide +kernel
theorem d_X_format_21 : decode b_X_format 21 = .ok (.aload_n 2, 1) := by decide +kernel
theorem d_X_format_22 : decode b_X_format 22 = .ok (.invokevirtual 125, 3) := by decide +kernel
theorem d_X_format_25 : decode b_X_format 25 = .ok (.ifCond .eq 21, 3) := by decide +kernel
theorem d_X_format_28 : decode b_X_format 28 = .ok (.iload_n 3, 1) := by decide +kernel
theorem d_X_format_29 : decode b_X_format 29 = .ok (.ifCond .eq 17, 3) := by decide +kernel
theorem d_X_format_32 : decode b_X_format 32 = .ok (.aload_n 0, 1) := by decide +kernel
theorem d_X_format_33 : decode b_X_format 33 = .ok (.getfield 46, 3) := by decide +kernel
theorem d_X_format_36 : decode b_X_format 36 = .ok (.aload_n 2, 1) := by decide +kernel
theorem d_X_format_37 : decode b_X_format 37 = .ok (.getfield 157, 3) := by decide +kernel
theorem d_X_format_40 : decode b_X_format 40 = .ok (.invokevirtual 219, 3) := by decide +kernel
theorem d_X_format_43 : decode b_X_format 43 = .ok (.ifCond .ne 13, 3) := by decide +kernel
theorem d_X_format_46 : decode b_X_format 46 = .ok (.new 79, 3) := by decide +kernel
theorem d_X_format_49 : decode b_X_format 49 = .ok (.dup, 1) := by decide +kernel
theorem d_X_format_50 : decode b_X_format 50 = .ok (.ldc 222, 2) := by decide +kernel
theorem d_X_format_52 : decode b_X_format 52 = .ok (.invokespecial 83, 3) := by decide +kernel
theorem d_X_format_55 : decode b_X_format 55 = .ok (.athrow, 1) := by decide +kernel
theorem d_X_format_56 : decode b_X_format 56 = .ok (.aload_n 0, 1) := by decide +kernel
theorem d_X_format_57 : decode b_X_format 57 = .ok (.getfield 53, 3) := by decide +kernel
theorem d_X_format_60 : decode b_X_format 60 = .ok (.aload_n 2, 1) := by decide +kernel
theorem d_X_format_61 : decode b_X_format 61 = .ok (.aload_n 0, 1) := by decide +kernel
theorem d_X_format_62 : decode b_X_format 62 = .ok (.getfield 46, 3) := by decide +kernel
theorem d_X_format_65 : decode b_X_format 65 = .ok (.invokevirtual 224, 3) := by decide +kernel
theorem d_X_format_68 : decode b_X_format 68 = .ok (.aload_n 0, 1) := by decide +kernel
theorem d_X_format_69 : decode b_X_format 69 = .ok (.getfield 53, 3) := by decide +kernel
theorem d_X_format_72 : decode b_X_format 72 = .ok (.getfield 214, 3) := by decide +kernel
theorem d_X_format_75 : decode b_X_format 75 = .ok (.getfield 57, 3) := by decide +kernel
theorem d_X_format_78 : decode b_X_format 78 = .ok (.ireturn, 1) := by decide +kernel
theorem d_X_letter_0 : decode b_X_letter 0 = .ok (.aload_n 0, 1) := by decide +kernel
theorem d_X_letter_1 : decode b_X_letter 1 = .ok (.getfield 53, 3) := by decide +kernel
theorem d_X_letter_4 : decode b_X_letter 4 = .ok (.getfield 214, 3) := by decide +kernel
theorem d_X_letter_7 : decode b_X_letter 7 = .ok (.iload_n 1, 1) := by decide +kernel
theorem d_X_letter_8 : decode b_X_letter 8 = .ok (.invokevirtual 228, 3) := by decide +kernel
theorem d_X_letter_11 : decode b_X_letter 11 = .ok (.ireturn, 1) := by decide +kernel
theorem d_X_kind_0 : decode b_X_kind 0 = .ok (.aload_n 0, 1) := by decide +kernel
theorem d_X_kind_1 : decode b_X_kind 1 = .ok (.iload_n 1, 1) := by decide +kernel
theorem d_X_kind_2 : decode b_X_kind 2 = .ok (.invokevirtual 121, 3) := by decide +kernel
theorem d_X_kind_5 : decode b_X_kind 5 = .ok (.getfield 157, 3) := by decide +kernel
theorem d_X_kind_8 : decode b_X_kind 8 = .ok (.ireturn, 1) := by decide +kernel
theorem d_X_value_0 : decode b_X_value 0 = .ok (.aload_n 0, 1) := by decide +kernel
theorem d_X_value_1 : decode b_X_value 1 = .ok (.iload_n 1, 1) := by decide +kernel
theorem d_X_value_2 : decode b_X_value 2 = .ok (.invokevirtual 121, 3) := by decide +kernel
theorem d_X_value_5 : decode b_X_value 5 = .ok (.astore_n 2, 1) := by decide +kernel
theorem d_X_value_6 : decode b_X_value 6 = .ok (.aload_n 2, 1) := by decide +kernel
theorem d_X_value_7 : decode b_X_value 7 = .ok (.getfield 157, 3) := by decide +kernel
theorem d_X_value_10 : decode b_X_value 10 = .ok (.iconst 2, 1) := by decide +kernel
theorem d_X_value_11 : decode b_X_value 11 = .ok (.if_icmp .ne 10, 3) := by decide +kernel
theorem d_X_value_14 : decode b_X_value 14 = .ok (.aload_n 2, 1) := by decide +kernel
theorem d_X_value_15 : decode b_X_value 15 = .ok (.invokevirtual 231, 3) := by decide +kernel
theorem d_X_value_18 : decode b_X_value 18 = .ok (.goto 4, 3) := by decide +kernel
theorem d_X_value_21 : decode b_X_value 21 = .ok (.dconst 0, 1) := by decide +kernel
theorem d_X_value_22 : decode b_X_value 22 = .ok (.dreturn, 1) := by decide +kernel
theorem d_X_part_0 : decode b_X_part 0 = .ok (.aload_n 0, 1) := by decide +kernel
theorem d_X_part_1 : decode b_X_part 1 = .ok (.iload_n 1, 1) := by decide +kernel
theorem d_X_part_2 : decode b_X_part 2 = .ok (.invokevirtual 121, 3) := by decide +kernel
theorem d_X_part_5 : decode b_X_part 5 = .ok (.astore 4, 2) := by decide +kernel
theorem d_X_part_7 : decode b_X_part 7 = .ok (.aload 4, 2) := by decide +kernel
theorem d_X_part_9 : decode b_X_part 9 = .ok (.invokevirtual 125, 3) := by decide +kernel
theorem d_X_part_12 : decode b_X_part 12 = .ok (.ifCond .eq 21, 3) := by decide +kernel
theorem d_X_part_15 : decode b_X_part 15 = .ok (.aload 4, 2) := by decide +kernel
theorem d_X_part_17 : decode b_X_part 17 = .ok (.getfield 157, 3) := by decide +kernel
theorem d_X_part_20 : decode b_X_part 20 = .ok (.iconst 2, 1) := by decide +kernel
theorem d_X_part_21 : decode b_X_part 21 = .ok (.if_icmp .eq 12, 3) := by decide +kernel
theorem d_X_part_24 : decode b_X_part 24 = .ok (.iload_n 3, 1) := by decide +kernel
theorem d_X_part_25 : decode b_X_part 25 = .ok (.ifCond .lt 8, 3) := by decide +kernel
theorem d_X_part_28 : decode b_X_part 28 = .ok (.iload_n 3, 1) := by decide +kernel
theorem d_X_part_29 : decode b_X_part 29 = .ok (.iconst 1, 1) := by decide +kernel
theorem d_X_part_30 : decode b_X_part 30 = .ok (.if_icmp .le 7, 3) := by decide +kernel
theorem d_X_part_33 : decode b_X_part 33 = .ok (.ldc2_w 235, 3) := by decide +kernel
theorem d_X_part_36 : decode b_X_part 36 = .ok (.lreturn, 1) := by decide +kernel
theorem d_X_part_37 : decode b_X_part 37 = .ok (.iload_n 2, 1) := by decide +kernel
theorem d_X_part_38 : decode b_X_part 38 = .ok (.ifCond .eq 15, 3) := by decide +kernel
theorem d_X_part_41 : decode b_X_part 41 = .ok (.aload 4, 2) := by decide +kernel
theorem d_X_part_43 : decode b_X_part 43 = .ok (.getfield 86, 3) := by decide +kernel
theorem d_X_part_46 : decode b_X_part 46 = .ok (.iload_n 3, 1) := by decide +kernel
theorem d_X_part_47 : decode b_X_part 47 = .ok (.invokevirtual 237, 3) := by decide +kernel
theorem d_X_part_50 : decode b_X_part 50 = .ok (.goto 12, 3) := by decide +kernel
theorem d_X_part_53 : decode b_X_part 53 = .ok (.aload 4, 2) := by decide +kernel
theorem d_X_part_55 : decode b_X_part 55 = .ok (.getfield 166, 3) := by decide +kernel
theorem d_X_part_58 : decode b_X_part 58 = .ok (.iload_n 3, 1) := by decide +kernel
theorem d_X_part_59 : decode b_X_part 59 = .ok (.invokevirtual 237, 3) := by decide +kernel
theorem d_X_part_62 : decode b_X_part 62 = .ok (.lreturn, 1) := by decide +kernel
theorem d_X_isRegister_0 : decode b_X_isRegister 0 = .ok (.iload_n 0, 1) := by decide +kernel
theorem d_X_isRegister_1 : decode b_X_isRegister 1 = .ok (.ifCond .lt 13, 3) := by decide +kernel
theorem d_X_isRegister_4 : decode b_X_isRegister 4 = .ok (.iload_n 0, 1) := by decide +kernel
theorem d_X_isRegister_5 : decode b_X_isRegister 5 = .ok (.bipush 8, 2) := by decide +kernel
theorem d_X_isRegister_7 : decode b_X_isRegister 7 = .ok (.if_icmp .ge 7, 3) := by decide +kernel
theorem d_X_isRegister_10 : decode b_X_isRegister 10 = .ok (.iconst 1, 1) := by decide +kernel
theorem d_X_isRegister_11 : decode b_X_isRegister 11 = .ok (.goto 4, 3) := by decide +kernel
theorem d_X_isRegister_14 : decode b_X_isRegister 14 = .ok (.iconst 0, 1) := by decide +kernel
theorem d_X_isRegister_15 : decode b_X_isRegister 15 = .ok (.ireturn, 1) := by decide +kernel
theorem d_X_numberAt_0 : decode b_X_numberAt 0 = .ok (.iload_n 1, 1) := by decide +kernel
theorem d_X_numberAt_1 : decode b_X_numberAt 1 = .ok (.invokestatic 75, 3) := by decide +kernel
theorem d_X_numberAt_4 : decode b_X_numberAt 4 = .ok (.ifCond .eq 12, 3) := by decide +kernel
theorem d_X_numberAt_7 : decode b_X_numberAt 7 = .ok (.aload_n 0, 1) := by decide +kernel
theorem d_X_numberAt_8 : decode b_X_numberAt 8 = .ok (.getfield 11, 3) := by decide +kernel
theorem d_X_numberAt_11 : decode b_X_numberAt 11 = .ok (.iload_n 1, 1) := by decide +kernel
theorem d_X_numberAt_12 : decode b_X_numberAt 12 = .ok (.aaload, 1) := by decide +kernel
theorem d_X_numberAt_13 : decode b_X_numberAt 13 = .ok (.goto 7, 3) := by decide +kernel
theorem d_X_numberAt_16 : decode b_X_numberAt 16 = .ok (.aload_n 0, 1) := by decide +kernel
theorem d_X_numberAt_17 : decode b_X_numberAt 17 = .ok (.getfield 16, 3) := by decide +kernel
theorem d_X_numberAt_20 : decode b_X_numberAt 20 = .ok (.areturn, 1) := by decide +kernel
theorem d_X_keep_0 : decode b_X_keep 0 = .ok (.iload_n 1, 1) := by decide +kernel
theorem d_X_keep_1 : decode b_X_keep 1 = .ok (.invokestatic 75, 3) := by decide +kernel
theorem d_X_keep_4 : decode b_X_keep 4 = .ok (.ifCond .ne 5, 3) := by decide +kernel
theorem d_X_keep_7 : decode b_X_keep 7 = .ok (.iconst (-1), 1) := by decide +kernel
theorem d_X_keep_8 : decode b_X_keep 8 = .ok (.ireturn, 1) := by decide +kernel
theorem d_X_keep_9 : decode b_X_keep 9 = .ok (.aload_n 0, 1) := by decide +kernel
theorem d_X_keep_10 : decode b_X_keep 10 = .ok (.getfield 11, 3) := by decide +kernel
theorem d_X_keep_13 : decode b_X_keep 13 = .ok (.iload_n 1, 1) := by decide +kernel
theorem d_X_keep_14 : decode b_X_keep 14 = .ok (.aaload, 1) := by decide +kernel
theorem d_X_keep_15 : decode b_X_keep 15 = .ok (.aload_n 0, 1) := by decide +kernel
theorem d_X_keep_16 : decode b_X_keep 16 = .ok (.getfield 30, 3) := by decide +kernel
theorem d_X_keep_19 : decode b_X_keep 19 = .ok (.getfield 68, 3) := by decide +kernel
theorem d_X_keep_22 : decode b_X_keep 22 = .ok (.invokevirtual 241, 3) := by decide +kernel
theorem d_X_keep_25 : decode b_X_keep 25 = .ok (.aload_n 0, 1) := by decide +kernel
theorem d_X_keep_26 : decode b_X_keep 26 = .ok (.getfield 30, 3) := by decide +kernel
theorem d_X_keep_29 : decode b_X_keep 29 = .ok (.getfield 68, 3) := by decide +kernel
theorem d_X_keep_32 : decode b_X_keep 32 = .ok (.getfield 157, 3) := by decide +kernel
theorem d_X_keep_35 : decode b_X_keep 35 = .ok (.ireturn, 1) := by decide +kernel
theorem d_X_takes_0 : decode b_X_takes 0 = .ok (.iload_n 0, 1) := by decide +kernel
theorem d_X_takes_1 : decode b_X_takes 1 = .ok (.ifCond .lt 9, 3) := by decide +kernel
theorem d_X_takes_4 : decode b_X_takes 4 = .ok (.iload_n 0, 1) := by decide +kernel
theorem d_X_takes_5 : decode b_X_takes 5 = .ok (.bipush 10, 2) := by decide +kernel
theorem d_X_takes_7 : decode b_X_takes 7 = .ok (.if_icmp .le 5, 3) := by decide +kernel
theorem d_X_takes_10 : decode b_X_takes 10 = .ok (.iconst 0, 1) := by decide +kernel
theorem d_X_takes_11 : decode b_X_takes 11 = .ok (.ireturn, 1) := by decide +kernel
theorem d_X_takes_12 : decode b_X_takes 12 = .ok (.iload_n 0, 1) := by decide +kernel
theorem d_X_takes_13 : decode b_X_takes 13 = .ok (.bipush 6, 2) := by decide +kernel
theorem d_X_takes_15 : decode b_X_takes 15 = .ok (.if_icmp .ge 5, 3) := by decide +kernel
theorem d_X_takes_18 : decode b_X_takes 18 = .ok (.iconst 1, 1) := by decide +kernel
theorem d_X_takes_19 : decode b_X_takes 19 = .ok (.ireturn, 1) := by decide +kernel
theorem d_X_takes_20 : decode b_X_takes 20 = .ok (.iload_n 0, 1) := by decide +kernel
theorem d_X_takes_21 : decode b_X_takes 21 = .ok (.bipush 6, 2) := by decide +kernel
theorem d_X_takes_23 : decode b_X_takes 23 = .ok (.if_icmp .ne 11, 3) := by decide +kernel
theorem d_X_takes_26 : decode b_X_takes 26 = .ok (.aload_n 2, 1) := by decide +kernel
theorem d_X_takes_27 : decode b_X_takes 27 = .ok (.iconst 0, 1) := by decide +kernel
theorem d_X_takes_28 : decode b_X_takes 28 = .ok (.bipush 40, 2) := by decide +kernel
theorem d_X_takes_30 : decode b_X_takes 30 = .ok (.invokevirtual 160, 3) := by decide +kernel
theorem d_X_takes_33 : decode b_X_takes 33 = .ok (.ireturn, 1) := by decide +kernel
theorem d_X_takes_34 : decode b_X_takes 34 = .ok (.aload_n 1, 1) := by decide +kernel
theorem d_X_takes_35 : decode b_X_takes 35 = .ok (.getfield 157, 3) := by decide +kernel
theorem d_X_takes_38 : decode b_X_takes 38 = .ok (.ifCond .ne 14, 3) := by decide +kernel
theorem d_X_takes_41 : decode b_X_takes 41 = .ok (.aload_n 2, 1) := by decide +kernel
theorem d_X_takes_42 : decode b_X_takes 42 = .ok (.getfield 157, 3) := by decide +kernel
theorem d_X_takes_45 : decode b_X_takes 45 = .ok (.ifCond .ne 7, 3) := by decide +kernel
theorem d_X_takes_48 : decode b_X_takes 48 = .ok (.iconst 1, 1) := by decide +kernel
theorem d_X_takes_49 : decode b_X_takes 49 = .ok (.goto 4, 3) := by decide +kernel
theorem d_X_takes_52 : decode b_X_takes 52 = .ok (.iconst 0, 1) := by decide +kernel
theorem d_X_takes_53 : decode b_X_takes 53 = .ok (.istore_n 3, 1) := by decide +kernel
theorem d_X_takes_54 : decode b_X_takes 54 = .ok (.iload_n 3, 1) := by decide +kernel
theorem d_X_takes_55 : decode b_X_takes 55 = .ok (.ifCond .eq 24, 3) := by decide +kernel
theorem d_X_takes_58 : decode b_X_takes 58 = .ok (.iload_n 0, 1) := by decide +kernel
theorem d_X_takes_59 : decode b_X_takes 59 = .ok (.bipush 10, 2) := by decide +kernel
theorem d_X_takes_61 : decode b_X_takes 61 = .ok (.if_icmp .ne 14, 3) := by decide +kernel
theorem d_X_takes_64 : decode b_X_takes 64 = .ok (.aload_n 2, 1) := by decide +kernel
theorem d_X_takes_65 : decode b_X_takes 65 = .ok (.bipush (-120), 2) := by decide +kernel
theorem d_X_takes_67 : decode b_X_takes 67 = .ok (.bipush 120, 2) := by decide +kernel
theorem d_X_takes_69 : decode b_X_takes 69 = .ok (.invokevirtual 160, 3) := by decide +kernel
theorem d_X_takes_72 : decode b_X_takes 72 = .ok (.ifCond .eq 7, 3) := by decide +kernel
theorem d_X_takes_75 : decode b_X_takes 75 = .ok (.iconst 1, 1) := by decide +kernel
theorem d_X_takes_76 : decode b_X_takes 76 = .ok (.goto 4, 3) := by decide +kernel
theorem d_X_takes_79 : decode b_X_takes 79 = .ok (.iconst 0, 1) := by decide +kernel
theorem d_X_takes_80 : decode b_X_takes 80 = .ok (.ireturn, 1) := by decide +kernel
theorem d_X_holdsRatio_0 : decode b_X_holdsRatio 0 = .ok (.iconst 0, 1) := by decide +kernel
theorem d_X_holdsRatio_1 : decode b_X_holdsRatio 1 = .ok (.istore_n 2, 1) := by decide +kernel
theorem d_X_holdsRatio_2 : decode b_X_holdsRatio 2 = .ok (.iload_n 2, 1) := by decide +kernel
theorem d_X_holdsRatio_3 : decode b_X_holdsRatio 3 = .ok (.bipush 8, 2) := by decide +kernel
theorem d_X_holdsRatio_5 : decode b_X_holdsRatio 5 = .ok (.if_icmp .ge 32, 3) := by decide +kernel
theorem d_X_holdsRatio_8 : decode b_X_holdsRatio 8 = .ok (.iload_n 1, 1) := by decide +kernel
theorem d_X_holdsRatio_9 : decode b_X_holdsRatio 9 = .ok (.iload_n 2, 1) := by decide +kernel
theorem d_X_holdsRatio_10 : decode b_X_holdsRatio 10 = .ok (.ishr, 1) := by decide +kernel
theorem d_X_holdsRatio_11 : decode b_X_holdsRatio 11 = .ok (.iconst 1, 1) := by decide +kernel
theorem d_X_holdsRatio_12 : decode b_X_holdsRatio 12 = .ok (.iand, 1) := by decide +kernel
theorem d_X_holdsRatio_13 : decode b_X_holdsRatio 13 = .ok (.ifCond .eq 18, 3) := by decide +kernel
theorem d_X_holdsRatio_16 : decode b_X_holdsRatio 16 = .ok (.aload_n 0, 1) := by decide +kernel
theorem d_X_holdsRatio_17 : decode b_X_holdsRatio 17 = .ok (.getfield 11, 3) := by decide +kernel
theorem d_X_holdsRatio_20 : decode b_X_holdsRatio 20 = .ok (.iload_n 2, 1) := by decide +kernel
theorem d_X_holdsRatio_21 : decode b_X_holdsRatio 21 = .ok (.aaload, 1) := by decide +kernel
theorem d_X_holdsRatio_22 : decode b_X_holdsRatio 22 = .ok (.getfield 157, 3) := by decide +kernel
theorem d_X_holdsRatio_25 : decode b_X_holdsRatio 25 = .ok (.iconst 1, 1) := by decide +kernel
theorem d_X_holdsRatio_26 : decode b_X_holdsRatio 26 = .ok (.if_icmp .ne 5, 3) := by decide +kernel
theorem d_X_holdsRatio_29 : decode b_X_holdsRatio 29 = .ok (.iconst 1, 1) := by decide +kernel
theorem d_X_holdsRatio_30 : decode b_X_holdsRatio 30 = .ok (.ireturn, 1) := by decide +kernel
theorem d_X_holdsRatio_31 : decode b_X_holdsRatio 31 = .ok (.iinc 2 1, 3) := by decide +kernel
theorem d_X_holdsRatio_34 : decode b_X_holdsRatio 34 = .ok (.goto (-32), 3) := by decide +kernel
theorem d_X_holdsRatio_37 : decode b_X_holdsRatio 37 = .ok (.iconst 0, 1) := by decide +kernel
theorem d_X_holdsRatio_38 : decode b_X_holdsRatio 38 = .ok (.ireturn, 1) := by decide +kernel
