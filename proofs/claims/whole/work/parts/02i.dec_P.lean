theorem d_P_init_0 : decode b_P_init 0 = .ok (.aload_n 0, 1) := by decide +kernel
theorem d_P_init_1 : decode b_P_init 1 = .ok (.invokespecial 3, 3) := by decide +kernel
theorem d_P_init_4 : decode b_P_init 4 = .ok (.aload_n 0, 1) := by decide +kernel
theorem d_P_init_5 : decode b_P_init 5 = .ok (.new 9, 3) := by decide +kernel
theorem d_P_init_8 : decode b_P_init 8 = .ok (.dup, 1) := by decide +kernel
theorem d_P_init_9 : decode b_P_init 9 = .ok (.invokespecial 11, 3) := by decide +kernel
theorem d_P_init_12 : decode b_P_init 12 = .ok (.putfield 12, 3) := by decide +kernel
theorem d_P_init_15 : decode b_P_init 15 = .ok (.aload_n 0, 1) := by decide +kernel
theorem d_P_init_16 : decode b_P_init 16 = .ok (.new 9, 3) := by decide +kernel
theorem d_P_init_19 : decode b_P_init 19 = .ok (.dup, 1) := by decide +kernel
theorem d_P_init_20 : decode b_P_init 20 = .ok (.invokespecial 11, 3) := by decide +kernel
theorem d_P_init_23 : decode b_P_init 23 = .ok (.putfield 18, 3) := by decide +kernel
theorem d_P_init_26 : decode b_P_init 26 = .ok (.aload_n 0, 1) := by decide +kernel
theorem d_P_init_27 : decode b_P_init 27 = .ok (.new 9, 3) := by decide +kernel
theorem d_P_init_30 : decode b_P_init 30 = .ok (.dup, 1) := by decide +kernel
theorem d_P_init_31 : decode b_P_init 31 = .ok (.invokespecial 11, 3) := by decide +kernel
theorem d_P_init_34 : decode b_P_init 34 = .ok (.putfield 21, 3) := by decide +kernel
theorem d_P_init_37 : decode b_P_init 37 = .ok (.aload_n 0, 1) := by decide +kernel
theorem d_P_init_38 : decode b_P_init 38 = .ok (.new 9, 3) := by decide +kernel
theorem d_P_init_41 : decode b_P_init 41 = .ok (.dup, 1) := by decide +kernel
theorem d_P_init_42 : decode b_P_init 42 = .ok (.invokespecial 11, 3) := by decide +kernel
theorem d_P_init_45 : decode b_P_init 45 = .ok (.putfield 24, 3) := by decide +kernel
theorem d_P_init_48 : decode b_P_init 48 = .ok (.aload_n 0, 1) := by decide +kernel
theorem d_P_init_49 : decode b_P_init 49 = .ok (.new 27, 3) := by decide +kernel
theorem d_P_init_52 : decode b_P_init 52 = .ok (.dup, 1) := by decide +kernel
theorem d_P_init_53 : decode b_P_init 53 = .ok (.invokespecial 29, 3) := by decide +kernel
theorem d_P_init_56 : decode b_P_init 56 = .ok (.putfield 30, 3) := by decide +kernel
theorem d_P_init_59 : decode b_P_init 59 = .ok (.aload_n 0, 1) := by decide +kernel
theorem d_P_init_60 : decode b_P_init 60 = .ok (.new 27, 3) := by decide +kernel
theorem d_P_init_63 : decode b_P_init 63 = .ok (.dup, 1) := by decide +kernel
theorem d_P_init_64 : decode b_P_init 64 = .ok (.invokespecial 29, 3) := by decide +kernel
theorem d_P_init_67 : decode b_P_init 67 = .ok (.putfield 34, 3) := by decide +kernel
theorem d_P_init_70 : decode b_P_init 70 = .ok (.aload_n 0, 1) := by decide +kernel
theorem d_P_init_71 : decode b_P_init 71 = .ok (.new 27, 3) := by decide +kernel
theorem d_P_init_74 : decode b_P_init 74 = .ok (.dup, 1) := by decide +kernel
theorem d_P_init_75 : decode b_P_init 75 = .ok (.invokespecial 29, 3) := by decide +kernel
theorem d_P_init_78 : decode b_P_init 78 = .ok (.putfield 37, 3) := by decide +kernel
theorem d_P_init_81 : decode b_P_init 81 = .ok (.return_, 1) := by decide +kernel
theorem d_P_showNumber_0 : decode b_P_showNumber 0 = .ok (.aload_n 0, 1) := by decide +kernel
theorem d_P_showNumber_1 : decode b_P_showNumber 1 = .ok (.getfield 12, 3) := by decide +kernel
theorem d_P_showNumber_4 : decode b_P_showNumber 4 = .ok (.invokevirtual 40, 3) := by decide +kernel
theorem d_P_showNumber_7 : decode b_P_showNumber 7 = .ok (.aload_n 1, 1) := by decide +kernel
theorem d_P_showNumber_8 : decode b_P_showNumber 8 = .ok (.getfield 43, 3) := by decide +kernel
theorem d_P_showNumber_11 : decode b_P_showNumber 11 = .ok (.ifCond .ge 12, 3) := by decide +kernel
theorem d_P_showNumber_14 : decode b_P_showNumber 14 = .ok (.aload_n 0, 1) := by decide +kernel
theorem d_P_showNumber_15 : decode b_P_showNumber 15 = .ok (.getfield 12, 3) := by decide +kernel
theorem d_P_showNumber_18 : decode b_P_showNumber 18 = .ok (.bipush 45, 2) := by decide +kernel
theorem d_P_showNumber_20 : decode b_P_showNumber 20 = .ok (.invokevirtual 49, 3) := by decide +kernel
theorem d_P_showNumber_23 : decode b_P_showNumber 23 = .ok (.aload_n 1, 1) := by decide +kernel
theorem d_P_showNumber_24 : decode b_P_showNumber 24 = .ok (.getfield 53, 3) := by decide +kernel
theorem d_P_showNumber_27 : decode b_P_showNumber 27 = .ok (.iconst 2, 1) := by decide +kernel
theorem d_P_showNumber_28 : decode b_P_showNumber 28 = .ok (.if_icmp .ne 27, 3) := by decide +kernel
theorem d_P_showNumber_31 : decode b_P_showNumber 31 = .ok (.aload_n 0, 1) := by decide +kernel
theorem d_P_showNumber_32 : decode b_P_showNumber 32 = .ok (.aload_n 1, 1) := by decide +kernel
theorem d_P_showNumber_33 : decode b_P_showNumber 33 = .ok (.getfield 43, 3) := by decide +kernel
theorem d_P_showNumber_36 : decode b_P_showNumber 36 = .ok (.ifCond .ne 10, 3) := by decide +kernel
theorem d_P_showNumber_39 : decode b_P_showNumber 39 = .ok (.aload_n 0, 1) := by decide +kernel
theorem d_P_showNumber_40 : decode b_P_showNumber 40 = .ok (.invokevirtual 56, 3) := by decide +kernel
theorem d_P_showNumber_43 : decode b_P_showNumber 43 = .ok (.goto 8, 3) := by decide +kernel
theorem d_P_showNumber_46 : decode b_P_showNumber 46 = .ok (.aload_n 0, 1) := by decide +kernel
theorem d_P_showNumber_47 : decode b_P_showNumber 47 = .ok (.aload_n 1, 1) := by decide +kernel
theorem d_P_showNumber_48 : decode b_P_showNumber 48 = .ok (.invokevirtual 60, 3) := by decide +kernel
theorem d_P_showNumber_51 : decode b_P_showNumber 51 = .ok (.invokevirtual 64, 3) := by decide +kernel
theorem d_P_showNumber_54 : decode b_P_showNumber 54 = .ok (.return_, 1) := by decide +kernel
theorem d_P_showNumber_55 : decode b_P_showNumber 55 = .ok (.aload_n 0, 1) := by decide +kernel
theorem d_P_showNumber_56 : decode b_P_showNumber 56 = .ok (.aload_n 1, 1) := by decide +kernel
theorem d_P_showNumber_57 : decode b_P_showNumber 57 = .ok (.getfield 67, 3) := by decide +kernel
theorem d_P_showNumber_60 : decode b_P_showNumber 60 = .ok (.invokevirtual 70, 3) := by decide +kernel
theorem d_P_showNumber_63 : decode b_P_showNumber 63 = .ok (.aload_n 1, 1) := by decide +kernel
theorem d_P_showNumber_64 : decode b_P_showNumber 64 = .ok (.getfield 53, 3) := by decide +kernel
theorem d_P_showNumber_67 : decode b_P_showNumber 67 = .ok (.iconst 1, 1) := by decide +kernel
theorem d_P_showNumber_68 : decode b_P_showNumber 68 = .ok (.if_icmp .ne 30, 3) := by decide +kernel
theorem d_P_showNumber_71 : decode b_P_showNumber 71 = .ok (.aload_n 1, 1) := by decide +kernel
theorem d_P_showNumber_72 : decode b_P_showNumber 72 = .ok (.getfield 74, 3) := by decide +kernel
theorem d_P_showNumber_75 : decode b_P_showNumber 75 = .ok (.invokevirtual 77, 3) := by decide +kernel
theorem d_P_showNumber_78 : decode b_P_showNumber 78 = .ok (.ifCond .ne 20, 3) := by decide +kernel
theorem d_P_showNumber_81 : decode b_P_showNumber 81 = .ok (.aload_n 0, 1) := by decide +kernel
theorem d_P_showNumber_82 : decode b_P_showNumber 82 = .ok (.getfield 12, 3) := by decide +kernel
theorem d_P_showNumber_85 : decode b_P_showNumber 85 = .ok (.bipush 47, 2) := by decide +kernel
theorem d_P_showNumber_87 : decode b_P_showNumber 87 = .ok (.invokevirtual 49, 3) := by decide +kernel
theorem d_P_showNumber_90 : decode b_P_showNumber 90 = .ok (.aload_n 0, 1) := by decide +kernel
theorem d_P_showNumber_91 : decode b_P_showNumber 91 = .ok (.aload_n 1, 1) := by decide +kernel
theorem d_P_showNumber_92 : decode b_P_showNumber 92 = .ok (.getfield 74, 3) := by decide +kernel
theorem d_P_showNumber_95 : decode b_P_showNumber 95 = .ok (.invokevirtual 70, 3) := by decide +kernel
theorem d_P_showNumber_98 : decode b_P_showNumber 98 = .ok (.return_, 1) := by decide +kernel
theorem d_P_showPart_0 : decode b_P_showPart 0 = .ok (.aload_n 0, 1) := by decide +kernel
theorem d_P_showPart_1 : decode b_P_showPart 1 = .ok (.getfield 30, 3) := by decide +kernel
theorem d_P_showPart_4 : decode b_P_showPart 4 = .ok (.aload_n 1, 1) := by decide +kernel
theorem d_P_showPart_5 : decode b_P_showPart 5 = .ok (.invokevirtual 81, 3) := by decide +kernel
theorem d_P_showPart_8 : decode b_P_showPart 8 = .ok (.aload_n 0, 1) := by decide +kernel
theorem d_P_showPart_9 : decode b_P_showPart 9 = .ok (.bipush 10, 2) := by decide +kernel
theorem d_P_showPart_11 : decode b_P_showPart 11 = .ok (.bipush 97, 2) := by decide +kernel
theorem d_P_showPart_13 : decode b_P_showPart 13 = .ok (.iconst 1, 1) := by decide +kernel
theorem d_P_showPart_14 : decode b_P_showPart 14 = .ok (.invokevirtual 84, 3) := by decide +kernel
theorem d_P_showPart_17 : decode b_P_showPart 17 = .ok (.aload_n 0, 1) := by decide +kernel
theorem d_P_showPart_18 : decode b_P_showPart 18 = .ok (.getfield 12, 3) := by decide +kernel
theorem d_P_showPart_21 : decode b_P_showPart 21 = .ok (.aload_n 0, 1) := by decide +kernel
theorem d_P_showPart_22 : decode b_P_showPart 22 = .ok (.getfield 24, 3) := by decide +kernel
theorem d_P_showPart_25 : decode b_P_showPart 25 = .ok (.iconst 0, 1) := by decide +kernel
theorem d_P_showPart_26 : decode b_P_showPart 26 = .ok (.aload_n 0, 1) := by decide +kernel
theorem d_P_showPart_27 : decode b_P_showPart 27 = .ok (.getfield 24, 3) := by decide +kernel
theorem d_P_showPart_30 : decode b_P_showPart 30 = .ok (.getfield 88, 3) := by decide +kernel
theorem d_P_showPart_33 : decode b_P_showPart 33 = .ok (.invokevirtual 91, 3) := by decide +kernel
theorem d_P_showPart_36 : decode b_P_showPart 36 = .ok (.return_, 1) := by decide +kernel
theorem d_P_setDigits_0 : decode b_P_setDigits 0 = .ok (.aload_n 0, 1) := by decide +kernel
theorem d_P_setDigits_1 : decode b_P_setDigits 1 = .ok (.getfield 24, 3) := by decide +kernel
theorem d_P_setDigits_4 : decode b_P_setDigits 4 = .ok (.invokevirtual 40, 3) := by decide +kernel
theorem d_P_setDigits_7 : decode b_P_setDigits 7 = .ok (.iconst 0, 1) := by decide +kernel
theorem d_P_setDigits_8 : decode b_P_setDigits 8 = .ok (.istore 4, 2) := by decide +kernel
theorem d_P_setDigits_10 : decode b_P_setDigits 10 = .ok (.iload 4, 2) := by decide +kernel
theorem d_P_setDigits_12 : decode b_P_setDigits 12 = .ok (.sipush 200, 3) := by decide +kernel
theorem d_P_setDigits_15 : decode b_P_setDigits 15 = .ok (.if_icmp .ge 64, 3) := by decide +kernel
theorem d_P_setDigits_18 : decode b_P_setDigits 18 = .ok (.iload 4, 2) := by decide +kernel
theorem d_P_setDigits_20 : decode b_P_setDigits 20 = .ok (.iload_n 3, 1) := by decide +kernel
theorem d_P_setDigits_21 : decode b_P_setDigits 21 = .ok (.if_icmp .lt 13, 3) := by decide +kernel
theorem d_P_setDigits_24 : decode b_P_setDigits 24 = .ok (.aload_n 0, 1) := by decide +kernel
theorem d_P_setDigits_25 : decode b_P_setDigits 25 = .ok (.getfield 30, 3) := by decide +kernel
theorem d_P_setDigits_28 : decode b_P_setDigits 28 = .ok (.invokevirtual 95, 3) := by decide +kernel
theorem d_P_setDigits_31 : decode b_P_setDigits 31 = .ok (.ifCond .ne 48, 3) := by decide +kernel
theorem d_P_setDigits_34 : decode b_P_setDigits 34 = .ok (.aload_n 0, 1) := by decide +kernel
theorem d_P_setDigits_35 : decode b_P_setDigits 35 = .ok (.getfield 30, 3) := by decide +kernel
theorem d_P_setDigits_38 : decode b_P_setDigits 38 = .ok (.iload_n 1, 1) := by decide +kernel
theorem d_P_setDigits_39 : decode b_P_setDigits 39 = .ok (.invokevirtual 98, 3) := by decide +kernel
theorem d_P_setDigits_42 : decode b_P_setDigits 42 = .ok (.istore 5, 2) := by decide +kernel
theorem d_P_setDigits_44 : decode b_P_setDigits 44 = .ok (.aload_n 0, 1) := by decide +kernel
theorem d_P_setDigits_45 : decode b_P_setDigits 45 = .ok (.getfield 24, 3) := by decide +kernel
theorem d_P_setDigits_48 : decode b_P_setDigits 48 = .ok (.iload 5, 2) := by decide +kernel
theorem d_P_setDigits_50 : decode b_P_setDigits 50 = .ok (.bipush 10, 2) := by decide +kernel
theorem d_P_setDigits_52 : decode b_P_setDigits 52 = .ok (.if_icmp .ge 11, 3) := by decide +kernel
theorem d_P_setDigits_55 : decode b_P_setDigits 55 = .ok (.bipush 48, 2) := by decide +kernel
theorem d_P_setDigits_57 : decode b_P_setDigits 57 = .ok (.iload 5, 2) := by decide +kernel
theorem d_P_setDigits_59 : decode b_P_setDigits 59 = .ok (.iadd, 1) := by decide +kernel
theorem d_P_setDigits_60 : decode b_P_setDigits 60 = .ok (.goto 10, 3) := by decide +kernel
theorem d_P_setDigits_63 : decode b_P_setDigits 63 = .ok (.iload_n 2, 1) := by decide +kernel
theorem d_P_setDigits_64 : decode b_P_setDigits 64 = .ok (.iload 5, 2) := by decide +kernel
theorem d_P_setDigits_66 : decode b_P_setDigits 66 = .ok (.iadd, 1) := by decide +kernel
theorem d_P_setDigits_67 : decode b_P_setDigits 67 = .ok (.bipush 10, 2) := by decide +kernel
theorem d_P_setDigits_69 : decode b_P_setDigits 69 = .ok (.isub, 1) := by decide +kernel
theorem d_P_setDigits_70 : decode b_P_setDigits 70 = .ok (.invokevirtual 49, 3) := by decide +kernel
theorem d_P_setDigits_73 : decode b_P_setDigits 73 = .ok (.iinc 4 1, 3) := by decide +kernel
theorem d_P_setDigits_76 : decode b_P_setDigits 76 = .ok (.goto (-66), 3) := by decide +kernel
theorem d_P_setDigits_79 : decode b_P_setDigits 79 = .ok (.aload_n 0, 1) := by decide +kernel
theorem d_P_setDigits_80 : decode b_P_setDigits 80 = .ok (.getfield 24, 3) := by decide +kernel
theorem d_P_setDigits_83 : decode b_P_setDigits 83 = .ok (.invokevirtual 102, 3) := by decide +kernel
theorem d_P_setDigits_86 : decode b_P_setDigits 86 = .ok (.return_, 1) := by decide +kernel
theorem d_P_setZero_0 : decode b_P_setZero 0 = .ok (.aload_n 0, 1) := by decide +kernel
theorem d_P_setZero_1 : decode b_P_setZero 1 = .ok (.getfield 24, 3) := by decide +kernel
theorem d_P_setZero_4 : decode b_P_setZero 4 = .ok (.invokevirtual 40, 3) := by decide +kernel
theorem d_P_setZero_7 : decode b_P_setZero 7 = .ok (.aload_n 0, 1) := by decide +kernel
theorem d_P_setZero_8 : decode b_P_setZero 8 = .ok (.getfield 24, 3) := by decide +kernel
theorem d_P_setZero_11 : decode b_P_setZero 11 = .ok (.bipush 48, 2) := by decide +kernel
theorem d_P_setZero_13 : decode b_P_setZero 13 = .ok (.invokevirtual 49, 3) := by decide +kernel
theorem d_P_setZero_16 : decode b_P_setZero 16 = .ok (.iconst 0, 1) := by decide +kernel
theorem d_P_setZero_17 : decode b_P_setZero 17 = .ok (.ireturn, 1) := by decide +kernel
theorem d_P_layReal_0 : decode b_P_layReal 0 = .ok (.iload_n 1, 1) := by decide +kernel
theorem d_P_layReal_1 : decode b_P_layReal 1 = .ok (.bipush (-4), 2) := by decide +kernel
theorem d_P_layReal_3 : decode b_P_layReal 3 = .ok (.if_icmp .lt 9, 3) := by decide +kernel
theorem d_P_layReal_6 : decode b_P_layReal 6 = .ok (.iload_n 1, 1) := by decide +kernel
theorem d_P_layReal_7 : decode b_P_layReal 7 = .ok (.bipush 15, 2) := by decide +kernel
theorem d_P_layReal_9 : decode b_P_layReal 9 = .ok (.if_icmp .le 70, 3) := by decide +kernel
theorem d_P_layReal_12 : decode b_P_layReal 12 = .ok (.aload_n 0, 1) := by decide +kernel
theorem d_P_layReal_13 : decode b_P_layReal 13 = .ok (.getfield 12, 3) := by decide +kernel
theorem d_P_layReal_16 : decode b_P_layReal 16 = .ok (.aload_n 0, 1) := by decide +kernel
theorem d_P_layReal_17 : decode b_P_layReal 17 = .ok (.getfield 24, 3) := by decide +kernel
theorem d_P_layReal_20 : decode b_P_layReal 20 = .ok (.iconst 0, 1) := by decide +kernel
theorem d_P_layReal_21 : decode b_P_layReal 21 = .ok (.invokevirtual 105, 3) := by decide +kernel
theorem d_P_layReal_24 : decode b_P_layReal 24 = .ok (.invokevirtual 49, 3) := by decide +kernel
theorem d_P_layReal_27 : decode b_P_layReal 27 = .ok (.aload_n 0, 1) := by decide +kernel
theorem d_P_layReal_28 : decode b_P_layReal 28 = .ok (.getfield 24, 3) := by decide +kernel
theorem d_P_layReal_31 : decode b_P_layReal 31 = .ok (.getfield 88, 3) := by decide +kernel
theorem d_P_layReal_34 : decode b_P_layReal 34 = .ok (.iconst 1, 1) := by decide +kernel
theorem d_P_layReal_35 : decode b_P_layReal 35 = .ok (.if_icmp .le 31, 3) := by decide +kernel
theorem d_P_layReal_38 : decode b_P_layReal 38 = .ok (.aload_n 0, 1) := by decide +kernel
theorem d_P_layReal_39 : decode b_P_layReal 39 = .ok (.getfield 12, 3) := by decide +kernel
theorem d_P_layReal_42 : decode b_P_layReal 42 = .ok (.bipush 46, 2) := by decide +kernel
theorem d_P_layReal_44 : decode b_P_layReal 44 = .ok (.invokevirtual 49, 3) := by decide +kernel
theorem d_P_layReal_47 : decode b_P_layReal 47 = .ok (.aload_n 0, 1) := by decide +kernel
theorem d_P_layReal_48 : decode b_P_layReal 48 = .ok (.getfield 12, 3) := by decide +kernel
theorem d_P_layReal_51 : decode b_P_layReal 51 = .ok (.aload_n 0, 1) := by decide +kernel
theorem d_P_layReal_52 : decode b_P_layReal 52 = .ok (.getfield 24, 3) := by decide +kernel
theorem d_P_layReal_55 : decode b_P_layReal 55 = .ok (.iconst 1, 1) := by decide +kernel
theorem d_P_layReal_56 : decode b_P_layReal 56 = .ok (.aload_n 0, 1) := by decide +kernel
theorem d_P_layReal_57 : decode b_P_layReal 57 = .ok (.getfield 24, 3) := by decide +kernel
theorem d_P_layReal_60 : decode b_P_layReal 60 = .ok (.getfield 88, 3) := by decide +kernel
theorem d_P_layReal_63 : decode b_P_layReal 63 = .ok (.invokevirtual 91, 3) := by decide +kernel
theorem d_P_layReal_66 : decode b_P_layReal 66 = .ok (.aload_n 0, 1) := by decide +kernel
theorem d_P_layReal_67 : decode b_P_layReal 67 = .ok (.getfield 12, 3) := by decide +kernel
theorem d_P_layReal_70 : decode b_P_layReal 70 = .ok (.iload_n 1, 1) := by decide +kernel
theorem d_P_layReal_71 : decode b_P_layReal 71 = .ok (.bipush 101, 2) := by decide +kernel
theorem d_P_layReal_73 : decode b_P_layReal 73 = .ok (.invokestatic 108, 3) := by decide +kernel
theorem d_P_layReal_76 : decode b_P_layReal 76 = .ok (.goto 125, 3) := by decide +kernel
theorem d_P_layReal_79 : decode b_P_layReal 79 = .ok (.iload_n 1, 1) := by decide +kernel
theorem d_P_layReal_80 : decode b_P_layReal 80 = .ok (.ifCond .ge 56, 3) := by decide +kernel
theorem d_P_layReal_83 : decode b_P_layReal 83 = .ok (.aload_n 0, 1) := by decide +kernel
theorem d_P_layReal_84 : decode b_P_layReal 84 = .ok (.getfield 12, 3) := by decide +kernel
theorem d_P_layReal_87 : decode b_P_layReal 87 = .ok (.bipush 48, 2) := by decide +kernel
theorem d_P_layReal_89 : decode b_P_layReal 89 = .ok (.invokevirtual 49, 3) := by decide +kernel
theorem d_P_layReal_92 : decode b_P_layReal 92 = .ok (.aload_n 0, 1) := by decide +kernel
theorem d_P_layReal_93 : decode b_P_layReal 93 = .ok (.getfield 12, 3) := by decide +kernel
theorem d_P_layReal_96 : decode b_P_layReal 96 = .ok (.bipush 46, 2) := by decide +kernel
theorem d_P_layReal_98 : decode b_P_layReal 98 = .ok (.invokevirtual 49, 3) := by decide +kernel
theorem d_P_layReal_101 : decode b_P_layReal 101 = .ok (.aload_n 0, 1) := by decide +kernel
theorem d_P_layReal_102 : decode b_P_layReal 102 = .ok (.getfield 12, 3) := by decide +kernel
theorem d_P_layReal_105 : decode b_P_layReal 105 = .ok (.bipush 48, 2) := by decide +kernel
theorem d_P_layReal_107 : decode b_P_layReal 107 = .ok (.iload_n 1, 1) := by decide +kernel
theorem d_P_layReal_108 : decode b_P_layReal 108 = .ok (.ineg, 1) := by decide +kernel
theorem d_P_layReal_109 : decode b_P_layReal 109 = .ok (.iconst 1, 1) := by decide +kernel
theorem d_P_layReal_110 : decode b_P_layReal 110 = .ok (.isub, 1) := by decide +kernel
theorem d_P_layReal_111 : decode b_P_layReal 111 = .ok (.invokevirtual 111, 3) := by decide +kernel
theorem d_P_layReal_114 : decode b_P_layReal 114 = .ok (.aload_n 0, 1) := by decide +kernel
theorem d_P_layReal_115 : decode b_P_layReal 115 = .ok (.getfield 12, 3) := by decide +kernel
theorem d_P_layReal_118 : decode b_P_layReal 118 = .ok (.aload_n 0, 1) := by decide +kernel
theorem d_P_layReal_119 : decode b_P_layReal 119 = .ok (.getfield 24, 3) := by decide +kernel
theorem d_P_layReal_122 : decode b_P_layReal 122 = .ok (.iconst 0, 1) := by decide +kernel
theorem d_P_layReal_123 : decode b_P_layReal 123 = .ok (.aload_n 0, 1) := by decide +kernel
theorem d_P_layReal_124 : decode b_P_layReal 124 = .ok (.getfield 24, 3) := by decide +kernel
theorem d_P_layReal_127 : decode b_P_layReal 127 = .ok (.getfield 88, 3) := by decide +kernel
theorem d_P_layReal_130 : decode b_P_layReal 130 = .ok (.invokevirtual 91, 3) := by decide +kernel
theorem d_P_layReal_133 : decode b_P_layReal 133 = .ok (.goto 68, 3) := by decide +kernel
theorem d_P_layReal_136 : decode b_P_layReal 136 = .ok (.aload_n 0, 1) := by decide +kernel
theorem d_P_layReal_137 : decode b_P_layReal 137 = .ok (.getfield 24, 3) := by decide +kernel
theorem d_P_layReal_140 : decode b_P_layReal 140 = .ok (.bipush 48, 2) := by decide +kernel
theorem d_P_layReal_142 : decode b_P_layReal 142 = .ok (.iload_n 1, 1) := by decide +kernel
theorem d_P_layReal_143 : decode b_P_layReal 143 = .ok (.iconst 2, 1) := by decide +kernel
theorem d_P_layReal_144 : decode b_P_layReal 144 = .ok (.iadd, 1) := by decide +kernel
theorem d_P_layReal_145 : decode b_P_layReal 145 = .ok (.aload_n 0, 1) := by decide +kernel
theorem d_P_layReal_146 : decode b_P_layReal 146 = .ok (.getfield 24, 3) := by decide +kernel
theorem d_P_layReal_149 : decode b_P_layReal 149 = .ok (.getfield 88, 3) := by decide +kernel
theorem d_P_layReal_152 : decode b_P_layReal 152 = .ok (.isub, 1) := by decide +kernel
theorem d_P_layReal_153 : decode b_P_layReal 153 = .ok (.invokevirtual 111, 3) := by decide +kernel
theorem d_P_layReal_156 : decode b_P_layReal 156 = .ok (.aload_n 0, 1) := by decide +kernel
theorem d_P_layReal_157 : decode b_P_layReal 157 = .ok (.getfield 12, 3) := by decide +kernel
theorem d_P_layReal_160 : decode b_P_layReal 160 = .ok (.aload_n 0, 1) := by decide +kernel
theorem d_P_layReal_161 : decode b_P_layReal 161 = .ok (.getfield 24, 3) := by decide +kernel
theorem d_P_layReal_164 : decode b_P_layReal 164 = .ok (.iconst 0, 1) := by decide +kernel
theorem d_P_layReal_165 : decode b_P_layReal 165 = .ok (.iload_n 1, 1) := by decide +kernel
theorem d_P_layReal_166 : decode b_P_layReal 166 = .ok (.iconst 1, 1) := by decide +kernel
theorem d_P_layReal_167 : decode b_P_layReal 167 = .ok (.iadd, 1) := by decide +kernel
theorem d_P_layReal_168 : decode b_P_layReal 168 = .ok (.invokevirtual 91, 3) := by decide +kernel
theorem d_P_layReal_171 : decode b_P_layReal 171 = .ok (.aload_n 0, 1) := by decide +kernel
theorem d_P_layReal_172 : decode b_P_layReal 172 = .ok (.getfield 12, 3) := by decide +kernel
theorem d_P_layReal_175 : decode b_P_layReal 175 = .ok (.bipush 46, 2) := by decide +kernel
theorem d_P_layReal_177 : decode b_P_layReal 177 = .ok (.invokevirtual 49, 3) := by decide +kernel
theorem d_P_layReal_180 : decode b_P_layReal 180 = .ok (.aload_n 0, 1) := by decide +kernel
theorem d_P_layReal_181 : decode b_P_layReal 181 = .ok (.getfield 12, 3) := by decide +kernel
theorem d_P_layReal_184 : decode b_P_layReal 184 = .ok (.aload_n 0, 1) := by decide +kernel
theorem d_P_layReal_185 : decode b_P_layReal 185 = .ok (.getfield 24, 3) := by decide +kernel
theorem d_P_layReal_188 : decode b_P_layReal 188 = .ok (.iload_n 1, 1) := by decide +kernel
theorem d_P_layReal_189 : decode b_P_layReal 189 = .ok (.iconst 1, 1) := by decide +kernel
theorem d_P_layReal_190 : decode b_P_layReal 190 = .ok (.iadd, 1) := by decide +kernel
theorem d_P_layReal_191 : decode b_P_layReal 191 = .ok (.aload_n 0, 1) := by decide +kernel
theorem d_P_layReal_192 : decode b_P_layReal 192 = .ok (.getfield 24, 3) := by decide +kernel
theorem d_P_layReal_195 : decode b_P_layReal 195 = .ok (.getfield 88, 3) := by decide +kernel
theorem d_P_layReal_198 : decode b_P_layReal 198 = .ok (.invokevirtual 91, 3) := by decide +kernel
theorem d_P_layReal_201 : decode b_P_layReal 201 = .ok (.return_, 1) := by decide +kernel
theorem d_P_putExponent_0 : decode b_P_putExponent 0 = .ok (.iload_n 1, 1) := by decide +kernel
theorem d_P_putExponent_1 : decode b_P_putExponent 1 = .ok (.invokestatic 115, 3) := by decide +kernel
theorem d_P_putExponent_4 : decode b_P_putExponent 4 = .ok (.istore_n 3, 1) := by decide +kernel
theorem d_P_putExponent_5 : decode b_P_putExponent 5 = .ok (.aload_n 0, 1) := by decide +kernel
theorem d_P_putExponent_6 : decode b_P_putExponent 6 = .ok (.iload_n 2, 1) := by decide +kernel
theorem d_P_putExponent_7 : decode b_P_putExponent 7 = .ok (.invokevirtual 49, 3) := by decide +kernel
theorem d_P_putExponent_10 : decode b_P_putExponent 10 = .ok (.aload_n 0, 1) := by decide +kernel
theorem d_P_putExponent_11 : decode b_P_putExponent 11 = .ok (.iload_n 1, 1) := by decide +kernel
theorem d_P_putExponent_12 : decode b_P_putExponent 12 = .ok (.ifCond .ge 8, 3) := by decide +kernel
theorem d_P_putExponent_15 : decode b_P_putExponent 15 = .ok (.bipush 45, 2) := by decide +kernel
theorem d_P_putExponent_17 : decode b_P_putExponent 17 = .ok (.goto 5, 3) := by decide +kernel
theorem d_P_putExponent_20 : decode b_P_putExponent 20 = .ok (.bipush 43, 2) := by decide +kernel
theorem d_P_putExponent_22 : decode b_P_putExponent 22 = .ok (.invokevirtual 49, 3) := by decide +kernel
theorem d_P_putExponent_25 : decode b_P_putExponent 25 = .ok (.aload_n 0, 1) := by decide +kernel
theorem d_P_putExponent_26 : decode b_P_putExponent 26 = .ok (.bipush 48, 2) := by decide +kernel
theorem d_P_putExponent_28 : decode b_P_putExponent 28 = .ok (.iload_n 3, 1) := by decide +kernel
theorem d_P_putExponent_29 : decode b_P_putExponent 29 = .ok (.bipush 10, 2) := by decide +kernel
theorem d_P_putExponent_31 : decode b_P_putExponent 31 = .ok (.idiv, 1) := by decide +kernel
theorem d_P_putExponent_32 : decode b_P_putExponent 32 = .ok (.iadd, 1) := by decide +kernel
theorem d_P_putExponent_33 : decode b_P_putExponent 33 = .ok (.invokevirtual 49, 3) := by decide +kernel
theorem d_P_putExponent_36 : decode b_P_putExponent 36 = .ok (.aload_n 0, 1) := by decide +kernel
theorem d_P_putExponent_37 : decode b_P_putExponent 37 = .ok (.bipush 48, 2) := by decide +kernel
theorem d_P_putExponent_39 : decode b_P_putExponent 39 = .ok (.iload_n 3, 1) := by decide +kernel
theorem d_P_putExponent_40 : decode b_P_putExponent 40 = .ok (.bipush 10, 2) := by decide +kernel
theorem d_P_putExponent_42 : decode b_P_putExponent 42 = .ok (.irem, 1) := by decide +kernel
theorem d_P_putExponent_43 : decode b_P_putExponent 43 = .ok (.iadd, 1) := by decide +kernel
theorem d_P_putExponent_44 : decode b_P_putExponent 44 = .ok (.invokevirtual 49, 3) := by decide +kernel
theorem d_P_putExponent_47 : decode b_P_putExponent 47 = .ok (.return_, 1) := by decide +kernel
theorem d_P_setShortestDigits_0 : decode b_P_setShortestDigits 0 = .ok (.aload_n 1, 1) := by decide +kernel
theorem d_P_setShortestDigits_1 : decode b_P_setShortestDigits 1 = .ok (.getfield 67, 3) := by decide +kernel
theorem d_P_setShortestDigits_4 : decode b_P_setShortestDigits 4 = .ok (.invokevirtual 120, 3) := by decide +kernel
theorem d_P_setShortestDigits_7 : decode b_P_setShortestDigits 7 = .ok (.aload_n 1, 1) := by decide +kernel
theorem d_P_setShortestDigits_8 : decode b_P_setShortestDigits 8 = .ok (.getfield 74, 3) := by decide +kernel
theorem d_P_setShortestDigits_11 : decode b_P_setShortestDigits 11 = .ok (.invokevirtual 120, 3) := by decide +kernel
theorem d_P_setShortestDigits_14 : decode b_P_setShortestDigits 14 = .ok (.isub, 1) := by decide +kernel
theorem d_P_setShortestDigits_15 : decode b_P_setShortestDigits 15 = .ok (.istore_n 2, 1) := by decide +kernel
theorem d_P_setShortestDigits_16 : decode b_P_setShortestDigits 16 = .ok (.iload_n 2, 1) := by decide +kernel
theorem d_P_setShortestDigits_17 : decode b_P_setShortestDigits 17 = .ok (.bipush 54, 2) := by decide +kernel
theorem d_P_setShortestDigits_19 : decode b_P_setShortestDigits 19 = .ok (.isub, 1) := by decide +kernel
theorem d_P_setShortestDigits_20 : decode b_P_setShortestDigits 20 = .ok (.istore_n 3, 1) := by decide +kernel
theorem d_P_setShortestDigits_21 : decode b_P_setShortestDigits 21 = .ok (.aload_n 0, 1) := by decide +kernel
theorem d_P_setShortestDigits_22 : decode b_P_setShortestDigits 22 = .ok (.getfield 30, 3) := by decide +kernel
theorem d_P_setShortestDigits_25 : decode b_P_setShortestDigits 25 = .ok (.aload_n 1, 1) := by decide +kernel
theorem d_P_setShortestDigits_26 : decode b_P_setShortestDigits 26 = .ok (.getfield 67, 3) := by decide +kernel
theorem d_P_setShortestDigits_29 : decode b_P_setShortestDigits 29 = .ok (.invokevirtual 81, 3) := by decide +kernel
theorem d_P_setShortestDigits_32 : decode b_P_setShortestDigits 32 = .ok (.aload_n 0, 1) := by decide +kernel
theorem d_P_setShortestDigits_33 : decode b_P_setShortestDigits 33 = .ok (.getfield 30, 3) := by decide +kernel
theorem d_P_setShortestDigits_36 : decode b_P_setShortestDigits 36 = .ok (.bipush 55, 2) := by decide +kernel
theorem d_P_setShortestDigits_38 : decode b_P_setShortestDigits 38 = .ok (.aload_n 1, 1) := by decide +kernel
theorem d_P_setShortestDigits_39 : decode b_P_setShortestDigits 39 = .ok (.getfield 67, 3) := by decide +kernel
theorem d_P_setShortestDigits_42 : decode b_P_setShortestDigits 42 = .ok (.invokevirtual 120, 3) := by decide +kernel
theorem d_P_setShortestDigits_45 : decode b_P_setShortestDigits 45 = .ok (.isub, 1) := by decide +kernel
theorem d_P_setShortestDigits_46 : decode b_P_setShortestDigits 46 = .ok (.invokevirtual 123, 3) := by decide +kernel
theorem d_P_setShortestDigits_49 : decode b_P_setShortestDigits 49 = .ok (.aload_n 0, 1) := by decide +kernel
theorem d_P_setShortestDigits_50 : decode b_P_setShortestDigits 50 = .ok (.getfield 30, 3) := by decide +kernel
theorem d_P_setShortestDigits_53 : decode b_P_setShortestDigits 53 = .ok (.aload_n 1, 1) := by decide +kernel
theorem d_P_setShortestDigits_54 : decode b_P_setShortestDigits 54 = .ok (.getfield 67, 3) := by decide +kernel
theorem d_P_setShortestDigits_57 : decode b_P_setShortestDigits 57 = .ok (.invokevirtual 120, 3) := by decide +kernel
theorem d_P_setShortestDigits_60 : decode b_P_setShortestDigits 60 = .ok (.bipush 55, 2) := by decide +kernel
theorem d_P_setShortestDigits_62 : decode b_P_setShortestDigits 62 = .ok (.isub, 1) := by decide +kernel
theorem d_P_setShortestDigits_63 : decode b_P_setShortestDigits 63 = .ok (.invokevirtual 126, 3) := by decide +kernel
theorem d_P_setShortestDigits_66 : decode b_P_setShortestDigits 66 = .ok (.aload_n 0, 1) := by decide +kernel
theorem d_P_setShortestDigits_67 : decode b_P_setShortestDigits 67 = .ok (.getfield 30, 3) := by decide +kernel
theorem d_P_setShortestDigits_70 : decode b_P_setShortestDigits 70 = .ok (.invokevirtual 129, 3) := by decide +kernel
theorem d_P_setShortestDigits_73 : decode b_P_setShortestDigits 73 = .ok (.lstore 4, 2) := by decide +kernel
theorem d_P_setShortestDigits_75 : decode b_P_setShortestDigits 75 = .ok (.iload_n 2, 1) := by decide +kernel
theorem d_P_setShortestDigits_76 : decode b_P_setShortestDigits 76 = .ok (.invokestatic 133, 3) := by decide +kernel
theorem d_P_setShortestDigits_79 : decode b_P_setShortestDigits 79 = .ok (.istore 6, 2) := by decide +kernel
theorem d_P_setShortestDigits_81 : decode b_P_setShortestDigits 81 = .ok (.aload_n 0, 1) := by decide +kernel
theorem d_P_setShortestDigits_82 : decode b_P_setShortestDigits 82 = .ok (.lload 4, 2) := by decide +kernel
theorem d_P_setShortestDigits_84 : decode b_P_setShortestDigits 84 = .ok (.iload_n 3, 1) := by decide +kernel
theorem d_P_setShortestDigits_85 : decode b_P_setShortestDigits 85 = .ok (.bipush 17, 2) := by decide +kernel
theorem d_P_setShortestDigits_87 : decode b_P_setShortestDigits 87 = .ok (.iload 6, 2) := by decide +kernel
theorem d_P_setShortestDigits_89 : decode b_P_setShortestDigits 89 = .ok (.isub, 1) := by decide +kernel
theorem d_P_setShortestDigits_90 : decode b_P_setShortestDigits 90 = .ok (.invokevirtual 136, 3) := by decide +kernel
theorem d_P_setShortestDigits_93 : decode b_P_setShortestDigits 93 = .ok (.lstore 7, 2) := by decide +kernel
theorem d_P_setShortestDigits_95 : decode b_P_setShortestDigits 95 = .ok (.lload 7, 2) := by decide +kernel
theorem d_P_setShortestDigits_97 : decode b_P_setShortestDigits 97 = .ok (.ldc2_w 140, 3) := by decide +kernel
theorem d_P_setShortestDigits_100 : decode b_P_setShortestDigits 100 = .ok (.lcmp, 1) := by decide +kernel
theorem d_P_setShortestDigits_101 : decode b_P_setShortestDigits 101 = .ok (.ifCond .lt 20, 3) := by decide +kernel
theorem d_P_setShortestDigits_104 : decode b_P_setShortestDigits 104 = .ok (.iinc 6 1, 3) := by decide +kernel
theorem d_P_setShortestDigits_107 : decode b_P_setShortestDigits 107 = .ok (.aload_n 0, 1) := by decide +kernel
theorem d_P_setShortestDigits_108 : decode b_P_setShortestDigits 108 = .ok (.lload 4, 2) := by decide +kernel
theorem d_P_setShortestDigits_110 : decode b_P_setShortestDigits 110 = .ok (.iload_n 3, 1) := by decide +kernel
theorem d_P_setShortestDigits_111 : decode b_P_setShortestDigits 111 = .ok (.bipush 17, 2) := by decide +kernel
theorem d_P_setShortestDigits_113 : decode b_P_setShortestDigits 113 = .ok (.iload 6, 2) := by decide +kernel
theorem d_P_setShortestDigits_115 : decode b_P_setShortestDigits 115 = .ok (.isub, 1) := by decide +kernel
theorem d_P_setShortestDigits_116 : decode b_P_setShortestDigits 116 = .ok (.invokevirtual 136, 3) := by decide +kernel
theorem d_P_setShortestDigits_119 : decode b_P_setShortestDigits 119 = .ok (.lstore 7, 2) := by decide +kernel
theorem d_P_setShortestDigits_121 : decode b_P_setShortestDigits 121 = .ok (.aload_n 0, 1) := by decide +kernel
theorem d_P_setShortestDigits_122 : decode b_P_setShortestDigits 122 = .ok (.getfield 142, 3) := by decide +kernel
theorem d_P_setShortestDigits_125 : decode b_P_setShortestDigits 125 = .ok (.istore 9, 2) := by decide +kernel
theorem d_P_setShortestDigits_127 : decode b_P_setShortestDigits 127 = .ok (.lload 4, 2) := by decide +kernel
theorem d_P_setShortestDigits_129 : decode b_P_setShortestDigits 129 = .ok (.ldc2_w 146, 3) := by decide +kernel
theorem d_P_setShortestDigits_132 : decode b_P_setShortestDigits 132 = .ok (.land, 1) := by decide +kernel
theorem d_P_setShortestDigits_133 : decode b_P_setShortestDigits 133 = .ok (.lconst 0, 1) := by decide +kernel
theorem d_P_setShortestDigits_134 : decode b_P_setShortestDigits 134 = .ok (.lcmp, 1) := by decide +kernel
theorem d_P_setShortestDigits_135 : decode b_P_setShortestDigits 135 = .ok (.ifCond .ne 7, 3) := by decide +kernel
theorem d_P_setShortestDigits_138 : decode b_P_setShortestDigits 138 = .ok (.iconst 1, 1) := by decide +kernel
theorem d_P_setShortestDigits_139 : decode b_P_setShortestDigits 139 = .ok (.goto 4, 3) := by decide +kernel
theorem d_P_setShortestDigits_142 : decode b_P_setShortestDigits 142 = .ok (.iconst 0, 1) := by decide +kernel
theorem d_P_setShortestDigits_143 : decode b_P_setShortestDigits 143 = .ok (.istore 10, 2) := by decide +kernel
theorem d_P_setShortestDigits_145 : decode b_P_setShortestDigits 145 = .ok (.bipush 17, 2) := by decide +kernel
theorem d_P_setShortestDigits_147 : decode b_P_setShortestDigits 147 = .ok (.iload 6, 2) := by decide +kernel
theorem d_P_setShortestDigits_149 : decode b_P_setShortestDigits 149 = .ok (.isub, 1) := by decide +kernel
theorem d_P_setShortestDigits_150 : decode b_P_setShortestDigits 150 = .ok (.istore 11, 2) := by decide +kernel
theorem d_P_setShortestDigits_152 : decode b_P_setShortestDigits 152 = .ok (.lload 4, 2) := by decide +kernel
theorem d_P_setShortestDigits_154 : decode b_P_setShortestDigits 154 = .ok (.ldc2_w 148, 3) := by decide +kernel
theorem d_P_setShortestDigits_157 : decode b_P_setShortestDigits 157 = .ok (.lcmp, 1) := by decide +kernel
theorem d_P_setShortestDigits_158 : decode b_P_setShortestDigits 158 = .ok (.ifCond .ne 7, 3) := by decide +kernel
theorem d_P_setShortestDigits_161 : decode b_P_setShortestDigits 161 = .ok (.lconst 1, 1) := by decide +kernel
theorem d_P_setShortestDigits_162 : decode b_P_setShortestDigits 162 = .ok (.goto 6, 3) := by decide +kernel
theorem d_P_setShortestDigits_165 : decode b_P_setShortestDigits 165 = .ok (.ldc2_w 150, 3) := by decide +kernel
theorem d_P_setShortestDigits_168 : decode b_P_setShortestDigits 168 = .ok (.lstore 12, 2) := by decide +kernel
theorem d_P_setShortestDigits_170 : decode b_P_setShortestDigits 170 = .ok (.aload_n 0, 1) := by decide +kernel
theorem d_P_setShortestDigits_171 : decode b_P_setShortestDigits 171 = .ok (.lload 4, 2) := by decide +kernel
theorem d_P_setShortestDigits_173 : decode b_P_setShortestDigits 173 = .ok (.lload 12, 2) := by decide +kernel
theorem d_P_setShortestDigits_175 : decode b_P_setShortestDigits 175 = .ok (.lsub, 1) := by decide +kernel
theorem d_P_setShortestDigits_176 : decode b_P_setShortestDigits 176 = .ok (.iload_n 3, 1) := by decide +kernel
theorem d_P_setShortestDigits_177 : decode b_P_setShortestDigits 177 = .ok (.iload 11, 2) := by decide +kernel
theorem d_P_setShortestDigits_179 : decode b_P_setShortestDigits 179 = .ok (.invokevirtual 136, 3) := by decide +kernel
theorem d_P_setShortestDigits_182 : decode b_P_setShortestDigits 182 = .ok (.lstore 14, 2) := by decide +kernel
theorem d_P_setShortestDigits_184 : decode b_P_setShortestDigits 184 = .ok (.lload 14, 2) := by decide +kernel
theorem d_P_setShortestDigits_186 : decode b_P_setShortestDigits 186 = .ok (.aload_n 0, 1) := by decide +kernel
theorem d_P_setShortestDigits_187 : decode b_P_setShortestDigits 187 = .ok (.getfield 142, 3) := by decide +kernel
theorem d_P_setShortestDigits_190 : decode b_P_setShortestDigits 190 = .ok (.ifCond .eq 12, 3) := by decide +kernel
theorem d_P_setShortestDigits_193 : decode b_P_setShortestDigits 193 = .ok (.iload 10, 2) := by decide +kernel
theorem d_P_setShortestDigits_195 : decode b_P_setShortestDigits 195 = .ok (.ifCond .eq 7, 3) := by decide +kernel
theorem d_P_setShortestDigits_198 : decode b_P_setShortestDigits 198 = .ok (.lconst 0, 1) := by decide +kernel
theorem d_P_setShortestDigits_199 : decode b_P_setShortestDigits 199 = .ok (.goto 4, 3) := by decide +kernel
theorem d_P_setShortestDigits_202 : decode b_P_setShortestDigits 202 = .ok (.lconst 1, 1) := by decide +kernel
theorem d_P_setShortestDigits_203 : decode b_P_setShortestDigits 203 = .ok (.ladd, 1) := by decide +kernel
theorem d_P_setShortestDigits_204 : decode b_P_setShortestDigits 204 = .ok (.lstore 14, 2) := by decide +kernel
theorem d_P_setShortestDigits_206 : decode b_P_setShortestDigits 206 = .ok (.aload_n 0, 1) := by decide +kernel
theorem d_P_setShortestDigits_207 : decode b_P_setShortestDigits 207 = .ok (.lload 4, 2) := by decide +kernel
theorem d_P_setShortestDigits_209 : decode b_P_setShortestDigits 209 = .ok (.ldc2_w 150, 3) := by decide +kernel
theorem d_P_setShortestDigits_212 : decode b_P_setShortestDigits 212 = .ok (.ladd, 1) := by decide +kernel
theorem d_P_setShortestDigits_213 : decode b_P_setShortestDigits 213 = .ok (.iload_n 3, 1) := by decide +kernel
theorem d_P_setShortestDigits_214 : decode b_P_setShortestDigits 214 = .ok (.iload 11, 2) := by decide +kernel
theorem d_P_setShortestDigits_216 : decode b_P_setShortestDigits 216 = .ok (.invokevirtual 136, 3) := by decide +kernel
theorem d_P_setShortestDigits_219 : decode b_P_setShortestDigits 219 = .ok (.lstore 16, 2) := by decide +kernel
theorem d_P_setShortestDigits_221 : decode b_P_setShortestDigits 221 = .ok (.lload 16, 2) := by decide +kernel
theorem d_P_setShortestDigits_223 : decode b_P_setShortestDigits 223 = .ok (.aload_n 0, 1) := by decide +kernel
theorem d_P_setShortestDigits_224 : decode b_P_setShortestDigits 224 = .ok (.getfield 142, 3) := by decide +kernel
theorem d_P_setShortestDigits_227 : decode b_P_setShortestDigits 227 = .ok (.ifCond .eq 12, 3) := by decide +kernel
theorem d_P_setShortestDigits_230 : decode b_P_setShortestDigits 230 = .ok (.iload 10, 2) := by decide +kernel
theorem d_P_setShortestDigits_232 : decode b_P_setShortestDigits 232 = .ok (.ifCond .ne 7, 3) := by decide +kernel
theorem d_P_setShortestDigits_235 : decode b_P_setShortestDigits 235 = .ok (.lconst 1, 1) := by decide +kernel
theorem d_P_setShortestDigits_236 : decode b_P_setShortestDigits 236 = .ok (.goto 4, 3) := by decide +kernel
theorem d_P_setShortestDigits_239 : decode b_P_setShortestDigits 239 = .ok (.lconst 0, 1) := by decide +kernel
theorem d_P_setShortestDigits_240 : decode b_P_setShortestDigits 240 = .ok (.lsub, 1) := by decide +kernel
theorem d_P_setShortestDigits_241 : decode b_P_setShortestDigits 241 = .ok (.lstore 16, 2) := by decide +kernel
theorem d_P_setShortestDigits_243 : decode b_P_setShortestDigits 243 = .ok (.aload_n 0, 1) := by decide +kernel
theorem d_P_setShortestDigits_244 : decode b_P_setShortestDigits 244 = .ok (.getfield 30, 3) := by decide +kernel
theorem d_P_setShortestDigits_247 : decode b_P_setShortestDigits 247 = .ok (.lload 14, 2) := by decide +kernel
theorem d_P_setShortestDigits_249 : decode b_P_setShortestDigits 249 = .ok (.lload 16, 2) := by decide +kernel
theorem d_P_setShortestDigits_251 : decode b_P_setShortestDigits 251 = .ok (.lload 7, 2) := by decide +kernel
theorem d_P_setShortestDigits_253 : decode b_P_setShortestDigits 253 = .ok (.iload 9, 2) := by decide +kernel
theorem d_P_setShortestDigits_255 : decode b_P_setShortestDigits 255 = .ok (.invokestatic 152, 3) := by decide +kernel
theorem d_P_setShortestDigits_258 : decode b_P_setShortestDigits 258 = .ok (.invokevirtual 156, 3) := by decide +kernel
theorem d_P_setShortestDigits_261 : decode b_P_setShortestDigits 261 = .ok (.aload_n 0, 1) := by decide +kernel
theorem d_P_setShortestDigits_262 : decode b_P_setShortestDigits 262 = .ok (.bipush 10, 2) := by decide +kernel
theorem d_P_setShortestDigits_264 : decode b_P_setShortestDigits 264 = .ok (.bipush 97, 2) := by decide +kernel
theorem d_P_setShortestDigits_266 : decode b_P_setShortestDigits 266 = .ok (.iconst 1, 1) := by decide +kernel
theorem d_P_setShortestDigits_267 : decode b_P_setShortestDigits 267 = .ok (.invokevirtual 84, 3) := by decide +kernel
theorem d_P_setShortestDigits_270 : decode b_P_setShortestDigits 270 = .ok (.iload 6, 2) := by decide +kernel
theorem d_P_setShortestDigits_272 : decode b_P_setShortestDigits 272 = .ok (.aload_n 0, 1) := by decide +kernel
theorem d_P_setShortestDigits_273 : decode b_P_setShortestDigits 273 = .ok (.getfield 24, 3) := by decide +kernel
theorem d_P_setShortestDigits_276 : decode b_P_setShortestDigits 276 = .ok (.getfield 88, 3) := by decide +kernel
theorem d_P_setShortestDigits_279 : decode b_P_setShortestDigits 279 = .ok (.bipush 18, 2) := by decide +kernel
theorem d_P_setShortestDigits_281 : decode b_P_setShortestDigits 281 = .ok (.isub, 1) := by decide +kernel
theorem d_P_setShortestDigits_282 : decode b_P_setShortestDigits 282 = .ok (.iadd, 1) := by decide +kernel
theorem d_P_setShortestDigits_283 : decode b_P_setShortestDigits 283 = .ok (.istore 6, 2) := by decide +kernel
theorem d_P_setShortestDigits_285 : decode b_P_setShortestDigits 285 = .ok (.aload_n 0, 1) := by decide +kernel
theorem d_P_setShortestDigits_286 : decode b_P_setShortestDigits 286 = .ok (.getfield 24, 3) := by decide +kernel
theorem d_P_setShortestDigits_289 : decode b_P_setShortestDigits 289 = .ok (.bipush 18, 2) := by decide +kernel
theorem d_P_setShortestDigits_291 : decode b_P_setShortestDigits 291 = .ok (.invokevirtual 160, 3) := by decide +kernel
theorem d_P_setShortestDigits_294 : decode b_P_setShortestDigits 294 = .ok (.pop, 1) := by decide +kernel
theorem d_P_setShortestDigits_295 : decode b_P_setShortestDigits 295 = .ok (.iload 6, 2) := by decide +kernel
theorem d_P_setShortestDigits_297 : decode b_P_setShortestDigits 297 = .ok (.ireturn, 1) := by decide +kernel
theorem d_P_leastExponent_0 : decode b_P_leastExponent 0 = .ok (.iload_n 0, 1) := by decide +kernel
theorem d_P_leastExponent_1 : decode b_P_leastExponent 1 = .ok (.sipush 30103, 3) := by decide +kernel
theorem d_P_leastExponent_4 : decode b_P_leastExponent 4 = .ok (.imul, 1) := by decide +kernel
theorem d_P_leastExponent_5 : decode b_P_leastExponent 5 = .ok (.iconst 1, 1) := by decide +kernel
theorem d_P_leastExponent_6 : decode b_P_leastExponent 6 = .ok (.isub, 1) := by decide +kernel
theorem d_P_leastExponent_7 : decode b_P_leastExponent 7 = .ok (.ldc 163, 2) := by decide +kernel
theorem d_P_leastExponent_9 : decode b_P_leastExponent 9 = .ok (.invokestatic 164, 3) := by decide +kernel
theorem d_P_leastExponent_12 : decode b_P_leastExponent 12 = .ok (.ireturn, 1) := by decide +kernel
theorem d_P_scaledFloor_0 : decode b_P_scaledFloor 0 = .ok (.aload_n 0, 1) := by decide +kernel
theorem d_P_scaledFloor_1 : decode b_P_scaledFloor 1 = .ok (.getfield 30, 3) := by decide +kernel
theorem d_P_scaledFloor_4 : decode b_P_scaledFloor 4 = .ok (.lload_n 1, 1) := by decide +kernel
theorem d_P_scaledFloor_5 : decode b_P_scaledFloor 5 = .ok (.invokevirtual 156, 3) := by decide +kernel
theorem d_P_scaledFloor_8 : decode b_P_scaledFloor 8 = .ok (.aload_n 0, 1) := by decide +kernel
theorem d_P_scaledFloor_9 : decode b_P_scaledFloor 9 = .ok (.getfield 34, 3) := by decide +kernel
theorem d_P_scaledFloor_12 : decode b_P_scaledFloor 12 = .ok (.lconst 1, 1) := by decide +kernel
theorem d_P_scaledFloor_13 : decode b_P_scaledFloor 13 = .ok (.invokevirtual 156, 3) := by decide +kernel
theorem d_P_scaledFloor_16 : decode b_P_scaledFloor 16 = .ok (.aload_n 0, 1) := by decide +kernel
theorem d_P_scaledFloor_17 : decode b_P_scaledFloor 17 = .ok (.getfield 30, 3) := by decide +kernel
theorem d_P_scaledFloor_20 : decode b_P_scaledFloor 20 = .ok (.iload 4, 2) := by decide +kernel
theorem d_P_scaledFloor_22 : decode b_P_scaledFloor 22 = .ok (.invokevirtual 168, 3) := by decide +kernel
theorem d_P_scaledFloor_25 : decode b_P_scaledFloor 25 = .ok (.aload_n 0, 1) := by decide +kernel
theorem d_P_scaledFloor_26 : decode b_P_scaledFloor 26 = .ok (.getfield 34, 3) := by decide +kernel
theorem d_P_scaledFloor_29 : decode b_P_scaledFloor 29 = .ok (.iload 4, 2) := by decide +kernel
theorem d_P_scaledFloor_31 : decode b_P_scaledFloor 31 = .ok (.ineg, 1) := by decide +kernel
theorem d_P_scaledFloor_32 : decode b_P_scaledFloor 32 = .ok (.invokevirtual 168, 3) := by decide +kernel
theorem d_P_scaledFloor_35 : decode b_P_scaledFloor 35 = .ok (.aload_n 0, 1) := by decide +kernel
theorem d_P_scaledFloor_36 : decode b_P_scaledFloor 36 = .ok (.getfield 30, 3) := by decide +kernel
theorem d_P_scaledFloor_39 : decode b_P_scaledFloor 39 = .ok (.iload_n 3, 1) := by decide +kernel
theorem d_P_scaledFloor_40 : decode b_P_scaledFloor 40 = .ok (.invokevirtual 123, 3) := by decide +kernel
theorem d_P_scaledFloor_43 : decode b_P_scaledFloor 43 = .ok (.aload_n 0, 1) := by decide +kernel
theorem d_P_scaledFloor_44 : decode b_P_scaledFloor 44 = .ok (.getfield 34, 3) := by decide +kernel
theorem d_P_scaledFloor_47 : decode b_P_scaledFloor 47 = .ok (.iload_n 3, 1) := by decide +kernel
theorem d_P_scaledFloor_48 : decode b_P_scaledFloor 48 = .ok (.ineg, 1) := by decide +kernel
theorem d_P_scaledFloor_49 : decode b_P_scaledFloor 49 = .ok (.invokevirtual 123, 3) := by decide +kernel
theorem d_P_scaledFloor_52 : decode b_P_scaledFloor 52 = .ok (.aload_n 0, 1) := by decide +kernel
theorem d_P_scaledFloor_53 : decode b_P_scaledFloor 53 = .ok (.getfield 30, 3) := by decide +kernel
theorem d_P_scaledFloor_56 : decode b_P_scaledFloor 56 = .ok (.aload_n 0, 1) := by decide +kernel
theorem d_P_scaledFloor_57 : decode b_P_scaledFloor 57 = .ok (.getfield 34, 3) := by decide +kernel
theorem d_P_scaledFloor_60 : decode b_P_scaledFloor 60 = .ok (.aload_n 0, 1) := by decide +kernel
theorem d_P_scaledFloor_61 : decode b_P_scaledFloor 61 = .ok (.getfield 37, 3) := by decide +kernel
theorem d_P_scaledFloor_64 : decode b_P_scaledFloor 64 = .ok (.invokevirtual 171, 3) := by decide +kernel
theorem d_P_scaledFloor_67 : decode b_P_scaledFloor 67 = .ok (.aload_n 0, 1) := by decide +kernel
theorem d_P_scaledFloor_68 : decode b_P_scaledFloor 68 = .ok (.aload_n 0, 1) := by decide +kernel
theorem d_P_scaledFloor_69 : decode b_P_scaledFloor 69 = .ok (.getfield 30, 3) := by decide +kernel
theorem d_P_scaledFloor_72 : decode b_P_scaledFloor 72 = .ok (.invokevirtual 95, 3) := by decide +kernel
theorem d_P_scaledFloor_75 : decode b_P_scaledFloor 75 = .ok (.putfield 142, 3) := by decide +kernel
theorem d_P_scaledFloor_78 : decode b_P_scaledFloor 78 = .ok (.aload_n 0, 1) := by decide +kernel
theorem d_P_scaledFloor_79 : decode b_P_scaledFloor 79 = .ok (.getfield 37, 3) := by decide +kernel
theorem d_P_scaledFloor_82 : decode b_P_scaledFloor 82 = .ok (.invokevirtual 129, 3) := by decide +kernel
theorem d_P_scaledFloor_85 : decode b_P_scaledFloor 85 = .ok (.lreturn, 1) := by decide +kernel
theorem d_P_shortestBetween_0 : decode b_P_shortestBetween 0 = .ok (.ldc2_w 140, 3) := by decide +kernel
theorem d_P_shortestBetween_3 : decode b_P_shortestBetween 3 = .ok (.lstore 7, 2) := by decide +kernel
theorem d_P_shortestBetween_5 : decode b_P_shortestBetween 5 = .ok (.iconst 0, 1) := by decide +kernel
theorem d_P_shortestBetween_6 : decode b_P_shortestBetween 6 = .ok (.istore 9, 2) := by decide +kernel
theorem d_P_shortestBetween_8 : decode b_P_shortestBetween 8 = .ok (.iload 9, 2) := by decide +kernel
theorem d_P_shortestBetween_10 : decode b_P_shortestBetween 10 = .ok (.bipush 18, 2) := by decide +kernel
theorem d_P_shortestBetween_12 : decode b_P_shortestBetween 12 = .ok (.if_icmp .ge 97, 3) := by decide +kernel
theorem d_P_shortestBetween_15 : decode b_P_shortestBetween 15 = .ok (.lload 7, 2) := by decide +kernel
theorem d_P_shortestBetween_17 : decode b_P_shortestBetween 17 = .ok (.ldc2_w 175, 3) := by decide +kernel
theorem d_P_shortestBetween_20 : decode b_P_shortestBetween 20 = .ok (.ldiv, 1) := by decide +kernel
theorem d_P_shortestBetween_21 : decode b_P_shortestBetween 21 = .ok (.lstore 7, 2) := by decide +kernel
theorem d_P_shortestBetween_23 : decode b_P_shortestBetween 23 = .ok (.lload 7, 2) := by decide +kernel
theorem d_P_shortestBetween_25 : decode b_P_shortestBetween 25 = .ok (.lconst 1, 1) := by decide +kernel
theorem d_P_shortestBetween_26 : decode b_P_shortestBetween 26 = .ok (.lcmp, 1) := by decide +kernel
theorem d_P_shortestBetween_27 : decode b_P_shortestBetween 27 = .ok (.ifCond .ge 6, 3) := by decide +kernel
theorem d_P_shortestBetween_30 : decode b_P_shortestBetween 30 = .ok (.goto 79, 3) := by decide +kernel
theorem d_P_shortestBetween_33 : decode b_P_shortestBetween 33 = .ok (.lload 4, 2) := by decide +kernel
theorem d_P_shortestBetween_35 : decode b_P_shortestBetween 35 = .ok (.lload 4, 2) := by decide +kernel
theorem d_P_shortestBetween_37 : decode b_P_shortestBetween 37 = .ok (.lload 7, 2) := by decide +kernel
theorem d_P_shortestBetween_39 : decode b_P_shortestBetween 39 = .ok (.lrem, 1) := by decide +kernel
theorem d_P_shortestBetween_40 : decode b_P_shortestBetween 40 = .ok (.lsub, 1) := by decide +kernel
theorem d_P_shortestBetween_41 : decode b_P_shortestBetween 41 = .ok (.lstore 10, 2) := by decide +kernel
theorem d_P_shortestBetween_43 : decode b_P_shortestBetween 43 = .ok (.lload 10, 2) := by decide +kernel
theorem d_P_shortestBetween_45 : decode b_P_shortestBetween 45 = .ok (.lload 7, 2) := by decide +kernel
theorem d_P_shortestBetween_47 : decode b_P_shortestBetween 47 = .ok (.ladd, 1) := by decide +kernel
theorem d_P_shortestBetween_48 : decode b_P_shortestBetween 48 = .ok (.lstore 12, 2) := by decide +kernel
theorem d_P_shortestBetween_50 : decode b_P_shortestBetween 50 = .ok (.lload 10, 2) := by decide +kernel
theorem d_P_shortestBetween_52 : decode b_P_shortestBetween 52 = .ok (.lload_n 0, 1) := by decide +kernel
theorem d_P_shortestBetween_53 : decode b_P_shortestBetween 53 = .ok (.lcmp, 1) := by decide +kernel
theorem d_P_shortestBetween_54 : decode b_P_shortestBetween 54 = .ok (.ifCond .ge 13, 3) := by decide +kernel
theorem d_P_shortestBetween_57 : decode b_P_shortestBetween 57 = .ok (.lload 12, 2) := by decide +kernel
theorem d_P_shortestBetween_59 : decode b_P_shortestBetween 59 = .ok (.lload_n 2, 1) := by decide +kernel
theorem d_P_shortestBetween_60 : decode b_P_shortestBetween 60 = .ok (.lcmp, 1) := by decide +kernel
theorem d_P_shortestBetween_61 : decode b_P_shortestBetween 61 = .ok (.ifCond .gt 6, 3) := by decide +kernel
theorem d_P_shortestBetween_64 : decode b_P_shortestBetween 64 = .ok (.lload 12, 2) := by decide +kernel
theorem d_P_shortestBetween_66 : decode b_P_shortestBetween 66 = .ok (.lreturn, 1) := by decide +kernel
theorem d_P_shortestBetween_67 : decode b_P_shortestBetween 67 = .ok (.lload 10, 2) := by decide +kernel
theorem d_P_shortestBetween_69 : decode b_P_shortestBetween 69 = .ok (.lload_n 0, 1) := by decide +kernel
theorem d_P_shortestBetween_70 : decode b_P_shortestBetween 70 = .ok (.lcmp, 1) := by decide +kernel
theorem d_P_shortestBetween_71 : decode b_P_shortestBetween 71 = .ok (.ifCond .lt 13, 3) := by decide +kernel
theorem d_P_shortestBetween_74 : decode b_P_shortestBetween 74 = .ok (.lload 12, 2) := by decide +kernel
theorem d_P_shortestBetween_76 : decode b_P_shortestBetween 76 = .ok (.lload_n 2, 1) := by decide +kernel
theorem d_P_shortestBetween_77 : decode b_P_shortestBetween 77 = .ok (.lcmp, 1) := by decide +kernel
theorem d_P_shortestBetween_78 : decode b_P_shortestBetween 78 = .ok (.ifCond .le 6, 3) := by decide +kernel
theorem d_P_shortestBetween_81 : decode b_P_shortestBetween 81 = .ok (.lload 10, 2) := by decide +kernel
theorem d_P_shortestBetween_83 : decode b_P_shortestBetween 83 = .ok (.lreturn, 1) := by decide +kernel
theorem d_P_shortestBetween_84 : decode b_P_shortestBetween 84 = .ok (.lload 10, 2) := by decide +kernel
theorem d_P_shortestBetween_86 : decode b_P_shortestBetween 86 = .ok (.lload_n 0, 1) := by decide +kernel
theorem d_P_shortestBetween_87 : decode b_P_shortestBetween 87 = .ok (.lcmp, 1) := by decide +kernel
theorem d_P_shortestBetween_88 : decode b_P_shortestBetween 88 = .ok (.ifCond .lt 15, 3) := by decide +kernel
theorem d_P_shortestBetween_91 : decode b_P_shortestBetween 91 = .ok (.lload 10, 2) := by decide +kernel
theorem d_P_shortestBetween_93 : decode b_P_shortestBetween 93 = .ok (.lload 7, 2) := by decide +kernel
theorem d_P_shortestBetween_95 : decode b_P_shortestBetween 95 = .ok (.lload 4, 2) := by decide +kernel
theorem d_P_shortestBetween_97 : decode b_P_shortestBetween 97 = .ok (.iload 6, 2) := by decide +kernel
theorem d_P_shortestBetween_99 : decode b_P_shortestBetween 99 = .ok (.invokestatic 177, 3) := by decide +kernel
theorem d_P_shortestBetween_102 : decode b_P_shortestBetween 102 = .ok (.lreturn, 1) := by decide +kernel
theorem d_P_shortestBetween_103 : decode b_P_shortestBetween 103 = .ok (.iinc 9 1, 3) := by decide +kernel
theorem d_P_shortestBetween_106 : decode b_P_shortestBetween 106 = .ok (.goto (-98), 3) := by decide +kernel
theorem d_P_shortestBetween_109 : decode b_P_shortestBetween 109 = .ok (.lload 4, 2) := by decide +kernel
theorem d_P_shortestBetween_111 : decode b_P_shortestBetween 111 = .ok (.lreturn, 1) := by decide +kernel
theorem d_P_nearerOf_0 : decode b_P_nearerOf 0 = .ok (.ldc2_w 150, 3) := by decide +kernel
theorem d_P_nearerOf_3 : decode b_P_nearerOf 3 = .ok (.lload 4, 2) := by decide +kernel
theorem d_P_nearerOf_5 : decode b_P_nearerOf 5 = .ok (.lload_n 0, 1) := by decide +kernel
theorem d_P_nearerOf_6 : decode b_P_nearerOf 6 = .ok (.lsub, 1) := by decide +kernel
theorem d_P_nearerOf_7 : decode b_P_nearerOf 7 = .ok (.lmul, 1) := by decide +kernel
theorem d_P_nearerOf_8 : decode b_P_nearerOf 8 = .ok (.lstore 7, 2) := by decide +kernel
theorem d_P_nearerOf_10 : decode b_P_nearerOf 10 = .ok (.lload_n 2, 1) := by decide +kernel
theorem d_P_nearerOf_11 : decode b_P_nearerOf 11 = .ok (.lconst 0, 1) := by decide +kernel
theorem d_P_nearerOf_12 : decode b_P_nearerOf 12 = .ok (.lcmp, 1) := by decide +kernel
theorem d_P_nearerOf_13 : decode b_P_nearerOf 13 = .ok (.ifCond .le 35, 3) := by decide +kernel
theorem d_P_nearerOf_16 : decode b_P_nearerOf 16 = .ok (.lload 7, 2) := by decide +kernel
theorem d_P_nearerOf_18 : decode b_P_nearerOf 18 = .ok (.lload_n 2, 1) := by decide +kernel
theorem d_P_nearerOf_19 : decode b_P_nearerOf 19 = .ok (.lcmp, 1) := by decide +kernel
theorem d_P_nearerOf_20 : decode b_P_nearerOf 20 = .ok (.ifCond .ne 28, 3) := by decide +kernel
theorem d_P_nearerOf_23 : decode b_P_nearerOf 23 = .ok (.iload 6, 2) := by decide +kernel
theorem d_P_nearerOf_25 : decode b_P_nearerOf 25 = .ok (.ifCond .eq 23, 3) := by decide +kernel
theorem d_P_nearerOf_28 : decode b_P_nearerOf 28 = .ok (.lload_n 0, 1) := by decide +kernel
theorem d_P_nearerOf_29 : decode b_P_nearerOf 29 = .ok (.lload_n 2, 1) := by decide +kernel
theorem d_P_nearerOf_30 : decode b_P_nearerOf 30 = .ok (.ldiv, 1) := by decide +kernel
theorem d_P_nearerOf_31 : decode b_P_nearerOf 31 = .ok (.ldc2_w 150, 3) := by decide +kernel
theorem d_P_nearerOf_34 : decode b_P_nearerOf 34 = .ok (.lrem, 1) := by decide +kernel
theorem d_P_nearerOf_35 : decode b_P_nearerOf 35 = .ok (.lconst 0, 1) := by decide +kernel
theorem d_P_nearerOf_36 : decode b_P_nearerOf 36 = .ok (.lcmp, 1) := by decide +kernel
theorem d_P_nearerOf_37 : decode b_P_nearerOf 37 = .ok (.ifCond .ne 7, 3) := by decide +kernel
theorem d_P_nearerOf_40 : decode b_P_nearerOf 40 = .ok (.lload_n 0, 1) := by decide +kernel
theorem d_P_nearerOf_41 : decode b_P_nearerOf 41 = .ok (.goto 6, 3) := by decide +kernel
theorem d_P_nearerOf_44 : decode b_P_nearerOf 44 = .ok (.lload_n 0, 1) := by decide +kernel
theorem d_P_nearerOf_45 : decode b_P_nearerOf 45 = .ok (.lload_n 2, 1) := by decide +kernel
theorem d_P_nearerOf_46 : decode b_P_nearerOf 46 = .ok (.ladd, 1) := by decide +kernel
theorem d_P_nearerOf_47 : decode b_P_nearerOf 47 = .ok (.lreturn, 1) := by decide +kernel
theorem d_P_nearerOf_48 : decode b_P_nearerOf 48 = .ok (.lload 7, 2) := by decide +kernel
theorem d_P_nearerOf_50 : decode b_P_nearerOf 50 = .ok (.lload_n 2, 1) := by decide +kernel
theorem d_P_nearerOf_51 : decode b_P_nearerOf 51 = .ok (.lcmp, 1) := by decide +kernel
theorem d_P_nearerOf_52 : decode b_P_nearerOf 52 = .ok (.ifCond .ge 7, 3) := by decide +kernel
theorem d_P_nearerOf_55 : decode b_P_nearerOf 55 = .ok (.lload_n 0, 1) := by decide +kernel
theorem d_P_nearerOf_56 : decode b_P_nearerOf 56 = .ok (.goto 6, 3) := by decide +kernel
theorem d_P_nearerOf_59 : decode b_P_nearerOf 59 = .ok (.lload_n 0, 1) := by decide +kernel
theorem d_P_nearerOf_60 : decode b_P_nearerOf 60 = .ok (.lload_n 2, 1) := by decide +kernel
theorem d_P_nearerOf_61 : decode b_P_nearerOf 61 = .ok (.ladd, 1) := by decide +kernel
theorem d_P_nearerOf_62 : decode b_P_nearerOf 62 = .ok (.lreturn, 1) := by decide +kernel
theorem d_P_formatNumber_0 : decode b_P_formatNumber 0 = .ok (.aload_n 0, 1) := by decide +kernel
theorem d_P_formatNumber_1 : decode b_P_formatNumber 1 = .ok (.getfield 18, 3) := by decide +kernel
theorem d_P_formatNumber_4 : decode b_P_formatNumber 4 = .ok (.invokevirtual 40, 3) := by decide +kernel
theorem d_P_formatNumber_7 : decode b_P_formatNumber 7 = .ok (.aload_n 0, 1) := by decide +kernel
theorem d_P_formatNumber_8 : decode b_P_formatNumber 8 = .ok (.getfield 21, 3) := by decide +kernel
theorem d_P_formatNumber_11 : decode b_P_formatNumber 11 = .ok (.invokevirtual 40, 3) := by decide +kernel
theorem d_P_formatNumber_14 : decode b_P_formatNumber 14 = .ok (.aload_n 1, 1) := by decide +kernel
theorem d_P_formatNumber_15 : decode b_P_formatNumber 15 = .ok (.getfield 43, 3) := by decide +kernel
theorem d_P_formatNumber_18 : decode b_P_formatNumber 18 = .ok (.ifCond .ge 15, 3) := by decide +kernel
theorem d_P_formatNumber_21 : decode b_P_formatNumber 21 = .ok (.aload_n 0, 1) := by decide +kernel
theorem d_P_formatNumber_22 : decode b_P_formatNumber 22 = .ok (.getfield 18, 3) := by decide +kernel
theorem d_P_formatNumber_25 : decode b_P_formatNumber 25 = .ok (.bipush 45, 2) := by decide +kernel
theorem d_P_formatNumber_27 : decode b_P_formatNumber 27 = .ok (.invokevirtual 49, 3) := by decide +kernel
theorem d_P_formatNumber_30 : decode b_P_formatNumber 30 = .ok (.goto 32, 3) := by decide +kernel
theorem d_P_formatNumber_33 : decode b_P_formatNumber 33 = .ok (.aload_n 2, 1) := by decide +kernel
theorem d_P_formatNumber_34 : decode b_P_formatNumber 34 = .ok (.getfield 180, 3) := by decide +kernel
theorem d_P_formatNumber_37 : decode b_P_formatNumber 37 = .ok (.bipush 43, 2) := by decide +kernel
theorem d_P_formatNumber_39 : decode b_P_formatNumber 39 = .ok (.if_icmp .eq 12, 3) := by decide +kernel
theorem d_P_formatNumber_42 : decode b_P_formatNumber 42 = .ok (.aload_n 2, 1) := by decide +kernel
theorem d_P_formatNumber_43 : decode b_P_formatNumber 43 = .ok (.getfield 180, 3) := by decide +kernel
theorem d_P_formatNumber_46 : decode b_P_formatNumber 46 = .ok (.bipush 32, 2) := by decide +kernel
theorem d_P_formatNumber_48 : decode b_P_formatNumber 48 = .ok (.if_icmp .ne 14, 3) := by decide +kernel
theorem d_P_formatNumber_51 : decode b_P_formatNumber 51 = .ok (.aload_n 0, 1) := by decide +kernel
theorem d_P_formatNumber_52 : decode b_P_formatNumber 52 = .ok (.getfield 18, 3) := by decide +kernel
theorem d_P_formatNumber_55 : decode b_P_formatNumber 55 = .ok (.aload_n 2, 1) := by decide +kernel
theorem d_P_formatNumber_56 : decode b_P_formatNumber 56 = .ok (.getfield 180, 3) := by decide +kernel
theorem d_P_formatNumber_59 : decode b_P_formatNumber 59 = .ok (.invokevirtual 49, 3) := by decide +kernel
theorem d_P_formatNumber_62 : decode b_P_formatNumber 62 = .ok (.aload_n 2, 1) := by decide +kernel
theorem d_P_formatNumber_63 : decode b_P_formatNumber 63 = .ok (.getfield 185, 3) := by decide +kernel
theorem d_P_formatNumber_66 : decode b_P_formatNumber 66 = .ok (.ifCond .ge 8, 3) := by decide +kernel
theorem d_P_formatNumber_69 : decode b_P_formatNumber 69 = .ok (.bipush 6, 2) := by decide +kernel
theorem d_P_formatNumber_71 : decode b_P_formatNumber 71 = .ok (.goto 7, 3) := by decide +kernel
theorem d_P_formatNumber_74 : decode b_P_formatNumber 74 = .ok (.aload_n 2, 1) := by decide +kernel
theorem d_P_formatNumber_75 : decode b_P_formatNumber 75 = .ok (.getfield 185, 3) := by decide +kernel
theorem d_P_formatNumber_78 : decode b_P_formatNumber 78 = .ok (.istore_n 3, 1) := by decide +kernel
theorem d_P_formatNumber_79 : decode b_P_formatNumber 79 = .ok (.aload_n 2, 1) := by decide +kernel
theorem d_P_formatNumber_80 : decode b_P_formatNumber 80 = .ok (.getfield 188, 3) := by decide +kernel
theorem d_P_formatNumber_83 : decode b_P_formatNumber 83 = .ok (.lookupswitch 158 #[(37, 83), (69, 120), (71, 134), (101, 120), (102, 57), (103, 134)], 57) := by decide +kernel
theorem d_P_formatNumber_140 : decode b_P_formatNumber 140 = .ok (.aload_n 0, 1) := by decide +kernel
theorem d_P_formatNumber_141 : decode b_P_formatNumber 141 = .ok (.aload_n 1, 1) := by decide +kernel
theorem d_P_formatNumber_142 : decode b_P_formatNumber 142 = .ok (.iload_n 3, 1) := by decide +kernel
theorem d_P_formatNumber_143 : decode b_P_formatNumber 143 = .ok (.invokevirtual 191, 3) := by decide +kernel
theorem d_P_formatNumber_146 : decode b_P_formatNumber 146 = .ok (.aload_n 0, 1) := by decide +kernel
theorem d_P_formatNumber_147 : decode b_P_formatNumber 147 = .ok (.bipush 10, 2) := by decide +kernel
theorem d_P_formatNumber_149 : decode b_P_formatNumber 149 = .ok (.bipush 97, 2) := by decide +kernel
theorem d_P_formatNumber_151 : decode b_P_formatNumber 151 = .ok (.iload_n 3, 1) := by decide +kernel
theorem d_P_formatNumber_152 : decode b_P_formatNumber 152 = .ok (.iconst 1, 1) := by decide +kernel
theorem d_P_formatNumber_153 : decode b_P_formatNumber 153 = .ok (.iadd, 1) := by decide +kernel
theorem d_P_formatNumber_154 : decode b_P_formatNumber 154 = .ok (.invokevirtual 84, 3) := by decide +kernel
theorem d_P_formatNumber_157 : decode b_P_formatNumber 157 = .ok (.aload_n 0, 1) := by decide +kernel
theorem d_P_formatNumber_158 : decode b_P_formatNumber 158 = .ok (.iload_n 3, 1) := by decide +kernel
theorem d_P_formatNumber_159 : decode b_P_formatNumber 159 = .ok (.aload_n 2, 1) := by decide +kernel
theorem d_P_formatNumber_160 : decode b_P_formatNumber 160 = .ok (.invokevirtual 195, 3) := by decide +kernel
theorem d_P_formatNumber_163 : decode b_P_formatNumber 163 = .ok (.goto 84, 3) := by decide +kernel
theorem d_P_formatNumber_166 : decode b_P_formatNumber 166 = .ok (.aload_n 0, 1) := by decide +kernel
theorem d_P_formatNumber_167 : decode b_P_formatNumber 167 = .ok (.aload_n 1, 1) := by decide +kernel
theorem d_P_formatNumber_168 : decode b_P_formatNumber 168 = .ok (.iload_n 3, 1) := by decide +kernel
theorem d_P_formatNumber_169 : decode b_P_formatNumber 169 = .ok (.iconst 2, 1) := by decide +kernel
theorem d_P_formatNumber_170 : decode b_P_formatNumber 170 = .ok (.iadd, 1) := by decide +kernel
theorem d_P_formatNumber_171 : decode b_P_formatNumber 171 = .ok (.invokevirtual 191, 3) := by decide +kernel
theorem d_P_formatNumber_174 : decode b_P_formatNumber 174 = .ok (.aload_n 0, 1) := by decide +kernel
theorem d_P_formatNumber_175 : decode b_P_formatNumber 175 = .ok (.bipush 10, 2) := by decide +kernel
theorem d_P_formatNumber_177 : decode b_P_formatNumber 177 = .ok (.bipush 97, 2) := by decide +kernel
theorem d_P_formatNumber_179 : decode b_P_formatNumber 179 = .ok (.iload_n 3, 1) := by decide +kernel
theorem d_P_formatNumber_180 : decode b_P_formatNumber 180 = .ok (.iconst 1, 1) := by decide +kernel
theorem d_P_formatNumber_181 : decode b_P_formatNumber 181 = .ok (.iadd, 1) := by decide +kernel
theorem d_P_formatNumber_182 : decode b_P_formatNumber 182 = .ok (.invokevirtual 84, 3) := by decide +kernel
theorem d_P_formatNumber_185 : decode b_P_formatNumber 185 = .ok (.aload_n 0, 1) := by decide +kernel
theorem d_P_formatNumber_186 : decode b_P_formatNumber 186 = .ok (.iload_n 3, 1) := by decide +kernel
theorem d_P_formatNumber_187 : decode b_P_formatNumber 187 = .ok (.aload_n 2, 1) := by decide +kernel
theorem d_P_formatNumber_188 : decode b_P_formatNumber 188 = .ok (.invokevirtual 195, 3) := by decide +kernel
theorem d_P_formatNumber_191 : decode b_P_formatNumber 191 = .ok (.aload_n 0, 1) := by decide +kernel
theorem d_P_formatNumber_192 : decode b_P_formatNumber 192 = .ok (.getfield 21, 3) := by decide +kernel
theorem d_P_formatNumber_195 : decode b_P_formatNumber 195 = .ok (.bipush 37, 2) := by decide +kernel
theorem d_P_formatNumber_197 : decode b_P_formatNumber 197 = .ok (.invokevirtual 49, 3) := by decide +kernel
theorem d_P_formatNumber_200 : decode b_P_formatNumber 200 = .ok (.goto 47, 3) := by decide +kernel
theorem d_P_formatNumber_203 : decode b_P_formatNumber 203 = .ok (.aload_n 0, 1) := by decide +kernel
theorem d_P_formatNumber_204 : decode b_P_formatNumber 204 = .ok (.aload_n 0, 1) := by decide +kernel
theorem d_P_formatNumber_205 : decode b_P_formatNumber 205 = .ok (.aload_n 1, 1) := by decide +kernel
theorem d_P_formatNumber_206 : decode b_P_formatNumber 206 = .ok (.iload_n 3, 1) := by decide +kernel
theorem d_P_formatNumber_207 : decode b_P_formatNumber 207 = .ok (.invokevirtual 199, 3) := by decide +kernel
theorem d_P_formatNumber_210 : decode b_P_formatNumber 210 = .ok (.aload_n 2, 1) := by decide +kernel
theorem d_P_formatNumber_211 : decode b_P_formatNumber 211 = .ok (.invokevirtual 203, 3) := by decide +kernel
theorem d_P_formatNumber_214 : decode b_P_formatNumber 214 = .ok (.goto 33, 3) := by decide +kernel
theorem d_P_formatNumber_217 : decode b_P_formatNumber 217 = .ok (.iload_n 3, 1) := by decide +kernel
theorem d_P_formatNumber_218 : decode b_P_formatNumber 218 = .ok (.iconst 1, 1) := by decide +kernel
theorem d_P_formatNumber_219 : decode b_P_formatNumber 219 = .ok (.invokestatic 206, 3) := by decide +kernel
theorem d_P_formatNumber_222 : decode b_P_formatNumber 222 = .ok (.istore_n 3, 1) := by decide +kernel
theorem d_P_formatNumber_223 : decode b_P_formatNumber 223 = .ok (.aload_n 0, 1) := by decide +kernel
theorem d_P_formatNumber_224 : decode b_P_formatNumber 224 = .ok (.aload_n 1, 1) := by decide +kernel
theorem d_P_formatNumber_225 : decode b_P_formatNumber 225 = .ok (.iload_n 3, 1) := by decide +kernel
theorem d_P_formatNumber_226 : decode b_P_formatNumber 226 = .ok (.aload_n 0, 1) := by decide +kernel
theorem d_P_formatNumber_227 : decode b_P_formatNumber 227 = .ok (.aload_n 1, 1) := by decide +kernel
theorem d_P_formatNumber_228 : decode b_P_formatNumber 228 = .ok (.iload_n 3, 1) := by decide +kernel
theorem d_P_formatNumber_229 : decode b_P_formatNumber 229 = .ok (.iconst 1, 1) := by decide +kernel
theorem d_P_formatNumber_230 : decode b_P_formatNumber 230 = .ok (.isub, 1) := by decide +kernel
theorem d_P_formatNumber_231 : decode b_P_formatNumber 231 = .ok (.invokevirtual 199, 3) := by decide +kernel
theorem d_P_formatNumber_234 : decode b_P_formatNumber 234 = .ok (.aload_n 2, 1) := by decide +kernel
theorem d_P_formatNumber_235 : decode b_P_formatNumber 235 = .ok (.invokevirtual 209, 3) := by decide +kernel
theorem d_P_formatNumber_238 : decode b_P_formatNumber 238 = .ok (.goto 9, 3) := by decide +kernel
theorem d_P_formatNumber_241 : decode b_P_formatNumber 241 = .ok (.aload_n 0, 1) := by decide +kernel
theorem d_P_formatNumber_242 : decode b_P_formatNumber 242 = .ok (.aload_n 1, 1) := by decide +kernel
theorem d_P_formatNumber_243 : decode b_P_formatNumber 243 = .ok (.aload_n 2, 1) := by decide +kernel
theorem d_P_formatNumber_244 : decode b_P_formatNumber 244 = .ok (.invokevirtual 213, 3) := by decide +kernel
theorem d_P_formatNumber_247 : decode b_P_formatNumber 247 = .ok (.aload_n 0, 1) := by decide +kernel
theorem d_P_formatNumber_248 : decode b_P_formatNumber 248 = .ok (.aload_n 2, 1) := by decide +kernel
theorem d_P_formatNumber_249 : decode b_P_formatNumber 249 = .ok (.invokevirtual 217, 3) := by decide +kernel
theorem d_P_formatNumber_252 : decode b_P_formatNumber 252 = .ok (.return_, 1) := by decide +kernel
theorem d_P_putWhole_0 : decode b_P_putWhole 0 = .ok (.aload_n 2, 1) := by decide +kernel
theorem d_P_putWhole_1 : decode b_P_putWhole 1 = .ok (.getfield 188, 3) := by decide +kernel
theorem d_P_putWhole_4 : decode b_P_putWhole 4 = .ok (.bipush 100, 2) := by decide +kernel
theorem d_P_putWhole_6 : decode b_P_putWhole 6 = .ok (.if_icmp .ne 8, 3) := by decide +kernel
theorem d_P_putWhole_9 : decode b_P_putWhole 9 = .ok (.bipush 10, 2) := by decide +kernel
theorem d_P_putWhole_11 : decode b_P_putWhole 11 = .ok (.goto 18, 3) := by decide +kernel
theorem d_P_putWhole_14 : decode b_P_putWhole 14 = .ok (.aload_n 2, 1) := by decide +kernel
theorem d_P_putWhole_15 : decode b_P_putWhole 15 = .ok (.getfield 188, 3) := by decide +kernel
theorem d_P_putWhole_18 : decode b_P_putWhole 18 = .ok (.bipush 98, 2) := by decide +kernel
theorem d_P_putWhole_20 : decode b_P_putWhole 20 = .ok (.if_icmp .ne 7, 3) := by decide +kernel
theorem d_P_putWhole_23 : decode b_P_putWhole 23 = .ok (.iconst 2, 1) := by decide +kernel
theorem d_P_putWhole_24 : decode b_P_putWhole 24 = .ok (.goto 5, 3) := by decide +kernel
theorem d_P_putWhole_27 : decode b_P_putWhole 27 = .ok (.bipush 16, 2) := by decide +kernel
theorem d_P_putWhole_29 : decode b_P_putWhole 29 = .ok (.istore_n 3, 1) := by decide +kernel
theorem d_P_putWhole_30 : decode b_P_putWhole 30 = .ok (.aload_n 0, 1) := by decide +kernel
theorem d_P_putWhole_31 : decode b_P_putWhole 31 = .ok (.getfield 30, 3) := by decide +kernel
theorem d_P_putWhole_34 : decode b_P_putWhole 34 = .ok (.aload_n 1, 1) := by decide +kernel
theorem d_P_putWhole_35 : decode b_P_putWhole 35 = .ok (.getfield 67, 3) := by decide +kernel
theorem d_P_putWhole_38 : decode b_P_putWhole 38 = .ok (.invokevirtual 81, 3) := by decide +kernel
theorem d_P_putWhole_41 : decode b_P_putWhole 41 = .ok (.aload_n 0, 1) := by decide +kernel
theorem d_P_putWhole_42 : decode b_P_putWhole 42 = .ok (.iload_n 3, 1) := by decide +kernel
theorem d_P_putWhole_43 : decode b_P_putWhole 43 = .ok (.aload_n 2, 1) := by decide +kernel
theorem d_P_putWhole_44 : decode b_P_putWhole 44 = .ok (.getfield 188, 3) := by decide +kernel
theorem d_P_putWhole_47 : decode b_P_putWhole 47 = .ok (.bipush 88, 2) := by decide +kernel
theorem d_P_putWhole_49 : decode b_P_putWhole 49 = .ok (.if_icmp .ne 8, 3) := by decide +kernel
theorem d_P_putWhole_52 : decode b_P_putWhole 52 = .ok (.bipush 65, 2) := by decide +kernel
theorem d_P_putWhole_54 : decode b_P_putWhole 54 = .ok (.goto 5, 3) := by decide +kernel
theorem d_P_putWhole_57 : decode b_P_putWhole 57 = .ok (.bipush 97, 2) := by decide +kernel
theorem d_P_putWhole_59 : decode b_P_putWhole 59 = .ok (.iconst 1, 1) := by decide +kernel
theorem d_P_putWhole_60 : decode b_P_putWhole 60 = .ok (.invokevirtual 84, 3) := by decide +kernel
theorem d_P_putWhole_63 : decode b_P_putWhole 63 = .ok (.aload_n 0, 1) := by decide +kernel
theorem d_P_putWhole_64 : decode b_P_putWhole 64 = .ok (.aload_n 0, 1) := by decide +kernel
theorem d_P_putWhole_65 : decode b_P_putWhole 65 = .ok (.getfield 24, 3) := by decide +kernel
theorem d_P_putWhole_68 : decode b_P_putWhole 68 = .ok (.getfield 88, 3) := by decide +kernel
theorem d_P_putWhole_71 : decode b_P_putWhole 71 = .ok (.iload_n 3, 1) := by decide +kernel
theorem d_P_putWhole_72 : decode b_P_putWhole 72 = .ok (.bipush 10, 2) := by decide +kernel
theorem d_P_putWhole_74 : decode b_P_putWhole 74 = .ok (.if_icmp .ne 7, 3) := by decide +kernel
theorem d_P_putWhole_77 : decode b_P_putWhole 77 = .ok (.iconst 3, 1) := by decide +kernel
theorem d_P_putWhole_78 : decode b_P_putWhole 78 = .ok (.goto 4, 3) := by decide +kernel
theorem d_P_putWhole_81 : decode b_P_putWhole 81 = .ok (.iconst 4, 1) := by decide +kernel
theorem d_P_putWhole_82 : decode b_P_putWhole 82 = .ok (.aload_n 2, 1) := by decide +kernel
theorem d_P_putWhole_83 : decode b_P_putWhole 83 = .ok (.getfield 221, 3) := by decide +kernel
theorem d_P_putWhole_86 : decode b_P_putWhole 86 = .ok (.invokevirtual 224, 3) := by decide +kernel
theorem d_P_putWhole_89 : decode b_P_putWhole 89 = .ok (.aload_n 2, 1) := by decide +kernel
theorem d_P_putWhole_90 : decode b_P_putWhole 90 = .ok (.getfield 227, 3) := by decide +kernel
theorem d_P_putWhole_93 : decode b_P_putWhole 93 = .ok (.ifCond .eq 29, 3) := by decide +kernel
theorem d_P_putWhole_96 : decode b_P_putWhole 96 = .ok (.iload_n 3, 1) := by decide +kernel
theorem d_P_putWhole_97 : decode b_P_putWhole 97 = .ok (.bipush 10, 2) := by decide +kernel
theorem d_P_putWhole_99 : decode b_P_putWhole 99 = .ok (.if_icmp .eq 23, 3) := by decide +kernel
theorem d_P_putWhole_102 : decode b_P_putWhole 102 = .ok (.aload_n 0, 1) := by decide +kernel
theorem d_P_putWhole_103 : decode b_P_putWhole 103 = .ok (.getfield 18, 3) := by decide +kernel
theorem d_P_putWhole_106 : decode b_P_putWhole 106 = .ok (.bipush 48, 2) := by decide +kernel
theorem d_P_putWhole_108 : decode b_P_putWhole 108 = .ok (.invokevirtual 49, 3) := by decide +kernel
theorem d_P_putWhole_111 : decode b_P_putWhole 111 = .ok (.aload_n 0, 1) := by decide +kernel
theorem d_P_putWhole_112 : decode b_P_putWhole 112 = .ok (.getfield 18, 3) := by decide +kernel
theorem d_P_putWhole_115 : decode b_P_putWhole 115 = .ok (.aload_n 2, 1) := by decide +kernel
theorem d_P_putWhole_116 : decode b_P_putWhole 116 = .ok (.getfield 188, 3) := by decide +kernel
theorem d_P_putWhole_119 : decode b_P_putWhole 119 = .ok (.invokevirtual 49, 3) := by decide +kernel
theorem d_P_putWhole_122 : decode b_P_putWhole 122 = .ok (.return_, 1) := by decide +kernel
theorem d_P_putGroups_0 : decode b_P_putGroups 0 = .ok (.iconst 0, 1) := by decide +kernel
theorem d_P_putGroups_1 : decode b_P_putGroups 1 = .ok (.istore 4, 2) := by decide +kernel
theorem d_P_putGroups_3 : decode b_P_putGroups 3 = .ok (.iload 4, 2) := by decide +kernel
theorem d_P_putGroups_5 : decode b_P_putGroups 5 = .ok (.iload_n 1, 1) := by decide +kernel
theorem d_P_putGroups_6 : decode b_P_putGroups 6 = .ok (.if_icmp .ge 55, 3) := by decide +kernel
theorem d_P_putGroups_9 : decode b_P_putGroups 9 = .ok (.iload_n 3, 1) := by decide +kernel
theorem d_P_putGroups_10 : decode b_P_putGroups 10 = .ok (.ifCond .eq 29, 3) := by decide +kernel
theorem d_P_putGroups_13 : decode b_P_putGroups 13 = .ok (.iload 4, 2) := by decide +kernel
theorem d_P_putGroups_15 : decode b_P_putGroups 15 = .ok (.ifCond .le 24, 3) := by decide +kernel
theorem d_P_putGroups_18 : decode b_P_putGroups 18 = .ok (.iload_n 2, 1) := by decide +kernel
theorem d_P_putGroups_19 : decode b_P_putGroups 19 = .ok (.ifCond .le 20, 3) := by decide +kernel
theorem d_P_putGroups_22 : decode b_P_putGroups 22 = .ok (.iload_n 1, 1) := by decide +kernel
theorem d_P_putGroups_23 : decode b_P_putGroups 23 = .ok (.iload 4, 2) := by decide +kernel
theorem d_P_putGroups_25 : decode b_P_putGroups 25 = .ok (.isub, 1) := by decide +kernel
theorem d_P_putGroups_26 : decode b_P_putGroups 26 = .ok (.iload_n 2, 1) := by decide +kernel
theorem d_P_putGroups_27 : decode b_P_putGroups 27 = .ok (.irem, 1) := by decide +kernel
theorem d_P_putGroups_28 : decode b_P_putGroups 28 = .ok (.ifCond .ne 11, 3) := by decide +kernel
theorem d_P_putGroups_31 : decode b_P_putGroups 31 = .ok (.aload_n 0, 1) := by decide +kernel
theorem d_P_putGroups_32 : decode b_P_putGroups 32 = .ok (.getfield 21, 3) := by decide +kernel
theorem d_P_putGroups_35 : decode b_P_putGroups 35 = .ok (.iload_n 3, 1) := by decide +kernel
theorem d_P_putGroups_36 : decode b_P_putGroups 36 = .ok (.invokevirtual 49, 3) := by decide +kernel
theorem d_P_putGroups_39 : decode b_P_putGroups 39 = .ok (.aload_n 0, 1) := by decide +kernel
theorem d_P_putGroups_40 : decode b_P_putGroups 40 = .ok (.getfield 21, 3) := by decide +kernel
theorem d_P_putGroups_43 : decode b_P_putGroups 43 = .ok (.aload_n 0, 1) := by decide +kernel
theorem d_P_putGroups_44 : decode b_P_putGroups 44 = .ok (.getfield 24, 3) := by decide +kernel
theorem d_P_putGroups_47 : decode b_P_putGroups 47 = .ok (.iload 4, 2) := by decide +kernel
theorem d_P_putGroups_49 : decode b_P_putGroups 49 = .ok (.invokevirtual 105, 3) := by decide +kernel
theorem d_P_putGroups_52 : decode b_P_putGroups 52 = .ok (.invokevirtual 49, 3) := by decide +kernel
theorem d_P_putGroups_55 : decode b_P_putGroups 55 = .ok (.iinc 4 1, 3) := by decide +kernel
theorem d_P_putGroups_58 : decode b_P_putGroups 58 = .ok (.goto (-55), 3) := by decide +kernel
theorem d_P_putGroups_61 : decode b_P_putGroups 61 = .ok (.return_, 1) := by decide +kernel
theorem d_P_roundScaled_0 : decode b_P_roundScaled 0 = .ok (.aload_n 0, 1) := by decide +kernel
theorem d_P_roundScaled_1 : decode b_P_roundScaled 1 = .ok (.getfield 30, 3) := by decide +kernel
theorem d_P_roundScaled_4 : decode b_P_roundScaled 4 = .ok (.aload_n 1, 1) := by decide +kernel
theorem d_P_roundScaled_5 : decode b_P_roundScaled 5 = .ok (.getfield 67, 3) := by decide +kernel
theorem d_P_roundScaled_8 : decode b_P_roundScaled 8 = .ok (.invokevirtual 81, 3) := by decide +kernel
theorem d_P_roundScaled_11 : decode b_P_roundScaled 11 = .ok (.aload_n 0, 1) := by decide +kernel
theorem d_P_roundScaled_12 : decode b_P_roundScaled 12 = .ok (.getfield 34, 3) := by decide +kernel
theorem d_P_roundScaled_15 : decode b_P_roundScaled 15 = .ok (.aload_n 1, 1) := by decide +kernel
theorem d_P_roundScaled_16 : decode b_P_roundScaled 16 = .ok (.getfield 74, 3) := by decide +kernel
theorem d_P_roundScaled_19 : decode b_P_roundScaled 19 = .ok (.invokevirtual 81, 3) := by decide +kernel
theorem d_P_roundScaled_22 : decode b_P_roundScaled 22 = .ok (.aload_n 0, 1) := by decide +kernel
theorem d_P_roundScaled_23 : decode b_P_roundScaled 23 = .ok (.getfield 30, 3) := by decide +kernel
theorem d_P_roundScaled_26 : decode b_P_roundScaled 26 = .ok (.iload_n 2, 1) := by decide +kernel
theorem d_P_roundScaled_27 : decode b_P_roundScaled 27 = .ok (.invokevirtual 168, 3) := by decide +kernel
theorem d_P_roundScaled_30 : decode b_P_roundScaled 30 = .ok (.aload_n 0, 1) := by decide +kernel
theorem d_P_roundScaled_31 : decode b_P_roundScaled 31 = .ok (.getfield 34, 3) := by decide +kernel
theorem d_P_roundScaled_34 : decode b_P_roundScaled 34 = .ok (.iload_n 2, 1) := by decide +kernel
theorem d_P_roundScaled_35 : decode b_P_roundScaled 35 = .ok (.ineg, 1) := by decide +kernel
theorem d_P_roundScaled_36 : decode b_P_roundScaled 36 = .ok (.invokevirtual 168, 3) := by decide +kernel
theorem d_P_roundScaled_39 : decode b_P_roundScaled 39 = .ok (.aload_n 0, 1) := by decide +kernel
theorem d_P_roundScaled_40 : decode b_P_roundScaled 40 = .ok (.getfield 30, 3) := by decide +kernel
theorem d_P_roundScaled_43 : decode b_P_roundScaled 43 = .ok (.aload_n 0, 1) := by decide +kernel
theorem d_P_roundScaled_44 : decode b_P_roundScaled 44 = .ok (.getfield 34, 3) := by decide +kernel
theorem d_P_roundScaled_47 : decode b_P_roundScaled 47 = .ok (.aload_n 0, 1) := by decide +kernel
theorem d_P_roundScaled_48 : decode b_P_roundScaled 48 = .ok (.getfield 37, 3) := by decide +kernel
theorem d_P_roundScaled_51 : decode b_P_roundScaled 51 = .ok (.invokevirtual 171, 3) := by decide +kernel
theorem d_P_roundScaled_54 : decode b_P_roundScaled 54 = .ok (.aload_n 0, 1) := by decide +kernel
theorem d_P_roundScaled_55 : decode b_P_roundScaled 55 = .ok (.getfield 37, 3) := by decide +kernel
theorem d_P_roundScaled_58 : decode b_P_roundScaled 58 = .ok (.aload_n 0, 1) := by decide +kernel
theorem d_P_roundScaled_59 : decode b_P_roundScaled 59 = .ok (.getfield 30, 3) := by decide +kernel
theorem d_P_roundScaled_62 : decode b_P_roundScaled 62 = .ok (.aload_n 0, 1) := by decide +kernel
theorem d_P_roundScaled_63 : decode b_P_roundScaled 63 = .ok (.getfield 34, 3) := by decide +kernel
theorem d_P_roundScaled_66 : decode b_P_roundScaled 66 = .ok (.invokevirtual 230, 3) := by decide +kernel
theorem d_P_roundScaled_69 : decode b_P_roundScaled 69 = .ok (.aload_n 0, 1) := by decide +kernel
theorem d_P_roundScaled_70 : decode b_P_roundScaled 70 = .ok (.getfield 30, 3) := by decide +kernel
theorem d_P_roundScaled_73 : decode b_P_roundScaled 73 = .ok (.aload_n 0, 1) := by decide +kernel
theorem d_P_roundScaled_74 : decode b_P_roundScaled 74 = .ok (.getfield 37, 3) := by decide +kernel
theorem d_P_roundScaled_77 : decode b_P_roundScaled 77 = .ok (.invokevirtual 81, 3) := by decide +kernel
theorem d_P_roundScaled_80 : decode b_P_roundScaled 80 = .ok (.return_, 1) := by decide +kernel
theorem d_P_putFixed_0 : decode b_P_putFixed 0 = .ok (.aload_n 0, 1) := by decide +kernel
theorem d_P_putFixed_1 : decode b_P_putFixed 1 = .ok (.getfield 24, 3) := by decide +kernel
theorem d_P_putFixed_4 : decode b_P_putFixed 4 = .ok (.getfield 88, 3) := by decide +kernel
theorem d_P_putFixed_7 : decode b_P_putFixed 7 = .ok (.iload_n 1, 1) := by decide +kernel
theorem d_P_putFixed_8 : decode b_P_putFixed 8 = .ok (.isub, 1) := by decide +kernel
theorem d_P_putFixed_9 : decode b_P_putFixed 9 = .ok (.istore_n 3, 1) := by decide +kernel
theorem d_P_putFixed_10 : decode b_P_putFixed 10 = .ok (.aload_n 0, 1) := by decide +kernel
theorem d_P_putFixed_11 : decode b_P_putFixed 11 = .ok (.iload_n 3, 1) := by decide +kernel
theorem d_P_putFixed_12 : decode b_P_putFixed 12 = .ok (.iconst 3, 1) := by decide +kernel
theorem d_P_putFixed_13 : decode b_P_putFixed 13 = .ok (.aload_n 2, 1) := by decide +kernel
theorem d_P_putFixed_14 : decode b_P_putFixed 14 = .ok (.getfield 221, 3) := by decide +kernel
theorem d_P_putFixed_17 : decode b_P_putFixed 17 = .ok (.invokevirtual 224, 3) := by decide +kernel
theorem d_P_putFixed_20 : decode b_P_putFixed 20 = .ok (.iload_n 1, 1) := by decide +kernel
theorem d_P_putFixed_21 : decode b_P_putFixed 21 = .ok (.ifCond .gt 10, 3) := by decide +kernel
theorem d_P_putFixed_24 : decode b_P_putFixed 24 = .ok (.aload_n 2, 1) := by decide +kernel
theorem d_P_putFixed_25 : decode b_P_putFixed 25 = .ok (.getfield 227, 3) := by decide +kernel
theorem d_P_putFixed_28 : decode b_P_putFixed 28 = .ok (.ifCond .eq 12, 3) := by decide +kernel
theorem d_P_putFixed_31 : decode b_P_putFixed 31 = .ok (.aload_n 0, 1) := by decide +kernel
theorem d_P_putFixed_32 : decode b_P_putFixed 32 = .ok (.getfield 21, 3) := by decide +kernel
theorem d_P_putFixed_35 : decode b_P_putFixed 35 = .ok (.bipush 46, 2) := by decide +kernel
theorem d_P_putFixed_37 : decode b_P_putFixed 37 = .ok (.invokevirtual 49, 3) := by decide +kernel
theorem d_P_putFixed_40 : decode b_P_putFixed 40 = .ok (.aload_n 0, 1) := by decide +kernel
theorem d_P_putFixed_41 : decode b_P_putFixed 41 = .ok (.getfield 21, 3) := by decide +kernel
theorem d_P_putFixed_44 : decode b_P_putFixed 44 = .ok (.aload_n 0, 1) := by decide +kernel
theorem d_P_putFixed_45 : decode b_P_putFixed 45 = .ok (.getfield 24, 3) := by decide +kernel
theorem d_P_putFixed_48 : decode b_P_putFixed 48 = .ok (.iload_n 3, 1) := by decide +kernel
theorem d_P_putFixed_49 : decode b_P_putFixed 49 = .ok (.aload_n 0, 1) := by decide +kernel
theorem d_P_putFixed_50 : decode b_P_putFixed 50 = .ok (.getfield 24, 3) := by decide +kernel
theorem d_P_putFixed_53 : decode b_P_putFixed 53 = .ok (.getfield 88, 3) := by decide +kernel
theorem d_P_putFixed_56 : decode b_P_putFixed 56 = .ok (.invokevirtual 91, 3) := by decide +kernel
theorem d_P_putFixed_59 : decode b_P_putFixed 59 = .ok (.return_, 1) := by decide +kernel
theorem d_P_setScientificDigits_0 : decode b_P_setScientificDigits 0 = .ok (.aload_n 1, 1) := by decide +kernel
theorem d_P_setScientificDigits_1 : decode b_P_setScientificDigits 1 = .ok (.getfield 43, 3) := by decide +kernel
theorem d_P_setScientificDigits_4 : decode b_P_setScientificDigits 4 = .ok (.ifCond .ne 24, 3) := by decide +kernel
theorem d_P_setScientificDigits_7 : decode b_P_setScientificDigits 7 = .ok (.aload_n 0, 1) := by decide +kernel
theorem d_P_setScientificDigits_8 : decode b_P_setScientificDigits 8 = .ok (.getfield 24, 3) := by decide +kernel
theorem d_P_setScientificDigits_11 : decode b_P_setScientificDigits 11 = .ok (.invokevirtual 40, 3) := by decide +kernel
theorem d_P_setScientificDigits_14 : decode b_P_setScientificDigits 14 = .ok (.aload_n 0, 1) := by decide +kernel
theorem d_P_setScientificDigits_15 : decode b_P_setScientificDigits 15 = .ok (.getfield 24, 3) := by decide +kernel
theorem d_P_setScientificDigits_18 : decode b_P_setScientificDigits 18 = .ok (.bipush 48, 2) := by decide +kernel
theorem d_P_setScientificDigits_20 : decode b_P_setScientificDigits 20 = .ok (.iload_n 2, 1) := by decide +kernel
theorem d_P_setScientificDigits_21 : decode b_P_setScientificDigits 21 = .ok (.iconst 1, 1) := by decide +kernel
theorem d_P_setScientificDigits_22 : decode b_P_setScientificDigits 22 = .ok (.iadd, 1) := by decide +kernel
theorem d_P_setScientificDigits_23 : decode b_P_setScientificDigits 23 = .ok (.invokevirtual 111, 3) := by decide +kernel
theorem d_P_setScientificDigits_26 : decode b_P_setScientificDigits 26 = .ok (.iconst 0, 1) := by decide +kernel
theorem d_P_setScientificDigits_27 : decode b_P_setScientificDigits 27 = .ok (.ireturn, 1) := by decide +kernel
theorem d_P_setScientificDigits_28 : decode b_P_setScientificDigits 28 = .ok (.aload_n 1, 1) := by decide +kernel
theorem d_P_setScientificDigits_29 : decode b_P_setScientificDigits 29 = .ok (.getfield 67, 3) := by decide +kernel
theorem d_P_setScientificDigits_32 : decode b_P_setScientificDigits 32 = .ok (.invokevirtual 120, 3) := by decide +kernel
theorem d_P_setScientificDigits_35 : decode b_P_setScientificDigits 35 = .ok (.aload_n 1, 1) := by decide +kernel
theorem d_P_setScientificDigits_36 : decode b_P_setScientificDigits 36 = .ok (.getfield 74, 3) := by decide +kernel
theorem d_P_setScientificDigits_39 : decode b_P_setScientificDigits 39 = .ok (.invokevirtual 120, 3) := by decide +kernel
theorem d_P_setScientificDigits_42 : decode b_P_setScientificDigits 42 = .ok (.isub, 1) := by decide +kernel
theorem d_P_setScientificDigits_43 : decode b_P_setScientificDigits 43 = .ok (.iconst 1, 1) := by decide +kernel
theorem d_P_setScientificDigits_44 : decode b_P_setScientificDigits 44 = .ok (.isub, 1) := by decide +kernel
theorem d_P_setScientificDigits_45 : decode b_P_setScientificDigits 45 = .ok (.invokestatic 133, 3) := by decide +kernel
theorem d_P_setScientificDigits_48 : decode b_P_setScientificDigits 48 = .ok (.istore_n 3, 1) := by decide +kernel
theorem d_P_setScientificDigits_49 : decode b_P_setScientificDigits 49 = .ok (.iconst 0, 1) := by decide +kernel
theorem d_P_setScientificDigits_50 : decode b_P_setScientificDigits 50 = .ok (.istore 4, 2) := by decide +kernel
theorem d_P_setScientificDigits_52 : decode b_P_setScientificDigits 52 = .ok (.iload 4, 2) := by decide +kernel
theorem d_P_setScientificDigits_54 : decode b_P_setScientificDigits 54 = .ok (.iconst 4, 1) := by decide +kernel
theorem d_P_setScientificDigits_55 : decode b_P_setScientificDigits 55 = .ok (.if_icmp .ge 44, 3) := by decide +kernel
theorem d_P_setScientificDigits_58 : decode b_P_setScientificDigits 58 = .ok (.aload_n 0, 1) := by decide +kernel
theorem d_P_setScientificDigits_59 : decode b_P_setScientificDigits 59 = .ok (.aload_n 1, 1) := by decide +kernel
theorem d_P_setScientificDigits_60 : decode b_P_setScientificDigits 60 = .ok (.iload_n 2, 1) := by decide +kernel
theorem d_P_setScientificDigits_61 : decode b_P_setScientificDigits 61 = .ok (.iload_n 3, 1) := by decide +kernel
theorem d_P_setScientificDigits_62 : decode b_P_setScientificDigits 62 = .ok (.isub, 1) := by decide +kernel
theorem d_P_setScientificDigits_63 : decode b_P_setScientificDigits 63 = .ok (.invokevirtual 191, 3) := by decide +kernel
theorem d_P_setScientificDigits_66 : decode b_P_setScientificDigits 66 = .ok (.aload_n 0, 1) := by decide +kernel
theorem d_P_setScientificDigits_67 : decode b_P_setScientificDigits 67 = .ok (.bipush 10, 2) := by decide +kernel
theorem d_P_setScientificDigits_69 : decode b_P_setScientificDigits 69 = .ok (.bipush 97, 2) := by decide +kernel
theorem d_P_setScientificDigits_71 : decode b_P_setScientificDigits 71 = .ok (.iconst 1, 1) := by decide +kernel
theorem d_P_setScientificDigits_72 : decode b_P_setScientificDigits 72 = .ok (.invokevirtual 84, 3) := by decide +kernel
theorem d_P_setScientificDigits_75 : decode b_P_setScientificDigits 75 = .ok (.aload_n 0, 1) := by decide +kernel
theorem d_P_setScientificDigits_76 : decode b_P_setScientificDigits 76 = .ok (.getfield 24, 3) := by decide +kernel
theorem d_P_setScientificDigits_79 : decode b_P_setScientificDigits 79 = .ok (.getfield 88, 3) := by decide +kernel
theorem d_P_setScientificDigits_82 : decode b_P_setScientificDigits 82 = .ok (.iload_n 2, 1) := by decide +kernel
theorem d_P_setScientificDigits_83 : decode b_P_setScientificDigits 83 = .ok (.iconst 1, 1) := by decide +kernel
theorem d_P_setScientificDigits_84 : decode b_P_setScientificDigits 84 = .ok (.iadd, 1) := by decide +kernel
theorem d_P_setScientificDigits_85 : decode b_P_setScientificDigits 85 = .ok (.if_icmp .gt 5, 3) := by decide +kernel
theorem d_P_setScientificDigits_88 : decode b_P_setScientificDigits 88 = .ok (.iload_n 3, 1) := by decide +kernel
theorem d_P_setScientificDigits_89 : decode b_P_setScientificDigits 89 = .ok (.ireturn, 1) := by decide +kernel
theorem d_P_setScientificDigits_90 : decode b_P_setScientificDigits 90 = .ok (.iinc 3 1, 3) := by decide +kernel
theorem d_P_setScientificDigits_93 : decode b_P_setScientificDigits 93 = .ok (.iinc 4 1, 3) := by decide +kernel
theorem d_P_setScientificDigits_96 : decode b_P_setScientificDigits 96 = .ok (.goto (-44), 3) := by decide +kernel
theorem d_P_setScientificDigits_99 : decode b_P_setScientificDigits 99 = .ok (.iload_n 3, 1) := by decide +kernel
theorem d_P_setScientificDigits_100 : decode b_P_setScientificDigits 100 = .ok (.ireturn, 1) := by decide +kernel
theorem d_P_putScientific_0 : decode b_P_putScientific 0 = .ok (.aload_n 0, 1) := by decide +kernel
theorem d_P_putScientific_1 : decode b_P_putScientific 1 = .ok (.getfield 21, 3) := by decide +kernel
theorem d_P_putScientific_4 : decode b_P_putScientific 4 = .ok (.aload_n 0, 1) := by decide +kernel
theorem d_P_putScientific_5 : decode b_P_putScientific 5 = .ok (.getfield 24, 3) := by decide +kernel
theorem d_P_putScientific_8 : decode b_P_putScientific 8 = .ok (.iconst 0, 1) := by decide +kernel
theorem d_P_putScientific_9 : decode b_P_putScientific 9 = .ok (.invokevirtual 105, 3) := by decide +kernel
theorem d_P_putScientific_12 : decode b_P_putScientific 12 = .ok (.invokevirtual 49, 3) := by decide +kernel
theorem d_P_putScientific_15 : decode b_P_putScientific 15 = .ok (.aload_n 0, 1) := by decide +kernel
theorem d_P_putScientific_16 : decode b_P_putScientific 16 = .ok (.getfield 24, 3) := by decide +kernel
theorem d_P_putScientific_19 : decode b_P_putScientific 19 = .ok (.getfield 88, 3) := by decide +kernel
theorem d_P_putScientific_22 : decode b_P_putScientific 22 = .ok (.iconst 1, 1) := by decide +kernel
theorem d_P_putScientific_23 : decode b_P_putScientific 23 = .ok (.if_icmp .gt 10, 3) := by decide +kernel
theorem d_P_putScientific_26 : decode b_P_putScientific 26 = .ok (.aload_n 2, 1) := by decide +kernel
theorem d_P_putScientific_27 : decode b_P_putScientific 27 = .ok (.getfield 227, 3) := by decide +kernel
theorem d_P_putScientific_30 : decode b_P_putScientific 30 = .ok (.ifCond .eq 12, 3) := by decide +kernel
theorem d_P_putScientific_33 : decode b_P_putScientific 33 = .ok (.aload_n 0, 1) := by decide +kernel
theorem d_P_putScientific_34 : decode b_P_putScientific 34 = .ok (.getfield 21, 3) := by decide +kernel
theorem d_P_putScientific_37 : decode b_P_putScientific 37 = .ok (.bipush 46, 2) := by decide +kernel
theorem d_P_putScientific_39 : decode b_P_putScientific 39 = .ok (.invokevirtual 49, 3) := by decide +kernel
theorem d_P_putScientific_42 : decode b_P_putScientific 42 = .ok (.aload_n 0, 1) := by decide +kernel
theorem d_P_putScientific_43 : decode b_P_putScientific 43 = .ok (.getfield 21, 3) := by decide +kernel
theorem d_P_putScientific_46 : decode b_P_putScientific 46 = .ok (.aload_n 0, 1) := by decide +kernel
theorem d_P_putScientific_47 : decode b_P_putScientific 47 = .ok (.getfield 24, 3) := by decide +kernel
theorem d_P_putScientific_50 : decode b_P_putScientific 50 = .ok (.iconst 1, 1) := by decide +kernel
theorem d_P_putScientific_51 : decode b_P_putScientific 51 = .ok (.aload_n 0, 1) := by decide +kernel
theorem d_P_putScientific_52 : decode b_P_putScientific 52 = .ok (.getfield 24, 3) := by decide +kernel
theorem d_P_putScientific_55 : decode b_P_putScientific 55 = .ok (.getfield 88, 3) := by decide +kernel
theorem d_P_putScientific_58 : decode b_P_putScientific 58 = .ok (.invokevirtual 91, 3) := by decide +kernel
theorem d_P_putScientific_61 : decode b_P_putScientific 61 = .ok (.aload_n 0, 1) := by decide +kernel
theorem d_P_putScientific_62 : decode b_P_putScientific 62 = .ok (.getfield 21, 3) := by decide +kernel
theorem d_P_putScientific_65 : decode b_P_putScientific 65 = .ok (.iload_n 1, 1) := by decide +kernel
theorem d_P_putScientific_66 : decode b_P_putScientific 66 = .ok (.aload_n 2, 1) := by decide +kernel
theorem d_P_putScientific_67 : decode b_P_putScientific 67 = .ok (.getfield 188, 3) := by decide +kernel
theorem d_P_putScientific_70 : decode b_P_putScientific 70 = .ok (.bipush 69, 2) := by decide +kernel
theorem d_P_putScientific_72 : decode b_P_putScientific 72 = .ok (.if_icmp .eq 12, 3) := by decide +kernel
theorem d_P_putScientific_75 : decode b_P_putScientific 75 = .ok (.aload_n 2, 1) := by decide +kernel
theorem d_P_putScientific_76 : decode b_P_putScientific 76 = .ok (.getfield 188, 3) := by decide +kernel
theorem d_P_putScientific_79 : decode b_P_putScientific 79 = .ok (.bipush 71, 2) := by decide +kernel
theorem d_P_putScientific_81 : decode b_P_putScientific 81 = .ok (.if_icmp .ne 8, 3) := by decide +kernel
theorem d_P_putScientific_84 : decode b_P_putScientific 84 = .ok (.bipush 69, 2) := by decide +kernel
theorem d_P_putScientific_86 : decode b_P_putScientific 86 = .ok (.goto 5, 3) := by decide +kernel
theorem d_P_putScientific_89 : decode b_P_putScientific 89 = .ok (.bipush 101, 2) := by decide +kernel
theorem d_P_putScientific_91 : decode b_P_putScientific 91 = .ok (.invokestatic 108, 3) := by decide +kernel
theorem d_P_putScientific_94 : decode b_P_putScientific 94 = .ok (.return_, 1) := by decide +kernel
theorem d_P_putGeneral_0 : decode b_P_putGeneral 0 = .ok (.iload_n 3, 1) := by decide +kernel
theorem d_P_putGeneral_1 : decode b_P_putGeneral 1 = .ok (.bipush (-4), 2) := by decide +kernel
theorem d_P_putGeneral_3 : decode b_P_putGeneral 3 = .ok (.if_icmp .lt 8, 3) := by decide +kernel
theorem d_P_putGeneral_6 : decode b_P_putGeneral 6 = .ok (.iload_n 3, 1) := by decide +kernel
theorem d_P_putGeneral_7 : decode b_P_putGeneral 7 = .ok (.iload_n 2, 1) := by decide +kernel
theorem d_P_putGeneral_8 : decode b_P_putGeneral 8 = .ok (.if_icmp .lt 34, 3) := by decide +kernel
theorem d_P_putGeneral_11 : decode b_P_putGeneral 11 = .ok (.aload_n 0, 1) := by decide +kernel
theorem d_P_putGeneral_12 : decode b_P_putGeneral 12 = .ok (.getfield 24, 3) := by decide +kernel
theorem d_P_putGeneral_15 : decode b_P_putGeneral 15 = .ok (.aload 4, 2) := by decide +kernel
theorem d_P_putGeneral_17 : decode b_P_putGeneral 17 = .ok (.getfield 227, 3) := by decide +kernel
theorem d_P_putGeneral_20 : decode b_P_putGeneral 20 = .ok (.ifCond .eq 7, 3) := by decide +kernel
theorem d_P_putGeneral_23 : decode b_P_putGeneral 23 = .ok (.iconst 0, 1) := by decide +kernel
theorem d_P_putGeneral_24 : decode b_P_putGeneral 24 = .ok (.goto 6, 3) := by decide +kernel
theorem d_P_putGeneral_27 : decode b_P_putGeneral 27 = .ok (.iload_n 2, 1) := by decide +kernel
theorem d_P_putGeneral_28 : decode b_P_putGeneral 28 = .ok (.iconst 1, 1) := by decide +kernel
theorem d_P_putGeneral_29 : decode b_P_putGeneral 29 = .ok (.isub, 1) := by decide +kernel
theorem d_P_putGeneral_30 : decode b_P_putGeneral 30 = .ok (.invokevirtual 160, 3) := by decide +kernel
theorem d_P_putGeneral_33 : decode b_P_putGeneral 33 = .ok (.pop, 1) := by decide +kernel
theorem d_P_putGeneral_34 : decode b_P_putGeneral 34 = .ok (.aload_n 0, 1) := by decide +kernel
theorem d_P_putGeneral_35 : decode b_P_putGeneral 35 = .ok (.iload_n 3, 1) := by decide +kernel
theorem d_P_putGeneral_36 : decode b_P_putGeneral 36 = .ok (.aload 4, 2) := by decide +kernel
theorem d_P_putGeneral_38 : decode b_P_putGeneral 38 = .ok (.invokevirtual 203, 3) := by decide +kernel
theorem d_P_putGeneral_41 : decode b_P_putGeneral 41 = .ok (.return_, 1) := by decide +kernel
theorem d_P_putGeneral_42 : decode b_P_putGeneral 42 = .ok (.iload_n 2, 1) := by decide +kernel
theorem d_P_putGeneral_43 : decode b_P_putGeneral 43 = .ok (.iconst 1, 1) := by decide +kernel
theorem d_P_putGeneral_44 : decode b_P_putGeneral 44 = .ok (.isub, 1) := by decide +kernel
theorem d_P_putGeneral_45 : decode b_P_putGeneral 45 = .ok (.iload_n 3, 1) := by decide +kernel
theorem d_P_putGeneral_46 : decode b_P_putGeneral 46 = .ok (.isub, 1) := by decide +kernel
theorem d_P_putGeneral_47 : decode b_P_putGeneral 47 = .ok (.istore 5, 2) := by decide +kernel
theorem d_P_putGeneral_49 : decode b_P_putGeneral 49 = .ok (.aload_n 0, 1) := by decide +kernel
theorem d_P_putGeneral_50 : decode b_P_putGeneral 50 = .ok (.aload_n 1, 1) := by decide +kernel
theorem d_P_putGeneral_51 : decode b_P_putGeneral 51 = .ok (.iload 5, 2) := by decide +kernel
theorem d_P_putGeneral_53 : decode b_P_putGeneral 53 = .ok (.invokevirtual 191, 3) := by decide +kernel
theorem d_P_putGeneral_56 : decode b_P_putGeneral 56 = .ok (.aload_n 0, 1) := by decide +kernel
theorem d_P_putGeneral_57 : decode b_P_putGeneral 57 = .ok (.bipush 10, 2) := by decide +kernel
theorem d_P_putGeneral_59 : decode b_P_putGeneral 59 = .ok (.bipush 97, 2) := by decide +kernel
theorem d_P_putGeneral_61 : decode b_P_putGeneral 61 = .ok (.iload 5, 2) := by decide +kernel
theorem d_P_putGeneral_63 : decode b_P_putGeneral 63 = .ok (.iconst 1, 1) := by decide +kernel
theorem d_P_putGeneral_64 : decode b_P_putGeneral 64 = .ok (.iadd, 1) := by decide +kernel
theorem d_P_putGeneral_65 : decode b_P_putGeneral 65 = .ok (.invokevirtual 84, 3) := by decide +kernel
theorem d_P_putGeneral_68 : decode b_P_putGeneral 68 = .ok (.iload 5, 2) := by decide +kernel
theorem d_P_putGeneral_70 : decode b_P_putGeneral 70 = .ok (.aload_n 0, 1) := by decide +kernel
theorem d_P_putGeneral_71 : decode b_P_putGeneral 71 = .ok (.getfield 24, 3) := by decide +kernel
theorem d_P_putGeneral_74 : decode b_P_putGeneral 74 = .ok (.aload 4, 2) := by decide +kernel
theorem d_P_putGeneral_76 : decode b_P_putGeneral 76 = .ok (.getfield 227, 3) := by decide +kernel
theorem d_P_putGeneral_79 : decode b_P_putGeneral 79 = .ok (.ifCond .eq 7, 3) := by decide +kernel
theorem d_P_putGeneral_82 : decode b_P_putGeneral 82 = .ok (.iconst 0, 1) := by decide +kernel
theorem d_P_putGeneral_83 : decode b_P_putGeneral 83 = .ok (.goto 5, 3) := by decide +kernel
theorem d_P_putGeneral_86 : decode b_P_putGeneral 86 = .ok (.iload 5, 2) := by decide +kernel
theorem d_P_putGeneral_88 : decode b_P_putGeneral 88 = .ok (.invokevirtual 160, 3) := by decide +kernel
theorem d_P_putGeneral_91 : decode b_P_putGeneral 91 = .ok (.isub, 1) := by decide +kernel
theorem d_P_putGeneral_92 : decode b_P_putGeneral 92 = .ok (.istore 5, 2) := by decide +kernel
theorem d_P_putGeneral_94 : decode b_P_putGeneral 94 = .ok (.aload_n 0, 1) := by decide +kernel
theorem d_P_putGeneral_95 : decode b_P_putGeneral 95 = .ok (.iload 5, 2) := by decide +kernel
theorem d_P_putGeneral_97 : decode b_P_putGeneral 97 = .ok (.aload 4, 2) := by decide +kernel
theorem d_P_putGeneral_99 : decode b_P_putGeneral 99 = .ok (.invokevirtual 195, 3) := by decide +kernel
theorem d_P_putGeneral_102 : decode b_P_putGeneral 102 = .ok (.return_, 1) := by decide +kernel
theorem d_P_laySheet_0 : decode b_P_laySheet 0 = .ok (.iconst 0, 1) := by decide +kernel
theorem d_P_laySheet_1 : decode b_P_laySheet 1 = .ok (.aload_n 1, 1) := by decide +kernel
theorem d_P_laySheet_2 : decode b_P_laySheet 2 = .ok (.getfield 233, 3) := by decide +kernel
theorem d_P_laySheet_5 : decode b_P_laySheet 5 = .ok (.aload_n 0, 1) := by decide +kernel
theorem d_P_laySheet_6 : decode b_P_laySheet 6 = .ok (.getfield 18, 3) := by decide +kernel
theorem d_P_laySheet_9 : decode b_P_laySheet 9 = .ok (.getfield 88, 3) := by decide +kernel
theorem d_P_laySheet_12 : decode b_P_laySheet 12 = .ok (.isub, 1) := by decide +kernel
theorem d_P_laySheet_13 : decode b_P_laySheet 13 = .ok (.aload_n 0, 1) := by decide +kernel
theorem d_P_laySheet_14 : decode b_P_laySheet 14 = .ok (.getfield 21, 3) := by decide +kernel
theorem d_P_laySheet_17 : decode b_P_laySheet 17 = .ok (.getfield 88, 3) := by decide +kernel
theorem d_P_laySheet_20 : decode b_P_laySheet 20 = .ok (.isub, 1) := by decide +kernel
theorem d_P_laySheet_21 : decode b_P_laySheet 21 = .ok (.invokestatic 206, 3) := by decide +kernel
theorem d_P_laySheet_24 : decode b_P_laySheet 24 = .ok (.istore_n 2, 1) := by decide +kernel
theorem d_P_laySheet_25 : decode b_P_laySheet 25 = .ok (.aload_n 1, 1) := by decide +kernel
theorem d_P_laySheet_26 : decode b_P_laySheet 26 = .ok (.getfield 236, 3) := by decide +kernel
theorem d_P_laySheet_29 : decode b_P_laySheet 29 = .ok (.ifCond .eq 10, 3) := by decide +kernel
theorem d_P_laySheet_32 : decode b_P_laySheet 32 = .ok (.aload_n 1, 1) := by decide +kernel
theorem d_P_laySheet_33 : decode b_P_laySheet 33 = .ok (.getfield 236, 3) := by decide +kernel
theorem d_P_laySheet_36 : decode b_P_laySheet 36 = .ok (.goto 17, 3) := by decide +kernel
theorem d_P_laySheet_39 : decode b_P_laySheet 39 = .ok (.aload_n 1, 1) := by decide +kernel
theorem d_P_laySheet_40 : decode b_P_laySheet 40 = .ok (.getfield 239, 3) := by decide +kernel
theorem d_P_laySheet_43 : decode b_P_laySheet 43 = .ok (.ifCond .eq 8, 3) := by decide +kernel
theorem d_P_laySheet_46 : decode b_P_laySheet 46 = .ok (.bipush 61, 2) := by decide +kernel
theorem d_P_laySheet_48 : decode b_P_laySheet 48 = .ok (.goto 5, 3) := by decide +kernel
theorem d_P_laySheet_51 : decode b_P_laySheet 51 = .ok (.bipush 62, 2) := by decide +kernel
theorem d_P_laySheet_53 : decode b_P_laySheet 53 = .ok (.istore_n 3, 1) := by decide +kernel
theorem d_P_laySheet_54 : decode b_P_laySheet 54 = .ok (.aload_n 1, 1) := by decide +kernel
theorem d_P_laySheet_55 : decode b_P_laySheet 55 = .ok (.getfield 242, 3) := by decide +kernel
theorem d_P_laySheet_58 : decode b_P_laySheet 58 = .ok (.ifCond .eq 10, 3) := by decide +kernel
theorem d_P_laySheet_61 : decode b_P_laySheet 61 = .ok (.aload_n 1, 1) := by decide +kernel
theorem d_P_laySheet_62 : decode b_P_laySheet 62 = .ok (.getfield 242, 3) := by decide +kernel
theorem d_P_laySheet_65 : decode b_P_laySheet 65 = .ok (.goto 17, 3) := by decide +kernel
theorem d_P_laySheet_68 : decode b_P_laySheet 68 = .ok (.aload_n 1, 1) := by decide +kernel
theorem d_P_laySheet_69 : decode b_P_laySheet 69 = .ok (.getfield 239, 3) := by decide +kernel
theorem d_P_laySheet_72 : decode b_P_laySheet 72 = .ok (.ifCond .eq 8, 3) := by decide +kernel
theorem d_P_laySheet_75 : decode b_P_laySheet 75 = .ok (.bipush 48, 2) := by decide +kernel
theorem d_P_laySheet_77 : decode b_P_laySheet 77 = .ok (.goto 5, 3) := by decide +kernel
theorem d_P_laySheet_80 : decode b_P_laySheet 80 = .ok (.bipush 32, 2) := by decide +kernel
theorem d_P_laySheet_82 : decode b_P_laySheet 82 = .ok (.istore 4, 2) := by decide +kernel
theorem d_P_laySheet_84 : decode b_P_laySheet 84 = .ok (.iload_n 3, 1) := by decide +kernel
theorem d_P_laySheet_85 : decode b_P_laySheet 85 = .ok (.bipush 62, 2) := by decide +kernel
theorem d_P_laySheet_87 : decode b_P_laySheet 87 = .ok (.if_icmp .ne 7, 3) := by decide +kernel
theorem d_P_laySheet_90 : decode b_P_laySheet 90 = .ok (.iload_n 2, 1) := by decide +kernel
theorem d_P_laySheet_91 : decode b_P_laySheet 91 = .ok (.goto 16, 3) := by decide +kernel
theorem d_P_laySheet_94 : decode b_P_laySheet 94 = .ok (.iload_n 3, 1) := by decide +kernel
theorem d_P_laySheet_95 : decode b_P_laySheet 95 = .ok (.bipush 94, 2) := by decide +kernel
theorem d_P_laySheet_97 : decode b_P_laySheet 97 = .ok (.if_icmp .ne 9, 3) := by decide +kernel
theorem d_P_laySheet_100 : decode b_P_laySheet 100 = .ok (.iload_n 2, 1) := by decide +kernel
theorem d_P_laySheet_101 : decode b_P_laySheet 101 = .ok (.iconst 2, 1) := by decide +kernel
theorem d_P_laySheet_102 : decode b_P_laySheet 102 = .ok (.idiv, 1) := by decide +kernel
theorem d_P_laySheet_103 : decode b_P_laySheet 103 = .ok (.goto 4, 3) := by decide +kernel
theorem d_P_laySheet_106 : decode b_P_laySheet 106 = .ok (.iconst 0, 1) := by decide +kernel
theorem d_P_laySheet_107 : decode b_P_laySheet 107 = .ok (.istore 5, 2) := by decide +kernel
theorem d_P_laySheet_109 : decode b_P_laySheet 109 = .ok (.iload_n 3, 1) := by decide +kernel
theorem d_P_laySheet_110 : decode b_P_laySheet 110 = .ok (.bipush 61, 2) := by decide +kernel
theorem d_P_laySheet_112 : decode b_P_laySheet 112 = .ok (.if_icmp .ne 7, 3) := by decide +kernel
theorem d_P_laySheet_115 : decode b_P_laySheet 115 = .ok (.iload_n 2, 1) := by decide +kernel
theorem d_P_laySheet_116 : decode b_P_laySheet 116 = .ok (.goto 4, 3) := by decide +kernel
theorem d_P_laySheet_119 : decode b_P_laySheet 119 = .ok (.iconst 0, 1) := by decide +kernel
theorem d_P_laySheet_120 : decode b_P_laySheet 120 = .ok (.istore 6, 2) := by decide +kernel
theorem d_P_laySheet_122 : decode b_P_laySheet 122 = .ok (.aload_n 0, 1) := by decide +kernel
theorem d_P_laySheet_123 : decode b_P_laySheet 123 = .ok (.getfield 12, 3) := by decide +kernel
theorem d_P_laySheet_126 : decode b_P_laySheet 126 = .ok (.invokevirtual 40, 3) := by decide +kernel
theorem d_P_laySheet_129 : decode b_P_laySheet 129 = .ok (.aload_n 0, 1) := by decide +kernel
theorem d_P_laySheet_130 : decode b_P_laySheet 130 = .ok (.getfield 12, 3) := by decide +kernel
theorem d_P_laySheet_133 : decode b_P_laySheet 133 = .ok (.iload 4, 2) := by decide +kernel
theorem d_P_laySheet_135 : decode b_P_laySheet 135 = .ok (.iload 5, 2) := by decide +kernel
theorem d_P_laySheet_137 : decode b_P_laySheet 137 = .ok (.invokevirtual 111, 3) := by decide +kernel
theorem d_P_laySheet_140 : decode b_P_laySheet 140 = .ok (.aload_n 0, 1) := by decide +kernel
theorem d_P_laySheet_141 : decode b_P_laySheet 141 = .ok (.getfield 12, 3) := by decide +kernel
theorem d_P_laySheet_144 : decode b_P_laySheet 144 = .ok (.aload_n 0, 1) := by decide +kernel
theorem d_P_laySheet_145 : decode b_P_laySheet 145 = .ok (.getfield 18, 3) := by decide +kernel
theorem d_P_laySheet_148 : decode b_P_laySheet 148 = .ok (.iconst 0, 1) := by decide +kernel
theorem d_P_laySheet_149 : decode b_P_laySheet 149 = .ok (.aload_n 0, 1) := by decide +kernel
theorem d_P_laySheet_150 : decode b_P_laySheet 150 = .ok (.getfield 18, 3) := by decide +kernel
theorem d_P_laySheet_153 : decode b_P_laySheet 153 = .ok (.getfield 88, 3) := by decide +kernel
theorem d_P_laySheet_156 : decode b_P_laySheet 156 = .ok (.invokevirtual 91, 3) := by decide +kernel
theorem d_P_laySheet_159 : decode b_P_laySheet 159 = .ok (.aload_n 0, 1) := by decide +kernel
theorem d_P_laySheet_160 : decode b_P_laySheet 160 = .ok (.getfield 12, 3) := by decide +kernel
theorem d_P_laySheet_163 : decode b_P_laySheet 163 = .ok (.iload 4, 2) := by decide +kernel
theorem d_P_laySheet_165 : decode b_P_laySheet 165 = .ok (.iload 6, 2) := by decide +kernel
theorem d_P_laySheet_167 : decode b_P_laySheet 167 = .ok (.invokevirtual 111, 3) := by decide +kernel
theorem d_P_laySheet_170 : decode b_P_laySheet 170 = .ok (.aload_n 0, 1) := by decide +kernel
theorem d_P_laySheet_171 : decode b_P_laySheet 171 = .ok (.getfield 12, 3) := by decide +kernel
theorem d_P_laySheet_174 : decode b_P_laySheet 174 = .ok (.aload_n 0, 1) := by decide +kernel
theorem d_P_laySheet_175 : decode b_P_laySheet 175 = .ok (.getfield 21, 3) := by decide +kernel
theorem d_P_laySheet_178 : decode b_P_laySheet 178 = .ok (.iconst 0, 1) := by decide +kernel
theorem d_P_laySheet_179 : decode b_P_laySheet 179 = .ok (.aload_n 0, 1) := by decide +kernel
theorem d_P_laySheet_180 : decode b_P_laySheet 180 = .ok (.getfield 21, 3) := by decide +kernel
theorem d_P_laySheet_183 : decode b_P_laySheet 183 = .ok (.getfield 88, 3) := by decide +kernel
theorem d_P_laySheet_186 : decode b_P_laySheet 186 = .ok (.invokevirtual 91, 3) := by decide +kernel
theorem d_P_laySheet_189 : decode b_P_laySheet 189 = .ok (.aload_n 0, 1) := by decide +kernel
theorem d_P_laySheet_190 : decode b_P_laySheet 190 = .ok (.getfield 12, 3) := by decide +kernel
theorem d_P_laySheet_193 : decode b_P_laySheet 193 = .ok (.iload 4, 2) := by decide +kernel
theorem d_P_laySheet_195 : decode b_P_laySheet 195 = .ok (.iload_n 2, 1) := by decide +kernel
theorem d_P_laySheet_196 : decode b_P_laySheet 196 = .ok (.iload 5, 2) := by decide +kernel
theorem d_P_laySheet_198 : decode b_P_laySheet 198 = .ok (.isub, 1) := by decide +kernel
theorem d_P_laySheet_199 : decode b_P_laySheet 199 = .ok (.iload 6, 2) := by decide +kernel
theorem d_P_laySheet_201 : decode b_P_laySheet 201 = .ok (.isub, 1) := by decide +kernel
theorem d_P_laySheet_202 : decode b_P_laySheet 202 = .ok (.invokevirtual 111, 3) := by decide +kernel
theorem d_P_laySheet_205 : decode b_P_laySheet 205 = .ok (.return_, 1) := by decide +kernel
