theorem d_JObject_init_0 : decode b_JObject_init 0 = .ok (.return_, 1) := by decide +kernel
theorem d_JAE_init_0 : decode b_JAE_init 0 = .ok (.aload_n 0, 1) := by decide +kernel
theorem d_JAE_init_1 : decode b_JAE_init 1 = .ok (.aload_n 1, 1) := by decide +kernel
theorem d_JAE_init_2 : decode b_JAE_init 2 = .ok (.invokespecial 7, 3) := by decide +kernel
theorem d_JAE_init_5 : decode b_JAE_init 5 = .ok (.return_, 1) := by decide +kernel
theorem d_JException_init_0 : decode b_JException_init 0 = .ok (.aload_n 0, 1) := by decide +kernel
theorem d_JException_init_1 : decode b_JException_init 1 = .ok (.aload_n 1, 1) := by decide +kernel
theorem d_JException_init_2 : decode b_JException_init 2 = .ok (.invokespecial 7, 3) := by decide +kernel
theorem d_JException_init_5 : decode b_JException_init 5 = .ok (.return_, 1) := by decide +kernel
theorem d_JIAE_init_0 : decode b_JIAE_init 0 = .ok (.aload_n 0, 1) := by decide +kernel
theorem d_JIAE_init_1 : decode b_JIAE_init 1 = .ok (.aload_n 1, 1) := by decide +kernel
theorem d_JIAE_init_2 : decode b_JIAE_init 2 = .ok (.invokespecial 7, 3) := by decide +kernel
theorem d_JIAE_init_5 : decode b_JIAE_init 5 = .ok (.return_, 1) := by decide +kernel
theorem d_JISE_init_0 : decode b_JISE_init 0 = .ok (.aload_n 0, 1) := by decide +kernel
theorem d_JISE_init_1 : decode b_JISE_init 1 = .ok (.aload_n 1, 1) := by decide +kernel
theorem d_JISE_init_2 : decode b_JISE_init 2 = .ok (.invokespecial 7, 3) := by decide +kernel
theorem d_JISE_init_5 : decode b_JISE_init 5 = .ok (.return_, 1) := by decide +kernel
theorem d_JLong_bitCount_0 : decode b_JLong_bitCount 0 = .ok (.lload_n 0, 1) := by decide +kernel
theorem d_JLong_bitCount_1 : decode b_JLong_bitCount 1 = .ok (.lload_n 0, 1) := by decide +kernel
theorem d_JLong_bitCount_2 : decode b_JLong_bitCount 2 = .ok (.iconst 1, 1) := by decide +kernel
theorem d_JLong_bitCount_3 : decode b_JLong_bitCount 3 = .ok (.lushr, 1) := by decide +kernel
theorem d_JLong_bitCount_4 : decode b_JLong_bitCount 4 = .ok (.ldc2_w 314, 3) := by decide +kernel
theorem d_JLong_bitCount_7 : decode b_JLong_bitCount 7 = .ok (.land, 1) := by decide +kernel
theorem d_JLong_bitCount_8 : decode b_JLong_bitCount 8 = .ok (.lsub, 1) := by decide +kernel
theorem d_JLong_bitCount_9 : decode b_JLong_bitCount 9 = .ok (.lstore_n 0, 1) := by decide +kernel
theorem d_JLong_bitCount_10 : decode b_JLong_bitCount 10 = .ok (.lload_n 0, 1) := by decide +kernel
theorem d_JLong_bitCount_11 : decode b_JLong_bitCount 11 = .ok (.ldc2_w 316, 3) := by decide +kernel
theorem d_JLong_bitCount_14 : decode b_JLong_bitCount 14 = .ok (.land, 1) := by decide +kernel
theorem d_JLong_bitCount_15 : decode b_JLong_bitCount 15 = .ok (.lload_n 0, 1) := by decide +kernel
theorem d_JLong_bitCount_16 : decode b_JLong_bitCount 16 = .ok (.iconst 2, 1) := by decide +kernel
theorem d_JLong_bitCount_17 : decode b_JLong_bitCount 17 = .ok (.lushr, 1) := by decide +kernel
theorem d_JLong_bitCount_18 : decode b_JLong_bitCount 18 = .ok (.ldc2_w 316, 3) := by decide +kernel
theorem d_JLong_bitCount_21 : decode b_JLong_bitCount 21 = .ok (.land, 1) := by decide +kernel
theorem d_JLong_bitCount_22 : decode b_JLong_bitCount 22 = .ok (.ladd, 1) := by decide +kernel
theorem d_JLong_bitCount_23 : decode b_JLong_bitCount 23 = .ok (.lstore_n 0, 1) := by decide +kernel
theorem d_JLong_bitCount_24 : decode b_JLong_bitCount 24 = .ok (.lload_n 0, 1) := by decide +kernel
theorem d_JLong_bitCount_25 : decode b_JLong_bitCount 25 = .ok (.lload_n 0, 1) := by decide +kernel
theorem d_JLong_bitCount_26 : decode b_JLong_bitCount 26 = .ok (.iconst 4, 1) := by decide +kernel
theorem d_JLong_bitCount_27 : decode b_JLong_bitCount 27 = .ok (.lushr, 1) := by decide +kernel
theorem d_JLong_bitCount_28 : decode b_JLong_bitCount 28 = .ok (.ladd, 1) := by decide +kernel
theorem d_JLong_bitCount_29 : decode b_JLong_bitCount 29 = .ok (.ldc2_w 318, 3) := by decide +kernel
theorem d_JLong_bitCount_32 : decode b_JLong_bitCount 32 = .ok (.land, 1) := by decide +kernel
theorem d_JLong_bitCount_33 : decode b_JLong_bitCount 33 = .ok (.lstore_n 0, 1) := by decide +kernel
theorem d_JLong_bitCount_34 : decode b_JLong_bitCount 34 = .ok (.lload_n 0, 1) := by decide +kernel
theorem d_JLong_bitCount_35 : decode b_JLong_bitCount 35 = .ok (.lload_n 0, 1) := by decide +kernel
theorem d_JLong_bitCount_36 : decode b_JLong_bitCount 36 = .ok (.bipush 8, 2) := by decide +kernel
theorem d_JLong_bitCount_38 : decode b_JLong_bitCount 38 = .ok (.lushr, 1) := by decide +kernel
theorem d_JLong_bitCount_39 : decode b_JLong_bitCount 39 = .ok (.ladd, 1) := by decide +kernel
theorem d_JLong_bitCount_40 : decode b_JLong_bitCount 40 = .ok (.lstore_n 0, 1) := by decide +kernel
theorem d_JLong_bitCount_41 : decode b_JLong_bitCount 41 = .ok (.lload_n 0, 1) := by decide +kernel
theorem d_JLong_bitCount_42 : decode b_JLong_bitCount 42 = .ok (.lload_n 0, 1) := by decide +kernel
theorem d_JLong_bitCount_43 : decode b_JLong_bitCount 43 = .ok (.bipush 16, 2) := by decide +kernel
theorem d_JLong_bitCount_45 : decode b_JLong_bitCount 45 = .ok (.lushr, 1) := by decide +kernel
theorem d_JLong_bitCount_46 : decode b_JLong_bitCount 46 = .ok (.ladd, 1) := by decide +kernel
theorem d_JLong_bitCount_47 : decode b_JLong_bitCount 47 = .ok (.lstore_n 0, 1) := by decide +kernel
theorem d_JLong_bitCount_48 : decode b_JLong_bitCount 48 = .ok (.lload_n 0, 1) := by decide +kernel
theorem d_JLong_bitCount_49 : decode b_JLong_bitCount 49 = .ok (.lload_n 0, 1) := by decide +kernel
theorem d_JLong_bitCount_50 : decode b_JLong_bitCount 50 = .ok (.bipush 32, 2) := by decide +kernel
theorem d_JLong_bitCount_52 : decode b_JLong_bitCount 52 = .ok (.lushr, 1) := by decide +kernel
theorem d_JLong_bitCount_53 : decode b_JLong_bitCount 53 = .ok (.ladd, 1) := by decide +kernel
theorem d_JLong_bitCount_54 : decode b_JLong_bitCount 54 = .ok (.lstore_n 0, 1) := by decide +kernel
theorem d_JLong_bitCount_55 : decode b_JLong_bitCount 55 = .ok (.lload_n 0, 1) := by decide +kernel
theorem d_JLong_bitCount_56 : decode b_JLong_bitCount 56 = .ok (.l2i, 1) := by decide +kernel
theorem d_JLong_bitCount_57 : decode b_JLong_bitCount 57 = .ok (.bipush 127, 2) := by decide +kernel
theorem d_JLong_bitCount_59 : decode b_JLong_bitCount 59 = .ok (.iand, 1) := by decide +kernel
theorem d_JLong_bitCount_60 : decode b_JLong_bitCount 60 = .ok (.ireturn, 1) := by decide +kernel
theorem d_JLong_compare_0 : decode b_JLong_compare 0 = .ok (.lload_n 0, 1) := by decide +kernel
theorem d_JLong_compare_1 : decode b_JLong_compare 1 = .ok (.lload_n 2, 1) := by decide +kernel
theorem d_JLong_compare_2 : decode b_JLong_compare 2 = .ok (.lcmp, 1) := by decide +kernel
theorem d_JLong_compare_3 : decode b_JLong_compare 3 = .ok (.ifCond .ge 7, 3) := by decide +kernel
theorem d_JLong_compare_6 : decode b_JLong_compare 6 = .ok (.iconst (-1), 1) := by decide +kernel
theorem d_JLong_compare_7 : decode b_JLong_compare 7 = .ok (.goto 14, 3) := by decide +kernel
theorem d_JLong_compare_10 : decode b_JLong_compare 10 = .ok (.lload_n 0, 1) := by decide +kernel
theorem d_JLong_compare_11 : decode b_JLong_compare 11 = .ok (.lload_n 2, 1) := by decide +kernel
theorem d_JLong_compare_12 : decode b_JLong_compare 12 = .ok (.lcmp, 1) := by decide +kernel
theorem d_JLong_compare_13 : decode b_JLong_compare 13 = .ok (.ifCond .ne 7, 3) := by decide +kernel
theorem d_JLong_compare_16 : decode b_JLong_compare 16 = .ok (.iconst 0, 1) := by decide +kernel
theorem d_JLong_compare_17 : decode b_JLong_compare 17 = .ok (.goto 4, 3) := by decide +kernel
theorem d_JLong_compare_20 : decode b_JLong_compare 20 = .ok (.iconst 1, 1) := by decide +kernel
theorem d_JLong_compare_21 : decode b_JLong_compare 21 = .ok (.ireturn, 1) := by decide +kernel
theorem d_JMath_abs_0 : decode b_JMath_abs 0 = .ok (.iload_n 0, 1) := by decide +kernel
theorem d_JMath_abs_1 : decode b_JMath_abs 1 = .ok (.ifCond .ge 8, 3) := by decide +kernel
theorem d_JMath_abs_4 : decode b_JMath_abs 4 = .ok (.iload_n 0, 1) := by decide +kernel
theorem d_JMath_abs_5 : decode b_JMath_abs 5 = .ok (.ineg, 1) := by decide +kernel
theorem d_JMath_abs_6 : decode b_JMath_abs 6 = .ok (.goto 4, 3) := by decide +kernel
theorem d_JMath_abs_9 : decode b_JMath_abs 9 = .ok (.iload_n 0, 1) := by decide +kernel
theorem d_JMath_abs_10 : decode b_JMath_abs 10 = .ok (.ireturn, 1) := by decide +kernel
theorem d_JMath_floorDiv_0 : decode b_JMath_floorDiv 0 = .ok (.iload_n 0, 1) := by decide +kernel
theorem d_JMath_floorDiv_1 : decode b_JMath_floorDiv 1 = .ok (.iload_n 1, 1) := by decide +kernel
theorem d_JMath_floorDiv_2 : decode b_JMath_floorDiv 2 = .ok (.idiv, 1) := by decide +kernel
theorem d_JMath_floorDiv_3 : decode b_JMath_floorDiv 3 = .ok (.istore_n 2, 1) := by decide +kernel
theorem d_JMath_floorDiv_4 : decode b_JMath_floorDiv 4 = .ok (.iload_n 0, 1) := by decide +kernel
theorem d_JMath_floorDiv_5 : decode b_JMath_floorDiv 5 = .ok (.iload_n 1, 1) := by decide +kernel
theorem d_JMath_floorDiv_6 : decode b_JMath_floorDiv 6 = .ok (.ixor, 1) := by decide +kernel
theorem d_JMath_floorDiv_7 : decode b_JMath_floorDiv 7 = .ok (.ifCond .ge 14, 3) := by decide +kernel
theorem d_JMath_floorDiv_10 : decode b_JMath_floorDiv 10 = .ok (.iload_n 2, 1) := by decide +kernel
theorem d_JMath_floorDiv_11 : decode b_JMath_floorDiv 11 = .ok (.iload_n 1, 1) := by decide +kernel
theorem d_JMath_floorDiv_12 : decode b_JMath_floorDiv 12 = .ok (.imul, 1) := by decide +kernel
theorem d_JMath_floorDiv_13 : decode b_JMath_floorDiv 13 = .ok (.iload_n 0, 1) := by decide +kernel
theorem d_JMath_floorDiv_14 : decode b_JMath_floorDiv 14 = .ok (.if_icmp .eq 7, 3) := by decide +kernel
theorem d_JMath_floorDiv_17 : decode b_JMath_floorDiv 17 = .ok (.iload_n 2, 1) := by decide +kernel
theorem d_JMath_floorDiv_18 : decode b_JMath_floorDiv 18 = .ok (.iconst 1, 1) := by decide +kernel
theorem d_JMath_floorDiv_19 : decode b_JMath_floorDiv 19 = .ok (.isub, 1) := by decide +kernel
theorem d_JMath_floorDiv_20 : decode b_JMath_floorDiv 20 = .ok (.ireturn, 1) := by decide +kernel
theorem d_JMath_floorDiv_21 : decode b_JMath_floorDiv 21 = .ok (.iload_n 2, 1) := by decide +kernel
theorem d_JMath_floorDiv_22 : decode b_JMath_floorDiv 22 = .ok (.ireturn, 1) := by decide +kernel
theorem d_JMath_max_0 : decode b_JMath_max 0 = .ok (.iload_n 0, 1) := by decide +kernel
theorem d_JMath_max_1 : decode b_JMath_max 1 = .ok (.iload_n 1, 1) := by decide +kernel
theorem d_JMath_max_2 : decode b_JMath_max 2 = .ok (.if_icmp .lt 7, 3) := by decide +kernel
theorem d_JMath_max_5 : decode b_JMath_max 5 = .ok (.iload_n 0, 1) := by decide +kernel
theorem d_JMath_max_6 : decode b_JMath_max 6 = .ok (.goto 4, 3) := by decide +kernel
theorem d_JMath_max_9 : decode b_JMath_max 9 = .ok (.iload_n 1, 1) := by decide +kernel
theorem d_JMath_max_10 : decode b_JMath_max 10 = .ok (.ireturn, 1) := by decide +kernel
theorem d_JMath_min_0 : decode b_JMath_min 0 = .ok (.iload_n 0, 1) := by decide +kernel
theorem d_JMath_min_1 : decode b_JMath_min 1 = .ok (.iload_n 1, 1) := by decide +kernel
theorem d_JMath_min_2 : decode b_JMath_min 2 = .ok (.if_icmp .gt 7, 3) := by decide +kernel
theorem d_JMath_min_5 : decode b_JMath_min 5 = .ok (.iload_n 0, 1) := by decide +kernel
theorem d_JMath_min_6 : decode b_JMath_min 6 = .ok (.goto 4, 3) := by decide +kernel
theorem d_JMath_min_9 : decode b_JMath_min 9 = .ok (.iload_n 1, 1) := by decide +kernel
theorem d_JMath_min_10 : decode b_JMath_min 10 = .ok (.ireturn, 1) := by decide +kernel
theorem d_JMath_min2_0 : decode b_JMath_min2 0 = .ok (.lload_n 0, 1) := by decide +kernel
theorem d_JMath_min2_1 : decode b_JMath_min2 1 = .ok (.lload_n 2, 1) := by decide +kernel
theorem d_JMath_min2_2 : decode b_JMath_min2 2 = .ok (.lcmp, 1) := by decide +kernel
theorem d_JMath_min2_3 : decode b_JMath_min2 3 = .ok (.ifCond .gt 7, 3) := by decide +kernel
theorem d_JMath_min2_6 : decode b_JMath_min2 6 = .ok (.lload_n 0, 1) := by decide +kernel
theorem d_JMath_min2_7 : decode b_JMath_min2 7 = .ok (.goto 4, 3) := by decide +kernel
theorem d_JMath_min2_10 : decode b_JMath_min2 10 = .ok (.lload_n 2, 1) := by decide +kernel
theorem d_JMath_min2_11 : decode b_JMath_min2 11 = .ok (.lreturn, 1) := by decide +kernel
theorem d_JRuntime_init_0 : decode b_JRuntime_init 0 = .ok (.aload_n 0, 1) := by decide +kernel
theorem d_JRuntime_init_1 : decode b_JRuntime_init 1 = .ok (.aload_n 1, 1) := by decide +kernel
theorem d_JRuntime_init_2 : decode b_JRuntime_init 2 = .ok (.invokespecial 7, 3) := by decide +kernel
theorem d_JRuntime_init_5 : decode b_JRuntime_init 5 = .ok (.return_, 1) := by decide +kernel
theorem d_JThrowable_init_0 : decode b_JThrowable_init 0 = .ok (.aload_n 0, 1) := by decide +kernel
theorem d_JThrowable_init_1 : decode b_JThrowable_init 1 = .ok (.invokespecial 1, 3) := by decide +kernel
theorem d_JThrowable_init_4 : decode b_JThrowable_init 4 = .ok (.aload_n 0, 1) := by decide +kernel
theorem d_JThrowable_init_5 : decode b_JThrowable_init 5 = .ok (.aload_n 0, 1) := by decide +kernel
theorem d_JThrowable_init_6 : decode b_JThrowable_init 6 = .ok (.putfield 7, 3) := by decide +kernel
theorem d_JThrowable_init_9 : decode b_JThrowable_init 9 = .ok (.aload_n 0, 1) := by decide +kernel
theorem d_JThrowable_init_10 : decode b_JThrowable_init 10 = .ok (.getstatic 13, 3) := by decide +kernel
theorem d_JThrowable_init_13 : decode b_JThrowable_init 13 = .ok (.putfield 17, 3) := by decide +kernel
theorem d_JThrowable_init_16 : decode b_JThrowable_init 16 = .ok (.aload_n 0, 1) := by decide +kernel
theorem d_JThrowable_init_17 : decode b_JThrowable_init 17 = .ok (.getstatic 20, 3) := by decide +kernel
theorem d_JThrowable_init_20 : decode b_JThrowable_init 20 = .ok (.putfield 24, 3) := by decide +kernel
theorem d_JThrowable_init_23 : decode b_JThrowable_init 23 = .ok (.aload_n 0, 1) := by decide +kernel
theorem d_JThrowable_init_24 : decode b_JThrowable_init 24 = .ok (.invokevirtual 27, 3) := by decide +kernel
theorem d_JThrowable_init_27 : decode b_JThrowable_init 27 = .ok (.pop, 1) := by decide +kernel
theorem d_JThrowable_init_28 : decode b_JThrowable_init 28 = .ok (.aload_n 0, 1) := by decide +kernel
theorem d_JThrowable_init_29 : decode b_JThrowable_init 29 = .ok (.aload_n 1, 1) := by decide +kernel
theorem d_JThrowable_init_30 : decode b_JThrowable_init 30 = .ok (.putfield 31, 3) := by decide +kernel
theorem d_JThrowable_init_33 : decode b_JThrowable_init 33 = .ok (.return_, 1) := by decide +kernel
theorem d_JThrowable_fillInStackTrace_0 : decode b_JThrowable_fillInStackTrace 0 = .ok (.aload_n 0, 1) := by decide +kernel
theorem d_JThrowable_fillInStackTrace_1 : decode b_JThrowable_fillInStackTrace 1 = .ok (.getfield 17, 3) := by decide +kernel
theorem d_JThrowable_fillInStackTrace_4 : decode b_JThrowable_fillInStackTrace 4 = .ok (.ifnonnull 10, 3) := by decide +kernel
theorem d_JThrowable_fillInStackTrace_7 : decode b_JThrowable_fillInStackTrace 7 = .ok (.aload_n 0, 1) := by decide +kernel
theorem d_JThrowable_fillInStackTrace_8 : decode b_JThrowable_fillInStackTrace 8 = .ok (.getfield 198, 3) := by decide +kernel
theorem d_JThrowable_fillInStackTrace_11 : decode b_JThrowable_fillInStackTrace 11 = .ok (.ifnull 16, 3) := by decide +kernel
theorem d_JThrowable_fillInStackTrace_14 : decode b_JThrowable_fillInStackTrace 14 = .ok (.aload_n 0, 1) := by decide +kernel
theorem d_JThrowable_fillInStackTrace_15 : decode b_JThrowable_fillInStackTrace 15 = .ok (.iconst 0, 1) := by decide +kernel
theorem d_JThrowable_fillInStackTrace_16 : decode b_JThrowable_fillInStackTrace 16 = .ok (.invokevirtual 202, 3) := by decide +kernel
theorem d_JThrowable_fillInStackTrace_19 : decode b_JThrowable_fillInStackTrace 19 = .ok (.pop, 1) := by decide +kernel
theorem d_JThrowable_fillInStackTrace_20 : decode b_JThrowable_fillInStackTrace 20 = .ok (.aload_n 0, 1) := by decide +kernel
theorem d_JThrowable_fillInStackTrace_21 : decode b_JThrowable_fillInStackTrace 21 = .ok (.getstatic 13, 3) := by decide +kernel
theorem d_JThrowable_fillInStackTrace_24 : decode b_JThrowable_fillInStackTrace 24 = .ok (.putfield 17, 3) := by decide +kernel
theorem d_JThrowable_fillInStackTrace_27 : decode b_JThrowable_fillInStackTrace 27 = .ok (.aload_n 0, 1) := by decide +kernel
theorem d_JThrowable_fillInStackTrace_28 : decode b_JThrowable_fillInStackTrace 28 = .ok (.areturn, 1) := by decide +kernel
theorem d_JArrays_fill_0 : decode b_JArrays_fill 0 = .ok (.iconst 0, 1) := by decide +kernel
theorem d_JArrays_fill_1 : decode b_JArrays_fill 1 = .ok (.istore_n 2, 1) := by decide +kernel
theorem d_JArrays_fill_2 : decode b_JArrays_fill 2 = .ok (.aload_n 0, 1) := by decide +kernel
theorem d_JArrays_fill_3 : decode b_JArrays_fill 3 = .ok (.arraylength, 1) := by decide +kernel
theorem d_JArrays_fill_4 : decode b_JArrays_fill 4 = .ok (.istore_n 3, 1) := by decide +kernel
theorem d_JArrays_fill_5 : decode b_JArrays_fill 5 = .ok (.iload_n 2, 1) := by decide +kernel
theorem d_JArrays_fill_6 : decode b_JArrays_fill 6 = .ok (.iload_n 3, 1) := by decide +kernel
theorem d_JArrays_fill_7 : decode b_JArrays_fill 7 = .ok (.if_icmp .ge 13, 3) := by decide +kernel
theorem d_JArrays_fill_10 : decode b_JArrays_fill 10 = .ok (.aload_n 0, 1) := by decide +kernel
theorem d_JArrays_fill_11 : decode b_JArrays_fill 11 = .ok (.iload_n 2, 1) := by decide +kernel
theorem d_JArrays_fill_12 : decode b_JArrays_fill 12 = .ok (.iload_n 1, 1) := by decide +kernel
theorem d_JArrays_fill_13 : decode b_JArrays_fill 13 = .ok (.iastore, 1) := by decide +kernel
theorem d_JArrays_fill_14 : decode b_JArrays_fill 14 = .ok (.iinc 2 1, 3) := by decide +kernel
theorem d_JArrays_fill_17 : decode b_JArrays_fill 17 = .ok (.goto (-12), 3) := by decide +kernel
theorem d_JArrays_fill_20 : decode b_JArrays_fill 20 = .ok (.return_, 1) := by decide +kernel
