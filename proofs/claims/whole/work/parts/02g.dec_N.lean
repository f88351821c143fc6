theorem d_N_init_0 : decode b_N_init 0 = .ok (.aload_n 0, 1) := by decide +kernel
theorem d_N_init_1 : decode b_N_init 1 = .ok (.invokespecial 3, 3) := by decide +kernel
theorem d_N_init_4 : decode b_N_init 4 = .ok (.aload_n 0, 1) := by decide +kernel
theorem d_N_init_5 : decode b_N_init 5 = .ok (.bipush 16, 2) := by decide +kernel
theorem d_N_init_7 : decode b_N_init 7 = .ok (.newarray .int, 2) := by decide +kernel
theorem d_N_init_9 : decode b_N_init 9 = .ok (.putfield 9, 3) := by decide +kernel
theorem d_N_init_12 : decode b_N_init 12 = .ok (.return_, 1) := by decide +kernel
theorem d_N_clear_0 : decode b_N_clear 0 = .ok (.aload_n 0, 1) := by decide +kernel
theorem d_N_clear_1 : decode b_N_clear 1 = .ok (.getfield 9, 3) := by decide +kernel
theorem d_N_clear_4 : decode b_N_clear 4 = .ok (.iconst 0, 1) := by decide +kernel
theorem d_N_clear_5 : decode b_N_clear 5 = .ok (.invokestatic 13, 3) := by decide +kernel
theorem d_N_clear_8 : decode b_N_clear 8 = .ok (.aload_n 0, 1) := by decide +kernel
theorem d_N_clear_9 : decode b_N_clear 9 = .ok (.iconst 0, 1) := by decide +kernel
theorem d_N_clear_10 : decode b_N_clear 10 = .ok (.putfield 19, 3) := by decide +kernel
theorem d_N_clear_13 : decode b_N_clear 13 = .ok (.return_, 1) := by decide +kernel
theorem d_N_set_0 : decode b_N_set 0 = .ok (.aload_n 0, 1) := by decide +kernel
theorem d_N_set_1 : decode b_N_set 1 = .ok (.invokevirtual 23, 3) := by decide +kernel
theorem d_N_set_4 : decode b_N_set 4 = .ok (.aload_n 0, 1) := by decide +kernel
theorem d_N_set_5 : decode b_N_set 5 = .ok (.getfield 9, 3) := by decide +kernel
theorem d_N_set_8 : decode b_N_set 8 = .ok (.iconst 0, 1) := by decide +kernel
theorem d_N_set_9 : decode b_N_set 9 = .ok (.lload_n 1, 1) := by decide +kernel
theorem d_N_set_10 : decode b_N_set 10 = .ok (.ldc2_w 26, 3) := by decide +kernel
theorem d_N_set_13 : decode b_N_set 13 = .ok (.land, 1) := by decide +kernel
theorem d_N_set_14 : decode b_N_set 14 = .ok (.l2i, 1) := by decide +kernel
theorem d_N_set_15 : decode b_N_set 15 = .ok (.iastore, 1) := by decide +kernel
theorem d_N_set_16 : decode b_N_set 16 = .ok (.aload_n 0, 1) := by decide +kernel
theorem d_N_set_17 : decode b_N_set 17 = .ok (.getfield 9, 3) := by decide +kernel
theorem d_N_set_20 : decode b_N_set 20 = .ok (.iconst 1, 1) := by decide +kernel
theorem d_N_set_21 : decode b_N_set 21 = .ok (.lload_n 1, 1) := by decide +kernel
theorem d_N_set_22 : decode b_N_set 22 = .ok (.bipush 30, 2) := by decide +kernel
theorem d_N_set_24 : decode b_N_set 24 = .ok (.lushr, 1) := by decide +kernel
theorem d_N_set_25 : decode b_N_set 25 = .ok (.ldc2_w 26, 3) := by decide +kernel
theorem d_N_set_28 : decode b_N_set 28 = .ok (.land, 1) := by decide +kernel
theorem d_N_set_29 : decode b_N_set 29 = .ok (.l2i, 1) := by decide +kernel
theorem d_N_set_30 : decode b_N_set 30 = .ok (.iastore, 1) := by decide +kernel
theorem d_N_set_31 : decode b_N_set 31 = .ok (.aload_n 0, 1) := by decide +kernel
theorem d_N_set_32 : decode b_N_set 32 = .ok (.getfield 9, 3) := by decide +kernel
theorem d_N_set_35 : decode b_N_set 35 = .ok (.iconst 2, 1) := by decide +kernel
theorem d_N_set_36 : decode b_N_set 36 = .ok (.lload_n 1, 1) := by decide +kernel
theorem d_N_set_37 : decode b_N_set 37 = .ok (.bipush 60, 2) := by decide +kernel
theorem d_N_set_39 : decode b_N_set 39 = .ok (.lushr, 1) := by decide +kernel
theorem d_N_set_40 : decode b_N_set 40 = .ok (.l2i, 1) := by decide +kernel
theorem d_N_set_41 : decode b_N_set 41 = .ok (.iastore, 1) := by decide +kernel
theorem d_N_set_42 : decode b_N_set 42 = .ok (.aload_n 0, 1) := by decide +kernel
theorem d_N_set_43 : decode b_N_set 43 = .ok (.iconst 3, 1) := by decide +kernel
theorem d_N_set_44 : decode b_N_set 44 = .ok (.invokevirtual 28, 3) := by decide +kernel
theorem d_N_set_47 : decode b_N_set 47 = .ok (.return_, 1) := by decide +kernel
theorem d_N_copyFrom_0 : decode b_N_copyFrom 0 = .ok (.aload_n 1, 1) := by decide +kernel
theorem d_N_copyFrom_1 : decode b_N_copyFrom 1 = .ok (.getfield 9, 3) := by decide +kernel
theorem d_N_copyFrom_4 : decode b_N_copyFrom 4 = .ok (.iconst 0, 1) := by decide +kernel
theorem d_N_copyFrom_5 : decode b_N_copyFrom 5 = .ok (.aload_n 0, 1) := by decide +kernel
theorem d_N_copyFrom_6 : decode b_N_copyFrom 6 = .ok (.getfield 9, 3) := by decide +kernel
theorem d_N_copyFrom_9 : decode b_N_copyFrom 9 = .ok (.iconst 0, 1) := by decide +kernel
theorem d_N_copyFrom_10 : decode b_N_copyFrom 10 = .ok (.bipush 16, 2) := by decide +kernel
theorem d_N_copyFrom_12 : decode b_N_copyFrom 12 = .ok (.invokestatic 32, 3) := by decide +kernel
theorem d_N_copyFrom_15 : decode b_N_copyFrom 15 = .ok (.aload_n 0, 1) := by decide +kernel
theorem d_N_copyFrom_16 : decode b_N_copyFrom 16 = .ok (.aload_n 1, 1) := by decide +kernel
theorem d_N_copyFrom_17 : decode b_N_copyFrom 17 = .ok (.getfield 19, 3) := by decide +kernel
theorem d_N_copyFrom_20 : decode b_N_copyFrom 20 = .ok (.putfield 19, 3) := by decide +kernel
theorem d_N_copyFrom_23 : decode b_N_copyFrom 23 = .ok (.return_, 1) := by decide +kernel
theorem d_N_isZero_0 : decode b_N_isZero 0 = .ok (.aload_n 0, 1) := by decide +kernel
theorem d_N_isZero_1 : decode b_N_isZero 1 = .ok (.getfield 19, 3) := by decide +kernel
theorem d_N_isZero_4 : decode b_N_isZero 4 = .ok (.ifCond .ne 7, 3) := by decide +kernel
theorem d_N_isZero_7 : decode b_N_isZero 7 = .ok (.iconst 1, 1) := by decide +kernel
theorem d_N_isZero_8 : decode b_N_isZero 8 = .ok (.goto 4, 3) := by decide +kernel
theorem d_N_isZero_11 : decode b_N_isZero 11 = .ok (.iconst 0, 1) := by decide +kernel
theorem d_N_isZero_12 : decode b_N_isZero 12 = .ok (.ireturn, 1) := by decide +kernel
theorem d_N_isOne_0 : decode b_N_isOne 0 = .ok (.aload_n 0, 1) := by decide +kernel
theorem d_N_isOne_1 : decode b_N_isOne 1 = .ok (.getfield 19, 3) := by decide +kernel
theorem d_N_isOne_4 : decode b_N_isOne 4 = .ok (.iconst 1, 1) := by decide +kernel
theorem d_N_isOne_5 : decode b_N_isOne 5 = .ok (.if_icmp .ne 17, 3) := by decide +kernel
theorem d_N_isOne_8 : decode b_N_isOne 8 = .ok (.aload_n 0, 1) := by decide +kernel
theorem d_N_isOne_9 : decode b_N_isOne 9 = .ok (.getfield 9, 3) := by decide +kernel
theorem d_N_isOne_12 : decode b_N_isOne 12 = .ok (.iconst 0, 1) := by decide +kernel
theorem d_N_isOne_13 : decode b_N_isOne 13 = .ok (.iaload, 1) := by decide +kernel
theorem d_N_isOne_14 : decode b_N_isOne 14 = .ok (.iconst 1, 1) := by decide +kernel
theorem d_N_isOne_15 : decode b_N_isOne 15 = .ok (.if_icmp .ne 7, 3) := by decide +kernel
theorem d_N_isOne_18 : decode b_N_isOne 18 = .ok (.iconst 1, 1) := by decide +kernel
theorem d_N_isOne_19 : decode b_N_isOne 19 = .ok (.goto 4, 3) := by decide +kernel
theorem d_N_isOne_22 : decode b_N_isOne 22 = .ok (.iconst 0, 1) := by decide +kernel
theorem d_N_isOne_23 : decode b_N_isOne 23 = .ok (.ireturn, 1) := by decide +kernel
theorem d_N_isOdd_0 : decode b_N_isOdd 0 = .ok (.aload_n 0, 1) := by decide +kernel
theorem d_N_isOdd_1 : decode b_N_isOdd 1 = .ok (.getfield 9, 3) := by decide +kernel
theorem d_N_isOdd_4 : decode b_N_isOdd 4 = .ok (.iconst 0, 1) := by decide +kernel
theorem d_N_isOdd_5 : decode b_N_isOdd 5 = .ok (.iaload, 1) := by decide +kernel
theorem d_N_isOdd_6 : decode b_N_isOdd 6 = .ok (.iconst 1, 1) := by decide +kernel
theorem d_N_isOdd_7 : decode b_N_isOdd 7 = .ok (.iand, 1) := by decide +kernel
theorem d_N_isOdd_8 : decode b_N_isOdd 8 = .ok (.ifCond .eq 7, 3) := by decide +kernel
theorem d_N_isOdd_11 : decode b_N_isOdd 11 = .ok (.iconst 1, 1) := by decide +kernel
theorem d_N_isOdd_12 : decode b_N_isOdd 12 = .ok (.goto 4, 3) := by decide +kernel
theorem d_N_isOdd_15 : decode b_N_isOdd 15 = .ok (.iconst 0, 1) := by decide +kernel
theorem d_N_isOdd_16 : decode b_N_isOdd 16 = .ok (.ireturn, 1) := by decide +kernel
theorem d_N_sixtyBits_0 : decode b_N_sixtyBits 0 = .ok (.iload_n 1, 1) := by decide +kernel
theorem d_N_sixtyBits_1 : decode b_N_sixtyBits 1 = .ok (.iconst 1, 1) := by decide +kernel
theorem d_N_sixtyBits_2 : decode b_N_sixtyBits 2 = .ok (.if_icmp .ne 7, 3) := by decide +kernel
theorem d_N_sixtyBits_5 : decode b_N_sixtyBits 5 = .ok (.iconst 2, 1) := by decide +kernel
theorem d_N_sixtyBits_6 : decode b_N_sixtyBits 6 = .ok (.goto 4, 3) := by decide +kernel
theorem d_N_sixtyBits_9 : decode b_N_sixtyBits 9 = .ok (.iconst 0, 1) := by decide +kernel
theorem d_N_sixtyBits_10 : decode b_N_sixtyBits 10 = .ok (.istore_n 2, 1) := by decide +kernel
theorem d_N_sixtyBits_11 : decode b_N_sixtyBits 11 = .ok (.aload_n 0, 1) := by decide +kernel
theorem d_N_sixtyBits_12 : decode b_N_sixtyBits 12 = .ok (.getfield 9, 3) := by decide +kernel
theorem d_N_sixtyBits_15 : decode b_N_sixtyBits 15 = .ok (.iload_n 2, 1) := by decide +kernel
theorem d_N_sixtyBits_16 : decode b_N_sixtyBits 16 = .ok (.iaload, 1) := by decide +kernel
theorem d_N_sixtyBits_17 : decode b_N_sixtyBits 17 = .ok (.i2l, 1) := by decide +kernel
theorem d_N_sixtyBits_18 : decode b_N_sixtyBits 18 = .ok (.aload_n 0, 1) := by decide +kernel
theorem d_N_sixtyBits_19 : decode b_N_sixtyBits 19 = .ok (.getfield 9, 3) := by decide +kernel
theorem d_N_sixtyBits_22 : decode b_N_sixtyBits 22 = .ok (.iload_n 2, 1) := by decide +kernel
theorem d_N_sixtyBits_23 : decode b_N_sixtyBits 23 = .ok (.iconst 1, 1) := by decide +kernel
theorem d_N_sixtyBits_24 : decode b_N_sixtyBits 24 = .ok (.iadd, 1) := by decide +kernel
theorem d_N_sixtyBits_25 : decode b_N_sixtyBits 25 = .ok (.iaload, 1) := by decide +kernel
theorem d_N_sixtyBits_26 : decode b_N_sixtyBits 26 = .ok (.i2l, 1) := by decide +kernel
theorem d_N_sixtyBits_27 : decode b_N_sixtyBits 27 = .ok (.bipush 30, 2) := by decide +kernel
theorem d_N_sixtyBits_29 : decode b_N_sixtyBits 29 = .ok (.lshl, 1) := by decide +kernel
theorem d_N_sixtyBits_30 : decode b_N_sixtyBits 30 = .ok (.lor, 1) := by decide +kernel
theorem d_N_sixtyBits_31 : decode b_N_sixtyBits 31 = .ok (.lreturn, 1) := by decide +kernel
theorem d_N_toLong_0 : decode b_N_toLong 0 = .ok (.aload_n 0, 1) := by decide +kernel
theorem d_N_toLong_1 : decode b_N_toLong 1 = .ok (.iconst 0, 1) := by decide +kernel
theorem d_N_toLong_2 : decode b_N_toLong 2 = .ok (.invokevirtual 38, 3) := by decide +kernel
theorem d_N_toLong_5 : decode b_N_toLong 5 = .ok (.aload_n 0, 1) := by decide +kernel
theorem d_N_toLong_6 : decode b_N_toLong 6 = .ok (.getfield 9, 3) := by decide +kernel
theorem d_N_toLong_9 : decode b_N_toLong 9 = .ok (.iconst 2, 1) := by decide +kernel
theorem d_N_toLong_10 : decode b_N_toLong 10 = .ok (.iaload, 1) := by decide +kernel
theorem d_N_toLong_11 : decode b_N_toLong 11 = .ok (.i2l, 1) := by decide +kernel
theorem d_N_toLong_12 : decode b_N_toLong 12 = .ok (.bipush 60, 2) := by decide +kernel
theorem d_N_toLong_14 : decode b_N_toLong 14 = .ok (.lshl, 1) := by decide +kernel
theorem d_N_toLong_15 : decode b_N_toLong 15 = .ok (.lor, 1) := by decide +kernel
theorem d_N_toLong_16 : decode b_N_toLong 16 = .ok (.lreturn, 1) := by decide +kernel
theorem d_N_toDouble_0 : decode b_N_toDouble 0 = .ok (.dconst 0, 1) := by decide +kernel
theorem d_N_toDouble_1 : decode b_N_toDouble 1 = .ok (.dstore_n 1, 1) := by decide +kernel
theorem d_N_toDouble_2 : decode b_N_toDouble 2 = .ok (.bipush 15, 2) := by decide +kernel
theorem d_N_toDouble_4 : decode b_N_toDouble 4 = .ok (.istore_n 3, 1) := by decide +kernel
theorem d_N_toDouble_5 : decode b_N_toDouble 5 = .ok (.iload_n 3, 1) := by decide +kernel
theorem d_N_toDouble_6 : decode b_N_toDouble 6 = .ok (.ifCond .lt 23, 3) := by decide +kernel
theorem d_N_toDouble_9 : decode b_N_toDouble 9 = .ok (.dload_n 1, 1) := by decide +kernel
theorem d_N_toDouble_10 : decode b_N_toDouble 10 = .ok (.ldc2_w 42, 3) := by decide +kernel
theorem d_N_toDouble_13 : decode b_N_toDouble 13 = .ok (.dmul, 1) := by decide +kernel
theorem d_N_toDouble_14 : decode b_N_toDouble 14 = .ok (.aload_n 0, 1) := by decide +kernel
theorem d_N_toDouble_15 : decode b_N_toDouble 15 = .ok (.getfield 9, 3) := by decide +kernel
theorem d_N_toDouble_18 : decode b_N_toDouble 18 = .ok (.iload_n 3, 1) := by decide +kernel
theorem d_N_toDouble_19 : decode b_N_toDouble 19 = .ok (.iaload, 1) := by decide +kernel
theorem d_N_toDouble_20 : decode b_N_toDouble 20 = .ok (.i2d, 1) := by decide +kernel
theorem d_N_toDouble_21 : decode b_N_toDouble 21 = .ok (.dadd, 1) := by decide +kernel
theorem d_N_toDouble_22 : decode b_N_toDouble 22 = .ok (.dstore_n 1, 1) := by decide +kernel
theorem d_N_toDouble_23 : decode b_N_toDouble 23 = .ok (.iinc 3 (-1), 3) := by decide +kernel
theorem d_N_toDouble_26 : decode b_N_toDouble 26 = .ok (.goto (-21), 3) := by decide +kernel
theorem d_N_toDouble_29 : decode b_N_toDouble 29 = .ok (.dload_n 1, 1) := by decide +kernel
theorem d_N_toDouble_30 : decode b_N_toDouble 30 = .ok (.dreturn, 1) := by decide +kernel
theorem d_N_bits_0 : decode b_N_bits 0 = .ok (.aload_n 0, 1) := by decide +kernel
theorem d_N_bits_1 : decode b_N_bits 1 = .ok (.getfield 19, 3) := by decide +kernel
theorem d_N_bits_4 : decode b_N_bits 4 = .ok (.ifCond .le 12, 3) := by decide +kernel
theorem d_N_bits_7 : decode b_N_bits 7 = .ok (.aload_n 0, 1) := by decide +kernel
theorem d_N_bits_8 : decode b_N_bits 8 = .ok (.getfield 19, 3) := by decide +kernel
theorem d_N_bits_11 : decode b_N_bits 11 = .ok (.bipush 16, 2) := by decide +kernel
theorem d_N_bits_13 : decode b_N_bits 13 = .ok (.if_icmp .le 5, 3) := by decide +kernel
theorem d_N_bits_16 : decode b_N_bits 16 = .ok (.iconst 0, 1) := by decide +kernel
theorem d_N_bits_17 : decode b_N_bits 17 = .ok (.ireturn, 1) := by decide +kernel
theorem d_N_bits_18 : decode b_N_bits 18 = .ok (.aload_n 0, 1) := by decide +kernel
theorem d_N_bits_19 : decode b_N_bits 19 = .ok (.getfield 19, 3) := by decide +kernel
theorem d_N_bits_22 : decode b_N_bits 22 = .ok (.iconst 1, 1) := by decide +kernel
theorem d_N_bits_23 : decode b_N_bits 23 = .ok (.isub, 1) := by decide +kernel
theorem d_N_bits_24 : decode b_N_bits 24 = .ok (.bipush 30, 2) := by decide +kernel
theorem d_N_bits_26 : decode b_N_bits 26 = .ok (.imul, 1) := by decide +kernel
theorem d_N_bits_27 : decode b_N_bits 27 = .ok (.aload_n 0, 1) := by decide +kernel
theorem d_N_bits_28 : decode b_N_bits 28 = .ok (.getfield 9, 3) := by decide +kernel
theorem d_N_bits_31 : decode b_N_bits 31 = .ok (.aload_n 0, 1) := by decide +kernel
theorem d_N_bits_32 : decode b_N_bits 32 = .ok (.getfield 19, 3) := by decide +kernel
theorem d_N_bits_35 : decode b_N_bits 35 = .ok (.iconst 1, 1) := by decide +kernel
theorem d_N_bits_36 : decode b_N_bits 36 = .ok (.isub, 1) := by decide +kernel
theorem d_N_bits_37 : decode b_N_bits 37 = .ok (.iaload, 1) := by decide +kernel
theorem d_N_bits_38 : decode b_N_bits 38 = .ok (.i2l, 1) := by decide +kernel
theorem d_N_bits_39 : decode b_N_bits 39 = .ok (.invokestatic 44, 3) := by decide +kernel
theorem d_N_bits_42 : decode b_N_bits 42 = .ok (.iadd, 1) := by decide +kernel
theorem d_N_bits_43 : decode b_N_bits 43 = .ok (.ireturn, 1) := by decide +kernel
theorem d_N_bitsOf_0 : decode b_N_bitsOf 0 = .ok (.lload_n 0, 1) := by decide +kernel
theorem d_N_bitsOf_1 : decode b_N_bitsOf 1 = .ok (.lload_n 0, 1) := by decide +kernel
theorem d_N_bitsOf_2 : decode b_N_bitsOf 2 = .ok (.iconst 1, 1) := by decide +kernel
theorem d_N_bitsOf_3 : decode b_N_bitsOf 3 = .ok (.lshr, 1) := by decide +kernel
theorem d_N_bitsOf_4 : decode b_N_bitsOf 4 = .ok (.lor, 1) := by decide +kernel
theorem d_N_bitsOf_5 : decode b_N_bitsOf 5 = .ok (.lstore_n 2, 1) := by decide +kernel
theorem d_N_bitsOf_6 : decode b_N_bitsOf 6 = .ok (.lload_n 2, 1) := by decide +kernel
theorem d_N_bitsOf_7 : decode b_N_bitsOf 7 = .ok (.lload_n 2, 1) := by decide +kernel
theorem d_N_bitsOf_8 : decode b_N_bitsOf 8 = .ok (.iconst 2, 1) := by decide +kernel
theorem d_N_bitsOf_9 : decode b_N_bitsOf 9 = .ok (.lshr, 1) := by decide +kernel
theorem d_N_bitsOf_10 : decode b_N_bitsOf 10 = .ok (.lor, 1) := by decide +kernel
theorem d_N_bitsOf_11 : decode b_N_bitsOf 11 = .ok (.lstore_n 2, 1) := by decide +kernel
theorem d_N_bitsOf_12 : decode b_N_bitsOf 12 = .ok (.lload_n 2, 1) := by decide +kernel
theorem d_N_bitsOf_13 : decode b_N_bitsOf 13 = .ok (.lload_n 2, 1) := by decide +kernel
theorem d_N_bitsOf_14 : decode b_N_bitsOf 14 = .ok (.iconst 4, 1) := by decide +kernel
theorem d_N_bitsOf_15 : decode b_N_bitsOf 15 = .ok (.lshr, 1) := by decide +kernel
theorem d_N_bitsOf_16 : decode b_N_bitsOf 16 = .ok (.lor, 1) := by decide +kernel
theorem d_N_bitsOf_17 : decode b_N_bitsOf 17 = .ok (.lstore_n 2, 1) := by decide +kernel
theorem d_N_bitsOf_18 : decode b_N_bitsOf 18 = .ok (.lload_n 2, 1) := by decide +kernel
theorem d_N_bitsOf_19 : decode b_N_bitsOf 19 = .ok (.lload_n 2, 1) := by decide +kernel
theorem d_N_bitsOf_20 : decode b_N_bitsOf 20 = .ok (.bipush 8, 2) := by decide +kernel
theorem d_N_bitsOf_22 : decode b_N_bitsOf 22 = .ok (.lshr, 1) := by decide +kernel
theorem d_N_bitsOf_23 : decode b_N_bitsOf 23 = .ok (.lor, 1) := by decide +kernel
theorem d_N_bitsOf_24 : decode b_N_bitsOf 24 = .ok (.lstore_n 2, 1) := by decide +kernel
theorem d_N_bitsOf_25 : decode b_N_bitsOf 25 = .ok (.lload_n 2, 1) := by decide +kernel
theorem d_N_bitsOf_26 : decode b_N_bitsOf 26 = .ok (.lload_n 2, 1) := by decide +kernel
theorem d_N_bitsOf_27 : decode b_N_bitsOf 27 = .ok (.bipush 16, 2) := by decide +kernel
theorem d_N_bitsOf_29 : decode b_N_bitsOf 29 = .ok (.lshr, 1) := by decide +kernel
theorem d_N_bitsOf_30 : decode b_N_bitsOf 30 = .ok (.lor, 1) := by decide +kernel
theorem d_N_bitsOf_31 : decode b_N_bitsOf 31 = .ok (.lstore_n 2, 1) := by decide +kernel
theorem d_N_bitsOf_32 : decode b_N_bitsOf 32 = .ok (.lload_n 2, 1) := by decide +kernel
theorem d_N_bitsOf_33 : decode b_N_bitsOf 33 = .ok (.lload_n 2, 1) := by decide +kernel
theorem d_N_bitsOf_34 : decode b_N_bitsOf 34 = .ok (.bipush 32, 2) := by decide +kernel
theorem d_N_bitsOf_36 : decode b_N_bitsOf 36 = .ok (.lshr, 1) := by decide +kernel
theorem d_N_bitsOf_37 : decode b_N_bitsOf 37 = .ok (.lor, 1) := by decide +kernel
theorem d_N_bitsOf_38 : decode b_N_bitsOf 38 = .ok (.lstore_n 2, 1) := by decide +kernel
theorem d_N_bitsOf_39 : decode b_N_bitsOf 39 = .ok (.lload_n 2, 1) := by decide +kernel
theorem d_N_bitsOf_40 : decode b_N_bitsOf 40 = .ok (.invokestatic 48, 3) := by decide +kernel
theorem d_N_bitsOf_43 : decode b_N_bitsOf 43 = .ok (.ireturn, 1) := by decide +kernel
theorem d_N_order_0 : decode b_N_order 0 = .ok (.aload_n 0, 1) := by decide +kernel
theorem d_N_order_1 : decode b_N_order 1 = .ok (.getfield 19, 3) := by decide +kernel
theorem d_N_order_4 : decode b_N_order 4 = .ok (.aload_n 1, 1) := by decide +kernel
theorem d_N_order_5 : decode b_N_order 5 = .ok (.getfield 19, 3) := by decide +kernel
theorem d_N_order_8 : decode b_N_order 8 = .ok (.if_icmp .eq 20, 3) := by decide +kernel
theorem d_N_order_11 : decode b_N_order 11 = .ok (.aload_n 0, 1) := by decide +kernel
theorem d_N_order_12 : decode b_N_order 12 = .ok (.getfield 19, 3) := by decide +kernel
theorem d_N_order_15 : decode b_N_order 15 = .ok (.aload_n 1, 1) := by decide +kernel
theorem d_N_order_16 : decode b_N_order 16 = .ok (.getfield 19, 3) := by decide +kernel
theorem d_N_order_19 : decode b_N_order 19 = .ok (.if_icmp .ge 7, 3) := by decide +kernel
theorem d_N_order_22 : decode b_N_order 22 = .ok (.iconst (-1), 1) := by decide +kernel
theorem d_N_order_23 : decode b_N_order 23 = .ok (.goto 4, 3) := by decide +kernel
theorem d_N_order_26 : decode b_N_order 26 = .ok (.iconst 1, 1) := by decide +kernel
theorem d_N_order_27 : decode b_N_order 27 = .ok (.ireturn, 1) := by decide +kernel
theorem d_N_order_28 : decode b_N_order 28 = .ok (.aload_n 0, 1) := by decide +kernel
theorem d_N_order_29 : decode b_N_order 29 = .ok (.getfield 19, 3) := by decide +kernel
theorem d_N_order_32 : decode b_N_order 32 = .ok (.bipush 16, 2) := by decide +kernel
theorem d_N_order_34 : decode b_N_order 34 = .ok (.invokestatic 53, 3) := by decide +kernel
theorem d_N_order_37 : decode b_N_order 37 = .ok (.iconst 1, 1) := by decide +kernel
theorem d_N_order_38 : decode b_N_order 38 = .ok (.isub, 1) := by decide +kernel
theorem d_N_order_39 : decode b_N_order 39 = .ok (.istore_n 2, 1) := by decide +kernel
theorem d_N_order_40 : decode b_N_order 40 = .ok (.iload_n 2, 1) := by decide +kernel
theorem d_N_order_41 : decode b_N_order 41 = .ok (.ifCond .lt 45, 3) := by decide +kernel
theorem d_N_order_44 : decode b_N_order 44 = .ok (.aload_n 0, 1) := by decide +kernel
theorem d_N_order_45 : decode b_N_order 45 = .ok (.getfield 9, 3) := by decide +kernel
theorem d_N_order_48 : decode b_N_order 48 = .ok (.iload_n 2, 1) := by decide +kernel
theorem d_N_order_49 : decode b_N_order 49 = .ok (.iaload, 1) := by decide +kernel
theorem d_N_order_50 : decode b_N_order 50 = .ok (.aload_n 1, 1) := by decide +kernel
theorem d_N_order_51 : decode b_N_order 51 = .ok (.getfield 9, 3) := by decide +kernel
theorem d_N_order_54 : decode b_N_order 54 = .ok (.iload_n 2, 1) := by decide +kernel
theorem d_N_order_55 : decode b_N_order 55 = .ok (.iaload, 1) := by decide +kernel
theorem d_N_order_56 : decode b_N_order 56 = .ok (.if_icmp .eq 24, 3) := by decide +kernel
theorem d_N_order_59 : decode b_N_order 59 = .ok (.aload_n 0, 1) := by decide +kernel
theorem d_N_order_60 : decode b_N_order 60 = .ok (.getfield 9, 3) := by decide +kernel
theorem d_N_order_63 : decode b_N_order 63 = .ok (.iload_n 2, 1) := by decide +kernel
theorem d_N_order_64 : decode b_N_order 64 = .ok (.iaload, 1) := by decide +kernel
theorem d_N_order_65 : decode b_N_order 65 = .ok (.aload_n 1, 1) := by decide +kernel
theorem d_N_order_66 : decode b_N_order 66 = .ok (.getfield 9, 3) := by decide +kernel
theorem d_N_order_69 : decode b_N_order 69 = .ok (.iload_n 2, 1) := by decide +kernel
theorem d_N_order_70 : decode b_N_order 70 = .ok (.iaload, 1) := by decide +kernel
theorem d_N_order_71 : decode b_N_order 71 = .ok (.if_icmp .ge 7, 3) := by decide +kernel
theorem d_N_order_74 : decode b_N_order 74 = .ok (.iconst (-1), 1) := by decide +kernel
theorem d_N_order_75 : decode b_N_order 75 = .ok (.goto 4, 3) := by decide +kernel
theorem d_N_order_78 : decode b_N_order 78 = .ok (.iconst 1, 1) := by decide +kernel
theorem d_N_order_79 : decode b_N_order 79 = .ok (.ireturn, 1) := by decide +kernel
theorem d_N_order_80 : decode b_N_order 80 = .ok (.iinc 2 (-1), 3) := by decide +kernel
theorem d_N_order_83 : decode b_N_order 83 = .ok (.goto (-43), 3) := by decide +kernel
theorem d_N_order_86 : decode b_N_order 86 = .ok (.iconst 0, 1) := by decide +kernel
theorem d_N_order_87 : decode b_N_order 87 = .ok (.ireturn, 1) := by decide +kernel
theorem d_N_add_0 : decode b_N_add 0 = .ok (.iconst 0, 1) := by decide +kernel
theorem d_N_add_1 : decode b_N_add 1 = .ok (.istore_n 2, 1) := by decide +kernel
theorem d_N_add_2 : decode b_N_add 2 = .ok (.aload_n 0, 1) := by decide +kernel
theorem d_N_add_3 : decode b_N_add 3 = .ok (.getfield 19, 3) := by decide +kernel
theorem d_N_add_6 : decode b_N_add 6 = .ok (.aload_n 1, 1) := by decide +kernel
theorem d_N_add_7 : decode b_N_add 7 = .ok (.getfield 19, 3) := by decide +kernel
theorem d_N_add_10 : decode b_N_add 10 = .ok (.invokestatic 59, 3) := by decide +kernel
theorem d_N_add_13 : decode b_N_add 13 = .ok (.istore_n 3, 1) := by decide +kernel
theorem d_N_add_14 : decode b_N_add 14 = .ok (.iconst 0, 1) := by decide +kernel
theorem d_N_add_15 : decode b_N_add 15 = .ok (.istore 4, 2) := by decide +kernel
theorem d_N_add_17 : decode b_N_add 17 = .ok (.iload 4, 2) := by decide +kernel
theorem d_N_add_19 : decode b_N_add 19 = .ok (.bipush 16, 2) := by decide +kernel
theorem d_N_add_21 : decode b_N_add 21 = .ok (.if_icmp .ge 56, 3) := by decide +kernel
theorem d_N_add_24 : decode b_N_add 24 = .ok (.iload 4, 2) := by decide +kernel
theorem d_N_add_26 : decode b_N_add 26 = .ok (.iload_n 3, 1) := by decide +kernel
theorem d_N_add_27 : decode b_N_add 27 = .ok (.if_icmp .lt 7, 3) := by decide +kernel
theorem d_N_add_30 : decode b_N_add 30 = .ok (.iload_n 2, 1) := by decide +kernel
theorem d_N_add_31 : decode b_N_add 31 = .ok (.ifCond .eq 46, 3) := by decide +kernel
theorem d_N_add_34 : decode b_N_add 34 = .ok (.aload_n 0, 1) := by decide +kernel
theorem d_N_add_35 : decode b_N_add 35 = .ok (.getfield 9, 3) := by decide +kernel
theorem d_N_add_38 : decode b_N_add 38 = .ok (.iload 4, 2) := by decide +kernel
theorem d_N_add_40 : decode b_N_add 40 = .ok (.iaload, 1) := by decide +kernel
theorem d_N_add_41 : decode b_N_add 41 = .ok (.aload_n 1, 1) := by decide +kernel
theorem d_N_add_42 : decode b_N_add 42 = .ok (.getfield 9, 3) := by decide +kernel
theorem d_N_add_45 : decode b_N_add 45 = .ok (.iload 4, 2) := by decide +kernel
theorem d_N_add_47 : decode b_N_add 47 = .ok (.iaload, 1) := by decide +kernel
theorem d_N_add_48 : decode b_N_add 48 = .ok (.iadd, 1) := by decide +kernel
theorem d_N_add_49 : decode b_N_add 49 = .ok (.iload_n 2, 1) := by decide +kernel
theorem d_N_add_50 : decode b_N_add 50 = .ok (.iadd, 1) := by decide +kernel
theorem d_N_add_51 : decode b_N_add 51 = .ok (.istore 5, 2) := by decide +kernel
theorem d_N_add_53 : decode b_N_add 53 = .ok (.aload_n 0, 1) := by decide +kernel
theorem d_N_add_54 : decode b_N_add 54 = .ok (.getfield 9, 3) := by decide +kernel
theorem d_N_add_57 : decode b_N_add 57 = .ok (.iload 4, 2) := by decide +kernel
theorem d_N_add_59 : decode b_N_add 59 = .ok (.iload 5, 2) := by decide +kernel
theorem d_N_add_61 : decode b_N_add 61 = .ok (.ldc 62, 2) := by decide +kernel
theorem d_N_add_63 : decode b_N_add 63 = .ok (.iand, 1) := by decide +kernel
theorem d_N_add_64 : decode b_N_add 64 = .ok (.iastore, 1) := by decide +kernel
theorem d_N_add_65 : decode b_N_add 65 = .ok (.iload 5, 2) := by decide +kernel
theorem d_N_add_67 : decode b_N_add 67 = .ok (.bipush 30, 2) := by decide +kernel
theorem d_N_add_69 : decode b_N_add 69 = .ok (.iushr, 1) := by decide +kernel
theorem d_N_add_70 : decode b_N_add 70 = .ok (.istore_n 2, 1) := by decide +kernel
theorem d_N_add_71 : decode b_N_add 71 = .ok (.iinc 4 1, 3) := by decide +kernel
theorem d_N_add_74 : decode b_N_add 74 = .ok (.goto (-57), 3) := by decide +kernel
theorem d_N_add_77 : decode b_N_add 77 = .ok (.aload_n 0, 1) := by decide +kernel
theorem d_N_add_78 : decode b_N_add 78 = .ok (.iload_n 3, 1) := by decide +kernel
theorem d_N_add_79 : decode b_N_add 79 = .ok (.iconst 1, 1) := by decide +kernel
theorem d_N_add_80 : decode b_N_add 80 = .ok (.iadd, 1) := by decide +kernel
theorem d_N_add_81 : decode b_N_add 81 = .ok (.invokevirtual 28, 3) := by decide +kernel
theorem d_N_add_84 : decode b_N_add 84 = .ok (.return_, 1) := by decide +kernel
theorem d_N_addSmall_0 : decode b_N_addSmall 0 = .ok (.iload_n 1, 1) := by decide +kernel
theorem d_N_addSmall_1 : decode b_N_addSmall 1 = .ok (.istore_n 2, 1) := by decide +kernel
theorem d_N_addSmall_2 : decode b_N_addSmall 2 = .ok (.iconst 0, 1) := by decide +kernel
theorem d_N_addSmall_3 : decode b_N_addSmall 3 = .ok (.istore_n 3, 1) := by decide +kernel
theorem d_N_addSmall_4 : decode b_N_addSmall 4 = .ok (.iload_n 3, 1) := by decide +kernel
theorem d_N_addSmall_5 : decode b_N_addSmall 5 = .ok (.bipush 16, 2) := by decide +kernel
theorem d_N_addSmall_7 : decode b_N_addSmall 7 = .ok (.if_icmp .ge 40, 3) := by decide +kernel
theorem d_N_addSmall_10 : decode b_N_addSmall 10 = .ok (.iload_n 2, 1) := by decide +kernel
theorem d_N_addSmall_11 : decode b_N_addSmall 11 = .ok (.ifCond .eq 36, 3) := by decide +kernel
theorem d_N_addSmall_14 : decode b_N_addSmall 14 = .ok (.aload_n 0, 1) := by decide +kernel
theorem d_N_addSmall_15 : decode b_N_addSmall 15 = .ok (.getfield 9, 3) := by decide +kernel
theorem d_N_addSmall_18 : decode b_N_addSmall 18 = .ok (.iload_n 3, 1) := by decide +kernel
theorem d_N_addSmall_19 : decode b_N_addSmall 19 = .ok (.iaload, 1) := by decide +kernel
theorem d_N_addSmall_20 : decode b_N_addSmall 20 = .ok (.iload_n 2, 1) := by decide +kernel
theorem d_N_addSmall_21 : decode b_N_addSmall 21 = .ok (.iadd, 1) := by decide +kernel
theorem d_N_addSmall_22 : decode b_N_addSmall 22 = .ok (.istore 4, 2) := by decide +kernel
theorem d_N_addSmall_24 : decode b_N_addSmall 24 = .ok (.aload_n 0, 1) := by decide +kernel
theorem d_N_addSmall_25 : decode b_N_addSmall 25 = .ok (.getfield 9, 3) := by decide +kernel
theorem d_N_addSmall_28 : decode b_N_addSmall 28 = .ok (.iload_n 3, 1) := by decide +kernel
theorem d_N_addSmall_29 : decode b_N_addSmall 29 = .ok (.iload 4, 2) := by decide +kernel
theorem d_N_addSmall_31 : decode b_N_addSmall 31 = .ok (.ldc 62, 2) := by decide +kernel
theorem d_N_addSmall_33 : decode b_N_addSmall 33 = .ok (.iand, 1) := by decide +kernel
theorem d_N_addSmall_34 : decode b_N_addSmall 34 = .ok (.iastore, 1) := by decide +kernel
theorem d_N_addSmall_35 : decode b_N_addSmall 35 = .ok (.iload 4, 2) := by decide +kernel
theorem d_N_addSmall_37 : decode b_N_addSmall 37 = .ok (.bipush 30, 2) := by decide +kernel
theorem d_N_addSmall_39 : decode b_N_addSmall 39 = .ok (.iushr, 1) := by decide +kernel
theorem d_N_addSmall_40 : decode b_N_addSmall 40 = .ok (.istore_n 2, 1) := by decide +kernel
theorem d_N_addSmall_41 : decode b_N_addSmall 41 = .ok (.iinc 3 1, 3) := by decide +kernel
theorem d_N_addSmall_44 : decode b_N_addSmall 44 = .ok (.goto (-40), 3) := by decide +kernel
theorem d_N_addSmall_47 : decode b_N_addSmall 47 = .ok (.aload_n 0, 1) := by decide +kernel
theorem d_N_addSmall_48 : decode b_N_addSmall 48 = .ok (.aload_n 0, 1) := by decide +kernel
theorem d_N_addSmall_49 : decode b_N_addSmall 49 = .ok (.getfield 19, 3) := by decide +kernel
theorem d_N_addSmall_52 : decode b_N_addSmall 52 = .ok (.iconst 1, 1) := by decide +kernel
theorem d_N_addSmall_53 : decode b_N_addSmall 53 = .ok (.iadd, 1) := by decide +kernel
theorem d_N_addSmall_54 : decode b_N_addSmall 54 = .ok (.invokevirtual 28, 3) := by decide +kernel
theorem d_N_addSmall_57 : decode b_N_addSmall 57 = .ok (.return_, 1) := by decide +kernel
theorem d_N_subtract_0 : decode b_N_subtract 0 = .ok (.iconst 0, 1) := by decide +kernel
theorem d_N_subtract_1 : decode b_N_subtract 1 = .ok (.istore_n 2, 1) := by decide +kernel
theorem d_N_subtract_2 : decode b_N_subtract 2 = .ok (.iconst 0, 1) := by decide +kernel
theorem d_N_subtract_3 : decode b_N_subtract 3 = .ok (.istore_n 3, 1) := by decide +kernel
theorem d_N_subtract_4 : decode b_N_subtract 4 = .ok (.iload_n 3, 1) := by decide +kernel
theorem d_N_subtract_5 : decode b_N_subtract 5 = .ok (.bipush 16, 2) := by decide +kernel
theorem d_N_subtract_7 : decode b_N_subtract 7 = .ok (.if_icmp .ge 55, 3) := by decide +kernel
theorem d_N_subtract_10 : decode b_N_subtract 10 = .ok (.iload_n 3, 1) := by decide +kernel
theorem d_N_subtract_11 : decode b_N_subtract 11 = .ok (.aload_n 1, 1) := by decide +kernel
theorem d_N_subtract_12 : decode b_N_subtract 12 = .ok (.getfield 19, 3) := by decide +kernel
theorem d_N_subtract_15 : decode b_N_subtract 15 = .ok (.if_icmp .lt 7, 3) := by decide +kernel
theorem d_N_subtract_18 : decode b_N_subtract 18 = .ok (.iload_n 2, 1) := by decide +kernel
theorem d_N_subtract_19 : decode b_N_subtract 19 = .ok (.ifCond .eq 43, 3) := by decide +kernel
theorem d_N_subtract_22 : decode b_N_subtract 22 = .ok (.aload_n 0, 1) := by decide +kernel
theorem d_N_subtract_23 : decode b_N_subtract 23 = .ok (.getfield 9, 3) := by decide +kernel
theorem d_N_subtract_26 : decode b_N_subtract 26 = .ok (.iload_n 3, 1) := by decide +kernel
theorem d_N_subtract_27 : decode b_N_subtract 27 = .ok (.iaload, 1) := by decide +kernel
theorem d_N_subtract_28 : decode b_N_subtract 28 = .ok (.aload_n 1, 1) := by decide +kernel
theorem d_N_subtract_29 : decode b_N_subtract 29 = .ok (.getfield 9, 3) := by decide +kernel
theorem d_N_subtract_32 : decode b_N_subtract 32 = .ok (.iload_n 3, 1) := by decide +kernel
theorem d_N_subtract_33 : decode b_N_subtract 33 = .ok (.iaload, 1) := by decide +kernel
theorem d_N_subtract_34 : decode b_N_subtract 34 = .ok (.isub, 1) := by decide +kernel
theorem d_N_subtract_35 : decode b_N_subtract 35 = .ok (.iload_n 2, 1) := by decide +kernel
theorem d_N_subtract_36 : decode b_N_subtract 36 = .ok (.iadd, 1) := by decide +kernel
theorem d_N_subtract_37 : decode b_N_subtract 37 = .ok (.istore 4, 2) := by decide +kernel
theorem d_N_subtract_39 : decode b_N_subtract 39 = .ok (.aload_n 0, 1) := by decide +kernel
theorem d_N_subtract_40 : decode b_N_subtract 40 = .ok (.getfield 9, 3) := by decide +kernel
theorem d_N_subtract_43 : decode b_N_subtract 43 = .ok (.iload_n 3, 1) := by decide +kernel
theorem d_N_subtract_44 : decode b_N_subtract 44 = .ok (.iload 4, 2) := by decide +kernel
theorem d_N_subtract_46 : decode b_N_subtract 46 = .ok (.ldc 62, 2) := by decide +kernel
theorem d_N_subtract_48 : decode b_N_subtract 48 = .ok (.iand, 1) := by decide +kernel
theorem d_N_subtract_49 : decode b_N_subtract 49 = .ok (.iastore, 1) := by decide +kernel
theorem d_N_subtract_50 : decode b_N_subtract 50 = .ok (.iload 4, 2) := by decide +kernel
theorem d_N_subtract_52 : decode b_N_subtract 52 = .ok (.bipush 30, 2) := by decide +kernel
theorem d_N_subtract_54 : decode b_N_subtract 54 = .ok (.ishr, 1) := by decide +kernel
theorem d_N_subtract_55 : decode b_N_subtract 55 = .ok (.istore_n 2, 1) := by decide +kernel
theorem d_N_subtract_56 : decode b_N_subtract 56 = .ok (.iinc 3 1, 3) := by decide +kernel
theorem d_N_subtract_59 : decode b_N_subtract 59 = .ok (.goto (-55), 3) := by decide +kernel
theorem d_N_subtract_62 : decode b_N_subtract 62 = .ok (.aload_n 0, 1) := by decide +kernel
theorem d_N_subtract_63 : decode b_N_subtract 63 = .ok (.aload_n 0, 1) := by decide +kernel
theorem d_N_subtract_64 : decode b_N_subtract 64 = .ok (.getfield 19, 3) := by decide +kernel
theorem d_N_subtract_67 : decode b_N_subtract 67 = .ok (.invokevirtual 28, 3) := by decide +kernel
theorem d_N_subtract_70 : decode b_N_subtract 70 = .ok (.return_, 1) := by decide +kernel
theorem d_N_setProduct_0 : decode b_N_setProduct 0 = .ok (.aload_n 0, 1) := by decide +kernel
theorem d_N_setProduct_1 : decode b_N_setProduct 1 = .ok (.invokevirtual 23, 3) := by decide +kernel
theorem d_N_setProduct_4 : decode b_N_setProduct 4 = .ok (.iconst 0, 1) := by decide +kernel
theorem d_N_setProduct_5 : decode b_N_setProduct 5 = .ok (.istore_n 3, 1) := by decide +kernel
theorem d_N_setProduct_6 : decode b_N_setProduct 6 = .ok (.iload_n 3, 1) := by decide +kernel
theorem d_N_setProduct_7 : decode b_N_setProduct 7 = .ok (.aload_n 1, 1) := by decide +kernel
theorem d_N_setProduct_8 : decode b_N_setProduct 8 = .ok (.getfield 19, 3) := by decide +kernel
theorem d_N_setProduct_11 : decode b_N_setProduct 11 = .ok (.if_icmp .ge 111, 3) := by decide +kernel
theorem d_N_setProduct_14 : decode b_N_setProduct 14 = .ok (.iload_n 3, 1) := by decide +kernel
theorem d_N_setProduct_15 : decode b_N_setProduct 15 = .ok (.bipush 16, 2) := by decide +kernel
theorem d_N_setProduct_17 : decode b_N_setProduct 17 = .ok (.if_icmp .ge 105, 3) := by decide +kernel
theorem d_N_setProduct_20 : decode b_N_setProduct 20 = .ok (.aload_n 1, 1) := by decide +kernel
theorem d_N_setProduct_21 : decode b_N_setProduct 21 = .ok (.getfield 9, 3) := by decide +kernel
theorem d_N_setProduct_24 : decode b_N_setProduct 24 = .ok (.iload_n 3, 1) := by decide +kernel
theorem d_N_setProduct_25 : decode b_N_setProduct 25 = .ok (.iaload, 1) := by decide +kernel
theorem d_N_setProduct_26 : decode b_N_setProduct 26 = .ok (.i2l, 1) := by decide +kernel
theorem d_N_setProduct_27 : decode b_N_setProduct 27 = .ok (.lstore 4, 2) := by decide +kernel
theorem d_N_setProduct_29 : decode b_N_setProduct 29 = .ok (.lconst 0, 1) := by decide +kernel
theorem d_N_setProduct_30 : decode b_N_setProduct 30 = .ok (.lstore 6, 2) := by decide +kernel
theorem d_N_setProduct_32 : decode b_N_setProduct 32 = .ok (.iconst 0, 1) := by decide +kernel
theorem d_N_setProduct_33 : decode b_N_setProduct 33 = .ok (.istore 8, 2) := by decide +kernel
theorem d_N_setProduct_35 : decode b_N_setProduct 35 = .ok (.iload_n 3, 1) := by decide +kernel
theorem d_N_setProduct_36 : decode b_N_setProduct 36 = .ok (.iload 8, 2) := by decide +kernel
theorem d_N_setProduct_38 : decode b_N_setProduct 38 = .ok (.iadd, 1) := by decide +kernel
theorem d_N_setProduct_39 : decode b_N_setProduct 39 = .ok (.bipush 16, 2) := by decide +kernel
theorem d_N_setProduct_41 : decode b_N_setProduct 41 = .ok (.if_icmp .ge 75, 3) := by decide +kernel
theorem d_N_setProduct_44 : decode b_N_setProduct 44 = .ok (.iload 8, 2) := by decide +kernel
theorem d_N_setProduct_46 : decode b_N_setProduct 46 = .ok (.aload_n 2, 1) := by decide +kernel
theorem d_N_setProduct_47 : decode b_N_setProduct 47 = .ok (.getfield 19, 3) := by decide +kernel
theorem d_N_setProduct_50 : decode b_N_setProduct 50 = .ok (.if_icmp .lt 10, 3) := by decide +kernel
theorem d_N_setProduct_53 : decode b_N_setProduct 53 = .ok (.lload 6, 2) := by decide +kernel
theorem d_N_setProduct_55 : decode b_N_setProduct 55 = .ok (.lconst 0, 1) := by decide +kernel
theorem d_N_setProduct_56 : decode b_N_setProduct 56 = .ok (.lcmp, 1) := by decide +kernel
theorem d_N_setProduct_57 : decode b_N_setProduct 57 = .ok (.ifCond .eq 59, 3) := by decide +kernel
theorem d_N_setProduct_60 : decode b_N_setProduct 60 = .ok (.aload_n 0, 1) := by decide +kernel
theorem d_N_setProduct_61 : decode b_N_setProduct 61 = .ok (.getfield 9, 3) := by decide +kernel
theorem d_N_setProduct_64 : decode b_N_setProduct 64 = .ok (.iload_n 3, 1) := by decide +kernel
theorem d_N_setProduct_65 : decode b_N_setProduct 65 = .ok (.iload 8, 2) := by decide +kernel
theorem d_N_setProduct_67 : decode b_N_setProduct 67 = .ok (.iadd, 1) := by decide +kernel
theorem d_N_setProduct_68 : decode b_N_setProduct 68 = .ok (.iaload, 1) := by decide +kernel
theorem d_N_setProduct_69 : decode b_N_setProduct 69 = .ok (.i2l, 1) := by decide +kernel
theorem d_N_setProduct_70 : decode b_N_setProduct 70 = .ok (.lload 4, 2) := by decide +kernel
theorem d_N_setProduct_72 : decode b_N_setProduct 72 = .ok (.aload_n 2, 1) := by decide +kernel
theorem d_N_setProduct_73 : decode b_N_setProduct 73 = .ok (.getfield 9, 3) := by decide +kernel
theorem d_N_setProduct_76 : decode b_N_setProduct 76 = .ok (.iload 8, 2) := by decide +kernel
theorem d_N_setProduct_78 : decode b_N_setProduct 78 = .ok (.iaload, 1) := by decide +kernel
theorem d_N_setProduct_79 : decode b_N_setProduct 79 = .ok (.i2l, 1) := by decide +kernel
theorem d_N_setProduct_80 : decode b_N_setProduct 80 = .ok (.lmul, 1) := by decide +kernel
theorem d_N_setProduct_81 : decode b_N_setProduct 81 = .ok (.ladd, 1) := by decide +kernel
theorem d_N_setProduct_82 : decode b_N_setProduct 82 = .ok (.lload 6, 2) := by decide +kernel
theorem d_N_setProduct_84 : decode b_N_setProduct 84 = .ok (.ladd, 1) := by decide +kernel
theorem d_N_setProduct_85 : decode b_N_setProduct 85 = .ok (.lstore 9, 2) := by decide +kernel
theorem d_N_setProduct_87 : decode b_N_setProduct 87 = .ok (.aload_n 0, 1) := by decide +kernel
theorem d_N_setProduct_88 : decode b_N_setProduct 88 = .ok (.getfield 9, 3) := by decide +kernel
theorem d_N_setProduct_91 : decode b_N_setProduct 91 = .ok (.iload_n 3, 1) := by decide +kernel
theorem d_N_setProduct_92 : decode b_N_setProduct 92 = .ok (.iload 8, 2) := by decide +kernel
theorem d_N_setProduct_94 : decode b_N_setProduct 94 = .ok (.iadd, 1) := by decide +kernel
theorem d_N_setProduct_95 : decode b_N_setProduct 95 = .ok (.lload 9, 2) := by decide +kernel
theorem d_N_setProduct_97 : decode b_N_setProduct 97 = .ok (.ldc2_w 26, 3) := by decide +kernel
theorem d_N_setProduct_100 : decode b_N_setProduct 100 = .ok (.land, 1) := by decide +kernel
theorem d_N_setProduct_101 : decode b_N_setProduct 101 = .ok (.l2i, 1) := by decide +kernel
theorem d_N_setProduct_102 : decode b_N_setProduct 102 = .ok (.iastore, 1) := by decide +kernel
theorem d_N_setProduct_103 : decode b_N_setProduct 103 = .ok (.lload 9, 2) := by decide +kernel
theorem d_N_setProduct_105 : decode b_N_setProduct 105 = .ok (.bipush 30, 2) := by decide +kernel
theorem d_N_setProduct_107 : decode b_N_setProduct 107 = .ok (.lushr, 1) := by decide +kernel
theorem d_N_setProduct_108 : decode b_N_setProduct 108 = .ok (.lstore 6, 2) := by decide +kernel
theorem d_N_setProduct_110 : decode b_N_setProduct 110 = .ok (.iinc 8 1, 3) := by decide +kernel
theorem d_N_setProduct_113 : decode b_N_setProduct 113 = .ok (.goto (-78), 3) := by decide +kernel
theorem d_N_setProduct_116 : decode b_N_setProduct 116 = .ok (.iinc 3 1, 3) := by decide +kernel
theorem d_N_setProduct_119 : decode b_N_setProduct 119 = .ok (.goto (-113), 3) := by decide +kernel
theorem d_N_setProduct_122 : decode b_N_setProduct 122 = .ok (.aload_n 0, 1) := by decide +kernel
theorem d_N_setProduct_123 : decode b_N_setProduct 123 = .ok (.aload_n 1, 1) := by decide +kernel
theorem d_N_setProduct_124 : decode b_N_setProduct 124 = .ok (.getfield 19, 3) := by decide +kernel
theorem d_N_setProduct_127 : decode b_N_setProduct 127 = .ok (.aload_n 2, 1) := by decide +kernel
theorem d_N_setProduct_128 : decode b_N_setProduct 128 = .ok (.getfield 19, 3) := by decide +kernel
theorem d_N_setProduct_131 : decode b_N_setProduct 131 = .ok (.iadd, 1) := by decide +kernel
theorem d_N_setProduct_132 : decode b_N_setProduct 132 = .ok (.invokevirtual 28, 3) := by decide +kernel
theorem d_N_setProduct_135 : decode b_N_setProduct 135 = .ok (.return_, 1) := by decide +kernel
theorem d_N_scale_0 : decode b_N_scale 0 = .ok (.iload_n 2, 1) := by decide +kernel
theorem d_N_scale_1 : decode b_N_scale 1 = .ok (.i2l, 1) := by decide +kernel
theorem d_N_scale_2 : decode b_N_scale 2 = .ok (.lstore_n 3, 1) := by decide +kernel
theorem d_N_scale_3 : decode b_N_scale 3 = .ok (.aload_n 0, 1) := by decide +kernel
theorem d_N_scale_4 : decode b_N_scale 4 = .ok (.getfield 19, 3) := by decide +kernel
theorem d_N_scale_7 : decode b_N_scale 7 = .ok (.istore 5, 2) := by decide +kernel
theorem d_N_scale_9 : decode b_N_scale 9 = .ok (.iconst 0, 1) := by decide +kernel
theorem d_N_scale_10 : decode b_N_scale 10 = .ok (.istore 6, 2) := by decide +kernel
theorem d_N_scale_12 : decode b_N_scale 12 = .ok (.iload 6, 2) := by decide +kernel
theorem d_N_scale_14 : decode b_N_scale 14 = .ok (.bipush 16, 2) := by decide +kernel
theorem d_N_scale_16 : decode b_N_scale 16 = .ok (.if_icmp .ge 57, 3) := by decide +kernel
theorem d_N_scale_19 : decode b_N_scale 19 = .ok (.iload 6, 2) := by decide +kernel
theorem d_N_scale_21 : decode b_N_scale 21 = .ok (.iload 5, 2) := by decide +kernel
theorem d_N_scale_23 : decode b_N_scale 23 = .ok (.if_icmp .lt 9, 3) := by decide +kernel
theorem d_N_scale_26 : decode b_N_scale 26 = .ok (.lload_n 3, 1) := by decide +kernel
theorem d_N_scale_27 : decode b_N_scale 27 = .ok (.lconst 0, 1) := by decide +kernel
theorem d_N_scale_28 : decode b_N_scale 28 = .ok (.lcmp, 1) := by decide +kernel
theorem d_N_scale_29 : decode b_N_scale 29 = .ok (.ifCond .eq 44, 3) := by decide +kernel
theorem d_N_scale_32 : decode b_N_scale 32 = .ok (.aload_n 0, 1) := by decide +kernel
theorem d_N_scale_33 : decode b_N_scale 33 = .ok (.getfield 9, 3) := by decide +kernel
theorem d_N_scale_36 : decode b_N_scale 36 = .ok (.iload 6, 2) := by decide +kernel
theorem d_N_scale_38 : decode b_N_scale 38 = .ok (.iaload, 1) := by decide +kernel
theorem d_N_scale_39 : decode b_N_scale 39 = .ok (.i2l, 1) := by decide +kernel
theorem d_N_scale_40 : decode b_N_scale 40 = .ok (.iload_n 1, 1) := by decide +kernel
theorem d_N_scale_41 : decode b_N_scale 41 = .ok (.i2l, 1) := by decide +kernel
theorem d_N_scale_42 : decode b_N_scale 42 = .ok (.lmul, 1) := by decide +kernel
theorem d_N_scale_43 : decode b_N_scale 43 = .ok (.lload_n 3, 1) := by decide +kernel
theorem d_N_scale_44 : decode b_N_scale 44 = .ok (.ladd, 1) := by decide +kernel
theorem d_N_scale_45 : decode b_N_scale 45 = .ok (.lstore 7, 2) := by decide +kernel
theorem d_N_scale_47 : decode b_N_scale 47 = .ok (.aload_n 0, 1) := by decide +kernel
theorem d_N_scale_48 : decode b_N_scale 48 = .ok (.getfield 9, 3) := by decide +kernel
theorem d_N_scale_51 : decode b_N_scale 51 = .ok (.iload 6, 2) := by decide +kernel
theorem d_N_scale_53 : decode b_N_scale 53 = .ok (.lload 7, 2) := by decide +kernel
theorem d_N_scale_55 : decode b_N_scale 55 = .ok (.ldc2_w 26, 3) := by decide +kernel
theorem d_N_scale_58 : decode b_N_scale 58 = .ok (.land, 1) := by decide +kernel
theorem d_N_scale_59 : decode b_N_scale 59 = .ok (.l2i, 1) := by decide +kernel
theorem d_N_scale_60 : decode b_N_scale 60 = .ok (.iastore, 1) := by decide +kernel
theorem d_N_scale_61 : decode b_N_scale 61 = .ok (.lload 7, 2) := by decide +kernel
theorem d_N_scale_63 : decode b_N_scale 63 = .ok (.bipush 30, 2) := by decide +kernel
theorem d_N_scale_65 : decode b_N_scale 65 = .ok (.lushr, 1) := by decide +kernel
theorem d_N_scale_66 : decode b_N_scale 66 = .ok (.lstore_n 3, 1) := by decide +kernel
theorem d_N_scale_67 : decode b_N_scale 67 = .ok (.iinc 6 1, 3) := by decide +kernel
theorem d_N_scale_70 : decode b_N_scale 70 = .ok (.goto (-58), 3) := by decide +kernel
theorem d_N_scale_73 : decode b_N_scale 73 = .ok (.aload_n 0, 1) := by decide +kernel
theorem d_N_scale_74 : decode b_N_scale 74 = .ok (.iload 5, 2) := by decide +kernel
theorem d_N_scale_76 : decode b_N_scale 76 = .ok (.iconst 1, 1) := by decide +kernel
theorem d_N_scale_77 : decode b_N_scale 77 = .ok (.iadd, 1) := by decide +kernel
theorem d_N_scale_78 : decode b_N_scale 78 = .ok (.invokevirtual 28, 3) := by decide +kernel
theorem d_N_scale_81 : decode b_N_scale 81 = .ok (.return_, 1) := by decide +kernel
theorem d_N_scaleTens_0 : decode b_N_scaleTens 0 = .ok (.iload_n 1, 1) := by decide +kernel
theorem d_N_scaleTens_1 : decode b_N_scaleTens 1 = .ok (.istore_n 2, 1) := by decide +kernel
theorem d_N_scaleTens_2 : decode b_N_scaleTens 2 = .ok (.iconst 0, 1) := by decide +kernel
theorem d_N_scaleTens_3 : decode b_N_scaleTens 3 = .ok (.istore_n 3, 1) := by decide +kernel
theorem d_N_scaleTens_4 : decode b_N_scaleTens 4 = .ok (.iload_n 3, 1) := by decide +kernel
theorem d_N_scaleTens_5 : decode b_N_scaleTens 5 = .ok (.bipush 16, 2) := by decide +kernel
theorem d_N_scaleTens_7 : decode b_N_scaleTens 7 = .ok (.if_icmp .ge 25, 3) := by decide +kernel
theorem d_N_scaleTens_10 : decode b_N_scaleTens 10 = .ok (.iload_n 2, 1) := by decide +kernel
theorem d_N_scaleTens_11 : decode b_N_scaleTens 11 = .ok (.bipush 9, 2) := by decide +kernel
theorem d_N_scaleTens_13 : decode b_N_scaleTens 13 = .ok (.if_icmp .lt 19, 3) := by decide +kernel
theorem d_N_scaleTens_16 : decode b_N_scaleTens 16 = .ok (.aload_n 0, 1) := by decide +kernel
theorem d_N_scaleTens_17 : decode b_N_scaleTens 17 = .ok (.ldc 63, 2) := by decide +kernel
theorem d_N_scaleTens_19 : decode b_N_scaleTens 19 = .ok (.iconst 0, 1) := by decide +kernel
theorem d_N_scaleTens_20 : decode b_N_scaleTens 20 = .ok (.invokevirtual 64, 3) := by decide +kernel
theorem d_N_scaleTens_23 : decode b_N_scaleTens 23 = .ok (.iinc 2 (-9), 3) := by decide +kernel
theorem d_N_scaleTens_26 : decode b_N_scaleTens 26 = .ok (.iinc 3 1, 3) := by decide +kernel
theorem d_N_scaleTens_29 : decode b_N_scaleTens 29 = .ok (.goto (-25), 3) := by decide +kernel
theorem d_N_scaleTens_32 : decode b_N_scaleTens 32 = .ok (.iconst 0, 1) := by decide +kernel
theorem d_N_scaleTens_33 : decode b_N_scaleTens 33 = .ok (.istore_n 3, 1) := by decide +kernel
theorem d_N_scaleTens_34 : decode b_N_scaleTens 34 = .ok (.iload_n 3, 1) := by decide +kernel
theorem d_N_scaleTens_35 : decode b_N_scaleTens 35 = .ok (.bipush 9, 2) := by decide +kernel
theorem d_N_scaleTens_37 : decode b_N_scaleTens 37 = .ok (.if_icmp .ge 23, 3) := by decide +kernel
theorem d_N_scaleTens_40 : decode b_N_scaleTens 40 = .ok (.iload_n 2, 1) := by decide +kernel
theorem d_N_scaleTens_41 : decode b_N_scaleTens 41 = .ok (.ifCond .le 19, 3) := by decide +kernel
theorem d_N_scaleTens_44 : decode b_N_scaleTens 44 = .ok (.aload_n 0, 1) := by decide +kernel
theorem d_N_scaleTens_45 : decode b_N_scaleTens 45 = .ok (.bipush 10, 2) := by decide +kernel
theorem d_N_scaleTens_47 : decode b_N_scaleTens 47 = .ok (.iconst 0, 1) := by decide +kernel
theorem d_N_scaleTens_48 : decode b_N_scaleTens 48 = .ok (.invokevirtual 64, 3) := by decide +kernel
theorem d_N_scaleTens_51 : decode b_N_scaleTens 51 = .ok (.iinc 2 (-1), 3) := by decide +kernel
theorem d_N_scaleTens_54 : decode b_N_scaleTens 54 = .ok (.iinc 3 1, 3) := by decide +kernel
theorem d_N_scaleTens_57 : decode b_N_scaleTens 57 = .ok (.goto (-23), 3) := by decide +kernel
theorem d_N_scaleTens_60 : decode b_N_scaleTens 60 = .ok (.return_, 1) := by decide +kernel
theorem d_N_shiftUp_0 : decode b_N_shiftUp 0 = .ok (.iload_n 1, 1) := by decide +kernel
theorem d_N_shiftUp_1 : decode b_N_shiftUp 1 = .ok (.ifCond .le 10, 3) := by decide +kernel
theorem d_N_shiftUp_4 : decode b_N_shiftUp 4 = .ok (.aload_n 0, 1) := by decide +kernel
theorem d_N_shiftUp_5 : decode b_N_shiftUp 5 = .ok (.invokevirtual 68, 3) := by decide +kernel
theorem d_N_shiftUp_8 : decode b_N_shiftUp 8 = .ok (.ifCond .eq 4, 3) := by decide +kernel
theorem d_N_shiftUp_11 : decode b_N_shiftUp 11 = .ok (.return_, 1) := by decide +kernel
theorem d_N_shiftUp_12 : decode b_N_shiftUp 12 = .ok (.iload_n 1, 1) := by decide +kernel
theorem d_N_shiftUp_13 : decode b_N_shiftUp 13 = .ok (.bipush 30, 2) := by decide +kernel
theorem d_N_shiftUp_15 : decode b_N_shiftUp 15 = .ok (.idiv, 1) := by decide +kernel
theorem d_N_shiftUp_16 : decode b_N_shiftUp 16 = .ok (.istore_n 2, 1) := by decide +kernel
theorem d_N_shiftUp_17 : decode b_N_shiftUp 17 = .ok (.iload_n 1, 1) := by decide +kernel
theorem d_N_shiftUp_18 : decode b_N_shiftUp 18 = .ok (.bipush 30, 2) := by decide +kernel
theorem d_N_shiftUp_20 : decode b_N_shiftUp 20 = .ok (.irem, 1) := by decide +kernel
theorem d_N_shiftUp_21 : decode b_N_shiftUp 21 = .ok (.istore_n 3, 1) := by decide +kernel
theorem d_N_shiftUp_22 : decode b_N_shiftUp 22 = .ok (.bipush 15, 2) := by decide +kernel
theorem d_N_shiftUp_24 : decode b_N_shiftUp 24 = .ok (.aload_n 0, 1) := by decide +kernel
theorem d_N_shiftUp_25 : decode b_N_shiftUp 25 = .ok (.getfield 19, 3) := by decide +kernel
theorem d_N_shiftUp_28 : decode b_N_shiftUp 28 = .ok (.iload_n 2, 1) := by decide +kernel
theorem d_N_shiftUp_29 : decode b_N_shiftUp 29 = .ok (.iadd, 1) := by decide +kernel
theorem d_N_shiftUp_30 : decode b_N_shiftUp 30 = .ok (.invokestatic 53, 3) := by decide +kernel
theorem d_N_shiftUp_33 : decode b_N_shiftUp 33 = .ok (.istore 4, 2) := by decide +kernel
theorem d_N_shiftUp_35 : decode b_N_shiftUp 35 = .ok (.iload 4, 2) := by decide +kernel
theorem d_N_shiftUp_37 : decode b_N_shiftUp 37 = .ok (.istore 5, 2) := by decide +kernel
theorem d_N_shiftUp_39 : decode b_N_shiftUp 39 = .ok (.iload 5, 2) := by decide +kernel
theorem d_N_shiftUp_41 : decode b_N_shiftUp 41 = .ok (.ifCond .lt 94, 3) := by decide +kernel
theorem d_N_shiftUp_44 : decode b_N_shiftUp 44 = .ok (.iload 5, 2) := by decide +kernel
theorem d_N_shiftUp_46 : decode b_N_shiftUp 46 = .ok (.iload_n 2, 1) := by decide +kernel
theorem d_N_shiftUp_47 : decode b_N_shiftUp 47 = .ok (.isub, 1) := by decide +kernel
theorem d_N_shiftUp_48 : decode b_N_shiftUp 48 = .ok (.istore 6, 2) := by decide +kernel
theorem d_N_shiftUp_50 : decode b_N_shiftUp 50 = .ok (.iload 6, 2) := by decide +kernel
theorem d_N_shiftUp_52 : decode b_N_shiftUp 52 = .ok (.ifCond .lt 21, 3) := by decide +kernel
theorem d_N_shiftUp_55 : decode b_N_shiftUp 55 = .ok (.iload 6, 2) := by decide +kernel
theorem d_N_shiftUp_57 : decode b_N_shiftUp 57 = .ok (.bipush 16, 2) := by decide +kernel
theorem d_N_shiftUp_59 : decode b_N_shiftUp 59 = .ok (.if_icmp .ge 14, 3) := by decide +kernel
theorem d_N_shiftUp_62 : decode b_N_shiftUp 62 = .ok (.aload_n 0, 1) := by decide +kernel
theorem d_N_shiftUp_63 : decode b_N_shiftUp 63 = .ok (.getfield 9, 3) := by decide +kernel
theorem d_N_shiftUp_66 : decode b_N_shiftUp 66 = .ok (.iload 6, 2) := by decide +kernel
theorem d_N_shiftUp_68 : decode b_N_shiftUp 68 = .ok (.iaload, 1) := by decide +kernel
theorem d_N_shiftUp_69 : decode b_N_shiftUp 69 = .ok (.i2l, 1) := by decide +kernel
theorem d_N_shiftUp_70 : decode b_N_shiftUp 70 = .ok (.goto 4, 3) := by decide +kernel
theorem d_N_shiftUp_73 : decode b_N_shiftUp 73 = .ok (.lconst 0, 1) := by decide +kernel
theorem d_N_shiftUp_74 : decode b_N_shiftUp 74 = .ok (.lstore 7, 2) := by decide +kernel
theorem d_N_shiftUp_76 : decode b_N_shiftUp 76 = .ok (.iload 6, 2) := by decide +kernel
theorem d_N_shiftUp_78 : decode b_N_shiftUp 78 = .ok (.iconst 1, 1) := by decide +kernel
theorem d_N_shiftUp_79 : decode b_N_shiftUp 79 = .ok (.if_icmp .lt 23, 3) := by decide +kernel
theorem d_N_shiftUp_82 : decode b_N_shiftUp 82 = .ok (.iload 6, 2) := by decide +kernel
theorem d_N_shiftUp_84 : decode b_N_shiftUp 84 = .ok (.bipush 16, 2) := by decide +kernel
theorem d_N_shiftUp_86 : decode b_N_shiftUp 86 = .ok (.if_icmp .gt 16, 3) := by decide +kernel
theorem d_N_shiftUp_89 : decode b_N_shiftUp 89 = .ok (.aload_n 0, 1) := by decide +kernel
theorem d_N_shiftUp_90 : decode b_N_shiftUp 90 = .ok (.getfield 9, 3) := by decide +kernel
theorem d_N_shiftUp_93 : decode b_N_shiftUp 93 = .ok (.iload 6, 2) := by decide +kernel
theorem d_N_shiftUp_95 : decode b_N_shiftUp 95 = .ok (.iconst 1, 1) := by decide +kernel
theorem d_N_shiftUp_96 : decode b_N_shiftUp 96 = .ok (.isub, 1) := by decide +kernel
theorem d_N_shiftUp_97 : decode b_N_shiftUp 97 = .ok (.iaload, 1) := by decide +kernel
theorem d_N_shiftUp_98 : decode b_N_shiftUp 98 = .ok (.i2l, 1) := by decide +kernel
theorem d_N_shiftUp_99 : decode b_N_shiftUp 99 = .ok (.goto 4, 3) := by decide +kernel
theorem d_N_shiftUp_102 : decode b_N_shiftUp 102 = .ok (.lconst 0, 1) := by decide +kernel
theorem d_N_shiftUp_103 : decode b_N_shiftUp 103 = .ok (.lstore 9, 2) := by decide +kernel
theorem d_N_shiftUp_105 : decode b_N_shiftUp 105 = .ok (.aload_n 0, 1) := by decide +kernel
theorem d_N_shiftUp_106 : decode b_N_shiftUp 106 = .ok (.getfield 9, 3) := by decide +kernel
theorem d_N_shiftUp_109 : decode b_N_shiftUp 109 = .ok (.iload 5, 2) := by decide +kernel
theorem d_N_shiftUp_111 : decode b_N_shiftUp 111 = .ok (.lload 7, 2) := by decide +kernel
theorem d_N_shiftUp_113 : decode b_N_shiftUp 113 = .ok (.iload_n 3, 1) := by decide +kernel
theorem d_N_shiftUp_114 : decode b_N_shiftUp 114 = .ok (.lshl, 1) := by decide +kernel
theorem d_N_shiftUp_115 : decode b_N_shiftUp 115 = .ok (.lload 9, 2) := by decide +kernel
theorem d_N_shiftUp_117 : decode b_N_shiftUp 117 = .ok (.bipush 30, 2) := by decide +kernel
theorem d_N_shiftUp_119 : decode b_N_shiftUp 119 = .ok (.iload_n 3, 1) := by decide +kernel
theorem d_N_shiftUp_120 : decode b_N_shiftUp 120 = .ok (.isub, 1) := by decide +kernel
theorem d_N_shiftUp_121 : decode b_N_shiftUp 121 = .ok (.lshr, 1) := by decide +kernel
theorem d_N_shiftUp_122 : decode b_N_shiftUp 122 = .ok (.lor, 1) := by decide +kernel
theorem d_N_shiftUp_123 : decode b_N_shiftUp 123 = .ok (.ldc2_w 26, 3) := by decide +kernel
theorem d_N_shiftUp_126 : decode b_N_shiftUp 126 = .ok (.land, 1) := by decide +kernel
theorem d_N_shiftUp_127 : decode b_N_shiftUp 127 = .ok (.l2i, 1) := by decide +kernel
theorem d_N_shiftUp_128 : decode b_N_shiftUp 128 = .ok (.iastore, 1) := by decide +kernel
theorem d_N_shiftUp_129 : decode b_N_shiftUp 129 = .ok (.iinc 5 (-1), 3) := by decide +kernel
theorem d_N_shiftUp_132 : decode b_N_shiftUp 132 = .ok (.goto (-93), 3) := by decide +kernel
theorem d_N_shiftUp_135 : decode b_N_shiftUp 135 = .ok (.aload_n 0, 1) := by decide +kernel
theorem d_N_shiftUp_136 : decode b_N_shiftUp 136 = .ok (.iload 4, 2) := by decide +kernel
theorem d_N_shiftUp_138 : decode b_N_shiftUp 138 = .ok (.iconst 1, 1) := by decide +kernel
theorem d_N_shiftUp_139 : decode b_N_shiftUp 139 = .ok (.iadd, 1) := by decide +kernel
theorem d_N_shiftUp_140 : decode b_N_shiftUp 140 = .ok (.invokevirtual 28, 3) := by decide +kernel
theorem d_N_shiftUp_143 : decode b_N_shiftUp 143 = .ok (.return_, 1) := by decide +kernel
theorem d_N_shiftDown_0 : decode b_N_shiftDown 0 = .ok (.iload_n 1, 1) := by decide +kernel
theorem d_N_shiftDown_1 : decode b_N_shiftDown 1 = .ok (.ifCond .gt 4, 3) := by decide +kernel
theorem d_N_shiftDown_4 : decode b_N_shiftDown 4 = .ok (.return_, 1) := by decide +kernel
theorem d_N_shiftDown_5 : decode b_N_shiftDown 5 = .ok (.bipush 16, 2) := by decide +kernel
theorem d_N_shiftDown_7 : decode b_N_shiftDown 7 = .ok (.iload_n 1, 1) := by decide +kernel
theorem d_N_shiftDown_8 : decode b_N_shiftDown 8 = .ok (.bipush 30, 2) := by decide +kernel
theorem d_N_shiftDown_10 : decode b_N_shiftDown 10 = .ok (.idiv, 1) := by decide +kernel
theorem d_N_shiftDown_11 : decode b_N_shiftDown 11 = .ok (.invokestatic 53, 3) := by decide +kernel
theorem d_N_shiftDown_14 : decode b_N_shiftDown 14 = .ok (.istore_n 2, 1) := by decide +kernel
theorem d_N_shiftDown_15 : decode b_N_shiftDown 15 = .ok (.iload_n 1, 1) := by decide +kernel
theorem d_N_shiftDown_16 : decode b_N_shiftDown 16 = .ok (.bipush 30, 2) := by decide +kernel
theorem d_N_shiftDown_18 : decode b_N_shiftDown 18 = .ok (.irem, 1) := by decide +kernel
theorem d_N_shiftDown_19 : decode b_N_shiftDown 19 = .ok (.istore_n 3, 1) := by decide +kernel
theorem d_N_shiftDown_20 : decode b_N_shiftDown 20 = .ok (.iconst 0, 1) := by decide +kernel
theorem d_N_shiftDown_21 : decode b_N_shiftDown 21 = .ok (.istore 4, 2) := by decide +kernel
theorem d_N_shiftDown_23 : decode b_N_shiftDown 23 = .ok (.iload 4, 2) := by decide +kernel
theorem d_N_shiftDown_25 : decode b_N_shiftDown 25 = .ok (.aload_n 0, 1) := by decide +kernel
theorem d_N_shiftDown_26 : decode b_N_shiftDown 26 = .ok (.getfield 19, 3) := by decide +kernel
theorem d_N_shiftDown_29 : decode b_N_shiftDown 29 = .ok (.if_icmp .ge 92, 3) := by decide +kernel
theorem d_N_shiftDown_32 : decode b_N_shiftDown 32 = .ok (.iload 4, 2) := by decide +kernel
theorem d_N_shiftDown_34 : decode b_N_shiftDown 34 = .ok (.bipush 16, 2) := by decide +kernel
theorem d_N_shiftDown_36 : decode b_N_shiftDown 36 = .ok (.if_icmp .ge 85, 3) := by decide +kernel
theorem d_N_shiftDown_39 : decode b_N_shiftDown 39 = .ok (.iload 4, 2) := by decide +kernel
theorem d_N_shiftDown_41 : decode b_N_shiftDown 41 = .ok (.iload_n 2, 1) := by decide +kernel
theorem d_N_shiftDown_42 : decode b_N_shiftDown 42 = .ok (.iadd, 1) := by decide +kernel
theorem d_N_shiftDown_43 : decode b_N_shiftDown 43 = .ok (.istore 5, 2) := by decide +kernel
theorem d_N_shiftDown_45 : decode b_N_shiftDown 45 = .ok (.iload 5, 2) := by decide +kernel
theorem d_N_shiftDown_47 : decode b_N_shiftDown 47 = .ok (.bipush 16, 2) := by decide +kernel
theorem d_N_shiftDown_49 : decode b_N_shiftDown 49 = .ok (.if_icmp .ge 14, 3) := by decide +kernel
theorem d_N_shiftDown_52 : decode b_N_shiftDown 52 = .ok (.aload_n 0, 1) := by decide +kernel
theorem d_N_shiftDown_53 : decode b_N_shiftDown 53 = .ok (.getfield 9, 3) := by decide +kernel
theorem d_N_shiftDown_56 : decode b_N_shiftDown 56 = .ok (.iload 5, 2) := by decide +kernel
theorem d_N_shiftDown_58 : decode b_N_shiftDown 58 = .ok (.iaload, 1) := by decide +kernel
theorem d_N_shiftDown_59 : decode b_N_shiftDown 59 = .ok (.i2l, 1) := by decide +kernel
theorem d_N_shiftDown_60 : decode b_N_shiftDown 60 = .ok (.goto 4, 3) := by decide +kernel
theorem d_N_shiftDown_63 : decode b_N_shiftDown 63 = .ok (.lconst 0, 1) := by decide +kernel
theorem d_N_shiftDown_64 : decode b_N_shiftDown 64 = .ok (.lstore 6, 2) := by decide +kernel
theorem d_N_shiftDown_66 : decode b_N_shiftDown 66 = .ok (.iload 5, 2) := by decide +kernel
theorem d_N_shiftDown_68 : decode b_N_shiftDown 68 = .ok (.iconst 1, 1) := by decide +kernel
theorem d_N_shiftDown_69 : decode b_N_shiftDown 69 = .ok (.iadd, 1) := by decide +kernel
theorem d_N_shiftDown_70 : decode b_N_shiftDown 70 = .ok (.bipush 16, 2) := by decide +kernel
theorem d_N_shiftDown_72 : decode b_N_shiftDown 72 = .ok (.if_icmp .ge 16, 3) := by decide +kernel
theorem d_N_shiftDown_75 : decode b_N_shiftDown 75 = .ok (.aload_n 0, 1) := by decide +kernel
theorem d_N_shiftDown_76 : decode b_N_shiftDown 76 = .ok (.getfield 9, 3) := by decide +kernel
theorem d_N_shiftDown_79 : decode b_N_shiftDown 79 = .ok (.iload 5, 2) := by decide +kernel
theorem d_N_shiftDown_81 : decode b_N_shiftDown 81 = .ok (.iconst 1, 1) := by decide +kernel
theorem d_N_shiftDown_82 : decode b_N_shiftDown 82 = .ok (.iadd, 1) := by decide +kernel
theorem d_N_shiftDown_83 : decode b_N_shiftDown 83 = .ok (.iaload, 1) := by decide +kernel
theorem d_N_shiftDown_84 : decode b_N_shiftDown 84 = .ok (.i2l, 1) := by decide +kernel
theorem d_N_shiftDown_85 : decode b_N_shiftDown 85 = .ok (.goto 4, 3) := by decide +kernel
theorem d_N_shiftDown_88 : decode b_N_shiftDown 88 = .ok (.lconst 0, 1) := by decide +kernel
theorem d_N_shiftDown_89 : decode b_N_shiftDown 89 = .ok (.lstore 8, 2) := by decide +kernel
theorem d_N_shiftDown_91 : decode b_N_shiftDown 91 = .ok (.aload_n 0, 1) := by decide +kernel
theorem d_N_shiftDown_92 : decode b_N_shiftDown 92 = .ok (.getfield 9, 3) := by decide +kernel
theorem d_N_shiftDown_95 : decode b_N_shiftDown 95 = .ok (.iload 4, 2) := by decide +kernel
theorem d_N_shiftDown_97 : decode b_N_shiftDown 97 = .ok (.lload 6, 2) := by decide +kernel
theorem d_N_shiftDown_99 : decode b_N_shiftDown 99 = .ok (.iload_n 3, 1) := by decide +kernel
theorem d_N_shiftDown_100 : decode b_N_shiftDown 100 = .ok (.lshr, 1) := by decide +kernel
theorem d_N_shiftDown_101 : decode b_N_shiftDown 101 = .ok (.lload 8, 2) := by decide +kernel
theorem d_N_shiftDown_103 : decode b_N_shiftDown 103 = .ok (.bipush 30, 2) := by decide +kernel
theorem d_N_shiftDown_105 : decode b_N_shiftDown 105 = .ok (.iload_n 3, 1) := by decide +kernel
theorem d_N_shiftDown_106 : decode b_N_shiftDown 106 = .ok (.isub, 1) := by decide +kernel
theorem d_N_shiftDown_107 : decode b_N_shiftDown 107 = .ok (.lshl, 1) := by decide +kernel
theorem d_N_shiftDown_108 : decode b_N_shiftDown 108 = .ok (.lor, 1) := by decide +kernel
theorem d_N_shiftDown_109 : decode b_N_shiftDown 109 = .ok (.ldc2_w 26, 3) := by decide +kernel
theorem d_N_shiftDown_112 : decode b_N_shiftDown 112 = .ok (.land, 1) := by decide +kernel
theorem d_N_shiftDown_113 : decode b_N_shiftDown 113 = .ok (.l2i, 1) := by decide +kernel
theorem d_N_shiftDown_114 : decode b_N_shiftDown 114 = .ok (.iastore, 1) := by decide +kernel
theorem d_N_shiftDown_115 : decode b_N_shiftDown 115 = .ok (.iinc 4 1, 3) := by decide +kernel
theorem d_N_shiftDown_118 : decode b_N_shiftDown 118 = .ok (.goto (-95), 3) := by decide +kernel
theorem d_N_shiftDown_121 : decode b_N_shiftDown 121 = .ok (.aload_n 0, 1) := by decide +kernel
theorem d_N_shiftDown_122 : decode b_N_shiftDown 122 = .ok (.aload_n 0, 1) := by decide +kernel
theorem d_N_shiftDown_123 : decode b_N_shiftDown 123 = .ok (.getfield 19, 3) := by decide +kernel
theorem d_N_shiftDown_126 : decode b_N_shiftDown 126 = .ok (.invokevirtual 28, 3) := by decide +kernel
theorem d_N_shiftDown_129 : decode b_N_shiftDown 129 = .ok (.return_, 1) := by decide +kernel
theorem d_N_divideSmall_0 : decode b_N_divideSmall 0 = .ok (.iload_n 1, 1) := by decide +kernel
theorem d_N_divideSmall_1 : decode b_N_divideSmall 1 = .ok (.ifCond .gt 5, 3) := by decide +kernel
theorem d_N_divideSmall_4 : decode b_N_divideSmall 4 = .ok (.iconst 0, 1) := by decide +kernel
theorem d_N_divideSmall_5 : decode b_N_divideSmall 5 = .ok (.ireturn, 1) := by decide +kernel
theorem d_N_divideSmall_6 : decode b_N_divideSmall 6 = .ok (.lconst 0, 1) := by decide +kernel
theorem d_N_divideSmall_7 : decode b_N_divideSmall 7 = .ok (.lstore_n 2, 1) := by decide +kernel
theorem d_N_divideSmall_8 : decode b_N_divideSmall 8 = .ok (.aload_n 0, 1) := by decide +kernel
theorem d_N_divideSmall_9 : decode b_N_divideSmall 9 = .ok (.getfield 19, 3) := by decide +kernel
theorem d_N_divideSmall_12 : decode b_N_divideSmall 12 = .ok (.bipush 16, 2) := by decide +kernel
theorem d_N_divideSmall_14 : decode b_N_divideSmall 14 = .ok (.invokestatic 53, 3) := by decide +kernel
theorem d_N_divideSmall_17 : decode b_N_divideSmall 17 = .ok (.iconst 1, 1) := by decide +kernel
theorem d_N_divideSmall_18 : decode b_N_divideSmall 18 = .ok (.isub, 1) := by decide +kernel
theorem d_N_divideSmall_19 : decode b_N_divideSmall 19 = .ok (.istore 4, 2) := by decide +kernel
theorem d_N_divideSmall_21 : decode b_N_divideSmall 21 = .ok (.iload 4, 2) := by decide +kernel
theorem d_N_divideSmall_23 : decode b_N_divideSmall 23 = .ok (.ifCond .lt 43, 3) := by decide +kernel
theorem d_N_divideSmall_26 : decode b_N_divideSmall 26 = .ok (.lload_n 2, 1) := by decide +kernel
theorem d_N_divideSmall_27 : decode b_N_divideSmall 27 = .ok (.bipush 30, 2) := by decide +kernel
theorem d_N_divideSmall_29 : decode b_N_divideSmall 29 = .ok (.lshl, 1) := by decide +kernel
theorem d_N_divideSmall_30 : decode b_N_divideSmall 30 = .ok (.aload_n 0, 1) := by decide +kernel
theorem d_N_divideSmall_31 : decode b_N_divideSmall 31 = .ok (.getfield 9, 3) := by decide +kernel
theorem d_N_divideSmall_34 : decode b_N_divideSmall 34 = .ok (.iload 4, 2) := by decide +kernel
theorem d_N_divideSmall_36 : decode b_N_divideSmall 36 = .ok (.iaload, 1) := by decide +kernel
theorem d_N_divideSmall_37 : decode b_N_divideSmall 37 = .ok (.i2l, 1) := by decide +kernel
theorem d_N_divideSmall_38 : decode b_N_divideSmall 38 = .ok (.lor, 1) := by decide +kernel
theorem d_N_divideSmall_39 : decode b_N_divideSmall 39 = .ok (.lstore 5, 2) := by decide +kernel
theorem d_N_divideSmall_41 : decode b_N_divideSmall 41 = .ok (.aload_n 0, 1) := by decide +kernel
theorem d_N_divideSmall_42 : decode b_N_divideSmall 42 = .ok (.getfield 9, 3) := by decide +kernel
theorem d_N_divideSmall_45 : decode b_N_divideSmall 45 = .ok (.iload 4, 2) := by decide +kernel
theorem d_N_divideSmall_47 : decode b_N_divideSmall 47 = .ok (.lload 5, 2) := by decide +kernel
theorem d_N_divideSmall_49 : decode b_N_divideSmall 49 = .ok (.iload_n 1, 1) := by decide +kernel
theorem d_N_divideSmall_50 : decode b_N_divideSmall 50 = .ok (.i2l, 1) := by decide +kernel
theorem d_N_divideSmall_51 : decode b_N_divideSmall 51 = .ok (.ldiv, 1) := by decide +kernel
theorem d_N_divideSmall_52 : decode b_N_divideSmall 52 = .ok (.l2i, 1) := by decide +kernel
theorem d_N_divideSmall_53 : decode b_N_divideSmall 53 = .ok (.iastore, 1) := by decide +kernel
theorem d_N_divideSmall_54 : decode b_N_divideSmall 54 = .ok (.lload 5, 2) := by decide +kernel
theorem d_N_divideSmall_56 : decode b_N_divideSmall 56 = .ok (.iload_n 1, 1) := by decide +kernel
theorem d_N_divideSmall_57 : decode b_N_divideSmall 57 = .ok (.i2l, 1) := by decide +kernel
theorem d_N_divideSmall_58 : decode b_N_divideSmall 58 = .ok (.lrem, 1) := by decide +kernel
theorem d_N_divideSmall_59 : decode b_N_divideSmall 59 = .ok (.lstore_n 2, 1) := by decide +kernel
theorem d_N_divideSmall_60 : decode b_N_divideSmall 60 = .ok (.iinc 4 (-1), 3) := by decide +kernel
theorem d_N_divideSmall_63 : decode b_N_divideSmall 63 = .ok (.goto (-42), 3) := by decide +kernel
theorem d_N_divideSmall_66 : decode b_N_divideSmall 66 = .ok (.aload_n 0, 1) := by decide +kernel
theorem d_N_divideSmall_67 : decode b_N_divideSmall 67 = .ok (.aload_n 0, 1) := by decide +kernel
theorem d_N_divideSmall_68 : decode b_N_divideSmall 68 = .ok (.getfield 19, 3) := by decide +kernel
theorem d_N_divideSmall_71 : decode b_N_divideSmall 71 = .ok (.invokevirtual 28, 3) := by decide +kernel
theorem d_N_divideSmall_74 : decode b_N_divideSmall 74 = .ok (.lload_n 2, 1) := by decide +kernel
theorem d_N_divideSmall_75 : decode b_N_divideSmall 75 = .ok (.l2i, 1) := by decide +kernel
theorem d_N_divideSmall_76 : decode b_N_divideSmall 76 = .ok (.ireturn, 1) := by decide +kernel
theorem d_N_divide_0 : decode b_N_divide 0 = .ok (.aload_n 2, 1) := by decide +kernel
theorem d_N_divide_1 : decode b_N_divide 1 = .ok (.invokevirtual 23, 3) := by decide +kernel
theorem d_N_divide_4 : decode b_N_divide 4 = .ok (.aload_n 1, 1) := by decide +kernel
theorem d_N_divide_5 : decode b_N_divide 5 = .ok (.invokevirtual 68, 3) := by decide +kernel
theorem d_N_divide_8 : decode b_N_divide 8 = .ok (.ifCond .ne 20, 3) := by decide +kernel
theorem d_N_divide_11 : decode b_N_divide 11 = .ok (.aload_n 0, 1) := by decide +kernel
theorem d_N_divide_12 : decode b_N_divide 12 = .ok (.getfield 19, 3) := by decide +kernel
theorem d_N_divide_15 : decode b_N_divide 15 = .ok (.bipush 16, 2) := by decide +kernel
theorem d_N_divide_17 : decode b_N_divide 17 = .ok (.if_icmp .ge 11, 3) := by decide +kernel
theorem d_N_divide_20 : decode b_N_divide 20 = .ok (.aload_n 0, 1) := by decide +kernel
theorem d_N_divide_21 : decode b_N_divide 21 = .ok (.aload_n 1, 1) := by decide +kernel
theorem d_N_divide_22 : decode b_N_divide 22 = .ok (.invokevirtual 72, 3) := by decide +kernel
theorem d_N_divide_25 : decode b_N_divide 25 = .ok (.ifCond .ge 4, 3) := by decide +kernel
theorem d_N_divide_28 : decode b_N_divide 28 = .ok (.return_, 1) := by decide +kernel
theorem d_N_divide_29 : decode b_N_divide 29 = .ok (.aload_n 0, 1) := by decide +kernel
theorem d_N_divide_30 : decode b_N_divide 30 = .ok (.getfield 19, 3) := by decide +kernel
theorem d_N_divide_33 : decode b_N_divide 33 = .ok (.iconst 2, 1) := by decide +kernel
theorem d_N_divide_34 : decode b_N_divide 34 = .ok (.if_icmp .gt 40, 3) := by decide +kernel
theorem d_N_divide_37 : decode b_N_divide 37 = .ok (.aload_n 0, 1) := by decide +kernel
theorem d_N_divide_38 : decode b_N_divide 38 = .ok (.iconst 0, 1) := by decide +kernel
theorem d_N_divide_39 : decode b_N_divide 39 = .ok (.invokevirtual 38, 3) := by decide +kernel
theorem d_N_divide_42 : decode b_N_divide 42 = .ok (.lstore_n 3, 1) := by decide +kernel
theorem d_N_divide_43 : decode b_N_divide 43 = .ok (.aload_n 1, 1) := by decide +kernel
theorem d_N_divide_44 : decode b_N_divide 44 = .ok (.iconst 0, 1) := by decide +kernel
theorem d_N_divide_45 : decode b_N_divide 45 = .ok (.invokevirtual 38, 3) := by decide +kernel
theorem d_N_divide_48 : decode b_N_divide 48 = .ok (.lstore 5, 2) := by decide +kernel
theorem d_N_divide_50 : decode b_N_divide 50 = .ok (.lload 5, 2) := by decide +kernel
theorem d_N_divide_52 : decode b_N_divide 52 = .ok (.lconst 0, 1) := by decide +kernel
theorem d_N_divide_53 : decode b_N_divide 53 = .ok (.lcmp, 1) := by decide +kernel
theorem d_N_divide_54 : decode b_N_divide 54 = .ok (.ifCond .le 19, 3) := by decide +kernel
theorem d_N_divide_57 : decode b_N_divide 57 = .ok (.aload_n 2, 1) := by decide +kernel
theorem d_N_divide_58 : decode b_N_divide 58 = .ok (.lload_n 3, 1) := by decide +kernel
theorem d_N_divide_59 : decode b_N_divide 59 = .ok (.lload 5, 2) := by decide +kernel
theorem d_N_divide_61 : decode b_N_divide 61 = .ok (.ldiv, 1) := by decide +kernel
theorem d_N_divide_62 : decode b_N_divide 62 = .ok (.invokevirtual 76, 3) := by decide +kernel
theorem d_N_divide_65 : decode b_N_divide 65 = .ok (.aload_n 0, 1) := by decide +kernel
theorem d_N_divide_66 : decode b_N_divide 66 = .ok (.lload_n 3, 1) := by decide +kernel
theorem d_N_divide_67 : decode b_N_divide 67 = .ok (.lload 5, 2) := by decide +kernel
theorem d_N_divide_69 : decode b_N_divide 69 = .ok (.lrem, 1) := by decide +kernel
theorem d_N_divide_70 : decode b_N_divide 70 = .ok (.invokevirtual 76, 3) := by decide +kernel
theorem d_N_divide_73 : decode b_N_divide 73 = .ok (.return_, 1) := by decide +kernel
theorem d_N_divide_74 : decode b_N_divide 74 = .ok (.bipush 30, 2) := by decide +kernel
theorem d_N_divide_76 : decode b_N_divide 76 = .ok (.aload_n 1, 1) := by decide +kernel
theorem d_N_divide_77 : decode b_N_divide 77 = .ok (.invokevirtual 80, 3) := by decide +kernel
theorem d_N_divide_80 : decode b_N_divide 80 = .ok (.bipush 30, 2) := by decide +kernel
theorem d_N_divide_82 : decode b_N_divide 82 = .ok (.irem, 1) := by decide +kernel
theorem d_N_divide_83 : decode b_N_divide 83 = .ok (.isub, 1) := by decide +kernel
theorem d_N_divide_84 : decode b_N_divide 84 = .ok (.bipush 30, 2) := by decide +kernel
theorem d_N_divide_86 : decode b_N_divide 86 = .ok (.irem, 1) := by decide +kernel
theorem d_N_divide_87 : decode b_N_divide 87 = .ok (.istore_n 3, 1) := by decide +kernel
theorem d_N_divide_88 : decode b_N_divide 88 = .ok (.aload_n 1, 1) := by decide +kernel
theorem d_N_divide_89 : decode b_N_divide 89 = .ok (.iload_n 3, 1) := by decide +kernel
theorem d_N_divide_90 : decode b_N_divide 90 = .ok (.invokevirtual 84, 3) := by decide +kernel
theorem d_N_divide_93 : decode b_N_divide 93 = .ok (.aload_n 0, 1) := by decide +kernel
theorem d_N_divide_94 : decode b_N_divide 94 = .ok (.iload_n 3, 1) := by decide +kernel
theorem d_N_divide_95 : decode b_N_divide 95 = .ok (.invokevirtual 84, 3) := by decide +kernel
theorem d_N_divide_98 : decode b_N_divide 98 = .ok (.aload_n 0, 1) := by decide +kernel
theorem d_N_divide_99 : decode b_N_divide 99 = .ok (.getfield 19, 3) := by decide +kernel
theorem d_N_divide_102 : decode b_N_divide 102 = .ok (.bipush 15, 2) := by decide +kernel
theorem d_N_divide_104 : decode b_N_divide 104 = .ok (.invokestatic 53, 3) := by decide +kernel
theorem d_N_divide_107 : decode b_N_divide 107 = .ok (.aload_n 1, 1) := by decide +kernel
theorem d_N_divide_108 : decode b_N_divide 108 = .ok (.getfield 19, 3) := by decide +kernel
theorem d_N_divide_111 : decode b_N_divide 111 = .ok (.isub, 1) := by decide +kernel
theorem d_N_divide_112 : decode b_N_divide 112 = .ok (.istore 4, 2) := by decide +kernel
theorem d_N_divide_114 : decode b_N_divide 114 = .ok (.iload 4, 2) := by decide +kernel
theorem d_N_divide_116 : decode b_N_divide 116 = .ok (.istore 5, 2) := by decide +kernel
theorem d_N_divide_118 : decode b_N_divide 118 = .ok (.iload 5, 2) := by decide +kernel
theorem d_N_divide_120 : decode b_N_divide 120 = .ok (.ifCond .lt 23, 3) := by decide +kernel
theorem d_N_divide_123 : decode b_N_divide 123 = .ok (.aload_n 2, 1) := by decide +kernel
theorem d_N_divide_124 : decode b_N_divide 124 = .ok (.getfield 9, 3) := by decide +kernel
theorem d_N_divide_127 : decode b_N_divide 127 = .ok (.iload 5, 2) := by decide +kernel
theorem d_N_divide_129 : decode b_N_divide 129 = .ok (.aload_n 0, 1) := by decide +kernel
theorem d_N_divide_130 : decode b_N_divide 130 = .ok (.aload_n 1, 1) := by decide +kernel
theorem d_N_divide_131 : decode b_N_divide 131 = .ok (.iload 5, 2) := by decide +kernel
theorem d_N_divide_133 : decode b_N_divide 133 = .ok (.invokevirtual 87, 3) := by decide +kernel
theorem d_N_divide_136 : decode b_N_divide 136 = .ok (.iastore, 1) := by decide +kernel
theorem d_N_divide_137 : decode b_N_divide 137 = .ok (.iinc 5 (-1), 3) := by decide +kernel
theorem d_N_divide_140 : decode b_N_divide 140 = .ok (.goto (-22), 3) := by decide +kernel
theorem d_N_divide_143 : decode b_N_divide 143 = .ok (.aload_n 2, 1) := by decide +kernel
theorem d_N_divide_144 : decode b_N_divide 144 = .ok (.iload 4, 2) := by decide +kernel
theorem d_N_divide_146 : decode b_N_divide 146 = .ok (.iconst 1, 1) := by decide +kernel
theorem d_N_divide_147 : decode b_N_divide 147 = .ok (.iadd, 1) := by decide +kernel
theorem d_N_divide_148 : decode b_N_divide 148 = .ok (.invokevirtual 28, 3) := by decide +kernel
theorem d_N_divide_151 : decode b_N_divide 151 = .ok (.aload_n 0, 1) := by decide +kernel
theorem d_N_divide_152 : decode b_N_divide 152 = .ok (.bipush 16, 2) := by decide +kernel
theorem d_N_divide_154 : decode b_N_divide 154 = .ok (.invokevirtual 28, 3) := by decide +kernel
theorem d_N_divide_157 : decode b_N_divide 157 = .ok (.aload_n 0, 1) := by decide +kernel
theorem d_N_divide_158 : decode b_N_divide 158 = .ok (.iload_n 3, 1) := by decide +kernel
theorem d_N_divide_159 : decode b_N_divide 159 = .ok (.invokevirtual 91, 3) := by decide +kernel
theorem d_N_divide_162 : decode b_N_divide 162 = .ok (.aload_n 1, 1) := by decide +kernel
theorem d_N_divide_163 : decode b_N_divide 163 = .ok (.iload_n 3, 1) := by decide +kernel
theorem d_N_divide_164 : decode b_N_divide 164 = .ok (.invokevirtual 91, 3) := by decide +kernel
theorem d_N_divide_167 : decode b_N_divide 167 = .ok (.return_, 1) := by decide +kernel
theorem d_N_takeAway_0 : decode b_N_takeAway 0 = .ok (.iload_n 2, 1) := by decide +kernel
theorem d_N_takeAway_1 : decode b_N_takeAway 1 = .ok (.aload_n 1, 1) := by decide +kernel
theorem d_N_takeAway_2 : decode b_N_takeAway 2 = .ok (.getfield 19, 3) := by decide +kernel
theorem d_N_takeAway_5 : decode b_N_takeAway 5 = .ok (.iadd, 1) := by decide +kernel
theorem d_N_takeAway_6 : decode b_N_takeAway 6 = .ok (.istore_n 3, 1) := by decide +kernel
theorem d_N_takeAway_7 : decode b_N_takeAway 7 = .ok (.iload_n 2, 1) := by decide +kernel
theorem d_N_takeAway_8 : decode b_N_takeAway 8 = .ok (.ifCond .lt 16, 3) := by decide +kernel
theorem d_N_takeAway_11 : decode b_N_takeAway 11 = .ok (.aload_n 1, 1) := by decide +kernel
theorem d_N_takeAway_12 : decode b_N_takeAway 12 = .ok (.getfield 19, 3) := by decide +kernel
theorem d_N_takeAway_15 : decode b_N_takeAway 15 = .ok (.ifCond .le 9, 3) := by decide +kernel
theorem d_N_takeAway_18 : decode b_N_takeAway 18 = .ok (.iload_n 3, 1) := by decide +kernel
theorem d_N_takeAway_19 : decode b_N_takeAway 19 = .ok (.bipush 16, 2) := by decide +kernel
theorem d_N_takeAway_21 : decode b_N_takeAway 21 = .ok (.if_icmp .lt 5, 3) := by decide +kernel
theorem d_N_takeAway_24 : decode b_N_takeAway 24 = .ok (.iconst 0, 1) := by decide +kernel
theorem d_N_takeAway_25 : decode b_N_takeAway 25 = .ok (.ireturn, 1) := by decide +kernel
theorem d_N_takeAway_26 : decode b_N_takeAway 26 = .ok (.aload_n 0, 1) := by decide +kernel
theorem d_N_takeAway_27 : decode b_N_takeAway 27 = .ok (.getfield 9, 3) := by decide +kernel
theorem d_N_takeAway_30 : decode b_N_takeAway 30 = .ok (.iload_n 3, 1) := by decide +kernel
theorem d_N_takeAway_31 : decode b_N_takeAway 31 = .ok (.iaload, 1) := by decide +kernel
theorem d_N_takeAway_32 : decode b_N_takeAway 32 = .ok (.i2l, 1) := by decide +kernel
theorem d_N_takeAway_33 : decode b_N_takeAway 33 = .ok (.bipush 30, 2) := by decide +kernel
theorem d_N_takeAway_35 : decode b_N_takeAway 35 = .ok (.lshl, 1) := by decide +kernel
theorem d_N_takeAway_36 : decode b_N_takeAway 36 = .ok (.aload_n 0, 1) := by decide +kernel
theorem d_N_takeAway_37 : decode b_N_takeAway 37 = .ok (.getfield 9, 3) := by decide +kernel
theorem d_N_takeAway_40 : decode b_N_takeAway 40 = .ok (.iload_n 3, 1) := by decide +kernel
theorem d_N_takeAway_41 : decode b_N_takeAway 41 = .ok (.iconst 1, 1) := by decide +kernel
theorem d_N_takeAway_42 : decode b_N_takeAway 42 = .ok (.isub, 1) := by decide +kernel
theorem d_N_takeAway_43 : decode b_N_takeAway 43 = .ok (.iaload, 1) := by decide +kernel
theorem d_N_takeAway_44 : decode b_N_takeAway 44 = .ok (.i2l, 1) := by decide +kernel
theorem d_N_takeAway_45 : decode b_N_takeAway 45 = .ok (.lor, 1) := by decide +kernel
theorem d_N_takeAway_46 : decode b_N_takeAway 46 = .ok (.lstore 4, 2) := by decide +kernel
theorem d_N_takeAway_48 : decode b_N_takeAway 48 = .ok (.aload_n 1, 1) := by decide +kernel
theorem d_N_takeAway_49 : decode b_N_takeAway 49 = .ok (.getfield 9, 3) := by decide +kernel
theorem d_N_takeAway_52 : decode b_N_takeAway 52 = .ok (.aload_n 1, 1) := by decide +kernel
theorem d_N_takeAway_53 : decode b_N_takeAway 53 = .ok (.getfield 19, 3) := by decide +kernel
theorem d_N_takeAway_56 : decode b_N_takeAway 56 = .ok (.iconst 1, 1) := by decide +kernel
theorem d_N_takeAway_57 : decode b_N_takeAway 57 = .ok (.isub, 1) := by decide +kernel
theorem d_N_takeAway_58 : decode b_N_takeAway 58 = .ok (.iaload, 1) := by decide +kernel
theorem d_N_takeAway_59 : decode b_N_takeAway 59 = .ok (.istore 6, 2) := by decide +kernel
theorem d_N_takeAway_61 : decode b_N_takeAway 61 = .ok (.iload 6, 2) := by decide +kernel
theorem d_N_takeAway_63 : decode b_N_takeAway 63 = .ok (.ifCond .gt 7, 3) := by decide +kernel
theorem d_N_takeAway_66 : decode b_N_takeAway 66 = .ok (.lconst 0, 1) := by decide +kernel
theorem d_N_takeAway_67 : decode b_N_takeAway 67 = .ok (.goto 15, 3) := by decide +kernel
theorem d_N_takeAway_70 : decode b_N_takeAway 70 = .ok (.lload 4, 2) := by decide +kernel
theorem d_N_takeAway_72 : decode b_N_takeAway 72 = .ok (.iload 6, 2) := by decide +kernel
theorem d_N_takeAway_74 : decode b_N_takeAway 74 = .ok (.i2l, 1) := by decide +kernel
theorem d_N_takeAway_75 : decode b_N_takeAway 75 = .ok (.ldiv, 1) := by decide +kernel
theorem d_N_takeAway_76 : decode b_N_takeAway 76 = .ok (.ldc2_w 26, 3) := by decide +kernel
theorem d_N_takeAway_79 : decode b_N_takeAway 79 = .ok (.invokestatic 94, 3) := by decide +kernel
theorem d_N_takeAway_82 : decode b_N_takeAway 82 = .ok (.lstore 7, 2) := by decide +kernel
theorem d_N_takeAway_84 : decode b_N_takeAway 84 = .ok (.lconst 0, 1) := by decide +kernel
theorem d_N_takeAway_85 : decode b_N_takeAway 85 = .ok (.lstore 9, 2) := by decide +kernel
theorem d_N_takeAway_87 : decode b_N_takeAway 87 = .ok (.iconst 0, 1) := by decide +kernel
theorem d_N_takeAway_88 : decode b_N_takeAway 88 = .ok (.istore 11, 2) := by decide +kernel
theorem d_N_takeAway_90 : decode b_N_takeAway 90 = .ok (.iload 11, 2) := by decide +kernel
theorem d_N_takeAway_92 : decode b_N_takeAway 92 = .ok (.aload_n 1, 1) := by decide +kernel
theorem d_N_takeAway_93 : decode b_N_takeAway 93 = .ok (.getfield 19, 3) := by decide +kernel
theorem d_N_takeAway_96 : decode b_N_takeAway 96 = .ok (.if_icmp .gt 68, 3) := by decide +kernel
theorem d_N_takeAway_99 : decode b_N_takeAway 99 = .ok (.iload_n 2, 1) := by decide +kernel
theorem d_N_takeAway_100 : decode b_N_takeAway 100 = .ok (.iload 11, 2) := by decide +kernel
theorem d_N_takeAway_102 : decode b_N_takeAway 102 = .ok (.iadd, 1) := by decide +kernel
theorem d_N_takeAway_103 : decode b_N_takeAway 103 = .ok (.bipush 16, 2) := by decide +kernel
theorem d_N_takeAway_105 : decode b_N_takeAway 105 = .ok (.if_icmp .ge 59, 3) := by decide +kernel
theorem d_N_takeAway_108 : decode b_N_takeAway 108 = .ok (.aload_n 0, 1) := by decide +kernel
theorem d_N_takeAway_109 : decode b_N_takeAway 109 = .ok (.getfield 9, 3) := by decide +kernel
theorem d_N_takeAway_112 : decode b_N_takeAway 112 = .ok (.iload_n 2, 1) := by decide +kernel
theorem d_N_takeAway_113 : decode b_N_takeAway 113 = .ok (.iload 11, 2) := by decide +kernel
theorem d_N_takeAway_115 : decode b_N_takeAway 115 = .ok (.iadd, 1) := by decide +kernel
theorem d_N_takeAway_116 : decode b_N_takeAway 116 = .ok (.iaload, 1) := by decide +kernel
theorem d_N_takeAway_117 : decode b_N_takeAway 117 = .ok (.i2l, 1) := by decide +kernel
theorem d_N_takeAway_118 : decode b_N_takeAway 118 = .ok (.lload 7, 2) := by decide +kernel
theorem d_N_takeAway_120 : decode b_N_takeAway 120 = .ok (.aload_n 1, 1) := by decide +kernel
theorem d_N_takeAway_121 : decode b_N_takeAway 121 = .ok (.getfield 9, 3) := by decide +kernel
theorem d_N_takeAway_124 : decode b_N_takeAway 124 = .ok (.iload 11, 2) := by decide +kernel
theorem d_N_takeAway_126 : decode b_N_takeAway 126 = .ok (.iaload, 1) := by decide +kernel
theorem d_N_takeAway_127 : decode b_N_takeAway 127 = .ok (.i2l, 1) := by decide +kernel
theorem d_N_takeAway_128 : decode b_N_takeAway 128 = .ok (.lmul, 1) := by decide +kernel
theorem d_N_takeAway_129 : decode b_N_takeAway 129 = .ok (.lsub, 1) := by decide +kernel
theorem d_N_takeAway_130 : decode b_N_takeAway 130 = .ok (.lload 9, 2) := by decide +kernel
theorem d_N_takeAway_132 : decode b_N_takeAway 132 = .ok (.ladd, 1) := by decide +kernel
theorem d_N_takeAway_133 : decode b_N_takeAway 133 = .ok (.lstore 12, 2) := by decide +kernel
theorem d_N_takeAway_135 : decode b_N_takeAway 135 = .ok (.aload_n 0, 1) := by decide +kernel
theorem d_N_takeAway_136 : decode b_N_takeAway 136 = .ok (.getfield 9, 3) := by decide +kernel
theorem d_N_takeAway_139 : decode b_N_takeAway 139 = .ok (.iload_n 2, 1) := by decide +kernel
theorem d_N_takeAway_140 : decode b_N_takeAway 140 = .ok (.iload 11, 2) := by decide +kernel
theorem d_N_takeAway_142 : decode b_N_takeAway 142 = .ok (.iadd, 1) := by decide +kernel
theorem d_N_takeAway_143 : decode b_N_takeAway 143 = .ok (.lload 12, 2) := by decide +kernel
theorem d_N_takeAway_145 : decode b_N_takeAway 145 = .ok (.ldc2_w 26, 3) := by decide +kernel
theorem d_N_takeAway_148 : decode b_N_takeAway 148 = .ok (.land, 1) := by decide +kernel
theorem d_N_takeAway_149 : decode b_N_takeAway 149 = .ok (.l2i, 1) := by decide +kernel
theorem d_N_takeAway_150 : decode b_N_takeAway 150 = .ok (.iastore, 1) := by decide +kernel
theorem d_N_takeAway_151 : decode b_N_takeAway 151 = .ok (.lload 12, 2) := by decide +kernel
theorem d_N_takeAway_153 : decode b_N_takeAway 153 = .ok (.bipush 30, 2) := by decide +kernel
theorem d_N_takeAway_155 : decode b_N_takeAway 155 = .ok (.lshr, 1) := by decide +kernel
theorem d_N_takeAway_156 : decode b_N_takeAway 156 = .ok (.lstore 9, 2) := by decide +kernel
theorem d_N_takeAway_158 : decode b_N_takeAway 158 = .ok (.iinc 11 1, 3) := by decide +kernel
theorem d_N_takeAway_161 : decode b_N_takeAway 161 = .ok (.goto (-71), 3) := by decide +kernel
theorem d_N_takeAway_164 : decode b_N_takeAway 164 = .ok (.iconst 0, 1) := by decide +kernel
theorem d_N_takeAway_165 : decode b_N_takeAway 165 = .ok (.istore 11, 2) := by decide +kernel
theorem d_N_takeAway_167 : decode b_N_takeAway 167 = .ok (.iload 11, 2) := by decide +kernel
theorem d_N_takeAway_169 : decode b_N_takeAway 169 = .ok (.iconst 3, 1) := by decide +kernel
theorem d_N_takeAway_170 : decode b_N_takeAway 170 = .ok (.if_icmp .ge 103, 3) := by decide +kernel
theorem d_N_takeAway_173 : decode b_N_takeAway 173 = .ok (.lload 9, 2) := by decide +kernel
theorem d_N_takeAway_175 : decode b_N_takeAway 175 = .ok (.lconst 0, 1) := by decide +kernel
theorem d_N_takeAway_176 : decode b_N_takeAway 176 = .ok (.lcmp, 1) := by decide +kernel
theorem d_N_takeAway_177 : decode b_N_takeAway 177 = .ok (.ifCond .ge 96, 3) := by decide +kernel
theorem d_N_takeAway_180 : decode b_N_takeAway 180 = .ok (.lload 7, 2) := by decide +kernel
theorem d_N_takeAway_182 : decode b_N_takeAway 182 = .ok (.lconst 1, 1) := by decide +kernel
theorem d_N_takeAway_183 : decode b_N_takeAway 183 = .ok (.lsub, 1) := by decide +kernel
theorem d_N_takeAway_184 : decode b_N_takeAway 184 = .ok (.lstore 7, 2) := by decide +kernel
theorem d_N_takeAway_186 : decode b_N_takeAway 186 = .ok (.iconst 0, 1) := by decide +kernel
theorem d_N_takeAway_187 : decode b_N_takeAway 187 = .ok (.istore 12, 2) := by decide +kernel
theorem d_N_takeAway_189 : decode b_N_takeAway 189 = .ok (.iconst 0, 1) := by decide +kernel
theorem d_N_takeAway_190 : decode b_N_takeAway 190 = .ok (.istore 13, 2) := by decide +kernel
theorem d_N_takeAway_192 : decode b_N_takeAway 192 = .ok (.iload 13, 2) := by decide +kernel
theorem d_N_takeAway_194 : decode b_N_takeAway 194 = .ok (.aload_n 1, 1) := by decide +kernel
theorem d_N_takeAway_195 : decode b_N_takeAway 195 = .ok (.getfield 19, 3) := by decide +kernel
theorem d_N_takeAway_198 : decode b_N_takeAway 198 = .ok (.if_icmp .gt 61, 3) := by decide +kernel
theorem d_N_takeAway_201 : decode b_N_takeAway 201 = .ok (.iload_n 2, 1) := by decide +kernel
theorem d_N_takeAway_202 : decode b_N_takeAway 202 = .ok (.iload 13, 2) := by decide +kernel
theorem d_N_takeAway_204 : decode b_N_takeAway 204 = .ok (.iadd, 1) := by decide +kernel
theorem d_N_takeAway_205 : decode b_N_takeAway 205 = .ok (.bipush 16, 2) := by decide +kernel
theorem d_N_takeAway_207 : decode b_N_takeAway 207 = .ok (.if_icmp .ge 52, 3) := by decide +kernel
theorem d_N_takeAway_210 : decode b_N_takeAway 210 = .ok (.aload_n 0, 1) := by decide +kernel
theorem d_N_takeAway_211 : decode b_N_takeAway 211 = .ok (.getfield 9, 3) := by decide +kernel
theorem d_N_takeAway_214 : decode b_N_takeAway 214 = .ok (.iload_n 2, 1) := by decide +kernel
theorem d_N_takeAway_215 : decode b_N_takeAway 215 = .ok (.iload 13, 2) := by decide +kernel
theorem d_N_takeAway_217 : decode b_N_takeAway 217 = .ok (.iadd, 1) := by decide +kernel
theorem d_N_takeAway_218 : decode b_N_takeAway 218 = .ok (.iaload, 1) := by decide +kernel
theorem d_N_takeAway_219 : decode b_N_takeAway 219 = .ok (.aload_n 1, 1) := by decide +kernel
theorem d_N_takeAway_220 : decode b_N_takeAway 220 = .ok (.getfield 9, 3) := by decide +kernel
theorem d_N_takeAway_223 : decode b_N_takeAway 223 = .ok (.iload 13, 2) := by decide +kernel
theorem d_N_takeAway_225 : decode b_N_takeAway 225 = .ok (.iaload, 1) := by decide +kernel
theorem d_N_takeAway_226 : decode b_N_takeAway 226 = .ok (.iadd, 1) := by decide +kernel
theorem d_N_takeAway_227 : decode b_N_takeAway 227 = .ok (.iload 12, 2) := by decide +kernel
theorem d_N_takeAway_229 : decode b_N_takeAway 229 = .ok (.iadd, 1) := by decide +kernel
theorem d_N_takeAway_230 : decode b_N_takeAway 230 = .ok (.istore 14, 2) := by decide +kernel
theorem d_N_takeAway_232 : decode b_N_takeAway 232 = .ok (.aload_n 0, 1) := by decide +kernel
theorem d_N_takeAway_233 : decode b_N_takeAway 233 = .ok (.getfield 9, 3) := by decide +kernel
theorem d_N_takeAway_236 : decode b_N_takeAway 236 = .ok (.iload_n 2, 1) := by decide +kernel
theorem d_N_takeAway_237 : decode b_N_takeAway 237 = .ok (.iload 13, 2) := by decide +kernel
theorem d_N_takeAway_239 : decode b_N_takeAway 239 = .ok (.iadd, 1) := by decide +kernel
theorem d_N_takeAway_240 : decode b_N_takeAway 240 = .ok (.iload 14, 2) := by decide +kernel
theorem d_N_takeAway_242 : decode b_N_takeAway 242 = .ok (.ldc 62, 2) := by decide +kernel
theorem d_N_takeAway_244 : decode b_N_takeAway 244 = .ok (.iand, 1) := by decide +kernel
theorem d_N_takeAway_245 : decode b_N_takeAway 245 = .ok (.iastore, 1) := by decide +kernel
theorem d_N_takeAway_246 : decode b_N_takeAway 246 = .ok (.iload 14, 2) := by decide +kernel
theorem d_N_takeAway_248 : decode b_N_takeAway 248 = .ok (.bipush 30, 2) := by decide +kernel
theorem d_N_takeAway_250 : decode b_N_takeAway 250 = .ok (.iushr, 1) := by decide +kernel
theorem d_N_takeAway_251 : decode b_N_takeAway 251 = .ok (.istore 12, 2) := by decide +kernel
theorem d_N_takeAway_253 : decode b_N_takeAway 253 = .ok (.iinc 13 1, 3) := by decide +kernel
theorem d_N_takeAway_256 : decode b_N_takeAway 256 = .ok (.goto (-64), 3) := by decide +kernel
theorem d_N_takeAway_259 : decode b_N_takeAway 259 = .ok (.lload 9, 2) := by decide +kernel
theorem d_N_takeAway_261 : decode b_N_takeAway 261 = .ok (.iload 12, 2) := by decide +kernel
theorem d_N_takeAway_263 : decode b_N_takeAway 263 = .ok (.i2l, 1) := by decide +kernel
theorem d_N_takeAway_264 : decode b_N_takeAway 264 = .ok (.ladd, 1) := by decide +kernel
theorem d_N_takeAway_265 : decode b_N_takeAway 265 = .ok (.lstore 9, 2) := by decide +kernel
theorem d_N_takeAway_267 : decode b_N_takeAway 267 = .ok (.iinc 11 1, 3) := by decide +kernel
theorem d_N_takeAway_270 : decode b_N_takeAway 270 = .ok (.goto (-103), 3) := by decide +kernel
theorem d_N_takeAway_273 : decode b_N_takeAway 273 = .ok (.lload 7, 2) := by decide +kernel
theorem d_N_takeAway_275 : decode b_N_takeAway 275 = .ok (.l2i, 1) := by decide +kernel
theorem d_N_takeAway_276 : decode b_N_takeAway 276 = .ok (.ireturn, 1) := by decide +kernel
theorem d_N_roundBy_0 : decode b_N_roundBy 0 = .ok (.aload_n 1, 1) := by decide +kernel
theorem d_N_roundBy_1 : decode b_N_roundBy 1 = .ok (.iconst 1, 1) := by decide +kernel
theorem d_N_roundBy_2 : decode b_N_roundBy 2 = .ok (.invokevirtual 84, 3) := by decide +kernel
theorem d_N_roundBy_5 : decode b_N_roundBy 5 = .ok (.aload_n 1, 1) := by decide +kernel
theorem d_N_roundBy_6 : decode b_N_roundBy 6 = .ok (.aload_n 2, 1) := by decide +kernel
theorem d_N_roundBy_7 : decode b_N_roundBy 7 = .ok (.invokevirtual 72, 3) := by decide +kernel
theorem d_N_roundBy_10 : decode b_N_roundBy 10 = .ok (.istore_n 3, 1) := by decide +kernel
theorem d_N_roundBy_11 : decode b_N_roundBy 11 = .ok (.iload_n 3, 1) := by decide +kernel
theorem d_N_roundBy_12 : decode b_N_roundBy 12 = .ok (.ifCond .gt 14, 3) := by decide +kernel
theorem d_N_roundBy_15 : decode b_N_roundBy 15 = .ok (.iload_n 3, 1) := by decide +kernel
theorem d_N_roundBy_16 : decode b_N_roundBy 16 = .ok (.ifCond .ne 15, 3) := by decide +kernel
theorem d_N_roundBy_19 : decode b_N_roundBy 19 = .ok (.aload_n 0, 1) := by decide +kernel
theorem d_N_roundBy_20 : decode b_N_roundBy 20 = .ok (.invokevirtual 97, 3) := by decide +kernel
theorem d_N_roundBy_23 : decode b_N_roundBy 23 = .ok (.ifCond .eq 8, 3) := by decide +kernel
theorem d_N_roundBy_26 : decode b_N_roundBy 26 = .ok (.aload_n 0, 1) := by decide +kernel
theorem d_N_roundBy_27 : decode b_N_roundBy 27 = .ok (.iconst 1, 1) := by decide +kernel
theorem d_N_roundBy_28 : decode b_N_roundBy 28 = .ok (.invokevirtual 100, 3) := by decide +kernel
theorem d_N_roundBy_31 : decode b_N_roundBy 31 = .ok (.return_, 1) := by decide +kernel
theorem d_N_trim_0 : decode b_N_trim 0 = .ok (.iload_n 1, 1) := by decide +kernel
theorem d_N_trim_1 : decode b_N_trim 1 = .ok (.bipush 16, 2) := by decide +kernel
theorem d_N_trim_3 : decode b_N_trim 3 = .ok (.if_icmp .ge 7, 3) := by decide +kernel
theorem d_N_trim_6 : decode b_N_trim 6 = .ok (.iload_n 1, 1) := by decide +kernel
theorem d_N_trim_7 : decode b_N_trim 7 = .ok (.goto 5, 3) := by decide +kernel
theorem d_N_trim_10 : decode b_N_trim 10 = .ok (.bipush 16, 2) := by decide +kernel
theorem d_N_trim_12 : decode b_N_trim 12 = .ok (.istore_n 2, 1) := by decide +kernel
theorem d_N_trim_13 : decode b_N_trim 13 = .ok (.iload_n 2, 1) := by decide +kernel
theorem d_N_trim_14 : decode b_N_trim 14 = .ok (.istore_n 3, 1) := by decide +kernel
theorem d_N_trim_15 : decode b_N_trim 15 = .ok (.iload_n 3, 1) := by decide +kernel
theorem d_N_trim_16 : decode b_N_trim 16 = .ok (.ifCond .le 23, 3) := by decide +kernel
theorem d_N_trim_19 : decode b_N_trim 19 = .ok (.aload_n 0, 1) := by decide +kernel
theorem d_N_trim_20 : decode b_N_trim 20 = .ok (.getfield 9, 3) := by decide +kernel
theorem d_N_trim_23 : decode b_N_trim 23 = .ok (.iload_n 3, 1) := by decide +kernel
theorem d_N_trim_24 : decode b_N_trim 24 = .ok (.iconst 1, 1) := by decide +kernel
theorem d_N_trim_25 : decode b_N_trim 25 = .ok (.isub, 1) := by decide +kernel
theorem d_N_trim_26 : decode b_N_trim 26 = .ok (.iaload, 1) := by decide +kernel
theorem d_N_trim_27 : decode b_N_trim 27 = .ok (.ifCond .ne 12, 3) := by decide +kernel
theorem d_N_trim_30 : decode b_N_trim 30 = .ok (.iinc 2 (-1), 3) := by decide +kernel
theorem d_N_trim_33 : decode b_N_trim 33 = .ok (.iinc 3 (-1), 3) := by decide +kernel
theorem d_N_trim_36 : decode b_N_trim 36 = .ok (.goto (-21), 3) := by decide +kernel
theorem d_N_trim_39 : decode b_N_trim 39 = .ok (.aload_n 0, 1) := by decide +kernel
theorem d_N_trim_40 : decode b_N_trim 40 = .ok (.iload_n 2, 1) := by decide +kernel
theorem d_N_trim_41 : decode b_N_trim 41 = .ok (.putfield 19, 3) := by decide +kernel
theorem d_N_trim_44 : decode b_N_trim 44 = .ok (.return_, 1) := by decide +kernel
