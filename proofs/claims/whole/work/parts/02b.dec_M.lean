theorem d_M_init_0 : decode b_M_init 0 = .ok (.aload_n 0, 1) := by decide +kernel
theorem d_M_init_1 : decode b_M_init 1 = .ok (.invokespecial 1, 3) := by decide +kernel
theorem d_M_init_4 : decode b_M_init 4 = .ok (.aload_n 0, 1) := by decide +kernel
theorem d_M_init_5 : decode b_M_init 5 = .ok (.sipush 858, 3) := by decide +kernel
theorem d_M_init_8 : decode b_M_init 8 = .ok (.newarray .int, 2) := by decide +kernel
theorem d_M_init_10 : decode b_M_init 10 = .ok (.putfield 7, 3) := by decide +kernel
theorem d_M_init_13 : decode b_M_init 13 = .ok (.aload_n 0, 1) := by decide +kernel
theorem d_M_init_14 : decode b_M_init 14 = .ok (.bipush 33, 2) := by decide +kernel
theorem d_M_init_16 : decode b_M_init 16 = .ok (.newarray .int, 2) := by decide +kernel
theorem d_M_init_18 : decode b_M_init 18 = .ok (.putfield 13, 3) := by decide +kernel
theorem d_M_init_21 : decode b_M_init 21 = .ok (.aload_n 0, 1) := by decide +kernel
theorem d_M_init_22 : decode b_M_init 22 = .ok (.bipush 8, 2) := by decide +kernel
theorem d_M_init_24 : decode b_M_init 24 = .ok (.newarray .int, 2) := by decide +kernel
theorem d_M_init_26 : decode b_M_init 26 = .ok (.dup, 1) := by decide +kernel
theorem d_M_init_27 : decode b_M_init 27 = .ok (.iconst 0, 1) := by decide +kernel
theorem d_M_init_28 : decode b_M_init 28 = .ok (.iconst (-1), 1) := by decide +kernel
theorem d_M_init_29 : decode b_M_init 29 = .ok (.iastore, 1) := by decide +kernel
theorem d_M_init_30 : decode b_M_init 30 = .ok (.dup, 1) := by decide +kernel
theorem d_M_init_31 : decode b_M_init 31 = .ok (.iconst 1, 1) := by decide +kernel
theorem d_M_init_32 : decode b_M_init 32 = .ok (.iconst (-1), 1) := by decide +kernel
theorem d_M_init_33 : decode b_M_init 33 = .ok (.iastore, 1) := by decide +kernel
theorem d_M_init_34 : decode b_M_init 34 = .ok (.dup, 1) := by decide +kernel
theorem d_M_init_35 : decode b_M_init 35 = .ok (.iconst 2, 1) := by decide +kernel
theorem d_M_init_36 : decode b_M_init 36 = .ok (.iconst (-1), 1) := by decide +kernel
theorem d_M_init_37 : decode b_M_init 37 = .ok (.iastore, 1) := by decide +kernel
theorem d_M_init_38 : decode b_M_init 38 = .ok (.dup, 1) := by decide +kernel
theorem d_M_init_39 : decode b_M_init 39 = .ok (.iconst 3, 1) := by decide +kernel
theorem d_M_init_40 : decode b_M_init 40 = .ok (.iconst (-1), 1) := by decide +kernel
theorem d_M_init_41 : decode b_M_init 41 = .ok (.iastore, 1) := by decide +kernel
theorem d_M_init_42 : decode b_M_init 42 = .ok (.dup, 1) := by decide +kernel
theorem d_M_init_43 : decode b_M_init 43 = .ok (.iconst 4, 1) := by decide +kernel
theorem d_M_init_44 : decode b_M_init 44 = .ok (.iconst (-1), 1) := by decide +kernel
theorem d_M_init_45 : decode b_M_init 45 = .ok (.iastore, 1) := by decide +kernel
theorem d_M_init_46 : decode b_M_init 46 = .ok (.dup, 1) := by decide +kernel
theorem d_M_init_47 : decode b_M_init 47 = .ok (.iconst 5, 1) := by decide +kernel
theorem d_M_init_48 : decode b_M_init 48 = .ok (.iconst (-1), 1) := by decide +kernel
theorem d_M_init_49 : decode b_M_init 49 = .ok (.iastore, 1) := by decide +kernel
theorem d_M_init_50 : decode b_M_init 50 = .ok (.dup, 1) := by decide +kernel
theorem d_M_init_51 : decode b_M_init 51 = .ok (.bipush 6, 2) := by decide +kernel
theorem d_M_init_53 : decode b_M_init 53 = .ok (.iconst (-1), 1) := by decide +kernel
theorem d_M_init_54 : decode b_M_init 54 = .ok (.iastore, 1) := by decide +kernel
theorem d_M_init_55 : decode b_M_init 55 = .ok (.dup, 1) := by decide +kernel
theorem d_M_init_56 : decode b_M_init 56 = .ok (.bipush 7, 2) := by decide +kernel
theorem d_M_init_58 : decode b_M_init 58 = .ok (.iconst (-1), 1) := by decide +kernel
theorem d_M_init_59 : decode b_M_init 59 = .ok (.iastore, 1) := by decide +kernel
theorem d_M_init_60 : decode b_M_init 60 = .ok (.putfield 16, 3) := by decide +kernel
theorem d_M_init_63 : decode b_M_init 63 = .ok (.aload_n 0, 1) := by decide +kernel
theorem d_M_init_64 : decode b_M_init 64 = .ok (.bipush 8, 2) := by decide +kernel
theorem d_M_init_66 : decode b_M_init 66 = .ok (.newarray .boolean, 2) := by decide +kernel
theorem d_M_init_68 : decode b_M_init 68 = .ok (.putfield 19, 3) := by decide +kernel
theorem d_M_init_71 : decode b_M_init 71 = .ok (.aload_n 0, 1) := by decide +kernel
theorem d_M_init_72 : decode b_M_init 72 = .ok (.bipush 8, 2) := by decide +kernel
theorem d_M_init_74 : decode b_M_init 74 = .ok (.newarray .double, 2) := by decide +kernel
theorem d_M_init_76 : decode b_M_init 76 = .ok (.putfield 23, 3) := by decide +kernel
theorem d_M_init_79 : decode b_M_init 79 = .ok (.aload_n 0, 1) := by decide +kernel
theorem d_M_init_80 : decode b_M_init 80 = .ok (.bipush 40, 2) := by decide +kernel
theorem d_M_init_82 : decode b_M_init 82 = .ok (.newarray .int, 2) := by decide +kernel
theorem d_M_init_84 : decode b_M_init 84 = .ok (.putfield 27, 3) := by decide +kernel
theorem d_M_init_87 : decode b_M_init 87 = .ok (.aload_n 0, 1) := by decide +kernel
theorem d_M_init_88 : decode b_M_init 88 = .ok (.sipush 260, 3) := by decide +kernel
theorem d_M_init_91 : decode b_M_init 91 = .ok (.newarray .int, 2) := by decide +kernel
theorem d_M_init_93 : decode b_M_init 93 = .ok (.putfield 30, 3) := by decide +kernel
theorem d_M_init_96 : decode b_M_init 96 = .ok (.aload_n 0, 1) := by decide +kernel
theorem d_M_init_97 : decode b_M_init 97 = .ok (.sipush 200, 3) := by decide +kernel
theorem d_M_init_100 : decode b_M_init 100 = .ok (.newarray .int, 2) := by decide +kernel
theorem d_M_init_102 : decode b_M_init 102 = .ok (.putfield 33, 3) := by decide +kernel
theorem d_M_init_105 : decode b_M_init 105 = .ok (.aload_n 0, 1) := by decide +kernel
theorem d_M_init_106 : decode b_M_init 106 = .ok (.sipush 260, 3) := by decide +kernel
theorem d_M_init_109 : decode b_M_init 109 = .ok (.newarray .int, 2) := by decide +kernel
theorem d_M_init_111 : decode b_M_init 111 = .ok (.putfield 36, 3) := by decide +kernel
theorem d_M_init_114 : decode b_M_init 114 = .ok (.return_, 1) := by decide +kernel
theorem d_M_thrown_0 : decode b_M_thrown 0 = .ok (.aload_n 0, 1) := by decide +kernel
theorem d_M_thrown_1 : decode b_M_thrown 1 = .ok (.getfield 39, 3) := by decide +kernel
theorem d_M_thrown_4 : decode b_M_thrown 4 = .ok (.ireturn, 1) := by decide +kernel
theorem d_M_fail_0 : decode b_M_fail 0 = .ok (.aload_n 0, 1) := by decide +kernel
theorem d_M_fail_1 : decode b_M_fail 1 = .ok (.iload_n 1, 1) := by decide +kernel
theorem d_M_fail_2 : decode b_M_fail 2 = .ok (.putfield 39, 3) := by decide +kernel
theorem d_M_fail_5 : decode b_M_fail 5 = .ok (.iconst 0, 1) := by decide +kernel
theorem d_M_fail_6 : decode b_M_fail 6 = .ok (.ireturn, 1) := by decide +kernel
theorem d_M_in_0 : decode b_M_in 0 = .ok (.iload_n 0, 1) := by decide +kernel
theorem d_M_in_1 : decode b_M_in 1 = .ok (.iload_n 1, 1) := by decide +kernel
theorem d_M_in_2 : decode b_M_in 2 = .ok (.if_icmp .lt 12, 3) := by decide +kernel
theorem d_M_in_5 : decode b_M_in 5 = .ok (.iload_n 0, 1) := by decide +kernel
theorem d_M_in_6 : decode b_M_in 6 = .ok (.iload_n 2, 1) := by decide +kernel
theorem d_M_in_7 : decode b_M_in 7 = .ok (.if_icmp .gt 7, 3) := by decide +kernel
theorem d_M_in_10 : decode b_M_in 10 = .ok (.iconst 1, 1) := by decide +kernel
theorem d_M_in_11 : decode b_M_in 11 = .ok (.goto 4, 3) := by decide +kernel
theorem d_M_in_14 : decode b_M_in 14 = .ok (.iconst 0, 1) := by decide +kernel
theorem d_M_in_15 : decode b_M_in 15 = .ok (.ireturn, 1) := by decide +kernel
theorem d_M_trim_0 : decode b_M_trim 0 = .ok (.aload_n 0, 1) := by decide +kernel
theorem d_M_trim_1 : decode b_M_trim 1 = .ok (.getfield 13, 3) := by decide +kernel
theorem d_M_trim_4 : decode b_M_trim 4 = .ok (.iload_n 1, 1) := by decide +kernel
theorem d_M_trim_5 : decode b_M_trim 5 = .ok (.iaload, 1) := by decide +kernel
theorem d_M_trim_6 : decode b_M_trim 6 = .ok (.ifCond .le 37, 3) := by decide +kernel
theorem d_M_trim_9 : decode b_M_trim 9 = .ok (.aload_n 0, 1) := by decide +kernel
theorem d_M_trim_10 : decode b_M_trim 10 = .ok (.getfield 7, 3) := by decide +kernel
theorem d_M_trim_13 : decode b_M_trim 13 = .ok (.bipush 26, 2) := by decide +kernel
theorem d_M_trim_15 : decode b_M_trim 15 = .ok (.iload_n 1, 1) := by decide +kernel
theorem d_M_trim_16 : decode b_M_trim 16 = .ok (.imul, 1) := by decide +kernel
theorem d_M_trim_17 : decode b_M_trim 17 = .ok (.aload_n 0, 1) := by decide +kernel
theorem d_M_trim_18 : decode b_M_trim 18 = .ok (.getfield 13, 3) := by decide +kernel
theorem d_M_trim_21 : decode b_M_trim 21 = .ok (.iload_n 1, 1) := by decide +kernel
theorem d_M_trim_22 : decode b_M_trim 22 = .ok (.iaload, 1) := by decide +kernel
theorem d_M_trim_23 : decode b_M_trim 23 = .ok (.iadd, 1) := by decide +kernel
theorem d_M_trim_24 : decode b_M_trim 24 = .ok (.iconst 1, 1) := by decide +kernel
theorem d_M_trim_25 : decode b_M_trim 25 = .ok (.isub, 1) := by decide +kernel
theorem d_M_trim_26 : decode b_M_trim 26 = .ok (.iaload, 1) := by decide +kernel
theorem d_M_trim_27 : decode b_M_trim 27 = .ok (.ifCond .ne 16, 3) := by decide +kernel
theorem d_M_trim_30 : decode b_M_trim 30 = .ok (.aload_n 0, 1) := by decide +kernel
theorem d_M_trim_31 : decode b_M_trim 31 = .ok (.getfield 13, 3) := by decide +kernel
theorem d_M_trim_34 : decode b_M_trim 34 = .ok (.iload_n 1, 1) := by decide +kernel
theorem d_M_trim_35 : decode b_M_trim 35 = .ok (.dup2, 1) := by decide +kernel
theorem d_M_trim_36 : decode b_M_trim 36 = .ok (.iaload, 1) := by decide +kernel
theorem d_M_trim_37 : decode b_M_trim 37 = .ok (.iconst 1, 1) := by decide +kernel
theorem d_M_trim_38 : decode b_M_trim 38 = .ok (.isub, 1) := by decide +kernel
theorem d_M_trim_39 : decode b_M_trim 39 = .ok (.iastore, 1) := by decide +kernel
theorem d_M_trim_40 : decode b_M_trim 40 = .ok (.goto (-40), 3) := by decide +kernel
theorem d_M_trim_43 : decode b_M_trim 43 = .ok (.return_, 1) := by decide +kernel
theorem d_M_limb_0 : decode b_M_limb 0 = .ok (.iload_n 2, 1) := by decide +kernel
theorem d_M_limb_1 : decode b_M_limb 1 = .ok (.aload_n 0, 1) := by decide +kernel
theorem d_M_limb_2 : decode b_M_limb 2 = .ok (.getfield 13, 3) := by decide +kernel
theorem d_M_limb_5 : decode b_M_limb 5 = .ok (.iload_n 1, 1) := by decide +kernel
theorem d_M_limb_6 : decode b_M_limb 6 = .ok (.iaload, 1) := by decide +kernel
theorem d_M_limb_7 : decode b_M_limb 7 = .ok (.if_icmp .ge 17, 3) := by decide +kernel
theorem d_M_limb_10 : decode b_M_limb 10 = .ok (.aload_n 0, 1) := by decide +kernel
theorem d_M_limb_11 : decode b_M_limb 11 = .ok (.getfield 7, 3) := by decide +kernel
theorem d_M_limb_14 : decode b_M_limb 14 = .ok (.bipush 26, 2) := by decide +kernel
theorem d_M_limb_16 : decode b_M_limb 16 = .ok (.iload_n 1, 1) := by decide +kernel
theorem d_M_limb_17 : decode b_M_limb 17 = .ok (.imul, 1) := by decide +kernel
theorem d_M_limb_18 : decode b_M_limb 18 = .ok (.iload_n 2, 1) := by decide +kernel
theorem d_M_limb_19 : decode b_M_limb 19 = .ok (.iadd, 1) := by decide +kernel
theorem d_M_limb_20 : decode b_M_limb 20 = .ok (.iaload, 1) := by decide +kernel
theorem d_M_limb_21 : decode b_M_limb 21 = .ok (.goto 4, 3) := by decide +kernel
theorem d_M_limb_24 : decode b_M_limb 24 = .ok (.iconst 0, 1) := by decide +kernel
theorem d_M_limb_25 : decode b_M_limb 25 = .ok (.ireturn, 1) := by decide +kernel
theorem d_M_put_0 : decode b_M_put 0 = .ok (.aload_n 0, 1) := by decide +kernel
theorem d_M_put_1 : decode b_M_put 1 = .ok (.getfield 13, 3) := by decide +kernel
theorem d_M_put_4 : decode b_M_put 4 = .ok (.iload_n 1, 1) := by decide +kernel
theorem d_M_put_5 : decode b_M_put 5 = .ok (.iconst 0, 1) := by decide +kernel
theorem d_M_put_6 : decode b_M_put 6 = .ok (.iastore, 1) := by decide +kernel
theorem d_M_put_7 : decode b_M_put 7 = .ok (.lload_n 2, 1) := by decide +kernel
theorem d_M_put_8 : decode b_M_put 8 = .ok (.lstore 4, 2) := by decide +kernel
theorem d_M_put_10 : decode b_M_put 10 = .ok (.lload 4, 2) := by decide +kernel
theorem d_M_put_12 : decode b_M_put 12 = .ok (.lconst 0, 1) := by decide +kernel
theorem d_M_put_13 : decode b_M_put 13 = .ok (.lcmp, 1) := by decide +kernel
theorem d_M_put_14 : decode b_M_put 14 = .ok (.ifCond .eq 46, 3) := by decide +kernel
theorem d_M_put_17 : decode b_M_put 17 = .ok (.aload_n 0, 1) := by decide +kernel
theorem d_M_put_18 : decode b_M_put 18 = .ok (.getfield 7, 3) := by decide +kernel
theorem d_M_put_21 : decode b_M_put 21 = .ok (.bipush 26, 2) := by decide +kernel
theorem d_M_put_23 : decode b_M_put 23 = .ok (.iload_n 1, 1) := by decide +kernel
theorem d_M_put_24 : decode b_M_put 24 = .ok (.imul, 1) := by decide +kernel
theorem d_M_put_25 : decode b_M_put 25 = .ok (.aload_n 0, 1) := by decide +kernel
theorem d_M_put_26 : decode b_M_put 26 = .ok (.getfield 13, 3) := by decide +kernel
theorem d_M_put_29 : decode b_M_put 29 = .ok (.iload_n 1, 1) := by decide +kernel
theorem d_M_put_30 : decode b_M_put 30 = .ok (.iaload, 1) := by decide +kernel
theorem d_M_put_31 : decode b_M_put 31 = .ok (.iadd, 1) := by decide +kernel
theorem d_M_put_32 : decode b_M_put 32 = .ok (.lload 4, 2) := by decide +kernel
theorem d_M_put_34 : decode b_M_put 34 = .ok (.ldc2_w 43, 3) := by decide +kernel
theorem d_M_put_37 : decode b_M_put 37 = .ok (.land, 1) := by decide +kernel
theorem d_M_put_38 : decode b_M_put 38 = .ok (.l2i, 1) := by decide +kernel
theorem d_M_put_39 : decode b_M_put 39 = .ok (.iastore, 1) := by decide +kernel
theorem d_M_put_40 : decode b_M_put 40 = .ok (.aload_n 0, 1) := by decide +kernel
theorem d_M_put_41 : decode b_M_put 41 = .ok (.getfield 13, 3) := by decide +kernel
theorem d_M_put_44 : decode b_M_put 44 = .ok (.iload_n 1, 1) := by decide +kernel
theorem d_M_put_45 : decode b_M_put 45 = .ok (.dup2, 1) := by decide +kernel
theorem d_M_put_46 : decode b_M_put 46 = .ok (.iaload, 1) := by decide +kernel
theorem d_M_put_47 : decode b_M_put 47 = .ok (.iconst 1, 1) := by decide +kernel
theorem d_M_put_48 : decode b_M_put 48 = .ok (.iadd, 1) := by decide +kernel
theorem d_M_put_49 : decode b_M_put 49 = .ok (.iastore, 1) := by decide +kernel
theorem d_M_put_50 : decode b_M_put 50 = .ok (.lload 4, 2) := by decide +kernel
theorem d_M_put_52 : decode b_M_put 52 = .ok (.bipush 28, 2) := by decide +kernel
theorem d_M_put_54 : decode b_M_put 54 = .ok (.lushr, 1) := by decide +kernel
theorem d_M_put_55 : decode b_M_put 55 = .ok (.lstore 4, 2) := by decide +kernel
theorem d_M_put_57 : decode b_M_put 57 = .ok (.goto (-47), 3) := by decide +kernel
theorem d_M_put_60 : decode b_M_put 60 = .ok (.return_, 1) := by decide +kernel
theorem d_M_copy_0 : decode b_M_copy 0 = .ok (.iconst 0, 1) := by decide +kernel
theorem d_M_copy_1 : decode b_M_copy 1 = .ok (.istore_n 3, 1) := by decide +kernel
theorem d_M_copy_2 : decode b_M_copy 2 = .ok (.iload_n 3, 1) := by decide +kernel
theorem d_M_copy_3 : decode b_M_copy 3 = .ok (.aload_n 0, 1) := by decide +kernel
theorem d_M_copy_4 : decode b_M_copy 4 = .ok (.getfield 13, 3) := by decide +kernel
theorem d_M_copy_7 : decode b_M_copy 7 = .ok (.iload_n 1, 1) := by decide +kernel
theorem d_M_copy_8 : decode b_M_copy 8 = .ok (.iaload, 1) := by decide +kernel
theorem d_M_copy_9 : decode b_M_copy 9 = .ok (.if_icmp .ge 31, 3) := by decide +kernel
theorem d_M_copy_12 : decode b_M_copy 12 = .ok (.aload_n 0, 1) := by decide +kernel
theorem d_M_copy_13 : decode b_M_copy 13 = .ok (.getfield 7, 3) := by decide +kernel
theorem d_M_copy_16 : decode b_M_copy 16 = .ok (.bipush 26, 2) := by decide +kernel
theorem d_M_copy_18 : decode b_M_copy 18 = .ok (.iload_n 2, 1) := by decide +kernel
theorem d_M_copy_19 : decode b_M_copy 19 = .ok (.imul, 1) := by decide +kernel
theorem d_M_copy_20 : decode b_M_copy 20 = .ok (.iload_n 3, 1) := by decide +kernel
theorem d_M_copy_21 : decode b_M_copy 21 = .ok (.iadd, 1) := by decide +kernel
theorem d_M_copy_22 : decode b_M_copy 22 = .ok (.aload_n 0, 1) := by decide +kernel
theorem d_M_copy_23 : decode b_M_copy 23 = .ok (.getfield 7, 3) := by decide +kernel
theorem d_M_copy_26 : decode b_M_copy 26 = .ok (.bipush 26, 2) := by decide +kernel
theorem d_M_copy_28 : decode b_M_copy 28 = .ok (.iload_n 1, 1) := by decide +kernel
theorem d_M_copy_29 : decode b_M_copy 29 = .ok (.imul, 1) := by decide +kernel
theorem d_M_copy_30 : decode b_M_copy 30 = .ok (.iload_n 3, 1) := by decide +kernel
theorem d_M_copy_31 : decode b_M_copy 31 = .ok (.iadd, 1) := by decide +kernel
theorem d_M_copy_32 : decode b_M_copy 32 = .ok (.iaload, 1) := by decide +kernel
theorem d_M_copy_33 : decode b_M_copy 33 = .ok (.iastore, 1) := by decide +kernel
theorem d_M_copy_34 : decode b_M_copy 34 = .ok (.iinc 3 1, 3) := by decide +kernel
theorem d_M_copy_37 : decode b_M_copy 37 = .ok (.goto (-35), 3) := by decide +kernel
theorem d_M_copy_40 : decode b_M_copy 40 = .ok (.aload_n 0, 1) := by decide +kernel
theorem d_M_copy_41 : decode b_M_copy 41 = .ok (.getfield 13, 3) := by decide +kernel
theorem d_M_copy_44 : decode b_M_copy 44 = .ok (.iload_n 2, 1) := by decide +kernel
theorem d_M_copy_45 : decode b_M_copy 45 = .ok (.aload_n 0, 1) := by decide +kernel
theorem d_M_copy_46 : decode b_M_copy 46 = .ok (.getfield 13, 3) := by decide +kernel
theorem d_M_copy_49 : decode b_M_copy 49 = .ok (.iload_n 1, 1) := by decide +kernel
theorem d_M_copy_50 : decode b_M_copy 50 = .ok (.iaload, 1) := by decide +kernel
theorem d_M_copy_51 : decode b_M_copy 51 = .ok (.iastore, 1) := by decide +kernel
theorem d_M_copy_52 : decode b_M_copy 52 = .ok (.return_, 1) := by decide +kernel
theorem d_M_zero_0 : decode b_M_zero 0 = .ok (.aload_n 0, 1) := by decide +kernel
theorem d_M_zero_1 : decode b_M_zero 1 = .ok (.getfield 13, 3) := by decide +kernel
theorem d_M_zero_4 : decode b_M_zero 4 = .ok (.iload_n 1, 1) := by decide +kernel
theorem d_M_zero_5 : decode b_M_zero 5 = .ok (.iaload, 1) := by decide +kernel
theorem d_M_zero_6 : decode b_M_zero 6 = .ok (.ifCond .ne 7, 3) := by decide +kernel
theorem d_M_zero_9 : decode b_M_zero 9 = .ok (.iconst 1, 1) := by decide +kernel
theorem d_M_zero_10 : decode b_M_zero 10 = .ok (.goto 4, 3) := by decide +kernel
theorem d_M_zero_13 : decode b_M_zero 13 = .ok (.iconst 0, 1) := by decide +kernel
theorem d_M_zero_14 : decode b_M_zero 14 = .ok (.ireturn, 1) := by decide +kernel
theorem d_M_bits_0 : decode b_M_bits 0 = .ok (.aload_n 0, 1) := by decide +kernel
theorem d_M_bits_1 : decode b_M_bits 1 = .ok (.getfield 13, 3) := by decide +kernel
theorem d_M_bits_4 : decode b_M_bits 4 = .ok (.iload_n 1, 1) := by decide +kernel
theorem d_M_bits_5 : decode b_M_bits 5 = .ok (.iaload, 1) := by decide +kernel
theorem d_M_bits_6 : decode b_M_bits 6 = .ok (.ifCond .ne 5, 3) := by decide +kernel
theorem d_M_bits_9 : decode b_M_bits 9 = .ok (.iconst 0, 1) := by decide +kernel
theorem d_M_bits_10 : decode b_M_bits 10 = .ok (.ireturn, 1) := by decide +kernel
theorem d_M_bits_11 : decode b_M_bits 11 = .ok (.iconst 0, 1) := by decide +kernel
theorem d_M_bits_12 : decode b_M_bits 12 = .ok (.istore_n 2, 1) := by decide +kernel
theorem d_M_bits_13 : decode b_M_bits 13 = .ok (.aload_n 0, 1) := by decide +kernel
theorem d_M_bits_14 : decode b_M_bits 14 = .ok (.getfield 7, 3) := by decide +kernel
theorem d_M_bits_17 : decode b_M_bits 17 = .ok (.bipush 26, 2) := by decide +kernel
theorem d_M_bits_19 : decode b_M_bits 19 = .ok (.iload_n 1, 1) := by decide +kernel
theorem d_M_bits_20 : decode b_M_bits 20 = .ok (.imul, 1) := by decide +kernel
theorem d_M_bits_21 : decode b_M_bits 21 = .ok (.aload_n 0, 1) := by decide +kernel
theorem d_M_bits_22 : decode b_M_bits 22 = .ok (.getfield 13, 3) := by decide +kernel
theorem d_M_bits_25 : decode b_M_bits 25 = .ok (.iload_n 1, 1) := by decide +kernel
theorem d_M_bits_26 : decode b_M_bits 26 = .ok (.iaload, 1) := by decide +kernel
theorem d_M_bits_27 : decode b_M_bits 27 = .ok (.iadd, 1) := by decide +kernel
theorem d_M_bits_28 : decode b_M_bits 28 = .ok (.iconst 1, 1) := by decide +kernel
theorem d_M_bits_29 : decode b_M_bits 29 = .ok (.isub, 1) := by decide +kernel
theorem d_M_bits_30 : decode b_M_bits 30 = .ok (.iaload, 1) := by decide +kernel
theorem d_M_bits_31 : decode b_M_bits 31 = .ok (.istore_n 3, 1) := by decide +kernel
theorem d_M_bits_32 : decode b_M_bits 32 = .ok (.iload_n 3, 1) := by decide +kernel
theorem d_M_bits_33 : decode b_M_bits 33 = .ok (.ifCond .le 13, 3) := by decide +kernel
theorem d_M_bits_36 : decode b_M_bits 36 = .ok (.iinc 2 1, 3) := by decide +kernel
theorem d_M_bits_39 : decode b_M_bits 39 = .ok (.iload_n 3, 1) := by decide +kernel
theorem d_M_bits_40 : decode b_M_bits 40 = .ok (.iconst 1, 1) := by decide +kernel
theorem d_M_bits_41 : decode b_M_bits 41 = .ok (.ishr, 1) := by decide +kernel
theorem d_M_bits_42 : decode b_M_bits 42 = .ok (.istore_n 3, 1) := by decide +kernel
theorem d_M_bits_43 : decode b_M_bits 43 = .ok (.goto (-11), 3) := by decide +kernel
theorem d_M_bits_46 : decode b_M_bits 46 = .ok (.bipush 28, 2) := by decide +kernel
theorem d_M_bits_48 : decode b_M_bits 48 = .ok (.aload_n 0, 1) := by decide +kernel
theorem d_M_bits_49 : decode b_M_bits 49 = .ok (.getfield 13, 3) := by decide +kernel
theorem d_M_bits_52 : decode b_M_bits 52 = .ok (.iload_n 1, 1) := by decide +kernel
theorem d_M_bits_53 : decode b_M_bits 53 = .ok (.iaload, 1) := by decide +kernel
theorem d_M_bits_54 : decode b_M_bits 54 = .ok (.iconst 1, 1) := by decide +kernel
theorem d_M_bits_55 : decode b_M_bits 55 = .ok (.isub, 1) := by decide +kernel
theorem d_M_bits_56 : decode b_M_bits 56 = .ok (.imul, 1) := by decide +kernel
theorem d_M_bits_57 : decode b_M_bits 57 = .ok (.iload_n 2, 1) := by decide +kernel
theorem d_M_bits_58 : decode b_M_bits 58 = .ok (.iadd, 1) := by decide +kernel
theorem d_M_bits_59 : decode b_M_bits 59 = .ok (.ireturn, 1) := by decide +kernel
theorem d_M_order_0 : decode b_M_order 0 = .ok (.aload_n 0, 1) := by decide +kernel
theorem d_M_order_1 : decode b_M_order 1 = .ok (.getfield 13, 3) := by decide +kernel
theorem d_M_order_4 : decode b_M_order 4 = .ok (.iload_n 1, 1) := by decide +kernel
theorem d_M_order_5 : decode b_M_order 5 = .ok (.iaload, 1) := by decide +kernel
theorem d_M_order_6 : decode b_M_order 6 = .ok (.aload_n 0, 1) := by decide +kernel
theorem d_M_order_7 : decode b_M_order 7 = .ok (.getfield 13, 3) := by decide +kernel
theorem d_M_order_10 : decode b_M_order 10 = .ok (.iload_n 2, 1) := by decide +kernel
theorem d_M_order_11 : decode b_M_order 11 = .ok (.iaload, 1) := by decide +kernel
theorem d_M_order_12 : decode b_M_order 12 = .ok (.if_icmp .eq 24, 3) := by decide +kernel
theorem d_M_order_15 : decode b_M_order 15 = .ok (.aload_n 0, 1) := by decide +kernel
theorem d_M_order_16 : decode b_M_order 16 = .ok (.getfield 13, 3) := by decide +kernel
theorem d_M_order_19 : decode b_M_order 19 = .ok (.iload_n 1, 1) := by decide +kernel
theorem d_M_order_20 : decode b_M_order 20 = .ok (.iaload, 1) := by decide +kernel
theorem d_M_order_21 : decode b_M_order 21 = .ok (.aload_n 0, 1) := by decide +kernel
theorem d_M_order_22 : decode b_M_order 22 = .ok (.getfield 13, 3) := by decide +kernel
theorem d_M_order_25 : decode b_M_order 25 = .ok (.iload_n 2, 1) := by decide +kernel
theorem d_M_order_26 : decode b_M_order 26 = .ok (.iaload, 1) := by decide +kernel
theorem d_M_order_27 : decode b_M_order 27 = .ok (.if_icmp .ge 7, 3) := by decide +kernel
theorem d_M_order_30 : decode b_M_order 30 = .ok (.iconst (-1), 1) := by decide +kernel
theorem d_M_order_31 : decode b_M_order 31 = .ok (.goto 4, 3) := by decide +kernel
theorem d_M_order_34 : decode b_M_order 34 = .ok (.iconst 1, 1) := by decide +kernel
theorem d_M_order_35 : decode b_M_order 35 = .ok (.ireturn, 1) := by decide +kernel
theorem d_M_order_36 : decode b_M_order 36 = .ok (.aload_n 0, 1) := by decide +kernel
theorem d_M_order_37 : decode b_M_order 37 = .ok (.getfield 13, 3) := by decide +kernel
theorem d_M_order_40 : decode b_M_order 40 = .ok (.iload_n 1, 1) := by decide +kernel
theorem d_M_order_41 : decode b_M_order 41 = .ok (.iaload, 1) := by decide +kernel
theorem d_M_order_42 : decode b_M_order 42 = .ok (.iconst 1, 1) := by decide +kernel
theorem d_M_order_43 : decode b_M_order 43 = .ok (.isub, 1) := by decide +kernel
theorem d_M_order_44 : decode b_M_order 44 = .ok (.istore_n 3, 1) := by decide +kernel
theorem d_M_order_45 : decode b_M_order 45 = .ok (.iload_n 3, 1) := by decide +kernel
theorem d_M_order_46 : decode b_M_order 46 = .ok (.ifCond .lt 65, 3) := by decide +kernel
theorem d_M_order_49 : decode b_M_order 49 = .ok (.aload_n 0, 1) := by decide +kernel
theorem d_M_order_50 : decode b_M_order 50 = .ok (.getfield 7, 3) := by decide +kernel
theorem d_M_order_53 : decode b_M_order 53 = .ok (.bipush 26, 2) := by decide +kernel
theorem d_M_order_55 : decode b_M_order 55 = .ok (.iload_n 1, 1) := by decide +kernel
theorem d_M_order_56 : decode b_M_order 56 = .ok (.imul, 1) := by decide +kernel
theorem d_M_order_57 : decode b_M_order 57 = .ok (.iload_n 3, 1) := by decide +kernel
theorem d_M_order_58 : decode b_M_order 58 = .ok (.iadd, 1) := by decide +kernel
theorem d_M_order_59 : decode b_M_order 59 = .ok (.iaload, 1) := by decide +kernel
theorem d_M_order_60 : decode b_M_order 60 = .ok (.aload_n 0, 1) := by decide +kernel
theorem d_M_order_61 : decode b_M_order 61 = .ok (.getfield 7, 3) := by decide +kernel
theorem d_M_order_64 : decode b_M_order 64 = .ok (.bipush 26, 2) := by decide +kernel
theorem d_M_order_66 : decode b_M_order 66 = .ok (.iload_n 2, 1) := by decide +kernel
theorem d_M_order_67 : decode b_M_order 67 = .ok (.imul, 1) := by decide +kernel
theorem d_M_order_68 : decode b_M_order 68 = .ok (.iload_n 3, 1) := by decide +kernel
theorem d_M_order_69 : decode b_M_order 69 = .ok (.iadd, 1) := by decide +kernel
theorem d_M_order_70 : decode b_M_order 70 = .ok (.iaload, 1) := by decide +kernel
theorem d_M_order_71 : decode b_M_order 71 = .ok (.if_icmp .eq 34, 3) := by decide +kernel
theorem d_M_order_74 : decode b_M_order 74 = .ok (.aload_n 0, 1) := by decide +kernel
theorem d_M_order_75 : decode b_M_order 75 = .ok (.getfield 7, 3) := by decide +kernel
theorem d_M_order_78 : decode b_M_order 78 = .ok (.bipush 26, 2) := by decide +kernel
theorem d_M_order_80 : decode b_M_order 80 = .ok (.iload_n 1, 1) := by decide +kernel
theorem d_M_order_81 : decode b_M_order 81 = .ok (.imul, 1) := by decide +kernel
theorem d_M_order_82 : decode b_M_order 82 = .ok (.iload_n 3, 1) := by decide +kernel
theorem d_M_order_83 : decode b_M_order 83 = .ok (.iadd, 1) := by decide +kernel
theorem d_M_order_84 : decode b_M_order 84 = .ok (.iaload, 1) := by decide +kernel
theorem d_M_order_85 : decode b_M_order 85 = .ok (.aload_n 0, 1) := by decide +kernel
theorem d_M_order_86 : decode b_M_order 86 = .ok (.getfield 7, 3) := by decide +kernel
theorem d_M_order_89 : decode b_M_order 89 = .ok (.bipush 26, 2) := by decide +kernel
theorem d_M_order_91 : decode b_M_order 91 = .ok (.iload_n 2, 1) := by decide +kernel
theorem d_M_order_92 : decode b_M_order 92 = .ok (.imul, 1) := by decide +kernel
theorem d_M_order_93 : decode b_M_order 93 = .ok (.iload_n 3, 1) := by decide +kernel
theorem d_M_order_94 : decode b_M_order 94 = .ok (.iadd, 1) := by decide +kernel
theorem d_M_order_95 : decode b_M_order 95 = .ok (.iaload, 1) := by decide +kernel
theorem d_M_order_96 : decode b_M_order 96 = .ok (.if_icmp .ge 7, 3) := by decide +kernel
theorem d_M_order_99 : decode b_M_order 99 = .ok (.iconst (-1), 1) := by decide +kernel
theorem d_M_order_100 : decode b_M_order 100 = .ok (.goto 4, 3) := by decide +kernel
theorem d_M_order_103 : decode b_M_order 103 = .ok (.iconst 1, 1) := by decide +kernel
theorem d_M_order_104 : decode b_M_order 104 = .ok (.ireturn, 1) := by decide +kernel
theorem d_M_order_105 : decode b_M_order 105 = .ok (.iinc 3 (-1), 3) := by decide +kernel
theorem d_M_order_108 : decode b_M_order 108 = .ok (.goto (-63), 3) := by decide +kernel
theorem d_M_order_111 : decode b_M_order 111 = .ok (.iconst 0, 1) := by decide +kernel
theorem d_M_order_112 : decode b_M_order 112 = .ok (.ireturn, 1) := by decide +kernel
theorem d_M_add_0 : decode b_M_add 0 = .ok (.aload_n 0, 1) := by decide +kernel
theorem d_M_add_1 : decode b_M_add 1 = .ok (.getfield 13, 3) := by decide +kernel
theorem d_M_add_4 : decode b_M_add 4 = .ok (.iload_n 1, 1) := by decide +kernel
theorem d_M_add_5 : decode b_M_add 5 = .ok (.iaload, 1) := by decide +kernel
theorem d_M_add_6 : decode b_M_add 6 = .ok (.aload_n 0, 1) := by decide +kernel
theorem d_M_add_7 : decode b_M_add 7 = .ok (.getfield 13, 3) := by decide +kernel
theorem d_M_add_10 : decode b_M_add 10 = .ok (.iload_n 2, 1) := by decide +kernel
theorem d_M_add_11 : decode b_M_add 11 = .ok (.iaload, 1) := by decide +kernel
theorem d_M_add_12 : decode b_M_add 12 = .ok (.if_icmp .le 12, 3) := by decide +kernel
theorem d_M_add_15 : decode b_M_add 15 = .ok (.aload_n 0, 1) := by decide +kernel
theorem d_M_add_16 : decode b_M_add 16 = .ok (.getfield 13, 3) := by decide +kernel
theorem d_M_add_19 : decode b_M_add 19 = .ok (.iload_n 1, 1) := by decide +kernel
theorem d_M_add_20 : decode b_M_add 20 = .ok (.iaload, 1) := by decide +kernel
theorem d_M_add_21 : decode b_M_add 21 = .ok (.goto 9, 3) := by decide +kernel
theorem d_M_add_24 : decode b_M_add 24 = .ok (.aload_n 0, 1) := by decide +kernel
theorem d_M_add_25 : decode b_M_add 25 = .ok (.getfield 13, 3) := by decide +kernel
theorem d_M_add_28 : decode b_M_add 28 = .ok (.iload_n 2, 1) := by decide +kernel
theorem d_M_add_29 : decode b_M_add 29 = .ok (.iaload, 1) := by decide +kernel
theorem d_M_add_30 : decode b_M_add 30 = .ok (.istore 4, 2) := by decide +kernel
theorem d_M_add_32 : decode b_M_add 32 = .ok (.iconst 0, 1) := by decide +kernel
theorem d_M_add_33 : decode b_M_add 33 = .ok (.istore 5, 2) := by decide +kernel
theorem d_M_add_35 : decode b_M_add 35 = .ok (.iconst 0, 1) := by decide +kernel
theorem d_M_add_36 : decode b_M_add 36 = .ok (.istore 6, 2) := by decide +kernel
theorem d_M_add_38 : decode b_M_add 38 = .ok (.iload 6, 2) := by decide +kernel
theorem d_M_add_40 : decode b_M_add 40 = .ok (.iload 4, 2) := by decide +kernel
theorem d_M_add_42 : decode b_M_add 42 = .ok (.if_icmp .gt 53, 3) := by decide +kernel
theorem d_M_add_45 : decode b_M_add 45 = .ok (.aload_n 0, 1) := by decide +kernel
theorem d_M_add_46 : decode b_M_add 46 = .ok (.iload_n 1, 1) := by decide +kernel
theorem d_M_add_47 : decode b_M_add 47 = .ok (.iload 6, 2) := by decide +kernel
theorem d_M_add_49 : decode b_M_add 49 = .ok (.invokevirtual 45, 3) := by decide +kernel
theorem d_M_add_52 : decode b_M_add 52 = .ok (.aload_n 0, 1) := by decide +kernel
theorem d_M_add_53 : decode b_M_add 53 = .ok (.iload_n 2, 1) := by decide +kernel
theorem d_M_add_54 : decode b_M_add 54 = .ok (.iload 6, 2) := by decide +kernel
theorem d_M_add_56 : decode b_M_add 56 = .ok (.invokevirtual 45, 3) := by decide +kernel
theorem d_M_add_59 : decode b_M_add 59 = .ok (.iadd, 1) := by decide +kernel
theorem d_M_add_60 : decode b_M_add 60 = .ok (.iload 5, 2) := by decide +kernel
theorem d_M_add_62 : decode b_M_add 62 = .ok (.iadd, 1) := by decide +kernel
theorem d_M_add_63 : decode b_M_add 63 = .ok (.istore 7, 2) := by decide +kernel
theorem d_M_add_65 : decode b_M_add 65 = .ok (.aload_n 0, 1) := by decide +kernel
theorem d_M_add_66 : decode b_M_add 66 = .ok (.getfield 7, 3) := by decide +kernel
theorem d_M_add_69 : decode b_M_add 69 = .ok (.bipush 26, 2) := by decide +kernel
theorem d_M_add_71 : decode b_M_add 71 = .ok (.iload_n 3, 1) := by decide +kernel
theorem d_M_add_72 : decode b_M_add 72 = .ok (.imul, 1) := by decide +kernel
theorem d_M_add_73 : decode b_M_add 73 = .ok (.iload 6, 2) := by decide +kernel
theorem d_M_add_75 : decode b_M_add 75 = .ok (.iadd, 1) := by decide +kernel
theorem d_M_add_76 : decode b_M_add 76 = .ok (.iload 7, 2) := by decide +kernel
theorem d_M_add_78 : decode b_M_add 78 = .ok (.ldc 49, 2) := by decide +kernel
theorem d_M_add_80 : decode b_M_add 80 = .ok (.iand, 1) := by decide +kernel
theorem d_M_add_81 : decode b_M_add 81 = .ok (.iastore, 1) := by decide +kernel
theorem d_M_add_82 : decode b_M_add 82 = .ok (.iload 7, 2) := by decide +kernel
theorem d_M_add_84 : decode b_M_add 84 = .ok (.bipush 28, 2) := by decide +kernel
theorem d_M_add_86 : decode b_M_add 86 = .ok (.ishr, 1) := by decide +kernel
theorem d_M_add_87 : decode b_M_add 87 = .ok (.istore 5, 2) := by decide +kernel
theorem d_M_add_89 : decode b_M_add 89 = .ok (.iinc 6 1, 3) := by decide +kernel
theorem d_M_add_92 : decode b_M_add 92 = .ok (.goto (-54), 3) := by decide +kernel
theorem d_M_add_95 : decode b_M_add 95 = .ok (.aload_n 0, 1) := by decide +kernel
theorem d_M_add_96 : decode b_M_add 96 = .ok (.getfield 13, 3) := by decide +kernel
theorem d_M_add_99 : decode b_M_add 99 = .ok (.iload_n 3, 1) := by decide +kernel
theorem d_M_add_100 : decode b_M_add 100 = .ok (.iload 4, 2) := by decide +kernel
theorem d_M_add_102 : decode b_M_add 102 = .ok (.iconst 1, 1) := by decide +kernel
theorem d_M_add_103 : decode b_M_add 103 = .ok (.iadd, 1) := by decide +kernel
theorem d_M_add_104 : decode b_M_add 104 = .ok (.iastore, 1) := by decide +kernel
theorem d_M_add_105 : decode b_M_add 105 = .ok (.aload_n 0, 1) := by decide +kernel
theorem d_M_add_106 : decode b_M_add 106 = .ok (.iload_n 3, 1) := by decide +kernel
theorem d_M_add_107 : decode b_M_add 107 = .ok (.invokevirtual 50, 3) := by decide +kernel
theorem d_M_add_110 : decode b_M_add 110 = .ok (.return_, 1) := by decide +kernel
theorem d_M_less_0 : decode b_M_less 0 = .ok (.aload_n 0, 1) := by decide +kernel
theorem d_M_less_1 : decode b_M_less 1 = .ok (.getfield 13, 3) := by decide +kernel
theorem d_M_less_4 : decode b_M_less 4 = .ok (.iload_n 1, 1) := by decide +kernel
theorem d_M_less_5 : decode b_M_less 5 = .ok (.iaload, 1) := by decide +kernel
theorem d_M_less_6 : decode b_M_less 6 = .ok (.istore 4, 2) := by decide +kernel
theorem d_M_less_8 : decode b_M_less 8 = .ok (.iconst 0, 1) := by decide +kernel
theorem d_M_less_9 : decode b_M_less 9 = .ok (.istore 5, 2) := by decide +kernel
theorem d_M_less_11 : decode b_M_less 11 = .ok (.iconst 0, 1) := by decide +kernel
theorem d_M_less_12 : decode b_M_less 12 = .ok (.istore 6, 2) := by decide +kernel
theorem d_M_less_14 : decode b_M_less 14 = .ok (.iload 6, 2) := by decide +kernel
theorem d_M_less_16 : decode b_M_less 16 = .ok (.iload 4, 2) := by decide +kernel
theorem d_M_less_18 : decode b_M_less 18 = .ok (.if_icmp .ge 58, 3) := by decide +kernel
theorem d_M_less_21 : decode b_M_less 21 = .ok (.aload_n 0, 1) := by decide +kernel
theorem d_M_less_22 : decode b_M_less 22 = .ok (.iload_n 1, 1) := by decide +kernel
theorem d_M_less_23 : decode b_M_less 23 = .ok (.iload 6, 2) := by decide +kernel
theorem d_M_less_25 : decode b_M_less 25 = .ok (.invokevirtual 45, 3) := by decide +kernel
theorem d_M_less_28 : decode b_M_less 28 = .ok (.aload_n 0, 1) := by decide +kernel
theorem d_M_less_29 : decode b_M_less 29 = .ok (.iload_n 2, 1) := by decide +kernel
theorem d_M_less_30 : decode b_M_less 30 = .ok (.iload 6, 2) := by decide +kernel
theorem d_M_less_32 : decode b_M_less 32 = .ok (.invokevirtual 45, 3) := by decide +kernel
theorem d_M_less_35 : decode b_M_less 35 = .ok (.isub, 1) := by decide +kernel
theorem d_M_less_36 : decode b_M_less 36 = .ok (.iload 5, 2) := by decide +kernel
theorem d_M_less_38 : decode b_M_less 38 = .ok (.isub, 1) := by decide +kernel
theorem d_M_less_39 : decode b_M_less 39 = .ok (.istore 7, 2) := by decide +kernel
theorem d_M_less_41 : decode b_M_less 41 = .ok (.aload_n 0, 1) := by decide +kernel
theorem d_M_less_42 : decode b_M_less 42 = .ok (.getfield 7, 3) := by decide +kernel
theorem d_M_less_45 : decode b_M_less 45 = .ok (.bipush 26, 2) := by decide +kernel
theorem d_M_less_47 : decode b_M_less 47 = .ok (.iload_n 3, 1) := by decide +kernel
theorem d_M_less_48 : decode b_M_less 48 = .ok (.imul, 1) := by decide +kernel
theorem d_M_less_49 : decode b_M_less 49 = .ok (.iload 6, 2) := by decide +kernel
theorem d_M_less_51 : decode b_M_less 51 = .ok (.iadd, 1) := by decide +kernel
theorem d_M_less_52 : decode b_M_less 52 = .ok (.iload 7, 2) := by decide +kernel
theorem d_M_less_54 : decode b_M_less 54 = .ok (.ldc 49, 2) := by decide +kernel
theorem d_M_less_56 : decode b_M_less 56 = .ok (.iand, 1) := by decide +kernel
theorem d_M_less_57 : decode b_M_less 57 = .ok (.iastore, 1) := by decide +kernel
theorem d_M_less_58 : decode b_M_less 58 = .ok (.iload 7, 2) := by decide +kernel
theorem d_M_less_60 : decode b_M_less 60 = .ok (.ifCond .ge 7, 3) := by decide +kernel
theorem d_M_less_63 : decode b_M_less 63 = .ok (.iconst 1, 1) := by decide +kernel
theorem d_M_less_64 : decode b_M_less 64 = .ok (.goto 4, 3) := by decide +kernel
theorem d_M_less_67 : decode b_M_less 67 = .ok (.iconst 0, 1) := by decide +kernel
theorem d_M_less_68 : decode b_M_less 68 = .ok (.istore 5, 2) := by decide +kernel
theorem d_M_less_70 : decode b_M_less 70 = .ok (.iinc 6 1, 3) := by decide +kernel
theorem d_M_less_73 : decode b_M_less 73 = .ok (.goto (-59), 3) := by decide +kernel
theorem d_M_less_76 : decode b_M_less 76 = .ok (.aload_n 0, 1) := by decide +kernel
theorem d_M_less_77 : decode b_M_less 77 = .ok (.getfield 13, 3) := by decide +kernel
theorem d_M_less_80 : decode b_M_less 80 = .ok (.iload_n 3, 1) := by decide +kernel
theorem d_M_less_81 : decode b_M_less 81 = .ok (.iload 4, 2) := by decide +kernel
theorem d_M_less_83 : decode b_M_less 83 = .ok (.iastore, 1) := by decide +kernel
theorem d_M_less_84 : decode b_M_less 84 = .ok (.aload_n 0, 1) := by decide +kernel
theorem d_M_less_85 : decode b_M_less 85 = .ok (.iload_n 3, 1) := by decide +kernel
theorem d_M_less_86 : decode b_M_less 86 = .ok (.invokevirtual 50, 3) := by decide +kernel
theorem d_M_less_89 : decode b_M_less 89 = .ok (.return_, 1) := by decide +kernel
theorem d_M_times_0 : decode b_M_times 0 = .ok (.aload_n 0, 1) := by decide +kernel
theorem d_M_times_1 : decode b_M_times 1 = .ok (.getfield 13, 3) := by decide +kernel
theorem d_M_times_4 : decode b_M_times 4 = .ok (.iload_n 1, 1) := by decide +kernel
theorem d_M_times_5 : decode b_M_times 5 = .ok (.iaload, 1) := by decide +kernel
theorem d_M_times_6 : decode b_M_times 6 = .ok (.aload_n 0, 1) := by decide +kernel
theorem d_M_times_7 : decode b_M_times 7 = .ok (.getfield 13, 3) := by decide +kernel
theorem d_M_times_10 : decode b_M_times 10 = .ok (.iload_n 2, 1) := by decide +kernel
theorem d_M_times_11 : decode b_M_times 11 = .ok (.iaload, 1) := by decide +kernel
theorem d_M_times_12 : decode b_M_times 12 = .ok (.iadd, 1) := by decide +kernel
theorem d_M_times_13 : decode b_M_times 13 = .ok (.istore 4, 2) := by decide +kernel
theorem d_M_times_15 : decode b_M_times 15 = .ok (.iconst 0, 1) := by decide +kernel
theorem d_M_times_16 : decode b_M_times 16 = .ok (.istore 5, 2) := by decide +kernel
theorem d_M_times_18 : decode b_M_times 18 = .ok (.iload 5, 2) := by decide +kernel
theorem d_M_times_20 : decode b_M_times 20 = .ok (.iload 4, 2) := by decide +kernel
theorem d_M_times_22 : decode b_M_times 22 = .ok (.if_icmp .ge 22, 3) := by decide +kernel
theorem d_M_times_25 : decode b_M_times 25 = .ok (.aload_n 0, 1) := by decide +kernel
theorem d_M_times_26 : decode b_M_times 26 = .ok (.getfield 7, 3) := by decide +kernel
theorem d_M_times_29 : decode b_M_times 29 = .ok (.bipush 26, 2) := by decide +kernel
theorem d_M_times_31 : decode b_M_times 31 = .ok (.iload_n 3, 1) := by decide +kernel
theorem d_M_times_32 : decode b_M_times 32 = .ok (.imul, 1) := by decide +kernel
theorem d_M_times_33 : decode b_M_times 33 = .ok (.iload 5, 2) := by decide +kernel
theorem d_M_times_35 : decode b_M_times 35 = .ok (.iadd, 1) := by decide +kernel
theorem d_M_times_36 : decode b_M_times 36 = .ok (.iconst 0, 1) := by decide +kernel
theorem d_M_times_37 : decode b_M_times 37 = .ok (.iastore, 1) := by decide +kernel
theorem d_M_times_38 : decode b_M_times 38 = .ok (.iinc 5 1, 3) := by decide +kernel
theorem d_M_times_41 : decode b_M_times 41 = .ok (.goto (-23), 3) := by decide +kernel
theorem d_M_times_44 : decode b_M_times 44 = .ok (.iconst 0, 1) := by decide +kernel
theorem d_M_times_45 : decode b_M_times 45 = .ok (.istore 5, 2) := by decide +kernel
theorem d_M_times_47 : decode b_M_times 47 = .ok (.iload 5, 2) := by decide +kernel
theorem d_M_times_49 : decode b_M_times 49 = .ok (.aload_n 0, 1) := by decide +kernel
theorem d_M_times_50 : decode b_M_times 50 = .ok (.getfield 13, 3) := by decide +kernel
theorem d_M_times_53 : decode b_M_times 53 = .ok (.iload_n 1, 1) := by decide +kernel
theorem d_M_times_54 : decode b_M_times 54 = .ok (.iaload, 1) := by decide +kernel
theorem d_M_times_55 : decode b_M_times 55 = .ok (.if_icmp .ge 118, 3) := by decide +kernel
theorem d_M_times_58 : decode b_M_times 58 = .ok (.lconst 0, 1) := by decide +kernel
theorem d_M_times_59 : decode b_M_times 59 = .ok (.lstore 6, 2) := by decide +kernel
theorem d_M_times_61 : decode b_M_times 61 = .ok (.iconst 0, 1) := by decide +kernel
theorem d_M_times_62 : decode b_M_times 62 = .ok (.istore 8, 2) := by decide +kernel
theorem d_M_times_64 : decode b_M_times 64 = .ok (.iload 8, 2) := by decide +kernel
theorem d_M_times_66 : decode b_M_times 66 = .ok (.aload_n 0, 1) := by decide +kernel
theorem d_M_times_67 : decode b_M_times 67 = .ok (.getfield 13, 3) := by decide +kernel
theorem d_M_times_70 : decode b_M_times 70 = .ok (.iload_n 2, 1) := by decide +kernel
theorem d_M_times_71 : decode b_M_times 71 = .ok (.iaload, 1) := by decide +kernel
theorem d_M_times_72 : decode b_M_times 72 = .ok (.if_icmp .gt 95, 3) := by decide +kernel
theorem d_M_times_75 : decode b_M_times 75 = .ok (.iload 5, 2) := by decide +kernel
theorem d_M_times_77 : decode b_M_times 77 = .ok (.iload 8, 2) := by decide +kernel
theorem d_M_times_79 : decode b_M_times 79 = .ok (.iadd, 1) := by decide +kernel
theorem d_M_times_80 : decode b_M_times 80 = .ok (.iload 4, 2) := by decide +kernel
theorem d_M_times_82 : decode b_M_times 82 = .ok (.if_icmp .lt 6, 3) := by decide +kernel
theorem d_M_times_85 : decode b_M_times 85 = .ok (.goto 76, 3) := by decide +kernel
theorem d_M_times_88 : decode b_M_times 88 = .ok (.aload_n 0, 1) := by decide +kernel
theorem d_M_times_89 : decode b_M_times 89 = .ok (.getfield 7, 3) := by decide +kernel
theorem d_M_times_92 : decode b_M_times 92 = .ok (.bipush 26, 2) := by decide +kernel
theorem d_M_times_94 : decode b_M_times 94 = .ok (.iload_n 3, 1) := by decide +kernel
theorem d_M_times_95 : decode b_M_times 95 = .ok (.imul, 1) := by decide +kernel
theorem d_M_times_96 : decode b_M_times 96 = .ok (.iload 5, 2) := by decide +kernel
theorem d_M_times_98 : decode b_M_times 98 = .ok (.iadd, 1) := by decide +kernel
theorem d_M_times_99 : decode b_M_times 99 = .ok (.iload 8, 2) := by decide +kernel
theorem d_M_times_101 : decode b_M_times 101 = .ok (.iadd, 1) := by decide +kernel
theorem d_M_times_102 : decode b_M_times 102 = .ok (.iaload, 1) := by decide +kernel
theorem d_M_times_103 : decode b_M_times 103 = .ok (.i2l, 1) := by decide +kernel
theorem d_M_times_104 : decode b_M_times 104 = .ok (.aload_n 0, 1) := by decide +kernel
theorem d_M_times_105 : decode b_M_times 105 = .ok (.getfield 7, 3) := by decide +kernel
theorem d_M_times_108 : decode b_M_times 108 = .ok (.bipush 26, 2) := by decide +kernel
theorem d_M_times_110 : decode b_M_times 110 = .ok (.iload_n 1, 1) := by decide +kernel
theorem d_M_times_111 : decode b_M_times 111 = .ok (.imul, 1) := by decide +kernel
theorem d_M_times_112 : decode b_M_times 112 = .ok (.iload 5, 2) := by decide +kernel
theorem d_M_times_114 : decode b_M_times 114 = .ok (.iadd, 1) := by decide +kernel
theorem d_M_times_115 : decode b_M_times 115 = .ok (.iaload, 1) := by decide +kernel
theorem d_M_times_116 : decode b_M_times 116 = .ok (.i2l, 1) := by decide +kernel
theorem d_M_times_117 : decode b_M_times 117 = .ok (.aload_n 0, 1) := by decide +kernel
theorem d_M_times_118 : decode b_M_times 118 = .ok (.iload_n 2, 1) := by decide +kernel
theorem d_M_times_119 : decode b_M_times 119 = .ok (.iload 8, 2) := by decide +kernel
theorem d_M_times_121 : decode b_M_times 121 = .ok (.invokevirtual 45, 3) := by decide +kernel
theorem d_M_times_124 : decode b_M_times 124 = .ok (.i2l, 1) := by decide +kernel
theorem d_M_times_125 : decode b_M_times 125 = .ok (.lmul, 1) := by decide +kernel
theorem d_M_times_126 : decode b_M_times 126 = .ok (.ladd, 1) := by decide +kernel
theorem d_M_times_127 : decode b_M_times 127 = .ok (.lload 6, 2) := by decide +kernel
theorem d_M_times_129 : decode b_M_times 129 = .ok (.ladd, 1) := by decide +kernel
theorem d_M_times_130 : decode b_M_times 130 = .ok (.lstore 9, 2) := by decide +kernel
theorem d_M_times_132 : decode b_M_times 132 = .ok (.aload_n 0, 1) := by decide +kernel
theorem d_M_times_133 : decode b_M_times 133 = .ok (.getfield 7, 3) := by decide +kernel
theorem d_M_times_136 : decode b_M_times 136 = .ok (.bipush 26, 2) := by decide +kernel
theorem d_M_times_138 : decode b_M_times 138 = .ok (.iload_n 3, 1) := by decide +kernel
theorem d_M_times_139 : decode b_M_times 139 = .ok (.imul, 1) := by decide +kernel
theorem d_M_times_140 : decode b_M_times 140 = .ok (.iload 5, 2) := by decide +kernel
theorem d_M_times_142 : decode b_M_times 142 = .ok (.iadd, 1) := by decide +kernel
theorem d_M_times_143 : decode b_M_times 143 = .ok (.iload 8, 2) := by decide +kernel
theorem d_M_times_145 : decode b_M_times 145 = .ok (.iadd, 1) := by decide +kernel
theorem d_M_times_146 : decode b_M_times 146 = .ok (.lload 9, 2) := by decide +kernel
theorem d_M_times_148 : decode b_M_times 148 = .ok (.ldc2_w 43, 3) := by decide +kernel
theorem d_M_times_151 : decode b_M_times 151 = .ok (.land, 1) := by decide +kernel
theorem d_M_times_152 : decode b_M_times 152 = .ok (.l2i, 1) := by decide +kernel
theorem d_M_times_153 : decode b_M_times 153 = .ok (.iastore, 1) := by decide +kernel
theorem d_M_times_154 : decode b_M_times 154 = .ok (.lload 9, 2) := by decide +kernel
theorem d_M_times_156 : decode b_M_times 156 = .ok (.bipush 28, 2) := by decide +kernel
theorem d_M_times_158 : decode b_M_times 158 = .ok (.lshr, 1) := by decide +kernel
theorem d_M_times_159 : decode b_M_times 159 = .ok (.lstore 6, 2) := by decide +kernel
theorem d_M_times_161 : decode b_M_times 161 = .ok (.iinc 8 1, 3) := by decide +kernel
theorem d_M_times_164 : decode b_M_times 164 = .ok (.goto (-100), 3) := by decide +kernel
theorem d_M_times_167 : decode b_M_times 167 = .ok (.iinc 5 1, 3) := by decide +kernel
theorem d_M_times_170 : decode b_M_times 170 = .ok (.goto (-123), 3) := by decide +kernel
theorem d_M_times_173 : decode b_M_times 173 = .ok (.aload_n 0, 1) := by decide +kernel
theorem d_M_times_174 : decode b_M_times 174 = .ok (.getfield 13, 3) := by decide +kernel
theorem d_M_times_177 : decode b_M_times 177 = .ok (.iload_n 3, 1) := by decide +kernel
theorem d_M_times_178 : decode b_M_times 178 = .ok (.iload 4, 2) := by decide +kernel
theorem d_M_times_180 : decode b_M_times 180 = .ok (.iastore, 1) := by decide +kernel
theorem d_M_times_181 : decode b_M_times 181 = .ok (.aload_n 0, 1) := by decide +kernel
theorem d_M_times_182 : decode b_M_times 182 = .ok (.iload_n 3, 1) := by decide +kernel
theorem d_M_times_183 : decode b_M_times 183 = .ok (.invokevirtual 50, 3) := by decide +kernel
theorem d_M_times_186 : decode b_M_times 186 = .ok (.return_, 1) := by decide +kernel
theorem d_M_grow_0 : decode b_M_grow 0 = .ok (.iload_n 3, 1) := by decide +kernel
theorem d_M_grow_1 : decode b_M_grow 1 = .ok (.i2l, 1) := by decide +kernel
theorem d_M_grow_2 : decode b_M_grow 2 = .ok (.lstore 4, 2) := by decide +kernel
theorem d_M_grow_4 : decode b_M_grow 4 = .ok (.iconst 0, 1) := by decide +kernel
theorem d_M_grow_5 : decode b_M_grow 5 = .ok (.istore 6, 2) := by decide +kernel
theorem d_M_grow_7 : decode b_M_grow 7 = .ok (.iload 6, 2) := by decide +kernel
theorem d_M_grow_9 : decode b_M_grow 9 = .ok (.aload_n 0, 1) := by decide +kernel
theorem d_M_grow_10 : decode b_M_grow 10 = .ok (.getfield 13, 3) := by decide +kernel
theorem d_M_grow_13 : decode b_M_grow 13 = .ok (.iload_n 1, 1) := by decide +kernel
theorem d_M_grow_14 : decode b_M_grow 14 = .ok (.iaload, 1) := by decide +kernel
theorem d_M_grow_15 : decode b_M_grow 15 = .ok (.if_icmp .ge 56, 3) := by decide +kernel
theorem d_M_grow_18 : decode b_M_grow 18 = .ok (.aload_n 0, 1) := by decide +kernel
theorem d_M_grow_19 : decode b_M_grow 19 = .ok (.getfield 7, 3) := by decide +kernel
theorem d_M_grow_22 : decode b_M_grow 22 = .ok (.bipush 26, 2) := by decide +kernel
theorem d_M_grow_24 : decode b_M_grow 24 = .ok (.iload_n 1, 1) := by decide +kernel
theorem d_M_grow_25 : decode b_M_grow 25 = .ok (.imul, 1) := by decide +kernel
theorem d_M_grow_26 : decode b_M_grow 26 = .ok (.iload 6, 2) := by decide +kernel
theorem d_M_grow_28 : decode b_M_grow 28 = .ok (.iadd, 1) := by decide +kernel
theorem d_M_grow_29 : decode b_M_grow 29 = .ok (.iaload, 1) := by decide +kernel
theorem d_M_grow_30 : decode b_M_grow 30 = .ok (.i2l, 1) := by decide +kernel
theorem d_M_grow_31 : decode b_M_grow 31 = .ok (.iload_n 2, 1) := by decide +kernel
theorem d_M_grow_32 : decode b_M_grow 32 = .ok (.i2l, 1) := by decide +kernel
theorem d_M_grow_33 : decode b_M_grow 33 = .ok (.lmul, 1) := by decide +kernel
theorem d_M_grow_34 : decode b_M_grow 34 = .ok (.lload 4, 2) := by decide +kernel
theorem d_M_grow_36 : decode b_M_grow 36 = .ok (.ladd, 1) := by decide +kernel
theorem d_M_grow_37 : decode b_M_grow 37 = .ok (.lstore 7, 2) := by decide +kernel
theorem d_M_grow_39 : decode b_M_grow 39 = .ok (.aload_n 0, 1) := by decide +kernel
theorem d_M_grow_40 : decode b_M_grow 40 = .ok (.getfield 7, 3) := by decide +kernel
theorem d_M_grow_43 : decode b_M_grow 43 = .ok (.bipush 26, 2) := by decide +kernel
theorem d_M_grow_45 : decode b_M_grow 45 = .ok (.iload_n 1, 1) := by decide +kernel
theorem d_M_grow_46 : decode b_M_grow 46 = .ok (.imul, 1) := by decide +kernel
theorem d_M_grow_47 : decode b_M_grow 47 = .ok (.iload 6, 2) := by decide +kernel
theorem d_M_grow_49 : decode b_M_grow 49 = .ok (.iadd, 1) := by decide +kernel
theorem d_M_grow_50 : decode b_M_grow 50 = .ok (.lload 7, 2) := by decide +kernel
theorem d_M_grow_52 : decode b_M_grow 52 = .ok (.ldc2_w 43, 3) := by decide +kernel
theorem d_M_grow_55 : decode b_M_grow 55 = .ok (.land, 1) := by decide +kernel
theorem d_M_grow_56 : decode b_M_grow 56 = .ok (.l2i, 1) := by decide +kernel
theorem d_M_grow_57 : decode b_M_grow 57 = .ok (.iastore, 1) := by decide +kernel
theorem d_M_grow_58 : decode b_M_grow 58 = .ok (.lload 7, 2) := by decide +kernel
theorem d_M_grow_60 : decode b_M_grow 60 = .ok (.bipush 28, 2) := by decide +kernel
theorem d_M_grow_62 : decode b_M_grow 62 = .ok (.lshr, 1) := by decide +kernel
theorem d_M_grow_63 : decode b_M_grow 63 = .ok (.lstore 4, 2) := by decide +kernel
theorem d_M_grow_65 : decode b_M_grow 65 = .ok (.iinc 6 1, 3) := by decide +kernel
theorem d_M_grow_68 : decode b_M_grow 68 = .ok (.goto (-61), 3) := by decide +kernel
theorem d_M_grow_71 : decode b_M_grow 71 = .ok (.lload 4, 2) := by decide +kernel
theorem d_M_grow_73 : decode b_M_grow 73 = .ok (.lconst 0, 1) := by decide +kernel
theorem d_M_grow_74 : decode b_M_grow 74 = .ok (.lcmp, 1) := by decide +kernel
theorem d_M_grow_75 : decode b_M_grow 75 = .ok (.ifCond .le 32, 3) := by decide +kernel
theorem d_M_grow_78 : decode b_M_grow 78 = .ok (.aload_n 0, 1) := by decide +kernel
theorem d_M_grow_79 : decode b_M_grow 79 = .ok (.getfield 7, 3) := by decide +kernel
theorem d_M_grow_82 : decode b_M_grow 82 = .ok (.bipush 26, 2) := by decide +kernel
theorem d_M_grow_84 : decode b_M_grow 84 = .ok (.iload_n 1, 1) := by decide +kernel
theorem d_M_grow_85 : decode b_M_grow 85 = .ok (.imul, 1) := by decide +kernel
theorem d_M_grow_86 : decode b_M_grow 86 = .ok (.aload_n 0, 1) := by decide +kernel
theorem d_M_grow_87 : decode b_M_grow 87 = .ok (.getfield 13, 3) := by decide +kernel
theorem d_M_grow_90 : decode b_M_grow 90 = .ok (.iload_n 1, 1) := by decide +kernel
theorem d_M_grow_91 : decode b_M_grow 91 = .ok (.iaload, 1) := by decide +kernel
theorem d_M_grow_92 : decode b_M_grow 92 = .ok (.iadd, 1) := by decide +kernel
theorem d_M_grow_93 : decode b_M_grow 93 = .ok (.lload 4, 2) := by decide +kernel
theorem d_M_grow_95 : decode b_M_grow 95 = .ok (.l2i, 1) := by decide +kernel
theorem d_M_grow_96 : decode b_M_grow 96 = .ok (.iastore, 1) := by decide +kernel
theorem d_M_grow_97 : decode b_M_grow 97 = .ok (.aload_n 0, 1) := by decide +kernel
theorem d_M_grow_98 : decode b_M_grow 98 = .ok (.getfield 13, 3) := by decide +kernel
theorem d_M_grow_101 : decode b_M_grow 101 = .ok (.iload_n 1, 1) := by decide +kernel
theorem d_M_grow_102 : decode b_M_grow 102 = .ok (.dup2, 1) := by decide +kernel
theorem d_M_grow_103 : decode b_M_grow 103 = .ok (.iaload, 1) := by decide +kernel
theorem d_M_grow_104 : decode b_M_grow 104 = .ok (.iconst 1, 1) := by decide +kernel
theorem d_M_grow_105 : decode b_M_grow 105 = .ok (.iadd, 1) := by decide +kernel
theorem d_M_grow_106 : decode b_M_grow 106 = .ok (.iastore, 1) := by decide +kernel
theorem d_M_grow_107 : decode b_M_grow 107 = .ok (.return_, 1) := by decide +kernel
theorem d_M_shrink_0 : decode b_M_shrink 0 = .ok (.lconst 0, 1) := by decide +kernel
theorem d_M_shrink_1 : decode b_M_shrink 1 = .ok (.lstore_n 3, 1) := by decide +kernel
theorem d_M_shrink_2 : decode b_M_shrink 2 = .ok (.aload_n 0, 1) := by decide +kernel
theorem d_M_shrink_3 : decode b_M_shrink 3 = .ok (.getfield 13, 3) := by decide +kernel
theorem d_M_shrink_6 : decode b_M_shrink 6 = .ok (.iload_n 1, 1) := by decide +kernel
theorem d_M_shrink_7 : decode b_M_shrink 7 = .ok (.iaload, 1) := by decide +kernel
theorem d_M_shrink_8 : decode b_M_shrink 8 = .ok (.iconst 1, 1) := by decide +kernel
theorem d_M_shrink_9 : decode b_M_shrink 9 = .ok (.isub, 1) := by decide +kernel
theorem d_M_shrink_10 : decode b_M_shrink 10 = .ok (.istore 5, 2) := by decide +kernel
theorem d_M_shrink_12 : decode b_M_shrink 12 = .ok (.iload 5, 2) := by decide +kernel
theorem d_M_shrink_14 : decode b_M_shrink 14 = .ok (.ifCond .lt 53, 3) := by decide +kernel
theorem d_M_shrink_17 : decode b_M_shrink 17 = .ok (.lload_n 3, 1) := by decide +kernel
theorem d_M_shrink_18 : decode b_M_shrink 18 = .ok (.bipush 28, 2) := by decide +kernel
theorem d_M_shrink_20 : decode b_M_shrink 20 = .ok (.lshl, 1) := by decide +kernel
theorem d_M_shrink_21 : decode b_M_shrink 21 = .ok (.aload_n 0, 1) := by decide +kernel
theorem d_M_shrink_22 : decode b_M_shrink 22 = .ok (.getfield 7, 3) := by decide +kernel
theorem d_M_shrink_25 : decode b_M_shrink 25 = .ok (.bipush 26, 2) := by decide +kernel
theorem d_M_shrink_27 : decode b_M_shrink 27 = .ok (.iload_n 1, 1) := by decide +kernel
theorem d_M_shrink_28 : decode b_M_shrink 28 = .ok (.imul, 1) := by decide +kernel
theorem d_M_shrink_29 : decode b_M_shrink 29 = .ok (.iload 5, 2) := by decide +kernel
theorem d_M_shrink_31 : decode b_M_shrink 31 = .ok (.iadd, 1) := by decide +kernel
theorem d_M_shrink_32 : decode b_M_shrink 32 = .ok (.iaload, 1) := by decide +kernel
theorem d_M_shrink_33 : decode b_M_shrink 33 = .ok (.i2l, 1) := by decide +kernel
theorem d_M_shrink_34 : decode b_M_shrink 34 = .ok (.lor, 1) := by decide +kernel
theorem d_M_shrink_35 : decode b_M_shrink 35 = .ok (.lstore 6, 2) := by decide +kernel
theorem d_M_shrink_37 : decode b_M_shrink 37 = .ok (.aload_n 0, 1) := by decide +kernel
theorem d_M_shrink_38 : decode b_M_shrink 38 = .ok (.getfield 7, 3) := by decide +kernel
theorem d_M_shrink_41 : decode b_M_shrink 41 = .ok (.bipush 26, 2) := by decide +kernel
theorem d_M_shrink_43 : decode b_M_shrink 43 = .ok (.iload_n 1, 1) := by decide +kernel
theorem d_M_shrink_44 : decode b_M_shrink 44 = .ok (.imul, 1) := by decide +kernel
theorem d_M_shrink_45 : decode b_M_shrink 45 = .ok (.iload 5, 2) := by decide +kernel
theorem d_M_shrink_47 : decode b_M_shrink 47 = .ok (.iadd, 1) := by decide +kernel
theorem d_M_shrink_48 : decode b_M_shrink 48 = .ok (.lload 6, 2) := by decide +kernel
theorem d_M_shrink_50 : decode b_M_shrink 50 = .ok (.iload_n 2, 1) := by decide +kernel
theorem d_M_shrink_51 : decode b_M_shrink 51 = .ok (.i2l, 1) := by decide +kernel
theorem d_M_shrink_52 : decode b_M_shrink 52 = .ok (.ldiv, 1) := by decide +kernel
theorem d_M_shrink_53 : decode b_M_shrink 53 = .ok (.l2i, 1) := by decide +kernel
theorem d_M_shrink_54 : decode b_M_shrink 54 = .ok (.iastore, 1) := by decide +kernel
theorem d_M_shrink_55 : decode b_M_shrink 55 = .ok (.lload 6, 2) := by decide +kernel
theorem d_M_shrink_57 : decode b_M_shrink 57 = .ok (.iload_n 2, 1) := by decide +kernel
theorem d_M_shrink_58 : decode b_M_shrink 58 = .ok (.i2l, 1) := by decide +kernel
theorem d_M_shrink_59 : decode b_M_shrink 59 = .ok (.lrem, 1) := by decide +kernel
theorem d_M_shrink_60 : decode b_M_shrink 60 = .ok (.lstore_n 3, 1) := by decide +kernel
theorem d_M_shrink_61 : decode b_M_shrink 61 = .ok (.iinc 5 (-1), 3) := by decide +kernel
theorem d_M_shrink_64 : decode b_M_shrink 64 = .ok (.goto (-52), 3) := by decide +kernel
theorem d_M_shrink_67 : decode b_M_shrink 67 = .ok (.aload_n 0, 1) := by decide +kernel
theorem d_M_shrink_68 : decode b_M_shrink 68 = .ok (.iload_n 1, 1) := by decide +kernel
theorem d_M_shrink_69 : decode b_M_shrink 69 = .ok (.invokevirtual 50, 3) := by decide +kernel
theorem d_M_shrink_72 : decode b_M_shrink 72 = .ok (.lload_n 3, 1) := by decide +kernel
theorem d_M_shrink_73 : decode b_M_shrink 73 = .ok (.l2i, 1) := by decide +kernel
theorem d_M_shrink_74 : decode b_M_shrink 74 = .ok (.ireturn, 1) := by decide +kernel
theorem d_M_tens_0 : decode b_M_tens 0 = .ok (.iconst 0, 1) := by decide +kernel
theorem d_M_tens_1 : decode b_M_tens 1 = .ok (.istore_n 3, 1) := by decide +kernel
theorem d_M_tens_2 : decode b_M_tens 2 = .ok (.iload_n 3, 1) := by decide +kernel
theorem d_M_tens_3 : decode b_M_tens 3 = .ok (.iload_n 2, 1) := by decide +kernel
theorem d_M_tens_4 : decode b_M_tens 4 = .ok (.if_icmp .ge 17, 3) := by decide +kernel
theorem d_M_tens_7 : decode b_M_tens 7 = .ok (.aload_n 0, 1) := by decide +kernel
theorem d_M_tens_8 : decode b_M_tens 8 = .ok (.iload_n 1, 1) := by decide +kernel
theorem d_M_tens_9 : decode b_M_tens 9 = .ok (.bipush 10, 2) := by decide +kernel
theorem d_M_tens_11 : decode b_M_tens 11 = .ok (.iconst 0, 1) := by decide +kernel
theorem d_M_tens_12 : decode b_M_tens 12 = .ok (.invokevirtual 54, 3) := by decide +kernel
theorem d_M_tens_15 : decode b_M_tens 15 = .ok (.iinc 3 1, 3) := by decide +kernel
theorem d_M_tens_18 : decode b_M_tens 18 = .ok (.goto (-16), 3) := by decide +kernel
theorem d_M_tens_21 : decode b_M_tens 21 = .ok (.return_, 1) := by decide +kernel
theorem d_M_up_0 : decode b_M_up 0 = .ok (.aload_n 0, 1) := by decide +kernel
theorem d_M_up_1 : decode b_M_up 1 = .ok (.getfield 13, 3) := by decide +kernel
theorem d_M_up_4 : decode b_M_up 4 = .ok (.iload_n 1, 1) := by decide +kernel
theorem d_M_up_5 : decode b_M_up 5 = .ok (.iaload, 1) := by decide +kernel
theorem d_M_up_6 : decode b_M_up 6 = .ok (.ifCond .ne 4, 3) := by decide +kernel
theorem d_M_up_9 : decode b_M_up 9 = .ok (.return_, 1) := by decide +kernel
theorem d_M_up_10 : decode b_M_up 10 = .ok (.iload_n 2, 1) := by decide +kernel
theorem d_M_up_11 : decode b_M_up 11 = .ok (.bipush 28, 2) := by decide +kernel
theorem d_M_up_13 : decode b_M_up 13 = .ok (.idiv, 1) := by decide +kernel
theorem d_M_up_14 : decode b_M_up 14 = .ok (.istore_n 3, 1) := by decide +kernel
theorem d_M_up_15 : decode b_M_up 15 = .ok (.iload_n 2, 1) := by decide +kernel
theorem d_M_up_16 : decode b_M_up 16 = .ok (.bipush 28, 2) := by decide +kernel
theorem d_M_up_18 : decode b_M_up 18 = .ok (.irem, 1) := by decide +kernel
theorem d_M_up_19 : decode b_M_up 19 = .ok (.istore 4, 2) := by decide +kernel
theorem d_M_up_21 : decode b_M_up 21 = .ok (.aload_n 0, 1) := by decide +kernel
theorem d_M_up_22 : decode b_M_up 22 = .ok (.getfield 13, 3) := by decide +kernel
theorem d_M_up_25 : decode b_M_up 25 = .ok (.iload_n 1, 1) := by decide +kernel
theorem d_M_up_26 : decode b_M_up 26 = .ok (.iaload, 1) := by decide +kernel
theorem d_M_up_27 : decode b_M_up 27 = .ok (.iload_n 3, 1) := by decide +kernel
theorem d_M_up_28 : decode b_M_up 28 = .ok (.iadd, 1) := by decide +kernel
theorem d_M_up_29 : decode b_M_up 29 = .ok (.istore 5, 2) := by decide +kernel
theorem d_M_up_31 : decode b_M_up 31 = .ok (.iload 5, 2) := by decide +kernel
theorem d_M_up_33 : decode b_M_up 33 = .ok (.ifCond .lt 85, 3) := by decide +kernel
theorem d_M_up_36 : decode b_M_up 36 = .ok (.iload 5, 2) := by decide +kernel
theorem d_M_up_38 : decode b_M_up 38 = .ok (.iload_n 3, 1) := by decide +kernel
theorem d_M_up_39 : decode b_M_up 39 = .ok (.if_icmp .lt 15, 3) := by decide +kernel
theorem d_M_up_42 : decode b_M_up 42 = .ok (.aload_n 0, 1) := by decide +kernel
theorem d_M_up_43 : decode b_M_up 43 = .ok (.iload_n 1, 1) := by decide +kernel
theorem d_M_up_44 : decode b_M_up 44 = .ok (.iload 5, 2) := by decide +kernel
theorem d_M_up_46 : decode b_M_up 46 = .ok (.iload_n 3, 1) := by decide +kernel
theorem d_M_up_47 : decode b_M_up 47 = .ok (.isub, 1) := by decide +kernel
theorem d_M_up_48 : decode b_M_up 48 = .ok (.invokevirtual 45, 3) := by decide +kernel
theorem d_M_up_51 : decode b_M_up 51 = .ok (.goto 4, 3) := by decide +kernel
theorem d_M_up_54 : decode b_M_up 54 = .ok (.iconst 0, 1) := by decide +kernel
theorem d_M_up_55 : decode b_M_up 55 = .ok (.istore 6, 2) := by decide +kernel
theorem d_M_up_57 : decode b_M_up 57 = .ok (.iload 5, 2) := by decide +kernel
theorem d_M_up_59 : decode b_M_up 59 = .ok (.iload_n 3, 1) := by decide +kernel
theorem d_M_up_60 : decode b_M_up 60 = .ok (.if_icmp .le 17, 3) := by decide +kernel
theorem d_M_up_63 : decode b_M_up 63 = .ok (.aload_n 0, 1) := by decide +kernel
theorem d_M_up_64 : decode b_M_up 64 = .ok (.iload_n 1, 1) := by decide +kernel
theorem d_M_up_65 : decode b_M_up 65 = .ok (.iload 5, 2) := by decide +kernel
theorem d_M_up_67 : decode b_M_up 67 = .ok (.iload_n 3, 1) := by decide +kernel
theorem d_M_up_68 : decode b_M_up 68 = .ok (.isub, 1) := by decide +kernel
theorem d_M_up_69 : decode b_M_up 69 = .ok (.iconst 1, 1) := by decide +kernel
theorem d_M_up_70 : decode b_M_up 70 = .ok (.isub, 1) := by decide +kernel
theorem d_M_up_71 : decode b_M_up 71 = .ok (.invokevirtual 45, 3) := by decide +kernel
theorem d_M_up_74 : decode b_M_up 74 = .ok (.goto 4, 3) := by decide +kernel
theorem d_M_up_77 : decode b_M_up 77 = .ok (.iconst 0, 1) := by decide +kernel
theorem d_M_up_78 : decode b_M_up 78 = .ok (.istore 7, 2) := by decide +kernel
theorem d_M_up_80 : decode b_M_up 80 = .ok (.aload_n 0, 1) := by decide +kernel
theorem d_M_up_81 : decode b_M_up 81 = .ok (.getfield 7, 3) := by decide +kernel
theorem d_M_up_84 : decode b_M_up 84 = .ok (.bipush 26, 2) := by decide +kernel
theorem d_M_up_86 : decode b_M_up 86 = .ok (.iload_n 1, 1) := by decide +kernel
theorem d_M_up_87 : decode b_M_up 87 = .ok (.imul, 1) := by decide +kernel
theorem d_M_up_88 : decode b_M_up 88 = .ok (.iload 5, 2) := by decide +kernel
theorem d_M_up_90 : decode b_M_up 90 = .ok (.iadd, 1) := by decide +kernel
theorem d_M_up_91 : decode b_M_up 91 = .ok (.iload 6, 2) := by decide +kernel
theorem d_M_up_93 : decode b_M_up 93 = .ok (.i2l, 1) := by decide +kernel
theorem d_M_up_94 : decode b_M_up 94 = .ok (.iload 4, 2) := by decide +kernel
theorem d_M_up_96 : decode b_M_up 96 = .ok (.lshl, 1) := by decide +kernel
theorem d_M_up_97 : decode b_M_up 97 = .ok (.ldc2_w 43, 3) := by decide +kernel
theorem d_M_up_100 : decode b_M_up 100 = .ok (.land, 1) := by decide +kernel
theorem d_M_up_101 : decode b_M_up 101 = .ok (.l2i, 1) := by decide +kernel
theorem d_M_up_102 : decode b_M_up 102 = .ok (.iload 7, 2) := by decide +kernel
theorem d_M_up_104 : decode b_M_up 104 = .ok (.bipush 28, 2) := by decide +kernel
theorem d_M_up_106 : decode b_M_up 106 = .ok (.iload 4, 2) := by decide +kernel
theorem d_M_up_108 : decode b_M_up 108 = .ok (.isub, 1) := by decide +kernel
theorem d_M_up_109 : decode b_M_up 109 = .ok (.ishr, 1) := by decide +kernel
theorem d_M_up_110 : decode b_M_up 110 = .ok (.ior, 1) := by decide +kernel
theorem d_M_up_111 : decode b_M_up 111 = .ok (.iastore, 1) := by decide +kernel
theorem d_M_up_112 : decode b_M_up 112 = .ok (.iinc 5 (-1), 3) := by decide +kernel
theorem d_M_up_115 : decode b_M_up 115 = .ok (.goto (-84), 3) := by decide +kernel
theorem d_M_up_118 : decode b_M_up 118 = .ok (.aload_n 0, 1) := by decide +kernel
theorem d_M_up_119 : decode b_M_up 119 = .ok (.getfield 13, 3) := by decide +kernel
theorem d_M_up_122 : decode b_M_up 122 = .ok (.iload_n 1, 1) := by decide +kernel
theorem d_M_up_123 : decode b_M_up 123 = .ok (.aload_n 0, 1) := by decide +kernel
theorem d_M_up_124 : decode b_M_up 124 = .ok (.getfield 13, 3) := by decide +kernel
theorem d_M_up_127 : decode b_M_up 127 = .ok (.iload_n 1, 1) := by decide +kernel
theorem d_M_up_128 : decode b_M_up 128 = .ok (.iaload, 1) := by decide +kernel
theorem d_M_up_129 : decode b_M_up 129 = .ok (.iload_n 3, 1) := by decide +kernel
theorem d_M_up_130 : decode b_M_up 130 = .ok (.iadd, 1) := by decide +kernel
theorem d_M_up_131 : decode b_M_up 131 = .ok (.iconst 1, 1) := by decide +kernel
theorem d_M_up_132 : decode b_M_up 132 = .ok (.iadd, 1) := by decide +kernel
theorem d_M_up_133 : decode b_M_up 133 = .ok (.iastore, 1) := by decide +kernel
theorem d_M_up_134 : decode b_M_up 134 = .ok (.aload_n 0, 1) := by decide +kernel
theorem d_M_up_135 : decode b_M_up 135 = .ok (.iload_n 1, 1) := by decide +kernel
theorem d_M_up_136 : decode b_M_up 136 = .ok (.invokevirtual 50, 3) := by decide +kernel
theorem d_M_up_139 : decode b_M_up 139 = .ok (.return_, 1) := by decide +kernel
theorem d_M_down_0 : decode b_M_down 0 = .ok (.iload_n 2, 1) := by decide +kernel
theorem d_M_down_1 : decode b_M_down 1 = .ok (.bipush 28, 2) := by decide +kernel
theorem d_M_down_3 : decode b_M_down 3 = .ok (.idiv, 1) := by decide +kernel
theorem d_M_down_4 : decode b_M_down 4 = .ok (.istore_n 3, 1) := by decide +kernel
theorem d_M_down_5 : decode b_M_down 5 = .ok (.iload_n 2, 1) := by decide +kernel
theorem d_M_down_6 : decode b_M_down 6 = .ok (.bipush 28, 2) := by decide +kernel
theorem d_M_down_8 : decode b_M_down 8 = .ok (.irem, 1) := by decide +kernel
theorem d_M_down_9 : decode b_M_down 9 = .ok (.istore 4, 2) := by decide +kernel
theorem d_M_down_11 : decode b_M_down 11 = .ok (.aload_n 0, 1) := by decide +kernel
theorem d_M_down_12 : decode b_M_down 12 = .ok (.getfield 13, 3) := by decide +kernel
theorem d_M_down_15 : decode b_M_down 15 = .ok (.iload_n 1, 1) := by decide +kernel
theorem d_M_down_16 : decode b_M_down 16 = .ok (.iaload, 1) := by decide +kernel
theorem d_M_down_17 : decode b_M_down 17 = .ok (.istore 5, 2) := by decide +kernel
theorem d_M_down_19 : decode b_M_down 19 = .ok (.iconst 0, 1) := by decide +kernel
theorem d_M_down_20 : decode b_M_down 20 = .ok (.istore 6, 2) := by decide +kernel
theorem d_M_down_22 : decode b_M_down 22 = .ok (.iload 6, 2) := by decide +kernel
theorem d_M_down_24 : decode b_M_down 24 = .ok (.iload 5, 2) := by decide +kernel
theorem d_M_down_26 : decode b_M_down 26 = .ok (.if_icmp .ge 103, 3) := by decide +kernel
theorem d_M_down_29 : decode b_M_down 29 = .ok (.iload 6, 2) := by decide +kernel
theorem d_M_down_31 : decode b_M_down 31 = .ok (.iload_n 3, 1) := by decide +kernel
theorem d_M_down_32 : decode b_M_down 32 = .ok (.iadd, 1) := by decide +kernel
theorem d_M_down_33 : decode b_M_down 33 = .ok (.iload 5, 2) := by decide +kernel
theorem d_M_down_35 : decode b_M_down 35 = .ok (.if_icmp .ge 20, 3) := by decide +kernel
theorem d_M_down_38 : decode b_M_down 38 = .ok (.aload_n 0, 1) := by decide +kernel
theorem d_M_down_39 : decode b_M_down 39 = .ok (.getfield 7, 3) := by decide +kernel
theorem d_M_down_42 : decode b_M_down 42 = .ok (.bipush 26, 2) := by decide +kernel
theorem d_M_down_44 : decode b_M_down 44 = .ok (.iload_n 1, 1) := by decide +kernel
theorem d_M_down_45 : decode b_M_down 45 = .ok (.imul, 1) := by decide +kernel
theorem d_M_down_46 : decode b_M_down 46 = .ok (.iload 6, 2) := by decide +kernel
theorem d_M_down_48 : decode b_M_down 48 = .ok (.iadd, 1) := by decide +kernel
theorem d_M_down_49 : decode b_M_down 49 = .ok (.iload_n 3, 1) := by decide +kernel
theorem d_M_down_50 : decode b_M_down 50 = .ok (.iadd, 1) := by decide +kernel
theorem d_M_down_51 : decode b_M_down 51 = .ok (.iaload, 1) := by decide +kernel
theorem d_M_down_52 : decode b_M_down 52 = .ok (.goto 4, 3) := by decide +kernel
theorem d_M_down_55 : decode b_M_down 55 = .ok (.iconst 0, 1) := by decide +kernel
theorem d_M_down_56 : decode b_M_down 56 = .ok (.istore 7, 2) := by decide +kernel
theorem d_M_down_58 : decode b_M_down 58 = .ok (.iload 6, 2) := by decide +kernel
theorem d_M_down_60 : decode b_M_down 60 = .ok (.iload_n 3, 1) := by decide +kernel
theorem d_M_down_61 : decode b_M_down 61 = .ok (.iadd, 1) := by decide +kernel
theorem d_M_down_62 : decode b_M_down 62 = .ok (.iconst 1, 1) := by decide +kernel
theorem d_M_down_63 : decode b_M_down 63 = .ok (.iadd, 1) := by decide +kernel
theorem d_M_down_64 : decode b_M_down 64 = .ok (.iload 5, 2) := by decide +kernel
theorem d_M_down_66 : decode b_M_down 66 = .ok (.if_icmp .ge 22, 3) := by decide +kernel
theorem d_M_down_69 : decode b_M_down 69 = .ok (.aload_n 0, 1) := by decide +kernel
theorem d_M_down_70 : decode b_M_down 70 = .ok (.getfield 7, 3) := by decide +kernel
theorem d_M_down_73 : decode b_M_down 73 = .ok (.bipush 26, 2) := by decide +kernel
theorem d_M_down_75 : decode b_M_down 75 = .ok (.iload_n 1, 1) := by decide +kernel
theorem d_M_down_76 : decode b_M_down 76 = .ok (.imul, 1) := by decide +kernel
theorem d_M_down_77 : decode b_M_down 77 = .ok (.iload 6, 2) := by decide +kernel
theorem d_M_down_79 : decode b_M_down 79 = .ok (.iadd, 1) := by decide +kernel
theorem d_M_down_80 : decode b_M_down 80 = .ok (.iload_n 3, 1) := by decide +kernel
theorem d_M_down_81 : decode b_M_down 81 = .ok (.iadd, 1) := by decide +kernel
theorem d_M_down_82 : decode b_M_down 82 = .ok (.iconst 1, 1) := by decide +kernel
theorem d_M_down_83 : decode b_M_down 83 = .ok (.iadd, 1) := by decide +kernel
theorem d_M_down_84 : decode b_M_down 84 = .ok (.iaload, 1) := by decide +kernel
theorem d_M_down_85 : decode b_M_down 85 = .ok (.goto 4, 3) := by decide +kernel
theorem d_M_down_88 : decode b_M_down 88 = .ok (.iconst 0, 1) := by decide +kernel
theorem d_M_down_89 : decode b_M_down 89 = .ok (.istore 8, 2) := by decide +kernel
theorem d_M_down_91 : decode b_M_down 91 = .ok (.aload_n 0, 1) := by decide +kernel
theorem d_M_down_92 : decode b_M_down 92 = .ok (.getfield 7, 3) := by decide +kernel
theorem d_M_down_95 : decode b_M_down 95 = .ok (.bipush 26, 2) := by decide +kernel
theorem d_M_down_97 : decode b_M_down 97 = .ok (.iload_n 1, 1) := by decide +kernel
theorem d_M_down_98 : decode b_M_down 98 = .ok (.imul, 1) := by decide +kernel
theorem d_M_down_99 : decode b_M_down 99 = .ok (.iload 6, 2) := by decide +kernel
theorem d_M_down_101 : decode b_M_down 101 = .ok (.iadd, 1) := by decide +kernel
theorem d_M_down_102 : decode b_M_down 102 = .ok (.iload 7, 2) := by decide +kernel
theorem d_M_down_104 : decode b_M_down 104 = .ok (.iload 4, 2) := by decide +kernel
theorem d_M_down_106 : decode b_M_down 106 = .ok (.ishr, 1) := by decide +kernel
theorem d_M_down_107 : decode b_M_down 107 = .ok (.iload 8, 2) := by decide +kernel
theorem d_M_down_109 : decode b_M_down 109 = .ok (.i2l, 1) := by decide +kernel
theorem d_M_down_110 : decode b_M_down 110 = .ok (.bipush 28, 2) := by decide +kernel
theorem d_M_down_112 : decode b_M_down 112 = .ok (.iload 4, 2) := by decide +kernel
theorem d_M_down_114 : decode b_M_down 114 = .ok (.isub, 1) := by decide +kernel
theorem d_M_down_115 : decode b_M_down 115 = .ok (.lshl, 1) := by decide +kernel
theorem d_M_down_116 : decode b_M_down 116 = .ok (.ldc2_w 43, 3) := by decide +kernel
theorem d_M_down_119 : decode b_M_down 119 = .ok (.land, 1) := by decide +kernel
theorem d_M_down_120 : decode b_M_down 120 = .ok (.l2i, 1) := by decide +kernel
theorem d_M_down_121 : decode b_M_down 121 = .ok (.ior, 1) := by decide +kernel
theorem d_M_down_122 : decode b_M_down 122 = .ok (.iastore, 1) := by decide +kernel
theorem d_M_down_123 : decode b_M_down 123 = .ok (.iinc 6 1, 3) := by decide +kernel
theorem d_M_down_126 : decode b_M_down 126 = .ok (.goto (-104), 3) := by decide +kernel
theorem d_M_down_129 : decode b_M_down 129 = .ok (.aload_n 0, 1) := by decide +kernel
theorem d_M_down_130 : decode b_M_down 130 = .ok (.iload_n 1, 1) := by decide +kernel
theorem d_M_down_131 : decode b_M_down 131 = .ok (.invokevirtual 50, 3) := by decide +kernel
theorem d_M_down_134 : decode b_M_down 134 = .ok (.return_, 1) := by decide +kernel
theorem d_M_divide_0 : decode b_M_divide 0 = .ok (.aload_n 0, 1) := by decide +kernel
theorem d_M_divide_1 : decode b_M_divide 1 = .ok (.iload_n 1, 1) := by decide +kernel
theorem d_M_divide_2 : decode b_M_divide 2 = .ok (.bipush 25, 2) := by decide +kernel
theorem d_M_divide_4 : decode b_M_divide 4 = .ok (.invokevirtual 58, 3) := by decide +kernel
theorem d_M_divide_7 : decode b_M_divide 7 = .ok (.aload_n 0, 1) := by decide +kernel
theorem d_M_divide_8 : decode b_M_divide 8 = .ok (.iload_n 2, 1) := by decide +kernel
theorem d_M_divide_9 : decode b_M_divide 9 = .ok (.bipush 26, 2) := by decide +kernel
theorem d_M_divide_11 : decode b_M_divide 11 = .ok (.invokevirtual 58, 3) := by decide +kernel
theorem d_M_divide_14 : decode b_M_divide 14 = .ok (.bipush 28, 2) := by decide +kernel
theorem d_M_divide_16 : decode b_M_divide 16 = .ok (.aload_n 0, 1) := by decide +kernel
theorem d_M_divide_17 : decode b_M_divide 17 = .ok (.getfield 13, 3) := by decide +kernel
theorem d_M_divide_20 : decode b_M_divide 20 = .ok (.iload_n 2, 1) := by decide +kernel
theorem d_M_divide_21 : decode b_M_divide 21 = .ok (.iaload, 1) := by decide +kernel
theorem d_M_divide_22 : decode b_M_divide 22 = .ok (.imul, 1) := by decide +kernel
theorem d_M_divide_23 : decode b_M_divide 23 = .ok (.aload_n 0, 1) := by decide +kernel
theorem d_M_divide_24 : decode b_M_divide 24 = .ok (.iload_n 2, 1) := by decide +kernel
theorem d_M_divide_25 : decode b_M_divide 25 = .ok (.invokevirtual 62, 3) := by decide +kernel
theorem d_M_divide_28 : decode b_M_divide 28 = .ok (.isub, 1) := by decide +kernel
theorem d_M_divide_29 : decode b_M_divide 29 = .ok (.istore_n 3, 1) := by decide +kernel
theorem d_M_divide_30 : decode b_M_divide 30 = .ok (.aload_n 0, 1) := by decide +kernel
theorem d_M_divide_31 : decode b_M_divide 31 = .ok (.getfield 13, 3) := by decide +kernel
theorem d_M_divide_34 : decode b_M_divide 34 = .ok (.bipush 25, 2) := by decide +kernel
theorem d_M_divide_36 : decode b_M_divide 36 = .ok (.iaload, 1) := by decide +kernel
theorem d_M_divide_37 : decode b_M_divide 37 = .ok (.istore 4, 2) := by decide +kernel
theorem d_M_divide_39 : decode b_M_divide 39 = .ok (.aload_n 0, 1) := by decide +kernel
theorem d_M_divide_40 : decode b_M_divide 40 = .ok (.bipush 25, 2) := by decide +kernel
theorem d_M_divide_42 : decode b_M_divide 42 = .ok (.iload_n 3, 1) := by decide +kernel
theorem d_M_divide_43 : decode b_M_divide 43 = .ok (.invokevirtual 66, 3) := by decide +kernel
theorem d_M_divide_46 : decode b_M_divide 46 = .ok (.aload_n 0, 1) := by decide +kernel
theorem d_M_divide_47 : decode b_M_divide 47 = .ok (.bipush 26, 2) := by decide +kernel
theorem d_M_divide_49 : decode b_M_divide 49 = .ok (.iload_n 3, 1) := by decide +kernel
theorem d_M_divide_50 : decode b_M_divide 50 = .ok (.invokevirtual 66, 3) := by decide +kernel
theorem d_M_divide_53 : decode b_M_divide 53 = .ok (.aload_n 0, 1) := by decide +kernel
theorem d_M_divide_54 : decode b_M_divide 54 = .ok (.getfield 13, 3) := by decide +kernel
theorem d_M_divide_57 : decode b_M_divide 57 = .ok (.bipush 26, 2) := by decide +kernel
theorem d_M_divide_59 : decode b_M_divide 59 = .ok (.iaload, 1) := by decide +kernel
theorem d_M_divide_60 : decode b_M_divide 60 = .ok (.istore 5, 2) := by decide +kernel
theorem d_M_divide_62 : decode b_M_divide 62 = .ok (.aload_n 0, 1) := by decide +kernel
theorem d_M_divide_63 : decode b_M_divide 63 = .ok (.getfield 13, 3) := by decide +kernel
theorem d_M_divide_66 : decode b_M_divide 66 = .ok (.bipush 25, 2) := by decide +kernel
theorem d_M_divide_68 : decode b_M_divide 68 = .ok (.iaload, 1) := by decide +kernel
theorem d_M_divide_69 : decode b_M_divide 69 = .ok (.istore 6, 2) := by decide +kernel
theorem d_M_divide_71 : decode b_M_divide 71 = .ok (.iload 6, 2) := by decide +kernel
theorem d_M_divide_73 : decode b_M_divide 73 = .ok (.iload 4, 2) := by decide +kernel
theorem d_M_divide_75 : decode b_M_divide 75 = .ok (.if_icmp .gt 21, 3) := by decide +kernel
theorem d_M_divide_78 : decode b_M_divide 78 = .ok (.aload_n 0, 1) := by decide +kernel
theorem d_M_divide_79 : decode b_M_divide 79 = .ok (.getfield 7, 3) := by decide +kernel
theorem d_M_divide_82 : decode b_M_divide 82 = .ok (.sipush 650, 3) := by decide +kernel
theorem d_M_divide_85 : decode b_M_divide 85 = .ok (.iload 6, 2) := by decide +kernel
theorem d_M_divide_87 : decode b_M_divide 87 = .ok (.iadd, 1) := by decide +kernel
theorem d_M_divide_88 : decode b_M_divide 88 = .ok (.iconst 0, 1) := by decide +kernel
theorem d_M_divide_89 : decode b_M_divide 89 = .ok (.iastore, 1) := by decide +kernel
theorem d_M_divide_90 : decode b_M_divide 90 = .ok (.iinc 6 1, 3) := by decide +kernel
theorem d_M_divide_93 : decode b_M_divide 93 = .ok (.goto (-22), 3) := by decide +kernel
theorem d_M_divide_96 : decode b_M_divide 96 = .ok (.iload 4, 2) := by decide +kernel
theorem d_M_divide_98 : decode b_M_divide 98 = .ok (.iload 5, 2) := by decide +kernel
theorem d_M_divide_100 : decode b_M_divide 100 = .ok (.isub, 1) := by decide +kernel
theorem d_M_divide_101 : decode b_M_divide 101 = .ok (.istore 6, 2) := by decide +kernel
theorem d_M_divide_103 : decode b_M_divide 103 = .ok (.aload_n 0, 1) := by decide +kernel
theorem d_M_divide_104 : decode b_M_divide 104 = .ok (.getfield 13, 3) := by decide +kernel
theorem d_M_divide_107 : decode b_M_divide 107 = .ok (.bipush 24, 2) := by decide +kernel
theorem d_M_divide_109 : decode b_M_divide 109 = .ok (.iconst 0, 1) := by decide +kernel
theorem d_M_divide_110 : decode b_M_divide 110 = .ok (.iastore, 1) := by decide +kernel
theorem d_M_divide_111 : decode b_M_divide 111 = .ok (.iload 6, 2) := by decide +kernel
theorem d_M_divide_113 : decode b_M_divide 113 = .ok (.istore 7, 2) := by decide +kernel
theorem d_M_divide_115 : decode b_M_divide 115 = .ok (.iload 7, 2) := by decide +kernel
theorem d_M_divide_117 : decode b_M_divide 117 = .ok (.ifCond .lt 28, 3) := by decide +kernel
theorem d_M_divide_120 : decode b_M_divide 120 = .ok (.aload_n 0, 1) := by decide +kernel
theorem d_M_divide_121 : decode b_M_divide 121 = .ok (.getfield 7, 3) := by decide +kernel
theorem d_M_divide_124 : decode b_M_divide 124 = .ok (.sipush 624, 3) := by decide +kernel
theorem d_M_divide_127 : decode b_M_divide 127 = .ok (.iload 7, 2) := by decide +kernel
theorem d_M_divide_129 : decode b_M_divide 129 = .ok (.iadd, 1) := by decide +kernel
theorem d_M_divide_130 : decode b_M_divide 130 = .ok (.aload_n 0, 1) := by decide +kernel
theorem d_M_divide_131 : decode b_M_divide 131 = .ok (.iload 7, 2) := by decide +kernel
theorem d_M_divide_133 : decode b_M_divide 133 = .ok (.iload 5, 2) := by decide +kernel
theorem d_M_divide_135 : decode b_M_divide 135 = .ok (.invokevirtual 69, 3) := by decide +kernel
theorem d_M_divide_138 : decode b_M_divide 138 = .ok (.iastore, 1) := by decide +kernel
theorem d_M_divide_139 : decode b_M_divide 139 = .ok (.iinc 7 (-1), 3) := by decide +kernel
theorem d_M_divide_142 : decode b_M_divide 142 = .ok (.goto (-27), 3) := by decide +kernel
theorem d_M_divide_145 : decode b_M_divide 145 = .ok (.aload_n 0, 1) := by decide +kernel
theorem d_M_divide_146 : decode b_M_divide 146 = .ok (.getfield 13, 3) := by decide +kernel
theorem d_M_divide_149 : decode b_M_divide 149 = .ok (.bipush 24, 2) := by decide +kernel
theorem d_M_divide_151 : decode b_M_divide 151 = .ok (.iload 6, 2) := by decide +kernel
theorem d_M_divide_153 : decode b_M_divide 153 = .ok (.ifCond .ge 7, 3) := by decide +kernel
theorem d_M_divide_156 : decode b_M_divide 156 = .ok (.iconst 0, 1) := by decide +kernel
theorem d_M_divide_157 : decode b_M_divide 157 = .ok (.goto 7, 3) := by decide +kernel
theorem d_M_divide_160 : decode b_M_divide 160 = .ok (.iload 6, 2) := by decide +kernel
theorem d_M_divide_162 : decode b_M_divide 162 = .ok (.iconst 1, 1) := by decide +kernel
theorem d_M_divide_163 : decode b_M_divide 163 = .ok (.iadd, 1) := by decide +kernel
theorem d_M_divide_164 : decode b_M_divide 164 = .ok (.iastore, 1) := by decide +kernel
theorem d_M_divide_165 : decode b_M_divide 165 = .ok (.aload_n 0, 1) := by decide +kernel
theorem d_M_divide_166 : decode b_M_divide 166 = .ok (.getfield 13, 3) := by decide +kernel
theorem d_M_divide_169 : decode b_M_divide 169 = .ok (.bipush 25, 2) := by decide +kernel
theorem d_M_divide_171 : decode b_M_divide 171 = .ok (.iload 6, 2) := by decide +kernel
theorem d_M_divide_173 : decode b_M_divide 173 = .ok (.ifCond .ge 13, 3) := by decide +kernel
theorem d_M_divide_176 : decode b_M_divide 176 = .ok (.aload_n 0, 1) := by decide +kernel
theorem d_M_divide_177 : decode b_M_divide 177 = .ok (.getfield 13, 3) := by decide +kernel
theorem d_M_divide_180 : decode b_M_divide 180 = .ok (.bipush 25, 2) := by decide +kernel
theorem d_M_divide_182 : decode b_M_divide 182 = .ok (.iaload, 1) := by decide +kernel
theorem d_M_divide_183 : decode b_M_divide 183 = .ok (.goto 5, 3) := by decide +kernel
theorem d_M_divide_186 : decode b_M_divide 186 = .ok (.iload 5, 2) := by decide +kernel
theorem d_M_divide_188 : decode b_M_divide 188 = .ok (.iastore, 1) := by decide +kernel
theorem d_M_divide_189 : decode b_M_divide 189 = .ok (.aload_n 0, 1) := by decide +kernel
theorem d_M_divide_190 : decode b_M_divide 190 = .ok (.bipush 24, 2) := by decide +kernel
theorem d_M_divide_192 : decode b_M_divide 192 = .ok (.invokevirtual 50, 3) := by decide +kernel
theorem d_M_divide_195 : decode b_M_divide 195 = .ok (.aload_n 0, 1) := by decide +kernel
theorem d_M_divide_196 : decode b_M_divide 196 = .ok (.bipush 25, 2) := by decide +kernel
theorem d_M_divide_198 : decode b_M_divide 198 = .ok (.invokevirtual 50, 3) := by decide +kernel
theorem d_M_divide_201 : decode b_M_divide 201 = .ok (.aload_n 0, 1) := by decide +kernel
theorem d_M_divide_202 : decode b_M_divide 202 = .ok (.bipush 25, 2) := by decide +kernel
theorem d_M_divide_204 : decode b_M_divide 204 = .ok (.iload_n 3, 1) := by decide +kernel
theorem d_M_divide_205 : decode b_M_divide 205 = .ok (.invokevirtual 72, 3) := by decide +kernel
theorem d_M_divide_208 : decode b_M_divide 208 = .ok (.return_, 1) := by decide +kernel
theorem d_M_step_0 : decode b_M_step 0 = .ok (.sipush 650, 3) := by decide +kernel
theorem d_M_step_3 : decode b_M_step 3 = .ok (.iload_n 1, 1) := by decide +kernel
theorem d_M_step_4 : decode b_M_step 4 = .ok (.iadd, 1) := by decide +kernel
theorem d_M_step_5 : decode b_M_step 5 = .ok (.istore_n 3, 1) := by decide +kernel
theorem d_M_step_6 : decode b_M_step 6 = .ok (.aload_n 0, 1) := by decide +kernel
theorem d_M_step_7 : decode b_M_step 7 = .ok (.getfield 7, 3) := by decide +kernel
theorem d_M_step_10 : decode b_M_step 10 = .ok (.sipush 676, 3) := by decide +kernel
theorem d_M_step_13 : decode b_M_step 13 = .ok (.iload_n 2, 1) := by decide +kernel
theorem d_M_step_14 : decode b_M_step 14 = .ok (.iadd, 1) := by decide +kernel
theorem d_M_step_15 : decode b_M_step 15 = .ok (.iconst 1, 1) := by decide +kernel
theorem d_M_step_16 : decode b_M_step 16 = .ok (.isub, 1) := by decide +kernel
theorem d_M_step_17 : decode b_M_step 17 = .ok (.iaload, 1) := by decide +kernel
theorem d_M_step_18 : decode b_M_step 18 = .ok (.i2l, 1) := by decide +kernel
theorem d_M_step_19 : decode b_M_step 19 = .ok (.lstore 4, 2) := by decide +kernel
theorem d_M_step_21 : decode b_M_step 21 = .ok (.iload_n 2, 1) := by decide +kernel
theorem d_M_step_22 : decode b_M_step 22 = .ok (.iconst 1, 1) := by decide +kernel
theorem d_M_step_23 : decode b_M_step 23 = .ok (.if_icmp .le 19, 3) := by decide +kernel
theorem d_M_step_26 : decode b_M_step 26 = .ok (.aload_n 0, 1) := by decide +kernel
theorem d_M_step_27 : decode b_M_step 27 = .ok (.getfield 7, 3) := by decide +kernel
theorem d_M_step_30 : decode b_M_step 30 = .ok (.sipush 676, 3) := by decide +kernel
theorem d_M_step_33 : decode b_M_step 33 = .ok (.iload_n 2, 1) := by decide +kernel
theorem d_M_step_34 : decode b_M_step 34 = .ok (.iadd, 1) := by decide +kernel
theorem d_M_step_35 : decode b_M_step 35 = .ok (.iconst 2, 1) := by decide +kernel
theorem d_M_step_36 : decode b_M_step 36 = .ok (.isub, 1) := by decide +kernel
theorem d_M_step_37 : decode b_M_step 37 = .ok (.iaload, 1) := by decide +kernel
theorem d_M_step_38 : decode b_M_step 38 = .ok (.i2l, 1) := by decide +kernel
theorem d_M_step_39 : decode b_M_step 39 = .ok (.goto 4, 3) := by decide +kernel
theorem d_M_step_42 : decode b_M_step 42 = .ok (.lconst 0, 1) := by decide +kernel
theorem d_M_step_43 : decode b_M_step 43 = .ok (.lstore 6, 2) := by decide +kernel
theorem d_M_step_45 : decode b_M_step 45 = .ok (.aload_n 0, 1) := by decide +kernel
theorem d_M_step_46 : decode b_M_step 46 = .ok (.getfield 7, 3) := by decide +kernel
theorem d_M_step_49 : decode b_M_step 49 = .ok (.iload_n 3, 1) := by decide +kernel
theorem d_M_step_50 : decode b_M_step 50 = .ok (.iload_n 2, 1) := by decide +kernel
theorem d_M_step_51 : decode b_M_step 51 = .ok (.iadd, 1) := by decide +kernel
theorem d_M_step_52 : decode b_M_step 52 = .ok (.iaload, 1) := by decide +kernel
theorem d_M_step_53 : decode b_M_step 53 = .ok (.i2l, 1) := by decide +kernel
theorem d_M_step_54 : decode b_M_step 54 = .ok (.bipush 28, 2) := by decide +kernel
theorem d_M_step_56 : decode b_M_step 56 = .ok (.lshl, 1) := by decide +kernel
theorem d_M_step_57 : decode b_M_step 57 = .ok (.aload_n 0, 1) := by decide +kernel
theorem d_M_step_58 : decode b_M_step 58 = .ok (.getfield 7, 3) := by decide +kernel
theorem d_M_step_61 : decode b_M_step 61 = .ok (.iload_n 3, 1) := by decide +kernel
theorem d_M_step_62 : decode b_M_step 62 = .ok (.iload_n 2, 1) := by decide +kernel
theorem d_M_step_63 : decode b_M_step 63 = .ok (.iadd, 1) := by decide +kernel
theorem d_M_step_64 : decode b_M_step 64 = .ok (.iconst 1, 1) := by decide +kernel
theorem d_M_step_65 : decode b_M_step 65 = .ok (.isub, 1) := by decide +kernel
theorem d_M_step_66 : decode b_M_step 66 = .ok (.iaload, 1) := by decide +kernel
theorem d_M_step_67 : decode b_M_step 67 = .ok (.i2l, 1) := by decide +kernel
theorem d_M_step_68 : decode b_M_step 68 = .ok (.lor, 1) := by decide +kernel
theorem d_M_step_69 : decode b_M_step 69 = .ok (.lstore 8, 2) := by decide +kernel
theorem d_M_step_71 : decode b_M_step 71 = .ok (.lload 8, 2) := by decide +kernel
theorem d_M_step_73 : decode b_M_step 73 = .ok (.lload 4, 2) := by decide +kernel
theorem d_M_step_75 : decode b_M_step 75 = .ok (.ldiv, 1) := by decide +kernel
theorem d_M_step_76 : decode b_M_step 76 = .ok (.lstore 10, 2) := by decide +kernel
theorem d_M_step_78 : decode b_M_step 78 = .ok (.lload 8, 2) := by decide +kernel
theorem d_M_step_80 : decode b_M_step 80 = .ok (.lload 4, 2) := by decide +kernel
theorem d_M_step_82 : decode b_M_step 82 = .ok (.lrem, 1) := by decide +kernel
theorem d_M_step_83 : decode b_M_step 83 = .ok (.lstore 12, 2) := by decide +kernel
theorem d_M_step_85 : decode b_M_step 85 = .ok (.lload 12, 2) := by decide +kernel
theorem d_M_step_87 : decode b_M_step 87 = .ok (.ldc2_w 43, 3) := by decide +kernel
theorem d_M_step_90 : decode b_M_step 90 = .ok (.lcmp, 1) := by decide +kernel
theorem d_M_step_91 : decode b_M_step 91 = .ok (.ifCond .gt 59, 3) := by decide +kernel
theorem d_M_step_94 : decode b_M_step 94 = .ok (.lload 10, 2) := by decide +kernel
theorem d_M_step_96 : decode b_M_step 96 = .ok (.ldc2_w 43, 3) := by decide +kernel
theorem d_M_step_99 : decode b_M_step 99 = .ok (.lcmp, 1) := by decide +kernel
theorem d_M_step_100 : decode b_M_step 100 = .ok (.ifCond .gt 34, 3) := by decide +kernel
theorem d_M_step_103 : decode b_M_step 103 = .ok (.iload_n 2, 1) := by decide +kernel
theorem d_M_step_104 : decode b_M_step 104 = .ok (.iconst 1, 1) := by decide +kernel
theorem d_M_step_105 : decode b_M_step 105 = .ok (.if_icmp .le 45, 3) := by decide +kernel
theorem d_M_step_108 : decode b_M_step 108 = .ok (.lload 10, 2) := by decide +kernel
theorem d_M_step_110 : decode b_M_step 110 = .ok (.lload 6, 2) := by decide +kernel
theorem d_M_step_112 : decode b_M_step 112 = .ok (.lmul, 1) := by decide +kernel
theorem d_M_step_113 : decode b_M_step 113 = .ok (.lload 12, 2) := by decide +kernel
theorem d_M_step_115 : decode b_M_step 115 = .ok (.bipush 28, 2) := by decide +kernel
theorem d_M_step_117 : decode b_M_step 117 = .ok (.lshl, 1) := by decide +kernel
theorem d_M_step_118 : decode b_M_step 118 = .ok (.aload_n 0, 1) := by decide +kernel
theorem d_M_step_119 : decode b_M_step 119 = .ok (.getfield 7, 3) := by decide +kernel
theorem d_M_step_122 : decode b_M_step 122 = .ok (.iload_n 3, 1) := by decide +kernel
theorem d_M_step_123 : decode b_M_step 123 = .ok (.iload_n 2, 1) := by decide +kernel
theorem d_M_step_124 : decode b_M_step 124 = .ok (.iadd, 1) := by decide +kernel
theorem d_M_step_125 : decode b_M_step 125 = .ok (.iconst 2, 1) := by decide +kernel
theorem d_M_step_126 : decode b_M_step 126 = .ok (.isub, 1) := by decide +kernel
theorem d_M_step_127 : decode b_M_step 127 = .ok (.iaload, 1) := by decide +kernel
theorem d_M_step_128 : decode b_M_step 128 = .ok (.i2l, 1) := by decide +kernel
theorem d_M_step_129 : decode b_M_step 129 = .ok (.lor, 1) := by decide +kernel
theorem d_M_step_130 : decode b_M_step 130 = .ok (.lcmp, 1) := by decide +kernel
theorem d_M_step_131 : decode b_M_step 131 = .ok (.ifCond .le 19, 3) := by decide +kernel
theorem d_M_step_134 : decode b_M_step 134 = .ok (.lload 10, 2) := by decide +kernel
theorem d_M_step_136 : decode b_M_step 136 = .ok (.lconst 1, 1) := by decide +kernel
theorem d_M_step_137 : decode b_M_step 137 = .ok (.lsub, 1) := by decide +kernel
theorem d_M_step_138 : decode b_M_step 138 = .ok (.lstore 10, 2) := by decide +kernel
theorem d_M_step_140 : decode b_M_step 140 = .ok (.lload 12, 2) := by decide +kernel
theorem d_M_step_142 : decode b_M_step 142 = .ok (.lload 4, 2) := by decide +kernel
theorem d_M_step_144 : decode b_M_step 144 = .ok (.ladd, 1) := by decide +kernel
theorem d_M_step_145 : decode b_M_step 145 = .ok (.lstore 12, 2) := by decide +kernel
theorem d_M_step_147 : decode b_M_step 147 = .ok (.goto (-62), 3) := by decide +kernel
theorem d_M_step_150 : decode b_M_step 150 = .ok (.lconst 0, 1) := by decide +kernel
theorem d_M_step_151 : decode b_M_step 151 = .ok (.lstore 14, 2) := by decide +kernel
theorem d_M_step_153 : decode b_M_step 153 = .ok (.iconst 0, 1) := by decide +kernel
theorem d_M_step_154 : decode b_M_step 154 = .ok (.istore 16, 2) := by decide +kernel
theorem d_M_step_156 : decode b_M_step 156 = .ok (.iload 16, 2) := by decide +kernel
theorem d_M_step_158 : decode b_M_step 158 = .ok (.iload_n 2, 1) := by decide +kernel
theorem d_M_step_159 : decode b_M_step 159 = .ok (.if_icmp .gt 74, 3) := by decide +kernel
theorem d_M_step_162 : decode b_M_step 162 = .ok (.aload_n 0, 1) := by decide +kernel
theorem d_M_step_163 : decode b_M_step 163 = .ok (.getfield 7, 3) := by decide +kernel
theorem d_M_step_166 : decode b_M_step 166 = .ok (.iload_n 3, 1) := by decide +kernel
theorem d_M_step_167 : decode b_M_step 167 = .ok (.iload 16, 2) := by decide +kernel
theorem d_M_step_169 : decode b_M_step 169 = .ok (.iadd, 1) := by decide +kernel
theorem d_M_step_170 : decode b_M_step 170 = .ok (.iaload, 1) := by decide +kernel
theorem d_M_step_171 : decode b_M_step 171 = .ok (.i2l, 1) := by decide +kernel
theorem d_M_step_172 : decode b_M_step 172 = .ok (.lload 14, 2) := by decide +kernel
theorem d_M_step_174 : decode b_M_step 174 = .ok (.lsub, 1) := by decide +kernel
theorem d_M_step_175 : decode b_M_step 175 = .ok (.iload 16, 2) := by decide +kernel
theorem d_M_step_177 : decode b_M_step 177 = .ok (.iload_n 2, 1) := by decide +kernel
theorem d_M_step_178 : decode b_M_step 178 = .ok (.if_icmp .ge 21, 3) := by decide +kernel
theorem d_M_step_181 : decode b_M_step 181 = .ok (.lload 10, 2) := by decide +kernel
theorem d_M_step_183 : decode b_M_step 183 = .ok (.aload_n 0, 1) := by decide +kernel
theorem d_M_step_184 : decode b_M_step 184 = .ok (.getfield 7, 3) := by decide +kernel
theorem d_M_step_187 : decode b_M_step 187 = .ok (.sipush 676, 3) := by decide +kernel
theorem d_M_step_190 : decode b_M_step 190 = .ok (.iload 16, 2) := by decide +kernel
theorem d_M_step_192 : decode b_M_step 192 = .ok (.iadd, 1) := by decide +kernel
theorem d_M_step_193 : decode b_M_step 193 = .ok (.iaload, 1) := by decide +kernel
theorem d_M_step_194 : decode b_M_step 194 = .ok (.i2l, 1) := by decide +kernel
theorem d_M_step_195 : decode b_M_step 195 = .ok (.lmul, 1) := by decide +kernel
theorem d_M_step_196 : decode b_M_step 196 = .ok (.goto 4, 3) := by decide +kernel
theorem d_M_step_199 : decode b_M_step 199 = .ok (.lconst 0, 1) := by decide +kernel
theorem d_M_step_200 : decode b_M_step 200 = .ok (.lsub, 1) := by decide +kernel
theorem d_M_step_201 : decode b_M_step 201 = .ok (.lstore 17, 2) := by decide +kernel
theorem d_M_step_203 : decode b_M_step 203 = .ok (.aload_n 0, 1) := by decide +kernel
theorem d_M_step_204 : decode b_M_step 204 = .ok (.getfield 7, 3) := by decide +kernel
theorem d_M_step_207 : decode b_M_step 207 = .ok (.iload_n 3, 1) := by decide +kernel
theorem d_M_step_208 : decode b_M_step 208 = .ok (.iload 16, 2) := by decide +kernel
theorem d_M_step_210 : decode b_M_step 210 = .ok (.iadd, 1) := by decide +kernel
theorem d_M_step_211 : decode b_M_step 211 = .ok (.lload 17, 2) := by decide +kernel
theorem d_M_step_213 : decode b_M_step 213 = .ok (.ldc2_w 43, 3) := by decide +kernel
theorem d_M_step_216 : decode b_M_step 216 = .ok (.land, 1) := by decide +kernel
theorem d_M_step_217 : decode b_M_step 217 = .ok (.l2i, 1) := by decide +kernel
theorem d_M_step_218 : decode b_M_step 218 = .ok (.iastore, 1) := by decide +kernel
theorem d_M_step_219 : decode b_M_step 219 = .ok (.lload 17, 2) := by decide +kernel
theorem d_M_step_221 : decode b_M_step 221 = .ok (.bipush 28, 2) := by decide +kernel
theorem d_M_step_223 : decode b_M_step 223 = .ok (.lshr, 1) := by decide +kernel
theorem d_M_step_224 : decode b_M_step 224 = .ok (.lneg, 1) := by decide +kernel
theorem d_M_step_225 : decode b_M_step 225 = .ok (.lstore 14, 2) := by decide +kernel
theorem d_M_step_227 : decode b_M_step 227 = .ok (.iinc 16 1, 3) := by decide +kernel
theorem d_M_step_230 : decode b_M_step 230 = .ok (.goto (-74), 3) := by decide +kernel
theorem d_M_step_233 : decode b_M_step 233 = .ok (.lload 14, 2) := by decide +kernel
theorem d_M_step_235 : decode b_M_step 235 = .ok (.lconst 0, 1) := by decide +kernel
theorem d_M_step_236 : decode b_M_step 236 = .ok (.lcmp, 1) := by decide +kernel
theorem d_M_step_237 : decode b_M_step 237 = .ok (.ifCond .ne 7, 3) := by decide +kernel
theorem d_M_step_240 : decode b_M_step 240 = .ok (.lload 10, 2) := by decide +kernel
theorem d_M_step_242 : decode b_M_step 242 = .ok (.l2i, 1) := by decide +kernel
theorem d_M_step_243 : decode b_M_step 243 = .ok (.ireturn, 1) := by decide +kernel
theorem d_M_step_244 : decode b_M_step 244 = .ok (.iconst 0, 1) := by decide +kernel
theorem d_M_step_245 : decode b_M_step 245 = .ok (.istore 16, 2) := by decide +kernel
theorem d_M_step_247 : decode b_M_step 247 = .ok (.iconst 0, 1) := by decide +kernel
theorem d_M_step_248 : decode b_M_step 248 = .ok (.istore 17, 2) := by decide +kernel
theorem d_M_step_250 : decode b_M_step 250 = .ok (.iload 17, 2) := by decide +kernel
theorem d_M_step_252 : decode b_M_step 252 = .ok (.iload_n 2, 1) := by decide +kernel
theorem d_M_step_253 : decode b_M_step 253 = .ok (.if_icmp .gt 66, 3) := by decide +kernel
theorem d_M_step_256 : decode b_M_step 256 = .ok (.aload_n 0, 1) := by decide +kernel
theorem d_M_step_257 : decode b_M_step 257 = .ok (.getfield 7, 3) := by decide +kernel
theorem d_M_step_260 : decode b_M_step 260 = .ok (.iload_n 3, 1) := by decide +kernel
theorem d_M_step_261 : decode b_M_step 261 = .ok (.iload 17, 2) := by decide +kernel
theorem d_M_step_263 : decode b_M_step 263 = .ok (.iadd, 1) := by decide +kernel
theorem d_M_step_264 : decode b_M_step 264 = .ok (.iaload, 1) := by decide +kernel
theorem d_M_step_265 : decode b_M_step 265 = .ok (.iload 17, 2) := by decide +kernel
theorem d_M_step_267 : decode b_M_step 267 = .ok (.iload_n 2, 1) := by decide +kernel
theorem d_M_step_268 : decode b_M_step 268 = .ok (.if_icmp .ge 17, 3) := by decide +kernel
theorem d_M_step_271 : decode b_M_step 271 = .ok (.aload_n 0, 1) := by decide +kernel
theorem d_M_step_272 : decode b_M_step 272 = .ok (.getfield 7, 3) := by decide +kernel
theorem d_M_step_275 : decode b_M_step 275 = .ok (.sipush 676, 3) := by decide +kernel
theorem d_M_step_278 : decode b_M_step 278 = .ok (.iload 17, 2) := by decide +kernel
theorem d_M_step_280 : decode b_M_step 280 = .ok (.iadd, 1) := by decide +kernel
theorem d_M_step_281 : decode b_M_step 281 = .ok (.iaload, 1) := by decide +kernel
theorem d_M_step_282 : decode b_M_step 282 = .ok (.goto 4, 3) := by decide +kernel
theorem d_M_step_285 : decode b_M_step 285 = .ok (.iconst 0, 1) := by decide +kernel
theorem d_M_step_286 : decode b_M_step 286 = .ok (.iadd, 1) := by decide +kernel
theorem d_M_step_287 : decode b_M_step 287 = .ok (.iload 16, 2) := by decide +kernel
theorem d_M_step_289 : decode b_M_step 289 = .ok (.iadd, 1) := by decide +kernel
theorem d_M_step_290 : decode b_M_step 290 = .ok (.istore 18, 2) := by decide +kernel
theorem d_M_step_292 : decode b_M_step 292 = .ok (.aload_n 0, 1) := by decide +kernel
theorem d_M_step_293 : decode b_M_step 293 = .ok (.getfield 7, 3) := by decide +kernel
theorem d_M_step_296 : decode b_M_step 296 = .ok (.iload_n 3, 1) := by decide +kernel
theorem d_M_step_297 : decode b_M_step 297 = .ok (.iload 17, 2) := by decide +kernel
theorem d_M_step_299 : decode b_M_step 299 = .ok (.iadd, 1) := by decide +kernel
theorem d_M_step_300 : decode b_M_step 300 = .ok (.iload 18, 2) := by decide +kernel
theorem d_M_step_302 : decode b_M_step 302 = .ok (.ldc 49, 2) := by decide +kernel
theorem d_M_step_304 : decode b_M_step 304 = .ok (.iand, 1) := by decide +kernel
theorem d_M_step_305 : decode b_M_step 305 = .ok (.iastore, 1) := by decide +kernel
theorem d_M_step_306 : decode b_M_step 306 = .ok (.iload 18, 2) := by decide +kernel
theorem d_M_step_308 : decode b_M_step 308 = .ok (.bipush 28, 2) := by decide +kernel
theorem d_M_step_310 : decode b_M_step 310 = .ok (.ishr, 1) := by decide +kernel
theorem d_M_step_311 : decode b_M_step 311 = .ok (.istore 16, 2) := by decide +kernel
theorem d_M_step_313 : decode b_M_step 313 = .ok (.iinc 17 1, 3) := by decide +kernel
theorem d_M_step_316 : decode b_M_step 316 = .ok (.goto (-66), 3) := by decide +kernel
theorem d_M_step_319 : decode b_M_step 319 = .ok (.lload 10, 2) := by decide +kernel
theorem d_M_step_321 : decode b_M_step 321 = .ok (.l2i, 1) := by decide +kernel
theorem d_M_step_322 : decode b_M_step 322 = .ok (.iconst 1, 1) := by decide +kernel
theorem d_M_step_323 : decode b_M_step 323 = .ok (.isub, 1) := by decide +kernel
theorem d_M_step_324 : decode b_M_step 324 = .ok (.ireturn, 1) := by decide +kernel
theorem d_M_lowest_0 : decode b_M_lowest 0 = .ok (.aload_n 0, 1) := by decide +kernel
theorem d_M_lowest_1 : decode b_M_lowest 1 = .ok (.iload_n 1, 1) := by decide +kernel
theorem d_M_lowest_2 : decode b_M_lowest 2 = .ok (.bipush 27, 2) := by decide +kernel
theorem d_M_lowest_4 : decode b_M_lowest 4 = .ok (.invokevirtual 58, 3) := by decide +kernel
theorem d_M_lowest_7 : decode b_M_lowest 7 = .ok (.aload_n 0, 1) := by decide +kernel
theorem d_M_lowest_8 : decode b_M_lowest 8 = .ok (.iload_n 2, 1) := by decide +kernel
theorem d_M_lowest_9 : decode b_M_lowest 9 = .ok (.bipush 28, 2) := by decide +kernel
theorem d_M_lowest_11 : decode b_M_lowest 11 = .ok (.invokevirtual 58, 3) := by decide +kernel
theorem d_M_lowest_14 : decode b_M_lowest 14 = .ok (.aload_n 0, 1) := by decide +kernel
theorem d_M_lowest_15 : decode b_M_lowest 15 = .ok (.bipush 28, 2) := by decide +kernel
theorem d_M_lowest_17 : decode b_M_lowest 17 = .ok (.invokevirtual 75, 3) := by decide +kernel
theorem d_M_lowest_20 : decode b_M_lowest 20 = .ok (.ifCond .ne 30, 3) := by decide +kernel
theorem d_M_lowest_23 : decode b_M_lowest 23 = .ok (.aload_n 0, 1) := by decide +kernel
theorem d_M_lowest_24 : decode b_M_lowest 24 = .ok (.bipush 27, 2) := by decide +kernel
theorem d_M_lowest_26 : decode b_M_lowest 26 = .ok (.bipush 28, 2) := by decide +kernel
theorem d_M_lowest_28 : decode b_M_lowest 28 = .ok (.invokevirtual 79, 3) := by decide +kernel
theorem d_M_lowest_31 : decode b_M_lowest 31 = .ok (.aload_n 0, 1) := by decide +kernel
theorem d_M_lowest_32 : decode b_M_lowest 32 = .ok (.bipush 28, 2) := by decide +kernel
theorem d_M_lowest_34 : decode b_M_lowest 34 = .ok (.bipush 27, 2) := by decide +kernel
theorem d_M_lowest_36 : decode b_M_lowest 36 = .ok (.invokevirtual 58, 3) := by decide +kernel
theorem d_M_lowest_39 : decode b_M_lowest 39 = .ok (.aload_n 0, 1) := by decide +kernel
theorem d_M_lowest_40 : decode b_M_lowest 40 = .ok (.bipush 25, 2) := by decide +kernel
theorem d_M_lowest_42 : decode b_M_lowest 42 = .ok (.bipush 28, 2) := by decide +kernel
theorem d_M_lowest_44 : decode b_M_lowest 44 = .ok (.invokevirtual 58, 3) := by decide +kernel
theorem d_M_lowest_47 : decode b_M_lowest 47 = .ok (.goto (-33), 3) := by decide +kernel
theorem d_M_lowest_50 : decode b_M_lowest 50 = .ok (.aload_n 0, 1) := by decide +kernel
theorem d_M_lowest_51 : decode b_M_lowest 51 = .ok (.iload_n 1, 1) := by decide +kernel
theorem d_M_lowest_52 : decode b_M_lowest 52 = .ok (.bipush 27, 2) := by decide +kernel
theorem d_M_lowest_54 : decode b_M_lowest 54 = .ok (.invokevirtual 79, 3) := by decide +kernel
theorem d_M_lowest_57 : decode b_M_lowest 57 = .ok (.aload_n 0, 1) := by decide +kernel
theorem d_M_lowest_58 : decode b_M_lowest 58 = .ok (.bipush 24, 2) := by decide +kernel
theorem d_M_lowest_60 : decode b_M_lowest 60 = .ok (.iload_n 1, 1) := by decide +kernel
theorem d_M_lowest_61 : decode b_M_lowest 61 = .ok (.invokevirtual 58, 3) := by decide +kernel
theorem d_M_lowest_64 : decode b_M_lowest 64 = .ok (.aload_n 0, 1) := by decide +kernel
theorem d_M_lowest_65 : decode b_M_lowest 65 = .ok (.iload_n 2, 1) := by decide +kernel
theorem d_M_lowest_66 : decode b_M_lowest 66 = .ok (.bipush 27, 2) := by decide +kernel
theorem d_M_lowest_68 : decode b_M_lowest 68 = .ok (.invokevirtual 79, 3) := by decide +kernel
theorem d_M_lowest_71 : decode b_M_lowest 71 = .ok (.aload_n 0, 1) := by decide +kernel
theorem d_M_lowest_72 : decode b_M_lowest 72 = .ok (.bipush 24, 2) := by decide +kernel
theorem d_M_lowest_74 : decode b_M_lowest 74 = .ok (.iload_n 2, 1) := by decide +kernel
theorem d_M_lowest_75 : decode b_M_lowest 75 = .ok (.invokevirtual 58, 3) := by decide +kernel
theorem d_M_lowest_78 : decode b_M_lowest 78 = .ok (.return_, 1) := by decide +kernel
theorem d_M_split_0 : decode b_M_split 0 = .ok (.dload_n 1, 1) := by decide +kernel
theorem d_M_split_1 : decode b_M_split 1 = .ok (.dstore 5, 2) := by decide +kernel
theorem d_M_split_3 : decode b_M_split 3 = .ok (.iconst 0, 1) := by decide +kernel
theorem d_M_split_4 : decode b_M_split 4 = .ok (.istore 7, 2) := by decide +kernel
theorem d_M_split_6 : decode b_M_split 6 = .ok (.aload_n 0, 1) := by decide +kernel
theorem d_M_split_7 : decode b_M_split 7 = .ok (.iload 4, 2) := by decide +kernel
theorem d_M_split_9 : decode b_M_split 9 = .ok (.lconst 1, 1) := by decide +kernel
theorem d_M_split_10 : decode b_M_split 10 = .ok (.invokevirtual 82, 3) := by decide +kernel
theorem d_M_split_13 : decode b_M_split 13 = .ok (.dload 5, 2) := by decide +kernel
theorem d_M_split_15 : decode b_M_split 15 = .ok (.ldc2_w 86, 3) := by decide +kernel
theorem d_M_split_18 : decode b_M_split 18 = .ok (.dcmp .l, 1) := by decide +kernel
theorem d_M_split_19 : decode b_M_split 19 = .ok (.ifCond .lt 17, 3) := by decide +kernel
theorem d_M_split_22 : decode b_M_split 22 = .ok (.dload 5, 2) := by decide +kernel
theorem d_M_split_24 : decode b_M_split 24 = .ok (.ldc2_w 88, 3) := by decide +kernel
theorem d_M_split_27 : decode b_M_split 27 = .ok (.dmul, 1) := by decide +kernel
theorem d_M_split_28 : decode b_M_split 28 = .ok (.dstore 5, 2) := by decide +kernel
theorem d_M_split_30 : decode b_M_split 30 = .ok (.iinc 7 1, 3) := by decide +kernel
theorem d_M_split_33 : decode b_M_split 33 = .ok (.goto (-20), 3) := by decide +kernel
theorem d_M_split_36 : decode b_M_split 36 = .ok (.dload 5, 2) := by decide +kernel
theorem d_M_split_38 : decode b_M_split 38 = .ok (.dconst 0, 1) := by decide +kernel
theorem d_M_split_39 : decode b_M_split 39 = .ok (.dcmp .l, 1) := by decide +kernel
theorem d_M_split_40 : decode b_M_split 40 = .ok (.ifCond .le 26, 3) := by decide +kernel
theorem d_M_split_43 : decode b_M_split 43 = .ok (.dload 5, 2) := by decide +kernel
theorem d_M_split_45 : decode b_M_split 45 = .ok (.ldc2_w 90, 3) := by decide +kernel
theorem d_M_split_48 : decode b_M_split 48 = .ok (.dcmp .g, 1) := by decide +kernel
theorem d_M_split_49 : decode b_M_split 49 = .ok (.ifCond .ge 17, 3) := by decide +kernel
theorem d_M_split_52 : decode b_M_split 52 = .ok (.dload 5, 2) := by decide +kernel
theorem d_M_split_54 : decode b_M_split 54 = .ok (.ldc2_w 92, 3) := by decide +kernel
theorem d_M_split_57 : decode b_M_split 57 = .ok (.dmul, 1) := by decide +kernel
theorem d_M_split_58 : decode b_M_split 58 = .ok (.dstore 5, 2) := by decide +kernel
theorem d_M_split_60 : decode b_M_split 60 = .ok (.iinc 7 (-1), 3) := by decide +kernel
theorem d_M_split_63 : decode b_M_split 63 = .ok (.goto (-27), 3) := by decide +kernel
theorem d_M_split_66 : decode b_M_split 66 = .ok (.aload_n 0, 1) := by decide +kernel
theorem d_M_split_67 : decode b_M_split 67 = .ok (.iload_n 3, 1) := by decide +kernel
theorem d_M_split_68 : decode b_M_split 68 = .ok (.dload 5, 2) := by decide +kernel
theorem d_M_split_70 : decode b_M_split 70 = .ok (.d2l, 1) := by decide +kernel
theorem d_M_split_71 : decode b_M_split 71 = .ok (.invokevirtual 82, 3) := by decide +kernel
theorem d_M_split_74 : decode b_M_split 74 = .ok (.iload 7, 2) := by decide +kernel
theorem d_M_split_76 : decode b_M_split 76 = .ok (.ifCond .le 13, 3) := by decide +kernel
theorem d_M_split_79 : decode b_M_split 79 = .ok (.aload_n 0, 1) := by decide +kernel
theorem d_M_split_80 : decode b_M_split 80 = .ok (.iload_n 3, 1) := by decide +kernel
theorem d_M_split_81 : decode b_M_split 81 = .ok (.iload 7, 2) := by decide +kernel
theorem d_M_split_83 : decode b_M_split 83 = .ok (.invokevirtual 66, 3) := by decide +kernel
theorem d_M_split_86 : decode b_M_split 86 = .ok (.goto 12, 3) := by decide +kernel
theorem d_M_split_89 : decode b_M_split 89 = .ok (.aload_n 0, 1) := by decide +kernel
theorem d_M_split_90 : decode b_M_split 90 = .ok (.iload 4, 2) := by decide +kernel
theorem d_M_split_92 : decode b_M_split 92 = .ok (.iload 7, 2) := by decide +kernel
theorem d_M_split_94 : decode b_M_split 94 = .ok (.ineg, 1) := by decide +kernel
theorem d_M_split_95 : decode b_M_split 95 = .ok (.invokevirtual 66, 3) := by decide +kernel
theorem d_M_split_98 : decode b_M_split 98 = .ok (.return_, 1) := by decide +kernel
theorem d_M_nearest_0 : decode b_M_nearest 0 = .ok (.aload_n 0, 1) := by decide +kernel
theorem d_M_nearest_1 : decode b_M_nearest 1 = .ok (.iconst 0, 1) := by decide +kernel
theorem d_M_nearest_2 : decode b_M_nearest 2 = .ok (.putfield 94, 3) := by decide +kernel
theorem d_M_nearest_5 : decode b_M_nearest 5 = .ok (.aload_n 0, 1) := by decide +kernel
theorem d_M_nearest_6 : decode b_M_nearest 6 = .ok (.iload_n 1, 1) := by decide +kernel
theorem d_M_nearest_7 : decode b_M_nearest 7 = .ok (.invokevirtual 75, 3) := by decide +kernel
theorem d_M_nearest_10 : decode b_M_nearest 10 = .ok (.ifCond .eq 5, 3) := by decide +kernel
theorem d_M_nearest_13 : decode b_M_nearest 13 = .ok (.dconst 0, 1) := by decide +kernel
theorem d_M_nearest_14 : decode b_M_nearest 14 = .ok (.dreturn, 1) := by decide +kernel
theorem d_M_nearest_15 : decode b_M_nearest 15 = .ok (.bipush 53, 2) := by decide +kernel
theorem d_M_nearest_17 : decode b_M_nearest 17 = .ok (.aload_n 0, 1) := by decide +kernel
theorem d_M_nearest_18 : decode b_M_nearest 18 = .ok (.iload_n 1, 1) := by decide +kernel
theorem d_M_nearest_19 : decode b_M_nearest 19 = .ok (.invokevirtual 62, 3) := by decide +kernel
theorem d_M_nearest_22 : decode b_M_nearest 22 = .ok (.isub, 1) := by decide +kernel
theorem d_M_nearest_23 : decode b_M_nearest 23 = .ok (.aload_n 0, 1) := by decide +kernel
theorem d_M_nearest_24 : decode b_M_nearest 24 = .ok (.iload_n 2, 1) := by decide +kernel
theorem d_M_nearest_25 : decode b_M_nearest 25 = .ok (.invokevirtual 62, 3) := by decide +kernel
theorem d_M_nearest_28 : decode b_M_nearest 28 = .ok (.iadd, 1) := by decide +kernel
theorem d_M_nearest_29 : decode b_M_nearest 29 = .ok (.istore_n 3, 1) := by decide +kernel
theorem d_M_nearest_30 : decode b_M_nearest 30 = .ok (.aload_n 0, 1) := by decide +kernel
theorem d_M_nearest_31 : decode b_M_nearest 31 = .ok (.iload_n 3, 1) := by decide +kernel
theorem d_M_nearest_32 : decode b_M_nearest 32 = .ok (.sipush 160, 3) := by decide +kernel
theorem d_M_nearest_35 : decode b_M_nearest 35 = .ok (.if_icmp .gt 9, 3) := by decide +kernel
theorem d_M_nearest_38 : decode b_M_nearest 38 = .ok (.iload_n 3, 1) := by decide +kernel
theorem d_M_nearest_39 : decode b_M_nearest 39 = .ok (.bipush (-60), 2) := by decide +kernel
theorem d_M_nearest_41 : decode b_M_nearest 41 = .ok (.if_icmp .ge 7, 3) := by decide +kernel
theorem d_M_nearest_44 : decode b_M_nearest 44 = .ok (.iconst 1, 1) := by decide +kernel
theorem d_M_nearest_45 : decode b_M_nearest 45 = .ok (.goto 4, 3) := by decide +kernel
theorem d_M_nearest_48 : decode b_M_nearest 48 = .ok (.iconst 0, 1) := by decide +kernel
theorem d_M_nearest_49 : decode b_M_nearest 49 = .ok (.putfield 94, 3) := by decide +kernel
theorem d_M_nearest_52 : decode b_M_nearest 52 = .ok (.aload_n 0, 1) := by decide +kernel
theorem d_M_nearest_53 : decode b_M_nearest 53 = .ok (.getfield 94, 3) := by decide +kernel
theorem d_M_nearest_56 : decode b_M_nearest 56 = .ok (.ifCond .eq 5, 3) := by decide +kernel
theorem d_M_nearest_59 : decode b_M_nearest 59 = .ok (.dconst 0, 1) := by decide +kernel
theorem d_M_nearest_60 : decode b_M_nearest 60 = .ok (.dreturn, 1) := by decide +kernel
theorem d_M_nearest_61 : decode b_M_nearest 61 = .ok (.aload_n 0, 1) := by decide +kernel
theorem d_M_nearest_62 : decode b_M_nearest 62 = .ok (.iload_n 1, 1) := by decide +kernel
theorem d_M_nearest_63 : decode b_M_nearest 63 = .ok (.iload_n 2, 1) := by decide +kernel
theorem d_M_nearest_64 : decode b_M_nearest 64 = .ok (.iload_n 3, 1) := by decide +kernel
theorem d_M_nearest_65 : decode b_M_nearest 65 = .ok (.invokevirtual 98, 3) := by decide +kernel
theorem d_M_nearest_68 : decode b_M_nearest 68 = .ok (.aload_n 0, 1) := by decide +kernel
theorem d_M_nearest_69 : decode b_M_nearest 69 = .ok (.bipush 24, 2) := by decide +kernel
theorem d_M_nearest_71 : decode b_M_nearest 71 = .ok (.invokevirtual 62, 3) := by decide +kernel
theorem d_M_nearest_74 : decode b_M_nearest 74 = .ok (.bipush 53, 2) := by decide +kernel
theorem d_M_nearest_76 : decode b_M_nearest 76 = .ok (.if_icmp .le 13, 3) := by decide +kernel
theorem d_M_nearest_79 : decode b_M_nearest 79 = .ok (.iinc 3 (-1), 3) := by decide +kernel
theorem d_M_nearest_82 : decode b_M_nearest 82 = .ok (.aload_n 0, 1) := by decide +kernel
theorem d_M_nearest_83 : decode b_M_nearest 83 = .ok (.iload_n 1, 1) := by decide +kernel
theorem d_M_nearest_84 : decode b_M_nearest 84 = .ok (.iload_n 2, 1) := by decide +kernel
theorem d_M_nearest_85 : decode b_M_nearest 85 = .ok (.iload_n 3, 1) := by decide +kernel
theorem d_M_nearest_86 : decode b_M_nearest 86 = .ok (.invokevirtual 98, 3) := by decide +kernel
theorem d_M_nearest_89 : decode b_M_nearest 89 = .ok (.aload_n 0, 1) := by decide +kernel
theorem d_M_nearest_90 : decode b_M_nearest 90 = .ok (.bipush 24, 2) := by decide +kernel
theorem d_M_nearest_92 : decode b_M_nearest 92 = .ok (.invokevirtual 101, 3) := by decide +kernel
theorem d_M_nearest_95 : decode b_M_nearest 95 = .ok (.lstore 4, 2) := by decide +kernel
theorem d_M_nearest_97 : decode b_M_nearest 97 = .ok (.aload_n 0, 1) := by decide +kernel
theorem d_M_nearest_98 : decode b_M_nearest 98 = .ok (.bipush 25, 2) := by decide +kernel
theorem d_M_nearest_100 : decode b_M_nearest 100 = .ok (.iconst 1, 1) := by decide +kernel
theorem d_M_nearest_101 : decode b_M_nearest 101 = .ok (.invokevirtual 66, 3) := by decide +kernel
theorem d_M_nearest_104 : decode b_M_nearest 104 = .ok (.aload_n 0, 1) := by decide +kernel
theorem d_M_nearest_105 : decode b_M_nearest 105 = .ok (.bipush 25, 2) := by decide +kernel
theorem d_M_nearest_107 : decode b_M_nearest 107 = .ok (.bipush 30, 2) := by decide +kernel
theorem d_M_nearest_109 : decode b_M_nearest 109 = .ok (.invokevirtual 105, 3) := by decide +kernel
theorem d_M_nearest_112 : decode b_M_nearest 112 = .ok (.istore 6, 2) := by decide +kernel
theorem d_M_nearest_114 : decode b_M_nearest 114 = .ok (.iload 6, 2) := by decide +kernel
theorem d_M_nearest_116 : decode b_M_nearest 116 = .ok (.ifCond .gt 17, 3) := by decide +kernel
theorem d_M_nearest_119 : decode b_M_nearest 119 = .ok (.iload 6, 2) := by decide +kernel
theorem d_M_nearest_121 : decode b_M_nearest 121 = .ok (.ifCond .ne 18, 3) := by decide +kernel
theorem d_M_nearest_124 : decode b_M_nearest 124 = .ok (.lload 4, 2) := by decide +kernel
theorem d_M_nearest_126 : decode b_M_nearest 126 = .ok (.lconst 1, 1) := by decide +kernel
theorem d_M_nearest_127 : decode b_M_nearest 127 = .ok (.land, 1) := by decide +kernel
theorem d_M_nearest_128 : decode b_M_nearest 128 = .ok (.lconst 1, 1) := by decide +kernel
theorem d_M_nearest_129 : decode b_M_nearest 129 = .ok (.lcmp, 1) := by decide +kernel
theorem d_M_nearest_130 : decode b_M_nearest 130 = .ok (.ifCond .ne 9, 3) := by decide +kernel
theorem d_M_nearest_133 : decode b_M_nearest 133 = .ok (.lload 4, 2) := by decide +kernel
theorem d_M_nearest_135 : decode b_M_nearest 135 = .ok (.lconst 1, 1) := by decide +kernel
theorem d_M_nearest_136 : decode b_M_nearest 136 = .ok (.ladd, 1) := by decide +kernel
theorem d_M_nearest_137 : decode b_M_nearest 137 = .ok (.lstore 4, 2) := by decide +kernel
theorem d_M_nearest_139 : decode b_M_nearest 139 = .ok (.lload 4, 2) := by decide +kernel
theorem d_M_nearest_141 : decode b_M_nearest 141 = .ok (.l2d, 1) := by decide +kernel
theorem d_M_nearest_142 : decode b_M_nearest 142 = .ok (.dstore 7, 2) := by decide +kernel
theorem d_M_nearest_144 : decode b_M_nearest 144 = .ok (.iconst 0, 1) := by decide +kernel
theorem d_M_nearest_145 : decode b_M_nearest 145 = .ok (.istore 9, 2) := by decide +kernel
theorem d_M_nearest_147 : decode b_M_nearest 147 = .ok (.iload 9, 2) := by decide +kernel
theorem d_M_nearest_149 : decode b_M_nearest 149 = .ok (.iload_n 3, 1) := by decide +kernel
theorem d_M_nearest_150 : decode b_M_nearest 150 = .ok (.if_icmp .ge 17, 3) := by decide +kernel
theorem d_M_nearest_153 : decode b_M_nearest 153 = .ok (.dload 7, 2) := by decide +kernel
theorem d_M_nearest_155 : decode b_M_nearest 155 = .ok (.ldc2_w 88, 3) := by decide +kernel
theorem d_M_nearest_158 : decode b_M_nearest 158 = .ok (.dmul, 1) := by decide +kernel
theorem d_M_nearest_159 : decode b_M_nearest 159 = .ok (.dstore 7, 2) := by decide +kernel
theorem d_M_nearest_161 : decode b_M_nearest 161 = .ok (.iinc 9 1, 3) := by decide +kernel
theorem d_M_nearest_164 : decode b_M_nearest 164 = .ok (.goto (-17), 3) := by decide +kernel
theorem d_M_nearest_167 : decode b_M_nearest 167 = .ok (.iconst 0, 1) := by decide +kernel
theorem d_M_nearest_168 : decode b_M_nearest 168 = .ok (.istore 9, 2) := by decide +kernel
theorem d_M_nearest_170 : decode b_M_nearest 170 = .ok (.iload 9, 2) := by decide +kernel
theorem d_M_nearest_172 : decode b_M_nearest 172 = .ok (.iload_n 3, 1) := by decide +kernel
theorem d_M_nearest_173 : decode b_M_nearest 173 = .ok (.if_icmp .le 17, 3) := by decide +kernel
theorem d_M_nearest_176 : decode b_M_nearest 176 = .ok (.dload 7, 2) := by decide +kernel
theorem d_M_nearest_178 : decode b_M_nearest 178 = .ok (.ldc2_w 92, 3) := by decide +kernel
theorem d_M_nearest_181 : decode b_M_nearest 181 = .ok (.dmul, 1) := by decide +kernel
theorem d_M_nearest_182 : decode b_M_nearest 182 = .ok (.dstore 7, 2) := by decide +kernel
theorem d_M_nearest_184 : decode b_M_nearest 184 = .ok (.iinc 9 (-1), 3) := by decide +kernel
theorem d_M_nearest_187 : decode b_M_nearest 187 = .ok (.goto (-17), 3) := by decide +kernel
theorem d_M_nearest_190 : decode b_M_nearest 190 = .ok (.aload_n 0, 1) := by decide +kernel
theorem d_M_nearest_191 : decode b_M_nearest 191 = .ok (.dload 7, 2) := by decide +kernel
theorem d_M_nearest_193 : decode b_M_nearest 193 = .ok (.invokestatic 108, 3) := by decide +kernel
theorem d_M_nearest_196 : decode b_M_nearest 196 = .ok (.ifCond .ne 7, 3) := by decide +kernel
theorem d_M_nearest_199 : decode b_M_nearest 199 = .ok (.iconst 1, 1) := by decide +kernel
theorem d_M_nearest_200 : decode b_M_nearest 200 = .ok (.goto 4, 3) := by decide +kernel
theorem d_M_nearest_203 : decode b_M_nearest 203 = .ok (.iconst 0, 1) := by decide +kernel
theorem d_M_nearest_204 : decode b_M_nearest 204 = .ok (.putfield 94, 3) := by decide +kernel
theorem d_M_nearest_207 : decode b_M_nearest 207 = .ok (.aload_n 0, 1) := by decide +kernel
theorem d_M_nearest_208 : decode b_M_nearest 208 = .ok (.getfield 94, 3) := by decide +kernel
theorem d_M_nearest_211 : decode b_M_nearest 211 = .ok (.ifCond .eq 7, 3) := by decide +kernel
theorem d_M_nearest_214 : decode b_M_nearest 214 = .ok (.dconst 0, 1) := by decide +kernel
theorem d_M_nearest_215 : decode b_M_nearest 215 = .ok (.goto 5, 3) := by decide +kernel
theorem d_M_nearest_218 : decode b_M_nearest 218 = .ok (.dload 7, 2) := by decide +kernel
theorem d_M_nearest_220 : decode b_M_nearest 220 = .ok (.dreturn, 1) := by decide +kernel
theorem d_M_quotient_0 : decode b_M_quotient 0 = .ok (.aload_n 0, 1) := by decide +kernel
theorem d_M_quotient_1 : decode b_M_quotient 1 = .ok (.iload_n 1, 1) := by decide +kernel
theorem d_M_quotient_2 : decode b_M_quotient 2 = .ok (.bipush 29, 2) := by decide +kernel
theorem d_M_quotient_4 : decode b_M_quotient 4 = .ok (.invokevirtual 58, 3) := by decide +kernel
theorem d_M_quotient_7 : decode b_M_quotient 7 = .ok (.aload_n 0, 1) := by decide +kernel
theorem d_M_quotient_8 : decode b_M_quotient 8 = .ok (.iload_n 2, 1) := by decide +kernel
theorem d_M_quotient_9 : decode b_M_quotient 9 = .ok (.bipush 30, 2) := by decide +kernel
theorem d_M_quotient_11 : decode b_M_quotient 11 = .ok (.invokevirtual 58, 3) := by decide +kernel
theorem d_M_quotient_14 : decode b_M_quotient 14 = .ok (.iload_n 3, 1) := by decide +kernel
theorem d_M_quotient_15 : decode b_M_quotient 15 = .ok (.ifCond .le 13, 3) := by decide +kernel
theorem d_M_quotient_18 : decode b_M_quotient 18 = .ok (.aload_n 0, 1) := by decide +kernel
theorem d_M_quotient_19 : decode b_M_quotient 19 = .ok (.bipush 29, 2) := by decide +kernel
theorem d_M_quotient_21 : decode b_M_quotient 21 = .ok (.iload_n 3, 1) := by decide +kernel
theorem d_M_quotient_22 : decode b_M_quotient 22 = .ok (.invokevirtual 66, 3) := by decide +kernel
theorem d_M_quotient_25 : decode b_M_quotient 25 = .ok (.goto 11, 3) := by decide +kernel
theorem d_M_quotient_28 : decode b_M_quotient 28 = .ok (.aload_n 0, 1) := by decide +kernel
theorem d_M_quotient_29 : decode b_M_quotient 29 = .ok (.bipush 30, 2) := by decide +kernel
theorem d_M_quotient_31 : decode b_M_quotient 31 = .ok (.iload_n 3, 1) := by decide +kernel
theorem d_M_quotient_32 : decode b_M_quotient 32 = .ok (.ineg, 1) := by decide +kernel
theorem d_M_quotient_33 : decode b_M_quotient 33 = .ok (.invokevirtual 66, 3) := by decide +kernel
theorem d_M_quotient_36 : decode b_M_quotient 36 = .ok (.aload_n 0, 1) := by decide +kernel
theorem d_M_quotient_37 : decode b_M_quotient 37 = .ok (.bipush 29, 2) := by decide +kernel
theorem d_M_quotient_39 : decode b_M_quotient 39 = .ok (.bipush 30, 2) := by decide +kernel
theorem d_M_quotient_41 : decode b_M_quotient 41 = .ok (.invokevirtual 79, 3) := by decide +kernel
theorem d_M_quotient_44 : decode b_M_quotient 44 = .ok (.return_, 1) := by decide +kernel
