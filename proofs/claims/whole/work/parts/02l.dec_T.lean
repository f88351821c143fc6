theorem d_T_init_0 : decode b_T_init 0 = .ok (.aload_n 0, 1) := by decide +kernel
theorem d_T_init_1 : decode b_T_init 1 = .ok (.invokespecial 3, 3) := by decide +kernel
theorem d_T_init_4 : decode b_T_init 4 = .ok (.aload_n 0, 1) := by decide +kernel
theorem d_T_init_5 : decode b_T_init 5 = .ok (.sipush 200, 3) := by decide +kernel
theorem d_T_init_8 : decode b_T_init 8 = .ok (.newarray .char, 2) := by decide +kernel
theorem d_T_init_10 : decode b_T_init 10 = .ok (.putfield 11, 3) := by decide +kernel
theorem d_T_init_13 : decode b_T_init 13 = .ok (.return_, 1) := by decide +kernel
theorem d_T_clear_0 : decode b_T_clear 0 = .ok (.aload_n 0, 1) := by decide +kernel
theorem d_T_clear_1 : decode b_T_clear 1 = .ok (.iconst 0, 1) := by decide +kernel
theorem d_T_clear_2 : decode b_T_clear 2 = .ok (.putfield 15, 3) := by decide +kernel
theorem d_T_clear_5 : decode b_T_clear 5 = .ok (.return_, 1) := by decide +kernel
theorem d_T_at_0 : decode b_T_at 0 = .ok (.iload_n 1, 1) := by decide +kernel
theorem d_T_at_1 : decode b_T_at 1 = .ok (.ifCond .lt 27, 3) := by decide +kernel
theorem d_T_at_4 : decode b_T_at 4 = .ok (.iload_n 1, 1) := by decide +kernel
theorem d_T_at_5 : decode b_T_at 5 = .ok (.aload_n 0, 1) := by decide +kernel
theorem d_T_at_6 : decode b_T_at 6 = .ok (.getfield 15, 3) := by decide +kernel
theorem d_T_at_9 : decode b_T_at 9 = .ok (.if_icmp .ge 19, 3) := by decide +kernel
theorem d_T_at_12 : decode b_T_at 12 = .ok (.iload_n 1, 1) := by decide +kernel
theorem d_T_at_13 : decode b_T_at 13 = .ok (.sipush 200, 3) := by decide +kernel
theorem d_T_at_16 : decode b_T_at 16 = .ok (.if_icmp .ge 12, 3) := by decide +kernel
theorem d_T_at_19 : decode b_T_at 19 = .ok (.aload_n 0, 1) := by decide +kernel
theorem d_T_at_20 : decode b_T_at 20 = .ok (.getfield 11, 3) := by decide +kernel
theorem d_T_at_23 : decode b_T_at 23 = .ok (.iload_n 1, 1) := by decide +kernel
theorem d_T_at_24 : decode b_T_at 24 = .ok (.caload, 1) := by decide +kernel
theorem d_T_at_25 : decode b_T_at 25 = .ok (.goto 4, 3) := by decide +kernel
theorem d_T_at_28 : decode b_T_at 28 = .ok (.iconst (-1), 1) := by decide +kernel
theorem d_T_at_29 : decode b_T_at 29 = .ok (.ireturn, 1) := by decide +kernel
theorem d_T_put_0 : decode b_T_put 0 = .ok (.aload_n 0, 1) := by decide +kernel
theorem d_T_put_1 : decode b_T_put 1 = .ok (.getfield 15, 3) := by decide +kernel
theorem d_T_put_4 : decode b_T_put 4 = .ok (.ifCond .lt 34, 3) := by decide +kernel
theorem d_T_put_7 : decode b_T_put 7 = .ok (.aload_n 0, 1) := by decide +kernel
theorem d_T_put_8 : decode b_T_put 8 = .ok (.getfield 15, 3) := by decide +kernel
theorem d_T_put_11 : decode b_T_put 11 = .ok (.sipush 200, 3) := by decide +kernel
theorem d_T_put_14 : decode b_T_put 14 = .ok (.if_icmp .ge 24, 3) := by decide +kernel
theorem d_T_put_17 : decode b_T_put 17 = .ok (.aload_n 0, 1) := by decide +kernel
theorem d_T_put_18 : decode b_T_put 18 = .ok (.getfield 11, 3) := by decide +kernel
theorem d_T_put_21 : decode b_T_put 21 = .ok (.aload_n 0, 1) := by decide +kernel
theorem d_T_put_22 : decode b_T_put 22 = .ok (.getfield 15, 3) := by decide +kernel
theorem d_T_put_25 : decode b_T_put 25 = .ok (.iload_n 1, 1) := by decide +kernel
theorem d_T_put_26 : decode b_T_put 26 = .ok (.i2c, 1) := by decide +kernel
theorem d_T_put_27 : decode b_T_put 27 = .ok (.castore, 1) := by decide +kernel
theorem d_T_put_28 : decode b_T_put 28 = .ok (.aload_n 0, 1) := by decide +kernel
theorem d_T_put_29 : decode b_T_put 29 = .ok (.dup, 1) := by decide +kernel
theorem d_T_put_30 : decode b_T_put 30 = .ok (.getfield 15, 3) := by decide +kernel
theorem d_T_put_33 : decode b_T_put 33 = .ok (.iconst 1, 1) := by decide +kernel
theorem d_T_put_34 : decode b_T_put 34 = .ok (.iadd, 1) := by decide +kernel
theorem d_T_put_35 : decode b_T_put 35 = .ok (.putfield 15, 3) := by decide +kernel
theorem d_T_put_38 : decode b_T_put 38 = .ok (.return_, 1) := by decide +kernel
theorem d_T_putMany_0 : decode b_T_putMany 0 = .ok (.iconst 0, 1) := by decide +kernel
theorem d_T_putMany_1 : decode b_T_putMany 1 = .ok (.istore_n 3, 1) := by decide +kernel
theorem d_T_putMany_2 : decode b_T_putMany 2 = .ok (.iload_n 3, 1) := by decide +kernel
theorem d_T_putMany_3 : decode b_T_putMany 3 = .ok (.iload_n 2, 1) := by decide +kernel
theorem d_T_putMany_4 : decode b_T_putMany 4 = .ok (.if_icmp .ge 21, 3) := by decide +kernel
theorem d_T_putMany_7 : decode b_T_putMany 7 = .ok (.iload_n 3, 1) := by decide +kernel
theorem d_T_putMany_8 : decode b_T_putMany 8 = .ok (.sipush 200, 3) := by decide +kernel
theorem d_T_putMany_11 : decode b_T_putMany 11 = .ok (.if_icmp .ge 14, 3) := by decide +kernel
theorem d_T_putMany_14 : decode b_T_putMany 14 = .ok (.aload_n 0, 1) := by decide +kernel
theorem d_T_putMany_15 : decode b_T_putMany 15 = .ok (.iload_n 1, 1) := by decide +kernel
theorem d_T_putMany_16 : decode b_T_putMany 16 = .ok (.invokevirtual 19, 3) := by decide +kernel
theorem d_T_putMany_19 : decode b_T_putMany 19 = .ok (.iinc 3 1, 3) := by decide +kernel
theorem d_T_putMany_22 : decode b_T_putMany 22 = .ok (.goto (-20), 3) := by decide +kernel
theorem d_T_putMany_25 : decode b_T_putMany 25 = .ok (.return_, 1) := by decide +kernel
theorem d_T_putFrom_0 : decode b_T_putFrom 0 = .ok (.iload_n 2, 1) := by decide +kernel
theorem d_T_putFrom_1 : decode b_T_putFrom 1 = .ok (.istore 4, 2) := by decide +kernel
theorem d_T_putFrom_3 : decode b_T_putFrom 3 = .ok (.iload 4, 2) := by decide +kernel
theorem d_T_putFrom_5 : decode b_T_putFrom 5 = .ok (.iload_n 3, 1) := by decide +kernel
theorem d_T_putFrom_6 : decode b_T_putFrom 6 = .ok (.if_icmp .ge 28, 3) := by decide +kernel
theorem d_T_putFrom_9 : decode b_T_putFrom 9 = .ok (.iload 4, 2) := by decide +kernel
theorem d_T_putFrom_11 : decode b_T_putFrom 11 = .ok (.aload_n 1, 1) := by decide +kernel
theorem d_T_putFrom_12 : decode b_T_putFrom 12 = .ok (.getfield 15, 3) := by decide +kernel
theorem d_T_putFrom_15 : decode b_T_putFrom 15 = .ok (.if_icmp .ge 19, 3) := by decide +kernel
theorem d_T_putFrom_18 : decode b_T_putFrom 18 = .ok (.aload_n 0, 1) := by decide +kernel
theorem d_T_putFrom_19 : decode b_T_putFrom 19 = .ok (.aload_n 1, 1) := by decide +kernel
theorem d_T_putFrom_20 : decode b_T_putFrom 20 = .ok (.iload 4, 2) := by decide +kernel
theorem d_T_putFrom_22 : decode b_T_putFrom 22 = .ok (.invokevirtual 23, 3) := by decide +kernel
theorem d_T_putFrom_25 : decode b_T_putFrom 25 = .ok (.invokevirtual 19, 3) := by decide +kernel
theorem d_T_putFrom_28 : decode b_T_putFrom 28 = .ok (.iinc 4 1, 3) := by decide +kernel
theorem d_T_putFrom_31 : decode b_T_putFrom 31 = .ok (.goto (-28), 3) := by decide +kernel
theorem d_T_putFrom_34 : decode b_T_putFrom 34 = .ok (.return_, 1) := by decide +kernel
theorem d_T_reverse_0 : decode b_T_reverse 0 = .ok (.iconst 0, 1) := by decide +kernel
theorem d_T_reverse_1 : decode b_T_reverse 1 = .ok (.istore_n 1, 1) := by decide +kernel
theorem d_T_reverse_2 : decode b_T_reverse 2 = .ok (.aload_n 0, 1) := by decide +kernel
theorem d_T_reverse_3 : decode b_T_reverse 3 = .ok (.getfield 15, 3) := by decide +kernel
theorem d_T_reverse_6 : decode b_T_reverse 6 = .ok (.sipush 200, 3) := by decide +kernel
theorem d_T_reverse_9 : decode b_T_reverse 9 = .ok (.invokestatic 27, 3) := by decide +kernel
theorem d_T_reverse_12 : decode b_T_reverse 12 = .ok (.iconst 1, 1) := by decide +kernel
theorem d_T_reverse_13 : decode b_T_reverse 13 = .ok (.isub, 1) := by decide +kernel
theorem d_T_reverse_14 : decode b_T_reverse 14 = .ok (.istore_n 2, 1) := by decide +kernel
theorem d_T_reverse_15 : decode b_T_reverse 15 = .ok (.iload_n 1, 1) := by decide +kernel
theorem d_T_reverse_16 : decode b_T_reverse 16 = .ok (.iload_n 2, 1) := by decide +kernel
theorem d_T_reverse_17 : decode b_T_reverse 17 = .ok (.if_icmp .ge 38, 3) := by decide +kernel
theorem d_T_reverse_20 : decode b_T_reverse 20 = .ok (.aload_n 0, 1) := by decide +kernel
theorem d_T_reverse_21 : decode b_T_reverse 21 = .ok (.getfield 11, 3) := by decide +kernel
theorem d_T_reverse_24 : decode b_T_reverse 24 = .ok (.iload_n 1, 1) := by decide +kernel
theorem d_T_reverse_25 : decode b_T_reverse 25 = .ok (.caload, 1) := by decide +kernel
theorem d_T_reverse_26 : decode b_T_reverse 26 = .ok (.istore_n 3, 1) := by decide +kernel
theorem d_T_reverse_27 : decode b_T_reverse 27 = .ok (.aload_n 0, 1) := by decide +kernel
theorem d_T_reverse_28 : decode b_T_reverse 28 = .ok (.getfield 11, 3) := by decide +kernel
theorem d_T_reverse_31 : decode b_T_reverse 31 = .ok (.iload_n 1, 1) := by decide +kernel
theorem d_T_reverse_32 : decode b_T_reverse 32 = .ok (.aload_n 0, 1) := by decide +kernel
theorem d_T_reverse_33 : decode b_T_reverse 33 = .ok (.getfield 11, 3) := by decide +kernel
theorem d_T_reverse_36 : decode b_T_reverse 36 = .ok (.iload_n 2, 1) := by decide +kernel
theorem d_T_reverse_37 : decode b_T_reverse 37 = .ok (.caload, 1) := by decide +kernel
theorem d_T_reverse_38 : decode b_T_reverse 38 = .ok (.castore, 1) := by decide +kernel
theorem d_T_reverse_39 : decode b_T_reverse 39 = .ok (.aload_n 0, 1) := by decide +kernel
theorem d_T_reverse_40 : decode b_T_reverse 40 = .ok (.getfield 11, 3) := by decide +kernel
theorem d_T_reverse_43 : decode b_T_reverse 43 = .ok (.iload_n 2, 1) := by decide +kernel
theorem d_T_reverse_44 : decode b_T_reverse 44 = .ok (.iload_n 3, 1) := by decide +kernel
theorem d_T_reverse_45 : decode b_T_reverse 45 = .ok (.castore, 1) := by decide +kernel
theorem d_T_reverse_46 : decode b_T_reverse 46 = .ok (.iinc 1 1, 3) := by decide +kernel
theorem d_T_reverse_49 : decode b_T_reverse 49 = .ok (.iinc 2 (-1), 3) := by decide +kernel
theorem d_T_reverse_52 : decode b_T_reverse 52 = .ok (.goto (-37), 3) := by decide +kernel
theorem d_T_reverse_55 : decode b_T_reverse 55 = .ok (.return_, 1) := by decide +kernel
theorem d_T_dropZeros_0 : decode b_T_dropZeros 0 = .ok (.iconst 0, 1) := by decide +kernel
theorem d_T_dropZeros_1 : decode b_T_dropZeros 1 = .ok (.istore_n 2, 1) := by decide +kernel
theorem d_T_dropZeros_2 : decode b_T_dropZeros 2 = .ok (.iconst 0, 1) := by decide +kernel
theorem d_T_dropZeros_3 : decode b_T_dropZeros 3 = .ok (.istore_n 3, 1) := by decide +kernel
theorem d_T_dropZeros_4 : decode b_T_dropZeros 4 = .ok (.iload_n 3, 1) := by decide +kernel
theorem d_T_dropZeros_5 : decode b_T_dropZeros 5 = .ok (.iload_n 1, 1) := by decide +kernel
theorem d_T_dropZeros_6 : decode b_T_dropZeros 6 = .ok (.if_icmp .ge 37, 3) := by decide +kernel
theorem d_T_dropZeros_9 : decode b_T_dropZeros 9 = .ok (.aload_n 0, 1) := by decide +kernel
theorem d_T_dropZeros_10 : decode b_T_dropZeros 10 = .ok (.aload_n 0, 1) := by decide +kernel
theorem d_T_dropZeros_11 : decode b_T_dropZeros 11 = .ok (.getfield 15, 3) := by decide +kernel
theorem d_T_dropZeros_14 : decode b_T_dropZeros 14 = .ok (.iconst 1, 1) := by decide +kernel
theorem d_T_dropZeros_15 : decode b_T_dropZeros 15 = .ok (.isub, 1) := by decide +kernel
theorem d_T_dropZeros_16 : decode b_T_dropZeros 16 = .ok (.invokevirtual 23, 3) := by decide +kernel
theorem d_T_dropZeros_19 : decode b_T_dropZeros 19 = .ok (.bipush 48, 2) := by decide +kernel
theorem d_T_dropZeros_21 : decode b_T_dropZeros 21 = .ok (.if_icmp .ne 22, 3) := by decide +kernel
theorem d_T_dropZeros_24 : decode b_T_dropZeros 24 = .ok (.aload_n 0, 1) := by decide +kernel
theorem d_T_dropZeros_25 : decode b_T_dropZeros 25 = .ok (.dup, 1) := by decide +kernel
theorem d_T_dropZeros_26 : decode b_T_dropZeros 26 = .ok (.getfield 15, 3) := by decide +kernel
theorem d_T_dropZeros_29 : decode b_T_dropZeros 29 = .ok (.iconst 1, 1) := by decide +kernel
theorem d_T_dropZeros_30 : decode b_T_dropZeros 30 = .ok (.isub, 1) := by decide +kernel
theorem d_T_dropZeros_31 : decode b_T_dropZeros 31 = .ok (.putfield 15, 3) := by decide +kernel
theorem d_T_dropZeros_34 : decode b_T_dropZeros 34 = .ok (.iinc 2 1, 3) := by decide +kernel
theorem d_T_dropZeros_37 : decode b_T_dropZeros 37 = .ok (.iinc 3 1, 3) := by decide +kernel
theorem d_T_dropZeros_40 : decode b_T_dropZeros 40 = .ok (.goto (-36), 3) := by decide +kernel
theorem d_T_dropZeros_43 : decode b_T_dropZeros 43 = .ok (.iload_n 2, 1) := by decide +kernel
theorem d_T_dropZeros_44 : decode b_T_dropZeros 44 = .ok (.ireturn, 1) := by decide +kernel
