theorem dX0_init_0 : decode cX0_init 0 = .ok (.aload_n 0, 1) := by decide +kernel
theorem dX0_init_1 : decode cX0_init 1 = .ok (.invokespecial 3, 3) := by decide +kernel
theorem dX0_init_4 : decode cX0_init 4 = .ok (.aload_n 0, 1) := by decide +kernel
theorem dX0_init_5 : decode cX0_init 5 = .ok (.sipush 400, 3) := by decide +kernel
theorem dX0_init_8 : decode cX0_init 8 = .ok (.newarray .int, 2) := by decide +kernel
theorem dX0_init_10 : decode cX0_init 10 = .ok (.putfield 9, 3) := by decide +kernel
theorem dX0_init_13 : decode cX0_init 13 = .ok (.return_, 1) := by decide +kernel
theorem dX0_copyOf_0 : decode cX0_copyOf 0 = .ok (.aload_n 1, 1) := by decide +kernel
theorem dX0_copyOf_1 : decode cX0_copyOf 1 = .ok (.getfield 9, 3) := by decide +kernel
theorem dX0_copyOf_4 : decode cX0_copyOf 4 = .ok (.iconst 0, 1) := by decide +kernel
theorem dX0_copyOf_5 : decode cX0_copyOf 5 = .ok (.aload_n 0, 1) := by decide +kernel
theorem dX0_copyOf_6 : decode cX0_copyOf 6 = .ok (.getfield 9, 3) := by decide +kernel
theorem dX0_copyOf_9 : decode cX0_copyOf 9 = .ok (.iconst 0, 1) := by decide +kernel
theorem dX0_copyOf_10 : decode cX0_copyOf 10 = .ok (.sipush 400, 3) := by decide +kernel
theorem dX0_copyOf_13 : decode cX0_copyOf 13 = .ok (.invokestatic 15, 3) := by decide +kernel
theorem dX0_copyOf_16 : decode cX0_copyOf 16 = .ok (.aload_n 0, 1) := by decide +kernel
theorem dX0_copyOf_17 : decode cX0_copyOf 17 = .ok (.aload_n 1, 1) := by decide +kernel
theorem dX0_copyOf_18 : decode cX0_copyOf 18 = .ok (.getfield 21, 3) := by decide +kernel
theorem dX0_copyOf_21 : decode cX0_copyOf 21 = .ok (.putfield 21, 3) := by decide +kernel
theorem dX0_copyOf_24 : decode cX0_copyOf 24 = .ok (.return_, 1) := by decide +kernel
theorem dX0_byteAt_0 : decode cX0_byteAt 0 = .ok (.iload_n 1, 1) := by decide +kernel
theorem dX0_byteAt_1 : decode cX0_byteAt 1 = .ok (.ifCond .lt 18, 3) := by decide +kernel
theorem dX0_byteAt_4 : decode cX0_byteAt 4 = .ok (.iload_n 1, 1) := by decide +kernel
theorem dX0_byteAt_5 : decode cX0_byteAt 5 = .ok (.aload_n 0, 1) := by decide +kernel
theorem dX0_byteAt_6 : decode cX0_byteAt 6 = .ok (.getfield 21, 3) := by decide +kernel
theorem dX0_byteAt_9 : decode cX0_byteAt 9 = .ok (.if_icmp .ge 10, 3) := by decide +kernel
theorem dX0_byteAt_12 : decode cX0_byteAt 12 = .ok (.iload_n 1, 1) := by decide +kernel
theorem dX0_byteAt_13 : decode cX0_byteAt 13 = .ok (.sipush 400, 3) := by decide +kernel
theorem dX0_byteAt_16 : decode cX0_byteAt 16 = .ok (.if_icmp .lt 7, 3) := by decide +kernel
theorem dX0_byteAt_19 : decode cX0_byteAt 19 = .ok (.iconst (-1), 1) := by decide +kernel
theorem dX0_byteAt_20 : decode cX0_byteAt 20 = .ok (.goto 9, 3) := by decide +kernel
theorem dX0_byteAt_23 : decode cX0_byteAt 23 = .ok (.aload_n 0, 1) := by decide +kernel
theorem dX0_byteAt_24 : decode cX0_byteAt 24 = .ok (.getfield 9, 3) := by decide +kernel
theorem dX0_byteAt_27 : decode cX0_byteAt 27 = .ok (.iload_n 1, 1) := by decide +kernel
theorem dX0_byteAt_28 : decode cX0_byteAt 28 = .ok (.iaload, 1) := by decide +kernel
theorem dX0_byteAt_29 : decode cX0_byteAt 29 = .ok (.ireturn, 1) := by decide +kernel
theorem dX0_put_0 : decode cX0_put 0 = .ok (.aload_n 0, 1) := by decide +kernel
theorem dX0_put_1 : decode cX0_put 1 = .ok (.getfield 21, 3) := by decide +kernel
theorem dX0_put_4 : decode cX0_put 4 = .ok (.sipush 400, 3) := by decide +kernel
theorem dX0_put_7 : decode cX0_put 7 = .ok (.if_icmp .ge 27, 3) := by decide +kernel
theorem dX0_put_10 : decode cX0_put 10 = .ok (.aload_n 0, 1) := by decide +kernel
theorem dX0_put_11 : decode cX0_put 11 = .ok (.getfield 9, 3) := by decide +kernel
theorem dX0_put_14 : decode cX0_put 14 = .ok (.aload_n 0, 1) := by decide +kernel
theorem dX0_put_15 : decode cX0_put 15 = .ok (.getfield 21, 3) := by decide +kernel
theorem dX0_put_18 : decode cX0_put 18 = .ok (.iload_n 1, 1) := by decide +kernel
theorem dX0_put_19 : decode cX0_put 19 = .ok (.sipush 255, 3) := by decide +kernel
theorem dX0_put_22 : decode cX0_put 22 = .ok (.iand, 1) := by decide +kernel
theorem dX0_put_23 : decode cX0_put 23 = .ok (.iastore, 1) := by decide +kernel
theorem dX0_put_24 : decode cX0_put 24 = .ok (.aload_n 0, 1) := by decide +kernel
theorem dX0_put_25 : decode cX0_put 25 = .ok (.dup, 1) := by decide +kernel
theorem dX0_put_26 : decode cX0_put 26 = .ok (.getfield 21, 3) := by decide +kernel
theorem dX0_put_29 : decode cX0_put 29 = .ok (.iconst 1, 1) := by decide +kernel
theorem dX0_put_30 : decode cX0_put 30 = .ok (.iadd, 1) := by decide +kernel
theorem dX0_put_31 : decode cX0_put 31 = .ok (.putfield 21, 3) := by decide +kernel
theorem dX0_put_34 : decode cX0_put 34 = .ok (.return_, 1) := by decide +kernel
theorem dX0_putFour_0 : decode cX0_putFour 0 = .ok (.bipush 24, 2) := by decide +kernel
theorem dX0_putFour_2 : decode cX0_putFour 2 = .ok (.istore_n 2, 1) := by decide +kernel
theorem dX0_putFour_3 : decode cX0_putFour 3 = .ok (.iload_n 2, 1) := by decide +kernel
theorem dX0_putFour_4 : decode cX0_putFour 4 = .ok (.ifCond .lt 16, 3) := by decide +kernel
theorem dX0_putFour_7 : decode cX0_putFour 7 = .ok (.aload_n 0, 1) := by decide +kernel
theorem dX0_putFour_8 : decode cX0_putFour 8 = .ok (.iload_n 1, 1) := by decide +kernel
theorem dX0_putFour_9 : decode cX0_putFour 9 = .ok (.iload_n 2, 1) := by decide +kernel
theorem dX0_putFour_10 : decode cX0_putFour 10 = .ok (.ishr, 1) := by decide +kernel
theorem dX0_putFour_11 : decode cX0_putFour 11 = .ok (.invokevirtual 25, 3) := by decide +kernel
theorem dX0_putFour_14 : decode cX0_putFour 14 = .ok (.iinc 2 (-8), 3) := by decide +kernel
theorem dX0_putFour_17 : decode cX0_putFour 17 = .ok (.goto (-14), 3) := by decide +kernel
theorem dX0_putFour_20 : decode cX0_putFour 20 = .ok (.return_, 1) := by decide +kernel
theorem dX1_init_0 : decode cX1_init 0 = .ok (.aload_n 0, 1) := by decide +kernel
theorem dX1_init_1 : decode cX1_init 1 = .ok (.invokespecial 3, 3) := by decide +kernel
theorem dX1_init_4 : decode cX1_init 4 = .ok (.aload_n 0, 1) := by decide +kernel
theorem dX1_init_5 : decode cX1_init 5 = .ok (.iconst 4, 1) := by decide +kernel
theorem dX1_init_6 : decode cX1_init 6 = .ok (.newarray .int, 2) := by decide +kernel
theorem dX1_init_8 : decode cX1_init 8 = .ok (.putfield 9, 3) := by decide +kernel
theorem dX1_init_11 : decode cX1_init 11 = .ok (.aload_n 0, 1) := by decide +kernel
theorem dX1_init_12 : decode cX1_init 12 = .ok (.iconst 4, 1) := by decide +kernel
theorem dX1_init_13 : decode cX1_init 13 = .ok (.newarray .int, 2) := by decide +kernel
theorem dX1_init_15 : decode cX1_init 15 = .ok (.putfield 15, 3) := by decide +kernel
theorem dX1_init_18 : decode cX1_init 18 = .ok (.aload_n 0, 1) := by decide +kernel
theorem dX1_init_19 : decode cX1_init 19 = .ok (.iconst (-1), 1) := by decide +kernel
theorem dX1_init_20 : decode cX1_init 20 = .ok (.putfield 18, 3) := by decide +kernel
theorem dX1_init_23 : decode cX1_init 23 = .ok (.aload_n 0, 1) := by decide +kernel
theorem dX1_init_24 : decode cX1_init 24 = .ok (.iconst (-1), 1) := by decide +kernel
theorem dX1_init_25 : decode cX1_init 25 = .ok (.putfield 22, 3) := by decide +kernel
theorem dX1_init_28 : decode cX1_init 28 = .ok (.aload_n 0, 1) := by decide +kernel
theorem dX1_init_29 : decode cX1_init 29 = .ok (.iconst (-1), 1) := by decide +kernel
theorem dX1_init_30 : decode cX1_init 30 = .ok (.putfield 25, 3) := by decide +kernel
theorem dX1_init_33 : decode cX1_init 33 = .ok (.aload_n 0, 1) := by decide +kernel
theorem dX1_init_34 : decode cX1_init 34 = .ok (.iconst (-1), 1) := by decide +kernel
theorem dX1_init_35 : decode cX1_init 35 = .ok (.putfield 28, 3) := by decide +kernel
theorem dX1_init_38 : decode cX1_init 38 = .ok (.aload_n 0, 1) := by decide +kernel
theorem dX1_init_39 : decode cX1_init 39 = .ok (.iconst (-1), 1) := by decide +kernel
theorem dX1_init_40 : decode cX1_init 40 = .ok (.putfield 31, 3) := by decide +kernel
theorem dX1_init_43 : decode cX1_init 43 = .ok (.aload_n 0, 1) := by decide +kernel
theorem dX1_init_44 : decode cX1_init 44 = .ok (.iconst (-1), 1) := by decide +kernel
theorem dX1_init_45 : decode cX1_init 45 = .ok (.putfield 34, 3) := by decide +kernel
theorem dX1_init_48 : decode cX1_init 48 = .ok (.aload_n 0, 1) := by decide +kernel
theorem dX1_init_49 : decode cX1_init 49 = .ok (.getfield 9, 3) := by decide +kernel
theorem dX1_init_52 : decode cX1_init 52 = .ok (.iconst 1, 1) := by decide +kernel
theorem dX1_init_53 : decode cX1_init 53 = .ok (.invokestatic 37, 3) := by decide +kernel
theorem dX1_init_56 : decode cX1_init 56 = .ok (.aload_n 0, 1) := by decide +kernel
theorem dX1_init_57 : decode cX1_init 57 = .ok (.getfield 15, 3) := by decide +kernel
theorem dX1_init_60 : decode cX1_init 60 = .ok (.bipush 20, 2) := by decide +kernel
theorem dX1_init_62 : decode cX1_init 62 = .ok (.invokestatic 37, 3) := by decide +kernel
theorem dX1_init_65 : decode cX1_init 65 = .ok (.return_, 1) := by decide +kernel
theorem dX1_copyOf_0 : decode cX1_copyOf 0 = .ok (.aload_n 1, 1) := by decide +kernel
theorem dX1_copyOf_1 : decode cX1_copyOf 1 = .ok (.getfield 9, 3) := by decide +kernel
theorem dX1_copyOf_4 : decode cX1_copyOf 4 = .ok (.iconst 0, 1) := by decide +kernel
theorem dX1_copyOf_5 : decode cX1_copyOf 5 = .ok (.aload_n 0, 1) := by decide +kernel
theorem dX1_copyOf_6 : decode cX1_copyOf 6 = .ok (.getfield 9, 3) := by decide +kernel
theorem dX1_copyOf_9 : decode cX1_copyOf 9 = .ok (.iconst 0, 1) := by decide +kernel
theorem dX1_copyOf_10 : decode cX1_copyOf 10 = .ok (.iconst 4, 1) := by decide +kernel
theorem dX1_copyOf_11 : decode cX1_copyOf 11 = .ok (.invokestatic 43, 3) := by decide +kernel
theorem dX1_copyOf_14 : decode cX1_copyOf 14 = .ok (.aload_n 1, 1) := by decide +kernel
theorem dX1_copyOf_15 : decode cX1_copyOf 15 = .ok (.getfield 15, 3) := by decide +kernel
theorem dX1_copyOf_18 : decode cX1_copyOf 18 = .ok (.iconst 0, 1) := by decide +kernel
theorem dX1_copyOf_19 : decode cX1_copyOf 19 = .ok (.aload_n 0, 1) := by decide +kernel
theorem dX1_copyOf_20 : decode cX1_copyOf 20 = .ok (.getfield 15, 3) := by decide +kernel
theorem dX1_copyOf_23 : decode cX1_copyOf 23 = .ok (.iconst 0, 1) := by decide +kernel
theorem dX1_copyOf_24 : decode cX1_copyOf 24 = .ok (.iconst 4, 1) := by decide +kernel
theorem dX1_copyOf_25 : decode cX1_copyOf 25 = .ok (.invokestatic 43, 3) := by decide +kernel
theorem dX1_copyOf_28 : decode cX1_copyOf 28 = .ok (.aload_n 0, 1) := by decide +kernel
theorem dX1_copyOf_29 : decode cX1_copyOf 29 = .ok (.aload_n 1, 1) := by decide +kernel
theorem dX1_copyOf_30 : decode cX1_copyOf 30 = .ok (.getfield 49, 3) := by decide +kernel
theorem dX1_copyOf_33 : decode cX1_copyOf 33 = .ok (.putfield 49, 3) := by decide +kernel
theorem dX1_copyOf_36 : decode cX1_copyOf 36 = .ok (.aload_n 0, 1) := by decide +kernel
theorem dX1_copyOf_37 : decode cX1_copyOf 37 = .ok (.aload_n 1, 1) := by decide +kernel
theorem dX1_copyOf_38 : decode cX1_copyOf 38 = .ok (.getfield 18, 3) := by decide +kernel
theorem dX1_copyOf_41 : decode cX1_copyOf 41 = .ok (.putfield 18, 3) := by decide +kernel
theorem dX1_copyOf_44 : decode cX1_copyOf 44 = .ok (.aload_n 0, 1) := by decide +kernel
theorem dX1_copyOf_45 : decode cX1_copyOf 45 = .ok (.aload_n 1, 1) := by decide +kernel
theorem dX1_copyOf_46 : decode cX1_copyOf 46 = .ok (.getfield 22, 3) := by decide +kernel
theorem dX1_copyOf_49 : decode cX1_copyOf 49 = .ok (.putfield 22, 3) := by decide +kernel
theorem dX1_copyOf_52 : decode cX1_copyOf 52 = .ok (.aload_n 0, 1) := by decide +kernel
theorem dX1_copyOf_53 : decode cX1_copyOf 53 = .ok (.aload_n 1, 1) := by decide +kernel
theorem dX1_copyOf_54 : decode cX1_copyOf 54 = .ok (.getfield 25, 3) := by decide +kernel
theorem dX1_copyOf_57 : decode cX1_copyOf 57 = .ok (.putfield 25, 3) := by decide +kernel
theorem dX1_copyOf_60 : decode cX1_copyOf 60 = .ok (.aload_n 0, 1) := by decide +kernel
theorem dX1_copyOf_61 : decode cX1_copyOf 61 = .ok (.aload_n 1, 1) := by decide +kernel
theorem dX1_copyOf_62 : decode cX1_copyOf 62 = .ok (.getfield 28, 3) := by decide +kernel
theorem dX1_copyOf_65 : decode cX1_copyOf 65 = .ok (.putfield 28, 3) := by decide +kernel
theorem dX1_copyOf_68 : decode cX1_copyOf 68 = .ok (.aload_n 0, 1) := by decide +kernel
theorem dX1_copyOf_69 : decode cX1_copyOf 69 = .ok (.aload_n 1, 1) := by decide +kernel
theorem dX1_copyOf_70 : decode cX1_copyOf 70 = .ok (.getfield 31, 3) := by decide +kernel
theorem dX1_copyOf_73 : decode cX1_copyOf 73 = .ok (.putfield 31, 3) := by decide +kernel
theorem dX1_copyOf_76 : decode cX1_copyOf 76 = .ok (.aload_n 0, 1) := by decide +kernel
theorem dX1_copyOf_77 : decode cX1_copyOf 77 = .ok (.aload_n 1, 1) := by decide +kernel
theorem dX1_copyOf_78 : decode cX1_copyOf 78 = .ok (.getfield 34, 3) := by decide +kernel
theorem dX1_copyOf_81 : decode cX1_copyOf 81 = .ok (.putfield 34, 3) := by decide +kernel
theorem dX1_copyOf_84 : decode cX1_copyOf 84 = .ok (.return_, 1) := by decide +kernel
theorem dX1_isSettled_0 : decode cX1_isSettled 0 = .ok (.aload_n 0, 1) := by decide +kernel
theorem dX1_isSettled_1 : decode cX1_isSettled 1 = .ok (.getfield 18, 3) := by decide +kernel
theorem dX1_isSettled_4 : decode cX1_isSettled 4 = .ok (.iconst (-1), 1) := by decide +kernel
theorem dX1_isSettled_5 : decode cX1_isSettled 5 = .ok (.if_icmp .eq 7, 3) := by decide +kernel
theorem dX1_isSettled_8 : decode cX1_isSettled 8 = .ok (.iconst 1, 1) := by decide +kernel
theorem dX1_isSettled_9 : decode cX1_isSettled 9 = .ok (.goto 4, 3) := by decide +kernel
theorem dX1_isSettled_12 : decode cX1_isSettled 12 = .ok (.iconst 0, 1) := by decide +kernel
theorem dX1_isSettled_13 : decode cX1_isSettled 13 = .ok (.ireturn, 1) := by decide +kernel
theorem dX1_isIdle_0 : decode cX1_isIdle 0 = .ok (.aload_n 0, 1) := by decide +kernel
theorem dX1_isIdle_1 : decode cX1_isIdle 1 = .ok (.getfield 31, 3) := by decide +kernel
theorem dX1_isIdle_4 : decode cX1_isIdle 4 = .ok (.iconst (-1), 1) := by decide +kernel
theorem dX1_isIdle_5 : decode cX1_isIdle 5 = .ok (.if_icmp .eq 7, 3) := by decide +kernel
theorem dX1_isIdle_8 : decode cX1_isIdle 8 = .ok (.iconst 1, 1) := by decide +kernel
theorem dX1_isIdle_9 : decode cX1_isIdle 9 = .ok (.goto 4, 3) := by decide +kernel
theorem dX1_isIdle_12 : decode cX1_isIdle 12 = .ok (.iconst 0, 1) := by decide +kernel
theorem dX1_isIdle_13 : decode cX1_isIdle 13 = .ok (.ireturn, 1) := by decide +kernel
theorem dX1_setSpan_0 : decode cX1_setSpan 0 = .ok (.iload_n 1, 1) := by decide +kernel
theorem dX1_setSpan_1 : decode cX1_setSpan 1 = .ok (.ifCond .lt 19, 3) := by decide +kernel
theorem dX1_setSpan_4 : decode cX1_setSpan 4 = .ok (.iload_n 1, 1) := by decide +kernel
theorem dX1_setSpan_5 : decode cX1_setSpan 5 = .ok (.iconst 4, 1) := by decide +kernel
theorem dX1_setSpan_6 : decode cX1_setSpan 6 = .ok (.if_icmp .ge 14, 3) := by decide +kernel
theorem dX1_setSpan_9 : decode cX1_setSpan 9 = .ok (.iload_n 2, 1) := by decide +kernel
theorem dX1_setSpan_10 : decode cX1_setSpan 10 = .ok (.iconst 1, 1) := by decide +kernel
theorem dX1_setSpan_11 : decode cX1_setSpan 11 = .ok (.if_icmp .lt 9, 3) := by decide +kernel
theorem dX1_setSpan_14 : decode cX1_setSpan 14 = .ok (.iload_n 3, 1) := by decide +kernel
theorem dX1_setSpan_15 : decode cX1_setSpan 15 = .ok (.bipush 60, 2) := by decide +kernel
theorem dX1_setSpan_17 : decode cX1_setSpan 17 = .ok (.if_icmp .le 5, 3) := by decide +kernel
theorem dX1_setSpan_20 : decode cX1_setSpan 20 = .ok (.iconst 0, 1) := by decide +kernel
theorem dX1_setSpan_21 : decode cX1_setSpan 21 = .ok (.ireturn, 1) := by decide +kernel
theorem dX1_setSpan_22 : decode cX1_setSpan 22 = .ok (.iload_n 2, 1) := by decide +kernel
theorem dX1_setSpan_23 : decode cX1_setSpan 23 = .ok (.iload_n 3, 1) := by decide +kernel
theorem dX1_setSpan_24 : decode cX1_setSpan 24 = .ok (.if_icmp .gt 11, 3) := by decide +kernel
theorem dX1_setSpan_27 : decode cX1_setSpan 27 = .ok (.iload_n 3, 1) := by decide +kernel
theorem dX1_setSpan_28 : decode cX1_setSpan 28 = .ok (.iload_n 2, 1) := by decide +kernel
theorem dX1_setSpan_29 : decode cX1_setSpan 29 = .ok (.isub, 1) := by decide +kernel
theorem dX1_setSpan_30 : decode cX1_setSpan 30 = .ok (.bipush 20, 2) := by decide +kernel
theorem dX1_setSpan_32 : decode cX1_setSpan 32 = .ok (.if_icmp .lt 5, 3) := by decide +kernel
theorem dX1_setSpan_35 : decode cX1_setSpan 35 = .ok (.iconst 0, 1) := by decide +kernel
theorem dX1_setSpan_36 : decode cX1_setSpan 36 = .ok (.ireturn, 1) := by decide +kernel
theorem dX1_setSpan_37 : decode cX1_setSpan 37 = .ok (.aload_n 0, 1) := by decide +kernel
theorem dX1_setSpan_38 : decode cX1_setSpan 38 = .ok (.getfield 9, 3) := by decide +kernel
theorem dX1_setSpan_41 : decode cX1_setSpan 41 = .ok (.iload_n 1, 1) := by decide +kernel
theorem dX1_setSpan_42 : decode cX1_setSpan 42 = .ok (.iload_n 2, 1) := by decide +kernel
theorem dX1_setSpan_43 : decode cX1_setSpan 43 = .ok (.iastore, 1) := by decide +kernel
theorem dX1_setSpan_44 : decode cX1_setSpan 44 = .ok (.aload_n 0, 1) := by decide +kernel
theorem dX1_setSpan_45 : decode cX1_setSpan 45 = .ok (.getfield 15, 3) := by decide +kernel
theorem dX1_setSpan_48 : decode cX1_setSpan 48 = .ok (.iload_n 1, 1) := by decide +kernel
theorem dX1_setSpan_49 : decode cX1_setSpan 49 = .ok (.iload_n 3, 1) := by decide +kernel
theorem dX1_setSpan_50 : decode cX1_setSpan 50 = .ok (.iastore, 1) := by decide +kernel
theorem dX1_setSpan_51 : decode cX1_setSpan 51 = .ok (.iconst 1, 1) := by decide +kernel
theorem dX1_setSpan_52 : decode cX1_setSpan 52 = .ok (.ireturn, 1) := by decide +kernel
theorem dX1_settle_0 : decode cX1_settle 0 = .ok (.iload_n 2, 1) := by decide +kernel
theorem dX1_settle_1 : decode cX1_settle 1 = .ok (.ifCond .lt 26, 3) := by decide +kernel
theorem dX1_settle_4 : decode cX1_settle 4 = .ok (.iload_n 2, 1) := by decide +kernel
theorem dX1_settle_5 : decode cX1_settle 5 = .ok (.bipush 8, 2) := by decide +kernel
theorem dX1_settle_7 : decode cX1_settle 7 = .ok (.if_icmp .ge 20, 3) := by decide +kernel
theorem dX1_settle_10 : decode cX1_settle 10 = .ok (.aload_n 1, 1) := by decide +kernel
theorem dX1_settle_11 : decode cX1_settle 11 = .ok (.iload_n 3, 1) := by decide +kernel
theorem dX1_settle_12 : decode cX1_settle 12 = .ok (.invokevirtual 52, 3) := by decide +kernel
theorem dX1_settle_15 : decode cX1_settle 15 = .ok (.ifCond .eq 12, 3) := by decide +kernel
theorem dX1_settle_18 : decode cX1_settle 18 = .ok (.aload_n 1, 1) := by decide +kernel
theorem dX1_settle_19 : decode cX1_settle 19 = .ok (.iload 5, 2) := by decide +kernel
theorem dX1_settle_21 : decode cX1_settle 21 = .ok (.invokevirtual 58, 3) := by decide +kernel
theorem dX1_settle_24 : decode cX1_settle 24 = .ok (.ifCond .ne 5, 3) := by decide +kernel
theorem dX1_settle_27 : decode cX1_settle 27 = .ok (.iconst 0, 1) := by decide +kernel
theorem dX1_settle_28 : decode cX1_settle 28 = .ok (.ireturn, 1) := by decide +kernel
theorem dX1_settle_29 : decode cX1_settle 29 = .ok (.iload_n 2, 1) := by decide +kernel
theorem dX1_settle_30 : decode cX1_settle 30 = .ok (.invokestatic 61, 3) := by decide +kernel
theorem dX1_settle_33 : decode cX1_settle 33 = .ok (.istore 8, 2) := by decide +kernel
theorem dX1_settle_35 : decode cX1_settle 35 = .ok (.iload 8, 2) := by decide +kernel
theorem dX1_settle_37 : decode cX1_settle 37 = .ok (.ifCond .eq 20, 3) := by decide +kernel
theorem dX1_settle_40 : decode cX1_settle 40 = .ok (.aload_n 1, 1) := by decide +kernel
theorem dX1_settle_41 : decode cX1_settle 41 = .ok (.iload 4, 2) := by decide +kernel
theorem dX1_settle_43 : decode cX1_settle 43 = .ok (.invokevirtual 52, 3) := by decide +kernel
theorem dX1_settle_46 : decode cX1_settle 46 = .ok (.ifCond .eq 9, 3) := by decide +kernel
theorem dX1_settle_49 : decode cX1_settle 49 = .ok (.iload 4, 2) := by decide +kernel
theorem dX1_settle_51 : decode cX1_settle 51 = .ok (.iload_n 3, 1) := by decide +kernel
theorem dX1_settle_52 : decode cX1_settle 52 = .ok (.if_icmp .ne 5, 3) := by decide +kernel
theorem dX1_settle_55 : decode cX1_settle 55 = .ok (.iconst 0, 1) := by decide +kernel
theorem dX1_settle_56 : decode cX1_settle 56 = .ok (.ireturn, 1) := by decide +kernel
theorem dX1_settle_57 : decode cX1_settle 57 = .ok (.iload 6, 2) := by decide +kernel
theorem dX1_settle_59 : decode cX1_settle 59 = .ok (.iconst (-1), 1) := by decide +kernel
theorem dX1_settle_60 : decode cX1_settle 60 = .ok (.if_icmp .ne 9, 3) := by decide +kernel
theorem dX1_settle_63 : decode cX1_settle 63 = .ok (.iload 7, 2) := by decide +kernel
theorem dX1_settle_65 : decode cX1_settle 65 = .ok (.iconst (-1), 1) := by decide +kernel
theorem dX1_settle_66 : decode cX1_settle 66 = .ok (.if_icmp .eq 50, 3) := by decide +kernel
theorem dX1_settle_69 : decode cX1_settle 69 = .ok (.aload_n 1, 1) := by decide +kernel
theorem dX1_settle_70 : decode cX1_settle 70 = .ok (.iload 6, 2) := by decide +kernel
theorem dX1_settle_72 : decode cX1_settle 72 = .ok (.invokevirtual 52, 3) := by decide +kernel
theorem dX1_settle_75 : decode cX1_settle 75 = .ok (.ifCond .eq 21, 3) := by decide +kernel
theorem dX1_settle_78 : decode cX1_settle 78 = .ok (.iload 6, 2) := by decide +kernel
theorem dX1_settle_80 : decode cX1_settle 80 = .ok (.iload_n 3, 1) := by decide +kernel
theorem dX1_settle_81 : decode cX1_settle 81 = .ok (.if_icmp .eq 15, 3) := by decide +kernel
theorem dX1_settle_84 : decode cX1_settle 84 = .ok (.iload 8, 2) := by decide +kernel
theorem dX1_settle_86 : decode cX1_settle 86 = .ok (.ifCond .eq 12, 3) := by decide +kernel
theorem dX1_settle_89 : decode cX1_settle 89 = .ok (.iload 6, 2) := by decide +kernel
theorem dX1_settle_91 : decode cX1_settle 91 = .ok (.iload 4, 2) := by decide +kernel
theorem dX1_settle_93 : decode cX1_settle 93 = .ok (.if_icmp .ne 5, 3) := by decide +kernel
theorem dX1_settle_96 : decode cX1_settle 96 = .ok (.iconst 0, 1) := by decide +kernel
theorem dX1_settle_97 : decode cX1_settle 97 = .ok (.ireturn, 1) := by decide +kernel
theorem dX1_settle_98 : decode cX1_settle 98 = .ok (.aload_n 1, 1) := by decide +kernel
theorem dX1_settle_99 : decode cX1_settle 99 = .ok (.iload 7, 2) := by decide +kernel
theorem dX1_settle_101 : decode cX1_settle 101 = .ok (.invokevirtual 58, 3) := by decide +kernel
theorem dX1_settle_104 : decode cX1_settle 104 = .ok (.ifCond .eq 10, 3) := by decide +kernel
theorem dX1_settle_107 : decode cX1_settle 107 = .ok (.iload 7, 2) := by decide +kernel
theorem dX1_settle_109 : decode cX1_settle 109 = .ok (.iload 5, 2) := by decide +kernel
theorem dX1_settle_111 : decode cX1_settle 111 = .ok (.if_icmp .ne 5, 3) := by decide +kernel
theorem dX1_settle_114 : decode cX1_settle 114 = .ok (.iconst 0, 1) := by decide +kernel
theorem dX1_settle_115 : decode cX1_settle 115 = .ok (.ireturn, 1) := by decide +kernel
theorem dX1_settle_116 : decode cX1_settle 116 = .ok (.aload_n 0, 1) := by decide +kernel
theorem dX1_settle_117 : decode cX1_settle 117 = .ok (.iload_n 2, 1) := by decide +kernel
theorem dX1_settle_118 : decode cX1_settle 118 = .ok (.putfield 18, 3) := by decide +kernel
theorem dX1_settle_121 : decode cX1_settle 121 = .ok (.aload_n 0, 1) := by decide +kernel
theorem dX1_settle_122 : decode cX1_settle 122 = .ok (.iload_n 3, 1) := by decide +kernel
theorem dX1_settle_123 : decode cX1_settle 123 = .ok (.putfield 22, 3) := by decide +kernel
theorem dX1_settle_126 : decode cX1_settle 126 = .ok (.aload_n 0, 1) := by decide +kernel
theorem dX1_settle_127 : decode cX1_settle 127 = .ok (.iload 8, 2) := by decide +kernel
theorem dX1_settle_129 : decode cX1_settle 129 = .ok (.ifCond .eq 8, 3) := by decide +kernel
theorem dX1_settle_132 : decode cX1_settle 132 = .ok (.iload 4, 2) := by decide +kernel
theorem dX1_settle_134 : decode cX1_settle 134 = .ok (.goto 4, 3) := by decide +kernel
theorem dX1_settle_137 : decode cX1_settle 137 = .ok (.iconst (-1), 1) := by decide +kernel
theorem dX1_settle_138 : decode cX1_settle 138 = .ok (.putfield 25, 3) := by decide +kernel
theorem dX1_settle_141 : decode cX1_settle 141 = .ok (.aload_n 0, 1) := by decide +kernel
theorem dX1_settle_142 : decode cX1_settle 142 = .ok (.iload 5, 2) := by decide +kernel
theorem dX1_settle_144 : decode cX1_settle 144 = .ok (.putfield 28, 3) := by decide +kernel
theorem dX1_settle_147 : decode cX1_settle 147 = .ok (.aload_n 0, 1) := by decide +kernel
theorem dX1_settle_148 : decode cX1_settle 148 = .ok (.iload 6, 2) := by decide +kernel
theorem dX1_settle_150 : decode cX1_settle 150 = .ok (.putfield 31, 3) := by decide +kernel
theorem dX1_settle_153 : decode cX1_settle 153 = .ok (.aload_n 0, 1) := by decide +kernel
theorem dX1_settle_154 : decode cX1_settle 154 = .ok (.iload 7, 2) := by decide +kernel
theorem dX1_settle_156 : decode cX1_settle 156 = .ok (.putfield 34, 3) := by decide +kernel
theorem dX1_settle_159 : decode cX1_settle 159 = .ok (.iconst 1, 1) := by decide +kernel
theorem dX1_settle_160 : decode cX1_settle 160 = .ok (.ireturn, 1) := by decide +kernel
theorem dX1_isTempting_0 : decode cX1_isTempting 0 = .ok (.aload_n 0, 1) := by decide +kernel
theorem dX1_isTempting_1 : decode cX1_isTempting 1 = .ok (.getfield 49, 3) := by decide +kernel
theorem dX1_isTempting_4 : decode cX1_isTempting 4 = .ok (.iload_n 1, 1) := by decide +kernel
theorem dX1_isTempting_5 : decode cX1_isTempting 5 = .ok (.ishr, 1) := by decide +kernel
theorem dX1_isTempting_6 : decode cX1_isTempting 6 = .ok (.iconst 1, 1) := by decide +kernel
theorem dX1_isTempting_7 : decode cX1_isTempting 7 = .ok (.iand, 1) := by decide +kernel
theorem dX1_isTempting_8 : decode cX1_isTempting 8 = .ok (.ifCond .ne 5, 3) := by decide +kernel
theorem dX1_isTempting_11 : decode cX1_isTempting 11 = .ok (.iconst 0, 1) := by decide +kernel
theorem dX1_isTempting_12 : decode cX1_isTempting 12 = .ok (.ireturn, 1) := by decide +kernel
theorem dX1_isTempting_13 : decode cX1_isTempting 13 = .ok (.iload_n 1, 1) := by decide +kernel
theorem dX1_isTempting_14 : decode cX1_isTempting 14 = .ok (.tableswitch 122 0 4 #[34, 55, 78, 92, 120], 34) := by decide +kernel
theorem dX1_isTempting_48 : decode cX1_isTempting 48 = .ok (.aload_n 0, 1) := by decide +kernel
theorem dX1_isTempting_49 : decode cX1_isTempting 49 = .ok (.getfield 18, 3) := by decide +kernel
theorem dX1_isTempting_52 : decode cX1_isTempting 52 = .ok (.ifCond .eq 15, 3) := by decide +kernel
theorem dX1_isTempting_55 : decode cX1_isTempting 55 = .ok (.aload_n 0, 1) := by decide +kernel
theorem dX1_isTempting_56 : decode cX1_isTempting 56 = .ok (.getfield 18, 3) := by decide +kernel
theorem dX1_isTempting_59 : decode cX1_isTempting 59 = .ok (.iconst 4, 1) := by decide +kernel
theorem dX1_isTempting_60 : decode cX1_isTempting 60 = .ok (.if_icmp .eq 7, 3) := by decide +kernel
theorem dX1_isTempting_63 : decode cX1_isTempting 63 = .ok (.iconst 1, 1) := by decide +kernel
theorem dX1_isTempting_64 : decode cX1_isTempting 64 = .ok (.goto 4, 3) := by decide +kernel
theorem dX1_isTempting_67 : decode cX1_isTempting 67 = .ok (.iconst 0, 1) := by decide +kernel
theorem dX1_isTempting_68 : decode cX1_isTempting 68 = .ok (.ireturn, 1) := by decide +kernel
theorem dX1_isTempting_69 : decode cX1_isTempting 69 = .ok (.aload_n 0, 1) := by decide +kernel
theorem dX1_isTempting_70 : decode cX1_isTempting 70 = .ok (.getfield 18, 3) := by decide +kernel
theorem dX1_isTempting_73 : decode cX1_isTempting 73 = .ok (.iconst 1, 1) := by decide +kernel
theorem dX1_isTempting_74 : decode cX1_isTempting 74 = .ok (.if_icmp .eq 16, 3) := by decide +kernel
theorem dX1_isTempting_77 : decode cX1_isTempting 77 = .ok (.aload_n 0, 1) := by decide +kernel
theorem dX1_isTempting_78 : decode cX1_isTempting 78 = .ok (.getfield 18, 3) := by decide +kernel
theorem dX1_isTempting_81 : decode cX1_isTempting 81 = .ok (.bipush 6, 2) := by decide +kernel
theorem dX1_isTempting_83 : decode cX1_isTempting 83 = .ok (.if_icmp .eq 7, 3) := by decide +kernel
theorem dX1_isTempting_86 : decode cX1_isTempting 86 = .ok (.iconst 1, 1) := by decide +kernel
theorem dX1_isTempting_87 : decode cX1_isTempting 87 = .ok (.goto 4, 3) := by decide +kernel
theorem dX1_isTempting_90 : decode cX1_isTempting 90 = .ok (.iconst 0, 1) := by decide +kernel
theorem dX1_isTempting_91 : decode cX1_isTempting 91 = .ok (.ireturn, 1) := by decide +kernel
theorem dX1_isTempting_92 : decode cX1_isTempting 92 = .ok (.aload_n 0, 1) := by decide +kernel
theorem dX1_isTempting_93 : decode cX1_isTempting 93 = .ok (.getfield 18, 3) := by decide +kernel
theorem dX1_isTempting_96 : decode cX1_isTempting 96 = .ok (.iconst 3, 1) := by decide +kernel
theorem dX1_isTempting_97 : decode cX1_isTempting 97 = .ok (.if_icmp .eq 7, 3) := by decide +kernel
theorem dX1_isTempting_100 : decode cX1_isTempting 100 = .ok (.iconst 1, 1) := by decide +kernel
theorem dX1_isTempting_101 : decode cX1_isTempting 101 = .ok (.goto 4, 3) := by decide +kernel
theorem dX1_isTempting_104 : decode cX1_isTempting 104 = .ok (.iconst 0, 1) := by decide +kernel
theorem dX1_isTempting_105 : decode cX1_isTempting 105 = .ok (.ireturn, 1) := by decide +kernel
theorem dX1_isTempting_106 : decode cX1_isTempting 106 = .ok (.aload_n 0, 1) := by decide +kernel
theorem dX1_isTempting_107 : decode cX1_isTempting 107 = .ok (.invokevirtual 64, 3) := by decide +kernel
theorem dX1_isTempting_110 : decode cX1_isTempting 110 = .ok (.ifCond .ne 18, 3) := by decide +kernel
theorem dX1_isTempting_113 : decode cX1_isTempting 113 = .ok (.aload_n 0, 1) := by decide +kernel
theorem dX1_isTempting_114 : decode cX1_isTempting 114 = .ok (.getfield 18, 3) := by decide +kernel
theorem dX1_isTempting_117 : decode cX1_isTempting 117 = .ok (.ifCond .eq 15, 3) := by decide +kernel
theorem dX1_isTempting_120 : decode cX1_isTempting 120 = .ok (.aload_n 0, 1) := by decide +kernel
theorem dX1_isTempting_121 : decode cX1_isTempting 121 = .ok (.getfield 18, 3) := by decide +kernel
theorem dX1_isTempting_124 : decode cX1_isTempting 124 = .ok (.iconst 4, 1) := by decide +kernel
theorem dX1_isTempting_125 : decode cX1_isTempting 125 = .ok (.if_icmp .eq 7, 3) := by decide +kernel
theorem dX1_isTempting_128 : decode cX1_isTempting 128 = .ok (.iconst 1, 1) := by decide +kernel
theorem dX1_isTempting_129 : decode cX1_isTempting 129 = .ok (.goto 4, 3) := by decide +kernel
theorem dX1_isTempting_132 : decode cX1_isTempting 132 = .ok (.iconst 0, 1) := by decide +kernel
theorem dX1_isTempting_133 : decode cX1_isTempting 133 = .ok (.ireturn, 1) := by decide +kernel
theorem dX1_isTempting_134 : decode cX1_isTempting 134 = .ok (.iconst 1, 1) := by decide +kernel
theorem dX1_isTempting_135 : decode cX1_isTempting 135 = .ok (.ireturn, 1) := by decide +kernel
theorem dX1_isTempting_136 : decode cX1_isTempting 136 = .ok (.aload_n 0, 1) := by decide +kernel
theorem dX1_isTempting_137 : decode cX1_isTempting 137 = .ok (.invokevirtual 64, 3) := by decide +kernel
theorem dX1_isTempting_140 : decode cX1_isTempting 140 = .ok (.ireturn, 1) := by decide +kernel
theorem dX1_low_0 : decode cX1_low 0 = .ok (.aload_n 0, 1) := by decide +kernel
theorem dX1_low_1 : decode cX1_low 1 = .ok (.iload_n 1, 1) := by decide +kernel
theorem dX1_low_2 : decode cX1_low 2 = .ok (.invokevirtual 68, 3) := by decide +kernel
theorem dX1_low_5 : decode cX1_low 5 = .ok (.ifCond .eq 12, 3) := by decide +kernel
theorem dX1_low_8 : decode cX1_low 8 = .ok (.aload_n 0, 1) := by decide +kernel
theorem dX1_low_9 : decode cX1_low 9 = .ok (.getfield 9, 3) := by decide +kernel
theorem dX1_low_12 : decode cX1_low 12 = .ok (.iload_n 1, 1) := by decide +kernel
theorem dX1_low_13 : decode cX1_low 13 = .ok (.iaload, 1) := by decide +kernel
theorem dX1_low_14 : decode cX1_low 14 = .ok (.goto 4, 3) := by decide +kernel
theorem dX1_low_17 : decode cX1_low 17 = .ok (.iconst 0, 1) := by decide +kernel
theorem dX1_low_18 : decode cX1_low 18 = .ok (.ireturn, 1) := by decide +kernel
theorem dX1_high_0 : decode cX1_high 0 = .ok (.aload_n 0, 1) := by decide +kernel
theorem dX1_high_1 : decode cX1_high 1 = .ok (.iload_n 1, 1) := by decide +kernel
theorem dX1_high_2 : decode cX1_high 2 = .ok (.invokevirtual 68, 3) := by decide +kernel
theorem dX1_high_5 : decode cX1_high 5 = .ok (.ifCond .eq 12, 3) := by decide +kernel
theorem dX1_high_8 : decode cX1_high 8 = .ok (.aload_n 0, 1) := by decide +kernel
theorem dX1_high_9 : decode cX1_high 9 = .ok (.getfield 15, 3) := by decide +kernel
theorem dX1_high_12 : decode cX1_high 12 = .ok (.iload_n 1, 1) := by decide +kernel
theorem dX1_high_13 : decode cX1_high 13 = .ok (.iaload, 1) := by decide +kernel
theorem dX1_high_14 : decode cX1_high 14 = .ok (.goto 4, 3) := by decide +kernel
theorem dX1_high_17 : decode cX1_high 17 = .ok (.iconst 0, 1) := by decide +kernel
theorem dX1_high_18 : decode cX1_high 18 = .ok (.ireturn, 1) := by decide +kernel
theorem dX1_isUsed_0 : decode cX1_isUsed 0 = .ok (.iload_n 1, 1) := by decide +kernel
theorem dX1_isUsed_1 : decode cX1_isUsed 1 = .ok (.ifCond .lt 8, 3) := by decide +kernel
theorem dX1_isUsed_4 : decode cX1_isUsed 4 = .ok (.iload_n 1, 1) := by decide +kernel
theorem dX1_isUsed_5 : decode cX1_isUsed 5 = .ok (.iconst 4, 1) := by decide +kernel
theorem dX1_isUsed_6 : decode cX1_isUsed 6 = .ok (.if_icmp .lt 5, 3) := by decide +kernel
theorem dX1_isUsed_9 : decode cX1_isUsed 9 = .ok (.iconst 0, 1) := by decide +kernel
theorem dX1_isUsed_10 : decode cX1_isUsed 10 = .ok (.ireturn, 1) := by decide +kernel
theorem dX1_isUsed_11 : decode cX1_isUsed 11 = .ok (.iload_n 1, 1) := by decide +kernel
theorem dX1_isUsed_12 : decode cX1_isUsed 12 = .ok (.iconst 2, 1) := by decide +kernel
theorem dX1_isUsed_13 : decode cX1_isUsed 13 = .ok (.if_icmp .lt 29, 3) := by decide +kernel
theorem dX1_isUsed_16 : decode cX1_isUsed 16 = .ok (.iload_n 1, 1) := by decide +kernel
theorem dX1_isUsed_17 : decode cX1_isUsed 17 = .ok (.iconst 2, 1) := by decide +kernel
theorem dX1_isUsed_18 : decode cX1_isUsed 18 = .ok (.if_icmp .ne 12, 3) := by decide +kernel
theorem dX1_isUsed_21 : decode cX1_isUsed 21 = .ok (.aload_n 0, 1) := by decide +kernel
theorem dX1_isUsed_22 : decode cX1_isUsed 22 = .ok (.getfield 18, 3) := by decide +kernel
theorem dX1_isUsed_25 : decode cX1_isUsed 25 = .ok (.bipush 7, 2) := by decide +kernel
theorem dX1_isUsed_27 : decode cX1_isUsed 27 = .ok (.if_icmp .eq 15, 3) := by decide +kernel
theorem dX1_isUsed_30 : decode cX1_isUsed 30 = .ok (.iload_n 1, 1) := by decide +kernel
theorem dX1_isUsed_31 : decode cX1_isUsed 31 = .ok (.iconst 3, 1) := by decide +kernel
theorem dX1_isUsed_32 : decode cX1_isUsed 32 = .ok (.if_icmp .ne 14, 3) := by decide +kernel
theorem dX1_isUsed_35 : decode cX1_isUsed 35 = .ok (.aload_n 0, 1) := by decide +kernel
theorem dX1_isUsed_36 : decode cX1_isUsed 36 = .ok (.invokevirtual 64, 3) := by decide +kernel
theorem dX1_isUsed_39 : decode cX1_isUsed 39 = .ok (.ifCond .eq 7, 3) := by decide +kernel
theorem dX1_isUsed_42 : decode cX1_isUsed 42 = .ok (.iconst 1, 1) := by decide +kernel
theorem dX1_isUsed_43 : decode cX1_isUsed 43 = .ok (.goto 4, 3) := by decide +kernel
theorem dX1_isUsed_46 : decode cX1_isUsed 46 = .ok (.iconst 0, 1) := by decide +kernel
theorem dX1_isUsed_47 : decode cX1_isUsed 47 = .ok (.ireturn, 1) := by decide +kernel
theorem dX2_init_0 : decode cX2_init 0 = .ok (.aload_n 0, 1) := by decide +kernel
theorem dX2_init_1 : decode cX2_init 1 = .ok (.invokespecial 3, 3) := by decide +kernel
theorem dX2_init_4 : decode cX2_init 4 = .ok (.aload_n 0, 1) := by decide +kernel
theorem dX2_init_5 : decode cX2_init 5 = .ok (.new 9, 3) := by decide +kernel
theorem dX2_init_8 : decode cX2_init 8 = .ok (.dup, 1) := by decide +kernel
theorem dX2_init_9 : decode cX2_init 9 = .ok (.invokespecial 11, 3) := by decide +kernel
theorem dX2_init_12 : decode cX2_init 12 = .ok (.putfield 12, 3) := by decide +kernel
theorem dX2_init_15 : decode cX2_init 15 = .ok (.aload_n 0, 1) := by decide +kernel
theorem dX2_init_16 : decode cX2_init 16 = .ok (.ldc 18, 2) := by decide +kernel
theorem dX2_init_18 : decode cX2_init 18 = .ok (.invokevirtual 20, 3) := by decide +kernel
theorem dX2_init_21 : decode cX2_init 21 = .ok (.newarray .int, 2) := by decide +kernel
theorem dX2_init_23 : decode cX2_init 23 = .ok (.putfield 26, 3) := by decide +kernel
theorem dX2_init_26 : decode cX2_init 26 = .ok (.aload_n 0, 1) := by decide +kernel
theorem dX2_init_27 : decode cX2_init 27 = .ok (.aload_n 1, 1) := by decide +kernel
theorem dX2_init_28 : decode cX2_init 28 = .ok (.putfield 30, 3) := by decide +kernel
theorem dX2_init_31 : decode cX2_init 31 = .ok (.aload_n 0, 1) := by decide +kernel
theorem dX2_init_32 : decode cX2_init 32 = .ok (.aload_n 2, 1) := by decide +kernel
theorem dX2_init_33 : decode cX2_init 33 = .ok (.putfield 34, 3) := by decide +kernel
theorem dX2_init_36 : decode cX2_init 36 = .ok (.return_, 1) := by decide +kernel
theorem dX2_readRow_0 : decode cX2_readRow 0 = .ok (.aload_n 0, 1) := by decide +kernel
theorem dX2_readRow_1 : decode cX2_readRow 1 = .ok (.iconst 0, 1) := by decide +kernel
theorem dX2_readRow_2 : decode cX2_readRow 2 = .ok (.putfield 38, 3) := by decide +kernel
theorem dX2_readRow_5 : decode cX2_readRow 5 = .ok (.aload_n 0, 1) := by decide +kernel
theorem dX2_readRow_6 : decode cX2_readRow 6 = .ok (.iconst 0, 1) := by decide +kernel
theorem dX2_readRow_7 : decode cX2_readRow 7 = .ok (.putfield 42, 3) := by decide +kernel
theorem dX2_readRow_10 : decode cX2_readRow 10 = .ok (.aload_n 0, 1) := by decide +kernel
theorem dX2_readRow_11 : decode cX2_readRow 11 = .ok (.iconst 0, 1) := by decide +kernel
theorem dX2_readRow_12 : decode cX2_readRow 12 = .ok (.putfield 45, 3) := by decide +kernel
theorem dX2_readRow_15 : decode cX2_readRow 15 = .ok (.aload_n 0, 1) := by decide +kernel
theorem dX2_readRow_16 : decode cX2_readRow 16 = .ok (.invokevirtual 49, 3) := by decide +kernel
theorem dX2_readRow_19 : decode cX2_readRow 19 = .ok (.iconst 0, 1) := by decide +kernel
theorem dX2_readRow_20 : decode cX2_readRow 20 = .ok (.istore_n 1, 1) := by decide +kernel
theorem dX2_readRow_21 : decode cX2_readRow 21 = .ok (.iload_n 1, 1) := by decide +kernel
theorem dX2_readRow_22 : decode cX2_readRow 22 = .ok (.sipush 400, 3) := by decide +kernel
theorem dX2_readRow_25 : decode cX2_readRow 25 = .ok (.if_icmp .gt 34, 3) := by decide +kernel
theorem dX2_readRow_28 : decode cX2_readRow 28 = .ok (.aload_n 0, 1) := by decide +kernel
theorem dX2_readRow_29 : decode cX2_readRow 29 = .ok (.invokevirtual 52, 3) := by decide +kernel
theorem dX2_readRow_32 : decode cX2_readRow 32 = .ok (.aload_n 0, 1) := by decide +kernel
theorem dX2_readRow_33 : decode cX2_readRow 33 = .ok (.getfield 55, 3) := by decide +kernel
theorem dX2_readRow_36 : decode cX2_readRow 36 = .ok (.ifCond .ne 8, 3) := by decide +kernel
theorem dX2_readRow_39 : decode cX2_readRow 39 = .ok (.aload_n 0, 1) := by decide +kernel
theorem dX2_readRow_40 : decode cX2_readRow 40 = .ok (.getfield 45, 3) := by decide +kernel
theorem dX2_readRow_43 : decode cX2_readRow 43 = .ok (.ireturn, 1) := by decide +kernel
theorem dX2_readRow_44 : decode cX2_readRow 44 = .ok (.aload_n 0, 1) := by decide +kernel
theorem dX2_readRow_45 : decode cX2_readRow 45 = .ok (.invokevirtual 58, 3) := by decide +kernel
theorem dX2_readRow_48 : decode cX2_readRow 48 = .ok (.ifCond .ne 5, 3) := by decide +kernel
theorem dX2_readRow_51 : decode cX2_readRow 51 = .ok (.iconst 0, 1) := by decide +kernel
theorem dX2_readRow_52 : decode cX2_readRow 52 = .ok (.ireturn, 1) := by decide +kernel
theorem dX2_readRow_53 : decode cX2_readRow 53 = .ok (.iinc 1 1, 3) := by decide +kernel
theorem dX2_readRow_56 : decode cX2_readRow 56 = .ok (.goto (-35), 3) := by decide +kernel
theorem dX2_readRow_59 : decode cX2_readRow 59 = .ok (.iconst 0, 1) := by decide +kernel
theorem dX2_readRow_60 : decode cX2_readRow 60 = .ok (.ireturn, 1) := by decide +kernel
theorem dX2_openSentence_0 : decode cX2_openSentence 0 = .ok (.aload_n 0, 1) := by decide +kernel
theorem dX2_openSentence_1 : decode cX2_openSentence 1 = .ok (.iconst 1, 1) := by decide +kernel
theorem dX2_openSentence_2 : decode cX2_openSentence 2 = .ok (.putfield 62, 3) := by decide +kernel
theorem dX2_openSentence_5 : decode cX2_openSentence 5 = .ok (.aload_n 0, 1) := by decide +kernel
theorem dX2_openSentence_6 : decode cX2_openSentence 6 = .ok (.getfield 26, 3) := by decide +kernel
theorem dX2_openSentence_9 : decode cX2_openSentence 9 = .ok (.iconst 0, 1) := by decide +kernel
theorem dX2_openSentence_10 : decode cX2_openSentence 10 = .ok (.invokestatic 65, 3) := by decide +kernel
theorem dX2_openSentence_13 : decode cX2_openSentence 13 = .ok (.aload_n 0, 1) := by decide +kernel
theorem dX2_openSentence_14 : decode cX2_openSentence 14 = .ok (.getfield 12, 3) := by decide +kernel
theorem dX2_openSentence_17 : decode cX2_openSentence 17 = .ok (.aload_n 0, 1) := by decide +kernel
theorem dX2_openSentence_18 : decode cX2_openSentence 18 = .ok (.getfield 42, 3) := by decide +kernel
theorem dX2_openSentence_21 : decode cX2_openSentence 21 = .ok (.invokevirtual 71, 3) := by decide +kernel
theorem dX2_openSentence_24 : decode cX2_openSentence 24 = .ok (.invokevirtual 75, 3) := by decide +kernel
theorem dX2_openSentence_27 : decode cX2_openSentence 27 = .ok (.return_, 1) := by decide +kernel
theorem dX2_goOn_0 : decode cX2_goOn 0 = .ok (.aload_n 0, 1) := by decide +kernel
theorem dX2_goOn_1 : decode cX2_goOn 1 = .ok (.getfield 45, 3) := by decide +kernel
theorem dX2_goOn_4 : decode cX2_goOn 4 = .ok (.ifCond .eq 5, 3) := by decide +kernel
theorem dX2_goOn_7 : decode cX2_goOn 7 = .ok (.iconst 0, 1) := by decide +kernel
theorem dX2_goOn_8 : decode cX2_goOn 8 = .ok (.ireturn, 1) := by decide +kernel
theorem dX2_goOn_9 : decode cX2_goOn 9 = .ok (.aload_n 0, 1) := by decide +kernel
theorem dX2_goOn_10 : decode cX2_goOn 10 = .ok (.getfield 62, 3) := by decide +kernel
theorem dX2_goOn_13 : decode cX2_goOn 13 = .ok (.ifCond .eq 16, 3) := by decide +kernel
theorem dX2_goOn_16 : decode cX2_goOn 16 = .ok (.aload_n 0, 1) := by decide +kernel
theorem dX2_goOn_17 : decode cX2_goOn 17 = .ok (.aload_n 0, 1) := by decide +kernel
theorem dX2_goOn_18 : decode cX2_goOn 18 = .ok (.getfield 80, 3) := by decide +kernel
theorem dX2_goOn_21 : decode cX2_goOn 21 = .ok (.putfield 83, 3) := by decide +kernel
theorem dX2_goOn_24 : decode cX2_goOn 24 = .ok (.aload_n 0, 1) := by decide +kernel
theorem dX2_goOn_25 : decode cX2_goOn 25 = .ok (.iconst 0, 1) := by decide +kernel
theorem dX2_goOn_26 : decode cX2_goOn 26 = .ok (.putfield 62, 3) := by decide +kernel
theorem dX2_goOn_29 : decode cX2_goOn 29 = .ok (.iconst 0, 1) := by decide +kernel
theorem dX2_goOn_30 : decode cX2_goOn 30 = .ok (.istore_n 1, 1) := by decide +kernel
theorem dX2_goOn_31 : decode cX2_goOn 31 = .ok (.iconst 0, 1) := by decide +kernel
theorem dX2_goOn_32 : decode cX2_goOn 32 = .ok (.istore_n 2, 1) := by decide +kernel
theorem dX2_goOn_33 : decode cX2_goOn 33 = .ok (.iload_n 2, 1) := by decide +kernel
theorem dX2_goOn_34 : decode cX2_goOn 34 = .ok (.aload_n 0, 1) := by decide +kernel
theorem dX2_goOn_35 : decode cX2_goOn 35 = .ok (.getfield 26, 3) := by decide +kernel
theorem dX2_goOn_38 : decode cX2_goOn 38 = .ok (.arraylength, 1) := by decide +kernel
theorem dX2_goOn_39 : decode cX2_goOn 39 = .ok (.if_icmp .ge 80, 3) := by decide +kernel
theorem dX2_goOn_42 : decode cX2_goOn 42 = .ok (.iload_n 2, 1) := by decide +kernel
theorem dX2_goOn_43 : decode cX2_goOn 43 = .ok (.ldc 18, 2) := by decide +kernel
theorem dX2_goOn_45 : decode cX2_goOn 45 = .ok (.invokevirtual 20, 3) := by decide +kernel
theorem dX2_goOn_48 : decode cX2_goOn 48 = .ok (.if_icmp .ge 71, 3) := by decide +kernel
theorem dX2_goOn_51 : decode cX2_goOn 51 = .ok (.ldc 18, 2) := by decide +kernel
theorem dX2_goOn_53 : decode cX2_goOn 53 = .ok (.iload_n 2, 1) := by decide +kernel
theorem dX2_goOn_54 : decode cX2_goOn 54 = .ok (.invokevirtual 86, 3) := by decide +kernel
theorem dX2_goOn_57 : decode cX2_goOn 57 = .ok (.istore_n 3, 1) := by decide +kernel
theorem dX2_goOn_58 : decode cX2_goOn 58 = .ok (.aload_n 0, 1) := by decide +kernel
theorem dX2_goOn_59 : decode cX2_goOn 59 = .ok (.getfield 26, 3) := by decide +kernel
theorem dX2_goOn_62 : decode cX2_goOn 62 = .ok (.iload_n 2, 1) := by decide +kernel
theorem dX2_goOn_63 : decode cX2_goOn 63 = .ok (.aload_n 0, 1) := by decide +kernel
theorem dX2_goOn_64 : decode cX2_goOn 64 = .ok (.iload_n 3, 1) := by decide +kernel
theorem dX2_goOn_65 : decode cX2_goOn 65 = .ok (.invokestatic 90, 3) := by decide +kernel
theorem dX2_goOn_68 : decode cX2_goOn 68 = .ok (.aload_n 0, 1) := by decide +kernel
theorem dX2_goOn_69 : decode cX2_goOn 69 = .ok (.getfield 26, 3) := by decide +kernel
theorem dX2_goOn_72 : decode cX2_goOn 72 = .ok (.iload_n 2, 1) := by decide +kernel
theorem dX2_goOn_73 : decode cX2_goOn 73 = .ok (.iaload, 1) := by decide +kernel
theorem dX2_goOn_74 : decode cX2_goOn 74 = .ok (.invokevirtual 94, 3) := by decide +kernel
theorem dX2_goOn_77 : decode cX2_goOn 77 = .ok (.iastore, 1) := by decide +kernel
theorem dX2_goOn_78 : decode cX2_goOn 78 = .ok (.aload_n 0, 1) := by decide +kernel
theorem dX2_goOn_79 : decode cX2_goOn 79 = .ok (.getfield 26, 3) := by decide +kernel
theorem dX2_goOn_82 : decode cX2_goOn 82 = .ok (.iload_n 2, 1) := by decide +kernel
theorem dX2_goOn_83 : decode cX2_goOn 83 = .ok (.iaload, 1) := by decide +kernel
theorem dX2_goOn_84 : decode cX2_goOn 84 = .ok (.iconst (-1), 1) := by decide +kernel
theorem dX2_goOn_85 : decode cX2_goOn 85 = .ok (.if_icmp .eq 28, 3) := by decide +kernel
theorem dX2_goOn_88 : decode cX2_goOn 88 = .ok (.iconst 1, 1) := by decide +kernel
theorem dX2_goOn_89 : decode cX2_goOn 89 = .ok (.istore_n 1, 1) := by decide +kernel
theorem dX2_goOn_90 : decode cX2_goOn 90 = .ok (.aload_n 0, 1) := by decide +kernel
theorem dX2_goOn_91 : decode cX2_goOn 91 = .ok (.getfield 26, 3) := by decide +kernel
theorem dX2_goOn_94 : decode cX2_goOn 94 = .ok (.iload_n 2, 1) := by decide +kernel
theorem dX2_goOn_95 : decode cX2_goOn 95 = .ok (.iaload, 1) := by decide +kernel
theorem dX2_goOn_96 : decode cX2_goOn 96 = .ok (.iload_n 3, 1) := by decide +kernel
theorem dX2_goOn_97 : decode cX2_goOn 97 = .ok (.invokestatic 90, 3) := by decide +kernel
theorem dX2_goOn_100 : decode cX2_goOn 100 = .ok (.invokevirtual 20, 3) := by decide +kernel
theorem dX2_goOn_103 : decode cX2_goOn 103 = .ok (.if_icmp .ne 10, 3) := by decide +kernel
theorem dX2_goOn_106 : decode cX2_goOn 106 = .ok (.aload_n 0, 1) := by decide +kernel
theorem dX2_goOn_107 : decode cX2_goOn 107 = .ok (.iload_n 3, 1) := by decide +kernel
theorem dX2_goOn_108 : decode cX2_goOn 108 = .ok (.invokevirtual 98, 3) := by decide +kernel
theorem dX2_goOn_111 : decode cX2_goOn 111 = .ok (.iconst 1, 1) := by decide +kernel
theorem dX2_goOn_112 : decode cX2_goOn 112 = .ok (.ireturn, 1) := by decide +kernel
theorem dX2_goOn_113 : decode cX2_goOn 113 = .ok (.iinc 2 1, 3) := by decide +kernel
theorem dX2_goOn_116 : decode cX2_goOn 116 = .ok (.goto (-83), 3) := by decide +kernel
theorem dX2_goOn_119 : decode cX2_goOn 119 = .ok (.iload_n 1, 1) := by decide +kernel
theorem dX2_goOn_120 : decode cX2_goOn 120 = .ok (.ireturn, 1) := by decide +kernel
theorem dX2_closeSentence_0 : decode cX2_closeSentence 0 = .ok (.aload_n 0, 1) := by decide +kernel
theorem dX2_closeSentence_1 : decode cX2_closeSentence 1 = .ok (.getfield 12, 3) := by decide +kernel
theorem dX2_closeSentence_4 : decode cX2_closeSentence 4 = .ok (.aload_n 0, 1) := by decide +kernel
theorem dX2_closeSentence_5 : decode cX2_closeSentence 5 = .ok (.getfield 42, 3) := by decide +kernel
theorem dX2_closeSentence_8 : decode cX2_closeSentence 8 = .ok (.invokevirtual 71, 3) := by decide +kernel
theorem dX2_closeSentence_11 : decode cX2_closeSentence 11 = .ok (.iload_n 1, 1) := by decide +kernel
theorem dX2_closeSentence_12 : decode cX2_closeSentence 12 = .ok (.putfield 102, 3) := by decide +kernel
theorem dX2_closeSentence_15 : decode cX2_closeSentence 15 = .ok (.iload_n 1, 1) := by decide +kernel
theorem dX2_closeSentence_16 : decode cX2_closeSentence 16 = .ok (.invokestatic 106, 3) := by decide +kernel
theorem dX2_closeSentence_19 : decode cX2_closeSentence 19 = .ok (.ifCond .eq 11, 3) := by decide +kernel
theorem dX2_closeSentence_22 : decode cX2_closeSentence 22 = .ok (.aload_n 0, 1) := by decide +kernel
theorem dX2_closeSentence_23 : decode cX2_closeSentence 23 = .ok (.iconst 1, 1) := by decide +kernel
theorem dX2_closeSentence_24 : decode cX2_closeSentence 24 = .ok (.putfield 45, 3) := by decide +kernel
theorem dX2_closeSentence_27 : decode cX2_closeSentence 27 = .ok (.goto 17, 3) := by decide +kernel
theorem dX2_closeSentence_30 : decode cX2_closeSentence 30 = .ok (.aload_n 0, 1) := by decide +kernel
theorem dX2_closeSentence_31 : decode cX2_closeSentence 31 = .ok (.dup, 1) := by decide +kernel
theorem dX2_closeSentence_32 : decode cX2_closeSentence 32 = .ok (.getfield 42, 3) := by decide +kernel
theorem dX2_closeSentence_35 : decode cX2_closeSentence 35 = .ok (.iconst 1, 1) := by decide +kernel
theorem dX2_closeSentence_36 : decode cX2_closeSentence 36 = .ok (.iadd, 1) := by decide +kernel
theorem dX2_closeSentence_37 : decode cX2_closeSentence 37 = .ok (.putfield 42, 3) := by decide +kernel
theorem dX2_closeSentence_40 : decode cX2_closeSentence 40 = .ok (.aload_n 0, 1) := by decide +kernel
theorem dX2_closeSentence_41 : decode cX2_closeSentence 41 = .ok (.invokevirtual 49, 3) := by decide +kernel
theorem dX2_closeSentence_44 : decode cX2_closeSentence 44 = .ok (.return_, 1) := by decide +kernel
theorem dX2_passed_0 : decode cX2_passed 0 = .ok (.iload_n 2, 1) := by decide +kernel
theorem dX2_passed_1 : decode cX2_passed 1 = .ok (.ifCond .lt 11, 3) := by decide +kernel
theorem dX2_passed_4 : decode cX2_passed 4 = .ok (.iload_n 2, 1) := by decide +kernel
theorem dX2_passed_5 : decode cX2_passed 5 = .ok (.aload_n 1, 1) := by decide +kernel
theorem dX2_passed_6 : decode cX2_passed 6 = .ok (.invokevirtual 20, 3) := by decide +kernel
theorem dX2_passed_9 : decode cX2_passed 9 = .ok (.if_icmp .lt 5, 3) := by decide +kernel
theorem dX2_passed_12 : decode cX2_passed 12 = .ok (.iconst (-1), 1) := by decide +kernel
theorem dX2_passed_13 : decode cX2_passed 13 = .ok (.ireturn, 1) := by decide +kernel
theorem dX2_passed_14 : decode cX2_passed 14 = .ok (.iconst 1, 1) := by decide +kernel
theorem dX2_passed_15 : decode cX2_passed 15 = .ok (.istore_n 3, 1) := by decide +kernel
theorem dX2_passed_16 : decode cX2_passed 16 = .ok (.aload_n 1, 1) := by decide +kernel
theorem dX2_passed_17 : decode cX2_passed 17 = .ok (.iload_n 2, 1) := by decide +kernel
theorem dX2_passed_18 : decode cX2_passed 18 = .ok (.invokevirtual 86, 3) := by decide +kernel
theorem dX2_passed_21 : decode cX2_passed 21 = .ok (.istore 4, 2) := by decide +kernel
theorem dX2_passed_23 : decode cX2_passed 23 = .ok (.iload 4, 2) := by decide +kernel
theorem dX2_passed_25 : decode cX2_passed 25 = .ok (.bipush 78, 2) := by decide +kernel
theorem dX2_passed_27 : decode cX2_passed 27 = .ok (.if_icmp .eq 24, 3) := by decide +kernel
theorem dX2_passed_30 : decode cX2_passed 30 = .ok (.iload 4, 2) := by decide +kernel
theorem dX2_passed_32 : decode cX2_passed 32 = .ok (.bipush 79, 2) := by decide +kernel
theorem dX2_passed_34 : decode cX2_passed 34 = .ok (.if_icmp .eq 17, 3) := by decide +kernel
theorem dX2_passed_37 : decode cX2_passed 37 = .ok (.iload 4, 2) := by decide +kernel
theorem dX2_passed_39 : decode cX2_passed 39 = .ok (.bipush 84, 2) := by decide +kernel
theorem dX2_passed_41 : decode cX2_passed 41 = .ok (.if_icmp .eq 10, 3) := by decide +kernel
theorem dX2_passed_44 : decode cX2_passed 44 = .ok (.iload 4, 2) := by decide +kernel
theorem dX2_passed_46 : decode cX2_passed 46 = .ok (.bipush 88, 2) := by decide +kernel
theorem dX2_passed_48 : decode cX2_passed 48 = .ok (.if_icmp .ne 14, 3) := by decide +kernel
theorem dX2_passed_51 : decode cX2_passed 51 = .ok (.aload_n 0, 1) := by decide +kernel
theorem dX2_passed_52 : decode cX2_passed 52 = .ok (.iload 4, 2) := by decide +kernel
theorem dX2_passed_54 : decode cX2_passed 54 = .ok (.invokevirtual 110, 3) := by decide +kernel
theorem dX2_passed_57 : decode cX2_passed 57 = .ok (.ifCond .ne 27, 3) := by decide +kernel
theorem dX2_passed_60 : decode cX2_passed 60 = .ok (.iconst (-1), 1) := by decide +kernel
theorem dX2_passed_61 : decode cX2_passed 61 = .ok (.ireturn, 1) := by decide +kernel
theorem dX2_passed_62 : decode cX2_passed 62 = .ok (.aload_n 0, 1) := by decide +kernel
theorem dX2_passed_63 : decode cX2_passed 63 = .ok (.getfield 38, 3) := by decide +kernel
theorem dX2_passed_66 : decode cX2_passed 66 = .ok (.aload_n 0, 1) := by decide +kernel
theorem dX2_passed_67 : decode cX2_passed 67 = .ok (.getfield 80, 3) := by decide +kernel
theorem dX2_passed_70 : decode cX2_passed 70 = .ok (.isub, 1) := by decide +kernel
theorem dX2_passed_71 : decode cX2_passed 71 = .ok (.istore_n 3, 1) := by decide +kernel
theorem dX2_passed_72 : decode cX2_passed 72 = .ok (.aload_n 0, 1) := by decide +kernel
theorem dX2_passed_73 : decode cX2_passed 73 = .ok (.aload_n 1, 1) := by decide +kernel
theorem dX2_passed_74 : decode cX2_passed 74 = .ok (.iload_n 2, 1) := by decide +kernel
theorem dX2_passed_75 : decode cX2_passed 75 = .ok (.iload_n 3, 1) := by decide +kernel
theorem dX2_passed_76 : decode cX2_passed 76 = .ok (.invokevirtual 113, 3) := by decide +kernel
theorem dX2_passed_79 : decode cX2_passed 79 = .ok (.ifCond .ne 5, 3) := by decide +kernel
theorem dX2_passed_82 : decode cX2_passed 82 = .ok (.iconst (-1), 1) := by decide +kernel
theorem dX2_passed_83 : decode cX2_passed 83 = .ok (.ireturn, 1) := by decide +kernel
theorem dX2_passed_84 : decode cX2_passed 84 = .ok (.iload_n 2, 1) := by decide +kernel
theorem dX2_passed_85 : decode cX2_passed 85 = .ok (.iload_n 3, 1) := by decide +kernel
theorem dX2_passed_86 : decode cX2_passed 86 = .ok (.iadd, 1) := by decide +kernel
theorem dX2_passed_87 : decode cX2_passed 87 = .ok (.istore 5, 2) := by decide +kernel
theorem dX2_passed_89 : decode cX2_passed 89 = .ok (.iload 5, 2) := by decide +kernel
theorem dX2_passed_91 : decode cX2_passed 91 = .ok (.aload_n 1, 1) := by decide +kernel
theorem dX2_passed_92 : decode cX2_passed 92 = .ok (.invokevirtual 20, 3) := by decide +kernel
theorem dX2_passed_95 : decode cX2_passed 95 = .ok (.if_icmp .ge 21, 3) := by decide +kernel
theorem dX2_passed_98 : decode cX2_passed 98 = .ok (.aload_n 1, 1) := by decide +kernel
theorem dX2_passed_99 : decode cX2_passed 99 = .ok (.iload 5, 2) := by decide +kernel
theorem dX2_passed_101 : decode cX2_passed 101 = .ok (.invokevirtual 86, 3) := by decide +kernel
theorem dX2_passed_104 : decode cX2_passed 104 = .ok (.bipush 32, 2) := by decide +kernel
theorem dX2_passed_106 : decode cX2_passed 106 = .ok (.if_icmp .ne 10, 3) := by decide +kernel
theorem dX2_passed_109 : decode cX2_passed 109 = .ok (.iload 5, 2) := by decide +kernel
theorem dX2_passed_111 : decode cX2_passed 111 = .ok (.iconst 1, 1) := by decide +kernel
theorem dX2_passed_112 : decode cX2_passed 112 = .ok (.iadd, 1) := by decide +kernel
theorem dX2_passed_113 : decode cX2_passed 113 = .ok (.goto 5, 3) := by decide +kernel
theorem dX2_passed_116 : decode cX2_passed 116 = .ok (.iload 5, 2) := by decide +kernel
theorem dX2_passed_118 : decode cX2_passed 118 = .ok (.ireturn, 1) := by decide +kernel
theorem dX2_keepPart_0 : decode cX2_keepPart 0 = .ok (.aload_n 0, 1) := by decide +kernel
theorem dX2_keepPart_1 : decode cX2_keepPart 1 = .ok (.getfield 12, 3) := by decide +kernel
theorem dX2_keepPart_4 : decode cX2_keepPart 4 = .ok (.aload_n 0, 1) := by decide +kernel
theorem dX2_keepPart_5 : decode cX2_keepPart 5 = .ok (.getfield 42, 3) := by decide +kernel
theorem dX2_keepPart_8 : decode cX2_keepPart 8 = .ok (.invokevirtual 71, 3) := by decide +kernel
theorem dX2_keepPart_11 : decode cX2_keepPart 11 = .ok (.astore_n 2, 1) := by decide +kernel
theorem dX2_keepPart_12 : decode cX2_keepPart 12 = .ok (.iload_n 1, 1) := by decide +kernel
theorem dX2_keepPart_13 : decode cX2_keepPart 13 = .ok (.lookupswitch 101 #[(78, 35), (79, 57), (84, 79)], 35) := by decide +kernel
theorem dX2_keepPart_48 : decode cX2_keepPart 48 = .ok (.aload_n 2, 1) := by decide +kernel
theorem dX2_keepPart_49 : decode cX2_keepPart 49 = .ok (.aload_n 0, 1) := by decide +kernel
theorem dX2_keepPart_50 : decode cX2_keepPart 50 = .ok (.getfield 117, 3) := by decide +kernel
theorem dX2_keepPart_53 : decode cX2_keepPart 53 = .ok (.putfield 120, 3) := by decide +kernel
theorem dX2_keepPart_56 : decode cX2_keepPart 56 = .ok (.aload_n 0, 1) := by decide +kernel
theorem dX2_keepPart_57 : decode cX2_keepPart 57 = .ok (.getfield 117, 3) := by decide +kernel
theorem dX2_keepPart_60 : decode cX2_keepPart 60 = .ok (.iconst (-1), 1) := by decide +kernel
theorem dX2_keepPart_61 : decode cX2_keepPart 61 = .ok (.if_icmp .eq 7, 3) := by decide +kernel
theorem dX2_keepPart_64 : decode cX2_keepPart 64 = .ok (.iconst 1, 1) := by decide +kernel
theorem dX2_keepPart_65 : decode cX2_keepPart 65 = .ok (.goto 4, 3) := by decide +kernel
theorem dX2_keepPart_68 : decode cX2_keepPart 68 = .ok (.iconst 0, 1) := by decide +kernel
theorem dX2_keepPart_69 : decode cX2_keepPart 69 = .ok (.ireturn, 1) := by decide +kernel
theorem dX2_keepPart_70 : decode cX2_keepPart 70 = .ok (.aload_n 2, 1) := by decide +kernel
theorem dX2_keepPart_71 : decode cX2_keepPart 71 = .ok (.aload_n 0, 1) := by decide +kernel
theorem dX2_keepPart_72 : decode cX2_keepPart 72 = .ok (.getfield 117, 3) := by decide +kernel
theorem dX2_keepPart_75 : decode cX2_keepPart 75 = .ok (.putfield 123, 3) := by decide +kernel
theorem dX2_keepPart_78 : decode cX2_keepPart 78 = .ok (.aload_n 0, 1) := by decide +kernel
theorem dX2_keepPart_79 : decode cX2_keepPart 79 = .ok (.getfield 117, 3) := by decide +kernel
theorem dX2_keepPart_82 : decode cX2_keepPart 82 = .ok (.iconst (-1), 1) := by decide +kernel
theorem dX2_keepPart_83 : decode cX2_keepPart 83 = .ok (.if_icmp .eq 7, 3) := by decide +kernel
theorem dX2_keepPart_86 : decode cX2_keepPart 86 = .ok (.iconst 1, 1) := by decide +kernel
theorem dX2_keepPart_87 : decode cX2_keepPart 87 = .ok (.goto 4, 3) := by decide +kernel
theorem dX2_keepPart_90 : decode cX2_keepPart 90 = .ok (.iconst 0, 1) := by decide +kernel
theorem dX2_keepPart_91 : decode cX2_keepPart 91 = .ok (.ireturn, 1) := by decide +kernel
theorem dX2_keepPart_92 : decode cX2_keepPart 92 = .ok (.aload_n 2, 1) := by decide +kernel
theorem dX2_keepPart_93 : decode cX2_keepPart 93 = .ok (.aload_n 0, 1) := by decide +kernel
theorem dX2_keepPart_94 : decode cX2_keepPart 94 = .ok (.getfield 126, 3) := by decide +kernel
theorem dX2_keepPart_97 : decode cX2_keepPart 97 = .ok (.putfield 129, 3) := by decide +kernel
theorem dX2_keepPart_100 : decode cX2_keepPart 100 = .ok (.aload_n 0, 1) := by decide +kernel
theorem dX2_keepPart_101 : decode cX2_keepPart 101 = .ok (.getfield 126, 3) := by decide +kernel
theorem dX2_keepPart_104 : decode cX2_keepPart 104 = .ok (.iconst (-1), 1) := by decide +kernel
theorem dX2_keepPart_105 : decode cX2_keepPart 105 = .ok (.if_icmp .eq 7, 3) := by decide +kernel
theorem dX2_keepPart_108 : decode cX2_keepPart 108 = .ok (.iconst 1, 1) := by decide +kernel
theorem dX2_keepPart_109 : decode cX2_keepPart 109 = .ok (.goto 4, 3) := by decide +kernel
theorem dX2_keepPart_112 : decode cX2_keepPart 112 = .ok (.iconst 0, 1) := by decide +kernel
theorem dX2_keepPart_113 : decode cX2_keepPart 113 = .ok (.ireturn, 1) := by decide +kernel
theorem dX2_keepPart_114 : decode cX2_keepPart 114 = .ok (.aload_n 2, 1) := by decide +kernel
theorem dX2_keepPart_115 : decode cX2_keepPart 115 = .ok (.aload_n 0, 1) := by decide +kernel
theorem dX2_keepPart_116 : decode cX2_keepPart 116 = .ok (.getfield 132, 3) := by decide +kernel
theorem dX2_keepPart_119 : decode cX2_keepPart 119 = .ok (.putfield 135, 3) := by decide +kernel
theorem dX2_keepPart_122 : decode cX2_keepPart 122 = .ok (.aload_n 0, 1) := by decide +kernel
theorem dX2_keepPart_123 : decode cX2_keepPart 123 = .ok (.getfield 132, 3) := by decide +kernel
theorem dX2_keepPart_126 : decode cX2_keepPart 126 = .ok (.iconst (-1), 1) := by decide +kernel
theorem dX2_keepPart_127 : decode cX2_keepPart 127 = .ok (.if_icmp .eq 7, 3) := by decide +kernel
theorem dX2_keepPart_130 : decode cX2_keepPart 130 = .ok (.iconst 1, 1) := by decide +kernel
theorem dX2_keepPart_131 : decode cX2_keepPart 131 = .ok (.goto 4, 3) := by decide +kernel
theorem dX2_keepPart_134 : decode cX2_keepPart 134 = .ok (.iconst 0, 1) := by decide +kernel
theorem dX2_keepPart_135 : decode cX2_keepPart 135 = .ok (.ireturn, 1) := by decide +kernel
theorem dX2_isSame_0 : decode cX2_isSame 0 = .ok (.iload_n 2, 1) := by decide +kernel
theorem dX2_isSame_1 : decode cX2_isSame 1 = .ok (.iload_n 3, 1) := by decide +kernel
theorem dX2_isSame_2 : decode cX2_isSame 2 = .ok (.iadd, 1) := by decide +kernel
theorem dX2_isSame_3 : decode cX2_isSame 3 = .ok (.istore 4, 2) := by decide +kernel
theorem dX2_isSame_5 : decode cX2_isSame 5 = .ok (.aload_n 0, 1) := by decide +kernel
theorem dX2_isSame_6 : decode cX2_isSame 6 = .ok (.getfield 55, 3) := by decide +kernel
theorem dX2_isSame_9 : decode cX2_isSame 9 = .ok (.iconst 1, 1) := by decide +kernel
theorem dX2_isSame_10 : decode cX2_isSame 10 = .ok (.if_icmp .eq 11, 3) := by decide +kernel
theorem dX2_isSame_13 : decode cX2_isSame 13 = .ok (.aload_n 0, 1) := by decide +kernel
theorem dX2_isSame_14 : decode cX2_isSame 14 = .ok (.getfield 55, 3) := by decide +kernel
theorem dX2_isSame_17 : decode cX2_isSame 17 = .ok (.iconst 3, 1) := by decide +kernel
theorem dX2_isSame_18 : decode cX2_isSame 18 = .ok (.if_icmp .ne 12, 3) := by decide +kernel
theorem dX2_isSame_21 : decode cX2_isSame 21 = .ok (.iload 4, 2) := by decide +kernel
theorem dX2_isSame_23 : decode cX2_isSame 23 = .ok (.aload_n 1, 1) := by decide +kernel
theorem dX2_isSame_24 : decode cX2_isSame 24 = .ok (.invokevirtual 20, 3) := by decide +kernel
theorem dX2_isSame_27 : decode cX2_isSame 27 = .ok (.if_icmp .le 5, 3) := by decide +kernel
theorem dX2_isSame_30 : decode cX2_isSame 30 = .ok (.iconst 0, 1) := by decide +kernel
theorem dX2_isSame_31 : decode cX2_isSame 31 = .ok (.ireturn, 1) := by decide +kernel
theorem dX2_isSame_32 : decode cX2_isSame 32 = .ok (.iconst 0, 1) := by decide +kernel
theorem dX2_isSame_33 : decode cX2_isSame 33 = .ok (.istore 5, 2) := by decide +kernel
theorem dX2_isSame_35 : decode cX2_isSame 35 = .ok (.iload 5, 2) := by decide +kernel
theorem dX2_isSame_37 : decode cX2_isSame 37 = .ok (.iload_n 3, 1) := by decide +kernel
theorem dX2_isSame_38 : decode cX2_isSame 38 = .ok (.if_icmp .ge 36, 3) := by decide +kernel
theorem dX2_isSame_41 : decode cX2_isSame 41 = .ok (.aload_n 1, 1) := by decide +kernel
theorem dX2_isSame_42 : decode cX2_isSame 42 = .ok (.iload_n 2, 1) := by decide +kernel
theorem dX2_isSame_43 : decode cX2_isSame 43 = .ok (.iload 5, 2) := by decide +kernel
theorem dX2_isSame_45 : decode cX2_isSame 45 = .ok (.iadd, 1) := by decide +kernel
theorem dX2_isSame_46 : decode cX2_isSame 46 = .ok (.invokevirtual 86, 3) := by decide +kernel
theorem dX2_isSame_49 : decode cX2_isSame 49 = .ok (.aload_n 0, 1) := by decide +kernel
theorem dX2_isSame_50 : decode cX2_isSame 50 = .ok (.getfield 34, 3) := by decide +kernel
theorem dX2_isSame_53 : decode cX2_isSame 53 = .ok (.aload_n 0, 1) := by decide +kernel
theorem dX2_isSame_54 : decode cX2_isSame 54 = .ok (.getfield 80, 3) := by decide +kernel
theorem dX2_isSame_57 : decode cX2_isSame 57 = .ok (.iload 5, 2) := by decide +kernel
theorem dX2_isSame_59 : decode cX2_isSame 59 = .ok (.iadd, 1) := by decide +kernel
theorem dX2_isSame_60 : decode cX2_isSame 60 = .ok (.invokevirtual 138, 3) := by decide +kernel
theorem dX2_isSame_63 : decode cX2_isSame 63 = .ok (.if_icmp .eq 5, 3) := by decide +kernel
theorem dX2_isSame_66 : decode cX2_isSame 66 = .ok (.iconst 0, 1) := by decide +kernel
theorem dX2_isSame_67 : decode cX2_isSame 67 = .ok (.ireturn, 1) := by decide +kernel
theorem dX2_isSame_68 : decode cX2_isSame 68 = .ok (.iinc 5 1, 3) := by decide +kernel
theorem dX2_isSame_71 : decode cX2_isSame 71 = .ok (.goto (-36), 3) := by decide +kernel
theorem dX2_isSame_74 : decode cX2_isSame 74 = .ok (.aload_n 0, 1) := by decide +kernel
theorem dX2_isSame_75 : decode cX2_isSame 75 = .ok (.getfield 55, 3) := by decide +kernel
theorem dX2_isSame_78 : decode cX2_isSame 78 = .ok (.iconst 3, 1) := by decide +kernel
theorem dX2_isSame_79 : decode cX2_isSame 79 = .ok (.if_icmp .eq 24, 3) := by decide +kernel
theorem dX2_isSame_82 : decode cX2_isSame 82 = .ok (.iload 4, 2) := by decide +kernel
theorem dX2_isSame_84 : decode cX2_isSame 84 = .ok (.aload_n 1, 1) := by decide +kernel
theorem dX2_isSame_85 : decode cX2_isSame 85 = .ok (.invokevirtual 20, 3) := by decide +kernel
theorem dX2_isSame_88 : decode cX2_isSame 88 = .ok (.if_icmp .eq 15, 3) := by decide +kernel
theorem dX2_isSame_91 : decode cX2_isSame 91 = .ok (.aload_n 1, 1) := by decide +kernel
theorem dX2_isSame_92 : decode cX2_isSame 92 = .ok (.iload 4, 2) := by decide +kernel
theorem dX2_isSame_94 : decode cX2_isSame 94 = .ok (.invokevirtual 86, 3) := by decide +kernel
theorem dX2_isSame_97 : decode cX2_isSame 97 = .ok (.invokestatic 144, 3) := by decide +kernel
theorem dX2_isSame_100 : decode cX2_isSame 100 = .ok (.ifCond .ne 7, 3) := by decide +kernel
theorem dX2_isSame_103 : decode cX2_isSame 103 = .ok (.iconst 1, 1) := by decide +kernel
theorem dX2_isSame_104 : decode cX2_isSame 104 = .ok (.goto 4, 3) := by decide +kernel
theorem dX2_isSame_107 : decode cX2_isSame 107 = .ok (.iconst 0, 1) := by decide +kernel
theorem dX2_isSame_108 : decode cX2_isSame 108 = .ok (.ireturn, 1) := by decide +kernel
theorem dX2_nextToken_0 : decode cX2_nextToken 0 = .ok (.aload_n 0, 1) := by decide +kernel
theorem dX2_nextToken_1 : decode cX2_nextToken 1 = .ok (.iconst (-1), 1) := by decide +kernel
theorem dX2_nextToken_2 : decode cX2_nextToken 2 = .ok (.putfield 117, 3) := by decide +kernel
theorem dX2_nextToken_5 : decode cX2_nextToken 5 = .ok (.aload_n 0, 1) := by decide +kernel
theorem dX2_nextToken_6 : decode cX2_nextToken 6 = .ok (.iconst (-1), 1) := by decide +kernel
theorem dX2_nextToken_7 : decode cX2_nextToken 7 = .ok (.putfield 126, 3) := by decide +kernel
theorem dX2_nextToken_10 : decode cX2_nextToken 10 = .ok (.aload_n 0, 1) := by decide +kernel
theorem dX2_nextToken_11 : decode cX2_nextToken 11 = .ok (.iconst (-1), 1) := by decide +kernel
theorem dX2_nextToken_12 : decode cX2_nextToken 12 = .ok (.putfield 132, 3) := by decide +kernel
theorem dX2_nextToken_15 : decode cX2_nextToken 15 = .ok (.aload_n 0, 1) := by decide +kernel
theorem dX2_nextToken_16 : decode cX2_nextToken 16 = .ok (.invokevirtual 148, 3) := by decide +kernel
theorem dX2_nextToken_19 : decode cX2_nextToken 19 = .ok (.aload_n 0, 1) := by decide +kernel
theorem dX2_nextToken_20 : decode cX2_nextToken 20 = .ok (.aload_n 0, 1) := by decide +kernel
theorem dX2_nextToken_21 : decode cX2_nextToken 21 = .ok (.getfield 38, 3) := by decide +kernel
theorem dX2_nextToken_24 : decode cX2_nextToken 24 = .ok (.putfield 80, 3) := by decide +kernel
theorem dX2_nextToken_27 : decode cX2_nextToken 27 = .ok (.aload_n 0, 1) := by decide +kernel
theorem dX2_nextToken_28 : decode cX2_nextToken 28 = .ok (.getfield 34, 3) := by decide +kernel
theorem dX2_nextToken_31 : decode cX2_nextToken 31 = .ok (.aload_n 0, 1) := by decide +kernel
theorem dX2_nextToken_32 : decode cX2_nextToken 32 = .ok (.getfield 38, 3) := by decide +kernel
theorem dX2_nextToken_35 : decode cX2_nextToken 35 = .ok (.invokevirtual 138, 3) := by decide +kernel
theorem dX2_nextToken_38 : decode cX2_nextToken 38 = .ok (.istore_n 1, 1) := by decide +kernel
theorem dX2_nextToken_39 : decode cX2_nextToken 39 = .ok (.iload_n 1, 1) := by decide +kernel
theorem dX2_nextToken_40 : decode cX2_nextToken 40 = .ok (.iconst (-1), 1) := by decide +kernel
theorem dX2_nextToken_41 : decode cX2_nextToken 41 = .ok (.if_icmp .ne 11, 3) := by decide +kernel
theorem dX2_nextToken_44 : decode cX2_nextToken 44 = .ok (.aload_n 0, 1) := by decide +kernel
theorem dX2_nextToken_45 : decode cX2_nextToken 45 = .ok (.iconst 0, 1) := by decide +kernel
theorem dX2_nextToken_46 : decode cX2_nextToken 46 = .ok (.putfield 55, 3) := by decide +kernel
theorem dX2_nextToken_49 : decode cX2_nextToken 49 = .ok (.goto 62, 3) := by decide +kernel
theorem dX2_nextToken_52 : decode cX2_nextToken 52 = .ok (.iload_n 1, 1) := by decide +kernel
theorem dX2_nextToken_53 : decode cX2_nextToken 53 = .ok (.invokestatic 144, 3) := by decide +kernel
theorem dX2_nextToken_56 : decode cX2_nextToken 56 = .ok (.ifCond .eq 10, 3) := by decide +kernel
theorem dX2_nextToken_59 : decode cX2_nextToken 59 = .ok (.aload_n 0, 1) := by decide +kernel
theorem dX2_nextToken_60 : decode cX2_nextToken 60 = .ok (.invokevirtual 151, 3) := by decide +kernel
theorem dX2_nextToken_63 : decode cX2_nextToken 63 = .ok (.goto 48, 3) := by decide +kernel
theorem dX2_nextToken_66 : decode cX2_nextToken 66 = .ok (.iload_n 1, 1) := by decide +kernel
theorem dX2_nextToken_67 : decode cX2_nextToken 67 = .ok (.invokestatic 154, 3) := by decide +kernel
theorem dX2_nextToken_70 : decode cX2_nextToken 70 = .ok (.ifCond .eq 10, 3) := by decide +kernel
theorem dX2_nextToken_73 : decode cX2_nextToken 73 = .ok (.aload_n 0, 1) := by decide +kernel
theorem dX2_nextToken_74 : decode cX2_nextToken 74 = .ok (.invokevirtual 157, 3) := by decide +kernel
theorem dX2_nextToken_77 : decode cX2_nextToken 77 = .ok (.goto 34, 3) := by decide +kernel
theorem dX2_nextToken_80 : decode cX2_nextToken 80 = .ok (.aload_n 0, 1) := by decide +kernel
theorem dX2_nextToken_81 : decode cX2_nextToken 81 = .ok (.iload_n 1, 1) := by decide +kernel
theorem dX2_nextToken_82 : decode cX2_nextToken 82 = .ok (.bipush 46, 2) := by decide +kernel
theorem dX2_nextToken_84 : decode cX2_nextToken 84 = .ok (.if_icmp .eq 9, 3) := by decide +kernel
theorem dX2_nextToken_87 : decode cX2_nextToken 87 = .ok (.iload_n 1, 1) := by decide +kernel
theorem dX2_nextToken_88 : decode cX2_nextToken 88 = .ok (.bipush 63, 2) := by decide +kernel
theorem dX2_nextToken_90 : decode cX2_nextToken 90 = .ok (.if_icmp .ne 7, 3) := by decide +kernel
theorem dX2_nextToken_93 : decode cX2_nextToken 93 = .ok (.iconst 3, 1) := by decide +kernel
theorem dX2_nextToken_94 : decode cX2_nextToken 94 = .ok (.goto 4, 3) := by decide +kernel
theorem dX2_nextToken_97 : decode cX2_nextToken 97 = .ok (.iconst 4, 1) := by decide +kernel
theorem dX2_nextToken_98 : decode cX2_nextToken 98 = .ok (.putfield 55, 3) := by decide +kernel
theorem dX2_nextToken_101 : decode cX2_nextToken 101 = .ok (.aload_n 0, 1) := by decide +kernel
theorem dX2_nextToken_102 : decode cX2_nextToken 102 = .ok (.dup, 1) := by decide +kernel
theorem dX2_nextToken_103 : decode cX2_nextToken 103 = .ok (.getfield 38, 3) := by decide +kernel
theorem dX2_nextToken_106 : decode cX2_nextToken 106 = .ok (.iconst 1, 1) := by decide +kernel
theorem dX2_nextToken_107 : decode cX2_nextToken 107 = .ok (.iadd, 1) := by decide +kernel
theorem dX2_nextToken_108 : decode cX2_nextToken 108 = .ok (.putfield 38, 3) := by decide +kernel
theorem dX2_nextToken_111 : decode cX2_nextToken 111 = .ok (.return_, 1) := by decide +kernel
theorem dX2_skipBlanks_0 : decode cX2_skipBlanks 0 = .ok (.aload_n 0, 1) := by decide +kernel
theorem dX2_skipBlanks_1 : decode cX2_skipBlanks 1 = .ok (.getfield 38, 3) := by decide +kernel
theorem dX2_skipBlanks_4 : decode cX2_skipBlanks 4 = .ok (.aload_n 0, 1) := by decide +kernel
theorem dX2_skipBlanks_5 : decode cX2_skipBlanks 5 = .ok (.getfield 34, 3) := by decide +kernel
theorem dX2_skipBlanks_8 : decode cX2_skipBlanks 8 = .ok (.getfield 160, 3) := by decide +kernel
theorem dX2_skipBlanks_11 : decode cX2_skipBlanks 11 = .ok (.if_icmp .ge 48, 3) := by decide +kernel
theorem dX2_skipBlanks_14 : decode cX2_skipBlanks 14 = .ok (.aload_n 0, 1) := by decide +kernel
theorem dX2_skipBlanks_15 : decode cX2_skipBlanks 15 = .ok (.getfield 34, 3) := by decide +kernel
theorem dX2_skipBlanks_18 : decode cX2_skipBlanks 18 = .ok (.aload_n 0, 1) := by decide +kernel
theorem dX2_skipBlanks_19 : decode cX2_skipBlanks 19 = .ok (.getfield 38, 3) := by decide +kernel
theorem dX2_skipBlanks_22 : decode cX2_skipBlanks 22 = .ok (.invokevirtual 138, 3) := by decide +kernel
theorem dX2_skipBlanks_25 : decode cX2_skipBlanks 25 = .ok (.bipush 32, 2) := by decide +kernel
theorem dX2_skipBlanks_27 : decode cX2_skipBlanks 27 = .ok (.if_icmp .eq 19, 3) := by decide +kernel
theorem dX2_skipBlanks_30 : decode cX2_skipBlanks 30 = .ok (.aload_n 0, 1) := by decide +kernel
theorem dX2_skipBlanks_31 : decode cX2_skipBlanks 31 = .ok (.getfield 34, 3) := by decide +kernel
theorem dX2_skipBlanks_34 : decode cX2_skipBlanks 34 = .ok (.aload_n 0, 1) := by decide +kernel
theorem dX2_skipBlanks_35 : decode cX2_skipBlanks 35 = .ok (.getfield 38, 3) := by decide +kernel
theorem dX2_skipBlanks_38 : decode cX2_skipBlanks 38 = .ok (.invokevirtual 138, 3) := by decide +kernel
theorem dX2_skipBlanks_41 : decode cX2_skipBlanks 41 = .ok (.bipush 10, 2) := by decide +kernel
theorem dX2_skipBlanks_43 : decode cX2_skipBlanks 43 = .ok (.if_icmp .ne 16, 3) := by decide +kernel
theorem dX2_skipBlanks_46 : decode cX2_skipBlanks 46 = .ok (.aload_n 0, 1) := by decide +kernel
theorem dX2_skipBlanks_47 : decode cX2_skipBlanks 47 = .ok (.dup, 1) := by decide +kernel
theorem dX2_skipBlanks_48 : decode cX2_skipBlanks 48 = .ok (.getfield 38, 3) := by decide +kernel
theorem dX2_skipBlanks_51 : decode cX2_skipBlanks 51 = .ok (.iconst 1, 1) := by decide +kernel
theorem dX2_skipBlanks_52 : decode cX2_skipBlanks 52 = .ok (.iadd, 1) := by decide +kernel
theorem dX2_skipBlanks_53 : decode cX2_skipBlanks 53 = .ok (.putfield 38, 3) := by decide +kernel
theorem dX2_skipBlanks_56 : decode cX2_skipBlanks 56 = .ok (.goto (-56), 3) := by decide +kernel
theorem dX2_skipBlanks_59 : decode cX2_skipBlanks 59 = .ok (.return_, 1) := by decide +kernel
theorem dX2_takeWord_0 : decode cX2_takeWord 0 = .ok (.aload_n 0, 1) := by decide +kernel
theorem dX2_takeWord_1 : decode cX2_takeWord 1 = .ok (.iconst 1, 1) := by decide +kernel
theorem dX2_takeWord_2 : decode cX2_takeWord 2 = .ok (.putfield 55, 3) := by decide +kernel
theorem dX2_takeWord_5 : decode cX2_takeWord 5 = .ok (.lconst 0, 1) := by decide +kernel
theorem dX2_takeWord_6 : decode cX2_takeWord 6 = .ok (.lstore_n 1, 1) := by decide +kernel
theorem dX2_takeWord_7 : decode cX2_takeWord 7 = .ok (.aload_n 0, 1) := by decide +kernel
theorem dX2_takeWord_8 : decode cX2_takeWord 8 = .ok (.getfield 38, 3) := by decide +kernel
theorem dX2_takeWord_11 : decode cX2_takeWord 11 = .ok (.aload_n 0, 1) := by decide +kernel
theorem dX2_takeWord_12 : decode cX2_takeWord 12 = .ok (.getfield 34, 3) := by decide +kernel
theorem dX2_takeWord_15 : decode cX2_takeWord 15 = .ok (.getfield 160, 3) := by decide +kernel
theorem dX2_takeWord_18 : decode cX2_takeWord 18 = .ok (.if_icmp .ge 51, 3) := by decide +kernel
theorem dX2_takeWord_21 : decode cX2_takeWord 21 = .ok (.aload_n 0, 1) := by decide +kernel
theorem dX2_takeWord_22 : decode cX2_takeWord 22 = .ok (.getfield 34, 3) := by decide +kernel
theorem dX2_takeWord_25 : decode cX2_takeWord 25 = .ok (.aload_n 0, 1) := by decide +kernel
theorem dX2_takeWord_26 : decode cX2_takeWord 26 = .ok (.getfield 38, 3) := by decide +kernel
theorem dX2_takeWord_29 : decode cX2_takeWord 29 = .ok (.invokevirtual 138, 3) := by decide +kernel
theorem dX2_takeWord_32 : decode cX2_takeWord 32 = .ok (.invokestatic 144, 3) := by decide +kernel
theorem dX2_takeWord_35 : decode cX2_takeWord 35 = .ok (.ifCond .eq 34, 3) := by decide +kernel
theorem dX2_takeWord_38 : decode cX2_takeWord 38 = .ok (.lload_n 1, 1) := by decide +kernel
theorem dX2_takeWord_39 : decode cX2_takeWord 39 = .ok (.bipush 8, 2) := by decide +kernel
theorem dX2_takeWord_41 : decode cX2_takeWord 41 = .ok (.lshl, 1) := by decide +kernel
theorem dX2_takeWord_42 : decode cX2_takeWord 42 = .ok (.aload_n 0, 1) := by decide +kernel
theorem dX2_takeWord_43 : decode cX2_takeWord 43 = .ok (.getfield 34, 3) := by decide +kernel
theorem dX2_takeWord_46 : decode cX2_takeWord 46 = .ok (.aload_n 0, 1) := by decide +kernel
theorem dX2_takeWord_47 : decode cX2_takeWord 47 = .ok (.getfield 38, 3) := by decide +kernel
theorem dX2_takeWord_50 : decode cX2_takeWord 50 = .ok (.invokevirtual 138, 3) := by decide +kernel
theorem dX2_takeWord_53 : decode cX2_takeWord 53 = .ok (.i2l, 1) := by decide +kernel
theorem dX2_takeWord_54 : decode cX2_takeWord 54 = .ok (.lor, 1) := by decide +kernel
theorem dX2_takeWord_55 : decode cX2_takeWord 55 = .ok (.lstore_n 1, 1) := by decide +kernel
theorem dX2_takeWord_56 : decode cX2_takeWord 56 = .ok (.aload_n 0, 1) := by decide +kernel
theorem dX2_takeWord_57 : decode cX2_takeWord 57 = .ok (.dup, 1) := by decide +kernel
theorem dX2_takeWord_58 : decode cX2_takeWord 58 = .ok (.getfield 38, 3) := by decide +kernel
theorem dX2_takeWord_61 : decode cX2_takeWord 61 = .ok (.iconst 1, 1) := by decide +kernel
theorem dX2_takeWord_62 : decode cX2_takeWord 62 = .ok (.iadd, 1) := by decide +kernel
theorem dX2_takeWord_63 : decode cX2_takeWord 63 = .ok (.putfield 38, 3) := by decide +kernel
theorem dX2_takeWord_66 : decode cX2_takeWord 66 = .ok (.goto (-59), 3) := by decide +kernel
theorem dX2_takeWord_69 : decode cX2_takeWord 69 = .ok (.aload_n 0, 1) := by decide +kernel
theorem dX2_takeWord_70 : decode cX2_takeWord 70 = .ok (.getfield 38, 3) := by decide +kernel
theorem dX2_takeWord_73 : decode cX2_takeWord 73 = .ok (.aload_n 0, 1) := by decide +kernel
theorem dX2_takeWord_74 : decode cX2_takeWord 74 = .ok (.getfield 80, 3) := by decide +kernel
theorem dX2_takeWord_77 : decode cX2_takeWord 77 = .ok (.isub, 1) := by decide +kernel
theorem dX2_takeWord_78 : decode cX2_takeWord 78 = .ok (.bipush 8, 2) := by decide +kernel
theorem dX2_takeWord_80 : decode cX2_takeWord 80 = .ok (.if_icmp .gt 27, 3) := by decide +kernel
theorem dX2_takeWord_83 : decode cX2_takeWord 83 = .ok (.aload_n 0, 1) := by decide +kernel
theorem dX2_takeWord_84 : decode cX2_takeWord 84 = .ok (.aload_n 0, 1) := by decide +kernel
theorem dX2_takeWord_85 : decode cX2_takeWord 85 = .ok (.getfield 30, 3) := by decide +kernel
theorem dX2_takeWord_88 : decode cX2_takeWord 88 = .ok (.lload_n 1, 1) := by decide +kernel
theorem dX2_takeWord_89 : decode cX2_takeWord 89 = .ok (.invokevirtual 162, 3) := by decide +kernel
theorem dX2_takeWord_92 : decode cX2_takeWord 92 = .ok (.putfield 117, 3) := by decide +kernel
theorem dX2_takeWord_95 : decode cX2_takeWord 95 = .ok (.aload_n 0, 1) := by decide +kernel
theorem dX2_takeWord_96 : decode cX2_takeWord 96 = .ok (.aload_n 0, 1) := by decide +kernel
theorem dX2_takeWord_97 : decode cX2_takeWord 97 = .ok (.getfield 30, 3) := by decide +kernel
theorem dX2_takeWord_100 : decode cX2_takeWord 100 = .ok (.lload_n 1, 1) := by decide +kernel
theorem dX2_takeWord_101 : decode cX2_takeWord 101 = .ok (.invokevirtual 168, 3) := by decide +kernel
theorem dX2_takeWord_104 : decode cX2_takeWord 104 = .ok (.putfield 126, 3) := by decide +kernel
theorem dX2_takeWord_107 : decode cX2_takeWord 107 = .ok (.return_, 1) := by decide +kernel
theorem dX2_takeNumber_0 : decode cX2_takeNumber 0 = .ok (.iconst 0, 1) := by decide +kernel
theorem dX2_takeNumber_1 : decode cX2_takeNumber 1 = .ok (.istore_n 1, 1) := by decide +kernel
theorem dX2_takeNumber_2 : decode cX2_takeNumber 2 = .ok (.aload_n 0, 1) := by decide +kernel
theorem dX2_takeNumber_3 : decode cX2_takeNumber 3 = .ok (.getfield 34, 3) := by decide +kernel
theorem dX2_takeNumber_6 : decode cX2_takeNumber 6 = .ok (.aload_n 0, 1) := by decide +kernel
theorem dX2_takeNumber_7 : decode cX2_takeNumber 7 = .ok (.getfield 38, 3) := by decide +kernel
theorem dX2_takeNumber_10 : decode cX2_takeNumber 10 = .ok (.invokevirtual 138, 3) := by decide +kernel
theorem dX2_takeNumber_13 : decode cX2_takeNumber 13 = .ok (.bipush 48, 2) := by decide +kernel
theorem dX2_takeNumber_15 : decode cX2_takeNumber 15 = .ok (.if_icmp .eq 7, 3) := by decide +kernel
theorem dX2_takeNumber_18 : decode cX2_takeNumber 18 = .ok (.iconst 1, 1) := by decide +kernel
theorem dX2_takeNumber_19 : decode cX2_takeNumber 19 = .ok (.goto 4, 3) := by decide +kernel
theorem dX2_takeNumber_22 : decode cX2_takeNumber 22 = .ok (.iconst 0, 1) := by decide +kernel
theorem dX2_takeNumber_23 : decode cX2_takeNumber 23 = .ok (.istore_n 2, 1) := by decide +kernel
theorem dX2_takeNumber_24 : decode cX2_takeNumber 24 = .ok (.aload_n 0, 1) := by decide +kernel
theorem dX2_takeNumber_25 : decode cX2_takeNumber 25 = .ok (.getfield 38, 3) := by decide +kernel
theorem dX2_takeNumber_28 : decode cX2_takeNumber 28 = .ok (.aload_n 0, 1) := by decide +kernel
theorem dX2_takeNumber_29 : decode cX2_takeNumber 29 = .ok (.getfield 34, 3) := by decide +kernel
theorem dX2_takeNumber_32 : decode cX2_takeNumber 32 = .ok (.getfield 160, 3) := by decide +kernel
theorem dX2_takeNumber_35 : decode cX2_takeNumber 35 = .ok (.if_icmp .ge 53, 3) := by decide +kernel
theorem dX2_takeNumber_38 : decode cX2_takeNumber 38 = .ok (.aload_n 0, 1) := by decide +kernel
theorem dX2_takeNumber_39 : decode cX2_takeNumber 39 = .ok (.getfield 34, 3) := by decide +kernel
theorem dX2_takeNumber_42 : decode cX2_takeNumber 42 = .ok (.aload_n 0, 1) := by decide +kernel
theorem dX2_takeNumber_43 : decode cX2_takeNumber 43 = .ok (.getfield 38, 3) := by decide +kernel
theorem dX2_takeNumber_46 : decode cX2_takeNumber 46 = .ok (.invokevirtual 138, 3) := by decide +kernel
theorem dX2_takeNumber_49 : decode cX2_takeNumber 49 = .ok (.invokestatic 154, 3) := by decide +kernel
theorem dX2_takeNumber_52 : decode cX2_takeNumber 52 = .ok (.ifCond .eq 36, 3) := by decide +kernel
theorem dX2_takeNumber_55 : decode cX2_takeNumber 55 = .ok (.iload_n 1, 1) := by decide +kernel
theorem dX2_takeNumber_56 : decode cX2_takeNumber 56 = .ok (.bipush 10, 2) := by decide +kernel
theorem dX2_takeNumber_58 : decode cX2_takeNumber 58 = .ok (.imul, 1) := by decide +kernel
theorem dX2_takeNumber_59 : decode cX2_takeNumber 59 = .ok (.aload_n 0, 1) := by decide +kernel
theorem dX2_takeNumber_60 : decode cX2_takeNumber 60 = .ok (.getfield 34, 3) := by decide +kernel
theorem dX2_takeNumber_63 : decode cX2_takeNumber 63 = .ok (.aload_n 0, 1) := by decide +kernel
theorem dX2_takeNumber_64 : decode cX2_takeNumber 64 = .ok (.getfield 38, 3) := by decide +kernel
theorem dX2_takeNumber_67 : decode cX2_takeNumber 67 = .ok (.invokevirtual 138, 3) := by decide +kernel
theorem dX2_takeNumber_70 : decode cX2_takeNumber 70 = .ok (.iadd, 1) := by decide +kernel
theorem dX2_takeNumber_71 : decode cX2_takeNumber 71 = .ok (.bipush 48, 2) := by decide +kernel
theorem dX2_takeNumber_73 : decode cX2_takeNumber 73 = .ok (.isub, 1) := by decide +kernel
theorem dX2_takeNumber_74 : decode cX2_takeNumber 74 = .ok (.istore_n 1, 1) := by decide +kernel
theorem dX2_takeNumber_75 : decode cX2_takeNumber 75 = .ok (.aload_n 0, 1) := by decide +kernel
theorem dX2_takeNumber_76 : decode cX2_takeNumber 76 = .ok (.dup, 1) := by decide +kernel
theorem dX2_takeNumber_77 : decode cX2_takeNumber 77 = .ok (.getfield 38, 3) := by decide +kernel
theorem dX2_takeNumber_80 : decode cX2_takeNumber 80 = .ok (.iconst 1, 1) := by decide +kernel
theorem dX2_takeNumber_81 : decode cX2_takeNumber 81 = .ok (.iadd, 1) := by decide +kernel
theorem dX2_takeNumber_82 : decode cX2_takeNumber 82 = .ok (.putfield 38, 3) := by decide +kernel
theorem dX2_takeNumber_85 : decode cX2_takeNumber 85 = .ok (.goto (-61), 3) := by decide +kernel
theorem dX2_takeNumber_88 : decode cX2_takeNumber 88 = .ok (.iload_n 2, 1) := by decide +kernel
theorem dX2_takeNumber_89 : decode cX2_takeNumber 89 = .ok (.ifCond .eq 20, 3) := by decide +kernel
theorem dX2_takeNumber_92 : decode cX2_takeNumber 92 = .ok (.aload_n 0, 1) := by decide +kernel
theorem dX2_takeNumber_93 : decode cX2_takeNumber 93 = .ok (.getfield 38, 3) := by decide +kernel
theorem dX2_takeNumber_96 : decode cX2_takeNumber 96 = .ok (.aload_n 0, 1) := by decide +kernel
theorem dX2_takeNumber_97 : decode cX2_takeNumber 97 = .ok (.getfield 80, 3) := by decide +kernel
theorem dX2_takeNumber_100 : decode cX2_takeNumber 100 = .ok (.isub, 1) := by decide +kernel
theorem dX2_takeNumber_101 : decode cX2_takeNumber 101 = .ok (.iconst 4, 1) := by decide +kernel
theorem dX2_takeNumber_102 : decode cX2_takeNumber 102 = .ok (.if_icmp .gt 7, 3) := by decide +kernel
theorem dX2_takeNumber_105 : decode cX2_takeNumber 105 = .ok (.iconst 1, 1) := by decide +kernel
theorem dX2_takeNumber_106 : decode cX2_takeNumber 106 = .ok (.goto 4, 3) := by decide +kernel
theorem dX2_takeNumber_109 : decode cX2_takeNumber 109 = .ok (.iconst 0, 1) := by decide +kernel
theorem dX2_takeNumber_110 : decode cX2_takeNumber 110 = .ok (.istore_n 2, 1) := by decide +kernel
theorem dX2_takeNumber_111 : decode cX2_takeNumber 111 = .ok (.aload_n 0, 1) := by decide +kernel
theorem dX2_takeNumber_112 : decode cX2_takeNumber 112 = .ok (.iload_n 2, 1) := by decide +kernel
theorem dX2_takeNumber_113 : decode cX2_takeNumber 113 = .ok (.ifCond .eq 7, 3) := by decide +kernel
theorem dX2_takeNumber_116 : decode cX2_takeNumber 116 = .ok (.iconst 2, 1) := by decide +kernel
theorem dX2_takeNumber_117 : decode cX2_takeNumber 117 = .ok (.goto 4, 3) := by decide +kernel
theorem dX2_takeNumber_120 : decode cX2_takeNumber 120 = .ok (.iconst 4, 1) := by decide +kernel
theorem dX2_takeNumber_121 : decode cX2_takeNumber 121 = .ok (.putfield 55, 3) := by decide +kernel
theorem dX2_takeNumber_124 : decode cX2_takeNumber 124 = .ok (.aload_n 0, 1) := by decide +kernel
theorem dX2_takeNumber_125 : decode cX2_takeNumber 125 = .ok (.iload_n 2, 1) := by decide +kernel
theorem dX2_takeNumber_126 : decode cX2_takeNumber 126 = .ok (.ifCond .eq 7, 3) := by decide +kernel
theorem dX2_takeNumber_129 : decode cX2_takeNumber 129 = .ok (.iload_n 1, 1) := by decide +kernel
theorem dX2_takeNumber_130 : decode cX2_takeNumber 130 = .ok (.goto 4, 3) := by decide +kernel
theorem dX2_takeNumber_133 : decode cX2_takeNumber 133 = .ok (.iconst (-1), 1) := by decide +kernel
theorem dX2_takeNumber_134 : decode cX2_takeNumber 134 = .ok (.putfield 132, 3) := by decide +kernel
theorem dX2_takeNumber_137 : decode cX2_takeNumber 137 = .ok (.return_, 1) := by decide +kernel
theorem dX3_init_0 : decode cX3_init 0 = .ok (.aload_n 0, 1) := by decide +kernel
theorem dX3_init_1 : decode cX3_init 1 = .ok (.invokespecial 3, 3) := by decide +kernel
theorem dX3_init_4 : decode cX3_init 4 = .ok (.return_, 1) := by decide +kernel
theorem dX3_clear_0 : decode cX3_clear 0 = .ok (.aload_n 0, 1) := by decide +kernel
theorem dX3_clear_1 : decode cX3_clear 1 = .ok (.bipush 32, 2) := by decide +kernel
theorem dX3_clear_3 : decode cX3_clear 3 = .ok (.putfield 9, 3) := by decide +kernel
theorem dX3_clear_6 : decode cX3_clear 6 = .ok (.aload_n 0, 1) := by decide +kernel
theorem dX3_clear_7 : decode cX3_clear 7 = .ok (.iconst (-1), 1) := by decide +kernel
theorem dX3_clear_8 : decode cX3_clear 8 = .ok (.putfield 15, 3) := by decide +kernel
theorem dX3_clear_11 : decode cX3_clear 11 = .ok (.aload_n 0, 1) := by decide +kernel
theorem dX3_clear_12 : decode cX3_clear 12 = .ok (.iconst (-1), 1) := by decide +kernel
theorem dX3_clear_13 : decode cX3_clear 13 = .ok (.putfield 19, 3) := by decide +kernel
theorem dX3_clear_16 : decode cX3_clear 16 = .ok (.aload_n 0, 1) := by decide +kernel
theorem dX3_clear_17 : decode cX3_clear 17 = .ok (.iconst (-1), 1) := by decide +kernel
theorem dX3_clear_18 : decode cX3_clear 18 = .ok (.putfield 22, 3) := by decide +kernel
theorem dX3_clear_21 : decode cX3_clear 21 = .ok (.aload_n 0, 1) := by decide +kernel
theorem dX3_clear_22 : decode cX3_clear 22 = .ok (.iconst (-1), 1) := by decide +kernel
theorem dX3_clear_23 : decode cX3_clear 23 = .ok (.putfield 25, 3) := by decide +kernel
theorem dX3_clear_26 : decode cX3_clear 26 = .ok (.return_, 1) := by decide +kernel
theorem dX4_init_0 : decode cX4_init 0 = .ok (.aload_n 0, 1) := by decide +kernel
theorem dX4_init_1 : decode cX4_init 1 = .ok (.invokespecial 3, 3) := by decide +kernel
theorem dX4_init_4 : decode cX4_init 4 = .ok (.aload_n 0, 1) := by decide +kernel
theorem dX4_init_5 : decode cX4_init 5 = .ok (.bipush 6, 2) := by decide +kernel
theorem dX4_init_7 : decode cX4_init 7 = .ok (.newarray .int, 2) := by decide +kernel
theorem dX4_init_9 : decode cX4_init 9 = .ok (.putfield 9, 3) := by decide +kernel
theorem dX4_init_12 : decode cX4_init 12 = .ok (.aload_n 0, 1) := by decide +kernel
theorem dX4_init_13 : decode cX4_init 13 = .ok (.bipush 6, 2) := by decide +kernel
theorem dX4_init_15 : decode cX4_init 15 = .ok (.newarray .boolean, 2) := by decide +kernel
theorem dX4_init_17 : decode cX4_init 17 = .ok (.putfield 15, 3) := by decide +kernel
theorem dX4_init_20 : decode cX4_init 20 = .ok (.aload_n 0, 1) := by decide +kernel
theorem dX4_init_21 : decode cX4_init 21 = .ok (.iconst 4, 1) := by decide +kernel
theorem dX4_init_22 : decode cX4_init 22 = .ok (.newarray .int, 2) := by decide +kernel
theorem dX4_init_24 : decode cX4_init 24 = .ok (.putfield 19, 3) := by decide +kernel
theorem dX4_init_27 : decode cX4_init 27 = .ok (.aload_n 0, 1) := by decide +kernel
theorem dX4_init_28 : decode cX4_init 28 = .ok (.iconst 4, 1) := by decide +kernel
theorem dX4_init_29 : decode cX4_init 29 = .ok (.newarray .int, 2) := by decide +kernel
theorem dX4_init_31 : decode cX4_init 31 = .ok (.putfield 22, 3) := by decide +kernel
theorem dX4_init_34 : decode cX4_init 34 = .ok (.aload_n 0, 1) := by decide +kernel
theorem dX4_init_35 : decode cX4_init 35 = .ok (.iconst (-1), 1) := by decide +kernel
theorem dX4_init_36 : decode cX4_init 36 = .ok (.putfield 25, 3) := by decide +kernel
theorem dX4_init_39 : decode cX4_init 39 = .ok (.aload_n 0, 1) := by decide +kernel
theorem dX4_init_40 : decode cX4_init 40 = .ok (.iconst (-1), 1) := by decide +kernel
theorem dX4_init_41 : decode cX4_init 41 = .ok (.putfield 29, 3) := by decide +kernel
theorem dX4_init_44 : decode cX4_init 44 = .ok (.aload_n 0, 1) := by decide +kernel
theorem dX4_init_45 : decode cX4_init 45 = .ok (.iconst 1, 1) := by decide +kernel
theorem dX4_init_46 : decode cX4_init 46 = .ok (.putfield 32, 3) := by decide +kernel
theorem dX4_init_49 : decode cX4_init 49 = .ok (.aload_n 0, 1) := by decide +kernel
theorem dX4_init_50 : decode cX4_init 50 = .ok (.aload_n 1, 1) := by decide +kernel
theorem dX4_init_51 : decode cX4_init 51 = .ok (.putfield 36, 3) := by decide +kernel
theorem dX4_init_54 : decode cX4_init 54 = .ok (.aload_n 0, 1) := by decide +kernel
theorem dX4_init_55 : decode cX4_init 55 = .ok (.aload_n 2, 1) := by decide +kernel
theorem dX4_init_56 : decode cX4_init 56 = .ok (.putfield 40, 3) := by decide +kernel
theorem dX4_init_59 : decode cX4_init 59 = .ok (.return_, 1) := by decide +kernel
theorem dX4_renew_0 : decode cX4_renew 0 = .ok (.aload_n 0, 1) := by decide +kernel
theorem dX4_renew_1 : decode cX4_renew 1 = .ok (.iconst (-1), 1) := by decide +kernel
theorem dX4_renew_2 : decode cX4_renew 2 = .ok (.putfield 25, 3) := by decide +kernel
theorem dX4_renew_5 : decode cX4_renew 5 = .ok (.aload_n 0, 1) := by decide +kernel
theorem dX4_renew_6 : decode cX4_renew 6 = .ok (.aload_n 0, 1) := by decide +kernel
theorem dX4_renew_7 : decode cX4_renew 7 = .ok (.getfield 40, 3) := by decide +kernel
theorem dX4_renew_10 : decode cX4_renew 10 = .ok (.aload_n 0, 1) := by decide +kernel
theorem dX4_renew_11 : decode cX4_renew 11 = .ok (.getfield 36, 3) := by decide +kernel
theorem dX4_renew_14 : decode cX4_renew 14 = .ok (.getfield 44, 3) := by decide +kernel
theorem dX4_renew_17 : decode cX4_renew 17 = .ok (.invokevirtual 49, 3) := by decide +kernel
theorem dX4_renew_20 : decode cX4_renew 20 = .ok (.putfield 55, 3) := by decide +kernel
theorem dX4_renew_23 : decode cX4_renew 23 = .ok (.aload_n 0, 1) := by decide +kernel
theorem dX4_renew_24 : decode cX4_renew 24 = .ok (.aload_n 0, 1) := by decide +kernel
theorem dX4_renew_25 : decode cX4_renew 25 = .ok (.getfield 40, 3) := by decide +kernel
theorem dX4_renew_28 : decode cX4_renew 28 = .ok (.aload_n 0, 1) := by decide +kernel
theorem dX4_renew_29 : decode cX4_renew 29 = .ok (.getfield 36, 3) := by decide +kernel
theorem dX4_renew_32 : decode cX4_renew 32 = .ok (.getfield 58, 3) := by decide +kernel
theorem dX4_renew_35 : decode cX4_renew 35 = .ok (.invokevirtual 49, 3) := by decide +kernel
theorem dX4_renew_38 : decode cX4_renew 38 = .ok (.putfield 61, 3) := by decide +kernel
theorem dX4_renew_41 : decode cX4_renew 41 = .ok (.iconst 0, 1) := by decide +kernel
theorem dX4_renew_42 : decode cX4_renew 42 = .ok (.istore_n 1, 1) := by decide +kernel
theorem dX4_renew_43 : decode cX4_renew 43 = .ok (.iload_n 1, 1) := by decide +kernel
theorem dX4_renew_44 : decode cX4_renew 44 = .ok (.bipush 6, 2) := by decide +kernel
theorem dX4_renew_46 : decode cX4_renew 46 = .ok (.if_icmp .ge 23, 3) := by decide +kernel
theorem dX4_renew_49 : decode cX4_renew 49 = .ok (.aload_n 0, 1) := by decide +kernel
theorem dX4_renew_50 : decode cX4_renew 50 = .ok (.getfield 15, 3) := by decide +kernel
theorem dX4_renew_53 : decode cX4_renew 53 = .ok (.iload_n 1, 1) := by decide +kernel
theorem dX4_renew_54 : decode cX4_renew 54 = .ok (.aload_n 0, 1) := by decide +kernel
theorem dX4_renew_55 : decode cX4_renew 55 = .ok (.getfield 36, 3) := by decide +kernel
theorem dX4_renew_58 : decode cX4_renew 58 = .ok (.iload_n 1, 1) := by decide +kernel
theorem dX4_renew_59 : decode cX4_renew 59 = .ok (.invokevirtual 64, 3) := by decide +kernel
theorem dX4_renew_62 : decode cX4_renew 62 = .ok (.bastore, 1) := by decide +kernel
theorem dX4_renew_63 : decode cX4_renew 63 = .ok (.iinc 1 1, 3) := by decide +kernel
theorem dX4_renew_66 : decode cX4_renew 66 = .ok (.goto (-23), 3) := by decide +kernel
theorem dX4_renew_69 : decode cX4_renew 69 = .ok (.iconst 0, 1) := by decide +kernel
theorem dX4_renew_70 : decode cX4_renew 70 = .ok (.istore_n 1, 1) := by decide +kernel
theorem dX4_renew_71 : decode cX4_renew 71 = .ok (.iload_n 1, 1) := by decide +kernel
theorem dX4_renew_72 : decode cX4_renew 72 = .ok (.iconst 4, 1) := by decide +kernel
theorem dX4_renew_73 : decode cX4_renew 73 = .ok (.if_icmp .ge 37, 3) := by decide +kernel
theorem dX4_renew_76 : decode cX4_renew 76 = .ok (.aload_n 0, 1) := by decide +kernel
theorem dX4_renew_77 : decode cX4_renew 77 = .ok (.getfield 19, 3) := by decide +kernel
theorem dX4_renew_80 : decode cX4_renew 80 = .ok (.iload_n 1, 1) := by decide +kernel
theorem dX4_renew_81 : decode cX4_renew 81 = .ok (.aload_n 0, 1) := by decide +kernel
theorem dX4_renew_82 : decode cX4_renew 82 = .ok (.getfield 36, 3) := by decide +kernel
theorem dX4_renew_85 : decode cX4_renew 85 = .ok (.iload_n 1, 1) := by decide +kernel
theorem dX4_renew_86 : decode cX4_renew 86 = .ok (.invokevirtual 68, 3) := by decide +kernel
theorem dX4_renew_89 : decode cX4_renew 89 = .ok (.iastore, 1) := by decide +kernel
theorem dX4_renew_90 : decode cX4_renew 90 = .ok (.aload_n 0, 1) := by decide +kernel
theorem dX4_renew_91 : decode cX4_renew 91 = .ok (.getfield 22, 3) := by decide +kernel
theorem dX4_renew_94 : decode cX4_renew 94 = .ok (.iload_n 1, 1) := by decide +kernel
theorem dX4_renew_95 : decode cX4_renew 95 = .ok (.aload_n 0, 1) := by decide +kernel
theorem dX4_renew_96 : decode cX4_renew 96 = .ok (.getfield 36, 3) := by decide +kernel
theorem dX4_renew_99 : decode cX4_renew 99 = .ok (.iload_n 1, 1) := by decide +kernel
theorem dX4_renew_100 : decode cX4_renew 100 = .ok (.invokevirtual 70, 3) := by decide +kernel
theorem dX4_renew_103 : decode cX4_renew 103 = .ok (.iastore, 1) := by decide +kernel
theorem dX4_renew_104 : decode cX4_renew 104 = .ok (.iinc 1 1, 3) := by decide +kernel
theorem dX4_renew_107 : decode cX4_renew 107 = .ok (.goto (-36), 3) := by decide +kernel
theorem dX4_renew_110 : decode cX4_renew 110 = .ok (.aload_n 0, 1) := by decide +kernel
theorem dX4_renew_111 : decode cX4_renew 111 = .ok (.invokevirtual 72, 3) := by decide +kernel
theorem dX4_renew_114 : decode cX4_renew 114 = .ok (.return_, 1) := by decide +kernel
theorem dX4_countAll_0 : decode cX4_countAll 0 = .ok (.iconst 0, 1) := by decide +kernel
theorem dX4_countAll_1 : decode cX4_countAll 1 = .ok (.istore_n 1, 1) := by decide +kernel
theorem dX4_countAll_2 : decode cX4_countAll 2 = .ok (.iload_n 1, 1) := by decide +kernel
theorem dX4_countAll_3 : decode cX4_countAll 3 = .ok (.ldc 75, 2) := by decide +kernel
theorem dX4_countAll_5 : decode cX4_countAll 5 = .ok (.if_icmp .ge 21, 3) := by decide +kernel
theorem dX4_countAll_8 : decode cX4_countAll 8 = .ok (.aload_n 0, 1) := by decide +kernel
theorem dX4_countAll_9 : decode cX4_countAll 9 = .ok (.getfield 25, 3) := by decide +kernel
theorem dX4_countAll_12 : decode cX4_countAll 12 = .ok (.iconst (-1), 1) := by decide +kernel
theorem dX4_countAll_13 : decode cX4_countAll 13 = .ok (.if_icmp .ne 13, 3) := by decide +kernel
theorem dX4_countAll_16 : decode cX4_countAll 16 = .ok (.aload_n 0, 1) := by decide +kernel
theorem dX4_countAll_17 : decode cX4_countAll 17 = .ok (.invokevirtual 76, 3) := by decide +kernel
theorem dX4_countAll_20 : decode cX4_countAll 20 = .ok (.iinc 1 1, 3) := by decide +kernel
theorem dX4_countAll_23 : decode cX4_countAll 23 = .ok (.goto (-21), 3) := by decide +kernel
theorem dX4_countAll_26 : decode cX4_countAll 26 = .ok (.aload_n 0, 1) := by decide +kernel
theorem dX4_countAll_27 : decode cX4_countAll 27 = .ok (.getfield 25, 3) := by decide +kernel
theorem dX4_countAll_30 : decode cX4_countAll 30 = .ok (.ireturn, 1) := by decide +kernel
theorem dX4_seek_0 : decode cX4_seek 0 = .ok (.aload_n 0, 1) := by decide +kernel
theorem dX4_seek_1 : decode cX4_seek 1 = .ok (.getfield 36, 3) := by decide +kernel
theorem dX4_seek_4 : decode cX4_seek 4 = .ok (.invokevirtual 79, 3) := by decide +kernel
theorem dX4_seek_7 : decode cX4_seek 7 = .ok (.ifCond .eq 23, 3) := by decide +kernel
theorem dX4_seek_10 : decode cX4_seek 10 = .ok (.iload_n 1, 1) := by decide +kernel
theorem dX4_seek_11 : decode cX4_seek 11 = .ok (.ifCond .lt 19, 3) := by decide +kernel
theorem dX4_seek_14 : decode cX4_seek 14 = .ok (.aload_n 0, 1) := by decide +kernel
theorem dX4_seek_15 : decode cX4_seek 15 = .ok (.getfield 25, 3) := by decide +kernel
theorem dX4_seek_18 : decode cX4_seek 18 = .ok (.iconst (-1), 1) := by decide +kernel
theorem dX4_seek_19 : decode cX4_seek 19 = .ok (.if_icmp .eq 13, 3) := by decide +kernel
theorem dX4_seek_22 : decode cX4_seek 22 = .ok (.iload_n 1, 1) := by decide +kernel
theorem dX4_seek_23 : decode cX4_seek 23 = .ok (.aload_n 0, 1) := by decide +kernel
theorem dX4_seek_24 : decode cX4_seek 24 = .ok (.getfield 25, 3) := by decide +kernel
theorem dX4_seek_27 : decode cX4_seek 27 = .ok (.if_icmp .lt 5, 3) := by decide +kernel
theorem dX4_seek_30 : decode cX4_seek 30 = .ok (.iconst 0, 1) := by decide +kernel
theorem dX4_seek_31 : decode cX4_seek 31 = .ok (.ireturn, 1) := by decide +kernel
theorem dX4_seek_32 : decode cX4_seek 32 = .ok (.aload_n 0, 1) := by decide +kernel
theorem dX4_seek_33 : decode cX4_seek 33 = .ok (.getfield 32, 3) := by decide +kernel
theorem dX4_seek_36 : decode cX4_seek 36 = .ok (.ifCond .ne 11, 3) := by decide +kernel
theorem dX4_seek_39 : decode cX4_seek 39 = .ok (.iload_n 1, 1) := by decide +kernel
theorem dX4_seek_40 : decode cX4_seek 40 = .ok (.aload_n 0, 1) := by decide +kernel
theorem dX4_seek_41 : decode cX4_seek 41 = .ok (.getfield 29, 3) := by decide +kernel
theorem dX4_seek_44 : decode cX4_seek 44 = .ok (.if_icmp .ge 7, 3) := by decide +kernel
theorem dX4_seek_47 : decode cX4_seek 47 = .ok (.aload_n 0, 1) := by decide +kernel
theorem dX4_seek_48 : decode cX4_seek 48 = .ok (.invokevirtual 72, 3) := by decide +kernel
theorem dX4_seek_51 : decode cX4_seek 51 = .ok (.aload_n 0, 1) := by decide +kernel
theorem dX4_seek_52 : decode cX4_seek 52 = .ok (.getfield 29, 3) := by decide +kernel
theorem dX4_seek_55 : decode cX4_seek 55 = .ok (.istore_n 2, 1) := by decide +kernel
theorem dX4_seek_56 : decode cX4_seek 56 = .ok (.iload_n 2, 1) := by decide +kernel
theorem dX4_seek_57 : decode cX4_seek 57 = .ok (.iload_n 1, 1) := by decide +kernel
theorem dX4_seek_58 : decode cX4_seek 58 = .ok (.if_icmp .ge 20, 3) := by decide +kernel
theorem dX4_seek_61 : decode cX4_seek 61 = .ok (.aload_n 0, 1) := by decide +kernel
theorem dX4_seek_62 : decode cX4_seek 62 = .ok (.getfield 32, 3) := by decide +kernel
theorem dX4_seek_65 : decode cX4_seek 65 = .ok (.ifCond .ne 13, 3) := by decide +kernel
theorem dX4_seek_68 : decode cX4_seek 68 = .ok (.aload_n 0, 1) := by decide +kernel
theorem dX4_seek_69 : decode cX4_seek 69 = .ok (.invokevirtual 76, 3) := by decide +kernel
theorem dX4_seek_72 : decode cX4_seek 72 = .ok (.iinc 2 1, 3) := by decide +kernel
theorem dX4_seek_75 : decode cX4_seek 75 = .ok (.goto (-19), 3) := by decide +kernel
theorem dX4_seek_78 : decode cX4_seek 78 = .ok (.aload_n 0, 1) := by decide +kernel
theorem dX4_seek_79 : decode cX4_seek 79 = .ok (.getfield 32, 3) := by decide +kernel
theorem dX4_seek_82 : decode cX4_seek 82 = .ok (.ifCond .ne 7, 3) := by decide +kernel
theorem dX4_seek_85 : decode cX4_seek 85 = .ok (.iconst 1, 1) := by decide +kernel
theorem dX4_seek_86 : decode cX4_seek 86 = .ok (.goto 4, 3) := by decide +kernel
theorem dX4_seek_89 : decode cX4_seek 89 = .ok (.iconst 0, 1) := by decide +kernel
theorem dX4_seek_90 : decode cX4_seek 90 = .ok (.ireturn, 1) := by decide +kernel
theorem dX4_fact_0 : decode cX4_fact 0 = .ok (.iload_n 1, 1) := by decide +kernel
theorem dX4_fact_1 : decode cX4_fact 1 = .ok (.tableswitch 46 0 4 #[35, 35, 35, 35, 41], 35) := by decide +kernel
theorem dX4_fact_36 : decode cX4_fact 36 = .ok (.aload_n 0, 1) := by decide +kernel
theorem dX4_fact_37 : decode cX4_fact 37 = .ok (.iload_n 1, 1) := by decide +kernel
theorem dX4_fact_38 : decode cX4_fact 38 = .ok (.invokevirtual 83, 3) := by decide +kernel
theorem dX4_fact_41 : decode cX4_fact 41 = .ok (.ireturn, 1) := by decide +kernel
theorem dX4_fact_42 : decode cX4_fact 42 = .ok (.aload_n 0, 1) := by decide +kernel
theorem dX4_fact_43 : decode cX4_fact 43 = .ok (.getfield 86, 3) := by decide +kernel
theorem dX4_fact_46 : decode cX4_fact 46 = .ok (.ireturn, 1) := by decide +kernel
theorem dX4_fact_47 : decode cX4_fact 47 = .ok (.aload_n 0, 1) := by decide +kernel
theorem dX4_fact_48 : decode cX4_fact 48 = .ok (.iload_n 1, 1) := by decide +kernel
theorem dX4_fact_49 : decode cX4_fact 49 = .ok (.iconst 5, 1) := by decide +kernel
theorem dX4_fact_50 : decode cX4_fact 50 = .ok (.isub, 1) := by decide +kernel
theorem dX4_fact_51 : decode cX4_fact 51 = .ok (.invokevirtual 89, 3) := by decide +kernel
theorem dX4_fact_54 : decode cX4_fact 54 = .ok (.ireturn, 1) := by decide +kernel
theorem dX4_number_0 : decode cX4_number 0 = .ok (.iload_n 1, 1) := by decide +kernel
theorem dX4_number_1 : decode cX4_number 1 = .ok (.tableswitch 42 0 2 #[27, 32, 37], 27) := by decide +kernel
theorem dX4_number_28 : decode cX4_number 28 = .ok (.aload_n 0, 1) := by decide +kernel
theorem dX4_number_29 : decode cX4_number 29 = .ok (.getfield 92, 3) := by decide +kernel
theorem dX4_number_32 : decode cX4_number 32 = .ok (.ireturn, 1) := by decide +kernel
theorem dX4_number_33 : decode cX4_number 33 = .ok (.aload_n 0, 1) := by decide +kernel
theorem dX4_number_34 : decode cX4_number 34 = .ok (.getfield 95, 3) := by decide +kernel
theorem dX4_number_37 : decode cX4_number 37 = .ok (.ireturn, 1) := by decide +kernel
theorem dX4_number_38 : decode cX4_number 38 = .ok (.aload_n 0, 1) := by decide +kernel
theorem dX4_number_39 : decode cX4_number 39 = .ok (.getfield 98, 3) := by decide +kernel
theorem dX4_number_42 : decode cX4_number 42 = .ok (.ireturn, 1) := by decide +kernel
theorem dX4_number_43 : decode cX4_number 43 = .ok (.aload_n 0, 1) := by decide +kernel
theorem dX4_number_44 : decode cX4_number 44 = .ok (.getfield 101, 3) := by decide +kernel
theorem dX4_number_47 : decode cX4_number 47 = .ok (.ireturn, 1) := by decide +kernel
theorem dX4_waysTo_0 : decode cX4_waysTo 0 = .ok (.iconst 0, 1) := by decide +kernel
theorem dX4_waysTo_1 : decode cX4_waysTo 1 = .ok (.istore_n 2, 1) := by decide +kernel
theorem dX4_waysTo_2 : decode cX4_waysTo 2 = .ok (.iconst 0, 1) := by decide +kernel
theorem dX4_waysTo_3 : decode cX4_waysTo 3 = .ok (.istore_n 3, 1) := by decide +kernel
theorem dX4_waysTo_4 : decode cX4_waysTo 4 = .ok (.iload_n 3, 1) := by decide +kernel
theorem dX4_waysTo_5 : decode cX4_waysTo 5 = .ok (.bipush 6, 2) := by decide +kernel
theorem dX4_waysTo_7 : decode cX4_waysTo 7 = .ok (.if_icmp .ge 33, 3) := by decide +kernel
theorem dX4_waysTo_10 : decode cX4_waysTo 10 = .ok (.aload_n 0, 1) := by decide +kernel
theorem dX4_waysTo_11 : decode cX4_waysTo 11 = .ok (.getfield 15, 3) := by decide +kernel
theorem dX4_waysTo_14 : decode cX4_waysTo 14 = .ok (.iload_n 3, 1) := by decide +kernel
theorem dX4_waysTo_15 : decode cX4_waysTo 15 = .ok (.baload, 1) := by decide +kernel
theorem dX4_waysTo_16 : decode cX4_waysTo 16 = .ok (.ifCond .eq 18, 3) := by decide +kernel
theorem dX4_waysTo_19 : decode cX4_waysTo 19 = .ok (.aload_n 0, 1) := by decide +kernel
theorem dX4_waysTo_20 : decode cX4_waysTo 20 = .ok (.iload_n 3, 1) := by decide +kernel
theorem dX4_waysTo_21 : decode cX4_waysTo 21 = .ok (.invokevirtual 89, 3) := by decide +kernel
theorem dX4_waysTo_24 : decode cX4_waysTo 24 = .ok (.iload_n 1, 1) := by decide +kernel
theorem dX4_waysTo_25 : decode cX4_waysTo 25 = .ok (.if_icmp .ne 9, 3) := by decide +kernel
theorem dX4_waysTo_28 : decode cX4_waysTo 28 = .ok (.iload_n 2, 1) := by decide +kernel
theorem dX4_waysTo_29 : decode cX4_waysTo 29 = .ok (.iconst 1, 1) := by decide +kernel
theorem dX4_waysTo_30 : decode cX4_waysTo 30 = .ok (.iload_n 3, 1) := by decide +kernel
theorem dX4_waysTo_31 : decode cX4_waysTo 31 = .ok (.ishl, 1) := by decide +kernel
theorem dX4_waysTo_32 : decode cX4_waysTo 32 = .ok (.ior, 1) := by decide +kernel
theorem dX4_waysTo_33 : decode cX4_waysTo 33 = .ok (.istore_n 2, 1) := by decide +kernel
theorem dX4_waysTo_34 : decode cX4_waysTo 34 = .ok (.iinc 3 1, 3) := by decide +kernel
theorem dX4_waysTo_37 : decode cX4_waysTo 37 = .ok (.goto (-33), 3) := by decide +kernel
theorem dX4_waysTo_40 : decode cX4_waysTo 40 = .ok (.iload_n 2, 1) := by decide +kernel
theorem dX4_waysTo_41 : decode cX4_waysTo 41 = .ok (.ireturn, 1) := by decide +kernel
theorem dX4_wayNumber_0 : decode cX4_wayNumber 0 = .ok (.iload_n 1, 1) := by decide +kernel
theorem dX4_wayNumber_1 : decode cX4_wayNumber 1 = .ok (.tableswitch 128 0 5 #[39, 49, 62, 72, 92, 118], 39) := by decide +kernel
theorem dX4_wayNumber_40 : decode cX4_wayNumber 40 = .ok (.aload_n 0, 1) := by decide +kernel
theorem dX4_wayNumber_41 : decode cX4_wayNumber 41 = .ok (.getfield 92, 3) := by decide +kernel
theorem dX4_wayNumber_44 : decode cX4_wayNumber 44 = .ok (.aload_n 0, 1) := by decide +kernel
theorem dX4_wayNumber_45 : decode cX4_wayNumber 45 = .ok (.getfield 95, 3) := by decide +kernel
theorem dX4_wayNumber_48 : decode cX4_wayNumber 48 = .ok (.iadd, 1) := by decide +kernel
theorem dX4_wayNumber_49 : decode cX4_wayNumber 49 = .ok (.ireturn, 1) := by decide +kernel
theorem dX4_wayNumber_50 : decode cX4_wayNumber 50 = .ok (.aload_n 0, 1) := by decide +kernel
theorem dX4_wayNumber_51 : decode cX4_wayNumber 51 = .ok (.getfield 92, 3) := by decide +kernel
theorem dX4_wayNumber_54 : decode cX4_wayNumber 54 = .ok (.aload_n 0, 1) := by decide +kernel
theorem dX4_wayNumber_55 : decode cX4_wayNumber 55 = .ok (.getfield 95, 3) := by decide +kernel
theorem dX4_wayNumber_58 : decode cX4_wayNumber 58 = .ok (.isub, 1) := by decide +kernel
theorem dX4_wayNumber_59 : decode cX4_wayNumber 59 = .ok (.invokestatic 104, 3) := by decide +kernel
theorem dX4_wayNumber_62 : decode cX4_wayNumber 62 = .ok (.ireturn, 1) := by decide +kernel
theorem dX4_wayNumber_63 : decode cX4_wayNumber 63 = .ok (.aload_n 0, 1) := by decide +kernel
theorem dX4_wayNumber_64 : decode cX4_wayNumber 64 = .ok (.getfield 92, 3) := by decide +kernel
theorem dX4_wayNumber_67 : decode cX4_wayNumber 67 = .ok (.aload_n 0, 1) := by decide +kernel
theorem dX4_wayNumber_68 : decode cX4_wayNumber 68 = .ok (.getfield 95, 3) := by decide +kernel
theorem dX4_wayNumber_71 : decode cX4_wayNumber 71 = .ok (.imul, 1) := by decide +kernel
theorem dX4_wayNumber_72 : decode cX4_wayNumber 72 = .ok (.ireturn, 1) := by decide +kernel
theorem dX4_wayNumber_73 : decode cX4_wayNumber 73 = .ok (.aload_n 0, 1) := by decide +kernel
theorem dX4_wayNumber_74 : decode cX4_wayNumber 74 = .ok (.getfield 92, 3) := by decide +kernel
theorem dX4_wayNumber_77 : decode cX4_wayNumber 77 = .ok (.aload_n 0, 1) := by decide +kernel
theorem dX4_wayNumber_78 : decode cX4_wayNumber 78 = .ok (.getfield 95, 3) := by decide +kernel
theorem dX4_wayNumber_81 : decode cX4_wayNumber 81 = .ok (.iadd, 1) := by decide +kernel
theorem dX4_wayNumber_82 : decode cX4_wayNumber 82 = .ok (.aload_n 0, 1) := by decide +kernel
theorem dX4_wayNumber_83 : decode cX4_wayNumber 83 = .ok (.getfield 98, 3) := by decide +kernel
theorem dX4_wayNumber_86 : decode cX4_wayNumber 86 = .ok (.iadd, 1) := by decide +kernel
theorem dX4_wayNumber_87 : decode cX4_wayNumber 87 = .ok (.aload_n 0, 1) := by decide +kernel
theorem dX4_wayNumber_88 : decode cX4_wayNumber 88 = .ok (.getfield 101, 3) := by decide +kernel
theorem dX4_wayNumber_91 : decode cX4_wayNumber 91 = .ok (.iadd, 1) := by decide +kernel
theorem dX4_wayNumber_92 : decode cX4_wayNumber 92 = .ok (.ireturn, 1) := by decide +kernel
theorem dX4_wayNumber_93 : decode cX4_wayNumber 93 = .ok (.aload_n 0, 1) := by decide +kernel
theorem dX4_wayNumber_94 : decode cX4_wayNumber 94 = .ok (.getfield 92, 3) := by decide +kernel
theorem dX4_wayNumber_97 : decode cX4_wayNumber 97 = .ok (.aload_n 0, 1) := by decide +kernel
theorem dX4_wayNumber_98 : decode cX4_wayNumber 98 = .ok (.getfield 95, 3) := by decide +kernel
theorem dX4_wayNumber_101 : decode cX4_wayNumber 101 = .ok (.invokestatic 109, 3) := by decide +kernel
theorem dX4_wayNumber_104 : decode cX4_wayNumber 104 = .ok (.aload_n 0, 1) := by decide +kernel
theorem dX4_wayNumber_105 : decode cX4_wayNumber 105 = .ok (.getfield 98, 3) := by decide +kernel
theorem dX4_wayNumber_108 : decode cX4_wayNumber 108 = .ok (.aload_n 0, 1) := by decide +kernel
theorem dX4_wayNumber_109 : decode cX4_wayNumber 109 = .ok (.getfield 101, 3) := by decide +kernel
theorem dX4_wayNumber_112 : decode cX4_wayNumber 112 = .ok (.invokestatic 109, 3) := by decide +kernel
theorem dX4_wayNumber_115 : decode cX4_wayNumber 115 = .ok (.invokestatic 109, 3) := by decide +kernel
theorem dX4_wayNumber_118 : decode cX4_wayNumber 118 = .ok (.ireturn, 1) := by decide +kernel
theorem dX4_wayNumber_119 : decode cX4_wayNumber 119 = .ok (.aload_n 0, 1) := by decide +kernel
theorem dX4_wayNumber_120 : decode cX4_wayNumber 120 = .ok (.getfield 86, 3) := by decide +kernel
theorem dX4_wayNumber_123 : decode cX4_wayNumber 123 = .ok (.aload_n 0, 1) := by decide +kernel
theorem dX4_wayNumber_124 : decode cX4_wayNumber 124 = .ok (.getfield 101, 3) := by decide +kernel
theorem dX4_wayNumber_127 : decode cX4_wayNumber 127 = .ok (.iadd, 1) := by decide +kernel
theorem dX4_wayNumber_128 : decode cX4_wayNumber 128 = .ok (.ireturn, 1) := by decide +kernel
theorem dX4_wayNumber_129 : decode cX4_wayNumber 129 = .ok (.iconst (-1), 1) := by decide +kernel
theorem dX4_wayNumber_130 : decode cX4_wayNumber 130 = .ok (.ireturn, 1) := by decide +kernel
theorem dX4_restart_0 : decode cX4_restart 0 = .ok (.aload_n 0, 1) := by decide +kernel
theorem dX4_restart_1 : decode cX4_restart 1 = .ok (.iconst (-1), 1) := by decide +kernel
theorem dX4_restart_2 : decode cX4_restart 2 = .ok (.putfield 29, 3) := by decide +kernel
theorem dX4_restart_5 : decode cX4_restart 5 = .ok (.aload_n 0, 1) := by decide +kernel
theorem dX4_restart_6 : decode cX4_restart 6 = .ok (.aload_n 0, 1) := by decide +kernel
theorem dX4_restart_7 : decode cX4_restart 7 = .ok (.getfield 36, 3) := by decide +kernel
theorem dX4_restart_10 : decode cX4_restart 10 = .ok (.invokevirtual 79, 3) := by decide +kernel
theorem dX4_restart_13 : decode cX4_restart 13 = .ok (.ifCond .ne 7, 3) := by decide +kernel
theorem dX4_restart_16 : decode cX4_restart 16 = .ok (.iconst 1, 1) := by decide +kernel
theorem dX4_restart_17 : decode cX4_restart 17 = .ok (.goto 4, 3) := by decide +kernel
theorem dX4_restart_20 : decode cX4_restart 20 = .ok (.iconst 0, 1) := by decide +kernel
theorem dX4_restart_21 : decode cX4_restart 21 = .ok (.putfield 32, 3) := by decide +kernel
theorem dX4_restart_24 : decode cX4_restart 24 = .ok (.aload_n 0, 1) := by decide +kernel
theorem dX4_restart_25 : decode cX4_restart 25 = .ok (.aload_n 0, 1) := by decide +kernel
theorem dX4_restart_26 : decode cX4_restart 26 = .ok (.getfield 19, 3) := by decide +kernel
theorem dX4_restart_29 : decode cX4_restart 29 = .ok (.iconst 0, 1) := by decide +kernel
theorem dX4_restart_30 : decode cX4_restart 30 = .ok (.iaload, 1) := by decide +kernel
theorem dX4_restart_31 : decode cX4_restart 31 = .ok (.putfield 92, 3) := by decide +kernel
theorem dX4_restart_34 : decode cX4_restart 34 = .ok (.aload_n 0, 1) := by decide +kernel
theorem dX4_restart_35 : decode cX4_restart 35 = .ok (.aload_n 0, 1) := by decide +kernel
theorem dX4_restart_36 : decode cX4_restart 36 = .ok (.getfield 19, 3) := by decide +kernel
theorem dX4_restart_39 : decode cX4_restart 39 = .ok (.iconst 1, 1) := by decide +kernel
theorem dX4_restart_40 : decode cX4_restart 40 = .ok (.iaload, 1) := by decide +kernel
theorem dX4_restart_41 : decode cX4_restart 41 = .ok (.putfield 95, 3) := by decide +kernel
theorem dX4_restart_44 : decode cX4_restart 44 = .ok (.aload_n 0, 1) := by decide +kernel
theorem dX4_restart_45 : decode cX4_restart 45 = .ok (.aload_n 0, 1) := by decide +kernel
theorem dX4_restart_46 : decode cX4_restart 46 = .ok (.getfield 19, 3) := by decide +kernel
theorem dX4_restart_49 : decode cX4_restart 49 = .ok (.iconst 2, 1) := by decide +kernel
theorem dX4_restart_50 : decode cX4_restart 50 = .ok (.iaload, 1) := by decide +kernel
theorem dX4_restart_51 : decode cX4_restart 51 = .ok (.putfield 98, 3) := by decide +kernel
theorem dX4_restart_54 : decode cX4_restart 54 = .ok (.aload_n 0, 1) := by decide +kernel
theorem dX4_restart_55 : decode cX4_restart 55 = .ok (.aload_n 0, 1) := by decide +kernel
theorem dX4_restart_56 : decode cX4_restart 56 = .ok (.getfield 19, 3) := by decide +kernel
theorem dX4_restart_59 : decode cX4_restart 59 = .ok (.iconst 3, 1) := by decide +kernel
theorem dX4_restart_60 : decode cX4_restart 60 = .ok (.iaload, 1) := by decide +kernel
theorem dX4_restart_61 : decode cX4_restart 61 = .ok (.iconst 1, 1) := by decide +kernel
theorem dX4_restart_62 : decode cX4_restart 62 = .ok (.isub, 1) := by decide +kernel
theorem dX4_restart_63 : decode cX4_restart 63 = .ok (.putfield 101, 3) := by decide +kernel
theorem dX4_restart_66 : decode cX4_restart 66 = .ok (.aload_n 0, 1) := by decide +kernel
theorem dX4_restart_67 : decode cX4_restart 67 = .ok (.aload_n 0, 1) := by decide +kernel
theorem dX4_restart_68 : decode cX4_restart 68 = .ok (.getfield 32, 3) := by decide +kernel
theorem dX4_restart_71 : decode cX4_restart 71 = .ok (.ifCond .ne 14, 3) := by decide +kernel
theorem dX4_restart_74 : decode cX4_restart 74 = .ok (.aload_n 0, 1) := by decide +kernel
theorem dX4_restart_75 : decode cX4_restart 75 = .ok (.invokevirtual 113, 3) := by decide +kernel
theorem dX4_restart_78 : decode cX4_restart 78 = .ok (.ifCond .eq 7, 3) := by decide +kernel
theorem dX4_restart_81 : decode cX4_restart 81 = .ok (.iconst 1, 1) := by decide +kernel
theorem dX4_restart_82 : decode cX4_restart 82 = .ok (.goto 4, 3) := by decide +kernel
theorem dX4_restart_85 : decode cX4_restart 85 = .ok (.iconst 0, 1) := by decide +kernel
theorem dX4_restart_86 : decode cX4_restart 86 = .ok (.putfield 116, 3) := by decide +kernel
theorem dX4_restart_89 : decode cX4_restart 89 = .ok (.return_, 1) := by decide +kernel
theorem dX4_moveOn_0 : decode cX4_moveOn 0 = .ok (.iconst 0, 1) := by decide +kernel
theorem dX4_moveOn_1 : decode cX4_moveOn 1 = .ok (.istore_n 1, 1) := by decide +kernel
theorem dX4_moveOn_2 : decode cX4_moveOn 2 = .ok (.iload_n 1, 1) := by decide +kernel
theorem dX4_moveOn_3 : decode cX4_moveOn 3 = .ok (.ldc 75, 2) := by decide +kernel
theorem dX4_moveOn_5 : decode cX4_moveOn 5 = .ok (.if_icmp .ge 111, 3) := by decide +kernel
theorem dX4_moveOn_8 : decode cX4_moveOn 8 = .ok (.aload_n 0, 1) := by decide +kernel
theorem dX4_moveOn_9 : decode cX4_moveOn 9 = .ok (.getfield 32, 3) := by decide +kernel
theorem dX4_moveOn_12 : decode cX4_moveOn 12 = .ok (.ifCond .ne 104, 3) := by decide +kernel
theorem dX4_moveOn_15 : decode cX4_moveOn 15 = .ok (.aload_n 0, 1) := by decide +kernel
theorem dX4_moveOn_16 : decode cX4_moveOn 16 = .ok (.getfield 116, 3) := by decide +kernel
theorem dX4_moveOn_19 : decode cX4_moveOn 19 = .ok (.ifCond .eq 29, 3) := by decide +kernel
theorem dX4_moveOn_22 : decode cX4_moveOn 22 = .ok (.aload_n 0, 1) := by decide +kernel
theorem dX4_moveOn_23 : decode cX4_moveOn 23 = .ok (.getfield 101, 3) := by decide +kernel
theorem dX4_moveOn_26 : decode cX4_moveOn 26 = .ok (.aload_n 0, 1) := by decide +kernel
theorem dX4_moveOn_27 : decode cX4_moveOn 27 = .ok (.getfield 22, 3) := by decide +kernel
theorem dX4_moveOn_30 : decode cX4_moveOn 30 = .ok (.iconst 3, 1) := by decide +kernel
theorem dX4_moveOn_31 : decode cX4_moveOn 31 = .ok (.iaload, 1) := by decide +kernel
theorem dX4_moveOn_32 : decode cX4_moveOn 32 = .ok (.if_icmp .ge 16, 3) := by decide +kernel
theorem dX4_moveOn_35 : decode cX4_moveOn 35 = .ok (.aload_n 0, 1) := by decide +kernel
theorem dX4_moveOn_36 : decode cX4_moveOn 36 = .ok (.dup, 1) := by decide +kernel
theorem dX4_moveOn_37 : decode cX4_moveOn 37 = .ok (.getfield 101, 3) := by decide +kernel
theorem dX4_moveOn_40 : decode cX4_moveOn 40 = .ok (.iconst 1, 1) := by decide +kernel
theorem dX4_moveOn_41 : decode cX4_moveOn 41 = .ok (.iadd, 1) := by decide +kernel
theorem dX4_moveOn_42 : decode cX4_moveOn 42 = .ok (.putfield 101, 3) := by decide +kernel
theorem dX4_moveOn_45 : decode cX4_moveOn 45 = .ok (.goto 40, 3) := by decide +kernel
theorem dX4_moveOn_48 : decode cX4_moveOn 48 = .ok (.aload_n 0, 1) := by decide +kernel
theorem dX4_moveOn_49 : decode cX4_moveOn 49 = .ok (.aload_n 0, 1) := by decide +kernel
theorem dX4_moveOn_50 : decode cX4_moveOn 50 = .ok (.getfield 19, 3) := by decide +kernel
theorem dX4_moveOn_53 : decode cX4_moveOn 53 = .ok (.iconst 3, 1) := by decide +kernel
theorem dX4_moveOn_54 : decode cX4_moveOn 54 = .ok (.iaload, 1) := by decide +kernel
theorem dX4_moveOn_55 : decode cX4_moveOn 55 = .ok (.putfield 101, 3) := by decide +kernel
theorem dX4_moveOn_58 : decode cX4_moveOn 58 = .ok (.aload_n 0, 1) := by decide +kernel
theorem dX4_moveOn_59 : decode cX4_moveOn 59 = .ok (.invokevirtual 119, 3) := by decide +kernel
theorem dX4_moveOn_62 : decode cX4_moveOn 62 = .ok (.aload_n 0, 1) := by decide +kernel
theorem dX4_moveOn_63 : decode cX4_moveOn 63 = .ok (.aload_n 0, 1) := by decide +kernel
theorem dX4_moveOn_64 : decode cX4_moveOn 64 = .ok (.getfield 32, 3) := by decide +kernel
theorem dX4_moveOn_67 : decode cX4_moveOn 67 = .ok (.ifCond .ne 14, 3) := by decide +kernel
theorem dX4_moveOn_70 : decode cX4_moveOn 70 = .ok (.aload_n 0, 1) := by decide +kernel
theorem dX4_moveOn_71 : decode cX4_moveOn 71 = .ok (.invokevirtual 113, 3) := by decide +kernel
theorem dX4_moveOn_74 : decode cX4_moveOn 74 = .ok (.ifCond .eq 7, 3) := by decide +kernel
theorem dX4_moveOn_77 : decode cX4_moveOn 77 = .ok (.iconst 1, 1) := by decide +kernel
theorem dX4_moveOn_78 : decode cX4_moveOn 78 = .ok (.goto 4, 3) := by decide +kernel
theorem dX4_moveOn_81 : decode cX4_moveOn 81 = .ok (.iconst 0, 1) := by decide +kernel
theorem dX4_moveOn_82 : decode cX4_moveOn 82 = .ok (.putfield 116, 3) := by decide +kernel
theorem dX4_moveOn_85 : decode cX4_moveOn 85 = .ok (.aload_n 0, 1) := by decide +kernel
theorem dX4_moveOn_86 : decode cX4_moveOn 86 = .ok (.getfield 116, 3) := by decide +kernel
theorem dX4_moveOn_89 : decode cX4_moveOn 89 = .ok (.ifCond .eq 21, 3) := by decide +kernel
theorem dX4_moveOn_92 : decode cX4_moveOn 92 = .ok (.aload_n 0, 1) := by decide +kernel
theorem dX4_moveOn_93 : decode cX4_moveOn 93 = .ok (.invokevirtual 122, 3) := by decide +kernel
theorem dX4_moveOn_96 : decode cX4_moveOn 96 = .ok (.ifCond .eq 14, 3) := by decide +kernel
theorem dX4_moveOn_99 : decode cX4_moveOn 99 = .ok (.aload_n 0, 1) := by decide +kernel
theorem dX4_moveOn_100 : decode cX4_moveOn 100 = .ok (.dup, 1) := by decide +kernel
theorem dX4_moveOn_101 : decode cX4_moveOn 101 = .ok (.getfield 29, 3) := by decide +kernel
theorem dX4_moveOn_104 : decode cX4_moveOn 104 = .ok (.iconst 1, 1) := by decide +kernel
theorem dX4_moveOn_105 : decode cX4_moveOn 105 = .ok (.iadd, 1) := by decide +kernel
theorem dX4_moveOn_106 : decode cX4_moveOn 106 = .ok (.putfield 29, 3) := by decide +kernel
theorem dX4_moveOn_109 : decode cX4_moveOn 109 = .ok (.return_, 1) := by decide +kernel
theorem dX4_moveOn_110 : decode cX4_moveOn 110 = .ok (.iinc 1 1, 3) := by decide +kernel
theorem dX4_moveOn_113 : decode cX4_moveOn 113 = .ok (.goto (-111), 3) := by decide +kernel
theorem dX4_moveOn_116 : decode cX4_moveOn 116 = .ok (.aload_n 0, 1) := by decide +kernel
theorem dX4_moveOn_117 : decode cX4_moveOn 117 = .ok (.aload_n 0, 1) := by decide +kernel
theorem dX4_moveOn_118 : decode cX4_moveOn 118 = .ok (.getfield 29, 3) := by decide +kernel
theorem dX4_moveOn_121 : decode cX4_moveOn 121 = .ok (.iconst 1, 1) := by decide +kernel
theorem dX4_moveOn_122 : decode cX4_moveOn 122 = .ok (.iadd, 1) := by decide +kernel
theorem dX4_moveOn_123 : decode cX4_moveOn 123 = .ok (.putfield 25, 3) := by decide +kernel
theorem dX4_moveOn_126 : decode cX4_moveOn 126 = .ok (.return_, 1) := by decide +kernel
theorem dX4_nextSum_0 : decode cX4_nextSum 0 = .ok (.aload_n 0, 1) := by decide +kernel
theorem dX4_nextSum_1 : decode cX4_nextSum 1 = .ok (.getfield 98, 3) := by decide +kernel
theorem dX4_nextSum_4 : decode cX4_nextSum 4 = .ok (.aload_n 0, 1) := by decide +kernel
theorem dX4_nextSum_5 : decode cX4_nextSum 5 = .ok (.getfield 22, 3) := by decide +kernel
theorem dX4_nextSum_8 : decode cX4_nextSum 8 = .ok (.iconst 2, 1) := by decide +kernel
theorem dX4_nextSum_9 : decode cX4_nextSum 9 = .ok (.iaload, 1) := by decide +kernel
theorem dX4_nextSum_10 : decode cX4_nextSum 10 = .ok (.if_icmp .ge 14, 3) := by decide +kernel
theorem dX4_nextSum_13 : decode cX4_nextSum 13 = .ok (.aload_n 0, 1) := by decide +kernel
theorem dX4_nextSum_14 : decode cX4_nextSum 14 = .ok (.dup, 1) := by decide +kernel
theorem dX4_nextSum_15 : decode cX4_nextSum 15 = .ok (.getfield 98, 3) := by decide +kernel
theorem dX4_nextSum_18 : decode cX4_nextSum 18 = .ok (.iconst 1, 1) := by decide +kernel
theorem dX4_nextSum_19 : decode cX4_nextSum 19 = .ok (.iadd, 1) := by decide +kernel
theorem dX4_nextSum_20 : decode cX4_nextSum 20 = .ok (.putfield 98, 3) := by decide +kernel
theorem dX4_nextSum_23 : decode cX4_nextSum 23 = .ok (.return_, 1) := by decide +kernel
theorem dX4_nextSum_24 : decode cX4_nextSum 24 = .ok (.aload_n 0, 1) := by decide +kernel
theorem dX4_nextSum_25 : decode cX4_nextSum 25 = .ok (.aload_n 0, 1) := by decide +kernel
theorem dX4_nextSum_26 : decode cX4_nextSum 26 = .ok (.getfield 19, 3) := by decide +kernel
theorem dX4_nextSum_29 : decode cX4_nextSum 29 = .ok (.iconst 2, 1) := by decide +kernel
theorem dX4_nextSum_30 : decode cX4_nextSum 30 = .ok (.iaload, 1) := by decide +kernel
theorem dX4_nextSum_31 : decode cX4_nextSum 31 = .ok (.putfield 98, 3) := by decide +kernel
theorem dX4_nextSum_34 : decode cX4_nextSum 34 = .ok (.aload_n 0, 1) := by decide +kernel
theorem dX4_nextSum_35 : decode cX4_nextSum 35 = .ok (.getfield 95, 3) := by decide +kernel
theorem dX4_nextSum_38 : decode cX4_nextSum 38 = .ok (.aload_n 0, 1) := by decide +kernel
theorem dX4_nextSum_39 : decode cX4_nextSum 39 = .ok (.getfield 22, 3) := by decide +kernel
theorem dX4_nextSum_42 : decode cX4_nextSum 42 = .ok (.iconst 1, 1) := by decide +kernel
theorem dX4_nextSum_43 : decode cX4_nextSum 43 = .ok (.iaload, 1) := by decide +kernel
theorem dX4_nextSum_44 : decode cX4_nextSum 44 = .ok (.if_icmp .ge 14, 3) := by decide +kernel
theorem dX4_nextSum_47 : decode cX4_nextSum 47 = .ok (.aload_n 0, 1) := by decide +kernel
theorem dX4_nextSum_48 : decode cX4_nextSum 48 = .ok (.dup, 1) := by decide +kernel
theorem dX4_nextSum_49 : decode cX4_nextSum 49 = .ok (.getfield 95, 3) := by decide +kernel
theorem dX4_nextSum_52 : decode cX4_nextSum 52 = .ok (.iconst 1, 1) := by decide +kernel
theorem dX4_nextSum_53 : decode cX4_nextSum 53 = .ok (.iadd, 1) := by decide +kernel
theorem dX4_nextSum_54 : decode cX4_nextSum 54 = .ok (.putfield 95, 3) := by decide +kernel
theorem dX4_nextSum_57 : decode cX4_nextSum 57 = .ok (.return_, 1) := by decide +kernel
theorem dX4_nextSum_58 : decode cX4_nextSum 58 = .ok (.aload_n 0, 1) := by decide +kernel
theorem dX4_nextSum_59 : decode cX4_nextSum 59 = .ok (.aload_n 0, 1) := by decide +kernel
theorem dX4_nextSum_60 : decode cX4_nextSum 60 = .ok (.getfield 19, 3) := by decide +kernel
theorem dX4_nextSum_63 : decode cX4_nextSum 63 = .ok (.iconst 1, 1) := by decide +kernel
theorem dX4_nextSum_64 : decode cX4_nextSum 64 = .ok (.iaload, 1) := by decide +kernel
theorem dX4_nextSum_65 : decode cX4_nextSum 65 = .ok (.putfield 95, 3) := by decide +kernel
theorem dX4_nextSum_68 : decode cX4_nextSum 68 = .ok (.aload_n 0, 1) := by decide +kernel
theorem dX4_nextSum_69 : decode cX4_nextSum 69 = .ok (.getfield 92, 3) := by decide +kernel
theorem dX4_nextSum_72 : decode cX4_nextSum 72 = .ok (.aload_n 0, 1) := by decide +kernel
theorem dX4_nextSum_73 : decode cX4_nextSum 73 = .ok (.getfield 22, 3) := by decide +kernel
theorem dX4_nextSum_76 : decode cX4_nextSum 76 = .ok (.iconst 0, 1) := by decide +kernel
theorem dX4_nextSum_77 : decode cX4_nextSum 77 = .ok (.iaload, 1) := by decide +kernel
theorem dX4_nextSum_78 : decode cX4_nextSum 78 = .ok (.if_icmp .ge 14, 3) := by decide +kernel
theorem dX4_nextSum_81 : decode cX4_nextSum 81 = .ok (.aload_n 0, 1) := by decide +kernel
theorem dX4_nextSum_82 : decode cX4_nextSum 82 = .ok (.dup, 1) := by decide +kernel
theorem dX4_nextSum_83 : decode cX4_nextSum 83 = .ok (.getfield 92, 3) := by decide +kernel
theorem dX4_nextSum_86 : decode cX4_nextSum 86 = .ok (.iconst 1, 1) := by decide +kernel
theorem dX4_nextSum_87 : decode cX4_nextSum 87 = .ok (.iadd, 1) := by decide +kernel
theorem dX4_nextSum_88 : decode cX4_nextSum 88 = .ok (.putfield 92, 3) := by decide +kernel
theorem dX4_nextSum_91 : decode cX4_nextSum 91 = .ok (.return_, 1) := by decide +kernel
theorem dX4_nextSum_92 : decode cX4_nextSum 92 = .ok (.aload_n 0, 1) := by decide +kernel
theorem dX4_nextSum_93 : decode cX4_nextSum 93 = .ok (.iconst 1, 1) := by decide +kernel
theorem dX4_nextSum_94 : decode cX4_nextSum 94 = .ok (.putfield 32, 3) := by decide +kernel
theorem dX4_nextSum_97 : decode cX4_nextSum 97 = .ok (.return_, 1) := by decide +kernel
theorem dX4_doesSumFit_0 : decode cX4_doesSumFit 0 = .ok (.aload_n 0, 1) := by decide +kernel
theorem dX4_doesSumFit_1 : decode cX4_doesSumFit 1 = .ok (.getfield 36, 3) := by decide +kernel
theorem dX4_doesSumFit_4 : decode cX4_doesSumFit 4 = .ok (.getfield 125, 3) := by decide +kernel
theorem dX4_doesSumFit_7 : decode cX4_doesSumFit 7 = .ok (.istore_n 1, 1) := by decide +kernel
theorem dX4_doesSumFit_8 : decode cX4_doesSumFit 8 = .ok (.aload_n 0, 1) := by decide +kernel
theorem dX4_doesSumFit_9 : decode cX4_doesSumFit 9 = .ok (.iload_n 1, 1) := by decide +kernel
theorem dX4_doesSumFit_10 : decode cX4_doesSumFit 10 = .ok (.aload_n 0, 1) := by decide +kernel
theorem dX4_doesSumFit_11 : decode cX4_doesSumFit 11 = .ok (.getfield 92, 3) := by decide +kernel
theorem dX4_doesSumFit_14 : decode cX4_doesSumFit 14 = .ok (.aload_n 0, 1) := by decide +kernel
theorem dX4_doesSumFit_15 : decode cX4_doesSumFit 15 = .ok (.getfield 95, 3) := by decide +kernel
theorem dX4_doesSumFit_18 : decode cX4_doesSumFit 18 = .ok (.aload_n 0, 1) := by decide +kernel
theorem dX4_doesSumFit_19 : decode cX4_doesSumFit 19 = .ok (.getfield 98, 3) := by decide +kernel
theorem dX4_doesSumFit_22 : decode cX4_doesSumFit 22 = .ok (.invokestatic 128, 3) := by decide +kernel
theorem dX4_doesSumFit_25 : decode cX4_doesSumFit 25 = .ok (.putfield 86, 3) := by decide +kernel
theorem dX4_doesSumFit_28 : decode cX4_doesSumFit 28 = .ok (.aload_n 0, 1) := by decide +kernel
theorem dX4_doesSumFit_29 : decode cX4_doesSumFit 29 = .ok (.getfield 86, 3) := by decide +kernel
theorem dX4_doesSumFit_32 : decode cX4_doesSumFit 32 = .ok (.bipush (-2), 2) := by decide +kernel
theorem dX4_doesSumFit_34 : decode cX4_doesSumFit 34 = .ok (.if_icmp .eq 14, 3) := by decide +kernel
theorem dX4_doesSumFit_37 : decode cX4_doesSumFit 37 = .ok (.aload_n 0, 1) := by decide +kernel
theorem dX4_doesSumFit_38 : decode cX4_doesSumFit 38 = .ok (.getfield 86, 3) := by decide +kernel
theorem dX4_doesSumFit_41 : decode cX4_doesSumFit 41 = .ok (.aload_n 0, 1) := by decide +kernel
theorem dX4_doesSumFit_42 : decode cX4_doesSumFit 42 = .ok (.getfield 55, 3) := by decide +kernel
theorem dX4_doesSumFit_45 : decode cX4_doesSumFit 45 = .ok (.if_icmp .le 5, 3) := by decide +kernel
theorem dX4_doesSumFit_48 : decode cX4_doesSumFit 48 = .ok (.iconst 0, 1) := by decide +kernel
theorem dX4_doesSumFit_49 : decode cX4_doesSumFit 49 = .ok (.ireturn, 1) := by decide +kernel
theorem dX4_doesSumFit_50 : decode cX4_doesSumFit 50 = .ok (.iload_n 1, 1) := by decide +kernel
theorem dX4_doesSumFit_51 : decode cX4_doesSumFit 51 = .ok (.iconst 3, 1) := by decide +kernel
theorem dX4_doesSumFit_52 : decode cX4_doesSumFit 52 = .ok (.if_icmp .eq 14, 3) := by decide +kernel
theorem dX4_doesSumFit_55 : decode cX4_doesSumFit 55 = .ok (.aload_n 0, 1) := by decide +kernel
theorem dX4_doesSumFit_56 : decode cX4_doesSumFit 56 = .ok (.getfield 92, 3) := by decide +kernel
theorem dX4_doesSumFit_59 : decode cX4_doesSumFit 59 = .ok (.aload_n 0, 1) := by decide +kernel
theorem dX4_doesSumFit_60 : decode cX4_doesSumFit 60 = .ok (.getfield 55, 3) := by decide +kernel
theorem dX4_doesSumFit_63 : decode cX4_doesSumFit 63 = .ok (.if_icmp .gt 19, 3) := by decide +kernel
theorem dX4_doesSumFit_66 : decode cX4_doesSumFit 66 = .ok (.iload_n 1, 1) := by decide +kernel
theorem dX4_doesSumFit_67 : decode cX4_doesSumFit 67 = .ok (.iconst 2, 1) := by decide +kernel
theorem dX4_doesSumFit_68 : decode cX4_doesSumFit 68 = .ok (.if_icmp .eq 16, 3) := by decide +kernel
theorem dX4_doesSumFit_71 : decode cX4_doesSumFit 71 = .ok (.aload_n 0, 1) := by decide +kernel
theorem dX4_doesSumFit_72 : decode cX4_doesSumFit 72 = .ok (.getfield 95, 3) := by decide +kernel
theorem dX4_doesSumFit_75 : decode cX4_doesSumFit 75 = .ok (.aload_n 0, 1) := by decide +kernel
theorem dX4_doesSumFit_76 : decode cX4_doesSumFit 76 = .ok (.getfield 55, 3) := by decide +kernel
theorem dX4_doesSumFit_79 : decode cX4_doesSumFit 79 = .ok (.if_icmp .le 5, 3) := by decide +kernel
theorem dX4_doesSumFit_82 : decode cX4_doesSumFit 82 = .ok (.iconst 0, 1) := by decide +kernel
theorem dX4_doesSumFit_83 : decode cX4_doesSumFit 83 = .ok (.ireturn, 1) := by decide +kernel
theorem dX4_doesSumFit_84 : decode cX4_doesSumFit 84 = .ok (.iload_n 1, 1) := by decide +kernel
theorem dX4_doesSumFit_85 : decode cX4_doesSumFit 85 = .ok (.iconst 5, 1) := by decide +kernel
theorem dX4_doesSumFit_86 : decode cX4_doesSumFit 86 = .ok (.if_icmp .eq 9, 3) := by decide +kernel
theorem dX4_doesSumFit_89 : decode cX4_doesSumFit 89 = .ok (.iload_n 1, 1) := by decide +kernel
theorem dX4_doesSumFit_90 : decode cX4_doesSumFit 90 = .ok (.bipush 7, 2) := by decide +kernel
theorem dX4_doesSumFit_92 : decode cX4_doesSumFit 92 = .ok (.if_icmp .ne 21, 3) := by decide +kernel
theorem dX4_doesSumFit_95 : decode cX4_doesSumFit 95 = .ok (.aload_n 0, 1) := by decide +kernel
theorem dX4_doesSumFit_96 : decode cX4_doesSumFit 96 = .ok (.getfield 92, 3) := by decide +kernel
theorem dX4_doesSumFit_99 : decode cX4_doesSumFit 99 = .ok (.aload_n 0, 1) := by decide +kernel
theorem dX4_doesSumFit_100 : decode cX4_doesSumFit 100 = .ok (.getfield 95, 3) := by decide +kernel
theorem dX4_doesSumFit_103 : decode cX4_doesSumFit 103 = .ok (.iadd, 1) := by decide +kernel
theorem dX4_doesSumFit_104 : decode cX4_doesSumFit 104 = .ok (.aload_n 0, 1) := by decide +kernel
theorem dX4_doesSumFit_105 : decode cX4_doesSumFit 105 = .ok (.getfield 55, 3) := by decide +kernel
theorem dX4_doesSumFit_108 : decode cX4_doesSumFit 108 = .ok (.if_icmp .le 5, 3) := by decide +kernel
theorem dX4_doesSumFit_111 : decode cX4_doesSumFit 111 = .ok (.iconst 0, 1) := by decide +kernel
theorem dX4_doesSumFit_112 : decode cX4_doesSumFit 112 = .ok (.ireturn, 1) := by decide +kernel
theorem dX4_doesSumFit_113 : decode cX4_doesSumFit 113 = .ok (.aload_n 0, 1) := by decide +kernel
theorem dX4_doesSumFit_114 : decode cX4_doesSumFit 114 = .ok (.iconst 0, 1) := by decide +kernel
theorem dX4_doesSumFit_115 : decode cX4_doesSumFit 115 = .ok (.iconst 2, 1) := by decide +kernel
theorem dX4_doesSumFit_116 : decode cX4_doesSumFit 116 = .ok (.invokevirtual 132, 3) := by decide +kernel
theorem dX4_doesSumFit_119 : decode cX4_doesSumFit 119 = .ok (.ireturn, 1) := by decide +kernel
theorem dX4_doesIdleFit_0 : decode cX4_doesIdleFit 0 = .ok (.aload_n 0, 1) := by decide +kernel
theorem dX4_doesIdleFit_1 : decode cX4_doesIdleFit 1 = .ok (.getfield 36, 3) := by decide +kernel
theorem dX4_doesIdleFit_4 : decode cX4_doesIdleFit 4 = .ok (.invokevirtual 136, 3) := by decide +kernel
theorem dX4_doesIdleFit_7 : decode cX4_doesIdleFit 7 = .ok (.ifCond .eq 14, 3) := by decide +kernel
theorem dX4_doesIdleFit_10 : decode cX4_doesIdleFit 10 = .ok (.aload_n 0, 1) := by decide +kernel
theorem dX4_doesIdleFit_11 : decode cX4_doesIdleFit 11 = .ok (.getfield 101, 3) := by decide +kernel
theorem dX4_doesIdleFit_14 : decode cX4_doesIdleFit 14 = .ok (.aload_n 0, 1) := by decide +kernel
theorem dX4_doesIdleFit_15 : decode cX4_doesIdleFit 15 = .ok (.getfield 61, 3) := by decide +kernel
theorem dX4_doesIdleFit_18 : decode cX4_doesIdleFit 18 = .ok (.if_icmp .gt 16, 3) := by decide +kernel
theorem dX4_doesIdleFit_21 : decode cX4_doesIdleFit 21 = .ok (.aload_n 0, 1) := by decide +kernel
theorem dX4_doesIdleFit_22 : decode cX4_doesIdleFit 22 = .ok (.iconst 3, 1) := by decide +kernel
theorem dX4_doesIdleFit_23 : decode cX4_doesIdleFit 23 = .ok (.iconst 5, 1) := by decide +kernel
theorem dX4_doesIdleFit_24 : decode cX4_doesIdleFit 24 = .ok (.invokevirtual 132, 3) := by decide +kernel
theorem dX4_doesIdleFit_27 : decode cX4_doesIdleFit 27 = .ok (.ifCond .eq 7, 3) := by decide +kernel
theorem dX4_doesIdleFit_30 : decode cX4_doesIdleFit 30 = .ok (.iconst 1, 1) := by decide +kernel
theorem dX4_doesIdleFit_31 : decode cX4_doesIdleFit 31 = .ok (.goto 4, 3) := by decide +kernel
theorem dX4_doesIdleFit_34 : decode cX4_doesIdleFit 34 = .ok (.iconst 0, 1) := by decide +kernel
theorem dX4_doesIdleFit_35 : decode cX4_doesIdleFit 35 = .ok (.ireturn, 1) := by decide +kernel
theorem dX4_areUnlike_0 : decode cX4_areUnlike 0 = .ok (.iload_n 1, 1) := by decide +kernel
theorem dX4_areUnlike_1 : decode cX4_areUnlike 1 = .ok (.iconst 0, 1) := by decide +kernel
theorem dX4_areUnlike_2 : decode cX4_areUnlike 2 = .ok (.invokestatic 109, 3) := by decide +kernel
theorem dX4_areUnlike_5 : decode cX4_areUnlike 5 = .ok (.istore_n 3, 1) := by decide +kernel
theorem dX4_areUnlike_6 : decode cX4_areUnlike 6 = .ok (.iload_n 3, 1) := by decide +kernel
theorem dX4_areUnlike_7 : decode cX4_areUnlike 7 = .ok (.iload_n 2, 1) := by decide +kernel
theorem dX4_areUnlike_8 : decode cX4_areUnlike 8 = .ok (.if_icmp .gt 58, 3) := by decide +kernel
theorem dX4_areUnlike_11 : decode cX4_areUnlike 11 = .ok (.iload_n 3, 1) := by decide +kernel
theorem dX4_areUnlike_12 : decode cX4_areUnlike 12 = .ok (.bipush 6, 2) := by decide +kernel
theorem dX4_areUnlike_14 : decode cX4_areUnlike 14 = .ok (.if_icmp .ge 52, 3) := by decide +kernel
theorem dX4_areUnlike_17 : decode cX4_areUnlike 17 = .ok (.aload_n 0, 1) := by decide +kernel
theorem dX4_areUnlike_18 : decode cX4_areUnlike 18 = .ok (.getfield 15, 3) := by decide +kernel
theorem dX4_areUnlike_21 : decode cX4_areUnlike 21 = .ok (.iload_n 3, 1) := by decide +kernel
theorem dX4_areUnlike_22 : decode cX4_areUnlike 22 = .ok (.baload, 1) := by decide +kernel
theorem dX4_areUnlike_23 : decode cX4_areUnlike 23 = .ok (.ifCond .eq 37, 3) := by decide +kernel
theorem dX4_areUnlike_26 : decode cX4_areUnlike 26 = .ok (.aload_n 0, 1) := by decide +kernel
theorem dX4_areUnlike_27 : decode cX4_areUnlike 27 = .ok (.getfield 9, 3) := by decide +kernel
theorem dX4_areUnlike_30 : decode cX4_areUnlike 30 = .ok (.iload_n 3, 1) := by decide +kernel
theorem dX4_areUnlike_31 : decode cX4_areUnlike 31 = .ok (.aload_n 0, 1) := by decide +kernel
theorem dX4_areUnlike_32 : decode cX4_areUnlike 32 = .ok (.iload_n 3, 1) := by decide +kernel
theorem dX4_areUnlike_33 : decode cX4_areUnlike 33 = .ok (.invokevirtual 89, 3) := by decide +kernel
theorem dX4_areUnlike_36 : decode cX4_areUnlike 36 = .ok (.iastore, 1) := by decide +kernel
theorem dX4_areUnlike_37 : decode cX4_areUnlike 37 = .ok (.aload_n 0, 1) := by decide +kernel
theorem dX4_areUnlike_38 : decode cX4_areUnlike 38 = .ok (.getfield 9, 3) := by decide +kernel
theorem dX4_areUnlike_41 : decode cX4_areUnlike 41 = .ok (.iload_n 3, 1) := by decide +kernel
theorem dX4_areUnlike_42 : decode cX4_areUnlike 42 = .ok (.iaload, 1) := by decide +kernel
theorem dX4_areUnlike_43 : decode cX4_areUnlike 43 = .ok (.aload_n 0, 1) := by decide +kernel
theorem dX4_areUnlike_44 : decode cX4_areUnlike 44 = .ok (.getfield 86, 3) := by decide +kernel
theorem dX4_areUnlike_47 : decode cX4_areUnlike 47 = .ok (.if_icmp .eq 11, 3) := by decide +kernel
theorem dX4_areUnlike_50 : decode cX4_areUnlike 50 = .ok (.aload_n 0, 1) := by decide +kernel
theorem dX4_areUnlike_51 : decode cX4_areUnlike 51 = .ok (.iload_n 3, 1) := by decide +kernel
theorem dX4_areUnlike_52 : decode cX4_areUnlike 52 = .ok (.invokevirtual 139, 3) := by decide +kernel
theorem dX4_areUnlike_55 : decode cX4_areUnlike 55 = .ok (.ifCond .eq 5, 3) := by decide +kernel
theorem dX4_areUnlike_58 : decode cX4_areUnlike 58 = .ok (.iconst 0, 1) := by decide +kernel
theorem dX4_areUnlike_59 : decode cX4_areUnlike 59 = .ok (.ireturn, 1) := by decide +kernel
theorem dX4_areUnlike_60 : decode cX4_areUnlike 60 = .ok (.iinc 3 1, 3) := by decide +kernel
theorem dX4_areUnlike_63 : decode cX4_areUnlike 63 = .ok (.goto (-57), 3) := by decide +kernel
theorem dX4_areUnlike_66 : decode cX4_areUnlike 66 = .ok (.iconst 1, 1) := by decide +kernel
theorem dX4_areUnlike_67 : decode cX4_areUnlike 67 = .ok (.ireturn, 1) := by decide +kernel
theorem dX4_isTold_0 : decode cX4_isTold 0 = .ok (.iconst 0, 1) := by decide +kernel
theorem dX4_isTold_1 : decode cX4_isTold 1 = .ok (.istore_n 2, 1) := by decide +kernel
theorem dX4_isTold_2 : decode cX4_isTold 2 = .ok (.iload_n 2, 1) := by decide +kernel
theorem dX4_isTold_3 : decode cX4_isTold 3 = .ok (.iload_n 1, 1) := by decide +kernel
theorem dX4_isTold_4 : decode cX4_isTold 4 = .ok (.if_icmp .ge 35, 3) := by decide +kernel
theorem dX4_isTold_7 : decode cX4_isTold 7 = .ok (.aload_n 0, 1) := by decide +kernel
theorem dX4_isTold_8 : decode cX4_isTold 8 = .ok (.getfield 15, 3) := by decide +kernel
theorem dX4_isTold_11 : decode cX4_isTold 11 = .ok (.iload_n 2, 1) := by decide +kernel
theorem dX4_isTold_12 : decode cX4_isTold 12 = .ok (.baload, 1) := by decide +kernel
theorem dX4_isTold_13 : decode cX4_isTold 13 = .ok (.ifCond .eq 20, 3) := by decide +kernel
theorem dX4_isTold_16 : decode cX4_isTold 16 = .ok (.aload_n 0, 1) := by decide +kernel
theorem dX4_isTold_17 : decode cX4_isTold 17 = .ok (.getfield 9, 3) := by decide +kernel
theorem dX4_isTold_20 : decode cX4_isTold 20 = .ok (.iload_n 2, 1) := by decide +kernel
theorem dX4_isTold_21 : decode cX4_isTold 21 = .ok (.iaload, 1) := by decide +kernel
theorem dX4_isTold_22 : decode cX4_isTold 22 = .ok (.aload_n 0, 1) := by decide +kernel
theorem dX4_isTold_23 : decode cX4_isTold 23 = .ok (.getfield 9, 3) := by decide +kernel
theorem dX4_isTold_26 : decode cX4_isTold 26 = .ok (.iload_n 1, 1) := by decide +kernel
theorem dX4_isTold_27 : decode cX4_isTold 27 = .ok (.iaload, 1) := by decide +kernel
theorem dX4_isTold_28 : decode cX4_isTold 28 = .ok (.if_icmp .ne 5, 3) := by decide +kernel
theorem dX4_isTold_31 : decode cX4_isTold 31 = .ok (.iconst 1, 1) := by decide +kernel
theorem dX4_isTold_32 : decode cX4_isTold 32 = .ok (.ireturn, 1) := by decide +kernel
theorem dX4_isTold_33 : decode cX4_isTold 33 = .ok (.iinc 2 1, 3) := by decide +kernel
theorem dX4_isTold_36 : decode cX4_isTold 36 = .ok (.goto (-34), 3) := by decide +kernel
theorem dX4_isTold_39 : decode cX4_isTold 39 = .ok (.iconst 0, 1) := by decide +kernel
theorem dX4_isTold_40 : decode cX4_isTold 40 = .ok (.ireturn, 1) := by decide +kernel
theorem dX5_init_0 : decode cX5_init 0 = .ok (.aload_n 0, 1) := by decide +kernel
theorem dX5_init_1 : decode cX5_init 1 = .ok (.invokespecial 3, 3) := by decide +kernel
theorem dX5_init_4 : decode cX5_init 4 = .ok (.aload_n 0, 1) := by decide +kernel
theorem dX5_init_5 : decode cX5_init 5 = .ok (.bipush 6, 2) := by decide +kernel
theorem dX5_init_7 : decode cX5_init 7 = .ok (.anewarray 9, 3) := by decide +kernel
theorem dX5_init_10 : decode cX5_init 10 = .ok (.putfield 11, 3) := by decide +kernel
theorem dX5_init_13 : decode cX5_init 13 = .ok (.iconst 0, 1) := by decide +kernel
theorem dX5_init_14 : decode cX5_init 14 = .ok (.istore_n 1, 1) := by decide +kernel
theorem dX5_init_15 : decode cX5_init 15 = .ok (.iload_n 1, 1) := by decide +kernel
theorem dX5_init_16 : decode cX5_init 16 = .ok (.aload_n 0, 1) := by decide +kernel
theorem dX5_init_17 : decode cX5_init 17 = .ok (.getfield 11, 3) := by decide +kernel
theorem dX5_init_20 : decode cX5_init 20 = .ok (.arraylength, 1) := by decide +kernel
theorem dX5_init_21 : decode cX5_init 21 = .ok (.if_icmp .ge 22, 3) := by decide +kernel
theorem dX5_init_24 : decode cX5_init 24 = .ok (.aload_n 0, 1) := by decide +kernel
theorem dX5_init_25 : decode cX5_init 25 = .ok (.getfield 11, 3) := by decide +kernel
theorem dX5_init_28 : decode cX5_init 28 = .ok (.iload_n 1, 1) := by decide +kernel
theorem dX5_init_29 : decode cX5_init 29 = .ok (.new 9, 3) := by decide +kernel
theorem dX5_init_32 : decode cX5_init 32 = .ok (.dup, 1) := by decide +kernel
theorem dX5_init_33 : decode cX5_init 33 = .ok (.invokespecial 17, 3) := by decide +kernel
theorem dX5_init_36 : decode cX5_init 36 = .ok (.aastore, 1) := by decide +kernel
theorem dX5_init_37 : decode cX5_init 37 = .ok (.iinc 1 1, 3) := by decide +kernel
theorem dX5_init_40 : decode cX5_init 40 = .ok (.goto (-25), 3) := by decide +kernel
theorem dX5_init_43 : decode cX5_init 43 = .ok (.return_, 1) := by decide +kernel
theorem dX5_sentenceAt_0 : decode cX5_sentenceAt 0 = .ok (.aload_n 0, 1) := by decide +kernel
theorem dX5_sentenceAt_1 : decode cX5_sentenceAt 1 = .ok (.getfield 11, 3) := by decide +kernel
theorem dX5_sentenceAt_4 : decode cX5_sentenceAt 4 = .ok (.iconst 0, 1) := by decide +kernel
theorem dX5_sentenceAt_5 : decode cX5_sentenceAt 5 = .ok (.iload_n 1, 1) := by decide +kernel
theorem dX5_sentenceAt_6 : decode cX5_sentenceAt 6 = .ok (.iconst 5, 1) := by decide +kernel
theorem dX5_sentenceAt_7 : decode cX5_sentenceAt 7 = .ok (.invokestatic 18, 3) := by decide +kernel
theorem dX5_sentenceAt_10 : decode cX5_sentenceAt 10 = .ok (.invokestatic 24, 3) := by decide +kernel
theorem dX5_sentenceAt_13 : decode cX5_sentenceAt 13 = .ok (.aaload, 1) := by decide +kernel
theorem dX5_sentenceAt_14 : decode cX5_sentenceAt 14 = .ok (.areturn, 1) := by decide +kernel
theorem dX5_find_0 : decode cX5_find 0 = .ok (.aload_n 0, 1) := by decide +kernel
theorem dX5_find_1 : decode cX5_find 1 = .ok (.iload_n 1, 1) := by decide +kernel
theorem dX5_find_2 : decode cX5_find 2 = .ok (.putfield 27, 3) := by decide +kernel
theorem dX5_find_5 : decode cX5_find 5 = .ok (.iload_n 1, 1) := by decide +kernel
theorem dX5_find_6 : decode cX5_find 6 = .ok (.iconst 5, 1) := by decide +kernel
theorem dX5_find_7 : decode cX5_find 7 = .ok (.if_icmp .le 5, 3) := by decide +kernel
theorem dX5_find_10 : decode cX5_find 10 = .ok (.iconst (-1), 1) := by decide +kernel
theorem dX5_find_11 : decode cX5_find 11 = .ok (.ireturn, 1) := by decide +kernel
theorem dX5_find_12 : decode cX5_find 12 = .ok (.iconst 0, 1) := by decide +kernel
theorem dX5_find_13 : decode cX5_find 13 = .ok (.istore_n 3, 1) := by decide +kernel
theorem dX5_find_14 : decode cX5_find 14 = .ok (.iload_n 3, 1) := by decide +kernel
theorem dX5_find_15 : decode cX5_find 15 = .ok (.bipush 8, 2) := by decide +kernel
theorem dX5_find_17 : decode cX5_find 17 = .ok (.if_icmp .ge 79, 3) := by decide +kernel
theorem dX5_find_20 : decode cX5_find 20 = .ok (.aload_n 0, 1) := by decide +kernel
theorem dX5_find_21 : decode cX5_find 21 = .ok (.iload_n 3, 1) := by decide +kernel
theorem dX5_find_22 : decode cX5_find 22 = .ok (.putfield 31, 3) := by decide +kernel
theorem dX5_find_25 : decode cX5_find 25 = .ok (.aload_n 0, 1) := by decide +kernel
theorem dX5_find_26 : decode cX5_find 26 = .ok (.iconst 0, 1) := by decide +kernel
theorem dX5_find_27 : decode cX5_find 27 = .ok (.invokevirtual 34, 3) := by decide +kernel
theorem dX5_find_30 : decode cX5_find 30 = .ok (.ifCond .ne 21, 3) := by decide +kernel
theorem dX5_find_33 : decode cX5_find 33 = .ok (.aload_n 0, 1) := by decide +kernel
theorem dX5_find_34 : decode cX5_find 34 = .ok (.getfield 31, 3) := by decide +kernel
theorem dX5_find_37 : decode cX5_find 37 = .ok (.invokestatic 38, 3) := by decide +kernel
theorem dX5_find_40 : decode cX5_find 40 = .ok (.ifCond .eq 50, 3) := by decide +kernel
theorem dX5_find_43 : decode cX5_find 43 = .ok (.aload_n 0, 1) := by decide +kernel
theorem dX5_find_44 : decode cX5_find 44 = .ok (.iconst 1, 1) := by decide +kernel
theorem dX5_find_45 : decode cX5_find 45 = .ok (.invokevirtual 34, 3) := by decide +kernel
theorem dX5_find_48 : decode cX5_find 48 = .ok (.ifCond .eq 42, 3) := by decide +kernel
theorem dX5_find_51 : decode cX5_find 51 = .ok (.aload_n 0, 1) := by decide +kernel
theorem dX5_find_52 : decode cX5_find 52 = .ok (.aload_n 2, 1) := by decide +kernel
theorem dX5_find_53 : decode cX5_find 53 = .ok (.invokevirtual 42, 3) := by decide +kernel
theorem dX5_find_56 : decode cX5_find 56 = .ok (.aload_n 0, 1) := by decide +kernel
theorem dX5_find_57 : decode cX5_find 57 = .ok (.getfield 31, 3) := by decide +kernel
theorem dX5_find_60 : decode cX5_find 60 = .ok (.aload_n 0, 1) := by decide +kernel
theorem dX5_find_61 : decode cX5_find 61 = .ok (.getfield 46, 3) := by decide +kernel
theorem dX5_find_64 : decode cX5_find 64 = .ok (.ifCond .eq 8, 3) := by decide +kernel
theorem dX5_find_67 : decode cX5_find 67 = .ok (.bipush 8, 2) := by decide +kernel
theorem dX5_find_69 : decode cX5_find 69 = .ok (.goto 4, 3) := by decide +kernel
theorem dX5_find_72 : decode cX5_find 72 = .ok (.iconst 0, 1) := by decide +kernel
theorem dX5_find_73 : decode cX5_find 73 = .ok (.iadd, 1) := by decide +kernel
theorem dX5_find_74 : decode cX5_find 74 = .ok (.aload_n 0, 1) := by decide +kernel
theorem dX5_find_75 : decode cX5_find 75 = .ok (.getfield 50, 3) := by decide +kernel
theorem dX5_find_78 : decode cX5_find 78 = .ok (.iconst (-1), 1) := by decide +kernel
theorem dX5_find_79 : decode cX5_find 79 = .ok (.if_icmp .ne 7, 3) := by decide +kernel
theorem dX5_find_82 : decode cX5_find 82 = .ok (.iconst 0, 1) := by decide +kernel
theorem dX5_find_83 : decode cX5_find 83 = .ok (.goto 5, 3) := by decide +kernel
theorem dX5_find_86 : decode cX5_find 86 = .ok (.bipush 16, 2) := by decide +kernel
theorem dX5_find_88 : decode cX5_find 88 = .ok (.iadd, 1) := by decide +kernel
theorem dX5_find_89 : decode cX5_find 89 = .ok (.ireturn, 1) := by decide +kernel
theorem dX5_find_90 : decode cX5_find 90 = .ok (.iinc 3 1, 3) := by decide +kernel
theorem dX5_find_93 : decode cX5_find 93 = .ok (.goto (-79), 3) := by decide +kernel
theorem dX5_find_96 : decode cX5_find 96 = .ok (.iconst (-1), 1) := by decide +kernel
theorem dX5_find_97 : decode cX5_find 97 = .ok (.ireturn, 1) := by decide +kernel
theorem dX5_isShape_0 : decode cX5_isShape 0 = .ok (.aload_n 0, 1) := by decide +kernel
theorem dX5_isShape_1 : decode cX5_isShape 1 = .ok (.iload_n 1, 1) := by decide +kernel
theorem dX5_isShape_2 : decode cX5_isShape 2 = .ok (.putfield 46, 3) := by decide +kernel
theorem dX5_isShape_5 : decode cX5_isShape 5 = .ok (.aload_n 0, 1) := by decide +kernel
theorem dX5_isShape_6 : decode cX5_isShape 6 = .ok (.getfield 31, 3) := by decide +kernel
theorem dX5_isShape_9 : decode cX5_isShape 9 = .ok (.invokestatic 53, 3) := by decide +kernel
theorem dX5_isShape_12 : decode cX5_isShape 12 = .ok (.istore_n 2, 1) := by decide +kernel
theorem dX5_isShape_13 : decode cX5_isShape 13 = .ok (.aload_n 0, 1) := by decide +kernel
theorem dX5_isShape_14 : decode cX5_isShape 14 = .ok (.iconst (-1), 1) := by decide +kernel
theorem dX5_isShape_15 : decode cX5_isShape 15 = .ok (.putfield 50, 3) := by decide +kernel
theorem dX5_isShape_18 : decode cX5_isShape 18 = .ok (.aload_n 0, 1) := by decide +kernel
theorem dX5_isShape_19 : decode cX5_isShape 19 = .ok (.getfield 27, 3) := by decide +kernel
theorem dX5_isShape_22 : decode cX5_isShape 22 = .ok (.iload_n 2, 1) := by decide +kernel
theorem dX5_isShape_23 : decode cX5_isShape 23 = .ok (.if_icmp .ne 23, 3) := by decide +kernel
theorem dX5_isShape_26 : decode cX5_isShape 26 = .ok (.aload_n 0, 1) := by decide +kernel
theorem dX5_isShape_27 : decode cX5_isShape 27 = .ok (.invokevirtual 57, 3) := by decide +kernel
theorem dX5_isShape_30 : decode cX5_isShape 30 = .ok (.ifCond .eq 14, 3) := by decide +kernel
theorem dX5_isShape_33 : decode cX5_isShape 33 = .ok (.aload_n 0, 1) := by decide +kernel
theorem dX5_isShape_34 : decode cX5_isShape 34 = .ok (.invokevirtual 61, 3) := by decide +kernel
theorem dX5_isShape_37 : decode cX5_isShape 37 = .ok (.ifCond .eq 7, 3) := by decide +kernel
theorem dX5_isShape_40 : decode cX5_isShape 40 = .ok (.iconst 1, 1) := by decide +kernel
theorem dX5_isShape_41 : decode cX5_isShape 41 = .ok (.goto 4, 3) := by decide +kernel
theorem dX5_isShape_44 : decode cX5_isShape 44 = .ok (.iconst 0, 1) := by decide +kernel
theorem dX5_isShape_45 : decode cX5_isShape 45 = .ok (.ireturn, 1) := by decide +kernel
theorem dX5_isShape_46 : decode cX5_isShape 46 = .ok (.aload_n 0, 1) := by decide +kernel
theorem dX5_isShape_47 : decode cX5_isShape 47 = .ok (.getfield 27, 3) := by decide +kernel
theorem dX5_isShape_50 : decode cX5_isShape 50 = .ok (.iload_n 2, 1) := by decide +kernel
theorem dX5_isShape_51 : decode cX5_isShape 51 = .ok (.iconst 1, 1) := by decide +kernel
theorem dX5_isShape_52 : decode cX5_isShape 52 = .ok (.iadd, 1) := by decide +kernel
theorem dX5_isShape_53 : decode cX5_isShape 53 = .ok (.if_icmp .ne 44, 3) := by decide +kernel
theorem dX5_isShape_56 : decode cX5_isShape 56 = .ok (.iconst 0, 1) := by decide +kernel
theorem dX5_isShape_57 : decode cX5_isShape 57 = .ok (.istore_n 3, 1) := by decide +kernel
theorem dX5_isShape_58 : decode cX5_isShape 58 = .ok (.iload_n 3, 1) := by decide +kernel
theorem dX5_isShape_59 : decode cX5_isShape 59 = .ok (.iload_n 2, 1) := by decide +kernel
theorem dX5_isShape_60 : decode cX5_isShape 60 = .ok (.if_icmp .gt 37, 3) := by decide +kernel
theorem dX5_isShape_63 : decode cX5_isShape 63 = .ok (.aload_n 0, 1) := by decide +kernel
theorem dX5_isShape_64 : decode cX5_isShape 64 = .ok (.iload_n 3, 1) := by decide +kernel
theorem dX5_isShape_65 : decode cX5_isShape 65 = .ok (.putfield 50, 3) := by decide +kernel
theorem dX5_isShape_68 : decode cX5_isShape 68 = .ok (.aload_n 0, 1) := by decide +kernel
theorem dX5_isShape_69 : decode cX5_isShape 69 = .ok (.invokevirtual 57, 3) := by decide +kernel
theorem dX5_isShape_72 : decode cX5_isShape 72 = .ok (.ifCond .eq 19, 3) := by decide +kernel
theorem dX5_isShape_75 : decode cX5_isShape 75 = .ok (.aload_n 0, 1) := by decide +kernel
theorem dX5_isShape_76 : decode cX5_isShape 76 = .ok (.invokevirtual 61, 3) := by decide +kernel
theorem dX5_isShape_79 : decode cX5_isShape 79 = .ok (.ifCond .eq 12, 3) := by decide +kernel
theorem dX5_isShape_82 : decode cX5_isShape 82 = .ok (.aload_n 0, 1) := by decide +kernel
theorem dX5_isShape_83 : decode cX5_isShape 83 = .ok (.invokevirtual 64, 3) := by decide +kernel
theorem dX5_isShape_86 : decode cX5_isShape 86 = .ok (.ifCond .eq 5, 3) := by decide +kernel
theorem dX5_isShape_89 : decode cX5_isShape 89 = .ok (.iconst 1, 1) := by decide +kernel
theorem dX5_isShape_90 : decode cX5_isShape 90 = .ok (.ireturn, 1) := by decide +kernel
theorem dX5_isShape_91 : decode cX5_isShape 91 = .ok (.iinc 3 1, 3) := by decide +kernel
theorem dX5_isShape_94 : decode cX5_isShape 94 = .ok (.goto (-36), 3) := by decide +kernel
theorem dX5_isShape_97 : decode cX5_isShape 97 = .ok (.iconst 0, 1) := by decide +kernel
theorem dX5_isShape_98 : decode cX5_isShape 98 = .ok (.ireturn, 1) := by decide +kernel
theorem dX5_part_0 : decode cX5_part 0 = .ok (.aload_n 0, 1) := by decide +kernel
theorem dX5_part_1 : decode cX5_part 1 = .ok (.aload_n 0, 1) := by decide +kernel
theorem dX5_part_2 : decode cX5_part 2 = .ok (.getfield 50, 3) := by decide +kernel
theorem dX5_part_5 : decode cX5_part 5 = .ok (.iconst (-1), 1) := by decide +kernel
theorem dX5_part_6 : decode cX5_part 6 = .ok (.if_icmp .eq 17, 3) := by decide +kernel
theorem dX5_part_9 : decode cX5_part 9 = .ok (.iload_n 1, 1) := by decide +kernel
theorem dX5_part_10 : decode cX5_part 10 = .ok (.aload_n 0, 1) := by decide +kernel
theorem dX5_part_11 : decode cX5_part 11 = .ok (.getfield 50, 3) := by decide +kernel
theorem dX5_part_14 : decode cX5_part 14 = .ok (.if_icmp .lt 9, 3) := by decide +kernel
theorem dX5_part_17 : decode cX5_part 17 = .ok (.iload_n 1, 1) := by decide +kernel
theorem dX5_part_18 : decode cX5_part 18 = .ok (.iconst 1, 1) := by decide +kernel
theorem dX5_part_19 : decode cX5_part 19 = .ok (.iadd, 1) := by decide +kernel
theorem dX5_part_20 : decode cX5_part 20 = .ok (.goto 4, 3) := by decide +kernel
theorem dX5_part_23 : decode cX5_part 23 = .ok (.iload_n 1, 1) := by decide +kernel
theorem dX5_part_24 : decode cX5_part 24 = .ok (.invokevirtual 67, 3) := by decide +kernel
theorem dX5_part_27 : decode cX5_part 27 = .ok (.areturn, 1) := by decide +kernel
theorem dX5_idle_0 : decode cX5_idle 0 = .ok (.aload_n 0, 1) := by decide +kernel
theorem dX5_idle_1 : decode cX5_idle 1 = .ok (.aload_n 0, 1) := by decide +kernel
theorem dX5_idle_2 : decode cX5_idle 2 = .ok (.getfield 50, 3) := by decide +kernel
theorem dX5_idle_5 : decode cX5_idle 5 = .ok (.invokevirtual 67, 3) := by decide +kernel
theorem dX5_idle_8 : decode cX5_idle 8 = .ok (.areturn, 1) := by decide +kernel
theorem dX5_hasForms_0 : decode cX5_hasForms 0 = .ok (.iconst 0, 1) := by decide +kernel
theorem dX5_hasForms_1 : decode cX5_hasForms 1 = .ok (.istore_n 1, 1) := by decide +kernel
theorem dX5_hasForms_2 : decode cX5_hasForms 2 = .ok (.iload_n 1, 1) := by decide +kernel
theorem dX5_hasForms_3 : decode cX5_hasForms 3 = .ok (.aload_n 0, 1) := by decide +kernel
theorem dX5_hasForms_4 : decode cX5_hasForms 4 = .ok (.getfield 31, 3) := by decide +kernel
theorem dX5_hasForms_7 : decode cX5_hasForms 7 = .ok (.invokestatic 53, 3) := by decide +kernel
theorem dX5_hasForms_10 : decode cX5_hasForms 10 = .ok (.if_icmp .gt 34, 3) := by decide +kernel
theorem dX5_hasForms_13 : decode cX5_hasForms 13 = .ok (.aload_n 0, 1) := by decide +kernel
theorem dX5_hasForms_14 : decode cX5_hasForms 14 = .ok (.iload_n 1, 1) := by decide +kernel
theorem dX5_hasForms_15 : decode cX5_hasForms 15 = .ok (.invokevirtual 71, 3) := by decide +kernel
theorem dX5_hasForms_18 : decode cX5_hasForms 18 = .ok (.getfield 74, 3) := by decide +kernel
theorem dX5_hasForms_21 : decode cX5_hasForms 21 = .ok (.aload_n 0, 1) := by decide +kernel
theorem dX5_hasForms_22 : decode cX5_hasForms 22 = .ok (.getfield 31, 3) := by decide +kernel
theorem dX5_hasForms_25 : decode cX5_hasForms 25 = .ok (.aload_n 0, 1) := by decide +kernel
theorem dX5_hasForms_26 : decode cX5_hasForms 26 = .ok (.getfield 46, 3) := by decide +kernel
theorem dX5_hasForms_29 : decode cX5_hasForms 29 = .ok (.iload_n 1, 1) := by decide +kernel
theorem dX5_hasForms_30 : decode cX5_hasForms 30 = .ok (.invokestatic 78, 3) := by decide +kernel
theorem dX5_hasForms_33 : decode cX5_hasForms 33 = .ok (.if_icmp .eq 5, 3) := by decide +kernel
theorem dX5_hasForms_36 : decode cX5_hasForms 36 = .ok (.iconst 0, 1) := by decide +kernel
theorem dX5_hasForms_37 : decode cX5_hasForms 37 = .ok (.ireturn, 1) := by decide +kernel
theorem dX5_hasForms_38 : decode cX5_hasForms 38 = .ok (.iinc 1 1, 3) := by decide +kernel
theorem dX5_hasForms_41 : decode cX5_hasForms 41 = .ok (.goto (-39), 3) := by decide +kernel
theorem dX5_hasForms_44 : decode cX5_hasForms 44 = .ok (.iconst 1, 1) := by decide +kernel
theorem dX5_hasForms_45 : decode cX5_hasForms 45 = .ok (.ireturn, 1) := by decide +kernel
theorem dX5_hasWords_0 : decode cX5_hasWords 0 = .ok (.aload_n 0, 1) := by decide +kernel
theorem dX5_hasWords_1 : decode cX5_hasWords 1 = .ok (.aload_n 0, 1) := by decide +kernel
theorem dX5_hasWords_2 : decode cX5_hasWords 2 = .ok (.aload_n 0, 1) := by decide +kernel
theorem dX5_hasWords_3 : decode cX5_hasWords 3 = .ok (.getfield 46, 3) := by decide +kernel
theorem dX5_hasWords_6 : decode cX5_hasWords 6 = .ok (.iconst 0, 1) := by decide +kernel
theorem dX5_hasWords_7 : decode cX5_hasWords 7 = .ok (.invokestatic 82, 3) := by decide +kernel
theorem dX5_hasWords_10 : decode cX5_hasWords 10 = .ok (.invokevirtual 71, 3) := by decide +kernel
theorem dX5_hasWords_13 : decode cX5_hasWords 13 = .ok (.getfield 86, 3) := by decide +kernel
theorem dX5_hasWords_16 : decode cX5_hasWords 16 = .ok (.putfield 89, 3) := by decide +kernel
theorem dX5_hasWords_19 : decode cX5_hasWords 19 = .ok (.aload_n 0, 1) := by decide +kernel
theorem dX5_hasWords_20 : decode cX5_hasWords 20 = .ok (.aload_n 0, 1) := by decide +kernel
theorem dX5_hasWords_21 : decode cX5_hasWords 21 = .ok (.getfield 31, 3) := by decide +kernel
theorem dX5_hasWords_24 : decode cX5_hasWords 24 = .ok (.invokestatic 92, 3) := by decide +kernel
theorem dX5_hasWords_27 : decode cX5_hasWords 27 = .ok (.ifCond .eq 21, 3) := by decide +kernel
theorem dX5_hasWords_30 : decode cX5_hasWords 30 = .ok (.aload_n 0, 1) := by decide +kernel
theorem dX5_hasWords_31 : decode cX5_hasWords 31 = .ok (.aload_n 0, 1) := by decide +kernel
theorem dX5_hasWords_32 : decode cX5_hasWords 32 = .ok (.getfield 46, 3) := by decide +kernel
theorem dX5_hasWords_35 : decode cX5_hasWords 35 = .ok (.iconst 1, 1) := by decide +kernel
theorem dX5_hasWords_36 : decode cX5_hasWords 36 = .ok (.invokestatic 82, 3) := by decide +kernel
theorem dX5_hasWords_39 : decode cX5_hasWords 39 = .ok (.invokevirtual 71, 3) := by decide +kernel
theorem dX5_hasWords_42 : decode cX5_hasWords 42 = .ok (.getfield 86, 3) := by decide +kernel
theorem dX5_hasWords_45 : decode cX5_hasWords 45 = .ok (.goto 4, 3) := by decide +kernel
theorem dX5_hasWords_48 : decode cX5_hasWords 48 = .ok (.iconst (-1), 1) := by decide +kernel
theorem dX5_hasWords_49 : decode cX5_hasWords 49 = .ok (.putfield 95, 3) := by decide +kernel
theorem dX5_hasWords_52 : decode cX5_hasWords 52 = .ok (.aload_n 0, 1) := by decide +kernel
theorem dX5_hasWords_53 : decode cX5_hasWords 53 = .ok (.aload_n 0, 1) := by decide +kernel
theorem dX5_hasWords_54 : decode cX5_hasWords 54 = .ok (.aload_n 0, 1) := by decide +kernel
theorem dX5_hasWords_55 : decode cX5_hasWords 55 = .ok (.getfield 31, 3) := by decide +kernel
theorem dX5_hasWords_58 : decode cX5_hasWords 58 = .ok (.invokestatic 53, 3) := by decide +kernel
theorem dX5_hasWords_61 : decode cX5_hasWords 61 = .ok (.invokevirtual 71, 3) := by decide +kernel
theorem dX5_hasWords_64 : decode cX5_hasWords 64 = .ok (.getfield 98, 3) := by decide +kernel
theorem dX5_hasWords_67 : decode cX5_hasWords 67 = .ok (.putfield 101, 3) := by decide +kernel
theorem dX5_hasWords_70 : decode cX5_hasWords 70 = .ok (.iconst 0, 1) := by decide +kernel
theorem dX5_hasWords_71 : decode cX5_hasWords 71 = .ok (.istore_n 1, 1) := by decide +kernel
theorem dX5_hasWords_72 : decode cX5_hasWords 72 = .ok (.iload_n 1, 1) := by decide +kernel
theorem dX5_hasWords_73 : decode cX5_hasWords 73 = .ok (.aload_n 0, 1) := by decide +kernel
theorem dX5_hasWords_74 : decode cX5_hasWords 74 = .ok (.getfield 31, 3) := by decide +kernel
theorem dX5_hasWords_77 : decode cX5_hasWords 77 = .ok (.invokestatic 53, 3) := by decide +kernel
theorem dX5_hasWords_80 : decode cX5_hasWords 80 = .ok (.if_icmp .gt 82, 3) := by decide +kernel
theorem dX5_hasWords_83 : decode cX5_hasWords 83 = .ok (.aload_n 0, 1) := by decide +kernel
theorem dX5_hasWords_84 : decode cX5_hasWords 84 = .ok (.iload_n 1, 1) := by decide +kernel
theorem dX5_hasWords_85 : decode cX5_hasWords 85 = .ok (.invokevirtual 71, 3) := by decide +kernel
theorem dX5_hasWords_88 : decode cX5_hasWords 88 = .ok (.astore_n 2, 1) := by decide +kernel
theorem dX5_hasWords_89 : decode cX5_hasWords 89 = .ok (.aload_n 0, 1) := by decide +kernel
theorem dX5_hasWords_90 : decode cX5_hasWords 90 = .ok (.getfield 31, 3) := by decide +kernel
theorem dX5_hasWords_93 : decode cX5_hasWords 93 = .ok (.aload_n 2, 1) := by decide +kernel
theorem dX5_hasWords_94 : decode cX5_hasWords 94 = .ok (.getfield 74, 3) := by decide +kernel
theorem dX5_hasWords_97 : decode cX5_hasWords 97 = .ok (.invokestatic 104, 3) := by decide +kernel
theorem dX5_hasWords_100 : decode cX5_hasWords 100 = .ok (.ifCond .eq 10, 3) := by decide +kernel
theorem dX5_hasWords_103 : decode cX5_hasWords 103 = .ok (.aload_n 0, 1) := by decide +kernel
theorem dX5_hasWords_104 : decode cX5_hasWords 104 = .ok (.getfield 95, 3) := by decide +kernel
theorem dX5_hasWords_107 : decode cX5_hasWords 107 = .ok (.goto 7, 3) := by decide +kernel
theorem dX5_hasWords_110 : decode cX5_hasWords 110 = .ok (.aload_n 0, 1) := by decide +kernel
theorem dX5_hasWords_111 : decode cX5_hasWords 111 = .ok (.getfield 89, 3) := by decide +kernel
theorem dX5_hasWords_114 : decode cX5_hasWords 114 = .ok (.istore_n 3, 1) := by decide +kernel
theorem dX5_hasWords_115 : decode cX5_hasWords 115 = .ok (.aload_n 2, 1) := by decide +kernel
theorem dX5_hasWords_116 : decode cX5_hasWords 116 = .ok (.getfield 86, 3) := by decide +kernel
theorem dX5_hasWords_119 : decode cX5_hasWords 119 = .ok (.iload_n 3, 1) := by decide +kernel
theorem dX5_hasWords_120 : decode cX5_hasWords 120 = .ok (.invokestatic 108, 3) := by decide +kernel
theorem dX5_hasWords_123 : decode cX5_hasWords 123 = .ok (.ifCond .eq 31, 3) := by decide +kernel
theorem dX5_hasWords_126 : decode cX5_hasWords 126 = .ok (.aload_n 2, 1) := by decide +kernel
theorem dX5_hasWords_127 : decode cX5_hasWords 127 = .ok (.getfield 112, 3) := by decide +kernel
theorem dX5_hasWords_130 : decode cX5_hasWords 130 = .ok (.aload_n 0, 1) := by decide +kernel
theorem dX5_hasWords_131 : decode cX5_hasWords 131 = .ok (.getfield 89, 3) := by decide +kernel
theorem dX5_hasWords_134 : decode cX5_hasWords 134 = .ok (.invokestatic 108, 3) := by decide +kernel
theorem dX5_hasWords_137 : decode cX5_hasWords 137 = .ok (.ifCond .eq 17, 3) := by decide +kernel
theorem dX5_hasWords_140 : decode cX5_hasWords 140 = .ok (.aload_n 2, 1) := by decide +kernel
theorem dX5_hasWords_141 : decode cX5_hasWords 141 = .ok (.getfield 98, 3) := by decide +kernel
theorem dX5_hasWords_144 : decode cX5_hasWords 144 = .ok (.aload_n 0, 1) := by decide +kernel
theorem dX5_hasWords_145 : decode cX5_hasWords 145 = .ok (.getfield 101, 3) := by decide +kernel
theorem dX5_hasWords_148 : decode cX5_hasWords 148 = .ok (.invokestatic 108, 3) := by decide +kernel
theorem dX5_hasWords_151 : decode cX5_hasWords 151 = .ok (.ifCond .ne 5, 3) := by decide +kernel
theorem dX5_hasWords_154 : decode cX5_hasWords 154 = .ok (.iconst 0, 1) := by decide +kernel
theorem dX5_hasWords_155 : decode cX5_hasWords 155 = .ok (.ireturn, 1) := by decide +kernel
theorem dX5_hasWords_156 : decode cX5_hasWords 156 = .ok (.iinc 1 1, 3) := by decide +kernel
theorem dX5_hasWords_159 : decode cX5_hasWords 159 = .ok (.goto (-87), 3) := by decide +kernel
theorem dX5_hasWords_162 : decode cX5_hasWords 162 = .ok (.aload_n 0, 1) := by decide +kernel
theorem dX5_hasWords_163 : decode cX5_hasWords 163 = .ok (.getfield 95, 3) := by decide +kernel
theorem dX5_hasWords_166 : decode cX5_hasWords 166 = .ok (.aload_n 0, 1) := by decide +kernel
theorem dX5_hasWords_167 : decode cX5_hasWords 167 = .ok (.getfield 89, 3) := by decide +kernel
theorem dX5_hasWords_170 : decode cX5_hasWords 170 = .ok (.if_icmp .eq 7, 3) := by decide +kernel
theorem dX5_hasWords_173 : decode cX5_hasWords 173 = .ok (.iconst 1, 1) := by decide +kernel
theorem dX5_hasWords_174 : decode cX5_hasWords 174 = .ok (.goto 4, 3) := by decide +kernel
theorem dX5_hasWords_177 : decode cX5_hasWords 177 = .ok (.iconst 0, 1) := by decide +kernel
theorem dX5_hasWords_178 : decode cX5_hasWords 178 = .ok (.ireturn, 1) := by decide +kernel
theorem dX5_isOrNone_0 : decode cX5_isOrNone 0 = .ok (.iload_n 0, 1) := by decide +kernel
theorem dX5_isOrNone_1 : decode cX5_isOrNone 1 = .ok (.iconst (-1), 1) := by decide +kernel
theorem dX5_isOrNone_2 : decode cX5_isOrNone 2 = .ok (.if_icmp .eq 8, 3) := by decide +kernel
theorem dX5_isOrNone_5 : decode cX5_isOrNone 5 = .ok (.iload_n 0, 1) := by decide +kernel
theorem dX5_isOrNone_6 : decode cX5_isOrNone 6 = .ok (.iload_n 1, 1) := by decide +kernel
theorem dX5_isOrNone_7 : decode cX5_isOrNone 7 = .ok (.if_icmp .ne 7, 3) := by decide +kernel
theorem dX5_isOrNone_10 : decode cX5_isOrNone 10 = .ok (.iconst 1, 1) := by decide +kernel
theorem dX5_isOrNone_11 : decode cX5_isOrNone 11 = .ok (.goto 4, 3) := by decide +kernel
theorem dX5_isOrNone_14 : decode cX5_isOrNone 14 = .ok (.iconst 0, 1) := by decide +kernel
theorem dX5_isOrNone_15 : decode cX5_isOrNone 15 = .ok (.ireturn, 1) := by decide +kernel
theorem dX5_hasIdle_0 : decode cX5_hasIdle 0 = .ok (.aload_n 0, 1) := by decide +kernel
theorem dX5_hasIdle_1 : decode cX5_hasIdle 1 = .ok (.invokevirtual 115, 3) := by decide +kernel
theorem dX5_hasIdle_4 : decode cX5_hasIdle 4 = .ok (.astore_n 1, 1) := by decide +kernel
theorem dX5_hasIdle_5 : decode cX5_hasIdle 5 = .ok (.aload_n 1, 1) := by decide +kernel
theorem dX5_hasIdle_6 : decode cX5_hasIdle 6 = .ok (.getfield 74, 3) := by decide +kernel
theorem dX5_hasIdle_9 : decode cX5_hasIdle 9 = .ok (.bipush 65, 2) := by decide +kernel
theorem dX5_hasIdle_11 : decode cX5_hasIdle 11 = .ok (.if_icmp .ne 40, 3) := by decide +kernel
theorem dX5_hasIdle_14 : decode cX5_hasIdle 14 = .ok (.aload_n 1, 1) := by decide +kernel
theorem dX5_hasIdle_15 : decode cX5_hasIdle 15 = .ok (.getfield 86, 3) := by decide +kernel
theorem dX5_hasIdle_18 : decode cX5_hasIdle 18 = .ok (.aload_n 0, 1) := by decide +kernel
theorem dX5_hasIdle_19 : decode cX5_hasIdle 19 = .ok (.getfield 89, 3) := by decide +kernel
theorem dX5_hasIdle_22 : decode cX5_hasIdle 22 = .ok (.if_icmp .eq 29, 3) := by decide +kernel
theorem dX5_hasIdle_25 : decode cX5_hasIdle 25 = .ok (.aload_n 1, 1) := by decide +kernel
theorem dX5_hasIdle_26 : decode cX5_hasIdle 26 = .ok (.getfield 86, 3) := by decide +kernel
theorem dX5_hasIdle_29 : decode cX5_hasIdle 29 = .ok (.aload_n 0, 1) := by decide +kernel
theorem dX5_hasIdle_30 : decode cX5_hasIdle 30 = .ok (.getfield 95, 3) := by decide +kernel
theorem dX5_hasIdle_33 : decode cX5_hasIdle 33 = .ok (.if_icmp .eq 18, 3) := by decide +kernel
theorem dX5_hasIdle_36 : decode cX5_hasIdle 36 = .ok (.aload_n 1, 1) := by decide +kernel
theorem dX5_hasIdle_37 : decode cX5_hasIdle 37 = .ok (.getfield 98, 3) := by decide +kernel
theorem dX5_hasIdle_40 : decode cX5_hasIdle 40 = .ok (.aload_n 0, 1) := by decide +kernel
theorem dX5_hasIdle_41 : decode cX5_hasIdle 41 = .ok (.getfield 101, 3) := by decide +kernel
theorem dX5_hasIdle_44 : decode cX5_hasIdle 44 = .ok (.if_icmp .eq 7, 3) := by decide +kernel
theorem dX5_hasIdle_47 : decode cX5_hasIdle 47 = .ok (.iconst 1, 1) := by decide +kernel
theorem dX5_hasIdle_48 : decode cX5_hasIdle 48 = .ok (.goto 4, 3) := by decide +kernel
theorem dX5_hasIdle_51 : decode cX5_hasIdle 51 = .ok (.iconst 0, 1) := by decide +kernel
theorem dX5_hasIdle_52 : decode cX5_hasIdle 52 = .ok (.ireturn, 1) := by decide +kernel
theorem dX5_keepFacts_0 : decode cX5_keepFacts 0 = .ok (.aload_n 1, 1) := by decide +kernel
theorem dX5_keepFacts_1 : decode cX5_keepFacts 1 = .ok (.arraylength, 1) := by decide +kernel
theorem dX5_keepFacts_2 : decode cX5_keepFacts 2 = .ok (.bipush 11, 2) := by decide +kernel
theorem dX5_keepFacts_4 : decode cX5_keepFacts 4 = .ok (.if_icmp .ge 4, 3) := by decide +kernel
theorem dX5_keepFacts_7 : decode cX5_keepFacts 7 = .ok (.return_, 1) := by decide +kernel
theorem dX5_keepFacts_8 : decode cX5_keepFacts 8 = .ok (.aload_n 1, 1) := by decide +kernel
theorem dX5_keepFacts_9 : decode cX5_keepFacts 9 = .ok (.iconst (-1), 1) := by decide +kernel
theorem dX5_keepFacts_10 : decode cX5_keepFacts 10 = .ok (.invokestatic 119, 3) := by decide +kernel
theorem dX5_keepFacts_13 : decode cX5_keepFacts 13 = .ok (.iconst 0, 1) := by decide +kernel
theorem dX5_keepFacts_14 : decode cX5_keepFacts 14 = .ok (.istore_n 2, 1) := by decide +kernel
theorem dX5_keepFacts_15 : decode cX5_keepFacts 15 = .ok (.iload_n 2, 1) := by decide +kernel
theorem dX5_keepFacts_16 : decode cX5_keepFacts 16 = .ok (.aload_n 0, 1) := by decide +kernel
theorem dX5_keepFacts_17 : decode cX5_keepFacts 17 = .ok (.getfield 31, 3) := by decide +kernel
theorem dX5_keepFacts_20 : decode cX5_keepFacts 20 = .ok (.invokestatic 53, 3) := by decide +kernel
theorem dX5_keepFacts_23 : decode cX5_keepFacts 23 = .ok (.if_icmp .ge 42, 3) := by decide +kernel
theorem dX5_keepFacts_26 : decode cX5_keepFacts 26 = .ok (.aload_n 0, 1) := by decide +kernel
theorem dX5_keepFacts_27 : decode cX5_keepFacts 27 = .ok (.getfield 31, 3) := by decide +kernel
theorem dX5_keepFacts_30 : decode cX5_keepFacts 30 = .ok (.aload_n 0, 1) := by decide +kernel
theorem dX5_keepFacts_31 : decode cX5_keepFacts 31 = .ok (.getfield 46, 3) := by decide +kernel
theorem dX5_keepFacts_34 : decode cX5_keepFacts 34 = .ok (.iload_n 2, 1) := by decide +kernel
theorem dX5_keepFacts_35 : decode cX5_keepFacts 35 = .ok (.invokestatic 125, 3) := by decide +kernel
theorem dX5_keepFacts_38 : decode cX5_keepFacts 38 = .ok (.istore_n 3, 1) := by decide +kernel
theorem dX5_keepFacts_39 : decode cX5_keepFacts 39 = .ok (.iload_n 3, 1) := by decide +kernel
theorem dX5_keepFacts_40 : decode cX5_keepFacts 40 = .ok (.ifCond .lt 19, 3) := by decide +kernel
theorem dX5_keepFacts_43 : decode cX5_keepFacts 43 = .ok (.iload_n 3, 1) := by decide +kernel
theorem dX5_keepFacts_44 : decode cX5_keepFacts 44 = .ok (.iconst 3, 1) := by decide +kernel
theorem dX5_keepFacts_45 : decode cX5_keepFacts 45 = .ok (.if_icmp .ge 14, 3) := by decide +kernel
theorem dX5_keepFacts_48 : decode cX5_keepFacts 48 = .ok (.aload_n 1, 1) := by decide +kernel
theorem dX5_keepFacts_49 : decode cX5_keepFacts 49 = .ok (.iload_n 3, 1) := by decide +kernel
theorem dX5_keepFacts_50 : decode cX5_keepFacts 50 = .ok (.aload_n 0, 1) := by decide +kernel
theorem dX5_keepFacts_51 : decode cX5_keepFacts 51 = .ok (.iload_n 2, 1) := by decide +kernel
theorem dX5_keepFacts_52 : decode cX5_keepFacts 52 = .ok (.invokevirtual 71, 3) := by decide +kernel
theorem dX5_keepFacts_55 : decode cX5_keepFacts 55 = .ok (.getfield 129, 3) := by decide +kernel
theorem dX5_keepFacts_58 : decode cX5_keepFacts 58 = .ok (.iastore, 1) := by decide +kernel
theorem dX5_keepFacts_59 : decode cX5_keepFacts 59 = .ok (.iinc 2 1, 3) := by decide +kernel
theorem dX5_keepFacts_62 : decode cX5_keepFacts 62 = .ok (.goto (-47), 3) := by decide +kernel
theorem dX5_keepFacts_65 : decode cX5_keepFacts 65 = .ok (.aload_n 1, 1) := by decide +kernel
theorem dX5_keepFacts_66 : decode cX5_keepFacts 66 = .ok (.iconst 4, 1) := by decide +kernel
theorem dX5_keepFacts_67 : decode cX5_keepFacts 67 = .ok (.aload_n 0, 1) := by decide +kernel
theorem dX5_keepFacts_68 : decode cX5_keepFacts 68 = .ok (.getfield 89, 3) := by decide +kernel
theorem dX5_keepFacts_71 : decode cX5_keepFacts 71 = .ok (.iastore, 1) := by decide +kernel
theorem dX5_keepFacts_72 : decode cX5_keepFacts 72 = .ok (.aload_n 1, 1) := by decide +kernel
theorem dX5_keepFacts_73 : decode cX5_keepFacts 73 = .ok (.iconst 5, 1) := by decide +kernel
theorem dX5_keepFacts_74 : decode cX5_keepFacts 74 = .ok (.aload_n 0, 1) := by decide +kernel
theorem dX5_keepFacts_75 : decode cX5_keepFacts 75 = .ok (.getfield 95, 3) := by decide +kernel
theorem dX5_keepFacts_78 : decode cX5_keepFacts 78 = .ok (.iastore, 1) := by decide +kernel
theorem dX5_keepFacts_79 : decode cX5_keepFacts 79 = .ok (.aload_n 1, 1) := by decide +kernel
theorem dX5_keepFacts_80 : decode cX5_keepFacts 80 = .ok (.bipush 6, 2) := by decide +kernel
theorem dX5_keepFacts_82 : decode cX5_keepFacts 82 = .ok (.aload_n 0, 1) := by decide +kernel
theorem dX5_keepFacts_83 : decode cX5_keepFacts 83 = .ok (.getfield 101, 3) := by decide +kernel
theorem dX5_keepFacts_86 : decode cX5_keepFacts 86 = .ok (.iastore, 1) := by decide +kernel
theorem dX5_keepFacts_87 : decode cX5_keepFacts 87 = .ok (.aload_n 0, 1) := by decide +kernel
theorem dX5_keepFacts_88 : decode cX5_keepFacts 88 = .ok (.getfield 50, 3) := by decide +kernel
theorem dX5_keepFacts_91 : decode cX5_keepFacts 91 = .ok (.iconst (-1), 1) := by decide +kernel
theorem dX5_keepFacts_92 : decode cX5_keepFacts 92 = .ok (.if_icmp .eq 43, 3) := by decide +kernel
theorem dX5_keepFacts_95 : decode cX5_keepFacts 95 = .ok (.aload_n 1, 1) := by decide +kernel
theorem dX5_keepFacts_96 : decode cX5_keepFacts 96 = .ok (.iconst 3, 1) := by decide +kernel
theorem dX5_keepFacts_97 : decode cX5_keepFacts 97 = .ok (.aload_n 0, 1) := by decide +kernel
theorem dX5_keepFacts_98 : decode cX5_keepFacts 98 = .ok (.invokevirtual 115, 3) := by decide +kernel
theorem dX5_keepFacts_101 : decode cX5_keepFacts 101 = .ok (.getfield 129, 3) := by decide +kernel
theorem dX5_keepFacts_104 : decode cX5_keepFacts 104 = .ok (.iastore, 1) := by decide +kernel
theorem dX5_keepFacts_105 : decode cX5_keepFacts 105 = .ok (.aload_n 1, 1) := by decide +kernel
theorem dX5_keepFacts_106 : decode cX5_keepFacts 106 = .ok (.bipush 7, 2) := by decide +kernel
theorem dX5_keepFacts_108 : decode cX5_keepFacts 108 = .ok (.aload_n 0, 1) := by decide +kernel
theorem dX5_keepFacts_109 : decode cX5_keepFacts 109 = .ok (.invokevirtual 115, 3) := by decide +kernel
theorem dX5_keepFacts_112 : decode cX5_keepFacts 112 = .ok (.getfield 86, 3) := by decide +kernel
theorem dX5_keepFacts_115 : decode cX5_keepFacts 115 = .ok (.iastore, 1) := by decide +kernel
theorem dX5_keepFacts_116 : decode cX5_keepFacts 116 = .ok (.aload_n 1, 1) := by decide +kernel
theorem dX5_keepFacts_117 : decode cX5_keepFacts 117 = .ok (.bipush 8, 2) := by decide +kernel
theorem dX5_keepFacts_119 : decode cX5_keepFacts 119 = .ok (.aload_n 0, 1) := by decide +kernel
theorem dX5_keepFacts_120 : decode cX5_keepFacts 120 = .ok (.invokevirtual 115, 3) := by decide +kernel
theorem dX5_keepFacts_123 : decode cX5_keepFacts 123 = .ok (.getfield 98, 3) := by decide +kernel
theorem dX5_keepFacts_126 : decode cX5_keepFacts 126 = .ok (.iastore, 1) := by decide +kernel
theorem dX5_keepFacts_127 : decode cX5_keepFacts 127 = .ok (.aload_n 1, 1) := by decide +kernel
theorem dX5_keepFacts_128 : decode cX5_keepFacts 128 = .ok (.bipush 9, 2) := by decide +kernel
theorem dX5_keepFacts_130 : decode cX5_keepFacts 130 = .ok (.aload_n 0, 1) := by decide +kernel
theorem dX5_keepFacts_131 : decode cX5_keepFacts 131 = .ok (.getfield 50, 3) := by decide +kernel
theorem dX5_keepFacts_134 : decode cX5_keepFacts 134 = .ok (.iastore, 1) := by decide +kernel
theorem dX5_keepFacts_135 : decode cX5_keepFacts 135 = .ok (.aload_n 1, 1) := by decide +kernel
theorem dX5_keepFacts_136 : decode cX5_keepFacts 136 = .ok (.bipush 10, 2) := by decide +kernel
theorem dX5_keepFacts_138 : decode cX5_keepFacts 138 = .ok (.aload_n 0, 1) := by decide +kernel
theorem dX5_keepFacts_139 : decode cX5_keepFacts 139 = .ok (.getfield 31, 3) := by decide +kernel
theorem dX5_keepFacts_142 : decode cX5_keepFacts 142 = .ok (.aload_n 1, 1) := by decide +kernel
theorem dX5_keepFacts_143 : decode cX5_keepFacts 143 = .ok (.iconst 0, 1) := by decide +kernel
theorem dX5_keepFacts_144 : decode cX5_keepFacts 144 = .ok (.iaload, 1) := by decide +kernel
theorem dX5_keepFacts_145 : decode cX5_keepFacts 145 = .ok (.aload_n 1, 1) := by decide +kernel
theorem dX5_keepFacts_146 : decode cX5_keepFacts 146 = .ok (.iconst 1, 1) := by decide +kernel
theorem dX5_keepFacts_147 : decode cX5_keepFacts 147 = .ok (.iaload, 1) := by decide +kernel
theorem dX5_keepFacts_148 : decode cX5_keepFacts 148 = .ok (.aload_n 1, 1) := by decide +kernel
theorem dX5_keepFacts_149 : decode cX5_keepFacts 149 = .ok (.iconst 2, 1) := by decide +kernel
theorem dX5_keepFacts_150 : decode cX5_keepFacts 150 = .ok (.iaload, 1) := by decide +kernel
theorem dX5_keepFacts_151 : decode cX5_keepFacts 151 = .ok (.invokestatic 132, 3) := by decide +kernel
theorem dX5_keepFacts_154 : decode cX5_keepFacts 154 = .ok (.iastore, 1) := by decide +kernel
theorem dX5_keepFacts_155 : decode cX5_keepFacts 155 = .ok (.return_, 1) := by decide +kernel
theorem dX6_init_0 : decode cX6_init 0 = .ok (.aload_n 0, 1) := by decide +kernel
theorem dX6_init_1 : decode cX6_init 1 = .ok (.invokespecial 3, 3) := by decide +kernel
theorem dX6_init_4 : decode cX6_init 4 = .ok (.aload_n 0, 1) := by decide +kernel
theorem dX6_init_5 : decode cX6_init 5 = .ok (.bipush 20, 2) := by decide +kernel
theorem dX6_init_7 : decode cX6_init 7 = .ok (.newarray .int, 2) := by decide +kernel
theorem dX6_init_9 : decode cX6_init 9 = .ok (.putfield 9, 3) := by decide +kernel
theorem dX6_init_12 : decode cX6_init 12 = .ok (.aload_n 0, 1) := by decide +kernel
theorem dX6_init_13 : decode cX6_init 13 = .ok (.bipush 20, 2) := by decide +kernel
theorem dX6_init_15 : decode cX6_init 15 = .ok (.newarray .int, 2) := by decide +kernel
theorem dX6_init_17 : decode cX6_init 17 = .ok (.putfield 15, 3) := by decide +kernel
theorem dX6_init_20 : decode cX6_init 20 = .ok (.return_, 1) := by decide +kernel
theorem dX6_copyOf_0 : decode cX6_copyOf 0 = .ok (.aload_n 1, 1) := by decide +kernel
theorem dX6_copyOf_1 : decode cX6_copyOf 1 = .ok (.getfield 9, 3) := by decide +kernel
theorem dX6_copyOf_4 : decode cX6_copyOf 4 = .ok (.iconst 0, 1) := by decide +kernel
theorem dX6_copyOf_5 : decode cX6_copyOf 5 = .ok (.aload_n 0, 1) := by decide +kernel
theorem dX6_copyOf_6 : decode cX6_copyOf 6 = .ok (.getfield 9, 3) := by decide +kernel
theorem dX6_copyOf_9 : decode cX6_copyOf 9 = .ok (.iconst 0, 1) := by decide +kernel
theorem dX6_copyOf_10 : decode cX6_copyOf 10 = .ok (.bipush 20, 2) := by decide +kernel
theorem dX6_copyOf_12 : decode cX6_copyOf 12 = .ok (.invokestatic 18, 3) := by decide +kernel
theorem dX6_copyOf_15 : decode cX6_copyOf 15 = .ok (.aload_n 1, 1) := by decide +kernel
theorem dX6_copyOf_16 : decode cX6_copyOf 16 = .ok (.getfield 15, 3) := by decide +kernel
theorem dX6_copyOf_19 : decode cX6_copyOf 19 = .ok (.iconst 0, 1) := by decide +kernel
theorem dX6_copyOf_20 : decode cX6_copyOf 20 = .ok (.aload_n 0, 1) := by decide +kernel
theorem dX6_copyOf_21 : decode cX6_copyOf 21 = .ok (.getfield 15, 3) := by decide +kernel
theorem dX6_copyOf_24 : decode cX6_copyOf 24 = .ok (.iconst 0, 1) := by decide +kernel
theorem dX6_copyOf_25 : decode cX6_copyOf 25 = .ok (.bipush 20, 2) := by decide +kernel
theorem dX6_copyOf_27 : decode cX6_copyOf 27 = .ok (.invokestatic 18, 3) := by decide +kernel
theorem dX6_copyOf_30 : decode cX6_copyOf 30 = .ok (.aload_n 0, 1) := by decide +kernel
theorem dX6_copyOf_31 : decode cX6_copyOf 31 = .ok (.aload_n 1, 1) := by decide +kernel
theorem dX6_copyOf_32 : decode cX6_copyOf 32 = .ok (.getfield 24, 3) := by decide +kernel
theorem dX6_copyOf_35 : decode cX6_copyOf 35 = .ok (.putfield 24, 3) := by decide +kernel
theorem dX6_copyOf_38 : decode cX6_copyOf 38 = .ok (.return_, 1) := by decide +kernel
theorem dX6_setAt_0 : decode cX6_setAt 0 = .ok (.iload_n 1, 1) := by decide +kernel
theorem dX6_setAt_1 : decode cX6_setAt 1 = .ok (.ifCond .lt 17, 3) := by decide +kernel
theorem dX6_setAt_4 : decode cX6_setAt 4 = .ok (.iload_n 1, 1) := by decide +kernel
theorem dX6_setAt_5 : decode cX6_setAt 5 = .ok (.aload_n 0, 1) := by decide +kernel
theorem dX6_setAt_6 : decode cX6_setAt 6 = .ok (.getfield 24, 3) := by decide +kernel
theorem dX6_setAt_9 : decode cX6_setAt 9 = .ok (.if_icmp .ge 9, 3) := by decide +kernel
theorem dX6_setAt_12 : decode cX6_setAt 12 = .ok (.iload_n 1, 1) := by decide +kernel
theorem dX6_setAt_13 : decode cX6_setAt 13 = .ok (.bipush 20, 2) := by decide +kernel
theorem dX6_setAt_15 : decode cX6_setAt 15 = .ok (.if_icmp .lt 7, 3) := by decide +kernel
theorem dX6_setAt_18 : decode cX6_setAt 18 = .ok (.iconst (-1), 1) := by decide +kernel
theorem dX6_setAt_19 : decode cX6_setAt 19 = .ok (.goto 9, 3) := by decide +kernel
theorem dX6_setAt_22 : decode cX6_setAt 22 = .ok (.aload_n 0, 1) := by decide +kernel
theorem dX6_setAt_23 : decode cX6_setAt 23 = .ok (.getfield 9, 3) := by decide +kernel
theorem dX6_setAt_26 : decode cX6_setAt 26 = .ok (.iload_n 1, 1) := by decide +kernel
theorem dX6_setAt_27 : decode cX6_setAt 27 = .ok (.iaload, 1) := by decide +kernel
theorem dX6_setAt_28 : decode cX6_setAt 28 = .ok (.ireturn, 1) := by decide +kernel
theorem dX6_addUnlike_0 : decode cX6_addUnlike 0 = .ok (.aload_n 0, 1) := by decide +kernel
theorem dX6_addUnlike_1 : decode cX6_addUnlike 1 = .ok (.getfield 24, 3) := by decide +kernel
theorem dX6_addUnlike_4 : decode cX6_addUnlike 4 = .ok (.bipush 20, 2) := by decide +kernel
theorem dX6_addUnlike_6 : decode cX6_addUnlike 6 = .ok (.if_icmp .ge 41, 3) := by decide +kernel
theorem dX6_addUnlike_9 : decode cX6_addUnlike 9 = .ok (.aload_n 0, 1) := by decide +kernel
theorem dX6_addUnlike_10 : decode cX6_addUnlike 10 = .ok (.iload_n 2, 1) := by decide +kernel
theorem dX6_addUnlike_11 : decode cX6_addUnlike 11 = .ok (.invokevirtual 28, 3) := by decide +kernel
theorem dX6_addUnlike_14 : decode cX6_addUnlike 14 = .ok (.ifCond .ne 33, 3) := by decide +kernel
theorem dX6_addUnlike_17 : decode cX6_addUnlike 17 = .ok (.aload_n 0, 1) := by decide +kernel
theorem dX6_addUnlike_18 : decode cX6_addUnlike 18 = .ok (.getfield 9, 3) := by decide +kernel
theorem dX6_addUnlike_21 : decode cX6_addUnlike 21 = .ok (.aload_n 0, 1) := by decide +kernel
theorem dX6_addUnlike_22 : decode cX6_addUnlike 22 = .ok (.getfield 24, 3) := by decide +kernel
theorem dX6_addUnlike_25 : decode cX6_addUnlike 25 = .ok (.iload_n 1, 1) := by decide +kernel
theorem dX6_addUnlike_26 : decode cX6_addUnlike 26 = .ok (.iastore, 1) := by decide +kernel
theorem dX6_addUnlike_27 : decode cX6_addUnlike 27 = .ok (.aload_n 0, 1) := by decide +kernel
theorem dX6_addUnlike_28 : decode cX6_addUnlike 28 = .ok (.getfield 15, 3) := by decide +kernel
theorem dX6_addUnlike_31 : decode cX6_addUnlike 31 = .ok (.aload_n 0, 1) := by decide +kernel
theorem dX6_addUnlike_32 : decode cX6_addUnlike 32 = .ok (.getfield 24, 3) := by decide +kernel
theorem dX6_addUnlike_35 : decode cX6_addUnlike 35 = .ok (.iload_n 2, 1) := by decide +kernel
theorem dX6_addUnlike_36 : decode cX6_addUnlike 36 = .ok (.iastore, 1) := by decide +kernel
theorem dX6_addUnlike_37 : decode cX6_addUnlike 37 = .ok (.aload_n 0, 1) := by decide +kernel
theorem dX6_addUnlike_38 : decode cX6_addUnlike 38 = .ok (.dup, 1) := by decide +kernel
theorem dX6_addUnlike_39 : decode cX6_addUnlike 39 = .ok (.getfield 24, 3) := by decide +kernel
theorem dX6_addUnlike_42 : decode cX6_addUnlike 42 = .ok (.iconst 1, 1) := by decide +kernel
theorem dX6_addUnlike_43 : decode cX6_addUnlike 43 = .ok (.iadd, 1) := by decide +kernel
theorem dX6_addUnlike_44 : decode cX6_addUnlike 44 = .ok (.putfield 24, 3) := by decide +kernel
theorem dX6_addUnlike_47 : decode cX6_addUnlike 47 = .ok (.return_, 1) := by decide +kernel
theorem dX6_hasAnswer_0 : decode cX6_hasAnswer 0 = .ok (.iconst 0, 1) := by decide +kernel
theorem dX6_hasAnswer_1 : decode cX6_hasAnswer 1 = .ok (.istore_n 2, 1) := by decide +kernel
theorem dX6_hasAnswer_2 : decode cX6_hasAnswer 2 = .ok (.iload_n 2, 1) := by decide +kernel
theorem dX6_hasAnswer_3 : decode cX6_hasAnswer 3 = .ok (.aload_n 0, 1) := by decide +kernel
theorem dX6_hasAnswer_4 : decode cX6_hasAnswer 4 = .ok (.getfield 24, 3) := by decide +kernel
theorem dX6_hasAnswer_7 : decode cX6_hasAnswer 7 = .ok (.if_icmp .ge 27, 3) := by decide +kernel
theorem dX6_hasAnswer_10 : decode cX6_hasAnswer 10 = .ok (.iload_n 2, 1) := by decide +kernel
theorem dX6_hasAnswer_11 : decode cX6_hasAnswer 11 = .ok (.bipush 20, 2) := by decide +kernel
theorem dX6_hasAnswer_13 : decode cX6_hasAnswer 13 = .ok (.if_icmp .ge 21, 3) := by decide +kernel
theorem dX6_hasAnswer_16 : decode cX6_hasAnswer 16 = .ok (.aload_n 0, 1) := by decide +kernel
theorem dX6_hasAnswer_17 : decode cX6_hasAnswer 17 = .ok (.getfield 15, 3) := by decide +kernel
theorem dX6_hasAnswer_20 : decode cX6_hasAnswer 20 = .ok (.iload_n 2, 1) := by decide +kernel
theorem dX6_hasAnswer_21 : decode cX6_hasAnswer 21 = .ok (.iaload, 1) := by decide +kernel
theorem dX6_hasAnswer_22 : decode cX6_hasAnswer 22 = .ok (.iload_n 1, 1) := by decide +kernel
theorem dX6_hasAnswer_23 : decode cX6_hasAnswer 23 = .ok (.if_icmp .ne 5, 3) := by decide +kernel
theorem dX6_hasAnswer_26 : decode cX6_hasAnswer 26 = .ok (.iconst 1, 1) := by decide +kernel
theorem dX6_hasAnswer_27 : decode cX6_hasAnswer 27 = .ok (.ireturn, 1) := by decide +kernel
theorem dX6_hasAnswer_28 : decode cX6_hasAnswer 28 = .ok (.iinc 2 1, 3) := by decide +kernel
theorem dX6_hasAnswer_31 : decode cX6_hasAnswer 31 = .ok (.goto (-29), 3) := by decide +kernel
theorem dX6_hasAnswer_34 : decode cX6_hasAnswer 34 = .ok (.iconst 0, 1) := by decide +kernel
theorem dX6_hasAnswer_35 : decode cX6_hasAnswer 35 = .ok (.ireturn, 1) := by decide +kernel
theorem dX7_init_0 : decode cX7_init 0 = .ok (.aload_n 0, 1) := by decide +kernel
theorem dX7_init_1 : decode cX7_init 1 = .ok (.invokespecial 3, 3) := by decide +kernel
theorem dX7_init_4 : decode cX7_init 4 = .ok (.aload_n 0, 1) := by decide +kernel
theorem dX7_init_5 : decode cX7_init 5 = .ok (.new 9, 3) := by decide +kernel
theorem dX7_init_8 : decode cX7_init 8 = .ok (.dup, 1) := by decide +kernel
theorem dX7_init_9 : decode cX7_init 9 = .ok (.invokespecial 11, 3) := by decide +kernel
theorem dX7_init_12 : decode cX7_init 12 = .ok (.putfield 12, 3) := by decide +kernel
theorem dX7_init_15 : decode cX7_init 15 = .ok (.aload_n 0, 1) := by decide +kernel
theorem dX7_init_16 : decode cX7_init 16 = .ok (.new 18, 3) := by decide +kernel
theorem dX7_init_19 : decode cX7_init 19 = .ok (.dup, 1) := by decide +kernel
theorem dX7_init_20 : decode cX7_init 20 = .ok (.invokespecial 20, 3) := by decide +kernel
theorem dX7_init_23 : decode cX7_init 23 = .ok (.putfield 21, 3) := by decide +kernel
theorem dX7_init_26 : decode cX7_init 26 = .ok (.aload_n 0, 1) := by decide +kernel
theorem dX7_init_27 : decode cX7_init 27 = .ok (.new 25, 3) := by decide +kernel
theorem dX7_init_30 : decode cX7_init 30 = .ok (.dup, 1) := by decide +kernel
theorem dX7_init_31 : decode cX7_init 31 = .ok (.invokespecial 27, 3) := by decide +kernel
theorem dX7_init_34 : decode cX7_init 34 = .ok (.putfield 28, 3) := by decide +kernel
theorem dX7_init_37 : decode cX7_init 37 = .ok (.aload_n 0, 1) := by decide +kernel
theorem dX7_init_38 : decode cX7_init 38 = .ok (.new 32, 3) := by decide +kernel
theorem dX7_init_41 : decode cX7_init 41 = .ok (.dup, 1) := by decide +kernel
theorem dX7_init_42 : decode cX7_init 42 = .ok (.invokespecial 34, 3) := by decide +kernel
theorem dX7_init_45 : decode cX7_init 45 = .ok (.putfield 35, 3) := by decide +kernel
theorem dX7_init_48 : decode cX7_init 48 = .ok (.aload_n 0, 1) := by decide +kernel
theorem dX7_init_49 : decode cX7_init 49 = .ok (.new 32, 3) := by decide +kernel
theorem dX7_init_52 : decode cX7_init 52 = .ok (.dup, 1) := by decide +kernel
theorem dX7_init_53 : decode cX7_init 53 = .ok (.invokespecial 34, 3) := by decide +kernel
theorem dX7_init_56 : decode cX7_init 56 = .ok (.putfield 39, 3) := by decide +kernel
theorem dX7_init_59 : decode cX7_init 59 = .ok (.aload_n 0, 1) := by decide +kernel
theorem dX7_init_60 : decode cX7_init 60 = .ok (.bipush 11, 2) := by decide +kernel
theorem dX7_init_62 : decode cX7_init 62 = .ok (.newarray .int, 2) := by decide +kernel
theorem dX7_init_64 : decode cX7_init 64 = .ok (.putfield 42, 3) := by decide +kernel
theorem dX7_init_67 : decode cX7_init 67 = .ok (.aload_n 0, 1) := by decide +kernel
theorem dX7_init_68 : decode cX7_init 68 = .ok (.iconst 0, 1) := by decide +kernel
theorem dX7_init_69 : decode cX7_init 69 = .ok (.putfield 46, 3) := by decide +kernel
theorem dX7_init_72 : decode cX7_init 72 = .ok (.aload_n 0, 1) := by decide +kernel
theorem dX7_init_73 : decode cX7_init 73 = .ok (.iconst (-1), 1) := by decide +kernel
theorem dX7_init_74 : decode cX7_init 74 = .ok (.putfield 50, 3) := by decide +kernel
theorem dX7_init_77 : decode cX7_init 77 = .ok (.aload_n 0, 1) := by decide +kernel
theorem dX7_init_78 : decode cX7_init 78 = .ok (.getfield 42, 3) := by decide +kernel
theorem dX7_init_81 : decode cX7_init 81 = .ok (.iconst (-1), 1) := by decide +kernel
theorem dX7_init_82 : decode cX7_init 82 = .ok (.invokestatic 53, 3) := by decide +kernel
theorem dX7_init_85 : decode cX7_init 85 = .ok (.return_, 1) := by decide +kernel
theorem dX7_copyOf_0 : decode cX7_copyOf 0 = .ok (.aload_n 0, 1) := by decide +kernel
theorem dX7_copyOf_1 : decode cX7_copyOf 1 = .ok (.getfield 12, 3) := by decide +kernel
theorem dX7_copyOf_4 : decode cX7_copyOf 4 = .ok (.aload_n 1, 1) := by decide +kernel
theorem dX7_copyOf_5 : decode cX7_copyOf 5 = .ok (.getfield 12, 3) := by decide +kernel
theorem dX7_copyOf_8 : decode cX7_copyOf 8 = .ok (.invokevirtual 59, 3) := by decide +kernel
theorem dX7_copyOf_11 : decode cX7_copyOf 11 = .ok (.aload_n 0, 1) := by decide +kernel
theorem dX7_copyOf_12 : decode cX7_copyOf 12 = .ok (.getfield 21, 3) := by decide +kernel
theorem dX7_copyOf_15 : decode cX7_copyOf 15 = .ok (.aload_n 1, 1) := by decide +kernel
theorem dX7_copyOf_16 : decode cX7_copyOf 16 = .ok (.getfield 21, 3) := by decide +kernel
theorem dX7_copyOf_19 : decode cX7_copyOf 19 = .ok (.invokevirtual 63, 3) := by decide +kernel
theorem dX7_copyOf_22 : decode cX7_copyOf 22 = .ok (.aload_n 0, 1) := by decide +kernel
theorem dX7_copyOf_23 : decode cX7_copyOf 23 = .ok (.getfield 28, 3) := by decide +kernel
theorem dX7_copyOf_26 : decode cX7_copyOf 26 = .ok (.aload_n 1, 1) := by decide +kernel
theorem dX7_copyOf_27 : decode cX7_copyOf 27 = .ok (.getfield 28, 3) := by decide +kernel
theorem dX7_copyOf_30 : decode cX7_copyOf 30 = .ok (.invokevirtual 66, 3) := by decide +kernel
theorem dX7_copyOf_33 : decode cX7_copyOf 33 = .ok (.aload_n 0, 1) := by decide +kernel
theorem dX7_copyOf_34 : decode cX7_copyOf 34 = .ok (.getfield 35, 3) := by decide +kernel
theorem dX7_copyOf_37 : decode cX7_copyOf 37 = .ok (.aload_n 1, 1) := by decide +kernel
theorem dX7_copyOf_38 : decode cX7_copyOf 38 = .ok (.getfield 35, 3) := by decide +kernel
theorem dX7_copyOf_41 : decode cX7_copyOf 41 = .ok (.invokevirtual 69, 3) := by decide +kernel
theorem dX7_copyOf_44 : decode cX7_copyOf 44 = .ok (.aload_n 0, 1) := by decide +kernel
theorem dX7_copyOf_45 : decode cX7_copyOf 45 = .ok (.getfield 39, 3) := by decide +kernel
theorem dX7_copyOf_48 : decode cX7_copyOf 48 = .ok (.aload_n 1, 1) := by decide +kernel
theorem dX7_copyOf_49 : decode cX7_copyOf 49 = .ok (.getfield 39, 3) := by decide +kernel
theorem dX7_copyOf_52 : decode cX7_copyOf 52 = .ok (.invokevirtual 69, 3) := by decide +kernel
theorem dX7_copyOf_55 : decode cX7_copyOf 55 = .ok (.aload_n 1, 1) := by decide +kernel
theorem dX7_copyOf_56 : decode cX7_copyOf 56 = .ok (.getfield 42, 3) := by decide +kernel
theorem dX7_copyOf_59 : decode cX7_copyOf 59 = .ok (.iconst 0, 1) := by decide +kernel
theorem dX7_copyOf_60 : decode cX7_copyOf 60 = .ok (.aload_n 0, 1) := by decide +kernel
theorem dX7_copyOf_61 : decode cX7_copyOf 61 = .ok (.getfield 42, 3) := by decide +kernel
theorem dX7_copyOf_64 : decode cX7_copyOf 64 = .ok (.iconst 0, 1) := by decide +kernel
theorem dX7_copyOf_65 : decode cX7_copyOf 65 = .ok (.bipush 11, 2) := by decide +kernel
theorem dX7_copyOf_67 : decode cX7_copyOf 67 = .ok (.invokestatic 72, 3) := by decide +kernel
theorem dX7_copyOf_70 : decode cX7_copyOf 70 = .ok (.aload_n 0, 1) := by decide +kernel
theorem dX7_copyOf_71 : decode cX7_copyOf 71 = .ok (.aload_n 1, 1) := by decide +kernel
theorem dX7_copyOf_72 : decode cX7_copyOf 72 = .ok (.getfield 46, 3) := by decide +kernel
theorem dX7_copyOf_75 : decode cX7_copyOf 75 = .ok (.putfield 46, 3) := by decide +kernel
theorem dX7_copyOf_78 : decode cX7_copyOf 78 = .ok (.aload_n 0, 1) := by decide +kernel
theorem dX7_copyOf_79 : decode cX7_copyOf 79 = .ok (.aload_n 1, 1) := by decide +kernel
theorem dX7_copyOf_80 : decode cX7_copyOf 80 = .ok (.getfield 50, 3) := by decide +kernel
theorem dX7_copyOf_83 : decode cX7_copyOf 83 = .ok (.putfield 50, 3) := by decide +kernel
theorem dX7_copyOf_86 : decode cX7_copyOf 86 = .ok (.return_, 1) := by decide +kernel
theorem dX8_init_0 : decode cX8_init 0 = .ok (.aload_n 0, 1) := by decide +kernel
theorem dX8_init_1 : decode cX8_init 1 = .ok (.invokespecial 3, 3) := by decide +kernel
theorem dX8_init_4 : decode cX8_init 4 = .ok (.aload_n 0, 1) := by decide +kernel
theorem dX8_init_5 : decode cX8_init 5 = .ok (.bipush 6, 2) := by decide +kernel
theorem dX8_init_7 : decode cX8_init 7 = .ok (.newarray .long, 2) := by decide +kernel
theorem dX8_init_9 : decode cX8_init 9 = .ok (.putfield 9, 3) := by decide +kernel
theorem dX8_init_12 : decode cX8_init 12 = .ok (.aload_n 0, 1) := by decide +kernel
theorem dX8_init_13 : decode cX8_init 13 = .ok (.bipush 6, 2) := by decide +kernel
theorem dX8_init_15 : decode cX8_init 15 = .ok (.newarray .long, 2) := by decide +kernel
theorem dX8_init_17 : decode cX8_init 17 = .ok (.putfield 15, 3) := by decide +kernel
theorem dX8_init_20 : decode cX8_init 20 = .ok (.aload_n 0, 1) := by decide +kernel
theorem dX8_init_21 : decode cX8_init 21 = .ok (.bipush 6, 2) := by decide +kernel
theorem dX8_init_23 : decode cX8_init 23 = .ok (.newarray .int, 2) := by decide +kernel
theorem dX8_init_25 : decode cX8_init 25 = .ok (.putfield 18, 3) := by decide +kernel
theorem dX8_init_28 : decode cX8_init 28 = .ok (.return_, 1) := by decide +kernel
theorem dX8_copyOf_0 : decode cX8_copyOf 0 = .ok (.aload_n 1, 1) := by decide +kernel
theorem dX8_copyOf_1 : decode cX8_copyOf 1 = .ok (.getfield 9, 3) := by decide +kernel
theorem dX8_copyOf_4 : decode cX8_copyOf 4 = .ok (.iconst 0, 1) := by decide +kernel
theorem dX8_copyOf_5 : decode cX8_copyOf 5 = .ok (.aload_n 0, 1) := by decide +kernel
theorem dX8_copyOf_6 : decode cX8_copyOf 6 = .ok (.getfield 9, 3) := by decide +kernel
theorem dX8_copyOf_9 : decode cX8_copyOf 9 = .ok (.iconst 0, 1) := by decide +kernel
theorem dX8_copyOf_10 : decode cX8_copyOf 10 = .ok (.bipush 6, 2) := by decide +kernel
theorem dX8_copyOf_12 : decode cX8_copyOf 12 = .ok (.invokestatic 22, 3) := by decide +kernel
theorem dX8_copyOf_15 : decode cX8_copyOf 15 = .ok (.aload_n 1, 1) := by decide +kernel
theorem dX8_copyOf_16 : decode cX8_copyOf 16 = .ok (.getfield 15, 3) := by decide +kernel
theorem dX8_copyOf_19 : decode cX8_copyOf 19 = .ok (.iconst 0, 1) := by decide +kernel
theorem dX8_copyOf_20 : decode cX8_copyOf 20 = .ok (.aload_n 0, 1) := by decide +kernel
theorem dX8_copyOf_21 : decode cX8_copyOf 21 = .ok (.getfield 15, 3) := by decide +kernel
theorem dX8_copyOf_24 : decode cX8_copyOf 24 = .ok (.iconst 0, 1) := by decide +kernel
theorem dX8_copyOf_25 : decode cX8_copyOf 25 = .ok (.bipush 6, 2) := by decide +kernel
theorem dX8_copyOf_27 : decode cX8_copyOf 27 = .ok (.invokestatic 22, 3) := by decide +kernel
theorem dX8_copyOf_30 : decode cX8_copyOf 30 = .ok (.aload_n 1, 1) := by decide +kernel
theorem dX8_copyOf_31 : decode cX8_copyOf 31 = .ok (.getfield 18, 3) := by decide +kernel
theorem dX8_copyOf_34 : decode cX8_copyOf 34 = .ok (.iconst 0, 1) := by decide +kernel
theorem dX8_copyOf_35 : decode cX8_copyOf 35 = .ok (.aload_n 0, 1) := by decide +kernel
theorem dX8_copyOf_36 : decode cX8_copyOf 36 = .ok (.getfield 18, 3) := by decide +kernel
theorem dX8_copyOf_39 : decode cX8_copyOf 39 = .ok (.iconst 0, 1) := by decide +kernel
theorem dX8_copyOf_40 : decode cX8_copyOf 40 = .ok (.bipush 6, 2) := by decide +kernel
theorem dX8_copyOf_42 : decode cX8_copyOf 42 = .ok (.invokestatic 22, 3) := by decide +kernel
theorem dX8_copyOf_45 : decode cX8_copyOf 45 = .ok (.aload_n 0, 1) := by decide +kernel
theorem dX8_copyOf_46 : decode cX8_copyOf 46 = .ok (.aload_n 1, 1) := by decide +kernel
theorem dX8_copyOf_47 : decode cX8_copyOf 47 = .ok (.getfield 28, 3) := by decide +kernel
theorem dX8_copyOf_50 : decode cX8_copyOf 50 = .ok (.putfield 28, 3) := by decide +kernel
theorem dX8_copyOf_53 : decode cX8_copyOf 53 = .ok (.aload_n 0, 1) := by decide +kernel
theorem dX8_copyOf_54 : decode cX8_copyOf 54 = .ok (.aload_n 1, 1) := by decide +kernel
theorem dX8_copyOf_55 : decode cX8_copyOf 55 = .ok (.getfield 32, 3) := by decide +kernel
theorem dX8_copyOf_58 : decode cX8_copyOf 58 = .ok (.putfield 32, 3) := by decide +kernel
theorem dX8_copyOf_61 : decode cX8_copyOf 61 = .ok (.return_, 1) := by decide +kernel
theorem dX8_addName_0 : decode cX8_addName 0 = .ok (.aload_n 0, 1) := by decide +kernel
theorem dX8_addName_1 : decode cX8_addName 1 = .ok (.getfield 28, 3) := by decide +kernel
theorem dX8_addName_4 : decode cX8_addName 4 = .ok (.bipush 6, 2) := by decide +kernel
theorem dX8_addName_6 : decode cX8_addName 6 = .ok (.if_icmp .ge 11, 3) := by decide +kernel
theorem dX8_addName_9 : decode cX8_addName 9 = .ok (.aload_n 0, 1) := by decide +kernel
theorem dX8_addName_10 : decode cX8_addName 10 = .ok (.lload_n 1, 1) := by decide +kernel
theorem dX8_addName_11 : decode cX8_addName 11 = .ok (.invokevirtual 35, 3) := by decide +kernel
theorem dX8_addName_14 : decode cX8_addName 14 = .ok (.ifCond .ne 5, 3) := by decide +kernel
theorem dX8_addName_17 : decode cX8_addName 17 = .ok (.iconst (-1), 1) := by decide +kernel
theorem dX8_addName_18 : decode cX8_addName 18 = .ok (.ireturn, 1) := by decide +kernel
theorem dX8_addName_19 : decode cX8_addName 19 = .ok (.aload_n 0, 1) := by decide +kernel
theorem dX8_addName_20 : decode cX8_addName 20 = .ok (.getfield 9, 3) := by decide +kernel
theorem dX8_addName_23 : decode cX8_addName 23 = .ok (.aload_n 0, 1) := by decide +kernel
theorem dX8_addName_24 : decode cX8_addName 24 = .ok (.getfield 28, 3) := by decide +kernel
theorem dX8_addName_27 : decode cX8_addName 27 = .ok (.lload_n 1, 1) := by decide +kernel
theorem dX8_addName_28 : decode cX8_addName 28 = .ok (.lastore, 1) := by decide +kernel
theorem dX8_addName_29 : decode cX8_addName 29 = .ok (.aload_n 0, 1) := by decide +kernel
theorem dX8_addName_30 : decode cX8_addName 30 = .ok (.dup, 1) := by decide +kernel
theorem dX8_addName_31 : decode cX8_addName 31 = .ok (.getfield 28, 3) := by decide +kernel
theorem dX8_addName_34 : decode cX8_addName 34 = .ok (.iconst 1, 1) := by decide +kernel
theorem dX8_addName_35 : decode cX8_addName 35 = .ok (.iadd, 1) := by decide +kernel
theorem dX8_addName_36 : decode cX8_addName 36 = .ok (.putfield 28, 3) := by decide +kernel
theorem dX8_addName_39 : decode cX8_addName 39 = .ok (.aload_n 0, 1) := by decide +kernel
theorem dX8_addName_40 : decode cX8_addName 40 = .ok (.getfield 28, 3) := by decide +kernel
theorem dX8_addName_43 : decode cX8_addName 43 = .ok (.iconst 1, 1) := by decide +kernel
theorem dX8_addName_44 : decode cX8_addName 44 = .ok (.isub, 1) := by decide +kernel
theorem dX8_addName_45 : decode cX8_addName 45 = .ok (.ireturn, 1) := by decide +kernel
theorem dX8_addThing_0 : decode cX8_addThing 0 = .ok (.aload_n 0, 1) := by decide +kernel
theorem dX8_addThing_1 : decode cX8_addThing 1 = .ok (.getfield 32, 3) := by decide +kernel
theorem dX8_addThing_4 : decode cX8_addThing 4 = .ok (.bipush 6, 2) := by decide +kernel
theorem dX8_addThing_6 : decode cX8_addThing 6 = .ok (.if_icmp .ge 23, 3) := by decide +kernel
theorem dX8_addThing_9 : decode cX8_addThing 9 = .ok (.aload_n 0, 1) := by decide +kernel
theorem dX8_addThing_10 : decode cX8_addThing 10 = .ok (.lload_n 1, 1) := by decide +kernel
theorem dX8_addThing_11 : decode cX8_addThing 11 = .ok (.invokevirtual 35, 3) := by decide +kernel
theorem dX8_addThing_14 : decode cX8_addThing 14 = .ok (.ifCond .eq 15, 3) := by decide +kernel
theorem dX8_addThing_17 : decode cX8_addThing 17 = .ok (.iload_n 3, 1) := by decide +kernel
theorem dX8_addThing_18 : decode cX8_addThing 18 = .ok (.iconst 1, 1) := by decide +kernel
theorem dX8_addThing_19 : decode cX8_addThing 19 = .ok (.if_icmp .lt 10, 3) := by decide +kernel
theorem dX8_addThing_22 : decode cX8_addThing 22 = .ok (.iload_n 3, 1) := by decide +kernel
theorem dX8_addThing_23 : decode cX8_addThing 23 = .ok (.sipush 9999, 3) := by decide +kernel
theorem dX8_addThing_26 : decode cX8_addThing 26 = .ok (.if_icmp .le 5, 3) := by decide +kernel
theorem dX8_addThing_29 : decode cX8_addThing 29 = .ok (.iconst (-1), 1) := by decide +kernel
theorem dX8_addThing_30 : decode cX8_addThing 30 = .ok (.ireturn, 1) := by decide +kernel
theorem dX8_addThing_31 : decode cX8_addThing 31 = .ok (.aload_n 0, 1) := by decide +kernel
theorem dX8_addThing_32 : decode cX8_addThing 32 = .ok (.getfield 15, 3) := by decide +kernel
theorem dX8_addThing_35 : decode cX8_addThing 35 = .ok (.aload_n 0, 1) := by decide +kernel
theorem dX8_addThing_36 : decode cX8_addThing 36 = .ok (.getfield 32, 3) := by decide +kernel
theorem dX8_addThing_39 : decode cX8_addThing 39 = .ok (.lload_n 1, 1) := by decide +kernel
theorem dX8_addThing_40 : decode cX8_addThing 40 = .ok (.lastore, 1) := by decide +kernel
theorem dX8_addThing_41 : decode cX8_addThing 41 = .ok (.aload_n 0, 1) := by decide +kernel
theorem dX8_addThing_42 : decode cX8_addThing 42 = .ok (.getfield 18, 3) := by decide +kernel
theorem dX8_addThing_45 : decode cX8_addThing 45 = .ok (.aload_n 0, 1) := by decide +kernel
theorem dX8_addThing_46 : decode cX8_addThing 46 = .ok (.getfield 32, 3) := by decide +kernel
theorem dX8_addThing_49 : decode cX8_addThing 49 = .ok (.iload_n 3, 1) := by decide +kernel
theorem dX8_addThing_50 : decode cX8_addThing 50 = .ok (.iastore, 1) := by decide +kernel
theorem dX8_addThing_51 : decode cX8_addThing 51 = .ok (.aload_n 0, 1) := by decide +kernel
theorem dX8_addThing_52 : decode cX8_addThing 52 = .ok (.dup, 1) := by decide +kernel
theorem dX8_addThing_53 : decode cX8_addThing 53 = .ok (.getfield 32, 3) := by decide +kernel
theorem dX8_addThing_56 : decode cX8_addThing 56 = .ok (.iconst 1, 1) := by decide +kernel
theorem dX8_addThing_57 : decode cX8_addThing 57 = .ok (.iadd, 1) := by decide +kernel
theorem dX8_addThing_58 : decode cX8_addThing 58 = .ok (.putfield 32, 3) := by decide +kernel
theorem dX8_addThing_61 : decode cX8_addThing 61 = .ok (.aload_n 0, 1) := by decide +kernel
theorem dX8_addThing_62 : decode cX8_addThing 62 = .ok (.getfield 32, 3) := by decide +kernel
theorem dX8_addThing_65 : decode cX8_addThing 65 = .ok (.iconst 1, 1) := by decide +kernel
theorem dX8_addThing_66 : decode cX8_addThing 66 = .ok (.isub, 1) := by decide +kernel
theorem dX8_addThing_67 : decode cX8_addThing 67 = .ok (.ireturn, 1) := by decide +kernel
theorem dX8_hasName_0 : decode cX8_hasName 0 = .ok (.iload_n 1, 1) := by decide +kernel
theorem dX8_hasName_1 : decode cX8_hasName 1 = .ok (.ifCond .lt 15, 3) := by decide +kernel
theorem dX8_hasName_4 : decode cX8_hasName 4 = .ok (.iload_n 1, 1) := by decide +kernel
theorem dX8_hasName_5 : decode cX8_hasName 5 = .ok (.aload_n 0, 1) := by decide +kernel
theorem dX8_hasName_6 : decode cX8_hasName 6 = .ok (.getfield 28, 3) := by decide +kernel
theorem dX8_hasName_9 : decode cX8_hasName 9 = .ok (.if_icmp .ge 7, 3) := by decide +kernel
theorem dX8_hasName_12 : decode cX8_hasName 12 = .ok (.iconst 1, 1) := by decide +kernel
theorem dX8_hasName_13 : decode cX8_hasName 13 = .ok (.goto 4, 3) := by decide +kernel
theorem dX8_hasName_16 : decode cX8_hasName 16 = .ok (.iconst 0, 1) := by decide +kernel
theorem dX8_hasName_17 : decode cX8_hasName 17 = .ok (.ireturn, 1) := by decide +kernel
theorem dX8_hasThing_0 : decode cX8_hasThing 0 = .ok (.iload_n 1, 1) := by decide +kernel
theorem dX8_hasThing_1 : decode cX8_hasThing 1 = .ok (.ifCond .lt 15, 3) := by decide +kernel
theorem dX8_hasThing_4 : decode cX8_hasThing 4 = .ok (.iload_n 1, 1) := by decide +kernel
theorem dX8_hasThing_5 : decode cX8_hasThing 5 = .ok (.aload_n 0, 1) := by decide +kernel
theorem dX8_hasThing_6 : decode cX8_hasThing 6 = .ok (.getfield 32, 3) := by decide +kernel
theorem dX8_hasThing_9 : decode cX8_hasThing 9 = .ok (.if_icmp .ge 7, 3) := by decide +kernel
theorem dX8_hasThing_12 : decode cX8_hasThing 12 = .ok (.iconst 1, 1) := by decide +kernel
theorem dX8_hasThing_13 : decode cX8_hasThing 13 = .ok (.goto 4, 3) := by decide +kernel
theorem dX8_hasThing_16 : decode cX8_hasThing 16 = .ok (.iconst 0, 1) := by decide +kernel
theorem dX8_hasThing_17 : decode cX8_hasThing 17 = .ok (.ireturn, 1) := by decide +kernel
theorem dX8_nameWord_0 : decode cX8_nameWord 0 = .ok (.aload_n 0, 1) := by decide +kernel
theorem dX8_nameWord_1 : decode cX8_nameWord 1 = .ok (.iload_n 1, 1) := by decide +kernel
theorem dX8_nameWord_2 : decode cX8_nameWord 2 = .ok (.invokevirtual 39, 3) := by decide +kernel
theorem dX8_nameWord_5 : decode cX8_nameWord 5 = .ok (.ifCond .eq 12, 3) := by decide +kernel
theorem dX8_nameWord_8 : decode cX8_nameWord 8 = .ok (.aload_n 0, 1) := by decide +kernel
theorem dX8_nameWord_9 : decode cX8_nameWord 9 = .ok (.getfield 9, 3) := by decide +kernel
theorem dX8_nameWord_12 : decode cX8_nameWord 12 = .ok (.iload_n 1, 1) := by decide +kernel
theorem dX8_nameWord_13 : decode cX8_nameWord 13 = .ok (.laload, 1) := by decide +kernel
theorem dX8_nameWord_14 : decode cX8_nameWord 14 = .ok (.goto 4, 3) := by decide +kernel
theorem dX8_nameWord_17 : decode cX8_nameWord 17 = .ok (.lconst 0, 1) := by decide +kernel
theorem dX8_nameWord_18 : decode cX8_nameWord 18 = .ok (.lreturn, 1) := by decide +kernel
theorem dX8_thingWord_0 : decode cX8_thingWord 0 = .ok (.aload_n 0, 1) := by decide +kernel
theorem dX8_thingWord_1 : decode cX8_thingWord 1 = .ok (.iload_n 1, 1) := by decide +kernel
theorem dX8_thingWord_2 : decode cX8_thingWord 2 = .ok (.invokevirtual 43, 3) := by decide +kernel
theorem dX8_thingWord_5 : decode cX8_thingWord 5 = .ok (.ifCond .eq 12, 3) := by decide +kernel
theorem dX8_thingWord_8 : decode cX8_thingWord 8 = .ok (.aload_n 0, 1) := by decide +kernel
theorem dX8_thingWord_9 : decode cX8_thingWord 9 = .ok (.getfield 15, 3) := by decide +kernel
theorem dX8_thingWord_12 : decode cX8_thingWord 12 = .ok (.iload_n 1, 1) := by decide +kernel
theorem dX8_thingWord_13 : decode cX8_thingWord 13 = .ok (.laload, 1) := by decide +kernel
theorem dX8_thingWord_14 : decode cX8_thingWord 14 = .ok (.goto 4, 3) := by decide +kernel
theorem dX8_thingWord_17 : decode cX8_thingWord 17 = .ok (.lconst 0, 1) := by decide +kernel
theorem dX8_thingWord_18 : decode cX8_thingWord 18 = .ok (.lreturn, 1) := by decide +kernel
theorem dX8_mostOf_0 : decode cX8_mostOf 0 = .ok (.aload_n 0, 1) := by decide +kernel
theorem dX8_mostOf_1 : decode cX8_mostOf 1 = .ok (.iload_n 1, 1) := by decide +kernel
theorem dX8_mostOf_2 : decode cX8_mostOf 2 = .ok (.invokevirtual 43, 3) := by decide +kernel
theorem dX8_mostOf_5 : decode cX8_mostOf 5 = .ok (.ifCond .eq 12, 3) := by decide +kernel
theorem dX8_mostOf_8 : decode cX8_mostOf 8 = .ok (.aload_n 0, 1) := by decide +kernel
theorem dX8_mostOf_9 : decode cX8_mostOf 9 = .ok (.getfield 18, 3) := by decide +kernel
theorem dX8_mostOf_12 : decode cX8_mostOf 12 = .ok (.iload_n 1, 1) := by decide +kernel
theorem dX8_mostOf_13 : decode cX8_mostOf 13 = .ok (.iaload, 1) := by decide +kernel
theorem dX8_mostOf_14 : decode cX8_mostOf 14 = .ok (.goto 4, 3) := by decide +kernel
theorem dX8_mostOf_17 : decode cX8_mostOf 17 = .ok (.iconst 0, 1) := by decide +kernel
theorem dX8_mostOf_18 : decode cX8_mostOf 18 = .ok (.ireturn, 1) := by decide +kernel
theorem dX8_findName_0 : decode cX8_findName 0 = .ok (.aload_n 0, 1) := by decide +kernel
theorem dX8_findName_1 : decode cX8_findName 1 = .ok (.getfield 9, 3) := by decide +kernel
theorem dX8_findName_4 : decode cX8_findName 4 = .ok (.aload_n 0, 1) := by decide +kernel
theorem dX8_findName_5 : decode cX8_findName 5 = .ok (.getfield 28, 3) := by decide +kernel
theorem dX8_findName_8 : decode cX8_findName 8 = .ok (.lload_n 1, 1) := by decide +kernel
theorem dX8_findName_9 : decode cX8_findName 9 = .ok (.invokestatic 46, 3) := by decide +kernel
theorem dX8_findName_12 : decode cX8_findName 12 = .ok (.ireturn, 1) := by decide +kernel
theorem dX8_findThing_0 : decode cX8_findThing 0 = .ok (.aload_n 0, 1) := by decide +kernel
theorem dX8_findThing_1 : decode cX8_findThing 1 = .ok (.getfield 15, 3) := by decide +kernel
theorem dX8_findThing_4 : decode cX8_findThing 4 = .ok (.aload_n 0, 1) := by decide +kernel
theorem dX8_findThing_5 : decode cX8_findThing 5 = .ok (.getfield 32, 3) := by decide +kernel
theorem dX8_findThing_8 : decode cX8_findThing 8 = .ok (.lload_n 1, 1) := by decide +kernel
theorem dX8_findThing_9 : decode cX8_findThing 9 = .ok (.invokestatic 46, 3) := by decide +kernel
theorem dX8_findThing_12 : decode cX8_findThing 12 = .ok (.ireturn, 1) := by decide +kernel
theorem dX8_find_0 : decode cX8_find 0 = .ok (.iconst 0, 1) := by decide +kernel
theorem dX8_find_1 : decode cX8_find 1 = .ok (.istore 4, 2) := by decide +kernel
theorem dX8_find_3 : decode cX8_find 3 = .ok (.iload 4, 2) := by decide +kernel
theorem dX8_find_5 : decode cX8_find 5 = .ok (.iload_n 1, 1) := by decide +kernel
theorem dX8_find_6 : decode cX8_find 6 = .ok (.if_icmp .ge 28, 3) := by decide +kernel
theorem dX8_find_9 : decode cX8_find 9 = .ok (.iload 4, 2) := by decide +kernel
theorem dX8_find_11 : decode cX8_find 11 = .ok (.aload_n 0, 1) := by decide +kernel
theorem dX8_find_12 : decode cX8_find 12 = .ok (.arraylength, 1) := by decide +kernel
theorem dX8_find_13 : decode cX8_find 13 = .ok (.if_icmp .ge 21, 3) := by decide +kernel
theorem dX8_find_16 : decode cX8_find 16 = .ok (.aload_n 0, 1) := by decide +kernel
theorem dX8_find_17 : decode cX8_find 17 = .ok (.iload 4, 2) := by decide +kernel
theorem dX8_find_19 : decode cX8_find 19 = .ok (.laload, 1) := by decide +kernel
theorem dX8_find_20 : decode cX8_find 20 = .ok (.lload_n 2, 1) := by decide +kernel
theorem dX8_find_21 : decode cX8_find 21 = .ok (.lcmp, 1) := by decide +kernel
theorem dX8_find_22 : decode cX8_find 22 = .ok (.ifCond .ne 6, 3) := by decide +kernel
theorem dX8_find_25 : decode cX8_find 25 = .ok (.iload 4, 2) := by decide +kernel
theorem dX8_find_27 : decode cX8_find 27 = .ok (.ireturn, 1) := by decide +kernel
theorem dX8_find_28 : decode cX8_find 28 = .ok (.iinc 4 1, 3) := by decide +kernel
theorem dX8_find_31 : decode cX8_find 31 = .ok (.goto (-28), 3) := by decide +kernel
theorem dX8_find_34 : decode cX8_find 34 = .ok (.iconst (-1), 1) := by decide +kernel
theorem dX8_find_35 : decode cX8_find 35 = .ok (.ireturn, 1) := by decide +kernel
theorem dX8_isFree_0 : decode cX8_isFree 0 = .ok (.lload_n 1, 1) := by decide +kernel
theorem dX8_isFree_1 : decode cX8_isFree 1 = .ok (.invokestatic 50, 3) := by decide +kernel
theorem dX8_isFree_4 : decode cX8_isFree 4 = .ok (.ifCond .eq 32, 3) := by decide +kernel
theorem dX8_isFree_7 : decode cX8_isFree 7 = .ok (.lload_n 1, 1) := by decide +kernel
theorem dX8_isFree_8 : decode cX8_isFree 8 = .ok (.invokestatic 53, 3) := by decide +kernel
theorem dX8_isFree_11 : decode cX8_isFree 11 = .ok (.ifCond .ne 25, 3) := by decide +kernel
theorem dX8_isFree_14 : decode cX8_isFree 14 = .ok (.aload_n 0, 1) := by decide +kernel
theorem dX8_isFree_15 : decode cX8_isFree 15 = .ok (.lload_n 1, 1) := by decide +kernel
theorem dX8_isFree_16 : decode cX8_isFree 16 = .ok (.invokevirtual 56, 3) := by decide +kernel
theorem dX8_isFree_19 : decode cX8_isFree 19 = .ok (.iconst (-1), 1) := by decide +kernel
theorem dX8_isFree_20 : decode cX8_isFree 20 = .ok (.if_icmp .ne 16, 3) := by decide +kernel
theorem dX8_isFree_23 : decode cX8_isFree 23 = .ok (.aload_n 0, 1) := by decide +kernel
theorem dX8_isFree_24 : decode cX8_isFree 24 = .ok (.lload_n 1, 1) := by decide +kernel
theorem dX8_isFree_25 : decode cX8_isFree 25 = .ok (.invokevirtual 60, 3) := by decide +kernel
theorem dX8_isFree_28 : decode cX8_isFree 28 = .ok (.iconst (-1), 1) := by decide +kernel
theorem dX8_isFree_29 : decode cX8_isFree 29 = .ok (.if_icmp .ne 7, 3) := by decide +kernel
theorem dX8_isFree_32 : decode cX8_isFree 32 = .ok (.iconst 1, 1) := by decide +kernel
theorem dX8_isFree_33 : decode cX8_isFree 33 = .ok (.goto 4, 3) := by decide +kernel
theorem dX8_isFree_36 : decode cX8_isFree 36 = .ok (.iconst 0, 1) := by decide +kernel
theorem dX8_isFree_37 : decode cX8_isFree 37 = .ok (.ireturn, 1) := by decide +kernel
theorem dX8_isWord_0 : decode cX8_isWord 0 = .ok (.lload_n 0, 1) := by decide +kernel
theorem dX8_isWord_1 : decode cX8_isWord 1 = .ok (.lstore_n 2, 1) := by decide +kernel
theorem dX8_isWord_2 : decode cX8_isWord 2 = .ok (.iconst 0, 1) := by decide +kernel
theorem dX8_isWord_3 : decode cX8_isWord 3 = .ok (.istore 4, 2) := by decide +kernel
theorem dX8_isWord_5 : decode cX8_isWord 5 = .ok (.iload 4, 2) := by decide +kernel
theorem dX8_isWord_7 : decode cX8_isWord 7 = .ok (.bipush 8, 2) := by decide +kernel
theorem dX8_isWord_9 : decode cX8_isWord 9 = .ok (.if_icmp .ge 34, 3) := by decide +kernel
theorem dX8_isWord_12 : decode cX8_isWord 12 = .ok (.lload_n 2, 1) := by decide +kernel
theorem dX8_isWord_13 : decode cX8_isWord 13 = .ok (.lconst 0, 1) := by decide +kernel
theorem dX8_isWord_14 : decode cX8_isWord 14 = .ok (.lcmp, 1) := by decide +kernel
theorem dX8_isWord_15 : decode cX8_isWord 15 = .ok (.ifCond .eq 28, 3) := by decide +kernel
theorem dX8_isWord_18 : decode cX8_isWord 18 = .ok (.lload_n 2, 1) := by decide +kernel
theorem dX8_isWord_19 : decode cX8_isWord 19 = .ok (.ldc2_w 63, 3) := by decide +kernel
theorem dX8_isWord_22 : decode cX8_isWord 22 = .ok (.land, 1) := by decide +kernel
theorem dX8_isWord_23 : decode cX8_isWord 23 = .ok (.l2i, 1) := by decide +kernel
theorem dX8_isWord_24 : decode cX8_isWord 24 = .ok (.invokestatic 65, 3) := by decide +kernel
theorem dX8_isWord_27 : decode cX8_isWord 27 = .ok (.ifCond .ne 5, 3) := by decide +kernel
theorem dX8_isWord_30 : decode cX8_isWord 30 = .ok (.iconst 0, 1) := by decide +kernel
theorem dX8_isWord_31 : decode cX8_isWord 31 = .ok (.ireturn, 1) := by decide +kernel
theorem dX8_isWord_32 : decode cX8_isWord 32 = .ok (.lload_n 2, 1) := by decide +kernel
theorem dX8_isWord_33 : decode cX8_isWord 33 = .ok (.bipush 8, 2) := by decide +kernel
theorem dX8_isWord_35 : decode cX8_isWord 35 = .ok (.lushr, 1) := by decide +kernel
theorem dX8_isWord_36 : decode cX8_isWord 36 = .ok (.lstore_n 2, 1) := by decide +kernel
theorem dX8_isWord_37 : decode cX8_isWord 37 = .ok (.iinc 4 1, 3) := by decide +kernel
theorem dX8_isWord_40 : decode cX8_isWord 40 = .ok (.goto (-35), 3) := by decide +kernel
theorem dX8_isWord_43 : decode cX8_isWord 43 = .ok (.lload_n 0, 1) := by decide +kernel
theorem dX8_isWord_44 : decode cX8_isWord 44 = .ok (.lconst 0, 1) := by decide +kernel
theorem dX8_isWord_45 : decode cX8_isWord 45 = .ok (.lcmp, 1) := by decide +kernel
theorem dX8_isWord_46 : decode cX8_isWord 46 = .ok (.ifCond .eq 7, 3) := by decide +kernel
theorem dX8_isWord_49 : decode cX8_isWord 49 = .ok (.iconst 1, 1) := by decide +kernel
theorem dX8_isWord_50 : decode cX8_isWord 50 = .ok (.goto 4, 3) := by decide +kernel
theorem dX8_isWord_53 : decode cX8_isWord 53 = .ok (.iconst 0, 1) := by decide +kernel
theorem dX8_isWord_54 : decode cX8_isWord 54 = .ok (.ireturn, 1) := by decide +kernel
theorem dX8_isKept_0 : decode cX8_isKept 0 = .ok (.lconst 0, 1) := by decide +kernel
theorem dX8_isKept_1 : decode cX8_isKept 1 = .ok (.lstore_n 2, 1) := by decide +kernel
theorem dX8_isKept_2 : decode cX8_isKept 2 = .ok (.iconst 0, 1) := by decide +kernel
theorem dX8_isKept_3 : decode cX8_isKept 3 = .ok (.istore 4, 2) := by decide +kernel
theorem dX8_isKept_5 : decode cX8_isKept 5 = .ok (.iload 4, 2) := by decide +kernel
theorem dX8_isKept_7 : decode cX8_isKept 7 = .ok (.ldc 68, 2) := by decide +kernel
theorem dX8_isKept_9 : decode cX8_isKept 9 = .ok (.invokevirtual 70, 3) := by decide +kernel
theorem dX8_isKept_12 : decode cX8_isKept 12 = .ok (.if_icmp .ge 47, 3) := by decide +kernel
theorem dX8_isKept_15 : decode cX8_isKept 15 = .ok (.ldc 68, 2) := by decide +kernel
theorem dX8_isKept_17 : decode cX8_isKept 17 = .ok (.iload 4, 2) := by decide +kernel
theorem dX8_isKept_19 : decode cX8_isKept 19 = .ok (.invokevirtual 76, 3) := by decide +kernel
theorem dX8_isKept_22 : decode cX8_isKept 22 = .ok (.istore 5, 2) := by decide +kernel
theorem dX8_isKept_24 : decode cX8_isKept 24 = .ok (.iload 5, 2) := by decide +kernel
theorem dX8_isKept_26 : decode cX8_isKept 26 = .ok (.bipush 32, 2) := by decide +kernel
theorem dX8_isKept_28 : decode cX8_isKept 28 = .ok (.if_icmp .eq 15, 3) := by decide +kernel
theorem dX8_isKept_31 : decode cX8_isKept 31 = .ok (.lload_n 2, 1) := by decide +kernel
theorem dX8_isKept_32 : decode cX8_isKept 32 = .ok (.bipush 8, 2) := by decide +kernel
theorem dX8_isKept_34 : decode cX8_isKept 34 = .ok (.lshl, 1) := by decide +kernel
theorem dX8_isKept_35 : decode cX8_isKept 35 = .ok (.iload 5, 2) := by decide +kernel
theorem dX8_isKept_37 : decode cX8_isKept 37 = .ok (.i2l, 1) := by decide +kernel
theorem dX8_isKept_38 : decode cX8_isKept 38 = .ok (.lor, 1) := by decide +kernel
theorem dX8_isKept_39 : decode cX8_isKept 39 = .ok (.lstore_n 2, 1) := by decide +kernel
theorem dX8_isKept_40 : decode cX8_isKept 40 = .ok (.goto 13, 3) := by decide +kernel
theorem dX8_isKept_43 : decode cX8_isKept 43 = .ok (.lload_n 2, 1) := by decide +kernel
theorem dX8_isKept_44 : decode cX8_isKept 44 = .ok (.lload_n 0, 1) := by decide +kernel
theorem dX8_isKept_45 : decode cX8_isKept 45 = .ok (.lcmp, 1) := by decide +kernel
theorem dX8_isKept_46 : decode cX8_isKept 46 = .ok (.ifCond .ne 5, 3) := by decide +kernel
theorem dX8_isKept_49 : decode cX8_isKept 49 = .ok (.iconst 1, 1) := by decide +kernel
theorem dX8_isKept_50 : decode cX8_isKept 50 = .ok (.ireturn, 1) := by decide +kernel
theorem dX8_isKept_51 : decode cX8_isKept 51 = .ok (.lconst 0, 1) := by decide +kernel
theorem dX8_isKept_52 : decode cX8_isKept 52 = .ok (.lstore_n 2, 1) := by decide +kernel
theorem dX8_isKept_53 : decode cX8_isKept 53 = .ok (.iinc 4 1, 3) := by decide +kernel
theorem dX8_isKept_56 : decode cX8_isKept 56 = .ok (.goto (-51), 3) := by decide +kernel
theorem dX8_isKept_59 : decode cX8_isKept 59 = .ok (.lload_n 2, 1) := by decide +kernel
theorem dX8_isKept_60 : decode cX8_isKept 60 = .ok (.lload_n 0, 1) := by decide +kernel
theorem dX8_isKept_61 : decode cX8_isKept 61 = .ok (.lcmp, 1) := by decide +kernel
theorem dX8_isKept_62 : decode cX8_isKept 62 = .ok (.ifCond .ne 7, 3) := by decide +kernel
theorem dX8_isKept_65 : decode cX8_isKept 65 = .ok (.iconst 1, 1) := by decide +kernel
theorem dX8_isKept_66 : decode cX8_isKept 66 = .ok (.goto 4, 3) := by decide +kernel
theorem dX8_isKept_69 : decode cX8_isKept 69 = .ok (.iconst 0, 1) := by decide +kernel
theorem dX8_isKept_70 : decode cX8_isKept 70 = .ok (.ireturn, 1) := by decide +kernel
theorem dX9_init_0 : decode cX9_init 0 = .ok (.aload_n 0, 1) := by decide +kernel
theorem dX9_init_1 : decode cX9_init 1 = .ok (.invokespecial 3, 3) := by decide +kernel
theorem dX9_init_4 : decode cX9_init 4 = .ok (.aload_n 0, 1) := by decide +kernel
theorem dX9_init_5 : decode cX9_init 5 = .ok (.new 9, 3) := by decide +kernel
theorem dX9_init_8 : decode cX9_init 8 = .ok (.dup, 1) := by decide +kernel
theorem dX9_init_9 : decode cX9_init 9 = .ok (.invokespecial 11, 3) := by decide +kernel
theorem dX9_init_12 : decode cX9_init 12 = .ok (.putfield 12, 3) := by decide +kernel
theorem dX9_init_15 : decode cX9_init 15 = .ok (.aload_n 0, 1) := by decide +kernel
theorem dX9_init_16 : decode cX9_init 16 = .ok (.aload_n 1, 1) := by decide +kernel
theorem dX9_init_17 : decode cX9_init 17 = .ok (.putfield 18, 3) := by decide +kernel
theorem dX9_init_20 : decode cX9_init 20 = .ok (.aload_n 0, 1) := by decide +kernel
theorem dX9_init_21 : decode cX9_init 21 = .ok (.aload_n 2, 1) := by decide +kernel
theorem dX9_init_22 : decode cX9_init 22 = .ok (.putfield 22, 3) := by decide +kernel
theorem dX9_init_25 : decode cX9_init 25 = .ok (.return_, 1) := by decide +kernel
theorem dX9_putTale_0 : decode cX9_putTale 0 = .ok (.aload_n 0, 1) := by decide +kernel
theorem dX9_putTale_1 : decode cX9_putTale 1 = .ok (.getfield 22, 3) := by decide +kernel
theorem dX9_putTale_4 : decode cX9_putTale 4 = .ok (.iconst 0, 1) := by decide +kernel
theorem dX9_putTale_5 : decode cX9_putTale 5 = .ok (.putfield 26, 3) := by decide +kernel
theorem dX9_putTale_8 : decode cX9_putTale 8 = .ok (.aload_n 1, 1) := by decide +kernel
theorem dX9_putTale_9 : decode cX9_putTale 9 = .ok (.getfield 32, 3) := by decide +kernel
theorem dX9_putTale_12 : decode cX9_putTale 12 = .ok (.invokestatic 37, 3) := by decide +kernel
theorem dX9_putTale_15 : decode cX9_putTale 15 = .ok (.istore 5, 2) := by decide +kernel
theorem dX9_putTale_17 : decode cX9_putTale 17 = .ok (.iconst 0, 1) := by decide +kernel
theorem dX9_putTale_18 : decode cX9_putTale 18 = .ok (.istore 6, 2) := by decide +kernel
theorem dX9_putTale_20 : decode cX9_putTale 20 = .ok (.iload 6, 2) := by decide +kernel
theorem dX9_putTale_22 : decode cX9_putTale 22 = .ok (.iload 5, 2) := by decide +kernel
theorem dX9_putTale_24 : decode cX9_putTale 24 = .ok (.if_icmp .gt 128, 3) := by decide +kernel
theorem dX9_putTale_27 : decode cX9_putTale 27 = .ok (.aload_n 1, 1) := by decide +kernel
theorem dX9_putTale_28 : decode cX9_putTale 28 = .ok (.invokevirtual 41, 3) := by decide +kernel
theorem dX9_putTale_31 : decode cX9_putTale 31 = .ok (.ifCond .eq 16, 3) := by decide +kernel
theorem dX9_putTale_34 : decode cX9_putTale 34 = .ok (.iload 6, 2) := by decide +kernel
theorem dX9_putTale_36 : decode cX9_putTale 36 = .ok (.iload 4, 2) := by decide +kernel
theorem dX9_putTale_38 : decode cX9_putTale 38 = .ok (.if_icmp .ne 9, 3) := by decide +kernel
theorem dX9_putTale_41 : decode cX9_putTale 41 = .ok (.aload_n 0, 1) := by decide +kernel
theorem dX9_putTale_42 : decode cX9_putTale 42 = .ok (.aload_n 1, 1) := by decide +kernel
theorem dX9_putTale_43 : decode cX9_putTale 43 = .ok (.aload_n 2, 1) := by decide +kernel
theorem dX9_putTale_44 : decode cX9_putTale 44 = .ok (.invokevirtual 45, 3) := by decide +kernel
theorem dX9_putTale_47 : decode cX9_putTale 47 = .ok (.aload_n 0, 1) := by decide +kernel
theorem dX9_putTale_48 : decode cX9_putTale 48 = .ok (.getfield 12, 3) := by decide +kernel
theorem dX9_putTale_51 : decode cX9_putTale 51 = .ok (.aload_n 1, 1) := by decide +kernel
theorem dX9_putTale_52 : decode cX9_putTale 52 = .ok (.getfield 32, 3) := by decide +kernel
theorem dX9_putTale_55 : decode cX9_putTale 55 = .ok (.iload_n 3, 1) := by decide +kernel
theorem dX9_putTale_56 : decode cX9_putTale 56 = .ok (.iload 6, 2) := by decide +kernel
theorem dX9_putTale_58 : decode cX9_putTale 58 = .ok (.invokestatic 49, 3) := by decide +kernel
theorem dX9_putTale_61 : decode cX9_putTale 61 = .ok (.putfield 53, 3) := by decide +kernel
theorem dX9_putTale_64 : decode cX9_putTale 64 = .ok (.aload_n 0, 1) := by decide +kernel
theorem dX9_putTale_65 : decode cX9_putTale 65 = .ok (.getfield 12, 3) := by decide +kernel
theorem dX9_putTale_68 : decode cX9_putTale 68 = .ok (.aload_n 1, 1) := by decide +kernel
theorem dX9_putTale_69 : decode cX9_putTale 69 = .ok (.getfield 32, 3) := by decide +kernel
theorem dX9_putTale_72 : decode cX9_putTale 72 = .ok (.aload_n 0, 1) := by decide +kernel
theorem dX9_putTale_73 : decode cX9_putTale 73 = .ok (.getfield 12, 3) := by decide +kernel
theorem dX9_putTale_76 : decode cX9_putTale 76 = .ok (.getfield 53, 3) := by decide +kernel
theorem dX9_putTale_79 : decode cX9_putTale 79 = .ok (.invokestatic 57, 3) := by decide +kernel
theorem dX9_putTale_82 : decode cX9_putTale 82 = .ok (.ifCond .eq 10, 3) := by decide +kernel
theorem dX9_putTale_85 : decode cX9_putTale 85 = .ok (.aload_n 1, 1) := by decide +kernel
theorem dX9_putTale_86 : decode cX9_putTale 86 = .ok (.getfield 61, 3) := by decide +kernel
theorem dX9_putTale_89 : decode cX9_putTale 89 = .ok (.goto 7, 3) := by decide +kernel
theorem dX9_putTale_92 : decode cX9_putTale 92 = .ok (.aload_n 1, 1) := by decide +kernel
theorem dX9_putTale_93 : decode cX9_putTale 93 = .ok (.getfield 64, 3) := by decide +kernel
theorem dX9_putTale_96 : decode cX9_putTale 96 = .ok (.putfield 67, 3) := by decide +kernel
theorem dX9_putTale_99 : decode cX9_putTale 99 = .ok (.aload_n 0, 1) := by decide +kernel
theorem dX9_putTale_100 : decode cX9_putTale 100 = .ok (.getfield 12, 3) := by decide +kernel
theorem dX9_putTale_103 : decode cX9_putTale 103 = .ok (.aload_n 1, 1) := by decide +kernel
theorem dX9_putTale_104 : decode cX9_putTale 104 = .ok (.getfield 64, 3) := by decide +kernel
theorem dX9_putTale_107 : decode cX9_putTale 107 = .ok (.putfield 70, 3) := by decide +kernel
theorem dX9_putTale_110 : decode cX9_putTale 110 = .ok (.aload_n 0, 1) := by decide +kernel
theorem dX9_putTale_111 : decode cX9_putTale 111 = .ok (.getfield 12, 3) := by decide +kernel
theorem dX9_putTale_114 : decode cX9_putTale 114 = .ok (.aload_n 1, 1) := by decide +kernel
theorem dX9_putTale_115 : decode cX9_putTale 115 = .ok (.getfield 73, 3) := by decide +kernel
theorem dX9_putTale_118 : decode cX9_putTale 118 = .ok (.putfield 76, 3) := by decide +kernel
theorem dX9_putTale_121 : decode cX9_putTale 121 = .ok (.aload_n 0, 1) := by decide +kernel
theorem dX9_putTale_122 : decode cX9_putTale 122 = .ok (.getfield 12, 3) := by decide +kernel
theorem dX9_putTale_125 : decode cX9_putTale 125 = .ok (.aload_n 2, 1) := by decide +kernel
theorem dX9_putTale_126 : decode cX9_putTale 126 = .ok (.aload_n 1, 1) := by decide +kernel
theorem dX9_putTale_127 : decode cX9_putTale 127 = .ok (.getfield 32, 3) := by decide +kernel
theorem dX9_putTale_130 : decode cX9_putTale 130 = .ok (.iload_n 3, 1) := by decide +kernel
theorem dX9_putTale_131 : decode cX9_putTale 131 = .ok (.iload 6, 2) := by decide +kernel
theorem dX9_putTale_133 : decode cX9_putTale 133 = .ok (.invokestatic 79, 3) := by decide +kernel
theorem dX9_putTale_136 : decode cX9_putTale 136 = .ok (.invokevirtual 83, 3) := by decide +kernel
theorem dX9_putTale_139 : decode cX9_putTale 139 = .ok (.putfield 88, 3) := by decide +kernel
