theorem dX0_init_0 : decode cX0_init 0 = .ok (.aload_n 0, 1) := by decide +kernel
theorem dX0_init_1 : decode cX0_init 1 = .ok (.invokespecial 1, 3) := by decide +kernel
theorem dX0_init_4 : decode cX0_init 4 = .ok (.aload_n 0, 1) := by decide +kernel
theorem dX0_init_5 : decode cX0_init 5 = .ok (.iconst 0, 1) := by decide +kernel
theorem dX0_init_6 : decode cX0_init 6 = .ok (.putfield 7, 3) := by decide +kernel
theorem dX0_init_9 : decode cX0_init 9 = .ok (.aload_n 0, 1) := by decide +kernel
theorem dX0_init_10 : decode cX0_init 10 = .ok (.iconst 1, 1) := by decide +kernel
theorem dX0_init_11 : decode cX0_init 11 = .ok (.putfield 13, 3) := by decide +kernel
theorem dX0_init_14 : decode cX0_init 14 = .ok (.return_, 1) := by decide +kernel
theorem dX0_raise_0 : decode cX0_raise 0 = .ok (.iload_n 1, 1) := by decide +kernel
theorem dX0_raise_1 : decode cX0_raise 1 = .ok (.aload_n 0, 1) := by decide +kernel
theorem dX0_raise_2 : decode cX0_raise 2 = .ok (.getfield 13, 3) := by decide +kernel
theorem dX0_raise_5 : decode cX0_raise 5 = .ok (.imul, 1) := by decide +kernel
theorem dX0_raise_6 : decode cX0_raise 6 = .ok (.aload_n 0, 1) := by decide +kernel
theorem dX0_raise_7 : decode cX0_raise 7 = .ok (.getfield 7, 3) := by decide +kernel
theorem dX0_raise_10 : decode cX0_raise 10 = .ok (.iload_n 2, 1) := by decide +kernel
theorem dX0_raise_11 : decode cX0_raise 11 = .ok (.imul, 1) := by decide +kernel
theorem dX0_raise_12 : decode cX0_raise 12 = .ok (.if_icmp .le 13, 3) := by decide +kernel
theorem dX0_raise_15 : decode cX0_raise 15 = .ok (.aload_n 0, 1) := by decide +kernel
theorem dX0_raise_16 : decode cX0_raise 16 = .ok (.iload_n 1, 1) := by decide +kernel
theorem dX0_raise_17 : decode cX0_raise 17 = .ok (.putfield 7, 3) := by decide +kernel
theorem dX0_raise_20 : decode cX0_raise 20 = .ok (.aload_n 0, 1) := by decide +kernel
theorem dX0_raise_21 : decode cX0_raise 21 = .ok (.iload_n 2, 1) := by decide +kernel
theorem dX0_raise_22 : decode cX0_raise 22 = .ok (.putfield 13, 3) := by decide +kernel
theorem dX0_raise_25 : decode cX0_raise 25 = .ok (.return_, 1) := by decide +kernel
theorem dX0_lowest_0 : decode cX0_lowest 0 = .ok (.aload_n 0, 1) := by decide +kernel
theorem dX0_lowest_1 : decode cX0_lowest 1 = .ok (.invokevirtual 16, 3) := by decide +kernel
theorem dX0_lowest_4 : decode cX0_lowest 4 = .ok (.istore_n 2, 1) := by decide +kernel
theorem dX0_lowest_5 : decode cX0_lowest 5 = .ok (.iload_n 2, 1) := by decide +kernel
theorem dX0_lowest_6 : decode cX0_lowest 6 = .ok (.ifCond .ne 5, 3) := by decide +kernel
theorem dX0_lowest_9 : decode cX0_lowest 9 = .ok (.iload_n 1, 1) := by decide +kernel
theorem dX0_lowest_10 : decode cX0_lowest 10 = .ok (.ireturn, 1) := by decide +kernel
theorem dX0_lowest_11 : decode cX0_lowest 11 = .ok (.iload_n 1, 1) := by decide +kernel
theorem dX0_lowest_12 : decode cX0_lowest 12 = .ok (.ifCond .ne 10, 3) := by decide +kernel
theorem dX0_lowest_15 : decode cX0_lowest 15 = .ok (.aload_n 0, 1) := by decide +kernel
theorem dX0_lowest_16 : decode cX0_lowest 16 = .ok (.getfield 7, 3) := by decide +kernel
theorem dX0_lowest_19 : decode cX0_lowest 19 = .ok (.goto 7, 3) := by decide +kernel
theorem dX0_lowest_22 : decode cX0_lowest 22 = .ok (.aload_n 0, 1) := by decide +kernel
theorem dX0_lowest_23 : decode cX0_lowest 23 = .ok (.getfield 13, 3) := by decide +kernel
theorem dX0_lowest_26 : decode cX0_lowest 26 = .ok (.iload_n 2, 1) := by decide +kernel
theorem dX0_lowest_27 : decode cX0_lowest 27 = .ok (.idiv, 1) := by decide +kernel
theorem dX0_lowest_28 : decode cX0_lowest 28 = .ok (.ireturn, 1) := by decide +kernel
theorem dX0_commonDivisor_0 : decode cX0_commonDivisor 0 = .ok (.aload_n 0, 1) := by decide +kernel
theorem dX0_commonDivisor_1 : decode cX0_commonDivisor 1 = .ok (.getfield 13, 3) := by decide +kernel
theorem dX0_commonDivisor_4 : decode cX0_commonDivisor 4 = .ok (.istore_n 1, 1) := by decide +kernel
theorem dX0_commonDivisor_5 : decode cX0_commonDivisor 5 = .ok (.aload_n 0, 1) := by decide +kernel
theorem dX0_commonDivisor_6 : decode cX0_commonDivisor 6 = .ok (.getfield 7, 3) := by decide +kernel
theorem dX0_commonDivisor_9 : decode cX0_commonDivisor 9 = .ok (.istore_n 2, 1) := by decide +kernel
theorem dX0_commonDivisor_10 : decode cX0_commonDivisor 10 = .ok (.iconst 0, 1) := by decide +kernel
theorem dX0_commonDivisor_11 : decode cX0_commonDivisor 11 = .ok (.istore_n 3, 1) := by decide +kernel
theorem dX0_commonDivisor_12 : decode cX0_commonDivisor 12 = .ok (.iload_n 3, 1) := by decide +kernel
theorem dX0_commonDivisor_13 : decode cX0_commonDivisor 13 = .ok (.bipush 64, 2) := by decide +kernel
theorem dX0_commonDivisor_15 : decode cX0_commonDivisor 15 = .ok (.if_icmp .ge 23, 3) := by decide +kernel
theorem dX0_commonDivisor_18 : decode cX0_commonDivisor 18 = .ok (.iload_n 2, 1) := by decide +kernel
theorem dX0_commonDivisor_19 : decode cX0_commonDivisor 19 = .ok (.ifCond .eq 19, 3) := by decide +kernel
theorem dX0_commonDivisor_22 : decode cX0_commonDivisor 22 = .ok (.iload_n 1, 1) := by decide +kernel
theorem dX0_commonDivisor_23 : decode cX0_commonDivisor 23 = .ok (.iload_n 2, 1) := by decide +kernel
theorem dX0_commonDivisor_24 : decode cX0_commonDivisor 24 = .ok (.irem, 1) := by decide +kernel
theorem dX0_commonDivisor_25 : decode cX0_commonDivisor 25 = .ok (.istore 4, 2) := by decide +kernel
theorem dX0_commonDivisor_27 : decode cX0_commonDivisor 27 = .ok (.iload_n 2, 1) := by decide +kernel
theorem dX0_commonDivisor_28 : decode cX0_commonDivisor 28 = .ok (.istore_n 1, 1) := by decide +kernel
theorem dX0_commonDivisor_29 : decode cX0_commonDivisor 29 = .ok (.iload 4, 2) := by decide +kernel
theorem dX0_commonDivisor_31 : decode cX0_commonDivisor 31 = .ok (.istore_n 2, 1) := by decide +kernel
theorem dX0_commonDivisor_32 : decode cX0_commonDivisor 32 = .ok (.iinc 3 1, 3) := by decide +kernel
theorem dX0_commonDivisor_35 : decode cX0_commonDivisor 35 = .ok (.goto (-23), 3) := by decide +kernel
theorem dX0_commonDivisor_38 : decode cX0_commonDivisor 38 = .ok (.iload_n 1, 1) := by decide +kernel
theorem dX0_commonDivisor_39 : decode cX0_commonDivisor 39 = .ok (.ireturn, 1) := by decide +kernel
theorem dX1_init_0 : decode cX1_init 0 = .ok (.aload_n 0, 1) := by decide +kernel
theorem dX1_init_1 : decode cX1_init 1 = .ok (.invokespecial 3, 3) := by decide +kernel
theorem dX1_init_4 : decode cX1_init 4 = .ok (.aload_n 0, 1) := by decide +kernel
theorem dX1_init_5 : decode cX1_init 5 = .ok (.bipush 6, 2) := by decide +kernel
theorem dX1_init_7 : decode cX1_init 7 = .ok (.anewarray 9, 3) := by decide +kernel
theorem dX1_init_10 : decode cX1_init 10 = .ok (.putfield 11, 3) := by decide +kernel
theorem dX1_init_13 : decode cX1_init 13 = .ok (.aload_n 0, 1) := by decide +kernel
theorem dX1_init_14 : decode cX1_init 14 = .ok (.iconst 0, 1) := by decide +kernel
theorem dX1_init_15 : decode cX1_init 15 = .ok (.putfield 17, 3) := by decide +kernel
theorem dX1_init_18 : decode cX1_init 18 = .ok (.iconst 0, 1) := by decide +kernel
theorem dX1_init_19 : decode cX1_init 19 = .ok (.istore_n 1, 1) := by decide +kernel
theorem dX1_init_20 : decode cX1_init 20 = .ok (.iload_n 1, 1) := by decide +kernel
theorem dX1_init_21 : decode cX1_init 21 = .ok (.bipush 6, 2) := by decide +kernel
theorem dX1_init_23 : decode cX1_init 23 = .ok (.if_icmp .ge 22, 3) := by decide +kernel
theorem dX1_init_26 : decode cX1_init 26 = .ok (.aload_n 0, 1) := by decide +kernel
theorem dX1_init_27 : decode cX1_init 27 = .ok (.getfield 11, 3) := by decide +kernel
theorem dX1_init_30 : decode cX1_init 30 = .ok (.iload_n 1, 1) := by decide +kernel
theorem dX1_init_31 : decode cX1_init 31 = .ok (.new 9, 3) := by decide +kernel
theorem dX1_init_34 : decode cX1_init 34 = .ok (.dup, 1) := by decide +kernel
theorem dX1_init_35 : decode cX1_init 35 = .ok (.invokespecial 21, 3) := by decide +kernel
theorem dX1_init_38 : decode cX1_init 38 = .ok (.aastore, 1) := by decide +kernel
theorem dX1_init_39 : decode cX1_init 39 = .ok (.iinc 1 1, 3) := by decide +kernel
theorem dX1_init_42 : decode cX1_init 42 = .ok (.goto (-22), 3) := by decide +kernel
theorem dX1_init_45 : decode cX1_init 45 = .ok (.return_, 1) := by decide +kernel
theorem dX1_keep_0 : decode cX1_keep 0 = .ok (.aload_n 0, 1) := by decide +kernel
theorem dX1_keep_1 : decode cX1_keep 1 = .ok (.getfield 17, 3) := by decide +kernel
theorem dX1_keep_4 : decode cX1_keep 4 = .ok (.bipush 6, 2) := by decide +kernel
theorem dX1_keep_6 : decode cX1_keep 6 = .ok (.if_icmp .lt 7, 3) := by decide +kernel
theorem dX1_keep_9 : decode cX1_keep 9 = .ok (.aload_n 0, 1) := by decide +kernel
theorem dX1_keep_10 : decode cX1_keep 10 = .ok (.invokevirtual 22, 3) := by decide +kernel
theorem dX1_keep_13 : decode cX1_keep 13 = .ok (.aload_n 0, 1) := by decide +kernel
theorem dX1_keep_14 : decode cX1_keep 14 = .ok (.getfield 11, 3) := by decide +kernel
theorem dX1_keep_17 : decode cX1_keep 17 = .ok (.aload_n 0, 1) := by decide +kernel
theorem dX1_keep_18 : decode cX1_keep 18 = .ok (.getfield 17, 3) := by decide +kernel
theorem dX1_keep_21 : decode cX1_keep 21 = .ok (.aaload, 1) := by decide +kernel
theorem dX1_keep_22 : decode cX1_keep 22 = .ok (.aload_n 1, 1) := by decide +kernel
theorem dX1_keep_23 : decode cX1_keep 23 = .ok (.invokevirtual 25, 3) := by decide +kernel
theorem dX1_keep_26 : decode cX1_keep 26 = .ok (.aload_n 0, 1) := by decide +kernel
theorem dX1_keep_27 : decode cX1_keep 27 = .ok (.dup, 1) := by decide +kernel
theorem dX1_keep_28 : decode cX1_keep 28 = .ok (.getfield 17, 3) := by decide +kernel
theorem dX1_keep_31 : decode cX1_keep 31 = .ok (.iconst 1, 1) := by decide +kernel
theorem dX1_keep_32 : decode cX1_keep 32 = .ok (.iadd, 1) := by decide +kernel
theorem dX1_keep_33 : decode cX1_keep 33 = .ok (.putfield 17, 3) := by decide +kernel
theorem dX1_keep_36 : decode cX1_keep 36 = .ok (.return_, 1) := by decide +kernel
theorem dX1_forgetOldest_0 : decode cX1_forgetOldest 0 = .ok (.aload_n 0, 1) := by decide +kernel
theorem dX1_forgetOldest_1 : decode cX1_forgetOldest 1 = .ok (.getfield 11, 3) := by decide +kernel
theorem dX1_forgetOldest_4 : decode cX1_forgetOldest 4 = .ok (.iconst 0, 1) := by decide +kernel
theorem dX1_forgetOldest_5 : decode cX1_forgetOldest 5 = .ok (.aaload, 1) := by decide +kernel
theorem dX1_forgetOldest_6 : decode cX1_forgetOldest 6 = .ok (.astore_n 1, 1) := by decide +kernel
theorem dX1_forgetOldest_7 : decode cX1_forgetOldest 7 = .ok (.iconst 0, 1) := by decide +kernel
theorem dX1_forgetOldest_8 : decode cX1_forgetOldest 8 = .ok (.istore_n 2, 1) := by decide +kernel
theorem dX1_forgetOldest_9 : decode cX1_forgetOldest 9 = .ok (.iload_n 2, 1) := by decide +kernel
theorem dX1_forgetOldest_10 : decode cX1_forgetOldest 10 = .ok (.iconst 1, 1) := by decide +kernel
theorem dX1_forgetOldest_11 : decode cX1_forgetOldest 11 = .ok (.iadd, 1) := by decide +kernel
theorem dX1_forgetOldest_12 : decode cX1_forgetOldest 12 = .ok (.bipush 6, 2) := by decide +kernel
theorem dX1_forgetOldest_14 : decode cX1_forgetOldest 14 = .ok (.if_icmp .ge 23, 3) := by decide +kernel
theorem dX1_forgetOldest_17 : decode cX1_forgetOldest 17 = .ok (.aload_n 0, 1) := by decide +kernel
theorem dX1_forgetOldest_18 : decode cX1_forgetOldest 18 = .ok (.getfield 11, 3) := by decide +kernel
theorem dX1_forgetOldest_21 : decode cX1_forgetOldest 21 = .ok (.iload_n 2, 1) := by decide +kernel
theorem dX1_forgetOldest_22 : decode cX1_forgetOldest 22 = .ok (.aload_n 0, 1) := by decide +kernel
theorem dX1_forgetOldest_23 : decode cX1_forgetOldest 23 = .ok (.getfield 11, 3) := by decide +kernel
theorem dX1_forgetOldest_26 : decode cX1_forgetOldest 26 = .ok (.iload_n 2, 1) := by decide +kernel
theorem dX1_forgetOldest_27 : decode cX1_forgetOldest 27 = .ok (.iconst 1, 1) := by decide +kernel
theorem dX1_forgetOldest_28 : decode cX1_forgetOldest 28 = .ok (.iadd, 1) := by decide +kernel
theorem dX1_forgetOldest_29 : decode cX1_forgetOldest 29 = .ok (.aaload, 1) := by decide +kernel
theorem dX1_forgetOldest_30 : decode cX1_forgetOldest 30 = .ok (.aastore, 1) := by decide +kernel
theorem dX1_forgetOldest_31 : decode cX1_forgetOldest 31 = .ok (.iinc 2 1, 3) := by decide +kernel
theorem dX1_forgetOldest_34 : decode cX1_forgetOldest 34 = .ok (.goto (-25), 3) := by decide +kernel
theorem dX1_forgetOldest_37 : decode cX1_forgetOldest 37 = .ok (.aload_n 0, 1) := by decide +kernel
theorem dX1_forgetOldest_38 : decode cX1_forgetOldest 38 = .ok (.getfield 11, 3) := by decide +kernel
theorem dX1_forgetOldest_41 : decode cX1_forgetOldest 41 = .ok (.iconst 5, 1) := by decide +kernel
theorem dX1_forgetOldest_42 : decode cX1_forgetOldest 42 = .ok (.aload_n 1, 1) := by decide +kernel
theorem dX1_forgetOldest_43 : decode cX1_forgetOldest 43 = .ok (.aastore, 1) := by decide +kernel
theorem dX1_forgetOldest_44 : decode cX1_forgetOldest 44 = .ok (.aload_n 0, 1) := by decide +kernel
theorem dX1_forgetOldest_45 : decode cX1_forgetOldest 45 = .ok (.iconst 5, 1) := by decide +kernel
theorem dX1_forgetOldest_46 : decode cX1_forgetOldest 46 = .ok (.putfield 17, 3) := by decide +kernel
theorem dX1_forgetOldest_49 : decode cX1_forgetOldest 49 = .ok (.return_, 1) := by decide +kernel
theorem dX1_takeBack_0 : decode cX1_takeBack 0 = .ok (.aload_n 0, 1) := by decide +kernel
theorem dX1_takeBack_1 : decode cX1_takeBack 1 = .ok (.getfield 17, 3) := by decide +kernel
theorem dX1_takeBack_4 : decode cX1_takeBack 4 = .ok (.ifCond .le 26, 3) := by decide +kernel
theorem dX1_takeBack_7 : decode cX1_takeBack 7 = .ok (.aload_n 0, 1) := by decide +kernel
theorem dX1_takeBack_8 : decode cX1_takeBack 8 = .ok (.dup, 1) := by decide +kernel
theorem dX1_takeBack_9 : decode cX1_takeBack 9 = .ok (.getfield 17, 3) := by decide +kernel
theorem dX1_takeBack_12 : decode cX1_takeBack 12 = .ok (.iconst 1, 1) := by decide +kernel
theorem dX1_takeBack_13 : decode cX1_takeBack 13 = .ok (.isub, 1) := by decide +kernel
theorem dX1_takeBack_14 : decode cX1_takeBack 14 = .ok (.putfield 17, 3) := by decide +kernel
theorem dX1_takeBack_17 : decode cX1_takeBack 17 = .ok (.aload_n 1, 1) := by decide +kernel
theorem dX1_takeBack_18 : decode cX1_takeBack 18 = .ok (.aload_n 0, 1) := by decide +kernel
theorem dX1_takeBack_19 : decode cX1_takeBack 19 = .ok (.getfield 11, 3) := by decide +kernel
theorem dX1_takeBack_22 : decode cX1_takeBack 22 = .ok (.aload_n 0, 1) := by decide +kernel
theorem dX1_takeBack_23 : decode cX1_takeBack 23 = .ok (.getfield 17, 3) := by decide +kernel
theorem dX1_takeBack_26 : decode cX1_takeBack 26 = .ok (.aaload, 1) := by decide +kernel
theorem dX1_takeBack_27 : decode cX1_takeBack 27 = .ok (.invokevirtual 25, 3) := by decide +kernel
theorem dX1_takeBack_30 : decode cX1_takeBack 30 = .ok (.return_, 1) := by decide +kernel
theorem dX1_copyFrom_0 : decode cX1_copyFrom 0 = .ok (.iconst 0, 1) := by decide +kernel
theorem dX1_copyFrom_1 : decode cX1_copyFrom 1 = .ok (.istore_n 2, 1) := by decide +kernel
theorem dX1_copyFrom_2 : decode cX1_copyFrom 2 = .ok (.iload_n 2, 1) := by decide +kernel
theorem dX1_copyFrom_3 : decode cX1_copyFrom 3 = .ok (.aload_n 1, 1) := by decide +kernel
theorem dX1_copyFrom_4 : decode cX1_copyFrom 4 = .ok (.getfield 17, 3) := by decide +kernel
theorem dX1_copyFrom_7 : decode cX1_copyFrom 7 = .ok (.if_icmp .ge 24, 3) := by decide +kernel
theorem dX1_copyFrom_10 : decode cX1_copyFrom 10 = .ok (.aload_n 0, 1) := by decide +kernel
theorem dX1_copyFrom_11 : decode cX1_copyFrom 11 = .ok (.getfield 11, 3) := by decide +kernel
theorem dX1_copyFrom_14 : decode cX1_copyFrom 14 = .ok (.iload_n 2, 1) := by decide +kernel
theorem dX1_copyFrom_15 : decode cX1_copyFrom 15 = .ok (.aaload, 1) := by decide +kernel
theorem dX1_copyFrom_16 : decode cX1_copyFrom 16 = .ok (.aload_n 1, 1) := by decide +kernel
theorem dX1_copyFrom_17 : decode cX1_copyFrom 17 = .ok (.getfield 11, 3) := by decide +kernel
theorem dX1_copyFrom_20 : decode cX1_copyFrom 20 = .ok (.iload_n 2, 1) := by decide +kernel
theorem dX1_copyFrom_21 : decode cX1_copyFrom 21 = .ok (.aaload, 1) := by decide +kernel
theorem dX1_copyFrom_22 : decode cX1_copyFrom 22 = .ok (.invokevirtual 25, 3) := by decide +kernel
theorem dX1_copyFrom_25 : decode cX1_copyFrom 25 = .ok (.iinc 2 1, 3) := by decide +kernel
theorem dX1_copyFrom_28 : decode cX1_copyFrom 28 = .ok (.goto (-26), 3) := by decide +kernel
theorem dX1_copyFrom_31 : decode cX1_copyFrom 31 = .ok (.aload_n 0, 1) := by decide +kernel
theorem dX1_copyFrom_32 : decode cX1_copyFrom 32 = .ok (.aload_n 1, 1) := by decide +kernel
theorem dX1_copyFrom_33 : decode cX1_copyFrom 33 = .ok (.getfield 17, 3) := by decide +kernel
theorem dX1_copyFrom_36 : decode cX1_copyFrom 36 = .ok (.putfield 17, 3) := by decide +kernel
theorem dX1_copyFrom_39 : decode cX1_copyFrom 39 = .ok (.return_, 1) := by decide +kernel
theorem dX2_init_0 : decode cX2_init 0 = .ok (.aload_n 0, 1) := by decide +kernel
theorem dX2_init_1 : decode cX2_init 1 = .ok (.invokespecial 3, 3) := by decide +kernel
theorem dX2_init_4 : decode cX2_init 4 = .ok (.return_, 1) := by decide +kernel
theorem dX2_tell_0 : decode cX2_tell 0 = .ok (.aload_n 0, 1) := by decide +kernel
theorem dX2_tell_1 : decode cX2_tell 1 = .ok (.iload_n 1, 1) := by decide +kernel
theorem dX2_tell_2 : decode cX2_tell 2 = .ok (.putfield 9, 3) := by decide +kernel
theorem dX2_tell_5 : decode cX2_tell 5 = .ok (.aload_n 0, 1) := by decide +kernel
theorem dX2_tell_6 : decode cX2_tell 6 = .ok (.iload_n 2, 1) := by decide +kernel
theorem dX2_tell_7 : decode cX2_tell 7 = .ok (.putfield 15, 3) := by decide +kernel
theorem dX2_tell_10 : decode cX2_tell 10 = .ok (.aload_n 0, 1) := by decide +kernel
theorem dX2_tell_11 : decode cX2_tell 11 = .ok (.iload_n 3, 1) := by decide +kernel
theorem dX2_tell_12 : decode cX2_tell 12 = .ok (.putfield 18, 3) := by decide +kernel
theorem dX2_tell_15 : decode cX2_tell 15 = .ok (.aload_n 0, 1) := by decide +kernel
theorem dX2_tell_16 : decode cX2_tell 16 = .ok (.iload 4, 2) := by decide +kernel
theorem dX2_tell_18 : decode cX2_tell 18 = .ok (.putfield 21, 3) := by decide +kernel
theorem dX2_tell_21 : decode cX2_tell 21 = .ok (.aload_n 0, 1) := by decide +kernel
theorem dX2_tell_22 : decode cX2_tell 22 = .ok (.iconst 0, 1) := by decide +kernel
theorem dX2_tell_23 : decode cX2_tell 23 = .ok (.putfield 24, 3) := by decide +kernel
theorem dX2_tell_26 : decode cX2_tell 26 = .ok (.aload_n 0, 1) := by decide +kernel
theorem dX2_tell_27 : decode cX2_tell 27 = .ok (.iload_n 2, 1) := by decide +kernel
theorem dX2_tell_28 : decode cX2_tell 28 = .ok (.invokestatic 27, 3) := by decide +kernel
theorem dX2_tell_31 : decode cX2_tell 31 = .ok (.iload_n 3, 1) := by decide +kernel
theorem dX2_tell_32 : decode cX2_tell 32 = .ok (.invokestatic 27, 3) := by decide +kernel
theorem dX2_tell_35 : decode cX2_tell 35 = .ok (.iload 4, 2) := by decide +kernel
theorem dX2_tell_37 : decode cX2_tell 37 = .ok (.invokestatic 27, 3) := by decide +kernel
theorem dX2_tell_40 : decode cX2_tell 40 = .ok (.invokestatic 33, 3) := by decide +kernel
theorem dX2_tell_43 : decode cX2_tell 43 = .ok (.invokestatic 33, 3) := by decide +kernel
theorem dX2_tell_46 : decode cX2_tell 46 = .ok (.putfield 37, 3) := by decide +kernel
theorem dX2_tell_49 : decode cX2_tell 49 = .ok (.aload_n 0, 1) := by decide +kernel
theorem dX2_tell_50 : decode cX2_tell 50 = .ok (.iconst 1, 1) := by decide +kernel
theorem dX2_tell_51 : decode cX2_tell 51 = .ok (.putfield 40, 3) := by decide +kernel
theorem dX2_tell_54 : decode cX2_tell 54 = .ok (.aload_n 0, 1) := by decide +kernel
theorem dX2_tell_55 : decode cX2_tell 55 = .ok (.iconst 0, 1) := by decide +kernel
theorem dX2_tell_56 : decode cX2_tell 56 = .ok (.putfield 43, 3) := by decide +kernel
theorem dX2_tell_59 : decode cX2_tell 59 = .ok (.aload_n 0, 1) := by decide +kernel
theorem dX2_tell_60 : decode cX2_tell 60 = .ok (.iload_n 2, 1) := by decide +kernel
theorem dX2_tell_61 : decode cX2_tell 61 = .ok (.ineg, 1) := by decide +kernel
theorem dX2_tell_62 : decode cX2_tell 62 = .ok (.putfield 46, 3) := by decide +kernel
theorem dX2_tell_65 : decode cX2_tell 65 = .ok (.aload_n 0, 1) := by decide +kernel
theorem dX2_tell_66 : decode cX2_tell 66 = .ok (.iload_n 3, 1) := by decide +kernel
theorem dX2_tell_67 : decode cX2_tell 67 = .ok (.ineg, 1) := by decide +kernel
theorem dX2_tell_68 : decode cX2_tell 68 = .ok (.putfield 49, 3) := by decide +kernel
theorem dX2_tell_71 : decode cX2_tell 71 = .ok (.return_, 1) := by decide +kernel
theorem dX2_copyFrom_0 : decode cX2_copyFrom 0 = .ok (.aload_n 0, 1) := by decide +kernel
theorem dX2_copyFrom_1 : decode cX2_copyFrom 1 = .ok (.aload_n 1, 1) := by decide +kernel
theorem dX2_copyFrom_2 : decode cX2_copyFrom 2 = .ok (.getfield 9, 3) := by decide +kernel
theorem dX2_copyFrom_5 : decode cX2_copyFrom 5 = .ok (.putfield 9, 3) := by decide +kernel
theorem dX2_copyFrom_8 : decode cX2_copyFrom 8 = .ok (.aload_n 0, 1) := by decide +kernel
theorem dX2_copyFrom_9 : decode cX2_copyFrom 9 = .ok (.aload_n 1, 1) := by decide +kernel
theorem dX2_copyFrom_10 : decode cX2_copyFrom 10 = .ok (.getfield 15, 3) := by decide +kernel
theorem dX2_copyFrom_13 : decode cX2_copyFrom 13 = .ok (.putfield 15, 3) := by decide +kernel
theorem dX2_copyFrom_16 : decode cX2_copyFrom 16 = .ok (.aload_n 0, 1) := by decide +kernel
theorem dX2_copyFrom_17 : decode cX2_copyFrom 17 = .ok (.aload_n 1, 1) := by decide +kernel
theorem dX2_copyFrom_18 : decode cX2_copyFrom 18 = .ok (.getfield 18, 3) := by decide +kernel
theorem dX2_copyFrom_21 : decode cX2_copyFrom 21 = .ok (.putfield 18, 3) := by decide +kernel
theorem dX2_copyFrom_24 : decode cX2_copyFrom 24 = .ok (.aload_n 0, 1) := by decide +kernel
theorem dX2_copyFrom_25 : decode cX2_copyFrom 25 = .ok (.aload_n 1, 1) := by decide +kernel
theorem dX2_copyFrom_26 : decode cX2_copyFrom 26 = .ok (.getfield 21, 3) := by decide +kernel
theorem dX2_copyFrom_29 : decode cX2_copyFrom 29 = .ok (.putfield 21, 3) := by decide +kernel
theorem dX2_copyFrom_32 : decode cX2_copyFrom 32 = .ok (.aload_n 0, 1) := by decide +kernel
theorem dX2_copyFrom_33 : decode cX2_copyFrom 33 = .ok (.aload_n 1, 1) := by decide +kernel
theorem dX2_copyFrom_34 : decode cX2_copyFrom 34 = .ok (.getfield 24, 3) := by decide +kernel
theorem dX2_copyFrom_37 : decode cX2_copyFrom 37 = .ok (.putfield 24, 3) := by decide +kernel
theorem dX2_copyFrom_40 : decode cX2_copyFrom 40 = .ok (.aload_n 0, 1) := by decide +kernel
theorem dX2_copyFrom_41 : decode cX2_copyFrom 41 = .ok (.aload_n 1, 1) := by decide +kernel
theorem dX2_copyFrom_42 : decode cX2_copyFrom 42 = .ok (.getfield 37, 3) := by decide +kernel
theorem dX2_copyFrom_45 : decode cX2_copyFrom 45 = .ok (.putfield 37, 3) := by decide +kernel
theorem dX2_copyFrom_48 : decode cX2_copyFrom 48 = .ok (.aload_n 0, 1) := by decide +kernel
theorem dX2_copyFrom_49 : decode cX2_copyFrom 49 = .ok (.aload_n 1, 1) := by decide +kernel
theorem dX2_copyFrom_50 : decode cX2_copyFrom 50 = .ok (.getfield 40, 3) := by decide +kernel
theorem dX2_copyFrom_53 : decode cX2_copyFrom 53 = .ok (.putfield 40, 3) := by decide +kernel
theorem dX2_copyFrom_56 : decode cX2_copyFrom 56 = .ok (.aload_n 0, 1) := by decide +kernel
theorem dX2_copyFrom_57 : decode cX2_copyFrom 57 = .ok (.aload_n 1, 1) := by decide +kernel
theorem dX2_copyFrom_58 : decode cX2_copyFrom 58 = .ok (.getfield 43, 3) := by decide +kernel
theorem dX2_copyFrom_61 : decode cX2_copyFrom 61 = .ok (.putfield 43, 3) := by decide +kernel
theorem dX2_copyFrom_64 : decode cX2_copyFrom 64 = .ok (.aload_n 0, 1) := by decide +kernel
theorem dX2_copyFrom_65 : decode cX2_copyFrom 65 = .ok (.aload_n 1, 1) := by decide +kernel
theorem dX2_copyFrom_66 : decode cX2_copyFrom 66 = .ok (.getfield 46, 3) := by decide +kernel
theorem dX2_copyFrom_69 : decode cX2_copyFrom 69 = .ok (.putfield 46, 3) := by decide +kernel
theorem dX2_copyFrom_72 : decode cX2_copyFrom 72 = .ok (.aload_n 0, 1) := by decide +kernel
theorem dX2_copyFrom_73 : decode cX2_copyFrom 73 = .ok (.aload_n 1, 1) := by decide +kernel
theorem dX2_copyFrom_74 : decode cX2_copyFrom 74 = .ok (.getfield 49, 3) := by decide +kernel
theorem dX2_copyFrom_77 : decode cX2_copyFrom 77 = .ok (.putfield 49, 3) := by decide +kernel
theorem dX2_copyFrom_80 : decode cX2_copyFrom 80 = .ok (.return_, 1) := by decide +kernel
theorem dX2_isArc_0 : decode cX2_isArc 0 = .ok (.aload_n 0, 1) := by decide +kernel
theorem dX2_isArc_1 : decode cX2_isArc 1 = .ok (.getfield 9, 3) := by decide +kernel
theorem dX2_isArc_4 : decode cX2_isArc 4 = .ok (.iconst 3, 1) := by decide +kernel
theorem dX2_isArc_5 : decode cX2_isArc 5 = .ok (.if_icmp .eq 11, 3) := by decide +kernel
theorem dX2_isArc_8 : decode cX2_isArc 8 = .ok (.aload_n 0, 1) := by decide +kernel
theorem dX2_isArc_9 : decode cX2_isArc 9 = .ok (.getfield 9, 3) := by decide +kernel
theorem dX2_isArc_12 : decode cX2_isArc 12 = .ok (.iconst 4, 1) := by decide +kernel
theorem dX2_isArc_13 : decode cX2_isArc 13 = .ok (.if_icmp .ne 7, 3) := by decide +kernel
theorem dX2_isArc_16 : decode cX2_isArc 16 = .ok (.iconst 1, 1) := by decide +kernel
theorem dX2_isArc_17 : decode cX2_isArc 17 = .ok (.goto 4, 3) := by decide +kernel
theorem dX2_isArc_20 : decode cX2_isArc 20 = .ok (.iconst 0, 1) := by decide +kernel
theorem dX2_isArc_21 : decode cX2_isArc 21 = .ok (.ireturn, 1) := by decide +kernel
theorem dX2_way_0 : decode cX2_way 0 = .ok (.iload_n 1, 1) := by decide +kernel
theorem dX2_way_1 : decode cX2_way 1 = .ok (.ifCond .ne 8, 3) := by decide +kernel
theorem dX2_way_4 : decode cX2_way 4 = .ok (.aload_n 0, 1) := by decide +kernel
theorem dX2_way_5 : decode cX2_way 5 = .ok (.getfield 15, 3) := by decide +kernel
theorem dX2_way_8 : decode cX2_way 8 = .ok (.ireturn, 1) := by decide +kernel
theorem dX2_way_9 : decode cX2_way 9 = .ok (.iload_n 1, 1) := by decide +kernel
theorem dX2_way_10 : decode cX2_way 10 = .ok (.iconst 1, 1) := by decide +kernel
theorem dX2_way_11 : decode cX2_way 11 = .ok (.if_icmp .ne 10, 3) := by decide +kernel
theorem dX2_way_14 : decode cX2_way 14 = .ok (.aload_n 0, 1) := by decide +kernel
theorem dX2_way_15 : decode cX2_way 15 = .ok (.getfield 18, 3) := by decide +kernel
theorem dX2_way_18 : decode cX2_way 18 = .ok (.goto 7, 3) := by decide +kernel
theorem dX2_way_21 : decode cX2_way 21 = .ok (.aload_n 0, 1) := by decide +kernel
theorem dX2_way_22 : decode cX2_way 22 = .ok (.getfield 21, 3) := by decide +kernel
theorem dX2_way_25 : decode cX2_way 25 = .ok (.ireturn, 1) := by decide +kernel
theorem dX2_total_0 : decode cX2_total 0 = .ok (.aload_n 0, 1) := by decide +kernel
theorem dX2_total_1 : decode cX2_total 1 = .ok (.invokevirtual 52, 3) := by decide +kernel
theorem dX2_total_4 : decode cX2_total 4 = .ok (.ifCond .eq 8, 3) := by decide +kernel
theorem dX2_total_7 : decode cX2_total 7 = .ok (.aload_n 0, 1) := by decide +kernel
theorem dX2_total_8 : decode cX2_total 8 = .ok (.getfield 21, 3) := by decide +kernel
theorem dX2_total_11 : decode cX2_total 11 = .ok (.ireturn, 1) := by decide +kernel
theorem dX2_total_12 : decode cX2_total 12 = .ok (.aload_n 0, 1) := by decide +kernel
theorem dX2_total_13 : decode cX2_total 13 = .ok (.getfield 9, 3) := by decide +kernel
theorem dX2_total_16 : decode cX2_total 16 = .ok (.iconst 2, 1) := by decide +kernel
theorem dX2_total_17 : decode cX2_total 17 = .ok (.if_icmp .ne 29, 3) := by decide +kernel
theorem dX2_total_20 : decode cX2_total 20 = .ok (.aload_n 0, 1) := by decide +kernel
theorem dX2_total_21 : decode cX2_total 21 = .ok (.getfield 15, 3) := by decide +kernel
theorem dX2_total_24 : decode cX2_total 24 = .ok (.invokestatic 27, 3) := by decide +kernel
theorem dX2_total_27 : decode cX2_total 27 = .ok (.aload_n 0, 1) := by decide +kernel
theorem dX2_total_28 : decode cX2_total 28 = .ok (.getfield 18, 3) := by decide +kernel
theorem dX2_total_31 : decode cX2_total 31 = .ok (.invokestatic 27, 3) := by decide +kernel
theorem dX2_total_34 : decode cX2_total 34 = .ok (.iadd, 1) := by decide +kernel
theorem dX2_total_35 : decode cX2_total 35 = .ok (.aload_n 0, 1) := by decide +kernel
theorem dX2_total_36 : decode cX2_total 36 = .ok (.getfield 21, 3) := by decide +kernel
theorem dX2_total_39 : decode cX2_total 39 = .ok (.invokestatic 27, 3) := by decide +kernel
theorem dX2_total_42 : decode cX2_total 42 = .ok (.iadd, 1) := by decide +kernel
theorem dX2_total_43 : decode cX2_total 43 = .ok (.goto 7, 3) := by decide +kernel
theorem dX2_total_46 : decode cX2_total 46 = .ok (.aload_n 0, 1) := by decide +kernel
theorem dX2_total_47 : decode cX2_total 47 = .ok (.getfield 37, 3) := by decide +kernel
theorem dX2_total_50 : decode cX2_total 50 = .ok (.ireturn, 1) := by decide +kernel
theorem dX2_remaining_0 : decode cX2_remaining 0 = .ok (.aload_n 0, 1) := by decide +kernel
theorem dX2_remaining_1 : decode cX2_remaining 1 = .ok (.invokevirtual 56, 3) := by decide +kernel
theorem dX2_remaining_4 : decode cX2_remaining 4 = .ok (.aload_n 0, 1) := by decide +kernel
theorem dX2_remaining_5 : decode cX2_remaining 5 = .ok (.getfield 24, 3) := by decide +kernel
theorem dX2_remaining_8 : decode cX2_remaining 8 = .ok (.isub, 1) := by decide +kernel
theorem dX2_remaining_9 : decode cX2_remaining 9 = .ok (.ireturn, 1) := by decide +kernel
theorem dX2_gone_0 : decode cX2_gone 0 = .ok (.aload_n 0, 1) := by decide +kernel
theorem dX2_gone_1 : decode cX2_gone 1 = .ok (.iload_n 2, 1) := by decide +kernel
theorem dX2_gone_2 : decode cX2_gone 2 = .ok (.invokevirtual 60, 3) := by decide +kernel
theorem dX2_gone_5 : decode cX2_gone 5 = .ok (.invokestatic 27, 3) := by decide +kernel
theorem dX2_gone_8 : decode cX2_gone 8 = .ok (.istore_n 3, 1) := by decide +kernel
theorem dX2_gone_9 : decode cX2_gone 9 = .ok (.aload_n 0, 1) := by decide +kernel
theorem dX2_gone_10 : decode cX2_gone 10 = .ok (.getfield 9, 3) := by decide +kernel
theorem dX2_gone_13 : decode cX2_gone 13 = .ok (.iconst 1, 1) := by decide +kernel
theorem dX2_gone_14 : decode cX2_gone 14 = .ok (.if_icmp .ne 11, 3) := by decide +kernel
theorem dX2_gone_17 : decode cX2_gone 17 = .ok (.iload_n 1, 1) := by decide +kernel
theorem dX2_gone_18 : decode cX2_gone 18 = .ok (.iload_n 3, 1) := by decide +kernel
theorem dX2_gone_19 : decode cX2_gone 19 = .ok (.invokestatic 63, 3) := by decide +kernel
theorem dX2_gone_22 : decode cX2_gone 22 = .ok (.goto 13, 3) := by decide +kernel
theorem dX2_gone_25 : decode cX2_gone 25 = .ok (.iload_n 1, 1) := by decide +kernel
theorem dX2_gone_26 : decode cX2_gone 26 = .ok (.iload_n 3, 1) := by decide +kernel
theorem dX2_gone_27 : decode cX2_gone 27 = .ok (.imul, 1) := by decide +kernel
theorem dX2_gone_28 : decode cX2_gone 28 = .ok (.aload_n 0, 1) := by decide +kernel
theorem dX2_gone_29 : decode cX2_gone 29 = .ok (.getfield 37, 3) := by decide +kernel
theorem dX2_gone_32 : decode cX2_gone 32 = .ok (.invokestatic 66, 3) := by decide +kernel
theorem dX2_gone_35 : decode cX2_gone 35 = .ok (.istore 4, 2) := by decide +kernel
theorem dX2_gone_37 : decode cX2_gone 37 = .ok (.aload_n 0, 1) := by decide +kernel
theorem dX2_gone_38 : decode cX2_gone 38 = .ok (.iload_n 2, 1) := by decide +kernel
theorem dX2_gone_39 : decode cX2_gone 39 = .ok (.invokevirtual 60, 3) := by decide +kernel
theorem dX2_gone_42 : decode cX2_gone 42 = .ok (.ifCond .ge 9, 3) := by decide +kernel
theorem dX2_gone_45 : decode cX2_gone 45 = .ok (.iload 4, 2) := by decide +kernel
theorem dX2_gone_47 : decode cX2_gone 47 = .ok (.ineg, 1) := by decide +kernel
theorem dX2_gone_48 : decode cX2_gone 48 = .ok (.goto 5, 3) := by decide +kernel
theorem dX2_gone_51 : decode cX2_gone 51 = .ok (.iload 4, 2) := by decide +kernel
theorem dX2_gone_53 : decode cX2_gone 53 = .ok (.ireturn, 1) := by decide +kernel
theorem dX2_nearest_0 : decode cX2_nearest 0 = .ok (.iload_n 1, 1) := by decide +kernel
theorem dX2_nearest_1 : decode cX2_nearest 1 = .ok (.ifCond .gt 5, 3) := by decide +kernel
theorem dX2_nearest_4 : decode cX2_nearest 4 = .ok (.iconst 0, 1) := by decide +kernel
theorem dX2_nearest_5 : decode cX2_nearest 5 = .ok (.ireturn, 1) := by decide +kernel
theorem dX2_nearest_6 : decode cX2_nearest 6 = .ok (.iconst 2, 1) := by decide +kernel
theorem dX2_nearest_7 : decode cX2_nearest 7 = .ok (.iload_n 0, 1) := by decide +kernel
theorem dX2_nearest_8 : decode cX2_nearest 8 = .ok (.imul, 1) := by decide +kernel
theorem dX2_nearest_9 : decode cX2_nearest 9 = .ok (.iload_n 1, 1) := by decide +kernel
theorem dX2_nearest_10 : decode cX2_nearest 10 = .ok (.iadd, 1) := by decide +kernel
theorem dX2_nearest_11 : decode cX2_nearest 11 = .ok (.iconst 1, 1) := by decide +kernel
theorem dX2_nearest_12 : decode cX2_nearest 12 = .ok (.isub, 1) := by decide +kernel
theorem dX2_nearest_13 : decode cX2_nearest 13 = .ok (.iconst 2, 1) := by decide +kernel
theorem dX2_nearest_14 : decode cX2_nearest 14 = .ok (.iload_n 1, 1) := by decide +kernel
theorem dX2_nearest_15 : decode cX2_nearest 15 = .ok (.imul, 1) := by decide +kernel
theorem dX2_nearest_16 : decode cX2_nearest 16 = .ok (.idiv, 1) := by decide +kernel
theorem dX2_nearest_17 : decode cX2_nearest 17 = .ok (.ireturn, 1) := by decide +kernel
theorem dX2_advance_0 : decode cX2_advance 0 = .ok (.aload_n 1, 1) := by decide +kernel
theorem dX2_advance_1 : decode cX2_advance 1 = .ok (.iconst 0, 1) := by decide +kernel
theorem dX2_advance_2 : decode cX2_advance 2 = .ok (.iconst 0, 1) := by decide +kernel
theorem dX2_advance_3 : decode cX2_advance 3 = .ok (.iastore, 1) := by decide +kernel
theorem dX2_advance_4 : decode cX2_advance 4 = .ok (.aload_n 1, 1) := by decide +kernel
theorem dX2_advance_5 : decode cX2_advance 5 = .ok (.iconst 1, 1) := by decide +kernel
theorem dX2_advance_6 : decode cX2_advance 6 = .ok (.iconst 0, 1) := by decide +kernel
theorem dX2_advance_7 : decode cX2_advance 7 = .ok (.iastore, 1) := by decide +kernel
theorem dX2_advance_8 : decode cX2_advance 8 = .ok (.aload_n 1, 1) := by decide +kernel
theorem dX2_advance_9 : decode cX2_advance 9 = .ok (.iconst 2, 1) := by decide +kernel
theorem dX2_advance_10 : decode cX2_advance 10 = .ok (.iconst 0, 1) := by decide +kernel
theorem dX2_advance_11 : decode cX2_advance 11 = .ok (.iastore, 1) := by decide +kernel
theorem dX2_advance_12 : decode cX2_advance 12 = .ok (.aload_n 0, 1) := by decide +kernel
theorem dX2_advance_13 : decode cX2_advance 13 = .ok (.invokevirtual 52, 3) := by decide +kernel
theorem dX2_advance_16 : decode cX2_advance 16 = .ok (.ifCond .eq 11, 3) := by decide +kernel
theorem dX2_advance_19 : decode cX2_advance 19 = .ok (.aload_n 0, 1) := by decide +kernel
theorem dX2_advance_20 : decode cX2_advance 20 = .ok (.aload_n 1, 1) := by decide +kernel
theorem dX2_advance_21 : decode cX2_advance 21 = .ok (.invokevirtual 69, 3) := by decide +kernel
theorem dX2_advance_24 : decode cX2_advance 24 = .ok (.goto 56, 3) := by decide +kernel
theorem dX2_advance_27 : decode cX2_advance 27 = .ok (.aload_n 0, 1) := by decide +kernel
theorem dX2_advance_28 : decode cX2_advance 28 = .ok (.getfield 9, 3) := by decide +kernel
theorem dX2_advance_31 : decode cX2_advance 31 = .ok (.iconst 2, 1) := by decide +kernel
theorem dX2_advance_32 : decode cX2_advance 32 = .ok (.if_icmp .ne 11, 3) := by decide +kernel
theorem dX2_advance_35 : decode cX2_advance 35 = .ok (.aload_n 0, 1) := by decide +kernel
theorem dX2_advance_36 : decode cX2_advance 36 = .ok (.aload_n 1, 1) := by decide +kernel
theorem dX2_advance_37 : decode cX2_advance 37 = .ok (.invokevirtual 73, 3) := by decide +kernel
theorem dX2_advance_40 : decode cX2_advance 40 = .ok (.goto 40, 3) := by decide +kernel
theorem dX2_advance_43 : decode cX2_advance 43 = .ok (.iconst 0, 1) := by decide +kernel
theorem dX2_advance_44 : decode cX2_advance 44 = .ok (.istore_n 2, 1) := by decide +kernel
theorem dX2_advance_45 : decode cX2_advance 45 = .ok (.iload_n 2, 1) := by decide +kernel
theorem dX2_advance_46 : decode cX2_advance 46 = .ok (.iconst 3, 1) := by decide +kernel
theorem dX2_advance_47 : decode cX2_advance 47 = .ok (.if_icmp .ge 33, 3) := by decide +kernel
theorem dX2_advance_50 : decode cX2_advance 50 = .ok (.aload_n 1, 1) := by decide +kernel
theorem dX2_advance_51 : decode cX2_advance 51 = .ok (.iload_n 2, 1) := by decide +kernel
theorem dX2_advance_52 : decode cX2_advance 52 = .ok (.aload_n 0, 1) := by decide +kernel
theorem dX2_advance_53 : decode cX2_advance 53 = .ok (.aload_n 0, 1) := by decide +kernel
theorem dX2_advance_54 : decode cX2_advance 54 = .ok (.getfield 24, 3) := by decide +kernel
theorem dX2_advance_57 : decode cX2_advance 57 = .ok (.iconst 1, 1) := by decide +kernel
theorem dX2_advance_58 : decode cX2_advance 58 = .ok (.iadd, 1) := by decide +kernel
theorem dX2_advance_59 : decode cX2_advance 59 = .ok (.iload_n 2, 1) := by decide +kernel
theorem dX2_advance_60 : decode cX2_advance 60 = .ok (.invokevirtual 76, 3) := by decide +kernel
theorem dX2_advance_63 : decode cX2_advance 63 = .ok (.aload_n 0, 1) := by decide +kernel
theorem dX2_advance_64 : decode cX2_advance 64 = .ok (.aload_n 0, 1) := by decide +kernel
theorem dX2_advance_65 : decode cX2_advance 65 = .ok (.getfield 24, 3) := by decide +kernel
theorem dX2_advance_68 : decode cX2_advance 68 = .ok (.iload_n 2, 1) := by decide +kernel
theorem dX2_advance_69 : decode cX2_advance 69 = .ok (.invokevirtual 76, 3) := by decide +kernel
theorem dX2_advance_72 : decode cX2_advance 72 = .ok (.isub, 1) := by decide +kernel
theorem dX2_advance_73 : decode cX2_advance 73 = .ok (.iastore, 1) := by decide +kernel
theorem dX2_advance_74 : decode cX2_advance 74 = .ok (.iinc 2 1, 3) := by decide +kernel
theorem dX2_advance_77 : decode cX2_advance 77 = .ok (.goto (-32), 3) := by decide +kernel
theorem dX2_advance_80 : decode cX2_advance 80 = .ok (.aload_n 0, 1) := by decide +kernel
theorem dX2_advance_81 : decode cX2_advance 81 = .ok (.dup, 1) := by decide +kernel
theorem dX2_advance_82 : decode cX2_advance 82 = .ok (.getfield 24, 3) := by decide +kernel
theorem dX2_advance_85 : decode cX2_advance 85 = .ok (.iconst 1, 1) := by decide +kernel
theorem dX2_advance_86 : decode cX2_advance 86 = .ok (.iadd, 1) := by decide +kernel
theorem dX2_advance_87 : decode cX2_advance 87 = .ok (.putfield 24, 3) := by decide +kernel
theorem dX2_advance_90 : decode cX2_advance 90 = .ok (.return_, 1) := by decide +kernel
theorem dX2_advanceEven_0 : decode cX2_advanceEven 0 = .ok (.iconst 0, 1) := by decide +kernel
theorem dX2_advanceEven_1 : decode cX2_advanceEven 1 = .ok (.istore_n 2, 1) := by decide +kernel
theorem dX2_advanceEven_2 : decode cX2_advanceEven 2 = .ok (.iload_n 2, 1) := by decide +kernel
theorem dX2_advanceEven_3 : decode cX2_advanceEven 3 = .ok (.bipush 6, 2) := by decide +kernel
theorem dX2_advanceEven_5 : decode cX2_advanceEven 5 = .ok (.if_icmp .ge 81, 3) := by decide +kernel
theorem dX2_advanceEven_8 : decode cX2_advanceEven 8 = .ok (.aload_n 0, 1) := by decide +kernel
theorem dX2_advanceEven_9 : decode cX2_advanceEven 9 = .ok (.getfield 43, 3) := by decide +kernel
theorem dX2_advanceEven_12 : decode cX2_advanceEven 12 = .ok (.iconst 3, 1) := by decide +kernel
theorem dX2_advanceEven_13 : decode cX2_advanceEven 13 = .ok (.if_icmp .lt 18, 3) := by decide +kernel
theorem dX2_advanceEven_16 : decode cX2_advanceEven 16 = .ok (.aload_n 0, 1) := by decide +kernel
theorem dX2_advanceEven_17 : decode cX2_advanceEven 17 = .ok (.iconst 0, 1) := by decide +kernel
theorem dX2_advanceEven_18 : decode cX2_advanceEven 18 = .ok (.putfield 43, 3) := by decide +kernel
theorem dX2_advanceEven_21 : decode cX2_advanceEven 21 = .ok (.aload_n 0, 1) := by decide +kernel
theorem dX2_advanceEven_22 : decode cX2_advanceEven 22 = .ok (.dup, 1) := by decide +kernel
theorem dX2_advanceEven_23 : decode cX2_advanceEven 23 = .ok (.getfield 40, 3) := by decide +kernel
theorem dX2_advanceEven_26 : decode cX2_advanceEven 26 = .ok (.iconst 1, 1) := by decide +kernel
theorem dX2_advanceEven_27 : decode cX2_advanceEven 27 = .ok (.iadd, 1) := by decide +kernel
theorem dX2_advanceEven_28 : decode cX2_advanceEven 28 = .ok (.putfield 40, 3) := by decide +kernel
theorem dX2_advanceEven_31 : decode cX2_advanceEven 31 = .ok (.aload_n 0, 1) := by decide +kernel
theorem dX2_advanceEven_32 : decode cX2_advanceEven 32 = .ok (.getfield 43, 3) := by decide +kernel
theorem dX2_advanceEven_35 : decode cX2_advanceEven 35 = .ok (.istore_n 3, 1) := by decide +kernel
theorem dX2_advanceEven_36 : decode cX2_advanceEven 36 = .ok (.aload_n 0, 1) := by decide +kernel
theorem dX2_advanceEven_37 : decode cX2_advanceEven 37 = .ok (.dup, 1) := by decide +kernel
theorem dX2_advanceEven_38 : decode cX2_advanceEven 38 = .ok (.getfield 43, 3) := by decide +kernel
theorem dX2_advanceEven_41 : decode cX2_advanceEven 41 = .ok (.iconst 1, 1) := by decide +kernel
theorem dX2_advanceEven_42 : decode cX2_advanceEven 42 = .ok (.iadd, 1) := by decide +kernel
theorem dX2_advanceEven_43 : decode cX2_advanceEven 43 = .ok (.putfield 43, 3) := by decide +kernel
theorem dX2_advanceEven_46 : decode cX2_advanceEven 46 = .ok (.aload_n 0, 1) := by decide +kernel
theorem dX2_advanceEven_47 : decode cX2_advanceEven 47 = .ok (.aload_n 0, 1) := by decide +kernel
theorem dX2_advanceEven_48 : decode cX2_advanceEven 48 = .ok (.getfield 40, 3) := by decide +kernel
theorem dX2_advanceEven_51 : decode cX2_advanceEven 51 = .ok (.iload_n 3, 1) := by decide +kernel
theorem dX2_advanceEven_52 : decode cX2_advanceEven 52 = .ok (.invokevirtual 76, 3) := by decide +kernel
theorem dX2_advanceEven_55 : decode cX2_advanceEven 55 = .ok (.aload_n 0, 1) := by decide +kernel
theorem dX2_advanceEven_56 : decode cX2_advanceEven 56 = .ok (.aload_n 0, 1) := by decide +kernel
theorem dX2_advanceEven_57 : decode cX2_advanceEven 57 = .ok (.getfield 40, 3) := by decide +kernel
theorem dX2_advanceEven_60 : decode cX2_advanceEven 60 = .ok (.iconst 1, 1) := by decide +kernel
theorem dX2_advanceEven_61 : decode cX2_advanceEven 61 = .ok (.isub, 1) := by decide +kernel
theorem dX2_advanceEven_62 : decode cX2_advanceEven 62 = .ok (.iload_n 3, 1) := by decide +kernel
theorem dX2_advanceEven_63 : decode cX2_advanceEven 63 = .ok (.invokevirtual 76, 3) := by decide +kernel
theorem dX2_advanceEven_66 : decode cX2_advanceEven 66 = .ok (.isub, 1) := by decide +kernel
theorem dX2_advanceEven_67 : decode cX2_advanceEven 67 = .ok (.istore 4, 2) := by decide +kernel
theorem dX2_advanceEven_69 : decode cX2_advanceEven 69 = .ok (.iload 4, 2) := by decide +kernel
theorem dX2_advanceEven_71 : decode cX2_advanceEven 71 = .ok (.ifCond .eq 9, 3) := by decide +kernel
theorem dX2_advanceEven_74 : decode cX2_advanceEven 74 = .ok (.aload_n 1, 1) := by decide +kernel
theorem dX2_advanceEven_75 : decode cX2_advanceEven 75 = .ok (.iload_n 3, 1) := by decide +kernel
theorem dX2_advanceEven_76 : decode cX2_advanceEven 76 = .ok (.iload 4, 2) := by decide +kernel
theorem dX2_advanceEven_78 : decode cX2_advanceEven 78 = .ok (.iastore, 1) := by decide +kernel
theorem dX2_advanceEven_79 : decode cX2_advanceEven 79 = .ok (.return_, 1) := by decide +kernel
theorem dX2_advanceEven_80 : decode cX2_advanceEven 80 = .ok (.iinc 2 1, 3) := by decide +kernel
theorem dX2_advanceEven_83 : decode cX2_advanceEven 83 = .ok (.goto (-81), 3) := by decide +kernel
theorem dX2_advanceEven_86 : decode cX2_advanceEven 86 = .ok (.return_, 1) := by decide +kernel
theorem dX2_advanceArc_0 : decode cX2_advanceArc 0 = .ok (.aload_n 0, 1) := by decide +kernel
theorem dX2_advanceArc_1 : decode cX2_advanceArc 1 = .ok (.getfield 9, 3) := by decide +kernel
theorem dX2_advanceArc_4 : decode cX2_advanceArc 4 = .ok (.iconst 3, 1) := by decide +kernel
theorem dX2_advanceArc_5 : decode cX2_advanceArc 5 = .ok (.if_icmp .ne 14, 3) := by decide +kernel
theorem dX2_advanceArc_8 : decode cX2_advanceArc 8 = .ok (.aload_n 0, 1) := by decide +kernel
theorem dX2_advanceArc_9 : decode cX2_advanceArc 9 = .ok (.getfield 49, 3) := by decide +kernel
theorem dX2_advanceArc_12 : decode cX2_advanceArc 12 = .ok (.ineg, 1) := by decide +kernel
theorem dX2_advanceArc_13 : decode cX2_advanceArc 13 = .ok (.invokestatic 79, 3) := by decide +kernel
theorem dX2_advanceArc_16 : decode cX2_advanceArc 16 = .ok (.goto 10, 3) := by decide +kernel
theorem dX2_advanceArc_19 : decode cX2_advanceArc 19 = .ok (.aload_n 0, 1) := by decide +kernel
theorem dX2_advanceArc_20 : decode cX2_advanceArc 20 = .ok (.getfield 49, 3) := by decide +kernel
theorem dX2_advanceArc_23 : decode cX2_advanceArc 23 = .ok (.invokestatic 79, 3) := by decide +kernel
theorem dX2_advanceArc_26 : decode cX2_advanceArc 26 = .ok (.istore_n 2, 1) := by decide +kernel
theorem dX2_advanceArc_27 : decode cX2_advanceArc 27 = .ok (.aload_n 0, 1) := by decide +kernel
theorem dX2_advanceArc_28 : decode cX2_advanceArc 28 = .ok (.getfield 9, 3) := by decide +kernel
theorem dX2_advanceArc_31 : decode cX2_advanceArc 31 = .ok (.iconst 3, 1) := by decide +kernel
theorem dX2_advanceArc_32 : decode cX2_advanceArc 32 = .ok (.if_icmp .ne 13, 3) := by decide +kernel
theorem dX2_advanceArc_35 : decode cX2_advanceArc 35 = .ok (.aload_n 0, 1) := by decide +kernel
theorem dX2_advanceArc_36 : decode cX2_advanceArc 36 = .ok (.getfield 46, 3) := by decide +kernel
theorem dX2_advanceArc_39 : decode cX2_advanceArc 39 = .ok (.invokestatic 79, 3) := by decide +kernel
theorem dX2_advanceArc_42 : decode cX2_advanceArc 42 = .ok (.goto 11, 3) := by decide +kernel
theorem dX2_advanceArc_45 : decode cX2_advanceArc 45 = .ok (.aload_n 0, 1) := by decide +kernel
theorem dX2_advanceArc_46 : decode cX2_advanceArc 46 = .ok (.getfield 46, 3) := by decide +kernel
theorem dX2_advanceArc_49 : decode cX2_advanceArc 49 = .ok (.ineg, 1) := by decide +kernel
theorem dX2_advanceArc_50 : decode cX2_advanceArc 50 = .ok (.invokestatic 79, 3) := by decide +kernel
theorem dX2_advanceArc_53 : decode cX2_advanceArc 53 = .ok (.istore_n 3, 1) := by decide +kernel
theorem dX2_advanceArc_54 : decode cX2_advanceArc 54 = .ok (.iload_n 2, 1) := by decide +kernel
theorem dX2_advanceArc_55 : decode cX2_advanceArc 55 = .ok (.ifCond .eq 59, 3) := by decide +kernel
theorem dX2_advanceArc_58 : decode cX2_advanceArc 58 = .ok (.iload_n 3, 1) := by decide +kernel
theorem dX2_advanceArc_59 : decode cX2_advanceArc 59 = .ok (.ifCond .eq 55, 3) := by decide +kernel
theorem dX2_advanceArc_62 : decode cX2_advanceArc 62 = .ok (.aload_n 0, 1) := by decide +kernel
theorem dX2_advanceArc_63 : decode cX2_advanceArc 63 = .ok (.iload_n 2, 1) := by decide +kernel
theorem dX2_advanceArc_64 : decode cX2_advanceArc 64 = .ok (.iconst 0, 1) := by decide +kernel
theorem dX2_advanceArc_65 : decode cX2_advanceArc 65 = .ok (.invokevirtual 82, 3) := by decide +kernel
theorem dX2_advanceArc_68 : decode cX2_advanceArc 68 = .ok (.istore 4, 2) := by decide +kernel
theorem dX2_advanceArc_70 : decode cX2_advanceArc 70 = .ok (.aload_n 0, 1) := by decide +kernel
theorem dX2_advanceArc_71 : decode cX2_advanceArc 71 = .ok (.iconst 0, 1) := by decide +kernel
theorem dX2_advanceArc_72 : decode cX2_advanceArc 72 = .ok (.iload_n 3, 1) := by decide +kernel
theorem dX2_advanceArc_73 : decode cX2_advanceArc 73 = .ok (.invokevirtual 82, 3) := by decide +kernel
theorem dX2_advanceArc_76 : decode cX2_advanceArc 76 = .ok (.istore 5, 2) := by decide +kernel
theorem dX2_advanceArc_78 : decode cX2_advanceArc 78 = .ok (.aload_n 0, 1) := by decide +kernel
theorem dX2_advanceArc_79 : decode cX2_advanceArc 79 = .ok (.iload_n 2, 1) := by decide +kernel
theorem dX2_advanceArc_80 : decode cX2_advanceArc 80 = .ok (.iload_n 3, 1) := by decide +kernel
theorem dX2_advanceArc_81 : decode cX2_advanceArc 81 = .ok (.invokevirtual 82, 3) := by decide +kernel
theorem dX2_advanceArc_84 : decode cX2_advanceArc 84 = .ok (.istore 6, 2) := by decide +kernel
theorem dX2_advanceArc_86 : decode cX2_advanceArc 86 = .ok (.iload 4, 2) := by decide +kernel
theorem dX2_advanceArc_88 : decode cX2_advanceArc 88 = .ok (.iload 5, 2) := by decide +kernel
theorem dX2_advanceArc_90 : decode cX2_advanceArc 90 = .ok (.if_icmp .gt 15, 3) := by decide +kernel
theorem dX2_advanceArc_93 : decode cX2_advanceArc 93 = .ok (.iload 4, 2) := by decide +kernel
theorem dX2_advanceArc_95 : decode cX2_advanceArc 95 = .ok (.iload 6, 2) := by decide +kernel
theorem dX2_advanceArc_97 : decode cX2_advanceArc 97 = .ok (.if_icmp .gt 8, 3) := by decide +kernel
theorem dX2_advanceArc_100 : decode cX2_advanceArc 100 = .ok (.iconst 0, 1) := by decide +kernel
theorem dX2_advanceArc_101 : decode cX2_advanceArc 101 = .ok (.istore_n 3, 1) := by decide +kernel
theorem dX2_advanceArc_102 : decode cX2_advanceArc 102 = .ok (.goto 12, 3) := by decide +kernel
theorem dX2_advanceArc_105 : decode cX2_advanceArc 105 = .ok (.iload 5, 2) := by decide +kernel
theorem dX2_advanceArc_107 : decode cX2_advanceArc 107 = .ok (.iload 6, 2) := by decide +kernel
theorem dX2_advanceArc_109 : decode cX2_advanceArc 109 = .ok (.if_icmp .gt 5, 3) := by decide +kernel
theorem dX2_advanceArc_112 : decode cX2_advanceArc 112 = .ok (.iconst 0, 1) := by decide +kernel
theorem dX2_advanceArc_113 : decode cX2_advanceArc 113 = .ok (.istore_n 2, 1) := by decide +kernel
theorem dX2_advanceArc_114 : decode cX2_advanceArc 114 = .ok (.aload_n 1, 1) := by decide +kernel
theorem dX2_advanceArc_115 : decode cX2_advanceArc 115 = .ok (.iconst 0, 1) := by decide +kernel
theorem dX2_advanceArc_116 : decode cX2_advanceArc 116 = .ok (.iload_n 2, 1) := by decide +kernel
theorem dX2_advanceArc_117 : decode cX2_advanceArc 117 = .ok (.iastore, 1) := by decide +kernel
theorem dX2_advanceArc_118 : decode cX2_advanceArc 118 = .ok (.aload_n 1, 1) := by decide +kernel
theorem dX2_advanceArc_119 : decode cX2_advanceArc 119 = .ok (.iconst 1, 1) := by decide +kernel
theorem dX2_advanceArc_120 : decode cX2_advanceArc 120 = .ok (.iload_n 3, 1) := by decide +kernel
theorem dX2_advanceArc_121 : decode cX2_advanceArc 121 = .ok (.iastore, 1) := by decide +kernel
theorem dX2_advanceArc_122 : decode cX2_advanceArc 122 = .ok (.aload_n 0, 1) := by decide +kernel
theorem dX2_advanceArc_123 : decode cX2_advanceArc 123 = .ok (.dup, 1) := by decide +kernel
theorem dX2_advanceArc_124 : decode cX2_advanceArc 124 = .ok (.getfield 46, 3) := by decide +kernel
theorem dX2_advanceArc_127 : decode cX2_advanceArc 127 = .ok (.iload_n 2, 1) := by decide +kernel
theorem dX2_advanceArc_128 : decode cX2_advanceArc 128 = .ok (.iadd, 1) := by decide +kernel
theorem dX2_advanceArc_129 : decode cX2_advanceArc 129 = .ok (.putfield 46, 3) := by decide +kernel
theorem dX2_advanceArc_132 : decode cX2_advanceArc 132 = .ok (.aload_n 0, 1) := by decide +kernel
theorem dX2_advanceArc_133 : decode cX2_advanceArc 133 = .ok (.dup, 1) := by decide +kernel
theorem dX2_advanceArc_134 : decode cX2_advanceArc 134 = .ok (.getfield 49, 3) := by decide +kernel
theorem dX2_advanceArc_137 : decode cX2_advanceArc 137 = .ok (.iload_n 3, 1) := by decide +kernel
theorem dX2_advanceArc_138 : decode cX2_advanceArc 138 = .ok (.iadd, 1) := by decide +kernel
theorem dX2_advanceArc_139 : decode cX2_advanceArc 139 = .ok (.putfield 49, 3) := by decide +kernel
theorem dX2_advanceArc_142 : decode cX2_advanceArc 142 = .ok (.return_, 1) := by decide +kernel
theorem dX2_offCircle_0 : decode cX2_offCircle 0 = .ok (.aload_n 0, 1) := by decide +kernel
theorem dX2_offCircle_1 : decode cX2_offCircle 1 = .ok (.getfield 46, 3) := by decide +kernel
theorem dX2_offCircle_4 : decode cX2_offCircle 4 = .ok (.iload_n 1, 1) := by decide +kernel
theorem dX2_offCircle_5 : decode cX2_offCircle 5 = .ok (.iadd, 1) := by decide +kernel
theorem dX2_offCircle_6 : decode cX2_offCircle 6 = .ok (.aload_n 0, 1) := by decide +kernel
theorem dX2_offCircle_7 : decode cX2_offCircle 7 = .ok (.getfield 46, 3) := by decide +kernel
theorem dX2_offCircle_10 : decode cX2_offCircle 10 = .ok (.iload_n 1, 1) := by decide +kernel
theorem dX2_offCircle_11 : decode cX2_offCircle 11 = .ok (.iadd, 1) := by decide +kernel
theorem dX2_offCircle_12 : decode cX2_offCircle 12 = .ok (.imul, 1) := by decide +kernel
theorem dX2_offCircle_13 : decode cX2_offCircle 13 = .ok (.aload_n 0, 1) := by decide +kernel
theorem dX2_offCircle_14 : decode cX2_offCircle 14 = .ok (.getfield 49, 3) := by decide +kernel
theorem dX2_offCircle_17 : decode cX2_offCircle 17 = .ok (.iload_n 2, 1) := by decide +kernel
theorem dX2_offCircle_18 : decode cX2_offCircle 18 = .ok (.iadd, 1) := by decide +kernel
theorem dX2_offCircle_19 : decode cX2_offCircle 19 = .ok (.aload_n 0, 1) := by decide +kernel
theorem dX2_offCircle_20 : decode cX2_offCircle 20 = .ok (.getfield 49, 3) := by decide +kernel
theorem dX2_offCircle_23 : decode cX2_offCircle 23 = .ok (.iload_n 2, 1) := by decide +kernel
theorem dX2_offCircle_24 : decode cX2_offCircle 24 = .ok (.iadd, 1) := by decide +kernel
theorem dX2_offCircle_25 : decode cX2_offCircle 25 = .ok (.imul, 1) := by decide +kernel
theorem dX2_offCircle_26 : decode cX2_offCircle 26 = .ok (.iadd, 1) := by decide +kernel
theorem dX2_offCircle_27 : decode cX2_offCircle 27 = .ok (.aload_n 0, 1) := by decide +kernel
theorem dX2_offCircle_28 : decode cX2_offCircle 28 = .ok (.getfield 15, 3) := by decide +kernel
theorem dX2_offCircle_31 : decode cX2_offCircle 31 = .ok (.aload_n 0, 1) := by decide +kernel
theorem dX2_offCircle_32 : decode cX2_offCircle 32 = .ok (.getfield 15, 3) := by decide +kernel
theorem dX2_offCircle_35 : decode cX2_offCircle 35 = .ok (.imul, 1) := by decide +kernel
theorem dX2_offCircle_36 : decode cX2_offCircle 36 = .ok (.isub, 1) := by decide +kernel
theorem dX2_offCircle_37 : decode cX2_offCircle 37 = .ok (.aload_n 0, 1) := by decide +kernel
theorem dX2_offCircle_38 : decode cX2_offCircle 38 = .ok (.getfield 18, 3) := by decide +kernel
theorem dX2_offCircle_41 : decode cX2_offCircle 41 = .ok (.aload_n 0, 1) := by decide +kernel
theorem dX2_offCircle_42 : decode cX2_offCircle 42 = .ok (.getfield 18, 3) := by decide +kernel
theorem dX2_offCircle_45 : decode cX2_offCircle 45 = .ok (.imul, 1) := by decide +kernel
theorem dX2_offCircle_46 : decode cX2_offCircle 46 = .ok (.isub, 1) := by decide +kernel
theorem dX2_offCircle_47 : decode cX2_offCircle 47 = .ok (.invokestatic 27, 3) := by decide +kernel
theorem dX2_offCircle_50 : decode cX2_offCircle 50 = .ok (.ireturn, 1) := by decide +kernel
theorem dX2_raiseOff_0 : decode cX2_raiseOff 0 = .ok (.aload_n 0, 1) := by decide +kernel
theorem dX2_raiseOff_1 : decode cX2_raiseOff 1 = .ok (.invokevirtual 52, 3) := by decide +kernel
theorem dX2_raiseOff_4 : decode cX2_raiseOff 4 = .ok (.ifCond .eq 4, 3) := by decide +kernel
theorem dX2_raiseOff_7 : decode cX2_raiseOff 7 = .ok (.return_, 1) := by decide +kernel
theorem dX2_raiseOff_8 : decode cX2_raiseOff 8 = .ok (.iconst 1, 1) := by decide +kernel
theorem dX2_raiseOff_9 : decode cX2_raiseOff 9 = .ok (.istore_n 2, 1) := by decide +kernel
theorem dX2_raiseOff_10 : decode cX2_raiseOff 10 = .ok (.iload_n 2, 1) := by decide +kernel
theorem dX2_raiseOff_11 : decode cX2_raiseOff 11 = .ok (.aload_n 0, 1) := by decide +kernel
theorem dX2_raiseOff_12 : decode cX2_raiseOff 12 = .ok (.getfield 37, 3) := by decide +kernel
theorem dX2_raiseOff_15 : decode cX2_raiseOff 15 = .ok (.if_icmp .gt 52, 3) := by decide +kernel
theorem dX2_raiseOff_18 : decode cX2_raiseOff 18 = .ok (.iconst 0, 1) := by decide +kernel
theorem dX2_raiseOff_19 : decode cX2_raiseOff 19 = .ok (.istore_n 3, 1) := by decide +kernel
theorem dX2_raiseOff_20 : decode cX2_raiseOff 20 = .ok (.iload_n 3, 1) := by decide +kernel
theorem dX2_raiseOff_21 : decode cX2_raiseOff 21 = .ok (.iconst 3, 1) := by decide +kernel
theorem dX2_raiseOff_22 : decode cX2_raiseOff 22 = .ok (.if_icmp .ge 39, 3) := by decide +kernel
theorem dX2_raiseOff_25 : decode cX2_raiseOff 25 = .ok (.aload_n 1, 1) := by decide +kernel
theorem dX2_raiseOff_26 : decode cX2_raiseOff 26 = .ok (.aload_n 0, 1) := by decide +kernel
theorem dX2_raiseOff_27 : decode cX2_raiseOff 27 = .ok (.iload_n 2, 1) := by decide +kernel
theorem dX2_raiseOff_28 : decode cX2_raiseOff 28 = .ok (.iload_n 3, 1) := by decide +kernel
theorem dX2_raiseOff_29 : decode cX2_raiseOff 29 = .ok (.invokevirtual 76, 3) := by decide +kernel
theorem dX2_raiseOff_32 : decode cX2_raiseOff 32 = .ok (.aload_n 0, 1) := by decide +kernel
theorem dX2_raiseOff_33 : decode cX2_raiseOff 33 = .ok (.getfield 37, 3) := by decide +kernel
theorem dX2_raiseOff_36 : decode cX2_raiseOff 36 = .ok (.imul, 1) := by decide +kernel
theorem dX2_raiseOff_37 : decode cX2_raiseOff 37 = .ok (.iload_n 2, 1) := by decide +kernel
theorem dX2_raiseOff_38 : decode cX2_raiseOff 38 = .ok (.aload_n 0, 1) := by decide +kernel
theorem dX2_raiseOff_39 : decode cX2_raiseOff 39 = .ok (.iload_n 3, 1) := by decide +kernel
theorem dX2_raiseOff_40 : decode cX2_raiseOff 40 = .ok (.invokevirtual 60, 3) := by decide +kernel
theorem dX2_raiseOff_43 : decode cX2_raiseOff 43 = .ok (.imul, 1) := by decide +kernel
theorem dX2_raiseOff_44 : decode cX2_raiseOff 44 = .ok (.isub, 1) := by decide +kernel
theorem dX2_raiseOff_45 : decode cX2_raiseOff 45 = .ok (.invokestatic 27, 3) := by decide +kernel
theorem dX2_raiseOff_48 : decode cX2_raiseOff 48 = .ok (.aload_n 0, 1) := by decide +kernel
theorem dX2_raiseOff_49 : decode cX2_raiseOff 49 = .ok (.getfield 37, 3) := by decide +kernel
theorem dX2_raiseOff_52 : decode cX2_raiseOff 52 = .ok (.invokevirtual 85, 3) := by decide +kernel
theorem dX2_raiseOff_55 : decode cX2_raiseOff 55 = .ok (.iinc 3 1, 3) := by decide +kernel
theorem dX2_raiseOff_58 : decode cX2_raiseOff 58 = .ok (.goto (-38), 3) := by decide +kernel
theorem dX2_raiseOff_61 : decode cX2_raiseOff 61 = .ok (.iinc 2 1, 3) := by decide +kernel
theorem dX2_raiseOff_64 : decode cX2_raiseOff 64 = .ok (.goto (-54), 3) := by decide +kernel
theorem dX2_raiseOff_67 : decode cX2_raiseOff 67 = .ok (.return_, 1) := by decide +kernel
theorem dX3_init_0 : decode cX3_init 0 = .ok (.aload_n 0, 1) := by decide +kernel
theorem dX3_init_1 : decode cX3_init 1 = .ok (.invokespecial 3, 3) := by decide +kernel
theorem dX3_init_4 : decode cX3_init 4 = .ok (.aload_n 0, 1) := by decide +kernel
theorem dX3_init_5 : decode cX3_init 5 = .ok (.sipush 140, 3) := by decide +kernel
theorem dX3_init_8 : decode cX3_init 8 = .ok (.newarray .char, 2) := by decide +kernel
theorem dX3_init_10 : decode cX3_init 10 = .ok (.putfield 9, 3) := by decide +kernel
theorem dX3_init_13 : decode cX3_init 13 = .ok (.aload_n 0, 1) := by decide +kernel
theorem dX3_init_14 : decode cX3_init 14 = .ok (.iconst 0, 1) := by decide +kernel
theorem dX3_init_15 : decode cX3_init 15 = .ok (.putfield 15, 3) := by decide +kernel
theorem dX3_init_18 : decode cX3_init 18 = .ok (.aload_n 0, 1) := by decide +kernel
theorem dX3_init_19 : decode cX3_init 19 = .ok (.bipush 12, 2) := by decide +kernel
theorem dX3_init_21 : decode cX3_init 21 = .ok (.anewarray 19, 3) := by decide +kernel
theorem dX3_init_24 : decode cX3_init 24 = .ok (.putfield 21, 3) := by decide +kernel
theorem dX3_init_27 : decode cX3_init 27 = .ok (.aload_n 0, 1) := by decide +kernel
theorem dX3_init_28 : decode cX3_init 28 = .ok (.iconst 0, 1) := by decide +kernel
theorem dX3_init_29 : decode cX3_init 29 = .ok (.putfield 25, 3) := by decide +kernel
theorem dX3_init_32 : decode cX3_init 32 = .ok (.aload_n 0, 1) := by decide +kernel
theorem dX3_init_33 : decode cX3_init 33 = .ok (.iconst 3, 1) := by decide +kernel
theorem dX3_init_34 : decode cX3_init 34 = .ok (.newarray .int, 2) := by decide +kernel
theorem dX3_init_36 : decode cX3_init 36 = .ok (.putfield 28, 3) := by decide +kernel
theorem dX3_init_39 : decode cX3_init 39 = .ok (.aload_n 0, 1) := by decide +kernel
theorem dX3_init_40 : decode cX3_init 40 = .ok (.iconst 0, 1) := by decide +kernel
theorem dX3_init_41 : decode cX3_init 41 = .ok (.putfield 32, 3) := by decide +kernel
theorem dX3_init_44 : decode cX3_init 44 = .ok (.iconst 0, 1) := by decide +kernel
theorem dX3_init_45 : decode cX3_init 45 = .ok (.istore_n 1, 1) := by decide +kernel
theorem dX3_init_46 : decode cX3_init 46 = .ok (.iload_n 1, 1) := by decide +kernel
theorem dX3_init_47 : decode cX3_init 47 = .ok (.bipush 12, 2) := by decide +kernel
theorem dX3_init_49 : decode cX3_init 49 = .ok (.if_icmp .ge 22, 3) := by decide +kernel
theorem dX3_init_52 : decode cX3_init 52 = .ok (.aload_n 0, 1) := by decide +kernel
theorem dX3_init_53 : decode cX3_init 53 = .ok (.getfield 21, 3) := by decide +kernel
theorem dX3_init_56 : decode cX3_init 56 = .ok (.iload_n 1, 1) := by decide +kernel
theorem dX3_init_57 : decode cX3_init 57 = .ok (.new 19, 3) := by decide +kernel
theorem dX3_init_60 : decode cX3_init 60 = .ok (.dup, 1) := by decide +kernel
theorem dX3_init_61 : decode cX3_init 61 = .ok (.invokespecial 35, 3) := by decide +kernel
theorem dX3_init_64 : decode cX3_init 64 = .ok (.aastore, 1) := by decide +kernel
theorem dX3_init_65 : decode cX3_init 65 = .ok (.iinc 1 1, 3) := by decide +kernel
theorem dX3_init_68 : decode cX3_init 68 = .ok (.goto (-22), 3) := by decide +kernel
theorem dX3_init_71 : decode cX3_init 71 = .ok (.return_, 1) := by decide +kernel
theorem dX3_append_0 : decode cX3_append 0 = .ok (.aload_n 0, 1) := by decide +kernel
theorem dX3_append_1 : decode cX3_append 1 = .ok (.getfield 15, 3) := by decide +kernel
theorem dX3_append_4 : decode cX3_append 4 = .ok (.sipush 140, 3) := by decide +kernel
theorem dX3_append_7 : decode cX3_append 7 = .ok (.if_icmp .lt 5, 3) := by decide +kernel
theorem dX3_append_10 : decode cX3_append 10 = .ok (.iconst 0, 1) := by decide +kernel
theorem dX3_append_11 : decode cX3_append 11 = .ok (.ireturn, 1) := by decide +kernel
theorem dX3_append_12 : decode cX3_append 12 = .ok (.aload_n 0, 1) := by decide +kernel
theorem dX3_append_13 : decode cX3_append 13 = .ok (.getfield 9, 3) := by decide +kernel
theorem dX3_append_16 : decode cX3_append 16 = .ok (.aload_n 0, 1) := by decide +kernel
theorem dX3_append_17 : decode cX3_append 17 = .ok (.getfield 15, 3) := by decide +kernel
theorem dX3_append_20 : decode cX3_append 20 = .ok (.iload_n 1, 1) := by decide +kernel
theorem dX3_append_21 : decode cX3_append 21 = .ok (.castore, 1) := by decide +kernel
theorem dX3_append_22 : decode cX3_append 22 = .ok (.aload_n 0, 1) := by decide +kernel
theorem dX3_append_23 : decode cX3_append 23 = .ok (.dup, 1) := by decide +kernel
theorem dX3_append_24 : decode cX3_append 24 = .ok (.getfield 15, 3) := by decide +kernel
theorem dX3_append_27 : decode cX3_append 27 = .ok (.iconst 1, 1) := by decide +kernel
theorem dX3_append_28 : decode cX3_append 28 = .ok (.iadd, 1) := by decide +kernel
theorem dX3_append_29 : decode cX3_append 29 = .ok (.putfield 15, 3) := by decide +kernel
theorem dX3_append_32 : decode cX3_append 32 = .ok (.iconst 1, 1) := by decide +kernel
theorem dX3_append_33 : decode cX3_append 33 = .ok (.ireturn, 1) := by decide +kernel
theorem dX3_readPlan_0 : decode cX3_readPlan 0 = .ok (.aload_n 0, 1) := by decide +kernel
theorem dX3_readPlan_1 : decode cX3_readPlan 1 = .ok (.iconst 0, 1) := by decide +kernel
theorem dX3_readPlan_2 : decode cX3_readPlan 2 = .ok (.putfield 32, 3) := by decide +kernel
theorem dX3_readPlan_5 : decode cX3_readPlan 5 = .ok (.aload_n 0, 1) := by decide +kernel
theorem dX3_readPlan_6 : decode cX3_readPlan 6 = .ok (.iconst 0, 1) := by decide +kernel
theorem dX3_readPlan_7 : decode cX3_readPlan 7 = .ok (.putfield 25, 3) := by decide +kernel
theorem dX3_readPlan_10 : decode cX3_readPlan 10 = .ok (.aload_n 0, 1) := by decide +kernel
theorem dX3_readPlan_11 : decode cX3_readPlan 11 = .ok (.invokevirtual 36, 3) := by decide +kernel
theorem dX3_readPlan_14 : decode cX3_readPlan 14 = .ok (.ifCond .eq 5, 3) := by decide +kernel
theorem dX3_readPlan_17 : decode cX3_readPlan 17 = .ok (.iconst 1, 1) := by decide +kernel
theorem dX3_readPlan_18 : decode cX3_readPlan 18 = .ok (.ireturn, 1) := by decide +kernel
theorem dX3_readPlan_19 : decode cX3_readPlan 19 = .ok (.iconst 0, 1) := by decide +kernel
theorem dX3_readPlan_20 : decode cX3_readPlan 20 = .ok (.istore_n 1, 1) := by decide +kernel
theorem dX3_readPlan_21 : decode cX3_readPlan 21 = .ok (.iload_n 1, 1) := by decide +kernel
theorem dX3_readPlan_22 : decode cX3_readPlan 22 = .ok (.bipush 12, 2) := by decide +kernel
theorem dX3_readPlan_24 : decode cX3_readPlan 24 = .ok (.if_icmp .ge 55, 3) := by decide +kernel
theorem dX3_readPlan_27 : decode cX3_readPlan 27 = .ok (.aload_n 0, 1) := by decide +kernel
theorem dX3_readPlan_28 : decode cX3_readPlan 28 = .ok (.iload_n 1, 1) := by decide +kernel
theorem dX3_readPlan_29 : decode cX3_readPlan 29 = .ok (.invokevirtual 40, 3) := by decide +kernel
theorem dX3_readPlan_32 : decode cX3_readPlan 32 = .ok (.ifCond .ne 5, 3) := by decide +kernel
theorem dX3_readPlan_35 : decode cX3_readPlan 35 = .ok (.iconst 0, 1) := by decide +kernel
theorem dX3_readPlan_36 : decode cX3_readPlan 36 = .ok (.ireturn, 1) := by decide +kernel
theorem dX3_readPlan_37 : decode cX3_readPlan 37 = .ok (.aload_n 0, 1) := by decide +kernel
theorem dX3_readPlan_38 : decode cX3_readPlan 38 = .ok (.iload_n 1, 1) := by decide +kernel
theorem dX3_readPlan_39 : decode cX3_readPlan 39 = .ok (.iconst 1, 1) := by decide +kernel
theorem dX3_readPlan_40 : decode cX3_readPlan 40 = .ok (.iadd, 1) := by decide +kernel
theorem dX3_readPlan_41 : decode cX3_readPlan 41 = .ok (.putfield 25, 3) := by decide +kernel
theorem dX3_readPlan_44 : decode cX3_readPlan 44 = .ok (.aload_n 0, 1) := by decide +kernel
theorem dX3_readPlan_45 : decode cX3_readPlan 45 = .ok (.invokevirtual 36, 3) := by decide +kernel
theorem dX3_readPlan_48 : decode cX3_readPlan 48 = .ok (.ifCond .eq 5, 3) := by decide +kernel
theorem dX3_readPlan_51 : decode cX3_readPlan 51 = .ok (.iconst 1, 1) := by decide +kernel
theorem dX3_readPlan_52 : decode cX3_readPlan 52 = .ok (.ireturn, 1) := by decide +kernel
theorem dX3_readPlan_53 : decode cX3_readPlan 53 = .ok (.aload_n 0, 1) := by decide +kernel
theorem dX3_readPlan_54 : decode cX3_readPlan 54 = .ok (.getfield 25, 3) := by decide +kernel
theorem dX3_readPlan_57 : decode cX3_readPlan 57 = .ok (.bipush 12, 2) := by decide +kernel
theorem dX3_readPlan_59 : decode cX3_readPlan 59 = .ok (.if_icmp .eq 12, 3) := by decide +kernel
theorem dX3_readPlan_62 : decode cX3_readPlan 62 = .ok (.aload_n 0, 1) := by decide +kernel
theorem dX3_readPlan_63 : decode cX3_readPlan 63 = .ok (.bipush 59, 2) := by decide +kernel
theorem dX3_readPlan_65 : decode cX3_readPlan 65 = .ok (.invokevirtual 44, 3) := by decide +kernel
theorem dX3_readPlan_68 : decode cX3_readPlan 68 = .ok (.ifCond .ne 5, 3) := by decide +kernel
theorem dX3_readPlan_71 : decode cX3_readPlan 71 = .ok (.iconst 0, 1) := by decide +kernel
theorem dX3_readPlan_72 : decode cX3_readPlan 72 = .ok (.ireturn, 1) := by decide +kernel
theorem dX3_readPlan_73 : decode cX3_readPlan 73 = .ok (.iinc 1 1, 3) := by decide +kernel
theorem dX3_readPlan_76 : decode cX3_readPlan 76 = .ok (.goto (-55), 3) := by decide +kernel
theorem dX3_readPlan_79 : decode cX3_readPlan 79 = .ok (.iconst 0, 1) := by decide +kernel
theorem dX3_readPlan_80 : decode cX3_readPlan 80 = .ok (.ireturn, 1) := by decide +kernel
theorem dX3_readPiece_0 : decode cX3_readPiece 0 = .ok (.aload_n 0, 1) := by decide +kernel
theorem dX3_readPiece_1 : decode cX3_readPiece 1 = .ok (.invokevirtual 36, 3) := by decide +kernel
theorem dX3_readPiece_4 : decode cX3_readPiece 4 = .ok (.ifCond .eq 7, 3) := by decide +kernel
theorem dX3_readPiece_7 : decode cX3_readPiece 7 = .ok (.iconst (-1), 1) := by decide +kernel
theorem dX3_readPiece_8 : decode cX3_readPiece 8 = .ok (.goto 17, 3) := by decide +kernel
theorem dX3_readPiece_11 : decode cX3_readPiece 11 = .ok (.ldc 48, 2) := by decide +kernel
theorem dX3_readPiece_13 : decode cX3_readPiece 13 = .ok (.aload_n 0, 1) := by decide +kernel
theorem dX3_readPiece_14 : decode cX3_readPiece 14 = .ok (.getfield 9, 3) := by decide +kernel
theorem dX3_readPiece_17 : decode cX3_readPiece 17 = .ok (.aload_n 0, 1) := by decide +kernel
theorem dX3_readPiece_18 : decode cX3_readPiece 18 = .ok (.getfield 32, 3) := by decide +kernel
theorem dX3_readPiece_21 : decode cX3_readPiece 21 = .ok (.caload, 1) := by decide +kernel
theorem dX3_readPiece_22 : decode cX3_readPiece 22 = .ok (.invokevirtual 50, 3) := by decide +kernel
theorem dX3_readPiece_25 : decode cX3_readPiece 25 = .ok (.istore_n 2, 1) := by decide +kernel
theorem dX3_readPiece_26 : decode cX3_readPiece 26 = .ok (.iload_n 2, 1) := by decide +kernel
theorem dX3_readPiece_27 : decode cX3_readPiece 27 = .ok (.ifCond .ge 5, 3) := by decide +kernel
theorem dX3_readPiece_30 : decode cX3_readPiece 30 = .ok (.iconst 0, 1) := by decide +kernel
theorem dX3_readPiece_31 : decode cX3_readPiece 31 = .ok (.ireturn, 1) := by decide +kernel
theorem dX3_readPiece_32 : decode cX3_readPiece 32 = .ok (.aload_n 0, 1) := by decide +kernel
theorem dX3_readPiece_33 : decode cX3_readPiece 33 = .ok (.getfield 32, 3) := by decide +kernel
theorem dX3_readPiece_36 : decode cX3_readPiece 36 = .ok (.istore_n 3, 1) := by decide +kernel
theorem dX3_readPiece_37 : decode cX3_readPiece 37 = .ok (.aload_n 0, 1) := by decide +kernel
theorem dX3_readPiece_38 : decode cX3_readPiece 38 = .ok (.dup, 1) := by decide +kernel
theorem dX3_readPiece_39 : decode cX3_readPiece 39 = .ok (.getfield 32, 3) := by decide +kernel
theorem dX3_readPiece_42 : decode cX3_readPiece 42 = .ok (.iconst 1, 1) := by decide +kernel
theorem dX3_readPiece_43 : decode cX3_readPiece 43 = .ok (.iadd, 1) := by decide +kernel
theorem dX3_readPiece_44 : decode cX3_readPiece 44 = .ok (.putfield 32, 3) := by decide +kernel
theorem dX3_readPiece_47 : decode cX3_readPiece 47 = .ok (.iconst 0, 1) := by decide +kernel
theorem dX3_readPiece_48 : decode cX3_readPiece 48 = .ok (.istore 4, 2) := by decide +kernel
theorem dX3_readPiece_50 : decode cX3_readPiece 50 = .ok (.iload 4, 2) := by decide +kernel
theorem dX3_readPiece_52 : decode cX3_readPiece 52 = .ok (.iconst 3, 1) := by decide +kernel
theorem dX3_readPiece_53 : decode cX3_readPiece 53 = .ok (.if_icmp .ge 36, 3) := by decide +kernel
theorem dX3_readPiece_56 : decode cX3_readPiece 56 = .ok (.iload 4, 2) := by decide +kernel
theorem dX3_readPiece_58 : decode cX3_readPiece 58 = .ok (.ifCond .le 14, 3) := by decide +kernel
theorem dX3_readPiece_61 : decode cX3_readPiece 61 = .ok (.aload_n 0, 1) := by decide +kernel
theorem dX3_readPiece_62 : decode cX3_readPiece 62 = .ok (.bipush 44, 2) := by decide +kernel
theorem dX3_readPiece_64 : decode cX3_readPiece 64 = .ok (.invokevirtual 44, 3) := by decide +kernel
theorem dX3_readPiece_67 : decode cX3_readPiece 67 = .ok (.ifCond .ne 5, 3) := by decide +kernel
theorem dX3_readPiece_70 : decode cX3_readPiece 70 = .ok (.iconst 0, 1) := by decide +kernel
theorem dX3_readPiece_71 : decode cX3_readPiece 71 = .ok (.ireturn, 1) := by decide +kernel
theorem dX3_readPiece_72 : decode cX3_readPiece 72 = .ok (.aload_n 0, 1) := by decide +kernel
theorem dX3_readPiece_73 : decode cX3_readPiece 73 = .ok (.iload 4, 2) := by decide +kernel
theorem dX3_readPiece_75 : decode cX3_readPiece 75 = .ok (.invokevirtual 56, 3) := by decide +kernel
theorem dX3_readPiece_78 : decode cX3_readPiece 78 = .ok (.ifCond .ne 5, 3) := by decide +kernel
theorem dX3_readPiece_81 : decode cX3_readPiece 81 = .ok (.iconst 0, 1) := by decide +kernel
theorem dX3_readPiece_82 : decode cX3_readPiece 82 = .ok (.ireturn, 1) := by decide +kernel
theorem dX3_readPiece_83 : decode cX3_readPiece 83 = .ok (.iinc 4 1, 3) := by decide +kernel
theorem dX3_readPiece_86 : decode cX3_readPiece 86 = .ok (.goto (-36), 3) := by decide +kernel
theorem dX3_readPiece_89 : decode cX3_readPiece 89 = .ok (.iload_n 2, 1) := by decide +kernel
theorem dX3_readPiece_90 : decode cX3_readPiece 90 = .ok (.aload_n 0, 1) := by decide +kernel
theorem dX3_readPiece_91 : decode cX3_readPiece 91 = .ok (.getfield 28, 3) := by decide +kernel
theorem dX3_readPiece_94 : decode cX3_readPiece 94 = .ok (.iconst 0, 1) := by decide +kernel
theorem dX3_readPiece_95 : decode cX3_readPiece 95 = .ok (.iaload, 1) := by decide +kernel
theorem dX3_readPiece_96 : decode cX3_readPiece 96 = .ok (.aload_n 0, 1) := by decide +kernel
theorem dX3_readPiece_97 : decode cX3_readPiece 97 = .ok (.getfield 28, 3) := by decide +kernel
theorem dX3_readPiece_100 : decode cX3_readPiece 100 = .ok (.iconst 1, 1) := by decide +kernel
theorem dX3_readPiece_101 : decode cX3_readPiece 101 = .ok (.iaload, 1) := by decide +kernel
theorem dX3_readPiece_102 : decode cX3_readPiece 102 = .ok (.aload_n 0, 1) := by decide +kernel
theorem dX3_readPiece_103 : decode cX3_readPiece 103 = .ok (.getfield 28, 3) := by decide +kernel
theorem dX3_readPiece_106 : decode cX3_readPiece 106 = .ok (.iconst 2, 1) := by decide +kernel
theorem dX3_readPiece_107 : decode cX3_readPiece 107 = .ok (.iaload, 1) := by decide +kernel
theorem dX3_readPiece_108 : decode cX3_readPiece 108 = .ok (.invokestatic 59, 3) := by decide +kernel
theorem dX3_readPiece_111 : decode cX3_readPiece 111 = .ok (.ifCond .ne 10, 3) := by decide +kernel
theorem dX3_readPiece_114 : decode cX3_readPiece 114 = .ok (.aload_n 0, 1) := by decide +kernel
theorem dX3_readPiece_115 : decode cX3_readPiece 115 = .ok (.iload_n 3, 1) := by decide +kernel
theorem dX3_readPiece_116 : decode cX3_readPiece 116 = .ok (.putfield 32, 3) := by decide +kernel
theorem dX3_readPiece_119 : decode cX3_readPiece 119 = .ok (.iconst 0, 1) := by decide +kernel
theorem dX3_readPiece_120 : decode cX3_readPiece 120 = .ok (.ireturn, 1) := by decide +kernel
theorem dX3_readPiece_121 : decode cX3_readPiece 121 = .ok (.aload_n 0, 1) := by decide +kernel
theorem dX3_readPiece_122 : decode cX3_readPiece 122 = .ok (.getfield 21, 3) := by decide +kernel
theorem dX3_readPiece_125 : decode cX3_readPiece 125 = .ok (.iload_n 1, 1) := by decide +kernel
theorem dX3_readPiece_126 : decode cX3_readPiece 126 = .ok (.aaload, 1) := by decide +kernel
theorem dX3_readPiece_127 : decode cX3_readPiece 127 = .ok (.iload_n 2, 1) := by decide +kernel
theorem dX3_readPiece_128 : decode cX3_readPiece 128 = .ok (.aload_n 0, 1) := by decide +kernel
theorem dX3_readPiece_129 : decode cX3_readPiece 129 = .ok (.getfield 28, 3) := by decide +kernel
theorem dX3_readPiece_132 : decode cX3_readPiece 132 = .ok (.iconst 0, 1) := by decide +kernel
theorem dX3_readPiece_133 : decode cX3_readPiece 133 = .ok (.iaload, 1) := by decide +kernel
theorem dX3_readPiece_134 : decode cX3_readPiece 134 = .ok (.aload_n 0, 1) := by decide +kernel
theorem dX3_readPiece_135 : decode cX3_readPiece 135 = .ok (.getfield 28, 3) := by decide +kernel
theorem dX3_readPiece_138 : decode cX3_readPiece 138 = .ok (.iconst 1, 1) := by decide +kernel
theorem dX3_readPiece_139 : decode cX3_readPiece 139 = .ok (.iaload, 1) := by decide +kernel
theorem dX3_readPiece_140 : decode cX3_readPiece 140 = .ok (.aload_n 0, 1) := by decide +kernel
theorem dX3_readPiece_141 : decode cX3_readPiece 141 = .ok (.getfield 28, 3) := by decide +kernel
theorem dX3_readPiece_144 : decode cX3_readPiece 144 = .ok (.iconst 2, 1) := by decide +kernel
theorem dX3_readPiece_145 : decode cX3_readPiece 145 = .ok (.iaload, 1) := by decide +kernel
theorem dX3_readPiece_146 : decode cX3_readPiece 146 = .ok (.invokevirtual 63, 3) := by decide +kernel
theorem dX3_readPiece_149 : decode cX3_readPiece 149 = .ok (.iconst 1, 1) := by decide +kernel
theorem dX3_readPiece_150 : decode cX3_readPiece 150 = .ok (.ireturn, 1) := by decide +kernel
theorem dX3_readNumber_0 : decode cX3_readNumber 0 = .ok (.aload_n 0, 1) := by decide +kernel
theorem dX3_readNumber_1 : decode cX3_readNumber 1 = .ok (.bipush 45, 2) := by decide +kernel
theorem dX3_readNumber_3 : decode cX3_readNumber 3 = .ok (.invokevirtual 44, 3) := by decide +kernel
theorem dX3_readNumber_6 : decode cX3_readNumber 6 = .ok (.istore_n 2, 1) := by decide +kernel
theorem dX3_readNumber_7 : decode cX3_readNumber 7 = .ok (.aload_n 0, 1) := by decide +kernel
theorem dX3_readNumber_8 : decode cX3_readNumber 8 = .ok (.invokevirtual 36, 3) := by decide +kernel
theorem dX3_readNumber_11 : decode cX3_readNumber 11 = .ok (.ifCond .ne 10, 3) := by decide +kernel
theorem dX3_readNumber_14 : decode cX3_readNumber 14 = .ok (.aload_n 0, 1) := by decide +kernel
theorem dX3_readNumber_15 : decode cX3_readNumber 15 = .ok (.invokevirtual 67, 3) := by decide +kernel
theorem dX3_readNumber_18 : decode cX3_readNumber 18 = .ok (.ifCond .ne 5, 3) := by decide +kernel
theorem dX3_readNumber_21 : decode cX3_readNumber 21 = .ok (.iconst 0, 1) := by decide +kernel
theorem dX3_readNumber_22 : decode cX3_readNumber 22 = .ok (.ireturn, 1) := by decide +kernel
theorem dX3_readNumber_23 : decode cX3_readNumber 23 = .ok (.iconst 0, 1) := by decide +kernel
theorem dX3_readNumber_24 : decode cX3_readNumber 24 = .ok (.istore_n 3, 1) := by decide +kernel
theorem dX3_readNumber_25 : decode cX3_readNumber 25 = .ok (.iconst 0, 1) := by decide +kernel
theorem dX3_readNumber_26 : decode cX3_readNumber 26 = .ok (.istore 4, 2) := by decide +kernel
theorem dX3_readNumber_28 : decode cX3_readNumber 28 = .ok (.iload 4, 2) := by decide +kernel
theorem dX3_readNumber_30 : decode cX3_readNumber 30 = .ok (.iconst 2, 1) := by decide +kernel
theorem dX3_readNumber_31 : decode cX3_readNumber 31 = .ok (.if_icmp .ge 44, 3) := by decide +kernel
theorem dX3_readNumber_34 : decode cX3_readNumber 34 = .ok (.aload_n 0, 1) := by decide +kernel
theorem dX3_readNumber_35 : decode cX3_readNumber 35 = .ok (.invokevirtual 67, 3) := by decide +kernel
theorem dX3_readNumber_38 : decode cX3_readNumber 38 = .ok (.ifCond .eq 37, 3) := by decide +kernel
theorem dX3_readNumber_41 : decode cX3_readNumber 41 = .ok (.bipush 10, 2) := by decide +kernel
theorem dX3_readNumber_43 : decode cX3_readNumber 43 = .ok (.iload_n 3, 1) := by decide +kernel
theorem dX3_readNumber_44 : decode cX3_readNumber 44 = .ok (.imul, 1) := by decide +kernel
theorem dX3_readNumber_45 : decode cX3_readNumber 45 = .ok (.aload_n 0, 1) := by decide +kernel
theorem dX3_readNumber_46 : decode cX3_readNumber 46 = .ok (.getfield 9, 3) := by decide +kernel
theorem dX3_readNumber_49 : decode cX3_readNumber 49 = .ok (.aload_n 0, 1) := by decide +kernel
theorem dX3_readNumber_50 : decode cX3_readNumber 50 = .ok (.getfield 32, 3) := by decide +kernel
theorem dX3_readNumber_53 : decode cX3_readNumber 53 = .ok (.caload, 1) := by decide +kernel
theorem dX3_readNumber_54 : decode cX3_readNumber 54 = .ok (.bipush 48, 2) := by decide +kernel
theorem dX3_readNumber_56 : decode cX3_readNumber 56 = .ok (.isub, 1) := by decide +kernel
theorem dX3_readNumber_57 : decode cX3_readNumber 57 = .ok (.iadd, 1) := by decide +kernel
theorem dX3_readNumber_58 : decode cX3_readNumber 58 = .ok (.istore_n 3, 1) := by decide +kernel
theorem dX3_readNumber_59 : decode cX3_readNumber 59 = .ok (.aload_n 0, 1) := by decide +kernel
theorem dX3_readNumber_60 : decode cX3_readNumber 60 = .ok (.dup, 1) := by decide +kernel
theorem dX3_readNumber_61 : decode cX3_readNumber 61 = .ok (.getfield 32, 3) := by decide +kernel
theorem dX3_readNumber_64 : decode cX3_readNumber 64 = .ok (.iconst 1, 1) := by decide +kernel
theorem dX3_readNumber_65 : decode cX3_readNumber 65 = .ok (.iadd, 1) := by decide +kernel
theorem dX3_readNumber_66 : decode cX3_readNumber 66 = .ok (.putfield 32, 3) := by decide +kernel
theorem dX3_readNumber_69 : decode cX3_readNumber 69 = .ok (.iinc 4 1, 3) := by decide +kernel
theorem dX3_readNumber_72 : decode cX3_readNumber 72 = .ok (.goto (-44), 3) := by decide +kernel
theorem dX3_readNumber_75 : decode cX3_readNumber 75 = .ok (.aload_n 0, 1) := by decide +kernel
theorem dX3_readNumber_76 : decode cX3_readNumber 76 = .ok (.invokevirtual 67, 3) := by decide +kernel
theorem dX3_readNumber_79 : decode cX3_readNumber 79 = .ok (.ifCond .eq 5, 3) := by decide +kernel
theorem dX3_readNumber_82 : decode cX3_readNumber 82 = .ok (.iconst 0, 1) := by decide +kernel
theorem dX3_readNumber_83 : decode cX3_readNumber 83 = .ok (.ireturn, 1) := by decide +kernel
theorem dX3_readNumber_84 : decode cX3_readNumber 84 = .ok (.aload_n 0, 1) := by decide +kernel
theorem dX3_readNumber_85 : decode cX3_readNumber 85 = .ok (.getfield 28, 3) := by decide +kernel
theorem dX3_readNumber_88 : decode cX3_readNumber 88 = .ok (.iload_n 1, 1) := by decide +kernel
theorem dX3_readNumber_89 : decode cX3_readNumber 89 = .ok (.iload_n 2, 1) := by decide +kernel
theorem dX3_readNumber_90 : decode cX3_readNumber 90 = .ok (.ifCond .eq 8, 3) := by decide +kernel
theorem dX3_readNumber_93 : decode cX3_readNumber 93 = .ok (.iload_n 3, 1) := by decide +kernel
theorem dX3_readNumber_94 : decode cX3_readNumber 94 = .ok (.ineg, 1) := by decide +kernel
theorem dX3_readNumber_95 : decode cX3_readNumber 95 = .ok (.goto 4, 3) := by decide +kernel
theorem dX3_readNumber_98 : decode cX3_readNumber 98 = .ok (.iload_n 3, 1) := by decide +kernel
theorem dX3_readNumber_99 : decode cX3_readNumber 99 = .ok (.iastore, 1) := by decide +kernel
theorem dX3_readNumber_100 : decode cX3_readNumber 100 = .ok (.iconst 1, 1) := by decide +kernel
theorem dX3_readNumber_101 : decode cX3_readNumber 101 = .ok (.ireturn, 1) := by decide +kernel
theorem dX3_digitIsNext_0 : decode cX3_digitIsNext 0 = .ok (.aload_n 0, 1) := by decide +kernel
theorem dX3_digitIsNext_1 : decode cX3_digitIsNext 1 = .ok (.getfield 32, 3) := by decide +kernel
theorem dX3_digitIsNext_4 : decode cX3_digitIsNext 4 = .ok (.aload_n 0, 1) := by decide +kernel
theorem dX3_digitIsNext_5 : decode cX3_digitIsNext 5 = .ok (.getfield 15, 3) := by decide +kernel
theorem dX3_digitIsNext_8 : decode cX3_digitIsNext 8 = .ok (.if_icmp .ge 35, 3) := by decide +kernel
theorem dX3_digitIsNext_11 : decode cX3_digitIsNext 11 = .ok (.aload_n 0, 1) := by decide +kernel
theorem dX3_digitIsNext_12 : decode cX3_digitIsNext 12 = .ok (.getfield 9, 3) := by decide +kernel
theorem dX3_digitIsNext_15 : decode cX3_digitIsNext 15 = .ok (.aload_n 0, 1) := by decide +kernel
theorem dX3_digitIsNext_16 : decode cX3_digitIsNext 16 = .ok (.getfield 32, 3) := by decide +kernel
theorem dX3_digitIsNext_19 : decode cX3_digitIsNext 19 = .ok (.caload, 1) := by decide +kernel
theorem dX3_digitIsNext_20 : decode cX3_digitIsNext 20 = .ok (.bipush 48, 2) := by decide +kernel
theorem dX3_digitIsNext_22 : decode cX3_digitIsNext 22 = .ok (.if_icmp .lt 21, 3) := by decide +kernel
theorem dX3_digitIsNext_25 : decode cX3_digitIsNext 25 = .ok (.aload_n 0, 1) := by decide +kernel
theorem dX3_digitIsNext_26 : decode cX3_digitIsNext 26 = .ok (.getfield 9, 3) := by decide +kernel
theorem dX3_digitIsNext_29 : decode cX3_digitIsNext 29 = .ok (.aload_n 0, 1) := by decide +kernel
theorem dX3_digitIsNext_30 : decode cX3_digitIsNext 30 = .ok (.getfield 32, 3) := by decide +kernel
theorem dX3_digitIsNext_33 : decode cX3_digitIsNext 33 = .ok (.caload, 1) := by decide +kernel
theorem dX3_digitIsNext_34 : decode cX3_digitIsNext 34 = .ok (.bipush 57, 2) := by decide +kernel
theorem dX3_digitIsNext_36 : decode cX3_digitIsNext 36 = .ok (.if_icmp .gt 7, 3) := by decide +kernel
theorem dX3_digitIsNext_39 : decode cX3_digitIsNext 39 = .ok (.iconst 1, 1) := by decide +kernel
theorem dX3_digitIsNext_40 : decode cX3_digitIsNext 40 = .ok (.goto 4, 3) := by decide +kernel
theorem dX3_digitIsNext_43 : decode cX3_digitIsNext 43 = .ok (.iconst 0, 1) := by decide +kernel
theorem dX3_digitIsNext_44 : decode cX3_digitIsNext 44 = .ok (.ireturn, 1) := by decide +kernel
theorem dX3_readSign_0 : decode cX3_readSign 0 = .ok (.aload_n 0, 1) := by decide +kernel
theorem dX3_readSign_1 : decode cX3_readSign 1 = .ok (.invokevirtual 36, 3) := by decide +kernel
theorem dX3_readSign_4 : decode cX3_readSign 4 = .ok (.ifCond .ne 16, 3) := by decide +kernel
theorem dX3_readSign_7 : decode cX3_readSign 7 = .ok (.aload_n 0, 1) := by decide +kernel
theorem dX3_readSign_8 : decode cX3_readSign 8 = .ok (.getfield 9, 3) := by decide +kernel
theorem dX3_readSign_11 : decode cX3_readSign 11 = .ok (.aload_n 0, 1) := by decide +kernel
theorem dX3_readSign_12 : decode cX3_readSign 12 = .ok (.getfield 32, 3) := by decide +kernel
theorem dX3_readSign_15 : decode cX3_readSign 15 = .ok (.caload, 1) := by decide +kernel
theorem dX3_readSign_16 : decode cX3_readSign 16 = .ok (.iload_n 1, 1) := by decide +kernel
theorem dX3_readSign_17 : decode cX3_readSign 17 = .ok (.if_icmp .eq 5, 3) := by decide +kernel
theorem dX3_readSign_20 : decode cX3_readSign 20 = .ok (.iconst 0, 1) := by decide +kernel
theorem dX3_readSign_21 : decode cX3_readSign 21 = .ok (.ireturn, 1) := by decide +kernel
theorem dX3_readSign_22 : decode cX3_readSign 22 = .ok (.aload_n 0, 1) := by decide +kernel
theorem dX3_readSign_23 : decode cX3_readSign 23 = .ok (.dup, 1) := by decide +kernel
theorem dX3_readSign_24 : decode cX3_readSign 24 = .ok (.getfield 32, 3) := by decide +kernel
theorem dX3_readSign_27 : decode cX3_readSign 27 = .ok (.iconst 1, 1) := by decide +kernel
theorem dX3_readSign_28 : decode cX3_readSign 28 = .ok (.iadd, 1) := by decide +kernel
theorem dX3_readSign_29 : decode cX3_readSign 29 = .ok (.putfield 32, 3) := by decide +kernel
theorem dX3_readSign_32 : decode cX3_readSign 32 = .ok (.iconst 1, 1) := by decide +kernel
theorem dX3_readSign_33 : decode cX3_readSign 33 = .ok (.ireturn, 1) := by decide +kernel
theorem dX3_atEnd_0 : decode cX3_atEnd 0 = .ok (.aload_n 0, 1) := by decide +kernel
theorem dX3_atEnd_1 : decode cX3_atEnd 1 = .ok (.getfield 32, 3) := by decide +kernel
theorem dX3_atEnd_4 : decode cX3_atEnd 4 = .ok (.aload_n 0, 1) := by decide +kernel
theorem dX3_atEnd_5 : decode cX3_atEnd 5 = .ok (.getfield 15, 3) := by decide +kernel
theorem dX3_atEnd_8 : decode cX3_atEnd 8 = .ok (.if_icmp .ge 30, 3) := by decide +kernel
theorem dX3_atEnd_11 : decode cX3_atEnd 11 = .ok (.aload_n 0, 1) := by decide +kernel
theorem dX3_atEnd_12 : decode cX3_atEnd 12 = .ok (.getfield 9, 3) := by decide +kernel
theorem dX3_atEnd_15 : decode cX3_atEnd 15 = .ok (.aload_n 0, 1) := by decide +kernel
theorem dX3_atEnd_16 : decode cX3_atEnd 16 = .ok (.getfield 32, 3) := by decide +kernel
theorem dX3_atEnd_19 : decode cX3_atEnd 19 = .ok (.caload, 1) := by decide +kernel
theorem dX3_atEnd_20 : decode cX3_atEnd 20 = .ok (.bipush 32, 2) := by decide +kernel
theorem dX3_atEnd_22 : decode cX3_atEnd 22 = .ok (.if_icmp .ne 16, 3) := by decide +kernel
theorem dX3_atEnd_25 : decode cX3_atEnd 25 = .ok (.aload_n 0, 1) := by decide +kernel
theorem dX3_atEnd_26 : decode cX3_atEnd 26 = .ok (.dup, 1) := by decide +kernel
theorem dX3_atEnd_27 : decode cX3_atEnd 27 = .ok (.getfield 32, 3) := by decide +kernel
theorem dX3_atEnd_30 : decode cX3_atEnd 30 = .ok (.iconst 1, 1) := by decide +kernel
theorem dX3_atEnd_31 : decode cX3_atEnd 31 = .ok (.iadd, 1) := by decide +kernel
theorem dX3_atEnd_32 : decode cX3_atEnd 32 = .ok (.putfield 32, 3) := by decide +kernel
theorem dX3_atEnd_35 : decode cX3_atEnd 35 = .ok (.goto (-35), 3) := by decide +kernel
theorem dX3_atEnd_38 : decode cX3_atEnd 38 = .ok (.aload_n 0, 1) := by decide +kernel
theorem dX3_atEnd_39 : decode cX3_atEnd 39 = .ok (.getfield 32, 3) := by decide +kernel
theorem dX3_atEnd_42 : decode cX3_atEnd 42 = .ok (.aload_n 0, 1) := by decide +kernel
theorem dX3_atEnd_43 : decode cX3_atEnd 43 = .ok (.getfield 15, 3) := by decide +kernel
theorem dX3_atEnd_46 : decode cX3_atEnd 46 = .ok (.if_icmp .lt 7, 3) := by decide +kernel
theorem dX3_atEnd_49 : decode cX3_atEnd 49 = .ok (.iconst 1, 1) := by decide +kernel
theorem dX3_atEnd_50 : decode cX3_atEnd 50 = .ok (.goto 4, 3) := by decide +kernel
theorem dX3_atEnd_53 : decode cX3_atEnd 53 = .ok (.iconst 0, 1) := by decide +kernel
theorem dX3_atEnd_54 : decode cX3_atEnd 54 = .ok (.ireturn, 1) := by decide +kernel
theorem dX4_init_0 : decode cX4_init 0 = .ok (.aload_n 0, 1) := by decide +kernel
theorem dX4_init_1 : decode cX4_init 1 = .ok (.invokespecial 3, 3) := by decide +kernel
theorem dX4_init_4 : decode cX4_init 4 = .ok (.aload_n 0, 1) := by decide +kernel
theorem dX4_init_5 : decode cX4_init 5 = .ok (.bipush 24, 2) := by decide +kernel
theorem dX4_init_7 : decode cX4_init 7 = .ok (.newarray .long, 2) := by decide +kernel
theorem dX4_init_9 : decode cX4_init 9 = .ok (.putfield 9, 3) := by decide +kernel
theorem dX4_init_12 : decode cX4_init 12 = .ok (.aload_n 0, 1) := by decide +kernel
theorem dX4_init_13 : decode cX4_init 13 = .ok (.iconst 0, 1) := by decide +kernel
theorem dX4_init_14 : decode cX4_init 14 = .ok (.putfield 15, 3) := by decide +kernel
theorem dX4_init_17 : decode cX4_init 17 = .ok (.aload_n 0, 1) := by decide +kernel
theorem dX4_init_18 : decode cX4_init 18 = .ok (.iconst 0, 1) := by decide +kernel
theorem dX4_init_19 : decode cX4_init 19 = .ok (.putfield 19, 3) := by decide +kernel
theorem dX4_init_22 : decode cX4_init 22 = .ok (.aload_n 0, 1) := by decide +kernel
theorem dX4_init_23 : decode cX4_init 23 = .ok (.iconst 0, 1) := by decide +kernel
theorem dX4_init_24 : decode cX4_init 24 = .ok (.putfield 23, 3) := by decide +kernel
theorem dX4_init_27 : decode cX4_init 27 = .ok (.return_, 1) := by decide +kernel
theorem dX4_renew_0 : decode cX4_renew 0 = .ok (.iconst 0, 1) := by decide +kernel
theorem dX4_renew_1 : decode cX4_renew 1 = .ok (.istore_n 3, 1) := by decide +kernel
theorem dX4_renew_2 : decode cX4_renew 2 = .ok (.iload_n 3, 1) := by decide +kernel
theorem dX4_renew_3 : decode cX4_renew 3 = .ok (.bipush 24, 2) := by decide +kernel
theorem dX4_renew_5 : decode cX4_renew 5 = .ok (.if_icmp .ge 16, 3) := by decide +kernel
theorem dX4_renew_8 : decode cX4_renew 8 = .ok (.aload_n 0, 1) := by decide +kernel
theorem dX4_renew_9 : decode cX4_renew 9 = .ok (.getfield 9, 3) := by decide +kernel
theorem dX4_renew_12 : decode cX4_renew 12 = .ok (.iload_n 3, 1) := by decide +kernel
theorem dX4_renew_13 : decode cX4_renew 13 = .ok (.lconst 0, 1) := by decide +kernel
theorem dX4_renew_14 : decode cX4_renew 14 = .ok (.lastore, 1) := by decide +kernel
theorem dX4_renew_15 : decode cX4_renew 15 = .ok (.iinc 3 1, 3) := by decide +kernel
theorem dX4_renew_18 : decode cX4_renew 18 = .ok (.goto (-16), 3) := by decide +kernel
theorem dX4_renew_21 : decode cX4_renew 21 = .ok (.aload_n 0, 1) := by decide +kernel
theorem dX4_renew_22 : decode cX4_renew 22 = .ok (.iconst 1, 1) := by decide +kernel
theorem dX4_renew_23 : decode cX4_renew 23 = .ok (.putfield 15, 3) := by decide +kernel
theorem dX4_renew_26 : decode cX4_renew 26 = .ok (.aload_n 0, 1) := by decide +kernel
theorem dX4_renew_27 : decode cX4_renew 27 = .ok (.iload_n 1, 1) := by decide +kernel
theorem dX4_renew_28 : decode cX4_renew 28 = .ok (.putfield 19, 3) := by decide +kernel
theorem dX4_renew_31 : decode cX4_renew 31 = .ok (.aload_n 0, 1) := by decide +kernel
theorem dX4_renew_32 : decode cX4_renew 32 = .ok (.iload_n 2, 1) := by decide +kernel
theorem dX4_renew_33 : decode cX4_renew 33 = .ok (.putfield 23, 3) := by decide +kernel
theorem dX4_renew_36 : decode cX4_renew 36 = .ok (.return_, 1) := by decide +kernel
theorem dX4_refusal_0 : decode cX4_refusal 0 = .ok (.aload_n 0, 1) := by decide +kernel
theorem dX4_refusal_1 : decode cX4_refusal 1 = .ok (.getfield 15, 3) := by decide +kernel
theorem dX4_refusal_4 : decode cX4_refusal 4 = .ok (.ifCond .ne 6, 3) := by decide +kernel
theorem dX4_refusal_7 : decode cX4_refusal 7 = .ok (.ldc 26, 2) := by decide +kernel
theorem dX4_refusal_9 : decode cX4_refusal 9 = .ok (.ireturn, 1) := by decide +kernel
theorem dX4_refusal_10 : decode cX4_refusal 10 = .ok (.aload_n 0, 1) := by decide +kernel
theorem dX4_refusal_11 : decode cX4_refusal 11 = .ok (.getfield 19, 3) := by decide +kernel
theorem dX4_refusal_14 : decode cX4_refusal 14 = .ok (.iload_n 1, 1) := by decide +kernel
theorem dX4_refusal_15 : decode cX4_refusal 15 = .ok (.if_icmp .eq 6, 3) := by decide +kernel
theorem dX4_refusal_18 : decode cX4_refusal 18 = .ok (.ldc 27, 2) := by decide +kernel
theorem dX4_refusal_20 : decode cX4_refusal 20 = .ok (.ireturn, 1) := by decide +kernel
theorem dX4_refusal_21 : decode cX4_refusal 21 = .ok (.aload_n 0, 1) := by decide +kernel
theorem dX4_refusal_22 : decode cX4_refusal 22 = .ok (.iload_n 2, 1) := by decide +kernel
theorem dX4_refusal_23 : decode cX4_refusal 23 = .ok (.iload_n 3, 1) := by decide +kernel
theorem dX4_refusal_24 : decode cX4_refusal 24 = .ok (.invokevirtual 28, 3) := by decide +kernel
theorem dX4_refusal_27 : decode cX4_refusal 27 = .ok (.ifCond .eq 7, 3) := by decide +kernel
theorem dX4_refusal_30 : decode cX4_refusal 30 = .ok (.iconst 0, 1) := by decide +kernel
theorem dX4_refusal_31 : decode cX4_refusal 31 = .ok (.goto 5, 3) := by decide +kernel
theorem dX4_refusal_34 : decode cX4_refusal 34 = .ok (.ldc 32, 2) := by decide +kernel
theorem dX4_refusal_36 : decode cX4_refusal 36 = .ok (.ireturn, 1) := by decide +kernel
theorem dX4_holds_0 : decode cX4_holds 0 = .ok (.iload_n 2, 1) := by decide +kernel
theorem dX4_holds_1 : decode cX4_holds 1 = .ok (.ifCond .lt 21, 3) := by decide +kernel
theorem dX4_holds_4 : decode cX4_holds 4 = .ok (.iload_n 1, 1) := by decide +kernel
theorem dX4_holds_5 : decode cX4_holds 5 = .ok (.ifCond .lt 17, 3) := by decide +kernel
theorem dX4_holds_8 : decode cX4_holds 8 = .ok (.iload_n 1, 1) := by decide +kernel
theorem dX4_holds_9 : decode cX4_holds 9 = .ok (.aload_n 0, 1) := by decide +kernel
theorem dX4_holds_10 : decode cX4_holds 10 = .ok (.getfield 23, 3) := by decide +kernel
theorem dX4_holds_13 : decode cX4_holds 13 = .ok (.iload_n 2, 1) := by decide +kernel
theorem dX4_holds_14 : decode cX4_holds 14 = .ok (.isub, 1) := by decide +kernel
theorem dX4_holds_15 : decode cX4_holds 15 = .ok (.if_icmp .gt 7, 3) := by decide +kernel
theorem dX4_holds_18 : decode cX4_holds 18 = .ok (.iconst 1, 1) := by decide +kernel
theorem dX4_holds_19 : decode cX4_holds 19 = .ok (.goto 4, 3) := by decide +kernel
theorem dX4_holds_22 : decode cX4_holds 22 = .ok (.iconst 0, 1) := by decide +kernel
theorem dX4_holds_23 : decode cX4_holds 23 = .ok (.ireturn, 1) := by decide +kernel
theorem dX4_get_0 : decode cX4_get 0 = .ok (.iload_n 1, 1) := by decide +kernel
theorem dX4_get_1 : decode cX4_get 1 = .ok (.ifCond .lt 20, 3) := by decide +kernel
theorem dX4_get_4 : decode cX4_get 4 = .ok (.iload_n 1, 1) := by decide +kernel
theorem dX4_get_5 : decode cX4_get 5 = .ok (.aload_n 0, 1) := by decide +kernel
theorem dX4_get_6 : decode cX4_get 6 = .ok (.getfield 23, 3) := by decide +kernel
theorem dX4_get_9 : decode cX4_get 9 = .ok (.if_icmp .ge 12, 3) := by decide +kernel
theorem dX4_get_12 : decode cX4_get 12 = .ok (.aload_n 0, 1) := by decide +kernel
theorem dX4_get_13 : decode cX4_get 13 = .ok (.getfield 9, 3) := by decide +kernel
theorem dX4_get_16 : decode cX4_get 16 = .ok (.iload_n 1, 1) := by decide +kernel
theorem dX4_get_17 : decode cX4_get 17 = .ok (.laload, 1) := by decide +kernel
theorem dX4_get_18 : decode cX4_get 18 = .ok (.goto 4, 3) := by decide +kernel
theorem dX4_get_21 : decode cX4_get 21 = .ok (.lconst 0, 1) := by decide +kernel
theorem dX4_get_22 : decode cX4_get 22 = .ok (.lreturn, 1) := by decide +kernel
theorem dX4_put_0 : decode cX4_put 0 = .ok (.iload_n 1, 1) := by decide +kernel
theorem dX4_put_1 : decode cX4_put 1 = .ok (.ifCond .lt 22, 3) := by decide +kernel
theorem dX4_put_4 : decode cX4_put 4 = .ok (.iload_n 1, 1) := by decide +kernel
theorem dX4_put_5 : decode cX4_put 5 = .ok (.aload_n 0, 1) := by decide +kernel
theorem dX4_put_6 : decode cX4_put 6 = .ok (.getfield 23, 3) := by decide +kernel
theorem dX4_put_9 : decode cX4_put 9 = .ok (.if_icmp .ge 14, 3) := by decide +kernel
theorem dX4_put_12 : decode cX4_put 12 = .ok (.aload_n 0, 1) := by decide +kernel
theorem dX4_put_13 : decode cX4_put 13 = .ok (.getfield 9, 3) := by decide +kernel
theorem dX4_put_16 : decode cX4_put 16 = .ok (.iload_n 1, 1) := by decide +kernel
theorem dX4_put_17 : decode cX4_put 17 = .ok (.aload_n 0, 1) := by decide +kernel
theorem dX4_put_18 : decode cX4_put 18 = .ok (.lload_n 2, 1) := by decide +kernel
theorem dX4_put_19 : decode cX4_put 19 = .ok (.invokevirtual 33, 3) := by decide +kernel
theorem dX4_put_22 : decode cX4_put 22 = .ok (.lastore, 1) := by decide +kernel
theorem dX4_put_23 : decode cX4_put 23 = .ok (.return_, 1) := by decide +kernel
theorem dX4_lowestBits_0 : decode cX4_lowestBits 0 = .ok (.aload_n 0, 1) := by decide +kernel
theorem dX4_lowestBits_1 : decode cX4_lowestBits 1 = .ok (.getfield 19, 3) := by decide +kernel
theorem dX4_lowestBits_4 : decode cX4_lowestBits 4 = .ok (.tableswitch 42 0 2 #[28, 33, 38], 28) := by decide +kernel
theorem dX4_lowestBits_32 : decode cX4_lowestBits 32 = .ok (.lload_n 1, 1) := by decide +kernel
theorem dX4_lowestBits_33 : decode cX4_lowestBits 33 = .ok (.l2i, 1) := by decide +kernel
theorem dX4_lowestBits_34 : decode cX4_lowestBits 34 = .ok (.i2b, 1) := by decide +kernel
theorem dX4_lowestBits_35 : decode cX4_lowestBits 35 = .ok (.i2l, 1) := by decide +kernel
theorem dX4_lowestBits_36 : decode cX4_lowestBits 36 = .ok (.lreturn, 1) := by decide +kernel
theorem dX4_lowestBits_37 : decode cX4_lowestBits 37 = .ok (.lload_n 1, 1) := by decide +kernel
theorem dX4_lowestBits_38 : decode cX4_lowestBits 38 = .ok (.l2i, 1) := by decide +kernel
theorem dX4_lowestBits_39 : decode cX4_lowestBits 39 = .ok (.i2s, 1) := by decide +kernel
theorem dX4_lowestBits_40 : decode cX4_lowestBits 40 = .ok (.i2l, 1) := by decide +kernel
theorem dX4_lowestBits_41 : decode cX4_lowestBits 41 = .ok (.lreturn, 1) := by decide +kernel
theorem dX4_lowestBits_42 : decode cX4_lowestBits 42 = .ok (.lload_n 1, 1) := by decide +kernel
theorem dX4_lowestBits_43 : decode cX4_lowestBits 43 = .ok (.l2i, 1) := by decide +kernel
theorem dX4_lowestBits_44 : decode cX4_lowestBits 44 = .ok (.i2l, 1) := by decide +kernel
theorem dX4_lowestBits_45 : decode cX4_lowestBits 45 = .ok (.lreturn, 1) := by decide +kernel
theorem dX4_lowestBits_46 : decode cX4_lowestBits 46 = .ok (.lload_n 1, 1) := by decide +kernel
theorem dX4_lowestBits_47 : decode cX4_lowestBits 47 = .ok (.lreturn, 1) := by decide +kernel
theorem dX5_init_0 : decode cX5_init 0 = .ok (.aload_n 0, 1) := by decide +kernel
theorem dX5_init_1 : decode cX5_init 1 = .ok (.invokespecial 3, 3) := by decide +kernel
theorem dX5_init_4 : decode cX5_init 4 = .ok (.aload_n 0, 1) := by decide +kernel
theorem dX5_init_5 : decode cX5_init 5 = .ok (.iconst 3, 1) := by decide +kernel
theorem dX5_init_6 : decode cX5_init 6 = .ok (.newarray .int, 2) := by decide +kernel
theorem dX5_init_8 : decode cX5_init 8 = .ok (.putfield 9, 3) := by decide +kernel
theorem dX5_init_11 : decode cX5_init 11 = .ok (.aload_n 0, 1) := by decide +kernel
theorem dX5_init_12 : decode cX5_init 12 = .ok (.bipush 12, 2) := by decide +kernel
theorem dX5_init_14 : decode cX5_init 14 = .ok (.anewarray 15, 3) := by decide +kernel
theorem dX5_init_17 : decode cX5_init 17 = .ok (.putfield 17, 3) := by decide +kernel
theorem dX5_init_20 : decode cX5_init 20 = .ok (.aload_n 0, 1) := by decide +kernel
theorem dX5_init_21 : decode cX5_init 21 = .ok (.iconst 0, 1) := by decide +kernel
theorem dX5_init_22 : decode cX5_init 22 = .ok (.putfield 21, 3) := by decide +kernel
theorem dX5_init_25 : decode cX5_init 25 = .ok (.aload_n 0, 1) := by decide +kernel
theorem dX5_init_26 : decode cX5_init 26 = .ok (.new 15, 3) := by decide +kernel
theorem dX5_init_29 : decode cX5_init 29 = .ok (.dup, 1) := by decide +kernel
theorem dX5_init_30 : decode cX5_init 30 = .ok (.invokespecial 25, 3) := by decide +kernel
theorem dX5_init_33 : decode cX5_init 33 = .ok (.putfield 26, 3) := by decide +kernel
theorem dX5_init_36 : decode cX5_init 36 = .ok (.aload_n 0, 1) := by decide +kernel
theorem dX5_init_37 : decode cX5_init 37 = .ok (.iconst 0, 1) := by decide +kernel
theorem dX5_init_38 : decode cX5_init 38 = .ok (.putfield 30, 3) := by decide +kernel
theorem dX5_init_41 : decode cX5_init 41 = .ok (.aload_n 0, 1) := by decide +kernel
theorem dX5_init_42 : decode cX5_init 42 = .ok (.iconst 0, 1) := by decide +kernel
theorem dX5_init_43 : decode cX5_init 43 = .ok (.putfield 34, 3) := by decide +kernel
theorem dX5_init_46 : decode cX5_init 46 = .ok (.aload_n 0, 1) := by decide +kernel
theorem dX5_init_47 : decode cX5_init 47 = .ok (.iconst 1, 1) := by decide +kernel
theorem dX5_init_48 : decode cX5_init 48 = .ok (.putfield 37, 3) := by decide +kernel
theorem dX5_init_51 : decode cX5_init 51 = .ok (.iconst 0, 1) := by decide +kernel
theorem dX5_init_52 : decode cX5_init 52 = .ok (.istore_n 1, 1) := by decide +kernel
theorem dX5_init_53 : decode cX5_init 53 = .ok (.iload_n 1, 1) := by decide +kernel
theorem dX5_init_54 : decode cX5_init 54 = .ok (.bipush 12, 2) := by decide +kernel
theorem dX5_init_56 : decode cX5_init 56 = .ok (.if_icmp .ge 22, 3) := by decide +kernel
theorem dX5_init_59 : decode cX5_init 59 = .ok (.aload_n 0, 1) := by decide +kernel
theorem dX5_init_60 : decode cX5_init 60 = .ok (.getfield 17, 3) := by decide +kernel
theorem dX5_init_63 : decode cX5_init 63 = .ok (.iload_n 1, 1) := by decide +kernel
theorem dX5_init_64 : decode cX5_init 64 = .ok (.new 15, 3) := by decide +kernel
theorem dX5_init_67 : decode cX5_init 67 = .ok (.dup, 1) := by decide +kernel
theorem dX5_init_68 : decode cX5_init 68 = .ok (.invokespecial 25, 3) := by decide +kernel
theorem dX5_init_71 : decode cX5_init 71 = .ok (.aastore, 1) := by decide +kernel
theorem dX5_init_72 : decode cX5_init 72 = .ok (.iinc 1 1, 3) := by decide +kernel
theorem dX5_init_75 : decode cX5_init 75 = .ok (.goto (-22), 3) := by decide +kernel
theorem dX5_init_78 : decode cX5_init 78 = .ok (.return_, 1) := by decide +kernel
theorem dX5_copyFrom_0 : decode cX5_copyFrom 0 = .ok (.aload_n 1, 1) := by decide +kernel
theorem dX5_copyFrom_1 : decode cX5_copyFrom 1 = .ok (.getfield 9, 3) := by decide +kernel
theorem dX5_copyFrom_4 : decode cX5_copyFrom 4 = .ok (.iconst 0, 1) := by decide +kernel
theorem dX5_copyFrom_5 : decode cX5_copyFrom 5 = .ok (.aload_n 0, 1) := by decide +kernel
theorem dX5_copyFrom_6 : decode cX5_copyFrom 6 = .ok (.getfield 9, 3) := by decide +kernel
theorem dX5_copyFrom_9 : decode cX5_copyFrom 9 = .ok (.iconst 0, 1) := by decide +kernel
theorem dX5_copyFrom_10 : decode cX5_copyFrom 10 = .ok (.iconst 3, 1) := by decide +kernel
theorem dX5_copyFrom_11 : decode cX5_copyFrom 11 = .ok (.invokestatic 40, 3) := by decide +kernel
theorem dX5_copyFrom_14 : decode cX5_copyFrom 14 = .ok (.iconst 0, 1) := by decide +kernel
theorem dX5_copyFrom_15 : decode cX5_copyFrom 15 = .ok (.istore_n 2, 1) := by decide +kernel
theorem dX5_copyFrom_16 : decode cX5_copyFrom 16 = .ok (.iload_n 2, 1) := by decide +kernel
theorem dX5_copyFrom_17 : decode cX5_copyFrom 17 = .ok (.aload_n 1, 1) := by decide +kernel
theorem dX5_copyFrom_18 : decode cX5_copyFrom 18 = .ok (.getfield 21, 3) := by decide +kernel
theorem dX5_copyFrom_21 : decode cX5_copyFrom 21 = .ok (.if_icmp .ge 24, 3) := by decide +kernel
theorem dX5_copyFrom_24 : decode cX5_copyFrom 24 = .ok (.aload_n 0, 1) := by decide +kernel
theorem dX5_copyFrom_25 : decode cX5_copyFrom 25 = .ok (.getfield 17, 3) := by decide +kernel
theorem dX5_copyFrom_28 : decode cX5_copyFrom 28 = .ok (.iload_n 2, 1) := by decide +kernel
theorem dX5_copyFrom_29 : decode cX5_copyFrom 29 = .ok (.aaload, 1) := by decide +kernel
theorem dX5_copyFrom_30 : decode cX5_copyFrom 30 = .ok (.aload_n 1, 1) := by decide +kernel
theorem dX5_copyFrom_31 : decode cX5_copyFrom 31 = .ok (.getfield 17, 3) := by decide +kernel
theorem dX5_copyFrom_34 : decode cX5_copyFrom 34 = .ok (.iload_n 2, 1) := by decide +kernel
theorem dX5_copyFrom_35 : decode cX5_copyFrom 35 = .ok (.aaload, 1) := by decide +kernel
theorem dX5_copyFrom_36 : decode cX5_copyFrom 36 = .ok (.invokevirtual 46, 3) := by decide +kernel
theorem dX5_copyFrom_39 : decode cX5_copyFrom 39 = .ok (.iinc 2 1, 3) := by decide +kernel
theorem dX5_copyFrom_42 : decode cX5_copyFrom 42 = .ok (.goto (-26), 3) := by decide +kernel
theorem dX5_copyFrom_45 : decode cX5_copyFrom 45 = .ok (.aload_n 0, 1) := by decide +kernel
theorem dX5_copyFrom_46 : decode cX5_copyFrom 46 = .ok (.aload_n 1, 1) := by decide +kernel
theorem dX5_copyFrom_47 : decode cX5_copyFrom 47 = .ok (.getfield 21, 3) := by decide +kernel
theorem dX5_copyFrom_50 : decode cX5_copyFrom 50 = .ok (.putfield 21, 3) := by decide +kernel
theorem dX5_copyFrom_53 : decode cX5_copyFrom 53 = .ok (.aload_n 0, 1) := by decide +kernel
theorem dX5_copyFrom_54 : decode cX5_copyFrom 54 = .ok (.getfield 26, 3) := by decide +kernel
theorem dX5_copyFrom_57 : decode cX5_copyFrom 57 = .ok (.aload_n 1, 1) := by decide +kernel
theorem dX5_copyFrom_58 : decode cX5_copyFrom 58 = .ok (.getfield 26, 3) := by decide +kernel
theorem dX5_copyFrom_61 : decode cX5_copyFrom 61 = .ok (.invokevirtual 46, 3) := by decide +kernel
theorem dX5_copyFrom_64 : decode cX5_copyFrom 64 = .ok (.aload_n 0, 1) := by decide +kernel
theorem dX5_copyFrom_65 : decode cX5_copyFrom 65 = .ok (.aload_n 1, 1) := by decide +kernel
theorem dX5_copyFrom_66 : decode cX5_copyFrom 66 = .ok (.getfield 30, 3) := by decide +kernel
theorem dX5_copyFrom_69 : decode cX5_copyFrom 69 = .ok (.putfield 30, 3) := by decide +kernel
theorem dX5_copyFrom_72 : decode cX5_copyFrom 72 = .ok (.aload_n 0, 1) := by decide +kernel
theorem dX5_copyFrom_73 : decode cX5_copyFrom 73 = .ok (.aload_n 1, 1) := by decide +kernel
theorem dX5_copyFrom_74 : decode cX5_copyFrom 74 = .ok (.getfield 34, 3) := by decide +kernel
theorem dX5_copyFrom_77 : decode cX5_copyFrom 77 = .ok (.putfield 34, 3) := by decide +kernel
theorem dX5_copyFrom_80 : decode cX5_copyFrom 80 = .ok (.aload_n 0, 1) := by decide +kernel
theorem dX5_copyFrom_81 : decode cX5_copyFrom 81 = .ok (.aload_n 1, 1) := by decide +kernel
theorem dX5_copyFrom_82 : decode cX5_copyFrom 82 = .ok (.getfield 37, 3) := by decide +kernel
theorem dX5_copyFrom_85 : decode cX5_copyFrom 85 = .ok (.putfield 37, 3) := by decide +kernel
theorem dX5_copyFrom_88 : decode cX5_copyFrom 88 = .ok (.return_, 1) := by decide +kernel
theorem dX5_clear_0 : decode cX5_clear 0 = .ok (.aload_n 0, 1) := by decide +kernel
theorem dX5_clear_1 : decode cX5_clear 1 = .ok (.getfield 9, 3) := by decide +kernel
theorem dX5_clear_4 : decode cX5_clear 4 = .ok (.iconst 0, 1) := by decide +kernel
theorem dX5_clear_5 : decode cX5_clear 5 = .ok (.iconst 0, 1) := by decide +kernel
theorem dX5_clear_6 : decode cX5_clear 6 = .ok (.iastore, 1) := by decide +kernel
theorem dX5_clear_7 : decode cX5_clear 7 = .ok (.aload_n 0, 1) := by decide +kernel
theorem dX5_clear_8 : decode cX5_clear 8 = .ok (.getfield 9, 3) := by decide +kernel
theorem dX5_clear_11 : decode cX5_clear 11 = .ok (.iconst 1, 1) := by decide +kernel
theorem dX5_clear_12 : decode cX5_clear 12 = .ok (.iconst 0, 1) := by decide +kernel
theorem dX5_clear_13 : decode cX5_clear 13 = .ok (.iastore, 1) := by decide +kernel
theorem dX5_clear_14 : decode cX5_clear 14 = .ok (.aload_n 0, 1) := by decide +kernel
theorem dX5_clear_15 : decode cX5_clear 15 = .ok (.getfield 9, 3) := by decide +kernel
theorem dX5_clear_18 : decode cX5_clear 18 = .ok (.iconst 2, 1) := by decide +kernel
theorem dX5_clear_19 : decode cX5_clear 19 = .ok (.iconst 0, 1) := by decide +kernel
theorem dX5_clear_20 : decode cX5_clear 20 = .ok (.iastore, 1) := by decide +kernel
theorem dX5_clear_21 : decode cX5_clear 21 = .ok (.aload_n 0, 1) := by decide +kernel
theorem dX5_clear_22 : decode cX5_clear 22 = .ok (.iconst 0, 1) := by decide +kernel
theorem dX5_clear_23 : decode cX5_clear 23 = .ok (.putfield 21, 3) := by decide +kernel
theorem dX5_clear_26 : decode cX5_clear 26 = .ok (.aload_n 0, 1) := by decide +kernel
theorem dX5_clear_27 : decode cX5_clear 27 = .ok (.iconst 0, 1) := by decide +kernel
theorem dX5_clear_28 : decode cX5_clear 28 = .ok (.putfield 30, 3) := by decide +kernel
theorem dX5_clear_31 : decode cX5_clear 31 = .ok (.aload_n 0, 1) := by decide +kernel
theorem dX5_clear_32 : decode cX5_clear 32 = .ok (.iconst 0, 1) := by decide +kernel
theorem dX5_clear_33 : decode cX5_clear 33 = .ok (.putfield 34, 3) := by decide +kernel
theorem dX5_clear_36 : decode cX5_clear 36 = .ok (.return_, 1) := by decide +kernel
theorem dX5_addLast_0 : decode cX5_addLast 0 = .ok (.aload_n 0, 1) := by decide +kernel
theorem dX5_addLast_1 : decode cX5_addLast 1 = .ok (.getfield 21, 3) := by decide +kernel
theorem dX5_addLast_4 : decode cX5_addLast 4 = .ok (.bipush 12, 2) := by decide +kernel
theorem dX5_addLast_6 : decode cX5_addLast 6 = .ok (.if_icmp .ge 30, 3) := by decide +kernel
theorem dX5_addLast_9 : decode cX5_addLast 9 = .ok (.aload_n 0, 1) := by decide +kernel
theorem dX5_addLast_10 : decode cX5_addLast 10 = .ok (.getfield 17, 3) := by decide +kernel
theorem dX5_addLast_13 : decode cX5_addLast 13 = .ok (.aload_n 0, 1) := by decide +kernel
theorem dX5_addLast_14 : decode cX5_addLast 14 = .ok (.getfield 21, 3) := by decide +kernel
theorem dX5_addLast_17 : decode cX5_addLast 17 = .ok (.aaload, 1) := by decide +kernel
theorem dX5_addLast_18 : decode cX5_addLast 18 = .ok (.iload_n 1, 1) := by decide +kernel
theorem dX5_addLast_19 : decode cX5_addLast 19 = .ok (.iload_n 2, 1) := by decide +kernel
theorem dX5_addLast_20 : decode cX5_addLast 20 = .ok (.iload_n 3, 1) := by decide +kernel
theorem dX5_addLast_21 : decode cX5_addLast 21 = .ok (.iload 4, 2) := by decide +kernel
theorem dX5_addLast_23 : decode cX5_addLast 23 = .ok (.invokevirtual 50, 3) := by decide +kernel
theorem dX5_addLast_26 : decode cX5_addLast 26 = .ok (.aload_n 0, 1) := by decide +kernel
theorem dX5_addLast_27 : decode cX5_addLast 27 = .ok (.dup, 1) := by decide +kernel
theorem dX5_addLast_28 : decode cX5_addLast 28 = .ok (.getfield 21, 3) := by decide +kernel
theorem dX5_addLast_31 : decode cX5_addLast 31 = .ok (.iconst 1, 1) := by decide +kernel
theorem dX5_addLast_32 : decode cX5_addLast 32 = .ok (.iadd, 1) := by decide +kernel
theorem dX5_addLast_33 : decode cX5_addLast 33 = .ok (.putfield 21, 3) := by decide +kernel
theorem dX5_addLast_36 : decode cX5_addLast 36 = .ok (.return_, 1) := by decide +kernel
theorem dX5_addFirst_0 : decode cX5_addFirst 0 = .ok (.aload_n 0, 1) := by decide +kernel
theorem dX5_addFirst_1 : decode cX5_addFirst 1 = .ok (.getfield 21, 3) := by decide +kernel
theorem dX5_addFirst_4 : decode cX5_addFirst 4 = .ok (.bipush 12, 2) := by decide +kernel
theorem dX5_addFirst_6 : decode cX5_addFirst 6 = .ok (.if_icmp .lt 4, 3) := by decide +kernel
theorem dX5_addFirst_9 : decode cX5_addFirst 9 = .ok (.return_, 1) := by decide +kernel
theorem dX5_addFirst_10 : decode cX5_addFirst 10 = .ok (.aload_n 0, 1) := by decide +kernel
theorem dX5_addFirst_11 : decode cX5_addFirst 11 = .ok (.getfield 17, 3) := by decide +kernel
theorem dX5_addFirst_14 : decode cX5_addFirst 14 = .ok (.aload_n 0, 1) := by decide +kernel
theorem dX5_addFirst_15 : decode cX5_addFirst 15 = .ok (.getfield 21, 3) := by decide +kernel
theorem dX5_addFirst_18 : decode cX5_addFirst 18 = .ok (.aaload, 1) := by decide +kernel
theorem dX5_addFirst_19 : decode cX5_addFirst 19 = .ok (.astore 5, 2) := by decide +kernel
theorem dX5_addFirst_21 : decode cX5_addFirst 21 = .ok (.aload_n 0, 1) := by decide +kernel
theorem dX5_addFirst_22 : decode cX5_addFirst 22 = .ok (.getfield 21, 3) := by decide +kernel
theorem dX5_addFirst_25 : decode cX5_addFirst 25 = .ok (.istore 6, 2) := by decide +kernel
theorem dX5_addFirst_27 : decode cX5_addFirst 27 = .ok (.iload 6, 2) := by decide +kernel
theorem dX5_addFirst_29 : decode cX5_addFirst 29 = .ok (.ifCond .le 25, 3) := by decide +kernel
theorem dX5_addFirst_32 : decode cX5_addFirst 32 = .ok (.aload_n 0, 1) := by decide +kernel
theorem dX5_addFirst_33 : decode cX5_addFirst 33 = .ok (.getfield 17, 3) := by decide +kernel
theorem dX5_addFirst_36 : decode cX5_addFirst 36 = .ok (.iload 6, 2) := by decide +kernel
theorem dX5_addFirst_38 : decode cX5_addFirst 38 = .ok (.aload_n 0, 1) := by decide +kernel
theorem dX5_addFirst_39 : decode cX5_addFirst 39 = .ok (.getfield 17, 3) := by decide +kernel
theorem dX5_addFirst_42 : decode cX5_addFirst 42 = .ok (.iload 6, 2) := by decide +kernel
theorem dX5_addFirst_44 : decode cX5_addFirst 44 = .ok (.iconst 1, 1) := by decide +kernel
theorem dX5_addFirst_45 : decode cX5_addFirst 45 = .ok (.isub, 1) := by decide +kernel
theorem dX5_addFirst_46 : decode cX5_addFirst 46 = .ok (.aaload, 1) := by decide +kernel
theorem dX5_addFirst_47 : decode cX5_addFirst 47 = .ok (.aastore, 1) := by decide +kernel
theorem dX5_addFirst_48 : decode cX5_addFirst 48 = .ok (.iinc 6 (-1), 3) := by decide +kernel
theorem dX5_addFirst_51 : decode cX5_addFirst 51 = .ok (.goto (-24), 3) := by decide +kernel
theorem dX5_addFirst_54 : decode cX5_addFirst 54 = .ok (.aload_n 0, 1) := by decide +kernel
theorem dX5_addFirst_55 : decode cX5_addFirst 55 = .ok (.getfield 17, 3) := by decide +kernel
theorem dX5_addFirst_58 : decode cX5_addFirst 58 = .ok (.iconst 0, 1) := by decide +kernel
theorem dX5_addFirst_59 : decode cX5_addFirst 59 = .ok (.aload 5, 2) := by decide +kernel
theorem dX5_addFirst_61 : decode cX5_addFirst 61 = .ok (.aastore, 1) := by decide +kernel
theorem dX5_addFirst_62 : decode cX5_addFirst 62 = .ok (.aload 5, 2) := by decide +kernel
theorem dX5_addFirst_64 : decode cX5_addFirst 64 = .ok (.iload_n 1, 1) := by decide +kernel
theorem dX5_addFirst_65 : decode cX5_addFirst 65 = .ok (.iload_n 2, 1) := by decide +kernel
theorem dX5_addFirst_66 : decode cX5_addFirst 66 = .ok (.iload_n 3, 1) := by decide +kernel
theorem dX5_addFirst_67 : decode cX5_addFirst 67 = .ok (.iload 4, 2) := by decide +kernel
theorem dX5_addFirst_69 : decode cX5_addFirst 69 = .ok (.invokevirtual 50, 3) := by decide +kernel
theorem dX5_addFirst_72 : decode cX5_addFirst 72 = .ok (.aload_n 0, 1) := by decide +kernel
theorem dX5_addFirst_73 : decode cX5_addFirst 73 = .ok (.dup, 1) := by decide +kernel
theorem dX5_addFirst_74 : decode cX5_addFirst 74 = .ok (.getfield 21, 3) := by decide +kernel
theorem dX5_addFirst_77 : decode cX5_addFirst 77 = .ok (.iconst 1, 1) := by decide +kernel
theorem dX5_addFirst_78 : decode cX5_addFirst 78 = .ok (.iadd, 1) := by decide +kernel
theorem dX5_addFirst_79 : decode cX5_addFirst 79 = .ok (.putfield 21, 3) := by decide +kernel
theorem dX5_addFirst_82 : decode cX5_addFirst 82 = .ok (.return_, 1) := by decide +kernel
theorem dX5_removeAt_0 : decode cX5_removeAt 0 = .ok (.iload_n 1, 1) := by decide +kernel
theorem dX5_removeAt_1 : decode cX5_removeAt 1 = .ok (.ifCond .lt 11, 3) := by decide +kernel
theorem dX5_removeAt_4 : decode cX5_removeAt 4 = .ok (.iload_n 1, 1) := by decide +kernel
theorem dX5_removeAt_5 : decode cX5_removeAt 5 = .ok (.aload_n 0, 1) := by decide +kernel
theorem dX5_removeAt_6 : decode cX5_removeAt 6 = .ok (.getfield 21, 3) := by decide +kernel
theorem dX5_removeAt_9 : decode cX5_removeAt 9 = .ok (.if_icmp .lt 4, 3) := by decide +kernel
theorem dX5_removeAt_12 : decode cX5_removeAt 12 = .ok (.return_, 1) := by decide +kernel
theorem dX5_removeAt_13 : decode cX5_removeAt 13 = .ok (.aload_n 0, 1) := by decide +kernel
theorem dX5_removeAt_14 : decode cX5_removeAt 14 = .ok (.getfield 17, 3) := by decide +kernel
theorem dX5_removeAt_17 : decode cX5_removeAt 17 = .ok (.iload_n 1, 1) := by decide +kernel
theorem dX5_removeAt_18 : decode cX5_removeAt 18 = .ok (.aaload, 1) := by decide +kernel
theorem dX5_removeAt_19 : decode cX5_removeAt 19 = .ok (.astore_n 2, 1) := by decide +kernel
theorem dX5_removeAt_20 : decode cX5_removeAt 20 = .ok (.iload_n 1, 1) := by decide +kernel
theorem dX5_removeAt_21 : decode cX5_removeAt 21 = .ok (.istore_n 3, 1) := by decide +kernel
theorem dX5_removeAt_22 : decode cX5_removeAt 22 = .ok (.iload_n 3, 1) := by decide +kernel
theorem dX5_removeAt_23 : decode cX5_removeAt 23 = .ok (.iconst 1, 1) := by decide +kernel
theorem dX5_removeAt_24 : decode cX5_removeAt 24 = .ok (.iadd, 1) := by decide +kernel
theorem dX5_removeAt_25 : decode cX5_removeAt 25 = .ok (.aload_n 0, 1) := by decide +kernel
theorem dX5_removeAt_26 : decode cX5_removeAt 26 = .ok (.getfield 21, 3) := by decide +kernel
theorem dX5_removeAt_29 : decode cX5_removeAt 29 = .ok (.if_icmp .ge 23, 3) := by decide +kernel
theorem dX5_removeAt_32 : decode cX5_removeAt 32 = .ok (.aload_n 0, 1) := by decide +kernel
theorem dX5_removeAt_33 : decode cX5_removeAt 33 = .ok (.getfield 17, 3) := by decide +kernel
theorem dX5_removeAt_36 : decode cX5_removeAt 36 = .ok (.iload_n 3, 1) := by decide +kernel
theorem dX5_removeAt_37 : decode cX5_removeAt 37 = .ok (.aload_n 0, 1) := by decide +kernel
theorem dX5_removeAt_38 : decode cX5_removeAt 38 = .ok (.getfield 17, 3) := by decide +kernel
theorem dX5_removeAt_41 : decode cX5_removeAt 41 = .ok (.iload_n 3, 1) := by decide +kernel
theorem dX5_removeAt_42 : decode cX5_removeAt 42 = .ok (.iconst 1, 1) := by decide +kernel
theorem dX5_removeAt_43 : decode cX5_removeAt 43 = .ok (.iadd, 1) := by decide +kernel
theorem dX5_removeAt_44 : decode cX5_removeAt 44 = .ok (.aaload, 1) := by decide +kernel
theorem dX5_removeAt_45 : decode cX5_removeAt 45 = .ok (.aastore, 1) := by decide +kernel
theorem dX5_removeAt_46 : decode cX5_removeAt 46 = .ok (.iinc 3 1, 3) := by decide +kernel
theorem dX5_removeAt_49 : decode cX5_removeAt 49 = .ok (.goto (-27), 3) := by decide +kernel
theorem dX5_removeAt_52 : decode cX5_removeAt 52 = .ok (.aload_n 0, 1) := by decide +kernel
theorem dX5_removeAt_53 : decode cX5_removeAt 53 = .ok (.dup, 1) := by decide +kernel
theorem dX5_removeAt_54 : decode cX5_removeAt 54 = .ok (.getfield 21, 3) := by decide +kernel
theorem dX5_removeAt_57 : decode cX5_removeAt 57 = .ok (.iconst 1, 1) := by decide +kernel
theorem dX5_removeAt_58 : decode cX5_removeAt 58 = .ok (.isub, 1) := by decide +kernel
theorem dX5_removeAt_59 : decode cX5_removeAt 59 = .ok (.putfield 21, 3) := by decide +kernel
theorem dX5_removeAt_62 : decode cX5_removeAt 62 = .ok (.aload_n 0, 1) := by decide +kernel
theorem dX5_removeAt_63 : decode cX5_removeAt 63 = .ok (.getfield 17, 3) := by decide +kernel
theorem dX5_removeAt_66 : decode cX5_removeAt 66 = .ok (.aload_n 0, 1) := by decide +kernel
theorem dX5_removeAt_67 : decode cX5_removeAt 67 = .ok (.getfield 21, 3) := by decide +kernel
theorem dX5_removeAt_70 : decode cX5_removeAt 70 = .ok (.aload_n 2, 1) := by decide +kernel
theorem dX5_removeAt_71 : decode cX5_removeAt 71 = .ok (.aastore, 1) := by decide +kernel
theorem dX5_removeAt_72 : decode cX5_removeAt 72 = .ok (.return_, 1) := by decide +kernel
theorem dX5_removeAll_0 : decode cX5_removeAll 0 = .ok (.iconst 0, 1) := by decide +kernel
theorem dX5_removeAll_1 : decode cX5_removeAll 1 = .ok (.istore_n 2, 1) := by decide +kernel
theorem dX5_removeAll_2 : decode cX5_removeAll 2 = .ok (.aload_n 0, 1) := by decide +kernel
theorem dX5_removeAll_3 : decode cX5_removeAll 3 = .ok (.getfield 21, 3) := by decide +kernel
theorem dX5_removeAll_6 : decode cX5_removeAll 6 = .ok (.iconst 1, 1) := by decide +kernel
theorem dX5_removeAll_7 : decode cX5_removeAll 7 = .ok (.isub, 1) := by decide +kernel
theorem dX5_removeAll_8 : decode cX5_removeAll 8 = .ok (.istore_n 3, 1) := by decide +kernel
theorem dX5_removeAll_9 : decode cX5_removeAll 9 = .ok (.iload_n 3, 1) := by decide +kernel
theorem dX5_removeAll_10 : decode cX5_removeAll 10 = .ok (.ifCond .lt 30, 3) := by decide +kernel
theorem dX5_removeAll_13 : decode cX5_removeAll 13 = .ok (.aload_n 0, 1) := by decide +kernel
theorem dX5_removeAll_14 : decode cX5_removeAll 14 = .ok (.getfield 17, 3) := by decide +kernel
theorem dX5_removeAll_17 : decode cX5_removeAll 17 = .ok (.iload_n 3, 1) := by decide +kernel
theorem dX5_removeAll_18 : decode cX5_removeAll 18 = .ok (.aaload, 1) := by decide +kernel
theorem dX5_removeAll_19 : decode cX5_removeAll 19 = .ok (.getfield 54, 3) := by decide +kernel
theorem dX5_removeAll_22 : decode cX5_removeAll 22 = .ok (.iload_n 1, 1) := by decide +kernel
theorem dX5_removeAll_23 : decode cX5_removeAll 23 = .ok (.if_icmp .ne 11, 3) := by decide +kernel
theorem dX5_removeAll_26 : decode cX5_removeAll 26 = .ok (.aload_n 0, 1) := by decide +kernel
theorem dX5_removeAll_27 : decode cX5_removeAll 27 = .ok (.iload_n 3, 1) := by decide +kernel
theorem dX5_removeAll_28 : decode cX5_removeAll 28 = .ok (.invokevirtual 57, 3) := by decide +kernel
theorem dX5_removeAll_31 : decode cX5_removeAll 31 = .ok (.iinc 2 1, 3) := by decide +kernel
theorem dX5_removeAll_34 : decode cX5_removeAll 34 = .ok (.iinc 3 (-1), 3) := by decide +kernel
theorem dX5_removeAll_37 : decode cX5_removeAll 37 = .ok (.goto (-28), 3) := by decide +kernel
theorem dX5_removeAll_40 : decode cX5_removeAll 40 = .ok (.iload_n 2, 1) := by decide +kernel
theorem dX5_removeAll_41 : decode cX5_removeAll 41 = .ok (.ireturn, 1) := by decide +kernel
theorem dX5_kinds_0 : decode cX5_kinds 0 = .ok (.iconst 0, 1) := by decide +kernel
theorem dX5_kinds_1 : decode cX5_kinds 1 = .ok (.istore_n 1, 1) := by decide +kernel
theorem dX5_kinds_2 : decode cX5_kinds 2 = .ok (.iconst 0, 1) := by decide +kernel
theorem dX5_kinds_3 : decode cX5_kinds 3 = .ok (.istore_n 2, 1) := by decide +kernel
theorem dX5_kinds_4 : decode cX5_kinds 4 = .ok (.iload_n 2, 1) := by decide +kernel
theorem dX5_kinds_5 : decode cX5_kinds 5 = .ok (.aload_n 0, 1) := by decide +kernel
theorem dX5_kinds_6 : decode cX5_kinds 6 = .ok (.getfield 21, 3) := by decide +kernel
theorem dX5_kinds_9 : decode cX5_kinds 9 = .ok (.if_icmp .ge 23, 3) := by decide +kernel
theorem dX5_kinds_12 : decode cX5_kinds 12 = .ok (.iload_n 1, 1) := by decide +kernel
theorem dX5_kinds_13 : decode cX5_kinds 13 = .ok (.iconst 1, 1) := by decide +kernel
theorem dX5_kinds_14 : decode cX5_kinds 14 = .ok (.aload_n 0, 1) := by decide +kernel
theorem dX5_kinds_15 : decode cX5_kinds 15 = .ok (.getfield 17, 3) := by decide +kernel
theorem dX5_kinds_18 : decode cX5_kinds 18 = .ok (.iload_n 2, 1) := by decide +kernel
theorem dX5_kinds_19 : decode cX5_kinds 19 = .ok (.aaload, 1) := by decide +kernel
theorem dX5_kinds_20 : decode cX5_kinds 20 = .ok (.getfield 54, 3) := by decide +kernel
theorem dX5_kinds_23 : decode cX5_kinds 23 = .ok (.ishl, 1) := by decide +kernel
theorem dX5_kinds_24 : decode cX5_kinds 24 = .ok (.ior, 1) := by decide +kernel
theorem dX5_kinds_25 : decode cX5_kinds 25 = .ok (.istore_n 1, 1) := by decide +kernel
theorem dX5_kinds_26 : decode cX5_kinds 26 = .ok (.iinc 2 1, 3) := by decide +kernel
theorem dX5_kinds_29 : decode cX5_kinds 29 = .ok (.goto (-25), 3) := by decide +kernel
theorem dX5_kinds_32 : decode cX5_kinds 32 = .ok (.iload_n 1, 1) := by decide +kernel
theorem dX5_kinds_33 : decode cX5_kinds 33 = .ok (.ireturn, 1) := by decide +kernel
theorem dX5_remaining_0 : decode cX5_remaining 0 = .ok (.aload_n 0, 1) := by decide +kernel
theorem dX5_remaining_1 : decode cX5_remaining 1 = .ok (.getfield 30, 3) := by decide +kernel
theorem dX5_remaining_4 : decode cX5_remaining 4 = .ok (.ifCond .eq 13, 3) := by decide +kernel
theorem dX5_remaining_7 : decode cX5_remaining 7 = .ok (.aload_n 0, 1) := by decide +kernel
theorem dX5_remaining_8 : decode cX5_remaining 8 = .ok (.getfield 26, 3) := by decide +kernel
theorem dX5_remaining_11 : decode cX5_remaining 11 = .ok (.invokevirtual 61, 3) := by decide +kernel
theorem dX5_remaining_14 : decode cX5_remaining 14 = .ok (.goto 4, 3) := by decide +kernel
theorem dX5_remaining_17 : decode cX5_remaining 17 = .ok (.iconst 0, 1) := by decide +kernel
theorem dX5_remaining_18 : decode cX5_remaining 18 = .ok (.istore_n 1, 1) := by decide +kernel
theorem dX5_remaining_19 : decode cX5_remaining 19 = .ok (.iconst 0, 1) := by decide +kernel
theorem dX5_remaining_20 : decode cX5_remaining 20 = .ok (.istore_n 2, 1) := by decide +kernel
theorem dX5_remaining_21 : decode cX5_remaining 21 = .ok (.iload_n 2, 1) := by decide +kernel
theorem dX5_remaining_22 : decode cX5_remaining 22 = .ok (.aload_n 0, 1) := by decide +kernel
theorem dX5_remaining_23 : decode cX5_remaining 23 = .ok (.getfield 21, 3) := by decide +kernel
theorem dX5_remaining_26 : decode cX5_remaining 26 = .ok (.if_icmp .ge 21, 3) := by decide +kernel
theorem dX5_remaining_29 : decode cX5_remaining 29 = .ok (.iload_n 1, 1) := by decide +kernel
theorem dX5_remaining_30 : decode cX5_remaining 30 = .ok (.aload_n 0, 1) := by decide +kernel
theorem dX5_remaining_31 : decode cX5_remaining 31 = .ok (.getfield 17, 3) := by decide +kernel
theorem dX5_remaining_34 : decode cX5_remaining 34 = .ok (.iload_n 2, 1) := by decide +kernel
theorem dX5_remaining_35 : decode cX5_remaining 35 = .ok (.aaload, 1) := by decide +kernel
theorem dX5_remaining_36 : decode cX5_remaining 36 = .ok (.invokevirtual 61, 3) := by decide +kernel
theorem dX5_remaining_39 : decode cX5_remaining 39 = .ok (.iadd, 1) := by decide +kernel
theorem dX5_remaining_40 : decode cX5_remaining 40 = .ok (.istore_n 1, 1) := by decide +kernel
theorem dX5_remaining_41 : decode cX5_remaining 41 = .ok (.iinc 2 1, 3) := by decide +kernel
theorem dX5_remaining_44 : decode cX5_remaining 44 = .ok (.goto (-23), 3) := by decide +kernel
theorem dX5_remaining_47 : decode cX5_remaining 47 = .ok (.iload_n 1, 1) := by decide +kernel
theorem dX5_remaining_48 : decode cX5_remaining 48 = .ok (.ireturn, 1) := by decide +kernel
theorem dX6_init_0 : decode cX6_init 0 = .ok (.aload_n 0, 1) := by decide +kernel
theorem dX6_init_1 : decode cX6_init 1 = .ok (.invokespecial 3, 3) := by decide +kernel
theorem dX6_init_4 : decode cX6_init 4 = .ok (.aload_n 0, 1) := by decide +kernel
theorem dX6_init_5 : decode cX6_init 5 = .ok (.new 9, 3) := by decide +kernel
theorem dX6_init_8 : decode cX6_init 8 = .ok (.dup, 1) := by decide +kernel
theorem dX6_init_9 : decode cX6_init 9 = .ok (.invokespecial 11, 3) := by decide +kernel
theorem dX6_init_12 : decode cX6_init 12 = .ok (.putfield 12, 3) := by decide +kernel
theorem dX6_init_15 : decode cX6_init 15 = .ok (.aload_n 0, 1) := by decide +kernel
theorem dX6_init_16 : decode cX6_init 16 = .ok (.iconst 0, 1) := by decide +kernel
theorem dX6_init_17 : decode cX6_init 17 = .ok (.putfield 18, 3) := by decide +kernel
theorem dX6_init_20 : decode cX6_init 20 = .ok (.aload_n 0, 1) := by decide +kernel
theorem dX6_init_21 : decode cX6_init 21 = .ok (.iconst 0, 1) := by decide +kernel
theorem dX6_init_22 : decode cX6_init 22 = .ok (.putfield 22, 3) := by decide +kernel
theorem dX6_init_25 : decode cX6_init 25 = .ok (.aload_n 0, 1) := by decide +kernel
theorem dX6_init_26 : decode cX6_init 26 = .ok (.iconst 3, 1) := by decide +kernel
theorem dX6_init_27 : decode cX6_init 27 = .ok (.newarray .int, 2) := by decide +kernel
theorem dX6_init_29 : decode cX6_init 29 = .ok (.putfield 26, 3) := by decide +kernel
theorem dX6_init_32 : decode cX6_init 32 = .ok (.aload_n 0, 1) := by decide +kernel
theorem dX6_init_33 : decode cX6_init 33 = .ok (.iconst 3, 1) := by decide +kernel
theorem dX6_init_34 : decode cX6_init 34 = .ok (.newarray .int, 2) := by decide +kernel
theorem dX6_init_36 : decode cX6_init 36 = .ok (.putfield 30, 3) := by decide +kernel
theorem dX6_init_39 : decode cX6_init 39 = .ok (.aload_n 0, 1) := by decide +kernel
theorem dX6_init_40 : decode cX6_init 40 = .ok (.aload_n 1, 1) := by decide +kernel
theorem dX6_init_41 : decode cX6_init 41 = .ok (.putfield 33, 3) := by decide +kernel
theorem dX6_init_44 : decode cX6_init 44 = .ok (.return_, 1) := by decide +kernel
theorem dX6_begin_0 : decode cX6_begin 0 = .ok (.aload_n 0, 1) := by decide +kernel
theorem dX6_begin_1 : decode cX6_begin 1 = .ok (.getfield 12, 3) := by decide +kernel
theorem dX6_begin_4 : decode cX6_begin 4 = .ok (.aload_n 0, 1) := by decide +kernel
theorem dX6_begin_5 : decode cX6_begin 5 = .ok (.getfield 33, 3) := by decide +kernel
theorem dX6_begin_8 : decode cX6_begin 8 = .ok (.getfield 37, 3) := by decide +kernel
theorem dX6_begin_11 : decode cX6_begin 11 = .ok (.invokevirtual 40, 3) := by decide +kernel
theorem dX6_begin_14 : decode cX6_begin 14 = .ok (.aload_n 0, 1) := by decide +kernel
